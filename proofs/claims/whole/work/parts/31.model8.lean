/-! ===== the model's digest ===== -/
def cM (w : Nat) (wm pq : Nat → Int32) (D : Nat → Option Nat) (c : Nat) : List Int32 :=
  [if wm c = 0 then 0 else 1, pq c, oI (ftc D (k7 w c)), nI (ct (fun f => (fwt D (k7 w c) (f + 1)).isSome) 6)]
abbrev tX4_digest : aTl := fun av X post => ∃ (wl : Nat → Int32) (th rm pm ic it iv ie rc : Int32) (k tt w h : Nat) (wm pq co pa fa ce ts ns es on nx : Nat → Int32), av = [.ref 0] ∧ X = MW th (nI w) (nI h) rm pm (nI (cm w k)) (nI (tt / 6 + 1)) (nI (tt % 6 + 1)) (nI (eoN tt)) ic it iv ie rc wm pq co pa fa ce ts ns es on nx ∧ 2 ≤ w ∧ w ≤ 7 ∧ 2 ≤ h ∧ h ≤ 7 ∧ RW w h wl wm ∧ frN w h wl k ∧ vt tt = true ∧
  ∀ (ic2 it2 iv2 ie2 rc2 : Int32) (fa2 ce2 ts2 ns2 es2 : Nat → Int32), post (jc (cM w wm pq (fin (nbF w h wl) 1764 [k * 36 + tt]).2) (jf co pa (jl 1901 (dgH k tt w h (ct (fun c => decide (¬ wm c = 0)) (w * h)) rm pm)) 6) (w * h)) (MW 0 (nI w) (nI h) rm pm (nI (cm w k)) (nI (tt / 6 + 1)) (nI (tt % 6 + 1)) (nI (eoN tt)) ic2 it2 iv2 ie2 rc2 wm pq co pa fa2 ce2 ts2 ns2 es2 on nx)
abbrev rmX4_digest : Room := { frames := 4, cells := 1, slots := 13, locals := 91 }
theorem inX4_digest_X4 : ∀ w ∈ wsX40, w ∈ wsX4_digest := by decide +kernel
def tbX4_digest (post : Int64 → List aE → Prop) (ad0 : Nat → Nat) : List (Nat × aO) := [(0, oAL 0 1),
  (1, oC (0) 2),
  (2, oPut 3 0 5),
  (5, oC (13) 7),
  (7, oNwI 13 rmX4_digest.cells rmX4_digest.slots 9),
  (9, oDup 10),
  (10, oC (0) 11),
  (11, oAL 0 12),
  (12, oGet 3 1 15),
  (15, oIast 16),
  (16, oDup 17),
  (17, oC (1) 18),
  (18, oAL 0 19),
  (19, oGet 3 2 22),
  (22, oIast 23),
  (23, oDup 24),
  (24, oC (2) 25),
  (25, oAL 0 26),
  (26, oFi 0 tX4_wallsThere 1 (some 3) rmX4_wallsThere.cells rmX4_wallsThere.slots rmX4_digest.cells rmX4_digest.slots 29),
  (29, oIast 30),
  (30, oDup 31),
  (31, oC (3) 32),
  (32, oAL 0 33),
  (33, oGet 3 7 36),
  (36, oIast 37),
  (37, oDup 38),
  (38, oC (4) 39),
  (39, oAL 0 40),
  (40, oGet 3 8 43),
  (43, oIast 44),
  (44, oDup 45),
  (45, oC (5) 46),
  (46, oAL 0 47),
  (47, oGet 3 9 50),
  (50, oAL 0 51),
  (51, oGet 3 1 54),
  (54, oIrem 55),
  (55, oIast 56),
  (56, oDup 57),
  (57, oC (6) 59),
  (59, oAL 0 60),
  (60, oGet 3 9 63),
  (63, oAL 0 64),
  (64, oGet 3 1 67),
  (67, oIdiv 68),
  (68, oIast 69),
  (69, oDup 70),
  (70, oC (7) 72),
  (72, oAL 0 73),
  (73, oGet 3 10 76),
  (76, oIast 77),
  (77, oDup 78),
  (78, oC (8) 80),
  (80, oC (7) 82),
  (82, oAL 0 83),
  (83, oGet 3 10 86),
  (86, oIsub 87),
  (87, oIast 88),
  (88, oDup 89),
  (89, oC (9) 91),
  (91, oAL 0 92),
  (92, oC (0) 93),
  (93, oFi 0 tX4_side 2 (some 3) rmX4_side.cells rmX4_side.slots rmX4_digest.cells rmX4_digest.slots 96),
  (96, oIast 97),
  (97, oDup 98),
  (98, oC (10) 100),
  (100, oAL 0 101),
  (101, oC (1) 102),
  (102, oFi 0 tX4_side 2 (some 3) rmX4_side.cells rmX4_side.slots rmX4_digest.cells rmX4_digest.slots 105),
  (105, oIast 106),
  (106, oDup 107),
  (107, oC (11) 109),
  (109, oAL 0 110),
  (110, oC (2) 111),
  (111, oFi 0 tX4_side 2 (some 3) rmX4_side.cells rmX4_side.slots rmX4_digest.cells rmX4_digest.slots 114),
  (114, oIast 115),
  (115, oDup 116),
  (116, oC (12) 118),
  (118, oAL 0 119),
  (119, oC (3) 120),
  (120, oFi 0 tX4_side 2 (some 3) rmX4_side.cells rmX4_side.slots rmX4_digest.cells rmX4_digest.slots 123),
  (123, oIast 124),
  (124, oAS 1 125),
  (125, oCL 1901 128),
  (128, oLS 2 129),
  (129, oAL 1 130),
  (130, oAS 4 132),
  (132, oAL 4 134),
  (134, oAlen 135),
  (135, oIS 5 137),
  (137, oC (0) 138),
  (138, oIS 6 140),
  (140, oIL 6 142),
  (142, oIL 5 144),
  (144, oIc_ge 170 147),
  (147, oAL 4 149),
  (149, oIL 6 151),
  (151, oIald 152),
  (152, oIS 7 154),
  (154, oLL 2 155),
  (155, oCL 31 158),
  (158, oLmul 159),
  (159, oIL 7 161),
  (161, oI2l 162),
  (162, oLadd 163),
  (163, oLS 2 164),
  (164, oInc 6 1 167),
  (167, oGo 140),
  (170, oC (1) 171),
  (171, oIS 4 173),
  (173, oIL 4 175),
  (175, oC (6) 177),
  (177, oIc_gt 214 180),
  (180, oLL 2 181),
  (181, oCL 31 184),
  (184, oLmul 185),
  (185, oAL 0 186),
  (186, oGet 3 5 189),
  (189, oIL 4 191),
  (191, oIald 192),
  (192, oI2l 193),
  (193, oLadd 194),
  (194, oCL 31 197),
  (197, oLmul 198),
  (198, oAL 0 199),
  (199, oGet 3 6 202),
  (202, oIL 4 204),
  (204, oIald 205),
  (205, oI2l 206),
  (206, oLadd 207),
  (207, oLS 2 208),
  (208, oInc 4 1 211),
  (211, oGo 173),
  (214, oAL 0 215),
  (215, oFv 0 tX4_look 1 (some 3) rmX4_look.cells rmX4_look.slots rmX4_digest.cells rmX4_digest.slots 218),
  (218, oAL 0 219),
  (219, oFv 0 tX4_spread 1 (some 3) rmX4_spread.cells rmX4_spread.slots rmX4_digest.cells rmX4_digest.slots 222),
  (222, oC (0) 223),
  (223, oIS 4 225),
  (225, oIL 4 227),
  (227, oAL 0 228),
  (228, oGet 3 1 231),
  (231, oAL 0 232),
  (232, oGet 3 2 235),
  (235, oImul 236),
  (236, oIc_ge 308 239),
  (239, oLL 2 240),
  (240, oCL 31 243),
  (243, oLmul 244),
  (244, oAL 0 245),
  (245, oGet 3 3 248),
  (248, oIL 4 250),
  (250, oZald 251),
  (251, oIf_eq 258 254),
  (254, oC (1) 255),
  (255, oGo 259),
  (258, oC (0) 259),
  (259, oI2l 260),
  (260, oLadd 261),
  (261, oCL 31 264),
  (264, oLmul 265),
  (265, oAL 0 266),
  (266, oGet 3 4 269),
  (269, oIL 4 271),
  (271, oIald 272),
  (272, oI2l 273),
  (273, oLadd 274),
  (274, oLS 2 275),
  (275, oLL 2 276),
  (276, oCL 31 279),
  (279, oLmul 280),
  (280, oAL 0 281),
  (281, oIL 4 283),
  (283, oC (0) 284),
  (284, oFi 0 tX4_fewestTo 3 (some 3) rmX4_fewestTo.cells rmX4_fewestTo.slots rmX4_digest.cells rmX4_digest.slots 287),
  (287, oI2l 288),
  (288, oLadd 289),
  (289, oCL 31 292),
  (292, oLmul 293),
  (293, oAL 0 294),
  (294, oIL 4 296),
  (296, oFi 0 tX4_topsOn 2 (some 3) rmX4_topsOn.cells rmX4_topsOn.slots rmX4_digest.cells rmX4_digest.slots 299),
  (299, oI2l 300),
  (300, oLadd 301),
  (301, oLS 2 302),
  (302, oInc 4 1 305),
  (305, oGo 225),
  (308, oLL 2 309),
  (309, oRlD post ad0 rmX4_digest.cells rmX4_digest.slots)]
set_option maxRecDepth 20000 in
theorem okX4_digest {Γ : aΓ} {post : Int64 → List aE → Prop} {ad0 : Nat → Nat} {X0 : List aE} (C : FOK Γ cX4_digest wsX4_digest RX4 8 rmX4_digest) (hQ : isQ Γ (va_Ql post (aBk (gK Γ) ad0 X0 (hsz Γ)) (aA (gK Γ) ad0 X0 (hsz Γ))) rmX4_digest ad0 X0) (hr : rTy Γ = some .long) : AllS Γ (tbX4_digest post ad0) := by
  unfold tbX4_digest
  refine al_c (pc := 0) (snd_aload_n C dX4_digest_0 rfl) ?_
  refine al_c (pc := 1) (snd_iconst C dX4_digest_1 (by decide)) ?_
  refine al_c (pc := 2) (snd_put C dX4_digest_2 (ci := 3) (kf := 0) rfl (by decide) inX4_digest_X4 tyX4_ok nmX4 rfl rfl rfl (by decide +kernel)) ?_
  refine al_c (pc := 5) (snd_bipush C dX4_digest_5 (by decide)) ?_
  refine al_c (pc := 7) (snd_NwI C (N := 13) (by decide) dX4_digest_7 (by decide +kernel)) ?_
  refine al_c (pc := 9) (snd_dup C dX4_digest_9) ?_
  refine al_c (pc := 10) (snd_iconst C dX4_digest_10 (by decide)) ?_
  refine al_c (pc := 11) (snd_aload_n C dX4_digest_11 rfl) ?_
  refine al_c (pc := 12) (snd_get C dX4_digest_12 (ci := 3) (kf := 1) rfl (by decide) inX4_digest_X4 rfl (by decide +kernel)) ?_
  refine al_c (pc := 15) (snd_iastore C dX4_digest_15) ?_
  refine al_c (pc := 16) (snd_dup C dX4_digest_16) ?_
  refine al_c (pc := 17) (snd_iconst C dX4_digest_17 (by decide)) ?_
  refine al_c (pc := 18) (snd_aload_n C dX4_digest_18 rfl) ?_
  refine al_c (pc := 19) (snd_get C dX4_digest_19 (ci := 3) (kf := 2) rfl (by decide) inX4_digest_X4 rfl (by decide +kernel)) ?_
  refine al_c (pc := 22) (snd_iastore C dX4_digest_22) ?_
  refine al_c (pc := 23) (snd_dup C dX4_digest_23) ?_
  refine al_c (pc := 24) (snd_iconst C dX4_digest_24 (by decide)) ?_
  refine al_c (pc := 25) (snd_aload_n C dX4_digest_25 rfl) ?_
  refine al_c (pc := 26) (snd_Fi 0 C (site_V C rfl dX4_digest_26 gX4_digest_X4_wallsThere rfl rfl rfl ⟨rfl, by decide +kernel, by decide +kernel, by decide +kernel⟩ ⟨by decide, by decide⟩) mX4_wallsThere) ?_
  refine al_c (pc := 29) (snd_iastore C dX4_digest_29) ?_
  refine al_c (pc := 30) (snd_dup C dX4_digest_30) ?_
  refine al_c (pc := 31) (snd_iconst C dX4_digest_31 (by decide)) ?_
  refine al_c (pc := 32) (snd_aload_n C dX4_digest_32 rfl) ?_
  refine al_c (pc := 33) (snd_get C dX4_digest_33 (ci := 3) (kf := 7) rfl (by decide) inX4_digest_X4 rfl (by decide +kernel)) ?_
  refine al_c (pc := 36) (snd_iastore C dX4_digest_36) ?_
  refine al_c (pc := 37) (snd_dup C dX4_digest_37) ?_
  refine al_c (pc := 38) (snd_iconst C dX4_digest_38 (by decide)) ?_
  refine al_c (pc := 39) (snd_aload_n C dX4_digest_39 rfl) ?_
  refine al_c (pc := 40) (snd_get C dX4_digest_40 (ci := 3) (kf := 8) rfl (by decide) inX4_digest_X4 rfl (by decide +kernel)) ?_
  refine al_c (pc := 43) (snd_iastore C dX4_digest_43) ?_
  refine al_c (pc := 44) (snd_dup C dX4_digest_44) ?_
  refine al_c (pc := 45) (snd_iconst C dX4_digest_45 (by decide)) ?_
  refine al_c (pc := 46) (snd_aload_n C dX4_digest_46 rfl) ?_
  refine al_c (pc := 47) (snd_get C dX4_digest_47 (ci := 3) (kf := 9) rfl (by decide) inX4_digest_X4 rfl (by decide +kernel)) ?_
  refine al_c (pc := 50) (snd_aload_n C dX4_digest_50 rfl) ?_
  refine al_c (pc := 51) (snd_get C dX4_digest_51 (ci := 3) (kf := 1) rfl (by decide) inX4_digest_X4 rfl (by decide +kernel)) ?_
  refine al_c (pc := 54) (snd_irem C dX4_digest_54) ?_
  refine al_c (pc := 55) (snd_iastore C dX4_digest_55) ?_
  refine al_c (pc := 56) (snd_dup C dX4_digest_56) ?_
  refine al_c (pc := 57) (snd_bipush C dX4_digest_57 (by decide)) ?_
  refine al_c (pc := 59) (snd_aload_n C dX4_digest_59 rfl) ?_
  refine al_c (pc := 60) (snd_get C dX4_digest_60 (ci := 3) (kf := 9) rfl (by decide) inX4_digest_X4 rfl (by decide +kernel)) ?_
  refine al_c (pc := 63) (snd_aload_n C dX4_digest_63 rfl) ?_
  refine al_c (pc := 64) (snd_get C dX4_digest_64 (ci := 3) (kf := 1) rfl (by decide) inX4_digest_X4 rfl (by decide +kernel)) ?_
  refine al_c (pc := 67) (snd_idiv C dX4_digest_67) ?_
  refine al_c (pc := 68) (snd_iastore C dX4_digest_68) ?_
  refine al_c (pc := 69) (snd_dup C dX4_digest_69) ?_
  refine al_c (pc := 70) (snd_bipush C dX4_digest_70 (by decide)) ?_
  refine al_c (pc := 72) (snd_aload_n C dX4_digest_72 rfl) ?_
  refine al_c (pc := 73) (snd_get C dX4_digest_73 (ci := 3) (kf := 10) rfl (by decide) inX4_digest_X4 rfl (by decide +kernel)) ?_
  refine al_c (pc := 76) (snd_iastore C dX4_digest_76) ?_
  refine al_c (pc := 77) (snd_dup C dX4_digest_77) ?_
  refine al_c (pc := 78) (snd_bipush C dX4_digest_78 (by decide)) ?_
  refine al_c (pc := 80) (snd_bipush C dX4_digest_80 (by decide)) ?_
  refine al_c (pc := 82) (snd_aload_n C dX4_digest_82 rfl) ?_
  refine al_c (pc := 83) (snd_get C dX4_digest_83 (ci := 3) (kf := 10) rfl (by decide) inX4_digest_X4 rfl (by decide +kernel)) ?_
  refine al_c (pc := 86) (snd_isub C dX4_digest_86) ?_
  refine al_c (pc := 87) (snd_iastore C dX4_digest_87) ?_
  refine al_c (pc := 88) (snd_dup C dX4_digest_88) ?_
  refine al_c (pc := 89) (snd_bipush C dX4_digest_89 (by decide)) ?_
  refine al_c (pc := 91) (snd_aload_n C dX4_digest_91 rfl) ?_
  refine al_c (pc := 92) (snd_iconst C dX4_digest_92 (by decide)) ?_
  refine al_c (pc := 93) (snd_Fi 0 C (site_V C rfl dX4_digest_93 gX4_digest_X4_side rfl rfl rfl ⟨rfl, by decide +kernel, by decide +kernel, by decide +kernel⟩ ⟨by decide, by decide⟩) mX4_side) ?_
  refine al_c (pc := 96) (snd_iastore C dX4_digest_96) ?_
  refine al_c (pc := 97) (snd_dup C dX4_digest_97) ?_
  refine al_c (pc := 98) (snd_bipush C dX4_digest_98 (by decide)) ?_
  refine al_c (pc := 100) (snd_aload_n C dX4_digest_100 rfl) ?_
  refine al_c (pc := 101) (snd_iconst C dX4_digest_101 (by decide)) ?_
  refine al_c (pc := 102) (snd_Fi 0 C (site_V C rfl dX4_digest_102 gX4_digest_X4_side rfl rfl rfl ⟨rfl, by decide +kernel, by decide +kernel, by decide +kernel⟩ ⟨by decide, by decide⟩) mX4_side) ?_
  refine al_c (pc := 105) (snd_iastore C dX4_digest_105) ?_
  refine al_c (pc := 106) (snd_dup C dX4_digest_106) ?_
  refine al_c (pc := 107) (snd_bipush C dX4_digest_107 (by decide)) ?_
  refine al_c (pc := 109) (snd_aload_n C dX4_digest_109 rfl) ?_
  refine al_c (pc := 110) (snd_iconst C dX4_digest_110 (by decide)) ?_
  refine al_c (pc := 111) (snd_Fi 0 C (site_V C rfl dX4_digest_111 gX4_digest_X4_side rfl rfl rfl ⟨rfl, by decide +kernel, by decide +kernel, by decide +kernel⟩ ⟨by decide, by decide⟩) mX4_side) ?_
  refine al_c (pc := 114) (snd_iastore C dX4_digest_114) ?_
  refine al_c (pc := 115) (snd_dup C dX4_digest_115) ?_
  refine al_c (pc := 116) (snd_bipush C dX4_digest_116 (by decide)) ?_
  refine al_c (pc := 118) (snd_aload_n C dX4_digest_118 rfl) ?_
  refine al_c (pc := 119) (snd_iconst C dX4_digest_119 (by decide)) ?_
  refine al_c (pc := 120) (snd_Fi 0 C (site_V C rfl dX4_digest_120 gX4_digest_X4_side rfl rfl rfl ⟨rfl, by decide +kernel, by decide +kernel, by decide +kernel⟩ ⟨by decide, by decide⟩) mX4_side) ?_
  refine al_c (pc := 123) (snd_iastore C dX4_digest_123) ?_
  refine al_c (pc := 124) (snd_astore_n C dX4_digest_124 rfl (by decide)) ?_
  refine al_c (pc := 125) (snd_ldc2 C dX4_digest_125 (by decide +kernel)) ?_
  refine al_c (pc := 128) (snd_lstore_n C dX4_digest_128 rfl (by decide)) ?_
  refine al_c (pc := 129) (snd_aload_n C dX4_digest_129 rfl) ?_
  refine al_c (pc := 130) (snd_astore C dX4_digest_130 (by decide)) ?_
  refine al_c (pc := 132) (snd_aload C dX4_digest_132) ?_
  refine al_c (pc := 134) (snd_alen C dX4_digest_134) ?_
  refine al_c (pc := 135) (snd_istore C dX4_digest_135 (by decide)) ?_
  refine al_c (pc := 137) (snd_iconst C dX4_digest_137 (by decide)) ?_
  refine al_c (pc := 138) (snd_istore C dX4_digest_138 (by decide)) ?_
  refine al_c (pc := 140) (snd_iload C dX4_digest_140) ?_
  refine al_c (pc := 142) (snd_iload C dX4_digest_142) ?_
  refine al_c (pc := 144) (snd_icmp_ge C dX4_digest_144 (by decide)) ?_
  refine al_c (pc := 147) (snd_aload C dX4_digest_147) ?_
  refine al_c (pc := 149) (snd_iload C dX4_digest_149) ?_
  refine al_c (pc := 151) (snd_iaload C dX4_digest_151) ?_
  refine al_c (pc := 152) (snd_istore C dX4_digest_152 (by decide)) ?_
  refine al_c (pc := 154) (snd_lload_n C dX4_digest_154 rfl) ?_
  refine al_c (pc := 155) (snd_ldc2 C dX4_digest_155 (by decide +kernel)) ?_
  refine al_c (pc := 158) (snd_lmul C dX4_digest_158) ?_
  refine al_c (pc := 159) (snd_iload C dX4_digest_159) ?_
  refine al_c (pc := 161) (snd_i2l C dX4_digest_161) ?_
  refine al_c (pc := 162) (snd_ladd C dX4_digest_162) ?_
  refine al_c (pc := 163) (snd_lstore_n C dX4_digest_163 rfl (by decide)) ?_
  refine al_c (pc := 164) (snd_iinc C dX4_digest_164 (by decide) (by decide)) ?_
  refine al_c (pc := 167) (snd_goto C dX4_digest_167 (by decide)) ?_
  refine al_c (pc := 170) (snd_iconst C dX4_digest_170 (by decide)) ?_
  refine al_c (pc := 171) (snd_istore C dX4_digest_171 (by decide)) ?_
  refine al_c (pc := 173) (snd_iload C dX4_digest_173) ?_
  refine al_c (pc := 175) (snd_bipush C dX4_digest_175 (by decide)) ?_
  refine al_c (pc := 177) (snd_icmp_gt C dX4_digest_177 (by decide)) ?_
  refine al_c (pc := 180) (snd_lload_n C dX4_digest_180 rfl) ?_
  refine al_c (pc := 181) (snd_ldc2 C dX4_digest_181 (by decide +kernel)) ?_
  refine al_c (pc := 184) (snd_lmul C dX4_digest_184) ?_
  refine al_c (pc := 185) (snd_aload_n C dX4_digest_185 rfl) ?_
  refine al_c (pc := 186) (snd_get C dX4_digest_186 (ci := 3) (kf := 5) rfl (by decide) inX4_digest_X4 rfl (by decide +kernel)) ?_
  refine al_c (pc := 189) (snd_iload C dX4_digest_189) ?_
  refine al_c (pc := 191) (snd_iaload C dX4_digest_191) ?_
  refine al_c (pc := 192) (snd_i2l C dX4_digest_192) ?_
  refine al_c (pc := 193) (snd_ladd C dX4_digest_193) ?_
  refine al_c (pc := 194) (snd_ldc2 C dX4_digest_194 (by decide +kernel)) ?_
  refine al_c (pc := 197) (snd_lmul C dX4_digest_197) ?_
  refine al_c (pc := 198) (snd_aload_n C dX4_digest_198 rfl) ?_
  refine al_c (pc := 199) (snd_get C dX4_digest_199 (ci := 3) (kf := 6) rfl (by decide) inX4_digest_X4 rfl (by decide +kernel)) ?_
  refine al_c (pc := 202) (snd_iload C dX4_digest_202) ?_
  refine al_c (pc := 204) (snd_iaload C dX4_digest_204) ?_
  refine al_c (pc := 205) (snd_i2l C dX4_digest_205) ?_
  refine al_c (pc := 206) (snd_ladd C dX4_digest_206) ?_
  refine al_c (pc := 207) (snd_lstore_n C dX4_digest_207 rfl (by decide)) ?_
  refine al_c (pc := 208) (snd_iinc C dX4_digest_208 (by decide) (by decide)) ?_
  refine al_c (pc := 211) (snd_goto C dX4_digest_211 (by decide)) ?_
  refine al_c (pc := 214) (snd_aload_n C dX4_digest_214 rfl) ?_
  refine al_c (pc := 215) (snd_Fv 0 C (site_V C rfl dX4_digest_215 gX4_digest_X4_look rfl rfl rfl ⟨rfl, by decide +kernel, by decide +kernel, by decide +kernel⟩ ⟨by decide, by decide⟩) mX4_look) ?_
  refine al_c (pc := 218) (snd_aload_n C dX4_digest_218 rfl) ?_
  refine al_c (pc := 219) (snd_Fv 0 C (site_V C rfl dX4_digest_219 gX4_digest_X4_spread rfl rfl rfl ⟨rfl, by decide +kernel, by decide +kernel, by decide +kernel⟩ ⟨by decide, by decide⟩) mX4_spread) ?_
  refine al_c (pc := 222) (snd_iconst C dX4_digest_222 (by decide)) ?_
  refine al_c (pc := 223) (snd_istore C dX4_digest_223 (by decide)) ?_
  refine al_c (pc := 225) (snd_iload C dX4_digest_225) ?_
  refine al_c (pc := 227) (snd_aload_n C dX4_digest_227 rfl) ?_
  refine al_c (pc := 228) (snd_get C dX4_digest_228 (ci := 3) (kf := 1) rfl (by decide) inX4_digest_X4 rfl (by decide +kernel)) ?_
  refine al_c (pc := 231) (snd_aload_n C dX4_digest_231 rfl) ?_
  refine al_c (pc := 232) (snd_get C dX4_digest_232 (ci := 3) (kf := 2) rfl (by decide) inX4_digest_X4 rfl (by decide +kernel)) ?_
  refine al_c (pc := 235) (snd_imul C dX4_digest_235) ?_
  refine al_c (pc := 236) (snd_icmp_ge C dX4_digest_236 (by decide)) ?_
  refine al_c (pc := 239) (snd_lload_n C dX4_digest_239 rfl) ?_
  refine al_c (pc := 240) (snd_ldc2 C dX4_digest_240 (by decide +kernel)) ?_
  refine al_c (pc := 243) (snd_lmul C dX4_digest_243) ?_
  refine al_c (pc := 244) (snd_aload_n C dX4_digest_244 rfl) ?_
  refine al_c (pc := 245) (snd_get C dX4_digest_245 (ci := 3) (kf := 3) rfl (by decide) inX4_digest_X4 rfl (by decide +kernel)) ?_
  refine al_c (pc := 248) (snd_iload C dX4_digest_248) ?_
  refine al_c (pc := 250) (snd_baload C dX4_digest_250) ?_
  refine al_c (pc := 251) (snd_if_eq C dX4_digest_251 (by decide)) ?_
  refine al_c (pc := 254) (snd_iconst C dX4_digest_254 (by decide)) ?_
  refine al_c (pc := 255) (snd_goto C dX4_digest_255 (by decide)) ?_
  refine al_c (pc := 258) (snd_iconst C dX4_digest_258 (by decide)) ?_
  refine al_c (pc := 259) (snd_i2l C dX4_digest_259) ?_
  refine al_c (pc := 260) (snd_ladd C dX4_digest_260) ?_
  refine al_c (pc := 261) (snd_ldc2 C dX4_digest_261 (by decide +kernel)) ?_
  refine al_c (pc := 264) (snd_lmul C dX4_digest_264) ?_
  refine al_c (pc := 265) (snd_aload_n C dX4_digest_265 rfl) ?_
  refine al_c (pc := 266) (snd_get C dX4_digest_266 (ci := 3) (kf := 4) rfl (by decide) inX4_digest_X4 rfl (by decide +kernel)) ?_
  refine al_c (pc := 269) (snd_iload C dX4_digest_269) ?_
  refine al_c (pc := 271) (snd_iaload C dX4_digest_271) ?_
  refine al_c (pc := 272) (snd_i2l C dX4_digest_272) ?_
  refine al_c (pc := 273) (snd_ladd C dX4_digest_273) ?_
  refine al_c (pc := 274) (snd_lstore_n C dX4_digest_274 rfl (by decide)) ?_
  refine al_c (pc := 275) (snd_lload_n C dX4_digest_275 rfl) ?_
  refine al_c (pc := 276) (snd_ldc2 C dX4_digest_276 (by decide +kernel)) ?_
  refine al_c (pc := 279) (snd_lmul C dX4_digest_279) ?_
  refine al_c (pc := 280) (snd_aload_n C dX4_digest_280 rfl) ?_
  refine al_c (pc := 281) (snd_iload C dX4_digest_281) ?_
  refine al_c (pc := 283) (snd_iconst C dX4_digest_283 (by decide)) ?_
  refine al_c (pc := 284) (snd_Fi 0 C (site_V C rfl dX4_digest_284 gX4_digest_X4_fewestTo rfl rfl rfl ⟨rfl, by decide +kernel, by decide +kernel, by decide +kernel⟩ ⟨by decide, by decide⟩) mX4_fewestTo) ?_
  refine al_c (pc := 287) (snd_i2l C dX4_digest_287) ?_
  refine al_c (pc := 288) (snd_ladd C dX4_digest_288) ?_
  refine al_c (pc := 289) (snd_ldc2 C dX4_digest_289 (by decide +kernel)) ?_
  refine al_c (pc := 292) (snd_lmul C dX4_digest_292) ?_
  refine al_c (pc := 293) (snd_aload_n C dX4_digest_293 rfl) ?_
  refine al_c (pc := 294) (snd_iload C dX4_digest_294) ?_
  refine al_c (pc := 296) (snd_Fi 0 C (site_V C rfl dX4_digest_296 gX4_digest_X4_topsOn rfl rfl rfl ⟨rfl, by decide +kernel, by decide +kernel, by decide +kernel⟩ ⟨by decide, by decide⟩) mX4_topsOn) ?_
  refine al_c (pc := 299) (snd_i2l C dX4_digest_299) ?_
  refine al_c (pc := 300) (snd_ladd C dX4_digest_300) ?_
  refine al_c (pc := 301) (snd_lstore_n C dX4_digest_301 rfl (by decide)) ?_
  refine al_c (pc := 302) (snd_iinc C dX4_digest_302 (by decide) (by decide)) ?_
  refine al_c (pc := 305) (snd_goto C dX4_digest_305 (by decide)) ?_
  refine al_c (pc := 308) (snd_lload_n C dX4_digest_308 rfl) ?_
  refine al_c (pc := 309) (snd_RlD C hQ hr dX4_digest_309) ?_
  exact al_0
set_option maxHeartbeats 1000000 in
set_option maxRecDepth 100000 in
theorem mX4_digest : aMl yX4_digest wsX4_digest rmX4_digest tX4_digest := by
  refine aMl_of (by decide +kernel) rfl rfl (by intro av X post hT; obtain ⟨wl, th, rm, pm, ic, it, iv, ie, rc, k, tt, w, h, wm, pq, co, pa, fa, ce, ts, ns, es, on, nx, rfl, rfl, hw2, hw, hh2, hh, hRW, hfr, hv, hp⟩ := hT; exact Nat.le_of_ble_eq_true rfl) ?_
  intro Γ ad av X post C hQ hr hT
  obtain ⟨wl, th, rm, pm, ic, it, iv, ie, rc, k, tt, w, h, wm, pq, co, pa, fa, ce, ts, ns, es, on, nx, rfl, rfl, hw2, hw, hh2, hh, hRW, hfr, hv, hp⟩ := hT
  have OK := okX4_digest C hQ hr
  have hO := okQ_of (wl := wl) hw hh hv hfr
  have hwh := wh_le hw hh
  have hk1 := hfr.1
  have hk2 := hfr.2.1
  have hk49 := cm_lt hw hh hk1 hk2
  have ht := vt_lt hv
  have em : nI (cm w k) - nI (cm w k) / nI w * nI w = nI (k % 7) := by rw [pk_rem (a := cm w k) (d := w) (by omega) (by omega) (by omega), cm_mod hk1]
  have ed : nI (cm w k) / nI w = nI (k / 7) := by rw [pk_div (a := cm w k) (d := w) (by omega) (by omega) (by omega), cm_div hk1]
  have nz : ¬ nI w = 0 := nI_ne0 (by omega) (by omega)
  obtain ⟨D, hDe⟩ : ∃ D, D = fin (nbF w h wl) 1764 [k * 36 + tt] := ⟨_, rfl⟩
  rw [← hDe] at hp hO
  refine go OK [140] 200 ?_
  refine ⟨rfl, fun q => ?_⟩
  -- the cells
  have cells : ∀ (f : Nat → Int32) (d1 : Int64) (ic it iv ie rc : Int32) (fa ce ts ns es : Nat → Int32), RM w h D rc fa ce ts ns es → d1 = jf co pa (jl 1901 (dgH k tt w h (ct (fun c => decide (¬ wm c = 0)) (w * h)) rm pm)) 6 →
      ∀ (n c : Nat), c ≤ w * h → w * h - c < n → FG Γ 225 (adx ad 12 q) 1 13 [(4, .int (nI c)), (2, .long (jc (cM w wm pq D.2) d1 c)), (1, .ref 12), (0, .ref 0)] [] ([] ++ (MW 0 (nI w) (nI h) rm pm (nI (cm w k)) (nI (tt / 6 + 1)) (nI (tt % 6 + 1)) (nI (eoN tt)) ic it iv ie rc wm pq co pa fa ce ts ns es on nx).map (shE 0) ++ [.inl (false, 13, f)]) := by
    intro f d1 ic it iv ie rc fa ce ts ns es hR hd1 n
    induction n with
    | zero => intro c _ h; omega
    | succ n ih =>
      intro c hc hn
      refine go OK [225, 259] 100 ?_
      refine And.intro (fun z => ?_) (fun z => ?_)
      · have z : nI w * nI h ≤ nI c := z
        rw [mulI] at z
        have z := (leN (by omega) (by omega)).mp z
        have : c = w * h := by omega
        subst this
        subst hd1
        exact ⟨MW 0 (nI w) (nI h) rm pm (nI (cm w k)) (nI (tt / 6 + 1)) (nI (tt % 6 + 1)) (nI (eoN tt)) ic it iv ie rc wm pq co pa fa ce ts ns es on nx, _, q, rfl, rfl, rfl, hp _ _ _ _ _ _ _ _ _ _⟩
      · have hlt : c < w * h := by
          rcases Nat.lt_or_ge c (w * h) with y | y
          · exact y
          · exact absurd (show nI w * nI h ≤ nI c by rw [mulI]; exact (leN (by omega) (by omega)).mpr y) z
        obtain ⟨c1, c2, c3⟩ := cm_k7 (c := c) (by omega) hw
        have key := ih (c + 1) (by omega) (by omega)
        rw [← nI_p1 c] at key
        have e4 : jc (cM w wm pq D.2) d1 (c + 1) = jn (jn (jn (jn (jc (cM w wm pq D.2) d1 c) (if wm c = 0 then 0 else 1)) (pq c)) (oI (ftc D.2 (k7 w c)))) (nI (ct (fun f => (fwt D.2 (k7 w c) (f + 1)).isSome) 6)) := rfl
        rw [e4] at key
        have tail : ∀ y : Int32, y = (if wm c = 0 then 0 else 1) → FG Γ 259 (adx ad 12 q) 1 13 [(4, .int (nI c)), (2, .long (jc (cM w wm pq D.2) d1 c)), (1, .ref 12), (0, .ref 0)] [.int y, .long (jc (cM w wm pq D.2) d1 c * 31)] ([] ++ (MW 0 (nI w) (nI h) rm pm (nI (cm w k)) (nI (tt / 6 + 1)) (nI (tt % 6 + 1)) (nI (eoN tt)) ic it iv ie rc wm pq co pa fa ce ts ns es on nx).map (shE 0) ++ [.inl (false, 13, f)]) := by
          intro y hy
          refine go OK [225] 100 ?_
          refine ⟨inS (by omega : c < 49) (by decide), ?_⟩
          rw [nI_clampS (by omega)]
          refine ⟨[], MW 0 (nI w) (nI h) rm pm (nI (cm w k)) (nI (tt / 6 + 1)) (nI (tt % 6 + 1)) (nI (eoN tt)) ic it iv ie rc wm pq co pa fa ce ts ns es on nx, _, [.ref 0, .int (nI c), .int 0], rfl, rfl, rfl, ?_⟩
          refine ⟨_, _, k7 w c, 0, D, 0, rm, pm, ic, it, iv, ie, rc, k, tt, w, h, wm, pq, co, pa, fa, ce, ts, ns, es, on, nx, rfl, by rw [c1], rfl, by omega, rfl, hw, hh, c2, k7_h (by omega) hw hlt, hO, hR, rfl, ?_⟩
          refine ⟨[], MW 0 (nI w) (nI h) rm pm (nI (cm w k)) (nI (tt / 6 + 1)) (nI (tt % 6 + 1)) (nI (eoN tt)) ic it iv ie rc wm pq co pa fa ce ts ns es on nx, _, [.ref 0, .int (nI c)], rfl, rfl, rfl, ?_⟩
          refine ⟨_, k7 w c, D, 0, rm, pm, ic, it, iv, ie, rc, k, tt, w, h, wm, pq, co, pa, fa, ce, ts, ns, es, on, nx, rfl, by rw [c1], rfl, hw, hh, c2, k7_h (by omega) hw hlt, hO, hR, rfl, ?_⟩
          rw [← hy] at key
          exact key
        refine ⟨inS (by omega : c < 49) (by decide), ?_⟩
        rw [nI_clampS (by omega)]
        refine And.intro (fun z2 => ?_) (fun z2 => ?_)
        · exact tail 0 (by rw [if_pos z2])
        · exact tail 1 (by rw [if_neg z2])
  -- colours and paints
  have faces : ∀ (f : Nat → Int32) (d0 : Int64), d0 = jl 1901 (dgH k tt w h (ct (fun c => decide (¬ wm c = 0)) (w * h)) rm pm) →
      ∀ (n i : Nat), i + n = 6 → FG Γ 173 (adx ad 12 q) 1 13 [(4, .int (nI (i + 1))), (2, .long (jf co pa d0 i)), (1, .ref 12), (0, .ref 0)] [] ([] ++ (MW 0 (nI w) (nI h) rm pm (nI (cm w k)) (nI (tt / 6 + 1)) (nI (tt % 6 + 1)) (nI (eoN tt)) ic it iv ie rc wm pq co pa fa ce ts ns es on nx).map (shE 0) ++ [.inl (false, 13, f)]) := by
    intro f d0 hd0 n
    induction n with
    | zero =>
      intro i hi
      have : i = 6 := by omega
      subst this
      refine go OK [173, 225] 100 ?_
      refine And.intro (fun _ => ?_) (fun z => absurd ((ltN (a := 6) (b := 7) (by omega) (by omega)).mpr (by omega)) z)
      refine ⟨[], MW 0 (nI w) (nI h) rm pm (nI (cm w k)) (nI (tt / 6 + 1)) (nI (tt % 6 + 1)) (nI (eoN tt)) ic it iv ie rc wm pq co pa fa ce ts ns es on nx, _, [.ref 0], rfl, rfl, rfl, ?_⟩
      refine ⟨_, _, _, _, _, _, _, _, _, _, _, _, _, _, _, _, _, _, _, _, _, _, _, _, _, rfl, rfl, rfl, ?_⟩
      refine ⟨[], MW 0 (nI w) (nI h) rm pm (nI (cm w k)) (nI (tt / 6 + 1)) (nI (tt % 6 + 1)) (nI (eoN tt)) (nI (cm w k)) (nI (tt / 6 + 1)) (nI (tt % 6 + 1)) (nI (eoN tt)) rc wm pq co pa fa ce ts ns es on nx, _, [.ref 0], rfl, rfl, rfl, ?_⟩
      refine ⟨k, tt, wl, 0, rm, pm, _, _, _, _, rc, k, tt, w, h, wm, pq, co, pa, fa, ce, ts, ns, es, on, nx, rfl, rfl, rfl, rfl, rfl, rfl, hw2, hw, hh2, hh, hRW, hfr, hv, ?_⟩
      rw [← hDe]
      intro ic2 it2 iv2 ie2 rc2 fa2 ce2 ts2 ns2 es2 hR
      refine ⟨rfl, ?_⟩
      exact cells f (jf co pa d0 6) ic2 it2 iv2 ie2 rc2 fa2 ce2 ts2 ns2 es2 hR (by rw [hd0]) (w * h + 1) 0 (by omega) (by omega)
    | succ n ih =>
      intro i hi
      refine go OK [173, 225] 100 ?_
      refine And.intro (fun z => ?_) (fun z => ?_)
      · have := (ltN (a := 6) (b := i + 1) (by omega) (by omega)).mp z
        omega
      · refine ⟨inS (by omega : i + 1 < 7) (by decide), ?_⟩
        rw [nI_clampS (by omega)]
        refine ⟨inS (by omega : i + 1 < 7) (by decide), ?_⟩
        rw [nI_clampS (by omega)]
        have key := ih (i + 1) (by omega)
        rw [← nI_p1 (i + 1)] at key
        exact key
  -- the thirteen
  have head : ∀ (f : Nat → Int32) (L : List Int32), L.length = 13 → L = dgH k tt w h (ct (fun c => decide (¬ wm c = 0)) (w * h)) rm pm → (∀ i x, L[i]? = some x → f i = x) →
      ∀ (n i : Nat) (acc : Int64), i + n = 13 → jl acc (L.drop i) = jl 1901 L → FG Γ 140 (adx ad 12 q) 1 13 [(6, .int (nI i)), (5, .int (nI 13)), (4, .ref 12), (2, .long acc), (1, .ref 12), (0, .ref 0)] [] ([] ++ (MW 0 (nI w) (nI h) rm pm (nI (cm w k)) (nI (tt / 6 + 1)) (nI (tt % 6 + 1)) (nI (eoN tt)) ic it iv ie rc wm pq co pa fa ce ts ns es on nx).map (shE 0) ++ [.inl (false, 13, f)]) := by
    intro f L hL hLe hf n
    induction n with
    | zero =>
      intro i acc hi ha
      have : i = 13 := by omega
      subst this
      rw [List.drop_of_length_le (by omega)] at ha
      have ha : acc = jl 1901 L := ha
      refine go OK [140, 173] 60 ?_
      refine And.intro (fun _ => ?_) (fun z => absurd ((leN (a := 13) (b := 13) (by omega) (by omega)).mpr (by omega)) z)
      have key := faces f acc (by rw [ha, hLe]) 6 0 rfl
      exact FG_sub [0, 3, 4, 5] rfl key
    | succ n ih =>
      intro i acc hi ha
      have hil : i < L.length := by omega
      refine go OK [140, 173] 60 ?_
      refine And.intro (fun z => ?_) (fun z => ?_)
      · have := (leN (a := 13) (b := i) (by omega) (by omega)).mp z
        omega
      · refine ⟨inS (by omega : i < 13) (by decide), ?_⟩
        rw [nI_clampS (by omega)]
        have hfi := hf i _ (List.getElem?_eq_getElem hil)
        rw [List.drop_eq_getElem_cons hil] at ha
        have key := ih (i + 1) (jn acc L[i]) (by omega) ha
        rw [← nI_p1 i, ← hfi] at key
        exact FG_sub [0, 3, 4, 1, 5, 6] rfl key
  refine ⟨inS (n := 0) (by decide) (by decide), ?_⟩
  refine ⟨inS (n := 1) (by decide) (by decide), ?_⟩
  refine ⟨[], MW 0 (nI w) (nI h) rm pm (nI (cm w k)) (nI (tt / 6 + 1)) (nI (tt % 6 + 1)) (nI (eoN tt)) ic it iv ie rc wm pq co pa fa ce ts ns es on nx, _, [.ref 0], rfl, rfl, rfl, ?_⟩
  refine ⟨0, rm, pm, ic, it, iv, ie, rc, k, tt, w, h, wm, pq, co, pa, fa, ce, ts, ns, es, on, nx, rfl, rfl, hw, hh, rfl, ?_⟩
  refine ⟨inS (n := 2) (by decide) (by decide), ?_⟩
  refine ⟨inS (n := 3) (by decide) (by decide), ?_⟩
  refine ⟨inS (n := 4) (by decide) (by decide), ?_⟩
  refine ⟨nz, ?_⟩
  refine ⟨inS (n := 5) (by decide) (by decide), ?_⟩
  refine ⟨nz, ?_⟩
  refine ⟨inS (n := 6) (by decide) (by decide), ?_⟩
  refine ⟨inS (n := 7) (by decide) (by decide), ?_⟩
  refine ⟨inS (n := 8) (by decide) (by decide), ?_⟩
  refine ⟨[], MW 0 (nI w) (nI h) rm pm (nI (cm w k)) (nI (tt / 6 + 1)) (nI (tt % 6 + 1)) (nI (eoN tt)) ic it iv ie rc wm pq co pa fa ce ts ns es on nx, _, [.ref 0, .int 0], rfl, rfl, rfl, ?_⟩
  refine ⟨0, 0, 0, rm, pm, ic, it, iv, ie, rc, k, tt, w, h, wm, pq, co, pa, fa, ce, ts, ns, es, on, nx, rfl, rfl, by omega, rfl, hv, rfl, ?_⟩
  refine ⟨inS (n := 9) (by decide) (by decide), ?_⟩
  refine ⟨[], MW 0 (nI w) (nI h) rm pm (nI (cm w k)) (nI (tt / 6 + 1)) (nI (tt % 6 + 1)) (nI (eoN tt)) ic it iv ie rc wm pq co pa fa ce ts ns es on nx, _, [.ref 0, .int 1], rfl, rfl, rfl, ?_⟩
  refine ⟨1, 1, 0, rm, pm, ic, it, iv, ie, rc, k, tt, w, h, wm, pq, co, pa, fa, ce, ts, ns, es, on, nx, rfl, rfl, by omega, rfl, hv, rfl, ?_⟩
  refine ⟨inS (n := 10) (by decide) (by decide), ?_⟩
  refine ⟨[], MW 0 (nI w) (nI h) rm pm (nI (cm w k)) (nI (tt / 6 + 1)) (nI (tt % 6 + 1)) (nI (eoN tt)) ic it iv ie rc wm pq co pa fa ce ts ns es on nx, _, [.ref 0, .int 2], rfl, rfl, rfl, ?_⟩
  refine ⟨2, 2, 0, rm, pm, ic, it, iv, ie, rc, k, tt, w, h, wm, pq, co, pa, fa, ce, ts, ns, es, on, nx, rfl, rfl, by omega, rfl, hv, rfl, ?_⟩
  refine ⟨inS (n := 11) (by decide) (by decide), ?_⟩
  refine ⟨[], MW 0 (nI w) (nI h) rm pm (nI (cm w k)) (nI (tt / 6 + 1)) (nI (tt % 6 + 1)) (nI (eoN tt)) ic it iv ie rc wm pq co pa fa ce ts ns es on nx, _, [.ref 0, .int 3], rfl, rfl, rfl, ?_⟩
  refine ⟨3, 3, 0, rm, pm, ic, it, iv, ie, rc, k, tt, w, h, wm, pq, co, pa, fa, ce, ts, ns, es, on, nx, rfl, rfl, by omega, rfl, hv, rfl, ?_⟩
  refine ⟨inS (n := 12) (by decide) (by decide), ?_⟩
  refine head _ (dgH k tt w h (ct (fun c => decide (¬ wm c = 0)) (w * h)) rm pm) rfl rfl ?_ 13 0 1901 rfl rfl
  intro i x hx
  have hi : i < 13 := (List.getElem?_eq_some_iff.mp hx).1
  obtain rfl | rfl | rfl | rfl | rfl | rfl | rfl | rfl | rfl | rfl | rfl | rfl | rfl : i = 0 ∨ i = 1 ∨ i = 2 ∨ i = 3 ∨ i = 4 ∨ i = 5 ∨ i = 6 ∨ i = 7 ∨ i = 8 ∨ i = 9 ∨ i = 10 ∨ i = 11 ∨ i = 12 := by omega
  · cases hx; rfl
  · cases hx; rfl
  · cases hx; rfl
  · cases hx; rfl
  · cases hx; rfl
  · cases hx; exact em
  · cases hx; exact ed
  · cases hx; rfl
  · cases hx; exact n7 _ (by omega)
  · cases hx; rfl
  · cases hx; rfl
  · cases hx; rfl
  · cases hx; rfl
