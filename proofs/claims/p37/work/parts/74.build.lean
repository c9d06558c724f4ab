/-! ===== the law's build ===== -/
theorem FG_pick {Γ : aΓ} {pc : Nat} {ad : Nat → Nat} {k n : Nat} {ls ls' : List (Nat × Value)} {st : List Value} {X : List aE} (ks : List Nat) (hl : lv_pick ls ks = ls') (h : FG Γ pc ad k n ls' st X) : FG Γ pc ad k n ls st X := by
  obtain ⟨p, l, e, R, s, m, args, below, meth, c, Q, G, A, nL⟩ := Γ
  intro H locs la hP hD hS hlv
  refine h H locs la hP hD hS ⟨hlv.1, hlv.2.1, fun q hq => ?_⟩
  obtain ⟨u, hu, rfl⟩ := List.mem_map.mp hq
  rw [← hl] at hu
  obtain ⟨i, -, hi⟩ := List.mem_filterMap.mp hu
  exact hlv.2.2 _ (List.mem_map.mpr ⟨u, List.mem_of_getElem? hi, rfl⟩)
theorem hC_at {mc ms RC RS nx : Nat} {ad0 : Nat → Nat} {K : aK} {ad : Nat → Nat} {k sl : Nat} {ls : List (Nat × Value)} {t : List Value} {X : List aE} {x : Int32} (j : Nat) (e : x = nI j) (hj : j < 9000) (h4 : le4 t = true) (hc : k + mc ≤ RC) (hs : sl + ms ≤ RS) (had : ∀ i, 1000 ≤ i → ad i = ad0 i) (hK : ∀ r, K nx ad (k + mc) (sl + ms) ls (.int r :: t) X) :
    ∃ (P : Int32 → List aE → Prop), le4 t = true ∧ k + mc ≤ RC ∧ sl + ms ≤ RS ∧ (∀ i, 1000 ≤ i → ad i = ad0 i) ∧ tL_cell [.ref 1000, .int x] [] P ∧ ∀ r X2, P r X2 → K nx ad (k + mc) (sl + ms) ls (.int r :: t) X := by
  subst e
  exact hC_of j hj h4 hc hs had hK
theorem rem14 (k : Nat) (hk : k < 10000) : 2 + (nI k - nI k / 14 * 14) = nI (2 + k % 14) := by
  rw [show (14 : Int32) = nI 14 from rfl, pk_rem (a := k) (d := 14) (by omega) (by omega) (by omega)]
  exact nI_a2 _
abbrev NL_build : List aE → Nat := fun _ => 9
abbrev tL_build : aTr := fun av X post => ∃ (k t w h : Nat) (rm pm fd : Int32) (wl pr fe qu co pa : Nat → Int32), av = [.ref 0, .ref 1000] ∧ X = CW (nI k) (nI t) rm pm (nI w) (nI h) fd wl pr fe qu co pa ∧ (∀ f, 1 ≤ f → f ≤ 6 → co f = nI f ∧ pa f = 0) ∧
  ∀ (w2 h2 : Nat) (wl2 pr2 pa2 : Nat → Int32) (fw2 fp2 : Nat → Nat → Int32) (cs2 as2 df2 : Nat → Int32), IVd 0 0 1 w2 h2 0 0 wl2 pr2 co pa2 fw2 fp2 cs2 as2 df2 → post 9 (CW (nI 0) (nI 1) (nI 0) (nI 0) (nI w2) (nI h2) fd wl2 pr2 fe qu co pa2 ++ Zs w2 h2 0 0 0 fw2 fp2 cs2 as2 df2)
abbrev rmL_build : Room := { frames := 8, cells := 80, slots := 500, locals := 135 }
theorem inL_build_X4 : ∀ w ∈ wsX40, w ∈ wsL_build := by decide +kernel
def tbL_build (post : Nat → List aE → Prop) (ad0 : Nat → Nat) (N0 : Nat) : List (Nat × aO) := [(0, oNO 3 11 [.int 0, .int 0, .null, .null, .null, .null, .int 0, .int 0, .int 0, .int 0, .null] 80 500 3),
  (3, oDup 4),
  (4, oQv ad0 9 (fun _ => 1) tX4_init 1 (some 3) rmX4_init.cells rmX4_init.slots 80 500 7),
  (7, oAS 2 8),
  (8, oAL 2 9),
  (9, oC (2) 10),
  (10, oAL 1 11),
  (11, oC (0) 12),
  (12, oBs ad0 tL_cell 2 rmL_cell.cells rmL_cell.slots 80 500 15),
  (15, oC (6) 17),
  (17, oBi tL_below 2 rmL_below.cells rmL_below.slots 80 500 20),
  (20, oIadd 21),
  (21, oC (2) 22),
  (22, oAL 1 23),
  (23, oC (0) 24),
  (24, oBs ad0 tL_cell 2 rmL_cell.cells rmL_cell.slots 80 500 27),
  (27, oC (4) 28),
  (28, oIshr 29),
  (29, oC (6) 31),
  (31, oBi tL_below 2 rmL_below.cells rmL_below.slots 80 500 34),
  (34, oIadd 35),
  (35, oQv ad0 9 NX4_board tX4_board 3 (some 3) rmX4_board.cells rmX4_board.slots 80 500 38),
  (38, oAL 0 39),
  (39, oAL 2 40),
  (40, oGet 3 0 43),
  (43, oAL 2 44),
  (44, oGet 3 1 47),
  (47, oGXi tX3_newBoard 3 2 rmX3_newBoard.cells rmX3_newBoard.slots 80 500 50 exN),
  (50, oAL 2 51),
  (51, oGet 3 0 54),
  (54, oAL 2 55),
  (55, oGet 3 1 58),
  (58, oImul 59),
  (59, oIc_eq 64 62),
  (62, oNul 63),
  (63, oNr post ad0 N0 80 500),
  (64, oAL 1 65),
  (65, oC (1) 66),
  (66, oBs ad0 tL_cell 2 rmL_cell.cells rmL_cell.slots 80 500 69),
  (69, oC (12) 71),
  (71, oBi tL_below 2 rmL_below.cells rmL_below.slots 80 500 74),
  (74, oIS 3 75),
  (75, oC (0) 76),
  (76, oIS 4 78),
  (78, oIL 4 80),
  (80, oIL 3 81),
  (81, oIc_ge 182 84),
  (84, oAL 1 85),
  (85, oC (2) 86),
  (86, oIL 4 88),
  (88, oC (14) 90),
  (90, oIrem 91),
  (91, oIadd 92),
  (92, oBs ad0 tL_cell 2 rmL_cell.cells rmL_cell.slots 80 500 95),
  (95, oC (2) 96),
  (96, oIshr 97),
  (97, oAL 2 98),
  (98, oGet 3 0 101),
  (101, oBi tL_below 2 rmL_below.cells rmL_below.slots 80 500 104),
  (104, oIS 5 106),
  (106, oAL 1 107),
  (107, oC (2) 108),
  (108, oIL 4 110),
  (110, oC (14) 112),
  (112, oIrem 113),
  (113, oIadd 114),
  (114, oBs ad0 tL_cell 2 rmL_cell.cells rmL_cell.slots 80 500 117),
  (117, oC (5) 118),
  (118, oIshr 119),
  (119, oAL 2 120),
  (120, oGet 3 1 123),
  (123, oBi tL_below 2 rmL_below.cells rmL_below.slots 80 500 126),
  (126, oIS 6 128),
  (128, oIL 5 130),
  (130, oIL 6 132),
  (132, oIadd 133),
  (133, oIf_eq 176 136),
  (136, oAL 2 137),
  (137, oGet 3 2 140),
  (140, oIL 5 142),
  (142, oAald 143),
  (143, oIL 6 145),
  (145, oZald 146),
  (146, oIf_eq 152 149),
  (149, oGo 176),
  (152, oAL 2 153),
  (153, oGet 3 2 156),
  (156, oIL 5 158),
  (158, oAald 159),
  (159, oIL 6 161),
  (161, oC (1) 162),
  (162, oZast 163),
  (163, oAL 0 164),
  (164, oIL 5 166),
  (166, oIL 6 168),
  (168, oGXi tX3_turnWall 3 2 rmX3_turnWall.cells rmX3_turnWall.slots 80 500 171 exN),
  (171, oIf_ne 176 174),
  (174, oNul 175),
  (175, oNr post ad0 N0 80 500),
  (176, oInc 4 1 179),
  (179, oGo 78),
  (182, oC (1) 183),
  (183, oIS 4 185),
  (185, oIL 4 187),
  (187, oC (7) 189),
  (189, oIc_ge 247 192),
  (192, oAL 1 193),
  (193, oC (1) 194),
  (194, oIL 4 196),
  (196, oIadd 197),
  (197, oBs ad0 tL_cell 2 rmL_cell.cells rmL_cell.slots 80 500 200),
  (200, oC (3) 201),
  (201, oIshr 202),
  (202, oC (8) 204),
  (204, oBi tL_below 2 rmL_below.cells rmL_below.slots 80 500 207),
  (207, oIS 5 209),
  (209, oIL 5 211),
  (211, oIf_ne 217 214),
  (214, oGo 241),
  (217, oAL 2 218),
  (218, oGet 3 5 221),
  (221, oIL 4 223),
  (223, oIL 5 225),
  (225, oIast 226),
  (226, oAL 0 227),
  (227, oIL 4 229),
  (229, oIL 5 231),
  (231, oGXi tX3_addPaint 3 2 rmX3_addPaint.cells rmX3_addPaint.slots 80 500 234 exN),
  (234, oIL 5 236),
  (236, oIc_eq 241 239),
  (239, oNul 240),
  (240, oNr post ad0 N0 80 500),
  (241, oInc 4 1 244),
  (244, oGo 185),
  (247, oAL 2 248),
  (248, oNr post ad0 N0 80 500)]
set_option maxRecDepth 20000 in
theorem okL_build {Γ : aΓ} {post : Nat → List aE → Prop} {ad0 : Nat → Nat} {X0 : List aE} {N0 : Nat} (C : FOK Γ cL_build wsL_build RL 7 rmL_build) (CX : FOX Γ) (CN : FON ad0 Γ) (hQ : isQ Γ (va_Qr (fun (u : Nat × ((Nat → Nat) × List aE)) => post u.1 u.2.2) (fun u a t => a = u.2.1 u.1 ∧ aBn (gK Γ) ad0 X0 (hsz Γ) N0 u.2 t) (aA (gK Γ) ad0 X0 (hsz Γ))) rmL_build ad0 X0) (hr : rTy Γ = some (.object "PaintedDieLaw$Sim")) : AllS Γ (tbL_build post ad0 N0) := by
  unfold tbL_build
  refine al_c (pc := 0) (snd_NO C (ci := 3) dL_build_0 rfl inL_build_X4 tyX4_ok (by decide +kernel) (by decide +kernel) (by decide +kernel) (fun j hj => by match j, hj with | 0, _ => rfl | 1, _ => rfl | 2, _ => rfl | 3, _ => rfl | 4, _ => rfl | 5, _ => rfl | 6, _ => rfl | 7, _ => rfl | 8, _ => rfl | 9, _ => rfl | 10, _ => rfl | j + 11, h => exact absurd h (by omega)) (fun _ => rfl)) ?_
  refine al_c (pc := 3) (snd_dup C dL_build_3) ?_
  refine al_c (pc := 4) (snd_Qv 9 C CX CN (site_IS C CN dL_build_4 gL_build_X4_init_n88 rfl rfl rfl (by decide +kernel) (by decide +kernel) ⟨by decide +kernel, by decide +kernel, by decide +kernel⟩ ⟨by decide, by decide⟩) mX4_init) ?_
  refine al_c (pc := 7) (snd_astore_n C dL_build_7 rfl (by decide)) ?_
  refine al_c (pc := 8) (snd_aload_n C dL_build_8 rfl) ?_
  refine al_c (pc := 9) (snd_iconst C dL_build_9 (by decide)) ?_
  refine al_c (pc := 10) (snd_aload_n C dL_build_10 rfl) ?_
  refine al_c (pc := 11) (snd_iconst C dL_build_11 (by decide)) ?_
  refine al_c (pc := 12) (snd_Bs C CX CN (site_S C dL_build_12 gL_build_L_cell rfl rfl rfl ⟨by decide +kernel, by decide +kernel, by decide +kernel⟩ ⟨by decide, by decide⟩) mL_cell) ?_
  refine al_c (pc := 15) (snd_bipush C dL_build_15 (by decide)) ?_
  refine al_c (pc := 17) (snd_Bi C (site_S C dL_build_17 gL_build_L_below rfl rfl rfl ⟨by decide +kernel, by decide +kernel, by decide +kernel⟩ ⟨by decide, by decide⟩) mL_below) ?_
  refine al_c (pc := 20) (snd_iadd C dL_build_20) ?_
  refine al_c (pc := 21) (snd_iconst C dL_build_21 (by decide)) ?_
  refine al_c (pc := 22) (snd_aload_n C dL_build_22 rfl) ?_
  refine al_c (pc := 23) (snd_iconst C dL_build_23 (by decide)) ?_
  refine al_c (pc := 24) (snd_Bs C CX CN (site_S C dL_build_24 gL_build_L_cell rfl rfl rfl ⟨by decide +kernel, by decide +kernel, by decide +kernel⟩ ⟨by decide, by decide⟩) mL_cell) ?_
  refine al_c (pc := 27) (snd_iconst C dL_build_27 (by decide)) ?_
  refine al_c (pc := 28) (snd_ishr C dL_build_28) ?_
  refine al_c (pc := 29) (snd_bipush C dL_build_29 (by decide)) ?_
  refine al_c (pc := 31) (snd_Bi C (site_S C dL_build_31 gL_build_L_below rfl rfl rfl ⟨by decide +kernel, by decide +kernel, by decide +kernel⟩ ⟨by decide, by decide⟩) mL_below) ?_
  refine al_c (pc := 34) (snd_iadd C dL_build_34) ?_
  refine al_c (pc := 35) (snd_Qv 9 C CX CN (site_V C rfl dL_build_35 gL_build_X4_board rfl rfl rfl ⟨rfl, by decide +kernel, by decide +kernel, by decide +kernel⟩ ⟨by decide, by decide⟩) mX4_board) ?_
  refine al_c (pc := 38) (snd_aload_n C dL_build_38 rfl) ?_
  refine al_c (pc := 39) (snd_aload_n C dL_build_39 rfl) ?_
  refine al_c (pc := 40) (snd_get C dL_build_40 (ci := 3) (kf := 0) rfl (by decide) inL_build_X4 rfl (by decide +kernel)) ?_
  refine al_c (pc := 43) (snd_aload_n C dL_build_43 rfl) ?_
  refine al_c (pc := 44) (snd_get C dL_build_44 (ci := 3) (kf := 1) rfl (by decide) inL_build_X4 rfl (by decide +kernel)) ?_
  refine al_c (pc := 47) (snd_GXi C CX (xsite_V C rfl dL_build_47 gL_build_X3_newBoard rfl rfl rfl ⟨rfl, by decide +kernel, by decide +kernel, by decide +kernel⟩ ⟨by decide, by decide⟩) mX3_newBoard exN_FX) ?_
  refine al_c (pc := 50) (snd_aload_n C dL_build_50 rfl) ?_
  refine al_c (pc := 51) (snd_get C dL_build_51 (ci := 3) (kf := 0) rfl (by decide) inL_build_X4 rfl (by decide +kernel)) ?_
  refine al_c (pc := 54) (snd_aload_n C dL_build_54 rfl) ?_
  refine al_c (pc := 55) (snd_get C dL_build_55 (ci := 3) (kf := 1) rfl (by decide) inL_build_X4 rfl (by decide +kernel)) ?_
  refine al_c (pc := 58) (snd_imul C dL_build_58) ?_
  refine al_c (pc := 59) (snd_icmp_eq C dL_build_59 (by decide)) ?_
  refine al_c (pc := 62) (snd_null C dL_build_62) ?_
  refine al_c (pc := 63) (snd_Nr C hQ hr (Or.inl ⟨_, rfl⟩) dL_build_63) ?_
  refine al_c (pc := 64) (snd_aload_n C dL_build_64 rfl) ?_
  refine al_c (pc := 65) (snd_iconst C dL_build_65 (by decide)) ?_
  refine al_c (pc := 66) (snd_Bs C CX CN (site_S C dL_build_66 gL_build_L_cell rfl rfl rfl ⟨by decide +kernel, by decide +kernel, by decide +kernel⟩ ⟨by decide, by decide⟩) mL_cell) ?_
  refine al_c (pc := 69) (snd_bipush C dL_build_69 (by decide)) ?_
  refine al_c (pc := 71) (snd_Bi C (site_S C dL_build_71 gL_build_L_below rfl rfl rfl ⟨by decide +kernel, by decide +kernel, by decide +kernel⟩ ⟨by decide, by decide⟩) mL_below) ?_
  refine al_c (pc := 74) (snd_istore_n C dL_build_74 rfl (by decide)) ?_
  refine al_c (pc := 75) (snd_iconst C dL_build_75 (by decide)) ?_
  refine al_c (pc := 76) (snd_istore C dL_build_76 (by decide)) ?_
  refine al_c (pc := 78) (snd_iload C dL_build_78) ?_
  refine al_c (pc := 80) (snd_iload_n C dL_build_80 rfl) ?_
  refine al_c (pc := 81) (snd_icmp_ge C dL_build_81 (by decide)) ?_
  refine al_c (pc := 84) (snd_aload_n C dL_build_84 rfl) ?_
  refine al_c (pc := 85) (snd_iconst C dL_build_85 (by decide)) ?_
  refine al_c (pc := 86) (snd_iload C dL_build_86) ?_
  refine al_c (pc := 88) (snd_bipush C dL_build_88 (by decide)) ?_
  refine al_c (pc := 90) (snd_irem C dL_build_90) ?_
  refine al_c (pc := 91) (snd_iadd C dL_build_91) ?_
  refine al_c (pc := 92) (snd_Bs C CX CN (site_S C dL_build_92 gL_build_L_cell rfl rfl rfl ⟨by decide +kernel, by decide +kernel, by decide +kernel⟩ ⟨by decide, by decide⟩) mL_cell) ?_
  refine al_c (pc := 95) (snd_iconst C dL_build_95 (by decide)) ?_
  refine al_c (pc := 96) (snd_ishr C dL_build_96) ?_
  refine al_c (pc := 97) (snd_aload_n C dL_build_97 rfl) ?_
  refine al_c (pc := 98) (snd_get C dL_build_98 (ci := 3) (kf := 0) rfl (by decide) inL_build_X4 rfl (by decide +kernel)) ?_
  refine al_c (pc := 101) (snd_Bi C (site_S C dL_build_101 gL_build_L_below rfl rfl rfl ⟨by decide +kernel, by decide +kernel, by decide +kernel⟩ ⟨by decide, by decide⟩) mL_below) ?_
  refine al_c (pc := 104) (snd_istore C dL_build_104 (by decide)) ?_
  refine al_c (pc := 106) (snd_aload_n C dL_build_106 rfl) ?_
  refine al_c (pc := 107) (snd_iconst C dL_build_107 (by decide)) ?_
  refine al_c (pc := 108) (snd_iload C dL_build_108) ?_
  refine al_c (pc := 110) (snd_bipush C dL_build_110 (by decide)) ?_
  refine al_c (pc := 112) (snd_irem C dL_build_112) ?_
  refine al_c (pc := 113) (snd_iadd C dL_build_113) ?_
  refine al_c (pc := 114) (snd_Bs C CX CN (site_S C dL_build_114 gL_build_L_cell rfl rfl rfl ⟨by decide +kernel, by decide +kernel, by decide +kernel⟩ ⟨by decide, by decide⟩) mL_cell) ?_
  refine al_c (pc := 117) (snd_iconst C dL_build_117 (by decide)) ?_
  refine al_c (pc := 118) (snd_ishr C dL_build_118) ?_
  refine al_c (pc := 119) (snd_aload_n C dL_build_119 rfl) ?_
  refine al_c (pc := 120) (snd_get C dL_build_120 (ci := 3) (kf := 1) rfl (by decide) inL_build_X4 rfl (by decide +kernel)) ?_
  refine al_c (pc := 123) (snd_Bi C (site_S C dL_build_123 gL_build_L_below rfl rfl rfl ⟨by decide +kernel, by decide +kernel, by decide +kernel⟩ ⟨by decide, by decide⟩) mL_below) ?_
  refine al_c (pc := 126) (snd_istore C dL_build_126 (by decide)) ?_
  refine al_c (pc := 128) (snd_iload C dL_build_128) ?_
  refine al_c (pc := 130) (snd_iload C dL_build_130) ?_
  refine al_c (pc := 132) (snd_iadd C dL_build_132) ?_
  refine al_c (pc := 133) (snd_if_eq C dL_build_133 (by decide)) ?_
  refine al_c (pc := 136) (snd_aload_n C dL_build_136 rfl) ?_
  refine al_c (pc := 137) (snd_get C dL_build_137 (ci := 3) (kf := 2) rfl (by decide) inL_build_X4 rfl (by decide +kernel)) ?_
  refine al_c (pc := 140) (snd_iload C dL_build_140) ?_
  refine al_c (pc := 142) (snd_aaload C dL_build_142) ?_
  refine al_c (pc := 143) (snd_iload C dL_build_143) ?_
  refine al_c (pc := 145) (snd_baload C dL_build_145) ?_
  refine al_c (pc := 146) (snd_if_eq C dL_build_146 (by decide)) ?_
  refine al_c (pc := 149) (snd_goto C dL_build_149 (by decide)) ?_
  refine al_c (pc := 152) (snd_aload_n C dL_build_152 rfl) ?_
  refine al_c (pc := 153) (snd_get C dL_build_153 (ci := 3) (kf := 2) rfl (by decide) inL_build_X4 rfl (by decide +kernel)) ?_
  refine al_c (pc := 156) (snd_iload C dL_build_156) ?_
  refine al_c (pc := 158) (snd_aaload C dL_build_158) ?_
  refine al_c (pc := 159) (snd_iload C dL_build_159) ?_
  refine al_c (pc := 161) (snd_iconst C dL_build_161 (by decide)) ?_
  refine al_c (pc := 162) (snd_bastore C dL_build_162) ?_
  refine al_c (pc := 163) (snd_aload_n C dL_build_163 rfl) ?_
  refine al_c (pc := 164) (snd_iload C dL_build_164) ?_
  refine al_c (pc := 166) (snd_iload C dL_build_166) ?_
  refine al_c (pc := 168) (snd_GXi C CX (xsite_V C rfl dL_build_168 gL_build_X3_turnWall rfl rfl rfl ⟨rfl, by decide +kernel, by decide +kernel, by decide +kernel⟩ ⟨by decide, by decide⟩) mX3_turnWall exN_FX) ?_
  refine al_c (pc := 171) (snd_if_ne C dL_build_171 (by decide)) ?_
  refine al_c (pc := 174) (snd_null C dL_build_174) ?_
  refine al_c (pc := 175) (snd_Nr C hQ hr (Or.inl ⟨_, rfl⟩) dL_build_175) ?_
  refine al_c (pc := 176) (snd_iinc C dL_build_176 (by decide) (by decide)) ?_
  refine al_c (pc := 179) (snd_goto C dL_build_179 (by decide)) ?_
  refine al_c (pc := 182) (snd_iconst C dL_build_182 (by decide)) ?_
  refine al_c (pc := 183) (snd_istore C dL_build_183 (by decide)) ?_
  refine al_c (pc := 185) (snd_iload C dL_build_185) ?_
  refine al_c (pc := 187) (snd_bipush C dL_build_187 (by decide)) ?_
  refine al_c (pc := 189) (snd_icmp_ge C dL_build_189 (by decide)) ?_
  refine al_c (pc := 192) (snd_aload_n C dL_build_192 rfl) ?_
  refine al_c (pc := 193) (snd_iconst C dL_build_193 (by decide)) ?_
  refine al_c (pc := 194) (snd_iload C dL_build_194) ?_
  refine al_c (pc := 196) (snd_iadd C dL_build_196) ?_
  refine al_c (pc := 197) (snd_Bs C CX CN (site_S C dL_build_197 gL_build_L_cell rfl rfl rfl ⟨by decide +kernel, by decide +kernel, by decide +kernel⟩ ⟨by decide, by decide⟩) mL_cell) ?_
  refine al_c (pc := 200) (snd_iconst C dL_build_200 (by decide)) ?_
  refine al_c (pc := 201) (snd_ishr C dL_build_201) ?_
  refine al_c (pc := 202) (snd_bipush C dL_build_202 (by decide)) ?_
  refine al_c (pc := 204) (snd_Bi C (site_S C dL_build_204 gL_build_L_below rfl rfl rfl ⟨by decide +kernel, by decide +kernel, by decide +kernel⟩ ⟨by decide, by decide⟩) mL_below) ?_
  refine al_c (pc := 207) (snd_istore C dL_build_207 (by decide)) ?_
  refine al_c (pc := 209) (snd_iload C dL_build_209) ?_
  refine al_c (pc := 211) (snd_if_ne C dL_build_211 (by decide)) ?_
  refine al_c (pc := 214) (snd_goto C dL_build_214 (by decide)) ?_
  refine al_c (pc := 217) (snd_aload_n C dL_build_217 rfl) ?_
  refine al_c (pc := 218) (snd_get C dL_build_218 (ci := 3) (kf := 5) rfl (by decide) inL_build_X4 rfl (by decide +kernel)) ?_
  refine al_c (pc := 221) (snd_iload C dL_build_221) ?_
  refine al_c (pc := 223) (snd_iload C dL_build_223) ?_
  refine al_c (pc := 225) (snd_iastore C dL_build_225) ?_
  refine al_c (pc := 226) (snd_aload_n C dL_build_226 rfl) ?_
  refine al_c (pc := 227) (snd_iload C dL_build_227) ?_
  refine al_c (pc := 229) (snd_iload C dL_build_229) ?_
  refine al_c (pc := 231) (snd_GXi C CX (xsite_V C rfl dL_build_231 gL_build_X3_addPaint rfl rfl rfl ⟨rfl, by decide +kernel, by decide +kernel, by decide +kernel⟩ ⟨by decide, by decide⟩) mX3_addPaint exN_FX) ?_
  refine al_c (pc := 234) (snd_iload C dL_build_234) ?_
  refine al_c (pc := 236) (snd_icmp_eq C dL_build_236 (by decide)) ?_
  refine al_c (pc := 239) (snd_null C dL_build_239) ?_
  refine al_c (pc := 240) (snd_Nr C hQ hr (Or.inl ⟨_, rfl⟩) dL_build_240) ?_
  refine al_c (pc := 241) (snd_iinc C dL_build_241 (by decide) (by decide)) ?_
  refine al_c (pc := 244) (snd_goto C dL_build_244 (by decide)) ?_
  refine al_c (pc := 247) (snd_aload_n C dL_build_247 rfl) ?_
  refine al_c (pc := 248) (snd_Nr C hQ hr (Or.inl ⟨_, rfl⟩) dL_build_248) ?_
  exact al_0
set_option maxHeartbeats 4000000 in
set_option maxRecDepth 100000 in
theorem mL_build : nMr yL_build wsL_build rmL_build NL_build tL_build := by
  refine nMr_of (by decide +kernel) rfl rfl (by intro av X post hT; obtain ⟨k, t, w, h, rm, pm, fd, wl, pr, fe, qu, co, pa, rfl, rfl, hcp, hp⟩ := hT; exact Nat.le_of_ble_eq_true rfl) ?_
  intro Γ ad av X post C CX CN hQ hr hT
  obtain ⟨k, t, w, h, rm, pm, fd, wl, pr, fe, qu, co, pa, rfl, rfl, hcp, hp⟩ := hT
  have OK := okL_build C CX CN hQ hr
  -- the paints
  have lp2 : ∀ (w2 h2 : Nat) (wl2 pr2 : Nat → Int32) (fw2 fp2 : Nat → Nat → Int32) (cs2 df2 : Nat → Int32) (nw : Int32) (g f : Nat), f + g = 7 → 1 ≤ f → ∀ (pa2 as2 : Nat → Int32) (ad2 : Nat → Nat) (K S : Nat), K + 2 * g ≤ 80 → S + 12 * g ≤ 500 → Ag 9 ad ad2 → (∀ i, f ≤ i → i ≤ 6 → pa2 i = 0) → IVd 0 0 1 w2 h2 0 0 wl2 pr2 co pa2 fw2 fp2 cs2 as2 df2 → FG Γ 185 ad2 K S [(4, .int (nI f)), (3, .int nw), (2, .ref 9), (0, .ref 0), (1, .ref 1000)] [] (CW (nI 0) (nI 1) (nI 0) (nI 0) (nI w2) (nI h2) fd wl2 pr2 fe qu co pa2 ++ Zs w2 h2 0 0 0 fw2 fp2 cs2 as2 df2) := by
    intro w2 h2 wl2 pr2 fw2 fp2 cs2 df2 nw g
    induction g with
    | zero =>
      intro f hf f1 pa2 as2 ad2 K S hK hS hag hpa hI
      obtain rfl : f = 7 := by omega
      refine go OK [] 60 ?_
      refine And.intro (fun _ => ?_) (fun q => absurd (show (7 : Int32) ≤ nI 7 from by decide) q)
      exact ⟨by omega, by omega, hag.wk (M := 9) (by decide), hp w2 h2 wl2 pr2 pa2 fw2 fp2 cs2 as2 df2 hI⟩
    | succ g ih =>
      intro f hf f1 pa2 as2 ad2 K S hK hS hag hpa hI
      obtain ⟨a1, a2, a3, a4, a5, a6, a7, a8, a9, a10, a11, a12, a13, a14, a15⟩ := id hI
      have ecl : (nI f).toNatClampNeg = f := nI_clampS (by omega)
      refine go OK [241] 60 ?_
      refine And.intro (fun q => absurd ((leN (a := 7) (by omega) (by omega)).mp q) (by omega)) (fun _ => ?_)
      refine hC_at (1 + f) (nI_a1 f) (by omega) rfl (by show K + 0 ≤ 80; omega) (by show S + 0 ≤ 500; omega) (fun i hi => hag i (Or.inr hi)) ?_
      intro x
      refine hB_of 8 (by decide) (by decide) rfl (by show K + 0 + 0 ≤ 80; omega) (by show S + 0 + 0 ≤ 500; omega) ?_
      intro j hj
      have st241 : ∀ (pa3 as3 : Nat → Int32) (K3 S3 : Nat), K3 + 2 * g ≤ 80 → S3 + 12 * g ≤ 500 → (∀ i, f + 1 ≤ i → i ≤ 6 → pa3 i = 0) → IVd 0 0 1 w2 h2 0 0 wl2 pr2 co pa3 fw2 fp2 cs2 as3 df2 → FG Γ 241 ad2 K3 S3 [(5, .int (nI j)), (4, .int (nI f)), (3, .int nw), (2, .ref 9), (0, .ref 0), (1, .ref 1000)] [] (CW (nI 0) (nI 1) (nI 0) (nI 0) (nI w2) (nI h2) fd wl2 pr2 fe qu co pa3 ++ Zs w2 h2 0 0 0 fw2 fp2 cs2 as3 df2) := by
        intro pa3 as3 K3 S3 hK3 hS3 hpa3 hI3
        refine go OK [185] 60 ?_
        refine FG_pick (ls' := [(4, .int (nI f + 1)), (3, .int nw), (2, .ref 9), (0, .ref 0), (1, .ref 1000)]) [0, 2, 3, 4, 5] rfl ?_
        rw [nI_p1]
        exact ih (f + 1) (by omega) (by omega) pa3 as3 ad2 K3 S3 (by omega) (by omega) hag hpa3 hI3
      refine And.intro (fun q => ?_) (fun q => ?_)
      · obtain ⟨b1, b2, b3, b4⟩ := a13 f f1 (by omega)
        have p0 : pa2 f = 0 := hpa f (Nat.le_refl _) (by omega)
        have hj0 : 1 ≤ j := by
          rcases Nat.eq_zero_or_pos j with z | z
          · exact absurd (by rw [z]; rfl) q
          · exact z
        have eA : adP pa2 f (nI j) = nI j := by
          unfold adP
          rw [p0, show (0 : Int32) + nI j = nI j from (nI_add 0 j).trans (by rw [Nat.zero_add])]
          exact if_pos ((ltN (show j < 10000 by omega) (show 20 < 10000 by decide)).mpr (by omega))
        refine ⟨inS (show f < 7 by omega) (by decide), ?_⟩
        rw [ecl]
        refine gX_of (X' := CW (nI 0) (nI 1) (nI 0) (nI 0) (nI w2) (nI h2) fd wl2 pr2 fe qu co pa2) (Z := Zs w2 h2 0 0 0 fw2 fp2 cs2 (upd as2 f (nI j)) df2) (fs := _) rfl rfl (k_addPaint 0 1 w2 h2 (nI 0) (nI 0) fd wl2 pr2 fe qu co pa2 f j f1 (by omega) hj0 (by omega)) rfl (by show K + 0 + 0 + 2 ≤ 80; omega) (by show S + 0 + 0 + 12 ≤ 500; omega) ?_ (fun _ _ q => q.elim)
        rintro r X2 ⟨rfl, rfl⟩
        refine ⟨rfl, ?_⟩
        rw [eA]
        refine And.intro (fun _ => ?_) (fun q => absurd rfl q)
        refine st241 (upd pa2 f (nI j)) (upd as2 f (nI j)) _ _ (by show K + 0 + 0 + 2 + 2 * g ≤ 80; omega) (by show S + 0 + 0 + 12 + 12 * g ≤ 500; omega) (fun i g1 g2 => ?_) ⟨a1, a2, a3, a4, a5, a6, a7, a8, a9, a10, a11, a12, fun f2 g3 g4 => ?_, a14, a15⟩
        · rw [pk_un (by omega)]
          exact hpa i (by omega) g2
        · by_cases e : f2 = f
          · rw [e, pk_us, pk_us]
            exact ⟨b1, rfl, b3, inR_at (Nat.zero_le _) (by omega)⟩
          · rw [pk_un e, pk_un e]
            exact a13 f2 g3 g4
      · exact st241 pa2 as2 _ _ (by show K + 0 + 0 + 2 * g ≤ 80; omega) (by show S + 0 + 0 + 12 * g ≤ 500; omega) (fun i g1 g2 => hpa i (by omega) g2) hI
  -- the walls
  have lp1 : ∀ (w2 h2 nw : Nat) (pr2 : Nat → Int32) (fp2 : Nat → Nat → Int32) (cs2 as2 df2 : Nat → Int32), nw < 12 → ∀ (g i : Nat), i + g = nw → ∀ (wl2 : Nat → Int32) (fw2 : Nat → Nat → Int32) (ad2 : Nat → Nat) (K S : Nat), K + 2 * g ≤ 60 → S + 12 * g ≤ 400 → Ag 9 ad ad2 → IVd 0 0 1 w2 h2 0 0 wl2 pr2 co pa fw2 fp2 cs2 as2 df2 → FG Γ 78 ad2 K S [(4, .int (nI i)), (3, .int (nI nw)), (2, .ref 9), (0, .ref 0), (1, .ref 1000)] [] (CW (nI 0) (nI 1) (nI 0) (nI 0) (nI w2) (nI h2) fd wl2 pr2 fe qu co pa ++ Zs w2 h2 0 0 0 fw2 fp2 cs2 as2 df2) := by
    intro w2 h2 nw pr2 fp2 cs2 as2 df2 hnw g
    induction g with
    | zero =>
      intro i hi wl2 fw2 ad2 K S hK hS hag hI
      refine go OK [185] 60 ?_
      refine And.intro (fun _ => ?_) (fun q => absurd ((leN (by omega) (by omega)).mpr (show nw ≤ i by omega)) q)
      exact lp2 w2 h2 wl2 pr2 fw2 fp2 cs2 df2 (nI nw) 6 1 rfl (by decide) pa as2 ad2 K S (by omega) (by omega) hag (fun f f1 f6 => (hcp f f1 f6).2) hI
    | succ g ih =>
      intro i hi wl2 fw2 ad2 K S hK hS hag hI
      obtain ⟨a1, a2, a3, a4, a5, a6, a7, a8, a9, a10, a11, a12, a13, a14, a15⟩ := id hI
      have had : ∀ i, 1000 ≤ i → ad2 i = ad i := fun i hi => hag i (Or.inr hi)
      have st176 : ∀ (c r : Nat) (wl3 : Nat → Int32) (fw3 : Nat → Nat → Int32) (K3 S3 : Nat), K3 + 2 * g ≤ 60 → S3 + 12 * g ≤ 400 → IVd 0 0 1 w2 h2 0 0 wl3 pr2 co pa fw3 fp2 cs2 as2 df2 → FG Γ 176 ad2 K3 S3 [(6, .int (nI r)), (5, .int (nI c)), (4, .int (nI i)), (3, .int (nI nw)), (2, .ref 9), (0, .ref 0), (1, .ref 1000)] [] (CW (nI 0) (nI 1) (nI 0) (nI 0) (nI w2) (nI h2) fd wl3 pr2 fe qu co pa ++ Zs w2 h2 0 0 0 fw3 fp2 cs2 as2 df2) := by
        intro c r wl3 fw3 K3 S3 hK3 hS3 hI3
        refine go OK [78] 60 ?_
        refine FG_pick (ls' := [(4, .int (nI i + 1)), (3, .int (nI nw)), (2, .ref 9), (0, .ref 0), (1, .ref 1000)]) [0, 3, 4, 5, 6] rfl ?_
        rw [nI_p1]
        exact ih (i + 1) (by omega) wl3 fw3 ad2 K3 S3 (by omega) (by omega) hag hI3
      have st128 : ∀ m : Nat, m % 7 < w2 → m / 7 < h2 → FG Γ 128 ad2 K S [(6, .int (nI (m / 7))), (5, .int (nI (m % 7))), (4, .int (nI i)), (3, .int (nI nw)), (2, .ref 9), (0, .ref 0), (1, .ref 1000)] [] (CW (nI 0) (nI 1) (nI 0) (nI 0) (nI w2) (nI h2) fd wl2 pr2 fe qu co pa ++ Zs w2 h2 0 0 0 fw2 fp2 cs2 as2 df2) := by
        intro m m1 m2
        have hfw : fw2 (m % 7) (nI (m / 7)).toNatClampNeg = wl2 m := by rw [nI_clampS (by omega), a8 _ _ m1 m2, show m / 7 * 7 + m % 7 = m by omega]
        have ecl : (nI (m / 7)).toNatClampNeg = m / 7 := nI_clampS (by omega)
        have st163 : m ≠ 0 → wl2 m = 0 → FG Γ 163 ad2 K S [(6, .int (nI (m / 7))), (5, .int (nI (m % 7))), (4, .int (nI i)), (3, .int (nI nw)), (2, .ref 9), (0, .ref 0), (1, .ref 1000)] [] (CW (nI 0) (nI 1) (nI 0) (nI 0) (nI w2) (nI h2) fd wl2 pr2 fe qu co pa ++ Zs w2 h2 0 0 0 (updR fw2 (m % 7) (upd (fw2 (m % 7)) (m / 7) 1)) fp2 cs2 as2 df2) := by
          intro hm0 hwm
          have e9 : tnW wl2 m = 1 := if_pos hwm
          refine go OK [176] 60 ?_
          refine gX_of (fs := _) rfl rfl (k_turnWall 0 1 w2 h2 (nI 0) (nI 0) fd wl2 pr2 fe qu co pa a2 a4 (by decide) m m1 m2 hm0) rfl (by show K + 2 ≤ 80; omega) (by show S + 12 ≤ 500; omega) ?_ (fun _ _ q => q.elim)
          rintro r X2 ⟨rfl, rfl⟩
          refine ⟨rfl, ?_⟩
          rw [e9]
          refine And.intro (fun _ => ?_) (fun q => absurd q (by decide))
          refine st176 (m % 7) (m / 7) (upd wl2 m 1) _ _ _ (by show K + 2 + 2 * g ≤ 60; omega) (by show S + 12 + 12 * g ≤ 400; omega) ⟨a1, a2, a3, a4, a5, ⟨a6.1, a6.2.1, by rw [pk_un (fun q => hm0 q.symm)]; exact a6.2.2⟩, a7, fun c r hc hr => ?_, a9, fun c hc => ?_, fun c hc hn => ?_, a12, a13, a14, a15⟩
          · unfold updR
            by_cases e : c = m % 7
            · rw [if_pos e]
              by_cases e2 : r = m / 7
              · rw [show r * 7 + c = m by omega, e2, pk_us, pk_us]
              · rw [pk_un e2, pk_un (show ¬ r * 7 + c = m by omega), ← e]
                exact a8 c r hc hr
            · rw [if_neg e, pk_un (show ¬ r * 7 + c = m by omega)]
              exact a8 c r hc hr
          · by_cases e : c = m
            · rw [e, pk_us]
              exact Or.inr rfl
            · rw [pk_un e]
              exact a10 c hc
          · by_cases e : c = m
            · rw [e] at hn
              exact absurd ⟨m1, m2⟩ hn
            · rw [pk_un e]
              exact a11 c hc hn
        refine go OK [163, 176] 60 ?_
        refine And.intro (fun q => ?_) (fun q => ?_)
        · exact st176 (m % 7) (m / 7) wl2 fw2 K S (by omega) (by omega) hI
        · have hm0 : m ≠ 0 := fun e => q (by rw [e]; rfl)
          refine ⟨true, w2, _, m % 7, rfl, rfl, m1, by omega, ?_⟩
          refine gx_of (LX_w m1) ⟨inS m2 (by omega), ?_⟩
          rw [hfw]
          refine And.intro (fun q2 => ?_) (fun q2 => ?_)
          · refine ⟨true, w2, _, m % 7, rfl, rfl, m1, by omega, ?_⟩
            refine gx_of (LX_w m1) ⟨inS m2 (by omega), Or.inr rfl, sx_of (by rw [LX_len]; show 6 + m % 7 + 9 < 15 + w2 + w2; omega) ?_⟩
            rw [LX_sw m1, ecl]
            exact st163 hm0 q2
          · exact st176 (m % 7) (m / 7) wl2 fw2 K S (by omega) (by omega) hI
      refine go OK [128] 60 ?_
      refine And.intro (fun q => absurd ((leN (by omega) (by omega)).mp q) (by omega)) (fun _ => ?_)
      refine ⟨by decide, ?_⟩
      refine hC_at (2 + i % 14) (rem14 i (by omega)) (by omega) rfl (by show K + 0 ≤ 80; omega) (by show S + 0 ≤ 500; omega) had ?_
      intro x
      refine hB_of w2 (by omega) (by omega) rfl (by show K + 0 + 0 ≤ 80; omega) (by show S + 0 + 0 ≤ 500; omega) ?_
      intro c hc
      refine ⟨by decide, ?_⟩
      refine hC_at (2 + i % 14) (rem14 i (by omega)) (by omega) rfl (by show K + 0 + 0 + 0 ≤ 80; omega) (by show S + 0 + 0 + 0 ≤ 500; omega) had ?_
      intro x2
      refine hB_of h2 (by omega) (by omega) rfl (by show K + 0 + 0 + 0 + 0 ≤ 80; omega) (by show S + 0 + 0 + 0 + 0 ≤ 500; omega) ?_
      intro r hr9
      have key := st128 (r * 7 + c) (by omega) (by omega)
      rw [show (r * 7 + c) % 7 = c by omega, show (r * 7 + c) / 7 = r by omega] at key
      exact key
  -- the board
  have st38 : ∀ (w2 h2 : Nat) (ad2 : Nat → Nat) (cs2 df2 : Nat → Int32), 2 ≤ w2 → w2 ≤ 7 → 2 ≤ h2 → h2 ≤ 7 → Ag 9 ad ad2 → C7 cs2 → DF 1 df2 → FG Γ 38 ad2 33 209 [(2, .ref 9), (0, .ref 0), (1, .ref 1000)] [] (CW (nI k) (nI t) rm pm (nI w) (nI h) fd wl pr fe qu co pa ++ Zs w2 h2 0 0 0 (fun _ _ => 0) (fun _ _ => 0) cs2 (fun _ => 0) df2) := by
    intro w2 h2 ad2 cs2 df2 g1 g2 g3 g4 hag hc7 hdf2
    refine go OK [78] 60 ?_
    refine gX_of (fs := _) rfl rfl (k_newBoard k t w h rm pm fd wl pr fe qu co pa w2 h2 g1 g2 g3 g4) rfl (by decide) (by decide) ?_ (fun _ _ q => q.elim)
    rintro r X2 ⟨rfl, wl2, pr2, z1, z2, rfl⟩
    refine ⟨rfl, ?_⟩
    refine And.intro (fun _ => ?_) (fun q => absurd rfl q)
    refine hC_at 1 rfl (by decide) rfl (by decide) (by decide) (fun i hi => hag i (Or.inr hi)) ?_
    intro x
    refine hB_of 12 (by decide) (by decide) rfl (by decide) (by decide) ?_
    intro nw hnw
    refine lp1 w2 h2 nw pr2 (fun _ _ => 0) cs2 (fun _ => 0) df2 hnw nw 0 (by omega) wl2 (fun _ _ => 0) ad2 34 215 (by omega) (by omega) hag ⟨g1, g2, g3, g4, by decide, ⟨by omega, by omega, z1 0 (by decide)⟩, hdf2, fun c r hc hr => (z1 _ (by omega)).symm, fun c r hc hr => (z2 _ (by omega)).symm, fun c hc => Or.inl (z1 c hc), fun c hc _ => z1 c hc, fun i j hi hj => ?_, fun f f1 f6 => ?_, Nat.le_refl _, Nat.le_refl _⟩
    · rw [z2 _ (by omega)]
      exact inR_at (n := 0) (Nat.le_refl _) (by decide)
    · obtain ⟨c1, c2⟩ := hcp f f1 f6
      rw [hc7 f (by omega), c1, c2]
      exact ⟨rfl, rfl, inR_at f1 (by omega), inR_at (n := 0) (Nat.le_refl _) (by decide)⟩
  have st8 : ∀ (ad2 : Nat → Nat) (cs2 df0 : Nat → Int32), Ag 9 ad ad2 → C7 cs2 → FG Γ 8 ad2 16 91 [(2, .ref 9), (0, .ref 0), (1, .ref 1000)] [] (CW (nI k) (nI t) rm pm (nI w) (nI h) fd wl pr fe qu co pa ++ (SW 5 5 0 0 0 0 (fun _ _ => 0) (fun _ _ => 0) cs2 (fun _ => 0) df0).map (shE 9)) := by
    intro ad2 cs2 df0 hag hc7
    have had : ∀ i, 1000 ≤ i → ad2 i = ad i := fun i hi => hag i (Or.inr hi)
    refine go OK [38] 60 ?_
    refine hC_at 0 rfl (by decide) rfl (by decide) (by decide) had ?_
    intro x
    refine hB_of 6 (by decide) (by decide) rfl (by decide) (by decide) ?_
    intro j1 hj1
    refine hC_at 0 rfl (by decide) rfl (by decide) (by decide) had ?_
    intro x2
    refine hB_of 6 (by decide) (by decide) rfl (by decide) (by decide) ?_
    intro j2 hj2
    refine ⟨CW (nI k) (nI t) rm pm (nI w) (nI h) fd wl pr fe qu co pa, SW 5 5 0 0 0 0 (fun _ _ => 0) (fun _ _ => 0) cs2 (fun _ => 0) df0, [.ref 0, .int (nI (2 + j1)), .int (nI (2 + j2))], fun X2 => ∃ df2, DF 1 df2 ∧ X2 = SW (2 + j1) (2 + j2) 0 0 0 0 (fun _ _ => 0) (fun _ _ => 0) cs2 (fun _ => 0) df2, rfl, by decide, by decide, rfl, rfl, by rw [← nI_a2, ← nI_a2]; rfl, qOK_of (N0 := 10) had (Nat.le_refl _) rfl rfl (CW_ok (by decide)) (SW_ok (by decide)) (by rw [SW_len]; decide) (Or.inr rfl), fun ci hc => by cases hc; exact ⟨0, _, _, rfl, rfl⟩, ⟨2 + j1, 2 + j2, 5, 5, 0, 0, 0, 0, _, _, cs2, _, df0, rfl, rfl, by omega, by omega, by decide, fun df2 h9 => ⟨df2, h9, rfl⟩⟩, ?_⟩
    rintro X2 ⟨df2, hdf2, rfl⟩
    refine ⟨by show 1 ≤ _; rw [SW_len]; omega, by rw [SW_len]; omega, SW_ok (by rw [SW_len]; omega), fun adJ hJ => ?_⟩
    exact st38 (2 + j1) (2 + j2) adJ cs2 df2 (by omega) (by omega) (by omega) (by omega) (hag.tr (M := 10) hJ (by decide)) hc7 hdf2
  have st3 : ∀ ad2 : Nat → Nat, Ag 9 ad ad2 → FG Γ 3 ad2 1 11 [(0, .ref 0), (1, .ref 1000)] [.ref 9] (CW (nI k) (nI t) rm pm (nI w) (nI h) fd wl pr fe qu co pa ++ [aE_obj [.int 0, .int 0, .null, .null, .null, .null, .int 0, .int 0, .int 0, .int 0, .null]].map (shE 9)) := by
    intro ad2 hag
    have had : ∀ i, 1000 ≤ i → ad2 i = ad i := fun i hi => hag i (Or.inr hi)
    refine go OK [8] 60 ?_
    refine ⟨CW (nI k) (nI t) rm pm (nI w) (nI h) fd wl pr fe qu co pa, [aE_obj [.int 0, .int 0, .null, .null, .null, .null, .int 0, .int 0, .int 0, .int 0, .null]], [.ref 0], fun X2 => ∃ cs2 df2, C7 cs2 ∧ DF 1 df2 ∧ X2 = SW 5 5 0 0 0 0 (fun _ _ => 0) (fun _ _ => 0) cs2 (fun _ => 0) df2, rfl, by decide, by decide, rfl, rfl, rfl, qOK_of (N0 := 10) had (Nat.le_refl _) rfl rfl (CW_ok (by decide)) rfl (by decide) (Or.inr rfl), fun ci hc => by cases hc; exact ⟨0, _, _, rfl, rfl⟩, ⟨rfl, rfl, fun cs2 df2 h1 h2 => ⟨cs2, df2, h1, h2, rfl⟩⟩, ?_⟩
    rintro X2 ⟨cs2, df2, hc7, hdf2, rfl⟩
    refine ⟨by rw [SW_len]; decide, by rw [SW_len]; decide, SW_ok (by rw [SW_len]; decide), fun adJ hJ => ?_⟩
    exact st8 adJ cs2 df2 (hag.tr (M := 10) hJ (by decide)) hc7
  refine go OK [3] 60 ?_
  exact fun ad2 hag => st3 ad2 hag
