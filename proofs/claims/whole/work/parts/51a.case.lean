/-! ===== cases of the law, by program (mklaw.py) ===== -/
def tbLc0 (b L : Nat) (xs : Nat → Int32) : List (Nat × aO) := [(188, oAL 1 189),
  (189, oAL 0 190),
  (190, oIL 4 192),
  (192, oC (1) 193),
  (193, oIadd 194),
  (194, oSld b L xs 195),
  (195, oAL 0 196),
  (196, oIL 4 198),
  (198, oC (2) 199),
  (199, oIadd 200),
  (200, oSld b L xs 201),
  (201, oAL 3 202),
  (202, oWi (tW2 tX3_newBoard (code1 "java/lang/IllegalArgumentException") svI) 4 rmL_newBoard.cells rmL_newBoard.slots room_1.cells room_1.slots 205),
  (205, oIS 5 207),
  (207, oAL 2 208),
  (208, oAL 0 209),
  (209, oIL 4 211),
  (211, oC (1) 212),
  (212, oIadd 213),
  (213, oSld b L xs 214),
  (214, oAL 0 215),
  (215, oIL 4 217),
  (217, oC (2) 218),
  (218, oIadd 219),
  (219, oSld b L xs 220),
  (220, oGi 9 tX4_newBoard 3 3 rmX4_newBoard.cells rmX4_newBoard.slots room_1.cells room_1.slots 223),
  (223, oIS 6 225),
  (225, oAL 2 226),
  (226, oGi 9 tX4_thrown 1 3 rmX4_thrown.cells rmX4_thrown.slots room_1.cells room_1.slots 229),
  (229, oIL 5 231),
  (231, oIc_eq 236 234),
  (234, oC (0) 235),
  (236, oIL 5 238),
  (238, oIf_ne 253 241),
  (241, oAL 3 242),
  (242, oC (0) 243),
  (243, oJal 244),
  (244, oIL 6 246),
  (246, oI2l 247),
  (247, oLcmp 248),
  (248, oIf_eq 253 251),
  (251, oC (0) 252),
  (253, oGo 1708)]
set_option maxRecDepth 20000 in
theorem okLc0 {Γ : aΓ} {b L : Nat} {xs : Nat → Int32} (C : FOK Γ code wsL_law RL 9 room_1) (CX : FOX Γ) (CN : FOW Γ) (hS : LScr b L xs Γ) : AllS Γ (tbLc0 b L xs) := by
  unfold tbLc0
  refine al_c (pc := 188) (snd_aload_n C dL_law_188 rfl) ?_
  refine al_c (pc := 189) (snd_aload_n C dL_law_189 rfl) ?_
  refine al_c (pc := 190) (snd_iload C dL_law_190) ?_
  refine al_c (pc := 192) (snd_iconst C dL_law_192 (by decide)) ?_
  refine al_c (pc := 193) (snd_iadd C dL_law_193) ?_
  refine al_c (pc := 194) (snd_Sld C hS dL_law_194) ?_
  refine al_c (pc := 195) (snd_aload_n C dL_law_195 rfl) ?_
  refine al_c (pc := 196) (snd_iload C dL_law_196) ?_
  refine al_c (pc := 198) (snd_iconst C dL_law_198 (by decide)) ?_
  refine al_c (pc := 199) (snd_iadd C dL_law_199) ?_
  refine al_c (pc := 200) (snd_Sld C hS dL_law_200) ?_
  refine al_c (pc := 201) (snd_aload_n C dL_law_201 rfl) ?_
  refine al_c (pc := 202) (snd_Wi C CX CN (site_SW C dL_law_202 gL_law_L_newBoard rfl rfl rfl ⟨by decide +kernel, by decide +kernel, by decide +kernel⟩ ⟨by decide, by decide⟩) mL_newBoard) ?_
  refine al_c (pc := 205) (snd_istore C dL_law_205 (by decide)) ?_
  refine al_c (pc := 207) (snd_aload_n C dL_law_207 rfl) ?_
  refine al_c (pc := 208) (snd_aload_n C dL_law_208 rfl) ?_
  refine al_c (pc := 209) (snd_iload C dL_law_209) ?_
  refine al_c (pc := 211) (snd_iconst C dL_law_211 (by decide)) ?_
  refine al_c (pc := 212) (snd_iadd C dL_law_212) ?_
  refine al_c (pc := 213) (snd_Sld C hS dL_law_213) ?_
  refine al_c (pc := 214) (snd_aload_n C dL_law_214 rfl) ?_
  refine al_c (pc := 215) (snd_iload C dL_law_215) ?_
  refine al_c (pc := 217) (snd_iconst C dL_law_217 (by decide)) ?_
  refine al_c (pc := 218) (snd_iadd C dL_law_218) ?_
  refine al_c (pc := 219) (snd_Sld C hS dL_law_219) ?_
  refine al_c (pc := 220) (snd_Gi 9 C (site_V C rfl dL_law_220 gL_law_X4_newBoard rfl rfl rfl ⟨rfl, by decide +kernel, by decide +kernel, by decide +kernel⟩ ⟨by decide, by decide⟩) mX4_newBoard) ?_
  refine al_c (pc := 223) (snd_istore C dL_law_223 (by decide)) ?_
  refine al_c (pc := 225) (snd_aload_n C dL_law_225 rfl) ?_
  refine al_c (pc := 226) (snd_Gi 9 C (site_V C rfl dL_law_226 gL_law_X4_thrown rfl rfl rfl ⟨rfl, by decide +kernel, by decide +kernel, by decide +kernel⟩ ⟨by decide, by decide⟩) mX4_thrown) ?_
  refine al_c (pc := 229) (snd_iload C dL_law_229) ?_
  refine al_c (pc := 231) (snd_icmp_eq C dL_law_231 (by decide)) ?_
  refine al_c (pc := 234) (snd_iconst C dL_law_234 (by decide)) ?_
  refine al_c (pc := 236) (snd_iload C dL_law_236) ?_
  refine al_c (pc := 238) (snd_if_ne C dL_law_238 (by decide)) ?_
  refine al_c (pc := 241) (snd_aload_n C dL_law_241 rfl) ?_
  refine al_c (pc := 242) (snd_iconst C dL_law_242 (by decide)) ?_
  refine al_c (pc := 243) (snd_Jal C dL_law_243) ?_
  refine al_c (pc := 244) (snd_iload C dL_law_244) ?_
  refine al_c (pc := 246) (snd_i2l C dL_law_246) ?_
  refine al_c (pc := 247) (snd_lcmp C dL_law_247) ?_
  refine al_c (pc := 248) (snd_if_eq C dL_law_248 (by decide)) ?_
  refine al_c (pc := 251) (snd_iconst C dL_law_251 (by decide)) ?_
  refine al_c (pc := 253) (snd_goto C dL_law_253 (by decide)) ?_
  exact al_0
set_option maxHeartbeats 4000000 in
set_option maxRecDepth 100000 in
theorem csL0 {Γ : aΓ} {b L : Nat} {xs : Nat → Int32} (C : FOK Γ code wsL_law RL 9 room_1) (CX : FOX Γ) (CN : FOW Γ) (hS : LScr b L xs Γ) {ad : Nat → Nat} {i : Nat} {D9 M : List aE} {o : Nat → Int64} (had : ad 1000 = b) (hL : L ≤ 2048) (hi : i + 4 ≤ L) (hJ : JJ D9 M)
    (H : ∀ C2 M2 o2, JJ C2 M2 → FG Γ 1708 ad (104 + i) (17020 + 5 * i) [(4, .int (nI i)), (3, .ref 21), (2, .ref 9), (1, .ref 0), (0, .ref 1000)] [] (LW C2 M2 o2)) : FG Γ 188 ad (100 + i) (17000 + 5 * i) [(4, .int (nI i)), (3, .ref 21), (2, .ref 9), (1, .ref 0), (0, .ref 1000)] [] (LW D9 M o) := by
  obtain ⟨l9, fc, hC0⟩ := JJ_C hJ
  obtain ⟨l12, fm, hM0⟩ := JJ_M hJ
  have OK := okLc0 C CX CN hS
  refine go OK [1708] 90 ?_
  refine ⟨rfl, had, i + 1, nI_p1 i, by omega, hL, ?_⟩
  refine ⟨rfl, had, i + 2, nI_p2 i, by omega, hL, ?_⟩
  refine ⟨Pw tX4_newBoard svI [.int (xs (i + 1)), .int (xs (i + 2))] M, rfl, (show 100 + i + 1 ≤ 601024 by omega), (show 17000 + 5 * i + 6 ≤ 7293034 by omega), ⟨_, _, _, rfl, wr_ag (ag_newBoard (xs (i + 1)) (xs (i + 2))) code1_ne hJ⟩, fun v X2 hP => ?_⟩
  obtain ⟨C2, o2, rfl, l2, hP⟩ := hP
  refine ⟨rfl, had, i + 1, nI_p1 i, by omega, hL, ?_⟩
  refine ⟨rfl, had, i + 2, nI_p2 i, by omega, hL, ?_⟩
  rcases hP with ⟨rfl, r, ho, h4⟩ | ⟨hv, h4⟩
  · refine ⟨C2, M, [.inr (.inr (1, o2))], [.ref 0, .int (xs (i + 1)), .int (xs (i + 2))], _, 0, _, fm, rfl, (show 100 + i + 1 + 0 ≤ 601024 by omega), (show 17000 + 5 * i + 6 + 0 ≤ 7293034 by omega), rfl, hM0, l2, rfl, rfl, h4, fun r3 M2 h5 => ?_⟩
    obtain ⟨hr3, ht, hJ2⟩ := h5
    obtain ⟨l12b, fm2, hM2⟩ := JJ_M hJ2
    refine ⟨l12b.trans l12.symm, ?_⟩
    refine ⟨C2, M2, [.inr (.inr (1, o2))], [.ref 0], _, 0, [], fm2, rfl, (show 100 + i + 1 + 0 + 0 ≤ 601024 by omega), (show 17000 + 5 * i + 6 + 0 + 0 ≤ 7293034 by omega), rfl, hM2, l2, rfl, rfl, thr_T hJ2 ht, fun r4 M3 h6 => ?_⟩
    obtain ⟨hr4, hM3⟩ := h6
    subst hM3
    refine ⟨rfl, ?_⟩
    refine And.intro (fun _ => ?_) (fun q => absurd hr4 q)
    refine And.intro (fun q => absurd rfl q) (fun _ => ?_)
    refine ⟨_, o2, rfl, lw21 l2 l12b, rfl, ?_⟩
    refine And.intro (fun _ => ?_) (fun q => absurd (by rw [ho, hr3]; exact cmp_self _) q)
    exact FG_wid (show 100 + i + 1 + 0 + 0 ≤ 104 + i by omega) (show 17000 + 5 * i + 6 + 0 + 0 ≤ 17020 + 5 * i by omega) (FG_sub [2, 3, 4, 5, 6] rfl (H _ _ _ hJ2))
  · refine ⟨C2, M, [.inr (.inr (1, o2))], [.ref 0, .int (xs (i + 1)), .int (xs (i + 2))], _, 0, _, fm, rfl, (show 100 + i + 1 + 0 ≤ 601024 by omega), (show 17000 + 5 * i + 6 + 0 ≤ 7293034 by omega), rfl, hM0, l2, rfl, rfl, h4, fun r3 M2 h5 => ?_⟩
    obtain ⟨ht, hJ2⟩ := h5
    obtain ⟨l12b, fm2, hM2⟩ := JJ_M hJ2
    refine ⟨l12b.trans l12.symm, ?_⟩
    refine ⟨C2, M2, [.inr (.inr (1, o2))], [.ref 0], _, 0, [], fm2, rfl, (show 100 + i + 1 + 0 + 0 ≤ 601024 by omega), (show 17000 + 5 * i + 6 + 0 + 0 ≤ 7293034 by omega), rfl, hM2, l2, rfl, rfl, thr_T hJ2 ht, fun r4 M3 h6 => ?_⟩
    obtain ⟨hr4, hM3⟩ := h6
    subst hM3
    refine ⟨rfl, ?_⟩
    refine And.intro (fun _ => ?_) (fun q => absurd hr4 q)
    refine And.intro (fun q => ?_) (fun q => absurd q hv)
    exact FG_wid (show 100 + i + 1 + 0 + 0 ≤ 104 + i by omega) (show 17000 + 5 * i + 6 + 0 + 0 ≤ 17020 + 5 * i by omega) (FG_sub [2, 3, 4, 5, 6] rfl (H _ _ _ hJ2))
def tbLc1 (b L : Nat) (xs : Nat → Int32) : List (Nat × aO) := [(256, oAL 1 257),
  (257, oAL 0 258),
  (258, oIL 4 260),
  (260, oC (1) 261),
  (261, oIadd 262),
  (262, oSld b L xs 263),
  (263, oAL 0 264),
  (264, oIL 4 266),
  (266, oC (2) 267),
  (267, oIadd 268),
  (268, oSld b L xs 269),
  (269, oAL 3 270),
  (270, oWi (tW2 tX3_turnWall (code2 "java/lang/IndexOutOfBoundsException" "java/lang/IllegalStateException") svZ) 4 rmL_turnWall.cells rmL_turnWall.slots room_1.cells room_1.slots 273),
  (273, oIS 5 275),
  (275, oAL 2 276),
  (276, oAL 0 277),
  (277, oIL 4 279),
  (279, oC (1) 280),
  (280, oIadd 281),
  (281, oSld b L xs 282),
  (282, oAL 0 283),
  (283, oIL 4 285),
  (285, oC (2) 286),
  (286, oIadd 287),
  (287, oSld b L xs 288),
  (288, oGi 9 tX4_turnWall 3 3 rmX4_turnWall.cells rmX4_turnWall.slots room_1.cells room_1.slots 291),
  (291, oIS 6 293),
  (293, oAL 2 294),
  (294, oGi 9 tX4_thrown 1 3 rmX4_thrown.cells rmX4_thrown.slots room_1.cells room_1.slots 297),
  (297, oIL 5 299),
  (299, oIc_eq 304 302),
  (302, oC (0) 303),
  (304, oIL 5 306),
  (306, oIf_ne 328 309),
  (309, oAL 3 310),
  (310, oC (0) 311),
  (311, oJal 312),
  (312, oIL 6 314),
  (314, oIf_eq 321 317),
  (317, oCL 1 318),
  (318, oGo 322),
  (321, oCL 0 322),
  (322, oLcmp 323),
  (323, oIf_eq 328 326),
  (326, oC (0) 327),
  (328, oGo 1708)]
set_option maxRecDepth 20000 in
theorem okLc1 {Γ : aΓ} {b L : Nat} {xs : Nat → Int32} (C : FOK Γ code wsL_law RL 9 room_1) (CX : FOX Γ) (CN : FOW Γ) (hS : LScr b L xs Γ) : AllS Γ (tbLc1 b L xs) := by
  unfold tbLc1
  refine al_c (pc := 256) (snd_aload_n C dL_law_256 rfl) ?_
  refine al_c (pc := 257) (snd_aload_n C dL_law_257 rfl) ?_
  refine al_c (pc := 258) (snd_iload C dL_law_258) ?_
  refine al_c (pc := 260) (snd_iconst C dL_law_260 (by decide)) ?_
  refine al_c (pc := 261) (snd_iadd C dL_law_261) ?_
  refine al_c (pc := 262) (snd_Sld C hS dL_law_262) ?_
  refine al_c (pc := 263) (snd_aload_n C dL_law_263 rfl) ?_
  refine al_c (pc := 264) (snd_iload C dL_law_264) ?_
  refine al_c (pc := 266) (snd_iconst C dL_law_266 (by decide)) ?_
  refine al_c (pc := 267) (snd_iadd C dL_law_267) ?_
  refine al_c (pc := 268) (snd_Sld C hS dL_law_268) ?_
  refine al_c (pc := 269) (snd_aload_n C dL_law_269 rfl) ?_
  refine al_c (pc := 270) (snd_Wi C CX CN (site_SW C dL_law_270 gL_law_L_turnWall rfl rfl rfl ⟨by decide +kernel, by decide +kernel, by decide +kernel⟩ ⟨by decide, by decide⟩) mL_turnWall) ?_
  refine al_c (pc := 273) (snd_istore C dL_law_273 (by decide)) ?_
  refine al_c (pc := 275) (snd_aload_n C dL_law_275 rfl) ?_
  refine al_c (pc := 276) (snd_aload_n C dL_law_276 rfl) ?_
  refine al_c (pc := 277) (snd_iload C dL_law_277) ?_
  refine al_c (pc := 279) (snd_iconst C dL_law_279 (by decide)) ?_
  refine al_c (pc := 280) (snd_iadd C dL_law_280) ?_
  refine al_c (pc := 281) (snd_Sld C hS dL_law_281) ?_
  refine al_c (pc := 282) (snd_aload_n C dL_law_282 rfl) ?_
  refine al_c (pc := 283) (snd_iload C dL_law_283) ?_
  refine al_c (pc := 285) (snd_iconst C dL_law_285 (by decide)) ?_
  refine al_c (pc := 286) (snd_iadd C dL_law_286) ?_
  refine al_c (pc := 287) (snd_Sld C hS dL_law_287) ?_
  refine al_c (pc := 288) (snd_Gi 9 C (site_V C rfl dL_law_288 gL_law_X4_turnWall rfl rfl rfl ⟨rfl, by decide +kernel, by decide +kernel, by decide +kernel⟩ ⟨by decide, by decide⟩) mX4_turnWall) ?_
  refine al_c (pc := 291) (snd_istore C dL_law_291 (by decide)) ?_
  refine al_c (pc := 293) (snd_aload_n C dL_law_293 rfl) ?_
  refine al_c (pc := 294) (snd_Gi 9 C (site_V C rfl dL_law_294 gL_law_X4_thrown rfl rfl rfl ⟨rfl, by decide +kernel, by decide +kernel, by decide +kernel⟩ ⟨by decide, by decide⟩) mX4_thrown) ?_
  refine al_c (pc := 297) (snd_iload C dL_law_297) ?_
  refine al_c (pc := 299) (snd_icmp_eq C dL_law_299 (by decide)) ?_
  refine al_c (pc := 302) (snd_iconst C dL_law_302 (by decide)) ?_
  refine al_c (pc := 304) (snd_iload C dL_law_304) ?_
  refine al_c (pc := 306) (snd_if_ne C dL_law_306 (by decide)) ?_
  refine al_c (pc := 309) (snd_aload_n C dL_law_309 rfl) ?_
  refine al_c (pc := 310) (snd_iconst C dL_law_310 (by decide)) ?_
  refine al_c (pc := 311) (snd_Jal C dL_law_311) ?_
  refine al_c (pc := 312) (snd_iload C dL_law_312) ?_
  refine al_c (pc := 314) (snd_if_eq C dL_law_314 (by decide)) ?_
  refine al_c (pc := 317) (snd_lconst C dL_law_317 (by decide)) ?_
  refine al_c (pc := 318) (snd_goto C dL_law_318 (by decide)) ?_
  refine al_c (pc := 321) (snd_lconst C dL_law_321 (by decide)) ?_
  refine al_c (pc := 322) (snd_lcmp C dL_law_322) ?_
  refine al_c (pc := 323) (snd_if_eq C dL_law_323 (by decide)) ?_
  refine al_c (pc := 326) (snd_iconst C dL_law_326 (by decide)) ?_
  refine al_c (pc := 328) (snd_goto C dL_law_328 (by decide)) ?_
  exact al_0
set_option maxHeartbeats 4000000 in
set_option maxRecDepth 100000 in
theorem csL1 {Γ : aΓ} {b L : Nat} {xs : Nat → Int32} (C : FOK Γ code wsL_law RL 9 room_1) (CX : FOX Γ) (CN : FOW Γ) (hS : LScr b L xs Γ) {ad : Nat → Nat} {i : Nat} {D9 M : List aE} {o : Nat → Int64} (had : ad 1000 = b) (hL : L ≤ 2048) (hi : i + 4 ≤ L) (hJ : JJ D9 M)
    (H : ∀ C2 M2 o2, JJ C2 M2 → FG Γ 1708 ad (104 + i) (17020 + 5 * i) [(4, .int (nI i)), (3, .ref 21), (2, .ref 9), (1, .ref 0), (0, .ref 1000)] [] (LW C2 M2 o2)) : FG Γ 256 ad (100 + i) (17000 + 5 * i) [(4, .int (nI i)), (3, .ref 21), (2, .ref 9), (1, .ref 0), (0, .ref 1000)] [] (LW D9 M o) := by
  obtain ⟨l9, fc, hC0⟩ := JJ_C hJ
  obtain ⟨l12, fm, hM0⟩ := JJ_M hJ
  have OK := okLc1 C CX CN hS
  refine go OK [1708] 90 ?_
  refine ⟨rfl, had, i + 1, nI_p1 i, by omega, hL, ?_⟩
  refine ⟨rfl, had, i + 2, nI_p2 i, by omega, hL, ?_⟩
  refine ⟨Pw tX4_turnWall svZ [.int (xs (i + 1)), .int (xs (i + 2))] M, rfl, (show 100 + i + 2 ≤ 601024 by omega), (show 17000 + 5 * i + 12 ≤ 7293034 by omega), ⟨_, _, _, rfl, wr_ag (ag_turnWall (xs (i + 1)) (xs (i + 2))) code2_ne hJ⟩, fun v X2 hP => ?_⟩
  obtain ⟨C2, o2, rfl, l2, hP⟩ := hP
  refine ⟨rfl, had, i + 1, nI_p1 i, by omega, hL, ?_⟩
  refine ⟨rfl, had, i + 2, nI_p2 i, by omega, hL, ?_⟩
  rcases hP with ⟨rfl, r, ho, h4⟩ | ⟨hv, h4⟩
  · refine ⟨C2, M, [.inr (.inr (1, o2))], [.ref 0, .int (xs (i + 1)), .int (xs (i + 2))], _, 0, _, fm, rfl, (show 100 + i + 2 + 0 ≤ 601024 by omega), (show 17000 + 5 * i + 12 + 0 ≤ 7293034 by omega), rfl, hM0, l2, rfl, rfl, h4, fun r3 M2 h5 => ?_⟩
    obtain ⟨hr3, ht, hJ2⟩ := h5
    obtain ⟨l12b, fm2, hM2⟩ := JJ_M hJ2
    refine ⟨l12b.trans l12.symm, ?_⟩
    refine ⟨C2, M2, [.inr (.inr (1, o2))], [.ref 0], _, 0, [], fm2, rfl, (show 100 + i + 2 + 0 + 0 ≤ 601024 by omega), (show 17000 + 5 * i + 12 + 0 + 0 ≤ 7293034 by omega), rfl, hM2, l2, rfl, rfl, thr_T hJ2 ht, fun r4 M3 h6 => ?_⟩
    obtain ⟨hr4, hM3⟩ := h6
    subst hM3
    refine ⟨rfl, ?_⟩
    refine And.intro (fun _ => ?_) (fun q => absurd hr4 q)
    refine And.intro (fun q => absurd rfl q) (fun _ => ?_)
    refine ⟨_, o2, rfl, lw21 l2 l12b, rfl, ?_⟩
    refine And.intro (fun z => ?_) (fun z => ?_)
    · refine And.intro (fun _ => ?_) (fun q => absurd (by rw [ho, show svZ r = 0 from if_pos (hr3.symm.trans z)]; exact cmp_self _) q)
      exact FG_wid (show 100 + i + 2 + 0 + 0 ≤ 104 + i by omega) (show 17000 + 5 * i + 12 + 0 + 0 ≤ 17020 + 5 * i by omega) (FG_sub [2, 3, 4, 5, 6] rfl (H _ _ _ hJ2))
    · refine And.intro (fun _ => ?_) (fun q => absurd (by rw [ho, show svZ r = 1 from if_neg (fun y => z (hr3.trans y))]; exact cmp_self _) q)
      exact FG_wid (show 100 + i + 2 + 0 + 0 ≤ 104 + i by omega) (show 17000 + 5 * i + 12 + 0 + 0 ≤ 17020 + 5 * i by omega) (FG_sub [2, 3, 4, 5, 6] rfl (H _ _ _ hJ2))
  · refine ⟨C2, M, [.inr (.inr (1, o2))], [.ref 0, .int (xs (i + 1)), .int (xs (i + 2))], _, 0, _, fm, rfl, (show 100 + i + 2 + 0 ≤ 601024 by omega), (show 17000 + 5 * i + 12 + 0 ≤ 7293034 by omega), rfl, hM0, l2, rfl, rfl, h4, fun r3 M2 h5 => ?_⟩
    obtain ⟨ht, hJ2⟩ := h5
    obtain ⟨l12b, fm2, hM2⟩ := JJ_M hJ2
    refine ⟨l12b.trans l12.symm, ?_⟩
    refine ⟨C2, M2, [.inr (.inr (1, o2))], [.ref 0], _, 0, [], fm2, rfl, (show 100 + i + 2 + 0 + 0 ≤ 601024 by omega), (show 17000 + 5 * i + 12 + 0 + 0 ≤ 7293034 by omega), rfl, hM2, l2, rfl, rfl, thr_T hJ2 ht, fun r4 M3 h6 => ?_⟩
    obtain ⟨hr4, hM3⟩ := h6
    subst hM3
    refine ⟨rfl, ?_⟩
    refine And.intro (fun _ => ?_) (fun q => absurd hr4 q)
    refine And.intro (fun q => ?_) (fun q => absurd q hv)
    exact FG_wid (show 100 + i + 2 + 0 + 0 ≤ 104 + i by omega) (show 17000 + 5 * i + 12 + 0 + 0 ≤ 17020 + 5 * i by omega) (FG_sub [2, 3, 4, 5, 6] rfl (H _ _ _ hJ2))
def tbLc7 (b L : Nat) (xs : Nat → Int32) : List (Nat × aO) := [(659, oAL 1 660),
  (660, oGi 0 tX3_column 1 2 rmX3_column.cells rmX3_column.slots room_1.cells room_1.slots 663),
  (663, oAL 2 664),
  (664, oGi 9 tX4_column 1 3 rmX4_column.cells rmX4_column.slots room_1.cells room_1.slots 667),
  (667, oIc_eq 1708 670),
  (670, oC (0) 671)]
set_option maxRecDepth 20000 in
theorem okLc7 {Γ : aΓ} {b L : Nat} {xs : Nat → Int32} (C : FOK Γ code wsL_law RL 9 room_1) (CX : FOX Γ) (CN : FOW Γ) (hS : LScr b L xs Γ) : AllS Γ (tbLc7 b L xs) := by
  unfold tbLc7
  refine al_c (pc := 659) (snd_aload_n C dL_law_659 rfl) ?_
  refine al_c (pc := 660) (snd_Gi 0 C (site_V C rfl dL_law_660 gL_law_X3_column rfl rfl rfl ⟨rfl, by decide +kernel, by decide +kernel, by decide +kernel⟩ ⟨by decide, by decide⟩) mX3_column) ?_
  refine al_c (pc := 663) (snd_aload_n C dL_law_663 rfl) ?_
  refine al_c (pc := 664) (snd_Gi 9 C (site_V C rfl dL_law_664 gL_law_X4_column rfl rfl rfl ⟨rfl, by decide +kernel, by decide +kernel, by decide +kernel⟩ ⟨by decide, by decide⟩) mX4_column) ?_
  refine al_c (pc := 667) (snd_icmp_eq C dL_law_667 (by decide)) ?_
  refine al_c (pc := 670) (snd_iconst C dL_law_670 (by decide)) ?_
  exact al_0
set_option maxHeartbeats 4000000 in
set_option maxRecDepth 100000 in
theorem csL7 {Γ : aΓ} {b L : Nat} {xs : Nat → Int32} (C : FOK Γ code wsL_law RL 9 room_1) (CX : FOX Γ) (CN : FOW Γ) (hS : LScr b L xs Γ) {ad : Nat → Nat} {i : Nat} {D9 M : List aE} {o : Nat → Int64} (had : ad 1000 = b) (hL : L ≤ 2048) (hi : i + 4 ≤ L) (hJ : JJ D9 M)
    (H : ∀ C2 M2 o2, JJ C2 M2 → FG Γ 1708 ad (104 + i) (17020 + 5 * i) [(4, .int (nI i)), (3, .ref 21), (2, .ref 9), (1, .ref 0), (0, .ref 1000)] [] (LW C2 M2 o2)) : FG Γ 659 ad (100 + i) (17000 + 5 * i) [(4, .int (nI i)), (3, .ref 21), (2, .ref 9), (1, .ref 0), (0, .ref 1000)] [] (LW D9 M o) := by
  obtain ⟨l9, fc, hC0⟩ := JJ_C hJ
  obtain ⟨l12, fm, hM0⟩ := JJ_M hJ
  have OK := okLc7 C CX CN hS
  refine go OK [1708] 90 ?_
  refine ⟨[], D9, M.map (shE 9) ++ [.inr (.inr (1, o))], [.ref 0], _, 0, [], fc, rfl, (show 100 + i + 0 ≤ 601024 by omega), (show 17000 + 5 * i + 0 ≤ 7293034 by omega), rfl, hC0, rfl, lw_0, rfl, ag_column D9 M hJ, fun r C2 h5 => ?_⟩
  obtain ⟨l2, h4⟩ := h5
  refine ⟨l2.trans l9.symm, ?_⟩
  refine ⟨C2, M, [.inr (.inr (1, o))], [.ref 0], _, 0, [], fm, rfl, (show 100 + i + 0 + 0 ≤ 601024 by omega), (show 17000 + 5 * i + 0 + 0 ≤ 7293034 by omega), rfl, hM0, l2, lw_1, rfl, h4, fun r3 M2 h6 => ?_⟩
  obtain ⟨rfl, hJ2⟩ := h6
  refine ⟨(JJ_M hJ2).1.trans l12.symm, ?_⟩
  refine And.intro (fun _ => ?_) (fun q => absurd rfl q)
  exact FG_wid (show 100 + i + 0 + 0 ≤ 104 + i by omega) (show 17000 + 5 * i + 0 + 0 ≤ 17020 + 5 * i by omega) (H _ _ _ hJ2)
