/-! ===== cases of the law, by program (mklaw.py) ===== -/
def tbLc2 (b L : Nat) (xs : Nat → Int32) : List (Nat × aO) := [(331, oAL 1 332),
  (332, oAL 0 333),
  (333, oIL 4 335),
  (335, oC (1) 336),
  (336, oIadd 337),
  (337, oSld b L xs 338),
  (338, oAL 0 339),
  (339, oIL 4 341),
  (341, oC (2) 342),
  (342, oIadd 343),
  (343, oSld b L xs 344),
  (344, oAL 3 345),
  (345, oWi (tW2 tX3_setColour (code2 "java/lang/IndexOutOfBoundsException" "java/lang/IllegalArgumentException") svI) 4 rmL_setColour.cells rmL_setColour.slots room_1.cells room_1.slots 348),
  (348, oIS 5 350),
  (350, oAL 2 351),
  (351, oAL 0 352),
  (352, oIL 4 354),
  (354, oC (1) 355),
  (355, oIadd 356),
  (356, oSld b L xs 357),
  (357, oAL 0 358),
  (358, oIL 4 360),
  (360, oC (2) 361),
  (361, oIadd 362),
  (362, oSld b L xs 363),
  (363, oGi 9 tX4_setColour 3 3 rmX4_setColour.cells rmX4_setColour.slots room_1.cells room_1.slots 366),
  (366, oIS 6 368),
  (368, oAL 2 369),
  (369, oGi 9 tX4_thrown 1 3 rmX4_thrown.cells rmX4_thrown.slots room_1.cells room_1.slots 372),
  (372, oIL 5 374),
  (374, oIc_eq 379 377),
  (377, oC (0) 378),
  (379, oIL 5 381),
  (381, oIf_ne 396 384),
  (384, oAL 3 385),
  (385, oC (0) 386),
  (386, oJal 387),
  (387, oIL 6 389),
  (389, oI2l 390),
  (390, oLcmp 391),
  (391, oIf_eq 396 394),
  (394, oC (0) 395),
  (396, oGo 1708)]
set_option maxRecDepth 20000 in
theorem okLc2 {Γ : aΓ} {b L : Nat} {xs : Nat → Int32} (C : FOK Γ code wsL_law RL 9 room_1) (CX : FOX Γ) (CN : FOW Γ) (hS : LScr b L xs Γ) : AllS Γ (tbLc2 b L xs) := by
  unfold tbLc2
  refine al_c (pc := 331) (snd_aload_n C dL_law_331 rfl) ?_
  refine al_c (pc := 332) (snd_aload_n C dL_law_332 rfl) ?_
  refine al_c (pc := 333) (snd_iload C dL_law_333) ?_
  refine al_c (pc := 335) (snd_iconst C dL_law_335 (by decide)) ?_
  refine al_c (pc := 336) (snd_iadd C dL_law_336) ?_
  refine al_c (pc := 337) (snd_Sld C hS dL_law_337) ?_
  refine al_c (pc := 338) (snd_aload_n C dL_law_338 rfl) ?_
  refine al_c (pc := 339) (snd_iload C dL_law_339) ?_
  refine al_c (pc := 341) (snd_iconst C dL_law_341 (by decide)) ?_
  refine al_c (pc := 342) (snd_iadd C dL_law_342) ?_
  refine al_c (pc := 343) (snd_Sld C hS dL_law_343) ?_
  refine al_c (pc := 344) (snd_aload_n C dL_law_344 rfl) ?_
  refine al_c (pc := 345) (snd_Wi C CX CN (site_SW C dL_law_345 gL_law_L_setColour rfl rfl rfl ⟨by decide +kernel, by decide +kernel, by decide +kernel⟩ ⟨by decide, by decide⟩) mL_setColour) ?_
  refine al_c (pc := 348) (snd_istore C dL_law_348 (by decide)) ?_
  refine al_c (pc := 350) (snd_aload_n C dL_law_350 rfl) ?_
  refine al_c (pc := 351) (snd_aload_n C dL_law_351 rfl) ?_
  refine al_c (pc := 352) (snd_iload C dL_law_352) ?_
  refine al_c (pc := 354) (snd_iconst C dL_law_354 (by decide)) ?_
  refine al_c (pc := 355) (snd_iadd C dL_law_355) ?_
  refine al_c (pc := 356) (snd_Sld C hS dL_law_356) ?_
  refine al_c (pc := 357) (snd_aload_n C dL_law_357 rfl) ?_
  refine al_c (pc := 358) (snd_iload C dL_law_358) ?_
  refine al_c (pc := 360) (snd_iconst C dL_law_360 (by decide)) ?_
  refine al_c (pc := 361) (snd_iadd C dL_law_361) ?_
  refine al_c (pc := 362) (snd_Sld C hS dL_law_362) ?_
  refine al_c (pc := 363) (snd_Gi 9 C (site_V C rfl dL_law_363 gL_law_X4_setColour rfl rfl rfl ⟨rfl, by decide +kernel, by decide +kernel, by decide +kernel⟩ ⟨by decide, by decide⟩) mX4_setColour) ?_
  refine al_c (pc := 366) (snd_istore C dL_law_366 (by decide)) ?_
  refine al_c (pc := 368) (snd_aload_n C dL_law_368 rfl) ?_
  refine al_c (pc := 369) (snd_Gi 9 C (site_V C rfl dL_law_369 gL_law_X4_thrown rfl rfl rfl ⟨rfl, by decide +kernel, by decide +kernel, by decide +kernel⟩ ⟨by decide, by decide⟩) mX4_thrown) ?_
  refine al_c (pc := 372) (snd_iload C dL_law_372) ?_
  refine al_c (pc := 374) (snd_icmp_eq C dL_law_374 (by decide)) ?_
  refine al_c (pc := 377) (snd_iconst C dL_law_377 (by decide)) ?_
  refine al_c (pc := 379) (snd_iload C dL_law_379) ?_
  refine al_c (pc := 381) (snd_if_ne C dL_law_381 (by decide)) ?_
  refine al_c (pc := 384) (snd_aload_n C dL_law_384 rfl) ?_
  refine al_c (pc := 385) (snd_iconst C dL_law_385 (by decide)) ?_
  refine al_c (pc := 386) (snd_Jal C dL_law_386) ?_
  refine al_c (pc := 387) (snd_iload C dL_law_387) ?_
  refine al_c (pc := 389) (snd_i2l C dL_law_389) ?_
  refine al_c (pc := 390) (snd_lcmp C dL_law_390) ?_
  refine al_c (pc := 391) (snd_if_eq C dL_law_391 (by decide)) ?_
  refine al_c (pc := 394) (snd_iconst C dL_law_394 (by decide)) ?_
  refine al_c (pc := 396) (snd_goto C dL_law_396 (by decide)) ?_
  exact al_0
set_option maxHeartbeats 4000000 in
set_option maxRecDepth 100000 in
theorem csL2 {Γ : aΓ} {b L : Nat} {xs : Nat → Int32} (C : FOK Γ code wsL_law RL 9 room_1) (CX : FOX Γ) (CN : FOW Γ) (hS : LScr b L xs Γ) {ad : Nat → Nat} {i : Nat} {D9 M : List aE} {o : Nat → Int64} (had : ad 1000 = b) (hL : L ≤ 2048) (hi : i + 4 ≤ L) (hJ : JJ D9 M)
    (H : ∀ C2 M2 o2, JJ C2 M2 → FG Γ 1708 ad (104 + i) (17020 + 5 * i) [(4, .int (nI i)), (3, .ref 21), (2, .ref 9), (1, .ref 0), (0, .ref 1000)] [] (LW C2 M2 o2)) : FG Γ 331 ad (100 + i) (17000 + 5 * i) [(4, .int (nI i)), (3, .ref 21), (2, .ref 9), (1, .ref 0), (0, .ref 1000)] [] (LW D9 M o) := by
  obtain ⟨l9, fc, hC0⟩ := JJ_C hJ
  obtain ⟨l12, fm, hM0⟩ := JJ_M hJ
  have OK := okLc2 C CX CN hS
  refine go OK [1708] 90 ?_
  refine ⟨rfl, had, i + 1, nI_p1 i, by omega, hL, ?_⟩
  refine ⟨rfl, had, i + 2, nI_p2 i, by omega, hL, ?_⟩
  refine ⟨Pw tX4_setColour svI [.int (xs (i + 1)), .int (xs (i + 2))] M, rfl, (show 100 + i + 2 ≤ 601024 by omega), (show 17000 + 5 * i + 12 ≤ 7293034 by omega), ⟨_, _, _, rfl, wr_ag (ag_setColour (xs (i + 1)) (xs (i + 2))) code2_ne hJ⟩, fun v X2 hP => ?_⟩
  obtain ⟨C2, o2, rfl, l2, hP⟩ := hP
  refine ⟨rfl, had, i + 1, nI_p1 i, by omega, hL, ?_⟩
  refine ⟨rfl, had, i + 2, nI_p2 i, by omega, hL, ?_⟩
  rcases hP with ⟨rfl, r, ho, h4⟩ | ⟨hv, h4⟩
  · refine ⟨C2, M, [.inr (.inr (1, o2))], [.ref 0, .int (xs (i + 1)), .int (xs (i + 2))], _, 0, _, fm, rfl, (show 100 + i + 2 + 0 ≤ 601024 by omega), (show 17000 + 5 * i + 12 + 0 ≤ 7293034 by omega), rfl, hM0, l2, rfl, rfl, h4, fun r3 M2 h5 => ?_⟩
    obtain ⟨hr3, ht, hJ2⟩ := h5
    obtain ⟨l12b, fm2, hM2⟩ := JJ_M hJ2
    refine ⟨l12b.trans l12.symm, ?_⟩
    refine ⟨C2, M2, [.inr (.inr (1, o2))], [.ref 0], _, 0, [], fm2, rfl, (show 100 + i + 2 + 0 + 0 ≤ 601024 by omega), (show 17000 + 5 * i + 12 + 0 + 0 ≤ 7293034 by omega), rfl, hM2, l2, rfl, rfl, thr_T hJ2 ht, fun r4 M3 h6 => ?_⟩
    obtain ⟨hr4, hM3⟩ := h6
    subst hM3
    refine ⟨rfl, ?_⟩
    refine And.intro (fun _ => ?_) (fun q => absurd hr4 q)
    refine And.intro (fun q => absurd rfl q) (fun _ => ?_)
    refine ⟨_, o2, rfl, lw21 l2 l12b, rfl, ?_⟩
    refine And.intro (fun _ => ?_) (fun q => absurd (by rw [ho, hr3]; exact cmp_self _) q)
    exact FG_wid (show 100 + i + 2 + 0 + 0 ≤ 104 + i by omega) (show 17000 + 5 * i + 12 + 0 + 0 ≤ 17020 + 5 * i by omega) (FG_sub [2, 3, 4, 5, 6] rfl (H _ _ _ hJ2))
  · refine ⟨C2, M, [.inr (.inr (1, o2))], [.ref 0, .int (xs (i + 1)), .int (xs (i + 2))], _, 0, _, fm, rfl, (show 100 + i + 2 + 0 ≤ 601024 by omega), (show 17000 + 5 * i + 12 + 0 ≤ 7293034 by omega), rfl, hM0, l2, rfl, rfl, h4, fun r3 M2 h5 => ?_⟩
    obtain ⟨ht, hJ2⟩ := h5
    obtain ⟨l12b, fm2, hM2⟩ := JJ_M hJ2
    refine ⟨l12b.trans l12.symm, ?_⟩
    refine ⟨C2, M2, [.inr (.inr (1, o2))], [.ref 0], _, 0, [], fm2, rfl, (show 100 + i + 2 + 0 + 0 ≤ 601024 by omega), (show 17000 + 5 * i + 12 + 0 + 0 ≤ 7293034 by omega), rfl, hM2, l2, rfl, rfl, thr_T hJ2 ht, fun r4 M3 h6 => ?_⟩
    obtain ⟨hr4, hM3⟩ := h6
    subst hM3
    refine ⟨rfl, ?_⟩
    refine And.intro (fun _ => ?_) (fun q => absurd hr4 q)
    refine And.intro (fun q => ?_) (fun q => absurd q hv)
    exact FG_wid (show 100 + i + 2 + 0 + 0 ≤ 104 + i by omega) (show 17000 + 5 * i + 12 + 0 + 0 ≤ 17020 + 5 * i by omega) (FG_sub [2, 3, 4, 5, 6] rfl (H _ _ _ hJ2))
def tbLc3 (b L : Nat) (xs : Nat → Int32) : List (Nat × aO) := [(399, oAL 1 400),
  (400, oAL 0 401),
  (401, oIL 4 403),
  (403, oC (1) 404),
  (404, oIadd 405),
  (405, oSld b L xs 406),
  (406, oAL 0 407),
  (407, oIL 4 409),
  (409, oC (2) 410),
  (410, oIadd 411),
  (411, oSld b L xs 412),
  (412, oAL 3 413),
  (413, oWi (tW2 tX3_addPaint (code2 "java/lang/IndexOutOfBoundsException" "java/lang/IllegalArgumentException") svI) 4 rmL_addPaint.cells rmL_addPaint.slots room_1.cells room_1.slots 416),
  (416, oIS 5 418),
  (418, oAL 2 419),
  (419, oAL 0 420),
  (420, oIL 4 422),
  (422, oC (1) 423),
  (423, oIadd 424),
  (424, oSld b L xs 425),
  (425, oAL 0 426),
  (426, oIL 4 428),
  (428, oC (2) 429),
  (429, oIadd 430),
  (430, oSld b L xs 431),
  (431, oGi 9 tX4_addPaint 3 3 rmX4_addPaint.cells rmX4_addPaint.slots room_1.cells room_1.slots 434),
  (434, oIS 6 436),
  (436, oAL 2 437),
  (437, oGi 9 tX4_thrown 1 3 rmX4_thrown.cells rmX4_thrown.slots room_1.cells room_1.slots 440),
  (440, oIL 5 442),
  (442, oIc_eq 447 445),
  (445, oC (0) 446),
  (447, oIL 5 449),
  (449, oIf_ne 464 452),
  (452, oAL 3 453),
  (453, oC (0) 454),
  (454, oJal 455),
  (455, oIL 6 457),
  (457, oI2l 458),
  (458, oLcmp 459),
  (459, oIf_eq 464 462),
  (462, oC (0) 463),
  (464, oGo 1708)]
set_option maxRecDepth 20000 in
theorem okLc3 {Γ : aΓ} {b L : Nat} {xs : Nat → Int32} (C : FOK Γ code wsL_law RL 9 room_1) (CX : FOX Γ) (CN : FOW Γ) (hS : LScr b L xs Γ) : AllS Γ (tbLc3 b L xs) := by
  unfold tbLc3
  refine al_c (pc := 399) (snd_aload_n C dL_law_399 rfl) ?_
  refine al_c (pc := 400) (snd_aload_n C dL_law_400 rfl) ?_
  refine al_c (pc := 401) (snd_iload C dL_law_401) ?_
  refine al_c (pc := 403) (snd_iconst C dL_law_403 (by decide)) ?_
  refine al_c (pc := 404) (snd_iadd C dL_law_404) ?_
  refine al_c (pc := 405) (snd_Sld C hS dL_law_405) ?_
  refine al_c (pc := 406) (snd_aload_n C dL_law_406 rfl) ?_
  refine al_c (pc := 407) (snd_iload C dL_law_407) ?_
  refine al_c (pc := 409) (snd_iconst C dL_law_409 (by decide)) ?_
  refine al_c (pc := 410) (snd_iadd C dL_law_410) ?_
  refine al_c (pc := 411) (snd_Sld C hS dL_law_411) ?_
  refine al_c (pc := 412) (snd_aload_n C dL_law_412 rfl) ?_
  refine al_c (pc := 413) (snd_Wi C CX CN (site_SW C dL_law_413 gL_law_L_addPaint rfl rfl rfl ⟨by decide +kernel, by decide +kernel, by decide +kernel⟩ ⟨by decide, by decide⟩) mL_addPaint) ?_
  refine al_c (pc := 416) (snd_istore C dL_law_416 (by decide)) ?_
  refine al_c (pc := 418) (snd_aload_n C dL_law_418 rfl) ?_
  refine al_c (pc := 419) (snd_aload_n C dL_law_419 rfl) ?_
  refine al_c (pc := 420) (snd_iload C dL_law_420) ?_
  refine al_c (pc := 422) (snd_iconst C dL_law_422 (by decide)) ?_
  refine al_c (pc := 423) (snd_iadd C dL_law_423) ?_
  refine al_c (pc := 424) (snd_Sld C hS dL_law_424) ?_
  refine al_c (pc := 425) (snd_aload_n C dL_law_425 rfl) ?_
  refine al_c (pc := 426) (snd_iload C dL_law_426) ?_
  refine al_c (pc := 428) (snd_iconst C dL_law_428 (by decide)) ?_
  refine al_c (pc := 429) (snd_iadd C dL_law_429) ?_
  refine al_c (pc := 430) (snd_Sld C hS dL_law_430) ?_
  refine al_c (pc := 431) (snd_Gi 9 C (site_V C rfl dL_law_431 gL_law_X4_addPaint rfl rfl rfl ⟨rfl, by decide +kernel, by decide +kernel, by decide +kernel⟩ ⟨by decide, by decide⟩) mX4_addPaint) ?_
  refine al_c (pc := 434) (snd_istore C dL_law_434 (by decide)) ?_
  refine al_c (pc := 436) (snd_aload_n C dL_law_436 rfl) ?_
  refine al_c (pc := 437) (snd_Gi 9 C (site_V C rfl dL_law_437 gL_law_X4_thrown rfl rfl rfl ⟨rfl, by decide +kernel, by decide +kernel, by decide +kernel⟩ ⟨by decide, by decide⟩) mX4_thrown) ?_
  refine al_c (pc := 440) (snd_iload C dL_law_440) ?_
  refine al_c (pc := 442) (snd_icmp_eq C dL_law_442 (by decide)) ?_
  refine al_c (pc := 445) (snd_iconst C dL_law_445 (by decide)) ?_
  refine al_c (pc := 447) (snd_iload C dL_law_447) ?_
  refine al_c (pc := 449) (snd_if_ne C dL_law_449 (by decide)) ?_
  refine al_c (pc := 452) (snd_aload_n C dL_law_452 rfl) ?_
  refine al_c (pc := 453) (snd_iconst C dL_law_453 (by decide)) ?_
  refine al_c (pc := 454) (snd_Jal C dL_law_454) ?_
  refine al_c (pc := 455) (snd_iload C dL_law_455) ?_
  refine al_c (pc := 457) (snd_i2l C dL_law_457) ?_
  refine al_c (pc := 458) (snd_lcmp C dL_law_458) ?_
  refine al_c (pc := 459) (snd_if_eq C dL_law_459 (by decide)) ?_
  refine al_c (pc := 462) (snd_iconst C dL_law_462 (by decide)) ?_
  refine al_c (pc := 464) (snd_goto C dL_law_464 (by decide)) ?_
  exact al_0
set_option maxHeartbeats 4000000 in
set_option maxRecDepth 100000 in
theorem csL3 {Γ : aΓ} {b L : Nat} {xs : Nat → Int32} (C : FOK Γ code wsL_law RL 9 room_1) (CX : FOX Γ) (CN : FOW Γ) (hS : LScr b L xs Γ) {ad : Nat → Nat} {i : Nat} {D9 M : List aE} {o : Nat → Int64} (had : ad 1000 = b) (hL : L ≤ 2048) (hi : i + 4 ≤ L) (hJ : JJ D9 M)
    (H : ∀ C2 M2 o2, JJ C2 M2 → FG Γ 1708 ad (104 + i) (17020 + 5 * i) [(4, .int (nI i)), (3, .ref 21), (2, .ref 9), (1, .ref 0), (0, .ref 1000)] [] (LW C2 M2 o2)) : FG Γ 399 ad (100 + i) (17000 + 5 * i) [(4, .int (nI i)), (3, .ref 21), (2, .ref 9), (1, .ref 0), (0, .ref 1000)] [] (LW D9 M o) := by
  obtain ⟨l9, fc, hC0⟩ := JJ_C hJ
  obtain ⟨l12, fm, hM0⟩ := JJ_M hJ
  have OK := okLc3 C CX CN hS
  refine go OK [1708] 90 ?_
  refine ⟨rfl, had, i + 1, nI_p1 i, by omega, hL, ?_⟩
  refine ⟨rfl, had, i + 2, nI_p2 i, by omega, hL, ?_⟩
  refine ⟨Pw tX4_addPaint svI [.int (xs (i + 1)), .int (xs (i + 2))] M, rfl, (show 100 + i + 2 ≤ 601024 by omega), (show 17000 + 5 * i + 12 ≤ 7293034 by omega), ⟨_, _, _, rfl, wr_ag (ag_addPaint (xs (i + 1)) (xs (i + 2))) code2_ne hJ⟩, fun v X2 hP => ?_⟩
  obtain ⟨C2, o2, rfl, l2, hP⟩ := hP
  refine ⟨rfl, had, i + 1, nI_p1 i, by omega, hL, ?_⟩
  refine ⟨rfl, had, i + 2, nI_p2 i, by omega, hL, ?_⟩
  rcases hP with ⟨rfl, r, ho, h4⟩ | ⟨hv, h4⟩
  · refine ⟨C2, M, [.inr (.inr (1, o2))], [.ref 0, .int (xs (i + 1)), .int (xs (i + 2))], _, 0, _, fm, rfl, (show 100 + i + 2 + 0 ≤ 601024 by omega), (show 17000 + 5 * i + 12 + 0 ≤ 7293034 by omega), rfl, hM0, l2, rfl, rfl, h4, fun r3 M2 h5 => ?_⟩
    obtain ⟨hr3, ht, hJ2⟩ := h5
    obtain ⟨l12b, fm2, hM2⟩ := JJ_M hJ2
    refine ⟨l12b.trans l12.symm, ?_⟩
    refine ⟨C2, M2, [.inr (.inr (1, o2))], [.ref 0], _, 0, [], fm2, rfl, (show 100 + i + 2 + 0 + 0 ≤ 601024 by omega), (show 17000 + 5 * i + 12 + 0 + 0 ≤ 7293034 by omega), rfl, hM2, l2, rfl, rfl, thr_T hJ2 ht, fun r4 M3 h6 => ?_⟩
    obtain ⟨hr4, hM3⟩ := h6
    subst hM3
    refine ⟨rfl, ?_⟩
    refine And.intro (fun _ => ?_) (fun q => absurd hr4 q)
    refine And.intro (fun q => absurd rfl q) (fun _ => ?_)
    refine ⟨_, o2, rfl, lw21 l2 l12b, rfl, ?_⟩
    refine And.intro (fun _ => ?_) (fun q => absurd (by rw [ho, hr3]; exact cmp_self _) q)
    exact FG_wid (show 100 + i + 2 + 0 + 0 ≤ 104 + i by omega) (show 17000 + 5 * i + 12 + 0 + 0 ≤ 17020 + 5 * i by omega) (FG_sub [2, 3, 4, 5, 6] rfl (H _ _ _ hJ2))
  · refine ⟨C2, M, [.inr (.inr (1, o2))], [.ref 0, .int (xs (i + 1)), .int (xs (i + 2))], _, 0, _, fm, rfl, (show 100 + i + 2 + 0 ≤ 601024 by omega), (show 17000 + 5 * i + 12 + 0 ≤ 7293034 by omega), rfl, hM0, l2, rfl, rfl, h4, fun r3 M2 h5 => ?_⟩
    obtain ⟨ht, hJ2⟩ := h5
    obtain ⟨l12b, fm2, hM2⟩ := JJ_M hJ2
    refine ⟨l12b.trans l12.symm, ?_⟩
    refine ⟨C2, M2, [.inr (.inr (1, o2))], [.ref 0], _, 0, [], fm2, rfl, (show 100 + i + 2 + 0 + 0 ≤ 601024 by omega), (show 17000 + 5 * i + 12 + 0 + 0 ≤ 7293034 by omega), rfl, hM2, l2, rfl, rfl, thr_T hJ2 ht, fun r4 M3 h6 => ?_⟩
    obtain ⟨hr4, hM3⟩ := h6
    subst hM3
    refine ⟨rfl, ?_⟩
    refine And.intro (fun _ => ?_) (fun q => absurd hr4 q)
    refine And.intro (fun q => ?_) (fun q => absurd q hv)
    exact FG_wid (show 100 + i + 2 + 0 + 0 ≤ 104 + i by omega) (show 17000 + 5 * i + 12 + 0 + 0 ≤ 17020 + 5 * i by omega) (FG_sub [2, 3, 4, 5, 6] rfl (H _ _ _ hJ2))
def tbLc4 (b L : Nat) (xs : Nat → Int32) : List (Nat × aO) := [(467, oAL 1 468),
  (468, oAL 0 469),
  (469, oIL 4 471),
  (471, oC (1) 472),
  (472, oIadd 473),
  (473, oSld b L xs 474),
  (474, oAL 0 475),
  (475, oIL 4 477),
  (477, oC (2) 478),
  (478, oIadd 479),
  (479, oSld b L xs 480),
  (480, oAL 3 481),
  (481, oWi (tW2 tX3_put (code2 "java/lang/IndexOutOfBoundsException" "java/lang/IllegalStateException") svI) 4 rmL_put.cells rmL_put.slots room_1.cells room_1.slots 484),
  (484, oIS 5 486),
  (486, oAL 2 487),
  (487, oAL 0 488),
  (488, oIL 4 490),
  (490, oC (1) 491),
  (491, oIadd 492),
  (492, oSld b L xs 493),
  (493, oAL 0 494),
  (494, oIL 4 496),
  (496, oC (2) 497),
  (497, oIadd 498),
  (498, oSld b L xs 499),
  (499, oGi 9 tX4_put 3 3 rmX4_put.cells rmX4_put.slots room_1.cells room_1.slots 502),
  (502, oIS 6 504),
  (504, oAL 2 505),
  (505, oGi 9 tX4_thrown 1 3 rmX4_thrown.cells rmX4_thrown.slots room_1.cells room_1.slots 508),
  (508, oIL 5 510),
  (510, oIc_eq 515 513),
  (513, oC (0) 514),
  (515, oIL 5 517),
  (517, oIf_ne 532 520),
  (520, oAL 3 521),
  (521, oC (0) 522),
  (522, oJal 523),
  (523, oIL 6 525),
  (525, oI2l 526),
  (526, oLcmp 527),
  (527, oIf_eq 532 530),
  (530, oC (0) 531),
  (532, oGo 1708)]
set_option maxRecDepth 20000 in
theorem okLc4 {Γ : aΓ} {b L : Nat} {xs : Nat → Int32} (C : FOK Γ code wsL_law RL 9 room_1) (CX : FOX Γ) (CN : FOW Γ) (hS : LScr b L xs Γ) : AllS Γ (tbLc4 b L xs) := by
  unfold tbLc4
  refine al_c (pc := 467) (snd_aload_n C dL_law_467 rfl) ?_
  refine al_c (pc := 468) (snd_aload_n C dL_law_468 rfl) ?_
  refine al_c (pc := 469) (snd_iload C dL_law_469) ?_
  refine al_c (pc := 471) (snd_iconst C dL_law_471 (by decide)) ?_
  refine al_c (pc := 472) (snd_iadd C dL_law_472) ?_
  refine al_c (pc := 473) (snd_Sld C hS dL_law_473) ?_
  refine al_c (pc := 474) (snd_aload_n C dL_law_474 rfl) ?_
  refine al_c (pc := 475) (snd_iload C dL_law_475) ?_
  refine al_c (pc := 477) (snd_iconst C dL_law_477 (by decide)) ?_
  refine al_c (pc := 478) (snd_iadd C dL_law_478) ?_
  refine al_c (pc := 479) (snd_Sld C hS dL_law_479) ?_
  refine al_c (pc := 480) (snd_aload_n C dL_law_480 rfl) ?_
  refine al_c (pc := 481) (snd_Wi C CX CN (site_SW C dL_law_481 gL_law_L_put rfl rfl rfl ⟨by decide +kernel, by decide +kernel, by decide +kernel⟩ ⟨by decide, by decide⟩) mL_put) ?_
  refine al_c (pc := 484) (snd_istore C dL_law_484 (by decide)) ?_
  refine al_c (pc := 486) (snd_aload_n C dL_law_486 rfl) ?_
  refine al_c (pc := 487) (snd_aload_n C dL_law_487 rfl) ?_
  refine al_c (pc := 488) (snd_iload C dL_law_488) ?_
  refine al_c (pc := 490) (snd_iconst C dL_law_490 (by decide)) ?_
  refine al_c (pc := 491) (snd_iadd C dL_law_491) ?_
  refine al_c (pc := 492) (snd_Sld C hS dL_law_492) ?_
  refine al_c (pc := 493) (snd_aload_n C dL_law_493 rfl) ?_
  refine al_c (pc := 494) (snd_iload C dL_law_494) ?_
  refine al_c (pc := 496) (snd_iconst C dL_law_496 (by decide)) ?_
  refine al_c (pc := 497) (snd_iadd C dL_law_497) ?_
  refine al_c (pc := 498) (snd_Sld C hS dL_law_498) ?_
  refine al_c (pc := 499) (snd_Gi 9 C (site_V C rfl dL_law_499 gL_law_X4_put rfl rfl rfl ⟨rfl, by decide +kernel, by decide +kernel, by decide +kernel⟩ ⟨by decide, by decide⟩) mX4_put) ?_
  refine al_c (pc := 502) (snd_istore C dL_law_502 (by decide)) ?_
  refine al_c (pc := 504) (snd_aload_n C dL_law_504 rfl) ?_
  refine al_c (pc := 505) (snd_Gi 9 C (site_V C rfl dL_law_505 gL_law_X4_thrown rfl rfl rfl ⟨rfl, by decide +kernel, by decide +kernel, by decide +kernel⟩ ⟨by decide, by decide⟩) mX4_thrown) ?_
  refine al_c (pc := 508) (snd_iload C dL_law_508) ?_
  refine al_c (pc := 510) (snd_icmp_eq C dL_law_510 (by decide)) ?_
  refine al_c (pc := 513) (snd_iconst C dL_law_513 (by decide)) ?_
  refine al_c (pc := 515) (snd_iload C dL_law_515) ?_
  refine al_c (pc := 517) (snd_if_ne C dL_law_517 (by decide)) ?_
  refine al_c (pc := 520) (snd_aload_n C dL_law_520 rfl) ?_
  refine al_c (pc := 521) (snd_iconst C dL_law_521 (by decide)) ?_
  refine al_c (pc := 522) (snd_Jal C dL_law_522) ?_
  refine al_c (pc := 523) (snd_iload C dL_law_523) ?_
  refine al_c (pc := 525) (snd_i2l C dL_law_525) ?_
  refine al_c (pc := 526) (snd_lcmp C dL_law_526) ?_
  refine al_c (pc := 527) (snd_if_eq C dL_law_527 (by decide)) ?_
  refine al_c (pc := 530) (snd_iconst C dL_law_530 (by decide)) ?_
  refine al_c (pc := 532) (snd_goto C dL_law_532 (by decide)) ?_
  exact al_0
set_option maxHeartbeats 4000000 in
set_option maxRecDepth 100000 in
theorem csL4 {Γ : aΓ} {b L : Nat} {xs : Nat → Int32} (C : FOK Γ code wsL_law RL 9 room_1) (CX : FOX Γ) (CN : FOW Γ) (hS : LScr b L xs Γ) {ad : Nat → Nat} {i : Nat} {D9 M : List aE} {o : Nat → Int64} (had : ad 1000 = b) (hL : L ≤ 2048) (hi : i + 4 ≤ L) (hJ : JJ D9 M)
    (H : ∀ C2 M2 o2, JJ C2 M2 → FG Γ 1708 ad (104 + i) (17020 + 5 * i) [(4, .int (nI i)), (3, .ref 21), (2, .ref 9), (1, .ref 0), (0, .ref 1000)] [] (LW C2 M2 o2)) : FG Γ 467 ad (100 + i) (17000 + 5 * i) [(4, .int (nI i)), (3, .ref 21), (2, .ref 9), (1, .ref 0), (0, .ref 1000)] [] (LW D9 M o) := by
  obtain ⟨l9, fc, hC0⟩ := JJ_C hJ
  obtain ⟨l12, fm, hM0⟩ := JJ_M hJ
  have OK := okLc4 C CX CN hS
  refine go OK [1708] 90 ?_
  refine ⟨rfl, had, i + 1, nI_p1 i, by omega, hL, ?_⟩
  refine ⟨rfl, had, i + 2, nI_p2 i, by omega, hL, ?_⟩
  refine ⟨Pw tX4_put svI [.int (xs (i + 1)), .int (xs (i + 2))] M, rfl, (show 100 + i + 2 ≤ 601024 by omega), (show 17000 + 5 * i + 12 ≤ 7293034 by omega), ⟨_, _, _, rfl, wr_ag (ag_put (xs (i + 1)) (xs (i + 2))) code2_ne hJ⟩, fun v X2 hP => ?_⟩
  obtain ⟨C2, o2, rfl, l2, hP⟩ := hP
  refine ⟨rfl, had, i + 1, nI_p1 i, by omega, hL, ?_⟩
  refine ⟨rfl, had, i + 2, nI_p2 i, by omega, hL, ?_⟩
  rcases hP with ⟨rfl, r, ho, h4⟩ | ⟨hv, h4⟩
  · refine ⟨C2, M, [.inr (.inr (1, o2))], [.ref 0, .int (xs (i + 1)), .int (xs (i + 2))], _, 0, _, fm, rfl, (show 100 + i + 2 + 0 ≤ 601024 by omega), (show 17000 + 5 * i + 12 + 0 ≤ 7293034 by omega), rfl, hM0, l2, rfl, rfl, h4, fun r3 M2 h5 => ?_⟩
    obtain ⟨hr3, ht, hJ2⟩ := h5
    obtain ⟨l12b, fm2, hM2⟩ := JJ_M hJ2
    refine ⟨l12b.trans l12.symm, ?_⟩
    refine ⟨C2, M2, [.inr (.inr (1, o2))], [.ref 0], _, 0, [], fm2, rfl, (show 100 + i + 2 + 0 + 0 ≤ 601024 by omega), (show 17000 + 5 * i + 12 + 0 + 0 ≤ 7293034 by omega), rfl, hM2, l2, rfl, rfl, thr_T hJ2 ht, fun r4 M3 h6 => ?_⟩
    obtain ⟨hr4, hM3⟩ := h6
    subst hM3
    refine ⟨rfl, ?_⟩
    refine And.intro (fun _ => ?_) (fun q => absurd hr4 q)
    refine And.intro (fun q => absurd rfl q) (fun _ => ?_)
    refine ⟨_, o2, rfl, lw21 l2 l12b, rfl, ?_⟩
    refine And.intro (fun _ => ?_) (fun q => absurd (by rw [ho, hr3]; exact cmp_self _) q)
    exact FG_wid (show 100 + i + 2 + 0 + 0 ≤ 104 + i by omega) (show 17000 + 5 * i + 12 + 0 + 0 ≤ 17020 + 5 * i by omega) (FG_sub [2, 3, 4, 5, 6] rfl (H _ _ _ hJ2))
  · refine ⟨C2, M, [.inr (.inr (1, o2))], [.ref 0, .int (xs (i + 1)), .int (xs (i + 2))], _, 0, _, fm, rfl, (show 100 + i + 2 + 0 ≤ 601024 by omega), (show 17000 + 5 * i + 12 + 0 ≤ 7293034 by omega), rfl, hM0, l2, rfl, rfl, h4, fun r3 M2 h5 => ?_⟩
    obtain ⟨ht, hJ2⟩ := h5
    obtain ⟨l12b, fm2, hM2⟩ := JJ_M hJ2
    refine ⟨l12b.trans l12.symm, ?_⟩
    refine ⟨C2, M2, [.inr (.inr (1, o2))], [.ref 0], _, 0, [], fm2, rfl, (show 100 + i + 2 + 0 + 0 ≤ 601024 by omega), (show 17000 + 5 * i + 12 + 0 + 0 ≤ 7293034 by omega), rfl, hM2, l2, rfl, rfl, thr_T hJ2 ht, fun r4 M3 h6 => ?_⟩
    obtain ⟨hr4, hM3⟩ := h6
    subst hM3
    refine ⟨rfl, ?_⟩
    refine And.intro (fun _ => ?_) (fun q => absurd hr4 q)
    refine And.intro (fun q => ?_) (fun q => absurd q hv)
    exact FG_wid (show 100 + i + 2 + 0 + 0 ≤ 104 + i by omega) (show 17000 + 5 * i + 12 + 0 + 0 ≤ 17020 + 5 * i by omega) (FG_sub [2, 3, 4, 5, 6] rfl (H _ _ _ hJ2))
def tbLc5 (b L : Nat) (xs : Nat → Int32) : List (Nat × aO) := [(535, oAL 1 536),
  (536, oAL 0 537),
  (537, oIL 4 539),
  (539, oC (1) 540),
  (540, oIadd 541),
  (541, oSld b L xs 542),
  (542, oAL 3 543),
  (543, oWi (tW1 tX3_roll (code2 "java/lang/IndexOutOfBoundsException" "java/lang/IllegalStateException") svI) 3 rmL_roll.cells rmL_roll.slots room_1.cells room_1.slots 546),
  (546, oIS 5 548),
  (548, oAL 2 549),
  (549, oAL 0 550),
  (550, oIL 4 552),
  (552, oC (1) 553),
  (553, oIadd 554),
  (554, oSld b L xs 555),
  (555, oGi 9 tX4_roll 2 3 rmX4_roll.cells rmX4_roll.slots room_1.cells room_1.slots 558),
  (558, oIS 6 560),
  (560, oAL 2 561),
  (561, oGi 9 tX4_thrown 1 3 rmX4_thrown.cells rmX4_thrown.slots room_1.cells room_1.slots 564),
  (564, oIL 5 566),
  (566, oIc_eq 571 569),
  (569, oC (0) 570),
  (571, oIL 5 573),
  (573, oIf_ne 588 576),
  (576, oAL 3 577),
  (577, oC (0) 578),
  (578, oJal 579),
  (579, oIL 6 581),
  (581, oI2l 582),
  (582, oLcmp 583),
  (583, oIf_eq 588 586),
  (586, oC (0) 587),
  (588, oGo 1708)]
set_option maxRecDepth 20000 in
theorem okLc5 {Γ : aΓ} {b L : Nat} {xs : Nat → Int32} (C : FOK Γ code wsL_law RL 9 room_1) (CX : FOX Γ) (CN : FOW Γ) (hS : LScr b L xs Γ) : AllS Γ (tbLc5 b L xs) := by
  unfold tbLc5
  refine al_c (pc := 535) (snd_aload_n C dL_law_535 rfl) ?_
  refine al_c (pc := 536) (snd_aload_n C dL_law_536 rfl) ?_
  refine al_c (pc := 537) (snd_iload C dL_law_537) ?_
  refine al_c (pc := 539) (snd_iconst C dL_law_539 (by decide)) ?_
  refine al_c (pc := 540) (snd_iadd C dL_law_540) ?_
  refine al_c (pc := 541) (snd_Sld C hS dL_law_541) ?_
  refine al_c (pc := 542) (snd_aload_n C dL_law_542 rfl) ?_
  refine al_c (pc := 543) (snd_Wi C CX CN (site_SW C dL_law_543 gL_law_L_roll rfl rfl rfl ⟨by decide +kernel, by decide +kernel, by decide +kernel⟩ ⟨by decide, by decide⟩) mL_roll) ?_
  refine al_c (pc := 546) (snd_istore C dL_law_546 (by decide)) ?_
  refine al_c (pc := 548) (snd_aload_n C dL_law_548 rfl) ?_
  refine al_c (pc := 549) (snd_aload_n C dL_law_549 rfl) ?_
  refine al_c (pc := 550) (snd_iload C dL_law_550) ?_
  refine al_c (pc := 552) (snd_iconst C dL_law_552 (by decide)) ?_
  refine al_c (pc := 553) (snd_iadd C dL_law_553) ?_
  refine al_c (pc := 554) (snd_Sld C hS dL_law_554) ?_
  refine al_c (pc := 555) (snd_Gi 9 C (site_V C rfl dL_law_555 gL_law_X4_roll rfl rfl rfl ⟨rfl, by decide +kernel, by decide +kernel, by decide +kernel⟩ ⟨by decide, by decide⟩) mX4_roll) ?_
  refine al_c (pc := 558) (snd_istore C dL_law_558 (by decide)) ?_
  refine al_c (pc := 560) (snd_aload_n C dL_law_560 rfl) ?_
  refine al_c (pc := 561) (snd_Gi 9 C (site_V C rfl dL_law_561 gL_law_X4_thrown rfl rfl rfl ⟨rfl, by decide +kernel, by decide +kernel, by decide +kernel⟩ ⟨by decide, by decide⟩) mX4_thrown) ?_
  refine al_c (pc := 564) (snd_iload C dL_law_564) ?_
  refine al_c (pc := 566) (snd_icmp_eq C dL_law_566 (by decide)) ?_
  refine al_c (pc := 569) (snd_iconst C dL_law_569 (by decide)) ?_
  refine al_c (pc := 571) (snd_iload C dL_law_571) ?_
  refine al_c (pc := 573) (snd_if_ne C dL_law_573 (by decide)) ?_
  refine al_c (pc := 576) (snd_aload_n C dL_law_576 rfl) ?_
  refine al_c (pc := 577) (snd_iconst C dL_law_577 (by decide)) ?_
  refine al_c (pc := 578) (snd_Jal C dL_law_578) ?_
  refine al_c (pc := 579) (snd_iload C dL_law_579) ?_
  refine al_c (pc := 581) (snd_i2l C dL_law_581) ?_
  refine al_c (pc := 582) (snd_lcmp C dL_law_582) ?_
  refine al_c (pc := 583) (snd_if_eq C dL_law_583 (by decide)) ?_
  refine al_c (pc := 586) (snd_iconst C dL_law_586 (by decide)) ?_
  refine al_c (pc := 588) (snd_goto C dL_law_588 (by decide)) ?_
  exact al_0
set_option maxHeartbeats 4000000 in
set_option maxRecDepth 100000 in
theorem csL5 {Γ : aΓ} {b L : Nat} {xs : Nat → Int32} (C : FOK Γ code wsL_law RL 9 room_1) (CX : FOX Γ) (CN : FOW Γ) (hS : LScr b L xs Γ) {ad : Nat → Nat} {i : Nat} {D9 M : List aE} {o : Nat → Int64} (had : ad 1000 = b) (hL : L ≤ 2048) (hi : i + 4 ≤ L) (hJ : JJ D9 M)
    (H : ∀ C2 M2 o2, JJ C2 M2 → FG Γ 1708 ad (104 + i) (17020 + 5 * i) [(4, .int (nI i)), (3, .ref 21), (2, .ref 9), (1, .ref 0), (0, .ref 1000)] [] (LW C2 M2 o2)) : FG Γ 535 ad (100 + i) (17000 + 5 * i) [(4, .int (nI i)), (3, .ref 21), (2, .ref 9), (1, .ref 0), (0, .ref 1000)] [] (LW D9 M o) := by
  obtain ⟨l9, fc, hC0⟩ := JJ_C hJ
  obtain ⟨l12, fm, hM0⟩ := JJ_M hJ
  have OK := okLc5 C CX CN hS
  refine go OK [1708] 90 ?_
  refine ⟨rfl, had, i + 1, nI_p1 i, by omega, hL, ?_⟩
  refine ⟨Pw tX4_roll svI [.int (xs (i + 1))] M, rfl, (show 100 + i + 2 ≤ 601024 by omega), (show 17000 + 5 * i + 12 ≤ 7293034 by omega), ⟨_, _, rfl, wr_ag (ag_roll (xs (i + 1))) code2_ne hJ⟩, fun v X2 hP => ?_⟩
  obtain ⟨C2, o2, rfl, l2, hP⟩ := hP
  refine ⟨rfl, had, i + 1, nI_p1 i, by omega, hL, ?_⟩
  rcases hP with ⟨rfl, r, ho, h4⟩ | ⟨hv, h4⟩
  · refine ⟨C2, M, [.inr (.inr (1, o2))], [.ref 0, .int (xs (i + 1))], _, 0, _, fm, rfl, (show 100 + i + 2 + 0 ≤ 601024 by omega), (show 17000 + 5 * i + 12 + 0 ≤ 7293034 by omega), rfl, hM0, l2, rfl, rfl, h4, fun r3 M2 h5 => ?_⟩
    obtain ⟨hr3, ht, hJ2⟩ := h5
    obtain ⟨l12b, fm2, hM2⟩ := JJ_M hJ2
    refine ⟨l12b.trans l12.symm, ?_⟩
    refine ⟨C2, M2, [.inr (.inr (1, o2))], [.ref 0], _, 0, [], fm2, rfl, (show 100 + i + 2 + 0 + 0 ≤ 601024 by omega), (show 17000 + 5 * i + 12 + 0 + 0 ≤ 7293034 by omega), rfl, hM2, l2, rfl, rfl, thr_T hJ2 ht, fun r4 M3 h6 => ?_⟩
    obtain ⟨hr4, hM3⟩ := h6
    subst hM3
    refine ⟨rfl, ?_⟩
    refine And.intro (fun _ => ?_) (fun q => absurd hr4 q)
    refine And.intro (fun q => absurd rfl q) (fun _ => ?_)
    refine ⟨_, o2, rfl, lw21 l2 l12b, rfl, ?_⟩
    refine And.intro (fun _ => ?_) (fun q => absurd (by rw [ho, hr3]; exact cmp_self _) q)
    exact FG_wid (show 100 + i + 2 + 0 + 0 ≤ 104 + i by omega) (show 17000 + 5 * i + 12 + 0 + 0 ≤ 17020 + 5 * i by omega) (FG_sub [2, 3, 4, 5, 6] rfl (H _ _ _ hJ2))
  · refine ⟨C2, M, [.inr (.inr (1, o2))], [.ref 0, .int (xs (i + 1))], _, 0, _, fm, rfl, (show 100 + i + 2 + 0 ≤ 601024 by omega), (show 17000 + 5 * i + 12 + 0 ≤ 7293034 by omega), rfl, hM0, l2, rfl, rfl, h4, fun r3 M2 h5 => ?_⟩
    obtain ⟨ht, hJ2⟩ := h5
    obtain ⟨l12b, fm2, hM2⟩ := JJ_M hJ2
    refine ⟨l12b.trans l12.symm, ?_⟩
    refine ⟨C2, M2, [.inr (.inr (1, o2))], [.ref 0], _, 0, [], fm2, rfl, (show 100 + i + 2 + 0 + 0 ≤ 601024 by omega), (show 17000 + 5 * i + 12 + 0 + 0 ≤ 7293034 by omega), rfl, hM2, l2, rfl, rfl, thr_T hJ2 ht, fun r4 M3 h6 => ?_⟩
    obtain ⟨hr4, hM3⟩ := h6
    subst hM3
    refine ⟨rfl, ?_⟩
    refine And.intro (fun _ => ?_) (fun q => absurd hr4 q)
    refine And.intro (fun q => ?_) (fun q => absurd q hv)
    exact FG_wid (show 100 + i + 2 + 0 + 0 ≤ 104 + i by omega) (show 17000 + 5 * i + 12 + 0 + 0 ≤ 17020 + 5 * i by omega) (FG_sub [2, 3, 4, 5, 6] rfl (H _ _ _ hJ2))
def tbLc6 (b L : Nat) (xs : Nat → Int32) : List (Nat × aO) := [(591, oAL 1 592),
  (592, oAL 0 593),
  (593, oIL 4 595),
  (595, oC (1) 596),
  (596, oIadd 597),
  (597, oSld b L xs 598),
  (598, oAL 0 599),
  (599, oIL 4 601),
  (601, oC (2) 602),
  (602, oIadd 603),
  (603, oSld b L xs 604),
  (604, oAL 3 605),
  (605, oWi (tW2 tX3_rollOn2 (code2 "java/lang/IndexOutOfBoundsException" "java/lang/IllegalArgumentException") svI) 4 rmL_rollOn.cells rmL_rollOn.slots room_1.cells room_1.slots 608),
  (608, oIS 5 610),
  (610, oAL 2 611),
  (611, oAL 0 612),
  (612, oIL 4 614),
  (614, oC (1) 615),
  (615, oIadd 616),
  (616, oSld b L xs 617),
  (617, oAL 0 618),
  (618, oIL 4 620),
  (620, oC (2) 621),
  (621, oIadd 622),
  (622, oSld b L xs 623),
  (623, oGi 9 tX4_rollOn 3 3 rmX4_rollOn.cells rmX4_rollOn.slots room_1.cells room_1.slots 626),
  (626, oIS 6 628),
  (628, oAL 2 629),
  (629, oGi 9 tX4_thrown 1 3 rmX4_thrown.cells rmX4_thrown.slots room_1.cells room_1.slots 632),
  (632, oIL 5 634),
  (634, oIc_eq 639 637),
  (637, oC (0) 638),
  (639, oIL 5 641),
  (641, oIf_ne 656 644),
  (644, oAL 3 645),
  (645, oC (0) 646),
  (646, oJal 647),
  (647, oIL 6 649),
  (649, oI2l 650),
  (650, oLcmp 651),
  (651, oIf_eq 656 654),
  (654, oC (0) 655),
  (656, oGo 1708)]
set_option maxRecDepth 20000 in
theorem okLc6 {Γ : aΓ} {b L : Nat} {xs : Nat → Int32} (C : FOK Γ code wsL_law RL 9 room_1) (CX : FOX Γ) (CN : FOW Γ) (hS : LScr b L xs Γ) : AllS Γ (tbLc6 b L xs) := by
  unfold tbLc6
  refine al_c (pc := 591) (snd_aload_n C dL_law_591 rfl) ?_
  refine al_c (pc := 592) (snd_aload_n C dL_law_592 rfl) ?_
  refine al_c (pc := 593) (snd_iload C dL_law_593) ?_
  refine al_c (pc := 595) (snd_iconst C dL_law_595 (by decide)) ?_
  refine al_c (pc := 596) (snd_iadd C dL_law_596) ?_
  refine al_c (pc := 597) (snd_Sld C hS dL_law_597) ?_
  refine al_c (pc := 598) (snd_aload_n C dL_law_598 rfl) ?_
  refine al_c (pc := 599) (snd_iload C dL_law_599) ?_
  refine al_c (pc := 601) (snd_iconst C dL_law_601 (by decide)) ?_
  refine al_c (pc := 602) (snd_iadd C dL_law_602) ?_
  refine al_c (pc := 603) (snd_Sld C hS dL_law_603) ?_
  refine al_c (pc := 604) (snd_aload_n C dL_law_604 rfl) ?_
  refine al_c (pc := 605) (snd_Wi C CX CN (site_SW C dL_law_605 gL_law_L_rollOn rfl rfl rfl ⟨by decide +kernel, by decide +kernel, by decide +kernel⟩ ⟨by decide, by decide⟩) mL_rollOn) ?_
  refine al_c (pc := 608) (snd_istore C dL_law_608 (by decide)) ?_
  refine al_c (pc := 610) (snd_aload_n C dL_law_610 rfl) ?_
  refine al_c (pc := 611) (snd_aload_n C dL_law_611 rfl) ?_
  refine al_c (pc := 612) (snd_iload C dL_law_612) ?_
  refine al_c (pc := 614) (snd_iconst C dL_law_614 (by decide)) ?_
  refine al_c (pc := 615) (snd_iadd C dL_law_615) ?_
  refine al_c (pc := 616) (snd_Sld C hS dL_law_616) ?_
  refine al_c (pc := 617) (snd_aload_n C dL_law_617 rfl) ?_
  refine al_c (pc := 618) (snd_iload C dL_law_618) ?_
  refine al_c (pc := 620) (snd_iconst C dL_law_620 (by decide)) ?_
  refine al_c (pc := 621) (snd_iadd C dL_law_621) ?_
  refine al_c (pc := 622) (snd_Sld C hS dL_law_622) ?_
  refine al_c (pc := 623) (snd_Gi 9 C (site_V C rfl dL_law_623 gL_law_X4_rollOn rfl rfl rfl ⟨rfl, by decide +kernel, by decide +kernel, by decide +kernel⟩ ⟨by decide, by decide⟩) mX4_rollOn) ?_
  refine al_c (pc := 626) (snd_istore C dL_law_626 (by decide)) ?_
  refine al_c (pc := 628) (snd_aload_n C dL_law_628 rfl) ?_
  refine al_c (pc := 629) (snd_Gi 9 C (site_V C rfl dL_law_629 gL_law_X4_thrown rfl rfl rfl ⟨rfl, by decide +kernel, by decide +kernel, by decide +kernel⟩ ⟨by decide, by decide⟩) mX4_thrown) ?_
  refine al_c (pc := 632) (snd_iload C dL_law_632) ?_
  refine al_c (pc := 634) (snd_icmp_eq C dL_law_634 (by decide)) ?_
  refine al_c (pc := 637) (snd_iconst C dL_law_637 (by decide)) ?_
  refine al_c (pc := 639) (snd_iload C dL_law_639) ?_
  refine al_c (pc := 641) (snd_if_ne C dL_law_641 (by decide)) ?_
  refine al_c (pc := 644) (snd_aload_n C dL_law_644 rfl) ?_
  refine al_c (pc := 645) (snd_iconst C dL_law_645 (by decide)) ?_
  refine al_c (pc := 646) (snd_Jal C dL_law_646) ?_
  refine al_c (pc := 647) (snd_iload C dL_law_647) ?_
  refine al_c (pc := 649) (snd_i2l C dL_law_649) ?_
  refine al_c (pc := 650) (snd_lcmp C dL_law_650) ?_
  refine al_c (pc := 651) (snd_if_eq C dL_law_651 (by decide)) ?_
  refine al_c (pc := 654) (snd_iconst C dL_law_654 (by decide)) ?_
  refine al_c (pc := 656) (snd_goto C dL_law_656 (by decide)) ?_
  exact al_0
set_option maxHeartbeats 4000000 in
set_option maxRecDepth 100000 in
theorem csL6 {Γ : aΓ} {b L : Nat} {xs : Nat → Int32} (C : FOK Γ code wsL_law RL 9 room_1) (CX : FOX Γ) (CN : FOW Γ) (hS : LScr b L xs Γ) {ad : Nat → Nat} {i : Nat} {D9 M : List aE} {o : Nat → Int64} (had : ad 1000 = b) (hL : L ≤ 2048) (hi : i + 4 ≤ L) (hJ : JJ D9 M)
    (H : ∀ C2 M2 o2, JJ C2 M2 → FG Γ 1708 ad (104 + i) (17020 + 5 * i) [(4, .int (nI i)), (3, .ref 21), (2, .ref 9), (1, .ref 0), (0, .ref 1000)] [] (LW C2 M2 o2)) : FG Γ 591 ad (100 + i) (17000 + 5 * i) [(4, .int (nI i)), (3, .ref 21), (2, .ref 9), (1, .ref 0), (0, .ref 1000)] [] (LW D9 M o) := by
  obtain ⟨l9, fc, hC0⟩ := JJ_C hJ
  obtain ⟨l12, fm, hM0⟩ := JJ_M hJ
  have OK := okLc6 C CX CN hS
  refine go OK [1708] 90 ?_
  refine ⟨rfl, had, i + 1, nI_p1 i, by omega, hL, ?_⟩
  refine ⟨rfl, had, i + 2, nI_p2 i, by omega, hL, ?_⟩
  refine ⟨Pw tX4_rollOn svI [.int (xs (i + 1)), .int (xs (i + 2))] M, rfl, (show 100 + i + 2 ≤ 601024 by omega), (show 17000 + 5 * i + 12 ≤ 7293034 by omega), ⟨_, _, _, rfl, wr_ag (ag_rollOn (xs (i + 1)) (xs (i + 2))) code2_ne hJ⟩, fun v X2 hP => ?_⟩
  obtain ⟨C2, o2, rfl, l2, hP⟩ := hP
  refine ⟨rfl, had, i + 1, nI_p1 i, by omega, hL, ?_⟩
  refine ⟨rfl, had, i + 2, nI_p2 i, by omega, hL, ?_⟩
  rcases hP with ⟨rfl, r, ho, h4⟩ | ⟨hv, h4⟩
  · refine ⟨C2, M, [.inr (.inr (1, o2))], [.ref 0, .int (xs (i + 1)), .int (xs (i + 2))], _, 0, _, fm, rfl, (show 100 + i + 2 + 0 ≤ 601024 by omega), (show 17000 + 5 * i + 12 + 0 ≤ 7293034 by omega), rfl, hM0, l2, rfl, rfl, h4, fun r3 M2 h5 => ?_⟩
    obtain ⟨hr3, ht, hJ2⟩ := h5
    obtain ⟨l12b, fm2, hM2⟩ := JJ_M hJ2
    refine ⟨l12b.trans l12.symm, ?_⟩
    refine ⟨C2, M2, [.inr (.inr (1, o2))], [.ref 0], _, 0, [], fm2, rfl, (show 100 + i + 2 + 0 + 0 ≤ 601024 by omega), (show 17000 + 5 * i + 12 + 0 + 0 ≤ 7293034 by omega), rfl, hM2, l2, rfl, rfl, thr_T hJ2 ht, fun r4 M3 h6 => ?_⟩
    obtain ⟨hr4, hM3⟩ := h6
    subst hM3
    refine ⟨rfl, ?_⟩
    refine And.intro (fun _ => ?_) (fun q => absurd hr4 q)
    refine And.intro (fun q => absurd rfl q) (fun _ => ?_)
    refine ⟨_, o2, rfl, lw21 l2 l12b, rfl, ?_⟩
    refine And.intro (fun _ => ?_) (fun q => absurd (by rw [ho, hr3]; exact cmp_self _) q)
    exact FG_wid (show 100 + i + 2 + 0 + 0 ≤ 104 + i by omega) (show 17000 + 5 * i + 12 + 0 + 0 ≤ 17020 + 5 * i by omega) (FG_sub [2, 3, 4, 5, 6] rfl (H _ _ _ hJ2))
  · refine ⟨C2, M, [.inr (.inr (1, o2))], [.ref 0, .int (xs (i + 1)), .int (xs (i + 2))], _, 0, _, fm, rfl, (show 100 + i + 2 + 0 ≤ 601024 by omega), (show 17000 + 5 * i + 12 + 0 ≤ 7293034 by omega), rfl, hM0, l2, rfl, rfl, h4, fun r3 M2 h5 => ?_⟩
    obtain ⟨ht, hJ2⟩ := h5
    obtain ⟨l12b, fm2, hM2⟩ := JJ_M hJ2
    refine ⟨l12b.trans l12.symm, ?_⟩
    refine ⟨C2, M2, [.inr (.inr (1, o2))], [.ref 0], _, 0, [], fm2, rfl, (show 100 + i + 2 + 0 + 0 ≤ 601024 by omega), (show 17000 + 5 * i + 12 + 0 + 0 ≤ 7293034 by omega), rfl, hM2, l2, rfl, rfl, thr_T hJ2 ht, fun r4 M3 h6 => ?_⟩
    obtain ⟨hr4, hM3⟩ := h6
    subst hM3
    refine ⟨rfl, ?_⟩
    refine And.intro (fun _ => ?_) (fun q => absurd hr4 q)
    refine And.intro (fun q => ?_) (fun q => absurd q hv)
    exact FG_wid (show 100 + i + 2 + 0 + 0 ≤ 104 + i by omega) (show 17000 + 5 * i + 12 + 0 + 0 ≤ 17020 + 5 * i by omega) (FG_sub [2, 3, 4, 5, 6] rfl (H _ _ _ hJ2))
def tbLc8 (b L : Nat) (xs : Nat → Int32) : List (Nat × aO) := [(672, oAL 1 673),
  (673, oGi 0 tX3_row 1 2 rmX3_row.cells rmX3_row.slots room_1.cells room_1.slots 676),
  (676, oAL 2 677),
  (677, oGi 9 tX4_row 1 3 rmX4_row.cells rmX4_row.slots room_1.cells room_1.slots 680),
  (680, oIc_eq 1708 683),
  (683, oC (0) 684)]
set_option maxRecDepth 20000 in
theorem okLc8 {Γ : aΓ} {b L : Nat} {xs : Nat → Int32} (C : FOK Γ code wsL_law RL 9 room_1) (CX : FOX Γ) (CN : FOW Γ) (hS : LScr b L xs Γ) : AllS Γ (tbLc8 b L xs) := by
  unfold tbLc8
  refine al_c (pc := 672) (snd_aload_n C dL_law_672 rfl) ?_
  refine al_c (pc := 673) (snd_Gi 0 C (site_V C rfl dL_law_673 gL_law_X3_row rfl rfl rfl ⟨rfl, by decide +kernel, by decide +kernel, by decide +kernel⟩ ⟨by decide, by decide⟩) mX3_row) ?_
  refine al_c (pc := 676) (snd_aload_n C dL_law_676 rfl) ?_
  refine al_c (pc := 677) (snd_Gi 9 C (site_V C rfl dL_law_677 gL_law_X4_row rfl rfl rfl ⟨rfl, by decide +kernel, by decide +kernel, by decide +kernel⟩ ⟨by decide, by decide⟩) mX4_row) ?_
  refine al_c (pc := 680) (snd_icmp_eq C dL_law_680 (by decide)) ?_
  refine al_c (pc := 683) (snd_iconst C dL_law_683 (by decide)) ?_
  exact al_0
set_option maxHeartbeats 4000000 in
set_option maxRecDepth 100000 in
theorem csL8 {Γ : aΓ} {b L : Nat} {xs : Nat → Int32} (C : FOK Γ code wsL_law RL 9 room_1) (CX : FOX Γ) (CN : FOW Γ) (hS : LScr b L xs Γ) {ad : Nat → Nat} {i : Nat} {D9 M : List aE} {o : Nat → Int64} (had : ad 1000 = b) (hL : L ≤ 2048) (hi : i + 4 ≤ L) (hJ : JJ D9 M)
    (H : ∀ C2 M2 o2, JJ C2 M2 → FG Γ 1708 ad (104 + i) (17020 + 5 * i) [(4, .int (nI i)), (3, .ref 21), (2, .ref 9), (1, .ref 0), (0, .ref 1000)] [] (LW C2 M2 o2)) : FG Γ 672 ad (100 + i) (17000 + 5 * i) [(4, .int (nI i)), (3, .ref 21), (2, .ref 9), (1, .ref 0), (0, .ref 1000)] [] (LW D9 M o) := by
  obtain ⟨l9, fc, hC0⟩ := JJ_C hJ
  obtain ⟨l12, fm, hM0⟩ := JJ_M hJ
  have OK := okLc8 C CX CN hS
  refine go OK [1708] 90 ?_
  refine ⟨[], D9, M.map (shE 9) ++ [.inr (.inr (1, o))], [.ref 0], _, 0, [], fc, rfl, (show 100 + i + 0 ≤ 601024 by omega), (show 17000 + 5 * i + 0 ≤ 7293034 by omega), rfl, hC0, rfl, lw_0, rfl, ag_row D9 M hJ, fun r C2 h5 => ?_⟩
  obtain ⟨l2, h4⟩ := h5
  refine ⟨l2.trans l9.symm, ?_⟩
  refine ⟨C2, M, [.inr (.inr (1, o))], [.ref 0], _, 0, [], fm, rfl, (show 100 + i + 0 + 0 ≤ 601024 by omega), (show 17000 + 5 * i + 0 + 0 ≤ 7293034 by omega), rfl, hM0, l2, lw_1, rfl, h4, fun r3 M2 h6 => ?_⟩
  obtain ⟨rfl, hJ2⟩ := h6
  refine ⟨(JJ_M hJ2).1.trans l12.symm, ?_⟩
  refine And.intro (fun _ => ?_) (fun q => absurd rfl q)
  exact FG_wid (show 100 + i + 0 + 0 ≤ 104 + i by omega) (show 17000 + 5 * i + 0 + 0 ≤ 17020 + 5 * i by omega) (H _ _ _ hJ2)
def tbLc9 (b L : Nat) (xs : Nat → Int32) : List (Nat × aO) := [(685, oAL 1 686),
  (686, oGi 0 tX3_top 1 2 rmX3_top.cells rmX3_top.slots room_1.cells room_1.slots 689),
  (689, oAL 2 690),
  (690, oGi 9 tX4_top 1 3 rmX4_top.cells rmX4_top.slots room_1.cells room_1.slots 693),
  (693, oIc_eq 1708 696),
  (696, oC (0) 697)]
set_option maxRecDepth 20000 in
theorem okLc9 {Γ : aΓ} {b L : Nat} {xs : Nat → Int32} (C : FOK Γ code wsL_law RL 9 room_1) (CX : FOX Γ) (CN : FOW Γ) (hS : LScr b L xs Γ) : AllS Γ (tbLc9 b L xs) := by
  unfold tbLc9
  refine al_c (pc := 685) (snd_aload_n C dL_law_685 rfl) ?_
  refine al_c (pc := 686) (snd_Gi 0 C (site_V C rfl dL_law_686 gL_law_X3_top rfl rfl rfl ⟨rfl, by decide +kernel, by decide +kernel, by decide +kernel⟩ ⟨by decide, by decide⟩) mX3_top) ?_
  refine al_c (pc := 689) (snd_aload_n C dL_law_689 rfl) ?_
  refine al_c (pc := 690) (snd_Gi 9 C (site_V C rfl dL_law_690 gL_law_X4_top rfl rfl rfl ⟨rfl, by decide +kernel, by decide +kernel, by decide +kernel⟩ ⟨by decide, by decide⟩) mX4_top) ?_
  refine al_c (pc := 693) (snd_icmp_eq C dL_law_693 (by decide)) ?_
  refine al_c (pc := 696) (snd_iconst C dL_law_696 (by decide)) ?_
  exact al_0
set_option maxHeartbeats 4000000 in
set_option maxRecDepth 100000 in
theorem csL9 {Γ : aΓ} {b L : Nat} {xs : Nat → Int32} (C : FOK Γ code wsL_law RL 9 room_1) (CX : FOX Γ) (CN : FOW Γ) (hS : LScr b L xs Γ) {ad : Nat → Nat} {i : Nat} {D9 M : List aE} {o : Nat → Int64} (had : ad 1000 = b) (hL : L ≤ 2048) (hi : i + 4 ≤ L) (hJ : JJ D9 M)
    (H : ∀ C2 M2 o2, JJ C2 M2 → FG Γ 1708 ad (104 + i) (17020 + 5 * i) [(4, .int (nI i)), (3, .ref 21), (2, .ref 9), (1, .ref 0), (0, .ref 1000)] [] (LW C2 M2 o2)) : FG Γ 685 ad (100 + i) (17000 + 5 * i) [(4, .int (nI i)), (3, .ref 21), (2, .ref 9), (1, .ref 0), (0, .ref 1000)] [] (LW D9 M o) := by
  obtain ⟨l9, fc, hC0⟩ := JJ_C hJ
  obtain ⟨l12, fm, hM0⟩ := JJ_M hJ
  have OK := okLc9 C CX CN hS
  refine go OK [1708] 90 ?_
  refine ⟨[], D9, M.map (shE 9) ++ [.inr (.inr (1, o))], [.ref 0], _, 0, [], fc, rfl, (show 100 + i + 0 ≤ 601024 by omega), (show 17000 + 5 * i + 0 ≤ 7293034 by omega), rfl, hC0, rfl, lw_0, rfl, ag_top D9 M hJ, fun r C2 h5 => ?_⟩
  obtain ⟨l2, h4⟩ := h5
  refine ⟨l2.trans l9.symm, ?_⟩
  refine ⟨C2, M, [.inr (.inr (1, o))], [.ref 0], _, 0, [], fm, rfl, (show 100 + i + 0 + 0 ≤ 601024 by omega), (show 17000 + 5 * i + 0 + 0 ≤ 7293034 by omega), rfl, hM0, l2, lw_1, rfl, h4, fun r3 M2 h6 => ?_⟩
  obtain ⟨rfl, hJ2⟩ := h6
  refine ⟨(JJ_M hJ2).1.trans l12.symm, ?_⟩
  refine And.intro (fun _ => ?_) (fun q => absurd rfl q)
  exact FG_wid (show 100 + i + 0 + 0 ≤ 104 + i by omega) (show 17000 + 5 * i + 0 + 0 ≤ 17020 + 5 * i by omega) (H _ _ _ hJ2)
def tbLc10 (b L : Nat) (xs : Nat → Int32) : List (Nat × aO) := [(698, oAL 1 699),
  (699, oGi 0 tX3_bottom 1 2 rmX3_bottom.cells rmX3_bottom.slots room_1.cells room_1.slots 702),
  (702, oAL 2 703),
  (703, oGi 9 tX4_bottom 1 3 rmX4_bottom.cells rmX4_bottom.slots room_1.cells room_1.slots 706),
  (706, oIc_eq 1708 709),
  (709, oC (0) 710)]
set_option maxRecDepth 20000 in
theorem okLc10 {Γ : aΓ} {b L : Nat} {xs : Nat → Int32} (C : FOK Γ code wsL_law RL 9 room_1) (CX : FOX Γ) (CN : FOW Γ) (hS : LScr b L xs Γ) : AllS Γ (tbLc10 b L xs) := by
  unfold tbLc10
  refine al_c (pc := 698) (snd_aload_n C dL_law_698 rfl) ?_
  refine al_c (pc := 699) (snd_Gi 0 C (site_V C rfl dL_law_699 gL_law_X3_bottom rfl rfl rfl ⟨rfl, by decide +kernel, by decide +kernel, by decide +kernel⟩ ⟨by decide, by decide⟩) mX3_bottom) ?_
  refine al_c (pc := 702) (snd_aload_n C dL_law_702 rfl) ?_
  refine al_c (pc := 703) (snd_Gi 9 C (site_V C rfl dL_law_703 gL_law_X4_bottom rfl rfl rfl ⟨rfl, by decide +kernel, by decide +kernel, by decide +kernel⟩ ⟨by decide, by decide⟩) mX4_bottom) ?_
  refine al_c (pc := 706) (snd_icmp_eq C dL_law_706 (by decide)) ?_
  refine al_c (pc := 709) (snd_iconst C dL_law_709 (by decide)) ?_
  exact al_0
set_option maxHeartbeats 4000000 in
set_option maxRecDepth 100000 in
theorem csL10 {Γ : aΓ} {b L : Nat} {xs : Nat → Int32} (C : FOK Γ code wsL_law RL 9 room_1) (CX : FOX Γ) (CN : FOW Γ) (hS : LScr b L xs Γ) {ad : Nat → Nat} {i : Nat} {D9 M : List aE} {o : Nat → Int64} (had : ad 1000 = b) (hL : L ≤ 2048) (hi : i + 4 ≤ L) (hJ : JJ D9 M)
    (H : ∀ C2 M2 o2, JJ C2 M2 → FG Γ 1708 ad (104 + i) (17020 + 5 * i) [(4, .int (nI i)), (3, .ref 21), (2, .ref 9), (1, .ref 0), (0, .ref 1000)] [] (LW C2 M2 o2)) : FG Γ 698 ad (100 + i) (17000 + 5 * i) [(4, .int (nI i)), (3, .ref 21), (2, .ref 9), (1, .ref 0), (0, .ref 1000)] [] (LW D9 M o) := by
  obtain ⟨l9, fc, hC0⟩ := JJ_C hJ
  obtain ⟨l12, fm, hM0⟩ := JJ_M hJ
  have OK := okLc10 C CX CN hS
  refine go OK [1708] 90 ?_
  refine ⟨[], D9, M.map (shE 9) ++ [.inr (.inr (1, o))], [.ref 0], _, 0, [], fc, rfl, (show 100 + i + 0 ≤ 601024 by omega), (show 17000 + 5 * i + 0 ≤ 7293034 by omega), rfl, hC0, rfl, lw_0, rfl, ag_bottom D9 M hJ, fun r C2 h5 => ?_⟩
  obtain ⟨l2, h4⟩ := h5
  refine ⟨l2.trans l9.symm, ?_⟩
  refine ⟨C2, M, [.inr (.inr (1, o))], [.ref 0], _, 0, [], fm, rfl, (show 100 + i + 0 + 0 ≤ 601024 by omega), (show 17000 + 5 * i + 0 + 0 ≤ 7293034 by omega), rfl, hM0, l2, lw_1, rfl, h4, fun r3 M2 h6 => ?_⟩
  obtain ⟨rfl, hJ2⟩ := h6
  refine ⟨(JJ_M hJ2).1.trans l12.symm, ?_⟩
  refine And.intro (fun _ => ?_) (fun q => absurd rfl q)
  exact FG_wid (show 100 + i + 0 + 0 ≤ 104 + i by omega) (show 17000 + 5 * i + 0 + 0 ≤ 17020 + 5 * i by omega) (H _ _ _ hJ2)
def tbLc11 (b L : Nat) (xs : Nat → Int32) : List (Nat × aO) := [(711, oAL 1 712),
  (712, oAL 0 713),
  (713, oIL 4 715),
  (715, oC (1) 716),
  (716, oIadd 717),
  (717, oSld b L xs 718),
  (718, oAL 3 719),
  (719, oWi (tW1 tX3_faceTo (code1 "java/lang/IndexOutOfBoundsException") svI) 3 rmL_faceTo.cells rmL_faceTo.slots room_1.cells room_1.slots 722),
  (722, oIS 5 724),
  (724, oAL 2 725),
  (725, oAL 0 726),
  (726, oIL 4 728),
  (728, oC (1) 729),
  (729, oIadd 730),
  (730, oSld b L xs 731),
  (731, oGi 9 tX4_faceTo 2 3 rmX4_faceTo.cells rmX4_faceTo.slots room_1.cells room_1.slots 734),
  (734, oIS 6 736),
  (736, oAL 2 737),
  (737, oGi 9 tX4_thrown 1 3 rmX4_thrown.cells rmX4_thrown.slots room_1.cells room_1.slots 740),
  (740, oIL 5 742),
  (742, oIc_eq 747 745),
  (745, oC (0) 746),
  (747, oIL 5 749),
  (749, oIf_ne 764 752),
  (752, oAL 3 753),
  (753, oC (0) 754),
  (754, oJal 755),
  (755, oIL 6 757),
  (757, oI2l 758),
  (758, oLcmp 759),
  (759, oIf_eq 764 762),
  (762, oC (0) 763),
  (764, oGo 1708)]
set_option maxRecDepth 20000 in
theorem okLc11 {Γ : aΓ} {b L : Nat} {xs : Nat → Int32} (C : FOK Γ code wsL_law RL 9 room_1) (CX : FOX Γ) (CN : FOW Γ) (hS : LScr b L xs Γ) : AllS Γ (tbLc11 b L xs) := by
  unfold tbLc11
  refine al_c (pc := 711) (snd_aload_n C dL_law_711 rfl) ?_
  refine al_c (pc := 712) (snd_aload_n C dL_law_712 rfl) ?_
  refine al_c (pc := 713) (snd_iload C dL_law_713) ?_
  refine al_c (pc := 715) (snd_iconst C dL_law_715 (by decide)) ?_
  refine al_c (pc := 716) (snd_iadd C dL_law_716) ?_
  refine al_c (pc := 717) (snd_Sld C hS dL_law_717) ?_
  refine al_c (pc := 718) (snd_aload_n C dL_law_718 rfl) ?_
  refine al_c (pc := 719) (snd_Wi C CX CN (site_SW C dL_law_719 gL_law_L_faceTo rfl rfl rfl ⟨by decide +kernel, by decide +kernel, by decide +kernel⟩ ⟨by decide, by decide⟩) mL_faceTo) ?_
  refine al_c (pc := 722) (snd_istore C dL_law_722 (by decide)) ?_
  refine al_c (pc := 724) (snd_aload_n C dL_law_724 rfl) ?_
  refine al_c (pc := 725) (snd_aload_n C dL_law_725 rfl) ?_
  refine al_c (pc := 726) (snd_iload C dL_law_726) ?_
  refine al_c (pc := 728) (snd_iconst C dL_law_728 (by decide)) ?_
  refine al_c (pc := 729) (snd_iadd C dL_law_729) ?_
  refine al_c (pc := 730) (snd_Sld C hS dL_law_730) ?_
  refine al_c (pc := 731) (snd_Gi 9 C (site_V C rfl dL_law_731 gL_law_X4_faceTo rfl rfl rfl ⟨rfl, by decide +kernel, by decide +kernel, by decide +kernel⟩ ⟨by decide, by decide⟩) mX4_faceTo) ?_
  refine al_c (pc := 734) (snd_istore C dL_law_734 (by decide)) ?_
  refine al_c (pc := 736) (snd_aload_n C dL_law_736 rfl) ?_
  refine al_c (pc := 737) (snd_Gi 9 C (site_V C rfl dL_law_737 gL_law_X4_thrown rfl rfl rfl ⟨rfl, by decide +kernel, by decide +kernel, by decide +kernel⟩ ⟨by decide, by decide⟩) mX4_thrown) ?_
  refine al_c (pc := 740) (snd_iload C dL_law_740) ?_
  refine al_c (pc := 742) (snd_icmp_eq C dL_law_742 (by decide)) ?_
  refine al_c (pc := 745) (snd_iconst C dL_law_745 (by decide)) ?_
  refine al_c (pc := 747) (snd_iload C dL_law_747) ?_
  refine al_c (pc := 749) (snd_if_ne C dL_law_749 (by decide)) ?_
  refine al_c (pc := 752) (snd_aload_n C dL_law_752 rfl) ?_
  refine al_c (pc := 753) (snd_iconst C dL_law_753 (by decide)) ?_
  refine al_c (pc := 754) (snd_Jal C dL_law_754) ?_
  refine al_c (pc := 755) (snd_iload C dL_law_755) ?_
  refine al_c (pc := 757) (snd_i2l C dL_law_757) ?_
  refine al_c (pc := 758) (snd_lcmp C dL_law_758) ?_
  refine al_c (pc := 759) (snd_if_eq C dL_law_759 (by decide)) ?_
  refine al_c (pc := 762) (snd_iconst C dL_law_762 (by decide)) ?_
  refine al_c (pc := 764) (snd_goto C dL_law_764 (by decide)) ?_
  exact al_0
set_option maxHeartbeats 4000000 in
set_option maxRecDepth 100000 in
theorem csL11 {Γ : aΓ} {b L : Nat} {xs : Nat → Int32} (C : FOK Γ code wsL_law RL 9 room_1) (CX : FOX Γ) (CN : FOW Γ) (hS : LScr b L xs Γ) {ad : Nat → Nat} {i : Nat} {D9 M : List aE} {o : Nat → Int64} (had : ad 1000 = b) (hL : L ≤ 2048) (hi : i + 4 ≤ L) (hJ : JJ D9 M)
    (H : ∀ C2 M2 o2, JJ C2 M2 → FG Γ 1708 ad (104 + i) (17020 + 5 * i) [(4, .int (nI i)), (3, .ref 21), (2, .ref 9), (1, .ref 0), (0, .ref 1000)] [] (LW C2 M2 o2)) : FG Γ 711 ad (100 + i) (17000 + 5 * i) [(4, .int (nI i)), (3, .ref 21), (2, .ref 9), (1, .ref 0), (0, .ref 1000)] [] (LW D9 M o) := by
  obtain ⟨l9, fc, hC0⟩ := JJ_C hJ
  obtain ⟨l12, fm, hM0⟩ := JJ_M hJ
  have OK := okLc11 C CX CN hS
  refine go OK [1708] 90 ?_
  refine ⟨rfl, had, i + 1, nI_p1 i, by omega, hL, ?_⟩
  refine ⟨Pw tX4_faceTo svI [.int (xs (i + 1))] M, rfl, (show 100 + i + 1 ≤ 601024 by omega), (show 17000 + 5 * i + 6 ≤ 7293034 by omega), ⟨_, _, rfl, wr_ag (ag_faceTo (xs (i + 1))) code1_ne hJ⟩, fun v X2 hP => ?_⟩
  obtain ⟨C2, o2, rfl, l2, hP⟩ := hP
  refine ⟨rfl, had, i + 1, nI_p1 i, by omega, hL, ?_⟩
  rcases hP with ⟨rfl, r, ho, h4⟩ | ⟨hv, h4⟩
  · refine ⟨C2, M, [.inr (.inr (1, o2))], [.ref 0, .int (xs (i + 1))], _, 0, _, fm, rfl, (show 100 + i + 1 + 0 ≤ 601024 by omega), (show 17000 + 5 * i + 6 + 0 ≤ 7293034 by omega), rfl, hM0, l2, rfl, rfl, h4, fun r3 M2 h5 => ?_⟩
    obtain ⟨hr3, ht, hJ2⟩ := h5
    obtain ⟨l12b, fm2, hM2⟩ := JJ_M hJ2
    refine ⟨l12b.trans l12.symm, ?_⟩
    refine ⟨C2, M2, [.inr (.inr (1, o2))], [.ref 0], _, 0, [], fm2, rfl, (show 100 + i + 1 + 0 + 0 ≤ 601024 by omega), (show 17000 + 5 * i + 6 + 0 + 0 ≤ 7293034 by omega), rfl, hM2, l2, rfl, rfl, thr_T hJ2 ht, fun r4 M3 h6 => ?_⟩
    obtain ⟨hr4, hM3⟩ := h6
    subst hM3
    refine ⟨rfl, ?_⟩
    refine And.intro (fun _ => ?_) (fun q => absurd hr4 q)
    refine And.intro (fun q => absurd rfl q) (fun _ => ?_)
    refine ⟨_, o2, rfl, lw21 l2 l12b, rfl, ?_⟩
    refine And.intro (fun _ => ?_) (fun q => absurd (by rw [ho, hr3]; exact cmp_self _) q)
    exact FG_wid (show 100 + i + 1 + 0 + 0 ≤ 104 + i by omega) (show 17000 + 5 * i + 6 + 0 + 0 ≤ 17020 + 5 * i by omega) (FG_sub [2, 3, 4, 5, 6] rfl (H _ _ _ hJ2))
  · refine ⟨C2, M, [.inr (.inr (1, o2))], [.ref 0, .int (xs (i + 1))], _, 0, _, fm, rfl, (show 100 + i + 1 + 0 ≤ 601024 by omega), (show 17000 + 5 * i + 6 + 0 ≤ 7293034 by omega), rfl, hM0, l2, rfl, rfl, h4, fun r3 M2 h5 => ?_⟩
    obtain ⟨ht, hJ2⟩ := h5
    obtain ⟨l12b, fm2, hM2⟩ := JJ_M hJ2
    refine ⟨l12b.trans l12.symm, ?_⟩
    refine ⟨C2, M2, [.inr (.inr (1, o2))], [.ref 0], _, 0, [], fm2, rfl, (show 100 + i + 1 + 0 + 0 ≤ 601024 by omega), (show 17000 + 5 * i + 6 + 0 + 0 ≤ 7293034 by omega), rfl, hM2, l2, rfl, rfl, thr_T hJ2 ht, fun r4 M3 h6 => ?_⟩
    obtain ⟨hr4, hM3⟩ := h6
    subst hM3
    refine ⟨rfl, ?_⟩
    refine And.intro (fun _ => ?_) (fun q => absurd hr4 q)
    refine And.intro (fun q => ?_) (fun q => absurd q hv)
    exact FG_wid (show 100 + i + 1 + 0 + 0 ≤ 104 + i by omega) (show 17000 + 5 * i + 6 + 0 + 0 ≤ 17020 + 5 * i by omega) (FG_sub [2, 3, 4, 5, 6] rfl (H _ _ _ hJ2))
def tbLc12 (b L : Nat) (xs : Nat → Int32) : List (Nat × aO) := [(767, oAL 1 768),
  (768, oGi 0 tX3_isAsAtFirst 1 2 rmX3_isAsAtFirst.cells rmX3_isAsAtFirst.slots room_1.cells room_1.slots 771),
  (771, oAL 2 772),
  (772, oGi 9 tX4_isAsAtFirst 1 3 rmX4_isAsAtFirst.cells rmX4_isAsAtFirst.slots room_1.cells room_1.slots 775),
  (775, oIc_eq 1708 778),
  (778, oC (0) 779)]
set_option maxRecDepth 20000 in
theorem okLc12 {Γ : aΓ} {b L : Nat} {xs : Nat → Int32} (C : FOK Γ code wsL_law RL 9 room_1) (CX : FOX Γ) (CN : FOW Γ) (hS : LScr b L xs Γ) : AllS Γ (tbLc12 b L xs) := by
  unfold tbLc12
  refine al_c (pc := 767) (snd_aload_n C dL_law_767 rfl) ?_
  refine al_c (pc := 768) (snd_Gi 0 C (site_V C rfl dL_law_768 gL_law_X3_isAsAtFirst rfl rfl rfl ⟨rfl, by decide +kernel, by decide +kernel, by decide +kernel⟩ ⟨by decide, by decide⟩) mX3_isAsAtFirst) ?_
  refine al_c (pc := 771) (snd_aload_n C dL_law_771 rfl) ?_
  refine al_c (pc := 772) (snd_Gi 9 C (site_V C rfl dL_law_772 gL_law_X4_isAsAtFirst rfl rfl rfl ⟨rfl, by decide +kernel, by decide +kernel, by decide +kernel⟩ ⟨by decide, by decide⟩) mX4_isAsAtFirst) ?_
  refine al_c (pc := 775) (snd_icmp_eq C dL_law_775 (by decide)) ?_
  refine al_c (pc := 778) (snd_iconst C dL_law_778 (by decide)) ?_
  exact al_0
set_option maxHeartbeats 4000000 in
set_option maxRecDepth 100000 in
theorem csL12 {Γ : aΓ} {b L : Nat} {xs : Nat → Int32} (C : FOK Γ code wsL_law RL 9 room_1) (CX : FOX Γ) (CN : FOW Γ) (hS : LScr b L xs Γ) {ad : Nat → Nat} {i : Nat} {D9 M : List aE} {o : Nat → Int64} (had : ad 1000 = b) (hL : L ≤ 2048) (hi : i + 4 ≤ L) (hJ : JJ D9 M)
    (H : ∀ C2 M2 o2, JJ C2 M2 → FG Γ 1708 ad (104 + i) (17020 + 5 * i) [(4, .int (nI i)), (3, .ref 21), (2, .ref 9), (1, .ref 0), (0, .ref 1000)] [] (LW C2 M2 o2)) : FG Γ 767 ad (100 + i) (17000 + 5 * i) [(4, .int (nI i)), (3, .ref 21), (2, .ref 9), (1, .ref 0), (0, .ref 1000)] [] (LW D9 M o) := by
  obtain ⟨l9, fc, hC0⟩ := JJ_C hJ
  obtain ⟨l12, fm, hM0⟩ := JJ_M hJ
  have OK := okLc12 C CX CN hS
  refine go OK [1708] 90 ?_
  refine ⟨[], D9, M.map (shE 9) ++ [.inr (.inr (1, o))], [.ref 0], _, 0, [], fc, rfl, (show 100 + i + 0 ≤ 601024 by omega), (show 17000 + 5 * i + 0 ≤ 7293034 by omega), rfl, hC0, rfl, lw_0, rfl, ag_isAsAtFirst D9 M hJ, fun r C2 h5 => ?_⟩
  obtain ⟨l2, h4⟩ := h5
  refine ⟨l2.trans l9.symm, ?_⟩
  refine ⟨C2, M, [.inr (.inr (1, o))], [.ref 0], _, 0, [], fm, rfl, (show 100 + i + 0 + 0 ≤ 601024 by omega), (show 17000 + 5 * i + 0 + 0 ≤ 7293034 by omega), rfl, hM0, l2, lw_1, rfl, h4, fun r3 M2 h6 => ?_⟩
  obtain ⟨rfl, hJ2⟩ := h6
  refine ⟨(JJ_M hJ2).1.trans l12.symm, ?_⟩
  refine And.intro (fun _ => ?_) (fun q => absurd rfl q)
  exact FG_wid (show 100 + i + 0 + 0 ≤ 104 + i by omega) (show 17000 + 5 * i + 0 + 0 ≤ 17020 + 5 * i by omega) (H _ _ _ hJ2)
def tbLc13 (b L : Nat) (xs : Nat → Int32) : List (Nat × aO) := [(780, oAL 1 781),
  (781, oAL 0 782),
  (782, oIL 4 784),
  (784, oC (1) 785),
  (785, oIadd 786),
  (786, oSld b L xs 787),
  (787, oAL 3 788),
  (788, oWi (tW1 tX3_colourOf (code1 "java/lang/IndexOutOfBoundsException") svI) 3 rmL_colourOf.cells rmL_colourOf.slots room_1.cells room_1.slots 791),
  (791, oIS 5 793),
  (793, oAL 2 794),
  (794, oAL 0 795),
  (795, oIL 4 797),
  (797, oC (1) 798),
  (798, oIadd 799),
  (799, oSld b L xs 800),
  (800, oGi 9 tX4_colourOf 2 3 rmX4_colourOf.cells rmX4_colourOf.slots room_1.cells room_1.slots 803),
  (803, oIS 6 805),
  (805, oAL 2 806),
  (806, oGi 9 tX4_thrown 1 3 rmX4_thrown.cells rmX4_thrown.slots room_1.cells room_1.slots 809),
  (809, oIL 5 811),
  (811, oIc_eq 816 814),
  (814, oC (0) 815),
  (816, oIL 5 818),
  (818, oIf_ne 833 821),
  (821, oAL 3 822),
  (822, oC (0) 823),
  (823, oJal 824),
  (824, oIL 6 826),
  (826, oI2l 827),
  (827, oLcmp 828),
  (828, oIf_eq 833 831),
  (831, oC (0) 832),
  (833, oGo 1708)]
set_option maxRecDepth 20000 in
theorem okLc13 {Γ : aΓ} {b L : Nat} {xs : Nat → Int32} (C : FOK Γ code wsL_law RL 9 room_1) (CX : FOX Γ) (CN : FOW Γ) (hS : LScr b L xs Γ) : AllS Γ (tbLc13 b L xs) := by
  unfold tbLc13
  refine al_c (pc := 780) (snd_aload_n C dL_law_780 rfl) ?_
  refine al_c (pc := 781) (snd_aload_n C dL_law_781 rfl) ?_
  refine al_c (pc := 782) (snd_iload C dL_law_782) ?_
  refine al_c (pc := 784) (snd_iconst C dL_law_784 (by decide)) ?_
  refine al_c (pc := 785) (snd_iadd C dL_law_785) ?_
  refine al_c (pc := 786) (snd_Sld C hS dL_law_786) ?_
  refine al_c (pc := 787) (snd_aload_n C dL_law_787 rfl) ?_
  refine al_c (pc := 788) (snd_Wi C CX CN (site_SW C dL_law_788 gL_law_L_colourOf rfl rfl rfl ⟨by decide +kernel, by decide +kernel, by decide +kernel⟩ ⟨by decide, by decide⟩) mL_colourOf) ?_
  refine al_c (pc := 791) (snd_istore C dL_law_791 (by decide)) ?_
  refine al_c (pc := 793) (snd_aload_n C dL_law_793 rfl) ?_
  refine al_c (pc := 794) (snd_aload_n C dL_law_794 rfl) ?_
  refine al_c (pc := 795) (snd_iload C dL_law_795) ?_
  refine al_c (pc := 797) (snd_iconst C dL_law_797 (by decide)) ?_
  refine al_c (pc := 798) (snd_iadd C dL_law_798) ?_
  refine al_c (pc := 799) (snd_Sld C hS dL_law_799) ?_
  refine al_c (pc := 800) (snd_Gi 9 C (site_V C rfl dL_law_800 gL_law_X4_colourOf rfl rfl rfl ⟨rfl, by decide +kernel, by decide +kernel, by decide +kernel⟩ ⟨by decide, by decide⟩) mX4_colourOf) ?_
  refine al_c (pc := 803) (snd_istore C dL_law_803 (by decide)) ?_
  refine al_c (pc := 805) (snd_aload_n C dL_law_805 rfl) ?_
  refine al_c (pc := 806) (snd_Gi 9 C (site_V C rfl dL_law_806 gL_law_X4_thrown rfl rfl rfl ⟨rfl, by decide +kernel, by decide +kernel, by decide +kernel⟩ ⟨by decide, by decide⟩) mX4_thrown) ?_
  refine al_c (pc := 809) (snd_iload C dL_law_809) ?_
  refine al_c (pc := 811) (snd_icmp_eq C dL_law_811 (by decide)) ?_
  refine al_c (pc := 814) (snd_iconst C dL_law_814 (by decide)) ?_
  refine al_c (pc := 816) (snd_iload C dL_law_816) ?_
  refine al_c (pc := 818) (snd_if_ne C dL_law_818 (by decide)) ?_
  refine al_c (pc := 821) (snd_aload_n C dL_law_821 rfl) ?_
  refine al_c (pc := 822) (snd_iconst C dL_law_822 (by decide)) ?_
  refine al_c (pc := 823) (snd_Jal C dL_law_823) ?_
  refine al_c (pc := 824) (snd_iload C dL_law_824) ?_
  refine al_c (pc := 826) (snd_i2l C dL_law_826) ?_
  refine al_c (pc := 827) (snd_lcmp C dL_law_827) ?_
  refine al_c (pc := 828) (snd_if_eq C dL_law_828 (by decide)) ?_
  refine al_c (pc := 831) (snd_iconst C dL_law_831 (by decide)) ?_
  refine al_c (pc := 833) (snd_goto C dL_law_833 (by decide)) ?_
  exact al_0
set_option maxHeartbeats 4000000 in
set_option maxRecDepth 100000 in
theorem csL13 {Γ : aΓ} {b L : Nat} {xs : Nat → Int32} (C : FOK Γ code wsL_law RL 9 room_1) (CX : FOX Γ) (CN : FOW Γ) (hS : LScr b L xs Γ) {ad : Nat → Nat} {i : Nat} {D9 M : List aE} {o : Nat → Int64} (had : ad 1000 = b) (hL : L ≤ 2048) (hi : i + 4 ≤ L) (hJ : JJ D9 M)
    (H : ∀ C2 M2 o2, JJ C2 M2 → FG Γ 1708 ad (104 + i) (17020 + 5 * i) [(4, .int (nI i)), (3, .ref 21), (2, .ref 9), (1, .ref 0), (0, .ref 1000)] [] (LW C2 M2 o2)) : FG Γ 780 ad (100 + i) (17000 + 5 * i) [(4, .int (nI i)), (3, .ref 21), (2, .ref 9), (1, .ref 0), (0, .ref 1000)] [] (LW D9 M o) := by
  obtain ⟨l9, fc, hC0⟩ := JJ_C hJ
  obtain ⟨l12, fm, hM0⟩ := JJ_M hJ
  have OK := okLc13 C CX CN hS
  refine go OK [1708] 90 ?_
  refine ⟨rfl, had, i + 1, nI_p1 i, by omega, hL, ?_⟩
  refine ⟨Pw tX4_colourOf svI [.int (xs (i + 1))] M, rfl, (show 100 + i + 1 ≤ 601024 by omega), (show 17000 + 5 * i + 6 ≤ 7293034 by omega), ⟨_, _, rfl, wr_ag (ag_colourOf (xs (i + 1))) code1_ne hJ⟩, fun v X2 hP => ?_⟩
  obtain ⟨C2, o2, rfl, l2, hP⟩ := hP
  refine ⟨rfl, had, i + 1, nI_p1 i, by omega, hL, ?_⟩
  rcases hP with ⟨rfl, r, ho, h4⟩ | ⟨hv, h4⟩
  · refine ⟨C2, M, [.inr (.inr (1, o2))], [.ref 0, .int (xs (i + 1))], _, 0, _, fm, rfl, (show 100 + i + 1 + 0 ≤ 601024 by omega), (show 17000 + 5 * i + 6 + 0 ≤ 7293034 by omega), rfl, hM0, l2, rfl, rfl, h4, fun r3 M2 h5 => ?_⟩
    obtain ⟨hr3, ht, hJ2⟩ := h5
    obtain ⟨l12b, fm2, hM2⟩ := JJ_M hJ2
    refine ⟨l12b.trans l12.symm, ?_⟩
    refine ⟨C2, M2, [.inr (.inr (1, o2))], [.ref 0], _, 0, [], fm2, rfl, (show 100 + i + 1 + 0 + 0 ≤ 601024 by omega), (show 17000 + 5 * i + 6 + 0 + 0 ≤ 7293034 by omega), rfl, hM2, l2, rfl, rfl, thr_T hJ2 ht, fun r4 M3 h6 => ?_⟩
    obtain ⟨hr4, hM3⟩ := h6
    subst hM3
    refine ⟨rfl, ?_⟩
    refine And.intro (fun _ => ?_) (fun q => absurd hr4 q)
    refine And.intro (fun q => absurd rfl q) (fun _ => ?_)
    refine ⟨_, o2, rfl, lw21 l2 l12b, rfl, ?_⟩
    refine And.intro (fun _ => ?_) (fun q => absurd (by rw [ho, hr3]; exact cmp_self _) q)
    exact FG_wid (show 100 + i + 1 + 0 + 0 ≤ 104 + i by omega) (show 17000 + 5 * i + 6 + 0 + 0 ≤ 17020 + 5 * i by omega) (FG_sub [2, 3, 4, 5, 6] rfl (H _ _ _ hJ2))
  · refine ⟨C2, M, [.inr (.inr (1, o2))], [.ref 0, .int (xs (i + 1))], _, 0, _, fm, rfl, (show 100 + i + 1 + 0 ≤ 601024 by omega), (show 17000 + 5 * i + 6 + 0 ≤ 7293034 by omega), rfl, hM0, l2, rfl, rfl, h4, fun r3 M2 h5 => ?_⟩
    obtain ⟨ht, hJ2⟩ := h5
    obtain ⟨l12b, fm2, hM2⟩ := JJ_M hJ2
    refine ⟨l12b.trans l12.symm, ?_⟩
    refine ⟨C2, M2, [.inr (.inr (1, o2))], [.ref 0], _, 0, [], fm2, rfl, (show 100 + i + 1 + 0 + 0 ≤ 601024 by omega), (show 17000 + 5 * i + 6 + 0 + 0 ≤ 7293034 by omega), rfl, hM2, l2, rfl, rfl, thr_T hJ2 ht, fun r4 M3 h6 => ?_⟩
    obtain ⟨hr4, hM3⟩ := h6
    subst hM3
    refine ⟨rfl, ?_⟩
    refine And.intro (fun _ => ?_) (fun q => absurd hr4 q)
    refine And.intro (fun q => ?_) (fun q => absurd q hv)
    exact FG_wid (show 100 + i + 1 + 0 + 0 ≤ 104 + i by omega) (show 17000 + 5 * i + 6 + 0 + 0 ≤ 17020 + 5 * i by omega) (FG_sub [2, 3, 4, 5, 6] rfl (H _ _ _ hJ2))
