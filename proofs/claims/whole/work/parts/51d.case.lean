/-! ===== cases of the law, by program (mklaw.py) ===== -/
def tbLc24 (b L : Nat) (xs : Nat → Int32) : List (Nat × aO) := [(1219, oAL 1 1220),
  (1220, oAL 0 1221),
  (1221, oIL 4 1223),
  (1223, oC (1) 1224),
  (1224, oIadd 1225),
  (1225, oSld b L xs 1226),
  (1226, oAL 0 1227),
  (1227, oIL 4 1229),
  (1229, oC (2) 1230),
  (1230, oIadd 1231),
  (1231, oSld b L xs 1232),
  (1232, oAL 3 1233),
  (1233, oWi (tW2 tX3_fewestRolls (code1 "java/lang/IndexOutOfBoundsException") svI) 4 rmL_fewestRolls.cells rmL_fewestRolls.slots room_1.cells room_1.slots 1236),
  (1236, oIS 5 1238),
  (1238, oAL 2 1239),
  (1239, oAL 0 1240),
  (1240, oIL 4 1242),
  (1242, oC (1) 1243),
  (1243, oIadd 1244),
  (1244, oSld b L xs 1245),
  (1245, oAL 0 1246),
  (1246, oIL 4 1248),
  (1248, oC (2) 1249),
  (1249, oIadd 1250),
  (1250, oSld b L xs 1251),
  (1251, oGi 9 tX4_fewestRolls 3 3 rmX4_fewestRolls.cells rmX4_fewestRolls.slots room_1.cells room_1.slots 1254),
  (1254, oIS 6 1256),
  (1256, oAL 2 1257),
  (1257, oGi 9 tX4_thrown 1 3 rmX4_thrown.cells rmX4_thrown.slots room_1.cells room_1.slots 1260),
  (1260, oIL 5 1262),
  (1262, oIc_eq 1267 1265),
  (1265, oC (0) 1266),
  (1267, oIL 5 1269),
  (1269, oIf_ne 1284 1272),
  (1272, oAL 3 1273),
  (1273, oC (0) 1274),
  (1274, oJal 1275),
  (1275, oIL 6 1277),
  (1277, oI2l 1278),
  (1278, oLcmp 1279),
  (1279, oIf_eq 1284 1282),
  (1282, oC (0) 1283),
  (1284, oGo 1708)]
set_option maxRecDepth 20000 in
theorem okLc24 {Γ : aΓ} {b L : Nat} {xs : Nat → Int32} (C : FOK Γ code wsL_law RL 9 room_1) (CX : FOX Γ) (CN : FOW Γ) (hS : LScr b L xs Γ) : AllS Γ (tbLc24 b L xs) := by
  unfold tbLc24
  refine al_c (pc := 1219) (snd_aload_n C dL_law_1219 rfl) ?_
  refine al_c (pc := 1220) (snd_aload_n C dL_law_1220 rfl) ?_
  refine al_c (pc := 1221) (snd_iload C dL_law_1221) ?_
  refine al_c (pc := 1223) (snd_iconst C dL_law_1223 (by decide)) ?_
  refine al_c (pc := 1224) (snd_iadd C dL_law_1224) ?_
  refine al_c (pc := 1225) (snd_Sld C hS dL_law_1225) ?_
  refine al_c (pc := 1226) (snd_aload_n C dL_law_1226 rfl) ?_
  refine al_c (pc := 1227) (snd_iload C dL_law_1227) ?_
  refine al_c (pc := 1229) (snd_iconst C dL_law_1229 (by decide)) ?_
  refine al_c (pc := 1230) (snd_iadd C dL_law_1230) ?_
  refine al_c (pc := 1231) (snd_Sld C hS dL_law_1231) ?_
  refine al_c (pc := 1232) (snd_aload_n C dL_law_1232 rfl) ?_
  refine al_c (pc := 1233) (snd_Wi C CX CN (site_SW C dL_law_1233 gL_law_L_fewestRolls rfl rfl rfl ⟨by decide +kernel, by decide +kernel, by decide +kernel⟩ ⟨by decide, by decide⟩) mL_fewestRolls) ?_
  refine al_c (pc := 1236) (snd_istore C dL_law_1236 (by decide)) ?_
  refine al_c (pc := 1238) (snd_aload_n C dL_law_1238 rfl) ?_
  refine al_c (pc := 1239) (snd_aload_n C dL_law_1239 rfl) ?_
  refine al_c (pc := 1240) (snd_iload C dL_law_1240) ?_
  refine al_c (pc := 1242) (snd_iconst C dL_law_1242 (by decide)) ?_
  refine al_c (pc := 1243) (snd_iadd C dL_law_1243) ?_
  refine al_c (pc := 1244) (snd_Sld C hS dL_law_1244) ?_
  refine al_c (pc := 1245) (snd_aload_n C dL_law_1245 rfl) ?_
  refine al_c (pc := 1246) (snd_iload C dL_law_1246) ?_
  refine al_c (pc := 1248) (snd_iconst C dL_law_1248 (by decide)) ?_
  refine al_c (pc := 1249) (snd_iadd C dL_law_1249) ?_
  refine al_c (pc := 1250) (snd_Sld C hS dL_law_1250) ?_
  refine al_c (pc := 1251) (snd_Gi 9 C (site_V C rfl dL_law_1251 gL_law_X4_fewestRolls rfl rfl rfl ⟨rfl, by decide +kernel, by decide +kernel, by decide +kernel⟩ ⟨by decide, by decide⟩) mX4_fewestRolls) ?_
  refine al_c (pc := 1254) (snd_istore C dL_law_1254 (by decide)) ?_
  refine al_c (pc := 1256) (snd_aload_n C dL_law_1256 rfl) ?_
  refine al_c (pc := 1257) (snd_Gi 9 C (site_V C rfl dL_law_1257 gL_law_X4_thrown rfl rfl rfl ⟨rfl, by decide +kernel, by decide +kernel, by decide +kernel⟩ ⟨by decide, by decide⟩) mX4_thrown) ?_
  refine al_c (pc := 1260) (snd_iload C dL_law_1260) ?_
  refine al_c (pc := 1262) (snd_icmp_eq C dL_law_1262 (by decide)) ?_
  refine al_c (pc := 1265) (snd_iconst C dL_law_1265 (by decide)) ?_
  refine al_c (pc := 1267) (snd_iload C dL_law_1267) ?_
  refine al_c (pc := 1269) (snd_if_ne C dL_law_1269 (by decide)) ?_
  refine al_c (pc := 1272) (snd_aload_n C dL_law_1272 rfl) ?_
  refine al_c (pc := 1273) (snd_iconst C dL_law_1273 (by decide)) ?_
  refine al_c (pc := 1274) (snd_Jal C dL_law_1274) ?_
  refine al_c (pc := 1275) (snd_iload C dL_law_1275) ?_
  refine al_c (pc := 1277) (snd_i2l C dL_law_1277) ?_
  refine al_c (pc := 1278) (snd_lcmp C dL_law_1278) ?_
  refine al_c (pc := 1279) (snd_if_eq C dL_law_1279 (by decide)) ?_
  refine al_c (pc := 1282) (snd_iconst C dL_law_1282 (by decide)) ?_
  refine al_c (pc := 1284) (snd_goto C dL_law_1284 (by decide)) ?_
  exact al_0
set_option maxHeartbeats 4000000 in
set_option maxRecDepth 100000 in
theorem csL24 {Γ : aΓ} {b L : Nat} {xs : Nat → Int32} (C : FOK Γ code wsL_law RL 9 room_1) (CX : FOX Γ) (CN : FOW Γ) (hS : LScr b L xs Γ) {ad : Nat → Nat} {i : Nat} {D9 M : List aE} {o : Nat → Int64} (had : ad 1000 = b) (hL : L ≤ 2048) (hi : i + 4 ≤ L) (hJ : JJ D9 M)
    (H : ∀ C2 M2 o2, JJ C2 M2 → FG Γ 1708 ad (104 + i) (17020 + 5 * i) [(4, .int (nI i)), (3, .ref 21), (2, .ref 9), (1, .ref 0), (0, .ref 1000)] [] (LW C2 M2 o2)) : FG Γ 1219 ad (100 + i) (17000 + 5 * i) [(4, .int (nI i)), (3, .ref 21), (2, .ref 9), (1, .ref 0), (0, .ref 1000)] [] (LW D9 M o) := by
  obtain ⟨l9, fc, hC0⟩ := JJ_C hJ
  obtain ⟨l12, fm, hM0⟩ := JJ_M hJ
  have OK := okLc24 C CX CN hS
  refine go OK [1708] 90 ?_
  refine ⟨rfl, had, i + 1, nI_p1 i, by omega, hL, ?_⟩
  refine ⟨rfl, had, i + 2, nI_p2 i, by omega, hL, ?_⟩
  refine ⟨Pw tX4_fewestRolls svI [.int (xs (i + 1)), .int (xs (i + 2))] M, rfl, (show 100 + i + 1 ≤ 601024 by omega), (show 17000 + 5 * i + 6 ≤ 7293034 by omega), ⟨_, _, _, rfl, wr_ag (ag_fewestRolls (xs (i + 1)) (xs (i + 2))) code1_ne hJ⟩, fun v X2 hP => ?_⟩
  obtain ⟨C2, o2, rfl, l2, hP⟩ := hP
  refine ⟨rfl, had, i + 1, nI_p1 i, by omega, hL, ?_⟩
  refine ⟨rfl, had, i + 2, nI_p2 i, by omega, hL, ?_⟩
  rcases hP with ⟨rfl, r, ho, h4⟩ | ⟨hv, h4⟩
  · refine ⟨C2, M, [.inr (.inr (1, o2))], [.ref 0, .int (xs (i + 1)), .int (xs (i + 2))], _, 0, _, fm, rfl, (show 100 + i + 1 + 0 ≤ 601024 by omega), (show 17000 + 5 * i + 6 + 0 ≤ 7293034 by omega), rfl, hM0, l2, rfl, rfl, h4, fun r3 M2 h5 => ?_⟩
    obtain ⟨hr3, ht, hJ2⟩ := h5
    obtain ⟨l12b, fm2, hM2⟩ := JJ_M hJ2
    refine ⟨l12b.trans l12.symm, ?_⟩
    refine ⟨C2, M2, [.inr (.inr (1, o2))], [.ref 0], _, 0, [], fm2, rfl, (show 100 + i + 1 + 0 + 0 ≤ 601024 by omega), (show 17000 + 5 * i + 6 + 0 + 0 ≤ 7293034 by omega), rfl, hM2, l2, rfl, rfl, thr_T hJ2 ht, fun r4 M3 h6 => ?_⟩
    obtain ⟨hr4, hM3⟩ := h6
    subst hM3
    refine ⟨rfl, ?_⟩
    refine And.intro (fun _ => ?_) (fun q => absurd hr4 q)
    refine And.intro (fun q => absurd rfl q) (fun _ => ?_)
    refine ⟨_, o2, rfl, lw21 l2 l12b, rfl, ?_⟩
    refine And.intro (fun _ => ?_) (fun q => absurd (by rw [ho, hr3]; exact cmp_self _) q)
    exact FG_wid (show 100 + i + 1 + 0 + 0 ≤ 104 + i by omega) (show 17000 + 5 * i + 6 + 0 + 0 ≤ 17020 + 5 * i by omega) (FG_sub [2, 3, 4, 5, 6] rfl (H _ _ _ hJ2))
  · refine ⟨C2, M, [.inr (.inr (1, o2))], [.ref 0, .int (xs (i + 1)), .int (xs (i + 2))], _, 0, _, fm, rfl, (show 100 + i + 1 + 0 ≤ 601024 by omega), (show 17000 + 5 * i + 6 + 0 ≤ 7293034 by omega), rfl, hM0, l2, rfl, rfl, h4, fun r3 M2 h5 => ?_⟩
    obtain ⟨ht, hJ2⟩ := h5
    obtain ⟨l12b, fm2, hM2⟩ := JJ_M hJ2
    refine ⟨l12b.trans l12.symm, ?_⟩
    refine ⟨C2, M2, [.inr (.inr (1, o2))], [.ref 0], _, 0, [], fm2, rfl, (show 100 + i + 1 + 0 + 0 ≤ 601024 by omega), (show 17000 + 5 * i + 6 + 0 + 0 ≤ 7293034 by omega), rfl, hM2, l2, rfl, rfl, thr_T hJ2 ht, fun r4 M3 h6 => ?_⟩
    obtain ⟨hr4, hM3⟩ := h6
    subst hM3
    refine ⟨rfl, ?_⟩
    refine And.intro (fun _ => ?_) (fun q => absurd hr4 q)
    refine And.intro (fun q => ?_) (fun q => absurd q hv)
    exact FG_wid (show 100 + i + 1 + 0 + 0 ≤ 104 + i by omega) (show 17000 + 5 * i + 6 + 0 + 0 ≤ 17020 + 5 * i by omega) (FG_sub [2, 3, 4, 5, 6] rfl (H _ _ _ hJ2))
def tbLc25 (b L : Nat) (xs : Nat → Int32) : List (Nat × aO) := [(1287, oAL 1 1288),
  (1288, oAL 0 1289),
  (1289, oIL 4 1291),
  (1291, oC (1) 1292),
  (1292, oIadd 1293),
  (1293, oSld b L xs 1294),
  (1294, oAL 0 1295),
  (1295, oIL 4 1297),
  (1297, oC (2) 1298),
  (1298, oIadd 1299),
  (1299, oSld b L xs 1300),
  (1300, oAL 0 1301),
  (1301, oIL 4 1303),
  (1303, oC (3) 1304),
  (1304, oIadd 1305),
  (1305, oSld b L xs 1306),
  (1306, oAL 3 1307),
  (1307, oWi (tW3 tX3_fewestRollsWithTop (code1 "java/lang/IndexOutOfBoundsException") svI) 5 rmL_fewestRollsWithTop.cells rmL_fewestRollsWithTop.slots room_1.cells room_1.slots 1310),
  (1310, oIS 5 1312),
  (1312, oAL 2 1313),
  (1313, oAL 0 1314),
  (1314, oIL 4 1316),
  (1316, oC (1) 1317),
  (1317, oIadd 1318),
  (1318, oSld b L xs 1319),
  (1319, oAL 0 1320),
  (1320, oIL 4 1322),
  (1322, oC (2) 1323),
  (1323, oIadd 1324),
  (1324, oSld b L xs 1325),
  (1325, oAL 0 1326),
  (1326, oIL 4 1328),
  (1328, oC (3) 1329),
  (1329, oIadd 1330),
  (1330, oSld b L xs 1331),
  (1331, oGi 9 tX4_fewestRollsWithTop 4 3 rmX4_fewestRollsWithTop.cells rmX4_fewestRollsWithTop.slots room_1.cells room_1.slots 1334),
  (1334, oIS 6 1336),
  (1336, oAL 2 1337),
  (1337, oGi 9 tX4_thrown 1 3 rmX4_thrown.cells rmX4_thrown.slots room_1.cells room_1.slots 1340),
  (1340, oIL 5 1342),
  (1342, oIc_eq 1347 1345),
  (1345, oC (0) 1346),
  (1347, oIL 5 1349),
  (1349, oIf_ne 1364 1352),
  (1352, oAL 3 1353),
  (1353, oC (0) 1354),
  (1354, oJal 1355),
  (1355, oIL 6 1357),
  (1357, oI2l 1358),
  (1358, oLcmp 1359),
  (1359, oIf_eq 1364 1362),
  (1362, oC (0) 1363),
  (1364, oGo 1708)]
set_option maxRecDepth 20000 in
theorem okLc25 {Γ : aΓ} {b L : Nat} {xs : Nat → Int32} (C : FOK Γ code wsL_law RL 9 room_1) (CX : FOX Γ) (CN : FOW Γ) (hS : LScr b L xs Γ) : AllS Γ (tbLc25 b L xs) := by
  unfold tbLc25
  refine al_c (pc := 1287) (snd_aload_n C dL_law_1287 rfl) ?_
  refine al_c (pc := 1288) (snd_aload_n C dL_law_1288 rfl) ?_
  refine al_c (pc := 1289) (snd_iload C dL_law_1289) ?_
  refine al_c (pc := 1291) (snd_iconst C dL_law_1291 (by decide)) ?_
  refine al_c (pc := 1292) (snd_iadd C dL_law_1292) ?_
  refine al_c (pc := 1293) (snd_Sld C hS dL_law_1293) ?_
  refine al_c (pc := 1294) (snd_aload_n C dL_law_1294 rfl) ?_
  refine al_c (pc := 1295) (snd_iload C dL_law_1295) ?_
  refine al_c (pc := 1297) (snd_iconst C dL_law_1297 (by decide)) ?_
  refine al_c (pc := 1298) (snd_iadd C dL_law_1298) ?_
  refine al_c (pc := 1299) (snd_Sld C hS dL_law_1299) ?_
  refine al_c (pc := 1300) (snd_aload_n C dL_law_1300 rfl) ?_
  refine al_c (pc := 1301) (snd_iload C dL_law_1301) ?_
  refine al_c (pc := 1303) (snd_iconst C dL_law_1303 (by decide)) ?_
  refine al_c (pc := 1304) (snd_iadd C dL_law_1304) ?_
  refine al_c (pc := 1305) (snd_Sld C hS dL_law_1305) ?_
  refine al_c (pc := 1306) (snd_aload_n C dL_law_1306 rfl) ?_
  refine al_c (pc := 1307) (snd_Wi C CX CN (site_SW C dL_law_1307 gL_law_L_fewestRollsWithTop rfl rfl rfl ⟨by decide +kernel, by decide +kernel, by decide +kernel⟩ ⟨by decide, by decide⟩) mL_fewestRollsWithTop) ?_
  refine al_c (pc := 1310) (snd_istore C dL_law_1310 (by decide)) ?_
  refine al_c (pc := 1312) (snd_aload_n C dL_law_1312 rfl) ?_
  refine al_c (pc := 1313) (snd_aload_n C dL_law_1313 rfl) ?_
  refine al_c (pc := 1314) (snd_iload C dL_law_1314) ?_
  refine al_c (pc := 1316) (snd_iconst C dL_law_1316 (by decide)) ?_
  refine al_c (pc := 1317) (snd_iadd C dL_law_1317) ?_
  refine al_c (pc := 1318) (snd_Sld C hS dL_law_1318) ?_
  refine al_c (pc := 1319) (snd_aload_n C dL_law_1319 rfl) ?_
  refine al_c (pc := 1320) (snd_iload C dL_law_1320) ?_
  refine al_c (pc := 1322) (snd_iconst C dL_law_1322 (by decide)) ?_
  refine al_c (pc := 1323) (snd_iadd C dL_law_1323) ?_
  refine al_c (pc := 1324) (snd_Sld C hS dL_law_1324) ?_
  refine al_c (pc := 1325) (snd_aload_n C dL_law_1325 rfl) ?_
  refine al_c (pc := 1326) (snd_iload C dL_law_1326) ?_
  refine al_c (pc := 1328) (snd_iconst C dL_law_1328 (by decide)) ?_
  refine al_c (pc := 1329) (snd_iadd C dL_law_1329) ?_
  refine al_c (pc := 1330) (snd_Sld C hS dL_law_1330) ?_
  refine al_c (pc := 1331) (snd_Gi 9 C (site_V C rfl dL_law_1331 gL_law_X4_fewestRollsWithTop rfl rfl rfl ⟨rfl, by decide +kernel, by decide +kernel, by decide +kernel⟩ ⟨by decide, by decide⟩) mX4_fewestRollsWithTop) ?_
  refine al_c (pc := 1334) (snd_istore C dL_law_1334 (by decide)) ?_
  refine al_c (pc := 1336) (snd_aload_n C dL_law_1336 rfl) ?_
  refine al_c (pc := 1337) (snd_Gi 9 C (site_V C rfl dL_law_1337 gL_law_X4_thrown rfl rfl rfl ⟨rfl, by decide +kernel, by decide +kernel, by decide +kernel⟩ ⟨by decide, by decide⟩) mX4_thrown) ?_
  refine al_c (pc := 1340) (snd_iload C dL_law_1340) ?_
  refine al_c (pc := 1342) (snd_icmp_eq C dL_law_1342 (by decide)) ?_
  refine al_c (pc := 1345) (snd_iconst C dL_law_1345 (by decide)) ?_
  refine al_c (pc := 1347) (snd_iload C dL_law_1347) ?_
  refine al_c (pc := 1349) (snd_if_ne C dL_law_1349 (by decide)) ?_
  refine al_c (pc := 1352) (snd_aload_n C dL_law_1352 rfl) ?_
  refine al_c (pc := 1353) (snd_iconst C dL_law_1353 (by decide)) ?_
  refine al_c (pc := 1354) (snd_Jal C dL_law_1354) ?_
  refine al_c (pc := 1355) (snd_iload C dL_law_1355) ?_
  refine al_c (pc := 1357) (snd_i2l C dL_law_1357) ?_
  refine al_c (pc := 1358) (snd_lcmp C dL_law_1358) ?_
  refine al_c (pc := 1359) (snd_if_eq C dL_law_1359 (by decide)) ?_
  refine al_c (pc := 1362) (snd_iconst C dL_law_1362 (by decide)) ?_
  refine al_c (pc := 1364) (snd_goto C dL_law_1364 (by decide)) ?_
  exact al_0
set_option maxHeartbeats 4000000 in
set_option maxRecDepth 100000 in
theorem csL25 {Γ : aΓ} {b L : Nat} {xs : Nat → Int32} (C : FOK Γ code wsL_law RL 9 room_1) (CX : FOX Γ) (CN : FOW Γ) (hS : LScr b L xs Γ) {ad : Nat → Nat} {i : Nat} {D9 M : List aE} {o : Nat → Int64} (had : ad 1000 = b) (hL : L ≤ 2048) (hi : i + 4 ≤ L) (hJ : JJ D9 M)
    (H : ∀ C2 M2 o2, JJ C2 M2 → FG Γ 1708 ad (104 + i) (17020 + 5 * i) [(4, .int (nI i)), (3, .ref 21), (2, .ref 9), (1, .ref 0), (0, .ref 1000)] [] (LW C2 M2 o2)) : FG Γ 1287 ad (100 + i) (17000 + 5 * i) [(4, .int (nI i)), (3, .ref 21), (2, .ref 9), (1, .ref 0), (0, .ref 1000)] [] (LW D9 M o) := by
  obtain ⟨l9, fc, hC0⟩ := JJ_C hJ
  obtain ⟨l12, fm, hM0⟩ := JJ_M hJ
  have OK := okLc25 C CX CN hS
  refine go OK [1708] 90 ?_
  refine ⟨rfl, had, i + 1, nI_p1 i, by omega, hL, ?_⟩
  refine ⟨rfl, had, i + 2, nI_p2 i, by omega, hL, ?_⟩
  refine ⟨rfl, had, i + 3, nI_p3 i, by omega, hL, ?_⟩
  refine ⟨Pw tX4_fewestRollsWithTop svI [.int (xs (i + 1)), .int (xs (i + 2)), .int (xs (i + 3))] M, rfl, (show 100 + i + 2 ≤ 601024 by omega), (show 17000 + 5 * i + 12 ≤ 7293034 by omega), ⟨_, _, _, _, rfl, wr_ag (ag_fewestRollsWithTop (xs (i + 1)) (xs (i + 2)) (xs (i + 3))) code1_ne hJ⟩, fun v X2 hP => ?_⟩
  obtain ⟨C2, o2, rfl, l2, hP⟩ := hP
  refine ⟨rfl, had, i + 1, nI_p1 i, by omega, hL, ?_⟩
  refine ⟨rfl, had, i + 2, nI_p2 i, by omega, hL, ?_⟩
  refine ⟨rfl, had, i + 3, nI_p3 i, by omega, hL, ?_⟩
  rcases hP with ⟨rfl, r, ho, h4⟩ | ⟨hv, h4⟩
  · refine ⟨C2, M, [.inr (.inr (1, o2))], [.ref 0, .int (xs (i + 1)), .int (xs (i + 2)), .int (xs (i + 3))], _, 0, _, fm, rfl, (show 100 + i + 2 + 0 ≤ 601024 by omega), (show 17000 + 5 * i + 12 + 0 ≤ 7293034 by omega), rfl, hM0, l2, rfl, rfl, h4, fun r3 M2 h5 => ?_⟩
    obtain ⟨hr3, ht, hJ2⟩ := h5
    obtain ⟨l12b, fm2, hM2⟩ := JJ_M hJ2
    refine ⟨l12b.trans l12.symm, ?_⟩
    refine ⟨C2, M2, [.inr (.inr (1, o2))], [.ref 0], _, 0, [], fm2, rfl, (show 100 + i + 2 + 0 + 0 ≤ 601024 by omega), (show 17000 + 5 * i + 12 + 0 + 0 ≤ 7293034 by omega), rfl, hM2, l2, rfl, rfl, thr_T hJ2 ht, fun r4 M3 h6 => ?_⟩
    obtain ⟨hr4, hM3⟩ := h6
    subst hM3
    refine ⟨rfl, ?_⟩
    refine And.intro (fun _ => ?_) (fun q => absurd hr4 q)
    refine And.intro (fun q => absurd rfl q) (fun _ => ?_)
    refine ⟨_, o2, rfl, lw21 l2 l12b, rfl, ?_⟩
    refine And.intro (fun _ => ?_) (fun q => absurd (by rw [ho, hr3]; exact cmp_self _) q)
    exact FG_wid (show 100 + i + 2 + 0 + 0 ≤ 104 + i by omega) (show 17000 + 5 * i + 12 + 0 + 0 ≤ 17020 + 5 * i by omega) (FG_sub [2, 3, 4, 5, 6] rfl (H _ _ _ hJ2))
  · refine ⟨C2, M, [.inr (.inr (1, o2))], [.ref 0, .int (xs (i + 1)), .int (xs (i + 2)), .int (xs (i + 3))], _, 0, _, fm, rfl, (show 100 + i + 2 + 0 ≤ 601024 by omega), (show 17000 + 5 * i + 12 + 0 ≤ 7293034 by omega), rfl, hM0, l2, rfl, rfl, h4, fun r3 M2 h5 => ?_⟩
    obtain ⟨ht, hJ2⟩ := h5
    obtain ⟨l12b, fm2, hM2⟩ := JJ_M hJ2
    refine ⟨l12b.trans l12.symm, ?_⟩
    refine ⟨C2, M2, [.inr (.inr (1, o2))], [.ref 0], _, 0, [], fm2, rfl, (show 100 + i + 2 + 0 + 0 ≤ 601024 by omega), (show 17000 + 5 * i + 12 + 0 + 0 ≤ 7293034 by omega), rfl, hM2, l2, rfl, rfl, thr_T hJ2 ht, fun r4 M3 h6 => ?_⟩
    obtain ⟨hr4, hM3⟩ := h6
    subst hM3
    refine ⟨rfl, ?_⟩
    refine And.intro (fun _ => ?_) (fun q => absurd hr4 q)
    refine And.intro (fun q => ?_) (fun q => absurd q hv)
    exact FG_wid (show 100 + i + 2 + 0 + 0 ≤ 104 + i by omega) (show 17000 + 5 * i + 12 + 0 + 0 ≤ 17020 + 5 * i by omega) (FG_sub [2, 3, 4, 5, 6] rfl (H _ _ _ hJ2))
def tbLc26 (b L : Nat) (xs : Nat → Int32) : List (Nat × aO) := [(1367, oAL 1 1368),
  (1368, oAL 0 1369),
  (1369, oIL 4 1371),
  (1371, oC (1) 1372),
  (1372, oIadd 1373),
  (1373, oSld b L xs 1374),
  (1374, oAL 0 1375),
  (1375, oIL 4 1377),
  (1377, oC (2) 1378),
  (1378, oIadd 1379),
  (1379, oSld b L xs 1380),
  (1380, oAL 0 1381),
  (1381, oIL 4 1383),
  (1383, oC (3) 1384),
  (1384, oIadd 1385),
  (1385, oSld b L xs 1386),
  (1386, oAL 3 1387),
  (1387, oWi (tW3 tX3_firstRoll (code1 "java/lang/IndexOutOfBoundsException") svI) 5 rmL_firstRoll.cells rmL_firstRoll.slots room_1.cells room_1.slots 1390),
  (1390, oIS 5 1392),
  (1392, oAL 2 1393),
  (1393, oAL 0 1394),
  (1394, oIL 4 1396),
  (1396, oC (1) 1397),
  (1397, oIadd 1398),
  (1398, oSld b L xs 1399),
  (1399, oAL 0 1400),
  (1400, oIL 4 1402),
  (1402, oC (2) 1403),
  (1403, oIadd 1404),
  (1404, oSld b L xs 1405),
  (1405, oAL 0 1406),
  (1406, oIL 4 1408),
  (1408, oC (3) 1409),
  (1409, oIadd 1410),
  (1410, oSld b L xs 1411),
  (1411, oGi 9 tX4_firstRoll 4 3 rmX4_firstRoll.cells rmX4_firstRoll.slots room_1.cells room_1.slots 1414),
  (1414, oIS 6 1416),
  (1416, oAL 2 1417),
  (1417, oGi 9 tX4_thrown 1 3 rmX4_thrown.cells rmX4_thrown.slots room_1.cells room_1.slots 1420),
  (1420, oIL 5 1422),
  (1422, oIc_eq 1427 1425),
  (1425, oC (0) 1426),
  (1427, oIL 5 1429),
  (1429, oIf_ne 1444 1432),
  (1432, oAL 3 1433),
  (1433, oC (0) 1434),
  (1434, oJal 1435),
  (1435, oIL 6 1437),
  (1437, oI2l 1438),
  (1438, oLcmp 1439),
  (1439, oIf_eq 1444 1442),
  (1442, oC (0) 1443),
  (1444, oGo 1708)]
set_option maxRecDepth 20000 in
theorem okLc26 {Γ : aΓ} {b L : Nat} {xs : Nat → Int32} (C : FOK Γ code wsL_law RL 9 room_1) (CX : FOX Γ) (CN : FOW Γ) (hS : LScr b L xs Γ) : AllS Γ (tbLc26 b L xs) := by
  unfold tbLc26
  refine al_c (pc := 1367) (snd_aload_n C dL_law_1367 rfl) ?_
  refine al_c (pc := 1368) (snd_aload_n C dL_law_1368 rfl) ?_
  refine al_c (pc := 1369) (snd_iload C dL_law_1369) ?_
  refine al_c (pc := 1371) (snd_iconst C dL_law_1371 (by decide)) ?_
  refine al_c (pc := 1372) (snd_iadd C dL_law_1372) ?_
  refine al_c (pc := 1373) (snd_Sld C hS dL_law_1373) ?_
  refine al_c (pc := 1374) (snd_aload_n C dL_law_1374 rfl) ?_
  refine al_c (pc := 1375) (snd_iload C dL_law_1375) ?_
  refine al_c (pc := 1377) (snd_iconst C dL_law_1377 (by decide)) ?_
  refine al_c (pc := 1378) (snd_iadd C dL_law_1378) ?_
  refine al_c (pc := 1379) (snd_Sld C hS dL_law_1379) ?_
  refine al_c (pc := 1380) (snd_aload_n C dL_law_1380 rfl) ?_
  refine al_c (pc := 1381) (snd_iload C dL_law_1381) ?_
  refine al_c (pc := 1383) (snd_iconst C dL_law_1383 (by decide)) ?_
  refine al_c (pc := 1384) (snd_iadd C dL_law_1384) ?_
  refine al_c (pc := 1385) (snd_Sld C hS dL_law_1385) ?_
  refine al_c (pc := 1386) (snd_aload_n C dL_law_1386 rfl) ?_
  refine al_c (pc := 1387) (snd_Wi C CX CN (site_SW C dL_law_1387 gL_law_L_firstRoll rfl rfl rfl ⟨by decide +kernel, by decide +kernel, by decide +kernel⟩ ⟨by decide, by decide⟩) mL_firstRoll) ?_
  refine al_c (pc := 1390) (snd_istore C dL_law_1390 (by decide)) ?_
  refine al_c (pc := 1392) (snd_aload_n C dL_law_1392 rfl) ?_
  refine al_c (pc := 1393) (snd_aload_n C dL_law_1393 rfl) ?_
  refine al_c (pc := 1394) (snd_iload C dL_law_1394) ?_
  refine al_c (pc := 1396) (snd_iconst C dL_law_1396 (by decide)) ?_
  refine al_c (pc := 1397) (snd_iadd C dL_law_1397) ?_
  refine al_c (pc := 1398) (snd_Sld C hS dL_law_1398) ?_
  refine al_c (pc := 1399) (snd_aload_n C dL_law_1399 rfl) ?_
  refine al_c (pc := 1400) (snd_iload C dL_law_1400) ?_
  refine al_c (pc := 1402) (snd_iconst C dL_law_1402 (by decide)) ?_
  refine al_c (pc := 1403) (snd_iadd C dL_law_1403) ?_
  refine al_c (pc := 1404) (snd_Sld C hS dL_law_1404) ?_
  refine al_c (pc := 1405) (snd_aload_n C dL_law_1405 rfl) ?_
  refine al_c (pc := 1406) (snd_iload C dL_law_1406) ?_
  refine al_c (pc := 1408) (snd_iconst C dL_law_1408 (by decide)) ?_
  refine al_c (pc := 1409) (snd_iadd C dL_law_1409) ?_
  refine al_c (pc := 1410) (snd_Sld C hS dL_law_1410) ?_
  refine al_c (pc := 1411) (snd_Gi 9 C (site_V C rfl dL_law_1411 gL_law_X4_firstRoll rfl rfl rfl ⟨rfl, by decide +kernel, by decide +kernel, by decide +kernel⟩ ⟨by decide, by decide⟩) mX4_firstRoll) ?_
  refine al_c (pc := 1414) (snd_istore C dL_law_1414 (by decide)) ?_
  refine al_c (pc := 1416) (snd_aload_n C dL_law_1416 rfl) ?_
  refine al_c (pc := 1417) (snd_Gi 9 C (site_V C rfl dL_law_1417 gL_law_X4_thrown rfl rfl rfl ⟨rfl, by decide +kernel, by decide +kernel, by decide +kernel⟩ ⟨by decide, by decide⟩) mX4_thrown) ?_
  refine al_c (pc := 1420) (snd_iload C dL_law_1420) ?_
  refine al_c (pc := 1422) (snd_icmp_eq C dL_law_1422 (by decide)) ?_
  refine al_c (pc := 1425) (snd_iconst C dL_law_1425 (by decide)) ?_
  refine al_c (pc := 1427) (snd_iload C dL_law_1427) ?_
  refine al_c (pc := 1429) (snd_if_ne C dL_law_1429 (by decide)) ?_
  refine al_c (pc := 1432) (snd_aload_n C dL_law_1432 rfl) ?_
  refine al_c (pc := 1433) (snd_iconst C dL_law_1433 (by decide)) ?_
  refine al_c (pc := 1434) (snd_Jal C dL_law_1434) ?_
  refine al_c (pc := 1435) (snd_iload C dL_law_1435) ?_
  refine al_c (pc := 1437) (snd_i2l C dL_law_1437) ?_
  refine al_c (pc := 1438) (snd_lcmp C dL_law_1438) ?_
  refine al_c (pc := 1439) (snd_if_eq C dL_law_1439 (by decide)) ?_
  refine al_c (pc := 1442) (snd_iconst C dL_law_1442 (by decide)) ?_
  refine al_c (pc := 1444) (snd_goto C dL_law_1444 (by decide)) ?_
  exact al_0
set_option maxHeartbeats 4000000 in
set_option maxRecDepth 100000 in
theorem csL26 {Γ : aΓ} {b L : Nat} {xs : Nat → Int32} (C : FOK Γ code wsL_law RL 9 room_1) (CX : FOX Γ) (CN : FOW Γ) (hS : LScr b L xs Γ) {ad : Nat → Nat} {i : Nat} {D9 M : List aE} {o : Nat → Int64} (had : ad 1000 = b) (hL : L ≤ 2048) (hi : i + 4 ≤ L) (hJ : JJ D9 M)
    (H : ∀ C2 M2 o2, JJ C2 M2 → FG Γ 1708 ad (104 + i) (17020 + 5 * i) [(4, .int (nI i)), (3, .ref 21), (2, .ref 9), (1, .ref 0), (0, .ref 1000)] [] (LW C2 M2 o2)) : FG Γ 1367 ad (100 + i) (17000 + 5 * i) [(4, .int (nI i)), (3, .ref 21), (2, .ref 9), (1, .ref 0), (0, .ref 1000)] [] (LW D9 M o) := by
  obtain ⟨l9, fc, hC0⟩ := JJ_C hJ
  obtain ⟨l12, fm, hM0⟩ := JJ_M hJ
  have OK := okLc26 C CX CN hS
  refine go OK [1708] 90 ?_
  refine ⟨rfl, had, i + 1, nI_p1 i, by omega, hL, ?_⟩
  refine ⟨rfl, had, i + 2, nI_p2 i, by omega, hL, ?_⟩
  refine ⟨rfl, had, i + 3, nI_p3 i, by omega, hL, ?_⟩
  refine ⟨Pw tX4_firstRoll svI [.int (xs (i + 1)), .int (xs (i + 2)), .int (xs (i + 3))] M, rfl, (show 100 + i + 2 ≤ 601024 by omega), (show 17000 + 5 * i + 12 ≤ 7293034 by omega), ⟨_, _, _, _, rfl, wr_ag (ag_firstRoll (xs (i + 1)) (xs (i + 2)) (xs (i + 3))) code1_ne hJ⟩, fun v X2 hP => ?_⟩
  obtain ⟨C2, o2, rfl, l2, hP⟩ := hP
  refine ⟨rfl, had, i + 1, nI_p1 i, by omega, hL, ?_⟩
  refine ⟨rfl, had, i + 2, nI_p2 i, by omega, hL, ?_⟩
  refine ⟨rfl, had, i + 3, nI_p3 i, by omega, hL, ?_⟩
  rcases hP with ⟨rfl, r, ho, h4⟩ | ⟨hv, h4⟩
  · refine ⟨C2, M, [.inr (.inr (1, o2))], [.ref 0, .int (xs (i + 1)), .int (xs (i + 2)), .int (xs (i + 3))], _, 0, _, fm, rfl, (show 100 + i + 2 + 0 ≤ 601024 by omega), (show 17000 + 5 * i + 12 + 0 ≤ 7293034 by omega), rfl, hM0, l2, rfl, rfl, h4, fun r3 M2 h5 => ?_⟩
    obtain ⟨hr3, ht, hJ2⟩ := h5
    obtain ⟨l12b, fm2, hM2⟩ := JJ_M hJ2
    refine ⟨l12b.trans l12.symm, ?_⟩
    refine ⟨C2, M2, [.inr (.inr (1, o2))], [.ref 0], _, 0, [], fm2, rfl, (show 100 + i + 2 + 0 + 0 ≤ 601024 by omega), (show 17000 + 5 * i + 12 + 0 + 0 ≤ 7293034 by omega), rfl, hM2, l2, rfl, rfl, thr_T hJ2 ht, fun r4 M3 h6 => ?_⟩
    obtain ⟨hr4, hM3⟩ := h6
    subst hM3
    refine ⟨rfl, ?_⟩
    refine And.intro (fun _ => ?_) (fun q => absurd hr4 q)
    refine And.intro (fun q => absurd rfl q) (fun _ => ?_)
    refine ⟨_, o2, rfl, lw21 l2 l12b, rfl, ?_⟩
    refine And.intro (fun _ => ?_) (fun q => absurd (by rw [ho, hr3]; exact cmp_self _) q)
    exact FG_wid (show 100 + i + 2 + 0 + 0 ≤ 104 + i by omega) (show 17000 + 5 * i + 12 + 0 + 0 ≤ 17020 + 5 * i by omega) (FG_sub [2, 3, 4, 5, 6] rfl (H _ _ _ hJ2))
  · refine ⟨C2, M, [.inr (.inr (1, o2))], [.ref 0, .int (xs (i + 1)), .int (xs (i + 2)), .int (xs (i + 3))], _, 0, _, fm, rfl, (show 100 + i + 2 + 0 ≤ 601024 by omega), (show 17000 + 5 * i + 12 + 0 ≤ 7293034 by omega), rfl, hM0, l2, rfl, rfl, h4, fun r3 M2 h5 => ?_⟩
    obtain ⟨ht, hJ2⟩ := h5
    obtain ⟨l12b, fm2, hM2⟩ := JJ_M hJ2
    refine ⟨l12b.trans l12.symm, ?_⟩
    refine ⟨C2, M2, [.inr (.inr (1, o2))], [.ref 0], _, 0, [], fm2, rfl, (show 100 + i + 2 + 0 + 0 ≤ 601024 by omega), (show 17000 + 5 * i + 12 + 0 + 0 ≤ 7293034 by omega), rfl, hM2, l2, rfl, rfl, thr_T hJ2 ht, fun r4 M3 h6 => ?_⟩
    obtain ⟨hr4, hM3⟩ := h6
    subst hM3
    refine ⟨rfl, ?_⟩
    refine And.intro (fun _ => ?_) (fun q => absurd hr4 q)
    refine And.intro (fun q => ?_) (fun q => absurd q hv)
    exact FG_wid (show 100 + i + 2 + 0 + 0 ≤ 104 + i by omega) (show 17000 + 5 * i + 12 + 0 + 0 ≤ 17020 + 5 * i by omega) (FG_sub [2, 3, 4, 5, 6] rfl (H _ _ _ hJ2))
def tbLc27 (b L : Nat) (xs : Nat → Int32) : List (Nat × aO) := [(1447, oAL 1 1448),
  (1448, oAL 0 1449),
  (1449, oIL 4 1451),
  (1451, oC (1) 1452),
  (1452, oIadd 1453),
  (1453, oSld b L xs 1454),
  (1454, oAL 0 1455),
  (1455, oIL 4 1457),
  (1457, oC (2) 1458),
  (1458, oIadd 1459),
  (1459, oSld b L xs 1460),
  (1460, oAL 3 1461),
  (1461, oWi (tW2 tX3_topsAt (code1 "java/lang/IndexOutOfBoundsException") svI) 4 rmL_topsAt.cells rmL_topsAt.slots room_1.cells room_1.slots 1464),
  (1464, oIS 5 1466),
  (1466, oAL 2 1467),
  (1467, oAL 0 1468),
  (1468, oIL 4 1470),
  (1470, oC (1) 1471),
  (1471, oIadd 1472),
  (1472, oSld b L xs 1473),
  (1473, oAL 0 1474),
  (1474, oIL 4 1476),
  (1476, oC (2) 1477),
  (1477, oIadd 1478),
  (1478, oSld b L xs 1479),
  (1479, oGi 9 tX4_topsAt 3 3 rmX4_topsAt.cells rmX4_topsAt.slots room_1.cells room_1.slots 1482),
  (1482, oIS 6 1484),
  (1484, oAL 2 1485),
  (1485, oGi 9 tX4_thrown 1 3 rmX4_thrown.cells rmX4_thrown.slots room_1.cells room_1.slots 1488),
  (1488, oIL 5 1490),
  (1490, oIc_eq 1495 1493),
  (1493, oC (0) 1494),
  (1495, oIL 5 1497),
  (1497, oIf_ne 1512 1500),
  (1500, oAL 3 1501),
  (1501, oC (0) 1502),
  (1502, oJal 1503),
  (1503, oIL 6 1505),
  (1505, oI2l 1506),
  (1506, oLcmp 1507),
  (1507, oIf_eq 1512 1510),
  (1510, oC (0) 1511),
  (1512, oGo 1708)]
set_option maxRecDepth 20000 in
theorem okLc27 {Γ : aΓ} {b L : Nat} {xs : Nat → Int32} (C : FOK Γ code wsL_law RL 9 room_1) (CX : FOX Γ) (CN : FOW Γ) (hS : LScr b L xs Γ) : AllS Γ (tbLc27 b L xs) := by
  unfold tbLc27
  refine al_c (pc := 1447) (snd_aload_n C dL_law_1447 rfl) ?_
  refine al_c (pc := 1448) (snd_aload_n C dL_law_1448 rfl) ?_
  refine al_c (pc := 1449) (snd_iload C dL_law_1449) ?_
  refine al_c (pc := 1451) (snd_iconst C dL_law_1451 (by decide)) ?_
  refine al_c (pc := 1452) (snd_iadd C dL_law_1452) ?_
  refine al_c (pc := 1453) (snd_Sld C hS dL_law_1453) ?_
  refine al_c (pc := 1454) (snd_aload_n C dL_law_1454 rfl) ?_
  refine al_c (pc := 1455) (snd_iload C dL_law_1455) ?_
  refine al_c (pc := 1457) (snd_iconst C dL_law_1457 (by decide)) ?_
  refine al_c (pc := 1458) (snd_iadd C dL_law_1458) ?_
  refine al_c (pc := 1459) (snd_Sld C hS dL_law_1459) ?_
  refine al_c (pc := 1460) (snd_aload_n C dL_law_1460 rfl) ?_
  refine al_c (pc := 1461) (snd_Wi C CX CN (site_SW C dL_law_1461 gL_law_L_topsAt rfl rfl rfl ⟨by decide +kernel, by decide +kernel, by decide +kernel⟩ ⟨by decide, by decide⟩) mL_topsAt) ?_
  refine al_c (pc := 1464) (snd_istore C dL_law_1464 (by decide)) ?_
  refine al_c (pc := 1466) (snd_aload_n C dL_law_1466 rfl) ?_
  refine al_c (pc := 1467) (snd_aload_n C dL_law_1467 rfl) ?_
  refine al_c (pc := 1468) (snd_iload C dL_law_1468) ?_
  refine al_c (pc := 1470) (snd_iconst C dL_law_1470 (by decide)) ?_
  refine al_c (pc := 1471) (snd_iadd C dL_law_1471) ?_
  refine al_c (pc := 1472) (snd_Sld C hS dL_law_1472) ?_
  refine al_c (pc := 1473) (snd_aload_n C dL_law_1473 rfl) ?_
  refine al_c (pc := 1474) (snd_iload C dL_law_1474) ?_
  refine al_c (pc := 1476) (snd_iconst C dL_law_1476 (by decide)) ?_
  refine al_c (pc := 1477) (snd_iadd C dL_law_1477) ?_
  refine al_c (pc := 1478) (snd_Sld C hS dL_law_1478) ?_
  refine al_c (pc := 1479) (snd_Gi 9 C (site_V C rfl dL_law_1479 gL_law_X4_topsAt rfl rfl rfl ⟨rfl, by decide +kernel, by decide +kernel, by decide +kernel⟩ ⟨by decide, by decide⟩) mX4_topsAt) ?_
  refine al_c (pc := 1482) (snd_istore C dL_law_1482 (by decide)) ?_
  refine al_c (pc := 1484) (snd_aload_n C dL_law_1484 rfl) ?_
  refine al_c (pc := 1485) (snd_Gi 9 C (site_V C rfl dL_law_1485 gL_law_X4_thrown rfl rfl rfl ⟨rfl, by decide +kernel, by decide +kernel, by decide +kernel⟩ ⟨by decide, by decide⟩) mX4_thrown) ?_
  refine al_c (pc := 1488) (snd_iload C dL_law_1488) ?_
  refine al_c (pc := 1490) (snd_icmp_eq C dL_law_1490 (by decide)) ?_
  refine al_c (pc := 1493) (snd_iconst C dL_law_1493 (by decide)) ?_
  refine al_c (pc := 1495) (snd_iload C dL_law_1495) ?_
  refine al_c (pc := 1497) (snd_if_ne C dL_law_1497 (by decide)) ?_
  refine al_c (pc := 1500) (snd_aload_n C dL_law_1500 rfl) ?_
  refine al_c (pc := 1501) (snd_iconst C dL_law_1501 (by decide)) ?_
  refine al_c (pc := 1502) (snd_Jal C dL_law_1502) ?_
  refine al_c (pc := 1503) (snd_iload C dL_law_1503) ?_
  refine al_c (pc := 1505) (snd_i2l C dL_law_1505) ?_
  refine al_c (pc := 1506) (snd_lcmp C dL_law_1506) ?_
  refine al_c (pc := 1507) (snd_if_eq C dL_law_1507 (by decide)) ?_
  refine al_c (pc := 1510) (snd_iconst C dL_law_1510 (by decide)) ?_
  refine al_c (pc := 1512) (snd_goto C dL_law_1512 (by decide)) ?_
  exact al_0
set_option maxHeartbeats 4000000 in
set_option maxRecDepth 100000 in
theorem csL27 {Γ : aΓ} {b L : Nat} {xs : Nat → Int32} (C : FOK Γ code wsL_law RL 9 room_1) (CX : FOX Γ) (CN : FOW Γ) (hS : LScr b L xs Γ) {ad : Nat → Nat} {i : Nat} {D9 M : List aE} {o : Nat → Int64} (had : ad 1000 = b) (hL : L ≤ 2048) (hi : i + 4 ≤ L) (hJ : JJ D9 M)
    (H : ∀ C2 M2 o2, JJ C2 M2 → FG Γ 1708 ad (104 + i) (17020 + 5 * i) [(4, .int (nI i)), (3, .ref 21), (2, .ref 9), (1, .ref 0), (0, .ref 1000)] [] (LW C2 M2 o2)) : FG Γ 1447 ad (100 + i) (17000 + 5 * i) [(4, .int (nI i)), (3, .ref 21), (2, .ref 9), (1, .ref 0), (0, .ref 1000)] [] (LW D9 M o) := by
  obtain ⟨l9, fc, hC0⟩ := JJ_C hJ
  obtain ⟨l12, fm, hM0⟩ := JJ_M hJ
  have OK := okLc27 C CX CN hS
  refine go OK [1708] 90 ?_
  refine ⟨rfl, had, i + 1, nI_p1 i, by omega, hL, ?_⟩
  refine ⟨rfl, had, i + 2, nI_p2 i, by omega, hL, ?_⟩
  refine ⟨Pw tX4_topsAt svI [.int (xs (i + 1)), .int (xs (i + 2))] M, rfl, (show 100 + i + 1 ≤ 601024 by omega), (show 17000 + 5 * i + 6 ≤ 7293034 by omega), ⟨_, _, _, rfl, wr_ag (ag_topsAt (xs (i + 1)) (xs (i + 2))) code1_ne hJ⟩, fun v X2 hP => ?_⟩
  obtain ⟨C2, o2, rfl, l2, hP⟩ := hP
  refine ⟨rfl, had, i + 1, nI_p1 i, by omega, hL, ?_⟩
  refine ⟨rfl, had, i + 2, nI_p2 i, by omega, hL, ?_⟩
  rcases hP with ⟨rfl, r, ho, h4⟩ | ⟨hv, h4⟩
  · refine ⟨C2, M, [.inr (.inr (1, o2))], [.ref 0, .int (xs (i + 1)), .int (xs (i + 2))], _, 0, _, fm, rfl, (show 100 + i + 1 + 0 ≤ 601024 by omega), (show 17000 + 5 * i + 6 + 0 ≤ 7293034 by omega), rfl, hM0, l2, rfl, rfl, h4, fun r3 M2 h5 => ?_⟩
    obtain ⟨hr3, ht, hJ2⟩ := h5
    obtain ⟨l12b, fm2, hM2⟩ := JJ_M hJ2
    refine ⟨l12b.trans l12.symm, ?_⟩
    refine ⟨C2, M2, [.inr (.inr (1, o2))], [.ref 0], _, 0, [], fm2, rfl, (show 100 + i + 1 + 0 + 0 ≤ 601024 by omega), (show 17000 + 5 * i + 6 + 0 + 0 ≤ 7293034 by omega), rfl, hM2, l2, rfl, rfl, thr_T hJ2 ht, fun r4 M3 h6 => ?_⟩
    obtain ⟨hr4, hM3⟩ := h6
    subst hM3
    refine ⟨rfl, ?_⟩
    refine And.intro (fun _ => ?_) (fun q => absurd hr4 q)
    refine And.intro (fun q => absurd rfl q) (fun _ => ?_)
    refine ⟨_, o2, rfl, lw21 l2 l12b, rfl, ?_⟩
    refine And.intro (fun _ => ?_) (fun q => absurd (by rw [ho, hr3]; exact cmp_self _) q)
    exact FG_wid (show 100 + i + 1 + 0 + 0 ≤ 104 + i by omega) (show 17000 + 5 * i + 6 + 0 + 0 ≤ 17020 + 5 * i by omega) (FG_sub [2, 3, 4, 5, 6] rfl (H _ _ _ hJ2))
  · refine ⟨C2, M, [.inr (.inr (1, o2))], [.ref 0, .int (xs (i + 1)), .int (xs (i + 2))], _, 0, _, fm, rfl, (show 100 + i + 1 + 0 ≤ 601024 by omega), (show 17000 + 5 * i + 6 + 0 ≤ 7293034 by omega), rfl, hM0, l2, rfl, rfl, h4, fun r3 M2 h5 => ?_⟩
    obtain ⟨ht, hJ2⟩ := h5
    obtain ⟨l12b, fm2, hM2⟩ := JJ_M hJ2
    refine ⟨l12b.trans l12.symm, ?_⟩
    refine ⟨C2, M2, [.inr (.inr (1, o2))], [.ref 0], _, 0, [], fm2, rfl, (show 100 + i + 1 + 0 + 0 ≤ 601024 by omega), (show 17000 + 5 * i + 6 + 0 + 0 ≤ 7293034 by omega), rfl, hM2, l2, rfl, rfl, thr_T hJ2 ht, fun r4 M3 h6 => ?_⟩
    obtain ⟨hr4, hM3⟩ := h6
    subst hM3
    refine ⟨rfl, ?_⟩
    refine And.intro (fun _ => ?_) (fun q => absurd hr4 q)
    refine And.intro (fun q => ?_) (fun q => absurd q hv)
    exact FG_wid (show 100 + i + 1 + 0 + 0 ≤ 104 + i by omega) (show 17000 + 5 * i + 6 + 0 + 0 ≤ 17020 + 5 * i by omega) (FG_sub [2, 3, 4, 5, 6] rfl (H _ _ _ hJ2))
def tbLc28 (b L : Nat) (xs : Nat → Int32) : List (Nat × aO) := [(1515, oAL 1 1516),
  (1516, oGi 0 tX3_cellsWithinReach 1 2 rmX3_cellsWithinReach.cells rmX3_cellsWithinReach.slots room_1.cells room_1.slots 1519),
  (1519, oAL 2 1520),
  (1520, oGi 9 tX4_cellsWithinReach 1 3 rmX4_cellsWithinReach.cells rmX4_cellsWithinReach.slots room_1.cells room_1.slots 1523),
  (1523, oIc_eq 1708 1526),
  (1526, oC (0) 1527)]
set_option maxRecDepth 20000 in
theorem okLc28 {Γ : aΓ} {b L : Nat} {xs : Nat → Int32} (C : FOK Γ code wsL_law RL 9 room_1) (CX : FOX Γ) (CN : FOW Γ) (hS : LScr b L xs Γ) : AllS Γ (tbLc28 b L xs) := by
  unfold tbLc28
  refine al_c (pc := 1515) (snd_aload_n C dL_law_1515 rfl) ?_
  refine al_c (pc := 1516) (snd_Gi 0 C (site_V C rfl dL_law_1516 gL_law_X3_cellsWithinReach rfl rfl rfl ⟨rfl, by decide +kernel, by decide +kernel, by decide +kernel⟩ ⟨by decide, by decide⟩) mX3_cellsWithinReach) ?_
  refine al_c (pc := 1519) (snd_aload_n C dL_law_1519 rfl) ?_
  refine al_c (pc := 1520) (snd_Gi 9 C (site_V C rfl dL_law_1520 gL_law_X4_cellsWithinReach rfl rfl rfl ⟨rfl, by decide +kernel, by decide +kernel, by decide +kernel⟩ ⟨by decide, by decide⟩) mX4_cellsWithinReach) ?_
  refine al_c (pc := 1523) (snd_icmp_eq C dL_law_1523 (by decide)) ?_
  refine al_c (pc := 1526) (snd_iconst C dL_law_1526 (by decide)) ?_
  exact al_0
set_option maxHeartbeats 4000000 in
set_option maxRecDepth 100000 in
theorem csL28 {Γ : aΓ} {b L : Nat} {xs : Nat → Int32} (C : FOK Γ code wsL_law RL 9 room_1) (CX : FOX Γ) (CN : FOW Γ) (hS : LScr b L xs Γ) {ad : Nat → Nat} {i : Nat} {D9 M : List aE} {o : Nat → Int64} (had : ad 1000 = b) (hL : L ≤ 2048) (hi : i + 4 ≤ L) (hJ : JJ D9 M)
    (H : ∀ C2 M2 o2, JJ C2 M2 → FG Γ 1708 ad (104 + i) (17020 + 5 * i) [(4, .int (nI i)), (3, .ref 21), (2, .ref 9), (1, .ref 0), (0, .ref 1000)] [] (LW C2 M2 o2)) : FG Γ 1515 ad (100 + i) (17000 + 5 * i) [(4, .int (nI i)), (3, .ref 21), (2, .ref 9), (1, .ref 0), (0, .ref 1000)] [] (LW D9 M o) := by
  obtain ⟨l9, fc, hC0⟩ := JJ_C hJ
  obtain ⟨l12, fm, hM0⟩ := JJ_M hJ
  have OK := okLc28 C CX CN hS
  refine go OK [1708] 90 ?_
  refine ⟨[], D9, M.map (shE 9) ++ [.inr (.inr (1, o))], [.ref 0], _, 0, [], fc, rfl, (show 100 + i + 0 ≤ 601024 by omega), (show 17000 + 5 * i + 0 ≤ 7293034 by omega), rfl, hC0, rfl, lw_0, rfl, ag_cellsWithinReach D9 M hJ, fun r C2 h5 => ?_⟩
  obtain ⟨l2, h4⟩ := h5
  refine ⟨l2.trans l9.symm, ?_⟩
  refine ⟨C2, M, [.inr (.inr (1, o))], [.ref 0], _, 0, [], fm, rfl, (show 100 + i + 0 + 0 ≤ 601024 by omega), (show 17000 + 5 * i + 0 + 0 ≤ 7293034 by omega), rfl, hM0, l2, lw_1, rfl, h4, fun r3 M2 h6 => ?_⟩
  obtain ⟨rfl, hJ2⟩ := h6
  refine ⟨(JJ_M hJ2).1.trans l12.symm, ?_⟩
  refine And.intro (fun _ => ?_) (fun q => absurd rfl q)
  exact FG_wid (show 100 + i + 0 + 0 ≤ 104 + i by omega) (show 17000 + 5 * i + 0 + 0 ≤ 17020 + 5 * i by omega) (H _ _ _ hJ2)
def tbLc29 (b L : Nat) (xs : Nat → Int32) : List (Nat × aO) := [(1528, oAL 1 1529),
  (1529, oGi 0 tX3_waysToLie 1 2 rmX3_waysToLie.cells rmX3_waysToLie.slots room_1.cells room_1.slots 1532),
  (1532, oAL 2 1533),
  (1533, oGi 9 tX4_waysToLie 1 3 rmX4_waysToLie.cells rmX4_waysToLie.slots room_1.cells room_1.slots 1536),
  (1536, oIc_eq 1708 1539),
  (1539, oC (0) 1540)]
set_option maxRecDepth 20000 in
theorem okLc29 {Γ : aΓ} {b L : Nat} {xs : Nat → Int32} (C : FOK Γ code wsL_law RL 9 room_1) (CX : FOX Γ) (CN : FOW Γ) (hS : LScr b L xs Γ) : AllS Γ (tbLc29 b L xs) := by
  unfold tbLc29
  refine al_c (pc := 1528) (snd_aload_n C dL_law_1528 rfl) ?_
  refine al_c (pc := 1529) (snd_Gi 0 C (site_V C rfl dL_law_1529 gL_law_X3_waysToLie rfl rfl rfl ⟨rfl, by decide +kernel, by decide +kernel, by decide +kernel⟩ ⟨by decide, by decide⟩) mX3_waysToLie) ?_
  refine al_c (pc := 1532) (snd_aload_n C dL_law_1532 rfl) ?_
  refine al_c (pc := 1533) (snd_Gi 9 C (site_V C rfl dL_law_1533 gL_law_X4_waysToLie rfl rfl rfl ⟨rfl, by decide +kernel, by decide +kernel, by decide +kernel⟩ ⟨by decide, by decide⟩) mX4_waysToLie) ?_
  refine al_c (pc := 1536) (snd_icmp_eq C dL_law_1536 (by decide)) ?_
  refine al_c (pc := 1539) (snd_iconst C dL_law_1539 (by decide)) ?_
  exact al_0
set_option maxHeartbeats 4000000 in
set_option maxRecDepth 100000 in
theorem csL29 {Γ : aΓ} {b L : Nat} {xs : Nat → Int32} (C : FOK Γ code wsL_law RL 9 room_1) (CX : FOX Γ) (CN : FOW Γ) (hS : LScr b L xs Γ) {ad : Nat → Nat} {i : Nat} {D9 M : List aE} {o : Nat → Int64} (had : ad 1000 = b) (hL : L ≤ 2048) (hi : i + 4 ≤ L) (hJ : JJ D9 M)
    (H : ∀ C2 M2 o2, JJ C2 M2 → FG Γ 1708 ad (104 + i) (17020 + 5 * i) [(4, .int (nI i)), (3, .ref 21), (2, .ref 9), (1, .ref 0), (0, .ref 1000)] [] (LW C2 M2 o2)) : FG Γ 1528 ad (100 + i) (17000 + 5 * i) [(4, .int (nI i)), (3, .ref 21), (2, .ref 9), (1, .ref 0), (0, .ref 1000)] [] (LW D9 M o) := by
  obtain ⟨l9, fc, hC0⟩ := JJ_C hJ
  obtain ⟨l12, fm, hM0⟩ := JJ_M hJ
  have OK := okLc29 C CX CN hS
  refine go OK [1708] 90 ?_
  refine ⟨[], D9, M.map (shE 9) ++ [.inr (.inr (1, o))], [.ref 0], _, 0, [], fc, rfl, (show 100 + i + 0 ≤ 601024 by omega), (show 17000 + 5 * i + 0 ≤ 7293034 by omega), rfl, hC0, rfl, lw_0, rfl, ag_waysToLie D9 M hJ, fun r C2 h5 => ?_⟩
  obtain ⟨l2, h4⟩ := h5
  refine ⟨l2.trans l9.symm, ?_⟩
  refine ⟨C2, M, [.inr (.inr (1, o))], [.ref 0], _, 0, [], fm, rfl, (show 100 + i + 0 + 0 ≤ 601024 by omega), (show 17000 + 5 * i + 0 + 0 ≤ 7293034 by omega), rfl, hM0, l2, lw_1, rfl, h4, fun r3 M2 h6 => ?_⟩
  obtain ⟨rfl, hJ2⟩ := h6
  refine ⟨(JJ_M hJ2).1.trans l12.symm, ?_⟩
  refine And.intro (fun _ => ?_) (fun q => absurd rfl q)
  exact FG_wid (show 100 + i + 0 + 0 ≤ 104 + i by omega) (show 17000 + 5 * i + 0 + 0 ≤ 17020 + 5 * i by omega) (H _ _ _ hJ2)
def tbLc30 (b L : Nat) (xs : Nat → Int32) : List (Nat × aO) := [(1541, oAL 1 1542),
  (1542, oAL 0 1543),
  (1543, oIL 4 1545),
  (1545, oC (1) 1546),
  (1546, oIadd 1547),
  (1547, oSld b L xs 1548),
  (1548, oAL 3 1549),
  (1549, oWi (tW1 tX3_cellsBehind (code1 "java/lang/IllegalArgumentException") svI) 3 rmL_cellsBehind.cells rmL_cellsBehind.slots room_1.cells room_1.slots 1552),
  (1552, oIS 5 1554),
  (1554, oAL 2 1555),
  (1555, oAL 0 1556),
  (1556, oIL 4 1558),
  (1558, oC (1) 1559),
  (1559, oIadd 1560),
  (1560, oSld b L xs 1561),
  (1561, oGi 9 tX4_cellsBehind 2 3 rmX4_cellsBehind.cells rmX4_cellsBehind.slots room_1.cells room_1.slots 1564),
  (1564, oIS 6 1566),
  (1566, oAL 2 1567),
  (1567, oGi 9 tX4_thrown 1 3 rmX4_thrown.cells rmX4_thrown.slots room_1.cells room_1.slots 1570),
  (1570, oIL 5 1572),
  (1572, oIc_eq 1577 1575),
  (1575, oC (0) 1576),
  (1577, oIL 5 1579),
  (1579, oIf_ne 1594 1582),
  (1582, oAL 3 1583),
  (1583, oC (0) 1584),
  (1584, oJal 1585),
  (1585, oIL 6 1587),
  (1587, oI2l 1588),
  (1588, oLcmp 1589),
  (1589, oIf_eq 1594 1592),
  (1592, oC (0) 1593),
  (1594, oGo 1708)]
set_option maxRecDepth 20000 in
theorem okLc30 {Γ : aΓ} {b L : Nat} {xs : Nat → Int32} (C : FOK Γ code wsL_law RL 9 room_1) (CX : FOX Γ) (CN : FOW Γ) (hS : LScr b L xs Γ) : AllS Γ (tbLc30 b L xs) := by
  unfold tbLc30
  refine al_c (pc := 1541) (snd_aload_n C dL_law_1541 rfl) ?_
  refine al_c (pc := 1542) (snd_aload_n C dL_law_1542 rfl) ?_
  refine al_c (pc := 1543) (snd_iload C dL_law_1543) ?_
  refine al_c (pc := 1545) (snd_iconst C dL_law_1545 (by decide)) ?_
  refine al_c (pc := 1546) (snd_iadd C dL_law_1546) ?_
  refine al_c (pc := 1547) (snd_Sld C hS dL_law_1547) ?_
  refine al_c (pc := 1548) (snd_aload_n C dL_law_1548 rfl) ?_
  refine al_c (pc := 1549) (snd_Wi C CX CN (site_SW C dL_law_1549 gL_law_L_cellsBehind rfl rfl rfl ⟨by decide +kernel, by decide +kernel, by decide +kernel⟩ ⟨by decide, by decide⟩) mL_cellsBehind) ?_
  refine al_c (pc := 1552) (snd_istore C dL_law_1552 (by decide)) ?_
  refine al_c (pc := 1554) (snd_aload_n C dL_law_1554 rfl) ?_
  refine al_c (pc := 1555) (snd_aload_n C dL_law_1555 rfl) ?_
  refine al_c (pc := 1556) (snd_iload C dL_law_1556) ?_
  refine al_c (pc := 1558) (snd_iconst C dL_law_1558 (by decide)) ?_
  refine al_c (pc := 1559) (snd_iadd C dL_law_1559) ?_
  refine al_c (pc := 1560) (snd_Sld C hS dL_law_1560) ?_
  refine al_c (pc := 1561) (snd_Gi 9 C (site_V C rfl dL_law_1561 gL_law_X4_cellsBehind rfl rfl rfl ⟨rfl, by decide +kernel, by decide +kernel, by decide +kernel⟩ ⟨by decide, by decide⟩) mX4_cellsBehind) ?_
  refine al_c (pc := 1564) (snd_istore C dL_law_1564 (by decide)) ?_
  refine al_c (pc := 1566) (snd_aload_n C dL_law_1566 rfl) ?_
  refine al_c (pc := 1567) (snd_Gi 9 C (site_V C rfl dL_law_1567 gL_law_X4_thrown rfl rfl rfl ⟨rfl, by decide +kernel, by decide +kernel, by decide +kernel⟩ ⟨by decide, by decide⟩) mX4_thrown) ?_
  refine al_c (pc := 1570) (snd_iload C dL_law_1570) ?_
  refine al_c (pc := 1572) (snd_icmp_eq C dL_law_1572 (by decide)) ?_
  refine al_c (pc := 1575) (snd_iconst C dL_law_1575 (by decide)) ?_
  refine al_c (pc := 1577) (snd_iload C dL_law_1577) ?_
  refine al_c (pc := 1579) (snd_if_ne C dL_law_1579 (by decide)) ?_
  refine al_c (pc := 1582) (snd_aload_n C dL_law_1582 rfl) ?_
  refine al_c (pc := 1583) (snd_iconst C dL_law_1583 (by decide)) ?_
  refine al_c (pc := 1584) (snd_Jal C dL_law_1584) ?_
  refine al_c (pc := 1585) (snd_iload C dL_law_1585) ?_
  refine al_c (pc := 1587) (snd_i2l C dL_law_1587) ?_
  refine al_c (pc := 1588) (snd_lcmp C dL_law_1588) ?_
  refine al_c (pc := 1589) (snd_if_eq C dL_law_1589 (by decide)) ?_
  refine al_c (pc := 1592) (snd_iconst C dL_law_1592 (by decide)) ?_
  refine al_c (pc := 1594) (snd_goto C dL_law_1594 (by decide)) ?_
  exact al_0
set_option maxHeartbeats 4000000 in
set_option maxRecDepth 100000 in
theorem csL30 {Γ : aΓ} {b L : Nat} {xs : Nat → Int32} (C : FOK Γ code wsL_law RL 9 room_1) (CX : FOX Γ) (CN : FOW Γ) (hS : LScr b L xs Γ) {ad : Nat → Nat} {i : Nat} {D9 M : List aE} {o : Nat → Int64} (had : ad 1000 = b) (hL : L ≤ 2048) (hi : i + 4 ≤ L) (hJ : JJ D9 M)
    (H : ∀ C2 M2 o2, JJ C2 M2 → FG Γ 1708 ad (104 + i) (17020 + 5 * i) [(4, .int (nI i)), (3, .ref 21), (2, .ref 9), (1, .ref 0), (0, .ref 1000)] [] (LW C2 M2 o2)) : FG Γ 1541 ad (100 + i) (17000 + 5 * i) [(4, .int (nI i)), (3, .ref 21), (2, .ref 9), (1, .ref 0), (0, .ref 1000)] [] (LW D9 M o) := by
  obtain ⟨l9, fc, hC0⟩ := JJ_C hJ
  obtain ⟨l12, fm, hM0⟩ := JJ_M hJ
  have OK := okLc30 C CX CN hS
  refine go OK [1708] 90 ?_
  refine ⟨rfl, had, i + 1, nI_p1 i, by omega, hL, ?_⟩
  refine ⟨Pw tX4_cellsBehind svI [.int (xs (i + 1))] M, rfl, (show 100 + i + 1 ≤ 601024 by omega), (show 17000 + 5 * i + 6 ≤ 7293034 by omega), ⟨_, _, rfl, wr_ag (ag_cellsBehind (xs (i + 1))) code1_ne hJ⟩, fun v X2 hP => ?_⟩
  obtain ⟨C2, o2, rfl, l2, hP⟩ := hP
  refine ⟨rfl, had, i + 1, nI_p1 i, by omega, hL, ?_⟩
  rcases hP with ⟨rfl, r, ho, h4⟩ | ⟨hv, h4⟩
  · refine ⟨C2, M, [.inr (.inr (1, o2))], [.ref 0, .int (xs (i + 1))], _, 0, _, fm, rfl, (show 100 + i + 1 + 0 ≤ 601024 by omega), (show 17000 + 5 * i + 6 + 0 ≤ 7293034 by omega), rfl, hM0, l2, rfl, rfl, h4, fun r3 M2 h5 => ?_⟩
    obtain ⟨hr3, ht, hJ2⟩ := h5
    obtain ⟨l12b, fm2, hM2⟩ := JJ_M hJ2
    refine ⟨l12b.trans l12.symm, ?_⟩
    refine ⟨C2, M2, [.inr (.inr (1, o2))], [.ref 0], _, 0, [], fm2, rfl, (show 100 + i + 1 + 0 + 0 ≤ 601024 by omega), (show 17000 + 5 * i + 6 + 0 + 0 ≤ 7293034 by omega), rfl, hM2, l2, rfl, rfl, thr_T hJ2 ht, fun r4 M3 h6 => ?_⟩
    obtain ⟨hr4, hM3⟩ := h6
    subst hM3
    refine ⟨rfl, ?_⟩
    refine And.intro (fun _ => ?_) (fun q => absurd hr4 q)
    refine And.intro (fun q => absurd rfl q) (fun _ => ?_)
    refine ⟨_, o2, rfl, lw21 l2 l12b, rfl, ?_⟩
    refine And.intro (fun _ => ?_) (fun q => absurd (by rw [ho, hr3]; exact cmp_self _) q)
    exact FG_wid (show 100 + i + 1 + 0 + 0 ≤ 104 + i by omega) (show 17000 + 5 * i + 6 + 0 + 0 ≤ 17020 + 5 * i by omega) (FG_sub [2, 3, 4, 5, 6] rfl (H _ _ _ hJ2))
  · refine ⟨C2, M, [.inr (.inr (1, o2))], [.ref 0, .int (xs (i + 1))], _, 0, _, fm, rfl, (show 100 + i + 1 + 0 ≤ 601024 by omega), (show 17000 + 5 * i + 6 + 0 ≤ 7293034 by omega), rfl, hM0, l2, rfl, rfl, h4, fun r3 M2 h5 => ?_⟩
    obtain ⟨ht, hJ2⟩ := h5
    obtain ⟨l12b, fm2, hM2⟩ := JJ_M hJ2
    refine ⟨l12b.trans l12.symm, ?_⟩
    refine ⟨C2, M2, [.inr (.inr (1, o2))], [.ref 0], _, 0, [], fm2, rfl, (show 100 + i + 1 + 0 + 0 ≤ 601024 by omega), (show 17000 + 5 * i + 6 + 0 + 0 ≤ 7293034 by omega), rfl, hM2, l2, rfl, rfl, thr_T hJ2 ht, fun r4 M3 h6 => ?_⟩
    obtain ⟨hr4, hM3⟩ := h6
    subst hM3
    refine ⟨rfl, ?_⟩
    refine And.intro (fun _ => ?_) (fun q => absurd hr4 q)
    refine And.intro (fun q => ?_) (fun q => absurd q hv)
    exact FG_wid (show 100 + i + 1 + 0 + 0 ≤ 104 + i by omega) (show 17000 + 5 * i + 6 + 0 + 0 ≤ 17020 + 5 * i by omega) (FG_sub [2, 3, 4, 5, 6] rfl (H _ _ _ hJ2))
def tbLc31 (b L : Nat) (xs : Nat → Int32) : List (Nat × aO) := [(1597, oAL 1 1598),
  (1598, oAL 0 1599),
  (1599, oIL 4 1601),
  (1601, oC (1) 1602),
  (1602, oIadd 1603),
  (1603, oSld b L xs 1604),
  (1604, oAL 3 1605),
  (1605, oWi (tW1 tX3_bestPut (code1 "java/lang/IndexOutOfBoundsException") svI) 3 rmL_bestPut.cells rmL_bestPut.slots room_1.cells room_1.slots 1608),
  (1608, oIS 5 1610),
  (1610, oAL 2 1611),
  (1611, oAL 0 1612),
  (1612, oIL 4 1614),
  (1614, oC (1) 1615),
  (1615, oIadd 1616),
  (1616, oSld b L xs 1617),
  (1617, oGi 9 tX4_bestPut 2 3 rmX4_bestPut.cells rmX4_bestPut.slots room_1.cells room_1.slots 1620),
  (1620, oIS 6 1622),
  (1622, oAL 2 1623),
  (1623, oGi 9 tX4_thrown 1 3 rmX4_thrown.cells rmX4_thrown.slots room_1.cells room_1.slots 1626),
  (1626, oIL 5 1628),
  (1628, oIc_eq 1633 1631),
  (1631, oC (0) 1632),
  (1633, oIL 5 1635),
  (1635, oIf_ne 1650 1638),
  (1638, oAL 3 1639),
  (1639, oC (0) 1640),
  (1640, oJal 1641),
  (1641, oIL 6 1643),
  (1643, oI2l 1644),
  (1644, oLcmp 1645),
  (1645, oIf_eq 1650 1648),
  (1648, oC (0) 1649),
  (1650, oGo 1708)]
set_option maxRecDepth 20000 in
theorem okLc31 {Γ : aΓ} {b L : Nat} {xs : Nat → Int32} (C : FOK Γ code wsL_law RL 9 room_1) (CX : FOX Γ) (CN : FOW Γ) (hS : LScr b L xs Γ) : AllS Γ (tbLc31 b L xs) := by
  unfold tbLc31
  refine al_c (pc := 1597) (snd_aload_n C dL_law_1597 rfl) ?_
  refine al_c (pc := 1598) (snd_aload_n C dL_law_1598 rfl) ?_
  refine al_c (pc := 1599) (snd_iload C dL_law_1599) ?_
  refine al_c (pc := 1601) (snd_iconst C dL_law_1601 (by decide)) ?_
  refine al_c (pc := 1602) (snd_iadd C dL_law_1602) ?_
  refine al_c (pc := 1603) (snd_Sld C hS dL_law_1603) ?_
  refine al_c (pc := 1604) (snd_aload_n C dL_law_1604 rfl) ?_
  refine al_c (pc := 1605) (snd_Wi C CX CN (site_SW C dL_law_1605 gL_law_L_bestPut rfl rfl rfl ⟨by decide +kernel, by decide +kernel, by decide +kernel⟩ ⟨by decide, by decide⟩) mL_bestPut) ?_
  refine al_c (pc := 1608) (snd_istore C dL_law_1608 (by decide)) ?_
  refine al_c (pc := 1610) (snd_aload_n C dL_law_1610 rfl) ?_
  refine al_c (pc := 1611) (snd_aload_n C dL_law_1611 rfl) ?_
  refine al_c (pc := 1612) (snd_iload C dL_law_1612) ?_
  refine al_c (pc := 1614) (snd_iconst C dL_law_1614 (by decide)) ?_
  refine al_c (pc := 1615) (snd_iadd C dL_law_1615) ?_
  refine al_c (pc := 1616) (snd_Sld C hS dL_law_1616) ?_
  refine al_c (pc := 1617) (snd_Gi 9 C (site_V C rfl dL_law_1617 gL_law_X4_bestPut rfl rfl rfl ⟨rfl, by decide +kernel, by decide +kernel, by decide +kernel⟩ ⟨by decide, by decide⟩) mX4_bestPut) ?_
  refine al_c (pc := 1620) (snd_istore C dL_law_1620 (by decide)) ?_
  refine al_c (pc := 1622) (snd_aload_n C dL_law_1622 rfl) ?_
  refine al_c (pc := 1623) (snd_Gi 9 C (site_V C rfl dL_law_1623 gL_law_X4_thrown rfl rfl rfl ⟨rfl, by decide +kernel, by decide +kernel, by decide +kernel⟩ ⟨by decide, by decide⟩) mX4_thrown) ?_
  refine al_c (pc := 1626) (snd_iload C dL_law_1626) ?_
  refine al_c (pc := 1628) (snd_icmp_eq C dL_law_1628 (by decide)) ?_
  refine al_c (pc := 1631) (snd_iconst C dL_law_1631 (by decide)) ?_
  refine al_c (pc := 1633) (snd_iload C dL_law_1633) ?_
  refine al_c (pc := 1635) (snd_if_ne C dL_law_1635 (by decide)) ?_
  refine al_c (pc := 1638) (snd_aload_n C dL_law_1638 rfl) ?_
  refine al_c (pc := 1639) (snd_iconst C dL_law_1639 (by decide)) ?_
  refine al_c (pc := 1640) (snd_Jal C dL_law_1640) ?_
  refine al_c (pc := 1641) (snd_iload C dL_law_1641) ?_
  refine al_c (pc := 1643) (snd_i2l C dL_law_1643) ?_
  refine al_c (pc := 1644) (snd_lcmp C dL_law_1644) ?_
  refine al_c (pc := 1645) (snd_if_eq C dL_law_1645 (by decide)) ?_
  refine al_c (pc := 1648) (snd_iconst C dL_law_1648 (by decide)) ?_
  refine al_c (pc := 1650) (snd_goto C dL_law_1650 (by decide)) ?_
  exact al_0
set_option maxHeartbeats 4000000 in
set_option maxRecDepth 100000 in
theorem csL31 {Γ : aΓ} {b L : Nat} {xs : Nat → Int32} (C : FOK Γ code wsL_law RL 9 room_1) (CX : FOX Γ) (CN : FOW Γ) (hS : LScr b L xs Γ) {ad : Nat → Nat} {i : Nat} {D9 M : List aE} {o : Nat → Int64} (had : ad 1000 = b) (hL : L ≤ 2048) (hi : i + 4 ≤ L) (hJ : JJ D9 M)
    (H : ∀ C2 M2 o2, JJ C2 M2 → FG Γ 1708 ad (104 + i) (17020 + 5 * i) [(4, .int (nI i)), (3, .ref 21), (2, .ref 9), (1, .ref 0), (0, .ref 1000)] [] (LW C2 M2 o2)) : FG Γ 1597 ad (100 + i) (17000 + 5 * i) [(4, .int (nI i)), (3, .ref 21), (2, .ref 9), (1, .ref 0), (0, .ref 1000)] [] (LW D9 M o) := by
  obtain ⟨l9, fc, hC0⟩ := JJ_C hJ
  obtain ⟨l12, fm, hM0⟩ := JJ_M hJ
  have OK := okLc31 C CX CN hS
  refine go OK [1708] 90 ?_
  refine ⟨rfl, had, i + 1, nI_p1 i, by omega, hL, ?_⟩
  refine ⟨Pw tX4_bestPut svI [.int (xs (i + 1))] M, rfl, (show 100 + i + 1 ≤ 601024 by omega), (show 17000 + 5 * i + 6 ≤ 7293034 by omega), ⟨_, _, rfl, wr_ag (ag_bestPut (xs (i + 1))) code1_ne hJ⟩, fun v X2 hP => ?_⟩
  obtain ⟨C2, o2, rfl, l2, hP⟩ := hP
  refine ⟨rfl, had, i + 1, nI_p1 i, by omega, hL, ?_⟩
  rcases hP with ⟨rfl, r, ho, h4⟩ | ⟨hv, h4⟩
  · refine ⟨C2, M, [.inr (.inr (1, o2))], [.ref 0, .int (xs (i + 1))], _, 0, _, fm, rfl, (show 100 + i + 1 + 0 ≤ 601024 by omega), (show 17000 + 5 * i + 6 + 0 ≤ 7293034 by omega), rfl, hM0, l2, rfl, rfl, h4, fun r3 M2 h5 => ?_⟩
    obtain ⟨hr3, ht, hJ2⟩ := h5
    obtain ⟨l12b, fm2, hM2⟩ := JJ_M hJ2
    refine ⟨l12b.trans l12.symm, ?_⟩
    refine ⟨C2, M2, [.inr (.inr (1, o2))], [.ref 0], _, 0, [], fm2, rfl, (show 100 + i + 1 + 0 + 0 ≤ 601024 by omega), (show 17000 + 5 * i + 6 + 0 + 0 ≤ 7293034 by omega), rfl, hM2, l2, rfl, rfl, thr_T hJ2 ht, fun r4 M3 h6 => ?_⟩
    obtain ⟨hr4, hM3⟩ := h6
    subst hM3
    refine ⟨rfl, ?_⟩
    refine And.intro (fun _ => ?_) (fun q => absurd hr4 q)
    refine And.intro (fun q => absurd rfl q) (fun _ => ?_)
    refine ⟨_, o2, rfl, lw21 l2 l12b, rfl, ?_⟩
    refine And.intro (fun _ => ?_) (fun q => absurd (by rw [ho, hr3]; exact cmp_self _) q)
    exact FG_wid (show 100 + i + 1 + 0 + 0 ≤ 104 + i by omega) (show 17000 + 5 * i + 6 + 0 + 0 ≤ 17020 + 5 * i by omega) (FG_sub [2, 3, 4, 5, 6] rfl (H _ _ _ hJ2))
  · refine ⟨C2, M, [.inr (.inr (1, o2))], [.ref 0, .int (xs (i + 1))], _, 0, _, fm, rfl, (show 100 + i + 1 + 0 ≤ 601024 by omega), (show 17000 + 5 * i + 6 + 0 ≤ 7293034 by omega), rfl, hM0, l2, rfl, rfl, h4, fun r3 M2 h5 => ?_⟩
    obtain ⟨ht, hJ2⟩ := h5
    obtain ⟨l12b, fm2, hM2⟩ := JJ_M hJ2
    refine ⟨l12b.trans l12.symm, ?_⟩
    refine ⟨C2, M2, [.inr (.inr (1, o2))], [.ref 0], _, 0, [], fm2, rfl, (show 100 + i + 1 + 0 + 0 ≤ 601024 by omega), (show 17000 + 5 * i + 6 + 0 + 0 ≤ 7293034 by omega), rfl, hM2, l2, rfl, rfl, thr_T hJ2 ht, fun r4 M3 h6 => ?_⟩
    obtain ⟨hr4, hM3⟩ := h6
    subst hM3
    refine ⟨rfl, ?_⟩
    refine And.intro (fun _ => ?_) (fun q => absurd hr4 q)
    refine And.intro (fun q => ?_) (fun q => absurd q hv)
    exact FG_wid (show 100 + i + 1 + 0 + 0 ≤ 104 + i by omega) (show 17000 + 5 * i + 6 + 0 + 0 ≤ 17020 + 5 * i by omega) (FG_sub [2, 3, 4, 5, 6] rfl (H _ _ _ hJ2))
def tbLc32 (b L : Nat) (xs : Nat → Int32) : List (Nat × aO) := [(1653, oAL 1 1654),
  (1654, oGd 0 tX3_meanPaint 1 2 rmX3_meanPaint.cells rmX3_meanPaint.slots room_1.cells room_1.slots 1657),
  (1657, oDS 5 1659),
  (1659, oAL 2 1660),
  (1660, oGd 9 tX4_meanPaint 1 3 rmX4_meanPaint.cells rmX4_meanPaint.slots room_1.cells room_1.slots 1663),
  (1663, oDS 7 1665),
  (1665, oDL 5 1667),
  (1667, oDL 7 1669),
  (1669, oDcmp .l 1670),
  (1670, oIf_eq 1691 1673),
  (1673, oDL 5 1675),
  (1675, oDL 5 1677),
  (1677, oDcmp .l 1678),
  (1678, oIf_eq 1689 1681),
  (1681, oDL 7 1683),
  (1683, oDL 7 1685),
  (1685, oDcmp .l 1686),
  (1686, oIf_ne 1691 1689),
  (1689, oC (0) 1690),
  (1691, oGo 1708)]
set_option maxRecDepth 20000 in
theorem okLc32 {Γ : aΓ} {b L : Nat} {xs : Nat → Int32} (C : FOK Γ code wsL_law RL 9 room_1) (CX : FOX Γ) (CN : FOW Γ) (hS : LScr b L xs Γ) : AllS Γ (tbLc32 b L xs) := by
  unfold tbLc32
  refine al_c (pc := 1653) (snd_aload_n C dL_law_1653 rfl) ?_
  refine al_c (pc := 1654) (snd_Gd 0 C (site_V C rfl dL_law_1654 gL_law_X3_meanPaint rfl rfl rfl ⟨rfl, by decide +kernel, by decide +kernel, by decide +kernel⟩ ⟨by decide, by decide⟩) mX3_meanPaint) ?_
  refine al_c (pc := 1657) (snd_dstore C dL_law_1657 (by decide)) ?_
  refine al_c (pc := 1659) (snd_aload_n C dL_law_1659 rfl) ?_
  refine al_c (pc := 1660) (snd_Gd 9 C (site_V C rfl dL_law_1660 gL_law_X4_meanPaint rfl rfl rfl ⟨rfl, by decide +kernel, by decide +kernel, by decide +kernel⟩ ⟨by decide, by decide⟩) mX4_meanPaint) ?_
  refine al_c (pc := 1663) (snd_dstore C dL_law_1663 (by decide)) ?_
  refine al_c (pc := 1665) (snd_dload C dL_law_1665) ?_
  refine al_c (pc := 1667) (snd_dload C dL_law_1667) ?_
  refine al_c (pc := 1669) (snd_dcmp C dL_law_1669) ?_
  refine al_c (pc := 1670) (snd_if_eq C dL_law_1670 (by decide)) ?_
  refine al_c (pc := 1673) (snd_dload C dL_law_1673) ?_
  refine al_c (pc := 1675) (snd_dload C dL_law_1675) ?_
  refine al_c (pc := 1677) (snd_dcmp C dL_law_1677) ?_
  refine al_c (pc := 1678) (snd_if_eq C dL_law_1678 (by decide)) ?_
  refine al_c (pc := 1681) (snd_dload C dL_law_1681) ?_
  refine al_c (pc := 1683) (snd_dload C dL_law_1683) ?_
  refine al_c (pc := 1685) (snd_dcmp C dL_law_1685) ?_
  refine al_c (pc := 1686) (snd_if_ne C dL_law_1686 (by decide)) ?_
  refine al_c (pc := 1689) (snd_iconst C dL_law_1689 (by decide)) ?_
  refine al_c (pc := 1691) (snd_goto C dL_law_1691 (by decide)) ?_
  exact al_0
set_option maxHeartbeats 4000000 in
set_option maxRecDepth 100000 in
theorem csL32 {Γ : aΓ} {b L : Nat} {xs : Nat → Int32} (C : FOK Γ code wsL_law RL 9 room_1) (CX : FOX Γ) (CN : FOW Γ) (hS : LScr b L xs Γ) {ad : Nat → Nat} {i : Nat} {D9 M : List aE} {o : Nat → Int64} (had : ad 1000 = b) (hL : L ≤ 2048) (hi : i + 4 ≤ L) (hJ : JJ D9 M)
    (H : ∀ C2 M2 o2, JJ C2 M2 → FG Γ 1708 ad (104 + i) (17020 + 5 * i) [(4, .int (nI i)), (3, .ref 21), (2, .ref 9), (1, .ref 0), (0, .ref 1000)] [] (LW C2 M2 o2)) : FG Γ 1653 ad (100 + i) (17000 + 5 * i) [(4, .int (nI i)), (3, .ref 21), (2, .ref 9), (1, .ref 0), (0, .ref 1000)] [] (LW D9 M o) := by
  obtain ⟨l9, fc, hC0⟩ := JJ_C hJ
  obtain ⟨l12, fm, hM0⟩ := JJ_M hJ
  have OK := okLc32 C CX CN hS
  refine go OK [1708] 90 ?_
  refine ⟨[], D9, M.map (shE 9) ++ [.inr (.inr (1, o))], [.ref 0], _, 0, [], fc, rfl, (show 100 + i + 0 ≤ 601024 by omega), (show 17000 + 5 * i + 0 ≤ 7293034 by omega), rfl, hC0, rfl, lw_0, rfl, ag_mean2 D9 M hJ, fun r C2 h5 => ?_⟩
  obtain ⟨l2, h4⟩ := h5
  refine ⟨l2.trans l9.symm, ?_⟩
  refine ⟨C2, M, [.inr (.inr (1, o))], [.ref 0], _, 0, [], fm, rfl, (show 100 + i + 0 + 0 ≤ 601024 by omega), (show 17000 + 5 * i + 0 + 0 ≤ 7293034 by omega), rfl, hM0, l2, lw_1, rfl, h4, fun r3 M2 h6 => ?_⟩
  obtain ⟨rfl, hc, hJ2⟩ := h6
  refine ⟨(JJ_M hJ2).1.trans l12.symm, ?_⟩
  refine And.intro (fun _ => ?_) (fun q => absurd hc q)
  exact FG_wid (show 100 + i + 0 + 0 ≤ 104 + i by omega) (show 17000 + 5 * i + 0 + 0 ≤ 17020 + 5 * i by omega) (FG_sub [2, 3, 4, 5, 6] rfl (H _ _ _ hJ2))
def tbLc33 (b L : Nat) (xs : Nat → Int32) : List (Nat × aO) := [(1694, oAL 1 1695),
  (1695, oGl 0 tX3_digest 1 2 rmX3_digest.cells rmX3_digest.slots room_1.cells room_1.slots 1698),
  (1698, oAL 2 1699),
  (1699, oGl 9 tX4_digest 1 3 rmX4_digest.cells rmX4_digest.slots room_1.cells room_1.slots 1702),
  (1702, oLcmp 1703),
  (1703, oIf_eq 1708 1706),
  (1706, oC (0) 1707)]
set_option maxRecDepth 20000 in
theorem okLc33 {Γ : aΓ} {b L : Nat} {xs : Nat → Int32} (C : FOK Γ code wsL_law RL 9 room_1) (CX : FOX Γ) (CN : FOW Γ) (hS : LScr b L xs Γ) : AllS Γ (tbLc33 b L xs) := by
  unfold tbLc33
  refine al_c (pc := 1694) (snd_aload_n C dL_law_1694 rfl) ?_
  refine al_c (pc := 1695) (snd_Gl 0 C (site_V C rfl dL_law_1695 gL_law_X3_digest rfl rfl rfl ⟨rfl, by decide +kernel, by decide +kernel, by decide +kernel⟩ ⟨by decide, by decide⟩) mX3_digest) ?_
  refine al_c (pc := 1698) (snd_aload_n C dL_law_1698 rfl) ?_
  refine al_c (pc := 1699) (snd_Gl 9 C (site_V C rfl dL_law_1699 gL_law_X4_digest rfl rfl rfl ⟨rfl, by decide +kernel, by decide +kernel, by decide +kernel⟩ ⟨by decide, by decide⟩) mX4_digest) ?_
  refine al_c (pc := 1702) (snd_lcmp C dL_law_1702) ?_
  refine al_c (pc := 1703) (snd_if_eq C dL_law_1703 (by decide)) ?_
  refine al_c (pc := 1706) (snd_iconst C dL_law_1706 (by decide)) ?_
  exact al_0
set_option maxHeartbeats 4000000 in
set_option maxRecDepth 100000 in
theorem csL33 {Γ : aΓ} {b L : Nat} {xs : Nat → Int32} (C : FOK Γ code wsL_law RL 9 room_1) (CX : FOX Γ) (CN : FOW Γ) (hS : LScr b L xs Γ) {ad : Nat → Nat} {i : Nat} {D9 M : List aE} {o : Nat → Int64} (had : ad 1000 = b) (hL : L ≤ 2048) (hi : i + 4 ≤ L) (hJ : JJ D9 M)
    (H : ∀ C2 M2 o2, JJ C2 M2 → FG Γ 1708 ad (104 + i) (17020 + 5 * i) [(4, .int (nI i)), (3, .ref 21), (2, .ref 9), (1, .ref 0), (0, .ref 1000)] [] (LW C2 M2 o2)) : FG Γ 1694 ad (100 + i) (17000 + 5 * i) [(4, .int (nI i)), (3, .ref 21), (2, .ref 9), (1, .ref 0), (0, .ref 1000)] [] (LW D9 M o) := by
  obtain ⟨l9, fc, hC0⟩ := JJ_C hJ
  obtain ⟨l12, fm, hM0⟩ := JJ_M hJ
  have OK := okLc33 C CX CN hS
  refine go OK [1708] 90 ?_
  refine ⟨[], D9, M.map (shE 9) ++ [.inr (.inr (1, o))], [.ref 0], _, 0, [], fc, rfl, (show 100 + i + 0 ≤ 601024 by omega), (show 17000 + 5 * i + 0 ≤ 7293034 by omega), rfl, hC0, rfl, lw_0, rfl, ag_digest D9 M hJ, fun r C2 h5 => ?_⟩
  obtain ⟨l2, h4⟩ := h5
  refine ⟨l2.trans l9.symm, ?_⟩
  refine ⟨C2, M, [.inr (.inr (1, o))], [.ref 0], _, 0, [], fm, rfl, (show 100 + i + 0 + 1 ≤ 601024 by omega), (show 17000 + 5 * i + 0 + 13 ≤ 7293034 by omega), rfl, hM0, l2, lw_1, rfl, h4, fun r3 M2 h6 => ?_⟩
  obtain ⟨rfl, hJ2⟩ := h6
  refine ⟨(JJ_M hJ2).1.trans l12.symm, ?_⟩
  refine And.intro (fun _ => ?_) (fun q => absurd (cmp_self _) q)
  exact FG_wid (show 100 + i + 0 + 1 ≤ 104 + i by omega) (show 17000 + 5 * i + 0 + 13 ≤ 17020 + 5 * i by omega) (H _ _ _ hJ2)
