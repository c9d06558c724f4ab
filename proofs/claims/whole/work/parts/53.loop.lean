/-! ===== the law's loop, by program (mkloop.py) ===== -/
theorem sub4 {L i : Nat} (hL : L ≤ 2048) (hi : i < 10000) : nI L - 4 < nI i ↔ L < i + 4 := by
  rw [Int32.lt_iff_toInt_lt, show (4 : Int32) = nI 4 from rfl, pk_sub_toInt (by omega) (by omega), nI_toInt (by omega)]
  omega
def swL : List (Int32 × Nat) := [(0, 188), (1, 256), (2, 331), (3, 399), (4, 467), (5, 535), (6, 591), (7, 659), (8, 672), (9, 685), (10, 698), (11, 711), (12, 767), (13, 780), (14, 836), (15, 892), (16, 967), (17, 1035), (18, 1098), (19, 1111), (20, 1124), (21, 1137), (22, 1150), (23, 1163), (24, 1219), (25, 1287), (26, 1367), (27, 1447), (28, 1515), (29, 1528), (30, 1541), (31, 1597), (32, 1653), (33, 1694)]
theorem sw_in34 : ∀ x : Int32, (0 : Int) ≤ x.toInt → x.toInt ≤ 33 → ∃ q ∈ swL, x = q.1 := by
  intro x h1 h2
  have e : x = nI x.toInt.toNat := by
    apply Int32.toInt_inj.mp
    rw [nI_toInt (by omega)]
    omega
  rw [e]
  exact (show ∀ n, n < 34 → ∃ q ∈ swL, nI n = q.1 by decide +kernel) x.toInt.toNat (by omega)
def tbLh (b L : Nat) (xs : Nat → Int32) : List (Nat × aO) := [(23, oIL 4 25),
  (25, oAL 0 26),
  (26, oSln b L 27),
  (27, oC (4) 28),
  (28, oIsub 29),
  (29, oIc_gt 1714 32),
  (32, oAL 0 33),
  (33, oIL 4 35),
  (35, oSld b L xs 36),
  (36, oC (63) 38),
  (38, oIand 39),
  (39, oSw swL 1708),
  (1708, oInc 4 4 1711),
  (1711, oGo 23),
  (1714, oC (1) 1715),
  (1715, oLr)]
set_option maxRecDepth 20000 in
theorem okLh {Γ : aΓ} {b L : Nat} {xs : Nat → Int32} (C : FOK Γ code wsL_law RL 9 room_1) (CX : FOX Γ) (CN : FOW Γ) (hS : LScr b L xs Γ) (hQ : isLQ Γ) : AllS Γ (tbLh b L xs) := by
  unfold tbLh
  refine al_c (pc := 23) (snd_iload C dL_law_23) ?_
  refine al_c (pc := 25) (snd_aload_n C dL_law_25 rfl) ?_
  refine al_c (pc := 26) (snd_Sln C hS dL_law_26) ?_
  refine al_c (pc := 27) (snd_iconst C dL_law_27 (by decide)) ?_
  refine al_c (pc := 28) (snd_isub C dL_law_28) ?_
  refine al_c (pc := 29) (snd_icmp_gt C dL_law_29 (by decide)) ?_
  refine al_c (pc := 32) (snd_aload_n C dL_law_32 rfl) ?_
  refine al_c (pc := 33) (snd_iload C dL_law_33) ?_
  refine al_c (pc := 35) (snd_Sld C hS dL_law_35) ?_
  refine al_c (pc := 36) (snd_bipush C dL_law_36 (by decide)) ?_
  refine al_c (pc := 38) (snd_iand C dL_law_38) ?_
  refine al_c (pc := 39) (snd_sw C dL_law_39 (by decide) (by decide +kernel) sw_in34) ?_
  refine al_c (pc := 1708) (snd_iinc C dL_law_1708 (by decide) (by decide)) ?_
  refine al_c (pc := 1711) (snd_goto C dL_law_1711 (by decide)) ?_
  refine al_c (pc := 1714) (snd_iconst C dL_law_1714 (by decide)) ?_
  refine al_c (pc := 1715) (snd_Lr C hQ dL_law_1715) ?_
  exact al_0
set_option maxHeartbeats 4000000 in
set_option maxRecDepth 100000 in
theorem law_loop {Γ : aΓ} {b L : Nat} {xs : Nat → Int32} (C : FOK Γ code wsL_law RL 9 room_1) (CX : FOX Γ) (CN : FOW Γ) (hS : LScr b L xs Γ) (hQ : isLQ Γ) (hL : L ≤ 2048) : ∀ (m i : Nat), L < i + 4 * m + 4 → i ≤ 2052 → ∀ (ad : Nat → Nat) (D9 M : List aE) (o : Nat → Int64), ad 1000 = b → JJ D9 M → FG Γ 23 ad (100 + i) (17000 + 5 * i) [(4, .int (nI i)), (3, .ref 21), (2, .ref 9), (1, .ref 0), (0, .ref 1000)] [] (LW D9 M o) := by
  intro m
  have OK := okLh C CX CN hS hQ
  induction m with
  | zero =>
    intro i hm hi ad D9 M o had hJ
    refine go OK [188, 256, 331, 399, 467, 535, 591, 659, 672, 685, 698, 711, 767, 780, 836, 892, 967, 1035, 1098, 1111, 1124, 1137, 1150, 1163, 1219, 1287, 1367, 1447, 1515, 1528, 1541, 1597, 1653, 1694, 1708] 60 ?_
    refine ⟨rfl, had, ?_⟩
    refine And.intro (fun q => ?_) (fun q => absurd ((sub4 hL (by omega)).mpr (by omega)) q)
    exact ⟨rfl, (show 100 + i ≤ 601024 by omega), (show 17000 + 5 * i ≤ 7293034 by omega)⟩
  | succ m ih =>
    intro i hm hi ad D9 M o had hJ
    refine go OK [188, 256, 331, 399, 467, 535, 591, 659, 672, 685, 698, 711, 767, 780, 836, 892, 967, 1035, 1098, 1111, 1124, 1137, 1150, 1163, 1219, 1287, 1367, 1447, 1515, 1528, 1541, 1597, 1653, 1694, 1708] 60 ?_
    refine ⟨rfl, had, ?_⟩
    refine And.intro (fun q => ?_) (fun q => ?_)
    · exact ⟨rfl, (show 100 + i ≤ 601024 by omega), (show 17000 + 5 * i ≤ 7293034 by omega)⟩
    have hi4 : i + 4 ≤ L := by
      rcases Nat.lt_or_ge L (i + 4) with z | z
      · exact absurd ((sub4 hL (by omega)).mpr z) q
      · exact z
    have H : ∀ C2 M2 o2, JJ C2 M2 → FG Γ 1708 ad (104 + i) (17020 + 5 * i) [(4, .int (nI i)), (3, .ref 21), (2, .ref 9), (1, .ref 0), (0, .ref 1000)] [] (LW C2 M2 o2) := by
      intro C2 M2 o2 hJ2
      rw [show 104 + i = 100 + (i + 4) by omega, show 17020 + 5 * i = 17000 + 5 * (i + 4) by omega]
      refine go OK [23] 20 ?_
      have key := ih (i + 4) (by omega) (by omega) ad C2 M2 o2 had hJ2
      rw [← nI_p4 i] at key
      exact key
    refine ⟨rfl, had, i, rfl, by omega, hL, ?_⟩
    exact ⟨fun _ => csL0 C CX CN hS had hL hi4 hJ H, fun _ => ⟨fun _ => csL1 C CX CN hS had hL hi4 hJ H, fun _ => ⟨fun _ => csL2 C CX CN hS had hL hi4 hJ H, fun _ => ⟨fun _ => csL3 C CX CN hS had hL hi4 hJ H, fun _ => ⟨fun _ => csL4 C CX CN hS had hL hi4 hJ H, fun _ => ⟨fun _ => csL5 C CX CN hS had hL hi4 hJ H, fun _ => ⟨fun _ => csL6 C CX CN hS had hL hi4 hJ H, fun _ => ⟨fun _ => csL7 C CX CN hS had hL hi4 hJ H, fun _ => ⟨fun _ => csL8 C CX CN hS had hL hi4 hJ H, fun _ => ⟨fun _ => csL9 C CX CN hS had hL hi4 hJ H, fun _ => ⟨fun _ => csL10 C CX CN hS had hL hi4 hJ H, fun _ => ⟨fun _ => csL11 C CX CN hS had hL hi4 hJ H, fun _ => ⟨fun _ => csL12 C CX CN hS had hL hi4 hJ H, fun _ => ⟨fun _ => csL13 C CX CN hS had hL hi4 hJ H, fun _ => ⟨fun _ => csL14 C CX CN hS had hL hi4 hJ H, fun _ => ⟨fun _ => csL15 C CX CN hS had hL hi4 hJ H, fun _ => ⟨fun _ => csL16 C CX CN hS had hL hi4 hJ H, fun _ => ⟨fun _ => csL17 C CX CN hS had hL hi4 hJ H, fun _ => ⟨fun _ => csL18 C CX CN hS had hL hi4 hJ H, fun _ => ⟨fun _ => csL19 C CX CN hS had hL hi4 hJ H, fun _ => ⟨fun _ => csL20 C CX CN hS had hL hi4 hJ H, fun _ => ⟨fun _ => csL21 C CX CN hS had hL hi4 hJ H, fun _ => ⟨fun _ => csL22 C CX CN hS had hL hi4 hJ H, fun _ => ⟨fun _ => csL23 C CX CN hS had hL hi4 hJ H, fun _ => ⟨fun _ => csL24 C CX CN hS had hL hi4 hJ H, fun _ => ⟨fun _ => csL25 C CX CN hS had hL hi4 hJ H, fun _ => ⟨fun _ => csL26 C CX CN hS had hL hi4 hJ H, fun _ => ⟨fun _ => csL27 C CX CN hS had hL hi4 hJ H, fun _ => ⟨fun _ => csL28 C CX CN hS had hL hi4 hJ H, fun _ => ⟨fun _ => csL29 C CX CN hS had hL hi4 hJ H, fun _ => ⟨fun _ => csL30 C CX CN hS had hL hi4 hJ H, fun _ => ⟨fun _ => csL31 C CX CN hS had hL hi4 hJ H, fun _ => ⟨fun _ => csL32 C CX CN hS had hL hi4 hJ H, fun _ => ⟨fun _ => csL33 C CX CN hS had hL hi4 hJ H, fun _ => FG_wid (show 100 + i ≤ 104 + i by omega) (show 17000 + 5 * i ≤ 17020 + 5 * i by omega) (H _ _ _ hJ)⟩⟩⟩⟩⟩⟩⟩⟩⟩⟩⟩⟩⟩⟩⟩⟩⟩⟩⟩⟩⟩⟩⟩⟩⟩⟩⟩⟩⟩⟩⟩⟩⟩⟩
