/-! ===== the model: a roll, and its face: board and die, what there is ===== -/
theorem oJ_m1 {w h k d : Nat} {wl : Nat → Int32} (hw : w ≤ 7) (hh : h ≤ 7) : oJ w (nxt w h wl k d) = -1 ↔ nxt w h wl k d = none := by
  cases e : nxt w h wl k d with
  | none => exact ⟨fun _ => rfl, fun _ => rfl⟩
  | some j =>
    have hj := nxt_fr e
    have := cm_lt hw hh hj.1 hj.2.1
    exact ⟨fun q => absurd q (nI_m1 (by omega)), fun q => by cases q⟩
abbrev tX4_rolled : aTi := fun av X post => ∃ (a : Int32) (d : Nat) (wl : Nat → Int32) (th rm pm ic it iv ie rc : Int32) (k tt w h : Nat) (wm pq co pa fa ce ts ns es on nx : Nat → Int32), av = [.ref 0, .int a] ∧ a = nI d ∧ X = MW th (nI w) (nI h) rm pm (nI (cm w k)) (nI (tt / 6 + 1)) (nI (tt % 6 + 1)) (nI (eoN tt)) ic it iv ie rc wm pq co pa fa ce ts ns es on nx ∧ 2 ≤ w ∧ w ≤ 7 ∧ 2 ≤ h ∧ h ≤ 7 ∧ k % 7 < w ∧ k / 7 < h ∧ vt tt = true ∧ d < 4 ∧ RW w h wl wm ∧ (nxt w h wl k d = none → post 0 X) ∧
  ∀ j, nxt w h wl k d = some j → ∀ ic2 it2 iv2 ie2 : Int32, post 1 (MW th (nI w) (nI h) (rm + 1) (pmP pa (7 - (rlN tt d / 6 + 1)) pm) (nI (cm w j)) (nI (rlN tt d / 6 + 1)) (nI (rlN tt d % 6 + 1)) (nI (eoN (rlN tt d))) ic2 it2 iv2 ie2 rc wm (prP pa (7 - (rlN tt d / 6 + 1)) (cm w j) co pq) co (paP pa (7 - (rlN tt d / 6 + 1))) fa ce ts ns es on nx)
abbrev rmX4_rolled : Room := { frames := 3, cells := 0, slots := 0, locals := 68 }
theorem inX4_rolled_X4 : ∀ w ∈ wsX40, w ∈ wsX4_rolled := by decide +kernel
def tbX4_rolled (post : Int32 → List aE → Prop) (ad0 : Nat → Nat) : List (Nat × aO) := [(0, oAL 0 1),
  (1, oAL 0 2),
  (2, oGet 3 9 5),
  (5, oIL 1 6),
  (6, oCi tX4_beside 3 (some 3) rmX4_beside.cells rmX4_beside.slots rmX4_rolled.cells rmX4_rolled.slots 9),
  (9, oIS 2 10),
  (10, oIL 2 11),
  (11, oC (-1) 12),
  (12, oIc_ne 17 15),
  (15, oC (0) 16),
  (16, oRz post ad0 rmX4_rolled.cells rmX4_rolled.slots),
  (17, oAL 0 18),
  (18, oCv tX4_look 1 (some 3) rmX4_look.cells rmX4_look.slots rmX4_rolled.cells rmX4_rolled.slots 21),
  (21, oAL 0 22),
  (22, oIL 1 23),
  (23, oIL 2 24),
  (24, oCv tX4_tip 3 (some 3) rmX4_tip.cells rmX4_tip.slots rmX4_rolled.cells rmX4_rolled.slots 27),
  (27, oAL 0 28),
  (28, oAL 0 29),
  (29, oGet 3 13 32),
  (32, oPut 3 9 35),
  (35, oAL 0 36),
  (36, oAL 0 37),
  (37, oGet 3 14 40),
  (40, oPut 3 10 43),
  (43, oAL 0 44),
  (44, oAL 0 45),
  (45, oGet 3 15 48),
  (48, oPut 3 11 51),
  (51, oAL 0 52),
  (52, oAL 0 53),
  (53, oGet 3 16 56),
  (56, oPut 3 12 59),
  (59, oAL 0 60),
  (60, oDup 61),
  (61, oGet 3 7 64),
  (64, oC (1) 65),
  (65, oIadd 66),
  (66, oPut 3 7 69),
  (69, oC (7) 71),
  (71, oAL 0 72),
  (72, oGet 3 10 75),
  (75, oIsub 76),
  (76, oIS 3 77),
  (77, oAL 0 78),
  (78, oGet 3 6 81),
  (81, oIL 3 82),
  (82, oIald 83),
  (83, oIf_le 121 86),
  (86, oAL 0 87),
  (87, oGet 3 6 90),
  (90, oIL 3 91),
  (91, oDup2 92),
  (92, oIald 93),
  (93, oC (1) 94),
  (94, oIsub 95),
  (95, oIast 96),
  (96, oAL 0 97),
  (97, oGet 3 4 100),
  (100, oAL 0 101),
  (101, oGet 3 9 104),
  (104, oAL 0 105),
  (105, oGet 3 5 108),
  (108, oIL 3 109),
  (109, oIald 110),
  (110, oIast 111),
  (111, oAL 0 112),
  (112, oDup 113),
  (113, oGet 3 8 116),
  (116, oC (1) 117),
  (117, oIadd 118),
  (118, oPut 3 8 121),
  (121, oC (1) 122),
  (122, oRz post ad0 rmX4_rolled.cells rmX4_rolled.slots)]
set_option maxRecDepth 20000 in
theorem okX4_rolled {Γ : aΓ} {post : Int32 → List aE → Prop} {ad0 : Nat → Nat} {X0 : List aE} (C : FOK Γ cX4_rolled wsX4_rolled RX4 4 rmX4_rolled) (hQ : isQ Γ (va_Qi post (aBk (gK Γ) ad0 X0 (hsz Γ)) (aA (gK Γ) ad0 X0 (hsz Γ))) rmX4_rolled ad0 X0) (hr : rTy Γ = some .boolean) : AllS Γ (tbX4_rolled post ad0) := by
  unfold tbX4_rolled
  refine al_c (pc := 0) (snd_aload_n C dX4_rolled_0 rfl) ?_
  refine al_c (pc := 1) (snd_aload_n C dX4_rolled_1 rfl) ?_
  refine al_c (pc := 2) (snd_get C dX4_rolled_2 (ci := 3) (kf := 9) rfl (by decide) inX4_rolled_X4 rfl (by decide +kernel)) ?_
  refine al_c (pc := 5) (snd_iload_n C dX4_rolled_5 rfl) ?_
  refine al_c (pc := 6) (snd_Ci C (site_V C rfl dX4_rolled_6 gX4_rolled_X4_beside rfl rfl rfl ⟨rfl, by decide +kernel, by decide +kernel, by decide +kernel⟩ ⟨by decide, by decide⟩) mX4_beside) ?_
  refine al_c (pc := 9) (snd_istore_n C dX4_rolled_9 rfl (by decide)) ?_
  refine al_c (pc := 10) (snd_iload_n C dX4_rolled_10 rfl) ?_
  refine al_c (pc := 11) (snd_iconst C dX4_rolled_11 (by decide)) ?_
  refine al_c (pc := 12) (snd_icmp_ne C dX4_rolled_12 (by decide)) ?_
  refine al_c (pc := 15) (snd_iconst C dX4_rolled_15 (by decide)) ?_
  refine al_c (pc := 16) (snd_Rz C hQ hr dX4_rolled_16) ?_
  refine al_c (pc := 17) (snd_aload_n C dX4_rolled_17 rfl) ?_
  refine al_c (pc := 18) (snd_Cv C (site_V C rfl dX4_rolled_18 gX4_rolled_X4_look rfl rfl rfl ⟨rfl, by decide +kernel, by decide +kernel, by decide +kernel⟩ ⟨by decide, by decide⟩) mX4_look) ?_
  refine al_c (pc := 21) (snd_aload_n C dX4_rolled_21 rfl) ?_
  refine al_c (pc := 22) (snd_iload_n C dX4_rolled_22 rfl) ?_
  refine al_c (pc := 23) (snd_iload_n C dX4_rolled_23 rfl) ?_
  refine al_c (pc := 24) (snd_Cv C (site_V C rfl dX4_rolled_24 gX4_rolled_X4_tip rfl rfl rfl ⟨rfl, by decide +kernel, by decide +kernel, by decide +kernel⟩ ⟨by decide, by decide⟩) mX4_tip) ?_
  refine al_c (pc := 27) (snd_aload_n C dX4_rolled_27 rfl) ?_
  refine al_c (pc := 28) (snd_aload_n C dX4_rolled_28 rfl) ?_
  refine al_c (pc := 29) (snd_get C dX4_rolled_29 (ci := 3) (kf := 13) rfl (by decide) inX4_rolled_X4 rfl (by decide +kernel)) ?_
  refine al_c (pc := 32) (snd_put C dX4_rolled_32 (ci := 3) (kf := 9) rfl (by decide) inX4_rolled_X4 tyX4_ok nmX4 rfl rfl rfl (by decide +kernel)) ?_
  refine al_c (pc := 35) (snd_aload_n C dX4_rolled_35 rfl) ?_
  refine al_c (pc := 36) (snd_aload_n C dX4_rolled_36 rfl) ?_
  refine al_c (pc := 37) (snd_get C dX4_rolled_37 (ci := 3) (kf := 14) rfl (by decide) inX4_rolled_X4 rfl (by decide +kernel)) ?_
  refine al_c (pc := 40) (snd_put C dX4_rolled_40 (ci := 3) (kf := 10) rfl (by decide) inX4_rolled_X4 tyX4_ok nmX4 rfl rfl rfl (by decide +kernel)) ?_
  refine al_c (pc := 43) (snd_aload_n C dX4_rolled_43 rfl) ?_
  refine al_c (pc := 44) (snd_aload_n C dX4_rolled_44 rfl) ?_
  refine al_c (pc := 45) (snd_get C dX4_rolled_45 (ci := 3) (kf := 15) rfl (by decide) inX4_rolled_X4 rfl (by decide +kernel)) ?_
  refine al_c (pc := 48) (snd_put C dX4_rolled_48 (ci := 3) (kf := 11) rfl (by decide) inX4_rolled_X4 tyX4_ok nmX4 rfl rfl rfl (by decide +kernel)) ?_
  refine al_c (pc := 51) (snd_aload_n C dX4_rolled_51 rfl) ?_
  refine al_c (pc := 52) (snd_aload_n C dX4_rolled_52 rfl) ?_
  refine al_c (pc := 53) (snd_get C dX4_rolled_53 (ci := 3) (kf := 16) rfl (by decide) inX4_rolled_X4 rfl (by decide +kernel)) ?_
  refine al_c (pc := 56) (snd_put C dX4_rolled_56 (ci := 3) (kf := 12) rfl (by decide) inX4_rolled_X4 tyX4_ok nmX4 rfl rfl rfl (by decide +kernel)) ?_
  refine al_c (pc := 59) (snd_aload_n C dX4_rolled_59 rfl) ?_
  refine al_c (pc := 60) (snd_dup C dX4_rolled_60) ?_
  refine al_c (pc := 61) (snd_get C dX4_rolled_61 (ci := 3) (kf := 7) rfl (by decide) inX4_rolled_X4 rfl (by decide +kernel)) ?_
  refine al_c (pc := 64) (snd_iconst C dX4_rolled_64 (by decide)) ?_
  refine al_c (pc := 65) (snd_iadd C dX4_rolled_65) ?_
  refine al_c (pc := 66) (snd_put C dX4_rolled_66 (ci := 3) (kf := 7) rfl (by decide) inX4_rolled_X4 tyX4_ok nmX4 rfl rfl rfl (by decide +kernel)) ?_
  refine al_c (pc := 69) (snd_bipush C dX4_rolled_69 (by decide)) ?_
  refine al_c (pc := 71) (snd_aload_n C dX4_rolled_71 rfl) ?_
  refine al_c (pc := 72) (snd_get C dX4_rolled_72 (ci := 3) (kf := 10) rfl (by decide) inX4_rolled_X4 rfl (by decide +kernel)) ?_
  refine al_c (pc := 75) (snd_isub C dX4_rolled_75) ?_
  refine al_c (pc := 76) (snd_istore_n C dX4_rolled_76 rfl (by decide)) ?_
  refine al_c (pc := 77) (snd_aload_n C dX4_rolled_77 rfl) ?_
  refine al_c (pc := 78) (snd_get C dX4_rolled_78 (ci := 3) (kf := 6) rfl (by decide) inX4_rolled_X4 rfl (by decide +kernel)) ?_
  refine al_c (pc := 81) (snd_iload_n C dX4_rolled_81 rfl) ?_
  refine al_c (pc := 82) (snd_iaload C dX4_rolled_82) ?_
  refine al_c (pc := 83) (snd_if_le C dX4_rolled_83 (by decide)) ?_
  refine al_c (pc := 86) (snd_aload_n C dX4_rolled_86 rfl) ?_
  refine al_c (pc := 87) (snd_get C dX4_rolled_87 (ci := 3) (kf := 6) rfl (by decide) inX4_rolled_X4 rfl (by decide +kernel)) ?_
  refine al_c (pc := 90) (snd_iload_n C dX4_rolled_90 rfl) ?_
  refine al_c (pc := 91) (snd_dup2 C dX4_rolled_91) ?_
  refine al_c (pc := 92) (snd_iaload C dX4_rolled_92) ?_
  refine al_c (pc := 93) (snd_iconst C dX4_rolled_93 (by decide)) ?_
  refine al_c (pc := 94) (snd_isub C dX4_rolled_94) ?_
  refine al_c (pc := 95) (snd_iastore C dX4_rolled_95) ?_
  refine al_c (pc := 96) (snd_aload_n C dX4_rolled_96 rfl) ?_
  refine al_c (pc := 97) (snd_get C dX4_rolled_97 (ci := 3) (kf := 4) rfl (by decide) inX4_rolled_X4 rfl (by decide +kernel)) ?_
  refine al_c (pc := 100) (snd_aload_n C dX4_rolled_100 rfl) ?_
  refine al_c (pc := 101) (snd_get C dX4_rolled_101 (ci := 3) (kf := 9) rfl (by decide) inX4_rolled_X4 rfl (by decide +kernel)) ?_
  refine al_c (pc := 104) (snd_aload_n C dX4_rolled_104 rfl) ?_
  refine al_c (pc := 105) (snd_get C dX4_rolled_105 (ci := 3) (kf := 5) rfl (by decide) inX4_rolled_X4 rfl (by decide +kernel)) ?_
  refine al_c (pc := 108) (snd_iload_n C dX4_rolled_108 rfl) ?_
  refine al_c (pc := 109) (snd_iaload C dX4_rolled_109) ?_
  refine al_c (pc := 110) (snd_iastore C dX4_rolled_110) ?_
  refine al_c (pc := 111) (snd_aload_n C dX4_rolled_111 rfl) ?_
  refine al_c (pc := 112) (snd_dup C dX4_rolled_112) ?_
  refine al_c (pc := 113) (snd_get C dX4_rolled_113 (ci := 3) (kf := 8) rfl (by decide) inX4_rolled_X4 rfl (by decide +kernel)) ?_
  refine al_c (pc := 116) (snd_iconst C dX4_rolled_116 (by decide)) ?_
  refine al_c (pc := 117) (snd_iadd C dX4_rolled_117) ?_
  refine al_c (pc := 118) (snd_put C dX4_rolled_118 (ci := 3) (kf := 8) rfl (by decide) inX4_rolled_X4 tyX4_ok nmX4 rfl rfl rfl (by decide +kernel)) ?_
  refine al_c (pc := 121) (snd_iconst C dX4_rolled_121 (by decide)) ?_
  refine al_c (pc := 122) (snd_Rz C hQ hr dX4_rolled_122) ?_
  exact al_0
set_option maxHeartbeats 1000000 in
set_option maxRecDepth 100000 in
theorem mX4_rolled : aMi yX4_rolled wsX4_rolled rmX4_rolled tX4_rolled := by
  refine aMz_of (by decide +kernel) rfl rfl (by intro av X post hT; obtain ⟨a, d, wl, th, rm, pm, ic, it, iv, ie, rc, k, tt, w, h, wm, pq, co, pa, fa, ce, ts, ns, es, on, nx, rfl, rfl, rfl, hw2, hw, hh2, hh, hk1, hk2, hv, hd, hR, h1, h2⟩ := hT; exact Nat.le_of_ble_eq_true rfl) ?_
  intro Γ ad av X post C hQ hr hT
  obtain ⟨a, d, wl, th, rm, pm, ic, it, iv, ie, rc, k, tt, w, h, wm, pq, co, pa, fa, ce, ts, ns, es, on, nx, rfl, rfl, rfl, hw2, hw, hh2, hh, hk1, hk2, hv, hd, hR, h1, h2⟩ := hT
  have OK := okX4_rolled C hQ hr
  have hrl := rlN_lt hv hd
  have hdn : 7 - (rlN tt d / 6 + 1) < 7 := by omega
  refine go OK [] 120 ?_
  refine ⟨_, _, k, d, wl, _, _, _, _, _, _, _, _, _, _, _, _, _, _, _, _, _, _, _, _, _, _, _, rfl, rfl, rfl, rfl, hw2, hw, hh2, hh, hk1, hk2, hd, hR, ?_⟩
  cases e : nxt w h wl k d with
  | none =>
    refine And.intro (fun q => absurd rfl q) (fun _ => ?_)
    exact ⟨Or.inl rfl, rfl, h1 e⟩
  | some j =>
    have hj := nxt_fr e
    have hj49 := cm_lt hw hh hj.1 hj.2.1
    have hp := h2 j e
    refine And.intro (fun _ => ?_) (fun q => absurd q (nI_m1 (by omega : cm w j < 10000)))
    refine ⟨_, _, _, _, _, _, _, _, _, _, _, _, _, _, _, _, _, _, _, _, _, _, _, _, _, rfl, rfl, ?_⟩
    refine ⟨_, _, d, tt, _, _, _, _, _, _, _, _, _, _, _, _, _, _, _, _, _, _, _, _, _, _, _, _, _, rfl, rfl, hd, hv, rfl, rfl, rfl, rfl, ?_⟩
    have e7 : 7 - nI (rlN tt d / 6 + 1) = nI (7 - (rlN tt d / 6 + 1)) := n7 _ (by omega)
    refine ⟨(show vp_in (7 - nI (rlN tt d / 6 + 1)) 7 by rw [e7]; exact inS hdn (by decide)), ?_⟩
    rw [e7, nI_clampS (by omega)]
    refine And.intro (fun q2 => ?_) (fun q2 => ?_)
    · have q3 : ¬ 0 < pa (7 - (rlN tt d / 6 + 1)) := by
        rw [Int32.lt_iff_toInt_lt]
        rw [Int32.le_iff_toInt_le] at q2
        omega
      unfold pmP prP paP at hp
      rw [if_neg q3, if_neg q3, if_neg q3] at hp
      exact ⟨Or.inr rfl, rfl, hp _ _ _ _⟩
    · have q3 : 0 < pa (7 - (rlN tt d / 6 + 1)) := by
        rw [Int32.lt_iff_toInt_lt]
        rw [Int32.le_iff_toInt_le] at q2
        omega
      unfold pmP prP paP at hp
      rw [if_pos q3, if_pos q3, if_pos q3] at hp
      refine ⟨inS hdn (by decide), ?_⟩
      rw [nI_clampS (by omega)]
      refine ⟨inS hdn (by decide), ?_⟩
      rw [nI_clampS (by omega)]
      refine ⟨inS hdn (by decide), ?_⟩
      rw [nI_clampS (by omega)]
      refine ⟨inS hj49 (by decide), ?_⟩
      rw [show oJ w (some j) = nI (cm w j) from rfl, nI_clampS (by omega)]
      exact ⟨Or.inr rfl, rfl, hp _ _ _ _⟩
abbrev tX4_newBoard : aTi := fun av X post => ∃ (a b : Int32) (th w0 h0 rl ps cl tp nt et ic it iv ie rc : Int32) (wm pq co pa fa ce ts ns es on nx : Nat → Int32), av = [.ref 0, .int a, .int b] ∧ X = MW th w0 h0 rl ps cl tp nt et ic it iv ie rc wm pq co pa fa ce ts ns es on nx ∧
  ((inR a 2 7 ∧ inR b 2 7) → ∀ wm2 pq2 : Nat → Int32, (∀ k, k < 49 → wm2 k = 0) → (∀ k, k < 49 → pq2 k = 0) → post (a * b) (MW 0 a b 0 0 0 1 2 3 ic it iv ie rc wm2 pq2 co pa fa ce ts ns es on nx)) ∧ (¬ (inR a 2 7 ∧ inR b 2 7) → post 0 (MW 1 w0 h0 rl ps cl tp nt et ic it iv ie rc wm pq co pa fa ce ts ns es on nx))
abbrev rmX4_newBoard : Room := { frames := 2, cells := 0, slots := 0, locals := 43 }
theorem inX4_newBoard_X4 : ∀ w ∈ wsX40, w ∈ wsX4_newBoard := by decide +kernel
def tbX4_newBoard (post : Int32 → List aE → Prop) (ad0 : Nat → Nat) : List (Nat × aO) := [(0, oAL 0 1),
  (1, oC (0) 2),
  (2, oPut 3 0 5),
  (5, oIL 1 6),
  (6, oC (2) 7),
  (7, oC (7) 9),
  (9, oCi tX4_isIn 3 none rmX4_isIn.cells rmX4_isIn.slots rmX4_newBoard.cells rmX4_newBoard.slots 12),
  (12, oIf_eq 25 15),
  (15, oIL 2 16),
  (16, oC (2) 17),
  (17, oC (7) 19),
  (19, oCi tX4_isIn 3 none rmX4_isIn.cells rmX4_isIn.slots rmX4_newBoard.cells rmX4_newBoard.slots 22),
  (22, oIf_ne 31 25),
  (25, oAL 0 26),
  (26, oC (1) 27),
  (27, oCi tX4_no 2 (some 3) rmX4_no.cells rmX4_no.slots rmX4_newBoard.cells rmX4_newBoard.slots 30),
  (30, oRi post ad0 rmX4_newBoard.cells rmX4_newBoard.slots),
  (31, oAL 0 32),
  (32, oIL 1 33),
  (33, oIL 2 34),
  (34, oCv tX4_take 3 (some 3) rmX4_take.cells rmX4_take.slots rmX4_newBoard.cells rmX4_newBoard.slots 37),
  (37, oAL 0 38),
  (38, oGet 3 1 41),
  (41, oAL 0 42),
  (42, oGet 3 2 45),
  (45, oImul 46),
  (46, oRi post ad0 rmX4_newBoard.cells rmX4_newBoard.slots)]
set_option maxRecDepth 20000 in
theorem okX4_newBoard {Γ : aΓ} {post : Int32 → List aE → Prop} {ad0 : Nat → Nat} {X0 : List aE} (C : FOK Γ cX4_newBoard wsX4_newBoard RX4 3 rmX4_newBoard) (hQ : isQ Γ (va_Qi post (aBk (gK Γ) ad0 X0 (hsz Γ)) (aA (gK Γ) ad0 X0 (hsz Γ))) rmX4_newBoard ad0 X0) (hr : rTy Γ = some .int) : AllS Γ (tbX4_newBoard post ad0) := by
  unfold tbX4_newBoard
  refine al_c (pc := 0) (snd_aload_n C dX4_newBoard_0 rfl) ?_
  refine al_c (pc := 1) (snd_iconst C dX4_newBoard_1 (by decide)) ?_
  refine al_c (pc := 2) (snd_put C dX4_newBoard_2 (ci := 3) (kf := 0) rfl (by decide) inX4_newBoard_X4 tyX4_ok nmX4 rfl rfl rfl (by decide +kernel)) ?_
  refine al_c (pc := 5) (snd_iload_n C dX4_newBoard_5 rfl) ?_
  refine al_c (pc := 6) (snd_iconst C dX4_newBoard_6 (by decide)) ?_
  refine al_c (pc := 7) (snd_bipush C dX4_newBoard_7 (by decide)) ?_
  refine al_c (pc := 9) (snd_Ci C (site_S C dX4_newBoard_9 gX4_newBoard_X4_isIn rfl rfl rfl ⟨by decide +kernel, by decide +kernel, by decide +kernel⟩ ⟨by decide, by decide⟩) mX4_isIn) ?_
  refine al_c (pc := 12) (snd_if_eq C dX4_newBoard_12 (by decide)) ?_
  refine al_c (pc := 15) (snd_iload_n C dX4_newBoard_15 rfl) ?_
  refine al_c (pc := 16) (snd_iconst C dX4_newBoard_16 (by decide)) ?_
  refine al_c (pc := 17) (snd_bipush C dX4_newBoard_17 (by decide)) ?_
  refine al_c (pc := 19) (snd_Ci C (site_S C dX4_newBoard_19 gX4_newBoard_X4_isIn rfl rfl rfl ⟨by decide +kernel, by decide +kernel, by decide +kernel⟩ ⟨by decide, by decide⟩) mX4_isIn) ?_
  refine al_c (pc := 22) (snd_if_ne C dX4_newBoard_22 (by decide)) ?_
  refine al_c (pc := 25) (snd_aload_n C dX4_newBoard_25 rfl) ?_
  refine al_c (pc := 26) (snd_iconst C dX4_newBoard_26 (by decide)) ?_
  refine al_c (pc := 27) (snd_Ci C (site_V C rfl dX4_newBoard_27 gX4_newBoard_X4_no rfl rfl rfl ⟨rfl, by decide +kernel, by decide +kernel, by decide +kernel⟩ ⟨by decide, by decide⟩) mX4_no) ?_
  refine al_c (pc := 30) (snd_Ri C hQ hr dX4_newBoard_30) ?_
  refine al_c (pc := 31) (snd_aload_n C dX4_newBoard_31 rfl) ?_
  refine al_c (pc := 32) (snd_iload_n C dX4_newBoard_32 rfl) ?_
  refine al_c (pc := 33) (snd_iload_n C dX4_newBoard_33 rfl) ?_
  refine al_c (pc := 34) (snd_Cv C (site_V C rfl dX4_newBoard_34 gX4_newBoard_X4_take rfl rfl rfl ⟨rfl, by decide +kernel, by decide +kernel, by decide +kernel⟩ ⟨by decide, by decide⟩) mX4_take) ?_
  refine al_c (pc := 37) (snd_aload_n C dX4_newBoard_37 rfl) ?_
  refine al_c (pc := 38) (snd_get C dX4_newBoard_38 (ci := 3) (kf := 1) rfl (by decide) inX4_newBoard_X4 rfl (by decide +kernel)) ?_
  refine al_c (pc := 41) (snd_aload_n C dX4_newBoard_41 rfl) ?_
  refine al_c (pc := 42) (snd_get C dX4_newBoard_42 (ci := 3) (kf := 2) rfl (by decide) inX4_newBoard_X4 rfl (by decide +kernel)) ?_
  refine al_c (pc := 45) (snd_imul C dX4_newBoard_45) ?_
  refine al_c (pc := 46) (snd_Ri C hQ hr dX4_newBoard_46) ?_
  exact al_0
set_option maxHeartbeats 1000000 in
set_option maxRecDepth 100000 in
theorem mX4_newBoard : aMi yX4_newBoard wsX4_newBoard rmX4_newBoard tX4_newBoard := by
  refine aMi_of (by decide +kernel) rfl rfl (by intro av X post hT; obtain ⟨a, b, th, w0, h0, rl, ps, cl, tp, nt, et, ic, it, iv, ie, rc, wm, pq, co, pa, fa, ce, ts, ns, es, on, nx, rfl, rfl, h1, h2⟩ := hT; exact Nat.le_of_ble_eq_true rfl) ?_
  intro Γ ad av X post C hQ hr hT
  obtain ⟨a, b, th, w0, h0, rl, ps, cl, tp, nt, et, ic, it, iv, ie, rc, wm, pq, co, pa, fa, ce, ts, ns, es, on, nx, rfl, rfl, h1, h2⟩ := hT
  have OK := okX4_newBoard C hQ hr
  refine go OK [] 60 ?_
  refine ⟨_, _, _, 2, 7, rfl, rfl, rfl, by omega, by omega, fun q1 => ?_, fun q1 => ?_⟩
  · refine And.intro (fun q => absurd q (by decide)) (fun _ => ?_)
    refine ⟨_, _, _, 2, 7, rfl, rfl, rfl, by omega, by omega, fun q2 => ?_, fun q2 => ?_⟩
    · refine And.intro (fun _ => ?_) (fun q => absurd q (by decide))
      refine ⟨_, _, _, _, _, _, _, _, _, _, _, _, _, _, _, _, _, _, _, _, _, _, _, _, _, _, _, rfl, rfl, fun wm2 pq2 z1 z2 => ?_⟩
      exact ⟨rfl, h1 ⟨q1, q2⟩ wm2 pq2 z1 z2⟩
    · refine And.intro (fun q => absurd rfl q) (fun _ => ?_)
      exact ⟨_, _, _, _, _, _, _, _, _, _, _, _, _, _, _, _, _, _, _, _, _, _, _, _, _, _, rfl, rfl, rfl, h2 (fun z => q2 z.2)⟩
  · refine And.intro (fun _ => ?_) (fun q => absurd rfl q)
    exact ⟨_, _, _, _, _, _, _, _, _, _, _, _, _, _, _, _, _, _, _, _, _, _, _, _, _, _, rfl, rfl, rfl, h2 (fun z => q1 z.1)⟩
abbrev tX4_turnWall : aTi := fun av X post => ∃ (a b : Int32) (th rm pm ic it iv ie rc : Int32) (k tt w h : Nat) (wm pq co pa fa ce ts ns es on nx : Nat → Int32), av = [.ref 0, .int a, .int b] ∧ X = MW th (nI w) (nI h) rm pm (nI (cm w k)) (nI (tt / 6 + 1)) (nI (tt % 6 + 1)) (nI (eoN tt)) ic it iv ie rc wm pq co pa fa ce ts ns es on nx ∧ 2 ≤ w ∧ w ≤ 7 ∧ 2 ≤ h ∧ h ≤ 7 ∧ k % 7 < w ∧ k / 7 < h ∧
  (¬ inB a b w h → post 0 (MW 1 (nI w) (nI h) rm pm (nI (cm w k)) (nI (tt / 6 + 1)) (nI (tt % 6 + 1)) (nI (eoN tt)) ic it iv ie rc wm pq co pa fa ce ts ns es on nx)) ∧ ∀ i j, a = nI i → b = nI j → i < w → j < h → (j * 7 + i = k → post 0 (MW 2 (nI w) (nI h) rm pm (nI (cm w k)) (nI (tt / 6 + 1)) (nI (tt % 6 + 1)) (nI (eoN tt)) ic it iv ie rc wm pq co pa fa ce ts ns es on nx)) ∧
    (j * 7 + i ≠ k → (wm (w * j + i) = 0 → post 1 (MW 0 (nI w) (nI h) rm pm (nI (cm w k)) (nI (tt / 6 + 1)) (nI (tt % 6 + 1)) (nI (eoN tt)) ic it iv ie rc (upd wm (w * j + i) 1) pq co pa fa ce ts ns es on nx)) ∧
      (¬ wm (w * j + i) = 0 → post 0 (MW 0 (nI w) (nI h) rm pm (nI (cm w k)) (nI (tt / 6 + 1)) (nI (tt % 6 + 1)) (nI (eoN tt)) ic it iv ie rc (upd wm (w * j + i) 0) pq co pa fa ce ts ns es on nx)))
abbrev rmX4_turnWall : Room := { frames := 2, cells := 0, slots := 0, locals := 44 }
theorem inX4_turnWall_X4 : ∀ w ∈ wsX40, w ∈ wsX4_turnWall := by decide +kernel
def tbX4_turnWall (post : Int32 → List aE → Prop) (ad0 : Nat → Nat) : List (Nat × aO) := [(0, oAL 0 1),
  (1, oC (0) 2),
  (2, oPut 3 0 5),
  (5, oAL 0 6),
  (6, oIL 1 7),
  (7, oIL 2 8),
  (8, oCi tX4_isCell 3 (some 3) rmX4_isCell.cells rmX4_isCell.slots rmX4_turnWall.cells rmX4_turnWall.slots 11),
  (11, oIf_ne 20 14),
  (14, oAL 0 15),
  (15, oC (1) 16),
  (16, oCi tX4_isNot 2 (some 3) rmX4_isNot.cells rmX4_isNot.slots rmX4_turnWall.cells rmX4_turnWall.slots 19),
  (19, oRz post ad0 rmX4_turnWall.cells rmX4_turnWall.slots),
  (20, oAL 0 21),
  (21, oGet 3 1 24),
  (24, oIL 2 25),
  (25, oImul 26),
  (26, oIL 1 27),
  (27, oIadd 28),
  (28, oIS 3 29),
  (29, oIL 3 30),
  (30, oAL 0 31),
  (31, oGet 3 9 34),
  (34, oIc_ne 43 37),
  (37, oAL 0 38),
  (38, oC (2) 39),
  (39, oCi tX4_isNot 2 (some 3) rmX4_isNot.cells rmX4_isNot.slots rmX4_turnWall.cells rmX4_turnWall.slots 42),
  (42, oRz post ad0 rmX4_turnWall.cells rmX4_turnWall.slots),
  (43, oAL 0 44),
  (44, oGet 3 3 47),
  (47, oIL 3 48),
  (48, oAL 0 49),
  (49, oGet 3 3 52),
  (52, oIL 3 53),
  (53, oZald 54),
  (54, oIf_ne 61 57),
  (57, oC (1) 58),
  (58, oGo 62),
  (61, oC (0) 62),
  (62, oZast 63),
  (63, oAL 0 64),
  (64, oGet 3 3 67),
  (67, oIL 3 68),
  (68, oZald 69),
  (69, oRz post ad0 rmX4_turnWall.cells rmX4_turnWall.slots)]
set_option maxRecDepth 20000 in
theorem okX4_turnWall {Γ : aΓ} {post : Int32 → List aE → Prop} {ad0 : Nat → Nat} {X0 : List aE} (C : FOK Γ cX4_turnWall wsX4_turnWall RX4 4 rmX4_turnWall) (hQ : isQ Γ (va_Qi post (aBk (gK Γ) ad0 X0 (hsz Γ)) (aA (gK Γ) ad0 X0 (hsz Γ))) rmX4_turnWall ad0 X0) (hr : rTy Γ = some .boolean) : AllS Γ (tbX4_turnWall post ad0) := by
  unfold tbX4_turnWall
  refine al_c (pc := 0) (snd_aload_n C dX4_turnWall_0 rfl) ?_
  refine al_c (pc := 1) (snd_iconst C dX4_turnWall_1 (by decide)) ?_
  refine al_c (pc := 2) (snd_put C dX4_turnWall_2 (ci := 3) (kf := 0) rfl (by decide) inX4_turnWall_X4 tyX4_ok nmX4 rfl rfl rfl (by decide +kernel)) ?_
  refine al_c (pc := 5) (snd_aload_n C dX4_turnWall_5 rfl) ?_
  refine al_c (pc := 6) (snd_iload_n C dX4_turnWall_6 rfl) ?_
  refine al_c (pc := 7) (snd_iload_n C dX4_turnWall_7 rfl) ?_
  refine al_c (pc := 8) (snd_Ci C (site_V C rfl dX4_turnWall_8 gX4_turnWall_X4_isCell rfl rfl rfl ⟨rfl, by decide +kernel, by decide +kernel, by decide +kernel⟩ ⟨by decide, by decide⟩) mX4_isCell) ?_
  refine al_c (pc := 11) (snd_if_ne C dX4_turnWall_11 (by decide)) ?_
  refine al_c (pc := 14) (snd_aload_n C dX4_turnWall_14 rfl) ?_
  refine al_c (pc := 15) (snd_iconst C dX4_turnWall_15 (by decide)) ?_
  refine al_c (pc := 16) (snd_Ci C (site_V C rfl dX4_turnWall_16 gX4_turnWall_X4_isNot rfl rfl rfl ⟨rfl, by decide +kernel, by decide +kernel, by decide +kernel⟩ ⟨by decide, by decide⟩) mX4_isNot) ?_
  refine al_c (pc := 19) (snd_Rz C hQ hr dX4_turnWall_19) ?_
  refine al_c (pc := 20) (snd_aload_n C dX4_turnWall_20 rfl) ?_
  refine al_c (pc := 21) (snd_get C dX4_turnWall_21 (ci := 3) (kf := 1) rfl (by decide) inX4_turnWall_X4 rfl (by decide +kernel)) ?_
  refine al_c (pc := 24) (snd_iload_n C dX4_turnWall_24 rfl) ?_
  refine al_c (pc := 25) (snd_imul C dX4_turnWall_25) ?_
  refine al_c (pc := 26) (snd_iload_n C dX4_turnWall_26 rfl) ?_
  refine al_c (pc := 27) (snd_iadd C dX4_turnWall_27) ?_
  refine al_c (pc := 28) (snd_istore_n C dX4_turnWall_28 rfl (by decide)) ?_
  refine al_c (pc := 29) (snd_iload_n C dX4_turnWall_29 rfl) ?_
  refine al_c (pc := 30) (snd_aload_n C dX4_turnWall_30 rfl) ?_
  refine al_c (pc := 31) (snd_get C dX4_turnWall_31 (ci := 3) (kf := 9) rfl (by decide) inX4_turnWall_X4 rfl (by decide +kernel)) ?_
  refine al_c (pc := 34) (snd_icmp_ne C dX4_turnWall_34 (by decide)) ?_
  refine al_c (pc := 37) (snd_aload_n C dX4_turnWall_37 rfl) ?_
  refine al_c (pc := 38) (snd_iconst C dX4_turnWall_38 (by decide)) ?_
  refine al_c (pc := 39) (snd_Ci C (site_V C rfl dX4_turnWall_39 gX4_turnWall_X4_isNot rfl rfl rfl ⟨rfl, by decide +kernel, by decide +kernel, by decide +kernel⟩ ⟨by decide, by decide⟩) mX4_isNot) ?_
  refine al_c (pc := 42) (snd_Rz C hQ hr dX4_turnWall_42) ?_
  refine al_c (pc := 43) (snd_aload_n C dX4_turnWall_43 rfl) ?_
  refine al_c (pc := 44) (snd_get C dX4_turnWall_44 (ci := 3) (kf := 3) rfl (by decide) inX4_turnWall_X4 rfl (by decide +kernel)) ?_
  refine al_c (pc := 47) (snd_iload_n C dX4_turnWall_47 rfl) ?_
  refine al_c (pc := 48) (snd_aload_n C dX4_turnWall_48 rfl) ?_
  refine al_c (pc := 49) (snd_get C dX4_turnWall_49 (ci := 3) (kf := 3) rfl (by decide) inX4_turnWall_X4 rfl (by decide +kernel)) ?_
  refine al_c (pc := 52) (snd_iload_n C dX4_turnWall_52 rfl) ?_
  refine al_c (pc := 53) (snd_baload C dX4_turnWall_53) ?_
  refine al_c (pc := 54) (snd_if_ne C dX4_turnWall_54 (by decide)) ?_
  refine al_c (pc := 57) (snd_iconst C dX4_turnWall_57 (by decide)) ?_
  refine al_c (pc := 58) (snd_goto C dX4_turnWall_58 (by decide)) ?_
  refine al_c (pc := 61) (snd_iconst C dX4_turnWall_61 (by decide)) ?_
  refine al_c (pc := 62) (snd_bastore C dX4_turnWall_62) ?_
  refine al_c (pc := 63) (snd_aload_n C dX4_turnWall_63 rfl) ?_
  refine al_c (pc := 64) (snd_get C dX4_turnWall_64 (ci := 3) (kf := 3) rfl (by decide) inX4_turnWall_X4 rfl (by decide +kernel)) ?_
  refine al_c (pc := 67) (snd_iload_n C dX4_turnWall_67 rfl) ?_
  refine al_c (pc := 68) (snd_baload C dX4_turnWall_68) ?_
  refine al_c (pc := 69) (snd_Rz C hQ hr dX4_turnWall_69) ?_
  exact al_0
set_option maxHeartbeats 1000000 in
set_option maxRecDepth 100000 in
theorem mX4_turnWall : aMi yX4_turnWall wsX4_turnWall rmX4_turnWall tX4_turnWall := by
  refine aMz_of (by decide +kernel) rfl rfl (by intro av X post hT; obtain ⟨a, b, th, rm, pm, ic, it, iv, ie, rc, k, tt, w, h, wm, pq, co, pa, fa, ce, ts, ns, es, on, nx, rfl, rfl, hw2, hw, hh2, hh, hk1, hk2, h1, h2⟩ := hT; exact Nat.le_of_ble_eq_true rfl) ?_
  intro Γ ad av X post C hQ hr hT
  obtain ⟨a, b, th, rm, pm, ic, it, iv, ie, rc, k, tt, w, h, wm, pq, co, pa, fa, ce, ts, ns, es, on, nx, rfl, rfl, hw2, hw, hh2, hh, hk1, hk2, h1, h2⟩ := hT
  have OK := okX4_turnWall C hQ hr
  have hk49 := cm_lt hw hh hk1 hk2
  refine go OK [] 80 ?_
  refine ⟨_, _, _, _, _, _, _, _, _, _, _, _, _, _, _, _, _, _, _, _, _, _, _, _, _, rfl, rfl, hw2, hw, hh2, hh, fun q => ?_, fun q => ?_⟩
  rotate_left
  · refine And.intro (fun q => absurd rfl q) (fun _ => ?_)
    exact ⟨_, _, _, _, _, _, _, _, _, _, _, _, _, _, _, _, _, _, _, _, _, _, _, _, _, _, rfl, rfl, Or.inl rfl, rfl, h1 q⟩
  refine And.intro (fun _ => ?_) (fun q => absurd q (by decide))
  obtain ⟨i, j, rfl, rfl, hi, hj⟩ := q
  have h49 := wj_lt (i := i + 1) hw hh (by omega) hj
  obtain ⟨g1, g2⟩ := h2 i j rfl rfl hi hj
  have ek : nI w * nI j + nI i = nI (cm w k) ↔ j * 7 + i = k := by
    rw [wI, eqN (by omega) (by omega)]
    constructor
    · intro z
      refine cm_inj (w := w) (by omega) hk1 ?_
      rw [cm_at (by omega)]
      exact z
    · intro z
      rw [← z, cm_at (by omega)]
  refine And.intro (fun q => ?_) (fun q => ?_)
  · obtain ⟨g3, g4⟩ := g2 (fun z => q (ek.mpr z))
    rw [wI]
    refine ⟨inS (by omega : w * j + i < 49) (by decide), ?_⟩
    rw [nI_clampS (by omega)]
    refine And.intro (fun q2 => ?_) (fun q2 => ?_)
    · refine ⟨inS (by omega : w * j + i < 49) (by decide), Or.inl rfl, ?_⟩
      rw [nI_clampS (by omega)]
      refine ⟨inS (by omega : w * j + i < 49) (by decide), ?_⟩
      rw [nI_clampS (by omega), pk_us]
      exact ⟨Or.inl rfl, rfl, g4 q2⟩
    · refine ⟨inS (by omega : w * j + i < 49) (by decide), Or.inr rfl, ?_⟩
      rw [nI_clampS (by omega)]
      refine ⟨inS (by omega : w * j + i < 49) (by decide), ?_⟩
      rw [nI_clampS (by omega), pk_us]
      exact ⟨Or.inr rfl, rfl, g3 q2⟩
  · exact ⟨_, _, _, _, _, _, _, _, _, _, _, _, _, _, _, _, _, _, _, _, _, _, _, _, _, _, rfl, rfl, Or.inl rfl, rfl, g1 (ek.mp q)⟩
abbrev tX4_setColour : aTi := fun av X post => ∃ (a b : Int32) (th rm pm ic it iv ie rc : Int32) (k tt w h : Nat) (wm pq co pa fa ce ts ns es on nx : Nat → Int32), av = [.ref 0, .int a, .int b] ∧ X = MW th (nI w) (nI h) rm pm (nI (cm w k)) (nI (tt / 6 + 1)) (nI (tt % 6 + 1)) (nI (eoN tt)) ic it iv ie rc wm pq co pa fa ce ts ns es on nx ∧
  (¬ inR a 1 6 → post 0 (MW 1 (nI w) (nI h) rm pm (nI (cm w k)) (nI (tt / 6 + 1)) (nI (tt % 6 + 1)) (nI (eoN tt)) ic it iv ie rc wm pq co pa fa ce ts ns es on nx)) ∧ ∀ f, a = nI f → 1 ≤ f → f ≤ 6 → (¬ inR b 1 9 → post 0 (MW 2 (nI w) (nI h) rm pm (nI (cm w k)) (nI (tt / 6 + 1)) (nI (tt % 6 + 1)) (nI (eoN tt)) ic it iv ie rc wm pq co pa fa ce ts ns es on nx)) ∧ (inR b 1 9 → post (co f) (MW 0 (nI w) (nI h) rm pm (nI (cm w k)) (nI (tt / 6 + 1)) (nI (tt % 6 + 1)) (nI (eoN tt)) ic it iv ie rc wm pq (upd co f b) pa fa ce ts ns es on nx))
abbrev rmX4_setColour : Room := { frames := 2, cells := 0, slots := 0, locals := 42 }
theorem inX4_setColour_X4 : ∀ w ∈ wsX40, w ∈ wsX4_setColour := by decide +kernel
def tbX4_setColour (post : Int32 → List aE → Prop) (ad0 : Nat → Nat) : List (Nat × aO) := [(0, oAL 0 1),
  (1, oC (0) 2),
  (2, oPut 3 0 5),
  (5, oIL 1 6),
  (6, oCi tX4_isFace 1 none rmX4_isFace.cells rmX4_isFace.slots rmX4_setColour.cells rmX4_setColour.slots 9),
  (9, oIf_ne 18 12),
  (12, oAL 0 13),
  (13, oC (1) 14),
  (14, oCi tX4_no 2 (some 3) rmX4_no.cells rmX4_no.slots rmX4_setColour.cells rmX4_setColour.slots 17),
  (17, oRi post ad0 rmX4_setColour.cells rmX4_setColour.slots),
  (18, oIL 2 19),
  (19, oC (1) 20),
  (20, oC (9) 22),
  (22, oCi tX4_isIn 3 none rmX4_isIn.cells rmX4_isIn.slots rmX4_setColour.cells rmX4_setColour.slots 25),
  (25, oIf_ne 34 28),
  (28, oAL 0 29),
  (29, oC (2) 30),
  (30, oCi tX4_no 2 (some 3) rmX4_no.cells rmX4_no.slots rmX4_setColour.cells rmX4_setColour.slots 33),
  (33, oRi post ad0 rmX4_setColour.cells rmX4_setColour.slots),
  (34, oAL 0 35),
  (35, oGet 3 5 38),
  (38, oIL 1 39),
  (39, oIald 40),
  (40, oIS 3 41),
  (41, oAL 0 42),
  (42, oGet 3 5 45),
  (45, oIL 1 46),
  (46, oIL 2 47),
  (47, oIast 48),
  (48, oIL 3 49),
  (49, oRi post ad0 rmX4_setColour.cells rmX4_setColour.slots)]
set_option maxRecDepth 20000 in
theorem okX4_setColour {Γ : aΓ} {post : Int32 → List aE → Prop} {ad0 : Nat → Nat} {X0 : List aE} (C : FOK Γ cX4_setColour wsX4_setColour RX4 4 rmX4_setColour) (hQ : isQ Γ (va_Qi post (aBk (gK Γ) ad0 X0 (hsz Γ)) (aA (gK Γ) ad0 X0 (hsz Γ))) rmX4_setColour ad0 X0) (hr : rTy Γ = some .int) : AllS Γ (tbX4_setColour post ad0) := by
  unfold tbX4_setColour
  refine al_c (pc := 0) (snd_aload_n C dX4_setColour_0 rfl) ?_
  refine al_c (pc := 1) (snd_iconst C dX4_setColour_1 (by decide)) ?_
  refine al_c (pc := 2) (snd_put C dX4_setColour_2 (ci := 3) (kf := 0) rfl (by decide) inX4_setColour_X4 tyX4_ok nmX4 rfl rfl rfl (by decide +kernel)) ?_
  refine al_c (pc := 5) (snd_iload_n C dX4_setColour_5 rfl) ?_
  refine al_c (pc := 6) (snd_Ci C (site_S C dX4_setColour_6 gX4_setColour_X4_isFace rfl rfl rfl ⟨by decide +kernel, by decide +kernel, by decide +kernel⟩ ⟨by decide, by decide⟩) mX4_isFace) ?_
  refine al_c (pc := 9) (snd_if_ne C dX4_setColour_9 (by decide)) ?_
  refine al_c (pc := 12) (snd_aload_n C dX4_setColour_12 rfl) ?_
  refine al_c (pc := 13) (snd_iconst C dX4_setColour_13 (by decide)) ?_
  refine al_c (pc := 14) (snd_Ci C (site_V C rfl dX4_setColour_14 gX4_setColour_X4_no rfl rfl rfl ⟨rfl, by decide +kernel, by decide +kernel, by decide +kernel⟩ ⟨by decide, by decide⟩) mX4_no) ?_
  refine al_c (pc := 17) (snd_Ri C hQ hr dX4_setColour_17) ?_
  refine al_c (pc := 18) (snd_iload_n C dX4_setColour_18 rfl) ?_
  refine al_c (pc := 19) (snd_iconst C dX4_setColour_19 (by decide)) ?_
  refine al_c (pc := 20) (snd_bipush C dX4_setColour_20 (by decide)) ?_
  refine al_c (pc := 22) (snd_Ci C (site_S C dX4_setColour_22 gX4_setColour_X4_isIn rfl rfl rfl ⟨by decide +kernel, by decide +kernel, by decide +kernel⟩ ⟨by decide, by decide⟩) mX4_isIn) ?_
  refine al_c (pc := 25) (snd_if_ne C dX4_setColour_25 (by decide)) ?_
  refine al_c (pc := 28) (snd_aload_n C dX4_setColour_28 rfl) ?_
  refine al_c (pc := 29) (snd_iconst C dX4_setColour_29 (by decide)) ?_
  refine al_c (pc := 30) (snd_Ci C (site_V C rfl dX4_setColour_30 gX4_setColour_X4_no rfl rfl rfl ⟨rfl, by decide +kernel, by decide +kernel, by decide +kernel⟩ ⟨by decide, by decide⟩) mX4_no) ?_
  refine al_c (pc := 33) (snd_Ri C hQ hr dX4_setColour_33) ?_
  refine al_c (pc := 34) (snd_aload_n C dX4_setColour_34 rfl) ?_
  refine al_c (pc := 35) (snd_get C dX4_setColour_35 (ci := 3) (kf := 5) rfl (by decide) inX4_setColour_X4 rfl (by decide +kernel)) ?_
  refine al_c (pc := 38) (snd_iload_n C dX4_setColour_38 rfl) ?_
  refine al_c (pc := 39) (snd_iaload C dX4_setColour_39) ?_
  refine al_c (pc := 40) (snd_istore_n C dX4_setColour_40 rfl (by decide)) ?_
  refine al_c (pc := 41) (snd_aload_n C dX4_setColour_41 rfl) ?_
  refine al_c (pc := 42) (snd_get C dX4_setColour_42 (ci := 3) (kf := 5) rfl (by decide) inX4_setColour_X4 rfl (by decide +kernel)) ?_
  refine al_c (pc := 45) (snd_iload_n C dX4_setColour_45 rfl) ?_
  refine al_c (pc := 46) (snd_iload_n C dX4_setColour_46 rfl) ?_
  refine al_c (pc := 47) (snd_iastore C dX4_setColour_47) ?_
  refine al_c (pc := 48) (snd_iload_n C dX4_setColour_48 rfl) ?_
  refine al_c (pc := 49) (snd_Ri C hQ hr dX4_setColour_49) ?_
  exact al_0
set_option maxHeartbeats 1000000 in
set_option maxRecDepth 100000 in
theorem mX4_setColour : aMi yX4_setColour wsX4_setColour rmX4_setColour tX4_setColour := by
  refine aMi_of (by decide +kernel) rfl rfl (by intro av X post hT; obtain ⟨a, b, th, rm, pm, ic, it, iv, ie, rc, k, tt, w, h, wm, pq, co, pa, fa, ce, ts, ns, es, on, nx, rfl, rfl, h1, h2⟩ := hT; exact Nat.le_of_ble_eq_true rfl) ?_
  intro Γ ad av X post C hQ hr hT
  obtain ⟨a, b, th, rm, pm, ic, it, iv, ie, rc, k, tt, w, h, wm, pq, co, pa, fa, ce, ts, ns, es, on, nx, rfl, rfl, h1, h2⟩ := hT
  have OK := okX4_setColour C hQ hr
  refine go OK [] 60 ?_
  refine ⟨_, rfl, fun q => ?_, fun q => ?_⟩
  rotate_left
  · refine And.intro (fun q => absurd rfl q) (fun _ => ?_)
    exact ⟨_, _, _, _, _, _, _, _, _, _, _, _, _, _, _, _, _, _, _, _, _, _, _, _, _, _, rfl, rfl, rfl, h1 q⟩
  refine And.intro (fun _ => ?_) (fun q => absurd q (by decide))
  obtain ⟨f, rfl, f1, f2⟩ := q
  obtain ⟨g1, g2⟩ := h2 f rfl f1 f2
  refine ⟨_, _, _, 1, 9, rfl, rfl, rfl, by omega, by omega, fun q => ?_, fun q => ?_⟩
  · refine And.intro (fun _ => ?_) (fun q => absurd q (by decide))
    refine ⟨inS (by omega : f < 7) (by decide), ?_⟩
    rw [nI_clampS (by omega)]
    refine ⟨inS (by omega : f < 7) (by decide), ?_⟩
    rw [nI_clampS (by omega)]
    exact ⟨rfl, g2 q⟩
  · refine And.intro (fun q => absurd rfl q) (fun _ => ?_)
    exact ⟨_, _, _, _, _, _, _, _, _, _, _, _, _, _, _, _, _, _, _, _, _, _, _, _, _, _, rfl, rfl, rfl, g1 q⟩
abbrev tX4_addPaint : aTi := fun av X post => ∃ (a b : Int32) (th rm pm ic it iv ie rc : Int32) (k tt w h : Nat) (wm pq co pa fa ce ts ns es on nx : Nat → Int32), av = [.ref 0, .int a, .int b] ∧ X = MW th (nI w) (nI h) rm pm (nI (cm w k)) (nI (tt / 6 + 1)) (nI (tt % 6 + 1)) (nI (eoN tt)) ic it iv ie rc wm pq co pa fa ce ts ns es on nx ∧
  (¬ inR a 1 6 → post 0 (MW 1 (nI w) (nI h) rm pm (nI (cm w k)) (nI (tt / 6 + 1)) (nI (tt % 6 + 1)) (nI (eoN tt)) ic it iv ie rc wm pq co pa fa ce ts ns es on nx)) ∧ ∀ f, a = nI f → 1 ≤ f → f ≤ 6 → (¬ inR b 1 20 → post 0 (MW 2 (nI w) (nI h) rm pm (nI (cm w k)) (nI (tt / 6 + 1)) (nI (tt % 6 + 1)) (nI (eoN tt)) ic it iv ie rc wm pq co pa fa ce ts ns es on nx)) ∧ (inR b 1 20 → post (adP pa f b) (MW 0 (nI w) (nI h) rm pm (nI (cm w k)) (nI (tt / 6 + 1)) (nI (tt % 6 + 1)) (nI (eoN tt)) ic it iv ie rc wm pq co (upd pa f (adP pa f b)) fa ce ts ns es on nx))
abbrev rmX4_addPaint : Room := { frames := 2, cells := 0, slots := 0, locals := 60 }
theorem inX4_addPaint_X4 : ∀ w ∈ wsX40, w ∈ wsX4_addPaint := by decide +kernel
def tbX4_addPaint (post : Int32 → List aE → Prop) (ad0 : Nat → Nat) : List (Nat × aO) := [(0, oAL 0 1),
  (1, oC (0) 2),
  (2, oPut 3 0 5),
  (5, oIL 1 6),
  (6, oCi tX4_isFace 1 none rmX4_isFace.cells rmX4_isFace.slots rmX4_addPaint.cells rmX4_addPaint.slots 9),
  (9, oIf_ne 18 12),
  (12, oAL 0 13),
  (13, oC (1) 14),
  (14, oCi tX4_no 2 (some 3) rmX4_no.cells rmX4_no.slots rmX4_addPaint.cells rmX4_addPaint.slots 17),
  (17, oRi post ad0 rmX4_addPaint.cells rmX4_addPaint.slots),
  (18, oIL 2 19),
  (19, oC (1) 20),
  (20, oC (20) 22),
  (22, oCi tX4_isIn 3 none rmX4_isIn.cells rmX4_isIn.slots rmX4_addPaint.cells rmX4_addPaint.slots 25),
  (25, oIf_ne 34 28),
  (28, oAL 0 29),
  (29, oC (2) 30),
  (30, oCi tX4_no 2 (some 3) rmX4_no.cells rmX4_no.slots rmX4_addPaint.cells rmX4_addPaint.slots 33),
  (33, oRi post ad0 rmX4_addPaint.cells rmX4_addPaint.slots),
  (34, oAL 0 35),
  (35, oGet 3 6 38),
  (38, oIL 1 39),
  (39, oC (20) 41),
  (41, oAL 0 42),
  (42, oGet 3 6 45),
  (45, oIL 1 46),
  (46, oIald 47),
  (47, oIL 2 48),
  (48, oIadd 49),
  (49, oMin 52 rmX4_addPaint.cells rmX4_addPaint.slots),
  (52, oIast 53),
  (53, oAL 0 54),
  (54, oGet 3 6 57),
  (57, oIL 1 58),
  (58, oIald 59),
  (59, oRi post ad0 rmX4_addPaint.cells rmX4_addPaint.slots)]
set_option maxRecDepth 20000 in
theorem okX4_addPaint {Γ : aΓ} {post : Int32 → List aE → Prop} {ad0 : Nat → Nat} {X0 : List aE} (C : FOK Γ cX4_addPaint wsX4_addPaint RX4 3 rmX4_addPaint) (hQ : isQ Γ (va_Qi post (aBk (gK Γ) ad0 X0 (hsz Γ)) (aA (gK Γ) ad0 X0 (hsz Γ))) rmX4_addPaint ad0 X0) (hr : rTy Γ = some .int) : AllS Γ (tbX4_addPaint post ad0) := by
  unfold tbX4_addPaint
  refine al_c (pc := 0) (snd_aload_n C dX4_addPaint_0 rfl) ?_
  refine al_c (pc := 1) (snd_iconst C dX4_addPaint_1 (by decide)) ?_
  refine al_c (pc := 2) (snd_put C dX4_addPaint_2 (ci := 3) (kf := 0) rfl (by decide) inX4_addPaint_X4 tyX4_ok nmX4 rfl rfl rfl (by decide +kernel)) ?_
  refine al_c (pc := 5) (snd_iload_n C dX4_addPaint_5 rfl) ?_
  refine al_c (pc := 6) (snd_Ci C (site_S C dX4_addPaint_6 gX4_addPaint_X4_isFace rfl rfl rfl ⟨by decide +kernel, by decide +kernel, by decide +kernel⟩ ⟨by decide, by decide⟩) mX4_isFace) ?_
  refine al_c (pc := 9) (snd_if_ne C dX4_addPaint_9 (by decide)) ?_
  refine al_c (pc := 12) (snd_aload_n C dX4_addPaint_12 rfl) ?_
  refine al_c (pc := 13) (snd_iconst C dX4_addPaint_13 (by decide)) ?_
  refine al_c (pc := 14) (snd_Ci C (site_V C rfl dX4_addPaint_14 gX4_addPaint_X4_no rfl rfl rfl ⟨rfl, by decide +kernel, by decide +kernel, by decide +kernel⟩ ⟨by decide, by decide⟩) mX4_no) ?_
  refine al_c (pc := 17) (snd_Ri C hQ hr dX4_addPaint_17) ?_
  refine al_c (pc := 18) (snd_iload_n C dX4_addPaint_18 rfl) ?_
  refine al_c (pc := 19) (snd_iconst C dX4_addPaint_19 (by decide)) ?_
  refine al_c (pc := 20) (snd_bipush C dX4_addPaint_20 (by decide)) ?_
  refine al_c (pc := 22) (snd_Ci C (site_S C dX4_addPaint_22 gX4_addPaint_X4_isIn rfl rfl rfl ⟨by decide +kernel, by decide +kernel, by decide +kernel⟩ ⟨by decide, by decide⟩) mX4_isIn) ?_
  refine al_c (pc := 25) (snd_if_ne C dX4_addPaint_25 (by decide)) ?_
  refine al_c (pc := 28) (snd_aload_n C dX4_addPaint_28 rfl) ?_
  refine al_c (pc := 29) (snd_iconst C dX4_addPaint_29 (by decide)) ?_
  refine al_c (pc := 30) (snd_Ci C (site_V C rfl dX4_addPaint_30 gX4_addPaint_X4_no rfl rfl rfl ⟨rfl, by decide +kernel, by decide +kernel, by decide +kernel⟩ ⟨by decide, by decide⟩) mX4_no) ?_
  refine al_c (pc := 33) (snd_Ri C hQ hr dX4_addPaint_33) ?_
  refine al_c (pc := 34) (snd_aload_n C dX4_addPaint_34 rfl) ?_
  refine al_c (pc := 35) (snd_get C dX4_addPaint_35 (ci := 3) (kf := 6) rfl (by decide) inX4_addPaint_X4 rfl (by decide +kernel)) ?_
  refine al_c (pc := 38) (snd_iload_n C dX4_addPaint_38 rfl) ?_
  refine al_c (pc := 39) (snd_bipush C dX4_addPaint_39 (by decide)) ?_
  refine al_c (pc := 41) (snd_aload_n C dX4_addPaint_41 rfl) ?_
  refine al_c (pc := 42) (snd_get C dX4_addPaint_42 (ci := 3) (kf := 6) rfl (by decide) inX4_addPaint_X4 rfl (by decide +kernel)) ?_
  refine al_c (pc := 45) (snd_iload_n C dX4_addPaint_45 rfl) ?_
  refine al_c (pc := 46) (snd_iaload C dX4_addPaint_46) ?_
  refine al_c (pc := 47) (snd_iload_n C dX4_addPaint_47 rfl) ?_
  refine al_c (pc := 48) (snd_iadd C dX4_addPaint_48) ?_
  refine al_c (pc := 49) (snd_min C dX4_addPaint_49 (by decide +kernel) (by decide +kernel) (by decide +kernel) (by decide +kernel) (by decide) (by decide)) ?_
  refine al_c (pc := 52) (snd_iastore C dX4_addPaint_52) ?_
  refine al_c (pc := 53) (snd_aload_n C dX4_addPaint_53 rfl) ?_
  refine al_c (pc := 54) (snd_get C dX4_addPaint_54 (ci := 3) (kf := 6) rfl (by decide) inX4_addPaint_X4 rfl (by decide +kernel)) ?_
  refine al_c (pc := 57) (snd_iload_n C dX4_addPaint_57 rfl) ?_
  refine al_c (pc := 58) (snd_iaload C dX4_addPaint_58) ?_
  refine al_c (pc := 59) (snd_Ri C hQ hr dX4_addPaint_59) ?_
  exact al_0
set_option maxHeartbeats 1000000 in
set_option maxRecDepth 100000 in
theorem mX4_addPaint : aMi yX4_addPaint wsX4_addPaint rmX4_addPaint tX4_addPaint := by
  refine aMi_of (by decide +kernel) rfl rfl (by intro av X post hT; obtain ⟨a, b, th, rm, pm, ic, it, iv, ie, rc, k, tt, w, h, wm, pq, co, pa, fa, ce, ts, ns, es, on, nx, rfl, rfl, h1, h2⟩ := hT; exact Nat.le_of_ble_eq_true rfl) ?_
  intro Γ ad av X post C hQ hr hT
  obtain ⟨a, b, th, rm, pm, ic, it, iv, ie, rc, k, tt, w, h, wm, pq, co, pa, fa, ce, ts, ns, es, on, nx, rfl, rfl, h1, h2⟩ := hT
  have OK := okX4_addPaint C hQ hr
  refine go OK [] 60 ?_
  refine ⟨_, rfl, fun q => ?_, fun q => ?_⟩
  rotate_left
  · refine And.intro (fun q => absurd rfl q) (fun _ => ?_)
    exact ⟨_, _, _, _, _, _, _, _, _, _, _, _, _, _, _, _, _, _, _, _, _, _, _, _, _, _, rfl, rfl, rfl, h1 q⟩
  refine And.intro (fun _ => ?_) (fun q => absurd q (by decide))
  obtain ⟨f, rfl, f1, f2⟩ := q
  obtain ⟨g1, g2⟩ := h2 f rfl f1 f2
  refine ⟨_, _, _, 1, 20, rfl, rfl, rfl, by omega, by omega, fun q => ?_, fun q => ?_⟩
  · refine And.intro (fun _ => ?_) (fun q => absurd q (by decide))
    refine ⟨inS (by omega : f < 7) (by decide), ?_⟩
    rw [nI_clampS (by omega)]
    refine ⟨inS (by omega : f < 7) (by decide), ?_⟩
    rw [nI_clampS (by omega)]
    refine ⟨inS (by omega : f < 7) (by decide), ?_⟩
    rw [nI_clampS (by omega), pk_us]
    exact ⟨rfl, g2 q⟩
  · refine And.intro (fun q => absurd rfl q) (fun _ => ?_)
    exact ⟨_, _, _, _, _, _, _, _, _, _, _, _, _, _, _, _, _, _, _, _, _, _, _, _, _, _, rfl, rfl, rfl, g1 q⟩
abbrev tX4_put : aTi := fun av X post => ∃ (a b : Int32) (th rm pm ic it iv ie rc : Int32) (k tt w h : Nat) (wm pq co pa fa ce ts ns es on nx : Nat → Int32), av = [.ref 0, .int a, .int b] ∧ X = MW th (nI w) (nI h) rm pm (nI (cm w k)) (nI (tt / 6 + 1)) (nI (tt % 6 + 1)) (nI (eoN tt)) ic it iv ie rc wm pq co pa fa ce ts ns es on nx ∧ 2 ≤ w ∧ w ≤ 7 ∧ 2 ≤ h ∧ h ≤ 7 ∧ k % 7 < w ∧ k / 7 < h ∧
  (¬ inB a b w h → post 0 (MW 1 (nI w) (nI h) rm pm (nI (cm w k)) (nI (tt / 6 + 1)) (nI (tt % 6 + 1)) (nI (eoN tt)) ic it iv ie rc wm pq co pa fa ce ts ns es on nx)) ∧ ∀ i j, a = nI i → b = nI j → i < w → j < h → (¬ wm (w * j + i) = 0 → post 0 (MW 2 (nI w) (nI h) rm pm (nI (cm w k)) (nI (tt / 6 + 1)) (nI (tt % 6 + 1)) (nI (eoN tt)) ic it iv ie rc wm pq co pa fa ce ts ns es on nx)) ∧
    (wm (w * j + i) = 0 → post (abI (a - nI (k % 7)) + abI (b - nI (k / 7))) (MW 0 (nI w) (nI h) rm pm (nI (cm w (j * 7 + i))) 1 2 3 ic it iv ie rc wm pq co pa fa ce ts ns es on nx))
abbrev rmX4_put : Room := { frames := 2, cells := 0, slots := 0, locals := 60 }
theorem inX4_put_X4 : ∀ w ∈ wsX40, w ∈ wsX4_put := by decide +kernel
def tbX4_put (post : Int32 → List aE → Prop) (ad0 : Nat → Nat) : List (Nat × aO) := [(0, oAL 0 1),
  (1, oC (0) 2),
  (2, oPut 3 0 5),
  (5, oAL 0 6),
  (6, oIL 1 7),
  (7, oIL 2 8),
  (8, oCi tX4_isCell 3 (some 3) rmX4_isCell.cells rmX4_isCell.slots rmX4_put.cells rmX4_put.slots 11),
  (11, oIf_ne 20 14),
  (14, oAL 0 15),
  (15, oC (1) 16),
  (16, oCi tX4_no 2 (some 3) rmX4_no.cells rmX4_no.slots rmX4_put.cells rmX4_put.slots 19),
  (19, oRi post ad0 rmX4_put.cells rmX4_put.slots),
  (20, oAL 0 21),
  (21, oGet 3 3 24),
  (24, oAL 0 25),
  (25, oGet 3 1 28),
  (28, oIL 2 29),
  (29, oImul 30),
  (30, oIL 1 31),
  (31, oIadd 32),
  (32, oZald 33),
  (33, oIf_eq 42 36),
  (36, oAL 0 37),
  (37, oC (2) 38),
  (38, oCi tX4_no 2 (some 3) rmX4_no.cells rmX4_no.slots rmX4_put.cells rmX4_put.slots 41),
  (41, oRi post ad0 rmX4_put.cells rmX4_put.slots),
  (42, oIL 1 43),
  (43, oAL 0 44),
  (44, oGet 3 9 47),
  (47, oAL 0 48),
  (48, oGet 3 1 51),
  (51, oIrem 52),
  (52, oIsub 53),
  (53, oAbs 56 rmX4_put.cells rmX4_put.slots),
  (56, oIL 2 57),
  (57, oAL 0 58),
  (58, oGet 3 9 61),
  (61, oAL 0 62),
  (62, oGet 3 1 65),
  (65, oIdiv 66),
  (66, oIsub 67),
  (67, oAbs 70 rmX4_put.cells rmX4_put.slots),
  (70, oIadd 71),
  (71, oIS 3 72),
  (72, oAL 0 73),
  (73, oAL 0 74),
  (74, oGet 3 1 77),
  (77, oIL 2 78),
  (78, oImul 79),
  (79, oIL 1 80),
  (80, oIadd 81),
  (81, oPut 3 9 84),
  (84, oAL 0 85),
  (85, oCv tX4_turnAsAtFirst 1 (some 3) rmX4_turnAsAtFirst.cells rmX4_turnAsAtFirst.slots rmX4_put.cells rmX4_put.slots 88),
  (88, oIL 3 89),
  (89, oRi post ad0 rmX4_put.cells rmX4_put.slots)]
set_option maxRecDepth 20000 in
theorem okX4_put {Γ : aΓ} {post : Int32 → List aE → Prop} {ad0 : Nat → Nat} {X0 : List aE} (C : FOK Γ cX4_put wsX4_put RX4 4 rmX4_put) (hQ : isQ Γ (va_Qi post (aBk (gK Γ) ad0 X0 (hsz Γ)) (aA (gK Γ) ad0 X0 (hsz Γ))) rmX4_put ad0 X0) (hr : rTy Γ = some .int) : AllS Γ (tbX4_put post ad0) := by
  unfold tbX4_put
  refine al_c (pc := 0) (snd_aload_n C dX4_put_0 rfl) ?_
  refine al_c (pc := 1) (snd_iconst C dX4_put_1 (by decide)) ?_
  refine al_c (pc := 2) (snd_put C dX4_put_2 (ci := 3) (kf := 0) rfl (by decide) inX4_put_X4 tyX4_ok nmX4 rfl rfl rfl (by decide +kernel)) ?_
  refine al_c (pc := 5) (snd_aload_n C dX4_put_5 rfl) ?_
  refine al_c (pc := 6) (snd_iload_n C dX4_put_6 rfl) ?_
  refine al_c (pc := 7) (snd_iload_n C dX4_put_7 rfl) ?_
  refine al_c (pc := 8) (snd_Ci C (site_V C rfl dX4_put_8 gX4_put_X4_isCell rfl rfl rfl ⟨rfl, by decide +kernel, by decide +kernel, by decide +kernel⟩ ⟨by decide, by decide⟩) mX4_isCell) ?_
  refine al_c (pc := 11) (snd_if_ne C dX4_put_11 (by decide)) ?_
  refine al_c (pc := 14) (snd_aload_n C dX4_put_14 rfl) ?_
  refine al_c (pc := 15) (snd_iconst C dX4_put_15 (by decide)) ?_
  refine al_c (pc := 16) (snd_Ci C (site_V C rfl dX4_put_16 gX4_put_X4_no rfl rfl rfl ⟨rfl, by decide +kernel, by decide +kernel, by decide +kernel⟩ ⟨by decide, by decide⟩) mX4_no) ?_
  refine al_c (pc := 19) (snd_Ri C hQ hr dX4_put_19) ?_
  refine al_c (pc := 20) (snd_aload_n C dX4_put_20 rfl) ?_
  refine al_c (pc := 21) (snd_get C dX4_put_21 (ci := 3) (kf := 3) rfl (by decide) inX4_put_X4 rfl (by decide +kernel)) ?_
  refine al_c (pc := 24) (snd_aload_n C dX4_put_24 rfl) ?_
  refine al_c (pc := 25) (snd_get C dX4_put_25 (ci := 3) (kf := 1) rfl (by decide) inX4_put_X4 rfl (by decide +kernel)) ?_
  refine al_c (pc := 28) (snd_iload_n C dX4_put_28 rfl) ?_
  refine al_c (pc := 29) (snd_imul C dX4_put_29) ?_
  refine al_c (pc := 30) (snd_iload_n C dX4_put_30 rfl) ?_
  refine al_c (pc := 31) (snd_iadd C dX4_put_31) ?_
  refine al_c (pc := 32) (snd_baload C dX4_put_32) ?_
  refine al_c (pc := 33) (snd_if_eq C dX4_put_33 (by decide)) ?_
  refine al_c (pc := 36) (snd_aload_n C dX4_put_36 rfl) ?_
  refine al_c (pc := 37) (snd_iconst C dX4_put_37 (by decide)) ?_
  refine al_c (pc := 38) (snd_Ci C (site_V C rfl dX4_put_38 gX4_put_X4_no rfl rfl rfl ⟨rfl, by decide +kernel, by decide +kernel, by decide +kernel⟩ ⟨by decide, by decide⟩) mX4_no) ?_
  refine al_c (pc := 41) (snd_Ri C hQ hr dX4_put_41) ?_
  refine al_c (pc := 42) (snd_iload_n C dX4_put_42 rfl) ?_
  refine al_c (pc := 43) (snd_aload_n C dX4_put_43 rfl) ?_
  refine al_c (pc := 44) (snd_get C dX4_put_44 (ci := 3) (kf := 9) rfl (by decide) inX4_put_X4 rfl (by decide +kernel)) ?_
  refine al_c (pc := 47) (snd_aload_n C dX4_put_47 rfl) ?_
  refine al_c (pc := 48) (snd_get C dX4_put_48 (ci := 3) (kf := 1) rfl (by decide) inX4_put_X4 rfl (by decide +kernel)) ?_
  refine al_c (pc := 51) (snd_irem C dX4_put_51) ?_
  refine al_c (pc := 52) (snd_isub C dX4_put_52) ?_
  refine al_c (pc := 53) (snd_abs C dX4_put_53 (by decide +kernel) (by decide +kernel) (by decide +kernel) (by decide +kernel) (by decide) (by decide)) ?_
  refine al_c (pc := 56) (snd_iload_n C dX4_put_56 rfl) ?_
  refine al_c (pc := 57) (snd_aload_n C dX4_put_57 rfl) ?_
  refine al_c (pc := 58) (snd_get C dX4_put_58 (ci := 3) (kf := 9) rfl (by decide) inX4_put_X4 rfl (by decide +kernel)) ?_
  refine al_c (pc := 61) (snd_aload_n C dX4_put_61 rfl) ?_
  refine al_c (pc := 62) (snd_get C dX4_put_62 (ci := 3) (kf := 1) rfl (by decide) inX4_put_X4 rfl (by decide +kernel)) ?_
  refine al_c (pc := 65) (snd_idiv C dX4_put_65) ?_
  refine al_c (pc := 66) (snd_isub C dX4_put_66) ?_
  refine al_c (pc := 67) (snd_abs C dX4_put_67 (by decide +kernel) (by decide +kernel) (by decide +kernel) (by decide +kernel) (by decide) (by decide)) ?_
  refine al_c (pc := 70) (snd_iadd C dX4_put_70) ?_
  refine al_c (pc := 71) (snd_istore_n C dX4_put_71 rfl (by decide)) ?_
  refine al_c (pc := 72) (snd_aload_n C dX4_put_72 rfl) ?_
  refine al_c (pc := 73) (snd_aload_n C dX4_put_73 rfl) ?_
  refine al_c (pc := 74) (snd_get C dX4_put_74 (ci := 3) (kf := 1) rfl (by decide) inX4_put_X4 rfl (by decide +kernel)) ?_
  refine al_c (pc := 77) (snd_iload_n C dX4_put_77 rfl) ?_
  refine al_c (pc := 78) (snd_imul C dX4_put_78) ?_
  refine al_c (pc := 79) (snd_iload_n C dX4_put_79 rfl) ?_
  refine al_c (pc := 80) (snd_iadd C dX4_put_80) ?_
  refine al_c (pc := 81) (snd_put C dX4_put_81 (ci := 3) (kf := 9) rfl (by decide) inX4_put_X4 tyX4_ok nmX4 rfl rfl rfl (by decide +kernel)) ?_
  refine al_c (pc := 84) (snd_aload_n C dX4_put_84 rfl) ?_
  refine al_c (pc := 85) (snd_Cv C (site_V C rfl dX4_put_85 gX4_put_X4_turnAsAtFirst rfl rfl rfl ⟨rfl, by decide +kernel, by decide +kernel, by decide +kernel⟩ ⟨by decide, by decide⟩) mX4_turnAsAtFirst) ?_
  refine al_c (pc := 88) (snd_iload_n C dX4_put_88 rfl) ?_
  refine al_c (pc := 89) (snd_Ri C hQ hr dX4_put_89) ?_
  exact al_0
set_option maxHeartbeats 1000000 in
set_option maxRecDepth 100000 in
theorem mX4_put : aMi yX4_put wsX4_put rmX4_put tX4_put := by
  refine aMi_of (by decide +kernel) rfl rfl (by intro av X post hT; obtain ⟨a, b, th, rm, pm, ic, it, iv, ie, rc, k, tt, w, h, wm, pq, co, pa, fa, ce, ts, ns, es, on, nx, rfl, rfl, hw2, hw, hh2, hh, hk1, hk2, h1, h2⟩ := hT; exact Nat.le_of_ble_eq_true rfl) ?_
  intro Γ ad av X post C hQ hr hT
  obtain ⟨a, b, th, rm, pm, ic, it, iv, ie, rc, k, tt, w, h, wm, pq, co, pa, fa, ce, ts, ns, es, on, nx, rfl, rfl, hw2, hw, hh2, hh, hk1, hk2, h1, h2⟩ := hT
  have OK := okX4_put C hQ hr
  have hk49 := cm_lt hw hh hk1 hk2
  have em : nI (cm w k) - nI (cm w k) / nI w * nI w = nI (k % 7) := by rw [pk_rem (a := cm w k) (d := w) (by omega) (by omega) (by omega), cm_mod hk1]
  have ed : nI (cm w k) / nI w = nI (k / 7) := by rw [pk_div (a := cm w k) (d := w) (by omega) (by omega) (by omega), cm_div hk1]
  have nz : ¬ nI w = 0 := nI_ne0 (by omega) (by omega)
  refine go OK [] 80 ?_
  refine ⟨_, _, _, _, _, _, _, _, _, _, _, _, _, _, _, _, _, _, _, _, _, _, _, _, _, rfl, rfl, hw2, hw, hh2, hh, fun q => ?_, fun q => ?_⟩
  rotate_left
  · refine And.intro (fun q => absurd rfl q) (fun _ => ?_)
    exact ⟨_, _, _, _, _, _, _, _, _, _, _, _, _, _, _, _, _, _, _, _, _, _, _, _, _, _, rfl, rfl, rfl, h1 q⟩
  refine And.intro (fun _ => ?_) (fun q => absurd q (by decide))
  obtain ⟨i, j, rfl, rfl, hi, hj⟩ := q
  have h49 := wj_lt (i := i + 1) hw hh (by omega) hj
  obtain ⟨g1, g2⟩ := h2 i j rfl rfl hi hj
  refine ⟨(show vp_in (nI w * nI j + nI i) 49 by rw [wI]; exact inS (by omega : w * j + i < 49) (by decide)), ?_⟩
  rw [wI, nI_clampS (by omega)]
  refine And.intro (fun q2 => ?_) (fun q2 => ?_)
  · have hp := g2 q2
    rw [cm_at (by omega), ← wI, ← em, ← ed] at hp
    refine ⟨nz, ?_⟩
    refine ⟨nz, ?_⟩
    refine ⟨_, _, _, _, _, _, _, _, _, _, _, _, _, _, _, _, _, _, _, _, _, _, _, _, _, rfl, rfl, ?_⟩
    exact ⟨rfl, hp⟩
  · exact ⟨_, _, _, _, _, _, _, _, _, _, _, _, _, _, _, _, _, _, _, _, _, _, _, _, _, _, rfl, rfl, rfl, g1 q2⟩
