/-! ===== the law's goes ===== -/
theorem faN_dn : ∀ t, t < 36 → vt t = true → ∀ d, d < 4 → faN t d = dnF t d := by decide +kernel
theorem faN_top : ∀ t, t < 36 → vt t = true → ∀ d, d < 4 → faN (rlN t d) d = t / 6 + 1 := by decide +kernel
theorem k_roll (k tt w h : Nat) (rm pm fd : Int32) (wl pr fe qu co pa : Nat → Int32) (hw : w ≤ 7) (hh : h ≤ 7) (hk : k < 49) (hv : vt tt = true) (d m : Nat) (hd : d < 4) (hm : nxt w h wl k d = some m) : tX3_roll [.ref 0, .int (nI d)] (CW (nI k) (nI tt) rm pm (nI w) (nI h) fd wl pr fe qu co pa) (fun r X2 => r = nI (dnF tt d) ∧ X2 = CW (nI m) (nI (rlN tt d)) (rm + 1) (pmP pa (dnF tt d) pm) (nI w) (nI h) fd wl (prP pa (dnF tt d) m co pr) fe qu co (paP pa (dnF tt d))) (fun _ _ => False) := ⟨_, k, tt, w, h, rm, pm, fd, wl, pr, fe, qu, co, pa, rfl, rfl, hw, hh, hk, hv, fun q => q (inR_at (Nat.zero_le _) (by omega)), fun d2 e h1 => by
  rw [nIq (by omega) (by omega) e]
  refine ⟨fun q => ?_, fun j q => ?_⟩
  · rw [hm] at q
    cases q
  · rw [hm] at q
    cases q
    exact ⟨rfl, rfl⟩⟩
abbrev NL_goes : List aE → Nat := fun _ => 10
abbrev tL_goes : aTi := fun av X post => ∃ (B d m k t w h rN pN : Nat) (fd : Int32) (wl pr fe qu co pa : Nat → Int32) (fw fp : Nat → Nat → Int32) (cs as df : Nat → Int32), av = [.ref 0, .ref 9, .int (nI d)] ∧ X = CW (nI k) (nI t) (nI rN) (nI pN) (nI w) (nI h) fd wl pr fe qu co pa ++ Zs w h rN pN k fw fp cs as df ∧ B ≤ 9000 ∧ d < 4 ∧ nxt w h wl k d = some m ∧ IVd B k t w h rN pN wl pr co pa fw fp cs as df ∧
  ∀ fp2 as2 df2, IVd (B + 1) m (rlN t d) w h (rN + 1) (pnN pa (dnF t d) pN) wl (prP pa (dnF t d) m co pr) co (paP pa (dnF t d)) fw fp2 cs as2 df2 → post 1 (CW (nI m) (nI (rlN t d)) (nI (rN + 1)) (nI (pnN pa (dnF t d) pN)) (nI w) (nI h) fd wl (prP pa (dnF t d) m co pr) fe qu co (paP pa (dnF t d)) ++ Zs w h (rN + 1) (pnN pa (dnF t d) pN) m fw fp2 cs as2 df2)
abbrev rmL_goes : Room := { frames := 8, cells := 12, slots := 72, locals := 134 }
def tbL_goes (post : Int32 → List aE → Prop) (ad0 : Nat → Nat) (N0 : Nat) : List (Nat × aO) := [(0, oAL 0 1),
  (1, oHi tX3_column 1 2 rmX3_column.cells rmX3_column.slots 12 72 4),
  (4, oIS 3 5),
  (5, oAL 0 6),
  (6, oHi tX3_row 1 2 rmX3_row.cells rmX3_row.slots 12 72 9),
  (9, oIS 4 11),
  (11, oAL 0 12),
  (12, oIL 2 13),
  (13, oGXi tX3_faceTo 2 2 rmX3_faceTo.cells rmX3_faceTo.slots 12 72 16 exN),
  (16, oIS 5 18),
  (18, oAL 0 19),
  (19, oHi tX3_top 1 2 rmX3_top.cells rmX3_top.slots 12 72 22),
  (22, oIS 6 24),
  (24, oAL 0 25),
  (25, oIL 5 27),
  (27, oGXi tX3_colourOf 2 2 rmX3_colourOf.cells rmX3_colourOf.slots 12 72 30 exN),
  (30, oIS 7 32),
  (32, oAL 0 33),
  (33, oIL 5 35),
  (35, oGXi tX3_paintOf 2 2 rmX3_paintOf.cells rmX3_paintOf.slots 12 72 38 exN),
  (38, oIf_le 45 41),
  (41, oC (1) 42),
  (42, oGo 46),
  (45, oC (0) 46),
  (46, oIS 8 48),
  (48, oAL 0 49),
  (49, oIL 2 50),
  (50, oGXi tX3_roll 2 2 rmX3_roll.cells rmX3_roll.slots 12 72 53 exN),
  (53, oIL 5 55),
  (55, oIc_ne 114 58),
  (58, oAL 1 59),
  (59, oIL 2 60),
  (60, oQi ad0 9 NX4_roll tX4_roll 2 (some 3) rmX4_roll.cells rmX4_roll.slots 12 72 63),
  (63, oIf_eq 114 66),
  (66, oAL 0 67),
  (67, oHi tX3_column 1 2 rmX3_column.cells rmX3_column.slots 12 72 70),
  (70, oIL 3 71),
  (71, oGs ad0 1001 74),
  (74, oIL 2 75),
  (75, oSi ad0 1001 acr 76),
  (76, oIadd 77),
  (77, oIc_ne 114 80),
  (80, oAL 0 81),
  (81, oHi tX3_row 1 2 rmX3_row.cells rmX3_row.slots 12 72 84),
  (84, oIL 4 86),
  (86, oGs ad0 1002 89),
  (89, oIL 2 90),
  (90, oSi ad0 1002 dwn 91),
  (91, oIadd 92),
  (92, oIc_ne 114 95),
  (95, oAL 0 96),
  (96, oHi tX3_bottom 1 2 rmX3_bottom.cells rmX3_bottom.slots 12 72 99),
  (99, oIL 5 101),
  (101, oIc_ne 114 104),
  (104, oAL 0 105),
  (105, oIL 2 106),
  (106, oGXi tX3_faceTo 2 2 rmX3_faceTo.cells rmX3_faceTo.slots 12 72 109 exN),
  (109, oIL 6 111),
  (111, oIc_eq 116 114),
  (114, oC (0) 115),
  (115, oNz post ad0 N0 12 72),
  (116, oIL 8 118),
  (118, oIf_eq 138 121),
  (121, oAL 0 122),
  (122, oAL 0 123),
  (123, oHi tX3_column 1 2 rmX3_column.cells rmX3_column.slots 12 72 126),
  (126, oAL 0 127),
  (127, oHi tX3_row 1 2 rmX3_row.cells rmX3_row.slots 12 72 130),
  (130, oGXi tX3_printAt 3 2 rmX3_printAt.cells rmX3_printAt.slots 12 72 133 exN),
  (133, oIL 7 135),
  (135, oIc_ne 142 138),
  (138, oC (1) 139),
  (139, oGo 143),
  (142, oC (0) 143),
  (143, oNz post ad0 N0 12 72)]
set_option maxRecDepth 20000 in
theorem okL_goes {Γ : aΓ} {post : Int32 → List aE → Prop} {ad0 : Nat → Nat} {X0 : List aE} {N0 : Nat} (C : FOK Γ cL_goes wsL_goes RL 9 rmL_goes) (CX : FOX Γ) (CN : FON ad0 Γ) (hQ : isQ Γ (va_Qi (fun r (u : (Nat → Nat) × List aE) => post r u.2) (aBn (gK Γ) ad0 X0 (hsz Γ) N0) (aA (gK Γ) ad0 X0 (hsz Γ))) rmL_goes ad0 X0) (hr : rTy Γ = some .boolean) : AllS Γ (tbL_goes post ad0 N0) := by
  unfold tbL_goes
  refine al_c (pc := 0) (snd_aload_n C dL_goes_0 rfl) ?_
  refine al_c (pc := 1) (snd_Hi C (site_V C rfl dL_goes_1 gL_goes_X3_column rfl rfl rfl ⟨rfl, by decide +kernel, by decide +kernel, by decide +kernel⟩ ⟨by decide, by decide⟩) mX3_column) ?_
  refine al_c (pc := 4) (snd_istore_n C dL_goes_4 rfl (by decide)) ?_
  refine al_c (pc := 5) (snd_aload_n C dL_goes_5 rfl) ?_
  refine al_c (pc := 6) (snd_Hi C (site_V C rfl dL_goes_6 gL_goes_X3_row rfl rfl rfl ⟨rfl, by decide +kernel, by decide +kernel, by decide +kernel⟩ ⟨by decide, by decide⟩) mX3_row) ?_
  refine al_c (pc := 9) (snd_istore C dL_goes_9 (by decide)) ?_
  refine al_c (pc := 11) (snd_aload_n C dL_goes_11 rfl) ?_
  refine al_c (pc := 12) (snd_iload_n C dL_goes_12 rfl) ?_
  refine al_c (pc := 13) (snd_GXi C CX (xsite_V C rfl dL_goes_13 gL_goes_X3_faceTo rfl rfl rfl ⟨rfl, by decide +kernel, by decide +kernel, by decide +kernel⟩ ⟨by decide, by decide⟩) mX3_faceTo exN_FX) ?_
  refine al_c (pc := 16) (snd_istore C dL_goes_16 (by decide)) ?_
  refine al_c (pc := 18) (snd_aload_n C dL_goes_18 rfl) ?_
  refine al_c (pc := 19) (snd_Hi C (site_V C rfl dL_goes_19 gL_goes_X3_top rfl rfl rfl ⟨rfl, by decide +kernel, by decide +kernel, by decide +kernel⟩ ⟨by decide, by decide⟩) mX3_top) ?_
  refine al_c (pc := 22) (snd_istore C dL_goes_22 (by decide)) ?_
  refine al_c (pc := 24) (snd_aload_n C dL_goes_24 rfl) ?_
  refine al_c (pc := 25) (snd_iload C dL_goes_25) ?_
  refine al_c (pc := 27) (snd_GXi C CX (xsite_V C rfl dL_goes_27 gL_goes_X3_colourOf rfl rfl rfl ⟨rfl, by decide +kernel, by decide +kernel, by decide +kernel⟩ ⟨by decide, by decide⟩) mX3_colourOf exN_FX) ?_
  refine al_c (pc := 30) (snd_istore C dL_goes_30 (by decide)) ?_
  refine al_c (pc := 32) (snd_aload_n C dL_goes_32 rfl) ?_
  refine al_c (pc := 33) (snd_iload C dL_goes_33) ?_
  refine al_c (pc := 35) (snd_GXi C CX (xsite_V C rfl dL_goes_35 gL_goes_X3_paintOf rfl rfl rfl ⟨rfl, by decide +kernel, by decide +kernel, by decide +kernel⟩ ⟨by decide, by decide⟩) mX3_paintOf exN_FX) ?_
  refine al_c (pc := 38) (snd_if_le C dL_goes_38 (by decide)) ?_
  refine al_c (pc := 41) (snd_iconst C dL_goes_41 (by decide)) ?_
  refine al_c (pc := 42) (snd_goto C dL_goes_42 (by decide)) ?_
  refine al_c (pc := 45) (snd_iconst C dL_goes_45 (by decide)) ?_
  refine al_c (pc := 46) (snd_istore C dL_goes_46 (by decide)) ?_
  refine al_c (pc := 48) (snd_aload_n C dL_goes_48 rfl) ?_
  refine al_c (pc := 49) (snd_iload_n C dL_goes_49 rfl) ?_
  refine al_c (pc := 50) (snd_GXi C CX (xsite_V C rfl dL_goes_50 gL_goes_X3_roll rfl rfl rfl ⟨rfl, by decide +kernel, by decide +kernel, by decide +kernel⟩ ⟨by decide, by decide⟩) mX3_roll exN_FX) ?_
  refine al_c (pc := 53) (snd_iload C dL_goes_53) ?_
  refine al_c (pc := 55) (snd_icmp_ne C dL_goes_55 (by decide)) ?_
  refine al_c (pc := 58) (snd_aload_n C dL_goes_58 rfl) ?_
  refine al_c (pc := 59) (snd_iload_n C dL_goes_59 rfl) ?_
  refine al_c (pc := 60) (snd_Qi 9 C CX CN (site_V C rfl dL_goes_60 gL_goes_X4_roll rfl rfl rfl ⟨rfl, by decide +kernel, by decide +kernel, by decide +kernel⟩ ⟨by decide, by decide⟩) mX4_roll) ?_
  refine al_c (pc := 63) (snd_if_eq C dL_goes_63 (by decide)) ?_
  refine al_c (pc := 66) (snd_aload_n C dL_goes_66 rfl) ?_
  refine al_c (pc := 67) (snd_Hi C (site_V C rfl dL_goes_67 gL_goes_X3_column rfl rfl rfl ⟨rfl, by decide +kernel, by decide +kernel, by decide +kernel⟩ ⟨by decide, by decide⟩) mX3_column) ?_
  refine al_c (pc := 70) (snd_iload_n C dL_goes_70 rfl) ?_
  refine al_c (pc := 71) (snd_Gs1 C CN dL_goes_71 (by decide +kernel)) ?_
  refine al_c (pc := 74) (snd_iload_n C dL_goes_74 rfl) ?_
  refine al_c (pc := 75) (snd_Si1 C CN dL_goes_75) ?_
  refine al_c (pc := 76) (snd_iadd C dL_goes_76) ?_
  refine al_c (pc := 77) (snd_icmp_ne C dL_goes_77 (by decide)) ?_
  refine al_c (pc := 80) (snd_aload_n C dL_goes_80 rfl) ?_
  refine al_c (pc := 81) (snd_Hi C (site_V C rfl dL_goes_81 gL_goes_X3_row rfl rfl rfl ⟨rfl, by decide +kernel, by decide +kernel, by decide +kernel⟩ ⟨by decide, by decide⟩) mX3_row) ?_
  refine al_c (pc := 84) (snd_iload C dL_goes_84) ?_
  refine al_c (pc := 86) (snd_Gs2 C CN dL_goes_86 (by decide +kernel)) ?_
  refine al_c (pc := 89) (snd_iload_n C dL_goes_89 rfl) ?_
  refine al_c (pc := 90) (snd_Si2 C CN dL_goes_90) ?_
  refine al_c (pc := 91) (snd_iadd C dL_goes_91) ?_
  refine al_c (pc := 92) (snd_icmp_ne C dL_goes_92 (by decide)) ?_
  refine al_c (pc := 95) (snd_aload_n C dL_goes_95 rfl) ?_
  refine al_c (pc := 96) (snd_Hi C (site_V C rfl dL_goes_96 gL_goes_X3_bottom rfl rfl rfl ⟨rfl, by decide +kernel, by decide +kernel, by decide +kernel⟩ ⟨by decide, by decide⟩) mX3_bottom) ?_
  refine al_c (pc := 99) (snd_iload C dL_goes_99) ?_
  refine al_c (pc := 101) (snd_icmp_ne C dL_goes_101 (by decide)) ?_
  refine al_c (pc := 104) (snd_aload_n C dL_goes_104 rfl) ?_
  refine al_c (pc := 105) (snd_iload_n C dL_goes_105 rfl) ?_
  refine al_c (pc := 106) (snd_GXi C CX (xsite_V C rfl dL_goes_106 gL_goes_X3_faceTo rfl rfl rfl ⟨rfl, by decide +kernel, by decide +kernel, by decide +kernel⟩ ⟨by decide, by decide⟩) mX3_faceTo exN_FX) ?_
  refine al_c (pc := 109) (snd_iload C dL_goes_109) ?_
  refine al_c (pc := 111) (snd_icmp_eq C dL_goes_111 (by decide)) ?_
  refine al_c (pc := 114) (snd_iconst C dL_goes_114 (by decide)) ?_
  refine al_c (pc := 115) (snd_Nz C hQ hr dL_goes_115) ?_
  refine al_c (pc := 116) (snd_iload C dL_goes_116) ?_
  refine al_c (pc := 118) (snd_if_eq C dL_goes_118 (by decide)) ?_
  refine al_c (pc := 121) (snd_aload_n C dL_goes_121 rfl) ?_
  refine al_c (pc := 122) (snd_aload_n C dL_goes_122 rfl) ?_
  refine al_c (pc := 123) (snd_Hi C (site_V C rfl dL_goes_123 gL_goes_X3_column rfl rfl rfl ⟨rfl, by decide +kernel, by decide +kernel, by decide +kernel⟩ ⟨by decide, by decide⟩) mX3_column) ?_
  refine al_c (pc := 126) (snd_aload_n C dL_goes_126 rfl) ?_
  refine al_c (pc := 127) (snd_Hi C (site_V C rfl dL_goes_127 gL_goes_X3_row rfl rfl rfl ⟨rfl, by decide +kernel, by decide +kernel, by decide +kernel⟩ ⟨by decide, by decide⟩) mX3_row) ?_
  refine al_c (pc := 130) (snd_GXi C CX (xsite_V C rfl dL_goes_130 gL_goes_X3_printAt rfl rfl rfl ⟨rfl, by decide +kernel, by decide +kernel, by decide +kernel⟩ ⟨by decide, by decide⟩) mX3_printAt exN_FX) ?_
  refine al_c (pc := 133) (snd_iload C dL_goes_133) ?_
  refine al_c (pc := 135) (snd_icmp_ne C dL_goes_135 (by decide)) ?_
  refine al_c (pc := 138) (snd_iconst C dL_goes_138 (by decide)) ?_
  refine al_c (pc := 139) (snd_goto C dL_goes_139 (by decide)) ?_
  refine al_c (pc := 142) (snd_iconst C dL_goes_142 (by decide)) ?_
  refine al_c (pc := 143) (snd_Nz C hQ hr dL_goes_143) ?_
  exact al_0
set_option maxHeartbeats 4000000 in
set_option maxRecDepth 100000 in
theorem mL_goes : nMi yL_goes wsL_goes rmL_goes NL_goes tL_goes := by
  refine nMz_of (by decide +kernel) rfl rfl (by intro av X post hT; obtain ⟨B, d, m, k, t, w, h, rN, pN, fd, wl, pr, fe, qu, co, pa, fw, fp, cs, as, df, rfl, rfl, hB, hd, hm, hI, hp⟩ := hT; exact Nat.le_of_ble_eq_true rfl) ?_
  intro Γ ad av X post C CX CN hQ hr hT
  obtain ⟨B, d, m, k, t, w, h, rN, pN, fd, wl, pr, fe, qu, co, pa, fw, fp, cs, as, df, rfl, rfl, hB, hd, hm, hI, hp⟩ := hT
  have OK := okL_goes C CX CN hQ hr
  obtain ⟨a1, a2, a3, a4, a5, a6, a7, a8, a9, a10, a11, a12, a13, a14, a15⟩ := id hI
  obtain ⟨k1, k2, k3⟩ := id a6
  obtain ⟨m1, m2, m3⟩ := nxt_fr hm
  have hk : k < 49 := by omega
  have hm49 : m < 49 := by omega
  have ht := vt_lt a5
  have ht2 := rlN_lt a5 hd
  have hdn := dnF_in a5 hd
  have hfa : faN t d = dnF t d := faN_dn t ht a5 d hd
  have hfa2 : faN (rlN t d) d = t / 6 + 1 := faN_top t ht a5 d hd
  obtain ⟨ex, ey⟩ := nxt_xy a2 k1 hd hm
  have stB : ∀ (wet : Int32) (ad2 : Nat → Nat) (fp2 : Nat → Nat → Int32) (as2 df2 : Nat → Int32), Ag 10 ad ad2 → (0 < pa (dnF t d) ∧ wet = 1 ∨ ¬ 0 < pa (dnF t d) ∧ wet = 0) → IVd (B + 1) m (rlN t d) w h (rN + 1) (pnN pa (dnF t d) pN) wl (prP pa (dnF t d) m co pr) co (paP pa (dnF t d)) fw fp2 cs as2 df2 → FG Γ 66 ad2 6 36 [(8, .int wet), (7, .int (co (dnF t d))), (6, .int (nI (t / 6 + 1))), (5, .int (nI (dnF t d))), (4, .int (nI (k / 7))), (3, .int (nI (k % 7))), (0, .ref 0), (1, .ref 9), (2, .int (nI d))] [] (CW (nI m) (nI (rlN t d)) (nI (rN + 1)) (nI (pnN pa (dnF t d) pN)) (nI w) (nI h) fd wl (prP pa (dnF t d) m co pr) fe qu co (paP pa (dnF t d)) ++ Zs w h (rN + 1) (pnN pa (dnF t d) pN) m fw fp2 cs as2 df2) := by
    intro wet ad2 fp2 as2 df2 hag hwet hI2
    have hp2 := hp fp2 as2 df2 hI2
    have hh : ∀ i, 1000 ≤ i → ad2 i = ad i := fun i hi => hag i (Or.inr hi)
    generalize Zs w h (rN + 1) (pnN pa (dnF t d) pN) m fw fp2 cs as2 df2 = Z at hp2 ⊢
    refine go OK [116] 100 ?_
    refine hi_of (fs := _) rfl rfl (k_column m (rlN t d) w h (nI (rN + 1)) (nI (pnN pa (dnF t d) pN)) fd wl (prP pa (dnF t d) m co pr) fe qu co (paP pa (dnF t d)) hm49) rfl (by decide) (by decide) ?_
    rintro r X2 ⟨rfl, rfl⟩
    refine ⟨rfl, hh 1001 (by decide), rfl, hh 1001 (by decide), d, rfl, hd, ?_⟩
    refine And.intro (fun q => absurd ex.symm q) (fun _ => ?_)
    refine hi_of (fs := _) rfl rfl (k_row m (rlN t d) w h (nI (rN + 1)) (nI (pnN pa (dnF t d) pN)) fd wl (prP pa (dnF t d) m co pr) fe qu co (paP pa (dnF t d)) hm49) rfl (by decide) (by decide) ?_
    rintro r X2 ⟨rfl, rfl⟩
    refine ⟨rfl, hh 1002 (by decide), rfl, hh 1002 (by decide), d, rfl, hd, ?_⟩
    refine And.intro (fun q => absurd ey.symm q) (fun _ => ?_)
    refine hi_of (fs := _) rfl rfl (k_bottom m (rlN t d) w h (nI (rN + 1)) (nI (pnN pa (dnF t d) pN)) fd wl (prP pa (dnF t d) m co pr) fe qu co (paP pa (dnF t d)) ht2) rfl (by decide) (by decide) ?_
    rintro r X2 ⟨rfl, rfl⟩
    refine ⟨rfl, ?_⟩
    refine And.intro (fun q => absurd rfl q) (fun _ => ?_)
    refine gX_of (fs := _) rfl rfl (k_faceTo m (rlN t d) w h (nI (rN + 1)) (nI (pnN pa (dnF t d) pN)) fd wl (prP pa (dnF t d) m co pr) fe qu co (paP pa (dnF t d)) (rlN_vt a5 hd) d hd) rfl (by decide) (by decide) ?_ (fun _ _ q => q.elim)
    rintro r X2 ⟨rfl, rfl⟩
    refine ⟨rfl, ?_⟩
    rw [hfa2]
    refine And.intro (fun _ => ?_) (fun q => absurd rfl q)
    refine go OK [] 60 ?_
    rcases hwet with ⟨z, rfl⟩ | ⟨z, rfl⟩
    · refine And.intro (fun q => absurd q (by decide)) (fun _ => ?_)
      refine hi_of (fs := _) rfl rfl (k_column m (rlN t d) w h (nI (rN + 1)) (nI (pnN pa (dnF t d) pN)) fd wl (prP pa (dnF t d) m co pr) fe qu co (paP pa (dnF t d)) hm49) rfl (by decide) (by decide) ?_
      rintro r X2 ⟨rfl, rfl⟩
      refine ⟨rfl, ?_⟩
      refine hi_of (fs := _) rfl rfl (k_row m (rlN t d) w h (nI (rN + 1)) (nI (pnN pa (dnF t d) pN)) fd wl (prP pa (dnF t d) m co pr) fe qu co (paP pa (dnF t d)) hm49) rfl (by decide) (by decide) ?_
      rintro r X2 ⟨rfl, rfl⟩
      refine ⟨rfl, ?_⟩
      refine gX_of (fs := _) rfl rfl (k_printAt m (rlN t d) w h (nI (rN + 1)) (nI (pnN pa (dnF t d) pN)) fd wl (prP pa (dnF t d) m co pr) fe qu co (paP pa (dnF t d)) a2 a4 (m % 7) (m / 7) m1 m2) rfl (by decide) (by decide) ?_ (fun _ _ q => q.elim)
      rintro r X2 ⟨rfl, rfl⟩
      refine ⟨rfl, ?_⟩
      have e : prP pa (dnF t d) m co pr (m / 7 * 7 + m % 7) = co (dnF t d) := by
        unfold prP
        rw [if_pos z, show m / 7 * 7 + m % 7 = m by omega, pk_us]
      refine And.intro (fun q => absurd e q) (fun _ => ?_)
      exact ⟨by decide, by decide, Or.inr rfl, hag, hp2⟩
    · refine And.intro (fun _ => ?_) (fun q => absurd rfl q)
      exact ⟨by decide, by decide, Or.inr rfl, hag, hp2⟩
  have stA : ∀ (wet : Int32), (0 < pa (dnF t d) ∧ wet = 1 ∨ ¬ 0 < pa (dnF t d) ∧ wet = 0) → FG Γ 46 ad 3 18 [(7, .int (co (dnF t d))), (6, .int (nI (t / 6 + 1))), (5, .int (nI (dnF t d))), (4, .int (nI (k / 7))), (3, .int (nI (k % 7))), (0, .ref 0), (1, .ref 9), (2, .int (nI d))] [.int wet] (CW (nI k) (nI t) (nI rN) (nI pN) (nI w) (nI h) fd wl pr fe qu co pa ++ Zs w h rN pN k fw fp cs as df) := by
    intro wet hwet
    refine go OK [66] 60 ?_
    refine gX_of (fs := _) rfl rfl (k_roll k t w h (nI rN) (nI pN) fd wl pr fe qu co pa a2 a4 hk a5 d m hd hm) rfl (by decide) (by decide) ?_ (fun _ _ q => q.elim)
    rintro r X2 ⟨rfl, rfl⟩
    refine ⟨rfl, ?_⟩
    refine And.intro (fun q => absurd rfl q) (fun _ => ?_)
    have e1 : nI rN + 1 = nI (rN + 1) := nI_p1 rN
    have e2 : pmP pa (dnF t d) (nI pN) = nI (pnN pa (dnF t d) pN) := pmP_N
    refine ⟨CW (nI m) (nI (rlN t d)) (nI rN + 1) (pmP pa (dnF t d) (nI pN)) (nI w) (nI h) fd wl (prP pa (dnF t d) m co pr) fe qu co (paP pa (dnF t d)), SW w h (nI rN) (nI pN) (nI (k % 7)) (nI (k / 7)) fw fp cs as df, [.ref 0, .int (nI d)], fun r X2 => r = 1 ∧ ∃ df2, DF (rlN t d) df2 ∧ X2 = SW w h (nI rN + 1) (pmP as (dnF t d) (nI pN)) (nI (m % 7)) (nI (m / 7)) fw (fpP as (dnF t d) m cs fp) cs (paP as (dnF t d)) df2, rfl, by decide, by decide, rfl, rfl, rfl, qOK_of (N0 := 10) (fun _ _ => rfl) (Nat.le_refl _) rfl rfl (CW_ok (by decide)) (SW_ok (by omega)) (by rw [SW_len]; omega) (Or.inr rfl), fun ci hc => by cases hc; exact ⟨0, _, _, rfl, rfl⟩, ?_, ?_⟩
    · refine ⟨d, k, t, w, h, nI rN, nI pN, fw, fp, cs, as, df, wl, rfl, rfl, a2, a4, hk, k1, hd, a5, a7, a8, fun q => ?_, fun m2 df2 q hdf2 => ?_⟩
      · rw [hm] at q
        cases q
      · rw [hm] at q
        cases q
        exact ⟨rfl, df2, hdf2, rfl⟩
    · rintro r X2 ⟨rfl, df2, hdf2, rfl⟩
      refine ⟨by show 1 ≤ _; rw [SW_len]; omega, by rw [SW_len]; omega, SW_ok (by rw [SW_len]; omega), fun adJ hJ => ?_⟩
      refine And.intro (fun q => absurd q (by decide)) (fun _ => ?_)
      obtain ⟨g1, g2⟩ := IVd_roll hI hd hm hdf2
      have key := stB wet adJ (fpP as (dnF t d) m cs fp) (paP as (dnF t d)) df2 hJ hwet g2
      have eC : (CW (nI m) (nI (rlN t d)) (nI rN + 1) (pmP pa (dnF t d) (nI pN)) (nI w) (nI h) fd wl (prP pa (dnF t d) m co pr) fe qu co (paP pa (dnF t d)) : List aE) = CW (nI m) (nI (rlN t d)) (nI (rN + 1)) (nI (pnN pa (dnF t d) pN)) (nI w) (nI h) fd wl (prP pa (dnF t d) m co pr) fe qu co (paP pa (dnF t d)) := by rw [e1, e2]
      have eZ : (SW w h (nI rN + 1) (pmP as (dnF t d) (nI pN)) (nI (m % 7)) (nI (m / 7)) fw (fpP as (dnF t d) m cs fp) cs (paP as (dnF t d)) df2).map (shE 9) = Zs w h (rN + 1) (pnN pa (dnF t d) pN) m fw (fpP as (dnF t d) m cs fp) cs (paP as (dnF t d)) df2 := by
        unfold Zs
        rw [e1, g1]
      rw [← eC, ← eZ] at key
      exact key
  have hcat : ∀ Z : List aE, Z = Zs w h rN pN k fw fp cs as df → FG Γ 0 ad 0 0 (lv_args 0 [.ref 0, .ref 9, .int (nI d)]) [] (CW (nI k) (nI t) (nI rN) (nI pN) (nI w) (nI h) fd wl pr fe qu co pa ++ Z) := by
    intro Z hZ
    rw [← hZ] at stA
    refine go OK [46] 100 ?_
    refine hi_of (fs := _) rfl rfl (k_column k t w h (nI rN) (nI pN) fd wl pr fe qu co pa hk) rfl (by decide) (by decide) ?_
    rintro r X2 ⟨rfl, rfl⟩
    refine ⟨rfl, ?_⟩
    refine hi_of (fs := _) rfl rfl (k_row k t w h (nI rN) (nI pN) fd wl pr fe qu co pa hk) rfl (by decide) (by decide) ?_
    rintro r X2 ⟨rfl, rfl⟩
    refine ⟨rfl, ?_⟩
    refine gX_of (fs := _) rfl rfl (k_faceTo k t w h (nI rN) (nI pN) fd wl pr fe qu co pa a5 d hd) rfl (by decide) (by decide) ?_ (fun _ _ q => q.elim)
    rintro r X2 ⟨rfl, rfl⟩
    refine ⟨rfl, ?_⟩
    rw [hfa]
    refine hi_of (fs := _) rfl rfl (k_top k t w h (nI rN) (nI pN) fd wl pr fe qu co pa ht) rfl (by decide) (by decide) ?_
    rintro r X2 ⟨rfl, rfl⟩
    refine ⟨rfl, ?_⟩
    refine gX_of (fs := _) rfl rfl (k_colourOf k t w h (nI rN) (nI pN) fd wl pr fe qu co pa (dnF t d) hdn.1 hdn.2) rfl (by decide) (by decide) ?_ (fun _ _ q => q.elim)
    rintro r X2 ⟨rfl, rfl⟩
    refine ⟨rfl, ?_⟩
    refine gX_of (fs := _) rfl rfl (k_paintOf k t w h (nI rN) (nI pN) fd wl pr fe qu co pa (dnF t d) hdn.1 hdn.2) rfl (by decide) (by decide) ?_ (fun _ _ q => q.elim)
    rintro r X2 ⟨rfl, rfl⟩
    refine ⟨rfl, ?_⟩
    refine And.intro (fun q => ?_) (fun q => ?_)
    · exact stA 0 (Or.inr ⟨Int32.not_lt.mpr q, rfl⟩)
    · exact stA 1 (Or.inl ⟨Int32.not_le.mp q, rfl⟩)
  exact hcat _ rfl
