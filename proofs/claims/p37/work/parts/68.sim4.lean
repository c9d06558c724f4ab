/-! ===== Sim: the constructor, roll ===== -/
abbrev oS5 (wl pr co pa di : Value) : aE := aE_obj [.int 5, .int 5, wl, pr, co, pa, .int 0, .int 0, .int 0, .int 0, di]
abbrev z5 : List aE := .inr (.inr (true, 5, fun j => 1 + 1 + j)) :: (List.range 5).map (fun _ => .inl (true, 5, fun _ => 0))
abbrev i5 : List aE := .inr (.inr (false, 5, fun j => 7 + 1 + j)) :: (List.range 5).map (fun _ => .inl (false, 5, fun _ => 0))
def πI (j : Nat) : Nat := if j < 2 then j else if j = 2 then 7 else if j < 6 then j + 10 else if j < 11 then j - 4 else if j < 16 then j - 3 else j
theorem πI_lo : ∀ c, c < 5 → πI (6 + c) = 2 + c := by decide
theorem πI_hi : ∀ c, c < 5 → πI (6 + 5 + c) = 8 + c := by decide
theorem πI_inj : ∀ i, i < 16 → ∀ j, j < 16 → πI i = πI j → i = j := by decide
theorem πI_far {j : Nat} (h : 16 ≤ j) : πI j = j := by
  unfold πI
  rw [if_neg (by omega), if_neg (by omega), if_neg (by omega), if_neg (by omega), if_neg (by omega)]
/-- the colours as they are at first -/
def C7 (cs : Nat → Int32) : Prop := ∀ f, f < 7 → cs f = nI f
theorem C7_1 {cs : Nat → Int32} (h : cs = upd (upd (upd (upd (upd (upd (upd (fun _ => 0) 0 0) 1 1) 2 2) 3 3) 4 4) 5 5) 6 6) : C7 cs := by
  intro i hi
  subst h
  have h6 : i = 0 ∨ i = 1 ∨ i = 2 ∨ i = 3 ∨ i = 4 ∨ i = 5 ∨ i = 6 := by omega
  rcases h6 with rfl | rfl | rfl | rfl | rfl | rfl | rfl <;> rfl
abbrev NX4_init : List aE → Nat := fun _ => 1
abbrev tX4_init : aTv := fun av X post => av = [.ref 0] ∧ X = [aE_obj [.int 0, .int 0, .null, .null, .null, .null, .int 0, .int 0, .int 0, .int 0, .null]] ∧ ∀ cs df, C7 cs → DF 1 df → post (SW 5 5 0 0 0 0 (fun _ _ => 0) (fun _ _ => 0) cs (fun _ => 0) df)
abbrev rmX4_init : Room := { frames := 1, cells := 15, slots := 80, locals := 60 }
theorem inX4_init_X4 : ∀ w ∈ wsX40, w ∈ wsX4_init := by decide +kernel
def tbX4_init (post : List aE → Prop) (ad0 : Nat → Nat) (N0 : Nat) : List (Nat × aO) := [(0, oAL 0 1),
  (1, oOI 4),
  (4, oAL 0 5),
  (5, oC (5) 6),
  (6, oPut 3 0 9),
  (9, oAL 0 10),
  (10, oC (5) 11),
  (11, oPut 3 1 14),
  (14, oAL 0 15),
  (15, oC (5) 16),
  (16, oC (5) 17),
  (17, oMna true 15 80 21),
  (21, oPutR 3 2 24),
  (24, oAL 0 25),
  (25, oC (5) 26),
  (26, oC (5) 27),
  (27, oMna false 15 80 31),
  (31, oPutR 3 3 34),
  (34, oAL 0 35),
  (35, oC (7) 37),
  (37, oNip 7 15 80 39),
  (39, oDup 40),
  (40, oC (0) 41),
  (41, oC (0) 42),
  (42, oIast 43),
  (43, oDup 44),
  (44, oC (1) 45),
  (45, oC (1) 46),
  (46, oIast 47),
  (47, oDup 48),
  (48, oC (2) 49),
  (49, oC (2) 50),
  (50, oIast 51),
  (51, oDup 52),
  (52, oC (3) 53),
  (53, oC (3) 54),
  (54, oIast 55),
  (55, oDup 56),
  (56, oC (4) 57),
  (57, oC (4) 58),
  (58, oIast 59),
  (59, oDup 60),
  (60, oC (5) 61),
  (61, oC (5) 62),
  (62, oIast 63),
  (63, oDup 64),
  (64, oC (6) 66),
  (66, oC (6) 68),
  (68, oIast 69),
  (69, oPutR 3 4 72),
  (72, oAL 0 73),
  (73, oC (7) 75),
  (75, oNip 7 15 80 77),
  (77, oPutR 3 5 80),
  (80, oAL 0 81),
  (81, oC (6) 83),
  (83, oNip 6 15 80 85),
  (85, oDup 86),
  (86, oC (0) 87),
  (87, oC (1) 88),
  (88, oIast 89),
  (89, oDup 90),
  (90, oC (1) 91),
  (91, oC (6) 93),
  (93, oIast 94),
  (94, oDup 95),
  (95, oC (2) 96),
  (96, oC (2) 97),
  (97, oIast 98),
  (98, oDup 99),
  (99, oC (3) 100),
  (100, oC (3) 101),
  (101, oIast 102),
  (102, oDup 103),
  (103, oC (4) 104),
  (104, oC (5) 105),
  (105, oIast 106),
  (106, oDup 107),
  (107, oC (5) 108),
  (108, oC (4) 109),
  (109, oIast 110),
  (110, oPutR 3 10 113),
  (113, oNv post ad0 N0 15 80)]
set_option maxRecDepth 20000 in
theorem okX4_init {Γ : aΓ} {post : List aE → Prop} {ad0 : Nat → Nat} {X0 : List aE} {N0 : Nat} (C : FOK Γ cX4_init wsX4_init RX4 1 rmX4_init) (CX : FOX Γ) (CN : FON ad0 Γ) (hQ : isQ Γ (va_Qv (fun (u : (Nat → Nat) × List aE) => post u.2) (aBn (gK Γ) ad0 X0 (hsz Γ) N0) (aA (gK Γ) ad0 X0 (hsz Γ))) rmX4_init ad0 X0) (hr : rTy Γ = none) : AllS Γ (tbX4_init post ad0 N0) := by
  unfold tbX4_init
  refine al_c (pc := 0) (snd_aload_n C dX4_init_0 rfl) ?_
  refine al_c (pc := 1) (snd_OI C dX4_init_1 (by decide +kernel) (by decide +kernel) (by decide +kernel) ⟨by decide, by decide⟩) ?_
  refine al_c (pc := 4) (snd_aload_n C dX4_init_4 rfl) ?_
  refine al_c (pc := 5) (snd_iconst C dX4_init_5 (by decide)) ?_
  refine al_c (pc := 6) (snd_put C dX4_init_6 (ci := 3) (kf := 0) rfl (by decide) inX4_init_X4 tyX4_ok nmX4 rfl rfl rfl (by decide +kernel)) ?_
  refine al_c (pc := 9) (snd_aload_n C dX4_init_9 rfl) ?_
  refine al_c (pc := 10) (snd_iconst C dX4_init_10 (by decide)) ?_
  refine al_c (pc := 11) (snd_put C dX4_init_11 (ci := 3) (kf := 1) rfl (by decide) inX4_init_X4 tyX4_ok nmX4 rfl rfl rfl (by decide +kernel)) ?_
  refine al_c (pc := 14) (snd_aload_n C dX4_init_14 rfl) ?_
  refine al_c (pc := 15) (snd_iconst C dX4_init_15 (by decide)) ?_
  refine al_c (pc := 16) (snd_iconst C dX4_init_16 (by decide)) ?_
  refine al_c (pc := 17) (snd_Mna_true C CN dX4_init_17 (by decide +kernel) (by decide +kernel)) ?_
  refine al_c (pc := 21) (snd_putR C dX4_init_21 (ci := 3) (kf := 2) rfl (by decide) inX4_init_X4 tyX4_ok nmX4 rfl (fun _ => rfl) (fun _ => rfl) rfl (by decide +kernel)) ?_
  refine al_c (pc := 24) (snd_aload_n C dX4_init_24 rfl) ?_
  refine al_c (pc := 25) (snd_iconst C dX4_init_25 (by decide)) ?_
  refine al_c (pc := 26) (snd_iconst C dX4_init_26 (by decide)) ?_
  refine al_c (pc := 27) (snd_Mna_false C CN dX4_init_27 (by decide +kernel) (by decide +kernel)) ?_
  refine al_c (pc := 31) (snd_putR C dX4_init_31 (ci := 3) (kf := 3) rfl (by decide) inX4_init_X4 tyX4_ok nmX4 rfl (fun _ => rfl) (fun _ => rfl) rfl (by decide +kernel)) ?_
  refine al_c (pc := 34) (snd_aload_n C dX4_init_34 rfl) ?_
  refine al_c (pc := 35) (snd_bipush C dX4_init_35 (by decide)) ?_
  refine al_c (pc := 37) (snd_Nip C (N := 7) (by decide) dX4_init_37 (by decide +kernel)) ?_
  refine al_c (pc := 39) (snd_dup C dX4_init_39) ?_
  refine al_c (pc := 40) (snd_iconst C dX4_init_40 (by decide)) ?_
  refine al_c (pc := 41) (snd_iconst C dX4_init_41 (by decide)) ?_
  refine al_c (pc := 42) (snd_iastore C dX4_init_42) ?_
  refine al_c (pc := 43) (snd_dup C dX4_init_43) ?_
  refine al_c (pc := 44) (snd_iconst C dX4_init_44 (by decide)) ?_
  refine al_c (pc := 45) (snd_iconst C dX4_init_45 (by decide)) ?_
  refine al_c (pc := 46) (snd_iastore C dX4_init_46) ?_
  refine al_c (pc := 47) (snd_dup C dX4_init_47) ?_
  refine al_c (pc := 48) (snd_iconst C dX4_init_48 (by decide)) ?_
  refine al_c (pc := 49) (snd_iconst C dX4_init_49 (by decide)) ?_
  refine al_c (pc := 50) (snd_iastore C dX4_init_50) ?_
  refine al_c (pc := 51) (snd_dup C dX4_init_51) ?_
  refine al_c (pc := 52) (snd_iconst C dX4_init_52 (by decide)) ?_
  refine al_c (pc := 53) (snd_iconst C dX4_init_53 (by decide)) ?_
  refine al_c (pc := 54) (snd_iastore C dX4_init_54) ?_
  refine al_c (pc := 55) (snd_dup C dX4_init_55) ?_
  refine al_c (pc := 56) (snd_iconst C dX4_init_56 (by decide)) ?_
  refine al_c (pc := 57) (snd_iconst C dX4_init_57 (by decide)) ?_
  refine al_c (pc := 58) (snd_iastore C dX4_init_58) ?_
  refine al_c (pc := 59) (snd_dup C dX4_init_59) ?_
  refine al_c (pc := 60) (snd_iconst C dX4_init_60 (by decide)) ?_
  refine al_c (pc := 61) (snd_iconst C dX4_init_61 (by decide)) ?_
  refine al_c (pc := 62) (snd_iastore C dX4_init_62) ?_
  refine al_c (pc := 63) (snd_dup C dX4_init_63) ?_
  refine al_c (pc := 64) (snd_bipush C dX4_init_64 (by decide)) ?_
  refine al_c (pc := 66) (snd_bipush C dX4_init_66 (by decide)) ?_
  refine al_c (pc := 68) (snd_iastore C dX4_init_68) ?_
  refine al_c (pc := 69) (snd_putR C dX4_init_69 (ci := 3) (kf := 4) rfl (by decide) inX4_init_X4 tyX4_ok nmX4 rfl (fun _ => rfl) (fun _ => rfl) rfl (by decide +kernel)) ?_
  refine al_c (pc := 72) (snd_aload_n C dX4_init_72 rfl) ?_
  refine al_c (pc := 73) (snd_bipush C dX4_init_73 (by decide)) ?_
  refine al_c (pc := 75) (snd_Nip C (N := 7) (by decide) dX4_init_75 (by decide +kernel)) ?_
  refine al_c (pc := 77) (snd_putR C dX4_init_77 (ci := 3) (kf := 5) rfl (by decide) inX4_init_X4 tyX4_ok nmX4 rfl (fun _ => rfl) (fun _ => rfl) rfl (by decide +kernel)) ?_
  refine al_c (pc := 80) (snd_aload_n C dX4_init_80 rfl) ?_
  refine al_c (pc := 81) (snd_bipush C dX4_init_81 (by decide)) ?_
  refine al_c (pc := 83) (snd_Nip C (N := 6) (by decide) dX4_init_83 (by decide +kernel)) ?_
  refine al_c (pc := 85) (snd_dup C dX4_init_85) ?_
  refine al_c (pc := 86) (snd_iconst C dX4_init_86 (by decide)) ?_
  refine al_c (pc := 87) (snd_iconst C dX4_init_87 (by decide)) ?_
  refine al_c (pc := 88) (snd_iastore C dX4_init_88) ?_
  refine al_c (pc := 89) (snd_dup C dX4_init_89) ?_
  refine al_c (pc := 90) (snd_iconst C dX4_init_90 (by decide)) ?_
  refine al_c (pc := 91) (snd_bipush C dX4_init_91 (by decide)) ?_
  refine al_c (pc := 93) (snd_iastore C dX4_init_93) ?_
  refine al_c (pc := 94) (snd_dup C dX4_init_94) ?_
  refine al_c (pc := 95) (snd_iconst C dX4_init_95 (by decide)) ?_
  refine al_c (pc := 96) (snd_iconst C dX4_init_96 (by decide)) ?_
  refine al_c (pc := 97) (snd_iastore C dX4_init_97) ?_
  refine al_c (pc := 98) (snd_dup C dX4_init_98) ?_
  refine al_c (pc := 99) (snd_iconst C dX4_init_99 (by decide)) ?_
  refine al_c (pc := 100) (snd_iconst C dX4_init_100 (by decide)) ?_
  refine al_c (pc := 101) (snd_iastore C dX4_init_101) ?_
  refine al_c (pc := 102) (snd_dup C dX4_init_102) ?_
  refine al_c (pc := 103) (snd_iconst C dX4_init_103 (by decide)) ?_
  refine al_c (pc := 104) (snd_iconst C dX4_init_104 (by decide)) ?_
  refine al_c (pc := 105) (snd_iastore C dX4_init_105) ?_
  refine al_c (pc := 106) (snd_dup C dX4_init_106) ?_
  refine al_c (pc := 107) (snd_iconst C dX4_init_107 (by decide)) ?_
  refine al_c (pc := 108) (snd_iconst C dX4_init_108 (by decide)) ?_
  refine al_c (pc := 109) (snd_iastore C dX4_init_109) ?_
  refine al_c (pc := 110) (snd_putR C dX4_init_110 (ci := 3) (kf := 10) rfl (by decide) inX4_init_X4 tyX4_ok nmX4 rfl (fun _ => rfl) (fun _ => rfl) rfl (by decide +kernel)) ?_
  refine al_c (pc := 113) (snd_Nv C hQ hr dX4_init_113) ?_
  exact al_0
set_option maxHeartbeats 4000000 in
set_option maxRecDepth 100000 in
theorem mX4_init : nMv yX4_init wsX4_init rmX4_init NX4_init tX4_init := by
  refine nMv_of (by decide +kernel) rfl rfl (by intro av X post hT; obtain ⟨rfl, rfl, hp⟩ := hT; exact Nat.le_of_ble_eq_true rfl) ?_
  intro Γ ad av X post C CX CN hQ hr hT
  obtain ⟨rfl, rfl, hp⟩ := hT
  have OK := okX4_init C CX CN hQ hr
  have ix : ∀ (N n : Nat), N < 10000 → n < N → vp_in (nI n) N := fun N n hN hn => inS hn hN
  have s6 : ∀ (ad2 : Nat → Nat) (cs df : Nat → Int32), Ag 1 ad ad2 → C7 cs → DF 1 df → FG Γ 113 ad2 15 80 [(0, .ref 0)] [] (oS5 (.ref 1) (.ref 7) (.ref 13) (.ref 14) (.ref 15) :: (z5 ++ (i5 ++ [.inl (false, 7, cs), .inl (false, 7, fun _ => 0), .inl (false, 6, df)]))) := by
    intro ad2 cs df hag hc hd
    refine FG_rp πI (X2 := SW 5 5 0 0 0 0 (fun _ _ => 0) (fun _ _ => 0) cs (fun _ => 0) df) (SW_re (g1 := fun j => 1 + 1 + j) (g2 := fun j => 7 + 1 + j) rfl rfl (fun j hj => ?_) rfl (fun j hj => ?_) rfl rfl rfl (fun c hc => ?_) (fun c hc => ?_)) (fun i j hi hj e => πI_inj i (by rwa [SW_len] at hi) j (by rwa [SW_len] at hj) e) (ls' := [(0, .ref 0)]) (st' := []) rfl rfl ?_
    · rw [πI_lo j hj]
    · rw [πI_hi j hj]
    · rw [πI_lo c hc]
      have h5 : c = 0 ∨ c = 1 ∨ c = 2 ∨ c = 3 ∨ c = 4 := by omega
      rcases h5 with rfl | rfl | rfl | rfl | rfl <;> rfl
    · rw [πI_hi c hc]
      have h5 : c = 0 ∨ c = 1 ∨ c = 2 ∨ c = 3 ∨ c = 4 := by omega
      rcases h5 with rfl | rfl | rfl | rfl | rfl <;> rfl
    · refine go OK [] 10 ?_
      refine ⟨by decide, by decide, fun i hi => ?_, hp _ _ hc hd⟩
      rcases hi with hi | hi
      · have hi0 : i = 0 := Nat.lt_one_iff.mp hi
        subst hi0
        exact hag 0 (Or.inl (by decide))
      · show ad2 (πI i) = ad i
        rw [πI_far (by omega)]
        exact hag i (Or.inr hi)
  have s5 : ∀ (ad2 : Nat → Nat) (cs : Nat → Int32), Ag 1 ad ad2 → C7 cs → FG Γ 85 ad2 15 80 [(0, .ref 0)] [.ref 15, .ref 0] (oS5 (.ref 1) (.ref 7) (.ref 13) (.ref 14) .null :: (z5 ++ (i5 ++ [.inl (false, 7, cs), .inl (false, 7, fun _ => 0), .inl (false, 6, fun _ => 0)]))) := by
    intro ad2 cs hag hc
    refine go OK [113] 60 ?_
    refine ⟨ix 6 0 (by decide) (by decide), ?_⟩
    refine ⟨ix 6 1 (by decide) (by decide), ?_⟩
    refine ⟨ix 6 2 (by decide) (by decide), ?_⟩
    refine ⟨ix 6 3 (by decide) (by decide), ?_⟩
    refine ⟨ix 6 4 (by decide) (by decide), ?_⟩
    refine ⟨ix 6 5 (by decide) (by decide), ?_⟩
    exact s6 ad2 cs _ hag hc (DF_1 rfl)
  have s4 : ∀ (ad2 : Nat → Nat) (cs : Nat → Int32), Ag 1 ad ad2 → C7 cs → FG Γ 77 ad2 14 74 [(0, .ref 0)] [.ref 14, .ref 0] (oS5 (.ref 1) (.ref 7) (.ref 13) .null .null :: (z5 ++ (i5 ++ [.inl (false, 7, cs), .inl (false, 7, fun _ => 0)]))) := by
    intro ad2 cs hag hc
    refine go OK [85] 60 ?_
    refine ⟨rfl, rfl, rfl, rfl, by decide, by decide, by show 15 < 1000; decide, fun ad3 hag3 => ?_⟩
    exact s5 ad3 cs (hag.tr (M := 15) hag3 (by decide)) hc
  have s3 : ∀ (ad2 : Nat → Nat), Ag 1 ad ad2 → FG Γ 39 ad2 13 67 [(0, .ref 0)] [.ref 13, .ref 0] (oS5 (.ref 1) (.ref 7) .null .null .null :: (z5 ++ (i5 ++ [.inl (false, 7, fun _ => 0)]))) := by
    intro ad2 hag
    refine go OK [77] 60 ?_
    refine ⟨ix 7 0 (by decide) (by decide), ?_⟩
    refine ⟨ix 7 1 (by decide) (by decide), ?_⟩
    refine ⟨ix 7 2 (by decide) (by decide), ?_⟩
    refine ⟨ix 7 3 (by decide) (by decide), ?_⟩
    refine ⟨ix 7 4 (by decide) (by decide), ?_⟩
    refine ⟨ix 7 5 (by decide) (by decide), ?_⟩
    refine ⟨ix 7 6 (by decide) (by decide), ?_⟩
    refine ⟨rfl, rfl, rfl, rfl, by decide, by decide, by show 14 < 1000; decide, fun ad3 hag3 => ?_⟩
    exact s4 ad3 _ (hag.tr (M := 14) hag3 (by decide)) (C7_1 rfl)
  have s2 : ∀ (ad2 : Nat → Nat), Ag 1 ad ad2 → FG Γ 31 ad2 12 60 [(0, .ref 0)] [.ref 7, .ref 0] (oS5 (.ref 1) .null .null .null .null :: (z5 ++ i5)) := by
    intro ad2 hag
    refine go OK [39] 60 ?_
    refine ⟨rfl, rfl, rfl, rfl, by decide, by decide, by decide, fun ad3 hag3 => ?_⟩
    exact s3 ad3 (hag.tr (M := 13) hag3 (by decide))
  have s1 : ∀ (ad2 : Nat → Nat), Ag 1 ad ad2 → FG Γ 21 ad2 6 30 [(0, .ref 0)] [.ref 1, .ref 0] (oS5 .null .null .null .null .null :: z5) := by
    intro ad2 hag
    refine go OK [31] 60 ?_
    refine ⟨5, 5, rfl, rfl, by decide, by decide, rfl, rfl, rfl, by decide, by decide, by decide, fun ad3 hag3 => ?_⟩
    exact s2 ad3 (hag.tr (M := 7) hag3 (by decide))
  refine go OK [21] 60 ?_
  refine ⟨5, 5, rfl, rfl, by decide, by decide, rfl, rfl, rfl, by decide, by decide, by decide, fun ad2 hag => ?_⟩
  exact s1 ad2 hag
theorem SWt_len {w h : Nat} {fw fp : Nat → Nat → Int32} {cs as df : Nat → Int32} : (SWt w h fw fp cs as df).length = 5 + w + w := by
  have := SW_len (w := w) (h := h) (rl := 0) (ps := 0) (x := 0) (y := 0) (fw := fw) (fp := fp) (cs := cs) (as := as) (df := df)
  rw [SW_cons, List.length_cons] at this
  omega
theorem SWt_w {w h c : Nat} {fw fp : Nat → Nat → Int32} {cs as df : Nat → Int32} (hc : c < w) : (SWt w h fw fp cs as df)[5 + c]? = some (.inl (true, h, fw c)) := by
  have := SW_w (w := w) (h := h) (rl := 0) (ps := 0) (x := 0) (y := 0) (fw := fw) (fp := fp) (cs := cs) (as := as) (df := df) hc
  rwa [SW_cons, show 6 + c = 5 + c + 1 by omega, List.getElem?_cons_succ] at this
theorem SWt_p {w h c : Nat} {fw fp : Nat → Nat → Int32} {cs as df : Nat → Int32} (hc : c < w) : (SWt w h fw fp cs as df)[5 + w + c]? = some (.inl (false, h, fp c)) := by
  have := SW_p (w := w) (h := h) (rl := 0) (ps := 0) (x := 0) (y := 0) (fw := fw) (fp := fp) (cs := cs) (as := as) (df := df) hc
  rwa [SW_cons, show 6 + w + c = 5 + w + c + 1 by omega, List.getElem?_cons_succ] at this
/-- the new die takes the old one's place -/
def π5 (L j : Nat) : Nat := if j = 5 then L else j
theorem tip_re {w h L : Nat} {rl ps x y : Int32} {fw fp : Nat → Nat → Int32} {cs as df df2 : Nat → Int32} (hL : L = 6 + w + w) : ∀ j e, (SW w h rl ps x y fw fp cs as df2)[j]? = some e → ∃ e1, (aE_obj [.int (nI w), .int (nI h), .ref 1, .ref 2, .ref 3, .ref 4, .int rl, .int ps, .int x, .int y, .ref L] :: (SWt w h fw fp cs as df ++ [.inl (false, 6, df2)]))[π5 L j]? = some e1 ∧ ∀ (K : aG) (ad : Nat → Nat), aC K ad e1 = aC K ad (reE (π5 L) e) := by
  have f : ∀ j, j ≠ 5 → π5 L j = j := fun j hj => if_neg hj
  refine SW_re (g1 := fun j => 6 + j) (g2 := fun j => 6 + w + j) rfl rfl (fun j hj => (f _ (by omega)).symm) rfl (fun j hj => (f _ (by omega)).symm) rfl rfl ?_ (fun c hc => ?_) (fun c hc => ?_)
  · show (_ :: _)[L]? = _
    rw [hL, show 6 + w + w = (5 + w + w) + 1 by omega, List.getElem?_cons_succ, List.getElem?_append_right (by rw [SWt_len]; omega), SWt_len, Nat.sub_self]
    rfl
  · rw [f _ (by omega), show 6 + c = (5 + c) + 1 by omega, List.getElem?_cons_succ, List.getElem?_append_left (by rw [SWt_len]; omega)]
    exact SWt_w hc
  · rw [f _ (by omega), show 6 + w + c = (5 + w + c) + 1 by omega, List.getElem?_cons_succ, List.getElem?_append_left (by rw [SWt_len]; omega)]
    exact SWt_p hc
abbrev fpP (as : Nat → Int32) (dn m : Nat) (cs : Nat → Int32) (fp : Nat → Nat → Int32) : Nat → Nat → Int32 := if 0 < as dn then updR fp (m % 7) (upd (fp (m % 7)) (m / 7) (cs dn)) else fp
abbrev NX4_roll : List aE → Nat := fun _ => 1
abbrev tX4_roll : aTi := fun av X post => ∃ (d k t w h : Nat) (rl ps : Int32) (fw fp : Nat → Nat → Int32) (cs as df wl : Nat → Int32), av = [.ref 0, .int (nI d)] ∧ X = SW w h rl ps (nI (k % 7)) (nI (k / 7)) fw fp cs as df ∧ w ≤ 7 ∧ h ≤ 7 ∧ k < 49 ∧ k % 7 < w ∧ d < 4 ∧ vt t = true ∧ DF t df ∧ RWL w h wl fw ∧ (nxt w h wl k d = none → post 0 X) ∧
  ∀ m df2, nxt w h wl k d = some m → DF (rlN t d) df2 → post 1 (SW w h (rl + 1) (pmP as (7 - (rlN t d / 6 + 1)) ps) (nI (m % 7)) (nI (m / 7)) fw (fpP as (7 - (rlN t d / 6 + 1)) m cs fp) cs (paP as (7 - (rlN t d / 6 + 1))) df2)
abbrev rmX4_roll : Room := { frames := 2, cells := 1, slots := 6, locals := 84 }
theorem inX4_roll_X4 : ∀ w ∈ wsX40, w ∈ wsX4_roll := by decide +kernel
def tbX4_roll (post : Int32 → List aE → Prop) (ad0 : Nat → Nat) (N0 : Nat) : List (Nat × aO) := [(0, oAL 0 1),
  (1, oIL 1 2),
  (2, oQi ad0 0 NX4_can tX4_can 2 (some 3) rmX4_can.cells rmX4_can.slots 1 6 5),
  (5, oIf_ne 10 8),
  (8, oC (0) 9),
  (9, oNz post ad0 N0 1 6),
  (10, oAL 0 11),
  (11, oDup 12),
  (12, oGet 3 8 15),
  (15, oGs ad0 1001 18),
  (18, oIL 1 19),
  (19, oSi ad0 1001 acr 20),
  (20, oIadd 21),
  (21, oPut 3 8 24),
  (24, oAL 0 25),
  (25, oDup 26),
  (26, oGet 3 9 29),
  (29, oGs ad0 1002 32),
  (32, oIL 1 33),
  (33, oSi ad0 1002 dwn 34),
  (34, oIadd 35),
  (35, oPut 3 9 38),
  (38, oAL 0 39),
  (39, oAL 0 40),
  (40, oGet 3 10 43),
  (43, oIL 1 44),
  (44, oQr ad0 0 NX4_tipped tX4_tipped 2 none rmX4_tipped.cells rmX4_tipped.slots 1 6 47),
  (47, oPutR 3 10 50),
  (50, oAL 0 51),
  (51, oDup 52),
  (52, oGet 3 6 55),
  (55, oC (1) 56),
  (56, oIadd 57),
  (57, oPut 3 6 60),
  (60, oAL 0 61),
  (61, oGet 3 5 64),
  (64, oAL 0 65),
  (65, oGet 3 10 68),
  (68, oC (1) 69),
  (69, oIald 70),
  (70, oIald 71),
  (71, oIf_le 124 74),
  (74, oAL 0 75),
  (75, oGet 3 5 78),
  (78, oAL 0 79),
  (79, oGet 3 10 82),
  (82, oC (1) 83),
  (83, oIald 84),
  (84, oDup2 85),
  (85, oIald 86),
  (86, oC (1) 87),
  (87, oIsub 88),
  (88, oIast 89),
  (89, oAL 0 90),
  (90, oGet 3 3 93),
  (93, oAL 0 94),
  (94, oGet 3 8 97),
  (97, oAald 98),
  (98, oAL 0 99),
  (99, oGet 3 9 102),
  (102, oAL 0 103),
  (103, oGet 3 4 106),
  (106, oAL 0 107),
  (107, oGet 3 10 110),
  (110, oC (1) 111),
  (111, oIald 112),
  (112, oIald 113),
  (113, oIast 114),
  (114, oAL 0 115),
  (115, oDup 116),
  (116, oGet 3 7 119),
  (119, oC (1) 120),
  (120, oIadd 121),
  (121, oPut 3 7 124),
  (124, oC (1) 125),
  (125, oNz post ad0 N0 1 6)]
set_option maxRecDepth 20000 in
theorem okX4_roll {Γ : aΓ} {post : Int32 → List aE → Prop} {ad0 : Nat → Nat} {X0 : List aE} {N0 : Nat} (C : FOK Γ cX4_roll wsX4_roll RX4 2 rmX4_roll) (CX : FOX Γ) (CN : FON ad0 Γ) (hQ : isQ Γ (va_Qi (fun r (u : (Nat → Nat) × List aE) => post r u.2) (aBn (gK Γ) ad0 X0 (hsz Γ) N0) (aA (gK Γ) ad0 X0 (hsz Γ))) rmX4_roll ad0 X0) (hr : rTy Γ = some .boolean) : AllS Γ (tbX4_roll post ad0 N0) := by
  unfold tbX4_roll
  refine al_c (pc := 0) (snd_aload_n C dX4_roll_0 rfl) ?_
  refine al_c (pc := 1) (snd_iload_n C dX4_roll_1 rfl) ?_
  refine al_c (pc := 2) (snd_Qi 0 C CX CN (site_V C rfl dX4_roll_2 gX4_roll_X4_can rfl rfl rfl ⟨rfl, by decide +kernel, by decide +kernel, by decide +kernel⟩ ⟨by decide, by decide⟩) mX4_can) ?_
  refine al_c (pc := 5) (snd_if_ne C dX4_roll_5 (by decide)) ?_
  refine al_c (pc := 8) (snd_iconst C dX4_roll_8 (by decide)) ?_
  refine al_c (pc := 9) (snd_Nz C hQ hr dX4_roll_9) ?_
  refine al_c (pc := 10) (snd_aload_n C dX4_roll_10 rfl) ?_
  refine al_c (pc := 11) (snd_dup C dX4_roll_11) ?_
  refine al_c (pc := 12) (snd_get C dX4_roll_12 (ci := 3) (kf := 8) rfl (by decide) inX4_roll_X4 rfl (by decide +kernel)) ?_
  refine al_c (pc := 15) (snd_GsN1 C CN dX4_roll_15) ?_
  refine al_c (pc := 18) (snd_iload_n C dX4_roll_18 rfl) ?_
  refine al_c (pc := 19) (snd_Si1 C CN dX4_roll_19) ?_
  refine al_c (pc := 20) (snd_iadd C dX4_roll_20) ?_
  refine al_c (pc := 21) (snd_put C dX4_roll_21 (ci := 3) (kf := 8) rfl (by decide) inX4_roll_X4 tyX4_ok nmX4 rfl rfl rfl (by decide +kernel)) ?_
  refine al_c (pc := 24) (snd_aload_n C dX4_roll_24 rfl) ?_
  refine al_c (pc := 25) (snd_dup C dX4_roll_25) ?_
  refine al_c (pc := 26) (snd_get C dX4_roll_26 (ci := 3) (kf := 9) rfl (by decide) inX4_roll_X4 rfl (by decide +kernel)) ?_
  refine al_c (pc := 29) (snd_GsN2 C CN dX4_roll_29) ?_
  refine al_c (pc := 32) (snd_iload_n C dX4_roll_32 rfl) ?_
  refine al_c (pc := 33) (snd_Si2 C CN dX4_roll_33) ?_
  refine al_c (pc := 34) (snd_iadd C dX4_roll_34) ?_
  refine al_c (pc := 35) (snd_put C dX4_roll_35 (ci := 3) (kf := 9) rfl (by decide) inX4_roll_X4 tyX4_ok nmX4 rfl rfl rfl (by decide +kernel)) ?_
  refine al_c (pc := 38) (snd_aload_n C dX4_roll_38 rfl) ?_
  refine al_c (pc := 39) (snd_aload_n C dX4_roll_39 rfl) ?_
  refine al_c (pc := 40) (snd_get C dX4_roll_40 (ci := 3) (kf := 10) rfl (by decide) inX4_roll_X4 rfl (by decide +kernel)) ?_
  refine al_c (pc := 43) (snd_iload_n C dX4_roll_43 rfl) ?_
  refine al_c (pc := 44) (snd_Qr 0 C CX CN (site_S C dX4_roll_44 gX4_roll_X4_tipped rfl rfl rfl ⟨by decide +kernel, by decide +kernel, by decide +kernel⟩ ⟨by decide, by decide⟩) mX4_tipped) ?_
  refine al_c (pc := 47) (snd_putR C dX4_roll_47 (ci := 3) (kf := 10) rfl (by decide) inX4_roll_X4 tyX4_ok nmX4 rfl (fun _ => rfl) (fun _ => rfl) rfl (by decide +kernel)) ?_
  refine al_c (pc := 50) (snd_aload_n C dX4_roll_50 rfl) ?_
  refine al_c (pc := 51) (snd_dup C dX4_roll_51) ?_
  refine al_c (pc := 52) (snd_get C dX4_roll_52 (ci := 3) (kf := 6) rfl (by decide) inX4_roll_X4 rfl (by decide +kernel)) ?_
  refine al_c (pc := 55) (snd_iconst C dX4_roll_55 (by decide)) ?_
  refine al_c (pc := 56) (snd_iadd C dX4_roll_56) ?_
  refine al_c (pc := 57) (snd_put C dX4_roll_57 (ci := 3) (kf := 6) rfl (by decide) inX4_roll_X4 tyX4_ok nmX4 rfl rfl rfl (by decide +kernel)) ?_
  refine al_c (pc := 60) (snd_aload_n C dX4_roll_60 rfl) ?_
  refine al_c (pc := 61) (snd_get C dX4_roll_61 (ci := 3) (kf := 5) rfl (by decide) inX4_roll_X4 rfl (by decide +kernel)) ?_
  refine al_c (pc := 64) (snd_aload_n C dX4_roll_64 rfl) ?_
  refine al_c (pc := 65) (snd_get C dX4_roll_65 (ci := 3) (kf := 10) rfl (by decide) inX4_roll_X4 rfl (by decide +kernel)) ?_
  refine al_c (pc := 68) (snd_iconst C dX4_roll_68 (by decide)) ?_
  refine al_c (pc := 69) (snd_iaload C dX4_roll_69) ?_
  refine al_c (pc := 70) (snd_iaload C dX4_roll_70) ?_
  refine al_c (pc := 71) (snd_if_le C dX4_roll_71 (by decide)) ?_
  refine al_c (pc := 74) (snd_aload_n C dX4_roll_74 rfl) ?_
  refine al_c (pc := 75) (snd_get C dX4_roll_75 (ci := 3) (kf := 5) rfl (by decide) inX4_roll_X4 rfl (by decide +kernel)) ?_
  refine al_c (pc := 78) (snd_aload_n C dX4_roll_78 rfl) ?_
  refine al_c (pc := 79) (snd_get C dX4_roll_79 (ci := 3) (kf := 10) rfl (by decide) inX4_roll_X4 rfl (by decide +kernel)) ?_
  refine al_c (pc := 82) (snd_iconst C dX4_roll_82 (by decide)) ?_
  refine al_c (pc := 83) (snd_iaload C dX4_roll_83) ?_
  refine al_c (pc := 84) (snd_dup2 C dX4_roll_84) ?_
  refine al_c (pc := 85) (snd_iaload C dX4_roll_85) ?_
  refine al_c (pc := 86) (snd_iconst C dX4_roll_86 (by decide)) ?_
  refine al_c (pc := 87) (snd_isub C dX4_roll_87) ?_
  refine al_c (pc := 88) (snd_iastore C dX4_roll_88) ?_
  refine al_c (pc := 89) (snd_aload_n C dX4_roll_89 rfl) ?_
  refine al_c (pc := 90) (snd_get C dX4_roll_90 (ci := 3) (kf := 3) rfl (by decide) inX4_roll_X4 rfl (by decide +kernel)) ?_
  refine al_c (pc := 93) (snd_aload_n C dX4_roll_93 rfl) ?_
  refine al_c (pc := 94) (snd_get C dX4_roll_94 (ci := 3) (kf := 8) rfl (by decide) inX4_roll_X4 rfl (by decide +kernel)) ?_
  refine al_c (pc := 97) (snd_aaload C dX4_roll_97) ?_
  refine al_c (pc := 98) (snd_aload_n C dX4_roll_98 rfl) ?_
  refine al_c (pc := 99) (snd_get C dX4_roll_99 (ci := 3) (kf := 9) rfl (by decide) inX4_roll_X4 rfl (by decide +kernel)) ?_
  refine al_c (pc := 102) (snd_aload_n C dX4_roll_102 rfl) ?_
  refine al_c (pc := 103) (snd_get C dX4_roll_103 (ci := 3) (kf := 4) rfl (by decide) inX4_roll_X4 rfl (by decide +kernel)) ?_
  refine al_c (pc := 106) (snd_aload_n C dX4_roll_106 rfl) ?_
  refine al_c (pc := 107) (snd_get C dX4_roll_107 (ci := 3) (kf := 10) rfl (by decide) inX4_roll_X4 rfl (by decide +kernel)) ?_
  refine al_c (pc := 110) (snd_iconst C dX4_roll_110 (by decide)) ?_
  refine al_c (pc := 111) (snd_iaload C dX4_roll_111) ?_
  refine al_c (pc := 112) (snd_iaload C dX4_roll_112) ?_
  refine al_c (pc := 113) (snd_iastore C dX4_roll_113) ?_
  refine al_c (pc := 114) (snd_aload_n C dX4_roll_114 rfl) ?_
  refine al_c (pc := 115) (snd_dup C dX4_roll_115) ?_
  refine al_c (pc := 116) (snd_get C dX4_roll_116 (ci := 3) (kf := 7) rfl (by decide) inX4_roll_X4 rfl (by decide +kernel)) ?_
  refine al_c (pc := 119) (snd_iconst C dX4_roll_119 (by decide)) ?_
  refine al_c (pc := 120) (snd_iadd C dX4_roll_120) ?_
  refine al_c (pc := 121) (snd_put C dX4_roll_121 (ci := 3) (kf := 7) rfl (by decide) inX4_roll_X4 tyX4_ok nmX4 rfl rfl rfl (by decide +kernel)) ?_
  refine al_c (pc := 124) (snd_iconst C dX4_roll_124 (by decide)) ?_
  refine al_c (pc := 125) (snd_Nz C hQ hr dX4_roll_125) ?_
  exact al_0
set_option maxHeartbeats 4000000 in
set_option maxRecDepth 100000 in
theorem mX4_roll : nMi yX4_roll wsX4_roll rmX4_roll NX4_roll tX4_roll := by
  refine nMz_of (by decide +kernel) rfl rfl (by intro av X post hT; obtain ⟨d, k, t, w, h, rl, ps, fw, fp, cs, as, df, wl, rfl, rfl, hw, hh, hk, hkw, hd, hv, hdf, hW, h1, h2⟩ := hT; exact Nat.le_of_ble_eq_true rfl) ?_
  intro Γ ad av X post C CX CN hQ hr hT
  obtain ⟨d, k, t, w, h, rl, ps, fw, fp, cs, as, df, wl, rfl, rfl, hw, hh, hk, hkw, hd, hv, hdf, hW, h1, h2⟩ := hT
  have OK := okX4_roll C CX CN hQ hr
  have hok : (SW w h rl ps (nI (k % 7)) (nI (k / 7)) fw fp cs as df).all (okE 1000) = true := SW_ok (by omega)
  have hlen : (SW w h rl ps (nI (k % 7)) (nI (k / 7)) fw fp cs as df).length = 6 + w + w := SW_len
  -- behind the new die: the world told anew
  have stD : ∀ (ad2 : Nat → Nat) (m : Nat) (df2 : Nat → Int32), Ag 1 ad ad2 → nxt w h wl k d = some m → DF (rlN t d) df2 → FG Γ 50 ad2 1 6 [(0, .ref 0), (1, .int (nI d))] [] (SW w h rl ps (nI (m % 7)) (nI (m / 7)) fw fp cs as df2) := by
    intro ad2 m df2 hag hm hdf2
    obtain ⟨m1, m2, -⟩ := nxt_fr hm
    have ht := rlN_lt hv hd
    have hdn : 7 - (rlN t d / 6 + 1) < 7 := by omega
    have h2' := h2 m df2 hm hdf2
    have e : df2 (1 : Int32).toNatClampNeg = nI (7 - (rlN t d / 6 + 1)) := hdf2 1 (by decide)
    generalize 7 - (rlN t d / 6 + 1) = dn at hdn h2' e
    have ecl : (nI dn).toNatClampNeg = dn := nI_clampS (by omega)
    refine go OK [89, 124] 60 ?_
    refine ⟨inS (n := 1) (N := 6) (by decide) (by decide), ?_⟩
    rw [e]
    refine ⟨inS hdn (by decide), ?_⟩
    rw [ecl]
    refine And.intro (fun q => ?_) (fun q => ?_)
    · have hn : ¬ 0 < as dn := Int32.not_lt.mpr q
      refine go OK [] 10 ?_
      have h3 := h2'
      unfold pmP fpP paP at h3
      rw [if_neg hn, if_neg hn, if_neg hn] at h3
      exact ⟨by decide, by decide, Or.inr rfl, hag, h3⟩
    · have hn : 0 < as dn := Int32.not_le.mp q
      refine ⟨inS (n := 1) (N := 6) (by decide) (by decide), ?_⟩
      rw [e]
      refine ⟨inS hdn (by decide), ?_⟩
      rw [ecl]
      refine ⟨inS hdn (by decide), ?_⟩
      rw [ecl]
      have st89 : FG Γ 89 ad2 1 6 [(0, .ref 0), (1, .int (nI d))] [] (SW w h (rl + 1) ps (nI (m % 7)) (nI (m / 7)) fw fp cs (upd as dn (as dn - 1)) df2) := by
        refine go OK [] 60 ?_
        refine ⟨false, w, _, m % 7, rfl, rfl, m1, by omega, ?_⟩
        refine ⟨inS (n := 1) (N := 6) (by decide) (by decide), ?_⟩
        rw [e]
        refine ⟨inS hdn (by decide), ?_⟩
        rw [ecl]
        refine gx_of (SW_p m1) ⟨inS m2 (by omega), sx_of (by rw [SW_len]; omega) ?_⟩
        rw [SW_sp, nI_clampS (show m / 7 < 10000 by omega)]
        have h3 := h2'
        unfold pmP fpP paP at h3
        rw [if_pos hn, if_pos hn, if_pos hn] at h3
        exact ⟨by decide, by decide, Or.inr rfl, hag, h3⟩
      exact st89
  have st10 : ∀ (m : Nat) (ad2 : Nat → Nat), Ag (6 + w + w) ad ad2 → nxt w h wl k d = some m → FG Γ 10 ad2 0 0 [(0, .ref 0), (1, .int (nI d))] [] (SW w h rl ps (nI (k % 7)) (nI (k / 7)) fw fp cs as df) := by
    intro m ad2 hag hm
    have st38 : FG Γ 38 ad2 0 0 [(0, .ref 0), (1, .int (nI d))] [] (SW w h rl ps (nI (m % 7)) (nI (m / 7)) fw fp cs as df) := by
      refine go OK [50] 60 ?_
      refine ⟨[], SW w h rl ps (nI (m % 7)) (nI (m / 7)) fw fp cs as df, _, fun r X2 => ∃ df2, DF (rlN t d) df2 ∧ r = (SW w h rl ps (nI (m % 7)) (nI (m / 7)) fw fp cs as df).length ∧ X2 = SW w h rl ps (nI (m % 7)) (nI (m / 7)) fw fp cs as df ++ [.inl (false, 6, df2)], rfl, by decide, by decide, rfl, (shEs_0 _).symm, (shVs_0 _).symm, qOK_of (N0 := 1) (fun i hi => hag i (Or.inr hi)) (by show 1 ≤ 0 + (SW _ _ _ _ _ _ _ _ _ _ _).length; rw [SW_len]; omega) rfl rfl rfl (SW_ok (by omega)) (by rw [SW_len]; omega) (Or.inl rfl), fun ci hc => by (cases hc), ?_, ?_⟩
      · exact ⟨5, d, t, df, rfl, rfl, SW_ok (by rw [SW_len]; omega), by rw [SW_len]; omega, hv, hd, hdf, fun df2 h9 => ⟨df2, h9, rfl, rfl⟩⟩
      · rintro r X2 ⟨df2, hdf2, rfl, rfl⟩
        have l2 : (SW w h rl ps (nI (m % 7)) (nI (m / 7)) fw fp cs as df ++ ([.inl (false, 6, df2)] : List aE)).length = 7 + w + w := by
          rw [List.length_append, SW_len]
          show 6 + w + w + 1 = _
          omega
        refine ⟨by show (SW _ _ _ _ _ _ _ _ _ _ _).length ≤ _; rw [l2, SW_len]; omega, by rw [l2]; omega, ?_, by rw [l2, SW_len]; omega, fun adJ hJ => ?_⟩
        · rw [l2, List.all_append, SW_ok (by omega)]
          rfl
        · rw [List.nil_append, shEs_0]
          have hJ2 : Ag (6 + w + w) ad adJ := hag.tr (M := 6 + w + w) (by
            have h9 : Ag (0 + (SW w h rl ps (nI (m % 7)) (nI (m / 7)) fw fp cs as df).length) ad2 adJ := hJ
            rwa [SW_len, Nat.zero_add] at h9) (Nat.le_refl _)
          rw [SW_len]
          have st50 : FG Γ 50 adJ 1 6 [(0, .ref 0), (1, .int (nI d))] [] (aE_obj [.int (nI w), .int (nI h), .ref 1, .ref 2, .ref 3, .ref 4, .int rl, .int ps, .int (nI (m % 7)), .int (nI (m / 7)), .ref (6 + w + w + 0)] :: (SWt w h fw fp cs as df ++ [.inl (false, 6, df2)])) := by
            refine FG_rp (π5 (6 + w + w)) (tip_re rfl) (fun i j hi hj e9 => ?_) (ls' := [(0, .ref 0), (1, .int (nI d))]) (st' := []) rfl rfl ?_
            · rw [SW_len] at hi hj
              unfold π5 at e9
              repeat' split at e9
              all_goals omega
            · refine stD _ m df2 (fun i hi => ?_) hm hdf2
              have h5 : π5 (6 + w + w) i = i := if_neg (by omega)
              show adJ (π5 (6 + w + w) i) = ad i
              rw [h5]
              exact hJ2 i (by omega)
          exact st50
    obtain ⟨ex, ey⟩ := nxt_xy hw hkw hd hm
    refine go OK [38] 60 ?_
    refine ⟨hag 1001 (Or.inr (by decide)), rfl, hag 1001 (Or.inr (by decide)), d, rfl, hd, ?_⟩
    rw [← ex, ← ey] at st38
    refine ⟨hag 1002 (Or.inr (by decide)), rfl, hag 1002 (Or.inr (by decide)), d, rfl, hd, ?_⟩
    exact st38
  refine go OK [10] 60 ?_
  refine ⟨[], SW w h rl ps (nI (k % 7)) (nI (k / 7)) fw fp cs as df, _, fun r X2 => r = (if (nxt w h wl k d).isSome then 1 else 0) ∧ X2 = SW w h rl ps (nI (k % 7)) (nI (k / 7)) fw fp cs as df, rfl, by decide, by decide, rfl, (shEs_0 _).symm, (shVs_0 _).symm, qOK_of (N0 := 1) (fun _ _ => rfl) (by show 1 ≤ 0 + (SW _ _ _ _ _ _ _ _ _ _ _).length; rw [SW_len]; omega) rfl rfl rfl hok (by rw [hlen]; omega) (Or.inl rfl), fun ci hc => by cases hc; exact ⟨0, _, _, rfl, rfl⟩, ?_, ?_⟩
  · exact ⟨d, k, w, h, rl, ps, fw, fp, cs, as, df, wl, rfl, rfl, hw, hh, hk, hd, hW, rfl, rfl⟩
  · rintro r X2 ⟨rfl, rfl⟩
    refine ⟨Nat.le_refl _, by rw [hlen]; omega, SW_ok (by rw [hlen]; omega), fun adJ hJ => ?_⟩
    rw [List.nil_append, shEs_0]
    have hJ2 : Ag (6 + w + w) ad adJ := by
      have h9 : Ag (0 + (SW w h rl ps (nI (k % 7)) (nI (k / 7)) fw fp cs as df).length) ad adJ := hJ
      rwa [SW_len, Nat.zero_add] at h9
    cases hm : nxt w h wl k d with
    | none =>
      refine And.intro (fun q => absurd rfl q) (fun _ => ?_)
      exact ⟨by decide, by decide, Or.inl rfl, (Ag.rf (N := 1)).tr hJ2 (by omega), h1 hm⟩
    | some m =>
      refine And.intro (fun _ => ?_) (fun q => absurd q (by show ¬ (1 : Int32) = 0; decide))
      exact st10 m adJ hJ2 hm
