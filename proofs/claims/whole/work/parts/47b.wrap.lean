/-! ===== the wrappers, by program (mkwrap.py) ===== -/
abbrev rmL_turnWall : Room := { frames := 8, cells := 2, slots := 12, locals := 135 }
set_option maxHeartbeats 1000000 in
theorem hexL_turnWall {Γ : aΓ} {post : Int32 → List aE → Prop} {ad0 : Nat → Nat} {X0 : List aE} (C : FOK Γ cL_turnWall wsL_turnWall RL 5 rmL_turnWall) (hN : FOW Γ) (hT : isTb Γ [(0, 17, 20, 19), (0, 17, 24, 21)]) (hQ : isQ Γ (va_Qi post (aBk (gK Γ) ad0 X0 (hsz Γ)) (aA (gK Γ) ad0 X0 (hsz Γ))) rmL_turnWall ad0 X0) (hr : rTy Γ = some .int) : ∀ E ad k sl ls X, exW (code2 "java/lang/IndexOutOfBoundsException" "java/lang/IllegalStateException") post ad0 rmL_turnWall.cells rmL_turnWall.slots E ad k sl ls X → FX Γ 5 E ad k sl ls X := by
  intro E ad k sl ls X h
  obtain ⟨v, hE, hk, hsl, had, hp⟩ := h
  unfold code2 at hE
  by_cases z0 : E = "java/lang/IndexOutOfBoundsException"
  · rw [if_pos z0] at hE
    cases hE
    subst z0
    exact cat_W (i := 4) (h := 20) (kz := 2) (v := 1) (nm := "java/lang/IndexOutOfBoundsException") (x := ⟨0, 17, 20, 19⟩) (pre := []) (suf := [⟨0, 17, 24, 21⟩]) C hQ hr hT rfl (Or.inl rfl) hN rfl (by decide) (by decide +kernel) (by decide +kernel) rfl (Or.inl ⟨dL_turnWall_20, rfl⟩) (by decide) dL_turnWall_22 rfl dL_turnWall_23 ad k sl ls X hk hsl had hp
  · rw [if_neg z0] at hE
    by_cases z1 : E = "java/lang/IllegalStateException"
    · rw [if_pos z1] at hE
      cases hE
      subst z1
      exact cat_W (i := 4) (h := 24) (kz := 2) (v := 2) (nm := "java/lang/IndexOutOfBoundsException") (x := ⟨0, 17, 24, 21⟩) (pre := [⟨0, 17, 20, 19⟩]) (suf := []) C hQ hr hT rfl (Or.inr ⟨_, rfl, by decide, by decide +kernel, fun _ q => q.1⟩) hN rfl (by decide) (by decide +kernel) (by decide +kernel) rfl (Or.inl ⟨dL_turnWall_24, rfl⟩) (by decide) dL_turnWall_26 rfl dL_turnWall_27 ad k sl ls X hk hsl had hp
    · rw [if_neg z1] at hE
      cases hE
def tbL_turnWall (post : Int32 → List aE → Prop) (ad0 : Nat → Nat) : List (Nat × aO) := [(0, oAL 3 1),
  (1, oC (0) 2),
  (2, oAL 0 3),
  (3, oIL 1 4),
  (4, oIL 2 5),
  (5, oGXi tX3_turnWall 3 2 rmX3_turnWall.cells rmX3_turnWall.slots rmL_turnWall.cells rmL_turnWall.slots 8 (exW (code2 "java/lang/IndexOutOfBoundsException" "java/lang/IllegalStateException") post ad0 rmL_turnWall.cells rmL_turnWall.slots)),
  (8, oIf_eq 15 11),
  (11, oCL 1 12),
  (12, oGo 16),
  (15, oCL 0 16),
  (16, oJas 17),
  (17, oGo 28),
  (28, oC (0) 29),
  (29, oRi post ad0 rmL_turnWall.cells rmL_turnWall.slots)]
set_option maxRecDepth 20000 in
theorem okL_turnWall {Γ : aΓ} {post : Int32 → List aE → Prop} {ad0 : Nat → Nat} {X0 : List aE} (C : FOK Γ cL_turnWall wsL_turnWall RL 5 rmL_turnWall) (CX : FOX Γ) (hN : FOW Γ) (hT : isTb Γ [(0, 17, 20, 19), (0, 17, 24, 21)]) (hQ : isQ Γ (va_Qi post (aBk (gK Γ) ad0 X0 (hsz Γ)) (aA (gK Γ) ad0 X0 (hsz Γ))) rmL_turnWall ad0 X0) (hr : rTy Γ = some .int) : AllS Γ (tbL_turnWall post ad0) := by
  unfold tbL_turnWall
  refine al_c (pc := 0) (snd_aload_n C dL_turnWall_0 rfl) ?_
  refine al_c (pc := 1) (snd_iconst C dL_turnWall_1 (by decide)) ?_
  refine al_c (pc := 2) (snd_aload_n C dL_turnWall_2 rfl) ?_
  refine al_c (pc := 3) (snd_iload_n C dL_turnWall_3 rfl) ?_
  refine al_c (pc := 4) (snd_iload_n C dL_turnWall_4 rfl) ?_
  refine al_c (pc := 5) (snd_GXi C CX (xsite_V C rfl dL_turnWall_5 gL_turnWall_X3_turnWall rfl rfl rfl ⟨rfl, by decide +kernel, by decide +kernel, by decide +kernel⟩ ⟨by decide, by decide⟩) mX3_turnWall (hexL_turnWall C hN hT hQ hr)) ?_
  refine al_c (pc := 8) (snd_if_eq C dL_turnWall_8 (by decide)) ?_
  refine al_c (pc := 11) (snd_lconst C dL_turnWall_11 (by decide)) ?_
  refine al_c (pc := 12) (snd_goto C dL_turnWall_12 (by decide)) ?_
  refine al_c (pc := 15) (snd_lconst C dL_turnWall_15 (by decide)) ?_
  refine al_c (pc := 16) (snd_Jas C dL_turnWall_16) ?_
  refine al_c (pc := 17) (snd_goto C dL_turnWall_17 (by decide)) ?_
  refine al_c (pc := 28) (snd_iconst C dL_turnWall_28 (by decide)) ?_
  refine al_c (pc := 29) (snd_Ri C hQ hr dL_turnWall_29) ?_
  exact al_0
set_option maxHeartbeats 1000000 in
set_option maxRecDepth 100000 in
theorem mL_turnWall : wMi yL_turnWall wsL_turnWall rmL_turnWall (tW2 tX3_turnWall (code2 "java/lang/IndexOutOfBoundsException" "java/lang/IllegalStateException") svZ) := by
  refine wMi_of (hh := [(0, 17, 20, 19), (0, 17, 24, 21)]) (by decide +kernel) rfl rfl (by intro av X post hT; obtain ⟨a, b, q, rfl, hT⟩ := hT; exact Nat.le_of_ble_eq_true rfl) ?_
  intro Γ ad av X post C CX hN hTb hQ hr hT
  obtain ⟨a, b, q, rfl, fs, D9, Z, o, P, E, rfl, rfl, hT3, hp1, hp2⟩ := hT
  have OK := okL_turnWall C CX hN hTb hQ hr
  refine go OK [] 60 ?_
  refine ⟨_ :: D9, Z ++ [.inr (.inr (1, o))], P, E, 0, _, fs, rfl, by decide, by decide, rfl, rfl, (List.append_assoc _ _ _), hT3, fun r C2 h => ?_, fun e C2 h => ?_⟩
  · obtain ⟨h1, h2⟩ := hp1 r C2 h
    refine ⟨h1, And.intro (fun z => ?_) (fun z => ?_)⟩
    · have he9 : svZ r = 0 := if_pos z
      rw [he9] at h2
      exact ⟨C2 ++ Z, o, (List.append_assoc _ _ _).symm, by rw [List.length_append, List.length_append, h1, List.length_cons], rfl, ⟨rfl, h2⟩⟩
    · have he9 : svZ r = 1 := if_neg z
      rw [he9] at h2
      exact ⟨C2 ++ Z, o, (List.append_assoc _ _ _).symm, by rw [List.length_append, List.length_append, h1, List.length_cons], rfl, ⟨rfl, h2⟩⟩
  · obtain ⟨h1, v, h2, h3⟩ := hp2 e C2 h
    refine ⟨h1, v, h2, by decide, by decide, rfl, ?_⟩
    rw [← List.append_assoc]
    exact h3
abbrev rmL_setColour : Room := { frames := 8, cells := 2, slots := 12, locals := 133 }
set_option maxHeartbeats 1000000 in
theorem hexL_setColour {Γ : aΓ} {post : Int32 → List aE → Prop} {ad0 : Nat → Nat} {X0 : List aE} (C : FOK Γ cL_setColour wsL_setColour RL 5 rmL_setColour) (hN : FOW Γ) (hT : isTb Γ [(0, 10, 13, 19), (0, 10, 17, 13)]) (hQ : isQ Γ (va_Qi post (aBk (gK Γ) ad0 X0 (hsz Γ)) (aA (gK Γ) ad0 X0 (hsz Γ))) rmL_setColour ad0 X0) (hr : rTy Γ = some .int) : ∀ E ad k sl ls X, exW (code2 "java/lang/IndexOutOfBoundsException" "java/lang/IllegalArgumentException") post ad0 rmL_setColour.cells rmL_setColour.slots E ad k sl ls X → FX Γ 5 E ad k sl ls X := by
  intro E ad k sl ls X h
  obtain ⟨v, hE, hk, hsl, had, hp⟩ := h
  unfold code2 at hE
  by_cases z0 : E = "java/lang/IndexOutOfBoundsException"
  · rw [if_pos z0] at hE
    cases hE
    subst z0
    exact cat_W (i := 4) (h := 13) (kz := 2) (v := 1) (nm := "java/lang/IndexOutOfBoundsException") (x := ⟨0, 10, 13, 19⟩) (pre := []) (suf := [⟨0, 10, 17, 13⟩]) C hQ hr hT rfl (Or.inl rfl) hN rfl (by decide) (by decide +kernel) (by decide +kernel) rfl (Or.inl ⟨dL_setColour_13, rfl⟩) (by decide) dL_setColour_15 rfl dL_setColour_16 ad k sl ls X hk hsl had hp
  · rw [if_neg z0] at hE
    by_cases z1 : E = "java/lang/IllegalArgumentException"
    · rw [if_pos z1] at hE
      cases hE
      subst z1
      exact cat_W (i := 4) (h := 17) (kz := 2) (v := 2) (nm := "java/lang/IndexOutOfBoundsException") (x := ⟨0, 10, 17, 13⟩) (pre := [⟨0, 10, 13, 19⟩]) (suf := []) C hQ hr hT rfl (Or.inr ⟨_, rfl, by decide, by decide +kernel, fun _ q => q.2⟩) hN rfl (by decide) (by decide +kernel) (by decide +kernel) rfl (Or.inl ⟨dL_setColour_17, rfl⟩) (by decide) dL_setColour_19 rfl dL_setColour_20 ad k sl ls X hk hsl had hp
    · rw [if_neg z1] at hE
      cases hE
def tbL_setColour (post : Int32 → List aE → Prop) (ad0 : Nat → Nat) : List (Nat × aO) := [(0, oAL 3 1),
  (1, oC (0) 2),
  (2, oAL 0 3),
  (3, oIL 1 4),
  (4, oIL 2 5),
  (5, oGXi tX3_setColour 3 2 rmX3_setColour.cells rmX3_setColour.slots rmL_setColour.cells rmL_setColour.slots 8 (exW (code2 "java/lang/IndexOutOfBoundsException" "java/lang/IllegalArgumentException") post ad0 rmL_setColour.cells rmL_setColour.slots)),
  (8, oI2l 9),
  (9, oJas 10),
  (10, oGo 21),
  (21, oC (0) 22),
  (22, oRi post ad0 rmL_setColour.cells rmL_setColour.slots)]
set_option maxRecDepth 20000 in
theorem okL_setColour {Γ : aΓ} {post : Int32 → List aE → Prop} {ad0 : Nat → Nat} {X0 : List aE} (C : FOK Γ cL_setColour wsL_setColour RL 5 rmL_setColour) (CX : FOX Γ) (hN : FOW Γ) (hT : isTb Γ [(0, 10, 13, 19), (0, 10, 17, 13)]) (hQ : isQ Γ (va_Qi post (aBk (gK Γ) ad0 X0 (hsz Γ)) (aA (gK Γ) ad0 X0 (hsz Γ))) rmL_setColour ad0 X0) (hr : rTy Γ = some .int) : AllS Γ (tbL_setColour post ad0) := by
  unfold tbL_setColour
  refine al_c (pc := 0) (snd_aload_n C dL_setColour_0 rfl) ?_
  refine al_c (pc := 1) (snd_iconst C dL_setColour_1 (by decide)) ?_
  refine al_c (pc := 2) (snd_aload_n C dL_setColour_2 rfl) ?_
  refine al_c (pc := 3) (snd_iload_n C dL_setColour_3 rfl) ?_
  refine al_c (pc := 4) (snd_iload_n C dL_setColour_4 rfl) ?_
  refine al_c (pc := 5) (snd_GXi C CX (xsite_V C rfl dL_setColour_5 gL_setColour_X3_setColour rfl rfl rfl ⟨rfl, by decide +kernel, by decide +kernel, by decide +kernel⟩ ⟨by decide, by decide⟩) mX3_setColour (hexL_setColour C hN hT hQ hr)) ?_
  refine al_c (pc := 8) (snd_i2l C dL_setColour_8) ?_
  refine al_c (pc := 9) (snd_Jas C dL_setColour_9) ?_
  refine al_c (pc := 10) (snd_goto C dL_setColour_10 (by decide)) ?_
  refine al_c (pc := 21) (snd_iconst C dL_setColour_21 (by decide)) ?_
  refine al_c (pc := 22) (snd_Ri C hQ hr dL_setColour_22) ?_
  exact al_0
set_option maxHeartbeats 1000000 in
set_option maxRecDepth 100000 in
theorem mL_setColour : wMi yL_setColour wsL_setColour rmL_setColour (tW2 tX3_setColour (code2 "java/lang/IndexOutOfBoundsException" "java/lang/IllegalArgumentException") svI) := by
  refine wMi_of (hh := [(0, 10, 13, 19), (0, 10, 17, 13)]) (by decide +kernel) rfl rfl (by intro av X post hT; obtain ⟨a, b, q, rfl, hT⟩ := hT; exact Nat.le_of_ble_eq_true rfl) ?_
  intro Γ ad av X post C CX hN hTb hQ hr hT
  obtain ⟨a, b, q, rfl, fs, D9, Z, o, P, E, rfl, rfl, hT3, hp1, hp2⟩ := hT
  have OK := okL_setColour C CX hN hTb hQ hr
  refine go OK [] 60 ?_
  refine ⟨_ :: D9, Z ++ [.inr (.inr (1, o))], P, E, 0, _, fs, rfl, by decide, by decide, rfl, rfl, (List.append_assoc _ _ _), hT3, fun r C2 h => ?_, fun e C2 h => ?_⟩
  · obtain ⟨h1, h2⟩ := hp1 r C2 h
    exact ⟨h1, C2 ++ Z, o, (List.append_assoc _ _ _).symm, by rw [List.length_append, List.length_append, h1, List.length_cons], rfl, ⟨rfl, h2⟩⟩
  · obtain ⟨h1, v, h2, h3⟩ := hp2 e C2 h
    refine ⟨h1, v, h2, by decide, by decide, rfl, ?_⟩
    rw [← List.append_assoc]
    exact h3
abbrev rmL_addPaint : Room := { frames := 8, cells := 2, slots := 12, locals := 132 }
set_option maxHeartbeats 1000000 in
theorem hexL_addPaint {Γ : aΓ} {post : Int32 → List aE → Prop} {ad0 : Nat → Nat} {X0 : List aE} (C : FOK Γ cL_addPaint wsL_addPaint RL 5 rmL_addPaint) (hN : FOW Γ) (hT : isTb Γ [(0, 10, 13, 19), (0, 10, 17, 13)]) (hQ : isQ Γ (va_Qi post (aBk (gK Γ) ad0 X0 (hsz Γ)) (aA (gK Γ) ad0 X0 (hsz Γ))) rmL_addPaint ad0 X0) (hr : rTy Γ = some .int) : ∀ E ad k sl ls X, exW (code2 "java/lang/IndexOutOfBoundsException" "java/lang/IllegalArgumentException") post ad0 rmL_addPaint.cells rmL_addPaint.slots E ad k sl ls X → FX Γ 5 E ad k sl ls X := by
  intro E ad k sl ls X h
  obtain ⟨v, hE, hk, hsl, had, hp⟩ := h
  unfold code2 at hE
  by_cases z0 : E = "java/lang/IndexOutOfBoundsException"
  · rw [if_pos z0] at hE
    cases hE
    subst z0
    exact cat_W (i := 4) (h := 13) (kz := 2) (v := 1) (nm := "java/lang/IndexOutOfBoundsException") (x := ⟨0, 10, 13, 19⟩) (pre := []) (suf := [⟨0, 10, 17, 13⟩]) C hQ hr hT rfl (Or.inl rfl) hN rfl (by decide) (by decide +kernel) (by decide +kernel) rfl (Or.inl ⟨dL_addPaint_13, rfl⟩) (by decide) dL_addPaint_15 rfl dL_addPaint_16 ad k sl ls X hk hsl had hp
  · rw [if_neg z0] at hE
    by_cases z1 : E = "java/lang/IllegalArgumentException"
    · rw [if_pos z1] at hE
      cases hE
      subst z1
      exact cat_W (i := 4) (h := 17) (kz := 2) (v := 2) (nm := "java/lang/IndexOutOfBoundsException") (x := ⟨0, 10, 17, 13⟩) (pre := [⟨0, 10, 13, 19⟩]) (suf := []) C hQ hr hT rfl (Or.inr ⟨_, rfl, by decide, by decide +kernel, fun _ q => q.2⟩) hN rfl (by decide) (by decide +kernel) (by decide +kernel) rfl (Or.inl ⟨dL_addPaint_17, rfl⟩) (by decide) dL_addPaint_19 rfl dL_addPaint_20 ad k sl ls X hk hsl had hp
    · rw [if_neg z1] at hE
      cases hE
def tbL_addPaint (post : Int32 → List aE → Prop) (ad0 : Nat → Nat) : List (Nat × aO) := [(0, oAL 3 1),
  (1, oC (0) 2),
  (2, oAL 0 3),
  (3, oIL 1 4),
  (4, oIL 2 5),
  (5, oGXi tX3_addPaint 3 2 rmX3_addPaint.cells rmX3_addPaint.slots rmL_addPaint.cells rmL_addPaint.slots 8 (exW (code2 "java/lang/IndexOutOfBoundsException" "java/lang/IllegalArgumentException") post ad0 rmL_addPaint.cells rmL_addPaint.slots)),
  (8, oI2l 9),
  (9, oJas 10),
  (10, oGo 21),
  (21, oC (0) 22),
  (22, oRi post ad0 rmL_addPaint.cells rmL_addPaint.slots)]
set_option maxRecDepth 20000 in
theorem okL_addPaint {Γ : aΓ} {post : Int32 → List aE → Prop} {ad0 : Nat → Nat} {X0 : List aE} (C : FOK Γ cL_addPaint wsL_addPaint RL 5 rmL_addPaint) (CX : FOX Γ) (hN : FOW Γ) (hT : isTb Γ [(0, 10, 13, 19), (0, 10, 17, 13)]) (hQ : isQ Γ (va_Qi post (aBk (gK Γ) ad0 X0 (hsz Γ)) (aA (gK Γ) ad0 X0 (hsz Γ))) rmL_addPaint ad0 X0) (hr : rTy Γ = some .int) : AllS Γ (tbL_addPaint post ad0) := by
  unfold tbL_addPaint
  refine al_c (pc := 0) (snd_aload_n C dL_addPaint_0 rfl) ?_
  refine al_c (pc := 1) (snd_iconst C dL_addPaint_1 (by decide)) ?_
  refine al_c (pc := 2) (snd_aload_n C dL_addPaint_2 rfl) ?_
  refine al_c (pc := 3) (snd_iload_n C dL_addPaint_3 rfl) ?_
  refine al_c (pc := 4) (snd_iload_n C dL_addPaint_4 rfl) ?_
  refine al_c (pc := 5) (snd_GXi C CX (xsite_V C rfl dL_addPaint_5 gL_addPaint_X3_addPaint rfl rfl rfl ⟨rfl, by decide +kernel, by decide +kernel, by decide +kernel⟩ ⟨by decide, by decide⟩) mX3_addPaint (hexL_addPaint C hN hT hQ hr)) ?_
  refine al_c (pc := 8) (snd_i2l C dL_addPaint_8) ?_
  refine al_c (pc := 9) (snd_Jas C dL_addPaint_9) ?_
  refine al_c (pc := 10) (snd_goto C dL_addPaint_10 (by decide)) ?_
  refine al_c (pc := 21) (snd_iconst C dL_addPaint_21 (by decide)) ?_
  refine al_c (pc := 22) (snd_Ri C hQ hr dL_addPaint_22) ?_
  exact al_0
set_option maxHeartbeats 1000000 in
set_option maxRecDepth 100000 in
theorem mL_addPaint : wMi yL_addPaint wsL_addPaint rmL_addPaint (tW2 tX3_addPaint (code2 "java/lang/IndexOutOfBoundsException" "java/lang/IllegalArgumentException") svI) := by
  refine wMi_of (hh := [(0, 10, 13, 19), (0, 10, 17, 13)]) (by decide +kernel) rfl rfl (by intro av X post hT; obtain ⟨a, b, q, rfl, hT⟩ := hT; exact Nat.le_of_ble_eq_true rfl) ?_
  intro Γ ad av X post C CX hN hTb hQ hr hT
  obtain ⟨a, b, q, rfl, fs, D9, Z, o, P, E, rfl, rfl, hT3, hp1, hp2⟩ := hT
  have OK := okL_addPaint C CX hN hTb hQ hr
  refine go OK [] 60 ?_
  refine ⟨_ :: D9, Z ++ [.inr (.inr (1, o))], P, E, 0, _, fs, rfl, by decide, by decide, rfl, rfl, (List.append_assoc _ _ _), hT3, fun r C2 h => ?_, fun e C2 h => ?_⟩
  · obtain ⟨h1, h2⟩ := hp1 r C2 h
    exact ⟨h1, C2 ++ Z, o, (List.append_assoc _ _ _).symm, by rw [List.length_append, List.length_append, h1, List.length_cons], rfl, ⟨rfl, h2⟩⟩
  · obtain ⟨h1, v, h2, h3⟩ := hp2 e C2 h
    refine ⟨h1, v, h2, by decide, by decide, rfl, ?_⟩
    rw [← List.append_assoc]
    exact h3
abbrev rmL_put : Room := { frames := 8, cells := 2, slots := 12, locals := 135 }
set_option maxHeartbeats 1000000 in
theorem hexL_put {Γ : aΓ} {post : Int32 → List aE → Prop} {ad0 : Nat → Nat} {X0 : List aE} (C : FOK Γ cL_put wsL_put RL 5 rmL_put) (hN : FOW Γ) (hT : isTb Γ [(0, 10, 13, 19), (0, 10, 17, 21)]) (hQ : isQ Γ (va_Qi post (aBk (gK Γ) ad0 X0 (hsz Γ)) (aA (gK Γ) ad0 X0 (hsz Γ))) rmL_put ad0 X0) (hr : rTy Γ = some .int) : ∀ E ad k sl ls X, exW (code2 "java/lang/IndexOutOfBoundsException" "java/lang/IllegalStateException") post ad0 rmL_put.cells rmL_put.slots E ad k sl ls X → FX Γ 5 E ad k sl ls X := by
  intro E ad k sl ls X h
  obtain ⟨v, hE, hk, hsl, had, hp⟩ := h
  unfold code2 at hE
  by_cases z0 : E = "java/lang/IndexOutOfBoundsException"
  · rw [if_pos z0] at hE
    cases hE
    subst z0
    exact cat_W (i := 4) (h := 13) (kz := 2) (v := 1) (nm := "java/lang/IndexOutOfBoundsException") (x := ⟨0, 10, 13, 19⟩) (pre := []) (suf := [⟨0, 10, 17, 21⟩]) C hQ hr hT rfl (Or.inl rfl) hN rfl (by decide) (by decide +kernel) (by decide +kernel) rfl (Or.inl ⟨dL_put_13, rfl⟩) (by decide) dL_put_15 rfl dL_put_16 ad k sl ls X hk hsl had hp
  · rw [if_neg z0] at hE
    by_cases z1 : E = "java/lang/IllegalStateException"
    · rw [if_pos z1] at hE
      cases hE
      subst z1
      exact cat_W (i := 4) (h := 17) (kz := 2) (v := 2) (nm := "java/lang/IndexOutOfBoundsException") (x := ⟨0, 10, 17, 21⟩) (pre := [⟨0, 10, 13, 19⟩]) (suf := []) C hQ hr hT rfl (Or.inr ⟨_, rfl, by decide, by decide +kernel, fun _ q => q.1⟩) hN rfl (by decide) (by decide +kernel) (by decide +kernel) rfl (Or.inl ⟨dL_put_17, rfl⟩) (by decide) dL_put_19 rfl dL_put_20 ad k sl ls X hk hsl had hp
    · rw [if_neg z1] at hE
      cases hE
def tbL_put (post : Int32 → List aE → Prop) (ad0 : Nat → Nat) : List (Nat × aO) := [(0, oAL 3 1),
  (1, oC (0) 2),
  (2, oAL 0 3),
  (3, oIL 1 4),
  (4, oIL 2 5),
  (5, oGXi tX3_put 3 2 rmX3_put.cells rmX3_put.slots rmL_put.cells rmL_put.slots 8 (exW (code2 "java/lang/IndexOutOfBoundsException" "java/lang/IllegalStateException") post ad0 rmL_put.cells rmL_put.slots)),
  (8, oI2l 9),
  (9, oJas 10),
  (10, oGo 21),
  (21, oC (0) 22),
  (22, oRi post ad0 rmL_put.cells rmL_put.slots)]
set_option maxRecDepth 20000 in
theorem okL_put {Γ : aΓ} {post : Int32 → List aE → Prop} {ad0 : Nat → Nat} {X0 : List aE} (C : FOK Γ cL_put wsL_put RL 5 rmL_put) (CX : FOX Γ) (hN : FOW Γ) (hT : isTb Γ [(0, 10, 13, 19), (0, 10, 17, 21)]) (hQ : isQ Γ (va_Qi post (aBk (gK Γ) ad0 X0 (hsz Γ)) (aA (gK Γ) ad0 X0 (hsz Γ))) rmL_put ad0 X0) (hr : rTy Γ = some .int) : AllS Γ (tbL_put post ad0) := by
  unfold tbL_put
  refine al_c (pc := 0) (snd_aload_n C dL_put_0 rfl) ?_
  refine al_c (pc := 1) (snd_iconst C dL_put_1 (by decide)) ?_
  refine al_c (pc := 2) (snd_aload_n C dL_put_2 rfl) ?_
  refine al_c (pc := 3) (snd_iload_n C dL_put_3 rfl) ?_
  refine al_c (pc := 4) (snd_iload_n C dL_put_4 rfl) ?_
  refine al_c (pc := 5) (snd_GXi C CX (xsite_V C rfl dL_put_5 gL_put_X3_put rfl rfl rfl ⟨rfl, by decide +kernel, by decide +kernel, by decide +kernel⟩ ⟨by decide, by decide⟩) mX3_put (hexL_put C hN hT hQ hr)) ?_
  refine al_c (pc := 8) (snd_i2l C dL_put_8) ?_
  refine al_c (pc := 9) (snd_Jas C dL_put_9) ?_
  refine al_c (pc := 10) (snd_goto C dL_put_10 (by decide)) ?_
  refine al_c (pc := 21) (snd_iconst C dL_put_21 (by decide)) ?_
  refine al_c (pc := 22) (snd_Ri C hQ hr dL_put_22) ?_
  exact al_0
set_option maxHeartbeats 1000000 in
set_option maxRecDepth 100000 in
theorem mL_put : wMi yL_put wsL_put rmL_put (tW2 tX3_put (code2 "java/lang/IndexOutOfBoundsException" "java/lang/IllegalStateException") svI) := by
  refine wMi_of (hh := [(0, 10, 13, 19), (0, 10, 17, 21)]) (by decide +kernel) rfl rfl (by intro av X post hT; obtain ⟨a, b, q, rfl, hT⟩ := hT; exact Nat.le_of_ble_eq_true rfl) ?_
  intro Γ ad av X post C CX hN hTb hQ hr hT
  obtain ⟨a, b, q, rfl, fs, D9, Z, o, P, E, rfl, rfl, hT3, hp1, hp2⟩ := hT
  have OK := okL_put C CX hN hTb hQ hr
  refine go OK [] 60 ?_
  refine ⟨_ :: D9, Z ++ [.inr (.inr (1, o))], P, E, 0, _, fs, rfl, by decide, by decide, rfl, rfl, (List.append_assoc _ _ _), hT3, fun r C2 h => ?_, fun e C2 h => ?_⟩
  · obtain ⟨h1, h2⟩ := hp1 r C2 h
    exact ⟨h1, C2 ++ Z, o, (List.append_assoc _ _ _).symm, by rw [List.length_append, List.length_append, h1, List.length_cons], rfl, ⟨rfl, h2⟩⟩
  · obtain ⟨h1, v, h2, h3⟩ := hp2 e C2 h
    refine ⟨h1, v, h2, by decide, by decide, rfl, ?_⟩
    rw [← List.append_assoc]
    exact h3
abbrev rmL_roll : Room := { frames := 8, cells := 2, slots := 12, locals := 131 }
set_option maxHeartbeats 1000000 in
theorem hexL_roll {Γ : aΓ} {post : Int32 → List aE → Prop} {ad0 : Nat → Nat} {X0 : List aE} (C : FOK Γ cL_roll wsL_roll RL 4 rmL_roll) (hN : FOW Γ) (hT : isTb Γ [(0, 9, 12, 19), (0, 9, 15, 21)]) (hQ : isQ Γ (va_Qi post (aBk (gK Γ) ad0 X0 (hsz Γ)) (aA (gK Γ) ad0 X0 (hsz Γ))) rmL_roll ad0 X0) (hr : rTy Γ = some .int) : ∀ E ad k sl ls X, exW (code2 "java/lang/IndexOutOfBoundsException" "java/lang/IllegalStateException") post ad0 rmL_roll.cells rmL_roll.slots E ad k sl ls X → FX Γ 4 E ad k sl ls X := by
  intro E ad k sl ls X h
  obtain ⟨v, hE, hk, hsl, had, hp⟩ := h
  unfold code2 at hE
  by_cases z0 : E = "java/lang/IndexOutOfBoundsException"
  · rw [if_pos z0] at hE
    cases hE
    subst z0
    exact cat_W (i := 3) (h := 12) (kz := 1) (v := 1) (nm := "java/lang/IndexOutOfBoundsException") (x := ⟨0, 9, 12, 19⟩) (pre := []) (suf := [⟨0, 9, 15, 21⟩]) C hQ hr hT rfl (Or.inl rfl) hN rfl (by decide) (by decide +kernel) (by decide +kernel) rfl (Or.inr ⟨3, rfl, dL_roll_12, rfl⟩) (by decide) dL_roll_13 rfl dL_roll_14 ad k sl ls X hk hsl had hp
  · rw [if_neg z0] at hE
    by_cases z1 : E = "java/lang/IllegalStateException"
    · rw [if_pos z1] at hE
      cases hE
      subst z1
      exact cat_W (i := 3) (h := 15) (kz := 1) (v := 2) (nm := "java/lang/IndexOutOfBoundsException") (x := ⟨0, 9, 15, 21⟩) (pre := [⟨0, 9, 12, 19⟩]) (suf := []) C hQ hr hT rfl (Or.inr ⟨_, rfl, by decide, by decide +kernel, fun _ q => q.1⟩) hN rfl (by decide) (by decide +kernel) (by decide +kernel) rfl (Or.inr ⟨3, rfl, dL_roll_15, rfl⟩) (by decide) dL_roll_16 rfl dL_roll_17 ad k sl ls X hk hsl had hp
    · rw [if_neg z1] at hE
      cases hE
def tbL_roll (post : Int32 → List aE → Prop) (ad0 : Nat → Nat) : List (Nat × aO) := [(0, oAL 2 1),
  (1, oC (0) 2),
  (2, oAL 0 3),
  (3, oIL 1 4),
  (4, oGXi tX3_roll 2 2 rmX3_roll.cells rmX3_roll.slots rmL_roll.cells rmL_roll.slots 7 (exW (code2 "java/lang/IndexOutOfBoundsException" "java/lang/IllegalStateException") post ad0 rmL_roll.cells rmL_roll.slots)),
  (7, oI2l 8),
  (8, oJas 9),
  (9, oGo 18),
  (18, oC (0) 19),
  (19, oRi post ad0 rmL_roll.cells rmL_roll.slots)]
set_option maxRecDepth 20000 in
theorem okL_roll {Γ : aΓ} {post : Int32 → List aE → Prop} {ad0 : Nat → Nat} {X0 : List aE} (C : FOK Γ cL_roll wsL_roll RL 4 rmL_roll) (CX : FOX Γ) (hN : FOW Γ) (hT : isTb Γ [(0, 9, 12, 19), (0, 9, 15, 21)]) (hQ : isQ Γ (va_Qi post (aBk (gK Γ) ad0 X0 (hsz Γ)) (aA (gK Γ) ad0 X0 (hsz Γ))) rmL_roll ad0 X0) (hr : rTy Γ = some .int) : AllS Γ (tbL_roll post ad0) := by
  unfold tbL_roll
  refine al_c (pc := 0) (snd_aload_n C dL_roll_0 rfl) ?_
  refine al_c (pc := 1) (snd_iconst C dL_roll_1 (by decide)) ?_
  refine al_c (pc := 2) (snd_aload_n C dL_roll_2 rfl) ?_
  refine al_c (pc := 3) (snd_iload_n C dL_roll_3 rfl) ?_
  refine al_c (pc := 4) (snd_GXi C CX (xsite_V C rfl dL_roll_4 gL_roll_X3_roll rfl rfl rfl ⟨rfl, by decide +kernel, by decide +kernel, by decide +kernel⟩ ⟨by decide, by decide⟩) mX3_roll (hexL_roll C hN hT hQ hr)) ?_
  refine al_c (pc := 7) (snd_i2l C dL_roll_7) ?_
  refine al_c (pc := 8) (snd_Jas C dL_roll_8) ?_
  refine al_c (pc := 9) (snd_goto C dL_roll_9 (by decide)) ?_
  refine al_c (pc := 18) (snd_iconst C dL_roll_18 (by decide)) ?_
  refine al_c (pc := 19) (snd_Ri C hQ hr dL_roll_19) ?_
  exact al_0
set_option maxHeartbeats 1000000 in
set_option maxRecDepth 100000 in
theorem mL_roll : wMi yL_roll wsL_roll rmL_roll (tW1 tX3_roll (code2 "java/lang/IndexOutOfBoundsException" "java/lang/IllegalStateException") svI) := by
  refine wMi_of (hh := [(0, 9, 12, 19), (0, 9, 15, 21)]) (by decide +kernel) rfl rfl (by intro av X post hT; obtain ⟨a, q, rfl, hT⟩ := hT; exact Nat.le_of_ble_eq_true rfl) ?_
  intro Γ ad av X post C CX hN hTb hQ hr hT
  obtain ⟨a, q, rfl, fs, D9, Z, o, P, E, rfl, rfl, hT3, hp1, hp2⟩ := hT
  have OK := okL_roll C CX hN hTb hQ hr
  refine go OK [] 60 ?_
  refine ⟨_ :: D9, Z ++ [.inr (.inr (1, o))], P, E, 0, _, fs, rfl, by decide, by decide, rfl, rfl, (List.append_assoc _ _ _), hT3, fun r C2 h => ?_, fun e C2 h => ?_⟩
  · obtain ⟨h1, h2⟩ := hp1 r C2 h
    exact ⟨h1, C2 ++ Z, o, (List.append_assoc _ _ _).symm, by rw [List.length_append, List.length_append, h1, List.length_cons], rfl, ⟨rfl, h2⟩⟩
  · obtain ⟨h1, v, h2, h3⟩ := hp2 e C2 h
    refine ⟨h1, v, h2, by decide, by decide, rfl, ?_⟩
    rw [← List.append_assoc]
    exact h3
abbrev rmL_rollOn : Room := { frames := 8, cells := 2, slots := 12, locals := 133 }
set_option maxHeartbeats 1000000 in
theorem hexL_rollOn {Γ : aΓ} {post : Int32 → List aE → Prop} {ad0 : Nat → Nat} {X0 : List aE} (C : FOK Γ cL_rollOn wsL_rollOn RL 5 rmL_rollOn) (hN : FOW Γ) (hT : isTb Γ [(0, 10, 13, 19), (0, 10, 17, 13)]) (hQ : isQ Γ (va_Qi post (aBk (gK Γ) ad0 X0 (hsz Γ)) (aA (gK Γ) ad0 X0 (hsz Γ))) rmL_rollOn ad0 X0) (hr : rTy Γ = some .int) : ∀ E ad k sl ls X, exW (code2 "java/lang/IndexOutOfBoundsException" "java/lang/IllegalArgumentException") post ad0 rmL_rollOn.cells rmL_rollOn.slots E ad k sl ls X → FX Γ 5 E ad k sl ls X := by
  intro E ad k sl ls X h
  obtain ⟨v, hE, hk, hsl, had, hp⟩ := h
  unfold code2 at hE
  by_cases z0 : E = "java/lang/IndexOutOfBoundsException"
  · rw [if_pos z0] at hE
    cases hE
    subst z0
    exact cat_W (i := 4) (h := 13) (kz := 2) (v := 1) (nm := "java/lang/IndexOutOfBoundsException") (x := ⟨0, 10, 13, 19⟩) (pre := []) (suf := [⟨0, 10, 17, 13⟩]) C hQ hr hT rfl (Or.inl rfl) hN rfl (by decide) (by decide +kernel) (by decide +kernel) rfl (Or.inl ⟨dL_rollOn_13, rfl⟩) (by decide) dL_rollOn_15 rfl dL_rollOn_16 ad k sl ls X hk hsl had hp
  · rw [if_neg z0] at hE
    by_cases z1 : E = "java/lang/IllegalArgumentException"
    · rw [if_pos z1] at hE
      cases hE
      subst z1
      exact cat_W (i := 4) (h := 17) (kz := 2) (v := 2) (nm := "java/lang/IndexOutOfBoundsException") (x := ⟨0, 10, 17, 13⟩) (pre := [⟨0, 10, 13, 19⟩]) (suf := []) C hQ hr hT rfl (Or.inr ⟨_, rfl, by decide, by decide +kernel, fun _ q => q.2⟩) hN rfl (by decide) (by decide +kernel) (by decide +kernel) rfl (Or.inl ⟨dL_rollOn_17, rfl⟩) (by decide) dL_rollOn_19 rfl dL_rollOn_20 ad k sl ls X hk hsl had hp
    · rw [if_neg z1] at hE
      cases hE
def tbL_rollOn (post : Int32 → List aE → Prop) (ad0 : Nat → Nat) : List (Nat × aO) := [(0, oAL 3 1),
  (1, oC (0) 2),
  (2, oAL 0 3),
  (3, oIL 1 4),
  (4, oIL 2 5),
  (5, oGXi tX3_rollOn2 3 2 rmX3_rollOn.cells rmX3_rollOn.slots rmL_rollOn.cells rmL_rollOn.slots 8 (exW (code2 "java/lang/IndexOutOfBoundsException" "java/lang/IllegalArgumentException") post ad0 rmL_rollOn.cells rmL_rollOn.slots)),
  (8, oI2l 9),
  (9, oJas 10),
  (10, oGo 21),
  (21, oC (0) 22),
  (22, oRi post ad0 rmL_rollOn.cells rmL_rollOn.slots)]
set_option maxRecDepth 20000 in
theorem okL_rollOn {Γ : aΓ} {post : Int32 → List aE → Prop} {ad0 : Nat → Nat} {X0 : List aE} (C : FOK Γ cL_rollOn wsL_rollOn RL 5 rmL_rollOn) (CX : FOX Γ) (hN : FOW Γ) (hT : isTb Γ [(0, 10, 13, 19), (0, 10, 17, 13)]) (hQ : isQ Γ (va_Qi post (aBk (gK Γ) ad0 X0 (hsz Γ)) (aA (gK Γ) ad0 X0 (hsz Γ))) rmL_rollOn ad0 X0) (hr : rTy Γ = some .int) : AllS Γ (tbL_rollOn post ad0) := by
  unfold tbL_rollOn
  refine al_c (pc := 0) (snd_aload_n C dL_rollOn_0 rfl) ?_
  refine al_c (pc := 1) (snd_iconst C dL_rollOn_1 (by decide)) ?_
  refine al_c (pc := 2) (snd_aload_n C dL_rollOn_2 rfl) ?_
  refine al_c (pc := 3) (snd_iload_n C dL_rollOn_3 rfl) ?_
  refine al_c (pc := 4) (snd_iload_n C dL_rollOn_4 rfl) ?_
  refine al_c (pc := 5) (snd_GXi C CX (xsite_V C rfl dL_rollOn_5 gL_rollOn_X3_rollOn rfl rfl rfl ⟨rfl, by decide +kernel, by decide +kernel, by decide +kernel⟩ ⟨by decide, by decide⟩) mX3_rollOn2 (hexL_rollOn C hN hT hQ hr)) ?_
  refine al_c (pc := 8) (snd_i2l C dL_rollOn_8) ?_
  refine al_c (pc := 9) (snd_Jas C dL_rollOn_9) ?_
  refine al_c (pc := 10) (snd_goto C dL_rollOn_10 (by decide)) ?_
  refine al_c (pc := 21) (snd_iconst C dL_rollOn_21 (by decide)) ?_
  refine al_c (pc := 22) (snd_Ri C hQ hr dL_rollOn_22) ?_
  exact al_0
set_option maxHeartbeats 1000000 in
set_option maxRecDepth 100000 in
theorem mL_rollOn : wMi yL_rollOn wsL_rollOn rmL_rollOn (tW2 tX3_rollOn2 (code2 "java/lang/IndexOutOfBoundsException" "java/lang/IllegalArgumentException") svI) := by
  refine wMi_of (hh := [(0, 10, 13, 19), (0, 10, 17, 13)]) (by decide +kernel) rfl rfl (by intro av X post hT; obtain ⟨a, b, q, rfl, hT⟩ := hT; exact Nat.le_of_ble_eq_true rfl) ?_
  intro Γ ad av X post C CX hN hTb hQ hr hT
  obtain ⟨a, b, q, rfl, fs, D9, Z, o, P, E, rfl, rfl, hT3, hp1, hp2⟩ := hT
  have OK := okL_rollOn C CX hN hTb hQ hr
  refine go OK [] 60 ?_
  refine ⟨_ :: D9, Z ++ [.inr (.inr (1, o))], P, E, 0, _, fs, rfl, by decide, by decide, rfl, rfl, (List.append_assoc _ _ _), hT3, fun r C2 h => ?_, fun e C2 h => ?_⟩
  · obtain ⟨h1, h2⟩ := hp1 r C2 h
    exact ⟨h1, C2 ++ Z, o, (List.append_assoc _ _ _).symm, by rw [List.length_append, List.length_append, h1, List.length_cons], rfl, ⟨rfl, h2⟩⟩
  · obtain ⟨h1, v, h2, h3⟩ := hp2 e C2 h
    refine ⟨h1, v, h2, by decide, by decide, rfl, ?_⟩
    rw [← List.append_assoc]
    exact h3
abbrev rmL_faceTo : Room := { frames := 8, cells := 1, slots := 6, locals := 131 }
set_option maxHeartbeats 1000000 in
theorem hexL_faceTo {Γ : aΓ} {post : Int32 → List aE → Prop} {ad0 : Nat → Nat} {X0 : List aE} (C : FOK Γ cL_faceTo wsL_faceTo RL 4 rmL_faceTo) (hN : FOW Γ) (hT : isTb Γ [(0, 9, 12, 19)]) (hQ : isQ Γ (va_Qi post (aBk (gK Γ) ad0 X0 (hsz Γ)) (aA (gK Γ) ad0 X0 (hsz Γ))) rmL_faceTo ad0 X0) (hr : rTy Γ = some .int) : ∀ E ad k sl ls X, exW (code1 "java/lang/IndexOutOfBoundsException") post ad0 rmL_faceTo.cells rmL_faceTo.slots E ad k sl ls X → FX Γ 4 E ad k sl ls X := by
  intro E ad k sl ls X h
  obtain ⟨v, hE, hk, hsl, had, hp⟩ := h
  unfold code1 at hE
  by_cases z0 : E = "java/lang/IndexOutOfBoundsException"
  · rw [if_pos z0] at hE
    cases hE
    subst z0
    exact cat_W (i := 3) (h := 12) (kz := 1) (v := 1) (nm := "java/lang/IndexOutOfBoundsException") (x := ⟨0, 9, 12, 19⟩) (pre := []) (suf := []) C hQ hr hT rfl (Or.inl rfl) hN rfl (by decide) (by decide +kernel) (by decide +kernel) rfl (Or.inr ⟨3, rfl, dL_faceTo_12, rfl⟩) (by decide) dL_faceTo_13 rfl dL_faceTo_14 ad k sl ls X hk hsl had hp
  · rw [if_neg z0] at hE
    cases hE
def tbL_faceTo (post : Int32 → List aE → Prop) (ad0 : Nat → Nat) : List (Nat × aO) := [(0, oAL 2 1),
  (1, oC (0) 2),
  (2, oAL 0 3),
  (3, oIL 1 4),
  (4, oGXi tX3_faceTo 2 2 rmX3_faceTo.cells rmX3_faceTo.slots rmL_faceTo.cells rmL_faceTo.slots 7 (exW (code1 "java/lang/IndexOutOfBoundsException") post ad0 rmL_faceTo.cells rmL_faceTo.slots)),
  (7, oI2l 8),
  (8, oJas 9),
  (9, oGo 15),
  (15, oC (0) 16),
  (16, oRi post ad0 rmL_faceTo.cells rmL_faceTo.slots)]
set_option maxRecDepth 20000 in
theorem okL_faceTo {Γ : aΓ} {post : Int32 → List aE → Prop} {ad0 : Nat → Nat} {X0 : List aE} (C : FOK Γ cL_faceTo wsL_faceTo RL 4 rmL_faceTo) (CX : FOX Γ) (hN : FOW Γ) (hT : isTb Γ [(0, 9, 12, 19)]) (hQ : isQ Γ (va_Qi post (aBk (gK Γ) ad0 X0 (hsz Γ)) (aA (gK Γ) ad0 X0 (hsz Γ))) rmL_faceTo ad0 X0) (hr : rTy Γ = some .int) : AllS Γ (tbL_faceTo post ad0) := by
  unfold tbL_faceTo
  refine al_c (pc := 0) (snd_aload_n C dL_faceTo_0 rfl) ?_
  refine al_c (pc := 1) (snd_iconst C dL_faceTo_1 (by decide)) ?_
  refine al_c (pc := 2) (snd_aload_n C dL_faceTo_2 rfl) ?_
  refine al_c (pc := 3) (snd_iload_n C dL_faceTo_3 rfl) ?_
  refine al_c (pc := 4) (snd_GXi C CX (xsite_V C rfl dL_faceTo_4 gL_faceTo_X3_faceTo rfl rfl rfl ⟨rfl, by decide +kernel, by decide +kernel, by decide +kernel⟩ ⟨by decide, by decide⟩) mX3_faceTo (hexL_faceTo C hN hT hQ hr)) ?_
  refine al_c (pc := 7) (snd_i2l C dL_faceTo_7) ?_
  refine al_c (pc := 8) (snd_Jas C dL_faceTo_8) ?_
  refine al_c (pc := 9) (snd_goto C dL_faceTo_9 (by decide)) ?_
  refine al_c (pc := 15) (snd_iconst C dL_faceTo_15 (by decide)) ?_
  refine al_c (pc := 16) (snd_Ri C hQ hr dL_faceTo_16) ?_
  exact al_0
set_option maxHeartbeats 1000000 in
set_option maxRecDepth 100000 in
theorem mL_faceTo : wMi yL_faceTo wsL_faceTo rmL_faceTo (tW1 tX3_faceTo (code1 "java/lang/IndexOutOfBoundsException") svI) := by
  refine wMi_of (hh := [(0, 9, 12, 19)]) (by decide +kernel) rfl rfl (by intro av X post hT; obtain ⟨a, q, rfl, hT⟩ := hT; exact Nat.le_of_ble_eq_true rfl) ?_
  intro Γ ad av X post C CX hN hTb hQ hr hT
  obtain ⟨a, q, rfl, fs, D9, Z, o, P, E, rfl, rfl, hT3, hp1, hp2⟩ := hT
  have OK := okL_faceTo C CX hN hTb hQ hr
  refine go OK [] 60 ?_
  refine ⟨_ :: D9, Z ++ [.inr (.inr (1, o))], P, E, 0, _, fs, rfl, by decide, by decide, rfl, rfl, (List.append_assoc _ _ _), hT3, fun r C2 h => ?_, fun e C2 h => ?_⟩
  · obtain ⟨h1, h2⟩ := hp1 r C2 h
    exact ⟨h1, C2 ++ Z, o, (List.append_assoc _ _ _).symm, by rw [List.length_append, List.length_append, h1, List.length_cons], rfl, ⟨rfl, h2⟩⟩
  · obtain ⟨h1, v, h2, h3⟩ := hp2 e C2 h
    refine ⟨h1, v, h2, by decide, by decide, rfl, ?_⟩
    rw [← List.append_assoc]
    exact h3
abbrev rmL_colourOf : Room := { frames := 8, cells := 1, slots := 6, locals := 131 }
set_option maxHeartbeats 1000000 in
theorem hexL_colourOf {Γ : aΓ} {post : Int32 → List aE → Prop} {ad0 : Nat → Nat} {X0 : List aE} (C : FOK Γ cL_colourOf wsL_colourOf RL 4 rmL_colourOf) (hN : FOW Γ) (hT : isTb Γ [(0, 9, 12, 19)]) (hQ : isQ Γ (va_Qi post (aBk (gK Γ) ad0 X0 (hsz Γ)) (aA (gK Γ) ad0 X0 (hsz Γ))) rmL_colourOf ad0 X0) (hr : rTy Γ = some .int) : ∀ E ad k sl ls X, exW (code1 "java/lang/IndexOutOfBoundsException") post ad0 rmL_colourOf.cells rmL_colourOf.slots E ad k sl ls X → FX Γ 4 E ad k sl ls X := by
  intro E ad k sl ls X h
  obtain ⟨v, hE, hk, hsl, had, hp⟩ := h
  unfold code1 at hE
  by_cases z0 : E = "java/lang/IndexOutOfBoundsException"
  · rw [if_pos z0] at hE
    cases hE
    subst z0
    exact cat_W (i := 3) (h := 12) (kz := 1) (v := 1) (nm := "java/lang/IndexOutOfBoundsException") (x := ⟨0, 9, 12, 19⟩) (pre := []) (suf := []) C hQ hr hT rfl (Or.inl rfl) hN rfl (by decide) (by decide +kernel) (by decide +kernel) rfl (Or.inr ⟨3, rfl, dL_colourOf_12, rfl⟩) (by decide) dL_colourOf_13 rfl dL_colourOf_14 ad k sl ls X hk hsl had hp
  · rw [if_neg z0] at hE
    cases hE
def tbL_colourOf (post : Int32 → List aE → Prop) (ad0 : Nat → Nat) : List (Nat × aO) := [(0, oAL 2 1),
  (1, oC (0) 2),
  (2, oAL 0 3),
  (3, oIL 1 4),
  (4, oGXi tX3_colourOf 2 2 rmX3_colourOf.cells rmX3_colourOf.slots rmL_colourOf.cells rmL_colourOf.slots 7 (exW (code1 "java/lang/IndexOutOfBoundsException") post ad0 rmL_colourOf.cells rmL_colourOf.slots)),
  (7, oI2l 8),
  (8, oJas 9),
  (9, oGo 15),
  (15, oC (0) 16),
  (16, oRi post ad0 rmL_colourOf.cells rmL_colourOf.slots)]
set_option maxRecDepth 20000 in
theorem okL_colourOf {Γ : aΓ} {post : Int32 → List aE → Prop} {ad0 : Nat → Nat} {X0 : List aE} (C : FOK Γ cL_colourOf wsL_colourOf RL 4 rmL_colourOf) (CX : FOX Γ) (hN : FOW Γ) (hT : isTb Γ [(0, 9, 12, 19)]) (hQ : isQ Γ (va_Qi post (aBk (gK Γ) ad0 X0 (hsz Γ)) (aA (gK Γ) ad0 X0 (hsz Γ))) rmL_colourOf ad0 X0) (hr : rTy Γ = some .int) : AllS Γ (tbL_colourOf post ad0) := by
  unfold tbL_colourOf
  refine al_c (pc := 0) (snd_aload_n C dL_colourOf_0 rfl) ?_
  refine al_c (pc := 1) (snd_iconst C dL_colourOf_1 (by decide)) ?_
  refine al_c (pc := 2) (snd_aload_n C dL_colourOf_2 rfl) ?_
  refine al_c (pc := 3) (snd_iload_n C dL_colourOf_3 rfl) ?_
  refine al_c (pc := 4) (snd_GXi C CX (xsite_V C rfl dL_colourOf_4 gL_colourOf_X3_colourOf rfl rfl rfl ⟨rfl, by decide +kernel, by decide +kernel, by decide +kernel⟩ ⟨by decide, by decide⟩) mX3_colourOf (hexL_colourOf C hN hT hQ hr)) ?_
  refine al_c (pc := 7) (snd_i2l C dL_colourOf_7) ?_
  refine al_c (pc := 8) (snd_Jas C dL_colourOf_8) ?_
  refine al_c (pc := 9) (snd_goto C dL_colourOf_9 (by decide)) ?_
  refine al_c (pc := 15) (snd_iconst C dL_colourOf_15 (by decide)) ?_
  refine al_c (pc := 16) (snd_Ri C hQ hr dL_colourOf_16) ?_
  exact al_0
set_option maxHeartbeats 1000000 in
set_option maxRecDepth 100000 in
theorem mL_colourOf : wMi yL_colourOf wsL_colourOf rmL_colourOf (tW1 tX3_colourOf (code1 "java/lang/IndexOutOfBoundsException") svI) := by
  refine wMi_of (hh := [(0, 9, 12, 19)]) (by decide +kernel) rfl rfl (by intro av X post hT; obtain ⟨a, q, rfl, hT⟩ := hT; exact Nat.le_of_ble_eq_true rfl) ?_
  intro Γ ad av X post C CX hN hTb hQ hr hT
  obtain ⟨a, q, rfl, fs, D9, Z, o, P, E, rfl, rfl, hT3, hp1, hp2⟩ := hT
  have OK := okL_colourOf C CX hN hTb hQ hr
  refine go OK [] 60 ?_
  refine ⟨_ :: D9, Z ++ [.inr (.inr (1, o))], P, E, 0, _, fs, rfl, by decide, by decide, rfl, rfl, (List.append_assoc _ _ _), hT3, fun r C2 h => ?_, fun e C2 h => ?_⟩
  · obtain ⟨h1, h2⟩ := hp1 r C2 h
    exact ⟨h1, C2 ++ Z, o, (List.append_assoc _ _ _).symm, by rw [List.length_append, List.length_append, h1, List.length_cons], rfl, ⟨rfl, h2⟩⟩
  · obtain ⟨h1, v, h2, h3⟩ := hp2 e C2 h
    refine ⟨h1, v, h2, by decide, by decide, rfl, ?_⟩
    rw [← List.append_assoc]
    exact h3
abbrev rmL_paintOf : Room := { frames := 8, cells := 1, slots := 6, locals := 131 }
set_option maxHeartbeats 1000000 in
theorem hexL_paintOf {Γ : aΓ} {post : Int32 → List aE → Prop} {ad0 : Nat → Nat} {X0 : List aE} (C : FOK Γ cL_paintOf wsL_paintOf RL 4 rmL_paintOf) (hN : FOW Γ) (hT : isTb Γ [(0, 9, 12, 19)]) (hQ : isQ Γ (va_Qi post (aBk (gK Γ) ad0 X0 (hsz Γ)) (aA (gK Γ) ad0 X0 (hsz Γ))) rmL_paintOf ad0 X0) (hr : rTy Γ = some .int) : ∀ E ad k sl ls X, exW (code1 "java/lang/IndexOutOfBoundsException") post ad0 rmL_paintOf.cells rmL_paintOf.slots E ad k sl ls X → FX Γ 4 E ad k sl ls X := by
  intro E ad k sl ls X h
  obtain ⟨v, hE, hk, hsl, had, hp⟩ := h
  unfold code1 at hE
  by_cases z0 : E = "java/lang/IndexOutOfBoundsException"
  · rw [if_pos z0] at hE
    cases hE
    subst z0
    exact cat_W (i := 3) (h := 12) (kz := 1) (v := 1) (nm := "java/lang/IndexOutOfBoundsException") (x := ⟨0, 9, 12, 19⟩) (pre := []) (suf := []) C hQ hr hT rfl (Or.inl rfl) hN rfl (by decide) (by decide +kernel) (by decide +kernel) rfl (Or.inr ⟨3, rfl, dL_paintOf_12, rfl⟩) (by decide) dL_paintOf_13 rfl dL_paintOf_14 ad k sl ls X hk hsl had hp
  · rw [if_neg z0] at hE
    cases hE
def tbL_paintOf (post : Int32 → List aE → Prop) (ad0 : Nat → Nat) : List (Nat × aO) := [(0, oAL 2 1),
  (1, oC (0) 2),
  (2, oAL 0 3),
  (3, oIL 1 4),
  (4, oGXi tX3_paintOf 2 2 rmX3_paintOf.cells rmX3_paintOf.slots rmL_paintOf.cells rmL_paintOf.slots 7 (exW (code1 "java/lang/IndexOutOfBoundsException") post ad0 rmL_paintOf.cells rmL_paintOf.slots)),
  (7, oI2l 8),
  (8, oJas 9),
  (9, oGo 15),
  (15, oC (0) 16),
  (16, oRi post ad0 rmL_paintOf.cells rmL_paintOf.slots)]
set_option maxRecDepth 20000 in
theorem okL_paintOf {Γ : aΓ} {post : Int32 → List aE → Prop} {ad0 : Nat → Nat} {X0 : List aE} (C : FOK Γ cL_paintOf wsL_paintOf RL 4 rmL_paintOf) (CX : FOX Γ) (hN : FOW Γ) (hT : isTb Γ [(0, 9, 12, 19)]) (hQ : isQ Γ (va_Qi post (aBk (gK Γ) ad0 X0 (hsz Γ)) (aA (gK Γ) ad0 X0 (hsz Γ))) rmL_paintOf ad0 X0) (hr : rTy Γ = some .int) : AllS Γ (tbL_paintOf post ad0) := by
  unfold tbL_paintOf
  refine al_c (pc := 0) (snd_aload_n C dL_paintOf_0 rfl) ?_
  refine al_c (pc := 1) (snd_iconst C dL_paintOf_1 (by decide)) ?_
  refine al_c (pc := 2) (snd_aload_n C dL_paintOf_2 rfl) ?_
  refine al_c (pc := 3) (snd_iload_n C dL_paintOf_3 rfl) ?_
  refine al_c (pc := 4) (snd_GXi C CX (xsite_V C rfl dL_paintOf_4 gL_paintOf_X3_paintOf rfl rfl rfl ⟨rfl, by decide +kernel, by decide +kernel, by decide +kernel⟩ ⟨by decide, by decide⟩) mX3_paintOf (hexL_paintOf C hN hT hQ hr)) ?_
  refine al_c (pc := 7) (snd_i2l C dL_paintOf_7) ?_
  refine al_c (pc := 8) (snd_Jas C dL_paintOf_8) ?_
  refine al_c (pc := 9) (snd_goto C dL_paintOf_9 (by decide)) ?_
  refine al_c (pc := 15) (snd_iconst C dL_paintOf_15 (by decide)) ?_
  refine al_c (pc := 16) (snd_Ri C hQ hr dL_paintOf_16) ?_
  exact al_0
set_option maxHeartbeats 1000000 in
set_option maxRecDepth 100000 in
theorem mL_paintOf : wMi yL_paintOf wsL_paintOf rmL_paintOf (tW1 tX3_paintOf (code1 "java/lang/IndexOutOfBoundsException") svI) := by
  refine wMi_of (hh := [(0, 9, 12, 19)]) (by decide +kernel) rfl rfl (by intro av X post hT; obtain ⟨a, q, rfl, hT⟩ := hT; exact Nat.le_of_ble_eq_true rfl) ?_
  intro Γ ad av X post C CX hN hTb hQ hr hT
  obtain ⟨a, q, rfl, fs, D9, Z, o, P, E, rfl, rfl, hT3, hp1, hp2⟩ := hT
  have OK := okL_paintOf C CX hN hTb hQ hr
  refine go OK [] 60 ?_
  refine ⟨_ :: D9, Z ++ [.inr (.inr (1, o))], P, E, 0, _, fs, rfl, by decide, by decide, rfl, rfl, (List.append_assoc _ _ _), hT3, fun r C2 h => ?_, fun e C2 h => ?_⟩
  · obtain ⟨h1, h2⟩ := hp1 r C2 h
    exact ⟨h1, C2 ++ Z, o, (List.append_assoc _ _ _).symm, by rw [List.length_append, List.length_append, h1, List.length_cons], rfl, ⟨rfl, h2⟩⟩
  · obtain ⟨h1, v, h2, h3⟩ := hp2 e C2 h
    refine ⟨h1, v, h2, by decide, by decide, rfl, ?_⟩
    rw [← List.append_assoc]
    exact h3
