/-! ===== the wrappers, by program (mkwrap.py) ===== -/
abbrev rmL_isWall : Room := { frames := 8, cells := 1, slots := 6, locals := 134 }
set_option maxHeartbeats 1000000 in
theorem hexL_isWall {Γ : aΓ} {post : Int32 → List aE → Prop} {ad0 : Nat → Nat} {X0 : List aE} (C : FOK Γ cL_isWall wsL_isWall RL 5 rmL_isWall) (hN : FOW Γ) (hT : isTb Γ [(0, 17, 20, 19)]) (hQ : isQ Γ (va_Qi post (aBk (gK Γ) ad0 X0 (hsz Γ)) (aA (gK Γ) ad0 X0 (hsz Γ))) rmL_isWall ad0 X0) (hr : rTy Γ = some .int) : ∀ E ad k sl ls X, exW (code1 "java/lang/IndexOutOfBoundsException") post ad0 rmL_isWall.cells rmL_isWall.slots E ad k sl ls X → FX Γ 5 E ad k sl ls X := by
  intro E ad k sl ls X h
  obtain ⟨v, hE, hk, hsl, had, hp⟩ := h
  unfold code1 at hE
  by_cases z0 : E = "java/lang/IndexOutOfBoundsException"
  · rw [if_pos z0] at hE
    cases hE
    subst z0
    exact cat_W (i := 4) (h := 20) (kz := 2) (v := 1) (nm := "java/lang/IndexOutOfBoundsException") (x := ⟨0, 17, 20, 19⟩) (pre := []) (suf := []) C hQ hr hT rfl (Or.inl rfl) hN rfl (by decide) (by decide +kernel) (by decide +kernel) rfl (Or.inl ⟨dL_isWall_20, rfl⟩) (by decide) dL_isWall_22 rfl dL_isWall_23 ad k sl ls X hk hsl had hp
  · rw [if_neg z0] at hE
    cases hE
def tbL_isWall (post : Int32 → List aE → Prop) (ad0 : Nat → Nat) : List (Nat × aO) := [(0, oAL 3 1),
  (1, oC (0) 2),
  (2, oAL 0 3),
  (3, oIL 1 4),
  (4, oIL 2 5),
  (5, oGXi tX3_isWall 3 2 rmX3_isWall.cells rmX3_isWall.slots rmL_isWall.cells rmL_isWall.slots 8 (exW (code1 "java/lang/IndexOutOfBoundsException") post ad0 rmL_isWall.cells rmL_isWall.slots)),
  (8, oIf_eq 15 11),
  (11, oCL 1 12),
  (12, oGo 16),
  (15, oCL 0 16),
  (16, oJas 17),
  (17, oGo 24),
  (24, oC (0) 25),
  (25, oRi post ad0 rmL_isWall.cells rmL_isWall.slots)]
set_option maxRecDepth 20000 in
theorem okL_isWall {Γ : aΓ} {post : Int32 → List aE → Prop} {ad0 : Nat → Nat} {X0 : List aE} (C : FOK Γ cL_isWall wsL_isWall RL 5 rmL_isWall) (CX : FOX Γ) (hN : FOW Γ) (hT : isTb Γ [(0, 17, 20, 19)]) (hQ : isQ Γ (va_Qi post (aBk (gK Γ) ad0 X0 (hsz Γ)) (aA (gK Γ) ad0 X0 (hsz Γ))) rmL_isWall ad0 X0) (hr : rTy Γ = some .int) : AllS Γ (tbL_isWall post ad0) := by
  unfold tbL_isWall
  refine al_c (pc := 0) (snd_aload_n C dL_isWall_0 rfl) ?_
  refine al_c (pc := 1) (snd_iconst C dL_isWall_1 (by decide)) ?_
  refine al_c (pc := 2) (snd_aload_n C dL_isWall_2 rfl) ?_
  refine al_c (pc := 3) (snd_iload_n C dL_isWall_3 rfl) ?_
  refine al_c (pc := 4) (snd_iload_n C dL_isWall_4 rfl) ?_
  refine al_c (pc := 5) (snd_GXi C CX (xsite_V C rfl dL_isWall_5 gL_isWall_X3_isWall rfl rfl rfl ⟨rfl, by decide +kernel, by decide +kernel, by decide +kernel⟩ ⟨by decide, by decide⟩) mX3_isWall (hexL_isWall C hN hT hQ hr)) ?_
  refine al_c (pc := 8) (snd_if_eq C dL_isWall_8 (by decide)) ?_
  refine al_c (pc := 11) (snd_lconst C dL_isWall_11 (by decide)) ?_
  refine al_c (pc := 12) (snd_goto C dL_isWall_12 (by decide)) ?_
  refine al_c (pc := 15) (snd_lconst C dL_isWall_15 (by decide)) ?_
  refine al_c (pc := 16) (snd_Jas C dL_isWall_16) ?_
  refine al_c (pc := 17) (snd_goto C dL_isWall_17 (by decide)) ?_
  refine al_c (pc := 24) (snd_iconst C dL_isWall_24 (by decide)) ?_
  refine al_c (pc := 25) (snd_Ri C hQ hr dL_isWall_25) ?_
  exact al_0
set_option maxHeartbeats 1000000 in
set_option maxRecDepth 100000 in
theorem mL_isWall : wMi yL_isWall wsL_isWall rmL_isWall (tW2 tX3_isWall (code1 "java/lang/IndexOutOfBoundsException") svZ) := by
  refine wMi_of (hh := [(0, 17, 20, 19)]) (by decide +kernel) rfl rfl (by intro av X post hT; obtain ⟨a, b, q, rfl, hT⟩ := hT; exact Nat.le_of_ble_eq_true rfl) ?_
  intro Γ ad av X post C CX hN hTb hQ hr hT
  obtain ⟨a, b, q, rfl, fs, D9, Z, o, P, E, rfl, rfl, hT3, hp1, hp2⟩ := hT
  have OK := okL_isWall C CX hN hTb hQ hr
  refine go OK [] 60 ?_
  refine ⟨_ :: D9, Z ++ [.inr (.inr (1, o))], P, E, 0, _, fs, rfl, by decide, by decide, rfl, rfl, (List.append_assoc _ _ _), hT3, fun r C2 h => ?_, fun e C2 h => ?_⟩
  · obtain ⟨h1, h2⟩ := hp1 r C2 h
    refine ⟨h1, And.intro (fun z => ?_) (fun z => ?_)⟩
    · have he9 : svZ r = 0 := if_pos z
      rw [he9] at h2
      exact ⟨C2 ++ Z, o, (List.append_assoc _ _ _).symm, by rw [List.length_append, List.length_append, h1, List.length_cons], rfl, ⟨rfl, h2⟩⟩
    · have he9 : svZ r = 1 := if_neg z
      rw [he9] at h2
      exact ⟨C2 ++ Z, o, (List.append_assoc _ _ _).symm, by rw [List.length_append, List.length_append, h1, List.length_cons], rfl, ⟨rfl, h2⟩⟩
  · obtain ⟨h1, v, h2, h3⟩ := hp2 e C2 h
    refine ⟨h1, v, h2, by decide, by decide, rfl, ?_⟩
    rw [← List.append_assoc]
    exact h3
abbrev rmL_printAt : Room := { frames := 8, cells := 1, slots := 6, locals := 134 }
set_option maxHeartbeats 1000000 in
theorem hexL_printAt {Γ : aΓ} {post : Int32 → List aE → Prop} {ad0 : Nat → Nat} {X0 : List aE} (C : FOK Γ cL_printAt wsL_printAt RL 5 rmL_printAt) (hN : FOW Γ) (hT : isTb Γ [(0, 10, 13, 19)]) (hQ : isQ Γ (va_Qi post (aBk (gK Γ) ad0 X0 (hsz Γ)) (aA (gK Γ) ad0 X0 (hsz Γ))) rmL_printAt ad0 X0) (hr : rTy Γ = some .int) : ∀ E ad k sl ls X, exW (code1 "java/lang/IndexOutOfBoundsException") post ad0 rmL_printAt.cells rmL_printAt.slots E ad k sl ls X → FX Γ 5 E ad k sl ls X := by
  intro E ad k sl ls X h
  obtain ⟨v, hE, hk, hsl, had, hp⟩ := h
  unfold code1 at hE
  by_cases z0 : E = "java/lang/IndexOutOfBoundsException"
  · rw [if_pos z0] at hE
    cases hE
    subst z0
    exact cat_W (i := 4) (h := 13) (kz := 2) (v := 1) (nm := "java/lang/IndexOutOfBoundsException") (x := ⟨0, 10, 13, 19⟩) (pre := []) (suf := []) C hQ hr hT rfl (Or.inl rfl) hN rfl (by decide) (by decide +kernel) (by decide +kernel) rfl (Or.inl ⟨dL_printAt_13, rfl⟩) (by decide) dL_printAt_15 rfl dL_printAt_16 ad k sl ls X hk hsl had hp
  · rw [if_neg z0] at hE
    cases hE
def tbL_printAt (post : Int32 → List aE → Prop) (ad0 : Nat → Nat) : List (Nat × aO) := [(0, oAL 3 1),
  (1, oC (0) 2),
  (2, oAL 0 3),
  (3, oIL 1 4),
  (4, oIL 2 5),
  (5, oGXi tX3_printAt 3 2 rmX3_printAt.cells rmX3_printAt.slots rmL_printAt.cells rmL_printAt.slots 8 (exW (code1 "java/lang/IndexOutOfBoundsException") post ad0 rmL_printAt.cells rmL_printAt.slots)),
  (8, oI2l 9),
  (9, oJas 10),
  (10, oGo 17),
  (17, oC (0) 18),
  (18, oRi post ad0 rmL_printAt.cells rmL_printAt.slots)]
set_option maxRecDepth 20000 in
theorem okL_printAt {Γ : aΓ} {post : Int32 → List aE → Prop} {ad0 : Nat → Nat} {X0 : List aE} (C : FOK Γ cL_printAt wsL_printAt RL 5 rmL_printAt) (CX : FOX Γ) (hN : FOW Γ) (hT : isTb Γ [(0, 10, 13, 19)]) (hQ : isQ Γ (va_Qi post (aBk (gK Γ) ad0 X0 (hsz Γ)) (aA (gK Γ) ad0 X0 (hsz Γ))) rmL_printAt ad0 X0) (hr : rTy Γ = some .int) : AllS Γ (tbL_printAt post ad0) := by
  unfold tbL_printAt
  refine al_c (pc := 0) (snd_aload_n C dL_printAt_0 rfl) ?_
  refine al_c (pc := 1) (snd_iconst C dL_printAt_1 (by decide)) ?_
  refine al_c (pc := 2) (snd_aload_n C dL_printAt_2 rfl) ?_
  refine al_c (pc := 3) (snd_iload_n C dL_printAt_3 rfl) ?_
  refine al_c (pc := 4) (snd_iload_n C dL_printAt_4 rfl) ?_
  refine al_c (pc := 5) (snd_GXi C CX (xsite_V C rfl dL_printAt_5 gL_printAt_X3_printAt rfl rfl rfl ⟨rfl, by decide +kernel, by decide +kernel, by decide +kernel⟩ ⟨by decide, by decide⟩) mX3_printAt (hexL_printAt C hN hT hQ hr)) ?_
  refine al_c (pc := 8) (snd_i2l C dL_printAt_8) ?_
  refine al_c (pc := 9) (snd_Jas C dL_printAt_9) ?_
  refine al_c (pc := 10) (snd_goto C dL_printAt_10 (by decide)) ?_
  refine al_c (pc := 17) (snd_iconst C dL_printAt_17 (by decide)) ?_
  refine al_c (pc := 18) (snd_Ri C hQ hr dL_printAt_18) ?_
  exact al_0
set_option maxHeartbeats 1000000 in
set_option maxRecDepth 100000 in
theorem mL_printAt : wMi yL_printAt wsL_printAt rmL_printAt (tW2 tX3_printAt (code1 "java/lang/IndexOutOfBoundsException") svI) := by
  refine wMi_of (hh := [(0, 10, 13, 19)]) (by decide +kernel) rfl rfl (by intro av X post hT; obtain ⟨a, b, q, rfl, hT⟩ := hT; exact Nat.le_of_ble_eq_true rfl) ?_
  intro Γ ad av X post C CX hN hTb hQ hr hT
  obtain ⟨a, b, q, rfl, fs, D9, Z, o, P, E, rfl, rfl, hT3, hp1, hp2⟩ := hT
  have OK := okL_printAt C CX hN hTb hQ hr
  refine go OK [] 60 ?_
  refine ⟨_ :: D9, Z ++ [.inr (.inr (1, o))], P, E, 0, _, fs, rfl, by decide, by decide, rfl, rfl, (List.append_assoc _ _ _), hT3, fun r C2 h => ?_, fun e C2 h => ?_⟩
  · obtain ⟨h1, h2⟩ := hp1 r C2 h
    exact ⟨h1, C2 ++ Z, o, (List.append_assoc _ _ _).symm, by rw [List.length_append, List.length_append, h1, List.length_cons], rfl, ⟨rfl, h2⟩⟩
  · obtain ⟨h1, v, h2, h3⟩ := hp2 e C2 h
    refine ⟨h1, v, h2, by decide, by decide, rfl, ?_⟩
    rw [← List.append_assoc]
    exact h3
abbrev rmL_canRoll : Room := { frames := 8, cells := 1, slots := 6, locals := 131 }
set_option maxHeartbeats 1000000 in
theorem hexL_canRoll {Γ : aΓ} {post : Int32 → List aE → Prop} {ad0 : Nat → Nat} {X0 : List aE} (C : FOK Γ cL_canRoll wsL_canRoll RL 4 rmL_canRoll) (hN : FOW Γ) (hT : isTb Γ [(0, 16, 19, 19)]) (hQ : isQ Γ (va_Qi post (aBk (gK Γ) ad0 X0 (hsz Γ)) (aA (gK Γ) ad0 X0 (hsz Γ))) rmL_canRoll ad0 X0) (hr : rTy Γ = some .int) : ∀ E ad k sl ls X, exW (code1 "java/lang/IndexOutOfBoundsException") post ad0 rmL_canRoll.cells rmL_canRoll.slots E ad k sl ls X → FX Γ 4 E ad k sl ls X := by
  intro E ad k sl ls X h
  obtain ⟨v, hE, hk, hsl, had, hp⟩ := h
  unfold code1 at hE
  by_cases z0 : E = "java/lang/IndexOutOfBoundsException"
  · rw [if_pos z0] at hE
    cases hE
    subst z0
    exact cat_W (i := 3) (h := 19) (kz := 1) (v := 1) (nm := "java/lang/IndexOutOfBoundsException") (x := ⟨0, 16, 19, 19⟩) (pre := []) (suf := []) C hQ hr hT rfl (Or.inl rfl) hN rfl (by decide) (by decide +kernel) (by decide +kernel) rfl (Or.inr ⟨3, rfl, dL_canRoll_19, rfl⟩) (by decide) dL_canRoll_20 rfl dL_canRoll_21 ad k sl ls X hk hsl had hp
  · rw [if_neg z0] at hE
    cases hE
def tbL_canRoll (post : Int32 → List aE → Prop) (ad0 : Nat → Nat) : List (Nat × aO) := [(0, oAL 2 1),
  (1, oC (0) 2),
  (2, oAL 0 3),
  (3, oIL 1 4),
  (4, oGXi tX3_canRoll 2 2 rmX3_canRoll.cells rmX3_canRoll.slots rmL_canRoll.cells rmL_canRoll.slots 7 (exW (code1 "java/lang/IndexOutOfBoundsException") post ad0 rmL_canRoll.cells rmL_canRoll.slots)),
  (7, oIf_eq 14 10),
  (10, oCL 1 11),
  (11, oGo 15),
  (14, oCL 0 15),
  (15, oJas 16),
  (16, oGo 22),
  (22, oC (0) 23),
  (23, oRi post ad0 rmL_canRoll.cells rmL_canRoll.slots)]
set_option maxRecDepth 20000 in
theorem okL_canRoll {Γ : aΓ} {post : Int32 → List aE → Prop} {ad0 : Nat → Nat} {X0 : List aE} (C : FOK Γ cL_canRoll wsL_canRoll RL 4 rmL_canRoll) (CX : FOX Γ) (hN : FOW Γ) (hT : isTb Γ [(0, 16, 19, 19)]) (hQ : isQ Γ (va_Qi post (aBk (gK Γ) ad0 X0 (hsz Γ)) (aA (gK Γ) ad0 X0 (hsz Γ))) rmL_canRoll ad0 X0) (hr : rTy Γ = some .int) : AllS Γ (tbL_canRoll post ad0) := by
  unfold tbL_canRoll
  refine al_c (pc := 0) (snd_aload_n C dL_canRoll_0 rfl) ?_
  refine al_c (pc := 1) (snd_iconst C dL_canRoll_1 (by decide)) ?_
  refine al_c (pc := 2) (snd_aload_n C dL_canRoll_2 rfl) ?_
  refine al_c (pc := 3) (snd_iload_n C dL_canRoll_3 rfl) ?_
  refine al_c (pc := 4) (snd_GXi C CX (xsite_V C rfl dL_canRoll_4 gL_canRoll_X3_canRoll rfl rfl rfl ⟨rfl, by decide +kernel, by decide +kernel, by decide +kernel⟩ ⟨by decide, by decide⟩) mX3_canRoll (hexL_canRoll C hN hT hQ hr)) ?_
  refine al_c (pc := 7) (snd_if_eq C dL_canRoll_7 (by decide)) ?_
  refine al_c (pc := 10) (snd_lconst C dL_canRoll_10 (by decide)) ?_
  refine al_c (pc := 11) (snd_goto C dL_canRoll_11 (by decide)) ?_
  refine al_c (pc := 14) (snd_lconst C dL_canRoll_14 (by decide)) ?_
  refine al_c (pc := 15) (snd_Jas C dL_canRoll_15) ?_
  refine al_c (pc := 16) (snd_goto C dL_canRoll_16 (by decide)) ?_
  refine al_c (pc := 22) (snd_iconst C dL_canRoll_22 (by decide)) ?_
  refine al_c (pc := 23) (snd_Ri C hQ hr dL_canRoll_23) ?_
  exact al_0
set_option maxHeartbeats 1000000 in
set_option maxRecDepth 100000 in
theorem mL_canRoll : wMi yL_canRoll wsL_canRoll rmL_canRoll (tW1 tX3_canRoll (code1 "java/lang/IndexOutOfBoundsException") svZ) := by
  refine wMi_of (hh := [(0, 16, 19, 19)]) (by decide +kernel) rfl rfl (by intro av X post hT; obtain ⟨a, q, rfl, hT⟩ := hT; exact Nat.le_of_ble_eq_true rfl) ?_
  intro Γ ad av X post C CX hN hTb hQ hr hT
  obtain ⟨a, q, rfl, fs, D9, Z, o, P, E, rfl, rfl, hT3, hp1, hp2⟩ := hT
  have OK := okL_canRoll C CX hN hTb hQ hr
  refine go OK [] 60 ?_
  refine ⟨_ :: D9, Z ++ [.inr (.inr (1, o))], P, E, 0, _, fs, rfl, by decide, by decide, rfl, rfl, (List.append_assoc _ _ _), hT3, fun r C2 h => ?_, fun e C2 h => ?_⟩
  · obtain ⟨h1, h2⟩ := hp1 r C2 h
    refine ⟨h1, And.intro (fun z => ?_) (fun z => ?_)⟩
    · have he9 : svZ r = 0 := if_pos z
      rw [he9] at h2
      exact ⟨C2 ++ Z, o, (List.append_assoc _ _ _).symm, by rw [List.length_append, List.length_append, h1, List.length_cons], rfl, ⟨rfl, h2⟩⟩
    · have he9 : svZ r = 1 := if_neg z
      rw [he9] at h2
      exact ⟨C2 ++ Z, o, (List.append_assoc _ _ _).symm, by rw [List.length_append, List.length_append, h1, List.length_cons], rfl, ⟨rfl, h2⟩⟩
  · obtain ⟨h1, v, h2, h3⟩ := hp2 e C2 h
    refine ⟨h1, v, h2, by decide, by decide, rfl, ?_⟩
    rw [← List.append_assoc]
    exact h3
abbrev rmL_cellsWith : Room := { frames := 7, cells := 1, slots := 6, locals := 111 }
set_option maxHeartbeats 1000000 in
theorem hexL_cellsWith {Γ : aΓ} {post : Int32 → List aE → Prop} {ad0 : Nat → Nat} {X0 : List aE} (C : FOK Γ cL_cellsWith wsL_cellsWith RL 4 rmL_cellsWith) (hN : FOW Γ) (hT : isTb Γ [(0, 9, 12, 19)]) (hQ : isQ Γ (va_Qi post (aBk (gK Γ) ad0 X0 (hsz Γ)) (aA (gK Γ) ad0 X0 (hsz Γ))) rmL_cellsWith ad0 X0) (hr : rTy Γ = some .int) : ∀ E ad k sl ls X, exW (code1 "java/lang/IndexOutOfBoundsException") post ad0 rmL_cellsWith.cells rmL_cellsWith.slots E ad k sl ls X → FX Γ 4 E ad k sl ls X := by
  intro E ad k sl ls X h
  obtain ⟨v, hE, hk, hsl, had, hp⟩ := h
  unfold code1 at hE
  by_cases z0 : E = "java/lang/IndexOutOfBoundsException"
  · rw [if_pos z0] at hE
    cases hE
    subst z0
    exact cat_W (i := 3) (h := 12) (kz := 1) (v := 1) (nm := "java/lang/IndexOutOfBoundsException") (x := ⟨0, 9, 12, 19⟩) (pre := []) (suf := []) C hQ hr hT rfl (Or.inl rfl) hN rfl (by decide) (by decide +kernel) (by decide +kernel) rfl (Or.inr ⟨3, rfl, dL_cellsWith_12, rfl⟩) (by decide) dL_cellsWith_13 rfl dL_cellsWith_14 ad k sl ls X hk hsl had hp
  · rw [if_neg z0] at hE
    cases hE
def tbL_cellsWith (post : Int32 → List aE → Prop) (ad0 : Nat → Nat) : List (Nat × aO) := [(0, oAL 2 1),
  (1, oC (0) 2),
  (2, oAL 0 3),
  (3, oIL 1 4),
  (4, oGXi tX3_cellsWith 2 2 rmX3_cellsWith.cells rmX3_cellsWith.slots rmL_cellsWith.cells rmL_cellsWith.slots 7 (exW (code1 "java/lang/IndexOutOfBoundsException") post ad0 rmL_cellsWith.cells rmL_cellsWith.slots)),
  (7, oI2l 8),
  (8, oJas 9),
  (9, oGo 15),
  (15, oC (0) 16),
  (16, oRi post ad0 rmL_cellsWith.cells rmL_cellsWith.slots)]
set_option maxRecDepth 20000 in
theorem okL_cellsWith {Γ : aΓ} {post : Int32 → List aE → Prop} {ad0 : Nat → Nat} {X0 : List aE} (C : FOK Γ cL_cellsWith wsL_cellsWith RL 4 rmL_cellsWith) (CX : FOX Γ) (hN : FOW Γ) (hT : isTb Γ [(0, 9, 12, 19)]) (hQ : isQ Γ (va_Qi post (aBk (gK Γ) ad0 X0 (hsz Γ)) (aA (gK Γ) ad0 X0 (hsz Γ))) rmL_cellsWith ad0 X0) (hr : rTy Γ = some .int) : AllS Γ (tbL_cellsWith post ad0) := by
  unfold tbL_cellsWith
  refine al_c (pc := 0) (snd_aload_n C dL_cellsWith_0 rfl) ?_
  refine al_c (pc := 1) (snd_iconst C dL_cellsWith_1 (by decide)) ?_
  refine al_c (pc := 2) (snd_aload_n C dL_cellsWith_2 rfl) ?_
  refine al_c (pc := 3) (snd_iload_n C dL_cellsWith_3 rfl) ?_
  refine al_c (pc := 4) (snd_GXi C CX (xsite_V C rfl dL_cellsWith_4 gL_cellsWith_X3_cellsWith rfl rfl rfl ⟨rfl, by decide +kernel, by decide +kernel, by decide +kernel⟩ ⟨by decide, by decide⟩) mX3_cellsWith (hexL_cellsWith C hN hT hQ hr)) ?_
  refine al_c (pc := 7) (snd_i2l C dL_cellsWith_7) ?_
  refine al_c (pc := 8) (snd_Jas C dL_cellsWith_8) ?_
  refine al_c (pc := 9) (snd_goto C dL_cellsWith_9 (by decide)) ?_
  refine al_c (pc := 15) (snd_iconst C dL_cellsWith_15 (by decide)) ?_
  refine al_c (pc := 16) (snd_Ri C hQ hr dL_cellsWith_16) ?_
  exact al_0
set_option maxHeartbeats 1000000 in
set_option maxRecDepth 100000 in
theorem mL_cellsWith : wMi yL_cellsWith wsL_cellsWith rmL_cellsWith (tW1 tX3_cellsWith (code1 "java/lang/IndexOutOfBoundsException") svI) := by
  refine wMi_of (hh := [(0, 9, 12, 19)]) (by decide +kernel) rfl rfl (by intro av X post hT; obtain ⟨a, q, rfl, hT⟩ := hT; exact Nat.le_of_ble_eq_true rfl) ?_
  intro Γ ad av X post C CX hN hTb hQ hr hT
  obtain ⟨a, q, rfl, fs, D9, Z, o, P, E, rfl, rfl, hT3, hp1, hp2⟩ := hT
  have OK := okL_cellsWith C CX hN hTb hQ hr
  refine go OK [] 60 ?_
  refine ⟨_ :: D9, Z ++ [.inr (.inr (1, o))], P, E, 0, _, fs, rfl, by decide, by decide, rfl, rfl, (List.append_assoc _ _ _), hT3, fun r C2 h => ?_, fun e C2 h => ?_⟩
  · obtain ⟨h1, h2⟩ := hp1 r C2 h
    exact ⟨h1, C2 ++ Z, o, (List.append_assoc _ _ _).symm, by rw [List.length_append, List.length_append, h1, List.length_cons], rfl, ⟨rfl, h2⟩⟩
  · obtain ⟨h1, v, h2, h3⟩ := hp2 e C2 h
    refine ⟨h1, v, h2, by decide, by decide, rfl, ?_⟩
    rw [← List.append_assoc]
    exact h3
abbrev rmL_fewestRolls : Room := { frames := 8, cells := 1, slots := 6, locals := 150 }
set_option maxHeartbeats 1000000 in
theorem hexL_fewestRolls {Γ : aΓ} {post : Int32 → List aE → Prop} {ad0 : Nat → Nat} {X0 : List aE} (C : FOK Γ cL_fewestRolls wsL_fewestRolls RL 5 rmL_fewestRolls) (hN : FOW Γ) (hT : isTb Γ [(0, 10, 13, 19)]) (hQ : isQ Γ (va_Qi post (aBk (gK Γ) ad0 X0 (hsz Γ)) (aA (gK Γ) ad0 X0 (hsz Γ))) rmL_fewestRolls ad0 X0) (hr : rTy Γ = some .int) : ∀ E ad k sl ls X, exW (code1 "java/lang/IndexOutOfBoundsException") post ad0 rmL_fewestRolls.cells rmL_fewestRolls.slots E ad k sl ls X → FX Γ 5 E ad k sl ls X := by
  intro E ad k sl ls X h
  obtain ⟨v, hE, hk, hsl, had, hp⟩ := h
  unfold code1 at hE
  by_cases z0 : E = "java/lang/IndexOutOfBoundsException"
  · rw [if_pos z0] at hE
    cases hE
    subst z0
    exact cat_W (i := 4) (h := 13) (kz := 2) (v := 1) (nm := "java/lang/IndexOutOfBoundsException") (x := ⟨0, 10, 13, 19⟩) (pre := []) (suf := []) C hQ hr hT rfl (Or.inl rfl) hN rfl (by decide) (by decide +kernel) (by decide +kernel) rfl (Or.inl ⟨dL_fewestRolls_13, rfl⟩) (by decide) dL_fewestRolls_15 rfl dL_fewestRolls_16 ad k sl ls X hk hsl had hp
  · rw [if_neg z0] at hE
    cases hE
def tbL_fewestRolls (post : Int32 → List aE → Prop) (ad0 : Nat → Nat) : List (Nat × aO) := [(0, oAL 3 1),
  (1, oC (0) 2),
  (2, oAL 0 3),
  (3, oIL 1 4),
  (4, oIL 2 5),
  (5, oGXi tX3_fewestRolls 3 2 rmX3_fewestRolls.cells rmX3_fewestRolls.slots rmL_fewestRolls.cells rmL_fewestRolls.slots 8 (exW (code1 "java/lang/IndexOutOfBoundsException") post ad0 rmL_fewestRolls.cells rmL_fewestRolls.slots)),
  (8, oI2l 9),
  (9, oJas 10),
  (10, oGo 17),
  (17, oC (0) 18),
  (18, oRi post ad0 rmL_fewestRolls.cells rmL_fewestRolls.slots)]
set_option maxRecDepth 20000 in
theorem okL_fewestRolls {Γ : aΓ} {post : Int32 → List aE → Prop} {ad0 : Nat → Nat} {X0 : List aE} (C : FOK Γ cL_fewestRolls wsL_fewestRolls RL 5 rmL_fewestRolls) (CX : FOX Γ) (hN : FOW Γ) (hT : isTb Γ [(0, 10, 13, 19)]) (hQ : isQ Γ (va_Qi post (aBk (gK Γ) ad0 X0 (hsz Γ)) (aA (gK Γ) ad0 X0 (hsz Γ))) rmL_fewestRolls ad0 X0) (hr : rTy Γ = some .int) : AllS Γ (tbL_fewestRolls post ad0) := by
  unfold tbL_fewestRolls
  refine al_c (pc := 0) (snd_aload_n C dL_fewestRolls_0 rfl) ?_
  refine al_c (pc := 1) (snd_iconst C dL_fewestRolls_1 (by decide)) ?_
  refine al_c (pc := 2) (snd_aload_n C dL_fewestRolls_2 rfl) ?_
  refine al_c (pc := 3) (snd_iload_n C dL_fewestRolls_3 rfl) ?_
  refine al_c (pc := 4) (snd_iload_n C dL_fewestRolls_4 rfl) ?_
  refine al_c (pc := 5) (snd_GXi C CX (xsite_V C rfl dL_fewestRolls_5 gL_fewestRolls_X3_fewestRolls rfl rfl rfl ⟨rfl, by decide +kernel, by decide +kernel, by decide +kernel⟩ ⟨by decide, by decide⟩) mX3_fewestRolls (hexL_fewestRolls C hN hT hQ hr)) ?_
  refine al_c (pc := 8) (snd_i2l C dL_fewestRolls_8) ?_
  refine al_c (pc := 9) (snd_Jas C dL_fewestRolls_9) ?_
  refine al_c (pc := 10) (snd_goto C dL_fewestRolls_10 (by decide)) ?_
  refine al_c (pc := 17) (snd_iconst C dL_fewestRolls_17 (by decide)) ?_
  refine al_c (pc := 18) (snd_Ri C hQ hr dL_fewestRolls_18) ?_
  exact al_0
set_option maxHeartbeats 1000000 in
set_option maxRecDepth 100000 in
theorem mL_fewestRolls : wMi yL_fewestRolls wsL_fewestRolls rmL_fewestRolls (tW2 tX3_fewestRolls (code1 "java/lang/IndexOutOfBoundsException") svI) := by
  refine wMi_of (hh := [(0, 10, 13, 19)]) (by decide +kernel) rfl rfl (by intro av X post hT; obtain ⟨a, b, q, rfl, hT⟩ := hT; exact Nat.le_of_ble_eq_true rfl) ?_
  intro Γ ad av X post C CX hN hTb hQ hr hT
  obtain ⟨a, b, q, rfl, fs, D9, Z, o, P, E, rfl, rfl, hT3, hp1, hp2⟩ := hT
  have OK := okL_fewestRolls C CX hN hTb hQ hr
  refine go OK [] 60 ?_
  refine ⟨_ :: D9, Z ++ [.inr (.inr (1, o))], P, E, 0, _, fs, rfl, by decide, by decide, rfl, rfl, (List.append_assoc _ _ _), hT3, fun r C2 h => ?_, fun e C2 h => ?_⟩
  · obtain ⟨h1, h2⟩ := hp1 r C2 h
    exact ⟨h1, C2 ++ Z, o, (List.append_assoc _ _ _).symm, by rw [List.length_append, List.length_append, h1, List.length_cons], rfl, ⟨rfl, h2⟩⟩
  · obtain ⟨h1, v, h2, h3⟩ := hp2 e C2 h
    refine ⟨h1, v, h2, by decide, by decide, rfl, ?_⟩
    rw [← List.append_assoc]
    exact h3
abbrev rmL_fewestRollsWithTop : Room := { frames := 8, cells := 2, slots := 12, locals := 138 }
set_option maxHeartbeats 1000000 in
theorem hexL_fewestRollsWithTop {Γ : aΓ} {post : Int32 → List aE → Prop} {ad0 : Nat → Nat} {X0 : List aE} (C : FOK Γ cL_fewestRollsWithTop wsL_fewestRollsWithTop RL 6 rmL_fewestRollsWithTop) (hN : FOW Γ) (hT : isTb Γ [(0, 12, 15, 19)]) (hQ : isQ Γ (va_Qi post (aBk (gK Γ) ad0 X0 (hsz Γ)) (aA (gK Γ) ad0 X0 (hsz Γ))) rmL_fewestRollsWithTop ad0 X0) (hr : rTy Γ = some .int) : ∀ E ad k sl ls X, exW (code1 "java/lang/IndexOutOfBoundsException") post ad0 rmL_fewestRollsWithTop.cells rmL_fewestRollsWithTop.slots E ad k sl ls X → FX Γ 7 E ad k sl ls X := by
  intro E ad k sl ls X h
  obtain ⟨v, hE, hk, hsl, had, hp⟩ := h
  unfold code1 at hE
  by_cases z0 : E = "java/lang/IndexOutOfBoundsException"
  · rw [if_pos z0] at hE
    cases hE
    subst z0
    exact cat_W (i := 5) (h := 15) (kz := 2) (v := 1) (nm := "java/lang/IndexOutOfBoundsException") (x := ⟨0, 12, 15, 19⟩) (pre := []) (suf := []) C hQ hr hT rfl (Or.inl rfl) hN rfl (by decide) (by decide +kernel) (by decide +kernel) rfl (Or.inl ⟨dL_fewestRollsWithTop_15, rfl⟩) (by decide) dL_fewestRollsWithTop_17 rfl dL_fewestRollsWithTop_18 ad k sl ls X hk hsl had hp
  · rw [if_neg z0] at hE
    cases hE
def tbL_fewestRollsWithTop (post : Int32 → List aE → Prop) (ad0 : Nat → Nat) : List (Nat × aO) := [(0, oAL 4 2),
  (2, oC (0) 3),
  (3, oAL 0 4),
  (4, oIL 1 5),
  (5, oIL 2 6),
  (6, oIL 3 7),
  (7, oGXi tX3_fewestRollsWithTop 4 2 rmX3_fewestRollsWithTop.cells rmX3_fewestRollsWithTop.slots rmL_fewestRollsWithTop.cells rmL_fewestRollsWithTop.slots 10 (exW (code1 "java/lang/IndexOutOfBoundsException") post ad0 rmL_fewestRollsWithTop.cells rmL_fewestRollsWithTop.slots)),
  (10, oI2l 11),
  (11, oJas 12),
  (12, oGo 19),
  (19, oC (0) 20),
  (20, oRi post ad0 rmL_fewestRollsWithTop.cells rmL_fewestRollsWithTop.slots)]
set_option maxRecDepth 20000 in
theorem okL_fewestRollsWithTop {Γ : aΓ} {post : Int32 → List aE → Prop} {ad0 : Nat → Nat} {X0 : List aE} (C : FOK Γ cL_fewestRollsWithTop wsL_fewestRollsWithTop RL 6 rmL_fewestRollsWithTop) (CX : FOX Γ) (hN : FOW Γ) (hT : isTb Γ [(0, 12, 15, 19)]) (hQ : isQ Γ (va_Qi post (aBk (gK Γ) ad0 X0 (hsz Γ)) (aA (gK Γ) ad0 X0 (hsz Γ))) rmL_fewestRollsWithTop ad0 X0) (hr : rTy Γ = some .int) : AllS Γ (tbL_fewestRollsWithTop post ad0) := by
  unfold tbL_fewestRollsWithTop
  refine al_c (pc := 0) (snd_aload C dL_fewestRollsWithTop_0) ?_
  refine al_c (pc := 2) (snd_iconst C dL_fewestRollsWithTop_2 (by decide)) ?_
  refine al_c (pc := 3) (snd_aload_n C dL_fewestRollsWithTop_3 rfl) ?_
  refine al_c (pc := 4) (snd_iload_n C dL_fewestRollsWithTop_4 rfl) ?_
  refine al_c (pc := 5) (snd_iload_n C dL_fewestRollsWithTop_5 rfl) ?_
  refine al_c (pc := 6) (snd_iload_n C dL_fewestRollsWithTop_6 rfl) ?_
  refine al_c (pc := 7) (snd_GXi C CX (xsite_V C rfl dL_fewestRollsWithTop_7 gL_fewestRollsWithTop_X3_fewestRollsWithTop rfl rfl rfl ⟨rfl, by decide +kernel, by decide +kernel, by decide +kernel⟩ ⟨by decide, by decide⟩) mX3_fewestRollsWithTop (hexL_fewestRollsWithTop C hN hT hQ hr)) ?_
  refine al_c (pc := 10) (snd_i2l C dL_fewestRollsWithTop_10) ?_
  refine al_c (pc := 11) (snd_Jas C dL_fewestRollsWithTop_11) ?_
  refine al_c (pc := 12) (snd_goto C dL_fewestRollsWithTop_12 (by decide)) ?_
  refine al_c (pc := 19) (snd_iconst C dL_fewestRollsWithTop_19 (by decide)) ?_
  refine al_c (pc := 20) (snd_Ri C hQ hr dL_fewestRollsWithTop_20) ?_
  exact al_0
set_option maxHeartbeats 1000000 in
set_option maxRecDepth 100000 in
theorem mL_fewestRollsWithTop : wMi yL_fewestRollsWithTop wsL_fewestRollsWithTop rmL_fewestRollsWithTop (tW3 tX3_fewestRollsWithTop (code1 "java/lang/IndexOutOfBoundsException") svI) := by
  refine wMi_of (hh := [(0, 12, 15, 19)]) (by decide +kernel) rfl rfl (by intro av X post hT; obtain ⟨a, b, c, q, rfl, hT⟩ := hT; exact Nat.le_of_ble_eq_true rfl) ?_
  intro Γ ad av X post C CX hN hTb hQ hr hT
  obtain ⟨a, b, c, q, rfl, fs, D9, Z, o, P, E, rfl, rfl, hT3, hp1, hp2⟩ := hT
  have OK := okL_fewestRollsWithTop C CX hN hTb hQ hr
  refine go OK [] 60 ?_
  refine ⟨_ :: D9, Z ++ [.inr (.inr (1, o))], P, E, 0, _, fs, rfl, by decide, by decide, rfl, rfl, (List.append_assoc _ _ _), hT3, fun r C2 h => ?_, fun e C2 h => ?_⟩
  · obtain ⟨h1, h2⟩ := hp1 r C2 h
    exact ⟨h1, C2 ++ Z, o, (List.append_assoc _ _ _).symm, by rw [List.length_append, List.length_append, h1, List.length_cons], rfl, ⟨rfl, h2⟩⟩
  · obtain ⟨h1, v, h2, h3⟩ := hp2 e C2 h
    refine ⟨h1, v, h2, by decide, by decide, rfl, ?_⟩
    rw [← List.append_assoc]
    exact h3
abbrev rmL_firstRoll : Room := { frames := 8, cells := 2, slots := 12, locals := 144 }
set_option maxHeartbeats 1000000 in
theorem hexL_firstRoll {Γ : aΓ} {post : Int32 → List aE → Prop} {ad0 : Nat → Nat} {X0 : List aE} (C : FOK Γ cL_firstRoll wsL_firstRoll RL 6 rmL_firstRoll) (hN : FOW Γ) (hT : isTb Γ [(0, 12, 15, 19)]) (hQ : isQ Γ (va_Qi post (aBk (gK Γ) ad0 X0 (hsz Γ)) (aA (gK Γ) ad0 X0 (hsz Γ))) rmL_firstRoll ad0 X0) (hr : rTy Γ = some .int) : ∀ E ad k sl ls X, exW (code1 "java/lang/IndexOutOfBoundsException") post ad0 rmL_firstRoll.cells rmL_firstRoll.slots E ad k sl ls X → FX Γ 7 E ad k sl ls X := by
  intro E ad k sl ls X h
  obtain ⟨v, hE, hk, hsl, had, hp⟩ := h
  unfold code1 at hE
  by_cases z0 : E = "java/lang/IndexOutOfBoundsException"
  · rw [if_pos z0] at hE
    cases hE
    subst z0
    exact cat_W (i := 5) (h := 15) (kz := 2) (v := 1) (nm := "java/lang/IndexOutOfBoundsException") (x := ⟨0, 12, 15, 19⟩) (pre := []) (suf := []) C hQ hr hT rfl (Or.inl rfl) hN rfl (by decide) (by decide +kernel) (by decide +kernel) rfl (Or.inl ⟨dL_firstRoll_15, rfl⟩) (by decide) dL_firstRoll_17 rfl dL_firstRoll_18 ad k sl ls X hk hsl had hp
  · rw [if_neg z0] at hE
    cases hE
def tbL_firstRoll (post : Int32 → List aE → Prop) (ad0 : Nat → Nat) : List (Nat × aO) := [(0, oAL 4 2),
  (2, oC (0) 3),
  (3, oAL 0 4),
  (4, oIL 1 5),
  (5, oIL 2 6),
  (6, oIL 3 7),
  (7, oGXi tX3_firstRoll 4 2 rmX3_firstRoll.cells rmX3_firstRoll.slots rmL_firstRoll.cells rmL_firstRoll.slots 10 (exW (code1 "java/lang/IndexOutOfBoundsException") post ad0 rmL_firstRoll.cells rmL_firstRoll.slots)),
  (10, oI2l 11),
  (11, oJas 12),
  (12, oGo 19),
  (19, oC (0) 20),
  (20, oRi post ad0 rmL_firstRoll.cells rmL_firstRoll.slots)]
set_option maxRecDepth 20000 in
theorem okL_firstRoll {Γ : aΓ} {post : Int32 → List aE → Prop} {ad0 : Nat → Nat} {X0 : List aE} (C : FOK Γ cL_firstRoll wsL_firstRoll RL 6 rmL_firstRoll) (CX : FOX Γ) (hN : FOW Γ) (hT : isTb Γ [(0, 12, 15, 19)]) (hQ : isQ Γ (va_Qi post (aBk (gK Γ) ad0 X0 (hsz Γ)) (aA (gK Γ) ad0 X0 (hsz Γ))) rmL_firstRoll ad0 X0) (hr : rTy Γ = some .int) : AllS Γ (tbL_firstRoll post ad0) := by
  unfold tbL_firstRoll
  refine al_c (pc := 0) (snd_aload C dL_firstRoll_0) ?_
  refine al_c (pc := 2) (snd_iconst C dL_firstRoll_2 (by decide)) ?_
  refine al_c (pc := 3) (snd_aload_n C dL_firstRoll_3 rfl) ?_
  refine al_c (pc := 4) (snd_iload_n C dL_firstRoll_4 rfl) ?_
  refine al_c (pc := 5) (snd_iload_n C dL_firstRoll_5 rfl) ?_
  refine al_c (pc := 6) (snd_iload_n C dL_firstRoll_6 rfl) ?_
  refine al_c (pc := 7) (snd_GXi C CX (xsite_V C rfl dL_firstRoll_7 gL_firstRoll_X3_firstRoll rfl rfl rfl ⟨rfl, by decide +kernel, by decide +kernel, by decide +kernel⟩ ⟨by decide, by decide⟩) mX3_firstRoll (hexL_firstRoll C hN hT hQ hr)) ?_
  refine al_c (pc := 10) (snd_i2l C dL_firstRoll_10) ?_
  refine al_c (pc := 11) (snd_Jas C dL_firstRoll_11) ?_
  refine al_c (pc := 12) (snd_goto C dL_firstRoll_12 (by decide)) ?_
  refine al_c (pc := 19) (snd_iconst C dL_firstRoll_19 (by decide)) ?_
  refine al_c (pc := 20) (snd_Ri C hQ hr dL_firstRoll_20) ?_
  exact al_0
set_option maxHeartbeats 1000000 in
set_option maxRecDepth 100000 in
theorem mL_firstRoll : wMi yL_firstRoll wsL_firstRoll rmL_firstRoll (tW3 tX3_firstRoll (code1 "java/lang/IndexOutOfBoundsException") svI) := by
  refine wMi_of (hh := [(0, 12, 15, 19)]) (by decide +kernel) rfl rfl (by intro av X post hT; obtain ⟨a, b, c, q, rfl, hT⟩ := hT; exact Nat.le_of_ble_eq_true rfl) ?_
  intro Γ ad av X post C CX hN hTb hQ hr hT
  obtain ⟨a, b, c, q, rfl, fs, D9, Z, o, P, E, rfl, rfl, hT3, hp1, hp2⟩ := hT
  have OK := okL_firstRoll C CX hN hTb hQ hr
  refine go OK [] 60 ?_
  refine ⟨_ :: D9, Z ++ [.inr (.inr (1, o))], P, E, 0, _, fs, rfl, by decide, by decide, rfl, rfl, (List.append_assoc _ _ _), hT3, fun r C2 h => ?_, fun e C2 h => ?_⟩
  · obtain ⟨h1, h2⟩ := hp1 r C2 h
    exact ⟨h1, C2 ++ Z, o, (List.append_assoc _ _ _).symm, by rw [List.length_append, List.length_append, h1, List.length_cons], rfl, ⟨rfl, h2⟩⟩
  · obtain ⟨h1, v, h2, h3⟩ := hp2 e C2 h
    refine ⟨h1, v, h2, by decide, by decide, rfl, ?_⟩
    rw [← List.append_assoc]
    exact h3
abbrev rmL_topsAt : Room := { frames := 8, cells := 1, slots := 6, locals := 150 }
set_option maxHeartbeats 1000000 in
theorem hexL_topsAt {Γ : aΓ} {post : Int32 → List aE → Prop} {ad0 : Nat → Nat} {X0 : List aE} (C : FOK Γ cL_topsAt wsL_topsAt RL 5 rmL_topsAt) (hN : FOW Γ) (hT : isTb Γ [(0, 10, 13, 19)]) (hQ : isQ Γ (va_Qi post (aBk (gK Γ) ad0 X0 (hsz Γ)) (aA (gK Γ) ad0 X0 (hsz Γ))) rmL_topsAt ad0 X0) (hr : rTy Γ = some .int) : ∀ E ad k sl ls X, exW (code1 "java/lang/IndexOutOfBoundsException") post ad0 rmL_topsAt.cells rmL_topsAt.slots E ad k sl ls X → FX Γ 5 E ad k sl ls X := by
  intro E ad k sl ls X h
  obtain ⟨v, hE, hk, hsl, had, hp⟩ := h
  unfold code1 at hE
  by_cases z0 : E = "java/lang/IndexOutOfBoundsException"
  · rw [if_pos z0] at hE
    cases hE
    subst z0
    exact cat_W (i := 4) (h := 13) (kz := 2) (v := 1) (nm := "java/lang/IndexOutOfBoundsException") (x := ⟨0, 10, 13, 19⟩) (pre := []) (suf := []) C hQ hr hT rfl (Or.inl rfl) hN rfl (by decide) (by decide +kernel) (by decide +kernel) rfl (Or.inl ⟨dL_topsAt_13, rfl⟩) (by decide) dL_topsAt_15 rfl dL_topsAt_16 ad k sl ls X hk hsl had hp
  · rw [if_neg z0] at hE
    cases hE
def tbL_topsAt (post : Int32 → List aE → Prop) (ad0 : Nat → Nat) : List (Nat × aO) := [(0, oAL 3 1),
  (1, oC (0) 2),
  (2, oAL 0 3),
  (3, oIL 1 4),
  (4, oIL 2 5),
  (5, oGXi tX3_topsAt 3 2 rmX3_topsAt.cells rmX3_topsAt.slots rmL_topsAt.cells rmL_topsAt.slots 8 (exW (code1 "java/lang/IndexOutOfBoundsException") post ad0 rmL_topsAt.cells rmL_topsAt.slots)),
  (8, oI2l 9),
  (9, oJas 10),
  (10, oGo 17),
  (17, oC (0) 18),
  (18, oRi post ad0 rmL_topsAt.cells rmL_topsAt.slots)]
set_option maxRecDepth 20000 in
theorem okL_topsAt {Γ : aΓ} {post : Int32 → List aE → Prop} {ad0 : Nat → Nat} {X0 : List aE} (C : FOK Γ cL_topsAt wsL_topsAt RL 5 rmL_topsAt) (CX : FOX Γ) (hN : FOW Γ) (hT : isTb Γ [(0, 10, 13, 19)]) (hQ : isQ Γ (va_Qi post (aBk (gK Γ) ad0 X0 (hsz Γ)) (aA (gK Γ) ad0 X0 (hsz Γ))) rmL_topsAt ad0 X0) (hr : rTy Γ = some .int) : AllS Γ (tbL_topsAt post ad0) := by
  unfold tbL_topsAt
  refine al_c (pc := 0) (snd_aload_n C dL_topsAt_0 rfl) ?_
  refine al_c (pc := 1) (snd_iconst C dL_topsAt_1 (by decide)) ?_
  refine al_c (pc := 2) (snd_aload_n C dL_topsAt_2 rfl) ?_
  refine al_c (pc := 3) (snd_iload_n C dL_topsAt_3 rfl) ?_
  refine al_c (pc := 4) (snd_iload_n C dL_topsAt_4 rfl) ?_
  refine al_c (pc := 5) (snd_GXi C CX (xsite_V C rfl dL_topsAt_5 gL_topsAt_X3_topsAt rfl rfl rfl ⟨rfl, by decide +kernel, by decide +kernel, by decide +kernel⟩ ⟨by decide, by decide⟩) mX3_topsAt (hexL_topsAt C hN hT hQ hr)) ?_
  refine al_c (pc := 8) (snd_i2l C dL_topsAt_8) ?_
  refine al_c (pc := 9) (snd_Jas C dL_topsAt_9) ?_
  refine al_c (pc := 10) (snd_goto C dL_topsAt_10 (by decide)) ?_
  refine al_c (pc := 17) (snd_iconst C dL_topsAt_17 (by decide)) ?_
  refine al_c (pc := 18) (snd_Ri C hQ hr dL_topsAt_18) ?_
  exact al_0
set_option maxHeartbeats 1000000 in
set_option maxRecDepth 100000 in
theorem mL_topsAt : wMi yL_topsAt wsL_topsAt rmL_topsAt (tW2 tX3_topsAt (code1 "java/lang/IndexOutOfBoundsException") svI) := by
  refine wMi_of (hh := [(0, 10, 13, 19)]) (by decide +kernel) rfl rfl (by intro av X post hT; obtain ⟨a, b, q, rfl, hT⟩ := hT; exact Nat.le_of_ble_eq_true rfl) ?_
  intro Γ ad av X post C CX hN hTb hQ hr hT
  obtain ⟨a, b, q, rfl, fs, D9, Z, o, P, E, rfl, rfl, hT3, hp1, hp2⟩ := hT
  have OK := okL_topsAt C CX hN hTb hQ hr
  refine go OK [] 60 ?_
  refine ⟨_ :: D9, Z ++ [.inr (.inr (1, o))], P, E, 0, _, fs, rfl, by decide, by decide, rfl, rfl, (List.append_assoc _ _ _), hT3, fun r C2 h => ?_, fun e C2 h => ?_⟩
  · obtain ⟨h1, h2⟩ := hp1 r C2 h
    exact ⟨h1, C2 ++ Z, o, (List.append_assoc _ _ _).symm, by rw [List.length_append, List.length_append, h1, List.length_cons], rfl, ⟨rfl, h2⟩⟩
  · obtain ⟨h1, v, h2, h3⟩ := hp2 e C2 h
    refine ⟨h1, v, h2, by decide, by decide, rfl, ?_⟩
    rw [← List.append_assoc]
    exact h3
abbrev rmL_cellsBehind : Room := { frames := 7, cells := 1, slots := 6, locals := 152 }
set_option maxHeartbeats 1000000 in
theorem hexL_cellsBehind {Γ : aΓ} {post : Int32 → List aE → Prop} {ad0 : Nat → Nat} {X0 : List aE} (C : FOK Γ cL_cellsBehind wsL_cellsBehind RL 4 rmL_cellsBehind) (hN : FOW Γ) (hT : isTb Γ [(0, 9, 12, 13)]) (hQ : isQ Γ (va_Qi post (aBk (gK Γ) ad0 X0 (hsz Γ)) (aA (gK Γ) ad0 X0 (hsz Γ))) rmL_cellsBehind ad0 X0) (hr : rTy Γ = some .int) : ∀ E ad k sl ls X, exW (code1 "java/lang/IllegalArgumentException") post ad0 rmL_cellsBehind.cells rmL_cellsBehind.slots E ad k sl ls X → FX Γ 4 E ad k sl ls X := by
  intro E ad k sl ls X h
  obtain ⟨v, hE, hk, hsl, had, hp⟩ := h
  unfold code1 at hE
  by_cases z0 : E = "java/lang/IllegalArgumentException"
  · rw [if_pos z0] at hE
    cases hE
    subst z0
    exact cat_W (i := 3) (h := 12) (kz := 1) (v := 1) (nm := "java/lang/IndexOutOfBoundsException") (x := ⟨0, 9, 12, 13⟩) (pre := []) (suf := []) C hQ hr hT rfl (Or.inl rfl) hN rfl (by decide) (by decide +kernel) (by decide +kernel) rfl (Or.inr ⟨3, rfl, dL_cellsBehind_12, rfl⟩) (by decide) dL_cellsBehind_13 rfl dL_cellsBehind_14 ad k sl ls X hk hsl had hp
  · rw [if_neg z0] at hE
    cases hE
def tbL_cellsBehind (post : Int32 → List aE → Prop) (ad0 : Nat → Nat) : List (Nat × aO) := [(0, oAL 2 1),
  (1, oC (0) 2),
  (2, oAL 0 3),
  (3, oIL 1 4),
  (4, oGXi tX3_cellsBehind 2 2 rmX3_cellsBehind.cells rmX3_cellsBehind.slots rmL_cellsBehind.cells rmL_cellsBehind.slots 7 (exW (code1 "java/lang/IllegalArgumentException") post ad0 rmL_cellsBehind.cells rmL_cellsBehind.slots)),
  (7, oI2l 8),
  (8, oJas 9),
  (9, oGo 15),
  (15, oC (0) 16),
  (16, oRi post ad0 rmL_cellsBehind.cells rmL_cellsBehind.slots)]
set_option maxRecDepth 20000 in
theorem okL_cellsBehind {Γ : aΓ} {post : Int32 → List aE → Prop} {ad0 : Nat → Nat} {X0 : List aE} (C : FOK Γ cL_cellsBehind wsL_cellsBehind RL 4 rmL_cellsBehind) (CX : FOX Γ) (hN : FOW Γ) (hT : isTb Γ [(0, 9, 12, 13)]) (hQ : isQ Γ (va_Qi post (aBk (gK Γ) ad0 X0 (hsz Γ)) (aA (gK Γ) ad0 X0 (hsz Γ))) rmL_cellsBehind ad0 X0) (hr : rTy Γ = some .int) : AllS Γ (tbL_cellsBehind post ad0) := by
  unfold tbL_cellsBehind
  refine al_c (pc := 0) (snd_aload_n C dL_cellsBehind_0 rfl) ?_
  refine al_c (pc := 1) (snd_iconst C dL_cellsBehind_1 (by decide)) ?_
  refine al_c (pc := 2) (snd_aload_n C dL_cellsBehind_2 rfl) ?_
  refine al_c (pc := 3) (snd_iload_n C dL_cellsBehind_3 rfl) ?_
  refine al_c (pc := 4) (snd_GXi C CX (xsite_V C rfl dL_cellsBehind_4 gL_cellsBehind_X3_cellsBehind rfl rfl rfl ⟨rfl, by decide +kernel, by decide +kernel, by decide +kernel⟩ ⟨by decide, by decide⟩) mX3_cellsBehind (hexL_cellsBehind C hN hT hQ hr)) ?_
  refine al_c (pc := 7) (snd_i2l C dL_cellsBehind_7) ?_
  refine al_c (pc := 8) (snd_Jas C dL_cellsBehind_8) ?_
  refine al_c (pc := 9) (snd_goto C dL_cellsBehind_9 (by decide)) ?_
  refine al_c (pc := 15) (snd_iconst C dL_cellsBehind_15 (by decide)) ?_
  refine al_c (pc := 16) (snd_Ri C hQ hr dL_cellsBehind_16) ?_
  exact al_0
set_option maxHeartbeats 1000000 in
set_option maxRecDepth 100000 in
theorem mL_cellsBehind : wMi yL_cellsBehind wsL_cellsBehind rmL_cellsBehind (tW1 tX3_cellsBehind (code1 "java/lang/IllegalArgumentException") svI) := by
  refine wMi_of (hh := [(0, 9, 12, 13)]) (by decide +kernel) rfl rfl (by intro av X post hT; obtain ⟨a, q, rfl, hT⟩ := hT; exact Nat.le_of_ble_eq_true rfl) ?_
  intro Γ ad av X post C CX hN hTb hQ hr hT
  obtain ⟨a, q, rfl, fs, D9, Z, o, P, E, rfl, rfl, hT3, hp1, hp2⟩ := hT
  have OK := okL_cellsBehind C CX hN hTb hQ hr
  refine go OK [] 60 ?_
  refine ⟨_ :: D9, Z ++ [.inr (.inr (1, o))], P, E, 0, _, fs, rfl, by decide, by decide, rfl, rfl, (List.append_assoc _ _ _), hT3, fun r C2 h => ?_, fun e C2 h => ?_⟩
  · obtain ⟨h1, h2⟩ := hp1 r C2 h
    exact ⟨h1, C2 ++ Z, o, (List.append_assoc _ _ _).symm, by rw [List.length_append, List.length_append, h1, List.length_cons], rfl, ⟨rfl, h2⟩⟩
  · obtain ⟨h1, v, h2, h3⟩ := hp2 e C2 h
    refine ⟨h1, v, h2, by decide, by decide, rfl, ?_⟩
    rw [← List.append_assoc]
    exact h3
abbrev rmL_bestPut : Room := { frames := 8, cells := 1, slots := 6, locals := 144 }
set_option maxHeartbeats 1000000 in
theorem hexL_bestPut {Γ : aΓ} {post : Int32 → List aE → Prop} {ad0 : Nat → Nat} {X0 : List aE} (C : FOK Γ cL_bestPut wsL_bestPut RL 4 rmL_bestPut) (hN : FOW Γ) (hT : isTb Γ [(0, 9, 12, 19)]) (hQ : isQ Γ (va_Qi post (aBk (gK Γ) ad0 X0 (hsz Γ)) (aA (gK Γ) ad0 X0 (hsz Γ))) rmL_bestPut ad0 X0) (hr : rTy Γ = some .int) : ∀ E ad k sl ls X, exW (code1 "java/lang/IndexOutOfBoundsException") post ad0 rmL_bestPut.cells rmL_bestPut.slots E ad k sl ls X → FX Γ 4 E ad k sl ls X := by
  intro E ad k sl ls X h
  obtain ⟨v, hE, hk, hsl, had, hp⟩ := h
  unfold code1 at hE
  by_cases z0 : E = "java/lang/IndexOutOfBoundsException"
  · rw [if_pos z0] at hE
    cases hE
    subst z0
    exact cat_W (i := 3) (h := 12) (kz := 1) (v := 1) (nm := "java/lang/IndexOutOfBoundsException") (x := ⟨0, 9, 12, 19⟩) (pre := []) (suf := []) C hQ hr hT rfl (Or.inl rfl) hN rfl (by decide) (by decide +kernel) (by decide +kernel) rfl (Or.inr ⟨3, rfl, dL_bestPut_12, rfl⟩) (by decide) dL_bestPut_13 rfl dL_bestPut_14 ad k sl ls X hk hsl had hp
  · rw [if_neg z0] at hE
    cases hE
def tbL_bestPut (post : Int32 → List aE → Prop) (ad0 : Nat → Nat) : List (Nat × aO) := [(0, oAL 2 1),
  (1, oC (0) 2),
  (2, oAL 0 3),
  (3, oIL 1 4),
  (4, oGXi tX3_bestPut 2 2 rmX3_bestPut.cells rmX3_bestPut.slots rmL_bestPut.cells rmL_bestPut.slots 7 (exW (code1 "java/lang/IndexOutOfBoundsException") post ad0 rmL_bestPut.cells rmL_bestPut.slots)),
  (7, oI2l 8),
  (8, oJas 9),
  (9, oGo 15),
  (15, oC (0) 16),
  (16, oRi post ad0 rmL_bestPut.cells rmL_bestPut.slots)]
set_option maxRecDepth 20000 in
theorem okL_bestPut {Γ : aΓ} {post : Int32 → List aE → Prop} {ad0 : Nat → Nat} {X0 : List aE} (C : FOK Γ cL_bestPut wsL_bestPut RL 4 rmL_bestPut) (CX : FOX Γ) (hN : FOW Γ) (hT : isTb Γ [(0, 9, 12, 19)]) (hQ : isQ Γ (va_Qi post (aBk (gK Γ) ad0 X0 (hsz Γ)) (aA (gK Γ) ad0 X0 (hsz Γ))) rmL_bestPut ad0 X0) (hr : rTy Γ = some .int) : AllS Γ (tbL_bestPut post ad0) := by
  unfold tbL_bestPut
  refine al_c (pc := 0) (snd_aload_n C dL_bestPut_0 rfl) ?_
  refine al_c (pc := 1) (snd_iconst C dL_bestPut_1 (by decide)) ?_
  refine al_c (pc := 2) (snd_aload_n C dL_bestPut_2 rfl) ?_
  refine al_c (pc := 3) (snd_iload_n C dL_bestPut_3 rfl) ?_
  refine al_c (pc := 4) (snd_GXi C CX (xsite_V C rfl dL_bestPut_4 gL_bestPut_X3_bestPut rfl rfl rfl ⟨rfl, by decide +kernel, by decide +kernel, by decide +kernel⟩ ⟨by decide, by decide⟩) mX3_bestPut (hexL_bestPut C hN hT hQ hr)) ?_
  refine al_c (pc := 7) (snd_i2l C dL_bestPut_7) ?_
  refine al_c (pc := 8) (snd_Jas C dL_bestPut_8) ?_
  refine al_c (pc := 9) (snd_goto C dL_bestPut_9 (by decide)) ?_
  refine al_c (pc := 15) (snd_iconst C dL_bestPut_15 (by decide)) ?_
  refine al_c (pc := 16) (snd_Ri C hQ hr dL_bestPut_16) ?_
  exact al_0
set_option maxHeartbeats 1000000 in
set_option maxRecDepth 100000 in
theorem mL_bestPut : wMi yL_bestPut wsL_bestPut rmL_bestPut (tW1 tX3_bestPut (code1 "java/lang/IndexOutOfBoundsException") svI) := by
  refine wMi_of (hh := [(0, 9, 12, 19)]) (by decide +kernel) rfl rfl (by intro av X post hT; obtain ⟨a, q, rfl, hT⟩ := hT; exact Nat.le_of_ble_eq_true rfl) ?_
  intro Γ ad av X post C CX hN hTb hQ hr hT
  obtain ⟨a, q, rfl, fs, D9, Z, o, P, E, rfl, rfl, hT3, hp1, hp2⟩ := hT
  have OK := okL_bestPut C CX hN hTb hQ hr
  refine go OK [] 60 ?_
  refine ⟨_ :: D9, Z ++ [.inr (.inr (1, o))], P, E, 0, _, fs, rfl, by decide, by decide, rfl, rfl, (List.append_assoc _ _ _), hT3, fun r C2 h => ?_, fun e C2 h => ?_⟩
  · obtain ⟨h1, h2⟩ := hp1 r C2 h
    exact ⟨h1, C2 ++ Z, o, (List.append_assoc _ _ _).symm, by rw [List.length_append, List.length_append, h1, List.length_cons], rfl, ⟨rfl, h2⟩⟩
  · obtain ⟨h1, v, h2, h3⟩ := hp2 e C2 h
    refine ⟨h1, v, h2, by decide, by decide, rfl, ?_⟩
    rw [← List.append_assoc]
    exact h3
