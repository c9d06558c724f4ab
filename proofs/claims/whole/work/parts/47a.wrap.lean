/-! ===== the wrappers, by program (mkwrap.py) ===== -/
abbrev rmL_newBoard : Room := { frames := 7, cells := 1, slots := 6, locals := 112 }
set_option maxHeartbeats 1000000 in
theorem hexL_newBoard {Γ : aΓ} {post : Int32 → List aE → Prop} {ad0 : Nat → Nat} {X0 : List aE} (C : FOK Γ cL_newBoard wsL_newBoard RL 5 rmL_newBoard) (hN : FOW Γ) (hT : isTb Γ [(0, 10, 13, 13)]) (hQ : isQ Γ (va_Qi post (aBk (gK Γ) ad0 X0 (hsz Γ)) (aA (gK Γ) ad0 X0 (hsz Γ))) rmL_newBoard ad0 X0) (hr : rTy Γ = some .int) : ∀ E ad k sl ls X, exW (code1 "java/lang/IllegalArgumentException") post ad0 rmL_newBoard.cells rmL_newBoard.slots E ad k sl ls X → FX Γ 5 E ad k sl ls X := by
  intro E ad k sl ls X h
  obtain ⟨v, hE, hk, hsl, had, hp⟩ := h
  unfold code1 at hE
  by_cases z0 : E = "java/lang/IllegalArgumentException"
  · rw [if_pos z0] at hE
    cases hE
    subst z0
    exact cat_W (i := 4) (h := 13) (kz := 2) (v := 1) (nm := "java/lang/IndexOutOfBoundsException") (x := ⟨0, 10, 13, 13⟩) (pre := []) (suf := []) C hQ hr hT rfl (Or.inl rfl) hN rfl (by decide) (by decide +kernel) (by decide +kernel) rfl (Or.inl ⟨dL_newBoard_13, rfl⟩) (by decide) dL_newBoard_15 rfl dL_newBoard_16 ad k sl ls X hk hsl had hp
  · rw [if_neg z0] at hE
    cases hE
def tbL_newBoard (post : Int32 → List aE → Prop) (ad0 : Nat → Nat) : List (Nat × aO) := [(0, oAL 3 1),
  (1, oC (0) 2),
  (2, oAL 0 3),
  (3, oIL 1 4),
  (4, oIL 2 5),
  (5, oGXi tX3_newBoard 3 2 rmX3_newBoard.cells rmX3_newBoard.slots rmL_newBoard.cells rmL_newBoard.slots 8 (exW (code1 "java/lang/IllegalArgumentException") post ad0 rmL_newBoard.cells rmL_newBoard.slots)),
  (8, oI2l 9),
  (9, oJas 10),
  (10, oGo 17),
  (17, oC (0) 18),
  (18, oRi post ad0 rmL_newBoard.cells rmL_newBoard.slots)]
set_option maxRecDepth 20000 in
theorem okL_newBoard {Γ : aΓ} {post : Int32 → List aE → Prop} {ad0 : Nat → Nat} {X0 : List aE} (C : FOK Γ cL_newBoard wsL_newBoard RL 5 rmL_newBoard) (CX : FOX Γ) (hN : FOW Γ) (hT : isTb Γ [(0, 10, 13, 13)]) (hQ : isQ Γ (va_Qi post (aBk (gK Γ) ad0 X0 (hsz Γ)) (aA (gK Γ) ad0 X0 (hsz Γ))) rmL_newBoard ad0 X0) (hr : rTy Γ = some .int) : AllS Γ (tbL_newBoard post ad0) := by
  unfold tbL_newBoard
  refine al_c (pc := 0) (snd_aload_n C dL_newBoard_0 rfl) ?_
  refine al_c (pc := 1) (snd_iconst C dL_newBoard_1 (by decide)) ?_
  refine al_c (pc := 2) (snd_aload_n C dL_newBoard_2 rfl) ?_
  refine al_c (pc := 3) (snd_iload_n C dL_newBoard_3 rfl) ?_
  refine al_c (pc := 4) (snd_iload_n C dL_newBoard_4 rfl) ?_
  refine al_c (pc := 5) (snd_GXi C CX (xsite_V C rfl dL_newBoard_5 gL_newBoard_X3_newBoard rfl rfl rfl ⟨rfl, by decide +kernel, by decide +kernel, by decide +kernel⟩ ⟨by decide, by decide⟩) mX3_newBoard (hexL_newBoard C hN hT hQ hr)) ?_
  refine al_c (pc := 8) (snd_i2l C dL_newBoard_8) ?_
  refine al_c (pc := 9) (snd_Jas C dL_newBoard_9) ?_
  refine al_c (pc := 10) (snd_goto C dL_newBoard_10 (by decide)) ?_
  refine al_c (pc := 17) (snd_iconst C dL_newBoard_17 (by decide)) ?_
  refine al_c (pc := 18) (snd_Ri C hQ hr dL_newBoard_18) ?_
  exact al_0
set_option maxHeartbeats 1000000 in
set_option maxRecDepth 100000 in
theorem mL_newBoard : wMi yL_newBoard wsL_newBoard rmL_newBoard (tW2 tX3_newBoard (code1 "java/lang/IllegalArgumentException") svI) := by
  refine wMi_of (hh := [(0, 10, 13, 13)]) (by decide +kernel) rfl rfl (by intro av X post hT; obtain ⟨a, b, q, rfl, hT⟩ := hT; exact Nat.le_of_ble_eq_true rfl) ?_
  intro Γ ad av X post C CX hN hTb hQ hr hT
  obtain ⟨a, b, q, rfl, fs, D9, Z, o, P, E, rfl, rfl, hT3, hp1, hp2⟩ := hT
  have OK := okL_newBoard C CX hN hTb hQ hr
  refine go OK [] 60 ?_
  refine ⟨_ :: D9, Z ++ [.inr (.inr (1, o))], P, E, 0, _, fs, rfl, by decide, by decide, rfl, rfl, (List.append_assoc _ _ _), hT3, fun r C2 h => ?_, fun e C2 h => ?_⟩
  · obtain ⟨h1, h2⟩ := hp1 r C2 h
    exact ⟨h1, C2 ++ Z, o, (List.append_assoc _ _ _).symm, by rw [List.length_append, List.length_append, h1, List.length_cons], rfl, ⟨rfl, h2⟩⟩
  · obtain ⟨h1, v, h2, h3⟩ := hp2 e C2 h
    refine ⟨h1, v, h2, by decide, by decide, rfl, ?_⟩
    rw [← List.append_assoc]
    exact h3
