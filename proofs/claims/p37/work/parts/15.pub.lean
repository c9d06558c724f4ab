/-! ===== PaintedDie's face: board and die, what there is ===== -/
theorem nB {a b : Int32} {w h : Nat} (q : inB a b w h) : ∃ i j, a = nI i ∧ b = nI j ∧ i < w ∧ j < h := q
abbrev tX3_newBoard : xTi := fun av X post ex => ∃ (a b : Int32) (k tt w h : Nat) (rm pm fd : Int32) (wl pr fe qu co pa : Nat → Int32), av = [.ref 0, .int a, .int b] ∧ X = CW (nI k) (nI tt) rm pm (nI w) (nI h) fd wl pr fe qu co pa ∧
  ((inR a 2 7 ∧ inR b 2 7) → ∀ wl2 pr2 : Nat → Int32, (∀ k, k < 49 → wl2 k = 0) → (∀ k, k < 49 → pr2 k = 0) → post (a * b) (CW 0 1 0 0 a b fd wl2 pr2 fe qu co pa)) ∧ (¬ (inR a 2 7 ∧ inR b 2 7) → ex "java/lang/IllegalArgumentException" X)
abbrev rmX3_newBoard : Room := { frames := 6, cells := 1, slots := 6, locals := 90 }
def tbX3_newBoard (post : Int32 → List aE → Prop) (ex : aXp) (ad0 : Nat → Nat) : List (Nat × aO) := [(0, oIL 1 1),
  (1, oCi tX3_isSide 1 none rmX3_isSide.cells rmX3_isSide.slots rmX3_newBoard.cells rmX3_newBoard.slots 4),
  (4, oIf_eq 14 7),
  (7, oIL 2 8),
  (8, oCi tX3_isSide 1 none rmX3_isSide.cells rmX3_isSide.slots rmX3_newBoard.cells rmX3_newBoard.slots 11),
  (11, oIf_ne 24 14),
  (14, oTh "java/lang/IllegalArgumentException" ex ad0 rmX3_newBoard.cells rmX3_newBoard.slots),
  (24, oAL 0 25),
  (25, oIL 1 26),
  (26, oIL 2 27),
  (27, oCv tX3_startOn 3 (some 2) rmX3_startOn.cells rmX3_startOn.slots rmX3_newBoard.cells rmX3_newBoard.slots 30),
  (30, oIL 1 31),
  (31, oIL 2 32),
  (32, oImul 33),
  (33, oRi post ad0 rmX3_newBoard.cells rmX3_newBoard.slots)]
set_option maxRecDepth 20000 in
theorem okX3_newBoard {Γ : aΓ} {post : Int32 → List aE → Prop} {ex : aXp} {ad0 : Nat → Nat} {X0 : List aE} (C : FOK Γ cX3_newBoard wsX3_newBoard RX3 3 rmX3_newBoard) (hQ : isQ Γ (va_Qi post (aBk (gK Γ) ad0 X0 (hsz Γ)) (aA (gK Γ) ad0 X0 (hsz Γ))) rmX3_newBoard ad0 X0) (hr : rTy Γ = some .int) (CX : FOX Γ) (hX : isX Γ ex rmX3_newBoard ad0 X0) : AllS Γ (tbX3_newBoard post ex ad0) := by
  unfold tbX3_newBoard
  refine al_c (pc := 0) (snd_iload_n C dX3_newBoard_0 rfl) ?_
  refine al_c (pc := 1) (snd_Ci C (site_S C dX3_newBoard_1 gX3_newBoard_X3_isSide rfl rfl rfl ⟨by decide +kernel, by decide +kernel, by decide +kernel⟩ ⟨by decide, by decide⟩) mX3_isSide) ?_
  refine al_c (pc := 4) (snd_if_eq C dX3_newBoard_4 (by decide)) ?_
  refine al_c (pc := 7) (snd_iload_n C dX3_newBoard_7 rfl) ?_
  refine al_c (pc := 8) (snd_Ci C (site_S C dX3_newBoard_8 gX3_newBoard_X3_isSide rfl rfl rfl ⟨by decide +kernel, by decide +kernel, by decide +kernel⟩ ⟨by decide, by decide⟩) mX3_isSide) ?_
  refine al_c (pc := 11) (snd_if_ne C dX3_newBoard_11 (by decide)) ?_
  refine al_c (pc := 14) (snd_Th (names := ["java/lang/RuntimeException", "java/lang/Exception"]) (text := "a board is 2 to 7 cells wide and high") C CX hX (by decide +kernel) (by decide +kernel) (ik := 38) (is := 40) (ic := 42) (by decide +kernel) (by decide +kernel) (by decide +kernel) (by decide +kernel) (by decide +kernel) dX3_newBoard_14 dX3_newBoard_17 dX3_newBoard_18 dX3_newBoard_20 dX3_newBoard_23 (by decide) (by decide)) ?_
  refine al_c (pc := 24) (snd_aload_n C dX3_newBoard_24 rfl) ?_
  refine al_c (pc := 25) (snd_iload_n C dX3_newBoard_25 rfl) ?_
  refine al_c (pc := 26) (snd_iload_n C dX3_newBoard_26 rfl) ?_
  refine al_c (pc := 27) (snd_Cv C (site_V C rfl dX3_newBoard_27 gX3_newBoard_X3_startOn rfl rfl rfl ⟨rfl, by decide +kernel, by decide +kernel, by decide +kernel⟩ ⟨by decide, by decide⟩) mX3_startOn) ?_
  refine al_c (pc := 30) (snd_iload_n C dX3_newBoard_30 rfl) ?_
  refine al_c (pc := 31) (snd_iload_n C dX3_newBoard_31 rfl) ?_
  refine al_c (pc := 32) (snd_imul C dX3_newBoard_32) ?_
  refine al_c (pc := 33) (snd_Ri C hQ hr dX3_newBoard_33) ?_
  exact al_0
set_option maxHeartbeats 1000000 in
set_option maxRecDepth 100000 in
theorem mX3_newBoard : xMi yX3_newBoard wsX3_newBoard rmX3_newBoard tX3_newBoard := by
  refine xMi_of (by decide +kernel) rfl rfl (by intro av X post ex hT; obtain ⟨a, b, k, tt, w, h, rm, pm, fd, wl, pr, fe, qu, co, pa, rfl, rfl, h1, h2⟩ := hT; exact Nat.le_of_ble_eq_true rfl) ?_
  intro Γ ad av X post ex C CX hQ hX hr hT
  obtain ⟨a, b, k, tt, w, h, rm, pm, fd, wl, pr, fe, qu, co, pa, rfl, rfl, h1, h2⟩ := hT
  have OK := okX3_newBoard C hQ hr CX hX
  refine go OK [] 60 ?_
  refine ⟨a, rfl, fun q1 => ?_, fun q1 => ?_⟩
  · refine And.intro (fun q => absurd q (by decide)) (fun _ => ?_)
    refine ⟨b, rfl, fun q2 => ?_, fun q2 => ?_⟩
    · refine And.intro (fun _ => ?_) (fun q => absurd q (by decide))
      refine ⟨_, _, _, _, _, _, _, _, _, _, _, _, _, _, _, rfl, rfl, fun wl2 pr2 z1 z2 => ?_⟩
      exact ⟨rfl, h1 ⟨q1, q2⟩ wl2 pr2 z1 z2⟩
    · refine And.intro (fun q => absurd rfl q) (fun _ => ?_)
      exact ⟨rfl, h2 (fun z => q2 z.2)⟩
  · refine And.intro (fun _ => ?_) (fun q => absurd rfl q)
    exact ⟨rfl, h2 (fun z => q1 z.1)⟩
abbrev tX3_turnWall : xTi := fun av X post ex => ∃ (a b : Int32) (k tt w h : Nat) (rm pm fd : Int32) (wl pr fe qu co pa : Nat → Int32), av = [.ref 0, .int a, .int b] ∧ X = CW (nI k) (nI tt) rm pm (nI w) (nI h) fd wl pr fe qu co pa ∧ w ≤ 7 ∧ h ≤ 7 ∧ k < 49 ∧
  (¬ inB a b w h → ex "java/lang/IndexOutOfBoundsException" X) ∧ ∀ i j, a = nI i → b = nI j → i < w → j < h → (j * 7 + i = k → ex "java/lang/IllegalStateException" X) ∧
    (j * 7 + i ≠ k → (wl (j * 7 + i) = 0 → post 1 (CW (nI k) (nI tt) rm pm (nI w) (nI h) fd (upd wl (j * 7 + i) 1) pr fe qu co pa)) ∧ (¬ wl (j * 7 + i) = 0 → post 0 (CW (nI k) (nI tt) rm pm (nI w) (nI h) fd (upd wl (j * 7 + i) 0) pr fe qu co pa)))
abbrev rmX3_turnWall : Room := { frames := 7, cells := 2, slots := 12, locals := 112 }
theorem inX3_turnWall_X3 : ∀ w ∈ wsX30, w ∈ wsX3_turnWall := by decide +kernel
def tbX3_turnWall (post : Int32 → List aE → Prop) (ex : aXp) (ad0 : Nat → Nat) : List (Nat × aO) := [(0, oAL 0 1),
  (1, oIL 1 2),
  (2, oIL 2 3),
  (3, oXv tX3_checkCell 3 (some 2) rmX3_checkCell.cells rmX3_checkCell.slots rmX3_turnWall.cells rmX3_turnWall.slots 6 (exU ex ad0 rmX3_turnWall.cells rmX3_turnWall.slots)),
  (6, oIL 1 7),
  (7, oIL 2 8),
  (8, oCi tX0_cellAt 2 none rmX0_cellAt.cells rmX0_cellAt.slots rmX3_turnWall.cells rmX3_turnWall.slots 11),
  (11, oIS 3 12),
  (12, oIL 3 13),
  (13, oAL 0 14),
  (14, oGet 2 4 17),
  (17, oIc_ne 30 20),
  (20, oTh "java/lang/IllegalStateException" ex ad0 rmX3_turnWall.cells rmX3_turnWall.slots),
  (30, oAL 0 31),
  (31, oGet 2 0 34),
  (34, oIL 3 35),
  (35, oCi tX0_turnOver 2 (some 0) rmX0_turnOver.cells rmX0_turnOver.slots rmX3_turnWall.cells rmX3_turnWall.slots 38),
  (38, oRz post ad0 rmX3_turnWall.cells rmX3_turnWall.slots)]
set_option maxRecDepth 20000 in
theorem okX3_turnWall {Γ : aΓ} {post : Int32 → List aE → Prop} {ex : aXp} {ad0 : Nat → Nat} {X0 : List aE} (C : FOK Γ cX3_turnWall wsX3_turnWall RX3 4 rmX3_turnWall) (hQ : isQ Γ (va_Qi post (aBk (gK Γ) ad0 X0 (hsz Γ)) (aA (gK Γ) ad0 X0 (hsz Γ))) rmX3_turnWall ad0 X0) (hr : rTy Γ = some .boolean) (CX : FOX Γ) (hX : isX Γ ex rmX3_turnWall ad0 X0) : AllS Γ (tbX3_turnWall post ex ad0) := by
  unfold tbX3_turnWall
  refine al_c (pc := 0) (snd_aload_n C dX3_turnWall_0 rfl) ?_
  refine al_c (pc := 1) (snd_iload_n C dX3_turnWall_1 rfl) ?_
  refine al_c (pc := 2) (snd_iload_n C dX3_turnWall_2 rfl) ?_
  refine al_c (pc := 3) (snd_Xv C CX (xsite_V C rfl dX3_turnWall_3 gX3_turnWall_X3_checkCell rfl rfl rfl ⟨rfl, by decide +kernel, by decide +kernel, by decide +kernel⟩ ⟨by decide, by decide⟩) mX3_checkCell (exU_FX C CX hX)) ?_
  refine al_c (pc := 6) (snd_iload_n C dX3_turnWall_6 rfl) ?_
  refine al_c (pc := 7) (snd_iload_n C dX3_turnWall_7 rfl) ?_
  refine al_c (pc := 8) (snd_Ci C (site_SN C dX3_turnWall_8 gX3_turnWall_X0_cellAt_n48 rfl rfl rfl (by decide +kernel) (by decide +kernel) (by decide +kernel) ⟨by decide +kernel, by decide +kernel, by decide +kernel⟩ ⟨by decide, by decide⟩) mX0_cellAt) ?_
  refine al_c (pc := 11) (snd_istore_n C dX3_turnWall_11 rfl (by decide)) ?_
  refine al_c (pc := 12) (snd_iload_n C dX3_turnWall_12 rfl) ?_
  refine al_c (pc := 13) (snd_aload_n C dX3_turnWall_13 rfl) ?_
  refine al_c (pc := 14) (snd_get C dX3_turnWall_14 (ci := 2) (kf := 4) rfl (by decide) inX3_turnWall_X3 rfl (by decide +kernel)) ?_
  refine al_c (pc := 17) (snd_icmp_ne C dX3_turnWall_17 (by decide)) ?_
  refine al_c (pc := 20) (snd_Th (names := ["java/lang/RuntimeException", "java/lang/Exception"]) (text := "the die lies there") C CX hX (by decide +kernel) (by decide +kernel) (ik := 56) (is := 58) (ic := 60) (by decide +kernel) (by decide +kernel) (by decide +kernel) (by decide +kernel) (by decide +kernel) dX3_turnWall_20 dX3_turnWall_23 dX3_turnWall_24 dX3_turnWall_26 dX3_turnWall_29 (by decide) (by decide)) ?_
  refine al_c (pc := 30) (snd_aload_n C dX3_turnWall_30 rfl) ?_
  refine al_c (pc := 31) (snd_get C dX3_turnWall_31 (ci := 2) (kf := 0) rfl (by decide) inX3_turnWall_X3 rfl (by decide +kernel)) ?_
  refine al_c (pc := 34) (snd_iload_n C dX3_turnWall_34 rfl) ?_
  refine al_c (pc := 35) (snd_Ci C (site_VN C rfl dX3_turnWall_35 gX3_turnWall_X0_turnOver_n61 rfl rfl rfl (by decide +kernel) (by decide +kernel) (by decide +kernel) (by decide +kernel) ⟨by decide +kernel, by decide +kernel, by decide +kernel⟩ ⟨by decide, by decide⟩) mX0_turnOver) ?_
  refine al_c (pc := 38) (snd_Rz C hQ hr dX3_turnWall_38) ?_
  exact al_0
set_option maxHeartbeats 1000000 in
set_option maxRecDepth 100000 in
theorem mX3_turnWall : xMi yX3_turnWall wsX3_turnWall rmX3_turnWall tX3_turnWall := by
  refine xMz_of (by decide +kernel) rfl rfl (by intro av X post ex hT; obtain ⟨a, b, k, tt, w, h, rm, pm, fd, wl, pr, fe, qu, co, pa, rfl, rfl, hw, hh, hk, h1, h2⟩ := hT; exact Nat.le_of_ble_eq_true rfl) ?_
  intro Γ ad av X post ex C CX hQ hX hr hT
  obtain ⟨a, b, k, tt, w, h, rm, pm, fd, wl, pr, fe, qu, co, pa, rfl, rfl, hw, hh, hk, h1, h2⟩ := hT
  have OK := okX3_turnWall C hQ hr CX hX
  refine go OK [] 60 ?_
  refine ⟨_, _, _, _, _, _, _, _, _, _, _, _, _, _, _, rfl, rfl, hw, hh, fun q => ?_, fun q => ⟨rfl, h1 q⟩⟩
  obtain ⟨i, j, rfl, rfl, hi, hj⟩ := q
  obtain ⟨g1, g2⟩ := h2 i j rfl rfl hi hj
  refine ⟨_, _, rfl, ?_⟩
  rw [cellI]
  refine And.intro (fun q => ?_) (fun q => ?_)
  · have ne : j * 7 + i ≠ k := fun z => q (by rw [z])
    obtain ⟨g3, g4⟩ := g2 ne
    refine ⟨_, j * 7 + i, _, _, _, _, _, _, _, _, _, _, _, _, _, rfl, rfl, by omega, rfl, fun z => ?_, fun z => ?_⟩
    · exact ⟨Or.inr rfl, rfl, g3 z⟩
    · exact ⟨Or.inl rfl, rfl, g4 z⟩
  · exact ⟨rfl, g1 ((eqN (by omega) (by omega)).mp q)⟩
theorem ge1_lo {b : Int32} (q : b < 1) : ¬ inR b 1 9 ∧ ¬ inR b 1 20 ∧ ¬ inR b 1 50 := ⟨inR_lo (lo := 1) (by omega) (by omega) q, inR_lo (lo := 1) (by omega) (by omega) q, inR_lo (lo := 1) (by omega) (by omega) q⟩
abbrev tX3_setColour : xTi := fun av X post ex => ∃ (a b : Int32) (k tt w h : Nat) (rm pm fd : Int32) (wl pr fe qu co pa : Nat → Int32), av = [.ref 0, .int a, .int b] ∧ X = CW (nI k) (nI tt) rm pm (nI w) (nI h) fd wl pr fe qu co pa ∧
  (¬ inR a 1 6 → ex "java/lang/IndexOutOfBoundsException" X) ∧ ∀ f, a = nI f → 1 ≤ f → f ≤ 6 → (¬ inR b 1 9 → ex "java/lang/IllegalArgumentException" X) ∧ (inR b 1 9 → post (co f) (CW (nI k) (nI tt) rm pm (nI w) (nI h) fd wl pr fe qu (upd co f b) pa))
abbrev rmX3_setColour : Room := { frames := 7, cells := 2, slots := 12, locals := 110 }
theorem inX3_setColour_X3 : ∀ w ∈ wsX30, w ∈ wsX3_setColour := by decide +kernel
def tbX3_setColour (post : Int32 → List aE → Prop) (ex : aXp) (ad0 : Nat → Nat) : List (Nat × aO) := [(0, oIL 1 1),
  (1, oXv tX3_checkFace 1 none rmX3_checkFace.cells rmX3_checkFace.slots rmX3_setColour.cells rmX3_setColour.slots 4 (exU ex ad0 rmX3_setColour.cells rmX3_setColour.slots)),
  (4, oIL 2 5),
  (5, oC (1) 6),
  (6, oIc_lt 15 9),
  (9, oIL 2 10),
  (10, oC (9) 12),
  (12, oIc_le 25 15),
  (15, oTh "java/lang/IllegalArgumentException" ex ad0 rmX3_setColour.cells rmX3_setColour.slots),
  (25, oAL 0 26),
  (26, oGet 2 2 29),
  (29, oIL 1 30),
  (30, oIald 31),
  (31, oIS 3 32),
  (32, oAL 0 33),
  (33, oGet 2 2 36),
  (36, oIL 1 37),
  (37, oIL 2 38),
  (38, oIast 39),
  (39, oIL 3 40),
  (40, oRi post ad0 rmX3_setColour.cells rmX3_setColour.slots)]
set_option maxRecDepth 20000 in
theorem okX3_setColour {Γ : aΓ} {post : Int32 → List aE → Prop} {ex : aXp} {ad0 : Nat → Nat} {X0 : List aE} (C : FOK Γ cX3_setColour wsX3_setColour RX3 4 rmX3_setColour) (hQ : isQ Γ (va_Qi post (aBk (gK Γ) ad0 X0 (hsz Γ)) (aA (gK Γ) ad0 X0 (hsz Γ))) rmX3_setColour ad0 X0) (hr : rTy Γ = some .int) (CX : FOX Γ) (hX : isX Γ ex rmX3_setColour ad0 X0) : AllS Γ (tbX3_setColour post ex ad0) := by
  unfold tbX3_setColour
  refine al_c (pc := 0) (snd_iload_n C dX3_setColour_0 rfl) ?_
  refine al_c (pc := 1) (snd_Xv C CX (xsite_S C dX3_setColour_1 gX3_setColour_X3_checkFace rfl rfl rfl ⟨by decide +kernel, by decide +kernel, by decide +kernel⟩ ⟨by decide, by decide⟩) mX3_checkFace (exU_FX C CX hX)) ?_
  refine al_c (pc := 4) (snd_iload_n C dX3_setColour_4 rfl) ?_
  refine al_c (pc := 5) (snd_iconst C dX3_setColour_5 (by decide)) ?_
  refine al_c (pc := 6) (snd_icmp_lt C dX3_setColour_6 (by decide)) ?_
  refine al_c (pc := 9) (snd_iload_n C dX3_setColour_9 rfl) ?_
  refine al_c (pc := 10) (snd_bipush C dX3_setColour_10 (by decide)) ?_
  refine al_c (pc := 12) (snd_icmp_le C dX3_setColour_12 (by decide)) ?_
  refine al_c (pc := 15) (snd_Th (names := ["java/lang/RuntimeException", "java/lang/Exception"]) (text := "a colour is 1 to 9") C CX hX (by decide +kernel) (by decide +kernel) (ik := 38) (is := 68) (ic := 42) (by decide +kernel) (by decide +kernel) (by decide +kernel) (by decide +kernel) (by decide +kernel) dX3_setColour_15 dX3_setColour_18 dX3_setColour_19 dX3_setColour_21 dX3_setColour_24 (by decide) (by decide)) ?_
  refine al_c (pc := 25) (snd_aload_n C dX3_setColour_25 rfl) ?_
  refine al_c (pc := 26) (snd_get C dX3_setColour_26 (ci := 2) (kf := 2) rfl (by decide) inX3_setColour_X3 rfl (by decide +kernel)) ?_
  refine al_c (pc := 29) (snd_iload_n C dX3_setColour_29 rfl) ?_
  refine al_c (pc := 30) (snd_iaload C dX3_setColour_30) ?_
  refine al_c (pc := 31) (snd_istore_n C dX3_setColour_31 rfl (by decide)) ?_
  refine al_c (pc := 32) (snd_aload_n C dX3_setColour_32 rfl) ?_
  refine al_c (pc := 33) (snd_get C dX3_setColour_33 (ci := 2) (kf := 2) rfl (by decide) inX3_setColour_X3 rfl (by decide +kernel)) ?_
  refine al_c (pc := 36) (snd_iload_n C dX3_setColour_36 rfl) ?_
  refine al_c (pc := 37) (snd_iload_n C dX3_setColour_37 rfl) ?_
  refine al_c (pc := 38) (snd_iastore C dX3_setColour_38) ?_
  refine al_c (pc := 39) (snd_iload_n C dX3_setColour_39 rfl) ?_
  refine al_c (pc := 40) (snd_Ri C hQ hr dX3_setColour_40) ?_
  exact al_0
set_option maxHeartbeats 1000000 in
set_option maxRecDepth 100000 in
theorem mX3_setColour : xMi yX3_setColour wsX3_setColour rmX3_setColour tX3_setColour := by
  refine xMi_of (by decide +kernel) rfl rfl (by intro av X post ex hT; obtain ⟨a, b, k, tt, w, h, rm, pm, fd, wl, pr, fe, qu, co, pa, rfl, rfl, h1, h2⟩ := hT; exact Nat.le_of_ble_eq_true rfl) ?_
  intro Γ ad av X post ex C CX hQ hX hr hT
  obtain ⟨a, b, k, tt, w, h, rm, pm, fd, wl, pr, fe, qu, co, pa, rfl, rfl, h1, h2⟩ := hT
  have OK := okX3_setColour C hQ hr CX hX
  refine go OK [] 60 ?_
  refine ⟨_, rfl, fun q => ?_, fun q => ⟨rfl, h1 q⟩⟩
  obtain ⟨f, rfl, f1, f2⟩ := q
  obtain ⟨g1, g2⟩ := h2 f rfl f1 f2
  refine And.intro (fun q => ?_) (fun q1 => ?_)
  · exact ⟨rfl, g1 (ge1_lo q).1⟩
  refine And.intro (fun _ => ?_) (fun q => ?_)
  · rename_i q2
    have q2 : ¬ nI 9 < b := by rw [Int32.lt_iff_toInt_lt]; rw [Int32.le_iff_toInt_le] at q2; exact Int.not_lt.mpr q2
    refine ⟨inS (by omega : f < 7) (by decide), ?_⟩
    rw [nI_clampS (by omega)]
    refine ⟨inS (by omega : f < 7) (by decide), ?_⟩
    rw [nI_clampS (by omega)]
    exact ⟨rfl, g2 (inR_of (lo := 1) (hi := 9) (by omega) (by omega) q1 q2)⟩
  · have q2 : nI 9 < b := by rw [Int32.lt_iff_toInt_lt]; rw [Int32.le_iff_toInt_le] at q; exact Int.not_le.mp q
    exact ⟨rfl, g1 (inR_hi (hi := 9) (by omega) (by omega) q2)⟩
def adP (pa : Nat → Int32) (f : Nat) (b : Int32) : Int32 := if pa f + b < 20 then pa f + b else 20
abbrev tX3_addPaint : xTi := fun av X post ex => ∃ (a b : Int32) (k tt w h : Nat) (rm pm fd : Int32) (wl pr fe qu co pa : Nat → Int32), av = [.ref 0, .int a, .int b] ∧ X = CW (nI k) (nI tt) rm pm (nI w) (nI h) fd wl pr fe qu co pa ∧
  (¬ inR a 1 6 → ex "java/lang/IndexOutOfBoundsException" X) ∧ ∀ f, a = nI f → 1 ≤ f → f ≤ 6 → (¬ inR b 1 20 → ex "java/lang/IllegalArgumentException" X) ∧ (inR b 1 20 → post (adP pa f b) (CW (nI k) (nI tt) rm pm (nI w) (nI h) fd wl pr fe qu co (upd pa f (adP pa f b))))
abbrev rmX3_addPaint : Room := { frames := 7, cells := 2, slots := 12, locals := 110 }
theorem inX3_addPaint_X3 : ∀ w ∈ wsX30, w ∈ wsX3_addPaint := by decide +kernel
def tbX3_addPaint (post : Int32 → List aE → Prop) (ex : aXp) (ad0 : Nat → Nat) : List (Nat × aO) := [(0, oIL 1 1),
  (1, oXv tX3_checkFace 1 none rmX3_checkFace.cells rmX3_checkFace.slots rmX3_addPaint.cells rmX3_addPaint.slots 4 (exU ex ad0 rmX3_addPaint.cells rmX3_addPaint.slots)),
  (4, oIL 2 5),
  (5, oC (1) 6),
  (6, oIc_lt 15 9),
  (9, oIL 2 10),
  (10, oC (20) 12),
  (12, oIc_le 25 15),
  (15, oTh "java/lang/IllegalArgumentException" ex ad0 rmX3_addPaint.cells rmX3_addPaint.slots),
  (25, oAL 0 26),
  (26, oGet 2 3 29),
  (29, oIL 1 30),
  (30, oC (20) 32),
  (32, oAL 0 33),
  (33, oGet 2 3 36),
  (36, oIL 1 37),
  (37, oIald 38),
  (38, oIL 2 39),
  (39, oIadd 40),
  (40, oMin 43 rmX3_addPaint.cells rmX3_addPaint.slots),
  (43, oIast 44),
  (44, oAL 0 45),
  (45, oGet 2 3 48),
  (48, oIL 1 49),
  (49, oIald 50),
  (50, oRi post ad0 rmX3_addPaint.cells rmX3_addPaint.slots)]
set_option maxRecDepth 20000 in
theorem okX3_addPaint {Γ : aΓ} {post : Int32 → List aE → Prop} {ex : aXp} {ad0 : Nat → Nat} {X0 : List aE} (C : FOK Γ cX3_addPaint wsX3_addPaint RX3 3 rmX3_addPaint) (hQ : isQ Γ (va_Qi post (aBk (gK Γ) ad0 X0 (hsz Γ)) (aA (gK Γ) ad0 X0 (hsz Γ))) rmX3_addPaint ad0 X0) (hr : rTy Γ = some .int) (CX : FOX Γ) (hX : isX Γ ex rmX3_addPaint ad0 X0) : AllS Γ (tbX3_addPaint post ex ad0) := by
  unfold tbX3_addPaint
  refine al_c (pc := 0) (snd_iload_n C dX3_addPaint_0 rfl) ?_
  refine al_c (pc := 1) (snd_Xv C CX (xsite_S C dX3_addPaint_1 gX3_addPaint_X3_checkFace rfl rfl rfl ⟨by decide +kernel, by decide +kernel, by decide +kernel⟩ ⟨by decide, by decide⟩) mX3_checkFace (exU_FX C CX hX)) ?_
  refine al_c (pc := 4) (snd_iload_n C dX3_addPaint_4 rfl) ?_
  refine al_c (pc := 5) (snd_iconst C dX3_addPaint_5 (by decide)) ?_
  refine al_c (pc := 6) (snd_icmp_lt C dX3_addPaint_6 (by decide)) ?_
  refine al_c (pc := 9) (snd_iload_n C dX3_addPaint_9 rfl) ?_
  refine al_c (pc := 10) (snd_bipush C dX3_addPaint_10 (by decide)) ?_
  refine al_c (pc := 12) (snd_icmp_le C dX3_addPaint_12 (by decide)) ?_
  refine al_c (pc := 15) (snd_Th (names := ["java/lang/RuntimeException", "java/lang/Exception"]) (text := "paint is given from 1 to 20") C CX hX (by decide +kernel) (by decide +kernel) (ik := 38) (is := 70) (ic := 42) (by decide +kernel) (by decide +kernel) (by decide +kernel) (by decide +kernel) (by decide +kernel) dX3_addPaint_15 dX3_addPaint_18 dX3_addPaint_19 dX3_addPaint_21 dX3_addPaint_24 (by decide) (by decide)) ?_
  refine al_c (pc := 25) (snd_aload_n C dX3_addPaint_25 rfl) ?_
  refine al_c (pc := 26) (snd_get C dX3_addPaint_26 (ci := 2) (kf := 3) rfl (by decide) inX3_addPaint_X3 rfl (by decide +kernel)) ?_
  refine al_c (pc := 29) (snd_iload_n C dX3_addPaint_29 rfl) ?_
  refine al_c (pc := 30) (snd_bipush C dX3_addPaint_30 (by decide)) ?_
  refine al_c (pc := 32) (snd_aload_n C dX3_addPaint_32 rfl) ?_
  refine al_c (pc := 33) (snd_get C dX3_addPaint_33 (ci := 2) (kf := 3) rfl (by decide) inX3_addPaint_X3 rfl (by decide +kernel)) ?_
  refine al_c (pc := 36) (snd_iload_n C dX3_addPaint_36 rfl) ?_
  refine al_c (pc := 37) (snd_iaload C dX3_addPaint_37) ?_
  refine al_c (pc := 38) (snd_iload_n C dX3_addPaint_38 rfl) ?_
  refine al_c (pc := 39) (snd_iadd C dX3_addPaint_39) ?_
  refine al_c (pc := 40) (snd_min C dX3_addPaint_40 (by decide +kernel) (by decide +kernel) (by decide +kernel) (by decide +kernel) (by decide) (by decide)) ?_
  refine al_c (pc := 43) (snd_iastore C dX3_addPaint_43) ?_
  refine al_c (pc := 44) (snd_aload_n C dX3_addPaint_44 rfl) ?_
  refine al_c (pc := 45) (snd_get C dX3_addPaint_45 (ci := 2) (kf := 3) rfl (by decide) inX3_addPaint_X3 rfl (by decide +kernel)) ?_
  refine al_c (pc := 48) (snd_iload_n C dX3_addPaint_48 rfl) ?_
  refine al_c (pc := 49) (snd_iaload C dX3_addPaint_49) ?_
  refine al_c (pc := 50) (snd_Ri C hQ hr dX3_addPaint_50) ?_
  exact al_0
set_option maxHeartbeats 1000000 in
set_option maxRecDepth 100000 in
theorem mX3_addPaint : xMi yX3_addPaint wsX3_addPaint rmX3_addPaint tX3_addPaint := by
  refine xMi_of (by decide +kernel) rfl rfl (by intro av X post ex hT; obtain ⟨a, b, k, tt, w, h, rm, pm, fd, wl, pr, fe, qu, co, pa, rfl, rfl, h1, h2⟩ := hT; exact Nat.le_of_ble_eq_true rfl) ?_
  intro Γ ad av X post ex C CX hQ hX hr hT
  obtain ⟨a, b, k, tt, w, h, rm, pm, fd, wl, pr, fe, qu, co, pa, rfl, rfl, h1, h2⟩ := hT
  have OK := okX3_addPaint C hQ hr CX hX
  refine go OK [] 60 ?_
  refine ⟨_, rfl, fun q => ?_, fun q => ⟨rfl, h1 q⟩⟩
  obtain ⟨f, rfl, f1, f2⟩ := q
  obtain ⟨g1, g2⟩ := h2 f rfl f1 f2
  refine And.intro (fun q => ?_) (fun q1 => ?_)
  · exact ⟨rfl, g1 (ge1_lo q).2.1⟩
  refine And.intro (fun _ => ?_) (fun q => ?_)
  · rename_i q2
    have q2 : ¬ nI 20 < b := by rw [Int32.lt_iff_toInt_lt]; rw [Int32.le_iff_toInt_le] at q2; exact Int.not_lt.mpr q2
    refine ⟨inS (by omega : f < 7) (by decide), ?_⟩
    rw [nI_clampS (by omega)]
    refine ⟨inS (by omega : f < 7) (by decide), ?_⟩
    rw [nI_clampS (by omega)]
    refine ⟨inS (by omega : f < 7) (by decide), ?_⟩
    rw [nI_clampS (by omega), pk_us]
    exact ⟨rfl, g2 (inR_of (lo := 1) (hi := 20) (by omega) (by omega) q1 q2)⟩
  · have q2 : nI 20 < b := by rw [Int32.lt_iff_toInt_lt]; rw [Int32.le_iff_toInt_le] at q; exact Int.not_le.mp q
    exact ⟨rfl, g1 (inR_hi (hi := 20) (by omega) (by omega) q2)⟩
def abI (x : Int32) : Int32 := if 0 ≤ x then x else 0 - x
abbrev tX3_put : xTi := fun av X post ex => ∃ (a b : Int32) (k tt w h : Nat) (rm pm fd : Int32) (wl pr fe qu co pa : Nat → Int32), av = [.ref 0, .int a, .int b] ∧ X = CW (nI k) (nI tt) rm pm (nI w) (nI h) fd wl pr fe qu co pa ∧ w ≤ 7 ∧ h ≤ 7 ∧ k < 49 ∧
  (¬ inB a b w h → ex "java/lang/IndexOutOfBoundsException" X) ∧ ∀ i j, a = nI i → b = nI j → i < w → j < h → (¬ wl (j * 7 + i) = 0 → ex "java/lang/IllegalStateException" X) ∧
    (wl (j * 7 + i) = 0 → post (abI (a - nI (k % 7)) + abI (b - nI (k / 7))) (CW (nI (j * 7 + i)) 1 rm pm (nI w) (nI h) fd wl pr fe qu co pa))
abbrev rmX3_put : Room := { frames := 7, cells := 2, slots := 12, locals := 112 }
theorem inX3_put_X3 : ∀ w ∈ wsX30, w ∈ wsX3_put := by decide +kernel
def tbX3_put (post : Int32 → List aE → Prop) (ex : aXp) (ad0 : Nat → Nat) : List (Nat × aO) := [(0, oAL 0 1),
  (1, oIL 1 2),
  (2, oIL 2 3),
  (3, oXv tX3_checkCell 3 (some 2) rmX3_checkCell.cells rmX3_checkCell.slots rmX3_put.cells rmX3_put.slots 6 (exU ex ad0 rmX3_put.cells rmX3_put.slots)),
  (6, oAL 0 7),
  (7, oGet 2 0 10),
  (10, oIL 1 11),
  (11, oIL 2 12),
  (12, oCi tX0_isFree 3 (some 0) rmX0_isFree.cells rmX0_isFree.slots rmX3_put.cells rmX3_put.slots 15),
  (15, oIf_ne 28 18),
  (18, oTh "java/lang/IllegalStateException" ex ad0 rmX3_put.cells rmX3_put.slots),
  (28, oIL 1 29),
  (29, oAL 0 30),
  (30, oCi tX3_column 1 (some 2) rmX3_column.cells rmX3_column.slots rmX3_put.cells rmX3_put.slots 33),
  (33, oIsub 34),
  (34, oAbs 37 rmX3_put.cells rmX3_put.slots),
  (37, oIL 2 38),
  (38, oAL 0 39),
  (39, oCi tX3_row 1 (some 2) rmX3_row.cells rmX3_row.slots rmX3_put.cells rmX3_put.slots 42),
  (42, oIsub 43),
  (43, oAbs 46 rmX3_put.cells rmX3_put.slots),
  (46, oIadd 47),
  (47, oIS 3 48),
  (48, oAL 0 49),
  (49, oIL 1 50),
  (50, oIL 2 51),
  (51, oCi tX0_cellAt 2 none rmX0_cellAt.cells rmX0_cellAt.slots rmX3_put.cells rmX3_put.slots 54),
  (54, oPut 2 4 57),
  (57, oAL 0 58),
  (58, oC (1) 59),
  (59, oPut 2 5 62),
  (62, oIL 3 63),
  (63, oRi post ad0 rmX3_put.cells rmX3_put.slots)]
set_option maxRecDepth 20000 in
theorem okX3_put {Γ : aΓ} {post : Int32 → List aE → Prop} {ex : aXp} {ad0 : Nat → Nat} {X0 : List aE} (C : FOK Γ cX3_put wsX3_put RX3 4 rmX3_put) (hQ : isQ Γ (va_Qi post (aBk (gK Γ) ad0 X0 (hsz Γ)) (aA (gK Γ) ad0 X0 (hsz Γ))) rmX3_put ad0 X0) (hr : rTy Γ = some .int) (CX : FOX Γ) (hX : isX Γ ex rmX3_put ad0 X0) : AllS Γ (tbX3_put post ex ad0) := by
  unfold tbX3_put
  refine al_c (pc := 0) (snd_aload_n C dX3_put_0 rfl) ?_
  refine al_c (pc := 1) (snd_iload_n C dX3_put_1 rfl) ?_
  refine al_c (pc := 2) (snd_iload_n C dX3_put_2 rfl) ?_
  refine al_c (pc := 3) (snd_Xv C CX (xsite_V C rfl dX3_put_3 gX3_put_X3_checkCell rfl rfl rfl ⟨rfl, by decide +kernel, by decide +kernel, by decide +kernel⟩ ⟨by decide, by decide⟩) mX3_checkCell (exU_FX C CX hX)) ?_
  refine al_c (pc := 6) (snd_aload_n C dX3_put_6 rfl) ?_
  refine al_c (pc := 7) (snd_get C dX3_put_7 (ci := 2) (kf := 0) rfl (by decide) inX3_put_X3 rfl (by decide +kernel)) ?_
  refine al_c (pc := 10) (snd_iload_n C dX3_put_10 rfl) ?_
  refine al_c (pc := 11) (snd_iload_n C dX3_put_11 rfl) ?_
  refine al_c (pc := 12) (snd_Ci C (site_VN C rfl dX3_put_12 gX3_put_X0_isFree_n77 rfl rfl rfl (by decide +kernel) (by decide +kernel) (by decide +kernel) (by decide +kernel) ⟨by decide +kernel, by decide +kernel, by decide +kernel⟩ ⟨by decide, by decide⟩) mX0_isFree) ?_
  refine al_c (pc := 15) (snd_if_ne C dX3_put_15 (by decide)) ?_
  refine al_c (pc := 18) (snd_Th (names := ["java/lang/RuntimeException", "java/lang/Exception"]) (text := "a wall is there") C CX hX (by decide +kernel) (by decide +kernel) (ik := 56) (is := 81) (ic := 60) (by decide +kernel) (by decide +kernel) (by decide +kernel) (by decide +kernel) (by decide +kernel) dX3_put_18 dX3_put_21 dX3_put_22 dX3_put_24 dX3_put_27 (by decide) (by decide)) ?_
  refine al_c (pc := 28) (snd_iload_n C dX3_put_28 rfl) ?_
  refine al_c (pc := 29) (snd_aload_n C dX3_put_29 rfl) ?_
  refine al_c (pc := 30) (snd_Ci C (site_V C rfl dX3_put_30 gX3_put_X3_column rfl rfl rfl ⟨rfl, by decide +kernel, by decide +kernel, by decide +kernel⟩ ⟨by decide, by decide⟩) mX3_column) ?_
  refine al_c (pc := 33) (snd_isub C dX3_put_33) ?_
  refine al_c (pc := 34) (snd_abs C dX3_put_34 (by decide +kernel) (by decide +kernel) (by decide +kernel) (by decide +kernel) (by decide) (by decide)) ?_
  refine al_c (pc := 37) (snd_iload_n C dX3_put_37 rfl) ?_
  refine al_c (pc := 38) (snd_aload_n C dX3_put_38 rfl) ?_
  refine al_c (pc := 39) (snd_Ci C (site_V C rfl dX3_put_39 gX3_put_X3_row rfl rfl rfl ⟨rfl, by decide +kernel, by decide +kernel, by decide +kernel⟩ ⟨by decide, by decide⟩) mX3_row) ?_
  refine al_c (pc := 42) (snd_isub C dX3_put_42) ?_
  refine al_c (pc := 43) (snd_abs C dX3_put_43 (by decide +kernel) (by decide +kernel) (by decide +kernel) (by decide +kernel) (by decide) (by decide)) ?_
  refine al_c (pc := 46) (snd_iadd C dX3_put_46) ?_
  refine al_c (pc := 47) (snd_istore_n C dX3_put_47 rfl (by decide)) ?_
  refine al_c (pc := 48) (snd_aload_n C dX3_put_48 rfl) ?_
  refine al_c (pc := 49) (snd_iload_n C dX3_put_49 rfl) ?_
  refine al_c (pc := 50) (snd_iload_n C dX3_put_50 rfl) ?_
  refine al_c (pc := 51) (snd_Ci C (site_SN C dX3_put_51 gX3_put_X0_cellAt_n48 rfl rfl rfl (by decide +kernel) (by decide +kernel) (by decide +kernel) ⟨by decide +kernel, by decide +kernel, by decide +kernel⟩ ⟨by decide, by decide⟩) mX0_cellAt) ?_
  refine al_c (pc := 54) (snd_put C dX3_put_54 (ci := 2) (kf := 4) rfl (by decide) inX3_put_X3 tyX3_ok nmX3 rfl rfl rfl (by decide +kernel)) ?_
  refine al_c (pc := 57) (snd_aload_n C dX3_put_57 rfl) ?_
  refine al_c (pc := 58) (snd_iconst C dX3_put_58 (by decide)) ?_
  refine al_c (pc := 59) (snd_put C dX3_put_59 (ci := 2) (kf := 5) rfl (by decide) inX3_put_X3 tyX3_ok nmX3 rfl rfl rfl (by decide +kernel)) ?_
  refine al_c (pc := 62) (snd_iload_n C dX3_put_62 rfl) ?_
  refine al_c (pc := 63) (snd_Ri C hQ hr dX3_put_63) ?_
  exact al_0
set_option maxHeartbeats 1000000 in
set_option maxRecDepth 100000 in
theorem mX3_put : xMi yX3_put wsX3_put rmX3_put tX3_put := by
  refine xMi_of (by decide +kernel) rfl rfl (by intro av X post ex hT; obtain ⟨a, b, k, tt, w, h, rm, pm, fd, wl, pr, fe, qu, co, pa, rfl, rfl, hw, hh, hk, h1, h2⟩ := hT; exact Nat.le_of_ble_eq_true rfl) ?_
  intro Γ ad av X post ex C CX hQ hX hr hT
  obtain ⟨a, b, k, tt, w, h, rm, pm, fd, wl, pr, fe, qu, co, pa, rfl, rfl, hw, hh, hk, h1, h2⟩ := hT
  have OK := okX3_put C hQ hr CX hX
  refine go OK [] 80 ?_
  refine ⟨_, _, _, _, _, _, _, _, _, _, _, _, _, _, _, rfl, rfl, hw, hh, fun q => ?_, fun q => ⟨rfl, h1 q⟩⟩
  obtain ⟨i, j, rfl, rfl, hi, hj⟩ := q
  obtain ⟨g1, g2⟩ := h2 i j rfl rfl hi hj
  refine ⟨_, _, _, _, _, _, _, _, _, _, _, _, _, _, _, rfl, rfl, hw, hh, fun q => ?_, fun q => ?_⟩
  · refine And.intro (fun _ => ?_) (fun q => absurd q (by decide))
    refine ⟨_, _, _, _, _, _, _, _, _, _, _, _, _, rfl, rfl, hk, ?_⟩
    refine ⟨_, _, _, _, _, _, _, _, _, _, _, _, _, rfl, rfl, hk, ?_⟩
    refine ⟨_, _, rfl, ?_⟩
    rw [cellI]
    exact ⟨rfl, g2 ((frB_nI (by omega) (by omega) hw hh).mp q).2.2⟩
  · refine And.intro (fun q => absurd rfl q) (fun _ => ?_)
    exact ⟨rfl, g1 (fun z => q ((frB_nI (by omega) (by omega) hw hh).mpr ⟨hi, hj, z⟩))⟩
abbrev tX3_roll : xTi := fun av X post ex => ∃ (a : Int32) (k tt w h : Nat) (rm pm fd : Int32) (wl pr fe qu co pa : Nat → Int32), av = [.ref 0, .int a] ∧ X = CW (nI k) (nI tt) rm pm (nI w) (nI h) fd wl pr fe qu co pa ∧ w ≤ 7 ∧ h ≤ 7 ∧ k < 49 ∧ vt tt = true ∧
  (¬ inR a 0 3 → ex "java/lang/IndexOutOfBoundsException" X) ∧ ∀ d, a = nI d → d < 4 → (nxt w h wl k d = none → ex "java/lang/IllegalStateException" X) ∧
    (∀ j, nxt w h wl k d = some j → post (nI (7 - (rlN tt d / 6 + 1))) (CW (nI j) (nI (rlN tt d)) (rm + 1) (pmP pa (7 - (rlN tt d / 6 + 1)) pm) (nI w) (nI h) fd wl (prP pa (7 - (rlN tt d / 6 + 1)) j co pr) fe qu co (paP pa (7 - (rlN tt d / 6 + 1)))))
abbrev rmX3_roll : Room := { frames := 7, cells := 2, slots := 12, locals := 110 }
def tbX3_roll (post : Int32 → List aE → Prop) (ex : aXp) (ad0 : Nat → Nat) : List (Nat × aO) := [(0, oIL 1 1),
  (1, oXv tX3_checkDirection 1 none rmX3_checkDirection.cells rmX3_checkDirection.slots rmX3_roll.cells rmX3_roll.slots 4 (exU ex ad0 rmX3_roll.cells rmX3_roll.slots)),
  (4, oAL 0 5),
  (5, oIL 1 6),
  (6, oCi tX3_rollOnce 2 (some 2) rmX3_rollOnce.cells rmX3_rollOnce.slots rmX3_roll.cells rmX3_roll.slots 9),
  (9, oIf_ne 22 12),
  (12, oTh "java/lang/IllegalStateException" ex ad0 rmX3_roll.cells rmX3_roll.slots),
  (22, oAL 0 23),
  (23, oCi tX3_bottom 1 (some 2) rmX3_bottom.cells rmX3_bottom.slots rmX3_roll.cells rmX3_roll.slots 26),
  (26, oRi post ad0 rmX3_roll.cells rmX3_roll.slots)]
set_option maxRecDepth 20000 in
theorem okX3_roll {Γ : aΓ} {post : Int32 → List aE → Prop} {ex : aXp} {ad0 : Nat → Nat} {X0 : List aE} (C : FOK Γ cX3_roll wsX3_roll RX3 2 rmX3_roll) (hQ : isQ Γ (va_Qi post (aBk (gK Γ) ad0 X0 (hsz Γ)) (aA (gK Γ) ad0 X0 (hsz Γ))) rmX3_roll ad0 X0) (hr : rTy Γ = some .int) (CX : FOX Γ) (hX : isX Γ ex rmX3_roll ad0 X0) : AllS Γ (tbX3_roll post ex ad0) := by
  unfold tbX3_roll
  refine al_c (pc := 0) (snd_iload_n C dX3_roll_0 rfl) ?_
  refine al_c (pc := 1) (snd_Xv C CX (xsite_S C dX3_roll_1 gX3_roll_X3_checkDirection rfl rfl rfl ⟨by decide +kernel, by decide +kernel, by decide +kernel⟩ ⟨by decide, by decide⟩) mX3_checkDirection (exU_FX C CX hX)) ?_
  refine al_c (pc := 4) (snd_aload_n C dX3_roll_4 rfl) ?_
  refine al_c (pc := 5) (snd_iload_n C dX3_roll_5 rfl) ?_
  refine al_c (pc := 6) (snd_Ci C (site_V C rfl dX3_roll_6 gX3_roll_X3_rollOnce rfl rfl rfl ⟨rfl, by decide +kernel, by decide +kernel, by decide +kernel⟩ ⟨by decide, by decide⟩) mX3_rollOnce) ?_
  refine al_c (pc := 9) (snd_if_ne C dX3_roll_9 (by decide)) ?_
  refine al_c (pc := 12) (snd_Th (names := ["java/lang/RuntimeException", "java/lang/Exception"]) (text := "this roll cannot be made") C CX hX (by decide +kernel) (by decide +kernel) (ik := 56) (is := 105) (ic := 60) (by decide +kernel) (by decide +kernel) (by decide +kernel) (by decide +kernel) (by decide +kernel) dX3_roll_12 dX3_roll_15 dX3_roll_16 dX3_roll_18 dX3_roll_21 (by decide) (by decide)) ?_
  refine al_c (pc := 22) (snd_aload_n C dX3_roll_22 rfl) ?_
  refine al_c (pc := 23) (snd_Ci C (site_V C rfl dX3_roll_23 gX3_roll_X3_bottom rfl rfl rfl ⟨rfl, by decide +kernel, by decide +kernel, by decide +kernel⟩ ⟨by decide, by decide⟩) mX3_bottom) ?_
  refine al_c (pc := 26) (snd_Ri C hQ hr dX3_roll_26) ?_
  exact al_0
set_option maxHeartbeats 1000000 in
set_option maxRecDepth 100000 in
theorem mX3_roll : xMi yX3_roll wsX3_roll rmX3_roll tX3_roll := by
  refine xMi_of (by decide +kernel) rfl rfl (by intro av X post ex hT; obtain ⟨a, k, tt, w, h, rm, pm, fd, wl, pr, fe, qu, co, pa, rfl, rfl, hw, hh, hk, hv, h1, h2⟩ := hT; exact Nat.le_of_ble_eq_true rfl) ?_
  intro Γ ad av X post ex C CX hQ hX hr hT
  obtain ⟨a, k, tt, w, h, rm, pm, fd, wl, pr, fe, qu, co, pa, rfl, rfl, hw, hh, hk, hv, h1, h2⟩ := hT
  have OK := okX3_roll C hQ hr CX hX
  refine go OK [] 60 ?_
  refine ⟨_, rfl, fun q => ?_, fun q => ⟨rfl, h1 q⟩⟩
  obtain ⟨d, rfl, d1, d2⟩ := q
  obtain ⟨g1, g2⟩ := h2 d rfl (by omega)
  refine ⟨_, d, _, _, _, _, _, _, _, _, _, _, _, _, _, rfl, rfl, rfl, hw, hh, hk, by omega, hv, fun q => ?_, fun j q => ?_⟩
  · refine And.intro (fun q => absurd rfl q) (fun _ => ?_)
    exact ⟨rfl, g1 q⟩
  · refine And.intro (fun _ => ?_) (fun q => absurd q (by decide))
    refine ⟨_, _, _, _, _, _, _, _, _, _, _, _, _, rfl, rfl, rlN_lt hv (by omega), ?_⟩
    exact ⟨rfl, g2 j q⟩
/-- the moving part of the state: cell, turn, rolls, prints' count, prints, paints -/
abbrev dS : Type := Nat × Nat × Int32 × Int32 × (Nat → Int32) × (Nat → Int32)
def stepD (w h : Nat) (wl co : Nat → Int32) (d : Nat) (s : dS) : Option dS := match nxt w h wl s.1 d with
  | none => none
  | some j => some (j, rlN s.2.1 d, s.2.2.1 + 1, pmP s.2.2.2.2.2 (7 - (rlN s.2.1 d / 6 + 1)) s.2.2.2.1, prP s.2.2.2.2.2 (7 - (rlN s.2.1 d / 6 + 1)) j co s.2.2.2.2.1, paP s.2.2.2.2.2 (7 - (rlN s.2.1 d / 6 + 1)))
def rollK (w h : Nat) (wl co : Nat → Int32) (d : Nat) : Nat → dS → Nat × dS
  | 0, s => (0, s)
  | n + 1, s => match stepD w h wl co d s with
    | none => (0, s)
    | some s2 => ((rollK w h wl co d n s2).1 + 1, (rollK w h wl co d n s2).2)
abbrev tX3_rollOn : xTi := fun av X post ex => ∃ (a b : Int32) (k tt w h : Nat) (rm pm fd : Int32) (wl pr fe qu co pa : Nat → Int32), av = [.ref 0, .int a, .int b] ∧ X = CW (nI k) (nI tt) rm pm (nI w) (nI h) fd wl pr fe qu co pa ∧ w ≤ 7 ∧ h ≤ 7 ∧ k < 49 ∧ vt tt = true ∧
  (¬ inR a 0 3 → ex "java/lang/IndexOutOfBoundsException" X) ∧ ∀ d, a = nI d → d < 4 → (¬ inR b 1 50 → ex "java/lang/IllegalArgumentException" X) ∧
    (∀ n, b = nI n → n ≤ 50 → ∀ (m : Nat) (k2 t2 : Nat) (rm2 pm2 : Int32) (pr2 pa2 : Nat → Int32), rollK w h wl co d n (k, tt, rm, pm, pr, pa) = (m, k2, t2, rm2, pm2, pr2, pa2) → post (nI m) (CW (nI k2) (nI t2) rm2 pm2 (nI w) (nI h) fd wl pr2 fe qu co pa2))
abbrev rmX3_rollOn : Room := { frames := 7, cells := 2, slots := 12, locals := 110 }
def tbX3_rollOn (post : Int32 → List aE → Prop) (ex : aXp) (ad0 : Nat → Nat) : List (Nat × aO) := [(0, oIL 1 1),
  (1, oXv tX3_checkDirection 1 none rmX3_checkDirection.cells rmX3_checkDirection.slots rmX3_rollOn.cells rmX3_rollOn.slots 4 (exU ex ad0 rmX3_rollOn.cells rmX3_rollOn.slots)),
  (4, oIL 2 5),
  (5, oC (1) 6),
  (6, oIc_lt 15 9),
  (9, oIL 2 10),
  (10, oC (50) 12),
  (12, oIc_le 25 15),
  (15, oTh "java/lang/IllegalArgumentException" ex ad0 rmX3_rollOn.cells rmX3_rollOn.slots),
  (25, oC (0) 26),
  (26, oIS 3 27),
  (27, oIL 3 28),
  (28, oIL 2 29),
  (29, oIc_ge 46 32),
  (32, oAL 0 33),
  (33, oIL 1 34),
  (34, oCi tX3_rollOnce 2 (some 2) rmX3_rollOnce.cells rmX3_rollOnce.slots rmX3_rollOn.cells rmX3_rollOn.slots 37),
  (37, oIf_eq 46 40),
  (40, oInc 3 1 43),
  (43, oGo 27),
  (46, oIL 3 47),
  (47, oRi post ad0 rmX3_rollOn.cells rmX3_rollOn.slots)]
set_option maxRecDepth 20000 in
theorem okX3_rollOn {Γ : aΓ} {post : Int32 → List aE → Prop} {ex : aXp} {ad0 : Nat → Nat} {X0 : List aE} (C : FOK Γ cX3_rollOn wsX3_rollOn RX3 4 rmX3_rollOn) (hQ : isQ Γ (va_Qi post (aBk (gK Γ) ad0 X0 (hsz Γ)) (aA (gK Γ) ad0 X0 (hsz Γ))) rmX3_rollOn ad0 X0) (hr : rTy Γ = some .int) (CX : FOX Γ) (hX : isX Γ ex rmX3_rollOn ad0 X0) : AllS Γ (tbX3_rollOn post ex ad0) := by
  unfold tbX3_rollOn
  refine al_c (pc := 0) (snd_iload_n C dX3_rollOn_0 rfl) ?_
  refine al_c (pc := 1) (snd_Xv C CX (xsite_S C dX3_rollOn_1 gX3_rollOn_X3_checkDirection rfl rfl rfl ⟨by decide +kernel, by decide +kernel, by decide +kernel⟩ ⟨by decide, by decide⟩) mX3_checkDirection (exU_FX C CX hX)) ?_
  refine al_c (pc := 4) (snd_iload_n C dX3_rollOn_4 rfl) ?_
  refine al_c (pc := 5) (snd_iconst C dX3_rollOn_5 (by decide)) ?_
  refine al_c (pc := 6) (snd_icmp_lt C dX3_rollOn_6 (by decide)) ?_
  refine al_c (pc := 9) (snd_iload_n C dX3_rollOn_9 rfl) ?_
  refine al_c (pc := 10) (snd_bipush C dX3_rollOn_10 (by decide)) ?_
  refine al_c (pc := 12) (snd_icmp_le C dX3_rollOn_12 (by decide)) ?_
  refine al_c (pc := 15) (snd_Th (names := ["java/lang/RuntimeException", "java/lang/Exception"]) (text := "rolls are 1 to 50") C CX hX (by decide +kernel) (by decide +kernel) (ik := 38) (is := 110) (ic := 42) (by decide +kernel) (by decide +kernel) (by decide +kernel) (by decide +kernel) (by decide +kernel) dX3_rollOn_15 dX3_rollOn_18 dX3_rollOn_19 dX3_rollOn_21 dX3_rollOn_24 (by decide) (by decide)) ?_
  refine al_c (pc := 25) (snd_iconst C dX3_rollOn_25 (by decide)) ?_
  refine al_c (pc := 26) (snd_istore_n C dX3_rollOn_26 rfl (by decide)) ?_
  refine al_c (pc := 27) (snd_iload_n C dX3_rollOn_27 rfl) ?_
  refine al_c (pc := 28) (snd_iload_n C dX3_rollOn_28 rfl) ?_
  refine al_c (pc := 29) (snd_icmp_ge C dX3_rollOn_29 (by decide)) ?_
  refine al_c (pc := 32) (snd_aload_n C dX3_rollOn_32 rfl) ?_
  refine al_c (pc := 33) (snd_iload_n C dX3_rollOn_33 rfl) ?_
  refine al_c (pc := 34) (snd_Ci C (site_V C rfl dX3_rollOn_34 gX3_rollOn_X3_rollOnce rfl rfl rfl ⟨rfl, by decide +kernel, by decide +kernel, by decide +kernel⟩ ⟨by decide, by decide⟩) mX3_rollOnce) ?_
  refine al_c (pc := 37) (snd_if_eq C dX3_rollOn_37 (by decide)) ?_
  refine al_c (pc := 40) (snd_iinc C dX3_rollOn_40 (by decide) (by decide)) ?_
  refine al_c (pc := 43) (snd_goto C dX3_rollOn_43 (by decide)) ?_
  refine al_c (pc := 46) (snd_iload_n C dX3_rollOn_46 rfl) ?_
  refine al_c (pc := 47) (snd_Ri C hQ hr dX3_rollOn_47) ?_
  exact al_0
set_option maxHeartbeats 1000000 in
set_option maxRecDepth 100000 in
theorem mX3_rollOn : xMi yX3_rollOn wsX3_rollOn rmX3_rollOn tX3_rollOn := by
  refine xMi_of (by decide +kernel) rfl rfl (by intro av X post ex hT; obtain ⟨a, b, k, tt, w, h, rm, pm, fd, wl, pr, fe, qu, co, pa, rfl, rfl, hw, hh, hk, hv, h1, h2⟩ := hT; exact Nat.le_of_ble_eq_true rfl) ?_
  intro Γ ad av X post ex C CX hQ hX hr hT
  obtain ⟨a, b, k, tt, w, h, rm, pm, fd, wl, pr, fe, qu, co, pa, rfl, rfl, hw, hh, hk, hv, h1, h2⟩ := hT
  have OK := okX3_rollOn C hQ hr CX hX
  refine go OK [27] 60 ?_
  refine ⟨_, rfl, fun q => ?_, fun q => ⟨rfl, h1 q⟩⟩
  obtain ⟨d, rfl, d1, d2⟩ := q
  obtain ⟨g1, g2⟩ := h2 d rfl (by omega)
  refine And.intro (fun q => ?_) (fun q1 => ?_)
  · exact ⟨rfl, g1 (ge1_lo q).2.2⟩
  refine And.intro (fun _ => ?_) (fun q => ?_)
  · rename_i q2
    have q2 : ¬ nI 50 < b := by rw [Int32.lt_iff_toInt_lt]; rw [Int32.le_iff_toInt_le] at q2; exact Int.not_lt.mpr q2
    obtain ⟨n, rfl, n1, n2⟩ := inR_of (lo := 1) (hi := 50) (by omega) (by omega) q1 q2
    have loop : ∀ (n2 i : Nat) (k2 t2 : Nat) (rm2 pm2 : Int32) (pr2 pa2 : Nat → Int32), i + n2 = n → k2 < 49 → vt t2 = true → rollK w h wl co d n (k, tt, rm, pm, pr, pa) = (i + (rollK w h wl co d n2 (k2, t2, rm2, pm2, pr2, pa2)).1, (rollK w h wl co d n2 (k2, t2, rm2, pm2, pr2, pa2)).2) →
        FG Γ 27 ad (0 + rmX3_checkDirection.cells) (0 + rmX3_checkDirection.slots) [(3, .int (nI i)), (0, .ref 0), (1, .int (nI d)), (2, .int (nI n))] [] (CW (nI k2) (nI t2) rm2 pm2 (nI w) (nI h) fd wl pr2 fe qu co pa2) := by
      intro n2
      induction n2 with
      | zero =>
        intro i k2 t2 rm2 pm2 pr2 pa2 hi hk2 hv2 he
        refine go OK [27] 60 ?_
        refine And.intro (fun q => ?_) (fun q => absurd ((leN (by omega) (by omega)).mpr (by omega : n ≤ i)) q)
        exact ⟨rfl, g2 n rfl (by omega) _ _ _ _ _ _ _ he⟩
      | succ n2 ih =>
        intro i k2 t2 rm2 pm2 pr2 pa2 hi hk2 hv2 he
        refine go OK [27] 60 ?_
        refine And.intro (fun q => ?_) (fun q => ?_)
        · have := (leN (by omega) (by omega)).mp q
          omega
        refine ⟨_, d, _, _, _, _, _, _, _, _, _, _, _, _, _, rfl, rfl, rfl, hw, hh, hk2, by omega, hv2, fun q => ?_, fun j q => ?_⟩
        · refine And.intro (fun _ => ?_) (fun q => absurd rfl q)
          refine ⟨rfl, g2 n rfl (by omega) _ _ _ _ _ _ _ ?_⟩
          rw [he]
          unfold rollK stepD
          rw [q]
          rfl
        · refine And.intro (fun q => absurd q (by decide)) (fun _ => ?_)
          have hj := nxt_fr q
          have key := ih (i + 1) j (rlN t2 d) (rm2 + 1) (pmP pa2 (7 - (rlN t2 d / 6 + 1)) pm2) (prP pa2 (7 - (rlN t2 d / 6 + 1)) j co pr2) (paP pa2 (7 - (rlN t2 d / 6 + 1))) (by omega) (by have := hj.1; have := hj.2.1; omega) (rlN_vt hv2 (by omega)) (by
            rw [he]
            have e : stepD w h wl co d (k2, t2, rm2, pm2, pr2, pa2) = some (j, rlN t2 d, rm2 + 1, pmP pa2 (7 - (rlN t2 d / 6 + 1)) pm2, prP pa2 (7 - (rlN t2 d / 6 + 1)) j co pr2, paP pa2 (7 - (rlN t2 d / 6 + 1))) := by
              unfold stepD
              rw [q]
            rw [rollK, e]
            show (i + ((rollK w h wl co d n2 _).1 + 1), _) = _
            rw [show ∀ x : Nat, i + (x + 1) = i + 1 + x from fun x => by omega])
          rw [← nI_p1 i] at key
          exact key
    exact loop n 0 k tt rm pm pr pa (by omega) hk hv (by simp)
  · have q2 : nI 50 < b := by rw [Int32.lt_iff_toInt_lt]; rw [Int32.le_iff_toInt_le] at q; exact Int.not_le.mp q
    exact ⟨rfl, g1 (inR_hi (hi := 50) (by omega) (by omega) q2)⟩
