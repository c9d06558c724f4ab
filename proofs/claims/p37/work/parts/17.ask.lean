/-! ===== PaintedDie's face: what would be ===== -/
theorem bS_one {w h k tt : Nat} {wl : Nat → Int32} (hw : w ≤ 7) (hh : h ≤ 7) (hv : vt tt = true) (hf : frN w h wl k) : bS (fin (nbF w h wl) 1764 [k * 36 + tt]) := by
  have ht := vt_lt hv
  refine bS_SS hw hh (by simp) (fun s hs => ?_) 1764
  rw [List.mem_singleton.mp hs]
  exact ⟨by rw [show (k * 36 + tt) % 36 = tt by omega]; exact hv, by rw [show (k * 36 + tt) / 36 = k by omega]; exact hf⟩
theorem sBk_ok {w h e f : Nat} {wl : Nat → Int32} (hf1 : 1 ≤ f) (hf : f < 7) : (sBk w h wl e f).Nodup ∧ ∀ s ∈ sBk w h wl e f, okN w h wl s := by
  unfold sBk
  cases hfr : frb w h wl e with
  | false => exact ⟨by simp, fun s hs => by simp at hs⟩
  | true =>
    rw [if_pos rfl]
    refine ⟨sB_nodup hf hf1 (by omega), fun s hs => ?_⟩
    obtain ⟨t, ht, rfl⟩ := List.mem_map.mp hs
    have h1 := (sBo_ok f hf hf1 6 (by omega)).2 t ht
    have h2 := vt_lt h1.1
    exact ⟨by rw [show (e * 36 + t) % 36 = t by omega]; exact h1.1, by rw [show (e * 36 + t) / 36 = e by omega]; exact frb_iff.mp hfr⟩
theorem bS_back {w h e f : Nat} {wl : Nat → Int32} (hw : w ≤ 7) (hh : h ≤ 7) (hf1 : 1 ≤ f) (hf : f < 7) : bS (fin (nbF w h wl) 1764 (sBk w h wl e f)) :=
  bS_SS hw hh (sBk_ok hf1 hf).1 (sBk_ok hf1 hf).2 1764
theorem DD_of {S : qS} {fe qu : Nat → Int32} {fd : Int32} (hb : bS S) (hR : RC S fe qu fd) : DD S.2 fe := ⟨hR.2.2, hb.2⟩
/-- from here -/
def DH (w h : Nat) (wl : Nat → Int32) (k tt : Nat) : Nat → Option Nat := (fin (nbF w h wl) 1764 [k * 36 + tt]).2
abbrev tX3_fewestRolls : xTi := fun av X post ex => ∃ (a b : Int32) (k tt w h : Nat) (rm pm fd : Int32) (wl pr fe qu co pa : Nat → Int32), av = [.ref 0, .int a, .int b] ∧ X = CW (nI k) (nI tt) rm pm (nI w) (nI h) fd wl pr fe qu co pa ∧ w ≤ 7 ∧ h ≤ 7 ∧ vt tt = true ∧ frN w h wl k ∧
  (¬ inB a b w h → ex "java/lang/IndexOutOfBoundsException" X) ∧ ∀ i j, a = nI i → b = nI j → i < w → j < h → ∀ (fd2 : Int32) (fe2 qu2 : Nat → Int32), post (oI (ftc (DH w h wl k tt) (j * 7 + i))) (CW (nI k) (nI tt) rm pm (nI w) (nI h) fd2 wl pr fe2 qu2 co pa)
abbrev rmX3_fewestRolls : Room := { frames := 7, cells := 1, slots := 6, locals := 128 }
theorem inX3_fewestRolls_X3 : ∀ w ∈ wsX30, w ∈ wsX3_fewestRolls := by decide +kernel
def tbX3_fewestRolls (post : Int32 → List aE → Prop) (ex : aXp) (ad0 : Nat → Nat) : List (Nat × aO) := [(0, oAL 0 1),
  (1, oIL 1 2),
  (2, oIL 2 3),
  (3, oXv tX3_checkCell 3 (some 2) rmX3_checkCell.cells rmX3_checkCell.slots rmX3_fewestRolls.cells rmX3_fewestRolls.slots 6 (exU ex ad0 rmX3_fewestRolls.cells rmX3_fewestRolls.slots)),
  (6, oAL 0 7),
  (7, oCv tX3_searchFromHere 1 (some 2) rmX3_searchFromHere.cells rmX3_searchFromHere.slots rmX3_fewestRolls.cells rmX3_fewestRolls.slots 10),
  (10, oAL 0 11),
  (11, oGet 2 1 14),
  (14, oIL 1 15),
  (15, oIL 2 16),
  (16, oCi tX0_cellAt 2 none rmX0_cellAt.cells rmX0_cellAt.slots rmX3_fewestRolls.cells rmX3_fewestRolls.slots 19),
  (19, oCi tX1_fewestTo 2 (some 1) rmX1_fewestTo.cells rmX1_fewestTo.slots rmX3_fewestRolls.cells rmX3_fewestRolls.slots 22),
  (22, oRi post ad0 rmX3_fewestRolls.cells rmX3_fewestRolls.slots)]
set_option maxRecDepth 20000 in
theorem okX3_fewestRolls {Γ : aΓ} {post : Int32 → List aE → Prop} {ex : aXp} {ad0 : Nat → Nat} {X0 : List aE} (C : FOK Γ cX3_fewestRolls wsX3_fewestRolls RX3 3 rmX3_fewestRolls) (hQ : isQ Γ (va_Qi post (aBk (gK Γ) ad0 X0 (hsz Γ)) (aA (gK Γ) ad0 X0 (hsz Γ))) rmX3_fewestRolls ad0 X0) (hr : rTy Γ = some .int) (CX : FOX Γ) (hX : isX Γ ex rmX3_fewestRolls ad0 X0) : AllS Γ (tbX3_fewestRolls post ex ad0) := by
  unfold tbX3_fewestRolls
  refine al_c (pc := 0) (snd_aload_n C dX3_fewestRolls_0 rfl) ?_
  refine al_c (pc := 1) (snd_iload_n C dX3_fewestRolls_1 rfl) ?_
  refine al_c (pc := 2) (snd_iload_n C dX3_fewestRolls_2 rfl) ?_
  refine al_c (pc := 3) (snd_Xv C CX (xsite_V C rfl dX3_fewestRolls_3 gX3_fewestRolls_X3_checkCell rfl rfl rfl ⟨rfl, by decide +kernel, by decide +kernel, by decide +kernel⟩ ⟨by decide, by decide⟩) mX3_checkCell (exU_FX C CX hX)) ?_
  refine al_c (pc := 6) (snd_aload_n C dX3_fewestRolls_6 rfl) ?_
  refine al_c (pc := 7) (snd_Cv C (site_V C rfl dX3_fewestRolls_7 gX3_fewestRolls_X3_searchFromHere rfl rfl rfl ⟨rfl, by decide +kernel, by decide +kernel, by decide +kernel⟩ ⟨by decide, by decide⟩) mX3_searchFromHere) ?_
  refine al_c (pc := 10) (snd_aload_n C dX3_fewestRolls_10 rfl) ?_
  refine al_c (pc := 11) (snd_get C dX3_fewestRolls_11 (ci := 2) (kf := 1) rfl (by decide) inX3_fewestRolls_X3 rfl (by decide +kernel)) ?_
  refine al_c (pc := 14) (snd_iload_n C dX3_fewestRolls_14 rfl) ?_
  refine al_c (pc := 15) (snd_iload_n C dX3_fewestRolls_15 rfl) ?_
  refine al_c (pc := 16) (snd_Ci C (site_SN C dX3_fewestRolls_16 gX3_fewestRolls_X0_cellAt_n48 rfl rfl rfl (by decide +kernel) (by decide +kernel) (by decide +kernel) ⟨by decide +kernel, by decide +kernel, by decide +kernel⟩ ⟨by decide, by decide⟩) mX0_cellAt) ?_
  refine al_c (pc := 19) (snd_Ci C (site_VN C rfl dX3_fewestRolls_19 gX3_fewestRolls_X1_fewestTo_n159 rfl rfl rfl (by decide +kernel) (by decide +kernel) (by decide +kernel) (by decide +kernel) ⟨by decide +kernel, by decide +kernel, by decide +kernel⟩ ⟨by decide, by decide⟩) mX1_fewestTo) ?_
  refine al_c (pc := 22) (snd_Ri C hQ hr dX3_fewestRolls_22) ?_
  exact al_0
set_option maxHeartbeats 1000000 in
set_option maxRecDepth 100000 in
theorem mX3_fewestRolls : xMi yX3_fewestRolls wsX3_fewestRolls rmX3_fewestRolls tX3_fewestRolls := by
  refine xMi_of (by decide +kernel) rfl rfl (by intro av X post ex hT; obtain ⟨a, b, k, tt, w, h, rm, pm, fd, wl, pr, fe, qu, co, pa, rfl, rfl, hw, hh, hv, hf, h1, h2⟩ := hT; exact Nat.le_of_ble_eq_true rfl) ?_
  intro Γ ad av X post ex C CX hQ hX hr hT
  obtain ⟨a, b, k, tt, w, h, rm, pm, fd, wl, pr, fe, qu, co, pa, rfl, rfl, hw, hh, hv, hf, h1, h2⟩ := hT
  have OK := okX3_fewestRolls C hQ hr CX hX
  refine go OK [] 60 ?_
  refine ⟨_, _, _, _, _, _, _, _, _, _, _, _, _, _, _, rfl, rfl, hw, hh, fun q => ?_, fun q => ⟨rfl, h1 q⟩⟩
  obtain ⟨i, j, rfl, rfl, hi, hj⟩ := q
  refine ⟨_, _, _, _, _, _, _, _, _, _, _, _, _, rfl, rfl, hw, hh, hv, hf, fun fd2 fe2 qu2 hR => ?_⟩
  refine ⟨_, _, rfl, ?_⟩
  exact ⟨_, j * 7 + i, (DH w h wl k tt), _, _, _, _, _, _, _, _, _, _, _, _, _, rfl, cellI i j, rfl, by omega, DD_of (bS_one hw hh hv hf) hR, rfl, h2 i j rfl rfl hi hj _ _ _⟩
abbrev tX3_fewestRollsWithTop : xTi := fun av X post ex => ∃ (a b g : Int32) (k tt w h : Nat) (rm pm fd : Int32) (wl pr fe qu co pa : Nat → Int32), av = [.ref 0, .int a, .int b, .int g] ∧ X = CW (nI k) (nI tt) rm pm (nI w) (nI h) fd wl pr fe qu co pa ∧ w ≤ 7 ∧ h ≤ 7 ∧ vt tt = true ∧ frN w h wl k ∧
  (¬ (inB a b w h ∧ inR g 1 6) → ex "java/lang/IndexOutOfBoundsException" X) ∧ ∀ i j f, a = nI i → b = nI j → g = nI f → i < w → j < h → 1 ≤ f → f ≤ 6 → ∀ (fd2 : Int32) (fe2 qu2 : Nat → Int32), post (oI (fwt (DH w h wl k tt) (j * 7 + i) f)) (CW (nI k) (nI tt) rm pm (nI w) (nI h) fd2 wl pr fe2 qu2 co pa)
abbrev rmX3_fewestRollsWithTop : Room := { frames := 7, cells := 2, slots := 12, locals := 115 }
theorem inX3_fewestRollsWithTop_X3 : ∀ w ∈ wsX30, w ∈ wsX3_fewestRollsWithTop := by decide +kernel
def tbX3_fewestRollsWithTop (post : Int32 → List aE → Prop) (ex : aXp) (ad0 : Nat → Nat) : List (Nat × aO) := [(0, oAL 0 1),
  (1, oIL 1 2),
  (2, oIL 2 3),
  (3, oXv tX3_checkCell 3 (some 2) rmX3_checkCell.cells rmX3_checkCell.slots rmX3_fewestRollsWithTop.cells rmX3_fewestRollsWithTop.slots 6 (exU ex ad0 rmX3_fewestRollsWithTop.cells rmX3_fewestRollsWithTop.slots)),
  (6, oIL 3 7),
  (7, oXv tX3_checkFace 1 none rmX3_checkFace.cells rmX3_checkFace.slots rmX3_fewestRollsWithTop.cells rmX3_fewestRollsWithTop.slots 10 (exU ex ad0 rmX3_fewestRollsWithTop.cells rmX3_fewestRollsWithTop.slots)),
  (10, oAL 0 11),
  (11, oCv tX3_searchFromHere 1 (some 2) rmX3_searchFromHere.cells rmX3_searchFromHere.slots rmX3_fewestRollsWithTop.cells rmX3_fewestRollsWithTop.slots 14),
  (14, oAL 0 15),
  (15, oGet 2 1 18),
  (18, oIL 1 19),
  (19, oIL 2 20),
  (20, oCi tX0_cellAt 2 none rmX0_cellAt.cells rmX0_cellAt.slots rmX3_fewestRollsWithTop.cells rmX3_fewestRollsWithTop.slots 23),
  (23, oIL 3 24),
  (24, oCi tX1_fewestWithTop 3 (some 1) rmX1_fewestWithTop.cells rmX1_fewestWithTop.slots rmX3_fewestRollsWithTop.cells rmX3_fewestRollsWithTop.slots 27),
  (27, oRi post ad0 rmX3_fewestRollsWithTop.cells rmX3_fewestRollsWithTop.slots)]
set_option maxRecDepth 20000 in
theorem okX3_fewestRollsWithTop {Γ : aΓ} {post : Int32 → List aE → Prop} {ex : aXp} {ad0 : Nat → Nat} {X0 : List aE} (C : FOK Γ cX3_fewestRollsWithTop wsX3_fewestRollsWithTop RX3 4 rmX3_fewestRollsWithTop) (hQ : isQ Γ (va_Qi post (aBk (gK Γ) ad0 X0 (hsz Γ)) (aA (gK Γ) ad0 X0 (hsz Γ))) rmX3_fewestRollsWithTop ad0 X0) (hr : rTy Γ = some .int) (CX : FOX Γ) (hX : isX Γ ex rmX3_fewestRollsWithTop ad0 X0) : AllS Γ (tbX3_fewestRollsWithTop post ex ad0) := by
  unfold tbX3_fewestRollsWithTop
  refine al_c (pc := 0) (snd_aload_n C dX3_fewestRollsWithTop_0 rfl) ?_
  refine al_c (pc := 1) (snd_iload_n C dX3_fewestRollsWithTop_1 rfl) ?_
  refine al_c (pc := 2) (snd_iload_n C dX3_fewestRollsWithTop_2 rfl) ?_
  refine al_c (pc := 3) (snd_Xv C CX (xsite_V C rfl dX3_fewestRollsWithTop_3 gX3_fewestRollsWithTop_X3_checkCell rfl rfl rfl ⟨rfl, by decide +kernel, by decide +kernel, by decide +kernel⟩ ⟨by decide, by decide⟩) mX3_checkCell (exU_FX C CX hX)) ?_
  refine al_c (pc := 6) (snd_iload_n C dX3_fewestRollsWithTop_6 rfl) ?_
  refine al_c (pc := 7) (snd_Xv C CX (xsite_S C dX3_fewestRollsWithTop_7 gX3_fewestRollsWithTop_X3_checkFace rfl rfl rfl ⟨by decide +kernel, by decide +kernel, by decide +kernel⟩ ⟨by decide, by decide⟩) mX3_checkFace (exU_FX C CX hX)) ?_
  refine al_c (pc := 10) (snd_aload_n C dX3_fewestRollsWithTop_10 rfl) ?_
  refine al_c (pc := 11) (snd_Cv C (site_V C rfl dX3_fewestRollsWithTop_11 gX3_fewestRollsWithTop_X3_searchFromHere rfl rfl rfl ⟨rfl, by decide +kernel, by decide +kernel, by decide +kernel⟩ ⟨by decide, by decide⟩) mX3_searchFromHere) ?_
  refine al_c (pc := 14) (snd_aload_n C dX3_fewestRollsWithTop_14 rfl) ?_
  refine al_c (pc := 15) (snd_get C dX3_fewestRollsWithTop_15 (ci := 2) (kf := 1) rfl (by decide) inX3_fewestRollsWithTop_X3 rfl (by decide +kernel)) ?_
  refine al_c (pc := 18) (snd_iload_n C dX3_fewestRollsWithTop_18 rfl) ?_
  refine al_c (pc := 19) (snd_iload_n C dX3_fewestRollsWithTop_19 rfl) ?_
  refine al_c (pc := 20) (snd_Ci C (site_SN C dX3_fewestRollsWithTop_20 gX3_fewestRollsWithTop_X0_cellAt_n48 rfl rfl rfl (by decide +kernel) (by decide +kernel) (by decide +kernel) ⟨by decide +kernel, by decide +kernel, by decide +kernel⟩ ⟨by decide, by decide⟩) mX0_cellAt) ?_
  refine al_c (pc := 23) (snd_iload_n C dX3_fewestRollsWithTop_23 rfl) ?_
  refine al_c (pc := 24) (snd_Ci C (site_VN C rfl dX3_fewestRollsWithTop_24 gX3_fewestRollsWithTop_X1_fewestWithTop_n162 rfl rfl rfl (by decide +kernel) (by decide +kernel) (by decide +kernel) (by decide +kernel) ⟨by decide +kernel, by decide +kernel, by decide +kernel⟩ ⟨by decide, by decide⟩) mX1_fewestWithTop) ?_
  refine al_c (pc := 27) (snd_Ri C hQ hr dX3_fewestRollsWithTop_27) ?_
  exact al_0
set_option maxHeartbeats 1000000 in
set_option maxRecDepth 100000 in
theorem mX3_fewestRollsWithTop : xMi yX3_fewestRollsWithTop wsX3_fewestRollsWithTop rmX3_fewestRollsWithTop tX3_fewestRollsWithTop := by
  refine xMi_of (by decide +kernel) rfl rfl (by intro av X post ex hT; obtain ⟨a, b, g, k, tt, w, h, rm, pm, fd, wl, pr, fe, qu, co, pa, rfl, rfl, hw, hh, hv, hf, h1, h2⟩ := hT; exact Nat.le_of_ble_eq_true rfl) ?_
  intro Γ ad av X post ex C CX hQ hX hr hT
  obtain ⟨a, b, g, k, tt, w, h, rm, pm, fd, wl, pr, fe, qu, co, pa, rfl, rfl, hw, hh, hv, hf, h1, h2⟩ := hT
  have OK := okX3_fewestRollsWithTop C hQ hr CX hX
  refine go OK [] 60 ?_
  refine ⟨_, _, _, _, _, _, _, _, _, _, _, _, _, _, _, rfl, rfl, hw, hh, fun q => ?_, fun q => ⟨rfl, h1 (fun z => q z.1)⟩⟩
  refine ⟨_, rfl, fun q2 => ?_, fun q2 => ⟨rfl, h1 (fun z => q2 z.2)⟩⟩
  obtain ⟨i, j, rfl, rfl, hi, hj⟩ := q
  obtain ⟨f, rfl, f1, f2⟩ := q2
  refine ⟨_, _, _, _, _, _, _, _, _, _, _, _, _, rfl, rfl, hw, hh, hv, hf, fun fd2 fe2 qu2 hR => ?_⟩
  refine ⟨_, _, rfl, ?_⟩
  exact ⟨_, _, j * 7 + i, f, (DH w h wl k tt), _, _, _, _, _, _, _, _, _, _, _, _, _, rfl, cellI i j, rfl, rfl, by omega, f1, by omega, DD_of (bS_one hw hh hv hf) hR, rfl, h2 i j f rfl rfl rfl hi hj f1 f2 _ _ _⟩
abbrev tX3_topsAt : xTi := fun av X post ex => ∃ (a b : Int32) (k tt w h : Nat) (rm pm fd : Int32) (wl pr fe qu co pa : Nat → Int32), av = [.ref 0, .int a, .int b] ∧ X = CW (nI k) (nI tt) rm pm (nI w) (nI h) fd wl pr fe qu co pa ∧ w ≤ 7 ∧ h ≤ 7 ∧ vt tt = true ∧ frN w h wl k ∧
  (¬ inB a b w h → ex "java/lang/IndexOutOfBoundsException" X) ∧ ∀ i j, a = nI i → b = nI j → i < w → j < h → ∀ (fd2 : Int32) (fe2 qu2 : Nat → Int32), post (nI (ct (fun f => (fwt (DH w h wl k tt) (j * 7 + i) (f + 1)).isSome) 6)) (CW (nI k) (nI tt) rm pm (nI w) (nI h) fd2 wl pr fe2 qu2 co pa)
abbrev rmX3_topsAt : Room := { frames := 7, cells := 1, slots := 6, locals := 128 }
theorem inX3_topsAt_X3 : ∀ w ∈ wsX30, w ∈ wsX3_topsAt := by decide +kernel
def tbX3_topsAt (post : Int32 → List aE → Prop) (ex : aXp) (ad0 : Nat → Nat) : List (Nat × aO) := [(0, oAL 0 1),
  (1, oIL 1 2),
  (2, oIL 2 3),
  (3, oXv tX3_checkCell 3 (some 2) rmX3_checkCell.cells rmX3_checkCell.slots rmX3_topsAt.cells rmX3_topsAt.slots 6 (exU ex ad0 rmX3_topsAt.cells rmX3_topsAt.slots)),
  (6, oAL 0 7),
  (7, oCv tX3_searchFromHere 1 (some 2) rmX3_searchFromHere.cells rmX3_searchFromHere.slots rmX3_topsAt.cells rmX3_topsAt.slots 10),
  (10, oAL 0 11),
  (11, oGet 2 1 14),
  (14, oIL 1 15),
  (15, oIL 2 16),
  (16, oCi tX0_cellAt 2 none rmX0_cellAt.cells rmX0_cellAt.slots rmX3_topsAt.cells rmX3_topsAt.slots 19),
  (19, oCi tX1_countTops 2 (some 1) rmX1_countTops.cells rmX1_countTops.slots rmX3_topsAt.cells rmX3_topsAt.slots 22),
  (22, oRi post ad0 rmX3_topsAt.cells rmX3_topsAt.slots)]
set_option maxRecDepth 20000 in
theorem okX3_topsAt {Γ : aΓ} {post : Int32 → List aE → Prop} {ex : aXp} {ad0 : Nat → Nat} {X0 : List aE} (C : FOK Γ cX3_topsAt wsX3_topsAt RX3 3 rmX3_topsAt) (hQ : isQ Γ (va_Qi post (aBk (gK Γ) ad0 X0 (hsz Γ)) (aA (gK Γ) ad0 X0 (hsz Γ))) rmX3_topsAt ad0 X0) (hr : rTy Γ = some .int) (CX : FOX Γ) (hX : isX Γ ex rmX3_topsAt ad0 X0) : AllS Γ (tbX3_topsAt post ex ad0) := by
  unfold tbX3_topsAt
  refine al_c (pc := 0) (snd_aload_n C dX3_topsAt_0 rfl) ?_
  refine al_c (pc := 1) (snd_iload_n C dX3_topsAt_1 rfl) ?_
  refine al_c (pc := 2) (snd_iload_n C dX3_topsAt_2 rfl) ?_
  refine al_c (pc := 3) (snd_Xv C CX (xsite_V C rfl dX3_topsAt_3 gX3_topsAt_X3_checkCell rfl rfl rfl ⟨rfl, by decide +kernel, by decide +kernel, by decide +kernel⟩ ⟨by decide, by decide⟩) mX3_checkCell (exU_FX C CX hX)) ?_
  refine al_c (pc := 6) (snd_aload_n C dX3_topsAt_6 rfl) ?_
  refine al_c (pc := 7) (snd_Cv C (site_V C rfl dX3_topsAt_7 gX3_topsAt_X3_searchFromHere rfl rfl rfl ⟨rfl, by decide +kernel, by decide +kernel, by decide +kernel⟩ ⟨by decide, by decide⟩) mX3_searchFromHere) ?_
  refine al_c (pc := 10) (snd_aload_n C dX3_topsAt_10 rfl) ?_
  refine al_c (pc := 11) (snd_get C dX3_topsAt_11 (ci := 2) (kf := 1) rfl (by decide) inX3_topsAt_X3 rfl (by decide +kernel)) ?_
  refine al_c (pc := 14) (snd_iload_n C dX3_topsAt_14 rfl) ?_
  refine al_c (pc := 15) (snd_iload_n C dX3_topsAt_15 rfl) ?_
  refine al_c (pc := 16) (snd_Ci C (site_SN C dX3_topsAt_16 gX3_topsAt_X0_cellAt_n48 rfl rfl rfl (by decide +kernel) (by decide +kernel) (by decide +kernel) ⟨by decide +kernel, by decide +kernel, by decide +kernel⟩ ⟨by decide, by decide⟩) mX0_cellAt) ?_
  refine al_c (pc := 19) (snd_Ci C (site_VN C rfl dX3_topsAt_19 gX3_topsAt_X1_countTops_n174 rfl rfl rfl (by decide +kernel) (by decide +kernel) (by decide +kernel) (by decide +kernel) ⟨by decide +kernel, by decide +kernel, by decide +kernel⟩ ⟨by decide, by decide⟩) mX1_countTops) ?_
  refine al_c (pc := 22) (snd_Ri C hQ hr dX3_topsAt_22) ?_
  exact al_0
set_option maxHeartbeats 1000000 in
set_option maxRecDepth 100000 in
theorem mX3_topsAt : xMi yX3_topsAt wsX3_topsAt rmX3_topsAt tX3_topsAt := by
  refine xMi_of (by decide +kernel) rfl rfl (by intro av X post ex hT; obtain ⟨a, b, k, tt, w, h, rm, pm, fd, wl, pr, fe, qu, co, pa, rfl, rfl, hw, hh, hv, hf, h1, h2⟩ := hT; exact Nat.le_of_ble_eq_true rfl) ?_
  intro Γ ad av X post ex C CX hQ hX hr hT
  obtain ⟨a, b, k, tt, w, h, rm, pm, fd, wl, pr, fe, qu, co, pa, rfl, rfl, hw, hh, hv, hf, h1, h2⟩ := hT
  have OK := okX3_topsAt C hQ hr CX hX
  refine go OK [] 60 ?_
  refine ⟨_, _, _, _, _, _, _, _, _, _, _, _, _, _, _, rfl, rfl, hw, hh, fun q => ?_, fun q => ⟨rfl, h1 q⟩⟩
  obtain ⟨i, j, rfl, rfl, hi, hj⟩ := q
  refine ⟨_, _, _, _, _, _, _, _, _, _, _, _, _, rfl, rfl, hw, hh, hv, hf, fun fd2 fe2 qu2 hR => ?_⟩
  refine ⟨_, _, rfl, ?_⟩
  exact ⟨_, j * 7 + i, (DH w h wl k tt), _, _, _, _, _, _, _, _, _, _, _, _, _, rfl, cellI i j, rfl, by omega, DD_of (bS_one hw hh hv hf) hR, rfl, h2 i j rfl rfl hi hj _ _ _⟩
abbrev tX3_waysToLie : aTi := fun av X post => ∃ (k tt w h : Nat) (rm pm fd : Int32) (wl pr fe qu co pa : Nat → Int32), av = [.ref 0] ∧ X = CW (nI k) (nI tt) rm pm (nI w) (nI h) fd wl pr fe qu co pa ∧ w ≤ 7 ∧ h ≤ 7 ∧ vt tt = true ∧ frN w h wl k ∧
  ∀ (fd2 : Int32) (fe2 qu2 : Nat → Int32), post (nI (fin (nbF w h wl) 1764 [k * 36 + tt]).1.length) (CW (nI k) (nI tt) rm pm (nI w) (nI h) fd2 wl pr fe2 qu2 co pa)
abbrev rmX3_waysToLie : Room := { frames := 5, cells := 0, slots := 0, locals := 115 }
theorem inX3_waysToLie_X1 : ∀ w ∈ wsX10, w ∈ wsX3_waysToLie := by decide +kernel
theorem inX3_waysToLie_X3 : ∀ w ∈ wsX30, w ∈ wsX3_waysToLie := by decide +kernel
def tbX3_waysToLie (post : Int32 → List aE → Prop) (ad0 : Nat → Nat) : List (Nat × aO) := [(0, oAL 0 1),
  (1, oCv tX3_searchFromHere 1 (some 2) rmX3_searchFromHere.cells rmX3_searchFromHere.slots rmX3_waysToLie.cells rmX3_waysToLie.slots 4),
  (4, oAL 0 5),
  (5, oGet 2 1 8),
  (8, oGet 1 2 11),
  (11, oRi post ad0 rmX3_waysToLie.cells rmX3_waysToLie.slots)]
set_option maxRecDepth 20000 in
theorem okX3_waysToLie {Γ : aΓ} {post : Int32 → List aE → Prop} {ad0 : Nat → Nat} {X0 : List aE} (C : FOK Γ cX3_waysToLie wsX3_waysToLie RX3 1 rmX3_waysToLie) (hQ : isQ Γ (va_Qi post (aBk (gK Γ) ad0 X0 (hsz Γ)) (aA (gK Γ) ad0 X0 (hsz Γ))) rmX3_waysToLie ad0 X0) (hr : rTy Γ = some .int) : AllS Γ (tbX3_waysToLie post ad0) := by
  unfold tbX3_waysToLie
  refine al_c (pc := 0) (snd_aload_n C dX3_waysToLie_0 rfl) ?_
  refine al_c (pc := 1) (snd_Cv C (site_V C rfl dX3_waysToLie_1 gX3_waysToLie_X3_searchFromHere rfl rfl rfl ⟨rfl, by decide +kernel, by decide +kernel, by decide +kernel⟩ ⟨by decide, by decide⟩) mX3_searchFromHere) ?_
  refine al_c (pc := 4) (snd_aload_n C dX3_waysToLie_4 rfl) ?_
  refine al_c (pc := 5) (snd_get C dX3_waysToLie_5 (ci := 2) (kf := 1) rfl (by decide) inX3_waysToLie_X3 rfl (by decide +kernel)) ?_
  refine al_c (pc := 8) (snd_getN C dX3_waysToLie_8 (ci := 1) (kf := 2) rfl (by decide) inX3_waysToLie_X1 rfl rfl rfl (by decide +kernel)) ?_
  refine al_c (pc := 11) (snd_Ri C hQ hr dX3_waysToLie_11) ?_
  exact al_0
set_option maxHeartbeats 1000000 in
set_option maxRecDepth 100000 in
theorem mX3_waysToLie : aMi yX3_waysToLie wsX3_waysToLie rmX3_waysToLie tX3_waysToLie := by
  refine aMi_of (by decide +kernel) rfl rfl (by intro av X post hT; obtain ⟨k, tt, w, h, rm, pm, fd, wl, pr, fe, qu, co, pa, rfl, rfl, hw, hh, hv, hf, hp⟩ := hT; exact Nat.le_of_ble_eq_true rfl) ?_
  intro Γ ad av X post C hQ hr hT
  obtain ⟨k, tt, w, h, rm, pm, fd, wl, pr, fe, qu, co, pa, rfl, rfl, hw, hh, hv, hf, hp⟩ := hT
  have OK := okX3_waysToLie C hQ hr
  refine go OK [] 60 ?_
  refine ⟨_, _, _, _, _, _, _, _, _, _, _, _, _, rfl, rfl, hw, hh, hv, hf, fun fd2 fe2 qu2 hR => ?_⟩
  obtain ⟨rfl, hq, hD⟩ := hR
  exact ⟨rfl, hp _ _ _⟩
abbrev tX3_cellsWithinReach : aTi := fun av X post => ∃ (k tt w h : Nat) (rm pm fd : Int32) (wl pr fe qu co pa : Nat → Int32), av = [.ref 0] ∧ X = CW (nI k) (nI tt) rm pm (nI w) (nI h) fd wl pr fe qu co pa ∧ w ≤ 7 ∧ h ≤ 7 ∧ vt tt = true ∧ frN w h wl k ∧
  ∀ (fd2 : Int32) (fe2 qu2 : Nat → Int32), post (nI (ct (fun c => (ftc (DH w h wl k tt) c).isSome) 49)) (CW (nI k) (nI tt) rm pm (nI w) (nI h) fd2 wl pr fe2 qu2 co pa)
abbrev rmX3_cellsWithinReach : Room := { frames := 5, cells := 0, slots := 0, locals := 128 }
theorem inX3_cellsWithinReach_X3 : ∀ w ∈ wsX30, w ∈ wsX3_cellsWithinReach := by decide +kernel
def tbX3_cellsWithinReach (post : Int32 → List aE → Prop) (ad0 : Nat → Nat) : List (Nat × aO) := [(0, oAL 0 1),
  (1, oCv tX3_searchFromHere 1 (some 2) rmX3_searchFromHere.cells rmX3_searchFromHere.slots rmX3_cellsWithinReach.cells rmX3_cellsWithinReach.slots 4),
  (4, oC (0) 5),
  (5, oIS 1 6),
  (6, oC (0) 7),
  (7, oIS 2 8),
  (8, oIL 2 9),
  (9, oC (49) 11),
  (11, oIc_ge 35 14),
  (14, oAL 0 15),
  (15, oGet 2 1 18),
  (18, oIL 2 19),
  (19, oCi tX1_fewestTo 2 (some 1) rmX1_fewestTo.cells rmX1_fewestTo.slots rmX3_cellsWithinReach.cells rmX3_cellsWithinReach.slots 22),
  (22, oC (-1) 23),
  (23, oIc_eq 29 26),
  (26, oInc 1 1 29),
  (29, oInc 2 1 32),
  (32, oGo 8),
  (35, oIL 1 36),
  (36, oRi post ad0 rmX3_cellsWithinReach.cells rmX3_cellsWithinReach.slots)]
set_option maxRecDepth 20000 in
theorem okX3_cellsWithinReach {Γ : aΓ} {post : Int32 → List aE → Prop} {ad0 : Nat → Nat} {X0 : List aE} (C : FOK Γ cX3_cellsWithinReach wsX3_cellsWithinReach RX3 3 rmX3_cellsWithinReach) (hQ : isQ Γ (va_Qi post (aBk (gK Γ) ad0 X0 (hsz Γ)) (aA (gK Γ) ad0 X0 (hsz Γ))) rmX3_cellsWithinReach ad0 X0) (hr : rTy Γ = some .int) : AllS Γ (tbX3_cellsWithinReach post ad0) := by
  unfold tbX3_cellsWithinReach
  refine al_c (pc := 0) (snd_aload_n C dX3_cellsWithinReach_0 rfl) ?_
  refine al_c (pc := 1) (snd_Cv C (site_V C rfl dX3_cellsWithinReach_1 gX3_cellsWithinReach_X3_searchFromHere rfl rfl rfl ⟨rfl, by decide +kernel, by decide +kernel, by decide +kernel⟩ ⟨by decide, by decide⟩) mX3_searchFromHere) ?_
  refine al_c (pc := 4) (snd_iconst C dX3_cellsWithinReach_4 (by decide)) ?_
  refine al_c (pc := 5) (snd_istore_n C dX3_cellsWithinReach_5 rfl (by decide)) ?_
  refine al_c (pc := 6) (snd_iconst C dX3_cellsWithinReach_6 (by decide)) ?_
  refine al_c (pc := 7) (snd_istore_n C dX3_cellsWithinReach_7 rfl (by decide)) ?_
  refine al_c (pc := 8) (snd_iload_n C dX3_cellsWithinReach_8 rfl) ?_
  refine al_c (pc := 9) (snd_bipush C dX3_cellsWithinReach_9 (by decide)) ?_
  refine al_c (pc := 11) (snd_icmp_ge C dX3_cellsWithinReach_11 (by decide)) ?_
  refine al_c (pc := 14) (snd_aload_n C dX3_cellsWithinReach_14 rfl) ?_
  refine al_c (pc := 15) (snd_get C dX3_cellsWithinReach_15 (ci := 2) (kf := 1) rfl (by decide) inX3_cellsWithinReach_X3 rfl (by decide +kernel)) ?_
  refine al_c (pc := 18) (snd_iload_n C dX3_cellsWithinReach_18 rfl) ?_
  refine al_c (pc := 19) (snd_Ci C (site_VN C rfl dX3_cellsWithinReach_19 gX3_cellsWithinReach_X1_fewestTo_n159 rfl rfl rfl (by decide +kernel) (by decide +kernel) (by decide +kernel) (by decide +kernel) ⟨by decide +kernel, by decide +kernel, by decide +kernel⟩ ⟨by decide, by decide⟩) mX1_fewestTo) ?_
  refine al_c (pc := 22) (snd_iconst C dX3_cellsWithinReach_22 (by decide)) ?_
  refine al_c (pc := 23) (snd_icmp_eq C dX3_cellsWithinReach_23 (by decide)) ?_
  refine al_c (pc := 26) (snd_iinc C dX3_cellsWithinReach_26 (by decide) (by decide)) ?_
  refine al_c (pc := 29) (snd_iinc C dX3_cellsWithinReach_29 (by decide) (by decide)) ?_
  refine al_c (pc := 32) (snd_goto C dX3_cellsWithinReach_32 (by decide)) ?_
  refine al_c (pc := 35) (snd_iload_n C dX3_cellsWithinReach_35 rfl) ?_
  refine al_c (pc := 36) (snd_Ri C hQ hr dX3_cellsWithinReach_36) ?_
  exact al_0
set_option maxHeartbeats 1000000 in
set_option maxRecDepth 100000 in
theorem mX3_cellsWithinReach : aMi yX3_cellsWithinReach wsX3_cellsWithinReach rmX3_cellsWithinReach tX3_cellsWithinReach := by
  refine aMi_of (by decide +kernel) rfl rfl (by intro av X post hT; obtain ⟨k, tt, w, h, rm, pm, fd, wl, pr, fe, qu, co, pa, rfl, rfl, hw, hh, hv, hf, hp⟩ := hT; exact Nat.le_of_ble_eq_true rfl) ?_
  intro Γ ad av X post C hQ hr hT
  obtain ⟨k, tt, w, h, rm, pm, fd, wl, pr, fe, qu, co, pa, rfl, rfl, hw, hh, hv, hf, hp⟩ := hT
  have OK := okX3_cellsWithinReach C hQ hr
  have hb := bS_one hw hh hv hf
  refine go OK [8] 60 ?_
  refine ⟨_, _, _, _, _, _, _, _, _, _, _, _, _, rfl, rfl, hw, hh, hv, hf, fun fd2 fe2 qu2 hR => ?_⟩
  have hDD : DD (DH w h wl k tt) fe2 := DD_of hb hR
  have hp := hp fd2 fe2 qu2
  obtain ⟨D, hDe⟩ : ∃ D, D = DH w h wl k tt := ⟨_, rfl⟩
  rw [← hDe] at hDD hp
  have loop : ∀ (n i : Nat), i ≤ 49 → 49 - i < n → FG Γ 8 ad 0 0 [(2, .int (nI i)), (1, .int (nI (ct (fun c => (ftc D c).isSome) i))), (0, .ref 0)] [] (CW (nI k) (nI tt) rm pm (nI w) (nI h) fd2 wl pr fe2 qu2 co pa) := by
    intro n
    induction n with
    | zero => intro i _ h; omega
    | succ n ih =>
      intro i hi hn
      refine go OK [8] 60 ?_
      refine And.intro (fun q => ?_) (fun q => ?_)
      · have q := (leN (a := 49) (by omega) (by omega)).mp q
        have : i = 49 := by omega
        subst this
        exact ⟨rfl, hp⟩
      · have hlt : i < 49 := by
          rcases Nat.lt_or_ge i 49 with z | z
          · exact z
          · exact absurd ((leN (a := 49) (b := i) (by omega) (by omega)).mpr z) q
        have key := ih (i + 1) (by omega) (by omega)
        rw [← nI_p1 i] at key
        have e1 : oI (ftc D i) = -1 ↔ ftc D i = none := oI_ne (fun n hn => by have := ftc_lt hDD.2 i n hn; omega)
        refine ⟨_, i, D, _, _, _, _, _, _, _, _, _, _, _, _, _, rfl, rfl, rfl, hlt, hDD, ?_⟩
        refine And.intro (fun q => ?_) (fun q => ?_)
        · rw [ct_f (p := fun c => (ftc D c).isSome) (n := i) (by simp [e1.mp q])] at key
          exact key
        · have e : (ftc D i).isSome = true := by
            cases z : ftc D i with
            | none => exact absurd (e1.mpr z) q
            | some x => rfl
          rw [ct_t (p := fun c => (ftc D c).isSome) (n := i) e, ← nI_p1 (ct _ i)] at key
          exact key
  exact loop 50 0 (by omega) (by omega)
/-- a cell that can be lain on behind just n rolls, by its distance -/
def cbh (n : Nat) (x : Option Nat) : Bool := match x with
  | none => false
  | some r => decide (r ≤ n) && decide ((n - r) % 2 = 0)
abbrev tX3_cellsBehind : xTi := fun av X post ex => ∃ (a : Int32) (k tt w h : Nat) (rm pm fd : Int32) (wl pr fe qu co pa : Nat → Int32), av = [.ref 0, .int a] ∧ X = CW (nI k) (nI tt) rm pm (nI w) (nI h) fd wl pr fe qu co pa ∧ w ≤ 7 ∧ h ≤ 7 ∧ vt tt = true ∧ frN w h wl k ∧
  (¬ inR a 0 20 → ex "java/lang/IllegalArgumentException" X) ∧ ∀ n, a = nI n → n ≤ 20 → ((0 < n ∧ ∀ d, d < 4 → nxt w h wl k d = none) → post 0 X) ∧
    (¬ (0 < n ∧ ∀ d, d < 4 → nxt w h wl k d = none) → ∀ (fd2 : Int32) (fe2 qu2 : Nat → Int32), post (nI (ct (fun c => cbh n (ftc (DH w h wl k tt) c)) 49)) (CW (nI k) (nI tt) rm pm (nI w) (nI h) fd2 wl pr fe2 qu2 co pa))
abbrev rmX3_cellsBehind : Room := { frames := 6, cells := 1, slots := 6, locals := 128 }
theorem inX3_cellsBehind_X3 : ∀ w ∈ wsX30, w ∈ wsX3_cellsBehind := by decide +kernel
def tbX3_cellsBehind (post : Int32 → List aE → Prop) (ex : aXp) (ad0 : Nat → Nat) : List (Nat × aO) := [(0, oIL 1 1),
  (1, oIf_lt 10 4),
  (4, oIL 1 5),
  (5, oC (20) 7),
  (7, oIc_le 20 10),
  (10, oTh "java/lang/IllegalArgumentException" ex ad0 rmX3_cellsBehind.cells rmX3_cellsBehind.slots),
  (20, oIL 1 21),
  (21, oIf_le 33 24),
  (24, oAL 0 25),
  (25, oCi tX3_isShutIn 1 (some 2) rmX3_isShutIn.cells rmX3_isShutIn.slots rmX3_cellsBehind.cells rmX3_cellsBehind.slots 28),
  (28, oIf_eq 33 31),
  (31, oC (0) 32),
  (32, oRi post ad0 rmX3_cellsBehind.cells rmX3_cellsBehind.slots),
  (33, oAL 0 34),
  (34, oCv tX3_searchFromHere 1 (some 2) rmX3_searchFromHere.cells rmX3_searchFromHere.slots rmX3_cellsBehind.cells rmX3_cellsBehind.slots 37),
  (37, oC (0) 38),
  (38, oIS 2 39),
  (39, oC (0) 40),
  (40, oIS 3 41),
  (41, oIL 3 42),
  (42, oC (49) 44),
  (44, oIc_ge 87 47),
  (47, oAL 0 48),
  (48, oGet 2 1 51),
  (51, oIL 3 52),
  (52, oCi tX1_fewestTo 2 (some 1) rmX1_fewestTo.cells rmX1_fewestTo.slots rmX3_cellsBehind.cells rmX3_cellsBehind.slots 55),
  (55, oIS 4 57),
  (57, oIL 4 59),
  (59, oC (-1) 60),
  (60, oIc_eq 81 63),
  (63, oIL 4 65),
  (65, oIL 1 66),
  (66, oIc_gt 81 69),
  (69, oIL 1 70),
  (70, oIL 4 72),
  (72, oIsub 73),
  (73, oC (2) 74),
  (74, oIrem 75),
  (75, oIf_ne 81 78),
  (78, oInc 2 1 81),
  (81, oInc 3 1 84),
  (84, oGo 41),
  (87, oIL 2 88),
  (88, oRi post ad0 rmX3_cellsBehind.cells rmX3_cellsBehind.slots)]
set_option maxRecDepth 20000 in
theorem okX3_cellsBehind {Γ : aΓ} {post : Int32 → List aE → Prop} {ex : aXp} {ad0 : Nat → Nat} {X0 : List aE} (C : FOK Γ cX3_cellsBehind wsX3_cellsBehind RX3 5 rmX3_cellsBehind) (hQ : isQ Γ (va_Qi post (aBk (gK Γ) ad0 X0 (hsz Γ)) (aA (gK Γ) ad0 X0 (hsz Γ))) rmX3_cellsBehind ad0 X0) (hr : rTy Γ = some .int) (CX : FOX Γ) (hX : isX Γ ex rmX3_cellsBehind ad0 X0) : AllS Γ (tbX3_cellsBehind post ex ad0) := by
  unfold tbX3_cellsBehind
  refine al_c (pc := 0) (snd_iload_n C dX3_cellsBehind_0 rfl) ?_
  refine al_c (pc := 1) (snd_if_lt C dX3_cellsBehind_1 (by decide)) ?_
  refine al_c (pc := 4) (snd_iload_n C dX3_cellsBehind_4 rfl) ?_
  refine al_c (pc := 5) (snd_bipush C dX3_cellsBehind_5 (by decide)) ?_
  refine al_c (pc := 7) (snd_icmp_le C dX3_cellsBehind_7 (by decide)) ?_
  refine al_c (pc := 10) (snd_Th (names := ["java/lang/RuntimeException", "java/lang/Exception"]) (text := "rolls are 0 to 20") C CX hX (by decide +kernel) (by decide +kernel) (ik := 38) (is := 180) (ic := 42) (by decide +kernel) (by decide +kernel) (by decide +kernel) (by decide +kernel) (by decide +kernel) dX3_cellsBehind_10 dX3_cellsBehind_13 dX3_cellsBehind_14 dX3_cellsBehind_16 dX3_cellsBehind_19 (by decide) (by decide)) ?_
  refine al_c (pc := 20) (snd_iload_n C dX3_cellsBehind_20 rfl) ?_
  refine al_c (pc := 21) (snd_if_le C dX3_cellsBehind_21 (by decide)) ?_
  refine al_c (pc := 24) (snd_aload_n C dX3_cellsBehind_24 rfl) ?_
  refine al_c (pc := 25) (snd_Ci C (site_V C rfl dX3_cellsBehind_25 gX3_cellsBehind_X3_isShutIn rfl rfl rfl ⟨rfl, by decide +kernel, by decide +kernel, by decide +kernel⟩ ⟨by decide, by decide⟩) mX3_isShutIn) ?_
  refine al_c (pc := 28) (snd_if_eq C dX3_cellsBehind_28 (by decide)) ?_
  refine al_c (pc := 31) (snd_iconst C dX3_cellsBehind_31 (by decide)) ?_
  refine al_c (pc := 32) (snd_Ri C hQ hr dX3_cellsBehind_32) ?_
  refine al_c (pc := 33) (snd_aload_n C dX3_cellsBehind_33 rfl) ?_
  refine al_c (pc := 34) (snd_Cv C (site_V C rfl dX3_cellsBehind_34 gX3_cellsBehind_X3_searchFromHere rfl rfl rfl ⟨rfl, by decide +kernel, by decide +kernel, by decide +kernel⟩ ⟨by decide, by decide⟩) mX3_searchFromHere) ?_
  refine al_c (pc := 37) (snd_iconst C dX3_cellsBehind_37 (by decide)) ?_
  refine al_c (pc := 38) (snd_istore_n C dX3_cellsBehind_38 rfl (by decide)) ?_
  refine al_c (pc := 39) (snd_iconst C dX3_cellsBehind_39 (by decide)) ?_
  refine al_c (pc := 40) (snd_istore_n C dX3_cellsBehind_40 rfl (by decide)) ?_
  refine al_c (pc := 41) (snd_iload_n C dX3_cellsBehind_41 rfl) ?_
  refine al_c (pc := 42) (snd_bipush C dX3_cellsBehind_42 (by decide)) ?_
  refine al_c (pc := 44) (snd_icmp_ge C dX3_cellsBehind_44 (by decide)) ?_
  refine al_c (pc := 47) (snd_aload_n C dX3_cellsBehind_47 rfl) ?_
  refine al_c (pc := 48) (snd_get C dX3_cellsBehind_48 (ci := 2) (kf := 1) rfl (by decide) inX3_cellsBehind_X3 rfl (by decide +kernel)) ?_
  refine al_c (pc := 51) (snd_iload_n C dX3_cellsBehind_51 rfl) ?_
  refine al_c (pc := 52) (snd_Ci C (site_VN C rfl dX3_cellsBehind_52 gX3_cellsBehind_X1_fewestTo_n159 rfl rfl rfl (by decide +kernel) (by decide +kernel) (by decide +kernel) (by decide +kernel) ⟨by decide +kernel, by decide +kernel, by decide +kernel⟩ ⟨by decide, by decide⟩) mX1_fewestTo) ?_
  refine al_c (pc := 55) (snd_istore C dX3_cellsBehind_55 (by decide)) ?_
  refine al_c (pc := 57) (snd_iload C dX3_cellsBehind_57) ?_
  refine al_c (pc := 59) (snd_iconst C dX3_cellsBehind_59 (by decide)) ?_
  refine al_c (pc := 60) (snd_icmp_eq C dX3_cellsBehind_60 (by decide)) ?_
  refine al_c (pc := 63) (snd_iload C dX3_cellsBehind_63) ?_
  refine al_c (pc := 65) (snd_iload_n C dX3_cellsBehind_65 rfl) ?_
  refine al_c (pc := 66) (snd_icmp_gt C dX3_cellsBehind_66 (by decide)) ?_
  refine al_c (pc := 69) (snd_iload_n C dX3_cellsBehind_69 rfl) ?_
  refine al_c (pc := 70) (snd_iload C dX3_cellsBehind_70) ?_
  refine al_c (pc := 72) (snd_isub C dX3_cellsBehind_72) ?_
  refine al_c (pc := 73) (snd_iconst C dX3_cellsBehind_73 (by decide)) ?_
  refine al_c (pc := 74) (snd_irem C dX3_cellsBehind_74) ?_
  refine al_c (pc := 75) (snd_if_ne C dX3_cellsBehind_75 (by decide)) ?_
  refine al_c (pc := 78) (snd_iinc C dX3_cellsBehind_78 (by decide) (by decide)) ?_
  refine al_c (pc := 81) (snd_iinc C dX3_cellsBehind_81 (by decide) (by decide)) ?_
  refine al_c (pc := 84) (snd_goto C dX3_cellsBehind_84 (by decide)) ?_
  refine al_c (pc := 87) (snd_iload_n C dX3_cellsBehind_87 rfl) ?_
  refine al_c (pc := 88) (snd_Ri C hQ hr dX3_cellsBehind_88) ?_
  exact al_0
set_option maxHeartbeats 1000000 in
set_option maxRecDepth 100000 in
theorem mX3_cellsBehind : xMi yX3_cellsBehind wsX3_cellsBehind rmX3_cellsBehind tX3_cellsBehind := by
  refine xMi_of (by decide +kernel) rfl rfl (by intro av X post ex hT; obtain ⟨a, k, tt, w, h, rm, pm, fd, wl, pr, fe, qu, co, pa, rfl, rfl, hw, hh, hv, hf, h1, h2⟩ := hT; exact Nat.le_of_ble_eq_true rfl) ?_
  intro Γ ad av X post ex C CX hQ hX hr hT
  obtain ⟨a, k, tt, w, h, rm, pm, fd, wl, pr, fe, qu, co, pa, rfl, rfl, hw, hh, hv, hf, h1, h2⟩ := hT
  have OK := okX3_cellsBehind C hQ hr CX hX
  have hb := bS_one hw hh hv hf
  have hk : k < 49 := by have := hf.1; have := hf.2.1; omega
  refine go OK [33] 60 ?_
  refine And.intro (fun q => ?_) (fun q1 => ?_)
  · exact ⟨rfl, h1 (inR_lo (lo := 0) (by omega) (by omega) q)⟩
  refine And.intro (fun _ => ?_) (fun q => ?_)
  rotate_left
  · have q2 : nI 20 < a := by rw [Int32.lt_iff_toInt_lt]; rw [Int32.le_iff_toInt_le] at q; exact Int.not_le.mp q
    exact ⟨rfl, h1 (inR_hi (hi := 20) (by omega) (by omega) q2)⟩
  rename_i q2
  have q2 : ¬ nI 20 < a := by rw [Int32.lt_iff_toInt_lt]; rw [Int32.le_iff_toInt_le] at q2; exact Int.not_lt.mpr q2
  obtain ⟨n, rfl, -, n2⟩ := inR_of (lo := 0) (hi := 20) (by omega) (by omega) q1 q2
  obtain ⟨g1, g2⟩ := h2 n rfl n2
  have rest : ¬ (0 < n ∧ ∀ d, d < 4 → nxt w h wl k d = none) → FG Γ 33 ad 0 0 [(0, .ref 0), (1, .int (nI n))] [] (CW (nI k) (nI tt) rm pm (nI w) (nI h) fd wl pr fe qu co pa) := by
    intro hne
    refine go OK [33, 41] 60 ?_
    refine ⟨_, _, _, _, _, _, _, _, _, _, _, _, _, rfl, rfl, hw, hh, hv, hf, fun fd2 fe2 qu2 hR => ?_⟩
    have hDD : DD (DH w h wl k tt) fe2 := DD_of hb hR
    have hp := g2 hne fd2 fe2 qu2
    obtain ⟨D, hDe⟩ : ∃ D, D = DH w h wl k tt := ⟨_, rfl⟩
    rw [← hDe] at hDD hp
    have loop : ∀ (m i : Nat), i ≤ 49 → 49 - i < m → FG Γ 41 ad 0 0 [(3, .int (nI i)), (2, .int (nI (ct (fun c => cbh n (ftc D c)) i))), (0, .ref 0), (1, .int (nI n))] [] (CW (nI k) (nI tt) rm pm (nI w) (nI h) fd2 wl pr fe2 qu2 co pa) := by
      intro m
      induction m with
      | zero => intro i _ h; omega
      | succ m ih =>
        intro i hi hn
        refine go OK [41] 60 ?_
        refine And.intro (fun q => ?_) (fun q => ?_)
        · have q := (leN (a := 49) (by omega) (by omega)).mp q
          have : i = 49 := by omega
          subst this
          exact ⟨rfl, hp⟩
        · have hlt : i < 49 := by
            rcases Nat.lt_or_ge i 49 with z | z
            · exact z
            · exact absurd ((leN (a := 49) (b := i) (by omega) (by omega)).mpr z) q
          have key := ih (i + 1) (by omega) (by omega)
          rw [← nI_p1 i] at key
          have no : cbh n (ftc D i) = false → FG Γ 41 ad 0 0 [(3, .int (nI i + 1)), (2, .int (nI (ct (fun c => cbh n (ftc D c)) i))), (0, .ref 0), (1, .int (nI n))] [] (CW (nI k) (nI tt) rm pm (nI w) (nI h) fd2 wl pr fe2 qu2 co pa) := fun z => by
            rw [ct_f (p := fun c => cbh n (ftc D c)) (n := i) z] at key
            exact key
          have yes : cbh n (ftc D i) = true → FG Γ 41 ad 0 0 [(3, .int (nI i + 1)), (2, .int (nI (ct (fun c => cbh n (ftc D c)) i) + 1)), (0, .ref 0), (1, .int (nI n))] [] (CW (nI k) (nI tt) rm pm (nI w) (nI h) fd2 wl pr fe2 qu2 co pa) := fun z => by
            rw [ct_t (p := fun c => cbh n (ftc D c)) (n := i) z, ← nI_p1 (ct _ i)] at key
            exact key
          refine ⟨_, i, D, _, _, _, _, _, _, _, _, _, _, _, _, _, rfl, rfl, rfl, hlt, hDD, ?_⟩
          cases e : ftc D i with
          | none =>
            refine And.intro (fun _ => ?_) (fun q2 => absurd rfl q2)
            exact FG_sub [0, 2, 3, 4] rfl (no (by rw [e]; rfl))
          | some r =>
            have hr := ftc_lt hDD.2 i r e
            refine And.intro (fun q2 => absurd q2 (nI_m1 (by omega : r < 10000))) (fun _ => ?_)
            refine And.intro (fun q3 => ?_) (fun q3 => ?_)
            · have q3 := (ltN (by omega) (by omega)).mp q3
              exact FG_sub [0, 2, 3, 4] rfl (no (by rw [e]; simp [cbh]; omega))
            have hrn : r ≤ n := by
              rcases Nat.lt_or_ge n r with z | z
              · exact absurd ((ltN (by omega) (by omega)).mpr z) q3
              · exact z
            refine ⟨by decide, ?_⟩
            rw [show oI (some r) = nI r from rfl, pk_sub hrn, show nI (n - r) - nI (n - r) / 2 * 2 = nI ((n - r) % 2) from pk_rem (a := n - r) (d := 2) (by omega) (by omega) (by omega)]
            refine And.intro (fun q4 => ?_) (fun q4 => ?_)
            · refine FG_sub [0, 2, 3, 4] rfl (no ?_)
              have : (n - r) % 2 ≠ 0 := fun z => q4 (by rw [z]; rfl)
              rw [e]
              simp [cbh, this]
            · refine FG_sub [0, 1, 3, 4] rfl (yes ?_)
              have : (n - r) % 2 = 0 := (eqN (b := 0) (by omega) (by omega)).mp q4
              rw [e]
              simp [cbh, this, hrn]
    exact loop 50 0 (by omega) (by omega)
  refine And.intro (fun q => ?_) (fun q => ?_)
  · have q := (leN (b := 0) (by omega) (by omega)).mp q
    exact rest (fun z => by omega)
  have hn0 : 0 < n := by
    rcases Nat.lt_or_ge 0 n with z | z
    · exact z
    · exact absurd ((leN (b := 0) (by omega) (by omega)).mpr z) q
  refine ⟨_, _, _, _, _, _, _, _, _, _, _, _, _, rfl, rfl, hw, hh, hk, fun z => ?_, fun z => ?_⟩
  · refine And.intro (fun q => absurd q (by decide)) (fun _ => ?_)
    exact ⟨rfl, g1 ⟨hn0, z⟩⟩
  · refine And.intro (fun _ => ?_) (fun q => absurd rfl q)
    exact rest (fun z2 => z z2.2)
