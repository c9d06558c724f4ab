/-! ===== PaintedDie's face: what there is ===== -/
abbrev tX3_faceTo : xTi := fun av X post ex => ∃ (a : Int32) (k tt w h : Nat) (rm pm fd : Int32) (wl pr fe qu co pa : Nat → Int32), av = [.ref 0, .int a] ∧ X = CW (nI k) (nI tt) rm pm (nI w) (nI h) fd wl pr fe qu co pa ∧ vt tt = true ∧ (¬ inR a 0 3 → ex "java/lang/IndexOutOfBoundsException" X) ∧ ∀ d, a = nI d → d < 4 → post (nI (faN tt d)) X
abbrev rmX3_faceTo : Room := { frames := 7, cells := 1, slots := 6, locals := 110 }
theorem inX3_faceTo_X3 : ∀ w ∈ wsX30, w ∈ wsX3_faceTo := by decide +kernel
def tbX3_faceTo (post : Int32 → List aE → Prop) (ex : aXp) (ad0 : Nat → Nat) : List (Nat × aO) := [(0, oIL 1 1),
  (1, oXv tX3_checkDirection 1 none rmX3_checkDirection.cells rmX3_checkDirection.slots rmX3_faceTo.cells rmX3_faceTo.slots 4 (exU ex ad0 rmX3_faceTo.cells rmX3_faceTo.slots)),
  (4, oAL 0 5),
  (5, oGet 2 5 8),
  (8, oIL 1 9),
  (9, oCi tX2_faceOn 2 none rmX2_faceOn.cells rmX2_faceOn.slots rmX3_faceTo.cells rmX3_faceTo.slots 12),
  (12, oRi post ad0 rmX3_faceTo.cells rmX3_faceTo.slots)]
set_option maxRecDepth 20000 in
theorem okX3_faceTo {Γ : aΓ} {post : Int32 → List aE → Prop} {ex : aXp} {ad0 : Nat → Nat} {X0 : List aE} (C : FOK Γ cX3_faceTo wsX3_faceTo RX3 2 rmX3_faceTo) (hQ : isQ Γ (va_Qi post (aBk (gK Γ) ad0 X0 (hsz Γ)) (aA (gK Γ) ad0 X0 (hsz Γ))) rmX3_faceTo ad0 X0) (hr : rTy Γ = some .int) (CX : FOX Γ) (hX : isX Γ ex rmX3_faceTo ad0 X0) : AllS Γ (tbX3_faceTo post ex ad0) := by
  unfold tbX3_faceTo
  refine al_c (pc := 0) (snd_iload_n C dX3_faceTo_0 rfl) ?_
  refine al_c (pc := 1) (snd_Xv C CX (xsite_S C dX3_faceTo_1 gX3_faceTo_X3_checkDirection rfl rfl rfl ⟨by decide +kernel, by decide +kernel, by decide +kernel⟩ ⟨by decide, by decide⟩) mX3_checkDirection (exU_FX C CX hX)) ?_
  refine al_c (pc := 4) (snd_aload_n C dX3_faceTo_4 rfl) ?_
  refine al_c (pc := 5) (snd_get C dX3_faceTo_5 (ci := 2) (kf := 5) rfl (by decide) inX3_faceTo_X3 rfl (by decide +kernel)) ?_
  refine al_c (pc := 8) (snd_iload_n C dX3_faceTo_8 rfl) ?_
  refine al_c (pc := 9) (snd_Ci C (site_SN C dX3_faceTo_9 gX3_faceTo_X2_faceOn_n124 rfl rfl rfl (by decide +kernel) (by decide +kernel) (by decide +kernel) ⟨by decide +kernel, by decide +kernel, by decide +kernel⟩ ⟨by decide, by decide⟩) mX2_faceOn) ?_
  refine al_c (pc := 12) (snd_Ri C hQ hr dX3_faceTo_12) ?_
  exact al_0
set_option maxHeartbeats 1000000 in
set_option maxRecDepth 100000 in
theorem mX3_faceTo : xMi yX3_faceTo wsX3_faceTo rmX3_faceTo tX3_faceTo := by
  refine xMi_of (by decide +kernel) rfl rfl (by intro av X post ex hT; obtain ⟨a, k, tt, w, h, rm, pm, fd, wl, pr, fe, qu, co, pa, rfl, rfl, hv, h1, h2⟩ := hT; exact Nat.le_of_ble_eq_true rfl) ?_
  intro Γ ad av X post ex C CX hQ hX hr hT
  obtain ⟨a, k, tt, w, h, rm, pm, fd, wl, pr, fe, qu, co, pa, rfl, rfl, hv, h1, h2⟩ := hT
  have OK := okX3_faceTo C hQ hr CX hX
  refine go OK [] 60 ?_
  refine ⟨_, rfl, fun q => ?_, fun q => ⟨rfl, h1 q⟩⟩
  obtain ⟨d, rfl, d1, d2⟩ := q
  exact ⟨_, _, tt, d, rfl, rfl, rfl, vt_lt hv, hv, by omega, rfl, h2 d rfl (by omega)⟩
abbrev tX3_isAsAtFirst : aTi := fun av X post => ∃ (k tt w h : Nat) (rm pm fd : Int32) (wl pr fe qu co pa : Nat → Int32), av = [.ref 0] ∧ X = CW (nI k) (nI tt) rm pm (nI w) (nI h) fd wl pr fe qu co pa ∧ tt < 36 ∧ post (if tt = 1 then 1 else 0) X
abbrev rmX3_isAsAtFirst : Room := { frames := 0, cells := 0, slots := 0, locals := 0 }
theorem inX3_isAsAtFirst_X3 : ∀ w ∈ wsX30, w ∈ wsX3_isAsAtFirst := by decide +kernel
def tbX3_isAsAtFirst (post : Int32 → List aE → Prop) (ad0 : Nat → Nat) : List (Nat × aO) := [(0, oAL 0 1),
  (1, oGet 2 5 4),
  (4, oC (1) 5),
  (5, oIc_ne 12 8),
  (8, oC (1) 9),
  (9, oGo 13),
  (12, oC (0) 13),
  (13, oRz post ad0 rmX3_isAsAtFirst.cells rmX3_isAsAtFirst.slots)]
set_option maxRecDepth 20000 in
theorem okX3_isAsAtFirst {Γ : aΓ} {post : Int32 → List aE → Prop} {ad0 : Nat → Nat} {X0 : List aE} (C : FOK Γ cX3_isAsAtFirst wsX3_isAsAtFirst RX3 1 rmX3_isAsAtFirst) (hQ : isQ Γ (va_Qi post (aBk (gK Γ) ad0 X0 (hsz Γ)) (aA (gK Γ) ad0 X0 (hsz Γ))) rmX3_isAsAtFirst ad0 X0) (hr : rTy Γ = some .boolean) : AllS Γ (tbX3_isAsAtFirst post ad0) := by
  unfold tbX3_isAsAtFirst
  refine al_c (pc := 0) (snd_aload_n C dX3_isAsAtFirst_0 rfl) ?_
  refine al_c (pc := 1) (snd_get C dX3_isAsAtFirst_1 (ci := 2) (kf := 5) rfl (by decide) inX3_isAsAtFirst_X3 rfl (by decide +kernel)) ?_
  refine al_c (pc := 4) (snd_iconst C dX3_isAsAtFirst_4 (by decide)) ?_
  refine al_c (pc := 5) (snd_icmp_ne C dX3_isAsAtFirst_5 (by decide)) ?_
  refine al_c (pc := 8) (snd_iconst C dX3_isAsAtFirst_8 (by decide)) ?_
  refine al_c (pc := 9) (snd_goto C dX3_isAsAtFirst_9 (by decide)) ?_
  refine al_c (pc := 12) (snd_iconst C dX3_isAsAtFirst_12 (by decide)) ?_
  refine al_c (pc := 13) (snd_Rz C hQ hr dX3_isAsAtFirst_13) ?_
  exact al_0
set_option maxHeartbeats 1000000 in
set_option maxRecDepth 100000 in
theorem mX3_isAsAtFirst : aMi yX3_isAsAtFirst wsX3_isAsAtFirst rmX3_isAsAtFirst tX3_isAsAtFirst := by
  refine aMz_of (by decide +kernel) rfl rfl (by intro av X post hT; obtain ⟨k, tt, w, h, rm, pm, fd, wl, pr, fe, qu, co, pa, rfl, rfl, ht, hp⟩ := hT; exact Nat.le_of_ble_eq_true rfl) ?_
  intro Γ ad av X post C hQ hr hT
  obtain ⟨k, tt, w, h, rm, pm, fd, wl, pr, fe, qu, co, pa, rfl, rfl, ht, hp⟩ := hT
  have OK := okX3_isAsAtFirst C hQ hr
  refine go OK [] 60 ?_
  refine And.intro (fun q => ?_) (fun q => ?_)
  · rw [if_neg (fun z => q (by rw [z]; rfl))] at hp
    exact ⟨Or.inl rfl, rfl, hp⟩
  · rw [if_pos ((eqN (b := 1) (by omega) (by omega)).mp q)] at hp
    exact ⟨Or.inr rfl, rfl, hp⟩
abbrev tX3_colourOf : xTi := fun av X post ex => ∃ (a : Int32) (k tt w h : Nat) (rm pm fd : Int32) (wl pr fe qu co pa : Nat → Int32), av = [.ref 0, .int a] ∧ X = CW (nI k) (nI tt) rm pm (nI w) (nI h) fd wl pr fe qu co pa ∧ (¬ inR a 1 6 → ex "java/lang/IndexOutOfBoundsException" X) ∧ ∀ f, a = nI f → 1 ≤ f → f ≤ 6 → post (co f) X
abbrev rmX3_colourOf : Room := { frames := 7, cells := 1, slots := 6, locals := 110 }
theorem inX3_colourOf_X3 : ∀ w ∈ wsX30, w ∈ wsX3_colourOf := by decide +kernel
def tbX3_colourOf (post : Int32 → List aE → Prop) (ex : aXp) (ad0 : Nat → Nat) : List (Nat × aO) := [(0, oIL 1 1),
  (1, oXv tX3_checkFace 1 none rmX3_checkFace.cells rmX3_checkFace.slots rmX3_colourOf.cells rmX3_colourOf.slots 4 (exU ex ad0 rmX3_colourOf.cells rmX3_colourOf.slots)),
  (4, oAL 0 5),
  (5, oGet 2 2 8),
  (8, oIL 1 9),
  (9, oIald 10),
  (10, oRi post ad0 rmX3_colourOf.cells rmX3_colourOf.slots)]
set_option maxRecDepth 20000 in
theorem okX3_colourOf {Γ : aΓ} {post : Int32 → List aE → Prop} {ex : aXp} {ad0 : Nat → Nat} {X0 : List aE} (C : FOK Γ cX3_colourOf wsX3_colourOf RX3 2 rmX3_colourOf) (hQ : isQ Γ (va_Qi post (aBk (gK Γ) ad0 X0 (hsz Γ)) (aA (gK Γ) ad0 X0 (hsz Γ))) rmX3_colourOf ad0 X0) (hr : rTy Γ = some .int) (CX : FOX Γ) (hX : isX Γ ex rmX3_colourOf ad0 X0) : AllS Γ (tbX3_colourOf post ex ad0) := by
  unfold tbX3_colourOf
  refine al_c (pc := 0) (snd_iload_n C dX3_colourOf_0 rfl) ?_
  refine al_c (pc := 1) (snd_Xv C CX (xsite_S C dX3_colourOf_1 gX3_colourOf_X3_checkFace rfl rfl rfl ⟨by decide +kernel, by decide +kernel, by decide +kernel⟩ ⟨by decide, by decide⟩) mX3_checkFace (exU_FX C CX hX)) ?_
  refine al_c (pc := 4) (snd_aload_n C dX3_colourOf_4 rfl) ?_
  refine al_c (pc := 5) (snd_get C dX3_colourOf_5 (ci := 2) (kf := 2) rfl (by decide) inX3_colourOf_X3 rfl (by decide +kernel)) ?_
  refine al_c (pc := 8) (snd_iload_n C dX3_colourOf_8 rfl) ?_
  refine al_c (pc := 9) (snd_iaload C dX3_colourOf_9) ?_
  refine al_c (pc := 10) (snd_Ri C hQ hr dX3_colourOf_10) ?_
  exact al_0
set_option maxHeartbeats 1000000 in
set_option maxRecDepth 100000 in
theorem mX3_colourOf : xMi yX3_colourOf wsX3_colourOf rmX3_colourOf tX3_colourOf := by
  refine xMi_of (by decide +kernel) rfl rfl (by intro av X post ex hT; obtain ⟨a, k, tt, w, h, rm, pm, fd, wl, pr, fe, qu, co, pa, rfl, rfl, h1, h2⟩ := hT; exact Nat.le_of_ble_eq_true rfl) ?_
  intro Γ ad av X post ex C CX hQ hX hr hT
  obtain ⟨a, k, tt, w, h, rm, pm, fd, wl, pr, fe, qu, co, pa, rfl, rfl, h1, h2⟩ := hT
  have OK := okX3_colourOf C hQ hr CX hX
  refine go OK [] 60 ?_
  refine ⟨_, rfl, fun q => ?_, fun q => ⟨rfl, h1 q⟩⟩
  obtain ⟨f, rfl, f1, f2⟩ := q
  refine ⟨inS (by omega : f < 7) (by decide), ?_⟩
  rw [nI_clampS (by omega)]
  exact ⟨rfl, h2 f rfl f1 f2⟩
abbrev tX3_paintOf : xTi := fun av X post ex => ∃ (a : Int32) (k tt w h : Nat) (rm pm fd : Int32) (wl pr fe qu co pa : Nat → Int32), av = [.ref 0, .int a] ∧ X = CW (nI k) (nI tt) rm pm (nI w) (nI h) fd wl pr fe qu co pa ∧ (¬ inR a 1 6 → ex "java/lang/IndexOutOfBoundsException" X) ∧ ∀ f, a = nI f → 1 ≤ f → f ≤ 6 → post (pa f) X
abbrev rmX3_paintOf : Room := { frames := 7, cells := 1, slots := 6, locals := 110 }
theorem inX3_paintOf_X3 : ∀ w ∈ wsX30, w ∈ wsX3_paintOf := by decide +kernel
def tbX3_paintOf (post : Int32 → List aE → Prop) (ex : aXp) (ad0 : Nat → Nat) : List (Nat × aO) := [(0, oIL 1 1),
  (1, oXv tX3_checkFace 1 none rmX3_checkFace.cells rmX3_checkFace.slots rmX3_paintOf.cells rmX3_paintOf.slots 4 (exU ex ad0 rmX3_paintOf.cells rmX3_paintOf.slots)),
  (4, oAL 0 5),
  (5, oGet 2 3 8),
  (8, oIL 1 9),
  (9, oIald 10),
  (10, oRi post ad0 rmX3_paintOf.cells rmX3_paintOf.slots)]
set_option maxRecDepth 20000 in
theorem okX3_paintOf {Γ : aΓ} {post : Int32 → List aE → Prop} {ex : aXp} {ad0 : Nat → Nat} {X0 : List aE} (C : FOK Γ cX3_paintOf wsX3_paintOf RX3 2 rmX3_paintOf) (hQ : isQ Γ (va_Qi post (aBk (gK Γ) ad0 X0 (hsz Γ)) (aA (gK Γ) ad0 X0 (hsz Γ))) rmX3_paintOf ad0 X0) (hr : rTy Γ = some .int) (CX : FOX Γ) (hX : isX Γ ex rmX3_paintOf ad0 X0) : AllS Γ (tbX3_paintOf post ex ad0) := by
  unfold tbX3_paintOf
  refine al_c (pc := 0) (snd_iload_n C dX3_paintOf_0 rfl) ?_
  refine al_c (pc := 1) (snd_Xv C CX (xsite_S C dX3_paintOf_1 gX3_paintOf_X3_checkFace rfl rfl rfl ⟨by decide +kernel, by decide +kernel, by decide +kernel⟩ ⟨by decide, by decide⟩) mX3_checkFace (exU_FX C CX hX)) ?_
  refine al_c (pc := 4) (snd_aload_n C dX3_paintOf_4 rfl) ?_
  refine al_c (pc := 5) (snd_get C dX3_paintOf_5 (ci := 2) (kf := 3) rfl (by decide) inX3_paintOf_X3 rfl (by decide +kernel)) ?_
  refine al_c (pc := 8) (snd_iload_n C dX3_paintOf_8 rfl) ?_
  refine al_c (pc := 9) (snd_iaload C dX3_paintOf_9) ?_
  refine al_c (pc := 10) (snd_Ri C hQ hr dX3_paintOf_10) ?_
  exact al_0
set_option maxHeartbeats 1000000 in
set_option maxRecDepth 100000 in
theorem mX3_paintOf : xMi yX3_paintOf wsX3_paintOf rmX3_paintOf tX3_paintOf := by
  refine xMi_of (by decide +kernel) rfl rfl (by intro av X post ex hT; obtain ⟨a, k, tt, w, h, rm, pm, fd, wl, pr, fe, qu, co, pa, rfl, rfl, h1, h2⟩ := hT; exact Nat.le_of_ble_eq_true rfl) ?_
  intro Γ ad av X post ex C CX hQ hX hr hT
  obtain ⟨a, k, tt, w, h, rm, pm, fd, wl, pr, fe, qu, co, pa, rfl, rfl, h1, h2⟩ := hT
  have OK := okX3_paintOf C hQ hr CX hX
  refine go OK [] 60 ?_
  refine ⟨_, rfl, fun q => ?_, fun q => ⟨rfl, h1 q⟩⟩
  obtain ⟨f, rfl, f1, f2⟩ := q
  refine ⟨inS (by omega : f < 7) (by decide), ?_⟩
  rw [nI_clampS (by omega)]
  exact ⟨rfl, h2 f rfl f1 f2⟩
abbrev tX3_isWall : xTi := fun av X post ex => ∃ (a b : Int32) (k tt w h : Nat) (rm pm fd : Int32) (wl pr fe qu co pa : Nat → Int32), av = [.ref 0, .int a, .int b] ∧ X = CW (nI k) (nI tt) rm pm (nI w) (nI h) fd wl pr fe qu co pa ∧ w ≤ 7 ∧ h ≤ 7 ∧ (¬ inB a b w h → ex "java/lang/IndexOutOfBoundsException" X) ∧ ∀ i j, a = nI i → b = nI j → i < w → j < h → post (if wl (j * 7 + i) = 0 then 0 else 1) X
abbrev rmX3_isWall : Room := { frames := 7, cells := 1, slots := 6, locals := 112 }
theorem inX3_isWall_X3 : ∀ w ∈ wsX30, w ∈ wsX3_isWall := by decide +kernel
def tbX3_isWall (post : Int32 → List aE → Prop) (ex : aXp) (ad0 : Nat → Nat) : List (Nat × aO) := [(0, oAL 0 1),
  (1, oIL 1 2),
  (2, oIL 2 3),
  (3, oXv tX3_checkCell 3 (some 2) rmX3_checkCell.cells rmX3_checkCell.slots rmX3_isWall.cells rmX3_isWall.slots 6 (exU ex ad0 rmX3_isWall.cells rmX3_isWall.slots)),
  (6, oAL 0 7),
  (7, oGet 2 0 10),
  (10, oIL 1 11),
  (11, oIL 2 12),
  (12, oCi tX0_isFree 3 (some 0) rmX0_isFree.cells rmX0_isFree.slots rmX3_isWall.cells rmX3_isWall.slots 15),
  (15, oIf_ne 22 18),
  (18, oC (1) 19),
  (19, oGo 23),
  (22, oC (0) 23),
  (23, oRz post ad0 rmX3_isWall.cells rmX3_isWall.slots)]
set_option maxRecDepth 20000 in
theorem okX3_isWall {Γ : aΓ} {post : Int32 → List aE → Prop} {ex : aXp} {ad0 : Nat → Nat} {X0 : List aE} (C : FOK Γ cX3_isWall wsX3_isWall RX3 3 rmX3_isWall) (hQ : isQ Γ (va_Qi post (aBk (gK Γ) ad0 X0 (hsz Γ)) (aA (gK Γ) ad0 X0 (hsz Γ))) rmX3_isWall ad0 X0) (hr : rTy Γ = some .boolean) (CX : FOX Γ) (hX : isX Γ ex rmX3_isWall ad0 X0) : AllS Γ (tbX3_isWall post ex ad0) := by
  unfold tbX3_isWall
  refine al_c (pc := 0) (snd_aload_n C dX3_isWall_0 rfl) ?_
  refine al_c (pc := 1) (snd_iload_n C dX3_isWall_1 rfl) ?_
  refine al_c (pc := 2) (snd_iload_n C dX3_isWall_2 rfl) ?_
  refine al_c (pc := 3) (snd_Xv C CX (xsite_V C rfl dX3_isWall_3 gX3_isWall_X3_checkCell rfl rfl rfl ⟨rfl, by decide +kernel, by decide +kernel, by decide +kernel⟩ ⟨by decide, by decide⟩) mX3_checkCell (exU_FX C CX hX)) ?_
  refine al_c (pc := 6) (snd_aload_n C dX3_isWall_6 rfl) ?_
  refine al_c (pc := 7) (snd_get C dX3_isWall_7 (ci := 2) (kf := 0) rfl (by decide) inX3_isWall_X3 rfl (by decide +kernel)) ?_
  refine al_c (pc := 10) (snd_iload_n C dX3_isWall_10 rfl) ?_
  refine al_c (pc := 11) (snd_iload_n C dX3_isWall_11 rfl) ?_
  refine al_c (pc := 12) (snd_Ci C (site_VN C rfl dX3_isWall_12 gX3_isWall_X0_isFree_n77 rfl rfl rfl (by decide +kernel) (by decide +kernel) (by decide +kernel) (by decide +kernel) ⟨by decide +kernel, by decide +kernel, by decide +kernel⟩ ⟨by decide, by decide⟩) mX0_isFree) ?_
  refine al_c (pc := 15) (snd_if_ne C dX3_isWall_15 (by decide)) ?_
  refine al_c (pc := 18) (snd_iconst C dX3_isWall_18 (by decide)) ?_
  refine al_c (pc := 19) (snd_goto C dX3_isWall_19 (by decide)) ?_
  refine al_c (pc := 22) (snd_iconst C dX3_isWall_22 (by decide)) ?_
  refine al_c (pc := 23) (snd_Rz C hQ hr dX3_isWall_23) ?_
  exact al_0
set_option maxHeartbeats 1000000 in
set_option maxRecDepth 100000 in
theorem mX3_isWall : xMi yX3_isWall wsX3_isWall rmX3_isWall tX3_isWall := by
  refine xMz_of (by decide +kernel) rfl rfl (by intro av X post ex hT; obtain ⟨a, b, k, tt, w, h, rm, pm, fd, wl, pr, fe, qu, co, pa, rfl, rfl, hw, hh, h1, h2⟩ := hT; exact Nat.le_of_ble_eq_true rfl) ?_
  intro Γ ad av X post ex C CX hQ hX hr hT
  obtain ⟨a, b, k, tt, w, h, rm, pm, fd, wl, pr, fe, qu, co, pa, rfl, rfl, hw, hh, h1, h2⟩ := hT
  have OK := okX3_isWall C hQ hr CX hX
  refine go OK [] 60 ?_
  refine ⟨_, _, _, _, _, _, _, _, _, _, _, _, _, _, _, rfl, rfl, hw, hh, fun q => ?_, fun q => ⟨rfl, h1 q⟩⟩
  obtain ⟨i, j, rfl, rfl, hi, hj⟩ := q
  have hp := h2 i j rfl rfl hi hj
  refine ⟨_, _, _, _, _, _, _, _, _, _, _, _, _, _, _, rfl, rfl, hw, hh, fun q => ?_, fun q => ?_⟩
  · refine And.intro (fun _ => ?_) (fun q2 => absurd q2 (by decide))
    rw [if_pos ((frB_nI (by omega) (by omega) hw hh).mp q).2.2] at hp
    exact ⟨Or.inl rfl, rfl, hp⟩
  · refine And.intro (fun q2 => absurd rfl q2) (fun _ => ?_)
    rw [if_neg (fun z => q ((frB_nI (by omega) (by omega) hw hh).mpr ⟨hi, hj, z⟩))] at hp
    exact ⟨Or.inr rfl, rfl, hp⟩
abbrev tX3_printAt : xTi := fun av X post ex => ∃ (a b : Int32) (k tt w h : Nat) (rm pm fd : Int32) (wl pr fe qu co pa : Nat → Int32), av = [.ref 0, .int a, .int b] ∧ X = CW (nI k) (nI tt) rm pm (nI w) (nI h) fd wl pr fe qu co pa ∧ w ≤ 7 ∧ h ≤ 7 ∧ (¬ inB a b w h → ex "java/lang/IndexOutOfBoundsException" X) ∧ ∀ i j, a = nI i → b = nI j → i < w → j < h → post (pr (j * 7 + i)) X
abbrev rmX3_printAt : Room := { frames := 7, cells := 1, slots := 6, locals := 112 }
theorem inX3_printAt_X3 : ∀ w ∈ wsX30, w ∈ wsX3_printAt := by decide +kernel
def tbX3_printAt (post : Int32 → List aE → Prop) (ex : aXp) (ad0 : Nat → Nat) : List (Nat × aO) := [(0, oAL 0 1),
  (1, oIL 1 2),
  (2, oIL 2 3),
  (3, oXv tX3_checkCell 3 (some 2) rmX3_checkCell.cells rmX3_checkCell.slots rmX3_printAt.cells rmX3_printAt.slots 6 (exU ex ad0 rmX3_printAt.cells rmX3_printAt.slots)),
  (6, oAL 0 7),
  (7, oGet 2 0 10),
  (10, oIL 1 11),
  (11, oIL 2 12),
  (12, oCi tX0_printOn 3 (some 0) rmX0_printOn.cells rmX0_printOn.slots rmX3_printAt.cells rmX3_printAt.slots 15),
  (15, oRi post ad0 rmX3_printAt.cells rmX3_printAt.slots)]
set_option maxRecDepth 20000 in
theorem okX3_printAt {Γ : aΓ} {post : Int32 → List aE → Prop} {ex : aXp} {ad0 : Nat → Nat} {X0 : List aE} (C : FOK Γ cX3_printAt wsX3_printAt RX3 3 rmX3_printAt) (hQ : isQ Γ (va_Qi post (aBk (gK Γ) ad0 X0 (hsz Γ)) (aA (gK Γ) ad0 X0 (hsz Γ))) rmX3_printAt ad0 X0) (hr : rTy Γ = some .int) (CX : FOX Γ) (hX : isX Γ ex rmX3_printAt ad0 X0) : AllS Γ (tbX3_printAt post ex ad0) := by
  unfold tbX3_printAt
  refine al_c (pc := 0) (snd_aload_n C dX3_printAt_0 rfl) ?_
  refine al_c (pc := 1) (snd_iload_n C dX3_printAt_1 rfl) ?_
  refine al_c (pc := 2) (snd_iload_n C dX3_printAt_2 rfl) ?_
  refine al_c (pc := 3) (snd_Xv C CX (xsite_V C rfl dX3_printAt_3 gX3_printAt_X3_checkCell rfl rfl rfl ⟨rfl, by decide +kernel, by decide +kernel, by decide +kernel⟩ ⟨by decide, by decide⟩) mX3_checkCell (exU_FX C CX hX)) ?_
  refine al_c (pc := 6) (snd_aload_n C dX3_printAt_6 rfl) ?_
  refine al_c (pc := 7) (snd_get C dX3_printAt_7 (ci := 2) (kf := 0) rfl (by decide) inX3_printAt_X3 rfl (by decide +kernel)) ?_
  refine al_c (pc := 10) (snd_iload_n C dX3_printAt_10 rfl) ?_
  refine al_c (pc := 11) (snd_iload_n C dX3_printAt_11 rfl) ?_
  refine al_c (pc := 12) (snd_Ci C (site_VN C rfl dX3_printAt_12 gX3_printAt_X0_printOn_n127 rfl rfl rfl (by decide +kernel) (by decide +kernel) (by decide +kernel) (by decide +kernel) ⟨by decide +kernel, by decide +kernel, by decide +kernel⟩ ⟨by decide, by decide⟩) mX0_printOn) ?_
  refine al_c (pc := 15) (snd_Ri C hQ hr dX3_printAt_15) ?_
  exact al_0
set_option maxHeartbeats 1000000 in
set_option maxRecDepth 100000 in
theorem mX3_printAt : xMi yX3_printAt wsX3_printAt rmX3_printAt tX3_printAt := by
  refine xMi_of (by decide +kernel) rfl rfl (by intro av X post ex hT; obtain ⟨a, b, k, tt, w, h, rm, pm, fd, wl, pr, fe, qu, co, pa, rfl, rfl, hw, hh, h1, h2⟩ := hT; exact Nat.le_of_ble_eq_true rfl) ?_
  intro Γ ad av X post ex C CX hQ hX hr hT
  obtain ⟨a, b, k, tt, w, h, rm, pm, fd, wl, pr, fe, qu, co, pa, rfl, rfl, hw, hh, h1, h2⟩ := hT
  have OK := okX3_printAt C hQ hr CX hX
  refine go OK [] 60 ?_
  refine ⟨_, _, _, _, _, _, _, _, _, _, _, _, _, _, _, rfl, rfl, hw, hh, fun q => ?_, fun q => ⟨rfl, h1 q⟩⟩
  obtain ⟨i, j, rfl, rfl, hi, hj⟩ := q
  exact ⟨_, _, i, j, _, _, _, _, _, _, _, _, _, _, _, _, _, rfl, rfl, rfl, rfl, hw, hh, hi, hj, rfl, h2 i j rfl rfl hi hj⟩
abbrev tX3_canRoll : xTi := fun av X post ex => ∃ (a : Int32) (k tt w h : Nat) (rm pm fd : Int32) (wl pr fe qu co pa : Nat → Int32), av = [.ref 0, .int a] ∧ X = CW (nI k) (nI tt) rm pm (nI w) (nI h) fd wl pr fe qu co pa ∧ w ≤ 7 ∧ h ≤ 7 ∧ k < 49 ∧ (¬ inR a 0 3 → ex "java/lang/IndexOutOfBoundsException" X) ∧ ∀ d, a = nI d → d < 4 → post (if (nxt w h wl k d).isSome then 1 else 0) X
abbrev rmX3_canRoll : Room := { frames := 7, cells := 1, slots := 6, locals := 110 }
theorem inX3_canRoll_X3 : ∀ w ∈ wsX30, w ∈ wsX3_canRoll := by decide +kernel
def tbX3_canRoll (post : Int32 → List aE → Prop) (ex : aXp) (ad0 : Nat → Nat) : List (Nat × aO) := [(0, oIL 1 1),
  (1, oXv tX3_checkDirection 1 none rmX3_checkDirection.cells rmX3_checkDirection.slots rmX3_canRoll.cells rmX3_canRoll.slots 4 (exU ex ad0 rmX3_canRoll.cells rmX3_canRoll.slots)),
  (4, oAL 0 5),
  (5, oGet 2 0 8),
  (8, oAL 0 9),
  (9, oGet 2 4 12),
  (12, oIL 1 13),
  (13, oCi tX0_nextCell 3 (some 0) rmX0_nextCell.cells rmX0_nextCell.slots rmX3_canRoll.cells rmX3_canRoll.slots 16),
  (16, oC (-1) 17),
  (17, oIc_eq 24 20),
  (20, oC (1) 21),
  (21, oGo 25),
  (24, oC (0) 25),
  (25, oRz post ad0 rmX3_canRoll.cells rmX3_canRoll.slots)]
set_option maxRecDepth 20000 in
theorem okX3_canRoll {Γ : aΓ} {post : Int32 → List aE → Prop} {ex : aXp} {ad0 : Nat → Nat} {X0 : List aE} (C : FOK Γ cX3_canRoll wsX3_canRoll RX3 2 rmX3_canRoll) (hQ : isQ Γ (va_Qi post (aBk (gK Γ) ad0 X0 (hsz Γ)) (aA (gK Γ) ad0 X0 (hsz Γ))) rmX3_canRoll ad0 X0) (hr : rTy Γ = some .boolean) (CX : FOX Γ) (hX : isX Γ ex rmX3_canRoll ad0 X0) : AllS Γ (tbX3_canRoll post ex ad0) := by
  unfold tbX3_canRoll
  refine al_c (pc := 0) (snd_iload_n C dX3_canRoll_0 rfl) ?_
  refine al_c (pc := 1) (snd_Xv C CX (xsite_S C dX3_canRoll_1 gX3_canRoll_X3_checkDirection rfl rfl rfl ⟨by decide +kernel, by decide +kernel, by decide +kernel⟩ ⟨by decide, by decide⟩) mX3_checkDirection (exU_FX C CX hX)) ?_
  refine al_c (pc := 4) (snd_aload_n C dX3_canRoll_4 rfl) ?_
  refine al_c (pc := 5) (snd_get C dX3_canRoll_5 (ci := 2) (kf := 0) rfl (by decide) inX3_canRoll_X3 rfl (by decide +kernel)) ?_
  refine al_c (pc := 8) (snd_aload_n C dX3_canRoll_8 rfl) ?_
  refine al_c (pc := 9) (snd_get C dX3_canRoll_9 (ci := 2) (kf := 4) rfl (by decide) inX3_canRoll_X3 rfl (by decide +kernel)) ?_
  refine al_c (pc := 12) (snd_iload_n C dX3_canRoll_12 rfl) ?_
  refine al_c (pc := 13) (snd_Ci C (site_VN C rfl dX3_canRoll_13 gX3_canRoll_X0_nextCell_n130 rfl rfl rfl (by decide +kernel) (by decide +kernel) (by decide +kernel) (by decide +kernel) ⟨by decide +kernel, by decide +kernel, by decide +kernel⟩ ⟨by decide, by decide⟩) mX0_nextCell) ?_
  refine al_c (pc := 16) (snd_iconst C dX3_canRoll_16 (by decide)) ?_
  refine al_c (pc := 17) (snd_icmp_eq C dX3_canRoll_17 (by decide)) ?_
  refine al_c (pc := 20) (snd_iconst C dX3_canRoll_20 (by decide)) ?_
  refine al_c (pc := 21) (snd_goto C dX3_canRoll_21 (by decide)) ?_
  refine al_c (pc := 24) (snd_iconst C dX3_canRoll_24 (by decide)) ?_
  refine al_c (pc := 25) (snd_Rz C hQ hr dX3_canRoll_25) ?_
  exact al_0
set_option maxHeartbeats 1000000 in
set_option maxRecDepth 100000 in
theorem mX3_canRoll : xMi yX3_canRoll wsX3_canRoll rmX3_canRoll tX3_canRoll := by
  refine xMz_of (by decide +kernel) rfl rfl (by intro av X post ex hT; obtain ⟨a, k, tt, w, h, rm, pm, fd, wl, pr, fe, qu, co, pa, rfl, rfl, hw, hh, hk, h1, h2⟩ := hT; exact Nat.le_of_ble_eq_true rfl) ?_
  intro Γ ad av X post ex C CX hQ hX hr hT
  obtain ⟨a, k, tt, w, h, rm, pm, fd, wl, pr, fe, qu, co, pa, rfl, rfl, hw, hh, hk, h1, h2⟩ := hT
  have OK := okX3_canRoll C hQ hr CX hX
  refine go OK [] 60 ?_
  refine ⟨_, rfl, fun q => ?_, fun q => ⟨rfl, h1 q⟩⟩
  obtain ⟨d, rfl, d1, d2⟩ := q
  have hp := h2 d rfl (by omega)
  refine ⟨_, _, k, d, _, _, _, _, _, _, _, _, _, _, _, _, _, rfl, rfl, rfl, rfl, hw, hh, hk, by omega, ?_⟩
  cases e : nxt w h wl k d with
  | none =>
    rw [e] at hp
    refine And.intro (fun _ => ?_) (fun q2 => absurd rfl q2)
    exact ⟨Or.inl rfl, rfl, hp⟩
  | some j =>
    rw [e] at hp
    have hj := nxt_fr e
    refine And.intro (fun q2 => absurd q2 (nI_m1 (by have := hj.1; have := hj.2.1; omega : j < 10000))) (fun _ => ?_)
    exact ⟨Or.inr rfl, rfl, hp⟩
abbrev tX3_width : aTi := fun av X post => ∃ (k tt w h : Nat) (rm pm fd : Int32) (wl pr fe qu co pa : Nat → Int32), av = [.ref 0] ∧ X = CW (nI k) (nI tt) rm pm (nI w) (nI h) fd wl pr fe qu co pa ∧ post (nI w) X
abbrev rmX3_width : Room := { frames := 0, cells := 0, slots := 0, locals := 0 }
theorem inX3_width_X0 : ∀ w ∈ wsX00, w ∈ wsX3_width := by decide +kernel
theorem inX3_width_X3 : ∀ w ∈ wsX30, w ∈ wsX3_width := by decide +kernel
def tbX3_width (post : Int32 → List aE → Prop) (ad0 : Nat → Nat) : List (Nat × aO) := [(0, oAL 0 1),
  (1, oGet 2 0 4),
  (4, oGet 0 2 7),
  (7, oRi post ad0 rmX3_width.cells rmX3_width.slots)]
set_option maxRecDepth 20000 in
theorem okX3_width {Γ : aΓ} {post : Int32 → List aE → Prop} {ad0 : Nat → Nat} {X0 : List aE} (C : FOK Γ cX3_width wsX3_width RX3 1 rmX3_width) (hQ : isQ Γ (va_Qi post (aBk (gK Γ) ad0 X0 (hsz Γ)) (aA (gK Γ) ad0 X0 (hsz Γ))) rmX3_width ad0 X0) (hr : rTy Γ = some .int) : AllS Γ (tbX3_width post ad0) := by
  unfold tbX3_width
  refine al_c (pc := 0) (snd_aload_n C dX3_width_0 rfl) ?_
  refine al_c (pc := 1) (snd_get C dX3_width_1 (ci := 2) (kf := 0) rfl (by decide) inX3_width_X3 rfl (by decide +kernel)) ?_
  refine al_c (pc := 4) (snd_getN C dX3_width_4 (ci := 0) (kf := 2) rfl (by decide) inX3_width_X0 rfl rfl rfl (by decide +kernel)) ?_
  refine al_c (pc := 7) (snd_Ri C hQ hr dX3_width_7) ?_
  exact al_0
set_option maxHeartbeats 1000000 in
set_option maxRecDepth 100000 in
theorem mX3_width : aMi yX3_width wsX3_width rmX3_width tX3_width := by
  refine aMi_of (by decide +kernel) rfl rfl (by intro av X post hT; obtain ⟨k, tt, w, h, rm, pm, fd, wl, pr, fe, qu, co, pa, rfl, rfl, hp⟩ := hT; exact Nat.le_of_ble_eq_true rfl) ?_
  intro Γ ad av X post C hQ hr hT
  obtain ⟨k, tt, w, h, rm, pm, fd, wl, pr, fe, qu, co, pa, rfl, rfl, hp⟩ := hT
  have OK := okX3_width C hQ hr
  refine go OK [] 60 ?_
  exact ⟨rfl, hp⟩
abbrev tX3_height : aTi := fun av X post => ∃ (k tt w h : Nat) (rm pm fd : Int32) (wl pr fe qu co pa : Nat → Int32), av = [.ref 0] ∧ X = CW (nI k) (nI tt) rm pm (nI w) (nI h) fd wl pr fe qu co pa ∧ post (nI h) X
abbrev rmX3_height : Room := { frames := 0, cells := 0, slots := 0, locals := 0 }
theorem inX3_height_X0 : ∀ w ∈ wsX00, w ∈ wsX3_height := by decide +kernel
theorem inX3_height_X3 : ∀ w ∈ wsX30, w ∈ wsX3_height := by decide +kernel
def tbX3_height (post : Int32 → List aE → Prop) (ad0 : Nat → Nat) : List (Nat × aO) := [(0, oAL 0 1),
  (1, oGet 2 0 4),
  (4, oGet 0 3 7),
  (7, oRi post ad0 rmX3_height.cells rmX3_height.slots)]
set_option maxRecDepth 20000 in
theorem okX3_height {Γ : aΓ} {post : Int32 → List aE → Prop} {ad0 : Nat → Nat} {X0 : List aE} (C : FOK Γ cX3_height wsX3_height RX3 1 rmX3_height) (hQ : isQ Γ (va_Qi post (aBk (gK Γ) ad0 X0 (hsz Γ)) (aA (gK Γ) ad0 X0 (hsz Γ))) rmX3_height ad0 X0) (hr : rTy Γ = some .int) : AllS Γ (tbX3_height post ad0) := by
  unfold tbX3_height
  refine al_c (pc := 0) (snd_aload_n C dX3_height_0 rfl) ?_
  refine al_c (pc := 1) (snd_get C dX3_height_1 (ci := 2) (kf := 0) rfl (by decide) inX3_height_X3 rfl (by decide +kernel)) ?_
  refine al_c (pc := 4) (snd_getN C dX3_height_4 (ci := 0) (kf := 3) rfl (by decide) inX3_height_X0 rfl rfl rfl (by decide +kernel)) ?_
  refine al_c (pc := 7) (snd_Ri C hQ hr dX3_height_7) ?_
  exact al_0
set_option maxHeartbeats 1000000 in
set_option maxRecDepth 100000 in
theorem mX3_height : aMi yX3_height wsX3_height rmX3_height tX3_height := by
  refine aMi_of (by decide +kernel) rfl rfl (by intro av X post hT; obtain ⟨k, tt, w, h, rm, pm, fd, wl, pr, fe, qu, co, pa, rfl, rfl, hp⟩ := hT; exact Nat.le_of_ble_eq_true rfl) ?_
  intro Γ ad av X post C hQ hr hT
  obtain ⟨k, tt, w, h, rm, pm, fd, wl, pr, fe, qu, co, pa, rfl, rfl, hp⟩ := hT
  have OK := okX3_height C hQ hr
  refine go OK [] 60 ?_
  exact ⟨rfl, hp⟩
abbrev tX3_rolls : aTi := fun av X post => ∃ (k tt w h : Nat) (rm pm fd : Int32) (wl pr fe qu co pa : Nat → Int32), av = [.ref 0] ∧ X = CW (nI k) (nI tt) rm pm (nI w) (nI h) fd wl pr fe qu co pa ∧ post rm X
abbrev rmX3_rolls : Room := { frames := 0, cells := 0, slots := 0, locals := 0 }
theorem inX3_rolls_X3 : ∀ w ∈ wsX30, w ∈ wsX3_rolls := by decide +kernel
def tbX3_rolls (post : Int32 → List aE → Prop) (ad0 : Nat → Nat) : List (Nat × aO) := [(0, oAL 0 1),
  (1, oGet 2 6 4),
  (4, oRi post ad0 rmX3_rolls.cells rmX3_rolls.slots)]
set_option maxRecDepth 20000 in
theorem okX3_rolls {Γ : aΓ} {post : Int32 → List aE → Prop} {ad0 : Nat → Nat} {X0 : List aE} (C : FOK Γ cX3_rolls wsX3_rolls RX3 1 rmX3_rolls) (hQ : isQ Γ (va_Qi post (aBk (gK Γ) ad0 X0 (hsz Γ)) (aA (gK Γ) ad0 X0 (hsz Γ))) rmX3_rolls ad0 X0) (hr : rTy Γ = some .int) : AllS Γ (tbX3_rolls post ad0) := by
  unfold tbX3_rolls
  refine al_c (pc := 0) (snd_aload_n C dX3_rolls_0 rfl) ?_
  refine al_c (pc := 1) (snd_get C dX3_rolls_1 (ci := 2) (kf := 6) rfl (by decide) inX3_rolls_X3 rfl (by decide +kernel)) ?_
  refine al_c (pc := 4) (snd_Ri C hQ hr dX3_rolls_4) ?_
  exact al_0
set_option maxHeartbeats 1000000 in
set_option maxRecDepth 100000 in
theorem mX3_rolls : aMi yX3_rolls wsX3_rolls rmX3_rolls tX3_rolls := by
  refine aMi_of (by decide +kernel) rfl rfl (by intro av X post hT; obtain ⟨k, tt, w, h, rm, pm, fd, wl, pr, fe, qu, co, pa, rfl, rfl, hp⟩ := hT; exact Nat.le_of_ble_eq_true rfl) ?_
  intro Γ ad av X post C hQ hr hT
  obtain ⟨k, tt, w, h, rm, pm, fd, wl, pr, fe, qu, co, pa, rfl, rfl, hp⟩ := hT
  have OK := okX3_rolls C hQ hr
  refine go OK [] 60 ?_
  exact ⟨rfl, hp⟩
abbrev tX3_prints : aTi := fun av X post => ∃ (k tt w h : Nat) (rm pm fd : Int32) (wl pr fe qu co pa : Nat → Int32), av = [.ref 0] ∧ X = CW (nI k) (nI tt) rm pm (nI w) (nI h) fd wl pr fe qu co pa ∧ post pm X
abbrev rmX3_prints : Room := { frames := 0, cells := 0, slots := 0, locals := 0 }
theorem inX3_prints_X3 : ∀ w ∈ wsX30, w ∈ wsX3_prints := by decide +kernel
def tbX3_prints (post : Int32 → List aE → Prop) (ad0 : Nat → Nat) : List (Nat × aO) := [(0, oAL 0 1),
  (1, oGet 2 7 4),
  (4, oRi post ad0 rmX3_prints.cells rmX3_prints.slots)]
set_option maxRecDepth 20000 in
theorem okX3_prints {Γ : aΓ} {post : Int32 → List aE → Prop} {ad0 : Nat → Nat} {X0 : List aE} (C : FOK Γ cX3_prints wsX3_prints RX3 1 rmX3_prints) (hQ : isQ Γ (va_Qi post (aBk (gK Γ) ad0 X0 (hsz Γ)) (aA (gK Γ) ad0 X0 (hsz Γ))) rmX3_prints ad0 X0) (hr : rTy Γ = some .int) : AllS Γ (tbX3_prints post ad0) := by
  unfold tbX3_prints
  refine al_c (pc := 0) (snd_aload_n C dX3_prints_0 rfl) ?_
  refine al_c (pc := 1) (snd_get C dX3_prints_1 (ci := 2) (kf := 7) rfl (by decide) inX3_prints_X3 rfl (by decide +kernel)) ?_
  refine al_c (pc := 4) (snd_Ri C hQ hr dX3_prints_4) ?_
  exact al_0
set_option maxHeartbeats 1000000 in
set_option maxRecDepth 100000 in
theorem mX3_prints : aMi yX3_prints wsX3_prints rmX3_prints tX3_prints := by
  refine aMi_of (by decide +kernel) rfl rfl (by intro av X post hT; obtain ⟨k, tt, w, h, rm, pm, fd, wl, pr, fe, qu, co, pa, rfl, rfl, hp⟩ := hT; exact Nat.le_of_ble_eq_true rfl) ?_
  intro Γ ad av X post C hQ hr hT
  obtain ⟨k, tt, w, h, rm, pm, fd, wl, pr, fe, qu, co, pa, rfl, rfl, hp⟩ := hT
  have OK := okX3_prints C hQ hr
  refine go OK [] 60 ?_
  exact ⟨rfl, hp⟩
abbrev tX0_countWalls : aTi := fun av X post => ∃ (c t rm pm fd : Int32) (w h : Nat) (wl pr fe qu co pa : Nat → Int32), av = [.ref 1] ∧ X = CW c t rm pm (nI w) (nI h) fd wl pr fe qu co pa ∧ post (nI (ct (fun c => decide (¬ wl c = 0)) 49)) X
abbrev rmX0_countWalls : Room := { frames := 0, cells := 0, slots := 0, locals := 0 }
theorem inX0_countWalls_X0 : ∀ w ∈ wsX00, w ∈ wsX0_countWalls := by decide +kernel
def tbX0_countWalls (post : Int32 → List aE → Prop) (ad0 : Nat → Nat) : List (Nat × aO) := [(0, oC (0) 1),
  (1, oIS 1 2),
  (2, oC (0) 3),
  (3, oIS 2 4),
  (4, oIL 2 5),
  (5, oC (49) 7),
  (7, oIc_ge 28 10),
  (10, oAL 0 11),
  (11, oGet 0 0 14),
  (14, oIL 2 15),
  (15, oZald 16),
  (16, oIf_eq 22 19),
  (19, oInc 1 1 22),
  (22, oInc 2 1 25),
  (25, oGo 4),
  (28, oIL 1 29),
  (29, oRi post ad0 rmX0_countWalls.cells rmX0_countWalls.slots)]
set_option maxRecDepth 20000 in
theorem okX0_countWalls {Γ : aΓ} {post : Int32 → List aE → Prop} {ad0 : Nat → Nat} {X0 : List aE} (C : FOK Γ cX0_countWalls wsX0_countWalls RX0 3 rmX0_countWalls) (hQ : isQ Γ (va_Qi post (aBk (gK Γ) ad0 X0 (hsz Γ)) (aA (gK Γ) ad0 X0 (hsz Γ))) rmX0_countWalls ad0 X0) (hr : rTy Γ = some .int) : AllS Γ (tbX0_countWalls post ad0) := by
  unfold tbX0_countWalls
  refine al_c (pc := 0) (snd_iconst C dX0_countWalls_0 (by decide)) ?_
  refine al_c (pc := 1) (snd_istore_n C dX0_countWalls_1 rfl (by decide)) ?_
  refine al_c (pc := 2) (snd_iconst C dX0_countWalls_2 (by decide)) ?_
  refine al_c (pc := 3) (snd_istore_n C dX0_countWalls_3 rfl (by decide)) ?_
  refine al_c (pc := 4) (snd_iload_n C dX0_countWalls_4 rfl) ?_
  refine al_c (pc := 5) (snd_bipush C dX0_countWalls_5 (by decide)) ?_
  refine al_c (pc := 7) (snd_icmp_ge C dX0_countWalls_7 (by decide)) ?_
  refine al_c (pc := 10) (snd_aload_n C dX0_countWalls_10 rfl) ?_
  refine al_c (pc := 11) (snd_get C dX0_countWalls_11 (ci := 0) (kf := 0) rfl (by decide) inX0_countWalls_X0 rfl (by decide +kernel)) ?_
  refine al_c (pc := 14) (snd_iload_n C dX0_countWalls_14 rfl) ?_
  refine al_c (pc := 15) (snd_baload C dX0_countWalls_15) ?_
  refine al_c (pc := 16) (snd_if_eq C dX0_countWalls_16 (by decide)) ?_
  refine al_c (pc := 19) (snd_iinc C dX0_countWalls_19 (by decide) (by decide)) ?_
  refine al_c (pc := 22) (snd_iinc C dX0_countWalls_22 (by decide) (by decide)) ?_
  refine al_c (pc := 25) (snd_goto C dX0_countWalls_25 (by decide)) ?_
  refine al_c (pc := 28) (snd_iload_n C dX0_countWalls_28 rfl) ?_
  refine al_c (pc := 29) (snd_Ri C hQ hr dX0_countWalls_29) ?_
  exact al_0
set_option maxHeartbeats 1000000 in
set_option maxRecDepth 100000 in
theorem mX0_countWalls : aMi yX0_countWalls wsX0_countWalls rmX0_countWalls tX0_countWalls := by
  refine aMi_of (by decide +kernel) rfl rfl (by intro av X post hT; obtain ⟨c, t, rm, pm, fd, w, h, wl, pr, fe, qu, co, pa, rfl, rfl, hp⟩ := hT; exact Nat.le_of_ble_eq_true rfl) ?_
  intro Γ ad av X post C hQ hr hT
  obtain ⟨c, t, rm, pm, fd, w, h, wl, pr, fe, qu, co, pa, rfl, rfl, hp⟩ := hT
  have OK := okX0_countWalls C hQ hr
  have loop : ∀ (n i : Nat), i ≤ 49 → 49 - i < n → FG Γ 4 ad 0 0 [(2, .int (nI i)), (1, .int (nI (ct (fun c => decide (¬ wl c = 0)) i))), (0, .ref 1)] [] (CW c t rm pm (nI w) (nI h) fd wl pr fe qu co pa) := by
    intro n
    induction n with
    | zero => intro i _ h; omega
    | succ n ih =>
      intro i hi hn
      refine go OK [4] 60 ?_
      refine And.intro (fun q => ?_) (fun q => ?_)
      · have q := (leN (a := 49) (by omega) (by omega)).mp q
        have : i = 49 := by omega
        subst this
        exact ⟨rfl, hp⟩
      · have hlt : i < 49 := by
          rcases Nat.lt_or_ge i 49 with z | z
          · exact z
          · exact absurd ((leN (a := 49) (b := i) (by omega) (by omega)).mpr z) q
        have key := ih (i + 1) (by omega) (by omega)
        rw [← nI_p1 i] at key
        refine ⟨inS hlt (by decide), ?_⟩
        rw [nI_clampS (by omega)]
        refine And.intro (fun q => ?_) (fun q => ?_)
        · rw [ct_f (n := i) (by simp [q])] at key
          exact key
        · rw [ct_t (n := i) (by simp [q]), ← nI_p1 (ct _ i)] at key
          exact key
  refine go OK [4] 40 ?_
  exact loop 50 0 (by omega) (by omega)
abbrev tX3_walls : aTi := fun av X post => ∃ (k tt w h : Nat) (rm pm fd : Int32) (wl pr fe qu co pa : Nat → Int32), av = [.ref 0] ∧ X = CW (nI k) (nI tt) rm pm (nI w) (nI h) fd wl pr fe qu co pa ∧ post (nI (ct (fun c => decide (¬ wl c = 0)) 49)) X
abbrev rmX3_walls : Room := { frames := 1, cells := 0, slots := 0, locals := 22 }
theorem inX3_walls_X3 : ∀ w ∈ wsX30, w ∈ wsX3_walls := by decide +kernel
def tbX3_walls (post : Int32 → List aE → Prop) (ad0 : Nat → Nat) : List (Nat × aO) := [(0, oAL 0 1),
  (1, oGet 2 0 4),
  (4, oCi tX0_countWalls 1 (some 0) rmX0_countWalls.cells rmX0_countWalls.slots rmX3_walls.cells rmX3_walls.slots 7),
  (7, oRi post ad0 rmX3_walls.cells rmX3_walls.slots)]
set_option maxRecDepth 20000 in
theorem okX3_walls {Γ : aΓ} {post : Int32 → List aE → Prop} {ad0 : Nat → Nat} {X0 : List aE} (C : FOK Γ cX3_walls wsX3_walls RX3 1 rmX3_walls) (hQ : isQ Γ (va_Qi post (aBk (gK Γ) ad0 X0 (hsz Γ)) (aA (gK Γ) ad0 X0 (hsz Γ))) rmX3_walls ad0 X0) (hr : rTy Γ = some .int) : AllS Γ (tbX3_walls post ad0) := by
  unfold tbX3_walls
  refine al_c (pc := 0) (snd_aload_n C dX3_walls_0 rfl) ?_
  refine al_c (pc := 1) (snd_get C dX3_walls_1 (ci := 2) (kf := 0) rfl (by decide) inX3_walls_X3 rfl (by decide +kernel)) ?_
  refine al_c (pc := 4) (snd_Ci C (site_VN C rfl dX3_walls_4 gX3_walls_X0_countWalls_n139 rfl rfl rfl (by decide +kernel) (by decide +kernel) (by decide +kernel) (by decide +kernel) ⟨by decide +kernel, by decide +kernel, by decide +kernel⟩ ⟨by decide, by decide⟩) mX0_countWalls) ?_
  refine al_c (pc := 7) (snd_Ri C hQ hr dX3_walls_7) ?_
  exact al_0
set_option maxHeartbeats 1000000 in
set_option maxRecDepth 100000 in
theorem mX3_walls : aMi yX3_walls wsX3_walls rmX3_walls tX3_walls := by
  refine aMi_of (by decide +kernel) rfl rfl (by intro av X post hT; obtain ⟨k, tt, w, h, rm, pm, fd, wl, pr, fe, qu, co, pa, rfl, rfl, hp⟩ := hT; exact Nat.le_of_ble_eq_true rfl) ?_
  intro Γ ad av X post C hQ hr hT
  obtain ⟨k, tt, w, h, rm, pm, fd, wl, pr, fe, qu, co, pa, rfl, rfl, hp⟩ := hT
  have OK := okX3_walls C hQ hr
  refine go OK [] 60 ?_
  exact ⟨_, _, _, _, _, _, _, _, _, _, _, _, _, rfl, rfl, rfl, hp⟩
def ct2 (p : Nat → Nat → Bool) (w : Nat) : Nat → Nat
  | 0 => 0
  | j + 1 => ct2 p w j + ct (p j) w
abbrev tX0_countPrints : aTi := fun av X post => ∃ (a : Int32) (c t rm pm fd : Int32) (w h : Nat) (wl pr fe qu co pa : Nat → Int32), av = [.ref 1, .int a] ∧ X = CW c t rm pm (nI w) (nI h) fd wl pr fe qu co pa ∧ w ≤ 7 ∧ h ≤ 7 ∧ post (nI (ct2 (fun j i => decide (pr (j * 7 + i) = a)) w h)) X
abbrev rmX0_countPrints : Room := { frames := 2, cells := 0, slots := 0, locals := 44 }
theorem inX0_countPrints_X0 : ∀ w ∈ wsX00, w ∈ wsX0_countPrints := by decide +kernel
def tbX0_countPrints (post : Int32 → List aE → Prop) (ad0 : Nat → Nat) : List (Nat × aO) := [(0, oC (0) 1),
  (1, oIS 2 2),
  (2, oC (0) 3),
  (3, oIS 3 4),
  (4, oIL 3 5),
  (5, oAL 0 6),
  (6, oGet 0 3 9),
  (9, oIc_ge 50 12),
  (12, oC (0) 13),
  (13, oIS 4 15),
  (15, oIL 4 17),
  (17, oAL 0 18),
  (18, oGet 0 2 21),
  (21, oIc_ge 44 24),
  (24, oAL 0 25),
  (25, oIL 4 27),
  (27, oIL 3 28),
  (28, oCi tX0_printOn 3 (some 0) rmX0_printOn.cells rmX0_printOn.slots rmX0_countPrints.cells rmX0_countPrints.slots 31),
  (31, oIL 1 32),
  (32, oIc_ne 38 35),
  (35, oInc 2 1 38),
  (38, oInc 4 1 41),
  (41, oGo 15),
  (44, oInc 3 1 47),
  (47, oGo 4),
  (50, oIL 2 51),
  (51, oRi post ad0 rmX0_countPrints.cells rmX0_countPrints.slots)]
set_option maxRecDepth 20000 in
theorem okX0_countPrints {Γ : aΓ} {post : Int32 → List aE → Prop} {ad0 : Nat → Nat} {X0 : List aE} (C : FOK Γ cX0_countPrints wsX0_countPrints RX0 5 rmX0_countPrints) (hQ : isQ Γ (va_Qi post (aBk (gK Γ) ad0 X0 (hsz Γ)) (aA (gK Γ) ad0 X0 (hsz Γ))) rmX0_countPrints ad0 X0) (hr : rTy Γ = some .int) : AllS Γ (tbX0_countPrints post ad0) := by
  unfold tbX0_countPrints
  refine al_c (pc := 0) (snd_iconst C dX0_countPrints_0 (by decide)) ?_
  refine al_c (pc := 1) (snd_istore_n C dX0_countPrints_1 rfl (by decide)) ?_
  refine al_c (pc := 2) (snd_iconst C dX0_countPrints_2 (by decide)) ?_
  refine al_c (pc := 3) (snd_istore_n C dX0_countPrints_3 rfl (by decide)) ?_
  refine al_c (pc := 4) (snd_iload_n C dX0_countPrints_4 rfl) ?_
  refine al_c (pc := 5) (snd_aload_n C dX0_countPrints_5 rfl) ?_
  refine al_c (pc := 6) (snd_get C dX0_countPrints_6 (ci := 0) (kf := 3) rfl (by decide) inX0_countPrints_X0 rfl (by decide +kernel)) ?_
  refine al_c (pc := 9) (snd_icmp_ge C dX0_countPrints_9 (by decide)) ?_
  refine al_c (pc := 12) (snd_iconst C dX0_countPrints_12 (by decide)) ?_
  refine al_c (pc := 13) (snd_istore C dX0_countPrints_13 (by decide)) ?_
  refine al_c (pc := 15) (snd_iload C dX0_countPrints_15) ?_
  refine al_c (pc := 17) (snd_aload_n C dX0_countPrints_17 rfl) ?_
  refine al_c (pc := 18) (snd_get C dX0_countPrints_18 (ci := 0) (kf := 2) rfl (by decide) inX0_countPrints_X0 rfl (by decide +kernel)) ?_
  refine al_c (pc := 21) (snd_icmp_ge C dX0_countPrints_21 (by decide)) ?_
  refine al_c (pc := 24) (snd_aload_n C dX0_countPrints_24 rfl) ?_
  refine al_c (pc := 25) (snd_iload C dX0_countPrints_25) ?_
  refine al_c (pc := 27) (snd_iload_n C dX0_countPrints_27 rfl) ?_
  refine al_c (pc := 28) (snd_Ci C (site_V C rfl dX0_countPrints_28 gX0_countPrints_X0_printOn rfl rfl rfl ⟨rfl, by decide +kernel, by decide +kernel, by decide +kernel⟩ ⟨by decide, by decide⟩) mX0_printOn) ?_
  refine al_c (pc := 31) (snd_iload_n C dX0_countPrints_31 rfl) ?_
  refine al_c (pc := 32) (snd_icmp_ne C dX0_countPrints_32 (by decide)) ?_
  refine al_c (pc := 35) (snd_iinc C dX0_countPrints_35 (by decide) (by decide)) ?_
  refine al_c (pc := 38) (snd_iinc C dX0_countPrints_38 (by decide) (by decide)) ?_
  refine al_c (pc := 41) (snd_goto C dX0_countPrints_41 (by decide)) ?_
  refine al_c (pc := 44) (snd_iinc C dX0_countPrints_44 (by decide) (by decide)) ?_
  refine al_c (pc := 47) (snd_goto C dX0_countPrints_47 (by decide)) ?_
  refine al_c (pc := 50) (snd_iload_n C dX0_countPrints_50 rfl) ?_
  refine al_c (pc := 51) (snd_Ri C hQ hr dX0_countPrints_51) ?_
  exact al_0
set_option maxHeartbeats 1000000 in
set_option maxRecDepth 100000 in
theorem mX0_countPrints : aMi yX0_countPrints wsX0_countPrints rmX0_countPrints tX0_countPrints := by
  refine aMi_of (by decide +kernel) rfl rfl (by intro av X post hT; obtain ⟨a, c, t, rm, pm, fd, w, h, wl, pr, fe, qu, co, pa, rfl, rfl, hw, hh, hp⟩ := hT; exact Nat.le_of_ble_eq_true rfl) ?_
  intro Γ ad av X post C hQ hr hT
  obtain ⟨a, c, t, rm, pm, fd, w, h, wl, pr, fe, qu, co, pa, rfl, rfl, hw, hh, hp⟩ := hT
  have OK := okX0_countPrints C hQ hr
  have outer : ∀ (n j : Nat), j ≤ h → h - j < n → FG Γ 4 ad 0 0 [(3, .int (nI j)), (2, .int (nI (ct2 (fun j i => decide (pr (j * 7 + i) = a)) w j))), (0, .ref 1), (1, .int a)] [] (CW c t rm pm (nI w) (nI h) fd wl pr fe qu co pa) := by
    intro n
    induction n with
    | zero => intro j _ h; omega
    | succ n ih =>
      intro j hj hn
      refine go OK [4, 15] 60 ?_
      refine And.intro (fun q => ?_) (fun q => ?_)
      · have q := (leN (by omega) (by omega)).mp q
        have : j = h := by omega
        subst this
        exact ⟨rfl, hp⟩
      have hjlt : j < h := by
        rcases Nat.lt_or_ge j h with z | z
        · exact z
        · exact absurd ((leN (by omega) (by omega)).mpr z) q
      have inner : ∀ (n2 i : Nat), i ≤ w → w - i < n2 → FG Γ 15 ad 0 0 [(4, .int (nI i)), (3, .int (nI j)), (2, .int (nI (ct2 (fun j i => decide (pr (j * 7 + i) = a)) w j + ct (fun i => decide (pr (j * 7 + i) = a)) i))), (0, .ref 1), (1, .int a)] [] (CW c t rm pm (nI w) (nI h) fd wl pr fe qu co pa) := by
        intro n2
        induction n2 with
        | zero => intro i _ h; omega
        | succ n2 ih2 =>
          intro i hi hn2
          refine go OK [4, 15] 60 ?_
          refine And.intro (fun q => ?_) (fun q => ?_)
          · have q := (leN (by omega) (by omega)).mp q
            have : i = w := by omega
            subst this
            have key := ih (j + 1) (by omega) (by omega)
            rw [← nI_p1 j] at key
            exact FG_sub [0, 2, 3, 4] rfl key
          · have hlt : i < w := by
              rcases Nat.lt_or_ge i w with z | z
              · exact z
              · exact absurd ((leN (by omega) (by omega)).mpr z) q
            have key := ih2 (i + 1) (by omega) (by omega)
            rw [← nI_p1 i] at key
            refine ⟨_, _, i, j, _, _, _, _, _, _, _, _, _, _, _, _, _, rfl, rfl, rfl, rfl, hw, hh, hlt, hjlt, ?_⟩
            refine And.intro (fun q => ?_) (fun q => ?_)
            · rw [ct_f (n := i) (by simp [q])] at key
              exact key
            · rw [ct_t (n := i) (by simp [q]), ← Nat.add_assoc, ← nI_p1 (ct2 _ _ _ + ct _ i)] at key
              exact FG_sub [0, 2, 1, 3, 4] rfl key
      exact FG_sub [0, 1, 2, 3, 4] rfl (inner (w + 1) 0 (by omega) (by omega))
  refine go OK [4] 40 ?_
  exact outer (h + 1) 0 (by omega) (by omega)
abbrev tX3_cellsWith : xTi := fun av X post ex => ∃ (a : Int32) (k tt w h : Nat) (rm pm fd : Int32) (wl pr fe qu co pa : Nat → Int32), av = [.ref 0, .int a] ∧ X = CW (nI k) (nI tt) rm pm (nI w) (nI h) fd wl pr fe qu co pa ∧ w ≤ 7 ∧ h ≤ 7 ∧ (¬ inR a 0 9 → ex "java/lang/IndexOutOfBoundsException" X) ∧ (inR a 0 9 → post (nI (ct2 (fun j i => decide (pr (j * 7 + i) = a)) w h)) X)
abbrev rmX3_cellsWith : Room := { frames := 6, cells := 1, slots := 6, locals := 90 }
theorem inX3_cellsWith_X3 : ∀ w ∈ wsX30, w ∈ wsX3_cellsWith := by decide +kernel
def tbX3_cellsWith (post : Int32 → List aE → Prop) (ex : aXp) (ad0 : Nat → Nat) : List (Nat × aO) := [(0, oIL 1 1),
  (1, oIf_lt 10 4),
  (4, oIL 1 5),
  (5, oC (9) 7),
  (7, oIc_le 20 10),
  (10, oTh "java/lang/IndexOutOfBoundsException" ex ad0 rmX3_cellsWith.cells rmX3_cellsWith.slots),
  (20, oAL 0 21),
  (21, oGet 2 0 24),
  (24, oIL 1 25),
  (25, oCi tX0_countPrints 2 (some 0) rmX0_countPrints.cells rmX0_countPrints.slots rmX3_cellsWith.cells rmX3_cellsWith.slots 28),
  (28, oRi post ad0 rmX3_cellsWith.cells rmX3_cellsWith.slots)]
set_option maxRecDepth 20000 in
theorem okX3_cellsWith {Γ : aΓ} {post : Int32 → List aE → Prop} {ex : aXp} {ad0 : Nat → Nat} {X0 : List aE} (C : FOK Γ cX3_cellsWith wsX3_cellsWith RX3 2 rmX3_cellsWith) (hQ : isQ Γ (va_Qi post (aBk (gK Γ) ad0 X0 (hsz Γ)) (aA (gK Γ) ad0 X0 (hsz Γ))) rmX3_cellsWith ad0 X0) (hr : rTy Γ = some .int) (CX : FOX Γ) (hX : isX Γ ex rmX3_cellsWith ad0 X0) : AllS Γ (tbX3_cellsWith post ex ad0) := by
  unfold tbX3_cellsWith
  refine al_c (pc := 0) (snd_iload_n C dX3_cellsWith_0 rfl) ?_
  refine al_c (pc := 1) (snd_if_lt C dX3_cellsWith_1 (by decide)) ?_
  refine al_c (pc := 4) (snd_iload_n C dX3_cellsWith_4 rfl) ?_
  refine al_c (pc := 5) (snd_bipush C dX3_cellsWith_5 (by decide)) ?_
  refine al_c (pc := 7) (snd_icmp_le C dX3_cellsWith_7 (by decide)) ?_
  refine al_c (pc := 10) (snd_Th (names := ["java/lang/RuntimeException", "java/lang/Exception"]) (text := "a print is 0 to 9") C CX hX (by decide +kernel) (by decide +kernel) (ik := 148) (is := 150) (ic := 152) (by decide +kernel) (by decide +kernel) (by decide +kernel) (by decide +kernel) (by decide +kernel) dX3_cellsWith_10 dX3_cellsWith_13 dX3_cellsWith_14 dX3_cellsWith_16 dX3_cellsWith_19 (by decide) (by decide)) ?_
  refine al_c (pc := 20) (snd_aload_n C dX3_cellsWith_20 rfl) ?_
  refine al_c (pc := 21) (snd_get C dX3_cellsWith_21 (ci := 2) (kf := 0) rfl (by decide) inX3_cellsWith_X3 rfl (by decide +kernel)) ?_
  refine al_c (pc := 24) (snd_iload_n C dX3_cellsWith_24 rfl) ?_
  refine al_c (pc := 25) (snd_Ci C (site_VN C rfl dX3_cellsWith_25 gX3_cellsWith_X0_countPrints_n153 rfl rfl rfl (by decide +kernel) (by decide +kernel) (by decide +kernel) (by decide +kernel) ⟨by decide +kernel, by decide +kernel, by decide +kernel⟩ ⟨by decide, by decide⟩) mX0_countPrints) ?_
  refine al_c (pc := 28) (snd_Ri C hQ hr dX3_cellsWith_28) ?_
  exact al_0
set_option maxHeartbeats 1000000 in
set_option maxRecDepth 100000 in
theorem mX3_cellsWith : xMi yX3_cellsWith wsX3_cellsWith rmX3_cellsWith tX3_cellsWith := by
  refine xMi_of (by decide +kernel) rfl rfl (by intro av X post ex hT; obtain ⟨a, k, tt, w, h, rm, pm, fd, wl, pr, fe, qu, co, pa, rfl, rfl, hw, hh, h1, h2⟩ := hT; exact Nat.le_of_ble_eq_true rfl) ?_
  intro Γ ad av X post ex C CX hQ hX hr hT
  obtain ⟨a, k, tt, w, h, rm, pm, fd, wl, pr, fe, qu, co, pa, rfl, rfl, hw, hh, h1, h2⟩ := hT
  have OK := okX3_cellsWith C hQ hr CX hX
  refine go OK [] 60 ?_
  refine And.intro (fun q => ?_) (fun q1 => ?_)
  · exact ⟨rfl, h1 (inR_lo (lo := 0) (by omega) (by omega) q)⟩
  refine And.intro (fun _ => ?_) (fun q => ?_)
  · rename_i q2
    have q2 : ¬ nI 9 < a := by rw [Int32.lt_iff_toInt_lt]; rw [Int32.le_iff_toInt_le] at q2; exact Int.not_lt.mpr q2
    exact ⟨_, _, _, _, _, _, _, _, _, _, _, _, _, _, rfl, rfl, hw, hh, rfl, h2 (inR_of (lo := 0) (hi := 9) (by omega) (by omega) q1 q2)⟩
  · have q2 : nI 9 < a := by rw [Int32.lt_iff_toInt_lt]; rw [Int32.le_iff_toInt_le] at q; exact Int.not_le.mp q
    exact ⟨rfl, h1 (inR_hi (hi := 9) (by omega) (by omega) q2)⟩
