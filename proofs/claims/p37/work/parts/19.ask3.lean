/-! ===== PaintedDie's face: meanPaint, digest ===== -/
def smI (pa : Nat → Int32) : Nat → Int32
  | 0 => 0
  | n + 1 => smI pa n + pa (n + 1)
/-- paint is 0 to 20 -/
def PB (pa : Nat → Int32) : Prop := ∀ f, 1 ≤ f → f ≤ 6 → inR (pa f) 0 20
theorem smI_in {pa : Nat → Int32} (h : PB pa) : ∀ n, n ≤ 6 → ∃ s, smI pa n = nI s ∧ s ≤ 20 * n
  | 0, _ => ⟨0, rfl, Nat.le_refl 0⟩
  | n + 1, hn => by
    obtain ⟨s, h1, h2⟩ := smI_in h n (by omega)
    obtain ⟨q, g1, -, g3⟩ := h (n + 1) (by omega) (by omega)
    exact ⟨s + q, by rw [smI, h1, g1, nI_add], by omega⟩
abbrev six : UInt64 := 4618441417868443648
theorem mean_nn : ∀ s, s < 121 → vf_n64 (FP.ddiv (FP.i2d (nI s)) six) := by
  unfold vf_n64
  decide +kernel
theorem mean_n64 {pa : Nat → Int32} (h : PB pa) : vf_n64 (FP.ddiv (FP.i2d (smI pa 6)) six) := by
  obtain ⟨s, h1, h2⟩ := smI_in h 6 (Nat.le_refl 6)
  rw [h1]
  exact mean_nn s (by omega)
abbrev tX3_meanPaint : aTd := fun av X post => ∃ (k tt w h : Nat) (rm pm fd : Int32) (wl pr fe qu co pa : Nat → Int32), av = [.ref 0] ∧ X = CW (nI k) (nI tt) rm pm (nI w) (nI h) fd wl pr fe qu co pa ∧ PB pa ∧ post (FP.ddiv (FP.i2d (smI pa 6)) six) X
abbrev rmX3_meanPaint : Room := { frames := 0, cells := 0, slots := 0, locals := 0 }
theorem inX3_meanPaint_X3 : ∀ w ∈ wsX30, w ∈ wsX3_meanPaint := by decide +kernel
def tbX3_meanPaint (post : UInt64 → List aE → Prop) (ad0 : Nat → Nat) : List (Nat × aO) := [(0, oC (0) 1),
  (1, oIS 1 2),
  (2, oC (1) 3),
  (3, oIS 2 4),
  (4, oIL 2 5),
  (5, oC (6) 7),
  (7, oIc_gt 25 10),
  (10, oIL 1 11),
  (11, oAL 0 12),
  (12, oGet 2 3 15),
  (15, oIL 2 16),
  (16, oIald 17),
  (17, oIadd 18),
  (18, oIS 1 19),
  (19, oInc 2 1 22),
  (22, oGo 4),
  (25, oIL 1 26),
  (26, oI2d 27),
  (27, oCD 4618441417868443648 30),
  (30, oDdiv 31),
  (31, oRd post ad0 rmX3_meanPaint.cells rmX3_meanPaint.slots)]
set_option maxRecDepth 20000 in
theorem okX3_meanPaint {Γ : aΓ} {post : UInt64 → List aE → Prop} {ad0 : Nat → Nat} {X0 : List aE} (C : FOK Γ cX3_meanPaint wsX3_meanPaint RX3 3 rmX3_meanPaint) (hQ : isQ Γ (va_Qd post (aBk (gK Γ) ad0 X0 (hsz Γ)) (aA (gK Γ) ad0 X0 (hsz Γ))) rmX3_meanPaint ad0 X0) (hr : rTy Γ = some .double) : AllS Γ (tbX3_meanPaint post ad0) := by
  unfold tbX3_meanPaint
  refine al_c (pc := 0) (snd_iconst C dX3_meanPaint_0 (by decide)) ?_
  refine al_c (pc := 1) (snd_istore_n C dX3_meanPaint_1 rfl (by decide)) ?_
  refine al_c (pc := 2) (snd_iconst C dX3_meanPaint_2 (by decide)) ?_
  refine al_c (pc := 3) (snd_istore_n C dX3_meanPaint_3 rfl (by decide)) ?_
  refine al_c (pc := 4) (snd_iload_n C dX3_meanPaint_4 rfl) ?_
  refine al_c (pc := 5) (snd_bipush C dX3_meanPaint_5 (by decide)) ?_
  refine al_c (pc := 7) (snd_icmp_gt C dX3_meanPaint_7 (by decide)) ?_
  refine al_c (pc := 10) (snd_iload_n C dX3_meanPaint_10 rfl) ?_
  refine al_c (pc := 11) (snd_aload_n C dX3_meanPaint_11 rfl) ?_
  refine al_c (pc := 12) (snd_get C dX3_meanPaint_12 (ci := 2) (kf := 3) rfl (by decide) inX3_meanPaint_X3 rfl (by decide +kernel)) ?_
  refine al_c (pc := 15) (snd_iload_n C dX3_meanPaint_15 rfl) ?_
  refine al_c (pc := 16) (snd_iaload C dX3_meanPaint_16) ?_
  refine al_c (pc := 17) (snd_iadd C dX3_meanPaint_17) ?_
  refine al_c (pc := 18) (snd_istore_n C dX3_meanPaint_18 rfl (by decide)) ?_
  refine al_c (pc := 19) (snd_iinc C dX3_meanPaint_19 (by decide) (by decide)) ?_
  refine al_c (pc := 22) (snd_goto C dX3_meanPaint_22 (by decide)) ?_
  refine al_c (pc := 25) (snd_iload_n C dX3_meanPaint_25 rfl) ?_
  refine al_c (pc := 26) (snd_i2d C dX3_meanPaint_26) ?_
  refine al_c (pc := 27) (snd_ldc2d C dX3_meanPaint_27 (by decide +kernel)) ?_
  refine al_c (pc := 30) (snd_ddiv C dX3_meanPaint_30) ?_
  refine al_c (pc := 31) (snd_Rd C hQ hr dX3_meanPaint_31) ?_
  exact al_0
set_option maxHeartbeats 1000000 in
set_option maxRecDepth 100000 in
theorem mX3_meanPaint : aMd yX3_meanPaint wsX3_meanPaint rmX3_meanPaint tX3_meanPaint := by
  refine aMd_of (by decide +kernel) rfl rfl (by intro av X post hT; obtain ⟨k, tt, w, h, rm, pm, fd, wl, pr, fe, qu, co, pa, rfl, rfl, hP, hp⟩ := hT; exact Nat.le_of_ble_eq_true rfl) ?_
  intro Γ ad av X post C hQ hr hT
  obtain ⟨k, tt, w, h, rm, pm, fd, wl, pr, fe, qu, co, pa, rfl, rfl, hP, hp⟩ := hT
  have OK := okX3_meanPaint C hQ hr
  have loop : ∀ (n i : Nat), i + n = 6 → FG Γ 4 ad 0 0 [(2, .int (nI (i + 1))), (1, .int (smI pa i)), (0, .ref 0)] [] (CW (nI k) (nI tt) rm pm (nI w) (nI h) fd wl pr fe qu co pa) := by
    intro n
    induction n with
    | zero =>
      intro i hi
      have : i = 6 := by omega
      subst this
      refine go OK [4] 60 ?_
      refine And.intro (fun _ => ?_) (fun q => absurd (show (6 : Int32) < nI 7 by decide) q)
      exact ⟨mean_n64 hP, rfl, hp⟩
    | succ n ih =>
      intro i hi
      refine go OK [4] 60 ?_
      refine And.intro (fun q => ?_) (fun _ => ?_)
      · have := (ltN (a := 6) (by omega) (by omega)).mp q
        omega
      refine ⟨inS (by omega : i + 1 < 7) (by decide), ?_⟩
      rw [nI_clampS (by omega)]
      have key := ih (i + 1) (by omega)
      rw [← nI_p1 (i + 1)] at key
      exact key
  refine go OK [4] 40 ?_
  exact loop 6 0 rfl
/-- joining numbers to a checksum -/
def jn (d : Int64) (x : Int32) : Int64 := d * 31 + x.toInt64
def jl (d : Int64) : List Int32 → Int64
  | [] => d
  | x :: t => jl (jn d x) t
theorem jl_app (d : Int64) : ∀ (a b : List Int32), jl d (a ++ b) = jl (jl d a) b
  | [], b => rfl
  | x :: t, b => jl_app (jn d x) t b
/-- four numbers a cell, cell by cell -/
def jc (p : Nat → List Int32) (d : Int64) : Nat → Int64
  | 0 => d
  | n + 1 => jl (jc p d n) (p n)
abbrev tX3_joined : aTl := fun av X post => ∃ (d : Int64) (x : Int32), av = [.long d, .int x] ∧ post (jn d x) X
abbrev rmX3_joined : Room := { frames := 0, cells := 0, slots := 0, locals := 0 }
def tbX3_joined (post : Int64 → List aE → Prop) (ad0 : Nat → Nat) : List (Nat × aO) := [(0, oLL 0 1),
  (1, oCL 31 4),
  (4, oLmul 5),
  (5, oIL 2 6),
  (6, oI2l 7),
  (7, oLadd 8),
  (8, oRl post ad0 rmX3_joined.cells rmX3_joined.slots)]
set_option maxRecDepth 20000 in
theorem okX3_joined {Γ : aΓ} {post : Int64 → List aE → Prop} {ad0 : Nat → Nat} {X0 : List aE} (C : FOK Γ cX3_joined wsX3_joined RX3 3 rmX3_joined) (hQ : isQ Γ (va_Ql post (aBk (gK Γ) ad0 X0 (hsz Γ)) (aA (gK Γ) ad0 X0 (hsz Γ))) rmX3_joined ad0 X0) (hr : rTy Γ = some .long) : AllS Γ (tbX3_joined post ad0) := by
  unfold tbX3_joined
  refine al_c (pc := 0) (snd_lload_n C dX3_joined_0 rfl) ?_
  refine al_c (pc := 1) (snd_ldc2 C dX3_joined_1 (by decide +kernel)) ?_
  refine al_c (pc := 4) (snd_lmul C dX3_joined_4) ?_
  refine al_c (pc := 5) (snd_iload_n C dX3_joined_5 rfl) ?_
  refine al_c (pc := 6) (snd_i2l C dX3_joined_6) ?_
  refine al_c (pc := 7) (snd_ladd C dX3_joined_7) ?_
  refine al_c (pc := 8) (snd_Rl C hQ hr dX3_joined_8) ?_
  exact al_0
set_option maxHeartbeats 1000000 in
set_option maxRecDepth 100000 in
theorem mX3_joined : aMl yX3_joined wsX3_joined rmX3_joined tX3_joined := by
  refine aMl_of (by decide +kernel) rfl rfl (by intro av X post hT; obtain ⟨d, x, rfl, hp⟩ := hT; exact Nat.le_of_ble_eq_true rfl) ?_
  intro Γ ad av X post C hQ hr hT
  obtain ⟨d, x, rfl, hp⟩ := hT
  have OK := okX3_joined C hQ hr
  refine go OK [] 40 ?_
  exact ⟨rfl, hp⟩
/-- what the checksum takes of the cell c, counted row by row -/
def cN (w h : Nat) (wl pr : Nat → Int32) (D : Nat → Option Nat) (c : Nat) : List Int32 :=
  [if wl (k7 w c) = 0 then 0 else 1, pr (k7 w c), oI (ftc D (k7 w c)), nI (ct (fun f => (fwt D (k7 w c) (f + 1)).isSome) 6)]
abbrev tX3_joinedWithCells : aTl := fun av X post => ∃ (d0 : Int64) (k tt w h : Nat) (rm pm fd : Int32) (wl pr fe qu co pa : Nat → Int32), av = [.ref 0, .long d0] ∧ X = CW (nI k) (nI tt) rm pm (nI w) (nI h) fd wl pr fe qu co pa ∧ w ≤ 7 ∧ h ≤ 7 ∧ vt tt = true ∧ frN w h wl k ∧
  ∀ (fd2 : Int32) (fe2 qu2 : Nat → Int32), post (jc (cN w h wl pr (DH w h wl k tt)) d0 (w * h)) (CW (nI k) (nI tt) rm pm (nI w) (nI h) fd2 wl pr fe2 qu2 co pa)
abbrev rmX3_joinedWithCells : Room := { frames := 5, cells := 0, slots := 0, locals := 128 }
theorem inX3_joinedWithCells_X0 : ∀ w ∈ wsX00, w ∈ wsX3_joinedWithCells := by decide +kernel
theorem inX3_joinedWithCells_X3 : ∀ w ∈ wsX30, w ∈ wsX3_joinedWithCells := by decide +kernel
def tbX3_joinedWithCells (post : Int64 → List aE → Prop) (ad0 : Nat → Nat) : List (Nat × aO) := [(0, oAL 0 1),
  (1, oCv tX3_searchFromHere 1 (some 2) rmX3_searchFromHere.cells rmX3_searchFromHere.slots rmX3_joinedWithCells.cells rmX3_joinedWithCells.slots 4),
  (4, oLL 1 5),
  (5, oLS 3 6),
  (6, oC (0) 7),
  (7, oIS 5 9),
  (9, oIL 5 11),
  (11, oAL 0 12),
  (12, oGet 2 0 15),
  (15, oGet 0 3 18),
  (18, oIc_ge 125 21),
  (21, oC (0) 22),
  (22, oIS 6 24),
  (24, oIL 6 26),
  (26, oAL 0 27),
  (27, oGet 2 0 30),
  (30, oGet 0 2 33),
  (33, oIc_ge 119 36),
  (36, oIL 6 38),
  (38, oIL 5 40),
  (40, oCi tX0_cellAt 2 none rmX0_cellAt.cells rmX0_cellAt.slots rmX3_joinedWithCells.cells rmX3_joinedWithCells.slots 43),
  (43, oIS 7 45),
  (45, oLL 3 46),
  (46, oAL 0 47),
  (47, oGet 2 0 50),
  (50, oIL 6 52),
  (52, oIL 5 54),
  (54, oCi tX0_isFree 3 (some 0) rmX0_isFree.cells rmX0_isFree.slots rmX3_joinedWithCells.cells rmX3_joinedWithCells.slots 57),
  (57, oIf_eq 64 60),
  (60, oC (0) 61),
  (61, oGo 65),
  (64, oC (1) 65),
  (65, oCl tX3_joined 2 none rmX3_joined.cells rmX3_joined.slots rmX3_joinedWithCells.cells rmX3_joinedWithCells.slots 68),
  (68, oLS 3 69),
  (69, oLL 3 70),
  (70, oAL 0 71),
  (71, oGet 2 0 74),
  (74, oIL 6 76),
  (76, oIL 5 78),
  (78, oCi tX0_printOn 3 (some 0) rmX0_printOn.cells rmX0_printOn.slots rmX3_joinedWithCells.cells rmX3_joinedWithCells.slots 81),
  (81, oCl tX3_joined 2 none rmX3_joined.cells rmX3_joined.slots rmX3_joinedWithCells.cells rmX3_joinedWithCells.slots 84),
  (84, oLS 3 85),
  (85, oLL 3 86),
  (86, oAL 0 87),
  (87, oGet 2 1 90),
  (90, oIL 7 92),
  (92, oCi tX1_fewestTo 2 (some 1) rmX1_fewestTo.cells rmX1_fewestTo.slots rmX3_joinedWithCells.cells rmX3_joinedWithCells.slots 95),
  (95, oCl tX3_joined 2 none rmX3_joined.cells rmX3_joined.slots rmX3_joinedWithCells.cells rmX3_joinedWithCells.slots 98),
  (98, oLS 3 99),
  (99, oLL 3 100),
  (100, oAL 0 101),
  (101, oGet 2 1 104),
  (104, oIL 7 106),
  (106, oCi tX1_countTops 2 (some 1) rmX1_countTops.cells rmX1_countTops.slots rmX3_joinedWithCells.cells rmX3_joinedWithCells.slots 109),
  (109, oCl tX3_joined 2 none rmX3_joined.cells rmX3_joined.slots rmX3_joinedWithCells.cells rmX3_joinedWithCells.slots 112),
  (112, oLS 3 113),
  (113, oInc 6 1 116),
  (116, oGo 24),
  (119, oInc 5 1 122),
  (122, oGo 9),
  (125, oLL 3 126),
  (126, oRl post ad0 rmX3_joinedWithCells.cells rmX3_joinedWithCells.slots)]
set_option maxRecDepth 20000 in
theorem okX3_joinedWithCells {Γ : aΓ} {post : Int64 → List aE → Prop} {ad0 : Nat → Nat} {X0 : List aE} (C : FOK Γ cX3_joinedWithCells wsX3_joinedWithCells RX3 8 rmX3_joinedWithCells) (hQ : isQ Γ (va_Ql post (aBk (gK Γ) ad0 X0 (hsz Γ)) (aA (gK Γ) ad0 X0 (hsz Γ))) rmX3_joinedWithCells ad0 X0) (hr : rTy Γ = some .long) : AllS Γ (tbX3_joinedWithCells post ad0) := by
  unfold tbX3_joinedWithCells
  refine al_c (pc := 0) (snd_aload_n C dX3_joinedWithCells_0 rfl) ?_
  refine al_c (pc := 1) (snd_Cv C (site_V C rfl dX3_joinedWithCells_1 gX3_joinedWithCells_X3_searchFromHere rfl rfl rfl ⟨rfl, by decide +kernel, by decide +kernel, by decide +kernel⟩ ⟨by decide, by decide⟩) mX3_searchFromHere) ?_
  refine al_c (pc := 4) (snd_lload_n C dX3_joinedWithCells_4 rfl) ?_
  refine al_c (pc := 5) (snd_lstore_n C dX3_joinedWithCells_5 rfl (by decide)) ?_
  refine al_c (pc := 6) (snd_iconst C dX3_joinedWithCells_6 (by decide)) ?_
  refine al_c (pc := 7) (snd_istore C dX3_joinedWithCells_7 (by decide)) ?_
  refine al_c (pc := 9) (snd_iload C dX3_joinedWithCells_9) ?_
  refine al_c (pc := 11) (snd_aload_n C dX3_joinedWithCells_11 rfl) ?_
  refine al_c (pc := 12) (snd_get C dX3_joinedWithCells_12 (ci := 2) (kf := 0) rfl (by decide) inX3_joinedWithCells_X3 rfl (by decide +kernel)) ?_
  refine al_c (pc := 15) (snd_getN C dX3_joinedWithCells_15 (ci := 0) (kf := 3) rfl (by decide) inX3_joinedWithCells_X0 rfl rfl rfl (by decide +kernel)) ?_
  refine al_c (pc := 18) (snd_icmp_ge C dX3_joinedWithCells_18 (by decide)) ?_
  refine al_c (pc := 21) (snd_iconst C dX3_joinedWithCells_21 (by decide)) ?_
  refine al_c (pc := 22) (snd_istore C dX3_joinedWithCells_22 (by decide)) ?_
  refine al_c (pc := 24) (snd_iload C dX3_joinedWithCells_24) ?_
  refine al_c (pc := 26) (snd_aload_n C dX3_joinedWithCells_26 rfl) ?_
  refine al_c (pc := 27) (snd_get C dX3_joinedWithCells_27 (ci := 2) (kf := 0) rfl (by decide) inX3_joinedWithCells_X3 rfl (by decide +kernel)) ?_
  refine al_c (pc := 30) (snd_getN C dX3_joinedWithCells_30 (ci := 0) (kf := 2) rfl (by decide) inX3_joinedWithCells_X0 rfl rfl rfl (by decide +kernel)) ?_
  refine al_c (pc := 33) (snd_icmp_ge C dX3_joinedWithCells_33 (by decide)) ?_
  refine al_c (pc := 36) (snd_iload C dX3_joinedWithCells_36) ?_
  refine al_c (pc := 38) (snd_iload C dX3_joinedWithCells_38) ?_
  refine al_c (pc := 40) (snd_Ci C (site_SN C dX3_joinedWithCells_40 gX3_joinedWithCells_X0_cellAt_n48 rfl rfl rfl (by decide +kernel) (by decide +kernel) (by decide +kernel) ⟨by decide +kernel, by decide +kernel, by decide +kernel⟩ ⟨by decide, by decide⟩) mX0_cellAt) ?_
  refine al_c (pc := 43) (snd_istore C dX3_joinedWithCells_43 (by decide)) ?_
  refine al_c (pc := 45) (snd_lload_n C dX3_joinedWithCells_45 rfl) ?_
  refine al_c (pc := 46) (snd_aload_n C dX3_joinedWithCells_46 rfl) ?_
  refine al_c (pc := 47) (snd_get C dX3_joinedWithCells_47 (ci := 2) (kf := 0) rfl (by decide) inX3_joinedWithCells_X3 rfl (by decide +kernel)) ?_
  refine al_c (pc := 50) (snd_iload C dX3_joinedWithCells_50) ?_
  refine al_c (pc := 52) (snd_iload C dX3_joinedWithCells_52) ?_
  refine al_c (pc := 54) (snd_Ci C (site_VN C rfl dX3_joinedWithCells_54 gX3_joinedWithCells_X0_isFree_n77 rfl rfl rfl (by decide +kernel) (by decide +kernel) (by decide +kernel) (by decide +kernel) ⟨by decide +kernel, by decide +kernel, by decide +kernel⟩ ⟨by decide, by decide⟩) mX0_isFree) ?_
  refine al_c (pc := 57) (snd_if_eq C dX3_joinedWithCells_57 (by decide)) ?_
  refine al_c (pc := 60) (snd_iconst C dX3_joinedWithCells_60 (by decide)) ?_
  refine al_c (pc := 61) (snd_goto C dX3_joinedWithCells_61 (by decide)) ?_
  refine al_c (pc := 64) (snd_iconst C dX3_joinedWithCells_64 (by decide)) ?_
  refine al_c (pc := 65) (snd_Cl C (site_S C dX3_joinedWithCells_65 gX3_joinedWithCells_X3_joined rfl rfl rfl ⟨by decide +kernel, by decide +kernel, by decide +kernel⟩ ⟨by decide, by decide⟩) mX3_joined) ?_
  refine al_c (pc := 68) (snd_lstore_n C dX3_joinedWithCells_68 rfl (by decide)) ?_
  refine al_c (pc := 69) (snd_lload_n C dX3_joinedWithCells_69 rfl) ?_
  refine al_c (pc := 70) (snd_aload_n C dX3_joinedWithCells_70 rfl) ?_
  refine al_c (pc := 71) (snd_get C dX3_joinedWithCells_71 (ci := 2) (kf := 0) rfl (by decide) inX3_joinedWithCells_X3 rfl (by decide +kernel)) ?_
  refine al_c (pc := 74) (snd_iload C dX3_joinedWithCells_74) ?_
  refine al_c (pc := 76) (snd_iload C dX3_joinedWithCells_76) ?_
  refine al_c (pc := 78) (snd_Ci C (site_VN C rfl dX3_joinedWithCells_78 gX3_joinedWithCells_X0_printOn_n127 rfl rfl rfl (by decide +kernel) (by decide +kernel) (by decide +kernel) (by decide +kernel) ⟨by decide +kernel, by decide +kernel, by decide +kernel⟩ ⟨by decide, by decide⟩) mX0_printOn) ?_
  refine al_c (pc := 81) (snd_Cl C (site_S C dX3_joinedWithCells_81 gX3_joinedWithCells_X3_joined rfl rfl rfl ⟨by decide +kernel, by decide +kernel, by decide +kernel⟩ ⟨by decide, by decide⟩) mX3_joined) ?_
  refine al_c (pc := 84) (snd_lstore_n C dX3_joinedWithCells_84 rfl (by decide)) ?_
  refine al_c (pc := 85) (snd_lload_n C dX3_joinedWithCells_85 rfl) ?_
  refine al_c (pc := 86) (snd_aload_n C dX3_joinedWithCells_86 rfl) ?_
  refine al_c (pc := 87) (snd_get C dX3_joinedWithCells_87 (ci := 2) (kf := 1) rfl (by decide) inX3_joinedWithCells_X3 rfl (by decide +kernel)) ?_
  refine al_c (pc := 90) (snd_iload C dX3_joinedWithCells_90) ?_
  refine al_c (pc := 92) (snd_Ci C (site_VN C rfl dX3_joinedWithCells_92 gX3_joinedWithCells_X1_fewestTo_n159 rfl rfl rfl (by decide +kernel) (by decide +kernel) (by decide +kernel) (by decide +kernel) ⟨by decide +kernel, by decide +kernel, by decide +kernel⟩ ⟨by decide, by decide⟩) mX1_fewestTo) ?_
  refine al_c (pc := 95) (snd_Cl C (site_S C dX3_joinedWithCells_95 gX3_joinedWithCells_X3_joined rfl rfl rfl ⟨by decide +kernel, by decide +kernel, by decide +kernel⟩ ⟨by decide, by decide⟩) mX3_joined) ?_
  refine al_c (pc := 98) (snd_lstore_n C dX3_joinedWithCells_98 rfl (by decide)) ?_
  refine al_c (pc := 99) (snd_lload_n C dX3_joinedWithCells_99 rfl) ?_
  refine al_c (pc := 100) (snd_aload_n C dX3_joinedWithCells_100 rfl) ?_
  refine al_c (pc := 101) (snd_get C dX3_joinedWithCells_101 (ci := 2) (kf := 1) rfl (by decide) inX3_joinedWithCells_X3 rfl (by decide +kernel)) ?_
  refine al_c (pc := 104) (snd_iload C dX3_joinedWithCells_104) ?_
  refine al_c (pc := 106) (snd_Ci C (site_VN C rfl dX3_joinedWithCells_106 gX3_joinedWithCells_X1_countTops_n174 rfl rfl rfl (by decide +kernel) (by decide +kernel) (by decide +kernel) (by decide +kernel) ⟨by decide +kernel, by decide +kernel, by decide +kernel⟩ ⟨by decide, by decide⟩) mX1_countTops) ?_
  refine al_c (pc := 109) (snd_Cl C (site_S C dX3_joinedWithCells_109 gX3_joinedWithCells_X3_joined rfl rfl rfl ⟨by decide +kernel, by decide +kernel, by decide +kernel⟩ ⟨by decide, by decide⟩) mX3_joined) ?_
  refine al_c (pc := 112) (snd_lstore_n C dX3_joinedWithCells_112 rfl (by decide)) ?_
  refine al_c (pc := 113) (snd_iinc C dX3_joinedWithCells_113 (by decide) (by decide)) ?_
  refine al_c (pc := 116) (snd_goto C dX3_joinedWithCells_116 (by decide)) ?_
  refine al_c (pc := 119) (snd_iinc C dX3_joinedWithCells_119 (by decide) (by decide)) ?_
  refine al_c (pc := 122) (snd_goto C dX3_joinedWithCells_122 (by decide)) ?_
  refine al_c (pc := 125) (snd_lload_n C dX3_joinedWithCells_125 rfl) ?_
  refine al_c (pc := 126) (snd_Rl C hQ hr dX3_joinedWithCells_126) ?_
  exact al_0
set_option maxHeartbeats 1000000 in
set_option maxRecDepth 100000 in
theorem mX3_joinedWithCells : aMl yX3_joinedWithCells wsX3_joinedWithCells rmX3_joinedWithCells tX3_joinedWithCells := by
  refine aMl_of (by decide +kernel) rfl rfl (by intro av X post hT; obtain ⟨d0, k, tt, w, h, rm, pm, fd, wl, pr, fe, qu, co, pa, rfl, rfl, hw, hh, hv, hf, hp⟩ := hT; exact Nat.le_of_ble_eq_true rfl) ?_
  intro Γ ad av X post C hQ hr hT
  obtain ⟨d0, k, tt, w, h, rm, pm, fd, wl, pr, fe, qu, co, pa, rfl, rfl, hw, hh, hv, hf, hp⟩ := hT
  have OK := okX3_joinedWithCells C hQ hr
  have hb := bS_one hw hh hv hf
  refine go OK [9] 80 ?_
  refine ⟨_, _, _, _, _, _, _, _, _, _, _, _, _, rfl, rfl, hw, hh, hv, hf, fun fd2 fe2 qu2 hR => ?_⟩
  have hD : DD (DH w h wl k tt) fe2 := DD_of hb hR
  have hp := hp fd2 fe2 qu2
  obtain ⟨D, hDe⟩ : ∃ D, D = DH w h wl k tt := ⟨_, rfl⟩
  rw [← hDe] at hD hp
  have outer : ∀ (n j : Nat), j ≤ h → h - j < n → FG Γ 9 ad 0 0 [(5, .int (nI j)), (3, .long (jc (cN w h wl pr D) d0 (w * j))), (0, .ref 0), (1, .long d0)] [] (CW (nI k) (nI tt) rm pm (nI w) (nI h) fd2 wl pr fe2 qu2 co pa) := by
    intro n
    induction n with
    | zero => intro j _ h; omega
    | succ n ih =>
      intro j hj hn
      refine go OK [9, 24] 80 ?_
      refine And.intro (fun q => ?_) (fun q => ?_)
      · have q := (leN (by omega) (by omega)).mp q
        have : j = h := by omega
        subst this
        exact ⟨rfl, hp⟩
      have hjlt : j < h := by
        rcases Nat.lt_or_ge j h with z | z
        · exact z
        · exact absurd ((leN (by omega) (by omega)).mpr z) q
      have inner : ∀ (n2 i : Nat), i ≤ w → w - i < n2 → FG Γ 24 ad 0 0 [(6, .int (nI i)), (5, .int (nI j)), (3, .long (jc (cN w h wl pr D) d0 (w * j + i))), (0, .ref 0), (1, .long d0)] [] (CW (nI k) (nI tt) rm pm (nI w) (nI h) fd2 wl pr fe2 qu2 co pa) := by
        intro n2
        induction n2 with
        | zero => intro i _ h; omega
        | succ n2 ih2 =>
          intro i hi hn2
          refine go OK [9, 24, 65] 80 ?_
          refine And.intro (fun q => ?_) (fun q => ?_)
          · have q := (leN (by omega) (by omega)).mp q
            have : i = w := by omega
            subst this
            have key := ih (j + 1) (by omega) (by omega)
            rw [← nI_p1 j, Nat.mul_succ] at key
            exact FG_sub [0, 2, 3, 4] rfl key
          · have hlt : i < w := by
              rcases Nat.lt_or_ge i w with z | z
              · exact z
              · exact absurd ((leN (by omega) (by omega)).mpr z) q
            have key := ih2 (i + 1) (by omega) (by omega)
            rw [← nI_p1 i, show w * j + (i + 1) = w * j + i + 1 by omega] at key
            have e4 : jc (cN w h wl pr D) d0 (w * j + i + 1) = jn (jn (jn (jn (jc (cN w h wl pr D) d0 (w * j + i)) (if wl (j * 7 + i) = 0 then 0 else 1)) (pr (j * 7 + i))) (oI (ftc D (j * 7 + i)))) (nI (ct (fun f => (fwt D (j * 7 + i) (f + 1)).isSome) 6)) := by
              show jl _ (cN _ _ _ _ _ (w * j + i)) = _
              unfold cN
              rw [k7_at hlt]
              rfl
            rw [e4] at key
            have tail : ∀ z : Int32, z = (if wl (j * 7 + i) = 0 then 0 else 1) → FG Γ 65 ad 0 0 [(7, .int (nI j * 7 + nI i)), (6, .int (nI i)), (5, .int (nI j)), (3, .long (jc (cN w h wl pr D) d0 (w * j + i))), (0, .ref 0), (1, .long d0)] [.int z, .long (jc (cN w h wl pr D) d0 (w * j + i))] (CW (nI k) (nI tt) rm pm (nI w) (nI h) fd2 wl pr fe2 qu2 co pa) := by
              intro z hz
              refine go OK [9, 24] 80 ?_
              refine ⟨_, _, rfl, ?_⟩
              refine ⟨_, _, i, j, _, _, _, _, _, _, _, _, _, _, _, _, _, rfl, rfl, rfl, rfl, hw, hh, hlt, hjlt, ?_⟩
              refine ⟨_, _, rfl, ?_⟩
              refine ⟨_, j * 7 + i, D, _, _, _, _, _, _, _, _, _, _, _, _, _, rfl, cellI i j, rfl, by omega, hD, ?_⟩
              refine ⟨_, _, rfl, ?_⟩
              refine ⟨_, j * 7 + i, D, _, _, _, _, _, _, _, _, _, _, _, _, _, rfl, cellI i j, rfl, by omega, hD, ?_⟩
              refine ⟨_, _, rfl, ?_⟩
              rw [← hz] at key
              exact FG_sub [0, 3, 1, 4, 5] rfl key
            refine ⟨_, _, rfl, ?_⟩
            refine ⟨_, _, _, _, _, _, _, _, _, _, _, _, _, _, _, rfl, rfl, hw, hh, fun q2 => ?_, fun q2 => ?_⟩
            · refine And.intro (fun q => absurd q (by decide)) (fun _ => ?_)
              exact tail 0 (by rw [if_pos ((frB_nI (by omega) (by omega) hw hh).mp q2).2.2])
            · refine And.intro (fun _ => ?_) (fun q => absurd rfl q)
              exact tail 1 (by rw [if_neg (fun z => q2 ((frB_nI (by omega) (by omega) hw hh).mpr ⟨hlt, hjlt, z⟩))])
      exact FG_sub [0, 1, 2, 3, 4] rfl (inner (w + 1) 0 (by omega) (by omega))
  exact outer (h + 1) 0 (by omega) (by omega)
/-- the numbers ahead of the cells -/
def dgH (k tt w h wn : Nat) (rm pm : Int32) : List Int32 := [nI w, nI h, nI wn, rm, pm, nI (k % 7), nI (k / 7), nI (tt / 6 + 1), nI (7 - (tt / 6 + 1)), nI (faN tt 0), nI (faN tt 1), nI (faN tt 2), nI (faN tt 3)]
def jf (co pa : Nat → Int32) (d : Int64) : Nat → Int64
  | 0 => d
  | n + 1 => jn (jn (jf co pa d n) (co (n + 1))) (pa (n + 1))
abbrev tX3_digest : aTl := fun av X post => ∃ (k tt w h : Nat) (rm pm fd : Int32) (wl pr fe qu co pa : Nat → Int32), av = [.ref 0] ∧ X = CW (nI k) (nI tt) rm pm (nI w) (nI h) fd wl pr fe qu co pa ∧ w ≤ 7 ∧ h ≤ 7 ∧ vt tt = true ∧ frN w h wl k ∧
  ∀ (fd2 : Int32) (fe2 qu2 : Nat → Int32), post (jc (cN w h wl pr (DH w h wl k tt)) (jf co pa (jl 1901 (dgH k tt w h (ct (fun c => decide (¬ wl c = 0)) 49) rm pm)) 6) (w * h)) (CW (nI k) (nI tt) rm pm (nI w) (nI h) fd2 wl pr fe2 qu2 co pa)
abbrev rmX3_digest : Room := { frames := 6, cells := 0, slots := 0, locals := 155 }
theorem inX3_digest_X3 : ∀ w ∈ wsX30, w ∈ wsX3_digest := by decide +kernel
def tbX3_digest (post : Int64 → List aE → Prop) (ad0 : Nat → Nat) : List (Nat × aO) := [(0, oCL 1901 3),
  (3, oLS 1 4),
  (4, oLL 1 5),
  (5, oAL 0 6),
  (6, oCi tX3_width 1 (some 2) rmX3_width.cells rmX3_width.slots rmX3_digest.cells rmX3_digest.slots 9),
  (9, oCl tX3_joined 2 none rmX3_joined.cells rmX3_joined.slots rmX3_digest.cells rmX3_digest.slots 12),
  (12, oLS 1 13),
  (13, oLL 1 14),
  (14, oAL 0 15),
  (15, oCi tX3_height 1 (some 2) rmX3_height.cells rmX3_height.slots rmX3_digest.cells rmX3_digest.slots 18),
  (18, oCl tX3_joined 2 none rmX3_joined.cells rmX3_joined.slots rmX3_digest.cells rmX3_digest.slots 21),
  (21, oLS 1 22),
  (22, oLL 1 23),
  (23, oAL 0 24),
  (24, oCi tX3_walls 1 (some 2) rmX3_walls.cells rmX3_walls.slots rmX3_digest.cells rmX3_digest.slots 27),
  (27, oCl tX3_joined 2 none rmX3_joined.cells rmX3_joined.slots rmX3_digest.cells rmX3_digest.slots 30),
  (30, oLS 1 31),
  (31, oLL 1 32),
  (32, oAL 0 33),
  (33, oCi tX3_rolls 1 (some 2) rmX3_rolls.cells rmX3_rolls.slots rmX3_digest.cells rmX3_digest.slots 36),
  (36, oCl tX3_joined 2 none rmX3_joined.cells rmX3_joined.slots rmX3_digest.cells rmX3_digest.slots 39),
  (39, oLS 1 40),
  (40, oLL 1 41),
  (41, oAL 0 42),
  (42, oCi tX3_prints 1 (some 2) rmX3_prints.cells rmX3_prints.slots rmX3_digest.cells rmX3_digest.slots 45),
  (45, oCl tX3_joined 2 none rmX3_joined.cells rmX3_joined.slots rmX3_digest.cells rmX3_digest.slots 48),
  (48, oLS 1 49),
  (49, oLL 1 50),
  (50, oAL 0 51),
  (51, oCi tX3_column 1 (some 2) rmX3_column.cells rmX3_column.slots rmX3_digest.cells rmX3_digest.slots 54),
  (54, oCl tX3_joined 2 none rmX3_joined.cells rmX3_joined.slots rmX3_digest.cells rmX3_digest.slots 57),
  (57, oLS 1 58),
  (58, oLL 1 59),
  (59, oAL 0 60),
  (60, oCi tX3_row 1 (some 2) rmX3_row.cells rmX3_row.slots rmX3_digest.cells rmX3_digest.slots 63),
  (63, oCl tX3_joined 2 none rmX3_joined.cells rmX3_joined.slots rmX3_digest.cells rmX3_digest.slots 66),
  (66, oLS 1 67),
  (67, oLL 1 68),
  (68, oAL 0 69),
  (69, oCi tX3_top 1 (some 2) rmX3_top.cells rmX3_top.slots rmX3_digest.cells rmX3_digest.slots 72),
  (72, oCl tX3_joined 2 none rmX3_joined.cells rmX3_joined.slots rmX3_digest.cells rmX3_digest.slots 75),
  (75, oLS 1 76),
  (76, oLL 1 77),
  (77, oAL 0 78),
  (78, oCi tX3_bottom 1 (some 2) rmX3_bottom.cells rmX3_bottom.slots rmX3_digest.cells rmX3_digest.slots 81),
  (81, oCl tX3_joined 2 none rmX3_joined.cells rmX3_joined.slots rmX3_digest.cells rmX3_digest.slots 84),
  (84, oLS 1 85),
  (85, oC (0) 86),
  (86, oIS 3 87),
  (87, oIL 3 88),
  (88, oC (4) 89),
  (89, oIc_ge 111 92),
  (92, oLL 1 93),
  (93, oAL 0 94),
  (94, oGet 2 5 97),
  (97, oIL 3 98),
  (98, oCi tX2_faceOn 2 none rmX2_faceOn.cells rmX2_faceOn.slots rmX3_digest.cells rmX3_digest.slots 101),
  (101, oCl tX3_joined 2 none rmX3_joined.cells rmX3_joined.slots rmX3_digest.cells rmX3_digest.slots 104),
  (104, oLS 1 105),
  (105, oInc 3 1 108),
  (108, oGo 87),
  (111, oC (1) 112),
  (112, oIS 3 113),
  (113, oIL 3 114),
  (114, oC (6) 116),
  (116, oIc_gt 147 119),
  (119, oLL 1 120),
  (120, oAL 0 121),
  (121, oGet 2 2 124),
  (124, oIL 3 125),
  (125, oIald 126),
  (126, oCl tX3_joined 2 none rmX3_joined.cells rmX3_joined.slots rmX3_digest.cells rmX3_digest.slots 129),
  (129, oLS 1 130),
  (130, oLL 1 131),
  (131, oAL 0 132),
  (132, oGet 2 3 135),
  (135, oIL 3 136),
  (136, oIald 137),
  (137, oCl tX3_joined 2 none rmX3_joined.cells rmX3_joined.slots rmX3_digest.cells rmX3_digest.slots 140),
  (140, oLS 1 141),
  (141, oInc 3 1 144),
  (144, oGo 113),
  (147, oAL 0 148),
  (148, oLL 1 149),
  (149, oCl tX3_joinedWithCells 2 (some 2) rmX3_joinedWithCells.cells rmX3_joinedWithCells.slots rmX3_digest.cells rmX3_digest.slots 152),
  (152, oRl post ad0 rmX3_digest.cells rmX3_digest.slots)]
set_option maxRecDepth 20000 in
theorem okX3_digest {Γ : aΓ} {post : Int64 → List aE → Prop} {ad0 : Nat → Nat} {X0 : List aE} (C : FOK Γ cX3_digest wsX3_digest RX3 4 rmX3_digest) (hQ : isQ Γ (va_Ql post (aBk (gK Γ) ad0 X0 (hsz Γ)) (aA (gK Γ) ad0 X0 (hsz Γ))) rmX3_digest ad0 X0) (hr : rTy Γ = some .long) : AllS Γ (tbX3_digest post ad0) := by
  unfold tbX3_digest
  refine al_c (pc := 0) (snd_ldc2 C dX3_digest_0 (by decide +kernel)) ?_
  refine al_c (pc := 3) (snd_lstore_n C dX3_digest_3 rfl (by decide)) ?_
  refine al_c (pc := 4) (snd_lload_n C dX3_digest_4 rfl) ?_
  refine al_c (pc := 5) (snd_aload_n C dX3_digest_5 rfl) ?_
  refine al_c (pc := 6) (snd_Ci C (site_V C rfl dX3_digest_6 gX3_digest_X3_width rfl rfl rfl ⟨rfl, by decide +kernel, by decide +kernel, by decide +kernel⟩ ⟨by decide, by decide⟩) mX3_width) ?_
  refine al_c (pc := 9) (snd_Cl C (site_S C dX3_digest_9 gX3_digest_X3_joined rfl rfl rfl ⟨by decide +kernel, by decide +kernel, by decide +kernel⟩ ⟨by decide, by decide⟩) mX3_joined) ?_
  refine al_c (pc := 12) (snd_lstore_n C dX3_digest_12 rfl (by decide)) ?_
  refine al_c (pc := 13) (snd_lload_n C dX3_digest_13 rfl) ?_
  refine al_c (pc := 14) (snd_aload_n C dX3_digest_14 rfl) ?_
  refine al_c (pc := 15) (snd_Ci C (site_V C rfl dX3_digest_15 gX3_digest_X3_height rfl rfl rfl ⟨rfl, by decide +kernel, by decide +kernel, by decide +kernel⟩ ⟨by decide, by decide⟩) mX3_height) ?_
  refine al_c (pc := 18) (snd_Cl C (site_S C dX3_digest_18 gX3_digest_X3_joined rfl rfl rfl ⟨by decide +kernel, by decide +kernel, by decide +kernel⟩ ⟨by decide, by decide⟩) mX3_joined) ?_
  refine al_c (pc := 21) (snd_lstore_n C dX3_digest_21 rfl (by decide)) ?_
  refine al_c (pc := 22) (snd_lload_n C dX3_digest_22 rfl) ?_
  refine al_c (pc := 23) (snd_aload_n C dX3_digest_23 rfl) ?_
  refine al_c (pc := 24) (snd_Ci C (site_V C rfl dX3_digest_24 gX3_digest_X3_walls rfl rfl rfl ⟨rfl, by decide +kernel, by decide +kernel, by decide +kernel⟩ ⟨by decide, by decide⟩) mX3_walls) ?_
  refine al_c (pc := 27) (snd_Cl C (site_S C dX3_digest_27 gX3_digest_X3_joined rfl rfl rfl ⟨by decide +kernel, by decide +kernel, by decide +kernel⟩ ⟨by decide, by decide⟩) mX3_joined) ?_
  refine al_c (pc := 30) (snd_lstore_n C dX3_digest_30 rfl (by decide)) ?_
  refine al_c (pc := 31) (snd_lload_n C dX3_digest_31 rfl) ?_
  refine al_c (pc := 32) (snd_aload_n C dX3_digest_32 rfl) ?_
  refine al_c (pc := 33) (snd_Ci C (site_V C rfl dX3_digest_33 gX3_digest_X3_rolls rfl rfl rfl ⟨rfl, by decide +kernel, by decide +kernel, by decide +kernel⟩ ⟨by decide, by decide⟩) mX3_rolls) ?_
  refine al_c (pc := 36) (snd_Cl C (site_S C dX3_digest_36 gX3_digest_X3_joined rfl rfl rfl ⟨by decide +kernel, by decide +kernel, by decide +kernel⟩ ⟨by decide, by decide⟩) mX3_joined) ?_
  refine al_c (pc := 39) (snd_lstore_n C dX3_digest_39 rfl (by decide)) ?_
  refine al_c (pc := 40) (snd_lload_n C dX3_digest_40 rfl) ?_
  refine al_c (pc := 41) (snd_aload_n C dX3_digest_41 rfl) ?_
  refine al_c (pc := 42) (snd_Ci C (site_V C rfl dX3_digest_42 gX3_digest_X3_prints rfl rfl rfl ⟨rfl, by decide +kernel, by decide +kernel, by decide +kernel⟩ ⟨by decide, by decide⟩) mX3_prints) ?_
  refine al_c (pc := 45) (snd_Cl C (site_S C dX3_digest_45 gX3_digest_X3_joined rfl rfl rfl ⟨by decide +kernel, by decide +kernel, by decide +kernel⟩ ⟨by decide, by decide⟩) mX3_joined) ?_
  refine al_c (pc := 48) (snd_lstore_n C dX3_digest_48 rfl (by decide)) ?_
  refine al_c (pc := 49) (snd_lload_n C dX3_digest_49 rfl) ?_
  refine al_c (pc := 50) (snd_aload_n C dX3_digest_50 rfl) ?_
  refine al_c (pc := 51) (snd_Ci C (site_V C rfl dX3_digest_51 gX3_digest_X3_column rfl rfl rfl ⟨rfl, by decide +kernel, by decide +kernel, by decide +kernel⟩ ⟨by decide, by decide⟩) mX3_column) ?_
  refine al_c (pc := 54) (snd_Cl C (site_S C dX3_digest_54 gX3_digest_X3_joined rfl rfl rfl ⟨by decide +kernel, by decide +kernel, by decide +kernel⟩ ⟨by decide, by decide⟩) mX3_joined) ?_
  refine al_c (pc := 57) (snd_lstore_n C dX3_digest_57 rfl (by decide)) ?_
  refine al_c (pc := 58) (snd_lload_n C dX3_digest_58 rfl) ?_
  refine al_c (pc := 59) (snd_aload_n C dX3_digest_59 rfl) ?_
  refine al_c (pc := 60) (snd_Ci C (site_V C rfl dX3_digest_60 gX3_digest_X3_row rfl rfl rfl ⟨rfl, by decide +kernel, by decide +kernel, by decide +kernel⟩ ⟨by decide, by decide⟩) mX3_row) ?_
  refine al_c (pc := 63) (snd_Cl C (site_S C dX3_digest_63 gX3_digest_X3_joined rfl rfl rfl ⟨by decide +kernel, by decide +kernel, by decide +kernel⟩ ⟨by decide, by decide⟩) mX3_joined) ?_
  refine al_c (pc := 66) (snd_lstore_n C dX3_digest_66 rfl (by decide)) ?_
  refine al_c (pc := 67) (snd_lload_n C dX3_digest_67 rfl) ?_
  refine al_c (pc := 68) (snd_aload_n C dX3_digest_68 rfl) ?_
  refine al_c (pc := 69) (snd_Ci C (site_V C rfl dX3_digest_69 gX3_digest_X3_top rfl rfl rfl ⟨rfl, by decide +kernel, by decide +kernel, by decide +kernel⟩ ⟨by decide, by decide⟩) mX3_top) ?_
  refine al_c (pc := 72) (snd_Cl C (site_S C dX3_digest_72 gX3_digest_X3_joined rfl rfl rfl ⟨by decide +kernel, by decide +kernel, by decide +kernel⟩ ⟨by decide, by decide⟩) mX3_joined) ?_
  refine al_c (pc := 75) (snd_lstore_n C dX3_digest_75 rfl (by decide)) ?_
  refine al_c (pc := 76) (snd_lload_n C dX3_digest_76 rfl) ?_
  refine al_c (pc := 77) (snd_aload_n C dX3_digest_77 rfl) ?_
  refine al_c (pc := 78) (snd_Ci C (site_V C rfl dX3_digest_78 gX3_digest_X3_bottom rfl rfl rfl ⟨rfl, by decide +kernel, by decide +kernel, by decide +kernel⟩ ⟨by decide, by decide⟩) mX3_bottom) ?_
  refine al_c (pc := 81) (snd_Cl C (site_S C dX3_digest_81 gX3_digest_X3_joined rfl rfl rfl ⟨by decide +kernel, by decide +kernel, by decide +kernel⟩ ⟨by decide, by decide⟩) mX3_joined) ?_
  refine al_c (pc := 84) (snd_lstore_n C dX3_digest_84 rfl (by decide)) ?_
  refine al_c (pc := 85) (snd_iconst C dX3_digest_85 (by decide)) ?_
  refine al_c (pc := 86) (snd_istore_n C dX3_digest_86 rfl (by decide)) ?_
  refine al_c (pc := 87) (snd_iload_n C dX3_digest_87 rfl) ?_
  refine al_c (pc := 88) (snd_iconst C dX3_digest_88 (by decide)) ?_
  refine al_c (pc := 89) (snd_icmp_ge C dX3_digest_89 (by decide)) ?_
  refine al_c (pc := 92) (snd_lload_n C dX3_digest_92 rfl) ?_
  refine al_c (pc := 93) (snd_aload_n C dX3_digest_93 rfl) ?_
  refine al_c (pc := 94) (snd_get C dX3_digest_94 (ci := 2) (kf := 5) rfl (by decide) inX3_digest_X3 rfl (by decide +kernel)) ?_
  refine al_c (pc := 97) (snd_iload_n C dX3_digest_97 rfl) ?_
  refine al_c (pc := 98) (snd_Ci C (site_SN C dX3_digest_98 gX3_digest_X2_faceOn_n124 rfl rfl rfl (by decide +kernel) (by decide +kernel) (by decide +kernel) ⟨by decide +kernel, by decide +kernel, by decide +kernel⟩ ⟨by decide, by decide⟩) mX2_faceOn) ?_
  refine al_c (pc := 101) (snd_Cl C (site_S C dX3_digest_101 gX3_digest_X3_joined rfl rfl rfl ⟨by decide +kernel, by decide +kernel, by decide +kernel⟩ ⟨by decide, by decide⟩) mX3_joined) ?_
  refine al_c (pc := 104) (snd_lstore_n C dX3_digest_104 rfl (by decide)) ?_
  refine al_c (pc := 105) (snd_iinc C dX3_digest_105 (by decide) (by decide)) ?_
  refine al_c (pc := 108) (snd_goto C dX3_digest_108 (by decide)) ?_
  refine al_c (pc := 111) (snd_iconst C dX3_digest_111 (by decide)) ?_
  refine al_c (pc := 112) (snd_istore_n C dX3_digest_112 rfl (by decide)) ?_
  refine al_c (pc := 113) (snd_iload_n C dX3_digest_113 rfl) ?_
  refine al_c (pc := 114) (snd_bipush C dX3_digest_114 (by decide)) ?_
  refine al_c (pc := 116) (snd_icmp_gt C dX3_digest_116 (by decide)) ?_
  refine al_c (pc := 119) (snd_lload_n C dX3_digest_119 rfl) ?_
  refine al_c (pc := 120) (snd_aload_n C dX3_digest_120 rfl) ?_
  refine al_c (pc := 121) (snd_get C dX3_digest_121 (ci := 2) (kf := 2) rfl (by decide) inX3_digest_X3 rfl (by decide +kernel)) ?_
  refine al_c (pc := 124) (snd_iload_n C dX3_digest_124 rfl) ?_
  refine al_c (pc := 125) (snd_iaload C dX3_digest_125) ?_
  refine al_c (pc := 126) (snd_Cl C (site_S C dX3_digest_126 gX3_digest_X3_joined rfl rfl rfl ⟨by decide +kernel, by decide +kernel, by decide +kernel⟩ ⟨by decide, by decide⟩) mX3_joined) ?_
  refine al_c (pc := 129) (snd_lstore_n C dX3_digest_129 rfl (by decide)) ?_
  refine al_c (pc := 130) (snd_lload_n C dX3_digest_130 rfl) ?_
  refine al_c (pc := 131) (snd_aload_n C dX3_digest_131 rfl) ?_
  refine al_c (pc := 132) (snd_get C dX3_digest_132 (ci := 2) (kf := 3) rfl (by decide) inX3_digest_X3 rfl (by decide +kernel)) ?_
  refine al_c (pc := 135) (snd_iload_n C dX3_digest_135 rfl) ?_
  refine al_c (pc := 136) (snd_iaload C dX3_digest_136) ?_
  refine al_c (pc := 137) (snd_Cl C (site_S C dX3_digest_137 gX3_digest_X3_joined rfl rfl rfl ⟨by decide +kernel, by decide +kernel, by decide +kernel⟩ ⟨by decide, by decide⟩) mX3_joined) ?_
  refine al_c (pc := 140) (snd_lstore_n C dX3_digest_140 rfl (by decide)) ?_
  refine al_c (pc := 141) (snd_iinc C dX3_digest_141 (by decide) (by decide)) ?_
  refine al_c (pc := 144) (snd_goto C dX3_digest_144 (by decide)) ?_
  refine al_c (pc := 147) (snd_aload_n C dX3_digest_147 rfl) ?_
  refine al_c (pc := 148) (snd_lload_n C dX3_digest_148 rfl) ?_
  refine al_c (pc := 149) (snd_Cl C (site_V C rfl dX3_digest_149 gX3_digest_X3_joinedWithCells rfl rfl rfl ⟨rfl, by decide +kernel, by decide +kernel, by decide +kernel⟩ ⟨by decide, by decide⟩) mX3_joinedWithCells) ?_
  refine al_c (pc := 152) (snd_Rl C hQ hr dX3_digest_152) ?_
  exact al_0
set_option maxHeartbeats 1000000 in
set_option maxRecDepth 100000 in
theorem mX3_digest : aMl yX3_digest wsX3_digest rmX3_digest tX3_digest := by
  refine aMl_of (by decide +kernel) rfl rfl (by intro av X post hT; obtain ⟨k, tt, w, h, rm, pm, fd, wl, pr, fe, qu, co, pa, rfl, rfl, hw, hh, hv, hf, hp⟩ := hT; exact Nat.le_of_ble_eq_true rfl) ?_
  intro Γ ad av X post C hQ hr hT
  obtain ⟨k, tt, w, h, rm, pm, fd, wl, pr, fe, qu, co, pa, rfl, rfl, hw, hh, hv, hf, hp⟩ := hT
  have OK := okX3_digest C hQ hr
  have hk : k < 49 := by have := hf.1; have := hf.2.1; omega
  have ht := vt_lt hv
  have faces : ∀ (n i : Nat), i + n = 6 → FG Γ 113 ad 0 0 [(3, .int (nI (i + 1))), (1, .long (jf co pa (jl 1901 (dgH k tt w h (ct (fun c => decide (¬ wl c = 0)) 49) rm pm)) i)), (0, .ref 0)] [] (CW (nI k) (nI tt) rm pm (nI w) (nI h) fd wl pr fe qu co pa) := by
    intro n
    induction n with
    | zero =>
      intro i hi
      have : i = 6 := by omega
      subst this
      refine go OK [113] 80 ?_
      refine And.intro (fun _ => ?_) (fun q => absurd (show (6 : Int32) < nI 7 by decide) q)
      exact ⟨_, _, _, _, _, _, _, _, _, _, _, _, _, _, rfl, rfl, hw, hh, hv, hf, fun fd2 fe2 qu2 => ⟨rfl, hp fd2 fe2 qu2⟩⟩
    | succ n ih =>
      intro i hi
      refine go OK [113] 80 ?_
      refine And.intro (fun q => ?_) (fun _ => ?_)
      · have := (ltN (a := 6) (by omega) (by omega)).mp q
        omega
      have key := ih (i + 1) (by omega)
      rw [← nI_p1 (i + 1)] at key
      refine ⟨inS (by omega : i + 1 < 7) (by decide), ?_⟩
      rw [nI_clampS (by omega)]
      refine ⟨_, _, rfl, ?_⟩
      refine ⟨inS (by omega : i + 1 < 7) (by decide), ?_⟩
      rw [nI_clampS (by omega)]
      refine ⟨_, _, rfl, ?_⟩
      exact FG_sub [0, 1, 2] rfl key
  have sides : ∀ (d : Int64) (i : Nat), i < 4 → (∀ d2, d2 = jn d (nI (faN tt i)) → FG Γ 87 ad 0 0 [(3, .int (nI (i + 1))), (1, .long d2), (0, .ref 0)] [] (CW (nI k) (nI tt) rm pm (nI w) (nI h) fd wl pr fe qu co pa)) → FG Γ 87 ad 0 0 [(3, .int (nI i)), (1, .long d), (0, .ref 0)] [] (CW (nI k) (nI tt) rm pm (nI w) (nI h) fd wl pr fe qu co pa) := by
    intro d i hi hn
    refine go OK [87] 80 ?_
    refine And.intro (fun q => ?_) (fun _ => ?_)
    · have := (leN (a := 4) (by omega) (by omega)).mp q
      omega
    refine ⟨_, _, tt, i, rfl, rfl, rfl, ht, hv, hi, ?_⟩
    refine ⟨_, _, rfl, ?_⟩
    have key := hn _ rfl
    rw [← nI_p1 i] at key
    exact key
  have last : ∀ d, d = jl 1901 (dgH k tt w h (ct (fun c => decide (¬ wl c = 0)) 49) rm pm) → FG Γ 87 ad 0 0 [(3, .int (nI 4)), (1, .long d), (0, .ref 0)] [] (CW (nI k) (nI tt) rm pm (nI w) (nI h) fd wl pr fe qu co pa) := by
    intro d hd
    refine go OK [87, 113] 80 ?_
    refine And.intro (fun _ => ?_) (fun q => absurd (show (4 : Int32) ≤ nI 4 by decide) q)
    have key := faces 6 0 rfl
    rw [show jf co pa (jl 1901 (dgH k tt w h (ct (fun c => decide (¬ wl c = 0)) 49) rm pm)) 0 = d from hd.symm] at key
    exact key
  refine go OK [87] 120 ?_
  refine ⟨_, _, _, _, _, _, _, _, _, _, _, _, _, rfl, rfl, ?_⟩
  refine ⟨_, _, rfl, ?_⟩
  refine ⟨_, _, _, _, _, _, _, _, _, _, _, _, _, rfl, rfl, ?_⟩
  refine ⟨_, _, rfl, ?_⟩
  refine ⟨_, _, _, _, _, _, _, _, _, _, _, _, _, rfl, rfl, ?_⟩
  refine ⟨_, _, rfl, ?_⟩
  refine ⟨_, _, _, _, _, _, _, _, _, _, _, _, _, rfl, rfl, ?_⟩
  refine ⟨_, _, rfl, ?_⟩
  refine ⟨_, _, _, _, _, _, _, _, _, _, _, _, _, rfl, rfl, ?_⟩
  refine ⟨_, _, rfl, ?_⟩
  refine ⟨_, _, _, _, _, _, _, _, _, _, _, _, _, rfl, rfl, hk, ?_⟩
  refine ⟨_, _, rfl, ?_⟩
  refine ⟨_, _, _, _, _, _, _, _, _, _, _, _, _, rfl, rfl, hk, ?_⟩
  refine ⟨_, _, rfl, ?_⟩
  refine ⟨_, _, _, _, _, _, _, _, _, _, _, _, _, rfl, rfl, ht, ?_⟩
  refine ⟨_, _, rfl, ?_⟩
  refine ⟨_, _, _, _, _, _, _, _, _, _, _, _, _, rfl, rfl, ht, ?_⟩
  refine ⟨_, _, rfl, ?_⟩
  refine sides _ 0 (by omega) (fun d1 e1 => sides d1 1 (by omega) (fun d2 e2 => sides d2 2 (by omega) (fun d3 e3 => sides d3 3 (by omega) (fun d4 e4 => last d4 ?_))))
  rw [e4, e3, e2, e1]
  rfl
