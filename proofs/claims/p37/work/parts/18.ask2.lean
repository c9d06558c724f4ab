/-! ===== PaintedDie's face: firstRoll, bestPut, meanPaint, digest ===== -/
/-- the first of the numbers d .. d + n - 1 that is so -/
def frF (p : Nat → Bool) : Nat → Nat → Option Nat
  | 0, _ => none
  | n + 1, d => if p d then some d else frF p n (d + 1)
def frP (w h : Nat) (wl : Nat → Int32) (D : Nat → Option Nat) (k tt l d : Nat) : Bool := match nxt w h wl k d with
  | none => false
  | some j => decide (D (j * 36 + rlN tt d) = some l)
def frD (w h : Nat) (wl : Nat → Int32) (D : Nat → Option Nat) (k tt : Nat) : Option Nat := match D (k * 36 + tt) with
  | none => none
  | some 0 => none
  | some (l + 1) => frF (frP w h wl D k tt l) 4 0
/-- back from a cell with a face on top -/
def DB (w h : Nat) (wl : Nat → Int32) (e f : Nat) : Nat → Option Nat := (fin (nbF w h wl) 1764 (sBk w h wl e f)).2
theorem oI_eq {x : Option Nat} {l : Nat} (hx : ∀ r, x = some r → r < 10000) (hl : l < 10000) : oI x = nI l ↔ x = some l := by
  cases x with
  | none => exact ⟨fun e => absurd e.symm (nI_m1 hl), fun e => by cases e⟩
  | some r =>
    constructor
    · intro e
      rw [(eqN (hx r rfl) hl).mp e]
    · intro e
      cases e
      rfl
abbrev tX3_firstRoll : xTi := fun av X post ex => ∃ (a b g : Int32) (k tt w h : Nat) (rm pm fd : Int32) (wl pr fe qu co pa : Nat → Int32), av = [.ref 0, .int a, .int b, .int g] ∧ X = CW (nI k) (nI tt) rm pm (nI w) (nI h) fd wl pr fe qu co pa ∧ w ≤ 7 ∧ h ≤ 7 ∧ vt tt = true ∧ frN w h wl k ∧
  (¬ (inB a b w h ∧ inR g 1 6) → ex "java/lang/IndexOutOfBoundsException" X) ∧ ∀ i j f, a = nI i → b = nI j → g = nI f → i < w → j < h → 1 ≤ f → f ≤ 6 → ∀ (fd2 : Int32) (fe2 qu2 : Nat → Int32), post (oI (frD w h wl (DB w h wl (j * 7 + i) f) k tt)) (CW (nI k) (nI tt) rm pm (nI w) (nI h) fd2 wl pr fe2 qu2 co pa)
abbrev rmX3_firstRoll : Room := { frames := 7, cells := 2, slots := 12, locals := 118 }
theorem inX3_firstRoll_X3 : ∀ w ∈ wsX30, w ∈ wsX3_firstRoll := by decide +kernel
def tbX3_firstRoll (post : Int32 → List aE → Prop) (ex : aXp) (ad0 : Nat → Nat) : List (Nat × aO) := [(0, oAL 0 1),
  (1, oIL 1 2),
  (2, oIL 2 3),
  (3, oXv tX3_checkCell 3 (some 2) rmX3_checkCell.cells rmX3_checkCell.slots rmX3_firstRoll.cells rmX3_firstRoll.slots 6 (exU ex ad0 rmX3_firstRoll.cells rmX3_firstRoll.slots)),
  (6, oIL 3 7),
  (7, oXv tX3_checkFace 1 none rmX3_checkFace.cells rmX3_checkFace.slots rmX3_firstRoll.cells rmX3_firstRoll.slots 10 (exU ex ad0 rmX3_firstRoll.cells rmX3_firstRoll.slots)),
  (10, oAL 0 11),
  (11, oIL 1 12),
  (12, oIL 2 13),
  (13, oCi tX0_cellAt 2 none rmX0_cellAt.cells rmX0_cellAt.slots rmX3_firstRoll.cells rmX3_firstRoll.slots 16),
  (16, oIL 3 17),
  (17, oCv tX3_searchBackFrom 3 (some 2) rmX3_searchBackFrom.cells rmX3_searchBackFrom.slots rmX3_firstRoll.cells rmX3_firstRoll.slots 20),
  (20, oAL 0 21),
  (21, oGet 2 1 24),
  (24, oAL 0 25),
  (25, oGet 2 4 28),
  (28, oAL 0 29),
  (29, oGet 2 5 32),
  (32, oCi tX1_rollsAt 3 (some 1) rmX1_rollsAt.cells rmX1_rollsAt.slots rmX3_firstRoll.cells rmX3_firstRoll.slots 35),
  (35, oIS 4 37),
  (37, oIL 4 39),
  (39, oC (-1) 40),
  (40, oIc_eq 48 43),
  (43, oIL 4 45),
  (45, oIf_ne 50 48),
  (48, oC (-1) 49),
  (49, oRi post ad0 rmX3_firstRoll.cells rmX3_firstRoll.slots),
  (50, oC (0) 51),
  (51, oIS 5 53),
  (53, oIL 5 55),
  (55, oC (4) 56),
  (56, oIc_ge 114 59),
  (59, oAL 0 60),
  (60, oGet 2 0 63),
  (63, oAL 0 64),
  (64, oGet 2 4 67),
  (67, oIL 5 69),
  (69, oCi tX0_nextCell 3 (some 0) rmX0_nextCell.cells rmX0_nextCell.slots rmX3_firstRoll.cells rmX3_firstRoll.slots 72),
  (72, oIS 6 74),
  (74, oIL 6 76),
  (76, oC (-1) 77),
  (77, oIc_eq 108 80),
  (80, oAL 0 81),
  (81, oGet 2 1 84),
  (84, oIL 6 86),
  (86, oAL 0 87),
  (87, oGet 2 5 90),
  (90, oIL 5 92),
  (92, oCi tX2_behindRoll 2 none rmX2_behindRoll.cells rmX2_behindRoll.slots rmX3_firstRoll.cells rmX3_firstRoll.slots 95),
  (95, oCi tX1_rollsAt 3 (some 1) rmX1_rollsAt.cells rmX1_rollsAt.slots rmX3_firstRoll.cells rmX3_firstRoll.slots 98),
  (98, oIL 4 100),
  (100, oC (1) 101),
  (101, oIsub 102),
  (102, oIc_ne 108 105),
  (105, oIL 5 107),
  (107, oRi post ad0 rmX3_firstRoll.cells rmX3_firstRoll.slots),
  (108, oInc 5 1 111),
  (111, oGo 53),
  (114, oC (-1) 115),
  (115, oRi post ad0 rmX3_firstRoll.cells rmX3_firstRoll.slots)]
set_option maxRecDepth 20000 in
theorem okX3_firstRoll {Γ : aΓ} {post : Int32 → List aE → Prop} {ex : aXp} {ad0 : Nat → Nat} {X0 : List aE} (C : FOK Γ cX3_firstRoll wsX3_firstRoll RX3 7 rmX3_firstRoll) (hQ : isQ Γ (va_Qi post (aBk (gK Γ) ad0 X0 (hsz Γ)) (aA (gK Γ) ad0 X0 (hsz Γ))) rmX3_firstRoll ad0 X0) (hr : rTy Γ = some .int) (CX : FOX Γ) (hX : isX Γ ex rmX3_firstRoll ad0 X0) : AllS Γ (tbX3_firstRoll post ex ad0) := by
  unfold tbX3_firstRoll
  refine al_c (pc := 0) (snd_aload_n C dX3_firstRoll_0 rfl) ?_
  refine al_c (pc := 1) (snd_iload_n C dX3_firstRoll_1 rfl) ?_
  refine al_c (pc := 2) (snd_iload_n C dX3_firstRoll_2 rfl) ?_
  refine al_c (pc := 3) (snd_Xv C CX (xsite_V C rfl dX3_firstRoll_3 gX3_firstRoll_X3_checkCell rfl rfl rfl ⟨rfl, by decide +kernel, by decide +kernel, by decide +kernel⟩ ⟨by decide, by decide⟩) mX3_checkCell (exU_FX C CX hX)) ?_
  refine al_c (pc := 6) (snd_iload_n C dX3_firstRoll_6 rfl) ?_
  refine al_c (pc := 7) (snd_Xv C CX (xsite_S C dX3_firstRoll_7 gX3_firstRoll_X3_checkFace rfl rfl rfl ⟨by decide +kernel, by decide +kernel, by decide +kernel⟩ ⟨by decide, by decide⟩) mX3_checkFace (exU_FX C CX hX)) ?_
  refine al_c (pc := 10) (snd_aload_n C dX3_firstRoll_10 rfl) ?_
  refine al_c (pc := 11) (snd_iload_n C dX3_firstRoll_11 rfl) ?_
  refine al_c (pc := 12) (snd_iload_n C dX3_firstRoll_12 rfl) ?_
  refine al_c (pc := 13) (snd_Ci C (site_SN C dX3_firstRoll_13 gX3_firstRoll_X0_cellAt_n48 rfl rfl rfl (by decide +kernel) (by decide +kernel) (by decide +kernel) ⟨by decide +kernel, by decide +kernel, by decide +kernel⟩ ⟨by decide, by decide⟩) mX0_cellAt) ?_
  refine al_c (pc := 16) (snd_iload_n C dX3_firstRoll_16 rfl) ?_
  refine al_c (pc := 17) (snd_Cv C (site_V C rfl dX3_firstRoll_17 gX3_firstRoll_X3_searchBackFrom rfl rfl rfl ⟨rfl, by decide +kernel, by decide +kernel, by decide +kernel⟩ ⟨by decide, by decide⟩) mX3_searchBackFrom) ?_
  refine al_c (pc := 20) (snd_aload_n C dX3_firstRoll_20 rfl) ?_
  refine al_c (pc := 21) (snd_get C dX3_firstRoll_21 (ci := 2) (kf := 1) rfl (by decide) inX3_firstRoll_X3 rfl (by decide +kernel)) ?_
  refine al_c (pc := 24) (snd_aload_n C dX3_firstRoll_24 rfl) ?_
  refine al_c (pc := 25) (snd_get C dX3_firstRoll_25 (ci := 2) (kf := 4) rfl (by decide) inX3_firstRoll_X3 rfl (by decide +kernel)) ?_
  refine al_c (pc := 28) (snd_aload_n C dX3_firstRoll_28 rfl) ?_
  refine al_c (pc := 29) (snd_get C dX3_firstRoll_29 (ci := 2) (kf := 5) rfl (by decide) inX3_firstRoll_X3 rfl (by decide +kernel)) ?_
  refine al_c (pc := 32) (snd_Ci C (site_VN C rfl dX3_firstRoll_32 gX3_firstRoll_X1_rollsAt_n168 rfl rfl rfl (by decide +kernel) (by decide +kernel) (by decide +kernel) (by decide +kernel) ⟨by decide +kernel, by decide +kernel, by decide +kernel⟩ ⟨by decide, by decide⟩) mX1_rollsAt) ?_
  refine al_c (pc := 35) (snd_istore C dX3_firstRoll_35 (by decide)) ?_
  refine al_c (pc := 37) (snd_iload C dX3_firstRoll_37) ?_
  refine al_c (pc := 39) (snd_iconst C dX3_firstRoll_39 (by decide)) ?_
  refine al_c (pc := 40) (snd_icmp_eq C dX3_firstRoll_40 (by decide)) ?_
  refine al_c (pc := 43) (snd_iload C dX3_firstRoll_43) ?_
  refine al_c (pc := 45) (snd_if_ne C dX3_firstRoll_45 (by decide)) ?_
  refine al_c (pc := 48) (snd_iconst C dX3_firstRoll_48 (by decide)) ?_
  refine al_c (pc := 49) (snd_Ri C hQ hr dX3_firstRoll_49) ?_
  refine al_c (pc := 50) (snd_iconst C dX3_firstRoll_50 (by decide)) ?_
  refine al_c (pc := 51) (snd_istore C dX3_firstRoll_51 (by decide)) ?_
  refine al_c (pc := 53) (snd_iload C dX3_firstRoll_53) ?_
  refine al_c (pc := 55) (snd_iconst C dX3_firstRoll_55 (by decide)) ?_
  refine al_c (pc := 56) (snd_icmp_ge C dX3_firstRoll_56 (by decide)) ?_
  refine al_c (pc := 59) (snd_aload_n C dX3_firstRoll_59 rfl) ?_
  refine al_c (pc := 60) (snd_get C dX3_firstRoll_60 (ci := 2) (kf := 0) rfl (by decide) inX3_firstRoll_X3 rfl (by decide +kernel)) ?_
  refine al_c (pc := 63) (snd_aload_n C dX3_firstRoll_63 rfl) ?_
  refine al_c (pc := 64) (snd_get C dX3_firstRoll_64 (ci := 2) (kf := 4) rfl (by decide) inX3_firstRoll_X3 rfl (by decide +kernel)) ?_
  refine al_c (pc := 67) (snd_iload C dX3_firstRoll_67) ?_
  refine al_c (pc := 69) (snd_Ci C (site_VN C rfl dX3_firstRoll_69 gX3_firstRoll_X0_nextCell_n130 rfl rfl rfl (by decide +kernel) (by decide +kernel) (by decide +kernel) (by decide +kernel) ⟨by decide +kernel, by decide +kernel, by decide +kernel⟩ ⟨by decide, by decide⟩) mX0_nextCell) ?_
  refine al_c (pc := 72) (snd_istore C dX3_firstRoll_72 (by decide)) ?_
  refine al_c (pc := 74) (snd_iload C dX3_firstRoll_74) ?_
  refine al_c (pc := 76) (snd_iconst C dX3_firstRoll_76 (by decide)) ?_
  refine al_c (pc := 77) (snd_icmp_eq C dX3_firstRoll_77 (by decide)) ?_
  refine al_c (pc := 80) (snd_aload_n C dX3_firstRoll_80 rfl) ?_
  refine al_c (pc := 81) (snd_get C dX3_firstRoll_81 (ci := 2) (kf := 1) rfl (by decide) inX3_firstRoll_X3 rfl (by decide +kernel)) ?_
  refine al_c (pc := 84) (snd_iload C dX3_firstRoll_84) ?_
  refine al_c (pc := 86) (snd_aload_n C dX3_firstRoll_86 rfl) ?_
  refine al_c (pc := 87) (snd_get C dX3_firstRoll_87 (ci := 2) (kf := 5) rfl (by decide) inX3_firstRoll_X3 rfl (by decide +kernel)) ?_
  refine al_c (pc := 90) (snd_iload C dX3_firstRoll_90) ?_
  refine al_c (pc := 92) (snd_Ci C (site_SN C dX3_firstRoll_92 gX3_firstRoll_X2_behindRoll_n171 rfl rfl rfl (by decide +kernel) (by decide +kernel) (by decide +kernel) ⟨by decide +kernel, by decide +kernel, by decide +kernel⟩ ⟨by decide, by decide⟩) mX2_behindRoll) ?_
  refine al_c (pc := 95) (snd_Ci C (site_VN C rfl dX3_firstRoll_95 gX3_firstRoll_X1_rollsAt_n168 rfl rfl rfl (by decide +kernel) (by decide +kernel) (by decide +kernel) (by decide +kernel) ⟨by decide +kernel, by decide +kernel, by decide +kernel⟩ ⟨by decide, by decide⟩) mX1_rollsAt) ?_
  refine al_c (pc := 98) (snd_iload C dX3_firstRoll_98) ?_
  refine al_c (pc := 100) (snd_iconst C dX3_firstRoll_100 (by decide)) ?_
  refine al_c (pc := 101) (snd_isub C dX3_firstRoll_101) ?_
  refine al_c (pc := 102) (snd_icmp_ne C dX3_firstRoll_102 (by decide)) ?_
  refine al_c (pc := 105) (snd_iload C dX3_firstRoll_105) ?_
  refine al_c (pc := 107) (snd_Ri C hQ hr dX3_firstRoll_107) ?_
  refine al_c (pc := 108) (snd_iinc C dX3_firstRoll_108 (by decide) (by decide)) ?_
  refine al_c (pc := 111) (snd_goto C dX3_firstRoll_111 (by decide)) ?_
  refine al_c (pc := 114) (snd_iconst C dX3_firstRoll_114 (by decide)) ?_
  refine al_c (pc := 115) (snd_Ri C hQ hr dX3_firstRoll_115) ?_
  exact al_0
set_option maxHeartbeats 1000000 in
set_option maxRecDepth 100000 in
theorem mX3_firstRoll : xMi yX3_firstRoll wsX3_firstRoll rmX3_firstRoll tX3_firstRoll := by
  refine xMi_of (by decide +kernel) rfl rfl (by intro av X post ex hT; obtain ⟨a, b, g, k, tt, w, h, rm, pm, fd, wl, pr, fe, qu, co, pa, rfl, rfl, hw, hh, hv, hf, h1, h2⟩ := hT; exact Nat.le_of_ble_eq_true rfl) ?_
  intro Γ ad av X post ex C CX hQ hX hr hT
  obtain ⟨a, b, g, k, tt, w, h, rm, pm, fd, wl, pr, fe, qu, co, pa, rfl, rfl, hw, hh, hv, hf, h1, h2⟩ := hT
  have OK := okX3_firstRoll C hQ hr CX hX
  have hk : k < 49 := by have := hf.1; have := hf.2.1; omega
  have ht := vt_lt hv
  refine go OK [53] 80 ?_
  refine ⟨_, _, _, _, _, _, _, _, _, _, _, _, _, _, _, rfl, rfl, hw, hh, fun q => ?_, fun q => ⟨rfl, h1 (fun z => q z.1)⟩⟩
  refine ⟨_, rfl, fun q2 => ?_, fun q2 => ⟨rfl, h1 (fun z => q2 z.2)⟩⟩
  obtain ⟨i, j, rfl, rfl, hi, hj⟩ := q
  obtain ⟨f, rfl, f1, f2⟩ := q2
  have hb := bS_back (w := w) (h := h) (e := j * 7 + i) (wl := wl) hw hh f1 (by omega : f < 7)
  refine ⟨_, _, rfl, ?_⟩
  refine ⟨_, _, j * 7 + i, f, _, _, _, _, _, _, _, _, _, _, _, _, _, rfl, cellI i j, rfl, rfl, hw, hh, by omega, f1, by omega, fun fd2 fe2 qu2 hR => ?_⟩
  have hD : DD (DB w h wl (j * 7 + i) f) fe2 := DD_of hb hR
  have hp := h2 i j f rfl rfl rfl hi hj f1 f2 fd2 fe2 qu2
  obtain ⟨D, hDe⟩ : ∃ D, D = DB w h wl (j * 7 + i) f := ⟨_, rfl⟩
  rw [← hDe] at hD hp
  refine ⟨_, _, k, tt, _, _, _, _, _, _, _, _, _, _, _, _, _, rfl, rfl, rfl, rfl, hk, ht, ?_⟩
  rw [hD.1 (k * 36 + tt) (by omega)]
  cases eD : D (k * 36 + tt) with
  | none =>
    refine And.intro (fun _ => ?_) (fun q => absurd rfl q)
    refine ⟨rfl, ?_⟩
    unfold frD at hp
    rw [eD] at hp
    exact hp
  | some x =>
    have hx := hD.2 _ x eD
    refine And.intro (fun q => absurd q (nI_m1 (by omega : x < 10000))) (fun _ => ?_)
    cases x with
    | zero =>
      refine And.intro (fun q => absurd rfl q) (fun _ => ?_)
      refine ⟨rfl, ?_⟩
      unfold frD at hp
      rw [eD] at hp
      exact hp
    | succ l =>
      refine And.intro (fun _ => ?_) (fun q => absurd q (nI_ne0 (by omega) (by omega)))
      have hp2 : post (oI (frF (frP w h wl D k tt l) 4 0)) (CW (nI k) (nI tt) rm pm (nI w) (nI h) fd2 wl pr fe2 qu2 co pa) := by
        unfold frD at hp
        rw [eD] at hp
        exact hp
      have loop : ∀ (n d : Nat), d + n = 4 → frF (frP w h wl D k tt l) 4 0 = frF (frP w h wl D k tt l) n d →
          FG Γ 53 ad (0 + rmX3_checkCell.cells + rmX3_checkFace.cells) (0 + rmX3_checkCell.slots + rmX3_checkFace.slots) [(5, .int (nI d)), (4, .int (nI (l + 1))), (0, .ref 0), (1, .int (nI i)), (2, .int (nI j)), (3, .int (nI f))] [] (CW (nI k) (nI tt) rm pm (nI w) (nI h) fd2 wl pr fe2 qu2 co pa) := by
        intro n
        induction n with
        | zero =>
          intro d hd he
          have : d = 4 := by omega
          subst this
          refine go OK [53] 80 ?_
          refine And.intro (fun _ => ?_) (fun q => absurd (show (4 : Int32) ≤ nI 4 by decide) q)
          refine ⟨rfl, ?_⟩
          rw [he] at hp2
          exact hp2
        | succ n ih =>
          intro d hd he
          refine go OK [53] 80 ?_
          refine And.intro (fun q => ?_) (fun q => ?_)
          · have := (leN (a := 4) (by omega) (by omega)).mp q
            omega
          have no : frP w h wl D k tt l d = false → FG Γ 53 ad (0 + rmX3_checkCell.cells + rmX3_checkFace.cells) (0 + rmX3_checkCell.slots + rmX3_checkFace.slots) [(5, .int (nI d + 1)), (4, .int (nI (l + 1))), (0, .ref 0), (1, .int (nI i)), (2, .int (nI j)), (3, .int (nI f))] [] (CW (nI k) (nI tt) rm pm (nI w) (nI h) fd2 wl pr fe2 qu2 co pa) := fun z => by
            have key := ih (d + 1) (by omega) (by rw [he, frF, if_neg (by rw [z]; exact Bool.false_ne_true)])
            rw [← nI_p1 d] at key
            exact key
          refine ⟨_, _, k, d, _, _, _, _, _, _, _, _, _, _, _, _, _, rfl, rfl, rfl, rfl, hw, hh, hk, by omega, ?_⟩
          cases e : nxt w h wl k d with
          | none =>
            refine And.intro (fun _ => ?_) (fun q2 => absurd rfl q2)
            exact FG_sub [0, 2, 3, 4, 5, 6] rfl (no (by unfold frP; rw [e]))
          | some m =>
            have hm := nxt_fr e
            have hm49 : m < 49 := by have := hm.1; have := hm.2.1; omega
            have hrl := rlN_lt hv (by omega : d < 4)
            refine And.intro (fun q2 => absurd q2 (nI_m1 (by omega : m < 10000))) (fun _ => ?_)
            refine ⟨_, _, tt, d, rfl, rfl, rfl, ht, hv, by omega, ?_⟩
            refine ⟨_, _, m, rlN tt d, _, _, _, _, _, _, _, _, _, _, _, _, _, rfl, rfl, rfl, rfl, hm49, hrl, ?_⟩
            rw [hD.1 (m * 36 + rlN tt d) (by omega)]
            have e3 : oI (D (m * 36 + rlN tt d)) = nI l ↔ D (m * 36 + rlN tt d) = some l := oI_eq (fun r hr => by have := hD.2 _ r hr; omega) (by omega)
            refine And.intro (fun q3 => ?_) (fun q3 => ?_)
            · refine FG_sub [0, 2, 3, 4, 5, 6] rfl (no ?_)
              unfold frP
              rw [e]
              exact decide_eq_false (fun z => q3 ((e3.mpr z).trans (nI_pred l).symm))
            · refine ⟨rfl, ?_⟩
              have : frP w h wl D k tt l d = true := by
                unfold frP
                rw [e]
                exact decide_eq_true (e3.mp (q3.trans (nI_pred l)))
              rw [he, frF, if_pos this] at hp2
              exact hp2
      exact loop 4 0 rfl rfl
/-- the best of what is told along a line -/
def bpT (s : Option (Nat × Nat)) (c : Nat) (x : Option Nat) : Option (Nat × Nat) := match x with
  | none => s
  | some y => match s with
    | none => some (c, y)
    | some bl => if y < bl.2 then some (c, y) else some bl
def bpL (p : Nat → Option Nat) : Nat → Option (Nat × Nat)
  | 0 => none
  | n + 1 => bpT (bpL p n) n (p n)
theorem bpL_ok {p : Nat → Option Nat} (hp : ∀ c y, p c = some y → y < 5000) : ∀ n b y, bpL p n = some (b, y) → b < n ∧ y < 5000
  | 0, b, y, h => by cases h
  | n + 1, b, y, h => by
    unfold bpL bpT at h
    cases e : p n with
    | none =>
      rw [e] at h
      have := bpL_ok hp n b y h
      omega
    | some z =>
      rw [e] at h
      have hz := hp n z e
      cases e2 : bpL p n with
      | none =>
        rw [e2] at h
        cases h
        exact ⟨Nat.lt_succ_self _, hz⟩
      | some bl =>
        rw [e2] at h
        obtain ⟨b0, y0⟩ := bl
        have h0 := bpL_ok hp n b0 y0 e2
        dsimp only at h
        split at h
        · cases h
          exact ⟨Nat.lt_succ_self _, hz⟩
        · cases h
          omega
def k7 (w c : Nat) : Nat := c / w * 7 + c % w
theorem k7_at {w i j : Nat} (hi : i < w) : k7 w (w * j + i) = j * 7 + i := by
  have hw : 0 < w := by omega
  unfold k7
  rw [Nat.mul_add_div hw, Nat.mul_add_mod, Nat.div_eq_of_lt hi, Nat.mod_eq_of_lt hi]
  omega
theorem mulI (a b : Nat) : nI a * nI b = nI (a * b) := pk_mul a b
theorem wj_lt {w h i j : Nat} (hw : w ≤ 7) (hh : h ≤ 7) (hi : i ≤ w) (hj : j < h) : w * j + i ≤ 49 := by
  have h1 : w * (j + 1) ≤ 7 * 7 := Nat.mul_le_mul hw (by omega)
  rw [Nat.mul_succ] at h1
  omega
