/-! ===== the constructors ===== -/
/-- the colours of the faces at the start, as far as they are written -/
def stC (n : Nat) : Nat → Int32 := fun j => if 1 ≤ j ∧ j < n then nI j else 0
theorem stC_0 : stC 1 = fun _ => 0 := by
  funext j
  exact if_neg (by omega)
theorem stC_s {n : Nat} (h : 1 ≤ n) : upd (stC n) n (nI n) = stC (n + 1) := by
  funext j
  by_cases z : j = n
  · subst z
    rw [pk_us]
    exact (if_pos ⟨h, Nat.lt_succ_self _⟩).symm
  · rw [pk_un z]
    unfold stC
    by_cases q : 1 ≤ j ∧ j < n
    · rw [if_pos q, if_pos ⟨q.1, by omega⟩]
    · rw [if_neg q, if_neg (by omega)]
abbrev tX0_init : aTv := fun av X post => av = [.ref 0] ∧ X = [.inr (.inl (0, [.null, .null, .int 0, .int 0]))] ∧ post [.inr (.inl (0, [.ref 1, .ref 2, .int 0, .int 0])), .inl (true, 49, fun _ => 0), .inl (false, 49, fun _ => 0)]
abbrev rmX0_init : Room := { frames := 1, cells := 2, slots := 98, locals := 60 }
theorem inX0_init_X0 : ∀ w ∈ wsX00, w ∈ wsX0_init := by decide +kernel
def tbX0_init (post : List aE → Prop) (ad0 : Nat → Nat) : List (Nat × aO) := [(0, oAL 0 1),
  (1, oOI 4),
  (4, oAL 0 5),
  (5, oC (49) 7),
  (7, oNZ 49 rmX0_init.cells rmX0_init.slots 9),
  (9, oPutR 0 0 12),
  (12, oAL 0 13),
  (13, oC (49) 15),
  (15, oNI 49 rmX0_init.cells rmX0_init.slots 17),
  (17, oPutR 0 1 20),
  (20, oRc post ad0 1 rmX0_init.cells rmX0_init.slots)]
set_option maxRecDepth 20000 in
theorem okX0_init {Γ : aΓ} {post : List aE → Prop} {ad0 : Nat → Nat} {X0 : List aE} (C : FOK Γ cX0_init wsX0_init RX0 1 rmX0_init) (hQ : isQ Γ (va_Qv (fun u : (Nat → Nat) × List aE => post u.2) (aBc (gK Γ) ad0 X0 (hsz Γ)) (aA (gK Γ) ad0 X0 (hsz Γ))) rmX0_init ad0 X0) (hr : rTy Γ = none) (hI : isInit Γ) (hN : X0.length = 1) : AllS Γ (tbX0_init post ad0) := by
  unfold tbX0_init
  refine al_c (pc := 0) (snd_aload_n C dX0_init_0 rfl) ?_
  refine al_c (pc := 1) (snd_OI C dX0_init_1 (by decide +kernel) (by decide +kernel) (by decide +kernel) ⟨by decide, by decide⟩) ?_
  refine al_c (pc := 4) (snd_aload_n C dX0_init_4 rfl) ?_
  refine al_c (pc := 5) (snd_bipush C dX0_init_5 (by decide)) ?_
  refine al_c (pc := 7) (snd_NZ C (N := 49) (by decide) dX0_init_7 (by decide +kernel)) ?_
  refine al_c (pc := 9) (snd_putRF C hI dX0_init_9 (ci := 0) (kf := 0) rfl (by decide) inX0_init_X0 tyX0_ok nmX0 rfl rfl (fun _ => rfl) (fun _ => rfl) rfl (by decide +kernel)) ?_
  refine al_c (pc := 12) (snd_aload_n C dX0_init_12 rfl) ?_
  refine al_c (pc := 13) (snd_bipush C dX0_init_13 (by decide)) ?_
  refine al_c (pc := 15) (snd_NI C (N := 49) (by decide) dX0_init_15 (by decide +kernel)) ?_
  refine al_c (pc := 17) (snd_putRF C hI dX0_init_17 (ci := 0) (kf := 1) rfl (by decide) inX0_init_X0 tyX0_ok nmX0 rfl rfl (fun _ => rfl) (fun _ => rfl) rfl (by decide +kernel)) ?_
  refine al_c (pc := 20) (snd_Rc C hQ hN hr dX0_init_20) ?_
  exact al_0
set_option maxHeartbeats 1000000 in
set_option maxRecDepth 100000 in
theorem mX0_init : aMc yX0_init wsX0_init rmX0_init tX0_init := by
  refine aMc_of (by decide +kernel) rfl rfl rfl (by intro av X post hT; obtain ⟨rfl, rfl, hp⟩ := hT; exact Nat.le_of_ble_eq_true rfl) ?_
  intro Γ ad av X post C hQ hr hI hT
  obtain ⟨rfl, rfl, hp⟩ := hT
  have OK := okX0_init C hQ hr hI rfl
  refine go OK [] 40 ?_
  refine ⟨rfl, fun a1 g1 => ⟨rfl, fun a2 g2 => ⟨?_, hp⟩⟩⟩
  have G1 : Ag 1 ad a1 := g1
  have G2 : Ag 2 a1 a2 := g2
  exact G1.tr G2 (by omega)
abbrev tX1_init : aTv := fun av X post => av = [.ref 0] ∧ X = [.inr (.inl (1, [.null, .null, .int 0]))] ∧ post [.inr (.inl (1, [.ref 1, .ref 2, .int 0])), .inl (false, 1764, fun _ => 0), .inl (false, 1764, fun _ => 0)]
abbrev rmX1_init : Room := { frames := 1, cells := 2, slots := 3528, locals := 60 }
theorem inX1_init_X1 : ∀ w ∈ wsX10, w ∈ wsX1_init := by decide +kernel
def tbX1_init (post : List aE → Prop) (ad0 : Nat → Nat) : List (Nat × aO) := [(0, oAL 0 1),
  (1, oOI 4),
  (4, oAL 0 5),
  (5, oC (1764) 8),
  (8, oNI 1764 rmX1_init.cells rmX1_init.slots 10),
  (10, oPutR 1 0 13),
  (13, oAL 0 14),
  (14, oC (1764) 17),
  (17, oNI 1764 rmX1_init.cells rmX1_init.slots 19),
  (19, oPutR 1 1 22),
  (22, oRc post ad0 1 rmX1_init.cells rmX1_init.slots)]
set_option maxRecDepth 20000 in
theorem okX1_init {Γ : aΓ} {post : List aE → Prop} {ad0 : Nat → Nat} {X0 : List aE} (C : FOK Γ cX1_init wsX1_init RX1 1 rmX1_init) (hQ : isQ Γ (va_Qv (fun u : (Nat → Nat) × List aE => post u.2) (aBc (gK Γ) ad0 X0 (hsz Γ)) (aA (gK Γ) ad0 X0 (hsz Γ))) rmX1_init ad0 X0) (hr : rTy Γ = none) (hI : isInit Γ) (hN : X0.length = 1) : AllS Γ (tbX1_init post ad0) := by
  unfold tbX1_init
  refine al_c (pc := 0) (snd_aload_n C dX1_init_0 rfl) ?_
  refine al_c (pc := 1) (snd_OI C dX1_init_1 (by decide +kernel) (by decide +kernel) (by decide +kernel) ⟨by decide, by decide⟩) ?_
  refine al_c (pc := 4) (snd_aload_n C dX1_init_4 rfl) ?_
  refine al_c (pc := 5) (snd_sipush C dX1_init_5 (by decide)) ?_
  refine al_c (pc := 8) (snd_NI C (N := 1764) (by decide) dX1_init_8 (by decide +kernel)) ?_
  refine al_c (pc := 10) (snd_putRF C hI dX1_init_10 (ci := 1) (kf := 0) rfl (by decide) inX1_init_X1 tyX1_ok nmX1 rfl rfl (fun _ => rfl) (fun _ => rfl) rfl (by decide +kernel)) ?_
  refine al_c (pc := 13) (snd_aload_n C dX1_init_13 rfl) ?_
  refine al_c (pc := 14) (snd_sipush C dX1_init_14 (by decide)) ?_
  refine al_c (pc := 17) (snd_NI C (N := 1764) (by decide) dX1_init_17 (by decide +kernel)) ?_
  refine al_c (pc := 19) (snd_putRF C hI dX1_init_19 (ci := 1) (kf := 1) rfl (by decide) inX1_init_X1 tyX1_ok nmX1 rfl rfl (fun _ => rfl) (fun _ => rfl) rfl (by decide +kernel)) ?_
  refine al_c (pc := 22) (snd_Rc C hQ hN hr dX1_init_22) ?_
  exact al_0
set_option maxHeartbeats 1000000 in
set_option maxRecDepth 100000 in
theorem mX1_init : aMc yX1_init wsX1_init rmX1_init tX1_init := by
  refine aMc_of (by decide +kernel) rfl rfl rfl (by intro av X post hT; obtain ⟨rfl, rfl, hp⟩ := hT; exact Nat.le_of_ble_eq_true rfl) ?_
  intro Γ ad av X post C hQ hr hI hT
  obtain ⟨rfl, rfl, hp⟩ := hT
  have OK := okX1_init C hQ hr hI rfl
  refine go OK [] 40 ?_
  refine ⟨rfl, fun a1 g1 => ⟨rfl, fun a2 g2 => ⟨?_, hp⟩⟩⟩
  have G1 : Ag 1 ad a1 := g1
  have G2 : Ag 2 a1 a2 := g2
  exact G1.tr G2 (by omega)
abbrev tX3_init : aTv := fun av X post => av = [.ref 0] ∧ X = [.inr (.inl (2, [.null, .null, .null, .null, .int 0, .int 0, .int 0, .int 0]))] ∧ ∀ wl2 pr2 : Nat → Int32, (∀ k, k < 49 → wl2 k = 0) → (∀ k, k < 49 → pr2 k = 0) → post (CW 0 1 0 0 5 5 0 wl2 pr2 (fun _ => 0) (fun _ => 0) (stC 7) (fun _ => 0))
abbrev rmX3_init : Room := { frames := 2, cells := 8, slots := 3647, locals := 80 }
theorem inX3_init_X0 : ∀ w ∈ wsX00, w ∈ wsX3_init := by decide +kernel
theorem inX3_init_X1 : ∀ w ∈ wsX10, w ∈ wsX3_init := by decide +kernel
theorem inX3_init_X3 : ∀ w ∈ wsX30, w ∈ wsX3_init := by decide +kernel
def tbX3_init (post : List aE → Prop) (ad0 : Nat → Nat) : List (Nat × aO) := [(0, oAL 0 1),
  (1, oOI 4),
  (4, oAL 0 5),
  (5, oNO 0 4 [.null, .null, .int 0, .int 0] rmX3_init.cells rmX3_init.slots 8),
  (8, oDup 9),
  (9, oNc 1 tX0_init 1 (some 0) rmX0_init.cells rmX0_init.slots rmX3_init.cells rmX3_init.slots 12),
  (12, oPutR 2 0 15),
  (15, oAL 0 16),
  (16, oNO 1 3 [.null, .null, .int 0] rmX3_init.cells rmX3_init.slots 19),
  (19, oDup 20),
  (20, oNc 4 tX1_init 1 (some 1) rmX1_init.cells rmX1_init.slots rmX3_init.cells rmX3_init.slots 23),
  (23, oPutR 2 1 26),
  (26, oAL 0 27),
  (27, oC (7) 29),
  (29, oNI 7 rmX3_init.cells rmX3_init.slots 31),
  (31, oPutR 2 2 34),
  (34, oAL 0 35),
  (35, oC (7) 37),
  (37, oNI 7 rmX3_init.cells rmX3_init.slots 39),
  (39, oPutR 2 3 42),
  (42, oC (1) 43),
  (43, oIS 1 44),
  (44, oIL 1 45),
  (45, oC (6) 47),
  (47, oIc_gt 63 50),
  (50, oAL 0 51),
  (51, oGet 2 2 54),
  (54, oIL 1 55),
  (55, oIL 1 56),
  (56, oIast 57),
  (57, oInc 1 1 60),
  (60, oGo 44),
  (63, oAL 0 64),
  (64, oC (5) 65),
  (65, oC (5) 66),
  (66, oCv tX3_startOn 3 (some 2) rmX3_startOn.cells rmX3_startOn.slots rmX3_init.cells rmX3_init.slots 69),
  (69, oRc post ad0 1 rmX3_init.cells rmX3_init.slots)]
set_option maxRecDepth 20000 in
theorem okX3_init {Γ : aΓ} {post : List aE → Prop} {ad0 : Nat → Nat} {X0 : List aE} (C : FOK Γ cX3_init wsX3_init RX3 2 rmX3_init) (hQ : isQ Γ (va_Qv (fun u : (Nat → Nat) × List aE => post u.2) (aBc (gK Γ) ad0 X0 (hsz Γ)) (aA (gK Γ) ad0 X0 (hsz Γ))) rmX3_init ad0 X0) (hr : rTy Γ = none) (hI : isInit Γ) (hN : X0.length = 1) : AllS Γ (tbX3_init post ad0) := by
  unfold tbX3_init
  refine al_c (pc := 0) (snd_aload_n C dX3_init_0 rfl) ?_
  refine al_c (pc := 1) (snd_OI C dX3_init_1 (by decide +kernel) (by decide +kernel) (by decide +kernel) ⟨by decide, by decide⟩) ?_
  refine al_c (pc := 4) (snd_aload_n C dX3_init_4 rfl) ?_
  refine al_c (pc := 5) (snd_NO C (ci := 0) dX3_init_5 rfl inX3_init_X0 tyX0_ok (by decide +kernel) (by decide +kernel) (by decide +kernel) (fun j hj => by match j, hj with | 0, _ => rfl | 1, _ => rfl | 2, _ => rfl | 3, _ => rfl | j + 4, h => exact absurd h (by omega)) (fun _ => rfl)) ?_
  refine al_c (pc := 8) (snd_dup C dX3_init_8) ?_
  refine al_c (pc := 9) (snd_Nc 1 C (site_IN C rfl dX3_init_9 gX3_init_X0_init_n11 rfl rfl rfl (by decide +kernel) (by decide +kernel) (by decide +kernel) rfl ⟨by decide +kernel, by decide +kernel, by decide +kernel⟩ ⟨by decide, by decide⟩) mX0_init) ?_
  refine al_c (pc := 12) (snd_putRF C hI dX3_init_12 (ci := 2) (kf := 0) rfl (by decide) inX3_init_X3 tyX3_ok nmX3 rfl rfl (fun _ => rfl) (fun _ => rfl) rfl (by decide +kernel)) ?_
  refine al_c (pc := 15) (snd_aload_n C dX3_init_15 rfl) ?_
  refine al_c (pc := 16) (snd_NO C (ci := 1) dX3_init_16 rfl inX3_init_X1 tyX1_ok (by decide +kernel) (by decide +kernel) (by decide +kernel) (fun j hj => by match j, hj with | 0, _ => rfl | 1, _ => rfl | 2, _ => rfl | j + 3, h => exact absurd h (by omega)) (fun _ => rfl)) ?_
  refine al_c (pc := 19) (snd_dup C dX3_init_19) ?_
  refine al_c (pc := 20) (snd_Nc 4 C (site_IN C rfl dX3_init_20 gX3_init_X1_init_n18 rfl rfl rfl (by decide +kernel) (by decide +kernel) (by decide +kernel) rfl ⟨by decide +kernel, by decide +kernel, by decide +kernel⟩ ⟨by decide, by decide⟩) mX1_init) ?_
  refine al_c (pc := 23) (snd_putRF C hI dX3_init_23 (ci := 2) (kf := 1) rfl (by decide) inX3_init_X3 tyX3_ok nmX3 rfl rfl (fun _ => rfl) (fun _ => rfl) rfl (by decide +kernel)) ?_
  refine al_c (pc := 26) (snd_aload_n C dX3_init_26 rfl) ?_
  refine al_c (pc := 27) (snd_bipush C dX3_init_27 (by decide)) ?_
  refine al_c (pc := 29) (snd_NI C (N := 7) (by decide) dX3_init_29 (by decide +kernel)) ?_
  refine al_c (pc := 31) (snd_putRF C hI dX3_init_31 (ci := 2) (kf := 2) rfl (by decide) inX3_init_X3 tyX3_ok nmX3 rfl rfl (fun _ => rfl) (fun _ => rfl) rfl (by decide +kernel)) ?_
  refine al_c (pc := 34) (snd_aload_n C dX3_init_34 rfl) ?_
  refine al_c (pc := 35) (snd_bipush C dX3_init_35 (by decide)) ?_
  refine al_c (pc := 37) (snd_NI C (N := 7) (by decide) dX3_init_37 (by decide +kernel)) ?_
  refine al_c (pc := 39) (snd_putRF C hI dX3_init_39 (ci := 2) (kf := 3) rfl (by decide) inX3_init_X3 tyX3_ok nmX3 rfl rfl (fun _ => rfl) (fun _ => rfl) rfl (by decide +kernel)) ?_
  refine al_c (pc := 42) (snd_iconst C dX3_init_42 (by decide)) ?_
  refine al_c (pc := 43) (snd_istore_n C dX3_init_43 rfl (by decide)) ?_
  refine al_c (pc := 44) (snd_iload_n C dX3_init_44 rfl) ?_
  refine al_c (pc := 45) (snd_bipush C dX3_init_45 (by decide)) ?_
  refine al_c (pc := 47) (snd_icmp_gt C dX3_init_47 (by decide)) ?_
  refine al_c (pc := 50) (snd_aload_n C dX3_init_50 rfl) ?_
  refine al_c (pc := 51) (snd_get C dX3_init_51 (ci := 2) (kf := 2) rfl (by decide) inX3_init_X3 rfl (by decide +kernel)) ?_
  refine al_c (pc := 54) (snd_iload_n C dX3_init_54 rfl) ?_
  refine al_c (pc := 55) (snd_iload_n C dX3_init_55 rfl) ?_
  refine al_c (pc := 56) (snd_iastore C dX3_init_56) ?_
  refine al_c (pc := 57) (snd_iinc C dX3_init_57 (by decide) (by decide)) ?_
  refine al_c (pc := 60) (snd_goto C dX3_init_60 (by decide)) ?_
  refine al_c (pc := 63) (snd_aload_n C dX3_init_63 rfl) ?_
  refine al_c (pc := 64) (snd_iconst C dX3_init_64 (by decide)) ?_
  refine al_c (pc := 65) (snd_iconst C dX3_init_65 (by decide)) ?_
  refine al_c (pc := 66) (snd_Cv C (site_V C rfl dX3_init_66 gX3_init_X3_startOn rfl rfl rfl ⟨rfl, by decide +kernel, by decide +kernel, by decide +kernel⟩ ⟨by decide, by decide⟩) mX3_startOn) ?_
  refine al_c (pc := 69) (snd_Rc C hQ hN hr dX3_init_69) ?_
  exact al_0
set_option maxHeartbeats 1000000 in
set_option maxRecDepth 100000 in
theorem mX3_init : aMc yX3_init wsX3_init rmX3_init tX3_init := by
  refine aMc_of (by decide +kernel) rfl rfl rfl (by intro av X post hT; obtain ⟨rfl, rfl, hp⟩ := hT; exact Nat.le_of_ble_eq_true rfl) ?_
  intro Γ ad av X post C hQ hr hI hT
  obtain ⟨rfl, rfl, hp⟩ := hT
  have OK := okX3_init C hQ hr hI rfl
  have loop : ∀ (n i : Nat) (a : Nat → Nat), Ag 1 ad a → i + n = 6 → FG Γ 44 a 8 3647 [(1, .int (nI (i + 1))), (0, .ref 0)] [] (CW 0 0 0 0 0 0 0 (fun _ => 0) (fun _ => 0) (fun _ => 0) (fun _ => 0) (stC (i + 1)) (fun _ => 0)) := by
    intro n
    induction n with
    | zero =>
      intro i a g hi
      have : i = 6 := by omega
      subst this
      refine go OK [44] 60 ?_
      refine And.intro (fun _ => ?_) (fun q => absurd (show (6 : Int32) < nI 7 by decide) q)
      refine ⟨_, _, _, _, _, _, _, _, _, _, _, _, _, _, _, rfl, rfl, fun wl2 pr2 h1 h2 => ?_⟩
      exact ⟨g, hp wl2 pr2 h1 h2⟩
    | succ n ih =>
      intro i a g hi
      refine go OK [44] 60 ?_
      refine And.intro (fun q => ?_) (fun _ => ?_)
      · have := (ltN (a := 6) (by omega) (by omega)).mp q
        omega
      refine ⟨inS (by omega : i + 1 < 7) (by decide), ?_⟩
      rw [nI_clampS (by omega), stC_s (by omega)]
      have key := ih (i + 1) a g (by omega)
      rw [← nI_p1 (i + 1)] at key
      exact key
  refine go OK [44] 60 ?_
  refine fun a1 g1 => ?_
  refine ⟨[.inr (.inl (2, [.null, .null, .null, .null, .int 0, .int 0, .int 0, .int 0]))], [.inr (.inl (0, [.null, .null, .int 0, .int 0]))], [.ref 0], rfl, rfl, rfl, rfl, rfl, rfl, ⟨rfl, rfl, Nat.le_of_ble_eq_true rfl, Nat.le_of_ble_eq_true rfl, rfl, fun a2 g2 => ?_⟩⟩
  refine fun a3 g3 => ?_
  refine ⟨[.inr (.inl (2, [.ref 1, .null, .null, .null, .int 0, .int 0, .int 0, .int 0])), .inr (.inl (0, [.ref 2, .ref 3, .int 0, .int 0])), .inl (true, 49, fun _ => 0), .inl (false, 49, fun _ => 0)], [.inr (.inl (1, [.null, .null, .int 0]))], [.ref 0], rfl, rfl, rfl, rfl, rfl, rfl, ⟨rfl, rfl, Nat.le_of_ble_eq_true rfl, Nat.le_of_ble_eq_true rfl, rfl, fun a4 g4 => ?_⟩⟩
  refine ⟨rfl, fun a5 g5 => ⟨rfl, fun a6 g6 => ?_⟩⟩
  have G1 : Ag 1 ad a1 := g1
  have G2 : Ag 2 a1 a2 := g2
  have G3 : Ag 4 a2 a3 := g3
  have G4 : Ag 5 a3 a4 := g4
  have G5 : Ag 7 a4 a5 := g5
  have G6 : Ag 8 a5 a6 := g6
  have key := loop 6 0 a6 (((((G1.tr G2 (by omega)).tr G3 (by omega)).tr G4 (by omega)).tr G5 (by omega)).tr G6 (by omega)) rfl
  rw [stC_0] at key
  exact key
