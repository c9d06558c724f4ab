/-! ===== PaintedDie, what lies behind its face ===== -/
def inR (a : Int32) (lo hi : Nat) : Prop := ∃ n : Nat, a = nI n ∧ lo ≤ n ∧ n ≤ hi
theorem inR_of {a : Int32} {lo hi : Nat} (hl : lo < 10000) (hh : hi < 10000) (h1 : ¬ a < nI lo) (h2 : ¬ nI hi < a) : inR a lo hi := by
  rw [Int32.lt_iff_toInt_lt, nI_toInt (by omega)] at h1 h2
  refine ⟨a.toInt.toNat, ?_, by omega, by omega⟩
  apply Int32.toInt_inj.mp
  rw [nI_toInt (by omega)]
  omega
theorem inR_lo {a : Int32} {lo hi : Nat} (hl : lo < 10000) (hh : hi < 10000) (h : a < nI lo) : ¬ inR a lo hi := fun ⟨n, e, h1, h2⟩ => by
  rw [e] at h
  have := (ltN (by omega) hl).mp h
  omega
theorem inR_hi {a : Int32} {lo hi : Nat} (hl : lo < 10000) (hh : hi < 10000) (h : nI hi < a) : ¬ inR a lo hi := fun ⟨n, e, h1, h2⟩ => by
  rw [e] at h
  have := (ltN hh (by omega)).mp h
  omega
abbrev tX3_isFace : aTi := fun av X post => ∃ a : Int32, av = [.int a] ∧ (inR a 1 6 → post 1 X) ∧ (¬ inR a 1 6 → post 0 X)
abbrev rmX3_isFace : Room := { frames := 0, cells := 0, slots := 0, locals := 0 }
def tbX3_isFace (post : Int32 → List aE → Prop) (ad0 : Nat → Nat) : List (Nat × aO) := [(0, oIL 0 1),
  (1, oC (1) 2),
  (2, oIc_lt 15 5),
  (5, oIL 0 6),
  (6, oC (6) 8),
  (8, oIc_gt 15 11),
  (11, oC (1) 12),
  (12, oGo 16),
  (15, oC (0) 16),
  (16, oRz post ad0 rmX3_isFace.cells rmX3_isFace.slots)]
set_option maxRecDepth 20000 in
theorem okX3_isFace {Γ : aΓ} {post : Int32 → List aE → Prop} {ad0 : Nat → Nat} {X0 : List aE} (C : FOK Γ cX3_isFace wsX3_isFace RX3 1 rmX3_isFace) (hQ : isQ Γ (va_Qi post (aBk (gK Γ) ad0 X0 (hsz Γ)) (aA (gK Γ) ad0 X0 (hsz Γ))) rmX3_isFace ad0 X0) (hr : rTy Γ = some .boolean) : AllS Γ (tbX3_isFace post ad0) := by
  unfold tbX3_isFace
  refine al_c (pc := 0) (snd_iload_n C dX3_isFace_0 rfl) ?_
  refine al_c (pc := 1) (snd_iconst C dX3_isFace_1 (by decide)) ?_
  refine al_c (pc := 2) (snd_icmp_lt C dX3_isFace_2 (by decide)) ?_
  refine al_c (pc := 5) (snd_iload_n C dX3_isFace_5 rfl) ?_
  refine al_c (pc := 6) (snd_bipush C dX3_isFace_6 (by decide)) ?_
  refine al_c (pc := 8) (snd_icmp_gt C dX3_isFace_8 (by decide)) ?_
  refine al_c (pc := 11) (snd_iconst C dX3_isFace_11 (by decide)) ?_
  refine al_c (pc := 12) (snd_goto C dX3_isFace_12 (by decide)) ?_
  refine al_c (pc := 15) (snd_iconst C dX3_isFace_15 (by decide)) ?_
  refine al_c (pc := 16) (snd_Rz C hQ hr dX3_isFace_16) ?_
  exact al_0
set_option maxHeartbeats 1000000 in
set_option maxRecDepth 100000 in
theorem mX3_isFace : aMi yX3_isFace wsX3_isFace rmX3_isFace tX3_isFace := by
  refine aMz_of (by decide +kernel) rfl rfl (by intro av X post hT; obtain ⟨a, rfl, h1, h2⟩ := hT; exact Nat.le_of_ble_eq_true rfl) ?_
  intro Γ ad av X post C hQ hr hT
  obtain ⟨a, rfl, h1, h2⟩ := hT
  have OK := okX3_isFace C hQ hr
  refine go OK [] 40 ?_
  refine And.intro (fun q => ?_) (fun q1 => ?_)
  · exact ⟨Or.inl rfl, rfl, h2 (inR_lo (lo := 1) (by omega) (by omega) q)⟩
  refine And.intro (fun q => ?_) (fun q2 => ?_)
  · exact ⟨Or.inl rfl, rfl, h2 (inR_hi (hi := 6) (by omega) (by omega) q)⟩
  · exact ⟨Or.inr rfl, rfl, h1 (inR_of (lo := 1) (hi := 6) (by omega) (by omega) q1 q2)⟩
abbrev tX3_isSide : aTi := fun av X post => ∃ a : Int32, av = [.int a] ∧ (inR a 2 7 → post 1 X) ∧ (¬ inR a 2 7 → post 0 X)
abbrev rmX3_isSide : Room := { frames := 0, cells := 0, slots := 0, locals := 0 }
def tbX3_isSide (post : Int32 → List aE → Prop) (ad0 : Nat → Nat) : List (Nat × aO) := [(0, oIL 0 1),
  (1, oC (2) 2),
  (2, oIc_lt 15 5),
  (5, oIL 0 6),
  (6, oC (7) 8),
  (8, oIc_gt 15 11),
  (11, oC (1) 12),
  (12, oGo 16),
  (15, oC (0) 16),
  (16, oRz post ad0 rmX3_isSide.cells rmX3_isSide.slots)]
set_option maxRecDepth 20000 in
theorem okX3_isSide {Γ : aΓ} {post : Int32 → List aE → Prop} {ad0 : Nat → Nat} {X0 : List aE} (C : FOK Γ cX3_isSide wsX3_isSide RX3 1 rmX3_isSide) (hQ : isQ Γ (va_Qi post (aBk (gK Γ) ad0 X0 (hsz Γ)) (aA (gK Γ) ad0 X0 (hsz Γ))) rmX3_isSide ad0 X0) (hr : rTy Γ = some .boolean) : AllS Γ (tbX3_isSide post ad0) := by
  unfold tbX3_isSide
  refine al_c (pc := 0) (snd_iload_n C dX3_isSide_0 rfl) ?_
  refine al_c (pc := 1) (snd_iconst C dX3_isSide_1 (by decide)) ?_
  refine al_c (pc := 2) (snd_icmp_lt C dX3_isSide_2 (by decide)) ?_
  refine al_c (pc := 5) (snd_iload_n C dX3_isSide_5 rfl) ?_
  refine al_c (pc := 6) (snd_bipush C dX3_isSide_6 (by decide)) ?_
  refine al_c (pc := 8) (snd_icmp_gt C dX3_isSide_8 (by decide)) ?_
  refine al_c (pc := 11) (snd_iconst C dX3_isSide_11 (by decide)) ?_
  refine al_c (pc := 12) (snd_goto C dX3_isSide_12 (by decide)) ?_
  refine al_c (pc := 15) (snd_iconst C dX3_isSide_15 (by decide)) ?_
  refine al_c (pc := 16) (snd_Rz C hQ hr dX3_isSide_16) ?_
  exact al_0
set_option maxHeartbeats 1000000 in
set_option maxRecDepth 100000 in
theorem mX3_isSide : aMi yX3_isSide wsX3_isSide rmX3_isSide tX3_isSide := by
  refine aMz_of (by decide +kernel) rfl rfl (by intro av X post hT; obtain ⟨a, rfl, h1, h2⟩ := hT; exact Nat.le_of_ble_eq_true rfl) ?_
  intro Γ ad av X post C hQ hr hT
  obtain ⟨a, rfl, h1, h2⟩ := hT
  have OK := okX3_isSide C hQ hr
  refine go OK [] 40 ?_
  refine And.intro (fun q => ?_) (fun q1 => ?_)
  · exact ⟨Or.inl rfl, rfl, h2 (inR_lo (lo := 2) (by omega) (by omega) q)⟩
  refine And.intro (fun q => ?_) (fun q2 => ?_)
  · exact ⟨Or.inl rfl, rfl, h2 (inR_hi (hi := 7) (by omega) (by omega) q)⟩
  · exact ⟨Or.inr rfl, rfl, h1 (inR_of (lo := 2) (hi := 7) (by omega) (by omega) q1 q2)⟩
abbrev IOOB : String := "java/lang/IndexOutOfBoundsException"
abbrev IAE : String := "java/lang/IllegalArgumentException"
abbrev ISE : String := "java/lang/IllegalStateException"
abbrev tX3_checkFace : xTv := fun av X post ex => ∃ a : Int32, av = [.int a] ∧ (inR a 1 6 → post X) ∧ (¬ inR a 1 6 → ex "java/lang/IndexOutOfBoundsException" X)
abbrev rmX3_checkFace : Room := { frames := 6, cells := 1, slots := 6, locals := 90 }
def tbX3_checkFace (post : List aE → Prop) (ex : aXp) (ad0 : Nat → Nat) : List (Nat × aO) := [(0, oIL 0 1),
  (1, oCi tX3_isFace 1 none rmX3_isFace.cells rmX3_isFace.slots rmX3_checkFace.cells rmX3_checkFace.slots 4),
  (4, oIf_ne 17 7),
  (7, oTh "java/lang/IndexOutOfBoundsException" ex ad0 rmX3_checkFace.cells rmX3_checkFace.slots),
  (17, oRv post ad0 rmX3_checkFace.cells rmX3_checkFace.slots)]
set_option maxRecDepth 20000 in
theorem okX3_checkFace {Γ : aΓ} {post : List aE → Prop} {ex : aXp} {ad0 : Nat → Nat} {X0 : List aE} (C : FOK Γ cX3_checkFace wsX3_checkFace RX3 1 rmX3_checkFace) (hQ : isQ Γ (va_Qv post (aBk (gK Γ) ad0 X0 (hsz Γ)) (aA (gK Γ) ad0 X0 (hsz Γ))) rmX3_checkFace ad0 X0) (hr : rTy Γ = none) (CX : FOX Γ) (hX : isX Γ ex rmX3_checkFace ad0 X0) : AllS Γ (tbX3_checkFace post ex ad0) := by
  unfold tbX3_checkFace
  refine al_c (pc := 0) (snd_iload_n C dX3_checkFace_0 rfl) ?_
  refine al_c (pc := 1) (snd_Ci C (site_S C dX3_checkFace_1 gX3_checkFace_X3_isFace rfl rfl rfl ⟨by decide +kernel, by decide +kernel, by decide +kernel⟩ ⟨by decide, by decide⟩) mX3_isFace) ?_
  refine al_c (pc := 4) (snd_if_ne C dX3_checkFace_4 (by decide)) ?_
  refine al_c (pc := 7) (snd_Th (names := ["java/lang/RuntimeException", "java/lang/Exception"]) (text := "a face is 1 to 6") C CX hX (by decide +kernel) (by decide +kernel) (ik := 148) (is := 247) (ic := 152) (by decide +kernel) (by decide +kernel) (by decide +kernel) (by decide +kernel) (by decide +kernel) dX3_checkFace_7 dX3_checkFace_10 dX3_checkFace_11 dX3_checkFace_13 dX3_checkFace_16 (by decide) (by decide)) ?_
  refine al_c (pc := 17) (snd_Rv C hQ hr dX3_checkFace_17) ?_
  exact al_0
set_option maxHeartbeats 1000000 in
set_option maxRecDepth 100000 in
theorem mX3_checkFace : xMv yX3_checkFace wsX3_checkFace rmX3_checkFace tX3_checkFace := by
  refine xMv_of (by decide +kernel) rfl rfl (by intro av X post ex hT; obtain ⟨a, rfl, h1, h2⟩ := hT; exact Nat.le_of_ble_eq_true rfl) ?_
  intro Γ ad av X post ex C CX hQ hX hr hT
  obtain ⟨a, rfl, h1, h2⟩ := hT
  have OK := okX3_checkFace C hQ hr CX hX
  refine go OK [] 40 ?_
  refine ⟨a, rfl, fun q => ?_, fun q => ?_⟩
  · refine And.intro (fun _ => ?_) (fun q2 => absurd q2 (by decide))
    exact ⟨rfl, h1 q⟩
  · refine And.intro (fun q2 => absurd rfl q2) (fun _ => ?_)
    exact ⟨rfl, h2 q⟩
abbrev tX3_checkDirection : xTv := fun av X post ex => ∃ a : Int32, av = [.int a] ∧ (inR a 0 3 → post X) ∧ (¬ inR a 0 3 → ex "java/lang/IndexOutOfBoundsException" X)
abbrev rmX3_checkDirection : Room := { frames := 6, cells := 1, slots := 6, locals := 90 }
def tbX3_checkDirection (post : List aE → Prop) (ex : aXp) (ad0 : Nat → Nat) : List (Nat × aO) := [(0, oIL 0 1),
  (1, oIf_lt 9 4),
  (4, oIL 0 5),
  (5, oC (4) 6),
  (6, oIc_lt 19 9),
  (9, oTh "java/lang/IndexOutOfBoundsException" ex ad0 rmX3_checkDirection.cells rmX3_checkDirection.slots),
  (19, oRv post ad0 rmX3_checkDirection.cells rmX3_checkDirection.slots)]
set_option maxRecDepth 20000 in
theorem okX3_checkDirection {Γ : aΓ} {post : List aE → Prop} {ex : aXp} {ad0 : Nat → Nat} {X0 : List aE} (C : FOK Γ cX3_checkDirection wsX3_checkDirection RX3 1 rmX3_checkDirection) (hQ : isQ Γ (va_Qv post (aBk (gK Γ) ad0 X0 (hsz Γ)) (aA (gK Γ) ad0 X0 (hsz Γ))) rmX3_checkDirection ad0 X0) (hr : rTy Γ = none) (CX : FOX Γ) (hX : isX Γ ex rmX3_checkDirection ad0 X0) : AllS Γ (tbX3_checkDirection post ex ad0) := by
  unfold tbX3_checkDirection
  refine al_c (pc := 0) (snd_iload_n C dX3_checkDirection_0 rfl) ?_
  refine al_c (pc := 1) (snd_if_lt C dX3_checkDirection_1 (by decide)) ?_
  refine al_c (pc := 4) (snd_iload_n C dX3_checkDirection_4 rfl) ?_
  refine al_c (pc := 5) (snd_iconst C dX3_checkDirection_5 (by decide)) ?_
  refine al_c (pc := 6) (snd_icmp_lt C dX3_checkDirection_6 (by decide)) ?_
  refine al_c (pc := 9) (snd_Th (names := ["java/lang/RuntimeException", "java/lang/Exception"]) (text := "a direction is 0 to 3") C CX hX (by decide +kernel) (by decide +kernel) (ik := 148) (is := 249) (ic := 152) (by decide +kernel) (by decide +kernel) (by decide +kernel) (by decide +kernel) (by decide +kernel) dX3_checkDirection_9 dX3_checkDirection_12 dX3_checkDirection_13 dX3_checkDirection_15 dX3_checkDirection_18 (by decide) (by decide)) ?_
  refine al_c (pc := 19) (snd_Rv C hQ hr dX3_checkDirection_19) ?_
  exact al_0
set_option maxHeartbeats 1000000 in
set_option maxRecDepth 100000 in
theorem mX3_checkDirection : xMv yX3_checkDirection wsX3_checkDirection rmX3_checkDirection tX3_checkDirection := by
  refine xMv_of (by decide +kernel) rfl rfl (by intro av X post ex hT; obtain ⟨a, rfl, h1, h2⟩ := hT; exact Nat.le_of_ble_eq_true rfl) ?_
  intro Γ ad av X post ex C CX hQ hX hr hT
  obtain ⟨a, rfl, h1, h2⟩ := hT
  have OK := okX3_checkDirection C hQ hr CX hX
  refine go OK [] 40 ?_
  refine And.intro (fun q => ?_) (fun q1 => ?_)
  · exact ⟨rfl, h2 (inR_lo (lo := 0) (by omega) (by omega) q)⟩
  refine And.intro (fun q => ?_) (fun q2 => ?_)
  · exact ⟨rfl, h1 (inR_of (lo := 0) (hi := 3) (by omega) (by omega) q1 (fun z => by
      rw [Int32.lt_iff_toInt_lt] at z q
      have e3 : (nI 3).toInt = 3 := by decide
      have e4 : (4 : Int32).toInt = 4 := by decide
      omega))⟩
  · refine ⟨rfl, h2 (fun ⟨n, e, g1, g2⟩ => q2 ?_)⟩
    rw [e]
    exact (ltN (b := 4) (by omega) (by omega)).mpr (by omega)
abbrev tX3_checkCell : xTv := fun av X post ex => ∃ (a b : Int32) (k tt w h : Nat) (rm pm fd : Int32) (wl pr fe qu co pa : Nat → Int32), av = [.ref 0, .int a, .int b] ∧ X = CW (nI k) (nI tt) rm pm (nI w) (nI h) fd wl pr fe qu co pa ∧ w ≤ 7 ∧ h ≤ 7 ∧ (inB a b w h → post X) ∧ (¬ inB a b w h → ex "java/lang/IndexOutOfBoundsException" X)
abbrev rmX3_checkCell : Room := { frames := 6, cells := 1, slots := 6, locals := 90 }
theorem inX3_checkCell_X3 : ∀ w ∈ wsX30, w ∈ wsX3_checkCell := by decide +kernel
def tbX3_checkCell (post : List aE → Prop) (ex : aXp) (ad0 : Nat → Nat) : List (Nat × aO) := [(0, oAL 0 1),
  (1, oGet 2 0 4),
  (4, oIL 1 5),
  (5, oIL 2 6),
  (6, oCi tX0_has 3 (some 0) rmX0_has.cells rmX0_has.slots rmX3_checkCell.cells rmX3_checkCell.slots 9),
  (9, oIf_ne 22 12),
  (12, oTh "java/lang/IndexOutOfBoundsException" ex ad0 rmX3_checkCell.cells rmX3_checkCell.slots),
  (22, oRv post ad0 rmX3_checkCell.cells rmX3_checkCell.slots)]
set_option maxRecDepth 20000 in
theorem okX3_checkCell {Γ : aΓ} {post : List aE → Prop} {ex : aXp} {ad0 : Nat → Nat} {X0 : List aE} (C : FOK Γ cX3_checkCell wsX3_checkCell RX3 3 rmX3_checkCell) (hQ : isQ Γ (va_Qv post (aBk (gK Γ) ad0 X0 (hsz Γ)) (aA (gK Γ) ad0 X0 (hsz Γ))) rmX3_checkCell ad0 X0) (hr : rTy Γ = none) (CX : FOX Γ) (hX : isX Γ ex rmX3_checkCell ad0 X0) : AllS Γ (tbX3_checkCell post ex ad0) := by
  unfold tbX3_checkCell
  refine al_c (pc := 0) (snd_aload_n C dX3_checkCell_0 rfl) ?_
  refine al_c (pc := 1) (snd_get C dX3_checkCell_1 (ci := 2) (kf := 0) rfl (by decide) inX3_checkCell_X3 rfl (by decide +kernel)) ?_
  refine al_c (pc := 4) (snd_iload_n C dX3_checkCell_4 rfl) ?_
  refine al_c (pc := 5) (snd_iload_n C dX3_checkCell_5 rfl) ?_
  refine al_c (pc := 6) (snd_Ci C (site_VN C rfl dX3_checkCell_6 gX3_checkCell_X0_has_n242 rfl rfl rfl (by decide +kernel) (by decide +kernel) (by decide +kernel) (by decide +kernel) ⟨by decide +kernel, by decide +kernel, by decide +kernel⟩ ⟨by decide, by decide⟩) mX0_has) ?_
  refine al_c (pc := 9) (snd_if_ne C dX3_checkCell_9 (by decide)) ?_
  refine al_c (pc := 12) (snd_Th (names := ["java/lang/RuntimeException", "java/lang/Exception"]) (text := "there is no such cell") C CX hX (by decide +kernel) (by decide +kernel) (ik := 148) (is := 245) (ic := 152) (by decide +kernel) (by decide +kernel) (by decide +kernel) (by decide +kernel) (by decide +kernel) dX3_checkCell_12 dX3_checkCell_15 dX3_checkCell_16 dX3_checkCell_18 dX3_checkCell_21 (by decide) (by decide)) ?_
  refine al_c (pc := 22) (snd_Rv C hQ hr dX3_checkCell_22) ?_
  exact al_0
set_option maxHeartbeats 1000000 in
set_option maxRecDepth 100000 in
theorem mX3_checkCell : xMv yX3_checkCell wsX3_checkCell rmX3_checkCell tX3_checkCell := by
  refine xMv_of (by decide +kernel) rfl rfl (by intro av X post ex hT; obtain ⟨a, b, k, tt, w, h, rm, pm, fd, wl, pr, fe, qu, co, pa, rfl, rfl, hw, hh, h1, h2⟩ := hT; exact Nat.le_of_ble_eq_true rfl) ?_
  intro Γ ad av X post ex C CX hQ hX hr hT
  obtain ⟨a, b, k, tt, w, h, rm, pm, fd, wl, pr, fe, qu, co, pa, rfl, rfl, hw, hh, h1, h2⟩ := hT
  have OK := okX3_checkCell C hQ hr CX hX
  refine go OK [] 40 ?_
  refine ⟨_, _, _, _, _, _, _, _, _, _, _, _, _, _, _, rfl, rfl, hw, hh, fun q => ?_, fun q => ?_⟩
  · refine And.intro (fun _ => ?_) (fun q2 => absurd q2 (by decide))
    exact ⟨rfl, h1 q⟩
  · refine And.intro (fun q2 => absurd rfl q2) (fun _ => ?_)
    exact ⟨rfl, h2 q⟩
abbrev tX3_column : aTi := fun av X post => ∃ (k tt w h : Nat) (rm pm fd : Int32) (wl pr fe qu co pa : Nat → Int32), av = [.ref 0] ∧ X = CW (nI k) (nI tt) rm pm (nI w) (nI h) fd wl pr fe qu co pa ∧ k < 49 ∧ post (nI (k % 7)) X
abbrev rmX3_column : Room := { frames := 1, cells := 0, slots := 0, locals := 20 }
theorem inX3_column_X3 : ∀ w ∈ wsX30, w ∈ wsX3_column := by decide +kernel
def tbX3_column (post : Int32 → List aE → Prop) (ad0 : Nat → Nat) : List (Nat × aO) := [(0, oAL 0 1),
  (1, oGet 2 4 4),
  (4, oCi tX0_columnOf 1 none rmX0_columnOf.cells rmX0_columnOf.slots rmX3_column.cells rmX3_column.slots 7),
  (7, oRi post ad0 rmX3_column.cells rmX3_column.slots)]
set_option maxRecDepth 20000 in
theorem okX3_column {Γ : aΓ} {post : Int32 → List aE → Prop} {ad0 : Nat → Nat} {X0 : List aE} (C : FOK Γ cX3_column wsX3_column RX3 1 rmX3_column) (hQ : isQ Γ (va_Qi post (aBk (gK Γ) ad0 X0 (hsz Γ)) (aA (gK Γ) ad0 X0 (hsz Γ))) rmX3_column ad0 X0) (hr : rTy Γ = some .int) : AllS Γ (tbX3_column post ad0) := by
  unfold tbX3_column
  refine al_c (pc := 0) (snd_aload_n C dX3_column_0 rfl) ?_
  refine al_c (pc := 1) (snd_get C dX3_column_1 (ci := 2) (kf := 4) rfl (by decide) inX3_column_X3 rfl (by decide +kernel)) ?_
  refine al_c (pc := 4) (snd_Ci C (site_SN C dX3_column_4 gX3_column_X0_columnOf_n112 rfl rfl rfl (by decide +kernel) (by decide +kernel) (by decide +kernel) ⟨by decide +kernel, by decide +kernel, by decide +kernel⟩ ⟨by decide, by decide⟩) mX0_columnOf) ?_
  refine al_c (pc := 7) (snd_Ri C hQ hr dX3_column_7) ?_
  exact al_0
set_option maxHeartbeats 1000000 in
set_option maxRecDepth 100000 in
theorem mX3_column : aMi yX3_column wsX3_column rmX3_column tX3_column := by
  refine aMi_of (by decide +kernel) rfl rfl (by intro av X post hT; obtain ⟨k, tt, w, h, rm, pm, fd, wl, pr, fe, qu, co, pa, rfl, rfl, hk, hp⟩ := hT; exact Nat.le_of_ble_eq_true rfl) ?_
  intro Γ ad av X post C hQ hr hT
  obtain ⟨k, tt, w, h, rm, pm, fd, wl, pr, fe, qu, co, pa, rfl, rfl, hk, hp⟩ := hT
  have OK := okX3_column C hQ hr
  refine go OK [] 40 ?_
  exact ⟨_, _, rfl, rfl, hk, rfl, hp⟩
abbrev tX3_row : aTi := fun av X post => ∃ (k tt w h : Nat) (rm pm fd : Int32) (wl pr fe qu co pa : Nat → Int32), av = [.ref 0] ∧ X = CW (nI k) (nI tt) rm pm (nI w) (nI h) fd wl pr fe qu co pa ∧ k < 49 ∧ post (nI (k / 7)) X
abbrev rmX3_row : Room := { frames := 1, cells := 0, slots := 0, locals := 20 }
theorem inX3_row_X3 : ∀ w ∈ wsX30, w ∈ wsX3_row := by decide +kernel
def tbX3_row (post : Int32 → List aE → Prop) (ad0 : Nat → Nat) : List (Nat × aO) := [(0, oAL 0 1),
  (1, oGet 2 4 4),
  (4, oCi tX0_rowOf 1 none rmX0_rowOf.cells rmX0_rowOf.slots rmX3_row.cells rmX3_row.slots 7),
  (7, oRi post ad0 rmX3_row.cells rmX3_row.slots)]
set_option maxRecDepth 20000 in
theorem okX3_row {Γ : aΓ} {post : Int32 → List aE → Prop} {ad0 : Nat → Nat} {X0 : List aE} (C : FOK Γ cX3_row wsX3_row RX3 1 rmX3_row) (hQ : isQ Γ (va_Qi post (aBk (gK Γ) ad0 X0 (hsz Γ)) (aA (gK Γ) ad0 X0 (hsz Γ))) rmX3_row ad0 X0) (hr : rTy Γ = some .int) : AllS Γ (tbX3_row post ad0) := by
  unfold tbX3_row
  refine al_c (pc := 0) (snd_aload_n C dX3_row_0 rfl) ?_
  refine al_c (pc := 1) (snd_get C dX3_row_1 (ci := 2) (kf := 4) rfl (by decide) inX3_row_X3 rfl (by decide +kernel)) ?_
  refine al_c (pc := 4) (snd_Ci C (site_SN C dX3_row_4 gX3_row_X0_rowOf_n115 rfl rfl rfl (by decide +kernel) (by decide +kernel) (by decide +kernel) ⟨by decide +kernel, by decide +kernel, by decide +kernel⟩ ⟨by decide, by decide⟩) mX0_rowOf) ?_
  refine al_c (pc := 7) (snd_Ri C hQ hr dX3_row_7) ?_
  exact al_0
set_option maxHeartbeats 1000000 in
set_option maxRecDepth 100000 in
theorem mX3_row : aMi yX3_row wsX3_row rmX3_row tX3_row := by
  refine aMi_of (by decide +kernel) rfl rfl (by intro av X post hT; obtain ⟨k, tt, w, h, rm, pm, fd, wl, pr, fe, qu, co, pa, rfl, rfl, hk, hp⟩ := hT; exact Nat.le_of_ble_eq_true rfl) ?_
  intro Γ ad av X post C hQ hr hT
  obtain ⟨k, tt, w, h, rm, pm, fd, wl, pr, fe, qu, co, pa, rfl, rfl, hk, hp⟩ := hT
  have OK := okX3_row C hQ hr
  refine go OK [] 40 ?_
  exact ⟨_, _, rfl, rfl, hk, rfl, hp⟩
abbrev tX3_top : aTi := fun av X post => ∃ (k tt w h : Nat) (rm pm fd : Int32) (wl pr fe qu co pa : Nat → Int32), av = [.ref 0] ∧ X = CW (nI k) (nI tt) rm pm (nI w) (nI h) fd wl pr fe qu co pa ∧ tt < 36 ∧ post (nI (tt / 6 + 1)) X
abbrev rmX3_top : Room := { frames := 1, cells := 0, slots := 0, locals := 20 }
theorem inX3_top_X3 : ∀ w ∈ wsX30, w ∈ wsX3_top := by decide +kernel
def tbX3_top (post : Int32 → List aE → Prop) (ad0 : Nat → Nat) : List (Nat × aO) := [(0, oAL 0 1),
  (1, oGet 2 5 4),
  (4, oCi tX2_topOf 1 none rmX2_topOf.cells rmX2_topOf.slots rmX3_top.cells rmX3_top.slots 7),
  (7, oRi post ad0 rmX3_top.cells rmX3_top.slots)]
set_option maxRecDepth 20000 in
theorem okX3_top {Γ : aΓ} {post : Int32 → List aE → Prop} {ad0 : Nat → Nat} {X0 : List aE} (C : FOK Γ cX3_top wsX3_top RX3 1 rmX3_top) (hQ : isQ Γ (va_Qi post (aBk (gK Γ) ad0 X0 (hsz Γ)) (aA (gK Γ) ad0 X0 (hsz Γ))) rmX3_top ad0 X0) (hr : rTy Γ = some .int) : AllS Γ (tbX3_top post ad0) := by
  unfold tbX3_top
  refine al_c (pc := 0) (snd_aload_n C dX3_top_0 rfl) ?_
  refine al_c (pc := 1) (snd_get C dX3_top_1 (ci := 2) (kf := 5) rfl (by decide) inX3_top_X3 rfl (by decide +kernel)) ?_
  refine al_c (pc := 4) (snd_Ci C (site_SN C dX3_top_4 gX3_top_X2_topOf_n118 rfl rfl rfl (by decide +kernel) (by decide +kernel) (by decide +kernel) ⟨by decide +kernel, by decide +kernel, by decide +kernel⟩ ⟨by decide, by decide⟩) mX2_topOf) ?_
  refine al_c (pc := 7) (snd_Ri C hQ hr dX3_top_7) ?_
  exact al_0
set_option maxHeartbeats 1000000 in
set_option maxRecDepth 100000 in
theorem mX3_top : aMi yX3_top wsX3_top rmX3_top tX3_top := by
  refine aMi_of (by decide +kernel) rfl rfl (by intro av X post hT; obtain ⟨k, tt, w, h, rm, pm, fd, wl, pr, fe, qu, co, pa, rfl, rfl, ht, hp⟩ := hT; exact Nat.le_of_ble_eq_true rfl) ?_
  intro Γ ad av X post C hQ hr hT
  obtain ⟨k, tt, w, h, rm, pm, fd, wl, pr, fe, qu, co, pa, rfl, rfl, ht, hp⟩ := hT
  have OK := okX3_top C hQ hr
  refine go OK [] 40 ?_
  exact ⟨_, _, rfl, rfl, ht, rfl, hp⟩
theorem n7 : ∀ n, n < 8 → 7 - nI n = nI (7 - n) := by decide +kernel
abbrev tX3_bottom : aTi := fun av X post => ∃ (k tt w h : Nat) (rm pm fd : Int32) (wl pr fe qu co pa : Nat → Int32), av = [.ref 0] ∧ X = CW (nI k) (nI tt) rm pm (nI w) (nI h) fd wl pr fe qu co pa ∧ tt < 36 ∧ post (nI (7 - (tt / 6 + 1))) X
abbrev rmX3_bottom : Room := { frames := 2, cells := 0, slots := 0, locals := 40 }
def tbX3_bottom (post : Int32 → List aE → Prop) (ad0 : Nat → Nat) : List (Nat × aO) := [(0, oC (7) 2),
  (2, oAL 0 3),
  (3, oCi tX3_top 1 (some 2) rmX3_top.cells rmX3_top.slots rmX3_bottom.cells rmX3_bottom.slots 6),
  (6, oIsub 7),
  (7, oRi post ad0 rmX3_bottom.cells rmX3_bottom.slots)]
set_option maxRecDepth 20000 in
theorem okX3_bottom {Γ : aΓ} {post : Int32 → List aE → Prop} {ad0 : Nat → Nat} {X0 : List aE} (C : FOK Γ cX3_bottom wsX3_bottom RX3 1 rmX3_bottom) (hQ : isQ Γ (va_Qi post (aBk (gK Γ) ad0 X0 (hsz Γ)) (aA (gK Γ) ad0 X0 (hsz Γ))) rmX3_bottom ad0 X0) (hr : rTy Γ = some .int) : AllS Γ (tbX3_bottom post ad0) := by
  unfold tbX3_bottom
  refine al_c (pc := 0) (snd_bipush C dX3_bottom_0 (by decide)) ?_
  refine al_c (pc := 2) (snd_aload_n C dX3_bottom_2 rfl) ?_
  refine al_c (pc := 3) (snd_Ci C (site_V C rfl dX3_bottom_3 gX3_bottom_X3_top rfl rfl rfl ⟨rfl, by decide +kernel, by decide +kernel, by decide +kernel⟩ ⟨by decide, by decide⟩) mX3_top) ?_
  refine al_c (pc := 6) (snd_isub C dX3_bottom_6) ?_
  refine al_c (pc := 7) (snd_Ri C hQ hr dX3_bottom_7) ?_
  exact al_0
set_option maxHeartbeats 1000000 in
set_option maxRecDepth 100000 in
theorem mX3_bottom : aMi yX3_bottom wsX3_bottom rmX3_bottom tX3_bottom := by
  refine aMi_of (by decide +kernel) rfl rfl (by intro av X post hT; obtain ⟨k, tt, w, h, rm, pm, fd, wl, pr, fe, qu, co, pa, rfl, rfl, ht, hp⟩ := hT; exact Nat.le_of_ble_eq_true rfl) ?_
  intro Γ ad av X post C hQ hr hT
  obtain ⟨k, tt, w, h, rm, pm, fd, wl, pr, fe, qu, co, pa, rfl, rfl, ht, hp⟩ := hT
  have OK := okX3_bottom C hQ hr
  refine go OK [] 40 ?_
  refine ⟨_, _, _, _, _, _, _, _, _, _, _, _, _, rfl, rfl, ht, rfl, ?_⟩
  show post (7 - nI (tt / 6 + 1)) (CW (nI k) (nI tt) rm pm (nI w) (nI h) fd wl pr fe qu co pa)
  rw [n7 _ (by omega)]
  exact hp
abbrev tX3_startOn : aTv := fun av X post => ∃ (a b c t w0 h0 rm pm fd : Int32) (wl pr fe qu co pa : Nat → Int32), av = [.ref 0, .int a, .int b] ∧ X = CW c t rm pm w0 h0 fd wl pr fe qu co pa ∧ ∀ wl2 pr2 : Nat → Int32, (∀ k, k < 49 → wl2 k = 0) → (∀ k, k < 49 → pr2 k = 0) → post (CW 0 1 0 0 a b fd wl2 pr2 fe qu co pa)
abbrev rmX3_startOn : Room := { frames := 1, cells := 0, slots := 0, locals := 23 }
theorem inX3_startOn_X3 : ∀ w ∈ wsX30, w ∈ wsX3_startOn := by decide +kernel
def tbX3_startOn (post : List aE → Prop) (ad0 : Nat → Nat) : List (Nat × aO) := [(0, oAL 0 1),
  (1, oGet 2 0 4),
  (4, oIL 1 5),
  (5, oIL 2 6),
  (6, oCv tX0_layOut 3 (some 0) rmX0_layOut.cells rmX0_layOut.slots rmX3_startOn.cells rmX3_startOn.slots 9),
  (9, oAL 0 10),
  (10, oC (0) 11),
  (11, oPut 2 4 14),
  (14, oAL 0 15),
  (15, oC (1) 16),
  (16, oPut 2 5 19),
  (19, oAL 0 20),
  (20, oC (0) 21),
  (21, oPut 2 6 24),
  (24, oAL 0 25),
  (25, oC (0) 26),
  (26, oPut 2 7 29),
  (29, oRv post ad0 rmX3_startOn.cells rmX3_startOn.slots)]
set_option maxRecDepth 20000 in
theorem okX3_startOn {Γ : aΓ} {post : List aE → Prop} {ad0 : Nat → Nat} {X0 : List aE} (C : FOK Γ cX3_startOn wsX3_startOn RX3 3 rmX3_startOn) (hQ : isQ Γ (va_Qv post (aBk (gK Γ) ad0 X0 (hsz Γ)) (aA (gK Γ) ad0 X0 (hsz Γ))) rmX3_startOn ad0 X0) (hr : rTy Γ = none) : AllS Γ (tbX3_startOn post ad0) := by
  unfold tbX3_startOn
  refine al_c (pc := 0) (snd_aload_n C dX3_startOn_0 rfl) ?_
  refine al_c (pc := 1) (snd_get C dX3_startOn_1 (ci := 2) (kf := 0) rfl (by decide) inX3_startOn_X3 rfl (by decide +kernel)) ?_
  refine al_c (pc := 4) (snd_iload_n C dX3_startOn_4 rfl) ?_
  refine al_c (pc := 5) (snd_iload_n C dX3_startOn_5 rfl) ?_
  refine al_c (pc := 6) (snd_Cv C (site_VN C rfl dX3_startOn_6 gX3_startOn_X0_layOut_n213 rfl rfl rfl (by decide +kernel) (by decide +kernel) (by decide +kernel) (by decide +kernel) ⟨by decide +kernel, by decide +kernel, by decide +kernel⟩ ⟨by decide, by decide⟩) mX0_layOut) ?_
  refine al_c (pc := 9) (snd_aload_n C dX3_startOn_9 rfl) ?_
  refine al_c (pc := 10) (snd_iconst C dX3_startOn_10 (by decide)) ?_
  refine al_c (pc := 11) (snd_put C dX3_startOn_11 (ci := 2) (kf := 4) rfl (by decide) inX3_startOn_X3 tyX3_ok nmX3 rfl rfl rfl (by decide +kernel)) ?_
  refine al_c (pc := 14) (snd_aload_n C dX3_startOn_14 rfl) ?_
  refine al_c (pc := 15) (snd_iconst C dX3_startOn_15 (by decide)) ?_
  refine al_c (pc := 16) (snd_put C dX3_startOn_16 (ci := 2) (kf := 5) rfl (by decide) inX3_startOn_X3 tyX3_ok nmX3 rfl rfl rfl (by decide +kernel)) ?_
  refine al_c (pc := 19) (snd_aload_n C dX3_startOn_19 rfl) ?_
  refine al_c (pc := 20) (snd_iconst C dX3_startOn_20 (by decide)) ?_
  refine al_c (pc := 21) (snd_put C dX3_startOn_21 (ci := 2) (kf := 6) rfl (by decide) inX3_startOn_X3 tyX3_ok nmX3 rfl rfl rfl (by decide +kernel)) ?_
  refine al_c (pc := 24) (snd_aload_n C dX3_startOn_24 rfl) ?_
  refine al_c (pc := 25) (snd_iconst C dX3_startOn_25 (by decide)) ?_
  refine al_c (pc := 26) (snd_put C dX3_startOn_26 (ci := 2) (kf := 7) rfl (by decide) inX3_startOn_X3 tyX3_ok nmX3 rfl rfl rfl (by decide +kernel)) ?_
  refine al_c (pc := 29) (snd_Rv C hQ hr dX3_startOn_29) ?_
  exact al_0
set_option maxHeartbeats 1000000 in
set_option maxRecDepth 100000 in
theorem mX3_startOn : aMv yX3_startOn wsX3_startOn rmX3_startOn tX3_startOn := by
  refine aMv_of (by decide +kernel) rfl rfl (by intro av X post hT; obtain ⟨a, b, c, t, w0, h0, rm, pm, fd, wl, pr, fe, qu, co, pa, rfl, rfl, hp⟩ := hT; exact Nat.le_of_ble_eq_true rfl) ?_
  intro Γ ad av X post C hQ hr hT
  obtain ⟨a, b, c, t, w0, h0, rm, pm, fd, wl, pr, fe, qu, co, pa, rfl, rfl, hp⟩ := hT
  have OK := okX3_startOn C hQ hr
  refine go OK [] 40 ?_
  refine ⟨_, _, _, _, _, _, _, _, _, _, _, _, _, _, _, rfl, rfl, fun wl2 pr2 h1 h2 => ?_⟩
  exact ⟨rfl, hp wl2 pr2 h1 h2⟩
/-- what a roll prints: dn is the face that is at the bottom then -/
def prP (pa : Nat → Int32) (dn k : Nat) (co pr : Nat → Int32) : Nat → Int32 := if 0 < pa dn then upd pr k (co dn) else pr
def paP (pa : Nat → Int32) (dn : Nat) : Nat → Int32 := if 0 < pa dn then upd pa dn (pa dn - 1) else pa
def pmP (pa : Nat → Int32) (dn : Nat) (pm : Int32) : Int32 := if 0 < pa dn then pm + 1 else pm
abbrev tX3_printHere : aTv := fun av X post => ∃ (k tt w h : Nat) (rm pm fd : Int32) (wl pr fe qu co pa : Nat → Int32), av = [.ref 0] ∧ X = CW (nI k) (nI tt) rm pm (nI w) (nI h) fd wl pr fe qu co pa ∧ k < 49 ∧ tt < 36 ∧ post (CW (nI k) (nI tt) rm (pmP pa (7 - (tt / 6 + 1)) pm) (nI w) (nI h) fd wl (prP pa (7 - (tt / 6 + 1)) k co pr) fe qu co (paP pa (7 - (tt / 6 + 1))))
abbrev rmX3_printHere : Room := { frames := 3, cells := 0, slots := 0, locals := 60 }
theorem inX3_printHere_X3 : ∀ w ∈ wsX30, w ∈ wsX3_printHere := by decide +kernel
def tbX3_printHere (post : List aE → Prop) (ad0 : Nat → Nat) : List (Nat × aO) := [(0, oAL 0 1),
  (1, oCi tX3_bottom 1 (some 2) rmX3_bottom.cells rmX3_bottom.slots rmX3_printHere.cells rmX3_printHere.slots 4),
  (4, oIS 1 5),
  (5, oIL 1 6),
  (6, oCi tX3_isFace 1 none rmX3_isFace.cells rmX3_isFace.slots rmX3_printHere.cells rmX3_printHere.slots 9),
  (9, oIf_eq 58 12),
  (12, oAL 0 13),
  (13, oGet 2 3 16),
  (16, oIL 1 17),
  (17, oIald 18),
  (18, oIf_le 58 21),
  (21, oAL 0 22),
  (22, oGet 2 0 25),
  (25, oAL 0 26),
  (26, oGet 2 4 29),
  (29, oAL 0 30),
  (30, oGet 2 2 33),
  (33, oIL 1 34),
  (34, oIald 35),
  (35, oCv tX0_printOnto 3 (some 0) rmX0_printOnto.cells rmX0_printOnto.slots rmX3_printHere.cells rmX3_printHere.slots 38),
  (38, oAL 0 39),
  (39, oGet 2 3 42),
  (42, oIL 1 43),
  (43, oDup2 44),
  (44, oIald 45),
  (45, oC (1) 46),
  (46, oIsub 47),
  (47, oIast 48),
  (48, oAL 0 49),
  (49, oDup 50),
  (50, oGet 2 7 53),
  (53, oC (1) 54),
  (54, oIadd 55),
  (55, oPut 2 7 58),
  (58, oRv post ad0 rmX3_printHere.cells rmX3_printHere.slots)]
set_option maxRecDepth 20000 in
theorem okX3_printHere {Γ : aΓ} {post : List aE → Prop} {ad0 : Nat → Nat} {X0 : List aE} (C : FOK Γ cX3_printHere wsX3_printHere RX3 2 rmX3_printHere) (hQ : isQ Γ (va_Qv post (aBk (gK Γ) ad0 X0 (hsz Γ)) (aA (gK Γ) ad0 X0 (hsz Γ))) rmX3_printHere ad0 X0) (hr : rTy Γ = none) : AllS Γ (tbX3_printHere post ad0) := by
  unfold tbX3_printHere
  refine al_c (pc := 0) (snd_aload_n C dX3_printHere_0 rfl) ?_
  refine al_c (pc := 1) (snd_Ci C (site_V C rfl dX3_printHere_1 gX3_printHere_X3_bottom rfl rfl rfl ⟨rfl, by decide +kernel, by decide +kernel, by decide +kernel⟩ ⟨by decide, by decide⟩) mX3_bottom) ?_
  refine al_c (pc := 4) (snd_istore_n C dX3_printHere_4 rfl (by decide)) ?_
  refine al_c (pc := 5) (snd_iload_n C dX3_printHere_5 rfl) ?_
  refine al_c (pc := 6) (snd_Ci C (site_S C dX3_printHere_6 gX3_printHere_X3_isFace rfl rfl rfl ⟨by decide +kernel, by decide +kernel, by decide +kernel⟩ ⟨by decide, by decide⟩) mX3_isFace) ?_
  refine al_c (pc := 9) (snd_if_eq C dX3_printHere_9 (by decide)) ?_
  refine al_c (pc := 12) (snd_aload_n C dX3_printHere_12 rfl) ?_
  refine al_c (pc := 13) (snd_get C dX3_printHere_13 (ci := 2) (kf := 3) rfl (by decide) inX3_printHere_X3 rfl (by decide +kernel)) ?_
  refine al_c (pc := 16) (snd_iload_n C dX3_printHere_16 rfl) ?_
  refine al_c (pc := 17) (snd_iaload C dX3_printHere_17) ?_
  refine al_c (pc := 18) (snd_if_le C dX3_printHere_18 (by decide)) ?_
  refine al_c (pc := 21) (snd_aload_n C dX3_printHere_21 rfl) ?_
  refine al_c (pc := 22) (snd_get C dX3_printHere_22 (ci := 2) (kf := 0) rfl (by decide) inX3_printHere_X3 rfl (by decide +kernel)) ?_
  refine al_c (pc := 25) (snd_aload_n C dX3_printHere_25 rfl) ?_
  refine al_c (pc := 26) (snd_get C dX3_printHere_26 (ci := 2) (kf := 4) rfl (by decide) inX3_printHere_X3 rfl (by decide +kernel)) ?_
  refine al_c (pc := 29) (snd_aload_n C dX3_printHere_29 rfl) ?_
  refine al_c (pc := 30) (snd_get C dX3_printHere_30 (ci := 2) (kf := 2) rfl (by decide) inX3_printHere_X3 rfl (by decide +kernel)) ?_
  refine al_c (pc := 33) (snd_iload_n C dX3_printHere_33 rfl) ?_
  refine al_c (pc := 34) (snd_iaload C dX3_printHere_34) ?_
  refine al_c (pc := 35) (snd_Cv C (site_VN C rfl dX3_printHere_35 gX3_printHere_X0_printOnto_n222 rfl rfl rfl (by decide +kernel) (by decide +kernel) (by decide +kernel) (by decide +kernel) ⟨by decide +kernel, by decide +kernel, by decide +kernel⟩ ⟨by decide, by decide⟩) mX0_printOnto) ?_
  refine al_c (pc := 38) (snd_aload_n C dX3_printHere_38 rfl) ?_
  refine al_c (pc := 39) (snd_get C dX3_printHere_39 (ci := 2) (kf := 3) rfl (by decide) inX3_printHere_X3 rfl (by decide +kernel)) ?_
  refine al_c (pc := 42) (snd_iload_n C dX3_printHere_42 rfl) ?_
  refine al_c (pc := 43) (snd_dup2 C dX3_printHere_43) ?_
  refine al_c (pc := 44) (snd_iaload C dX3_printHere_44) ?_
  refine al_c (pc := 45) (snd_iconst C dX3_printHere_45 (by decide)) ?_
  refine al_c (pc := 46) (snd_isub C dX3_printHere_46) ?_
  refine al_c (pc := 47) (snd_iastore C dX3_printHere_47) ?_
  refine al_c (pc := 48) (snd_aload_n C dX3_printHere_48 rfl) ?_
  refine al_c (pc := 49) (snd_dup C dX3_printHere_49) ?_
  refine al_c (pc := 50) (snd_get C dX3_printHere_50 (ci := 2) (kf := 7) rfl (by decide) inX3_printHere_X3 rfl (by decide +kernel)) ?_
  refine al_c (pc := 53) (snd_iconst C dX3_printHere_53 (by decide)) ?_
  refine al_c (pc := 54) (snd_iadd C dX3_printHere_54) ?_
  refine al_c (pc := 55) (snd_put C dX3_printHere_55 (ci := 2) (kf := 7) rfl (by decide) inX3_printHere_X3 tyX3_ok nmX3 rfl rfl rfl (by decide +kernel)) ?_
  refine al_c (pc := 58) (snd_Rv C hQ hr dX3_printHere_58) ?_
  exact al_0
set_option maxHeartbeats 1000000 in
set_option maxRecDepth 100000 in
theorem mX3_printHere : aMv yX3_printHere wsX3_printHere rmX3_printHere tX3_printHere := by
  refine aMv_of (by decide +kernel) rfl rfl (by intro av X post hT; obtain ⟨k, tt, w, h, rm, pm, fd, wl, pr, fe, qu, co, pa, rfl, rfl, hk, ht, hp⟩ := hT; exact Nat.le_of_ble_eq_true rfl) ?_
  intro Γ ad av X post C hQ hr hT
  obtain ⟨k, tt, w, h, rm, pm, fd, wl, pr, fe, qu, co, pa, rfl, rfl, hk, ht, hp⟩ := hT
  have OK := okX3_printHere C hQ hr
  have hd : 7 - (tt / 6 + 1) < 7 := by omega
  refine go OK [] 60 ?_
  refine ⟨_, _, _, _, _, _, _, _, _, _, _, _, _, rfl, rfl, ht, ?_⟩
  refine ⟨_, rfl, fun q => ?_, fun q => absurd ⟨_, rfl, by omega, by omega⟩ q⟩
  refine And.intro (fun q2 => absurd q2 (by decide)) (fun _ => ?_)
  refine ⟨inS hd (by decide), ?_⟩
  rw [nI_clampS (by omega)]
  refine And.intro (fun q2 => ?_) (fun q2 => ?_)
  · have q3 : ¬ 0 < pa (7 - (tt / 6 + 1)) := by
      rw [Int32.lt_iff_toInt_lt]
      rw [Int32.le_iff_toInt_le] at q2
      omega
    unfold pmP prP paP at hp
    rw [if_neg q3, if_neg q3, if_neg q3] at hp
    exact ⟨rfl, hp⟩
  · have q3 : 0 < pa (7 - (tt / 6 + 1)) := by
      rw [Int32.lt_iff_toInt_lt]
      rw [Int32.le_iff_toInt_le] at q2
      omega
    unfold pmP prP paP at hp
    rw [if_pos q3, if_pos q3, if_pos q3] at hp
    refine ⟨inS hd (by decide), ?_⟩
    rw [nI_clampS (by omega)]
    refine ⟨_, _, _, _, _, _, _, _, _, _, _, _, _, _, _, _, rfl, rfl, hk, rfl, ?_⟩
    refine ⟨inS hd (by decide), ?_⟩
    rw [nI_clampS (by omega)]
    refine ⟨inS hd (by decide), ?_⟩
    rw [nI_clampS (by omega)]
    exact ⟨rfl, hp⟩
abbrev tX3_rollOnce : aTi := fun av X post => ∃ (a : Int32) (d : Nat) (k tt w h : Nat) (rm pm fd : Int32) (wl pr fe qu co pa : Nat → Int32), av = [.ref 0, .int a] ∧ a = nI d ∧ X = CW (nI k) (nI tt) rm pm (nI w) (nI h) fd wl pr fe qu co pa ∧ w ≤ 7 ∧ h ≤ 7 ∧ k < 49 ∧ d < 4 ∧ vt tt = true ∧ (nxt w h wl k d = none → post 0 X) ∧
  ∀ j, nxt w h wl k d = some j → post 1 (CW (nI j) (nI (rlN tt d)) (rm + 1) (pmP pa (7 - (rlN tt d / 6 + 1)) pm) (nI w) (nI h) fd wl (prP pa (7 - (rlN tt d / 6 + 1)) j co pr) fe qu co (paP pa (7 - (rlN tt d / 6 + 1))))
abbrev rmX3_rollOnce : Room := { frames := 4, cells := 0, slots := 0, locals := 81 }
theorem inX3_rollOnce_X3 : ∀ w ∈ wsX30, w ∈ wsX3_rollOnce := by decide +kernel
def tbX3_rollOnce (post : Int32 → List aE → Prop) (ad0 : Nat → Nat) : List (Nat × aO) := [(0, oAL 0 1),
  (1, oGet 2 0 4),
  (4, oAL 0 5),
  (5, oGet 2 4 8),
  (8, oIL 1 9),
  (9, oCi tX0_nextCell 3 (some 0) rmX0_nextCell.cells rmX0_nextCell.slots rmX3_rollOnce.cells rmX3_rollOnce.slots 12),
  (12, oIS 2 13),
  (13, oIL 2 14),
  (14, oC (-1) 15),
  (15, oIc_ne 20 18),
  (18, oC (0) 19),
  (19, oRz post ad0 rmX3_rollOnce.cells rmX3_rollOnce.slots),
  (20, oAL 0 21),
  (21, oIL 2 22),
  (22, oPut 2 4 25),
  (25, oAL 0 26),
  (26, oAL 0 27),
  (27, oGet 2 5 30),
  (30, oIL 1 31),
  (31, oCi tX2_behindRoll 2 none rmX2_behindRoll.cells rmX2_behindRoll.slots rmX3_rollOnce.cells rmX3_rollOnce.slots 34),
  (34, oPut 2 5 37),
  (37, oAL 0 38),
  (38, oDup 39),
  (39, oGet 2 6 42),
  (42, oC (1) 43),
  (43, oIadd 44),
  (44, oPut 2 6 47),
  (47, oAL 0 48),
  (48, oCv tX3_printHere 1 (some 2) rmX3_printHere.cells rmX3_printHere.slots rmX3_rollOnce.cells rmX3_rollOnce.slots 51),
  (51, oC (1) 52),
  (52, oRz post ad0 rmX3_rollOnce.cells rmX3_rollOnce.slots)]
set_option maxRecDepth 20000 in
theorem okX3_rollOnce {Γ : aΓ} {post : Int32 → List aE → Prop} {ad0 : Nat → Nat} {X0 : List aE} (C : FOK Γ cX3_rollOnce wsX3_rollOnce RX3 3 rmX3_rollOnce) (hQ : isQ Γ (va_Qi post (aBk (gK Γ) ad0 X0 (hsz Γ)) (aA (gK Γ) ad0 X0 (hsz Γ))) rmX3_rollOnce ad0 X0) (hr : rTy Γ = some .boolean) : AllS Γ (tbX3_rollOnce post ad0) := by
  unfold tbX3_rollOnce
  refine al_c (pc := 0) (snd_aload_n C dX3_rollOnce_0 rfl) ?_
  refine al_c (pc := 1) (snd_get C dX3_rollOnce_1 (ci := 2) (kf := 0) rfl (by decide) inX3_rollOnce_X3 rfl (by decide +kernel)) ?_
  refine al_c (pc := 4) (snd_aload_n C dX3_rollOnce_4 rfl) ?_
  refine al_c (pc := 5) (snd_get C dX3_rollOnce_5 (ci := 2) (kf := 4) rfl (by decide) inX3_rollOnce_X3 rfl (by decide +kernel)) ?_
  refine al_c (pc := 8) (snd_iload_n C dX3_rollOnce_8 rfl) ?_
  refine al_c (pc := 9) (snd_Ci C (site_VN C rfl dX3_rollOnce_9 gX3_rollOnce_X0_nextCell_n130 rfl rfl rfl (by decide +kernel) (by decide +kernel) (by decide +kernel) (by decide +kernel) ⟨by decide +kernel, by decide +kernel, by decide +kernel⟩ ⟨by decide, by decide⟩) mX0_nextCell) ?_
  refine al_c (pc := 12) (snd_istore_n C dX3_rollOnce_12 rfl (by decide)) ?_
  refine al_c (pc := 13) (snd_iload_n C dX3_rollOnce_13 rfl) ?_
  refine al_c (pc := 14) (snd_iconst C dX3_rollOnce_14 (by decide)) ?_
  refine al_c (pc := 15) (snd_icmp_ne C dX3_rollOnce_15 (by decide)) ?_
  refine al_c (pc := 18) (snd_iconst C dX3_rollOnce_18 (by decide)) ?_
  refine al_c (pc := 19) (snd_Rz C hQ hr dX3_rollOnce_19) ?_
  refine al_c (pc := 20) (snd_aload_n C dX3_rollOnce_20 rfl) ?_
  refine al_c (pc := 21) (snd_iload_n C dX3_rollOnce_21 rfl) ?_
  refine al_c (pc := 22) (snd_put C dX3_rollOnce_22 (ci := 2) (kf := 4) rfl (by decide) inX3_rollOnce_X3 tyX3_ok nmX3 rfl rfl rfl (by decide +kernel)) ?_
  refine al_c (pc := 25) (snd_aload_n C dX3_rollOnce_25 rfl) ?_
  refine al_c (pc := 26) (snd_aload_n C dX3_rollOnce_26 rfl) ?_
  refine al_c (pc := 27) (snd_get C dX3_rollOnce_27 (ci := 2) (kf := 5) rfl (by decide) inX3_rollOnce_X3 rfl (by decide +kernel)) ?_
  refine al_c (pc := 30) (snd_iload_n C dX3_rollOnce_30 rfl) ?_
  refine al_c (pc := 31) (snd_Ci C (site_SN C dX3_rollOnce_31 gX3_rollOnce_X2_behindRoll_n171 rfl rfl rfl (by decide +kernel) (by decide +kernel) (by decide +kernel) ⟨by decide +kernel, by decide +kernel, by decide +kernel⟩ ⟨by decide, by decide⟩) mX2_behindRoll) ?_
  refine al_c (pc := 34) (snd_put C dX3_rollOnce_34 (ci := 2) (kf := 5) rfl (by decide) inX3_rollOnce_X3 tyX3_ok nmX3 rfl rfl rfl (by decide +kernel)) ?_
  refine al_c (pc := 37) (snd_aload_n C dX3_rollOnce_37 rfl) ?_
  refine al_c (pc := 38) (snd_dup C dX3_rollOnce_38) ?_
  refine al_c (pc := 39) (snd_get C dX3_rollOnce_39 (ci := 2) (kf := 6) rfl (by decide) inX3_rollOnce_X3 rfl (by decide +kernel)) ?_
  refine al_c (pc := 42) (snd_iconst C dX3_rollOnce_42 (by decide)) ?_
  refine al_c (pc := 43) (snd_iadd C dX3_rollOnce_43) ?_
  refine al_c (pc := 44) (snd_put C dX3_rollOnce_44 (ci := 2) (kf := 6) rfl (by decide) inX3_rollOnce_X3 tyX3_ok nmX3 rfl rfl rfl (by decide +kernel)) ?_
  refine al_c (pc := 47) (snd_aload_n C dX3_rollOnce_47 rfl) ?_
  refine al_c (pc := 48) (snd_Cv C (site_V C rfl dX3_rollOnce_48 gX3_rollOnce_X3_printHere rfl rfl rfl ⟨rfl, by decide +kernel, by decide +kernel, by decide +kernel⟩ ⟨by decide, by decide⟩) mX3_printHere) ?_
  refine al_c (pc := 51) (snd_iconst C dX3_rollOnce_51 (by decide)) ?_
  refine al_c (pc := 52) (snd_Rz C hQ hr dX3_rollOnce_52) ?_
  exact al_0
set_option maxHeartbeats 1000000 in
set_option maxRecDepth 100000 in
theorem mX3_rollOnce : aMi yX3_rollOnce wsX3_rollOnce rmX3_rollOnce tX3_rollOnce := by
  refine aMz_of (by decide +kernel) rfl rfl (by intro av X post hT; obtain ⟨a, d, k, tt, w, h, rm, pm, fd, wl, pr, fe, qu, co, pa, rfl, rfl, rfl, hw, hh, hk, hd, hv, h1, h2⟩ := hT; exact Nat.le_of_ble_eq_true rfl) ?_
  intro Γ ad av X post C hQ hr hT
  obtain ⟨a, d, k, tt, w, h, rm, pm, fd, wl, pr, fe, qu, co, pa, rfl, rfl, rfl, hw, hh, hk, hd, hv, h1, h2⟩ := hT
  have OK := okX3_rollOnce C hQ hr
  have hrl := rlN_lt hv hd
  refine go OK [] 60 ?_
  refine ⟨_, _, k, d, _, _, _, _, _, _, _, _, _, _, _, _, _, rfl, rfl, rfl, rfl, hw, hh, hk, hd, ?_⟩
  cases e : nxt w h wl k d with
  | none =>
    refine And.intro (fun q2 => absurd rfl q2) (fun _ => ?_)
    exact ⟨Or.inl rfl, rfl, h1 e⟩
  | some j =>
    have hj := nxt_fr e
    have hj49 : j < 49 := by have := hj.1; have := hj.2.1; omega
    refine And.intro (fun _ => ?_) (fun q2 => absurd q2 (nI_m1 (by omega : j < 10000)))
    refine ⟨_, _, tt, d, rfl, rfl, rfl, vt_lt hv, hv, hd, ?_⟩
    refine ⟨_, _, _, _, _, _, _, _, _, _, _, _, _, rfl, rfl, hj49, hrl, ?_⟩
    exact ⟨Or.inr rfl, rfl, h2 j e⟩
abbrev tX3_isShutIn : aTi := fun av X post => ∃ (k tt w h : Nat) (rm pm fd : Int32) (wl pr fe qu co pa : Nat → Int32), av = [.ref 0] ∧ X = CW (nI k) (nI tt) rm pm (nI w) (nI h) fd wl pr fe qu co pa ∧ w ≤ 7 ∧ h ≤ 7 ∧ k < 49 ∧ ((∀ d, d < 4 → nxt w h wl k d = none) → post 1 X) ∧ (¬ (∀ d, d < 4 → nxt w h wl k d = none) → post 0 X)
abbrev rmX3_isShutIn : Room := { frames := 3, cells := 0, slots := 0, locals := 68 }
theorem inX3_isShutIn_X3 : ∀ w ∈ wsX30, w ∈ wsX3_isShutIn := by decide +kernel
def tbX3_isShutIn (post : Int32 → List aE → Prop) (ad0 : Nat → Nat) : List (Nat × aO) := [(0, oC (0) 1),
  (1, oIS 1 2),
  (2, oIL 1 3),
  (3, oC (4) 4),
  (4, oIc_ge 31 7),
  (7, oAL 0 8),
  (8, oGet 2 0 11),
  (11, oAL 0 12),
  (12, oGet 2 4 15),
  (15, oIL 1 16),
  (16, oCi tX0_nextCell 3 (some 0) rmX0_nextCell.cells rmX0_nextCell.slots rmX3_isShutIn.cells rmX3_isShutIn.slots 19),
  (19, oC (-1) 20),
  (20, oIc_eq 25 23),
  (23, oC (0) 24),
  (24, oRz post ad0 rmX3_isShutIn.cells rmX3_isShutIn.slots),
  (25, oInc 1 1 28),
  (28, oGo 2),
  (31, oC (1) 32),
  (32, oRz post ad0 rmX3_isShutIn.cells rmX3_isShutIn.slots)]
set_option maxRecDepth 20000 in
theorem okX3_isShutIn {Γ : aΓ} {post : Int32 → List aE → Prop} {ad0 : Nat → Nat} {X0 : List aE} (C : FOK Γ cX3_isShutIn wsX3_isShutIn RX3 2 rmX3_isShutIn) (hQ : isQ Γ (va_Qi post (aBk (gK Γ) ad0 X0 (hsz Γ)) (aA (gK Γ) ad0 X0 (hsz Γ))) rmX3_isShutIn ad0 X0) (hr : rTy Γ = some .boolean) : AllS Γ (tbX3_isShutIn post ad0) := by
  unfold tbX3_isShutIn
  refine al_c (pc := 0) (snd_iconst C dX3_isShutIn_0 (by decide)) ?_
  refine al_c (pc := 1) (snd_istore_n C dX3_isShutIn_1 rfl (by decide)) ?_
  refine al_c (pc := 2) (snd_iload_n C dX3_isShutIn_2 rfl) ?_
  refine al_c (pc := 3) (snd_iconst C dX3_isShutIn_3 (by decide)) ?_
  refine al_c (pc := 4) (snd_icmp_ge C dX3_isShutIn_4 (by decide)) ?_
  refine al_c (pc := 7) (snd_aload_n C dX3_isShutIn_7 rfl) ?_
  refine al_c (pc := 8) (snd_get C dX3_isShutIn_8 (ci := 2) (kf := 0) rfl (by decide) inX3_isShutIn_X3 rfl (by decide +kernel)) ?_
  refine al_c (pc := 11) (snd_aload_n C dX3_isShutIn_11 rfl) ?_
  refine al_c (pc := 12) (snd_get C dX3_isShutIn_12 (ci := 2) (kf := 4) rfl (by decide) inX3_isShutIn_X3 rfl (by decide +kernel)) ?_
  refine al_c (pc := 15) (snd_iload_n C dX3_isShutIn_15 rfl) ?_
  refine al_c (pc := 16) (snd_Ci C (site_VN C rfl dX3_isShutIn_16 gX3_isShutIn_X0_nextCell_n130 rfl rfl rfl (by decide +kernel) (by decide +kernel) (by decide +kernel) (by decide +kernel) ⟨by decide +kernel, by decide +kernel, by decide +kernel⟩ ⟨by decide, by decide⟩) mX0_nextCell) ?_
  refine al_c (pc := 19) (snd_iconst C dX3_isShutIn_19 (by decide)) ?_
  refine al_c (pc := 20) (snd_icmp_eq C dX3_isShutIn_20 (by decide)) ?_
  refine al_c (pc := 23) (snd_iconst C dX3_isShutIn_23 (by decide)) ?_
  refine al_c (pc := 24) (snd_Rz C hQ hr dX3_isShutIn_24) ?_
  refine al_c (pc := 25) (snd_iinc C dX3_isShutIn_25 (by decide) (by decide)) ?_
  refine al_c (pc := 28) (snd_goto C dX3_isShutIn_28 (by decide)) ?_
  refine al_c (pc := 31) (snd_iconst C dX3_isShutIn_31 (by decide)) ?_
  refine al_c (pc := 32) (snd_Rz C hQ hr dX3_isShutIn_32) ?_
  exact al_0
set_option maxHeartbeats 1000000 in
set_option maxRecDepth 100000 in
theorem mX3_isShutIn : aMi yX3_isShutIn wsX3_isShutIn rmX3_isShutIn tX3_isShutIn := by
  refine aMz_of (by decide +kernel) rfl rfl (by intro av X post hT; obtain ⟨k, tt, w, h, rm, pm, fd, wl, pr, fe, qu, co, pa, rfl, rfl, hw, hh, hk, h1, h2⟩ := hT; exact Nat.le_of_ble_eq_true rfl) ?_
  intro Γ ad av X post C hQ hr hT
  obtain ⟨k, tt, w, h, rm, pm, fd, wl, pr, fe, qu, co, pa, rfl, rfl, hw, hh, hk, h1, h2⟩ := hT
  have OK := okX3_isShutIn C hQ hr
  have loop : ∀ (n d : Nat), d ≤ 4 → 4 - d < n → (∀ e, e < d → nxt w h wl k e = none) → FG Γ 2 ad 0 0 [(1, .int (nI d)), (0, .ref 0)] [] (CW (nI k) (nI tt) rm pm (nI w) (nI h) fd wl pr fe qu co pa) := by
    intro n
    induction n with
    | zero => intro d _ h; omega
    | succ n ih =>
      intro d hd hn hz
      refine go OK [2] 60 ?_
      refine And.intro (fun q => ?_) (fun q => ?_)
      · have q := (leN (a := 4) (b := d) (by omega) (by omega)).mp q
        exact ⟨Or.inr rfl, rfl, h1 (fun e he => hz e (by omega))⟩
      · have hd4 : d < 4 := by
          rcases Nat.lt_or_ge d 4 with z | z
          · exact z
          · exact absurd ((leN (a := 4) (b := d) (by omega) (by omega)).mpr z) q
        refine ⟨_, _, k, d, _, _, _, _, _, _, _, _, _, _, _, _, _, rfl, rfl, rfl, rfl, hw, hh, hk, hd4, ?_⟩
        cases e : nxt w h wl k d with
        | none =>
          refine And.intro (fun _ => ?_) (fun q2 => absurd rfl q2)
          have key := ih (d + 1) (by omega) (by omega) (fun e2 he => by
            by_cases z : e2 = d
            · rw [z]; exact e
            · exact hz e2 (by omega))
          rw [← nI_p1 d] at key
          exact key
        | some j =>
          have hj := nxt_fr e
          refine And.intro (fun q2 => absurd q2 (nI_m1 (by have := hj.1; have := hj.2.1; omega : j < 10000))) (fun _ => ?_)
          exact ⟨Or.inl rfl, rfl, h2 (fun z => by rw [z d hd4] at e; cases e)⟩
  refine go OK [2] 40 ?_
  exact loop 5 0 (by omega) (by omega) (fun e he => by omega)
theorem src0_one (v : Nat) : vis 0 ([], fun _ => none) v = src0 [v] := by
  unfold vis src0
  simp
theorem bS_e : bS ([], fun _ => none) := by
  refine ⟨⟨fun v => by simp, by simp, fun v hv => by simp at hv⟩, fun v r h => by simp at h⟩
/-- behind a search from where the die lies -/
abbrev tX3_searchFromHere : aTv := fun av X post => ∃ (k tt w h : Nat) (rm pm fd : Int32) (wl pr fe qu co pa : Nat → Int32), av = [.ref 0] ∧ X = CW (nI k) (nI tt) rm pm (nI w) (nI h) fd wl pr fe qu co pa ∧ w ≤ 7 ∧ h ≤ 7 ∧ vt tt = true ∧ frN w h wl k ∧
  ∀ (fd2 : Int32) (fe2 qu2 : Nat → Int32), RC (fin (nbF w h wl) 1764 [k * 36 + tt]) fe2 qu2 fd2 → post (CW (nI k) (nI tt) rm pm (nI w) (nI h) fd2 wl pr fe2 qu2 co pa)
abbrev rmX3_searchFromHere : Room := { frames := 4, cells := 0, slots := 0, locals := 95 }
theorem inX3_searchFromHere_X3 : ∀ w ∈ wsX30, w ∈ wsX3_searchFromHere := by decide +kernel
def tbX3_searchFromHere (post : List aE → Prop) (ad0 : Nat → Nat) : List (Nat × aO) := [(0, oAL 0 1),
  (1, oGet 2 1 4),
  (4, oCv tX1_forget 1 (some 1) rmX1_forget.cells rmX1_forget.slots rmX3_searchFromHere.cells rmX3_searchFromHere.slots 7),
  (7, oAL 0 8),
  (8, oGet 2 1 11),
  (11, oAL 0 12),
  (12, oGet 2 4 15),
  (15, oAL 0 16),
  (16, oGet 2 5 19),
  (19, oC (0) 20),
  (20, oCv tX1_reach 4 (some 1) rmX1_reach.cells rmX1_reach.slots rmX3_searchFromHere.cells rmX3_searchFromHere.slots 23),
  (23, oAL 0 24),
  (24, oGet 2 1 27),
  (27, oAL 0 28),
  (28, oGet 2 0 31),
  (31, oCv tX1_spread 2 (some 1) rmX1_spread.cells rmX1_spread.slots rmX3_searchFromHere.cells rmX3_searchFromHere.slots 34),
  (34, oRv post ad0 rmX3_searchFromHere.cells rmX3_searchFromHere.slots)]
set_option maxRecDepth 20000 in
theorem okX3_searchFromHere {Γ : aΓ} {post : List aE → Prop} {ad0 : Nat → Nat} {X0 : List aE} (C : FOK Γ cX3_searchFromHere wsX3_searchFromHere RX3 1 rmX3_searchFromHere) (hQ : isQ Γ (va_Qv post (aBk (gK Γ) ad0 X0 (hsz Γ)) (aA (gK Γ) ad0 X0 (hsz Γ))) rmX3_searchFromHere ad0 X0) (hr : rTy Γ = none) : AllS Γ (tbX3_searchFromHere post ad0) := by
  unfold tbX3_searchFromHere
  refine al_c (pc := 0) (snd_aload_n C dX3_searchFromHere_0 rfl) ?_
  refine al_c (pc := 1) (snd_get C dX3_searchFromHere_1 (ci := 2) (kf := 1) rfl (by decide) inX3_searchFromHere_X3 rfl (by decide +kernel)) ?_
  refine al_c (pc := 4) (snd_Cv C (site_VN C rfl dX3_searchFromHere_4 gX3_searchFromHere_X1_forget_n225 rfl rfl rfl (by decide +kernel) (by decide +kernel) (by decide +kernel) (by decide +kernel) ⟨by decide +kernel, by decide +kernel, by decide +kernel⟩ ⟨by decide, by decide⟩) mX1_forget) ?_
  refine al_c (pc := 7) (snd_aload_n C dX3_searchFromHere_7 rfl) ?_
  refine al_c (pc := 8) (snd_get C dX3_searchFromHere_8 (ci := 2) (kf := 1) rfl (by decide) inX3_searchFromHere_X3 rfl (by decide +kernel)) ?_
  refine al_c (pc := 11) (snd_aload_n C dX3_searchFromHere_11 rfl) ?_
  refine al_c (pc := 12) (snd_get C dX3_searchFromHere_12 (ci := 2) (kf := 4) rfl (by decide) inX3_searchFromHere_X3 rfl (by decide +kernel)) ?_
  refine al_c (pc := 15) (snd_aload_n C dX3_searchFromHere_15 rfl) ?_
  refine al_c (pc := 16) (snd_get C dX3_searchFromHere_16 (ci := 2) (kf := 5) rfl (by decide) inX3_searchFromHere_X3 rfl (by decide +kernel)) ?_
  refine al_c (pc := 19) (snd_iconst C dX3_searchFromHere_19 (by decide)) ?_
  refine al_c (pc := 20) (snd_Cv C (site_VN C rfl dX3_searchFromHere_20 gX3_searchFromHere_X1_reach_n228 rfl rfl rfl (by decide +kernel) (by decide +kernel) (by decide +kernel) (by decide +kernel) ⟨by decide +kernel, by decide +kernel, by decide +kernel⟩ ⟨by decide, by decide⟩) mX1_reach) ?_
  refine al_c (pc := 23) (snd_aload_n C dX3_searchFromHere_23 rfl) ?_
  refine al_c (pc := 24) (snd_get C dX3_searchFromHere_24 (ci := 2) (kf := 1) rfl (by decide) inX3_searchFromHere_X3 rfl (by decide +kernel)) ?_
  refine al_c (pc := 27) (snd_aload_n C dX3_searchFromHere_27 rfl) ?_
  refine al_c (pc := 28) (snd_get C dX3_searchFromHere_28 (ci := 2) (kf := 0) rfl (by decide) inX3_searchFromHere_X3 rfl (by decide +kernel)) ?_
  refine al_c (pc := 31) (snd_Cv C (site_VN C rfl dX3_searchFromHere_31 gX3_searchFromHere_X1_spread_n232 rfl rfl rfl (by decide +kernel) (by decide +kernel) (by decide +kernel) (by decide +kernel) ⟨by decide +kernel, by decide +kernel, by decide +kernel⟩ ⟨by decide, by decide⟩) mX1_spread) ?_
  refine al_c (pc := 34) (snd_Rv C hQ hr dX3_searchFromHere_34) ?_
  exact al_0
set_option maxHeartbeats 1000000 in
set_option maxRecDepth 100000 in
theorem mX3_searchFromHere : aMv yX3_searchFromHere wsX3_searchFromHere rmX3_searchFromHere tX3_searchFromHere := by
  refine aMv_of (by decide +kernel) rfl rfl (by intro av X post hT; obtain ⟨k, tt, w, h, rm, pm, fd, wl, pr, fe, qu, co, pa, rfl, rfl, hw, hh, hv, hf, hp⟩ := hT; exact Nat.le_of_ble_eq_true rfl) ?_
  intro Γ ad av X post C hQ hr hT
  obtain ⟨k, tt, w, h, rm, pm, fd, wl, pr, fe, qu, co, pa, rfl, rfl, hw, hh, hv, hf, hp⟩ := hT
  have OK := okX3_searchFromHere C hQ hr
  have ht := vt_lt hv
  have hk : k < 49 := by have := hf.1; have := hf.2.1; omega
  refine go OK [] 60 ?_
  refine ⟨_, _, _, _, _, _, _, _, _, _, _, _, _, rfl, rfl, fun fe2 hR => ?_⟩
  refine ⟨_, _, _, k, tt, 0, _, _, _, _, _, _, _, _, _, _, _, _, _, _, rfl, rfl, rfl, rfl, rfl, hk, ht, by omega, hR, bS_e, fun fd2 fe3 qu2 hR2 => ?_⟩
  rw [src0_one] at hR2
  refine ⟨[k * 36 + tt], _, _, _, _, _, _, _, _, _, _, _, _, _, rfl, rfl, hw, hh, by simp, fun s hs => ?_, hR2, fun fd3 fe4 qu3 hR3 => ?_⟩
  · rw [List.mem_singleton.mp hs]
    exact ⟨by rw [show (k * 36 + tt) % 36 = tt by omega]; exact hv, by rw [show (k * 36 + tt) / 36 = k by omega]; exact hf⟩
  · exact ⟨rfl, hp _ _ _ hR3⟩
