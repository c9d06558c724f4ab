/-! ===== PaintedDie$Turn ===== -/
abbrev tX2_topOf : aTi := fun av X post => ∃ (a : Int32) (t : Nat), av = [.int a] ∧ a = nI t ∧ t < 36 ∧ post (nI (t / 6 + 1)) X
abbrev rmX2_topOf : Room := { frames := 0, cells := 0, slots := 0, locals := 0 }
def tbX2_topOf (post : Int32 → List aE → Prop) (ad0 : Nat → Nat) : List (Nat × aO) := [(0, oIL 0 1),
  (1, oC (6) 3),
  (3, oIdiv 4),
  (4, oC (1) 5),
  (5, oIadd 6),
  (6, oRi post ad0 rmX2_topOf.cells rmX2_topOf.slots)]
set_option maxRecDepth 20000 in
theorem okX2_topOf {Γ : aΓ} {post : Int32 → List aE → Prop} {ad0 : Nat → Nat} {X0 : List aE} (C : FOK Γ cX2_topOf wsX2_topOf RX2 1 rmX2_topOf) (hQ : isQ Γ (va_Qi post (aBk (gK Γ) ad0 X0 (hsz Γ)) (aA (gK Γ) ad0 X0 (hsz Γ))) rmX2_topOf ad0 X0) (hr : rTy Γ = some .int) : AllS Γ (tbX2_topOf post ad0) := by
  unfold tbX2_topOf
  refine al_c (pc := 0) (snd_iload_n C dX2_topOf_0 rfl) ?_
  refine al_c (pc := 1) (snd_bipush C dX2_topOf_1 (by decide)) ?_
  refine al_c (pc := 3) (snd_idiv C dX2_topOf_3) ?_
  refine al_c (pc := 4) (snd_iconst C dX2_topOf_4 (by decide)) ?_
  refine al_c (pc := 5) (snd_iadd C dX2_topOf_5) ?_
  refine al_c (pc := 6) (snd_Ri C hQ hr dX2_topOf_6) ?_
  exact al_0
set_option maxHeartbeats 1000000 in
set_option maxRecDepth 100000 in
theorem mX2_topOf : aMi yX2_topOf wsX2_topOf rmX2_topOf tX2_topOf := by
  refine aMi_of (by decide +kernel) rfl rfl (by intro av X post hT; obtain ⟨a, t, rfl, rfl, ht, hp⟩ := hT; exact Nat.le_of_ble_eq_true rfl) ?_
  intro Γ ad av X post C hQ hr hT
  obtain ⟨a, t, rfl, rfl, ht, hp⟩ := hT
  have OK := okX2_topOf C hQ hr
  refine go OK [] 40 ?_
  refine ⟨by decide, rfl, ?_⟩
  rw [← nI_1, ← pk_div (a := t) (d := 6) (by omega) (by omega) (by omega)] at hp
  exact hp
abbrev tX2_northOf : aTi := fun av X post => ∃ (a : Int32) (t : Nat), av = [.int a] ∧ a = nI t ∧ t < 36 ∧ post (nI (t % 6 + 1)) X
abbrev rmX2_northOf : Room := { frames := 0, cells := 0, slots := 0, locals := 0 }
def tbX2_northOf (post : Int32 → List aE → Prop) (ad0 : Nat → Nat) : List (Nat × aO) := [(0, oIL 0 1),
  (1, oC (6) 3),
  (3, oIrem 4),
  (4, oC (1) 5),
  (5, oIadd 6),
  (6, oRi post ad0 rmX2_northOf.cells rmX2_northOf.slots)]
set_option maxRecDepth 20000 in
theorem okX2_northOf {Γ : aΓ} {post : Int32 → List aE → Prop} {ad0 : Nat → Nat} {X0 : List aE} (C : FOK Γ cX2_northOf wsX2_northOf RX2 1 rmX2_northOf) (hQ : isQ Γ (va_Qi post (aBk (gK Γ) ad0 X0 (hsz Γ)) (aA (gK Γ) ad0 X0 (hsz Γ))) rmX2_northOf ad0 X0) (hr : rTy Γ = some .int) : AllS Γ (tbX2_northOf post ad0) := by
  unfold tbX2_northOf
  refine al_c (pc := 0) (snd_iload_n C dX2_northOf_0 rfl) ?_
  refine al_c (pc := 1) (snd_bipush C dX2_northOf_1 (by decide)) ?_
  refine al_c (pc := 3) (snd_irem C dX2_northOf_3) ?_
  refine al_c (pc := 4) (snd_iconst C dX2_northOf_4 (by decide)) ?_
  refine al_c (pc := 5) (snd_iadd C dX2_northOf_5) ?_
  refine al_c (pc := 6) (snd_Ri C hQ hr dX2_northOf_6) ?_
  exact al_0
set_option maxHeartbeats 1000000 in
set_option maxRecDepth 100000 in
theorem mX2_northOf : aMi yX2_northOf wsX2_northOf rmX2_northOf tX2_northOf := by
  refine aMi_of (by decide +kernel) rfl rfl (by intro av X post hT; obtain ⟨a, t, rfl, rfl, ht, hp⟩ := hT; exact Nat.le_of_ble_eq_true rfl) ?_
  intro Γ ad av X post C hQ hr hT
  obtain ⟨a, t, rfl, rfl, ht, hp⟩ := hT
  have OK := okX2_northOf C hQ hr
  refine go OK [] 40 ?_
  refine ⟨by decide, rfl, ?_⟩
  rw [← nI_1, ← pk_rem (a := t) (d := 6) (by omega) (by omega) (by omega)] at hp
  exact hp
abbrev tX2_axisOf : aTi := fun av X post => ∃ (a : Int32) (f : Nat), av = [.int a] ∧ a = nI f ∧ f < 7 ∧ post (nI (axN f)) X
abbrev rmX2_axisOf : Room := { frames := 0, cells := 0, slots := 0, locals := 0 }
def tbX2_axisOf (post : Int32 → List aE → Prop) (ad0 : Nat → Nat) : List (Nat × aO) := [(0, oIL 0 1),
  (1, oC (3) 2),
  (2, oIc_gt 9 5),
  (5, oIL 0 6),
  (6, oGo 13),
  (9, oC (7) 11),
  (11, oIL 0 12),
  (12, oIsub 13),
  (13, oRi post ad0 rmX2_axisOf.cells rmX2_axisOf.slots)]
set_option maxRecDepth 20000 in
theorem okX2_axisOf {Γ : aΓ} {post : Int32 → List aE → Prop} {ad0 : Nat → Nat} {X0 : List aE} (C : FOK Γ cX2_axisOf wsX2_axisOf RX2 1 rmX2_axisOf) (hQ : isQ Γ (va_Qi post (aBk (gK Γ) ad0 X0 (hsz Γ)) (aA (gK Γ) ad0 X0 (hsz Γ))) rmX2_axisOf ad0 X0) (hr : rTy Γ = some .int) : AllS Γ (tbX2_axisOf post ad0) := by
  unfold tbX2_axisOf
  refine al_c (pc := 0) (snd_iload_n C dX2_axisOf_0 rfl) ?_
  refine al_c (pc := 1) (snd_iconst C dX2_axisOf_1 (by decide)) ?_
  refine al_c (pc := 2) (snd_icmp_gt C dX2_axisOf_2 (by decide)) ?_
  refine al_c (pc := 5) (snd_iload_n C dX2_axisOf_5 rfl) ?_
  refine al_c (pc := 6) (snd_goto C dX2_axisOf_6 (by decide)) ?_
  refine al_c (pc := 9) (snd_bipush C dX2_axisOf_9 (by decide)) ?_
  refine al_c (pc := 11) (snd_iload_n C dX2_axisOf_11 rfl) ?_
  refine al_c (pc := 12) (snd_isub C dX2_axisOf_12) ?_
  refine al_c (pc := 13) (snd_Ri C hQ hr dX2_axisOf_13) ?_
  exact al_0
set_option maxHeartbeats 1000000 in
set_option maxRecDepth 100000 in
theorem mX2_axisOf : aMi yX2_axisOf wsX2_axisOf rmX2_axisOf tX2_axisOf := by
  refine aMi_of (by decide +kernel) rfl rfl (by intro av X post hT; obtain ⟨a, f, rfl, rfl, hf, hp⟩ := hT; exact Nat.le_of_ble_eq_true rfl) ?_
  intro Γ ad av X post C hQ hr hT
  obtain ⟨a, f, rfl, rfl, hf, hp⟩ := hT
  have OK := okX2_axisOf C hQ hr
  refine go OK [] 40 ?_
  refine And.intro (fun q => ⟨rfl, Eq.mp (congrArg (fun z => post z X) ?_) hp⟩) (fun q => ⟨rfl, Eq.mp (congrArg (fun z => post z X) ?_) hp⟩)
  all_goals
    clear hp OK hr hQ C
    revert f
    decide +kernel
abbrev tX2_with : aTi := fun av X post => ∃ (a b : Int32) (f g : Nat), av = [.int a, .int b] ∧ a = nI f ∧ b = nI g ∧ f < 7 ∧ g < 7 ∧ 1 ≤ f ∧ 1 ≤ g ∧ post (nI (wiN f g)) X
abbrev rmX2_with : Room := { frames := 0, cells := 0, slots := 0, locals := 0 }
def tbX2_with (post : Int32 → List aE → Prop) (ad0 : Nat → Nat) : List (Nat × aO) := [(0, oIL 0 1),
  (1, oC (1) 2),
  (2, oIsub 3),
  (3, oC (6) 5),
  (5, oImul 6),
  (6, oIL 1 7),
  (7, oC (1) 8),
  (8, oIsub 9),
  (9, oIadd 10),
  (10, oRi post ad0 rmX2_with.cells rmX2_with.slots)]
set_option maxRecDepth 20000 in
theorem okX2_with {Γ : aΓ} {post : Int32 → List aE → Prop} {ad0 : Nat → Nat} {X0 : List aE} (C : FOK Γ cX2_with wsX2_with RX2 2 rmX2_with) (hQ : isQ Γ (va_Qi post (aBk (gK Γ) ad0 X0 (hsz Γ)) (aA (gK Γ) ad0 X0 (hsz Γ))) rmX2_with ad0 X0) (hr : rTy Γ = some .int) : AllS Γ (tbX2_with post ad0) := by
  unfold tbX2_with
  refine al_c (pc := 0) (snd_iload_n C dX2_with_0 rfl) ?_
  refine al_c (pc := 1) (snd_iconst C dX2_with_1 (by decide)) ?_
  refine al_c (pc := 2) (snd_isub C dX2_with_2) ?_
  refine al_c (pc := 3) (snd_bipush C dX2_with_3 (by decide)) ?_
  refine al_c (pc := 5) (snd_imul C dX2_with_5) ?_
  refine al_c (pc := 6) (snd_iload_n C dX2_with_6 rfl) ?_
  refine al_c (pc := 7) (snd_iconst C dX2_with_7 (by decide)) ?_
  refine al_c (pc := 8) (snd_isub C dX2_with_8) ?_
  refine al_c (pc := 9) (snd_iadd C dX2_with_9) ?_
  refine al_c (pc := 10) (snd_Ri C hQ hr dX2_with_10) ?_
  exact al_0
set_option maxHeartbeats 1000000 in
set_option maxRecDepth 100000 in
theorem mX2_with : aMi yX2_with wsX2_with rmX2_with tX2_with := by
  refine aMi_of (by decide +kernel) rfl rfl (by intro av X post hT; obtain ⟨a, b, f, g, rfl, rfl, rfl, hf, hg, hf1, hg1, hp⟩ := hT; exact Nat.le_of_ble_eq_true rfl) ?_
  intro Γ ad av X post C hQ hr hT
  obtain ⟨a, b, f, g, rfl, rfl, rfl, hf, hg, hf1, hg1, hp⟩ := hT
  have OK := okX2_with C hQ hr
  refine go OK [] 40 ?_
  refine ⟨rfl, Eq.mp (congrArg (fun z => post z X) ?_) hp⟩
  clear hp OK hr hQ C
  revert hf1 hg1
  revert hg
  revert g
  revert hf
  revert f
  decide +kernel
abbrev tX2_eastOf : aTi := fun av X post => ∃ (a : Int32) (t : Nat), av = [.int a] ∧ a = nI t ∧ t < 36 ∧ vt t = true ∧ post (nI (eoN t)) X
abbrev rmX2_eastOf : Room := { frames := 1, cells := 0, slots := 0, locals := 20 }
def tbX2_eastOf (post : Int32 → List aE → Prop) (ad0 : Nat → Nat) : List (Nat × aO) := [(0, oIL 0 1),
  (1, oCi tX2_topOf 1 none rmX2_topOf.cells rmX2_topOf.slots rmX2_eastOf.cells rmX2_eastOf.slots 4),
  (4, oIS 1 5),
  (5, oIL 0 6),
  (6, oCi tX2_northOf 1 none rmX2_northOf.cells rmX2_northOf.slots rmX2_eastOf.cells rmX2_eastOf.slots 9),
  (9, oIS 2 10),
  (10, oC (6) 12),
  (12, oIL 1 13),
  (13, oCi tX2_axisOf 1 none rmX2_axisOf.cells rmX2_axisOf.slots rmX2_eastOf.cells rmX2_eastOf.slots 16),
  (16, oIsub 17),
  (17, oIL 2 18),
  (18, oCi tX2_axisOf 1 none rmX2_axisOf.cells rmX2_axisOf.slots rmX2_eastOf.cells rmX2_eastOf.slots 21),
  (21, oIsub 22),
  (22, oIS 3 23),
  (23, oIL 2 24),
  (24, oCi tX2_axisOf 1 none rmX2_axisOf.cells rmX2_axisOf.slots rmX2_eastOf.cells rmX2_eastOf.slots 27),
  (27, oIL 1 28),
  (28, oCi tX2_axisOf 1 none rmX2_axisOf.cells rmX2_axisOf.slots rmX2_eastOf.cells rmX2_eastOf.slots 31),
  (31, oIsub 32),
  (32, oC (3) 33),
  (33, oIadd 34),
  (34, oC (3) 35),
  (35, oIrem 36),
  (36, oC (1) 37),
  (37, oIc_ne 44 40),
  (40, oC (1) 41),
  (41, oGo 45),
  (44, oC (0) 45),
  (45, oIS 4 47),
  (47, oIL 1 48),
  (48, oC (3) 49),
  (49, oIc_le 64 52),
  (52, oIL 4 54),
  (54, oIf_ne 61 57),
  (57, oC (1) 58),
  (58, oGo 62),
  (61, oC (0) 62),
  (62, oIS 4 64),
  (64, oIL 2 65),
  (65, oC (3) 66),
  (66, oIc_le 81 69),
  (69, oIL 4 71),
  (71, oIf_ne 78 74),
  (74, oC (1) 75),
  (75, oGo 79),
  (78, oC (0) 79),
  (79, oIS 4 81),
  (81, oIL 4 83),
  (83, oIf_eq 90 86),
  (86, oIL 3 87),
  (87, oGo 94),
  (90, oC (7) 92),
  (92, oIL 3 93),
  (93, oIsub 94),
  (94, oRi post ad0 rmX2_eastOf.cells rmX2_eastOf.slots)]
set_option maxRecDepth 20000 in
theorem okX2_eastOf {Γ : aΓ} {post : Int32 → List aE → Prop} {ad0 : Nat → Nat} {X0 : List aE} (C : FOK Γ cX2_eastOf wsX2_eastOf RX2 5 rmX2_eastOf) (hQ : isQ Γ (va_Qi post (aBk (gK Γ) ad0 X0 (hsz Γ)) (aA (gK Γ) ad0 X0 (hsz Γ))) rmX2_eastOf ad0 X0) (hr : rTy Γ = some .int) : AllS Γ (tbX2_eastOf post ad0) := by
  unfold tbX2_eastOf
  refine al_c (pc := 0) (snd_iload_n C dX2_eastOf_0 rfl) ?_
  refine al_c (pc := 1) (snd_Ci C (site_S C dX2_eastOf_1 gX2_eastOf_X2_topOf rfl rfl rfl ⟨by decide +kernel, by decide +kernel, by decide +kernel⟩ ⟨by decide, by decide⟩) mX2_topOf) ?_
  refine al_c (pc := 4) (snd_istore_n C dX2_eastOf_4 rfl (by decide)) ?_
  refine al_c (pc := 5) (snd_iload_n C dX2_eastOf_5 rfl) ?_
  refine al_c (pc := 6) (snd_Ci C (site_S C dX2_eastOf_6 gX2_eastOf_X2_northOf rfl rfl rfl ⟨by decide +kernel, by decide +kernel, by decide +kernel⟩ ⟨by decide, by decide⟩) mX2_northOf) ?_
  refine al_c (pc := 9) (snd_istore_n C dX2_eastOf_9 rfl (by decide)) ?_
  refine al_c (pc := 10) (snd_bipush C dX2_eastOf_10 (by decide)) ?_
  refine al_c (pc := 12) (snd_iload_n C dX2_eastOf_12 rfl) ?_
  refine al_c (pc := 13) (snd_Ci C (site_S C dX2_eastOf_13 gX2_eastOf_X2_axisOf rfl rfl rfl ⟨by decide +kernel, by decide +kernel, by decide +kernel⟩ ⟨by decide, by decide⟩) mX2_axisOf) ?_
  refine al_c (pc := 16) (snd_isub C dX2_eastOf_16) ?_
  refine al_c (pc := 17) (snd_iload_n C dX2_eastOf_17 rfl) ?_
  refine al_c (pc := 18) (snd_Ci C (site_S C dX2_eastOf_18 gX2_eastOf_X2_axisOf rfl rfl rfl ⟨by decide +kernel, by decide +kernel, by decide +kernel⟩ ⟨by decide, by decide⟩) mX2_axisOf) ?_
  refine al_c (pc := 21) (snd_isub C dX2_eastOf_21) ?_
  refine al_c (pc := 22) (snd_istore_n C dX2_eastOf_22 rfl (by decide)) ?_
  refine al_c (pc := 23) (snd_iload_n C dX2_eastOf_23 rfl) ?_
  refine al_c (pc := 24) (snd_Ci C (site_S C dX2_eastOf_24 gX2_eastOf_X2_axisOf rfl rfl rfl ⟨by decide +kernel, by decide +kernel, by decide +kernel⟩ ⟨by decide, by decide⟩) mX2_axisOf) ?_
  refine al_c (pc := 27) (snd_iload_n C dX2_eastOf_27 rfl) ?_
  refine al_c (pc := 28) (snd_Ci C (site_S C dX2_eastOf_28 gX2_eastOf_X2_axisOf rfl rfl rfl ⟨by decide +kernel, by decide +kernel, by decide +kernel⟩ ⟨by decide, by decide⟩) mX2_axisOf) ?_
  refine al_c (pc := 31) (snd_isub C dX2_eastOf_31) ?_
  refine al_c (pc := 32) (snd_iconst C dX2_eastOf_32 (by decide)) ?_
  refine al_c (pc := 33) (snd_iadd C dX2_eastOf_33) ?_
  refine al_c (pc := 34) (snd_iconst C dX2_eastOf_34 (by decide)) ?_
  refine al_c (pc := 35) (snd_irem C dX2_eastOf_35) ?_
  refine al_c (pc := 36) (snd_iconst C dX2_eastOf_36 (by decide)) ?_
  refine al_c (pc := 37) (snd_icmp_ne C dX2_eastOf_37 (by decide)) ?_
  refine al_c (pc := 40) (snd_iconst C dX2_eastOf_40 (by decide)) ?_
  refine al_c (pc := 41) (snd_goto C dX2_eastOf_41 (by decide)) ?_
  refine al_c (pc := 44) (snd_iconst C dX2_eastOf_44 (by decide)) ?_
  refine al_c (pc := 45) (snd_istore C dX2_eastOf_45 (by decide)) ?_
  refine al_c (pc := 47) (snd_iload_n C dX2_eastOf_47 rfl) ?_
  refine al_c (pc := 48) (snd_iconst C dX2_eastOf_48 (by decide)) ?_
  refine al_c (pc := 49) (snd_icmp_le C dX2_eastOf_49 (by decide)) ?_
  refine al_c (pc := 52) (snd_iload C dX2_eastOf_52) ?_
  refine al_c (pc := 54) (snd_if_ne C dX2_eastOf_54 (by decide)) ?_
  refine al_c (pc := 57) (snd_iconst C dX2_eastOf_57 (by decide)) ?_
  refine al_c (pc := 58) (snd_goto C dX2_eastOf_58 (by decide)) ?_
  refine al_c (pc := 61) (snd_iconst C dX2_eastOf_61 (by decide)) ?_
  refine al_c (pc := 62) (snd_istore C dX2_eastOf_62 (by decide)) ?_
  refine al_c (pc := 64) (snd_iload_n C dX2_eastOf_64 rfl) ?_
  refine al_c (pc := 65) (snd_iconst C dX2_eastOf_65 (by decide)) ?_
  refine al_c (pc := 66) (snd_icmp_le C dX2_eastOf_66 (by decide)) ?_
  refine al_c (pc := 69) (snd_iload C dX2_eastOf_69) ?_
  refine al_c (pc := 71) (snd_if_ne C dX2_eastOf_71 (by decide)) ?_
  refine al_c (pc := 74) (snd_iconst C dX2_eastOf_74 (by decide)) ?_
  refine al_c (pc := 75) (snd_goto C dX2_eastOf_75 (by decide)) ?_
  refine al_c (pc := 78) (snd_iconst C dX2_eastOf_78 (by decide)) ?_
  refine al_c (pc := 79) (snd_istore C dX2_eastOf_79 (by decide)) ?_
  refine al_c (pc := 81) (snd_iload C dX2_eastOf_81) ?_
  refine al_c (pc := 83) (snd_if_eq C dX2_eastOf_83 (by decide)) ?_
  refine al_c (pc := 86) (snd_iload_n C dX2_eastOf_86 rfl) ?_
  refine al_c (pc := 87) (snd_goto C dX2_eastOf_87 (by decide)) ?_
  refine al_c (pc := 90) (snd_bipush C dX2_eastOf_90 (by decide)) ?_
  refine al_c (pc := 92) (snd_iload_n C dX2_eastOf_92 rfl) ?_
  refine al_c (pc := 93) (snd_isub C dX2_eastOf_93) ?_
  refine al_c (pc := 94) (snd_Ri C hQ hr dX2_eastOf_94) ?_
  exact al_0
set_option maxHeartbeats 1000000 in
set_option maxRecDepth 100000 in
theorem mX2_eastOf : aMi yX2_eastOf wsX2_eastOf rmX2_eastOf tX2_eastOf := by
  refine aMi_of (by decide +kernel) rfl rfl (by intro av X post hT; obtain ⟨a, t, rfl, rfl, ht, hv, hp⟩ := hT; exact Nat.le_of_ble_eq_true rfl) ?_
  intro Γ ad av X post C hQ hr hT
  obtain ⟨a, t, rfl, rfl, ht, hv, hp⟩ := hT
  have OK := okX2_eastOf C hQ hr
  have b1 : ∀ t, t < 36 → t / 6 + 1 < 7 ∧ t % 6 + 1 < 7 := by decide +kernel
  refine go OK [] 80 ?_
  refine ⟨nI t, t, rfl, rfl, ht, ?_⟩
  refine ⟨nI t, t, rfl, rfl, ht, ?_⟩
  refine ⟨_, _, rfl, rfl, (b1 t ht).1, ?_⟩
  refine ⟨_, _, rfl, rfl, (b1 t ht).2, ?_⟩
  refine ⟨_, _, rfl, rfl, (b1 t ht).2, ?_⟩
  refine ⟨_, _, rfl, rfl, (b1 t ht).1, ?_⟩
  refine ⟨by decide, ?_⟩
  refine And.intro (fun q1 => ?_) (fun q1 => ?_)
  all_goals refine And.intro (fun q2 => ?_) (fun q2 => ?_)
  all_goals try refine And.intro (fun q3 => ?_) (fun q3 => ?_)
  all_goals try refine And.intro (fun q4 => ?_) (fun q4 => ?_)
  all_goals try refine And.intro (fun q5 => ?_) (fun q5 => ?_)
  all_goals try refine And.intro (fun q6 => ?_) (fun q6 => ?_)
  all_goals try exact absurd q2 (by decide)
  all_goals try exact absurd q3 (by decide)
  all_goals try exact absurd q4 (by decide)
  all_goals try exact absurd q5 (by decide)
  all_goals try exact absurd q6 (by decide)
  all_goals
    refine ⟨rfl, Eq.mp (congrArg (fun z => post z X) ?_) hp⟩
    clear hp OK hr hQ C b1
    revert t
    decide +kernel
abbrev tX2_faceOn : aTi := fun av X post => ∃ (a b : Int32) (t d : Nat), av = [.int a, .int b] ∧ a = nI t ∧ b = nI d ∧ t < 36 ∧ vt t = true ∧ d < 4 ∧ post (nI (faN t d)) X
abbrev rmX2_faceOn : Room := { frames := 2, cells := 0, slots := 0, locals := 44 }
def tbX2_faceOn (post : Int32 → List aE → Prop) (ad0 : Nat → Nat) : List (Nat × aO) := [(0, oIL 1 1),
  (1, oSw [(0, 28), (1, 33), (2, 38)] 46),
  (28, oIL 0 29),
  (29, oCi tX2_northOf 1 none rmX2_northOf.cells rmX2_northOf.slots rmX2_faceOn.cells rmX2_faceOn.slots 32),
  (32, oRi post ad0 rmX2_faceOn.cells rmX2_faceOn.slots),
  (33, oIL 0 34),
  (34, oCi tX2_eastOf 1 none rmX2_eastOf.cells rmX2_eastOf.slots rmX2_faceOn.cells rmX2_faceOn.slots 37),
  (37, oRi post ad0 rmX2_faceOn.cells rmX2_faceOn.slots),
  (38, oC (7) 40),
  (40, oIL 0 41),
  (41, oCi tX2_northOf 1 none rmX2_northOf.cells rmX2_northOf.slots rmX2_faceOn.cells rmX2_faceOn.slots 44),
  (44, oIsub 45),
  (45, oRi post ad0 rmX2_faceOn.cells rmX2_faceOn.slots),
  (46, oC (7) 48),
  (48, oIL 0 49),
  (49, oCi tX2_eastOf 1 none rmX2_eastOf.cells rmX2_eastOf.slots rmX2_faceOn.cells rmX2_faceOn.slots 52),
  (52, oIsub 53),
  (53, oRi post ad0 rmX2_faceOn.cells rmX2_faceOn.slots)]
set_option maxRecDepth 20000 in
theorem okX2_faceOn {Γ : aΓ} {post : Int32 → List aE → Prop} {ad0 : Nat → Nat} {X0 : List aE} (C : FOK Γ cX2_faceOn wsX2_faceOn RX2 2 rmX2_faceOn) (hQ : isQ Γ (va_Qi post (aBk (gK Γ) ad0 X0 (hsz Γ)) (aA (gK Γ) ad0 X0 (hsz Γ))) rmX2_faceOn ad0 X0) (hr : rTy Γ = some .int) : AllS Γ (tbX2_faceOn post ad0) := by
  unfold tbX2_faceOn
  refine al_c (pc := 0) (snd_iload_n C dX2_faceOn_0 rfl) ?_
  refine al_c (pc := 1) (snd_sw C dX2_faceOn_1 (by decide) (by decide) (fun x h1 h2 => sw_in3 x h1 h2)) ?_
  refine al_c (pc := 28) (snd_iload_n C dX2_faceOn_28 rfl) ?_
  refine al_c (pc := 29) (snd_Ci C (site_S C dX2_faceOn_29 gX2_faceOn_X2_northOf rfl rfl rfl ⟨by decide +kernel, by decide +kernel, by decide +kernel⟩ ⟨by decide, by decide⟩) mX2_northOf) ?_
  refine al_c (pc := 32) (snd_Ri C hQ hr dX2_faceOn_32) ?_
  refine al_c (pc := 33) (snd_iload_n C dX2_faceOn_33 rfl) ?_
  refine al_c (pc := 34) (snd_Ci C (site_S C dX2_faceOn_34 gX2_faceOn_X2_eastOf rfl rfl rfl ⟨by decide +kernel, by decide +kernel, by decide +kernel⟩ ⟨by decide, by decide⟩) mX2_eastOf) ?_
  refine al_c (pc := 37) (snd_Ri C hQ hr dX2_faceOn_37) ?_
  refine al_c (pc := 38) (snd_bipush C dX2_faceOn_38 (by decide)) ?_
  refine al_c (pc := 40) (snd_iload_n C dX2_faceOn_40 rfl) ?_
  refine al_c (pc := 41) (snd_Ci C (site_S C dX2_faceOn_41 gX2_faceOn_X2_northOf rfl rfl rfl ⟨by decide +kernel, by decide +kernel, by decide +kernel⟩ ⟨by decide, by decide⟩) mX2_northOf) ?_
  refine al_c (pc := 44) (snd_isub C dX2_faceOn_44) ?_
  refine al_c (pc := 45) (snd_Ri C hQ hr dX2_faceOn_45) ?_
  refine al_c (pc := 46) (snd_bipush C dX2_faceOn_46 (by decide)) ?_
  refine al_c (pc := 48) (snd_iload_n C dX2_faceOn_48 rfl) ?_
  refine al_c (pc := 49) (snd_Ci C (site_S C dX2_faceOn_49 gX2_faceOn_X2_eastOf rfl rfl rfl ⟨by decide +kernel, by decide +kernel, by decide +kernel⟩ ⟨by decide, by decide⟩) mX2_eastOf) ?_
  refine al_c (pc := 52) (snd_isub C dX2_faceOn_52) ?_
  refine al_c (pc := 53) (snd_Ri C hQ hr dX2_faceOn_53) ?_
  exact al_0
set_option maxHeartbeats 1000000 in
set_option maxRecDepth 100000 in
theorem mX2_faceOn : aMi yX2_faceOn wsX2_faceOn rmX2_faceOn tX2_faceOn := by
  refine aMi_of (by decide +kernel) rfl rfl (by intro av X post hT; obtain ⟨a, b, t, d, rfl, rfl, rfl, ht, hv, hd, hp⟩ := hT; exact Nat.le_of_ble_eq_true rfl) ?_
  intro Γ ad av X post C hQ hr hT
  obtain ⟨a, b, t, d, rfl, rfl, rfl, ht, hv, hd, hp⟩ := hT
  have OK := okX2_faceOn C hQ hr
  have b1 : ∀ t, t < 36 → t / 6 + 1 < 7 ∧ t % 6 + 1 < 7 := by decide +kernel
  have b2 : ∀ n, n < 7 → 7 - nI n = nI (7 - n) := by decide +kernel
  have hd4 : d = 0 ∨ d = 1 ∨ d = 2 ∨ d = 3 := by omega
  refine go OK [] 80 ?_
  rcases hd4 with rfl | rfl | rfl | rfl
  · refine And.intro (fun q => ?_) (fun q => absurd rfl q)
    exact ⟨nI t, t, rfl, rfl, ht, rfl, hp⟩
  · refine And.intro (fun q => absurd q (by decide)) (fun q => ?_)
    refine And.intro (fun q => ?_) (fun q => absurd rfl q)
    exact ⟨nI t, t, rfl, rfl, ht, hv, rfl, hp⟩
  · refine And.intro (fun q => absurd q (by decide)) (fun q => ?_)
    refine And.intro (fun q => absurd q (by decide)) (fun q => ?_)
    refine And.intro (fun q => ?_) (fun q => absurd rfl q)
    refine ⟨nI t, t, rfl, rfl, ht, rfl, ?_⟩
    show post (7 - nI (t % 6 + 1)) X
    rw [b2 _ (b1 t ht).2]
    exact hp
  · refine And.intro (fun q => absurd q (by decide)) (fun q => ?_)
    refine And.intro (fun q => absurd q (by decide)) (fun q => ?_)
    refine And.intro (fun q => absurd q (by decide)) (fun q => ?_)
    refine ⟨nI t, t, rfl, rfl, ht, hv, rfl, ?_⟩
    show post (7 - nI (eoN t)) X
    have := eoN_in t ht hv
    rw [b2 _ (by omega)]
    exact hp
abbrev tX2_behindRoll : aTi := fun av X post => ∃ (a b : Int32) (t d : Nat), av = [.int a, .int b] ∧ a = nI t ∧ b = nI d ∧ t < 36 ∧ vt t = true ∧ d < 4 ∧ post (nI (rlN t d)) X
abbrev rmX2_behindRoll : Room := { frames := 2, cells := 0, slots := 0, locals := 44 }
def tbX2_behindRoll (post : Int32 → List aE → Prop) (ad0 : Nat → Nat) : List (Nat × aO) := [(0, oIL 0 1),
  (1, oCi tX2_topOf 1 none rmX2_topOf.cells rmX2_topOf.slots rmX2_behindRoll.cells rmX2_behindRoll.slots 4),
  (4, oIS 2 5),
  (5, oIL 0 6),
  (6, oCi tX2_northOf 1 none rmX2_northOf.cells rmX2_northOf.slots rmX2_behindRoll.cells rmX2_behindRoll.slots 9),
  (9, oIS 3 10),
  (10, oIL 1 11),
  (11, oSw [(0, 36), (1, 45), (2, 57)] 66),
  (36, oC (7) 38),
  (38, oIL 3 39),
  (39, oIsub 40),
  (40, oIL 2 41),
  (41, oCi tX2_with 2 none rmX2_with.cells rmX2_with.slots rmX2_behindRoll.cells rmX2_behindRoll.slots 44),
  (44, oRi post ad0 rmX2_behindRoll.cells rmX2_behindRoll.slots),
  (45, oC (7) 47),
  (47, oIL 0 48),
  (48, oCi tX2_eastOf 1 none rmX2_eastOf.cells rmX2_eastOf.slots rmX2_behindRoll.cells rmX2_behindRoll.slots 51),
  (51, oIsub 52),
  (52, oIL 3 53),
  (53, oCi tX2_with 2 none rmX2_with.cells rmX2_with.slots rmX2_behindRoll.cells rmX2_behindRoll.slots 56),
  (56, oRi post ad0 rmX2_behindRoll.cells rmX2_behindRoll.slots),
  (57, oIL 3 58),
  (58, oC (7) 60),
  (60, oIL 2 61),
  (61, oIsub 62),
  (62, oCi tX2_with 2 none rmX2_with.cells rmX2_with.slots rmX2_behindRoll.cells rmX2_behindRoll.slots 65),
  (65, oRi post ad0 rmX2_behindRoll.cells rmX2_behindRoll.slots),
  (66, oIL 0 67),
  (67, oCi tX2_eastOf 1 none rmX2_eastOf.cells rmX2_eastOf.slots rmX2_behindRoll.cells rmX2_behindRoll.slots 70),
  (70, oIL 3 71),
  (71, oCi tX2_with 2 none rmX2_with.cells rmX2_with.slots rmX2_behindRoll.cells rmX2_behindRoll.slots 74),
  (74, oRi post ad0 rmX2_behindRoll.cells rmX2_behindRoll.slots)]
set_option maxRecDepth 20000 in
theorem okX2_behindRoll {Γ : aΓ} {post : Int32 → List aE → Prop} {ad0 : Nat → Nat} {X0 : List aE} (C : FOK Γ cX2_behindRoll wsX2_behindRoll RX2 4 rmX2_behindRoll) (hQ : isQ Γ (va_Qi post (aBk (gK Γ) ad0 X0 (hsz Γ)) (aA (gK Γ) ad0 X0 (hsz Γ))) rmX2_behindRoll ad0 X0) (hr : rTy Γ = some .int) : AllS Γ (tbX2_behindRoll post ad0) := by
  unfold tbX2_behindRoll
  refine al_c (pc := 0) (snd_iload_n C dX2_behindRoll_0 rfl) ?_
  refine al_c (pc := 1) (snd_Ci C (site_S C dX2_behindRoll_1 gX2_behindRoll_X2_topOf rfl rfl rfl ⟨by decide +kernel, by decide +kernel, by decide +kernel⟩ ⟨by decide, by decide⟩) mX2_topOf) ?_
  refine al_c (pc := 4) (snd_istore_n C dX2_behindRoll_4 rfl (by decide)) ?_
  refine al_c (pc := 5) (snd_iload_n C dX2_behindRoll_5 rfl) ?_
  refine al_c (pc := 6) (snd_Ci C (site_S C dX2_behindRoll_6 gX2_behindRoll_X2_northOf rfl rfl rfl ⟨by decide +kernel, by decide +kernel, by decide +kernel⟩ ⟨by decide, by decide⟩) mX2_northOf) ?_
  refine al_c (pc := 9) (snd_istore_n C dX2_behindRoll_9 rfl (by decide)) ?_
  refine al_c (pc := 10) (snd_iload_n C dX2_behindRoll_10 rfl) ?_
  refine al_c (pc := 11) (snd_sw C dX2_behindRoll_11 (by decide) (by decide) (fun x h1 h2 => sw_in3 x h1 h2)) ?_
  refine al_c (pc := 36) (snd_bipush C dX2_behindRoll_36 (by decide)) ?_
  refine al_c (pc := 38) (snd_iload_n C dX2_behindRoll_38 rfl) ?_
  refine al_c (pc := 39) (snd_isub C dX2_behindRoll_39) ?_
  refine al_c (pc := 40) (snd_iload_n C dX2_behindRoll_40 rfl) ?_
  refine al_c (pc := 41) (snd_Ci C (site_S C dX2_behindRoll_41 gX2_behindRoll_X2_with rfl rfl rfl ⟨by decide +kernel, by decide +kernel, by decide +kernel⟩ ⟨by decide, by decide⟩) mX2_with) ?_
  refine al_c (pc := 44) (snd_Ri C hQ hr dX2_behindRoll_44) ?_
  refine al_c (pc := 45) (snd_bipush C dX2_behindRoll_45 (by decide)) ?_
  refine al_c (pc := 47) (snd_iload_n C dX2_behindRoll_47 rfl) ?_
  refine al_c (pc := 48) (snd_Ci C (site_S C dX2_behindRoll_48 gX2_behindRoll_X2_eastOf rfl rfl rfl ⟨by decide +kernel, by decide +kernel, by decide +kernel⟩ ⟨by decide, by decide⟩) mX2_eastOf) ?_
  refine al_c (pc := 51) (snd_isub C dX2_behindRoll_51) ?_
  refine al_c (pc := 52) (snd_iload_n C dX2_behindRoll_52 rfl) ?_
  refine al_c (pc := 53) (snd_Ci C (site_S C dX2_behindRoll_53 gX2_behindRoll_X2_with rfl rfl rfl ⟨by decide +kernel, by decide +kernel, by decide +kernel⟩ ⟨by decide, by decide⟩) mX2_with) ?_
  refine al_c (pc := 56) (snd_Ri C hQ hr dX2_behindRoll_56) ?_
  refine al_c (pc := 57) (snd_iload_n C dX2_behindRoll_57 rfl) ?_
  refine al_c (pc := 58) (snd_bipush C dX2_behindRoll_58 (by decide)) ?_
  refine al_c (pc := 60) (snd_iload_n C dX2_behindRoll_60 rfl) ?_
  refine al_c (pc := 61) (snd_isub C dX2_behindRoll_61) ?_
  refine al_c (pc := 62) (snd_Ci C (site_S C dX2_behindRoll_62 gX2_behindRoll_X2_with rfl rfl rfl ⟨by decide +kernel, by decide +kernel, by decide +kernel⟩ ⟨by decide, by decide⟩) mX2_with) ?_
  refine al_c (pc := 65) (snd_Ri C hQ hr dX2_behindRoll_65) ?_
  refine al_c (pc := 66) (snd_iload_n C dX2_behindRoll_66 rfl) ?_
  refine al_c (pc := 67) (snd_Ci C (site_S C dX2_behindRoll_67 gX2_behindRoll_X2_eastOf rfl rfl rfl ⟨by decide +kernel, by decide +kernel, by decide +kernel⟩ ⟨by decide, by decide⟩) mX2_eastOf) ?_
  refine al_c (pc := 70) (snd_iload_n C dX2_behindRoll_70 rfl) ?_
  refine al_c (pc := 71) (snd_Ci C (site_S C dX2_behindRoll_71 gX2_behindRoll_X2_with rfl rfl rfl ⟨by decide +kernel, by decide +kernel, by decide +kernel⟩ ⟨by decide, by decide⟩) mX2_with) ?_
  refine al_c (pc := 74) (snd_Ri C hQ hr dX2_behindRoll_74) ?_
  exact al_0
set_option maxHeartbeats 1000000 in
set_option maxRecDepth 100000 in
theorem mX2_behindRoll : aMi yX2_behindRoll wsX2_behindRoll rmX2_behindRoll tX2_behindRoll := by
  refine aMi_of (by decide +kernel) rfl rfl (by intro av X post hT; obtain ⟨a, b, t, d, rfl, rfl, rfl, ht, hv, hd, hp⟩ := hT; exact Nat.le_of_ble_eq_true rfl) ?_
  intro Γ ad av X post C hQ hr hT
  obtain ⟨a, b, t, d, rfl, rfl, rfl, ht, hv, hd, hp⟩ := hT
  have OK := okX2_behindRoll C hQ hr
  have b1 : ∀ t, t < 36 → t / 6 + 1 < 7 ∧ t % 6 + 1 < 7 := by decide +kernel
  have b2 : ∀ n, n < 7 → 7 - nI n = nI (7 - n) := by decide +kernel
  have hd4 : d = 0 ∨ d = 1 ∨ d = 2 ∨ d = 3 := by omega
  obtain ⟨e1, e2⟩ := eoN_in t ht hv
  obtain ⟨f1, f2⟩ := b1 t ht
  refine go OK [] 80 ?_
  refine ⟨nI t, t, rfl, rfl, ht, ?_⟩
  refine ⟨nI t, t, rfl, rfl, ht, ?_⟩
  rcases hd4 with rfl | rfl | rfl | rfl
  · refine And.intro (fun q => ?_) (fun q => absurd rfl q)
    exact ⟨_, _, _, _, rfl, b2 _ f2, rfl, by omega, f1, by omega, by omega, rfl, hp⟩
  · refine And.intro (fun q => absurd q (by decide)) (fun q => ?_)
    refine And.intro (fun q => ?_) (fun q => absurd rfl q)
    refine ⟨nI t, t, rfl, rfl, ht, hv, ?_⟩
    exact ⟨_, _, _, _, rfl, b2 _ (by omega), rfl, by omega, f2, by omega, by omega, rfl, hp⟩
  · refine And.intro (fun q => absurd q (by decide)) (fun q => ?_)
    refine And.intro (fun q => absurd q (by decide)) (fun q => ?_)
    refine And.intro (fun q => ?_) (fun q => absurd rfl q)
    exact ⟨_, _, _, _, rfl, rfl, b2 _ f1, f2, by omega, by omega, by omega, rfl, hp⟩
  · refine And.intro (fun q => absurd q (by decide)) (fun q => ?_)
    refine And.intro (fun q => absurd q (by decide)) (fun q => ?_)
    refine And.intro (fun q => absurd q (by decide)) (fun q => ?_)
    refine ⟨nI t, t, rfl, rfl, ht, hv, ?_⟩
    exact ⟨_, _, _, _, rfl, rfl, rfl, by omega, f2, by omega, by omega, rfl, hp⟩
