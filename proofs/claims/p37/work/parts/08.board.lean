/-! ===== PaintedDie$Board ===== -/
abbrev tX0_cellAt : aTi := fun av X post => ∃ a b : Int32, av = [.int a, .int b] ∧ post (b * 7 + a) X
abbrev rmX0_cellAt : Room := { frames := 0, cells := 0, slots := 0, locals := 0 }
def tbX0_cellAt (post : Int32 → List aE → Prop) (ad0 : Nat → Nat) : List (Nat × aO) := [(0, oIL 1 1),
  (1, oC (7) 3),
  (3, oImul 4),
  (4, oIL 0 5),
  (5, oIadd 6),
  (6, oRi post ad0 rmX0_cellAt.cells rmX0_cellAt.slots)]
set_option maxRecDepth 20000 in
theorem okX0_cellAt {Γ : aΓ} {post : Int32 → List aE → Prop} {ad0 : Nat → Nat} {X0 : List aE} (C : FOK Γ cX0_cellAt wsX0_cellAt RX0 2 rmX0_cellAt) (hQ : isQ Γ (va_Qi post (aBk (gK Γ) ad0 X0 (hsz Γ)) (aA (gK Γ) ad0 X0 (hsz Γ))) rmX0_cellAt ad0 X0) (hr : rTy Γ = some .int) : AllS Γ (tbX0_cellAt post ad0) := by
  unfold tbX0_cellAt
  refine al_c (pc := 0) (snd_iload_n C dX0_cellAt_0 rfl) ?_
  refine al_c (pc := 1) (snd_bipush C dX0_cellAt_1 (by decide)) ?_
  refine al_c (pc := 3) (snd_imul C dX0_cellAt_3) ?_
  refine al_c (pc := 4) (snd_iload_n C dX0_cellAt_4 rfl) ?_
  refine al_c (pc := 5) (snd_iadd C dX0_cellAt_5) ?_
  refine al_c (pc := 6) (snd_Ri C hQ hr dX0_cellAt_6) ?_
  exact al_0
set_option maxHeartbeats 1000000 in
set_option maxRecDepth 100000 in
theorem mX0_cellAt : aMi yX0_cellAt wsX0_cellAt rmX0_cellAt tX0_cellAt := by
  refine aMi_of (by decide +kernel) rfl rfl (by intro av X post hT; obtain ⟨a, b, rfl, hp⟩ := hT; exact Nat.le_of_ble_eq_true rfl) ?_
  intro Γ ad av X post C hQ hr hT
  obtain ⟨a, b, rfl, hp⟩ := hT
  have OK := okX0_cellAt C hQ hr
  refine go OK [] 40 ?_
  exact ⟨rfl, hp⟩
abbrev tX0_columnOf : aTi := fun av X post => ∃ (a : Int32) (k : Nat), av = [.int a] ∧ a = nI k ∧ k < 49 ∧ post (nI (k % 7)) X
abbrev rmX0_columnOf : Room := { frames := 0, cells := 0, slots := 0, locals := 0 }
def tbX0_columnOf (post : Int32 → List aE → Prop) (ad0 : Nat → Nat) : List (Nat × aO) := [(0, oIL 0 1),
  (1, oC (7) 3),
  (3, oIrem 4),
  (4, oRi post ad0 rmX0_columnOf.cells rmX0_columnOf.slots)]
set_option maxRecDepth 20000 in
theorem okX0_columnOf {Γ : aΓ} {post : Int32 → List aE → Prop} {ad0 : Nat → Nat} {X0 : List aE} (C : FOK Γ cX0_columnOf wsX0_columnOf RX0 1 rmX0_columnOf) (hQ : isQ Γ (va_Qi post (aBk (gK Γ) ad0 X0 (hsz Γ)) (aA (gK Γ) ad0 X0 (hsz Γ))) rmX0_columnOf ad0 X0) (hr : rTy Γ = some .int) : AllS Γ (tbX0_columnOf post ad0) := by
  unfold tbX0_columnOf
  refine al_c (pc := 0) (snd_iload_n C dX0_columnOf_0 rfl) ?_
  refine al_c (pc := 1) (snd_bipush C dX0_columnOf_1 (by decide)) ?_
  refine al_c (pc := 3) (snd_irem C dX0_columnOf_3) ?_
  refine al_c (pc := 4) (snd_Ri C hQ hr dX0_columnOf_4) ?_
  exact al_0
set_option maxHeartbeats 1000000 in
set_option maxRecDepth 100000 in
theorem mX0_columnOf : aMi yX0_columnOf wsX0_columnOf rmX0_columnOf tX0_columnOf := by
  refine aMi_of (by decide +kernel) rfl rfl (by intro av X post hT; obtain ⟨a, k, rfl, rfl, hk, hp⟩ := hT; exact Nat.le_of_ble_eq_true rfl) ?_
  intro Γ ad av X post C hQ hr hT
  obtain ⟨a, k, rfl, rfl, hk, hp⟩ := hT
  have OK := okX0_columnOf C hQ hr
  refine go OK [] 40 ?_
  refine ⟨by decide, rfl, ?_⟩
  rw [← pk_rem (a := k) (d := 7) (by omega) (by omega) (by omega)] at hp
  exact hp
abbrev tX0_rowOf : aTi := fun av X post => ∃ (a : Int32) (k : Nat), av = [.int a] ∧ a = nI k ∧ k < 49 ∧ post (nI (k / 7)) X
abbrev rmX0_rowOf : Room := { frames := 0, cells := 0, slots := 0, locals := 0 }
def tbX0_rowOf (post : Int32 → List aE → Prop) (ad0 : Nat → Nat) : List (Nat × aO) := [(0, oIL 0 1),
  (1, oC (7) 3),
  (3, oIdiv 4),
  (4, oRi post ad0 rmX0_rowOf.cells rmX0_rowOf.slots)]
set_option maxRecDepth 20000 in
theorem okX0_rowOf {Γ : aΓ} {post : Int32 → List aE → Prop} {ad0 : Nat → Nat} {X0 : List aE} (C : FOK Γ cX0_rowOf wsX0_rowOf RX0 1 rmX0_rowOf) (hQ : isQ Γ (va_Qi post (aBk (gK Γ) ad0 X0 (hsz Γ)) (aA (gK Γ) ad0 X0 (hsz Γ))) rmX0_rowOf ad0 X0) (hr : rTy Γ = some .int) : AllS Γ (tbX0_rowOf post ad0) := by
  unfold tbX0_rowOf
  refine al_c (pc := 0) (snd_iload_n C dX0_rowOf_0 rfl) ?_
  refine al_c (pc := 1) (snd_bipush C dX0_rowOf_1 (by decide)) ?_
  refine al_c (pc := 3) (snd_idiv C dX0_rowOf_3) ?_
  refine al_c (pc := 4) (snd_Ri C hQ hr dX0_rowOf_4) ?_
  exact al_0
set_option maxHeartbeats 1000000 in
set_option maxRecDepth 100000 in
theorem mX0_rowOf : aMi yX0_rowOf wsX0_rowOf rmX0_rowOf tX0_rowOf := by
  refine aMi_of (by decide +kernel) rfl rfl (by intro av X post hT; obtain ⟨a, k, rfl, rfl, hk, hp⟩ := hT; exact Nat.le_of_ble_eq_true rfl) ?_
  intro Γ ad av X post C hQ hr hT
  obtain ⟨a, k, rfl, rfl, hk, hp⟩ := hT
  have OK := okX0_rowOf C hQ hr
  refine go OK [] 40 ?_
  refine ⟨by decide, rfl, ?_⟩
  rw [← pk_div (a := k) (d := 7) (by omega) (by omega) (by omega)] at hp
  exact hp
abbrev tX0_has : aTi := fun av X post => ∃ (a b c t rm pm fd : Int32) (w h : Nat) (wl pr fe qu co pa : Nat → Int32), av = [.ref 1, .int a, .int b] ∧ X = CW c t rm pm (nI w) (nI h) fd wl pr fe qu co pa ∧ w ≤ 7 ∧ h ≤ 7 ∧ (inB a b w h → post 1 X) ∧ (¬ inB a b w h → post 0 X)
abbrev rmX0_has : Room := { frames := 0, cells := 0, slots := 0, locals := 0 }
theorem inX0_has_X0 : ∀ w ∈ wsX00, w ∈ wsX0_has := by decide +kernel
def tbX0_has (post : Int32 → List aE → Prop) (ad0 : Nat → Nat) : List (Nat × aO) := [(0, oIL 1 1),
  (1, oIf_lt 28 4),
  (4, oIL 1 5),
  (5, oAL 0 6),
  (6, oGet 0 2 9),
  (9, oIc_ge 28 12),
  (12, oIL 2 13),
  (13, oIf_lt 28 16),
  (16, oIL 2 17),
  (17, oAL 0 18),
  (18, oGet 0 3 21),
  (21, oIc_ge 28 24),
  (24, oC (1) 25),
  (25, oGo 29),
  (28, oC (0) 29),
  (29, oRz post ad0 rmX0_has.cells rmX0_has.slots)]
set_option maxRecDepth 20000 in
theorem okX0_has {Γ : aΓ} {post : Int32 → List aE → Prop} {ad0 : Nat → Nat} {X0 : List aE} (C : FOK Γ cX0_has wsX0_has RX0 3 rmX0_has) (hQ : isQ Γ (va_Qi post (aBk (gK Γ) ad0 X0 (hsz Γ)) (aA (gK Γ) ad0 X0 (hsz Γ))) rmX0_has ad0 X0) (hr : rTy Γ = some .boolean) : AllS Γ (tbX0_has post ad0) := by
  unfold tbX0_has
  refine al_c (pc := 0) (snd_iload_n C dX0_has_0 rfl) ?_
  refine al_c (pc := 1) (snd_if_lt C dX0_has_1 (by decide)) ?_
  refine al_c (pc := 4) (snd_iload_n C dX0_has_4 rfl) ?_
  refine al_c (pc := 5) (snd_aload_n C dX0_has_5 rfl) ?_
  refine al_c (pc := 6) (snd_get C dX0_has_6 (ci := 0) (kf := 2) rfl (by decide) inX0_has_X0 rfl (by decide +kernel)) ?_
  refine al_c (pc := 9) (snd_icmp_ge C dX0_has_9 (by decide)) ?_
  refine al_c (pc := 12) (snd_iload_n C dX0_has_12 rfl) ?_
  refine al_c (pc := 13) (snd_if_lt C dX0_has_13 (by decide)) ?_
  refine al_c (pc := 16) (snd_iload_n C dX0_has_16 rfl) ?_
  refine al_c (pc := 17) (snd_aload_n C dX0_has_17 rfl) ?_
  refine al_c (pc := 18) (snd_get C dX0_has_18 (ci := 0) (kf := 3) rfl (by decide) inX0_has_X0 rfl (by decide +kernel)) ?_
  refine al_c (pc := 21) (snd_icmp_ge C dX0_has_21 (by decide)) ?_
  refine al_c (pc := 24) (snd_iconst C dX0_has_24 (by decide)) ?_
  refine al_c (pc := 25) (snd_goto C dX0_has_25 (by decide)) ?_
  refine al_c (pc := 28) (snd_iconst C dX0_has_28 (by decide)) ?_
  refine al_c (pc := 29) (snd_Rz C hQ hr dX0_has_29) ?_
  exact al_0
set_option maxHeartbeats 1000000 in
set_option maxRecDepth 100000 in
theorem mX0_has : aMi yX0_has wsX0_has rmX0_has tX0_has := by
  refine aMz_of (by decide +kernel) rfl rfl (by intro av X post hT; obtain ⟨a, b, c, t, rm, pm, fd, w, h, wl, pr, fe, qu, co, pa, rfl, rfl, hw, hh, h1, h2⟩ := hT; exact Nat.le_of_ble_eq_true rfl) ?_
  intro Γ ad av X post C hQ hr hT
  obtain ⟨a, b, c, t, rm, pm, fd, w, h, wl, pr, fe, qu, co, pa, rfl, rfl, hw, hh, h1, h2⟩ := hT
  have OK := okX0_has C hQ hr
  have no : ∀ {q : Prop}, (inB a b w h → q) → (¬ q) → post 0 (CW c t rm pm (nI w) (nI h) fd wl pr fe qu co pa) := fun f g => h2 (fun z => g (f z))
  refine go OK [] 40 ?_
  refine And.intro (fun q1 => ?_) (fun q1 => ?_)
  · exact ⟨Or.inl rfl, rfl, h2 (fun ⟨i, j, e1, e2, e3, e4⟩ => by rw [e1] at q1; exact absurd q1 (nI_pos (by omega)))⟩
  refine And.intro (fun q2 => ?_) (fun q2 => ?_)
  · exact ⟨Or.inl rfl, rfl, h2 (fun ⟨i, j, e1, e2, e3, e4⟩ => by rw [e1] at q2; exact absurd q2 (nI_ge e3 (by omega)))⟩
  refine And.intro (fun q3 => ?_) (fun q3 => ?_)
  · exact ⟨Or.inl rfl, rfl, h2 (fun ⟨i, j, e1, e2, e3, e4⟩ => by rw [e2] at q3; exact absurd q3 (nI_pos (by omega)))⟩
  refine And.intro (fun q4 => ?_) (fun q4 => ?_)
  · exact ⟨Or.inl rfl, rfl, h2 (fun ⟨i, j, e1, e2, e3, e4⟩ => by rw [e2] at q4; exact absurd q4 (nI_ge e4 (by omega)))⟩
  refine ⟨Or.inr rfl, rfl, h1 ?_⟩
  rcases pk_ix a (n := w) (by omega) with z | z | ⟨i, hi, rfl⟩
  · exact absurd z q1
  · exact absurd z q2
  rcases pk_ix b (n := h) (by omega) with z | z | ⟨j, hj, rfl⟩
  · exact absurd z q3
  · exact absurd z q4
  exact ⟨i, j, rfl, rfl, hi, hj⟩
abbrev tX0_isFree : aTi := fun av X post => ∃ (a b c t rm pm fd : Int32) (w h : Nat) (wl pr fe qu co pa : Nat → Int32), av = [.ref 1, .int a, .int b] ∧ X = CW c t rm pm (nI w) (nI h) fd wl pr fe qu co pa ∧ w ≤ 7 ∧ h ≤ 7 ∧ (frB a b w h wl → post 1 X) ∧ (¬ frB a b w h wl → post 0 X)
abbrev rmX0_isFree : Room := { frames := 1, cells := 0, slots := 0, locals := 22 }
theorem inX0_isFree_X0 : ∀ w ∈ wsX00, w ∈ wsX0_isFree := by decide +kernel
def tbX0_isFree (post : Int32 → List aE → Prop) (ad0 : Nat → Nat) : List (Nat × aO) := [(0, oAL 0 1),
  (1, oIL 1 2),
  (2, oIL 2 3),
  (3, oCi tX0_has 3 (some 0) rmX0_has.cells rmX0_has.slots rmX0_isFree.cells rmX0_isFree.slots 6),
  (6, oIf_eq 26 9),
  (9, oAL 0 10),
  (10, oGet 0 0 13),
  (13, oIL 1 14),
  (14, oIL 2 15),
  (15, oCi tX0_cellAt 2 none rmX0_cellAt.cells rmX0_cellAt.slots rmX0_isFree.cells rmX0_isFree.slots 18),
  (18, oZald 19),
  (19, oIf_ne 26 22),
  (22, oC (1) 23),
  (23, oGo 27),
  (26, oC (0) 27),
  (27, oRz post ad0 rmX0_isFree.cells rmX0_isFree.slots)]
set_option maxRecDepth 20000 in
theorem okX0_isFree {Γ : aΓ} {post : Int32 → List aE → Prop} {ad0 : Nat → Nat} {X0 : List aE} (C : FOK Γ cX0_isFree wsX0_isFree RX0 3 rmX0_isFree) (hQ : isQ Γ (va_Qi post (aBk (gK Γ) ad0 X0 (hsz Γ)) (aA (gK Γ) ad0 X0 (hsz Γ))) rmX0_isFree ad0 X0) (hr : rTy Γ = some .boolean) : AllS Γ (tbX0_isFree post ad0) := by
  unfold tbX0_isFree
  refine al_c (pc := 0) (snd_aload_n C dX0_isFree_0 rfl) ?_
  refine al_c (pc := 1) (snd_iload_n C dX0_isFree_1 rfl) ?_
  refine al_c (pc := 2) (snd_iload_n C dX0_isFree_2 rfl) ?_
  refine al_c (pc := 3) (snd_Ci C (site_V C rfl dX0_isFree_3 gX0_isFree_X0_has rfl rfl rfl ⟨rfl, by decide +kernel, by decide +kernel, by decide +kernel⟩ ⟨by decide, by decide⟩) mX0_has) ?_
  refine al_c (pc := 6) (snd_if_eq C dX0_isFree_6 (by decide)) ?_
  refine al_c (pc := 9) (snd_aload_n C dX0_isFree_9 rfl) ?_
  refine al_c (pc := 10) (snd_get C dX0_isFree_10 (ci := 0) (kf := 0) rfl (by decide) inX0_isFree_X0 rfl (by decide +kernel)) ?_
  refine al_c (pc := 13) (snd_iload_n C dX0_isFree_13 rfl) ?_
  refine al_c (pc := 14) (snd_iload_n C dX0_isFree_14 rfl) ?_
  refine al_c (pc := 15) (snd_Ci C (site_S C dX0_isFree_15 gX0_isFree_X0_cellAt rfl rfl rfl ⟨by decide +kernel, by decide +kernel, by decide +kernel⟩ ⟨by decide, by decide⟩) mX0_cellAt) ?_
  refine al_c (pc := 18) (snd_baload C dX0_isFree_18) ?_
  refine al_c (pc := 19) (snd_if_ne C dX0_isFree_19 (by decide)) ?_
  refine al_c (pc := 22) (snd_iconst C dX0_isFree_22 (by decide)) ?_
  refine al_c (pc := 23) (snd_goto C dX0_isFree_23 (by decide)) ?_
  refine al_c (pc := 26) (snd_iconst C dX0_isFree_26 (by decide)) ?_
  refine al_c (pc := 27) (snd_Rz C hQ hr dX0_isFree_27) ?_
  exact al_0
set_option maxHeartbeats 1000000 in
set_option maxRecDepth 100000 in
theorem mX0_isFree : aMi yX0_isFree wsX0_isFree rmX0_isFree tX0_isFree := by
  refine aMz_of (by decide +kernel) rfl rfl (by intro av X post hT; obtain ⟨a, b, c, t, rm, pm, fd, w, h, wl, pr, fe, qu, co, pa, rfl, rfl, hw, hh, h1, h2⟩ := hT; exact Nat.le_of_ble_eq_true rfl) ?_
  intro Γ ad av X post C hQ hr hT
  obtain ⟨a, b, c, t, rm, pm, fd, w, h, wl, pr, fe, qu, co, pa, rfl, rfl, hw, hh, h1, h2⟩ := hT
  have OK := okX0_isFree C hQ hr
  refine go OK [] 40 ?_
  refine ⟨a, b, c, t, rm, pm, fd, w, h, wl, pr, fe, qu, co, pa, rfl, rfl, hw, hh, fun z => ?_, fun z => ?_⟩
  · obtain ⟨i, j, rfl, rfl, hi, hj⟩ := z
    refine And.intro (fun q => absurd q (by decide)) (fun _ => ?_)
    refine ⟨nI i, nI j, rfl, ?_⟩
    have e : nI j * 7 + nI i = nI (j * 7 + i) := by rw [show (7 : Int32) = nI 7 from rfl, pk_mul, nI_add]
    have hlt : j * 7 + i < 49 := by omega
    rw [e]
    refine ⟨inS hlt (by decide), ?_⟩
    rw [nI_clampS (by omega)]
    refine And.intro (fun q => ?_) (fun q => ?_)
    · exact ⟨Or.inl rfl, rfl, h2 (fun ⟨i2, j2, e1, e2, e3, e4, e5⟩ => q (by rw [(nI_eq (by omega) (by omega)).mp e1, (nI_eq (by omega) (by omega)).mp e2]; exact e5))⟩
    · exact ⟨Or.inr rfl, rfl, h1 ⟨i, j, rfl, rfl, hi, hj, q⟩⟩
  · refine And.intro (fun _ => ?_) (fun q => absurd rfl q)
    exact ⟨Or.inl rfl, rfl, h2 (fun ⟨i, j, e1, e2, e3, e4, e5⟩ => z ⟨i, j, e1, e2, e3, e4⟩)⟩
