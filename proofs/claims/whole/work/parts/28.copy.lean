/-! ===== System.arraycopy of a row of booleans, whole; the model's cells behind n rolls ===== -/
def pN (c : Prop) : List Value → Prop
  | [] => c
  | _ => False
theorem pN_spec {c : Prop} {st : List Value} (h : pN c st) : st = [] ∧ c := by
  cases st with
  | nil => exact ⟨rfl, h⟩
  | cons a t => exact h.elim
def oCpZ (nx : Nat) : aO := fun K ad k n ls st X => pI (fun cn t => pI (fun dp t1 => pR (fun q1 t2 => pI (fun sp t3 => pR (fun q0 t4 => pN (gx q0 (eZ fun L f => gx q1 (eZ fun L2 g => (cn = 49 ∧ dp = 0 ∧ sp = 0 ∧ L = 49 ∧ L2 = 49) ∧ (∀ i, i < 49 → f i = 0 ∨ f i = 1) ∧ ∀ g2 : Nat → Int32, (∀ i, i < 49 → g2 i = f i) → sx q1 (.inl (true, L2, g2)) (fun X2 => K nx ad k n ls [] X2) X) X) X) t4) t3) t2) t1) t) st
section CPZ
variable {Γ : aΓ} {cc : ByteArray} {Ts : List Cond} {own : String} {nL : Nat} {rm : Room} {pc : Nat}
theorem snd_CpZ (C : FOK Γ cc Ts own nL rm) {index : Nat} (d : decode cc pc = .ok (.invokestatic index, 3)) (h1 : Cond.methodLink own index arraycopyName ∈ Ts) (h2 : Cond.native arraycopyName ∈ Ts) (h3 : Cond.static arraycopyName ∈ Ts) (h4 : Cond.initialized "java/lang/System" ∈ Ts) (hf : 1 ≤ rm.frames) (hlo : nativeFrameWords "java/lang/System" "arraycopy" 5 + 11 ≤ rm.locals) : Snd Γ pc (oCpZ (pc + 3)) := by
  obtain ⟨p, l, e, R, s, m, args, below, meth, c, Q, G, A, nL'⟩ := Γ
  obtain ⟨hx, hb, hml, hown, hts, hK, hA, rfl, rfl, hB⟩ := C
  intro K hK' ad k n ls st X ho
  dsimp only [oCpZ] at ho
  obtain ⟨cn, t, e1, k1⟩ := pI_spec ho
  obtain ⟨dp, t1, e2, k2⟩ := pI_spec k1
  obtain ⟨q1, t2, e3, k3⟩ := pR_spec k2
  obtain ⟨sp, t3, e4, k4⟩ := pI_spec k3
  obtain ⟨q0, t4, e5, k5⟩ := pR_spec k4
  obtain ⟨e6, k6⟩ := pN_spec k5
  obtain ⟨f0, g0, k7⟩ := gx_spec k6
  obtain ⟨L, f, e7, k8⟩ := eZ_spec k7
  obtain ⟨f1, g1, k9⟩ := gx_spec k8
  obtain ⟨L2, g, e8, k10, hz, h⟩ := eZ_spec k9
  clear ho k1 k2 k3 k4 k5 k6 k7 k8 k9
  obtain ⟨rfl, rfl, rfl, rfl, rfl⟩ := k10
  subst e6 e5 e4 e3 e2 e1 e7 e8
  have h := h (va_cpy f g 0 0 49) (fun i hi => by
    unfold va_cpy
    rw [if_pos (by omega), show 0 + (i - 0) = i by omega])
  obtain ⟨-, h⟩ := sx_spec h
  intro H locs la hP hD hS hl
  have hq0 := aX_get G ad X 0 q0 _ g0
  have hq1 := aX_get G ad X 0 q1 _ g1
  rw [Nat.zero_add] at hq0 hq1
  have hset : (aX G ad 0 X).set q1 (ad q1, aC G ad (.inl (true, 49, va_cpy f g 0 0 49))) = aX G ad 0 (X.set q1 (.inl (true, 49, va_cpy f g 0 0 49))) := by
    have h9 := aX_set G ad X 0 q1 (.inl (true, 49, va_cpy f g 0 0 49))
    rwa [Nat.zero_add] at h9
  refine va_copyi hx hb (hml.trans hl.1.symm) hown (hts _ h1) (hts _ h2) (hts _ h3) (hts _ h4) hK hP hD hS q0 q1 1 1 hq0 hq1 rfl rfl rfl (by decide) (by decide) (by decide) (by decide) (by decide) (fun i hi => ?_) hf (by simpa using hlo) d (fun H1 locs1 hP1 hD1 hS1 => ?_)
  · have hi49 : i < 49 := hi
    show fits .boolean (.int (f (0 + i))) = true
    rw [Nat.zero_add]
    rcases hz i hi49 with z | z <;> rw [z] <;> rfl
  · have hP2 : va_P G.1 vwCl (aX G ad 0 (X.set q1 (.inl (true, 49, va_cpy f g 0 0 49)))) H1 := hset ▸ hP1
    have hD2 : va_D A (aX G ad 0 (X.set q1 (.inl (true, 49, va_cpy f g 0 0 49)))) := hset ▸ hD1
    exact hK' _ _ _ _ _ _ _ h H1 locs1 la hP2 hD2 hS1 hl
end CPZ
/-- a row of booleans tells a set of the model's cells -/
def isP (P : Nat → Prop) (f : Nat → Int32) : Prop := ∀ c, c < 49 → (P c ∧ f c = 1) ∨ (¬ P c ∧ f c = 0)
theorem isP_cg {P Q : Nat → Prop} {f : Nat → Int32} (h : ∀ c, P c ↔ Q c) (hf : isP P f) : isP Q f := fun c hc => (hf c hc).elim (fun z => Or.inl ⟨(h c).mp z.1, z.2⟩) (fun z => Or.inr ⟨fun q => z.1 ((h c).mpr q), z.2⟩)
theorem isP_01 {P : Nat → Prop} {f : Nat → Int32} (hf : isP P f) : ∀ c, c < 49 → f c = 0 ∨ f c = 1 := fun c hc => (hf c hc).elim (fun z => Or.inr z.2) (fun z => Or.inl z.2)
theorem isP_0 {P : Nat → Prop} {f : Nat → Int32} (hf : isP P f) {c : Nat} (hc : c < 49) : f c = 0 ↔ ¬ P c := by
  rcases hf c hc with z | z
  · exact ⟨fun q => by rw [z.2] at q; exact absurd q (by decide), fun q => absurd z.1 q⟩
  · exact ⟨fun _ => z.1, fun _ => z.2⟩
theorem isP_set {P : Nat → Prop} {f : Nat → Int32} (hf : isP P f) (x : Nat) : isP (fun c => P c ∨ c = x) (upd f x 1) := fun c hc => by
  by_cases e : c = x
  · rw [e, pk_us]
    exact Or.inl ⟨Or.inr rfl, rfl⟩
  · rw [pk_un e]
    exact (hf c hc).elim (fun z => Or.inl ⟨Or.inl z.1, z.2⟩) (fun z => Or.inr ⟨fun q => q.elim z.1 e, z.2⟩)
/-- where a step leads from the cells below B of a set -/
def stQ (w h : Nat) (wl : Nat → Int32) (P : Nat → Prop) (B c : Nat) : Prop := ∃ a d m, a < B ∧ P a ∧ d < 4 ∧ nxt w h wl (k7 w a) d = some m ∧ cm w m = c
def stR (w h : Nat) (wl : Nat → Int32) (P : Nat → Prop) (a d c : Nat) : Prop := stQ w h wl P a c ∨ (P a ∧ ∃ d' m, d' < d ∧ nxt w h wl (k7 w a) d' = some m ∧ cm w m = c)
theorem stR_0 {w h : Nat} {wl : Nat → Int32} {P : Nat → Prop} {a c : Nat} : stQ w h wl P a c ↔ stR w h wl P a 0 c :=
  ⟨Or.inl, fun z => z.elim id (fun ⟨_, d', m, h, _⟩ => absurd h (Nat.not_lt_zero d'))⟩
theorem stR_4 {w h : Nat} {wl : Nat → Int32} {P : Nat → Prop} {a c : Nat} : stR w h wl P a 4 c ↔ stQ w h wl P (a + 1) c := by
  constructor
  · rintro (⟨a', d, m, h1, h2, h3, h4, h5⟩ | ⟨h2, d, m, h3, h4, h5⟩)
    · exact ⟨a', d, m, by omega, h2, h3, h4, h5⟩
    · exact ⟨a, d, m, by omega, h2, h3, h4, h5⟩
  · rintro ⟨a', d, m, h1, h2, h3, h4, h5⟩
    by_cases e : a' = a
    · subst e
      exact Or.inr ⟨h2, d, m, h3, h4, h5⟩
    · exact Or.inl ⟨a', d, m, by omega, h2, h3, h4, h5⟩
theorem stR_n {w h : Nat} {wl : Nat → Int32} {P : Nat → Prop} {a c d : Nat} (hn : nxt w h wl (k7 w a) d = none) : stR w h wl P a d c ↔ stR w h wl P a (d + 1) c := by
  constructor
  · rintro (z | ⟨h2, d', m, h3, h4, h5⟩)
    · exact Or.inl z
    · exact Or.inr ⟨h2, d', m, by omega, h4, h5⟩
  · rintro (z | ⟨h2, d', m, h3, h4, h5⟩)
    · exact Or.inl z
    · have : d' ≠ d := fun e => by rw [e, hn] at h4; cases h4
      exact Or.inr ⟨h2, d', m, by omega, h4, h5⟩
theorem stR_s {w h : Nat} {wl : Nat → Int32} {P : Nat → Prop} {a c d m : Nat} (hP : P a) (hn : nxt w h wl (k7 w a) d = some m) : (stR w h wl P a d c ∨ c = cm w m) ↔ stR w h wl P a (d + 1) c := by
  constructor
  · rintro ((z | ⟨h2, d', m', h3, h4, h5⟩) | e)
    · exact Or.inl z
    · exact Or.inr ⟨h2, d', m', by omega, h4, h5⟩
    · exact Or.inr ⟨hP, d, m, by omega, hn, e.symm⟩
  · rintro (z | ⟨h2, d', m', h3, h4, h5⟩)
    · exact Or.inl (Or.inl z)
    · by_cases e : d' = d
      · subst e
        rw [hn] at h4
        cases h4
        exact Or.inr h5.symm
      · exact Or.inl (Or.inr ⟨h2, d', m', by omega, h4, h5⟩)
abbrev tX4_goOn : aTv := fun av X post => ∃ (wl : Nat → Int32) (P : Nat → Prop) (th rm pm ic it iv ie rc : Int32) (k tt w h : Nat) (wm pq co pa fa ce ts ns es on nx : Nat → Int32), av = [.ref 0] ∧ X = MW th (nI w) (nI h) rm pm (nI (cm w k)) (nI (tt / 6 + 1)) (nI (tt % 6 + 1)) (nI (eoN tt)) ic it iv ie rc wm pq co pa fa ce ts ns es on nx ∧ 2 ≤ w ∧ w ≤ 7 ∧ 2 ≤ h ∧ h ≤ 7 ∧ RW w h wl wm ∧ isP P on ∧
  ∀ on2 nx2 : Nat → Int32, isP (stQ w h wl P (w * h)) on2 → post (MW th (nI w) (nI h) rm pm (nI (cm w k)) (nI (tt / 6 + 1)) (nI (tt % 6 + 1)) (nI (eoN tt)) ic it iv ie rc wm pq co pa fa ce ts ns es on2 nx2)
abbrev rmX4_goOn : Room := { frames := 3, cells := 0, slots := 0, locals := 68 }
theorem inX4_goOn_X4 : ∀ w ∈ wsX40, w ∈ wsX4_goOn := by decide +kernel
def tbX4_goOn (post : List aE → Prop) (ad0 : Nat → Nat) : List (Nat × aO) := [(0, oC (0) 1),
  (1, oIS 1 2),
  (2, oIL 1 3),
  (3, oC (49) 5),
  (5, oIc_ge 21 8),
  (8, oAL 0 9),
  (9, oGet 3 24 12),
  (12, oIL 1 13),
  (13, oC (0) 14),
  (14, oZast 15),
  (15, oInc 1 1 18),
  (18, oGo 2),
  (21, oC (0) 22),
  (22, oIS 1 23),
  (23, oIL 1 24),
  (24, oAL 0 25),
  (25, oGet 3 1 28),
  (28, oAL 0 29),
  (29, oGet 3 2 32),
  (32, oImul 33),
  (33, oIc_ge 83 36),
  (36, oC (0) 37),
  (37, oIS 2 38),
  (38, oIL 2 39),
  (39, oC (4) 40),
  (40, oIc_ge 77 43),
  (43, oAL 0 44),
  (44, oGet 3 23 47),
  (47, oIL 1 48),
  (48, oZald 49),
  (49, oIf_eq 77 52),
  (52, oAL 0 53),
  (53, oIL 1 54),
  (54, oIL 2 55),
  (55, oCi tX4_beside 3 (some 3) rmX4_beside.cells rmX4_beside.slots rmX4_goOn.cells rmX4_goOn.slots 58),
  (58, oIS 3 59),
  (59, oIL 3 60),
  (60, oC (-1) 61),
  (61, oIc_eq 71 64),
  (64, oAL 0 65),
  (65, oGet 3 24 68),
  (68, oIL 3 69),
  (69, oC (1) 70),
  (70, oZast 71),
  (71, oInc 2 1 74),
  (74, oGo 38),
  (77, oInc 1 1 80),
  (80, oGo 23),
  (83, oAL 0 84),
  (84, oGet 3 24 87),
  (87, oC (0) 88),
  (88, oAL 0 89),
  (89, oGet 3 23 92),
  (92, oC (0) 93),
  (93, oC (49) 95),
  (95, oCpZ 98),
  (98, oRv post ad0 rmX4_goOn.cells rmX4_goOn.slots)]
set_option maxRecDepth 20000 in
theorem okX4_goOn {Γ : aΓ} {post : List aE → Prop} {ad0 : Nat → Nat} {X0 : List aE} (C : FOK Γ cX4_goOn wsX4_goOn RX4 4 rmX4_goOn) (hQ : isQ Γ (va_Qv post (aBk (gK Γ) ad0 X0 (hsz Γ)) (aA (gK Γ) ad0 X0 (hsz Γ))) rmX4_goOn ad0 X0) (hr : rTy Γ = none) : AllS Γ (tbX4_goOn post ad0) := by
  unfold tbX4_goOn
  refine al_c (pc := 0) (snd_iconst C dX4_goOn_0 (by decide)) ?_
  refine al_c (pc := 1) (snd_istore_n C dX4_goOn_1 rfl (by decide)) ?_
  refine al_c (pc := 2) (snd_iload_n C dX4_goOn_2 rfl) ?_
  refine al_c (pc := 3) (snd_bipush C dX4_goOn_3 (by decide)) ?_
  refine al_c (pc := 5) (snd_icmp_ge C dX4_goOn_5 (by decide)) ?_
  refine al_c (pc := 8) (snd_aload_n C dX4_goOn_8 rfl) ?_
  refine al_c (pc := 9) (snd_get C dX4_goOn_9 (ci := 3) (kf := 24) rfl (by decide) inX4_goOn_X4 rfl (by decide +kernel)) ?_
  refine al_c (pc := 12) (snd_iload_n C dX4_goOn_12 rfl) ?_
  refine al_c (pc := 13) (snd_iconst C dX4_goOn_13 (by decide)) ?_
  refine al_c (pc := 14) (snd_bastore C dX4_goOn_14) ?_
  refine al_c (pc := 15) (snd_iinc C dX4_goOn_15 (by decide) (by decide)) ?_
  refine al_c (pc := 18) (snd_goto C dX4_goOn_18 (by decide)) ?_
  refine al_c (pc := 21) (snd_iconst C dX4_goOn_21 (by decide)) ?_
  refine al_c (pc := 22) (snd_istore_n C dX4_goOn_22 rfl (by decide)) ?_
  refine al_c (pc := 23) (snd_iload_n C dX4_goOn_23 rfl) ?_
  refine al_c (pc := 24) (snd_aload_n C dX4_goOn_24 rfl) ?_
  refine al_c (pc := 25) (snd_get C dX4_goOn_25 (ci := 3) (kf := 1) rfl (by decide) inX4_goOn_X4 rfl (by decide +kernel)) ?_
  refine al_c (pc := 28) (snd_aload_n C dX4_goOn_28 rfl) ?_
  refine al_c (pc := 29) (snd_get C dX4_goOn_29 (ci := 3) (kf := 2) rfl (by decide) inX4_goOn_X4 rfl (by decide +kernel)) ?_
  refine al_c (pc := 32) (snd_imul C dX4_goOn_32) ?_
  refine al_c (pc := 33) (snd_icmp_ge C dX4_goOn_33 (by decide)) ?_
  refine al_c (pc := 36) (snd_iconst C dX4_goOn_36 (by decide)) ?_
  refine al_c (pc := 37) (snd_istore_n C dX4_goOn_37 rfl (by decide)) ?_
  refine al_c (pc := 38) (snd_iload_n C dX4_goOn_38 rfl) ?_
  refine al_c (pc := 39) (snd_iconst C dX4_goOn_39 (by decide)) ?_
  refine al_c (pc := 40) (snd_icmp_ge C dX4_goOn_40 (by decide)) ?_
  refine al_c (pc := 43) (snd_aload_n C dX4_goOn_43 rfl) ?_
  refine al_c (pc := 44) (snd_get C dX4_goOn_44 (ci := 3) (kf := 23) rfl (by decide) inX4_goOn_X4 rfl (by decide +kernel)) ?_
  refine al_c (pc := 47) (snd_iload_n C dX4_goOn_47 rfl) ?_
  refine al_c (pc := 48) (snd_baload C dX4_goOn_48) ?_
  refine al_c (pc := 49) (snd_if_eq C dX4_goOn_49 (by decide)) ?_
  refine al_c (pc := 52) (snd_aload_n C dX4_goOn_52 rfl) ?_
  refine al_c (pc := 53) (snd_iload_n C dX4_goOn_53 rfl) ?_
  refine al_c (pc := 54) (snd_iload_n C dX4_goOn_54 rfl) ?_
  refine al_c (pc := 55) (snd_Ci C (site_V C rfl dX4_goOn_55 gX4_goOn_X4_beside rfl rfl rfl ⟨rfl, by decide +kernel, by decide +kernel, by decide +kernel⟩ ⟨by decide, by decide⟩) mX4_beside) ?_
  refine al_c (pc := 58) (snd_istore_n C dX4_goOn_58 rfl (by decide)) ?_
  refine al_c (pc := 59) (snd_iload_n C dX4_goOn_59 rfl) ?_
  refine al_c (pc := 60) (snd_iconst C dX4_goOn_60 (by decide)) ?_
  refine al_c (pc := 61) (snd_icmp_eq C dX4_goOn_61 (by decide)) ?_
  refine al_c (pc := 64) (snd_aload_n C dX4_goOn_64 rfl) ?_
  refine al_c (pc := 65) (snd_get C dX4_goOn_65 (ci := 3) (kf := 24) rfl (by decide) inX4_goOn_X4 rfl (by decide +kernel)) ?_
  refine al_c (pc := 68) (snd_iload_n C dX4_goOn_68 rfl) ?_
  refine al_c (pc := 69) (snd_iconst C dX4_goOn_69 (by decide)) ?_
  refine al_c (pc := 70) (snd_bastore C dX4_goOn_70) ?_
  refine al_c (pc := 71) (snd_iinc C dX4_goOn_71 (by decide) (by decide)) ?_
  refine al_c (pc := 74) (snd_goto C dX4_goOn_74 (by decide)) ?_
  refine al_c (pc := 77) (snd_iinc C dX4_goOn_77 (by decide) (by decide)) ?_
  refine al_c (pc := 80) (snd_goto C dX4_goOn_80 (by decide)) ?_
  refine al_c (pc := 83) (snd_aload_n C dX4_goOn_83 rfl) ?_
  refine al_c (pc := 84) (snd_get C dX4_goOn_84 (ci := 3) (kf := 24) rfl (by decide) inX4_goOn_X4 rfl (by decide +kernel)) ?_
  refine al_c (pc := 87) (snd_iconst C dX4_goOn_87 (by decide)) ?_
  refine al_c (pc := 88) (snd_aload_n C dX4_goOn_88 rfl) ?_
  refine al_c (pc := 89) (snd_get C dX4_goOn_89 (ci := 3) (kf := 23) rfl (by decide) inX4_goOn_X4 rfl (by decide +kernel)) ?_
  refine al_c (pc := 92) (snd_iconst C dX4_goOn_92 (by decide)) ?_
  refine al_c (pc := 93) (snd_bipush C dX4_goOn_93 (by decide)) ?_
  refine al_c (pc := 95) (snd_CpZ C dX4_goOn_95 (by decide +kernel) (by decide +kernel) (by decide +kernel) (by decide +kernel) (by decide +kernel) (by decide +kernel)) ?_
  refine al_c (pc := 98) (snd_Rv C hQ hr dX4_goOn_98) ?_
  exact al_0
set_option maxHeartbeats 1000000 in
set_option maxRecDepth 100000 in
theorem mX4_goOn : aMv yX4_goOn wsX4_goOn rmX4_goOn tX4_goOn := by
  refine aMv_of (by decide +kernel) rfl rfl (by intro av X post hT; obtain ⟨wl, P, th, rm, pm, ic, it, iv, ie, rc, k, tt, w, h, wm, pq, co, pa, fa, ce, ts, ns, es, on, nx, rfl, rfl, hw2, hw, hh2, hh, hRW, hP, hp⟩ := hT; exact Nat.le_of_ble_eq_true rfl) ?_
  intro Γ ad av X post C hQ hr hT
  obtain ⟨wl, P, th, rm, pm, ic, it, iv, ie, rc, k, tt, w, h, wm, pq, co, pa, fa, ce, ts, ns, es, on, nx, rfl, rfl, hw2, hw, hh2, hh, hRW, hP, hp⟩ := hT
  have OK := okX4_goOn C hQ hr
  have hwh := wh_le hw hh
  have outer : ∀ (n a : Nat) (nx : Nat → Int32), a ≤ w * h → w * h - a < n → isP (stQ w h wl P a) nx → FG Γ 23 ad 0 0 [(1, .int (nI a)), (0, .ref 0)] [] (MW th (nI w) (nI h) rm pm (nI (cm w k)) (nI (tt / 6 + 1)) (nI (tt % 6 + 1)) (nI (eoN tt)) ic it iv ie rc wm pq co pa fa ce ts ns es on nx) := by
    intro n
    induction n with
    | zero => intro a _ _ h; omega
    | succ n ih =>
      intro a nx ha hn hN
      refine go OK [23, 38] 80 ?_
      refine And.intro (fun q => ?_) (fun q => ?_)
      · have q : nI w * nI h ≤ nI a := q
        rw [mulI] at q
        have q := (leN (by omega) (by omega)).mp q
        have : a = w * h := by omega
        subst this
        refine ⟨⟨rfl, rfl, rfl, rfl, rfl⟩, isP_01 hN, fun g2 hg => ?_⟩
        refine ⟨rfl, hp g2 nx (fun c hc => ?_)⟩
        rw [hg c hc]
        exact hN c hc
      · have hlt : a < w * h := by
          rcases Nat.lt_or_ge a (w * h) with z | z
          · exact z
          · exact absurd (show nI w * nI h ≤ nI a by rw [mulI]; exact (leN (by omega) (by omega)).mpr z) q
        obtain ⟨c1, c2, c3⟩ := cm_k7 (c := a) (by omega) hw
        have nextA : ∀ nx : Nat → Int32, isP (stQ w h wl P (a + 1)) nx → FG Γ 23 ad 0 0 [(1, .int (nI a + 1)), (0, .ref 0)] [] (MW th (nI w) (nI h) rm pm (nI (cm w k)) (nI (tt / 6 + 1)) (nI (tt % 6 + 1)) (nI (eoN tt)) ic it iv ie rc wm pq co pa fa ce ts ns es on nx) := by
          intro nx hN2
          have key := ih (a + 1) nx (by omega) (by omega) hN2
          rw [← nI_p1 a] at key
          exact key
        have inner : ∀ (n2 d : Nat) (nx : Nat → Int32), d ≤ 4 → 4 - d < n2 → isP (stR w h wl P a d) nx → FG Γ 38 ad 0 0 [(2, .int (nI d)), (1, .int (nI a)), (0, .ref 0)] [] (MW th (nI w) (nI h) rm pm (nI (cm w k)) (nI (tt / 6 + 1)) (nI (tt % 6 + 1)) (nI (eoN tt)) ic it iv ie rc wm pq co pa fa ce ts ns es on nx) := by
          intro n2
          induction n2 with
          | zero => intro d _ _ h; omega
          | succ n2 ih2 =>
            intro d nx hd hn2 hN2
            refine go OK [23, 38] 80 ?_
            refine And.intro (fun z => ?_) (fun z => ?_)
            · have z := (leN (a := 4) (b := d) (by omega) (by omega)).mp z
              have : d = 4 := by omega
              subst this
              exact FG_sub [0, 2] rfl (nextA nx (isP_cg (fun c => stR_4) hN2))
            · have hd4 : d < 4 := by
                rcases Nat.lt_or_ge d 4 with y | y
                · exact y
                · exact absurd ((leN (a := 4) (b := d) (by omega) (by omega)).mpr y) z
              refine ⟨inS (by omega : a < 49) (by decide), ?_⟩
              rw [nI_clampS (by omega)]
              refine And.intro (fun z2 => ?_) (fun z2 => ?_)
              · have hno := (isP_0 hP (by omega : a < 49)).mp z2
                refine FG_sub [0, 2] rfl (nextA nx (isP_cg (fun c => ?_) hN2))
                constructor
                · rintro (⟨a', d', m, h1, h2, h3, h4, h5⟩ | ⟨h2, _⟩)
                  · exact ⟨a', d', m, by omega, h2, h3, h4, h5⟩
                  · exact absurd h2 hno
                · rintro ⟨a', d', m, h1, h2, h3, h4, h5⟩
                  have : a' ≠ a := fun e => hno (e ▸ h2)
                  exact Or.inl ⟨a', d', m, by omega, h2, h3, h4, h5⟩
              · have hyes : P a := by
                  rcases hP a (by omega) with y | y
                  · exact y.1
                  · exact absurd y.2 z2
                have nextD : ∀ nx : Nat → Int32, isP (stR w h wl P a (d + 1)) nx → FG Γ 38 ad 0 0 [(2, .int (nI d + 1)), (1, .int (nI a)), (0, .ref 0)] [] (MW th (nI w) (nI h) rm pm (nI (cm w k)) (nI (tt / 6 + 1)) (nI (tt % 6 + 1)) (nI (eoN tt)) ic it iv ie rc wm pq co pa fa ce ts ns es on nx) := by
                  intro nx hN3
                  have key := ih2 (d + 1) nx (by omega) (by omega) hN3
                  rw [← nI_p1 d] at key
                  exact key
                refine ⟨_, _, k7 w a, d, wl, _, _, _, _, _, _, _, _, _, _, _, _, _, _, _, _, _, _, _, _, _, _, _, rfl, by rw [c1], rfl, rfl, hw2, hw, hh2, hh, c2, k7_h (by omega) hw hlt, hd4, hRW, ?_⟩
                refine And.intro (fun z3 => ?_) (fun z3 => ?_)
                · have e := (oJ_m1 hw hh).mp z3
                  exact FG_sub [0, 2, 3] rfl (nextD nx (isP_cg (fun c => stR_n e) hN2))
                · cases e : nxt w h wl (k7 w a) d with
                  | none => exact absurd ((oJ_m1 hw hh).mpr e) z3
                  | some m =>
                    have hm := nxt_fr e
                    have hm49 := cm_lt hw hh hm.1 hm.2.1
                    refine ⟨inS hm49 (by decide), Or.inr rfl, ?_⟩
                    rw [show oJ w (some m) = nI (cm w m) from rfl, nI_clampS (by omega)]
                    exact FG_sub [0, 2, 3] rfl (nextD _ (isP_cg (fun c => stR_s hyes e) (isP_set hN2 _)))
        exact inner 5 0 nx (by omega) (by omega) (isP_cg (fun c => stR_0) hN)
  have clear : ∀ (n i : Nat) (nx : Nat → Int32), i ≤ 49 → 49 - i < n → (∀ x, x < i → nx x = 0) → FG Γ 2 ad 0 0 [(1, .int (nI i)), (0, .ref 0)] [] (MW th (nI w) (nI h) rm pm (nI (cm w k)) (nI (tt / 6 + 1)) (nI (tt % 6 + 1)) (nI (eoN tt)) ic it iv ie rc wm pq co pa fa ce ts ns es on nx) := by
    intro n
    induction n with
    | zero => intro i _ _ h; omega
    | succ n ih =>
      intro i nx hi hn hz
      refine go OK [2, 23] 60 ?_
      refine And.intro (fun z => ?_) (fun z => ?_)
      · have z := (leN (a := 49) (b := i) (by omega) (by omega)).mp z
        exact outer (w * h + 1) 0 nx (by omega) (by omega) (fun c hc => Or.inr ⟨fun ⟨a, d, m, h1, _⟩ => absurd h1 (Nat.not_lt_zero a), hz c (by omega)⟩)
      · have hlt : i < 49 := by
          rcases Nat.lt_or_ge i 49 with y | y
          · exact y
          · exact absurd ((leN (a := 49) (b := i) (by omega) (by omega)).mpr y) z
        refine ⟨inS hlt (by decide), Or.inl rfl, ?_⟩
        rw [nI_clampS (by omega)]
        have key := ih (i + 1) (upd nx i 0) (by omega) (by omega) (fun x hx => by
          by_cases e : x = i
          · rw [e, pk_us]
          · rw [pk_un e]; exact hz x (by omega))
        rw [← nI_p1 i] at key
        exact key
  refine go OK [2, 23] 40 ?_
  exact clear 50 0 nx (by omega) (by omega) (fun x hx => by omega)
/-- the model's cells behind j rolls -/
def bhP (w h : Nat) (wl : Nat → Int32) (k : Nat) : Nat → Nat → Prop
  | 0 => fun c => c = cm w k
  | j + 1 => stQ w h wl (bhP w h wl k j) (w * h)
abbrev tX4_behind : aTi := fun av X post => ∃ (a : Int32) (n : Nat) (wl : Nat → Int32) (th rm pm ic it iv ie rc : Int32) (k tt w h : Nat) (wm pq co pa fa ce ts ns es on nx : Nat → Int32), av = [.ref 0, .int a] ∧ a = nI n ∧ X = MW th (nI w) (nI h) rm pm (nI (cm w k)) (nI (tt / 6 + 1)) (nI (tt % 6 + 1)) (nI (eoN tt)) ic it iv ie rc wm pq co pa fa ce ts ns es on nx ∧ 2 ≤ w ∧ w ≤ 7 ∧ 2 ≤ h ∧ h ≤ 7 ∧ RW w h wl wm ∧ k % 7 < w ∧ k / 7 < h ∧ n ≤ 20 ∧
  ∀ on2 nx2 : Nat → Int32, isP (bhP w h wl k n) on2 → post (nI (ct (fun c => decide (¬ on2 c = 0)) 49)) (MW th (nI w) (nI h) rm pm (nI (cm w k)) (nI (tt / 6 + 1)) (nI (tt % 6 + 1)) (nI (eoN tt)) ic it iv ie rc wm pq co pa fa ce ts ns es on2 nx2)
abbrev rmX4_behind : Room := { frames := 4, cells := 0, slots := 0, locals := 91 }
theorem inX4_behind_X4 : ∀ w ∈ wsX40, w ∈ wsX4_behind := by decide +kernel
def tbX4_behind (post : Int32 → List aE → Prop) (ad0 : Nat → Nat) : List (Nat × aO) := [(0, oC (0) 1),
  (1, oIS 2 2),
  (2, oIL 2 3),
  (3, oC (49) 5),
  (5, oIc_ge 33 8),
  (8, oAL 0 9),
  (9, oGet 3 23 12),
  (12, oIL 2 13),
  (13, oIL 2 14),
  (14, oAL 0 15),
  (15, oGet 3 9 18),
  (18, oIc_ne 25 21),
  (21, oC (1) 22),
  (22, oGo 26),
  (25, oC (0) 26),
  (26, oZast 27),
  (27, oInc 2 1 30),
  (30, oGo 2),
  (33, oC (0) 34),
  (34, oIS 2 35),
  (35, oIL 2 36),
  (36, oIL 1 37),
  (37, oIc_ge 50 40),
  (40, oAL 0 41),
  (41, oCv tX4_goOn 1 (some 3) rmX4_goOn.cells rmX4_goOn.slots rmX4_behind.cells rmX4_behind.slots 44),
  (44, oInc 2 1 47),
  (47, oGo 35),
  (50, oC (0) 51),
  (51, oIS 2 52),
  (52, oAL 0 53),
  (53, oGet 3 23 56),
  (56, oAS 3 57),
  (57, oAL 3 58),
  (58, oAlen 59),
  (59, oIS 4 61),
  (61, oC (0) 62),
  (62, oIS 5 64),
  (64, oIL 5 66),
  (66, oIL 4 68),
  (68, oIc_ge 96 71),
  (71, oAL 3 72),
  (72, oIL 5 74),
  (74, oZald 75),
  (75, oIS 6 77),
  (77, oIL 2 78),
  (78, oIL 6 80),
  (80, oIf_eq 87 83),
  (83, oC (1) 84),
  (84, oGo 88),
  (87, oC (0) 88),
  (88, oIadd 89),
  (89, oIS 2 90),
  (90, oInc 5 1 93),
  (93, oGo 64),
  (96, oIL 2 97),
  (97, oRi post ad0 rmX4_behind.cells rmX4_behind.slots)]
set_option maxRecDepth 20000 in
theorem okX4_behind {Γ : aΓ} {post : Int32 → List aE → Prop} {ad0 : Nat → Nat} {X0 : List aE} (C : FOK Γ cX4_behind wsX4_behind RX4 7 rmX4_behind) (hQ : isQ Γ (va_Qi post (aBk (gK Γ) ad0 X0 (hsz Γ)) (aA (gK Γ) ad0 X0 (hsz Γ))) rmX4_behind ad0 X0) (hr : rTy Γ = some .int) : AllS Γ (tbX4_behind post ad0) := by
  unfold tbX4_behind
  refine al_c (pc := 0) (snd_iconst C dX4_behind_0 (by decide)) ?_
  refine al_c (pc := 1) (snd_istore_n C dX4_behind_1 rfl (by decide)) ?_
  refine al_c (pc := 2) (snd_iload_n C dX4_behind_2 rfl) ?_
  refine al_c (pc := 3) (snd_bipush C dX4_behind_3 (by decide)) ?_
  refine al_c (pc := 5) (snd_icmp_ge C dX4_behind_5 (by decide)) ?_
  refine al_c (pc := 8) (snd_aload_n C dX4_behind_8 rfl) ?_
  refine al_c (pc := 9) (snd_get C dX4_behind_9 (ci := 3) (kf := 23) rfl (by decide) inX4_behind_X4 rfl (by decide +kernel)) ?_
  refine al_c (pc := 12) (snd_iload_n C dX4_behind_12 rfl) ?_
  refine al_c (pc := 13) (snd_iload_n C dX4_behind_13 rfl) ?_
  refine al_c (pc := 14) (snd_aload_n C dX4_behind_14 rfl) ?_
  refine al_c (pc := 15) (snd_get C dX4_behind_15 (ci := 3) (kf := 9) rfl (by decide) inX4_behind_X4 rfl (by decide +kernel)) ?_
  refine al_c (pc := 18) (snd_icmp_ne C dX4_behind_18 (by decide)) ?_
  refine al_c (pc := 21) (snd_iconst C dX4_behind_21 (by decide)) ?_
  refine al_c (pc := 22) (snd_goto C dX4_behind_22 (by decide)) ?_
  refine al_c (pc := 25) (snd_iconst C dX4_behind_25 (by decide)) ?_
  refine al_c (pc := 26) (snd_bastore C dX4_behind_26) ?_
  refine al_c (pc := 27) (snd_iinc C dX4_behind_27 (by decide) (by decide)) ?_
  refine al_c (pc := 30) (snd_goto C dX4_behind_30 (by decide)) ?_
  refine al_c (pc := 33) (snd_iconst C dX4_behind_33 (by decide)) ?_
  refine al_c (pc := 34) (snd_istore_n C dX4_behind_34 rfl (by decide)) ?_
  refine al_c (pc := 35) (snd_iload_n C dX4_behind_35 rfl) ?_
  refine al_c (pc := 36) (snd_iload_n C dX4_behind_36 rfl) ?_
  refine al_c (pc := 37) (snd_icmp_ge C dX4_behind_37 (by decide)) ?_
  refine al_c (pc := 40) (snd_aload_n C dX4_behind_40 rfl) ?_
  refine al_c (pc := 41) (snd_Cv C (site_V C rfl dX4_behind_41 gX4_behind_X4_goOn rfl rfl rfl ⟨rfl, by decide +kernel, by decide +kernel, by decide +kernel⟩ ⟨by decide, by decide⟩) mX4_goOn) ?_
  refine al_c (pc := 44) (snd_iinc C dX4_behind_44 (by decide) (by decide)) ?_
  refine al_c (pc := 47) (snd_goto C dX4_behind_47 (by decide)) ?_
  refine al_c (pc := 50) (snd_iconst C dX4_behind_50 (by decide)) ?_
  refine al_c (pc := 51) (snd_istore_n C dX4_behind_51 rfl (by decide)) ?_
  refine al_c (pc := 52) (snd_aload_n C dX4_behind_52 rfl) ?_
  refine al_c (pc := 53) (snd_get C dX4_behind_53 (ci := 3) (kf := 23) rfl (by decide) inX4_behind_X4 rfl (by decide +kernel)) ?_
  refine al_c (pc := 56) (snd_astore_n C dX4_behind_56 rfl (by decide)) ?_
  refine al_c (pc := 57) (snd_aload_n C dX4_behind_57 rfl) ?_
  refine al_c (pc := 58) (snd_alen C dX4_behind_58) ?_
  refine al_c (pc := 59) (snd_istore C dX4_behind_59 (by decide)) ?_
  refine al_c (pc := 61) (snd_iconst C dX4_behind_61 (by decide)) ?_
  refine al_c (pc := 62) (snd_istore C dX4_behind_62 (by decide)) ?_
  refine al_c (pc := 64) (snd_iload C dX4_behind_64) ?_
  refine al_c (pc := 66) (snd_iload C dX4_behind_66) ?_
  refine al_c (pc := 68) (snd_icmp_ge C dX4_behind_68 (by decide)) ?_
  refine al_c (pc := 71) (snd_aload_n C dX4_behind_71 rfl) ?_
  refine al_c (pc := 72) (snd_iload C dX4_behind_72) ?_
  refine al_c (pc := 74) (snd_baload C dX4_behind_74) ?_
  refine al_c (pc := 75) (snd_istore C dX4_behind_75 (by decide)) ?_
  refine al_c (pc := 77) (snd_iload_n C dX4_behind_77 rfl) ?_
  refine al_c (pc := 78) (snd_iload C dX4_behind_78) ?_
  refine al_c (pc := 80) (snd_if_eq C dX4_behind_80 (by decide)) ?_
  refine al_c (pc := 83) (snd_iconst C dX4_behind_83 (by decide)) ?_
  refine al_c (pc := 84) (snd_goto C dX4_behind_84 (by decide)) ?_
  refine al_c (pc := 87) (snd_iconst C dX4_behind_87 (by decide)) ?_
  refine al_c (pc := 88) (snd_iadd C dX4_behind_88) ?_
  refine al_c (pc := 89) (snd_istore_n C dX4_behind_89 rfl (by decide)) ?_
  refine al_c (pc := 90) (snd_iinc C dX4_behind_90 (by decide) (by decide)) ?_
  refine al_c (pc := 93) (snd_goto C dX4_behind_93 (by decide)) ?_
  refine al_c (pc := 96) (snd_iload_n C dX4_behind_96 rfl) ?_
  refine al_c (pc := 97) (snd_Ri C hQ hr dX4_behind_97) ?_
  exact al_0
set_option maxHeartbeats 1000000 in
set_option maxRecDepth 100000 in
theorem mX4_behind : aMi yX4_behind wsX4_behind rmX4_behind tX4_behind := by
  refine aMi_of (by decide +kernel) rfl rfl (by intro av X post hT; obtain ⟨a, n, wl, th, rm, pm, ic, it, iv, ie, rc, k, tt, w, h, wm, pq, co, pa, fa, ce, ts, ns, es, on, nx, rfl, rfl, rfl, hw2, hw, hh2, hh, hRW, hk1, hk2, hn20, hp⟩ := hT; exact Nat.le_of_ble_eq_true rfl) ?_
  intro Γ ad av X post C hQ hr hT
  obtain ⟨a, n, wl, th, rm, pm, ic, it, iv, ie, rc, k, tt, w, h, wm, pq, co, pa, fa, ce, ts, ns, es, on, nx, rfl, rfl, rfl, hw2, hw, hh2, hh, hRW, hk1, hk2, hn20, hp⟩ := hT
  have OK := okX4_behind C hQ hr
  have hk49 := cm_lt hw hh hk1 hk2
  have count : ∀ (on nx : Nat → Int32), isP (bhP w h wl k n) on → ∀ (f i : Nat), i ≤ 49 → 49 - i < f → FG Γ 64 ad 0 0 [(5, .int (nI i)), (2, .int (nI (ct (fun c => decide (¬ on c = 0)) i))), (4, .int (nI 49)), (3, .ref 10), (0, .ref 0), (1, .int (nI n))] [] (MW th (nI w) (nI h) rm pm (nI (cm w k)) (nI (tt / 6 + 1)) (nI (tt % 6 + 1)) (nI (eoN tt)) ic it iv ie rc wm pq co pa fa ce ts ns es on nx) := by
    intro on nx hO f
    induction f with
    | zero => intro i _ h; omega
    | succ f ih =>
      intro i hi hf
      refine go OK [64] 60 ?_
      refine And.intro (fun z => ?_) (fun z => ?_)
      · have z := (leN (a := 49) (b := i) (by omega) (by omega)).mp z
        have : i = 49 := by omega
        subst this
        exact ⟨rfl, hp on nx hO⟩
      · have hlt : i < 49 := by
          rcases Nat.lt_or_ge i 49 with y | y
          · exact y
          · exact absurd ((leN (a := 49) (b := i) (by omega) (by omega)).mpr y) z
        have key := ih (i + 1) (by omega) (by omega)
        rw [← nI_p1 i] at key
        refine ⟨inS hlt (by decide), ?_⟩
        rw [nI_clampS (by omega)]
        refine And.intro (fun q => ?_) (fun q => ?_)
        · rw [ct_f (p := fun c => decide (¬ on c = 0)) (n := i) (by simp [q]), ← Int32.add_zero (nI (ct _ i))] at key
          exact FG_sub [0, 1, 3, 4, 5, 6] rfl key
        · rw [ct_t (p := fun c => decide (¬ on c = 0)) (n := i) (by simp [q]), ← nI_p1 (ct _ i)] at key
          exact FG_sub [0, 1, 3, 4, 5, 6] rfl key
  have steps : ∀ (f j : Nat) (on nx : Nat → Int32), j ≤ n → n - j < f → isP (bhP w h wl k j) on → FG Γ 35 ad 0 0 [(2, .int (nI j)), (0, .ref 0), (1, .int (nI n))] [] (MW th (nI w) (nI h) rm pm (nI (cm w k)) (nI (tt / 6 + 1)) (nI (tt % 6 + 1)) (nI (eoN tt)) ic it iv ie rc wm pq co pa fa ce ts ns es on nx) := by
    intro f
    induction f with
    | zero => intro j _ _ _ h; omega
    | succ f ih =>
      intro j on nx hj hf hO
      refine go OK [35, 64] 60 ?_
      refine And.intro (fun z => ?_) (fun z => ?_)
      · have z := (leN (by omega) (by omega)).mp z
        have : j = n := by omega
        subst this
        exact FG_sub [0, 3, 1, 2, 4, 5] rfl (count on nx hO 50 0 (by omega) (by omega))
      · have hlt : j < n := by
          rcases Nat.lt_or_ge j n with y | y
          · exact y
          · exact absurd ((leN (by omega) (by omega)).mpr y) z
        refine ⟨wl, _, _, _, _, _, _, _, _, _, _, _, _, _, _, _, _, _, _, _, _, _, _, _, _, rfl, rfl, hw2, hw, hh2, hh, hRW, hO, fun on2 nx2 hO2 => ?_⟩
        have key := ih (j + 1) on2 nx2 (by omega) (by omega) hO2
        rw [← nI_p1 j] at key
        exact key
  have first : ∀ (f i : Nat) (on nx : Nat → Int32), i ≤ 49 → 49 - i < f → (∀ c, c < i → on c = if c = cm w k then 1 else 0) → FG Γ 2 ad 0 0 [(2, .int (nI i)), (0, .ref 0), (1, .int (nI n))] [] (MW th (nI w) (nI h) rm pm (nI (cm w k)) (nI (tt / 6 + 1)) (nI (tt % 6 + 1)) (nI (eoN tt)) ic it iv ie rc wm pq co pa fa ce ts ns es on nx) := by
    intro f
    induction f with
    | zero => intro i _ _ _ h; omega
    | succ f ih =>
      intro i on nx hi hf hz
      refine go OK [2, 35] 60 ?_
      refine And.intro (fun z => ?_) (fun z => ?_)
      · have z := (leN (a := 49) (b := i) (by omega) (by omega)).mp z
        refine steps (n + 1) 0 on nx (by omega) (by omega) (fun c hc => ?_)
        have := hz c (by omega)
        by_cases e : c = cm w k
        · rw [if_pos e] at this
          exact Or.inl ⟨e, this⟩
        · rw [if_neg e] at this
          exact Or.inr ⟨e, this⟩
      · have hlt : i < 49 := by
          rcases Nat.lt_or_ge i 49 with y | y
          · exact y
          · exact absurd ((leN (a := 49) (b := i) (by omega) (by omega)).mpr y) z
        have ei : nI i = nI (cm w k) ↔ i = cm w k := eqN (by omega) (by omega)
        have nxtI : ∀ x : Int32, x = (if i = cm w k then 1 else 0) → FG Γ 2 ad 0 0 [(2, .int (nI i + 1)), (0, .ref 0), (1, .int (nI n))] [] (MW th (nI w) (nI h) rm pm (nI (cm w k)) (nI (tt / 6 + 1)) (nI (tt % 6 + 1)) (nI (eoN tt)) ic it iv ie rc wm pq co pa fa ce ts ns es (upd on i x) nx) := by
          intro x hx
          have key := ih (i + 1) (upd on i x) nx (by omega) (by omega) (fun c hc => by
            by_cases e : c = i
            · rw [e, pk_us]; exact hx
            · rw [pk_un e]; exact hz c (by omega))
          rw [← nI_p1 i] at key
          exact key
        refine And.intro (fun q => ?_) (fun q => ?_)
        · refine ⟨inS hlt (by decide), Or.inl rfl, ?_⟩
          rw [nI_clampS (by omega)]
          exact nxtI 0 (by rw [if_neg (fun e => q (ei.mpr e))])
        · refine ⟨inS hlt (by decide), Or.inr rfl, ?_⟩
          rw [nI_clampS (by omega)]
          exact nxtI 1 (by rw [if_pos (ei.mp q)])
  refine go OK [2, 35] 40 ?_
  exact first 50 0 on nx (by omega) (by omega) (fun c hc => by omega)
abbrev tX4_cellsBehind : aTi := fun av X post => ∃ (a : Int32) (wl : Nat → Int32) (th rm pm ic it iv ie rc : Int32) (k tt w h : Nat) (wm pq co pa fa ce ts ns es on nx : Nat → Int32), av = [.ref 0, .int a] ∧ X = MW th (nI w) (nI h) rm pm (nI (cm w k)) (nI (tt / 6 + 1)) (nI (tt % 6 + 1)) (nI (eoN tt)) ic it iv ie rc wm pq co pa fa ce ts ns es on nx ∧ 2 ≤ w ∧ w ≤ 7 ∧ 2 ≤ h ∧ h ≤ 7 ∧ RW w h wl wm ∧ k % 7 < w ∧ k / 7 < h ∧ (¬ inR a 0 20 → post 0 (MW 1 (nI w) (nI h) rm pm (nI (cm w k)) (nI (tt / 6 + 1)) (nI (tt % 6 + 1)) (nI (eoN tt)) ic it iv ie rc wm pq co pa fa ce ts ns es on nx)) ∧
  ∀ n, a = nI n → n ≤ 20 → ∀ on2 nx2 : Nat → Int32, isP (bhP w h wl k n) on2 → post (nI (ct (fun c => decide (¬ on2 c = 0)) 49)) (MW 0 (nI w) (nI h) rm pm (nI (cm w k)) (nI (tt / 6 + 1)) (nI (tt % 6 + 1)) (nI (eoN tt)) ic it iv ie rc wm pq co pa fa ce ts ns es on2 nx2)
abbrev rmX4_cellsBehind : Room := { frames := 5, cells := 0, slots := 0, locals := 117 }
theorem inX4_cellsBehind_X4 : ∀ w ∈ wsX40, w ∈ wsX4_cellsBehind := by decide +kernel
def tbX4_cellsBehind (post : Int32 → List aE → Prop) (ad0 : Nat → Nat) : List (Nat × aO) := [(0, oAL 0 1),
  (1, oC (0) 2),
  (2, oPut 3 0 5),
  (5, oIL 1 6),
  (6, oC (0) 7),
  (7, oC (20) 9),
  (9, oCi tX4_isIn 3 none rmX4_isIn.cells rmX4_isIn.slots rmX4_cellsBehind.cells rmX4_cellsBehind.slots 12),
  (12, oIf_eq 23 15),
  (15, oAL 0 16),
  (16, oIL 1 17),
  (17, oCi tX4_behind 2 (some 3) rmX4_behind.cells rmX4_behind.slots rmX4_cellsBehind.cells rmX4_cellsBehind.slots 20),
  (20, oGo 28),
  (23, oAL 0 24),
  (24, oC (1) 25),
  (25, oCi tX4_no 2 (some 3) rmX4_no.cells rmX4_no.slots rmX4_cellsBehind.cells rmX4_cellsBehind.slots 28),
  (28, oRi post ad0 rmX4_cellsBehind.cells rmX4_cellsBehind.slots)]
set_option maxRecDepth 20000 in
theorem okX4_cellsBehind {Γ : aΓ} {post : Int32 → List aE → Prop} {ad0 : Nat → Nat} {X0 : List aE} (C : FOK Γ cX4_cellsBehind wsX4_cellsBehind RX4 2 rmX4_cellsBehind) (hQ : isQ Γ (va_Qi post (aBk (gK Γ) ad0 X0 (hsz Γ)) (aA (gK Γ) ad0 X0 (hsz Γ))) rmX4_cellsBehind ad0 X0) (hr : rTy Γ = some .int) : AllS Γ (tbX4_cellsBehind post ad0) := by
  unfold tbX4_cellsBehind
  refine al_c (pc := 0) (snd_aload_n C dX4_cellsBehind_0 rfl) ?_
  refine al_c (pc := 1) (snd_iconst C dX4_cellsBehind_1 (by decide)) ?_
  refine al_c (pc := 2) (snd_put C dX4_cellsBehind_2 (ci := 3) (kf := 0) rfl (by decide) inX4_cellsBehind_X4 tyX4_ok nmX4 rfl rfl rfl (by decide +kernel)) ?_
  refine al_c (pc := 5) (snd_iload_n C dX4_cellsBehind_5 rfl) ?_
  refine al_c (pc := 6) (snd_iconst C dX4_cellsBehind_6 (by decide)) ?_
  refine al_c (pc := 7) (snd_bipush C dX4_cellsBehind_7 (by decide)) ?_
  refine al_c (pc := 9) (snd_Ci C (site_S C dX4_cellsBehind_9 gX4_cellsBehind_X4_isIn rfl rfl rfl ⟨by decide +kernel, by decide +kernel, by decide +kernel⟩ ⟨by decide, by decide⟩) mX4_isIn) ?_
  refine al_c (pc := 12) (snd_if_eq C dX4_cellsBehind_12 (by decide)) ?_
  refine al_c (pc := 15) (snd_aload_n C dX4_cellsBehind_15 rfl) ?_
  refine al_c (pc := 16) (snd_iload_n C dX4_cellsBehind_16 rfl) ?_
  refine al_c (pc := 17) (snd_Ci C (site_V C rfl dX4_cellsBehind_17 gX4_cellsBehind_X4_behind rfl rfl rfl ⟨rfl, by decide +kernel, by decide +kernel, by decide +kernel⟩ ⟨by decide, by decide⟩) mX4_behind) ?_
  refine al_c (pc := 20) (snd_goto C dX4_cellsBehind_20 (by decide)) ?_
  refine al_c (pc := 23) (snd_aload_n C dX4_cellsBehind_23 rfl) ?_
  refine al_c (pc := 24) (snd_iconst C dX4_cellsBehind_24 (by decide)) ?_
  refine al_c (pc := 25) (snd_Ci C (site_V C rfl dX4_cellsBehind_25 gX4_cellsBehind_X4_no rfl rfl rfl ⟨rfl, by decide +kernel, by decide +kernel, by decide +kernel⟩ ⟨by decide, by decide⟩) mX4_no) ?_
  refine al_c (pc := 28) (snd_Ri C hQ hr dX4_cellsBehind_28) ?_
  exact al_0
set_option maxHeartbeats 1000000 in
set_option maxRecDepth 100000 in
theorem mX4_cellsBehind : aMi yX4_cellsBehind wsX4_cellsBehind rmX4_cellsBehind tX4_cellsBehind := by
  refine aMi_of (by decide +kernel) rfl rfl (by intro av X post hT; obtain ⟨a, wl, th, rm, pm, ic, it, iv, ie, rc, k, tt, w, h, wm, pq, co, pa, fa, ce, ts, ns, es, on, nx, rfl, rfl, hw2, hw, hh2, hh, hRW, hk1, hk2, h1, h2⟩ := hT; exact Nat.le_of_ble_eq_true rfl) ?_
  intro Γ ad av X post C hQ hr hT
  obtain ⟨a, wl, th, rm, pm, ic, it, iv, ie, rc, k, tt, w, h, wm, pq, co, pa, fa, ce, ts, ns, es, on, nx, rfl, rfl, hw2, hw, hh2, hh, hRW, hk1, hk2, h1, h2⟩ := hT
  have OK := okX4_cellsBehind C hQ hr
  refine go OK [] 60 ?_
  refine ⟨_, _, _, 0, 20, rfl, rfl, rfl, by omega, by omega, fun q => ?_, fun q => ?_⟩
  · refine And.intro (fun q => absurd q (by decide)) (fun _ => ?_)
    obtain ⟨n, rfl, n1, n2⟩ := q
    exact ⟨_, n, wl, _, _, _, _, _, _, _, _, _, _, _, _, _, _, _, _, _, _, _, _, _, _, _, rfl, rfl, rfl, hw2, hw, hh2, hh, hRW, hk1, hk2, n2, fun on2 nx2 hO => ⟨rfl, h2 n rfl n2 on2 nx2 hO⟩⟩
  · refine And.intro (fun _ => ?_) (fun q => absurd rfl q)
    exact ⟨_, _, _, _, _, _, _, _, _, _, _, _, _, _, _, _, _, _, _, _, _, _, _, _, _, _, rfl, rfl, rfl, h1 q⟩
