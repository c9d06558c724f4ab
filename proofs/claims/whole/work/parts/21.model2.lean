/-! ===== the model: the cell beside, a roll, and its face: board and die ===== -/
def oJ (w : Nat) : Option Nat → Int32
  | some j => nI (cm w j)
  | none => -1
theorem frB_in {a b : Int32} {w h : Nat} {wl wm : Nat → Int32} (hR : RW w h wl wm) : frB a b w h wl ↔ ∃ i j, a = nI i ∧ b = nI j ∧ i < w ∧ j < h ∧ wm (w * j + i) = 0 := by
  constructor
  · intro ⟨i, j, e1, e2, h1, h2, h3⟩
    exact ⟨i, j, e1, e2, h1, h2, by rw [hR i j h1 h2]; exact h3⟩
  · intro ⟨i, j, e1, e2, h1, h2, h3⟩
    exact ⟨i, j, e1, e2, h1, h2, by rw [← hR i j h1 h2]; exact h3⟩
theorem nx_some {w h k d i j : Nat} {wl : Nat → Int32} {a b : Int32} (hw : w ≤ 7) (hh : h ≤ 7) (hi : i < w) (hj : j < h) (ea : a = nI i) (eb : b = nI j) (h1 : b * 7 + a = oI (nxt w h wl k d)) : nxt w h wl k d = some (j * 7 + i) := by
  rw [ea, eb, cellI] at h1
  cases e : nxt w h wl k d with
  | none =>
    rw [e] at h1
    exact absurd h1 (nI_m1 (by omega))
  | some m =>
    rw [e] at h1
    have hm := nxt_fr e
    have := hm.1
    have := hm.2.1
    rw [(eqN (by omega) (by omega)).mp h1]
abbrev tX4_beside : aTi := fun av X post => ∃ (a b : Int32) (c d : Nat) (wl : Nat → Int32) (th rm pm ic it iv ie rc : Int32) (k tt w h : Nat) (wm pq co pa fa ce ts ns es on nx : Nat → Int32), av = [.ref 0, .int a, .int b] ∧ a = nI (cm w c) ∧ b = nI d ∧ X = MW th (nI w) (nI h) rm pm (nI (cm w k)) (nI (tt / 6 + 1)) (nI (tt % 6 + 1)) (nI (eoN tt)) ic it iv ie rc wm pq co pa fa ce ts ns es on nx ∧ 2 ≤ w ∧ w ≤ 7 ∧ 2 ≤ h ∧ h ≤ 7 ∧ c % 7 < w ∧ c / 7 < h ∧ d < 4 ∧ RW w h wl wm ∧ post (oJ w (nxt w h wl c d)) X
abbrev rmX4_beside : Room := { frames := 2, cells := 0, slots := 0, locals := 44 }
theorem inX4_beside_X4 : ∀ w ∈ wsX40, w ∈ wsX4_beside := by decide +kernel
def tbX4_beside (post : Int32 → List aE → Prop) (ad0 : Nat → Nat) : List (Nat × aO) := [(0, oIL 1 1),
  (1, oAL 0 2),
  (2, oGet 3 1 5),
  (5, oIrem 6),
  (6, oIL 2 7),
  (7, oC (1) 8),
  (8, oIc_ne 15 11),
  (11, oC (1) 12),
  (12, oGo 25),
  (15, oIL 2 16),
  (16, oC (3) 17),
  (17, oIc_ne 24 20),
  (20, oC (-1) 21),
  (21, oGo 25),
  (24, oC (0) 25),
  (25, oIadd 26),
  (26, oIS 3 27),
  (27, oIL 1 28),
  (28, oAL 0 29),
  (29, oGet 3 1 32),
  (32, oIdiv 33),
  (33, oIL 2 34),
  (34, oC (2) 35),
  (35, oIc_ne 42 38),
  (38, oC (1) 39),
  (39, oGo 51),
  (42, oIL 2 43),
  (43, oIf_ne 50 46),
  (46, oC (-1) 47),
  (47, oGo 51),
  (50, oC (0) 51),
  (51, oIadd 52),
  (52, oIS 4 54),
  (54, oAL 0 55),
  (55, oIL 3 56),
  (56, oIL 4 58),
  (58, oCi tX4_isCell 3 (some 3) rmX4_isCell.cells rmX4_isCell.slots rmX4_beside.cells rmX4_beside.slots 61),
  (61, oIf_eq 93 64),
  (64, oAL 0 65),
  (65, oGet 3 3 68),
  (68, oAL 0 69),
  (69, oGet 3 1 72),
  (72, oIL 4 74),
  (74, oImul 75),
  (75, oIL 3 76),
  (76, oIadd 77),
  (77, oZald 78),
  (78, oIf_ne 93 81),
  (81, oAL 0 82),
  (82, oGet 3 1 85),
  (85, oIL 4 87),
  (87, oImul 88),
  (88, oIL 3 89),
  (89, oIadd 90),
  (90, oGo 94),
  (93, oC (-1) 94),
  (94, oRi post ad0 rmX4_beside.cells rmX4_beside.slots)]
set_option maxRecDepth 20000 in
theorem okX4_beside {Γ : aΓ} {post : Int32 → List aE → Prop} {ad0 : Nat → Nat} {X0 : List aE} (C : FOK Γ cX4_beside wsX4_beside RX4 5 rmX4_beside) (hQ : isQ Γ (va_Qi post (aBk (gK Γ) ad0 X0 (hsz Γ)) (aA (gK Γ) ad0 X0 (hsz Γ))) rmX4_beside ad0 X0) (hr : rTy Γ = some .int) : AllS Γ (tbX4_beside post ad0) := by
  unfold tbX4_beside
  refine al_c (pc := 0) (snd_iload_n C dX4_beside_0 rfl) ?_
  refine al_c (pc := 1) (snd_aload_n C dX4_beside_1 rfl) ?_
  refine al_c (pc := 2) (snd_get C dX4_beside_2 (ci := 3) (kf := 1) rfl (by decide) inX4_beside_X4 rfl (by decide +kernel)) ?_
  refine al_c (pc := 5) (snd_irem C dX4_beside_5) ?_
  refine al_c (pc := 6) (snd_iload_n C dX4_beside_6 rfl) ?_
  refine al_c (pc := 7) (snd_iconst C dX4_beside_7 (by decide)) ?_
  refine al_c (pc := 8) (snd_icmp_ne C dX4_beside_8 (by decide)) ?_
  refine al_c (pc := 11) (snd_iconst C dX4_beside_11 (by decide)) ?_
  refine al_c (pc := 12) (snd_goto C dX4_beside_12 (by decide)) ?_
  refine al_c (pc := 15) (snd_iload_n C dX4_beside_15 rfl) ?_
  refine al_c (pc := 16) (snd_iconst C dX4_beside_16 (by decide)) ?_
  refine al_c (pc := 17) (snd_icmp_ne C dX4_beside_17 (by decide)) ?_
  refine al_c (pc := 20) (snd_iconst C dX4_beside_20 (by decide)) ?_
  refine al_c (pc := 21) (snd_goto C dX4_beside_21 (by decide)) ?_
  refine al_c (pc := 24) (snd_iconst C dX4_beside_24 (by decide)) ?_
  refine al_c (pc := 25) (snd_iadd C dX4_beside_25) ?_
  refine al_c (pc := 26) (snd_istore_n C dX4_beside_26 rfl (by decide)) ?_
  refine al_c (pc := 27) (snd_iload_n C dX4_beside_27 rfl) ?_
  refine al_c (pc := 28) (snd_aload_n C dX4_beside_28 rfl) ?_
  refine al_c (pc := 29) (snd_get C dX4_beside_29 (ci := 3) (kf := 1) rfl (by decide) inX4_beside_X4 rfl (by decide +kernel)) ?_
  refine al_c (pc := 32) (snd_idiv C dX4_beside_32) ?_
  refine al_c (pc := 33) (snd_iload_n C dX4_beside_33 rfl) ?_
  refine al_c (pc := 34) (snd_iconst C dX4_beside_34 (by decide)) ?_
  refine al_c (pc := 35) (snd_icmp_ne C dX4_beside_35 (by decide)) ?_
  refine al_c (pc := 38) (snd_iconst C dX4_beside_38 (by decide)) ?_
  refine al_c (pc := 39) (snd_goto C dX4_beside_39 (by decide)) ?_
  refine al_c (pc := 42) (snd_iload_n C dX4_beside_42 rfl) ?_
  refine al_c (pc := 43) (snd_if_ne C dX4_beside_43 (by decide)) ?_
  refine al_c (pc := 46) (snd_iconst C dX4_beside_46 (by decide)) ?_
  refine al_c (pc := 47) (snd_goto C dX4_beside_47 (by decide)) ?_
  refine al_c (pc := 50) (snd_iconst C dX4_beside_50 (by decide)) ?_
  refine al_c (pc := 51) (snd_iadd C dX4_beside_51) ?_
  refine al_c (pc := 52) (snd_istore C dX4_beside_52 (by decide)) ?_
  refine al_c (pc := 54) (snd_aload_n C dX4_beside_54 rfl) ?_
  refine al_c (pc := 55) (snd_iload_n C dX4_beside_55 rfl) ?_
  refine al_c (pc := 56) (snd_iload C dX4_beside_56) ?_
  refine al_c (pc := 58) (snd_Ci C (site_V C rfl dX4_beside_58 gX4_beside_X4_isCell rfl rfl rfl ⟨rfl, by decide +kernel, by decide +kernel, by decide +kernel⟩ ⟨by decide, by decide⟩) mX4_isCell) ?_
  refine al_c (pc := 61) (snd_if_eq C dX4_beside_61 (by decide)) ?_
  refine al_c (pc := 64) (snd_aload_n C dX4_beside_64 rfl) ?_
  refine al_c (pc := 65) (snd_get C dX4_beside_65 (ci := 3) (kf := 3) rfl (by decide) inX4_beside_X4 rfl (by decide +kernel)) ?_
  refine al_c (pc := 68) (snd_aload_n C dX4_beside_68 rfl) ?_
  refine al_c (pc := 69) (snd_get C dX4_beside_69 (ci := 3) (kf := 1) rfl (by decide) inX4_beside_X4 rfl (by decide +kernel)) ?_
  refine al_c (pc := 72) (snd_iload C dX4_beside_72) ?_
  refine al_c (pc := 74) (snd_imul C dX4_beside_74) ?_
  refine al_c (pc := 75) (snd_iload_n C dX4_beside_75 rfl) ?_
  refine al_c (pc := 76) (snd_iadd C dX4_beside_76) ?_
  refine al_c (pc := 77) (snd_baload C dX4_beside_77) ?_
  refine al_c (pc := 78) (snd_if_ne C dX4_beside_78 (by decide)) ?_
  refine al_c (pc := 81) (snd_aload_n C dX4_beside_81 rfl) ?_
  refine al_c (pc := 82) (snd_get C dX4_beside_82 (ci := 3) (kf := 1) rfl (by decide) inX4_beside_X4 rfl (by decide +kernel)) ?_
  refine al_c (pc := 85) (snd_iload C dX4_beside_85) ?_
  refine al_c (pc := 87) (snd_imul C dX4_beside_87) ?_
  refine al_c (pc := 88) (snd_iload_n C dX4_beside_88 rfl) ?_
  refine al_c (pc := 89) (snd_iadd C dX4_beside_89) ?_
  refine al_c (pc := 90) (snd_goto C dX4_beside_90 (by decide)) ?_
  refine al_c (pc := 93) (snd_iconst C dX4_beside_93 (by decide)) ?_
  refine al_c (pc := 94) (snd_Ri C hQ hr dX4_beside_94) ?_
  exact al_0
set_option maxHeartbeats 1000000 in
set_option maxRecDepth 100000 in
theorem mX4_beside : aMi yX4_beside wsX4_beside rmX4_beside tX4_beside := by
  refine aMi_of (by decide +kernel) rfl rfl (by intro av X post hT; obtain ⟨a, b, c, d, wl, th, rm, pm, ic, it, iv, ie, rc, k, tt, w, h, wm, pq, co, pa, fa, ce, ts, ns, es, on, nx, rfl, rfl, rfl, rfl, hw2, hw, hh2, hh, hc1, hc2, hd, hR, hp⟩ := hT; exact Nat.le_of_ble_eq_true rfl) ?_
  intro Γ ad av X post C hQ hr hT
  obtain ⟨a, b, c, d, wl, th, rm, pm, ic, it, iv, ie, rc, k, tt, w, h, wm, pq, co, pa, fa, ce, ts, ns, es, on, nx, rfl, rfl, rfl, rfl, hw2, hw, hh2, hh, hc1, hc2, hd, hR, hp⟩ := hT
  have OK := okX4_beside C hQ hr
  have hc49 := cm_lt hw hh hc1 hc2
  have em : nI (cm w c) - nI (cm w c) / nI w * nI w = nI (c % 7) := by rw [pk_rem (a := cm w c) (d := w) (by omega) (by omega) (by omega), cm_mod hc1]
  have ed : nI (cm w c) / nI w = nI (c / 7) := by rw [pk_div (a := cm w c) (d := w) (by omega) (by omega) (by omega), cm_div hc1]
  have tail : ∀ x y : Int32, ((frB x y w h wl → y * 7 + x = oI (nxt w h wl c d)) ∧ (¬ frB x y w h wl → nxt w h wl c d = none)) →
      FG Γ 54 ad 0 0 [(4, .int y), (3, .int x), (0, .ref 0), (1, .int (nI (cm w c))), (2, .int (nI d))] [] (MW th (nI w) (nI h) rm pm (nI (cm w k)) (nI (tt / 6 + 1)) (nI (tt % 6 + 1)) (nI (eoN tt)) ic it iv ie rc wm pq co pa fa ce ts ns es on nx) := by
    intro x y hxy
    refine go OK [54] 60 ?_
    refine ⟨_, _, _, _, _, _, _, _, _, _, _, _, _, _, _, _, _, _, _, _, _, _, _, _, _, rfl, rfl, hw2, hw, hh2, hh, fun q => ?_, fun q => ?_⟩
    · refine And.intro (fun q2 => absurd q2 (by decide)) (fun _ => ?_)
      obtain ⟨i, j, rfl, rfl, hi, hj⟩ := q
      have h49 := wj_lt (i := i + 1) hw hh (by omega) hj
      refine ⟨(show vp_in (nI w * nI j + nI i) 49 by rw [wI]; exact inS (by omega : w * j + i < 49) (by decide)), ?_⟩
      rw [wI, nI_clampS (by omega)]
      refine And.intro (fun q2 => ?_) (fun q2 => ?_)
      · have hno : ¬ frB (nI i) (nI j) w h wl := fun z => by
          have := (frB_nI (by omega) (by omega) hw hh).mp z
          exact q2 ((hR i j hi hj).trans this.2.2)
        rw [hxy.2 hno] at hp
        exact ⟨rfl, hp⟩
      · have hyes : frB (nI i) (nI j) w h wl := (frB_nI (by omega) (by omega) hw hh).mpr ⟨hi, hj, (hR i j hi hj).symm.trans q2⟩
        have e := nx_some hw hh hi hj rfl rfl (hxy.1 hyes)
        rw [e] at hp
        rw [show oJ w (some (j * 7 + i)) = nI (w * j + i) by (show nI (cm w (j * 7 + i)) = _; rw [cm_at (by omega : i < 7)])] at hp
        exact ⟨rfl, by rw [wI]; exact hp⟩
    · refine And.intro (fun _ => ?_) (fun q2 => absurd rfl q2)
      have hno : ¬ frB x y w h wl := fun ⟨i, j, e1, e2, g1, g2, _⟩ => q ⟨i, j, e1, e2, g1, g2⟩
      rw [hxy.2 hno] at hp
      exact ⟨rfl, hp⟩
  have hk : c < 49 := by omega
  have nz : ¬ nI w = 0 := nI_ne0 (by omega) (by omega)
  have hd4 : d = 0 ∨ d = 1 ∨ d = 2 ∨ d = 3 := by omega
  have t0 : ∀ x : Int32, x + 0 = x := fun x => Int32.add_zero x
  rcases hd4 with rfl | rfl | rfl | rfl
  · skip
    refine go OK [54] 80 ?_
    refine ⟨nz, ?_⟩
    refine And.intro (fun _ => ?_) (fun q => absurd q (show ¬ nI 0 = 1 by decide))
    refine And.intro (fun _ => ?_) (fun q => absurd q (show ¬ nI 0 = 3 by decide))
    refine ⟨nz, ?_⟩
    refine And.intro (fun _ => ?_) (fun q => absurd q (show ¬ nI 0 = 2 by decide))
    refine And.intro (fun q => absurd rfl q) (fun _ => ?_)
    exact tail _ _ (nx_case hw hh hk hd (Or.inl ⟨rfl, by rw [em, t0], by rw [ed]⟩))
  · skip
    refine go OK [54] 80 ?_
    refine ⟨nz, ?_⟩
    refine And.intro (fun q => absurd rfl q) (fun _ => ?_)
    refine ⟨nz, ?_⟩
    refine And.intro (fun _ => ?_) (fun q => absurd q (show ¬ nI 1 = 2 by decide))
    refine And.intro (fun _ => ?_) (fun q => absurd q (by decide))
    exact tail _ _ (nx_case hw hh hk hd (Or.inr (Or.inl ⟨rfl, by rw [em], by rw [ed, t0]⟩)))
  · skip
    refine go OK [54] 80 ?_
    refine ⟨nz, ?_⟩
    refine And.intro (fun _ => ?_) (fun q => absurd q (show ¬ nI 2 = 1 by decide))
    refine And.intro (fun _ => ?_) (fun q => absurd q (show ¬ nI 2 = 3 by decide))
    refine ⟨nz, ?_⟩
    refine And.intro (fun q => absurd rfl q) (fun _ => ?_)
    exact tail _ _ (nx_case hw hh hk hd (Or.inr (Or.inr (Or.inl ⟨rfl, by rw [em, t0], by rw [ed]⟩))))
  · skip
    refine go OK [54] 80 ?_
    refine ⟨nz, ?_⟩
    refine And.intro (fun _ => ?_) (fun q => absurd q (show ¬ nI 3 = 1 by decide))
    refine And.intro (fun q => absurd rfl q) (fun _ => ?_)
    refine ⟨nz, ?_⟩
    refine And.intro (fun _ => ?_) (fun q => absurd q (show ¬ nI 3 = 2 by decide))
    refine And.intro (fun _ => ?_) (fun q => absurd q (by decide))
    exact tail _ _ (nx_case hw hh hk hd (Or.inr (Or.inr (Or.inr ⟨rfl, by rw [em], by rw [ed, t0]⟩))))
