/-! ===== the model's face: rolls, what there is ===== -/
abbrev tX4_roll : aTi := fun av X post => ∃ (a : Int32) (wl : Nat → Int32) (th rm pm ic it iv ie rc : Int32) (k tt w h : Nat) (wm pq co pa fa ce ts ns es on nx : Nat → Int32), av = [.ref 0, .int a] ∧ X = MW th (nI w) (nI h) rm pm (nI (cm w k)) (nI (tt / 6 + 1)) (nI (tt % 6 + 1)) (nI (eoN tt)) ic it iv ie rc wm pq co pa fa ce ts ns es on nx ∧ 2 ≤ w ∧ w ≤ 7 ∧ 2 ≤ h ∧ h ≤ 7 ∧ k % 7 < w ∧ k / 7 < h ∧ vt tt = true ∧ RW w h wl wm ∧
  (¬ inR a 0 3 → post 0 (MW 1 (nI w) (nI h) rm pm (nI (cm w k)) (nI (tt / 6 + 1)) (nI (tt % 6 + 1)) (nI (eoN tt)) ic it iv ie rc wm pq co pa fa ce ts ns es on nx)) ∧ ∀ d, a = nI d → d < 4 → (nxt w h wl k d = none → post 0 (MW 2 (nI w) (nI h) rm pm (nI (cm w k)) (nI (tt / 6 + 1)) (nI (tt % 6 + 1)) (nI (eoN tt)) ic it iv ie rc wm pq co pa fa ce ts ns es on nx)) ∧
    (∀ j, nxt w h wl k d = some j → ∀ ic2 it2 iv2 ie2 : Int32, post (nI (7 - (rlN tt d / 6 + 1))) (MW 0 (nI w) (nI h) (rm + 1) (pmP pa (7 - (rlN tt d / 6 + 1)) pm) (nI (cm w j)) (nI (rlN tt d / 6 + 1)) (nI (rlN tt d % 6 + 1)) (nI (eoN (rlN tt d))) ic2 it2 iv2 ie2 rc wm (prP pa (7 - (rlN tt d / 6 + 1)) (cm w j) co pq) co (paP pa (7 - (rlN tt d / 6 + 1))) fa ce ts ns es on nx))
abbrev rmX4_roll : Room := { frames := 4, cells := 0, slots := 0, locals := 91 }
theorem inX4_roll_X4 : ∀ w ∈ wsX40, w ∈ wsX4_roll := by decide +kernel
def tbX4_roll (post : Int32 → List aE → Prop) (ad0 : Nat → Nat) : List (Nat × aO) := [(0, oAL 0 1),
  (1, oC (0) 2),
  (2, oPut 3 0 5),
  (5, oIL 1 6),
  (6, oCi tX4_isSide 1 none rmX4_isSide.cells rmX4_isSide.slots rmX4_roll.cells rmX4_roll.slots 9),
  (9, oIf_ne 18 12),
  (12, oAL 0 13),
  (13, oC (1) 14),
  (14, oCi tX4_no 2 (some 3) rmX4_no.cells rmX4_no.slots rmX4_roll.cells rmX4_roll.slots 17),
  (17, oRi post ad0 rmX4_roll.cells rmX4_roll.slots),
  (18, oAL 0 19),
  (19, oIL 1 20),
  (20, oCi tX4_rolled 2 (some 3) rmX4_rolled.cells rmX4_rolled.slots rmX4_roll.cells rmX4_roll.slots 23),
  (23, oIf_eq 36 26),
  (26, oC (7) 28),
  (28, oAL 0 29),
  (29, oGet 3 10 32),
  (32, oIsub 33),
  (33, oGo 41),
  (36, oAL 0 37),
  (37, oC (2) 38),
  (38, oCi tX4_no 2 (some 3) rmX4_no.cells rmX4_no.slots rmX4_roll.cells rmX4_roll.slots 41),
  (41, oRi post ad0 rmX4_roll.cells rmX4_roll.slots)]
set_option maxRecDepth 20000 in
theorem okX4_roll {Γ : aΓ} {post : Int32 → List aE → Prop} {ad0 : Nat → Nat} {X0 : List aE} (C : FOK Γ cX4_roll wsX4_roll RX4 2 rmX4_roll) (hQ : isQ Γ (va_Qi post (aBk (gK Γ) ad0 X0 (hsz Γ)) (aA (gK Γ) ad0 X0 (hsz Γ))) rmX4_roll ad0 X0) (hr : rTy Γ = some .int) : AllS Γ (tbX4_roll post ad0) := by
  unfold tbX4_roll
  refine al_c (pc := 0) (snd_aload_n C dX4_roll_0 rfl) ?_
  refine al_c (pc := 1) (snd_iconst C dX4_roll_1 (by decide)) ?_
  refine al_c (pc := 2) (snd_put C dX4_roll_2 (ci := 3) (kf := 0) rfl (by decide) inX4_roll_X4 tyX4_ok nmX4 rfl rfl rfl (by decide +kernel)) ?_
  refine al_c (pc := 5) (snd_iload_n C dX4_roll_5 rfl) ?_
  refine al_c (pc := 6) (snd_Ci C (site_S C dX4_roll_6 gX4_roll_X4_isSide rfl rfl rfl ⟨by decide +kernel, by decide +kernel, by decide +kernel⟩ ⟨by decide, by decide⟩) mX4_isSide) ?_
  refine al_c (pc := 9) (snd_if_ne C dX4_roll_9 (by decide)) ?_
  refine al_c (pc := 12) (snd_aload_n C dX4_roll_12 rfl) ?_
  refine al_c (pc := 13) (snd_iconst C dX4_roll_13 (by decide)) ?_
  refine al_c (pc := 14) (snd_Ci C (site_V C rfl dX4_roll_14 gX4_roll_X4_no rfl rfl rfl ⟨rfl, by decide +kernel, by decide +kernel, by decide +kernel⟩ ⟨by decide, by decide⟩) mX4_no) ?_
  refine al_c (pc := 17) (snd_Ri C hQ hr dX4_roll_17) ?_
  refine al_c (pc := 18) (snd_aload_n C dX4_roll_18 rfl) ?_
  refine al_c (pc := 19) (snd_iload_n C dX4_roll_19 rfl) ?_
  refine al_c (pc := 20) (snd_Ci C (site_V C rfl dX4_roll_20 gX4_roll_X4_rolled rfl rfl rfl ⟨rfl, by decide +kernel, by decide +kernel, by decide +kernel⟩ ⟨by decide, by decide⟩) mX4_rolled) ?_
  refine al_c (pc := 23) (snd_if_eq C dX4_roll_23 (by decide)) ?_
  refine al_c (pc := 26) (snd_bipush C dX4_roll_26 (by decide)) ?_
  refine al_c (pc := 28) (snd_aload_n C dX4_roll_28 rfl) ?_
  refine al_c (pc := 29) (snd_get C dX4_roll_29 (ci := 3) (kf := 10) rfl (by decide) inX4_roll_X4 rfl (by decide +kernel)) ?_
  refine al_c (pc := 32) (snd_isub C dX4_roll_32) ?_
  refine al_c (pc := 33) (snd_goto C dX4_roll_33 (by decide)) ?_
  refine al_c (pc := 36) (snd_aload_n C dX4_roll_36 rfl) ?_
  refine al_c (pc := 37) (snd_iconst C dX4_roll_37 (by decide)) ?_
  refine al_c (pc := 38) (snd_Ci C (site_V C rfl dX4_roll_38 gX4_roll_X4_no rfl rfl rfl ⟨rfl, by decide +kernel, by decide +kernel, by decide +kernel⟩ ⟨by decide, by decide⟩) mX4_no) ?_
  refine al_c (pc := 41) (snd_Ri C hQ hr dX4_roll_41) ?_
  exact al_0
set_option maxHeartbeats 1000000 in
set_option maxRecDepth 100000 in
theorem mX4_roll : aMi yX4_roll wsX4_roll rmX4_roll tX4_roll := by
  refine aMi_of (by decide +kernel) rfl rfl (by intro av X post hT; obtain ⟨a, wl, th, rm, pm, ic, it, iv, ie, rc, k, tt, w, h, wm, pq, co, pa, fa, ce, ts, ns, es, on, nx, rfl, rfl, hw2, hw, hh2, hh, hk1, hk2, hv, hR, h1, h2⟩ := hT; exact Nat.le_of_ble_eq_true rfl) ?_
  intro Γ ad av X post C hQ hr hT
  obtain ⟨a, wl, th, rm, pm, ic, it, iv, ie, rc, k, tt, w, h, wm, pq, co, pa, fa, ce, ts, ns, es, on, nx, rfl, rfl, hw2, hw, hh2, hh, hk1, hk2, hv, hR, h1, h2⟩ := hT
  have OK := okX4_roll C hQ hr
  refine go OK [] 60 ?_
  refine ⟨_, rfl, fun q => ?_, fun q => ?_⟩
  rotate_left
  · refine And.intro (fun q => absurd rfl q) (fun _ => ?_)
    exact ⟨_, _, _, _, _, _, _, _, _, _, _, _, _, _, _, _, _, _, _, _, _, _, _, _, _, _, rfl, rfl, rfl, h1 q⟩
  refine And.intro (fun _ => ?_) (fun q => absurd q (by decide))
  obtain ⟨d, rfl, d1, d2⟩ := q
  obtain ⟨g1, g2⟩ := h2 d rfl (by omega)
  refine ⟨_, d, wl, _, _, _, _, _, _, _, _, _, _, _, _, _, _, _, _, _, _, _, _, _, _, _, rfl, rfl, rfl, hw2, hw, hh2, hh, hk1, hk2, hv, by omega, hR, fun q => ?_, fun j q ic2 it2 iv2 ie2 => ?_⟩
  · refine And.intro (fun _ => ?_) (fun q => absurd rfl q)
    exact ⟨_, _, _, _, _, _, _, _, _, _, _, _, _, _, _, _, _, _, _, _, _, _, _, _, _, _, rfl, rfl, rfl, g1 q⟩
  · refine And.intro (fun q => absurd q (by decide)) (fun _ => ?_)
    have hp := g2 j q ic2 it2 iv2 ie2
    rw [← n7 _ (by have := rlN_lt hv (by omega : d < 4); omega)] at hp
    exact ⟨rfl, hp⟩
def stepM (w h : Nat) (wl co : Nat → Int32) (d : Nat) (s : dS) : Option dS := match nxt w h wl s.1 d with
  | none => none
  | some j => some (j, rlN s.2.1 d, s.2.2.1 + 1, pmP s.2.2.2.2.2 (7 - (rlN s.2.1 d / 6 + 1)) s.2.2.2.1, prP s.2.2.2.2.2 (7 - (rlN s.2.1 d / 6 + 1)) (cm w j) co s.2.2.2.2.1, paP s.2.2.2.2.2 (7 - (rlN s.2.1 d / 6 + 1)))
def rollM (w h : Nat) (wl co : Nat → Int32) (d : Nat) : Nat → dS → Nat × dS
  | 0, s => (0, s)
  | n + 1, s => match stepM w h wl co d s with
    | none => (0, s)
    | some s2 => ((rollM w h wl co d n s2).1 + 1, (rollM w h wl co d n s2).2)
abbrev tX4_rolledOn : aTi := fun av X post => ∃ (a b : Int32) (d n : Nat) (wl : Nat → Int32) (th rm pm ic it iv ie rc : Int32) (k tt w h : Nat) (wm pq co pa fa ce ts ns es on nx : Nat → Int32), av = [.ref 0, .int a, .int b] ∧ a = nI d ∧ b = nI n ∧ X = MW th (nI w) (nI h) rm pm (nI (cm w k)) (nI (tt / 6 + 1)) (nI (tt % 6 + 1)) (nI (eoN tt)) ic it iv ie rc wm pq co pa fa ce ts ns es on nx ∧ 2 ≤ w ∧ w ≤ 7 ∧ 2 ≤ h ∧ h ≤ 7 ∧ k % 7 < w ∧ k / 7 < h ∧ vt tt = true ∧ RW w h wl wm ∧ d < 4 ∧ n ≤ 50 ∧
  ∀ (m : Nat) (k2 t2 : Nat) (rm2 pm2 : Int32) (pq2 pa2 : Nat → Int32), rollM w h wl co d n (k, tt, rm, pm, pq, pa) = (m, k2, t2, rm2, pm2, pq2, pa2) → ∀ ic2 it2 iv2 ie2 : Int32, post (nI m) (MW th (nI w) (nI h) rm2 pm2 (nI (cm w k2)) (nI (t2 / 6 + 1)) (nI (t2 % 6 + 1)) (nI (eoN t2)) ic2 it2 iv2 ie2 rc wm pq2 co pa2 fa ce ts ns es on nx)
abbrev rmX4_rolledOn : Room := { frames := 4, cells := 0, slots := 0, locals := 91 }
def tbX4_rolledOn (post : Int32 → List aE → Prop) (ad0 : Nat → Nat) : List (Nat × aO) := [(0, oC (0) 1),
  (1, oIS 3 2),
  (2, oIL 3 3),
  (3, oIL 2 4),
  (4, oIc_ge 21 7),
  (7, oAL 0 8),
  (8, oIL 1 9),
  (9, oCi tX4_rolled 2 (some 3) rmX4_rolled.cells rmX4_rolled.slots rmX4_rolledOn.cells rmX4_rolledOn.slots 12),
  (12, oIf_eq 21 15),
  (15, oInc 3 1 18),
  (18, oGo 2),
  (21, oIL 3 22),
  (22, oRi post ad0 rmX4_rolledOn.cells rmX4_rolledOn.slots)]
set_option maxRecDepth 20000 in
theorem okX4_rolledOn {Γ : aΓ} {post : Int32 → List aE → Prop} {ad0 : Nat → Nat} {X0 : List aE} (C : FOK Γ cX4_rolledOn wsX4_rolledOn RX4 4 rmX4_rolledOn) (hQ : isQ Γ (va_Qi post (aBk (gK Γ) ad0 X0 (hsz Γ)) (aA (gK Γ) ad0 X0 (hsz Γ))) rmX4_rolledOn ad0 X0) (hr : rTy Γ = some .int) : AllS Γ (tbX4_rolledOn post ad0) := by
  unfold tbX4_rolledOn
  refine al_c (pc := 0) (snd_iconst C dX4_rolledOn_0 (by decide)) ?_
  refine al_c (pc := 1) (snd_istore_n C dX4_rolledOn_1 rfl (by decide)) ?_
  refine al_c (pc := 2) (snd_iload_n C dX4_rolledOn_2 rfl) ?_
  refine al_c (pc := 3) (snd_iload_n C dX4_rolledOn_3 rfl) ?_
  refine al_c (pc := 4) (snd_icmp_ge C dX4_rolledOn_4 (by decide)) ?_
  refine al_c (pc := 7) (snd_aload_n C dX4_rolledOn_7 rfl) ?_
  refine al_c (pc := 8) (snd_iload_n C dX4_rolledOn_8 rfl) ?_
  refine al_c (pc := 9) (snd_Ci C (site_V C rfl dX4_rolledOn_9 gX4_rolledOn_X4_rolled rfl rfl rfl ⟨rfl, by decide +kernel, by decide +kernel, by decide +kernel⟩ ⟨by decide, by decide⟩) mX4_rolled) ?_
  refine al_c (pc := 12) (snd_if_eq C dX4_rolledOn_12 (by decide)) ?_
  refine al_c (pc := 15) (snd_iinc C dX4_rolledOn_15 (by decide) (by decide)) ?_
  refine al_c (pc := 18) (snd_goto C dX4_rolledOn_18 (by decide)) ?_
  refine al_c (pc := 21) (snd_iload_n C dX4_rolledOn_21 rfl) ?_
  refine al_c (pc := 22) (snd_Ri C hQ hr dX4_rolledOn_22) ?_
  exact al_0
set_option maxHeartbeats 1000000 in
set_option maxRecDepth 100000 in
theorem mX4_rolledOn : aMi yX4_rolledOn wsX4_rolledOn rmX4_rolledOn tX4_rolledOn := by
  refine aMi_of (by decide +kernel) rfl rfl (by intro av X post hT; obtain ⟨a, b, d, n, wl, th, rm, pm, ic, it, iv, ie, rc, k, tt, w, h, wm, pq, co, pa, fa, ce, ts, ns, es, on, nx, rfl, rfl, rfl, rfl, hw2, hw, hh2, hh, hk1, hk2, hv, hR, hd, hn, hp⟩ := hT; exact Nat.le_of_ble_eq_true rfl) ?_
  intro Γ ad av X post C hQ hr hT
  obtain ⟨a, b, d, n, wl, th, rm, pm, ic, it, iv, ie, rc, k, tt, w, h, wm, pq, co, pa, fa, ce, ts, ns, es, on, nx, rfl, rfl, rfl, rfl, hw2, hw, hh2, hh, hk1, hk2, hv, hR, hd, hn, hp⟩ := hT
  have OK := okX4_rolledOn C hQ hr
  have loop : ∀ (n2 i : Nat) (k2 t2 : Nat) (rm2 pm2 ic2 it2 iv2 ie2 : Int32) (pq2 pa2 : Nat → Int32), i + n2 = n → k2 % 7 < w → k2 / 7 < h → vt t2 = true → rollM w h wl co d n (k, tt, rm, pm, pq, pa) = (i + (rollM w h wl co d n2 (k2, t2, rm2, pm2, pq2, pa2)).1, (rollM w h wl co d n2 (k2, t2, rm2, pm2, pq2, pa2)).2) →
      FG Γ 2 ad 0 0 [(3, .int (nI i)), (0, .ref 0), (1, .int (nI d)), (2, .int (nI n))] [] (MW th (nI w) (nI h) rm2 pm2 (nI (cm w k2)) (nI (t2 / 6 + 1)) (nI (t2 % 6 + 1)) (nI (eoN t2)) ic2 it2 iv2 ie2 rc wm pq2 co pa2 fa ce ts ns es on nx) := by
    intro n2
    induction n2 with
    | zero =>
      intro i k2 t2 rm2 pm2 ic2 it2 iv2 ie2 pq2 pa2 hi c1 c2 hv2 he
      refine go OK [2] 60 ?_
      refine And.intro (fun q => ?_) (fun q => absurd ((leN (by omega) (by omega)).mpr (by omega : n ≤ i)) q)
      exact ⟨rfl, hp _ _ _ _ _ _ _ he _ _ _ _⟩
    | succ n2 ih =>
      intro i k2 t2 rm2 pm2 ic2 it2 iv2 ie2 pq2 pa2 hi c1 c2 hv2 he
      refine go OK [2] 60 ?_
      refine And.intro (fun q => ?_) (fun q => ?_)
      · have := (leN (by omega) (by omega)).mp q
        omega
      refine ⟨_, d, wl, _, _, _, _, _, _, _, _, _, _, _, _, _, _, _, _, _, _, _, _, _, _, _, rfl, rfl, rfl, hw2, hw, hh2, hh, c1, c2, hv2, hd, hR, fun q => ?_, fun j q ic3 it3 iv3 ie3 => ?_⟩
      · refine And.intro (fun _ => ?_) (fun q => absurd rfl q)
        refine ⟨rfl, hp _ _ _ _ _ _ _ ?_ _ _ _ _⟩
        rw [he]
        unfold rollM stepM
        rw [q]
        rfl
      · refine And.intro (fun q => absurd q (by decide)) (fun _ => ?_)
        have hj := nxt_fr q
        have key := ih (i + 1) j (rlN t2 d) (rm2 + 1) (pmP pa2 (7 - (rlN t2 d / 6 + 1)) pm2) ic3 it3 iv3 ie3 (prP pa2 (7 - (rlN t2 d / 6 + 1)) (cm w j) co pq2) (paP pa2 (7 - (rlN t2 d / 6 + 1))) (by omega) hj.1 hj.2.1 (rlN_vt hv2 hd) (by
          rw [he]
          have e : stepM w h wl co d (k2, t2, rm2, pm2, pq2, pa2) = some (j, rlN t2 d, rm2 + 1, pmP pa2 (7 - (rlN t2 d / 6 + 1)) pm2, prP pa2 (7 - (rlN t2 d / 6 + 1)) (cm w j) co pq2, paP pa2 (7 - (rlN t2 d / 6 + 1))) := by
            unfold stepM
            rw [q]
          rw [rollM, e]
          show (i + ((rollM w h wl co d n2 _).1 + 1), _) = _
          rw [show ∀ x : Nat, i + (x + 1) = i + 1 + x from fun x => by omega])
        rw [← nI_p1 i] at key
        exact key
  refine go OK [2] 40 ?_
  exact loop n 0 k tt rm pm ic it iv ie pq pa (by omega) hk1 hk2 hv (by simp)
abbrev tX4_rollOn : aTi := fun av X post => ∃ (a b : Int32) (wl : Nat → Int32) (th rm pm ic it iv ie rc : Int32) (k tt w h : Nat) (wm pq co pa fa ce ts ns es on nx : Nat → Int32), av = [.ref 0, .int a, .int b] ∧ X = MW th (nI w) (nI h) rm pm (nI (cm w k)) (nI (tt / 6 + 1)) (nI (tt % 6 + 1)) (nI (eoN tt)) ic it iv ie rc wm pq co pa fa ce ts ns es on nx ∧ 2 ≤ w ∧ w ≤ 7 ∧ 2 ≤ h ∧ h ≤ 7 ∧ k % 7 < w ∧ k / 7 < h ∧ vt tt = true ∧ RW w h wl wm ∧
  (¬ inR a 0 3 → post 0 (MW 1 (nI w) (nI h) rm pm (nI (cm w k)) (nI (tt / 6 + 1)) (nI (tt % 6 + 1)) (nI (eoN tt)) ic it iv ie rc wm pq co pa fa ce ts ns es on nx)) ∧ ∀ d, a = nI d → d < 4 → (¬ inR b 1 50 → post 0 (MW 2 (nI w) (nI h) rm pm (nI (cm w k)) (nI (tt / 6 + 1)) (nI (tt % 6 + 1)) (nI (eoN tt)) ic it iv ie rc wm pq co pa fa ce ts ns es on nx)) ∧
    (∀ n, b = nI n → 1 ≤ n → n ≤ 50 → ∀ (m : Nat) (k2 t2 : Nat) (rm2 pm2 : Int32) (pq2 pa2 : Nat → Int32), rollM w h wl co d n (k, tt, rm, pm, pq, pa) = (m, k2, t2, rm2, pm2, pq2, pa2) → ∀ ic2 it2 iv2 ie2 : Int32, post (nI m) (MW 0 (nI w) (nI h) rm2 pm2 (nI (cm w k2)) (nI (t2 / 6 + 1)) (nI (t2 % 6 + 1)) (nI (eoN t2)) ic2 it2 iv2 ie2 rc wm pq2 co pa2 fa ce ts ns es on nx))
abbrev rmX4_rollOn : Room := { frames := 5, cells := 0, slots := 0, locals := 114 }
theorem inX4_rollOn_X4 : ∀ w ∈ wsX40, w ∈ wsX4_rollOn := by decide +kernel
def tbX4_rollOn (post : Int32 → List aE → Prop) (ad0 : Nat → Nat) : List (Nat × aO) := [(0, oAL 0 1),
  (1, oC (0) 2),
  (2, oPut 3 0 5),
  (5, oIL 1 6),
  (6, oCi tX4_isSide 1 none rmX4_isSide.cells rmX4_isSide.slots rmX4_rollOn.cells rmX4_rollOn.slots 9),
  (9, oIf_ne 18 12),
  (12, oAL 0 13),
  (13, oC (1) 14),
  (14, oCi tX4_no 2 (some 3) rmX4_no.cells rmX4_no.slots rmX4_rollOn.cells rmX4_rollOn.slots 17),
  (17, oRi post ad0 rmX4_rollOn.cells rmX4_rollOn.slots),
  (18, oIL 2 19),
  (19, oC (1) 20),
  (20, oC (50) 22),
  (22, oCi tX4_isIn 3 none rmX4_isIn.cells rmX4_isIn.slots rmX4_rollOn.cells rmX4_rollOn.slots 25),
  (25, oIf_eq 37 28),
  (28, oAL 0 29),
  (29, oIL 1 30),
  (30, oIL 2 31),
  (31, oCi tX4_rolledOn 3 (some 3) rmX4_rolledOn.cells rmX4_rolledOn.slots rmX4_rollOn.cells rmX4_rollOn.slots 34),
  (34, oGo 42),
  (37, oAL 0 38),
  (38, oC (2) 39),
  (39, oCi tX4_no 2 (some 3) rmX4_no.cells rmX4_no.slots rmX4_rollOn.cells rmX4_rollOn.slots 42),
  (42, oRi post ad0 rmX4_rollOn.cells rmX4_rollOn.slots)]
set_option maxRecDepth 20000 in
theorem okX4_rollOn {Γ : aΓ} {post : Int32 → List aE → Prop} {ad0 : Nat → Nat} {X0 : List aE} (C : FOK Γ cX4_rollOn wsX4_rollOn RX4 3 rmX4_rollOn) (hQ : isQ Γ (va_Qi post (aBk (gK Γ) ad0 X0 (hsz Γ)) (aA (gK Γ) ad0 X0 (hsz Γ))) rmX4_rollOn ad0 X0) (hr : rTy Γ = some .int) : AllS Γ (tbX4_rollOn post ad0) := by
  unfold tbX4_rollOn
  refine al_c (pc := 0) (snd_aload_n C dX4_rollOn_0 rfl) ?_
  refine al_c (pc := 1) (snd_iconst C dX4_rollOn_1 (by decide)) ?_
  refine al_c (pc := 2) (snd_put C dX4_rollOn_2 (ci := 3) (kf := 0) rfl (by decide) inX4_rollOn_X4 tyX4_ok nmX4 rfl rfl rfl (by decide +kernel)) ?_
  refine al_c (pc := 5) (snd_iload_n C dX4_rollOn_5 rfl) ?_
  refine al_c (pc := 6) (snd_Ci C (site_S C dX4_rollOn_6 gX4_rollOn_X4_isSide rfl rfl rfl ⟨by decide +kernel, by decide +kernel, by decide +kernel⟩ ⟨by decide, by decide⟩) mX4_isSide) ?_
  refine al_c (pc := 9) (snd_if_ne C dX4_rollOn_9 (by decide)) ?_
  refine al_c (pc := 12) (snd_aload_n C dX4_rollOn_12 rfl) ?_
  refine al_c (pc := 13) (snd_iconst C dX4_rollOn_13 (by decide)) ?_
  refine al_c (pc := 14) (snd_Ci C (site_V C rfl dX4_rollOn_14 gX4_rollOn_X4_no rfl rfl rfl ⟨rfl, by decide +kernel, by decide +kernel, by decide +kernel⟩ ⟨by decide, by decide⟩) mX4_no) ?_
  refine al_c (pc := 17) (snd_Ri C hQ hr dX4_rollOn_17) ?_
  refine al_c (pc := 18) (snd_iload_n C dX4_rollOn_18 rfl) ?_
  refine al_c (pc := 19) (snd_iconst C dX4_rollOn_19 (by decide)) ?_
  refine al_c (pc := 20) (snd_bipush C dX4_rollOn_20 (by decide)) ?_
  refine al_c (pc := 22) (snd_Ci C (site_S C dX4_rollOn_22 gX4_rollOn_X4_isIn rfl rfl rfl ⟨by decide +kernel, by decide +kernel, by decide +kernel⟩ ⟨by decide, by decide⟩) mX4_isIn) ?_
  refine al_c (pc := 25) (snd_if_eq C dX4_rollOn_25 (by decide)) ?_
  refine al_c (pc := 28) (snd_aload_n C dX4_rollOn_28 rfl) ?_
  refine al_c (pc := 29) (snd_iload_n C dX4_rollOn_29 rfl) ?_
  refine al_c (pc := 30) (snd_iload_n C dX4_rollOn_30 rfl) ?_
  refine al_c (pc := 31) (snd_Ci C (site_V C rfl dX4_rollOn_31 gX4_rollOn_X4_rolledOn rfl rfl rfl ⟨rfl, by decide +kernel, by decide +kernel, by decide +kernel⟩ ⟨by decide, by decide⟩) mX4_rolledOn) ?_
  refine al_c (pc := 34) (snd_goto C dX4_rollOn_34 (by decide)) ?_
  refine al_c (pc := 37) (snd_aload_n C dX4_rollOn_37 rfl) ?_
  refine al_c (pc := 38) (snd_iconst C dX4_rollOn_38 (by decide)) ?_
  refine al_c (pc := 39) (snd_Ci C (site_V C rfl dX4_rollOn_39 gX4_rollOn_X4_no rfl rfl rfl ⟨rfl, by decide +kernel, by decide +kernel, by decide +kernel⟩ ⟨by decide, by decide⟩) mX4_no) ?_
  refine al_c (pc := 42) (snd_Ri C hQ hr dX4_rollOn_42) ?_
  exact al_0
set_option maxHeartbeats 1000000 in
set_option maxRecDepth 100000 in
theorem mX4_rollOn : aMi yX4_rollOn wsX4_rollOn rmX4_rollOn tX4_rollOn := by
  refine aMi_of (by decide +kernel) rfl rfl (by intro av X post hT; obtain ⟨a, b, wl, th, rm, pm, ic, it, iv, ie, rc, k, tt, w, h, wm, pq, co, pa, fa, ce, ts, ns, es, on, nx, rfl, rfl, hw2, hw, hh2, hh, hk1, hk2, hv, hR, h1, h2⟩ := hT; exact Nat.le_of_ble_eq_true rfl) ?_
  intro Γ ad av X post C hQ hr hT
  obtain ⟨a, b, wl, th, rm, pm, ic, it, iv, ie, rc, k, tt, w, h, wm, pq, co, pa, fa, ce, ts, ns, es, on, nx, rfl, rfl, hw2, hw, hh2, hh, hk1, hk2, hv, hR, h1, h2⟩ := hT
  have OK := okX4_rollOn C hQ hr
  refine go OK [] 60 ?_
  refine ⟨_, rfl, fun q => ?_, fun q => ?_⟩
  rotate_left
  · refine And.intro (fun q => absurd rfl q) (fun _ => ?_)
    exact ⟨_, _, _, _, _, _, _, _, _, _, _, _, _, _, _, _, _, _, _, _, _, _, _, _, _, _, rfl, rfl, rfl, h1 q⟩
  refine And.intro (fun _ => ?_) (fun q => absurd q (by decide))
  obtain ⟨d, rfl, d1, d2⟩ := q
  obtain ⟨g1, g2⟩ := h2 d rfl (by omega)
  refine ⟨_, _, _, 1, 50, rfl, rfl, rfl, by omega, by omega, fun q => ?_, fun q => ?_⟩
  · refine And.intro (fun q => absurd q (by decide)) (fun _ => ?_)
    obtain ⟨n, rfl, n1, n2⟩ := q
    exact ⟨_, _, d, n, wl, _, _, _, _, _, _, _, _, _, _, _, _, _, _, _, _, _, _, _, _, _, _, _, rfl, rfl, rfl, rfl, hw2, hw, hh2, hh, hk1, hk2, hv, hR, by omega, n2, fun m k2 t2 rm2 pm2 pq2 pa2 e ic2 it2 iv2 ie2 => ⟨rfl, g2 n rfl n1 n2 m k2 t2 rm2 pm2 pq2 pa2 e ic2 it2 iv2 ie2⟩⟩
  · refine And.intro (fun _ => ?_) (fun q => absurd rfl q)
    exact ⟨_, _, _, _, _, _, _, _, _, _, _, _, _, _, _, _, _, _, _, _, _, _, _, _, _, _, rfl, rfl, rfl, g1 q⟩
abbrev tX4_column : aTi := fun av X post => ∃ (th rm pm ic it iv ie rc : Int32) (k tt w h : Nat) (wm pq co pa fa ce ts ns es on nx : Nat → Int32), av = [.ref 0] ∧ X = MW th (nI w) (nI h) rm pm (nI (cm w k)) (nI (tt / 6 + 1)) (nI (tt % 6 + 1)) (nI (eoN tt)) ic it iv ie rc wm pq co pa fa ce ts ns es on nx ∧ 2 ≤ w ∧ w ≤ 7 ∧ h ≤ 7 ∧ k % 7 < w ∧ k / 7 < h ∧ post (nI (k % 7)) (MW 0 (nI w) (nI h) rm pm (nI (cm w k)) (nI (tt / 6 + 1)) (nI (tt % 6 + 1)) (nI (eoN tt)) ic it iv ie rc wm pq co pa fa ce ts ns es on nx)
abbrev rmX4_column : Room := { frames := 1, cells := 0, slots := 0, locals := 21 }
theorem inX4_column_X4 : ∀ w ∈ wsX40, w ∈ wsX4_column := by decide +kernel
def tbX4_column (post : Int32 → List aE → Prop) (ad0 : Nat → Nat) : List (Nat × aO) := [(0, oAL 0 1),
  (1, oAL 0 2),
  (2, oGet 3 9 5),
  (5, oAL 0 6),
  (6, oGet 3 1 9),
  (9, oIrem 10),
  (10, oCi tX4_ok 2 (some 3) rmX4_ok.cells rmX4_ok.slots rmX4_column.cells rmX4_column.slots 13),
  (13, oRi post ad0 rmX4_column.cells rmX4_column.slots)]
set_option maxRecDepth 20000 in
theorem okX4_column {Γ : aΓ} {post : Int32 → List aE → Prop} {ad0 : Nat → Nat} {X0 : List aE} (C : FOK Γ cX4_column wsX4_column RX4 1 rmX4_column) (hQ : isQ Γ (va_Qi post (aBk (gK Γ) ad0 X0 (hsz Γ)) (aA (gK Γ) ad0 X0 (hsz Γ))) rmX4_column ad0 X0) (hr : rTy Γ = some .int) : AllS Γ (tbX4_column post ad0) := by
  unfold tbX4_column
  refine al_c (pc := 0) (snd_aload_n C dX4_column_0 rfl) ?_
  refine al_c (pc := 1) (snd_aload_n C dX4_column_1 rfl) ?_
  refine al_c (pc := 2) (snd_get C dX4_column_2 (ci := 3) (kf := 9) rfl (by decide) inX4_column_X4 rfl (by decide +kernel)) ?_
  refine al_c (pc := 5) (snd_aload_n C dX4_column_5 rfl) ?_
  refine al_c (pc := 6) (snd_get C dX4_column_6 (ci := 3) (kf := 1) rfl (by decide) inX4_column_X4 rfl (by decide +kernel)) ?_
  refine al_c (pc := 9) (snd_irem C dX4_column_9) ?_
  refine al_c (pc := 10) (snd_Ci C (site_V C rfl dX4_column_10 gX4_column_X4_ok rfl rfl rfl ⟨rfl, by decide +kernel, by decide +kernel, by decide +kernel⟩ ⟨by decide, by decide⟩) mX4_ok) ?_
  refine al_c (pc := 13) (snd_Ri C hQ hr dX4_column_13) ?_
  exact al_0
set_option maxHeartbeats 1000000 in
set_option maxRecDepth 100000 in
theorem mX4_column : aMi yX4_column wsX4_column rmX4_column tX4_column := by
  refine aMi_of (by decide +kernel) rfl rfl (by intro av X post hT; obtain ⟨th, rm, pm, ic, it, iv, ie, rc, k, tt, w, h, wm, pq, co, pa, fa, ce, ts, ns, es, on, nx, rfl, rfl, hw2, hw, hh, hk1, hk2, hp⟩ := hT; exact Nat.le_of_ble_eq_true rfl) ?_
  intro Γ ad av X post C hQ hr hT
  obtain ⟨th, rm, pm, ic, it, iv, ie, rc, k, tt, w, h, wm, pq, co, pa, fa, ce, ts, ns, es, on, nx, rfl, rfl, hw2, hw, hh, hk1, hk2, hp⟩ := hT
  have OK := okX4_column C hQ hr
  have hk49 := cm_lt hw hh hk1 hk2
  have em : nI (cm w k) - nI (cm w k) / nI w * nI w = nI (k % 7) := by rw [pk_rem (a := cm w k) (d := w) (by omega) (by omega) (by omega), cm_mod hk1]
  rw [← em] at hp
  refine go OK [] 60 ?_
  exact ⟨nI_ne0 (by omega) (by omega), _, _, _, _, _, _, _, _, _, _, _, _, _, _, _, _, _, _, _, _, _, _, _, _, _, _, rfl, rfl, rfl, hp⟩
abbrev tX4_row : aTi := fun av X post => ∃ (th rm pm ic it iv ie rc : Int32) (k tt w h : Nat) (wm pq co pa fa ce ts ns es on nx : Nat → Int32), av = [.ref 0] ∧ X = MW th (nI w) (nI h) rm pm (nI (cm w k)) (nI (tt / 6 + 1)) (nI (tt % 6 + 1)) (nI (eoN tt)) ic it iv ie rc wm pq co pa fa ce ts ns es on nx ∧ 2 ≤ w ∧ w ≤ 7 ∧ h ≤ 7 ∧ k % 7 < w ∧ k / 7 < h ∧ post (nI (k / 7)) (MW 0 (nI w) (nI h) rm pm (nI (cm w k)) (nI (tt / 6 + 1)) (nI (tt % 6 + 1)) (nI (eoN tt)) ic it iv ie rc wm pq co pa fa ce ts ns es on nx)
abbrev rmX4_row : Room := { frames := 1, cells := 0, slots := 0, locals := 21 }
theorem inX4_row_X4 : ∀ w ∈ wsX40, w ∈ wsX4_row := by decide +kernel
def tbX4_row (post : Int32 → List aE → Prop) (ad0 : Nat → Nat) : List (Nat × aO) := [(0, oAL 0 1),
  (1, oAL 0 2),
  (2, oGet 3 9 5),
  (5, oAL 0 6),
  (6, oGet 3 1 9),
  (9, oIdiv 10),
  (10, oCi tX4_ok 2 (some 3) rmX4_ok.cells rmX4_ok.slots rmX4_row.cells rmX4_row.slots 13),
  (13, oRi post ad0 rmX4_row.cells rmX4_row.slots)]
set_option maxRecDepth 20000 in
theorem okX4_row {Γ : aΓ} {post : Int32 → List aE → Prop} {ad0 : Nat → Nat} {X0 : List aE} (C : FOK Γ cX4_row wsX4_row RX4 1 rmX4_row) (hQ : isQ Γ (va_Qi post (aBk (gK Γ) ad0 X0 (hsz Γ)) (aA (gK Γ) ad0 X0 (hsz Γ))) rmX4_row ad0 X0) (hr : rTy Γ = some .int) : AllS Γ (tbX4_row post ad0) := by
  unfold tbX4_row
  refine al_c (pc := 0) (snd_aload_n C dX4_row_0 rfl) ?_
  refine al_c (pc := 1) (snd_aload_n C dX4_row_1 rfl) ?_
  refine al_c (pc := 2) (snd_get C dX4_row_2 (ci := 3) (kf := 9) rfl (by decide) inX4_row_X4 rfl (by decide +kernel)) ?_
  refine al_c (pc := 5) (snd_aload_n C dX4_row_5 rfl) ?_
  refine al_c (pc := 6) (snd_get C dX4_row_6 (ci := 3) (kf := 1) rfl (by decide) inX4_row_X4 rfl (by decide +kernel)) ?_
  refine al_c (pc := 9) (snd_idiv C dX4_row_9) ?_
  refine al_c (pc := 10) (snd_Ci C (site_V C rfl dX4_row_10 gX4_row_X4_ok rfl rfl rfl ⟨rfl, by decide +kernel, by decide +kernel, by decide +kernel⟩ ⟨by decide, by decide⟩) mX4_ok) ?_
  refine al_c (pc := 13) (snd_Ri C hQ hr dX4_row_13) ?_
  exact al_0
set_option maxHeartbeats 1000000 in
set_option maxRecDepth 100000 in
theorem mX4_row : aMi yX4_row wsX4_row rmX4_row tX4_row := by
  refine aMi_of (by decide +kernel) rfl rfl (by intro av X post hT; obtain ⟨th, rm, pm, ic, it, iv, ie, rc, k, tt, w, h, wm, pq, co, pa, fa, ce, ts, ns, es, on, nx, rfl, rfl, hw2, hw, hh, hk1, hk2, hp⟩ := hT; exact Nat.le_of_ble_eq_true rfl) ?_
  intro Γ ad av X post C hQ hr hT
  obtain ⟨th, rm, pm, ic, it, iv, ie, rc, k, tt, w, h, wm, pq, co, pa, fa, ce, ts, ns, es, on, nx, rfl, rfl, hw2, hw, hh, hk1, hk2, hp⟩ := hT
  have OK := okX4_row C hQ hr
  have hk49 := cm_lt hw hh hk1 hk2
  have ed : nI (cm w k) / nI w = nI (k / 7) := by rw [pk_div (a := cm w k) (d := w) (by omega) (by omega) (by omega), cm_div hk1]
  rw [← ed] at hp
  refine go OK [] 60 ?_
  exact ⟨nI_ne0 (by omega) (by omega), _, _, _, _, _, _, _, _, _, _, _, _, _, _, _, _, _, _, _, _, _, _, _, _, _, _, rfl, rfl, rfl, hp⟩
abbrev tX4_top : aTi := fun av X post => ∃ (th rm pm ic it iv ie rc : Int32) (k tt w h : Nat) (wm pq co pa fa ce ts ns es on nx : Nat → Int32), av = [.ref 0] ∧ X = MW th (nI w) (nI h) rm pm (nI (cm w k)) (nI (tt / 6 + 1)) (nI (tt % 6 + 1)) (nI (eoN tt)) ic it iv ie rc wm pq co pa fa ce ts ns es on nx ∧ post (nI (tt / 6 + 1)) (MW 0 (nI w) (nI h) rm pm (nI (cm w k)) (nI (tt / 6 + 1)) (nI (tt % 6 + 1)) (nI (eoN tt)) ic it iv ie rc wm pq co pa fa ce ts ns es on nx)
abbrev rmX4_top : Room := { frames := 1, cells := 0, slots := 0, locals := 21 }
theorem inX4_top_X4 : ∀ w ∈ wsX40, w ∈ wsX4_top := by decide +kernel
def tbX4_top (post : Int32 → List aE → Prop) (ad0 : Nat → Nat) : List (Nat × aO) := [(0, oAL 0 1),
  (1, oAL 0 2),
  (2, oGet 3 10 5),
  (5, oCi tX4_ok 2 (some 3) rmX4_ok.cells rmX4_ok.slots rmX4_top.cells rmX4_top.slots 8),
  (8, oRi post ad0 rmX4_top.cells rmX4_top.slots)]
set_option maxRecDepth 20000 in
theorem okX4_top {Γ : aΓ} {post : Int32 → List aE → Prop} {ad0 : Nat → Nat} {X0 : List aE} (C : FOK Γ cX4_top wsX4_top RX4 1 rmX4_top) (hQ : isQ Γ (va_Qi post (aBk (gK Γ) ad0 X0 (hsz Γ)) (aA (gK Γ) ad0 X0 (hsz Γ))) rmX4_top ad0 X0) (hr : rTy Γ = some .int) : AllS Γ (tbX4_top post ad0) := by
  unfold tbX4_top
  refine al_c (pc := 0) (snd_aload_n C dX4_top_0 rfl) ?_
  refine al_c (pc := 1) (snd_aload_n C dX4_top_1 rfl) ?_
  refine al_c (pc := 2) (snd_get C dX4_top_2 (ci := 3) (kf := 10) rfl (by decide) inX4_top_X4 rfl (by decide +kernel)) ?_
  refine al_c (pc := 5) (snd_Ci C (site_V C rfl dX4_top_5 gX4_top_X4_ok rfl rfl rfl ⟨rfl, by decide +kernel, by decide +kernel, by decide +kernel⟩ ⟨by decide, by decide⟩) mX4_ok) ?_
  refine al_c (pc := 8) (snd_Ri C hQ hr dX4_top_8) ?_
  exact al_0
set_option maxHeartbeats 1000000 in
set_option maxRecDepth 100000 in
theorem mX4_top : aMi yX4_top wsX4_top rmX4_top tX4_top := by
  refine aMi_of (by decide +kernel) rfl rfl (by intro av X post hT; obtain ⟨th, rm, pm, ic, it, iv, ie, rc, k, tt, w, h, wm, pq, co, pa, fa, ce, ts, ns, es, on, nx, rfl, rfl, hp⟩ := hT; exact Nat.le_of_ble_eq_true rfl) ?_
  intro Γ ad av X post C hQ hr hT
  obtain ⟨th, rm, pm, ic, it, iv, ie, rc, k, tt, w, h, wm, pq, co, pa, fa, ce, ts, ns, es, on, nx, rfl, rfl, hp⟩ := hT
  have OK := okX4_top C hQ hr
  refine go OK [] 60 ?_
  exact ⟨_, _, _, _, _, _, _, _, _, _, _, _, _, _, _, _, _, _, _, _, _, _, _, _, _, _, rfl, rfl, rfl, hp⟩
abbrev tX4_bottom : aTi := fun av X post => ∃ (th rm pm ic it iv ie rc : Int32) (k tt w h : Nat) (wm pq co pa fa ce ts ns es on nx : Nat → Int32), av = [.ref 0] ∧ X = MW th (nI w) (nI h) rm pm (nI (cm w k)) (nI (tt / 6 + 1)) (nI (tt % 6 + 1)) (nI (eoN tt)) ic it iv ie rc wm pq co pa fa ce ts ns es on nx ∧ tt < 36 ∧ post (nI (7 - (tt / 6 + 1))) (MW 0 (nI w) (nI h) rm pm (nI (cm w k)) (nI (tt / 6 + 1)) (nI (tt % 6 + 1)) (nI (eoN tt)) ic it iv ie rc wm pq co pa fa ce ts ns es on nx)
abbrev rmX4_bottom : Room := { frames := 1, cells := 0, slots := 0, locals := 21 }
theorem inX4_bottom_X4 : ∀ w ∈ wsX40, w ∈ wsX4_bottom := by decide +kernel
def tbX4_bottom (post : Int32 → List aE → Prop) (ad0 : Nat → Nat) : List (Nat × aO) := [(0, oAL 0 1),
  (1, oC (7) 3),
  (3, oAL 0 4),
  (4, oGet 3 10 7),
  (7, oIsub 8),
  (8, oCi tX4_ok 2 (some 3) rmX4_ok.cells rmX4_ok.slots rmX4_bottom.cells rmX4_bottom.slots 11),
  (11, oRi post ad0 rmX4_bottom.cells rmX4_bottom.slots)]
set_option maxRecDepth 20000 in
theorem okX4_bottom {Γ : aΓ} {post : Int32 → List aE → Prop} {ad0 : Nat → Nat} {X0 : List aE} (C : FOK Γ cX4_bottom wsX4_bottom RX4 1 rmX4_bottom) (hQ : isQ Γ (va_Qi post (aBk (gK Γ) ad0 X0 (hsz Γ)) (aA (gK Γ) ad0 X0 (hsz Γ))) rmX4_bottom ad0 X0) (hr : rTy Γ = some .int) : AllS Γ (tbX4_bottom post ad0) := by
  unfold tbX4_bottom
  refine al_c (pc := 0) (snd_aload_n C dX4_bottom_0 rfl) ?_
  refine al_c (pc := 1) (snd_bipush C dX4_bottom_1 (by decide)) ?_
  refine al_c (pc := 3) (snd_aload_n C dX4_bottom_3 rfl) ?_
  refine al_c (pc := 4) (snd_get C dX4_bottom_4 (ci := 3) (kf := 10) rfl (by decide) inX4_bottom_X4 rfl (by decide +kernel)) ?_
  refine al_c (pc := 7) (snd_isub C dX4_bottom_7) ?_
  refine al_c (pc := 8) (snd_Ci C (site_V C rfl dX4_bottom_8 gX4_bottom_X4_ok rfl rfl rfl ⟨rfl, by decide +kernel, by decide +kernel, by decide +kernel⟩ ⟨by decide, by decide⟩) mX4_ok) ?_
  refine al_c (pc := 11) (snd_Ri C hQ hr dX4_bottom_11) ?_
  exact al_0
set_option maxHeartbeats 1000000 in
set_option maxRecDepth 100000 in
theorem mX4_bottom : aMi yX4_bottom wsX4_bottom rmX4_bottom tX4_bottom := by
  refine aMi_of (by decide +kernel) rfl rfl (by intro av X post hT; obtain ⟨th, rm, pm, ic, it, iv, ie, rc, k, tt, w, h, wm, pq, co, pa, fa, ce, ts, ns, es, on, nx, rfl, rfl, ht, hp⟩ := hT; exact Nat.le_of_ble_eq_true rfl) ?_
  intro Γ ad av X post C hQ hr hT
  obtain ⟨th, rm, pm, ic, it, iv, ie, rc, k, tt, w, h, wm, pq, co, pa, fa, ce, ts, ns, es, on, nx, rfl, rfl, ht, hp⟩ := hT
  have OK := okX4_bottom C hQ hr
  rw [← n7 _ (by omega)] at hp
  refine go OK [] 60 ?_
  exact ⟨_, _, _, _, _, _, _, _, _, _, _, _, _, _, _, _, _, _, _, _, _, _, _, _, _, _, rfl, rfl, rfl, hp⟩
abbrev tX4_side : aTi := fun av X post => ∃ (a : Int32) (d : Nat) (th rm pm ic it iv ie rc : Int32) (k tt w h : Nat) (wm pq co pa fa ce ts ns es on nx : Nat → Int32), av = [.ref 0, .int a] ∧ a = nI d ∧ d < 4 ∧ X = MW th (nI w) (nI h) rm pm (nI (cm w k)) (nI (tt / 6 + 1)) (nI (tt % 6 + 1)) (nI (eoN tt)) ic it iv ie rc wm pq co pa fa ce ts ns es on nx ∧ vt tt = true ∧ post (nI (faN tt d)) X
abbrev rmX4_side : Room := { frames := 0, cells := 0, slots := 0, locals := 0 }
theorem inX4_side_X4 : ∀ w ∈ wsX40, w ∈ wsX4_side := by decide +kernel
def tbX4_side (post : Int32 → List aE → Prop) (ad0 : Nat → Nat) : List (Nat × aO) := [(0, oIL 1 1),
  (1, oIf_ne 11 4),
  (4, oAL 0 5),
  (5, oGet 3 11 8),
  (8, oGo 45),
  (11, oIL 1 12),
  (12, oC (1) 13),
  (13, oIc_ne 23 16),
  (16, oAL 0 17),
  (17, oGet 3 12 20),
  (20, oGo 45),
  (23, oIL 1 24),
  (24, oC (2) 25),
  (25, oIc_ne 38 28),
  (28, oC (7) 30),
  (30, oAL 0 31),
  (31, oGet 3 11 34),
  (34, oIsub 35),
  (35, oGo 45),
  (38, oC (7) 40),
  (40, oAL 0 41),
  (41, oGet 3 12 44),
  (44, oIsub 45),
  (45, oRi post ad0 rmX4_side.cells rmX4_side.slots)]
set_option maxRecDepth 20000 in
theorem okX4_side {Γ : aΓ} {post : Int32 → List aE → Prop} {ad0 : Nat → Nat} {X0 : List aE} (C : FOK Γ cX4_side wsX4_side RX4 2 rmX4_side) (hQ : isQ Γ (va_Qi post (aBk (gK Γ) ad0 X0 (hsz Γ)) (aA (gK Γ) ad0 X0 (hsz Γ))) rmX4_side ad0 X0) (hr : rTy Γ = some .int) : AllS Γ (tbX4_side post ad0) := by
  unfold tbX4_side
  refine al_c (pc := 0) (snd_iload_n C dX4_side_0 rfl) ?_
  refine al_c (pc := 1) (snd_if_ne C dX4_side_1 (by decide)) ?_
  refine al_c (pc := 4) (snd_aload_n C dX4_side_4 rfl) ?_
  refine al_c (pc := 5) (snd_get C dX4_side_5 (ci := 3) (kf := 11) rfl (by decide) inX4_side_X4 rfl (by decide +kernel)) ?_
  refine al_c (pc := 8) (snd_goto C dX4_side_8 (by decide)) ?_
  refine al_c (pc := 11) (snd_iload_n C dX4_side_11 rfl) ?_
  refine al_c (pc := 12) (snd_iconst C dX4_side_12 (by decide)) ?_
  refine al_c (pc := 13) (snd_icmp_ne C dX4_side_13 (by decide)) ?_
  refine al_c (pc := 16) (snd_aload_n C dX4_side_16 rfl) ?_
  refine al_c (pc := 17) (snd_get C dX4_side_17 (ci := 3) (kf := 12) rfl (by decide) inX4_side_X4 rfl (by decide +kernel)) ?_
  refine al_c (pc := 20) (snd_goto C dX4_side_20 (by decide)) ?_
  refine al_c (pc := 23) (snd_iload_n C dX4_side_23 rfl) ?_
  refine al_c (pc := 24) (snd_iconst C dX4_side_24 (by decide)) ?_
  refine al_c (pc := 25) (snd_icmp_ne C dX4_side_25 (by decide)) ?_
  refine al_c (pc := 28) (snd_bipush C dX4_side_28 (by decide)) ?_
  refine al_c (pc := 30) (snd_aload_n C dX4_side_30 rfl) ?_
  refine al_c (pc := 31) (snd_get C dX4_side_31 (ci := 3) (kf := 11) rfl (by decide) inX4_side_X4 rfl (by decide +kernel)) ?_
  refine al_c (pc := 34) (snd_isub C dX4_side_34) ?_
  refine al_c (pc := 35) (snd_goto C dX4_side_35 (by decide)) ?_
  refine al_c (pc := 38) (snd_bipush C dX4_side_38 (by decide)) ?_
  refine al_c (pc := 40) (snd_aload_n C dX4_side_40 rfl) ?_
  refine al_c (pc := 41) (snd_get C dX4_side_41 (ci := 3) (kf := 12) rfl (by decide) inX4_side_X4 rfl (by decide +kernel)) ?_
  refine al_c (pc := 44) (snd_isub C dX4_side_44) ?_
  refine al_c (pc := 45) (snd_Ri C hQ hr dX4_side_45) ?_
  exact al_0
set_option maxHeartbeats 1000000 in
set_option maxRecDepth 100000 in
theorem mX4_side : aMi yX4_side wsX4_side rmX4_side tX4_side := by
  refine aMi_of (by decide +kernel) rfl rfl (by intro av X post hT; obtain ⟨a, d, th, rm, pm, ic, it, iv, ie, rc, k, tt, w, h, wm, pq, co, pa, fa, ce, ts, ns, es, on, nx, rfl, rfl, hd, rfl, hv, hp⟩ := hT; exact Nat.le_of_ble_eq_true rfl) ?_
  intro Γ ad av X post C hQ hr hT
  obtain ⟨a, d, th, rm, pm, ic, it, iv, ie, rc, k, tt, w, h, wm, pq, co, pa, fa, ce, ts, ns, es, on, nx, rfl, rfl, hd, rfl, hv, hp⟩ := hT
  have OK := okX4_side C hQ hr
  have ht := vt_lt hv
  obtain ⟨e1, e2⟩ := eoN_in tt ht hv
  have hd4 : d = 0 ∨ d = 1 ∨ d = 2 ∨ d = 3 := by omega
  refine go OK [] 60 ?_
  rcases hd4 with rfl | rfl | rfl | rfl
  · refine And.intro (fun q => absurd rfl q) (fun _ => ?_)
    exact ⟨rfl, hp⟩
  · refine And.intro (fun _ => ?_) (fun q => absurd q (show ¬ nI 1 = 0 by decide))
    refine And.intro (fun q => absurd rfl q) (fun _ => ?_)
    exact ⟨rfl, hp⟩
  · refine And.intro (fun _ => ?_) (fun q => absurd q (show ¬ nI 2 = 0 by decide))
    refine And.intro (fun _ => ?_) (fun q => absurd q (show ¬ nI 2 = 1 by decide))
    refine And.intro (fun q => absurd rfl q) (fun _ => ?_)
    rw [show faN tt 2 = 7 - (tt % 6 + 1) from rfl, ← n7 _ (by omega)] at hp
    exact ⟨rfl, hp⟩
  · refine And.intro (fun _ => ?_) (fun q => absurd q (show ¬ nI 3 = 0 by decide))
    refine And.intro (fun _ => ?_) (fun q => absurd q (show ¬ nI 3 = 1 by decide))
    refine And.intro (fun _ => ?_) (fun q => absurd q (show ¬ nI 3 = 2 by decide))
    rw [show faN tt 3 = 7 - eoN tt from rfl, ← n7 _ (by omega)] at hp
    exact ⟨rfl, hp⟩
abbrev tX4_faceTo : aTi := fun av X post => ∃ (a : Int32) (th rm pm ic it iv ie rc : Int32) (k tt w h : Nat) (wm pq co pa fa ce ts ns es on nx : Nat → Int32), av = [.ref 0, .int a] ∧ X = MW th (nI w) (nI h) rm pm (nI (cm w k)) (nI (tt / 6 + 1)) (nI (tt % 6 + 1)) (nI (eoN tt)) ic it iv ie rc wm pq co pa fa ce ts ns es on nx ∧ vt tt = true ∧ (¬ inR a 0 3 → post 0 (MW 1 (nI w) (nI h) rm pm (nI (cm w k)) (nI (tt / 6 + 1)) (nI (tt % 6 + 1)) (nI (eoN tt)) ic it iv ie rc wm pq co pa fa ce ts ns es on nx)) ∧ ∀ d, a = nI d → d < 4 → post (nI (faN tt d)) (MW 0 (nI w) (nI h) rm pm (nI (cm w k)) (nI (tt / 6 + 1)) (nI (tt % 6 + 1)) (nI (eoN tt)) ic it iv ie rc wm pq co pa fa ce ts ns es on nx)
abbrev rmX4_faceTo : Room := { frames := 2, cells := 0, slots := 0, locals := 42 }
theorem inX4_faceTo_X4 : ∀ w ∈ wsX40, w ∈ wsX4_faceTo := by decide +kernel
def tbX4_faceTo (post : Int32 → List aE → Prop) (ad0 : Nat → Nat) : List (Nat × aO) := [(0, oAL 0 1),
  (1, oC (0) 2),
  (2, oPut 3 0 5),
  (5, oIL 1 6),
  (6, oCi tX4_isSide 1 none rmX4_isSide.cells rmX4_isSide.slots rmX4_faceTo.cells rmX4_faceTo.slots 9),
  (9, oIf_eq 20 12),
  (12, oAL 0 13),
  (13, oIL 1 14),
  (14, oCi tX4_side 2 (some 3) rmX4_side.cells rmX4_side.slots rmX4_faceTo.cells rmX4_faceTo.slots 17),
  (17, oGo 25),
  (20, oAL 0 21),
  (21, oC (1) 22),
  (22, oCi tX4_no 2 (some 3) rmX4_no.cells rmX4_no.slots rmX4_faceTo.cells rmX4_faceTo.slots 25),
  (25, oRi post ad0 rmX4_faceTo.cells rmX4_faceTo.slots)]
set_option maxRecDepth 20000 in
theorem okX4_faceTo {Γ : aΓ} {post : Int32 → List aE → Prop} {ad0 : Nat → Nat} {X0 : List aE} (C : FOK Γ cX4_faceTo wsX4_faceTo RX4 2 rmX4_faceTo) (hQ : isQ Γ (va_Qi post (aBk (gK Γ) ad0 X0 (hsz Γ)) (aA (gK Γ) ad0 X0 (hsz Γ))) rmX4_faceTo ad0 X0) (hr : rTy Γ = some .int) : AllS Γ (tbX4_faceTo post ad0) := by
  unfold tbX4_faceTo
  refine al_c (pc := 0) (snd_aload_n C dX4_faceTo_0 rfl) ?_
  refine al_c (pc := 1) (snd_iconst C dX4_faceTo_1 (by decide)) ?_
  refine al_c (pc := 2) (snd_put C dX4_faceTo_2 (ci := 3) (kf := 0) rfl (by decide) inX4_faceTo_X4 tyX4_ok nmX4 rfl rfl rfl (by decide +kernel)) ?_
  refine al_c (pc := 5) (snd_iload_n C dX4_faceTo_5 rfl) ?_
  refine al_c (pc := 6) (snd_Ci C (site_S C dX4_faceTo_6 gX4_faceTo_X4_isSide rfl rfl rfl ⟨by decide +kernel, by decide +kernel, by decide +kernel⟩ ⟨by decide, by decide⟩) mX4_isSide) ?_
  refine al_c (pc := 9) (snd_if_eq C dX4_faceTo_9 (by decide)) ?_
  refine al_c (pc := 12) (snd_aload_n C dX4_faceTo_12 rfl) ?_
  refine al_c (pc := 13) (snd_iload_n C dX4_faceTo_13 rfl) ?_
  refine al_c (pc := 14) (snd_Ci C (site_V C rfl dX4_faceTo_14 gX4_faceTo_X4_side rfl rfl rfl ⟨rfl, by decide +kernel, by decide +kernel, by decide +kernel⟩ ⟨by decide, by decide⟩) mX4_side) ?_
  refine al_c (pc := 17) (snd_goto C dX4_faceTo_17 (by decide)) ?_
  refine al_c (pc := 20) (snd_aload_n C dX4_faceTo_20 rfl) ?_
  refine al_c (pc := 21) (snd_iconst C dX4_faceTo_21 (by decide)) ?_
  refine al_c (pc := 22) (snd_Ci C (site_V C rfl dX4_faceTo_22 gX4_faceTo_X4_no rfl rfl rfl ⟨rfl, by decide +kernel, by decide +kernel, by decide +kernel⟩ ⟨by decide, by decide⟩) mX4_no) ?_
  refine al_c (pc := 25) (snd_Ri C hQ hr dX4_faceTo_25) ?_
  exact al_0
set_option maxHeartbeats 1000000 in
set_option maxRecDepth 100000 in
theorem mX4_faceTo : aMi yX4_faceTo wsX4_faceTo rmX4_faceTo tX4_faceTo := by
  refine aMi_of (by decide +kernel) rfl rfl (by intro av X post hT; obtain ⟨a, th, rm, pm, ic, it, iv, ie, rc, k, tt, w, h, wm, pq, co, pa, fa, ce, ts, ns, es, on, nx, rfl, rfl, hv, h1, h2⟩ := hT; exact Nat.le_of_ble_eq_true rfl) ?_
  intro Γ ad av X post C hQ hr hT
  obtain ⟨a, th, rm, pm, ic, it, iv, ie, rc, k, tt, w, h, wm, pq, co, pa, fa, ce, ts, ns, es, on, nx, rfl, rfl, hv, h1, h2⟩ := hT
  have OK := okX4_faceTo C hQ hr
  refine go OK [] 60 ?_
  refine ⟨_, rfl, fun q => ?_, fun q => ?_⟩
  · refine And.intro (fun q => absurd q (by decide)) (fun _ => ?_)
    obtain ⟨d, rfl, d1, d2⟩ := q
    exact ⟨_, d, _, _, _, _, _, _, _, _, _, _, _, _, _, _, _, _, _, _, _, _, _, _, _, rfl, rfl, by omega, rfl, hv, rfl, h2 d rfl (by omega)⟩
  · refine And.intro (fun _ => ?_) (fun q => absurd rfl q)
    exact ⟨_, _, _, _, _, _, _, _, _, _, _, _, _, _, _, _, _, _, _, _, _, _, _, _, _, _, rfl, rfl, rfl, h1 q⟩
theorem t1_iff : ∀ t, t < 36 → (decide (t / 6 + 1 = 1) && decide (t % 6 + 1 = 2)) = decide (t = 1) := by decide +kernel
abbrev tX4_isAsAtFirst : aTi := fun av X post => ∃ (th rm pm ic it iv ie rc : Int32) (k tt w h : Nat) (wm pq co pa fa ce ts ns es on nx : Nat → Int32), av = [.ref 0] ∧ X = MW th (nI w) (nI h) rm pm (nI (cm w k)) (nI (tt / 6 + 1)) (nI (tt % 6 + 1)) (nI (eoN tt)) ic it iv ie rc wm pq co pa fa ce ts ns es on nx ∧ tt < 36 ∧ post (if tt = 1 then 1 else 0) (MW 0 (nI w) (nI h) rm pm (nI (cm w k)) (nI (tt / 6 + 1)) (nI (tt % 6 + 1)) (nI (eoN tt)) ic it iv ie rc wm pq co pa fa ce ts ns es on nx)
abbrev rmX4_isAsAtFirst : Room := { frames := 0, cells := 0, slots := 0, locals := 0 }
theorem inX4_isAsAtFirst_X4 : ∀ w ∈ wsX40, w ∈ wsX4_isAsAtFirst := by decide +kernel
def tbX4_isAsAtFirst (post : Int32 → List aE → Prop) (ad0 : Nat → Nat) : List (Nat × aO) := [(0, oAL 0 1),
  (1, oC (0) 2),
  (2, oPut 3 0 5),
  (5, oAL 0 6),
  (6, oGet 3 10 9),
  (9, oC (1) 10),
  (10, oIc_ne 25 13),
  (13, oAL 0 14),
  (14, oGet 3 11 17),
  (17, oC (2) 18),
  (18, oIc_ne 25 21),
  (21, oC (1) 22),
  (22, oGo 26),
  (25, oC (0) 26),
  (26, oRz post ad0 rmX4_isAsAtFirst.cells rmX4_isAsAtFirst.slots)]
set_option maxRecDepth 20000 in
theorem okX4_isAsAtFirst {Γ : aΓ} {post : Int32 → List aE → Prop} {ad0 : Nat → Nat} {X0 : List aE} (C : FOK Γ cX4_isAsAtFirst wsX4_isAsAtFirst RX4 1 rmX4_isAsAtFirst) (hQ : isQ Γ (va_Qi post (aBk (gK Γ) ad0 X0 (hsz Γ)) (aA (gK Γ) ad0 X0 (hsz Γ))) rmX4_isAsAtFirst ad0 X0) (hr : rTy Γ = some .boolean) : AllS Γ (tbX4_isAsAtFirst post ad0) := by
  unfold tbX4_isAsAtFirst
  refine al_c (pc := 0) (snd_aload_n C dX4_isAsAtFirst_0 rfl) ?_
  refine al_c (pc := 1) (snd_iconst C dX4_isAsAtFirst_1 (by decide)) ?_
  refine al_c (pc := 2) (snd_put C dX4_isAsAtFirst_2 (ci := 3) (kf := 0) rfl (by decide) inX4_isAsAtFirst_X4 tyX4_ok nmX4 rfl rfl rfl (by decide +kernel)) ?_
  refine al_c (pc := 5) (snd_aload_n C dX4_isAsAtFirst_5 rfl) ?_
  refine al_c (pc := 6) (snd_get C dX4_isAsAtFirst_6 (ci := 3) (kf := 10) rfl (by decide) inX4_isAsAtFirst_X4 rfl (by decide +kernel)) ?_
  refine al_c (pc := 9) (snd_iconst C dX4_isAsAtFirst_9 (by decide)) ?_
  refine al_c (pc := 10) (snd_icmp_ne C dX4_isAsAtFirst_10 (by decide)) ?_
  refine al_c (pc := 13) (snd_aload_n C dX4_isAsAtFirst_13 rfl) ?_
  refine al_c (pc := 14) (snd_get C dX4_isAsAtFirst_14 (ci := 3) (kf := 11) rfl (by decide) inX4_isAsAtFirst_X4 rfl (by decide +kernel)) ?_
  refine al_c (pc := 17) (snd_iconst C dX4_isAsAtFirst_17 (by decide)) ?_
  refine al_c (pc := 18) (snd_icmp_ne C dX4_isAsAtFirst_18 (by decide)) ?_
  refine al_c (pc := 21) (snd_iconst C dX4_isAsAtFirst_21 (by decide)) ?_
  refine al_c (pc := 22) (snd_goto C dX4_isAsAtFirst_22 (by decide)) ?_
  refine al_c (pc := 25) (snd_iconst C dX4_isAsAtFirst_25 (by decide)) ?_
  refine al_c (pc := 26) (snd_Rz C hQ hr dX4_isAsAtFirst_26) ?_
  exact al_0
set_option maxHeartbeats 1000000 in
set_option maxRecDepth 100000 in
theorem mX4_isAsAtFirst : aMi yX4_isAsAtFirst wsX4_isAsAtFirst rmX4_isAsAtFirst tX4_isAsAtFirst := by
  refine aMz_of (by decide +kernel) rfl rfl (by intro av X post hT; obtain ⟨th, rm, pm, ic, it, iv, ie, rc, k, tt, w, h, wm, pq, co, pa, fa, ce, ts, ns, es, on, nx, rfl, rfl, ht, hp⟩ := hT; exact Nat.le_of_ble_eq_true rfl) ?_
  intro Γ ad av X post C hQ hr hT
  obtain ⟨th, rm, pm, ic, it, iv, ie, rc, k, tt, w, h, wm, pq, co, pa, fa, ce, ts, ns, es, on, nx, rfl, rfl, ht, hp⟩ := hT
  have OK := okX4_isAsAtFirst C hQ hr
  have e := t1_iff tt ht
  refine go OK [] 60 ?_
  refine And.intro (fun q => ?_) (fun q => ?_)
  · rw [if_neg (fun z => q (by rw [z]; rfl))] at hp
    exact ⟨Or.inl rfl, rfl, hp⟩
  have q1 := (eqN (b := 1) (by omega) (by omega)).mp q
  refine And.intro (fun q => ?_) (fun q => ?_)
  · rw [if_neg (fun z => q (by rw [z]; rfl))] at hp
    exact ⟨Or.inl rfl, rfl, hp⟩
  have q2 := (eqN (b := 2) (by omega) (by omega)).mp q
  rw [decide_eq_true q1, decide_eq_true q2] at e
  rw [if_pos (of_decide_eq_true e.symm)] at hp
  exact ⟨Or.inr rfl, rfl, hp⟩
abbrev tX4_colourOf : aTi := fun av X post => ∃ (a : Int32) (th rm pm ic it iv ie rc : Int32) (k tt w h : Nat) (wm pq co pa fa ce ts ns es on nx : Nat → Int32), av = [.ref 0, .int a] ∧ X = MW th (nI w) (nI h) rm pm (nI (cm w k)) (nI (tt / 6 + 1)) (nI (tt % 6 + 1)) (nI (eoN tt)) ic it iv ie rc wm pq co pa fa ce ts ns es on nx ∧ (¬ inR a 1 6 → post 0 (MW 1 (nI w) (nI h) rm pm (nI (cm w k)) (nI (tt / 6 + 1)) (nI (tt % 6 + 1)) (nI (eoN tt)) ic it iv ie rc wm pq co pa fa ce ts ns es on nx)) ∧ ∀ f, a = nI f → 1 ≤ f → f ≤ 6 → post (co f) (MW 0 (nI w) (nI h) rm pm (nI (cm w k)) (nI (tt / 6 + 1)) (nI (tt % 6 + 1)) (nI (eoN tt)) ic it iv ie rc wm pq co pa fa ce ts ns es on nx)
abbrev rmX4_colourOf : Room := { frames := 2, cells := 0, slots := 0, locals := 42 }
theorem inX4_colourOf_X4 : ∀ w ∈ wsX40, w ∈ wsX4_colourOf := by decide +kernel
def tbX4_colourOf (post : Int32 → List aE → Prop) (ad0 : Nat → Nat) : List (Nat × aO) := [(0, oAL 0 1),
  (1, oC (0) 2),
  (2, oPut 3 0 5),
  (5, oIL 1 6),
  (6, oCi tX4_isFace 1 none rmX4_isFace.cells rmX4_isFace.slots rmX4_colourOf.cells rmX4_colourOf.slots 9),
  (9, oIf_eq 21 12),
  (12, oAL 0 13),
  (13, oGet 3 5 16),
  (16, oIL 1 17),
  (17, oIald 18),
  (18, oGo 26),
  (21, oAL 0 22),
  (22, oC (1) 23),
  (23, oCi tX4_no 2 (some 3) rmX4_no.cells rmX4_no.slots rmX4_colourOf.cells rmX4_colourOf.slots 26),
  (26, oRi post ad0 rmX4_colourOf.cells rmX4_colourOf.slots)]
set_option maxRecDepth 20000 in
theorem okX4_colourOf {Γ : aΓ} {post : Int32 → List aE → Prop} {ad0 : Nat → Nat} {X0 : List aE} (C : FOK Γ cX4_colourOf wsX4_colourOf RX4 2 rmX4_colourOf) (hQ : isQ Γ (va_Qi post (aBk (gK Γ) ad0 X0 (hsz Γ)) (aA (gK Γ) ad0 X0 (hsz Γ))) rmX4_colourOf ad0 X0) (hr : rTy Γ = some .int) : AllS Γ (tbX4_colourOf post ad0) := by
  unfold tbX4_colourOf
  refine al_c (pc := 0) (snd_aload_n C dX4_colourOf_0 rfl) ?_
  refine al_c (pc := 1) (snd_iconst C dX4_colourOf_1 (by decide)) ?_
  refine al_c (pc := 2) (snd_put C dX4_colourOf_2 (ci := 3) (kf := 0) rfl (by decide) inX4_colourOf_X4 tyX4_ok nmX4 rfl rfl rfl (by decide +kernel)) ?_
  refine al_c (pc := 5) (snd_iload_n C dX4_colourOf_5 rfl) ?_
  refine al_c (pc := 6) (snd_Ci C (site_S C dX4_colourOf_6 gX4_colourOf_X4_isFace rfl rfl rfl ⟨by decide +kernel, by decide +kernel, by decide +kernel⟩ ⟨by decide, by decide⟩) mX4_isFace) ?_
  refine al_c (pc := 9) (snd_if_eq C dX4_colourOf_9 (by decide)) ?_
  refine al_c (pc := 12) (snd_aload_n C dX4_colourOf_12 rfl) ?_
  refine al_c (pc := 13) (snd_get C dX4_colourOf_13 (ci := 3) (kf := 5) rfl (by decide) inX4_colourOf_X4 rfl (by decide +kernel)) ?_
  refine al_c (pc := 16) (snd_iload_n C dX4_colourOf_16 rfl) ?_
  refine al_c (pc := 17) (snd_iaload C dX4_colourOf_17) ?_
  refine al_c (pc := 18) (snd_goto C dX4_colourOf_18 (by decide)) ?_
  refine al_c (pc := 21) (snd_aload_n C dX4_colourOf_21 rfl) ?_
  refine al_c (pc := 22) (snd_iconst C dX4_colourOf_22 (by decide)) ?_
  refine al_c (pc := 23) (snd_Ci C (site_V C rfl dX4_colourOf_23 gX4_colourOf_X4_no rfl rfl rfl ⟨rfl, by decide +kernel, by decide +kernel, by decide +kernel⟩ ⟨by decide, by decide⟩) mX4_no) ?_
  refine al_c (pc := 26) (snd_Ri C hQ hr dX4_colourOf_26) ?_
  exact al_0
set_option maxHeartbeats 1000000 in
set_option maxRecDepth 100000 in
theorem mX4_colourOf : aMi yX4_colourOf wsX4_colourOf rmX4_colourOf tX4_colourOf := by
  refine aMi_of (by decide +kernel) rfl rfl (by intro av X post hT; obtain ⟨a, th, rm, pm, ic, it, iv, ie, rc, k, tt, w, h, wm, pq, co, pa, fa, ce, ts, ns, es, on, nx, rfl, rfl, h1, h2⟩ := hT; exact Nat.le_of_ble_eq_true rfl) ?_
  intro Γ ad av X post C hQ hr hT
  obtain ⟨a, th, rm, pm, ic, it, iv, ie, rc, k, tt, w, h, wm, pq, co, pa, fa, ce, ts, ns, es, on, nx, rfl, rfl, h1, h2⟩ := hT
  have OK := okX4_colourOf C hQ hr
  refine go OK [] 60 ?_
  refine ⟨_, rfl, fun q => ?_, fun q => ?_⟩
  · refine And.intro (fun q => absurd q (by decide)) (fun _ => ?_)
    obtain ⟨f, rfl, f1, f2⟩ := q
    refine ⟨inS (by omega : f < 7) (by decide), ?_⟩
    rw [nI_clampS (by omega)]
    exact ⟨rfl, h2 f rfl f1 f2⟩
  · refine And.intro (fun _ => ?_) (fun q => absurd rfl q)
    exact ⟨_, _, _, _, _, _, _, _, _, _, _, _, _, _, _, _, _, _, _, _, _, _, _, _, _, _, rfl, rfl, rfl, h1 q⟩
abbrev tX4_paintOf : aTi := fun av X post => ∃ (a : Int32) (th rm pm ic it iv ie rc : Int32) (k tt w h : Nat) (wm pq co pa fa ce ts ns es on nx : Nat → Int32), av = [.ref 0, .int a] ∧ X = MW th (nI w) (nI h) rm pm (nI (cm w k)) (nI (tt / 6 + 1)) (nI (tt % 6 + 1)) (nI (eoN tt)) ic it iv ie rc wm pq co pa fa ce ts ns es on nx ∧ (¬ inR a 1 6 → post 0 (MW 1 (nI w) (nI h) rm pm (nI (cm w k)) (nI (tt / 6 + 1)) (nI (tt % 6 + 1)) (nI (eoN tt)) ic it iv ie rc wm pq co pa fa ce ts ns es on nx)) ∧ ∀ f, a = nI f → 1 ≤ f → f ≤ 6 → post (pa f) (MW 0 (nI w) (nI h) rm pm (nI (cm w k)) (nI (tt / 6 + 1)) (nI (tt % 6 + 1)) (nI (eoN tt)) ic it iv ie rc wm pq co pa fa ce ts ns es on nx)
abbrev rmX4_paintOf : Room := { frames := 2, cells := 0, slots := 0, locals := 42 }
theorem inX4_paintOf_X4 : ∀ w ∈ wsX40, w ∈ wsX4_paintOf := by decide +kernel
def tbX4_paintOf (post : Int32 → List aE → Prop) (ad0 : Nat → Nat) : List (Nat × aO) := [(0, oAL 0 1),
  (1, oC (0) 2),
  (2, oPut 3 0 5),
  (5, oIL 1 6),
  (6, oCi tX4_isFace 1 none rmX4_isFace.cells rmX4_isFace.slots rmX4_paintOf.cells rmX4_paintOf.slots 9),
  (9, oIf_eq 21 12),
  (12, oAL 0 13),
  (13, oGet 3 6 16),
  (16, oIL 1 17),
  (17, oIald 18),
  (18, oGo 26),
  (21, oAL 0 22),
  (22, oC (1) 23),
  (23, oCi tX4_no 2 (some 3) rmX4_no.cells rmX4_no.slots rmX4_paintOf.cells rmX4_paintOf.slots 26),
  (26, oRi post ad0 rmX4_paintOf.cells rmX4_paintOf.slots)]
set_option maxRecDepth 20000 in
theorem okX4_paintOf {Γ : aΓ} {post : Int32 → List aE → Prop} {ad0 : Nat → Nat} {X0 : List aE} (C : FOK Γ cX4_paintOf wsX4_paintOf RX4 2 rmX4_paintOf) (hQ : isQ Γ (va_Qi post (aBk (gK Γ) ad0 X0 (hsz Γ)) (aA (gK Γ) ad0 X0 (hsz Γ))) rmX4_paintOf ad0 X0) (hr : rTy Γ = some .int) : AllS Γ (tbX4_paintOf post ad0) := by
  unfold tbX4_paintOf
  refine al_c (pc := 0) (snd_aload_n C dX4_paintOf_0 rfl) ?_
  refine al_c (pc := 1) (snd_iconst C dX4_paintOf_1 (by decide)) ?_
  refine al_c (pc := 2) (snd_put C dX4_paintOf_2 (ci := 3) (kf := 0) rfl (by decide) inX4_paintOf_X4 tyX4_ok nmX4 rfl rfl rfl (by decide +kernel)) ?_
  refine al_c (pc := 5) (snd_iload_n C dX4_paintOf_5 rfl) ?_
  refine al_c (pc := 6) (snd_Ci C (site_S C dX4_paintOf_6 gX4_paintOf_X4_isFace rfl rfl rfl ⟨by decide +kernel, by decide +kernel, by decide +kernel⟩ ⟨by decide, by decide⟩) mX4_isFace) ?_
  refine al_c (pc := 9) (snd_if_eq C dX4_paintOf_9 (by decide)) ?_
  refine al_c (pc := 12) (snd_aload_n C dX4_paintOf_12 rfl) ?_
  refine al_c (pc := 13) (snd_get C dX4_paintOf_13 (ci := 3) (kf := 6) rfl (by decide) inX4_paintOf_X4 rfl (by decide +kernel)) ?_
  refine al_c (pc := 16) (snd_iload_n C dX4_paintOf_16 rfl) ?_
  refine al_c (pc := 17) (snd_iaload C dX4_paintOf_17) ?_
  refine al_c (pc := 18) (snd_goto C dX4_paintOf_18 (by decide)) ?_
  refine al_c (pc := 21) (snd_aload_n C dX4_paintOf_21 rfl) ?_
  refine al_c (pc := 22) (snd_iconst C dX4_paintOf_22 (by decide)) ?_
  refine al_c (pc := 23) (snd_Ci C (site_V C rfl dX4_paintOf_23 gX4_paintOf_X4_no rfl rfl rfl ⟨rfl, by decide +kernel, by decide +kernel, by decide +kernel⟩ ⟨by decide, by decide⟩) mX4_no) ?_
  refine al_c (pc := 26) (snd_Ri C hQ hr dX4_paintOf_26) ?_
  exact al_0
set_option maxHeartbeats 1000000 in
set_option maxRecDepth 100000 in
theorem mX4_paintOf : aMi yX4_paintOf wsX4_paintOf rmX4_paintOf tX4_paintOf := by
  refine aMi_of (by decide +kernel) rfl rfl (by intro av X post hT; obtain ⟨a, th, rm, pm, ic, it, iv, ie, rc, k, tt, w, h, wm, pq, co, pa, fa, ce, ts, ns, es, on, nx, rfl, rfl, h1, h2⟩ := hT; exact Nat.le_of_ble_eq_true rfl) ?_
  intro Γ ad av X post C hQ hr hT
  obtain ⟨a, th, rm, pm, ic, it, iv, ie, rc, k, tt, w, h, wm, pq, co, pa, fa, ce, ts, ns, es, on, nx, rfl, rfl, h1, h2⟩ := hT
  have OK := okX4_paintOf C hQ hr
  refine go OK [] 60 ?_
  refine ⟨_, rfl, fun q => ?_, fun q => ?_⟩
  · refine And.intro (fun q => absurd q (by decide)) (fun _ => ?_)
    obtain ⟨f, rfl, f1, f2⟩ := q
    refine ⟨inS (by omega : f < 7) (by decide), ?_⟩
    rw [nI_clampS (by omega)]
    exact ⟨rfl, h2 f rfl f1 f2⟩
  · refine And.intro (fun _ => ?_) (fun q => absurd rfl q)
    exact ⟨_, _, _, _, _, _, _, _, _, _, _, _, _, _, _, _, _, _, _, _, _, _, _, _, _, _, rfl, rfl, rfl, h1 q⟩
abbrev tX4_isWall : aTi := fun av X post => ∃ (a b : Int32) (th rm pm ic it iv ie rc : Int32) (k tt w h : Nat) (wm pq co pa fa ce ts ns es on nx : Nat → Int32), av = [.ref 0, .int a, .int b] ∧ X = MW th (nI w) (nI h) rm pm (nI (cm w k)) (nI (tt / 6 + 1)) (nI (tt % 6 + 1)) (nI (eoN tt)) ic it iv ie rc wm pq co pa fa ce ts ns es on nx ∧ 2 ≤ w ∧ w ≤ 7 ∧ 2 ≤ h ∧ h ≤ 7 ∧ (∀ c, c < 49 → wm c = 0 ∨ wm c = 1) ∧ (¬ inB a b w h → post 0 (MW 1 (nI w) (nI h) rm pm (nI (cm w k)) (nI (tt / 6 + 1)) (nI (tt % 6 + 1)) (nI (eoN tt)) ic it iv ie rc wm pq co pa fa ce ts ns es on nx)) ∧ ∀ i j, a = nI i → b = nI j → i < w → j < h → post (if wm (w * j + i) = 0 then 0 else 1) (MW 0 (nI w) (nI h) rm pm (nI (cm w k)) (nI (tt / 6 + 1)) (nI (tt % 6 + 1)) (nI (eoN tt)) ic it iv ie rc wm pq co pa fa ce ts ns es on nx)
abbrev rmX4_isWall : Room := { frames := 2, cells := 0, slots := 0, locals := 44 }
theorem inX4_isWall_X4 : ∀ w ∈ wsX40, w ∈ wsX4_isWall := by decide +kernel
def tbX4_isWall (post : Int32 → List aE → Prop) (ad0 : Nat → Nat) : List (Nat × aO) := [(0, oAL 0 1),
  (1, oC (0) 2),
  (2, oPut 3 0 5),
  (5, oAL 0 6),
  (6, oIL 1 7),
  (7, oIL 2 8),
  (8, oCi tX4_isCell 3 (some 3) rmX4_isCell.cells rmX4_isCell.slots rmX4_isWall.cells rmX4_isWall.slots 11),
  (11, oIf_eq 30 14),
  (14, oAL 0 15),
  (15, oGet 3 3 18),
  (18, oAL 0 19),
  (19, oGet 3 1 22),
  (22, oIL 2 23),
  (23, oImul 24),
  (24, oIL 1 25),
  (25, oIadd 26),
  (26, oZald 27),
  (27, oGo 35),
  (30, oAL 0 31),
  (31, oC (1) 32),
  (32, oCi tX4_isNot 2 (some 3) rmX4_isNot.cells rmX4_isNot.slots rmX4_isWall.cells rmX4_isWall.slots 35),
  (35, oRz post ad0 rmX4_isWall.cells rmX4_isWall.slots)]
set_option maxRecDepth 20000 in
theorem okX4_isWall {Γ : aΓ} {post : Int32 → List aE → Prop} {ad0 : Nat → Nat} {X0 : List aE} (C : FOK Γ cX4_isWall wsX4_isWall RX4 3 rmX4_isWall) (hQ : isQ Γ (va_Qi post (aBk (gK Γ) ad0 X0 (hsz Γ)) (aA (gK Γ) ad0 X0 (hsz Γ))) rmX4_isWall ad0 X0) (hr : rTy Γ = some .boolean) : AllS Γ (tbX4_isWall post ad0) := by
  unfold tbX4_isWall
  refine al_c (pc := 0) (snd_aload_n C dX4_isWall_0 rfl) ?_
  refine al_c (pc := 1) (snd_iconst C dX4_isWall_1 (by decide)) ?_
  refine al_c (pc := 2) (snd_put C dX4_isWall_2 (ci := 3) (kf := 0) rfl (by decide) inX4_isWall_X4 tyX4_ok nmX4 rfl rfl rfl (by decide +kernel)) ?_
  refine al_c (pc := 5) (snd_aload_n C dX4_isWall_5 rfl) ?_
  refine al_c (pc := 6) (snd_iload_n C dX4_isWall_6 rfl) ?_
  refine al_c (pc := 7) (snd_iload_n C dX4_isWall_7 rfl) ?_
  refine al_c (pc := 8) (snd_Ci C (site_V C rfl dX4_isWall_8 gX4_isWall_X4_isCell rfl rfl rfl ⟨rfl, by decide +kernel, by decide +kernel, by decide +kernel⟩ ⟨by decide, by decide⟩) mX4_isCell) ?_
  refine al_c (pc := 11) (snd_if_eq C dX4_isWall_11 (by decide)) ?_
  refine al_c (pc := 14) (snd_aload_n C dX4_isWall_14 rfl) ?_
  refine al_c (pc := 15) (snd_get C dX4_isWall_15 (ci := 3) (kf := 3) rfl (by decide) inX4_isWall_X4 rfl (by decide +kernel)) ?_
  refine al_c (pc := 18) (snd_aload_n C dX4_isWall_18 rfl) ?_
  refine al_c (pc := 19) (snd_get C dX4_isWall_19 (ci := 3) (kf := 1) rfl (by decide) inX4_isWall_X4 rfl (by decide +kernel)) ?_
  refine al_c (pc := 22) (snd_iload_n C dX4_isWall_22 rfl) ?_
  refine al_c (pc := 23) (snd_imul C dX4_isWall_23) ?_
  refine al_c (pc := 24) (snd_iload_n C dX4_isWall_24 rfl) ?_
  refine al_c (pc := 25) (snd_iadd C dX4_isWall_25) ?_
  refine al_c (pc := 26) (snd_baload C dX4_isWall_26) ?_
  refine al_c (pc := 27) (snd_goto C dX4_isWall_27 (by decide)) ?_
  refine al_c (pc := 30) (snd_aload_n C dX4_isWall_30 rfl) ?_
  refine al_c (pc := 31) (snd_iconst C dX4_isWall_31 (by decide)) ?_
  refine al_c (pc := 32) (snd_Ci C (site_V C rfl dX4_isWall_32 gX4_isWall_X4_isNot rfl rfl rfl ⟨rfl, by decide +kernel, by decide +kernel, by decide +kernel⟩ ⟨by decide, by decide⟩) mX4_isNot) ?_
  refine al_c (pc := 35) (snd_Rz C hQ hr dX4_isWall_35) ?_
  exact al_0
set_option maxHeartbeats 1000000 in
set_option maxRecDepth 100000 in
theorem mX4_isWall : aMi yX4_isWall wsX4_isWall rmX4_isWall tX4_isWall := by
  refine aMz_of (by decide +kernel) rfl rfl (by intro av X post hT; obtain ⟨a, b, th, rm, pm, ic, it, iv, ie, rc, k, tt, w, h, wm, pq, co, pa, fa, ce, ts, ns, es, on, nx, rfl, rfl, hw2, hw, hh2, hh, hz, h1, h2⟩ := hT; exact Nat.le_of_ble_eq_true rfl) ?_
  intro Γ ad av X post C hQ hr hT
  obtain ⟨a, b, th, rm, pm, ic, it, iv, ie, rc, k, tt, w, h, wm, pq, co, pa, fa, ce, ts, ns, es, on, nx, rfl, rfl, hw2, hw, hh2, hh, hz, h1, h2⟩ := hT
  have OK := okX4_isWall C hQ hr
  refine go OK [] 60 ?_
  refine ⟨_, _, _, _, _, _, _, _, _, _, _, _, _, _, _, _, _, _, _, _, _, _, _, _, _, rfl, rfl, hw2, hw, hh2, hh, fun q => ?_, fun q => ?_⟩
  · refine And.intro (fun q => absurd q (by decide)) (fun _ => ?_)
    obtain ⟨i, j, rfl, rfl, hi, hj⟩ := q
    have h49 := wj_lt (i := i + 1) hw hh (by omega) hj
    have hp := h2 i j rfl rfl hi hj
    refine ⟨(show vp_in (nI w * nI j + nI i) 49 by rw [wI]; exact inS (by omega : w * j + i < 49) (by decide)), ?_⟩
    rw [wI, nI_clampS (by omega)]
    refine ⟨hz _ (by omega), rfl, ?_⟩
    rcases hz (w * j + i) (by omega) with z | z
    · rw [if_pos z] at hp
      rw [z]
      exact hp
    · rw [if_neg (by rw [z]; decide)] at hp
      rw [z]
      exact hp
  · refine And.intro (fun _ => ?_) (fun q => absurd rfl q)
    exact ⟨_, _, _, _, _, _, _, _, _, _, _, _, _, _, _, _, _, _, _, _, _, _, _, _, _, _, rfl, rfl, Or.inl rfl, rfl, h1 q⟩
abbrev tX4_printAt : aTi := fun av X post => ∃ (a b : Int32) (th rm pm ic it iv ie rc : Int32) (k tt w h : Nat) (wm pq co pa fa ce ts ns es on nx : Nat → Int32), av = [.ref 0, .int a, .int b] ∧ X = MW th (nI w) (nI h) rm pm (nI (cm w k)) (nI (tt / 6 + 1)) (nI (tt % 6 + 1)) (nI (eoN tt)) ic it iv ie rc wm pq co pa fa ce ts ns es on nx ∧ 2 ≤ w ∧ w ≤ 7 ∧ 2 ≤ h ∧ h ≤ 7 ∧ (¬ inB a b w h → post 0 (MW 1 (nI w) (nI h) rm pm (nI (cm w k)) (nI (tt / 6 + 1)) (nI (tt % 6 + 1)) (nI (eoN tt)) ic it iv ie rc wm pq co pa fa ce ts ns es on nx)) ∧ ∀ i j, a = nI i → b = nI j → i < w → j < h → post (pq (w * j + i)) (MW 0 (nI w) (nI h) rm pm (nI (cm w k)) (nI (tt / 6 + 1)) (nI (tt % 6 + 1)) (nI (eoN tt)) ic it iv ie rc wm pq co pa fa ce ts ns es on nx)
abbrev rmX4_printAt : Room := { frames := 2, cells := 0, slots := 0, locals := 44 }
theorem inX4_printAt_X4 : ∀ w ∈ wsX40, w ∈ wsX4_printAt := by decide +kernel
def tbX4_printAt (post : Int32 → List aE → Prop) (ad0 : Nat → Nat) : List (Nat × aO) := [(0, oAL 0 1),
  (1, oC (0) 2),
  (2, oPut 3 0 5),
  (5, oAL 0 6),
  (6, oIL 1 7),
  (7, oIL 2 8),
  (8, oCi tX4_isCell 3 (some 3) rmX4_isCell.cells rmX4_isCell.slots rmX4_printAt.cells rmX4_printAt.slots 11),
  (11, oIf_eq 30 14),
  (14, oAL 0 15),
  (15, oGet 3 4 18),
  (18, oAL 0 19),
  (19, oGet 3 1 22),
  (22, oIL 2 23),
  (23, oImul 24),
  (24, oIL 1 25),
  (25, oIadd 26),
  (26, oIald 27),
  (27, oGo 35),
  (30, oAL 0 31),
  (31, oC (1) 32),
  (32, oCi tX4_no 2 (some 3) rmX4_no.cells rmX4_no.slots rmX4_printAt.cells rmX4_printAt.slots 35),
  (35, oRi post ad0 rmX4_printAt.cells rmX4_printAt.slots)]
set_option maxRecDepth 20000 in
theorem okX4_printAt {Γ : aΓ} {post : Int32 → List aE → Prop} {ad0 : Nat → Nat} {X0 : List aE} (C : FOK Γ cX4_printAt wsX4_printAt RX4 3 rmX4_printAt) (hQ : isQ Γ (va_Qi post (aBk (gK Γ) ad0 X0 (hsz Γ)) (aA (gK Γ) ad0 X0 (hsz Γ))) rmX4_printAt ad0 X0) (hr : rTy Γ = some .int) : AllS Γ (tbX4_printAt post ad0) := by
  unfold tbX4_printAt
  refine al_c (pc := 0) (snd_aload_n C dX4_printAt_0 rfl) ?_
  refine al_c (pc := 1) (snd_iconst C dX4_printAt_1 (by decide)) ?_
  refine al_c (pc := 2) (snd_put C dX4_printAt_2 (ci := 3) (kf := 0) rfl (by decide) inX4_printAt_X4 tyX4_ok nmX4 rfl rfl rfl (by decide +kernel)) ?_
  refine al_c (pc := 5) (snd_aload_n C dX4_printAt_5 rfl) ?_
  refine al_c (pc := 6) (snd_iload_n C dX4_printAt_6 rfl) ?_
  refine al_c (pc := 7) (snd_iload_n C dX4_printAt_7 rfl) ?_
  refine al_c (pc := 8) (snd_Ci C (site_V C rfl dX4_printAt_8 gX4_printAt_X4_isCell rfl rfl rfl ⟨rfl, by decide +kernel, by decide +kernel, by decide +kernel⟩ ⟨by decide, by decide⟩) mX4_isCell) ?_
  refine al_c (pc := 11) (snd_if_eq C dX4_printAt_11 (by decide)) ?_
  refine al_c (pc := 14) (snd_aload_n C dX4_printAt_14 rfl) ?_
  refine al_c (pc := 15) (snd_get C dX4_printAt_15 (ci := 3) (kf := 4) rfl (by decide) inX4_printAt_X4 rfl (by decide +kernel)) ?_
  refine al_c (pc := 18) (snd_aload_n C dX4_printAt_18 rfl) ?_
  refine al_c (pc := 19) (snd_get C dX4_printAt_19 (ci := 3) (kf := 1) rfl (by decide) inX4_printAt_X4 rfl (by decide +kernel)) ?_
  refine al_c (pc := 22) (snd_iload_n C dX4_printAt_22 rfl) ?_
  refine al_c (pc := 23) (snd_imul C dX4_printAt_23) ?_
  refine al_c (pc := 24) (snd_iload_n C dX4_printAt_24 rfl) ?_
  refine al_c (pc := 25) (snd_iadd C dX4_printAt_25) ?_
  refine al_c (pc := 26) (snd_iaload C dX4_printAt_26) ?_
  refine al_c (pc := 27) (snd_goto C dX4_printAt_27 (by decide)) ?_
  refine al_c (pc := 30) (snd_aload_n C dX4_printAt_30 rfl) ?_
  refine al_c (pc := 31) (snd_iconst C dX4_printAt_31 (by decide)) ?_
  refine al_c (pc := 32) (snd_Ci C (site_V C rfl dX4_printAt_32 gX4_printAt_X4_no rfl rfl rfl ⟨rfl, by decide +kernel, by decide +kernel, by decide +kernel⟩ ⟨by decide, by decide⟩) mX4_no) ?_
  refine al_c (pc := 35) (snd_Ri C hQ hr dX4_printAt_35) ?_
  exact al_0
set_option maxHeartbeats 1000000 in
set_option maxRecDepth 100000 in
theorem mX4_printAt : aMi yX4_printAt wsX4_printAt rmX4_printAt tX4_printAt := by
  refine aMi_of (by decide +kernel) rfl rfl (by intro av X post hT; obtain ⟨a, b, th, rm, pm, ic, it, iv, ie, rc, k, tt, w, h, wm, pq, co, pa, fa, ce, ts, ns, es, on, nx, rfl, rfl, hw2, hw, hh2, hh, h1, h2⟩ := hT; exact Nat.le_of_ble_eq_true rfl) ?_
  intro Γ ad av X post C hQ hr hT
  obtain ⟨a, b, th, rm, pm, ic, it, iv, ie, rc, k, tt, w, h, wm, pq, co, pa, fa, ce, ts, ns, es, on, nx, rfl, rfl, hw2, hw, hh2, hh, h1, h2⟩ := hT
  have OK := okX4_printAt C hQ hr
  refine go OK [] 60 ?_
  refine ⟨_, _, _, _, _, _, _, _, _, _, _, _, _, _, _, _, _, _, _, _, _, _, _, _, _, rfl, rfl, hw2, hw, hh2, hh, fun q => ?_, fun q => ?_⟩
  · refine And.intro (fun q => absurd q (by decide)) (fun _ => ?_)
    obtain ⟨i, j, rfl, rfl, hi, hj⟩ := q
    have h49 := wj_lt (i := i + 1) hw hh (by omega) hj
    refine ⟨(show vp_in (nI w * nI j + nI i) 49 by rw [wI]; exact inS (by omega : w * j + i < 49) (by decide)), ?_⟩
    rw [wI, nI_clampS (by omega)]
    exact ⟨rfl, h2 i j rfl rfl hi hj⟩
  · refine And.intro (fun _ => ?_) (fun q => absurd rfl q)
    exact ⟨_, _, _, _, _, _, _, _, _, _, _, _, _, _, _, _, _, _, _, _, _, _, _, _, _, _, rfl, rfl, rfl, h1 q⟩
abbrev tX4_canRoll : aTi := fun av X post => ∃ (a : Int32) (wl : Nat → Int32) (th rm pm ic it iv ie rc : Int32) (k tt w h : Nat) (wm pq co pa fa ce ts ns es on nx : Nat → Int32), av = [.ref 0, .int a] ∧ X = MW th (nI w) (nI h) rm pm (nI (cm w k)) (nI (tt / 6 + 1)) (nI (tt % 6 + 1)) (nI (eoN tt)) ic it iv ie rc wm pq co pa fa ce ts ns es on nx ∧ 2 ≤ w ∧ w ≤ 7 ∧ 2 ≤ h ∧ h ≤ 7 ∧ k % 7 < w ∧ k / 7 < h ∧ RW w h wl wm ∧ (¬ inR a 0 3 → post 0 (MW 1 (nI w) (nI h) rm pm (nI (cm w k)) (nI (tt / 6 + 1)) (nI (tt % 6 + 1)) (nI (eoN tt)) ic it iv ie rc wm pq co pa fa ce ts ns es on nx)) ∧ ∀ d, a = nI d → d < 4 → post (if (nxt w h wl k d).isSome then 1 else 0) (MW 0 (nI w) (nI h) rm pm (nI (cm w k)) (nI (tt / 6 + 1)) (nI (tt % 6 + 1)) (nI (eoN tt)) ic it iv ie rc wm pq co pa fa ce ts ns es on nx)
abbrev rmX4_canRoll : Room := { frames := 3, cells := 0, slots := 0, locals := 68 }
theorem inX4_canRoll_X4 : ∀ w ∈ wsX40, w ∈ wsX4_canRoll := by decide +kernel
def tbX4_canRoll (post : Int32 → List aE → Prop) (ad0 : Nat → Nat) : List (Nat × aO) := [(0, oAL 0 1),
  (1, oC (0) 2),
  (2, oPut 3 0 5),
  (5, oIL 1 6),
  (6, oCi tX4_isSide 1 none rmX4_isSide.cells rmX4_isSide.slots rmX4_canRoll.cells rmX4_canRoll.slots 9),
  (9, oIf_eq 33 12),
  (12, oAL 0 13),
  (13, oAL 0 14),
  (14, oGet 3 9 17),
  (17, oIL 1 18),
  (18, oCi tX4_beside 3 (some 3) rmX4_beside.cells rmX4_beside.slots rmX4_canRoll.cells rmX4_canRoll.slots 21),
  (21, oC (-1) 22),
  (22, oIc_eq 29 25),
  (25, oC (1) 26),
  (26, oGo 38),
  (29, oC (0) 30),
  (30, oGo 38),
  (33, oAL 0 34),
  (34, oC (1) 35),
  (35, oCi tX4_isNot 2 (some 3) rmX4_isNot.cells rmX4_isNot.slots rmX4_canRoll.cells rmX4_canRoll.slots 38),
  (38, oRz post ad0 rmX4_canRoll.cells rmX4_canRoll.slots)]
set_option maxRecDepth 20000 in
theorem okX4_canRoll {Γ : aΓ} {post : Int32 → List aE → Prop} {ad0 : Nat → Nat} {X0 : List aE} (C : FOK Γ cX4_canRoll wsX4_canRoll RX4 2 rmX4_canRoll) (hQ : isQ Γ (va_Qi post (aBk (gK Γ) ad0 X0 (hsz Γ)) (aA (gK Γ) ad0 X0 (hsz Γ))) rmX4_canRoll ad0 X0) (hr : rTy Γ = some .boolean) : AllS Γ (tbX4_canRoll post ad0) := by
  unfold tbX4_canRoll
  refine al_c (pc := 0) (snd_aload_n C dX4_canRoll_0 rfl) ?_
  refine al_c (pc := 1) (snd_iconst C dX4_canRoll_1 (by decide)) ?_
  refine al_c (pc := 2) (snd_put C dX4_canRoll_2 (ci := 3) (kf := 0) rfl (by decide) inX4_canRoll_X4 tyX4_ok nmX4 rfl rfl rfl (by decide +kernel)) ?_
  refine al_c (pc := 5) (snd_iload_n C dX4_canRoll_5 rfl) ?_
  refine al_c (pc := 6) (snd_Ci C (site_S C dX4_canRoll_6 gX4_canRoll_X4_isSide rfl rfl rfl ⟨by decide +kernel, by decide +kernel, by decide +kernel⟩ ⟨by decide, by decide⟩) mX4_isSide) ?_
  refine al_c (pc := 9) (snd_if_eq C dX4_canRoll_9 (by decide)) ?_
  refine al_c (pc := 12) (snd_aload_n C dX4_canRoll_12 rfl) ?_
  refine al_c (pc := 13) (snd_aload_n C dX4_canRoll_13 rfl) ?_
  refine al_c (pc := 14) (snd_get C dX4_canRoll_14 (ci := 3) (kf := 9) rfl (by decide) inX4_canRoll_X4 rfl (by decide +kernel)) ?_
  refine al_c (pc := 17) (snd_iload_n C dX4_canRoll_17 rfl) ?_
  refine al_c (pc := 18) (snd_Ci C (site_V C rfl dX4_canRoll_18 gX4_canRoll_X4_beside rfl rfl rfl ⟨rfl, by decide +kernel, by decide +kernel, by decide +kernel⟩ ⟨by decide, by decide⟩) mX4_beside) ?_
  refine al_c (pc := 21) (snd_iconst C dX4_canRoll_21 (by decide)) ?_
  refine al_c (pc := 22) (snd_icmp_eq C dX4_canRoll_22 (by decide)) ?_
  refine al_c (pc := 25) (snd_iconst C dX4_canRoll_25 (by decide)) ?_
  refine al_c (pc := 26) (snd_goto C dX4_canRoll_26 (by decide)) ?_
  refine al_c (pc := 29) (snd_iconst C dX4_canRoll_29 (by decide)) ?_
  refine al_c (pc := 30) (snd_goto C dX4_canRoll_30 (by decide)) ?_
  refine al_c (pc := 33) (snd_aload_n C dX4_canRoll_33 rfl) ?_
  refine al_c (pc := 34) (snd_iconst C dX4_canRoll_34 (by decide)) ?_
  refine al_c (pc := 35) (snd_Ci C (site_V C rfl dX4_canRoll_35 gX4_canRoll_X4_isNot rfl rfl rfl ⟨rfl, by decide +kernel, by decide +kernel, by decide +kernel⟩ ⟨by decide, by decide⟩) mX4_isNot) ?_
  refine al_c (pc := 38) (snd_Rz C hQ hr dX4_canRoll_38) ?_
  exact al_0
set_option maxHeartbeats 1000000 in
set_option maxRecDepth 100000 in
theorem mX4_canRoll : aMi yX4_canRoll wsX4_canRoll rmX4_canRoll tX4_canRoll := by
  refine aMz_of (by decide +kernel) rfl rfl (by intro av X post hT; obtain ⟨a, wl, th, rm, pm, ic, it, iv, ie, rc, k, tt, w, h, wm, pq, co, pa, fa, ce, ts, ns, es, on, nx, rfl, rfl, hw2, hw, hh2, hh, hk1, hk2, hR, h1, h2⟩ := hT; exact Nat.le_of_ble_eq_true rfl) ?_
  intro Γ ad av X post C hQ hr hT
  obtain ⟨a, wl, th, rm, pm, ic, it, iv, ie, rc, k, tt, w, h, wm, pq, co, pa, fa, ce, ts, ns, es, on, nx, rfl, rfl, hw2, hw, hh2, hh, hk1, hk2, hR, h1, h2⟩ := hT
  have OK := okX4_canRoll C hQ hr
  refine go OK [] 60 ?_
  refine ⟨_, rfl, fun q => ?_, fun q => ?_⟩
  · refine And.intro (fun q => absurd q (by decide)) (fun _ => ?_)
    obtain ⟨d, rfl, d1, d2⟩ := q
    have hp := h2 d rfl (by omega)
    refine ⟨_, _, k, d, wl, _, _, _, _, _, _, _, _, _, _, _, _, _, _, _, _, _, _, _, _, _, _, _, rfl, rfl, rfl, rfl, hw2, hw, hh2, hh, hk1, hk2, by omega, hR, ?_⟩
    refine And.intro (fun q => ?_) (fun q => ?_)
    · rw [(oJ_m1 hw hh).mp q] at hp
      exact ⟨Or.inl rfl, rfl, hp⟩
    · cases e : nxt w h wl k d with
      | none => exact absurd ((oJ_m1 hw hh).mpr e) q
      | some j =>
        rw [e] at hp
        exact ⟨Or.inr rfl, rfl, hp⟩
  · refine And.intro (fun _ => ?_) (fun q => absurd rfl q)
    exact ⟨_, _, _, _, _, _, _, _, _, _, _, _, _, _, _, _, _, _, _, _, _, _, _, _, _, _, rfl, rfl, Or.inl rfl, rfl, h1 q⟩
abbrev tX4_width : aTi := fun av X post => ∃ (th rm pm ic it iv ie rc : Int32) (k tt w h : Nat) (wm pq co pa fa ce ts ns es on nx : Nat → Int32), av = [.ref 0] ∧ X = MW th (nI w) (nI h) rm pm (nI (cm w k)) (nI (tt / 6 + 1)) (nI (tt % 6 + 1)) (nI (eoN tt)) ic it iv ie rc wm pq co pa fa ce ts ns es on nx ∧ post (nI w) (MW 0 (nI w) (nI h) rm pm (nI (cm w k)) (nI (tt / 6 + 1)) (nI (tt % 6 + 1)) (nI (eoN tt)) ic it iv ie rc wm pq co pa fa ce ts ns es on nx)
abbrev rmX4_width : Room := { frames := 1, cells := 0, slots := 0, locals := 21 }
theorem inX4_width_X4 : ∀ w ∈ wsX40, w ∈ wsX4_width := by decide +kernel
def tbX4_width (post : Int32 → List aE → Prop) (ad0 : Nat → Nat) : List (Nat × aO) := [(0, oAL 0 1),
  (1, oAL 0 2),
  (2, oGet 3 1 5),
  (5, oCi tX4_ok 2 (some 3) rmX4_ok.cells rmX4_ok.slots rmX4_width.cells rmX4_width.slots 8),
  (8, oRi post ad0 rmX4_width.cells rmX4_width.slots)]
set_option maxRecDepth 20000 in
theorem okX4_width {Γ : aΓ} {post : Int32 → List aE → Prop} {ad0 : Nat → Nat} {X0 : List aE} (C : FOK Γ cX4_width wsX4_width RX4 1 rmX4_width) (hQ : isQ Γ (va_Qi post (aBk (gK Γ) ad0 X0 (hsz Γ)) (aA (gK Γ) ad0 X0 (hsz Γ))) rmX4_width ad0 X0) (hr : rTy Γ = some .int) : AllS Γ (tbX4_width post ad0) := by
  unfold tbX4_width
  refine al_c (pc := 0) (snd_aload_n C dX4_width_0 rfl) ?_
  refine al_c (pc := 1) (snd_aload_n C dX4_width_1 rfl) ?_
  refine al_c (pc := 2) (snd_get C dX4_width_2 (ci := 3) (kf := 1) rfl (by decide) inX4_width_X4 rfl (by decide +kernel)) ?_
  refine al_c (pc := 5) (snd_Ci C (site_V C rfl dX4_width_5 gX4_width_X4_ok rfl rfl rfl ⟨rfl, by decide +kernel, by decide +kernel, by decide +kernel⟩ ⟨by decide, by decide⟩) mX4_ok) ?_
  refine al_c (pc := 8) (snd_Ri C hQ hr dX4_width_8) ?_
  exact al_0
set_option maxHeartbeats 1000000 in
set_option maxRecDepth 100000 in
theorem mX4_width : aMi yX4_width wsX4_width rmX4_width tX4_width := by
  refine aMi_of (by decide +kernel) rfl rfl (by intro av X post hT; obtain ⟨th, rm, pm, ic, it, iv, ie, rc, k, tt, w, h, wm, pq, co, pa, fa, ce, ts, ns, es, on, nx, rfl, rfl, hp⟩ := hT; exact Nat.le_of_ble_eq_true rfl) ?_
  intro Γ ad av X post C hQ hr hT
  obtain ⟨th, rm, pm, ic, it, iv, ie, rc, k, tt, w, h, wm, pq, co, pa, fa, ce, ts, ns, es, on, nx, rfl, rfl, hp⟩ := hT
  have OK := okX4_width C hQ hr
  refine go OK [] 60 ?_
  exact ⟨_, _, _, _, _, _, _, _, _, _, _, _, _, _, _, _, _, _, _, _, _, _, _, _, _, _, rfl, rfl, rfl, hp⟩
abbrev tX4_height : aTi := fun av X post => ∃ (th rm pm ic it iv ie rc : Int32) (k tt w h : Nat) (wm pq co pa fa ce ts ns es on nx : Nat → Int32), av = [.ref 0] ∧ X = MW th (nI w) (nI h) rm pm (nI (cm w k)) (nI (tt / 6 + 1)) (nI (tt % 6 + 1)) (nI (eoN tt)) ic it iv ie rc wm pq co pa fa ce ts ns es on nx ∧ post (nI h) (MW 0 (nI w) (nI h) rm pm (nI (cm w k)) (nI (tt / 6 + 1)) (nI (tt % 6 + 1)) (nI (eoN tt)) ic it iv ie rc wm pq co pa fa ce ts ns es on nx)
abbrev rmX4_height : Room := { frames := 1, cells := 0, slots := 0, locals := 21 }
theorem inX4_height_X4 : ∀ w ∈ wsX40, w ∈ wsX4_height := by decide +kernel
def tbX4_height (post : Int32 → List aE → Prop) (ad0 : Nat → Nat) : List (Nat × aO) := [(0, oAL 0 1),
  (1, oAL 0 2),
  (2, oGet 3 2 5),
  (5, oCi tX4_ok 2 (some 3) rmX4_ok.cells rmX4_ok.slots rmX4_height.cells rmX4_height.slots 8),
  (8, oRi post ad0 rmX4_height.cells rmX4_height.slots)]
set_option maxRecDepth 20000 in
theorem okX4_height {Γ : aΓ} {post : Int32 → List aE → Prop} {ad0 : Nat → Nat} {X0 : List aE} (C : FOK Γ cX4_height wsX4_height RX4 1 rmX4_height) (hQ : isQ Γ (va_Qi post (aBk (gK Γ) ad0 X0 (hsz Γ)) (aA (gK Γ) ad0 X0 (hsz Γ))) rmX4_height ad0 X0) (hr : rTy Γ = some .int) : AllS Γ (tbX4_height post ad0) := by
  unfold tbX4_height
  refine al_c (pc := 0) (snd_aload_n C dX4_height_0 rfl) ?_
  refine al_c (pc := 1) (snd_aload_n C dX4_height_1 rfl) ?_
  refine al_c (pc := 2) (snd_get C dX4_height_2 (ci := 3) (kf := 2) rfl (by decide) inX4_height_X4 rfl (by decide +kernel)) ?_
  refine al_c (pc := 5) (snd_Ci C (site_V C rfl dX4_height_5 gX4_height_X4_ok rfl rfl rfl ⟨rfl, by decide +kernel, by decide +kernel, by decide +kernel⟩ ⟨by decide, by decide⟩) mX4_ok) ?_
  refine al_c (pc := 8) (snd_Ri C hQ hr dX4_height_8) ?_
  exact al_0
set_option maxHeartbeats 1000000 in
set_option maxRecDepth 100000 in
theorem mX4_height : aMi yX4_height wsX4_height rmX4_height tX4_height := by
  refine aMi_of (by decide +kernel) rfl rfl (by intro av X post hT; obtain ⟨th, rm, pm, ic, it, iv, ie, rc, k, tt, w, h, wm, pq, co, pa, fa, ce, ts, ns, es, on, nx, rfl, rfl, hp⟩ := hT; exact Nat.le_of_ble_eq_true rfl) ?_
  intro Γ ad av X post C hQ hr hT
  obtain ⟨th, rm, pm, ic, it, iv, ie, rc, k, tt, w, h, wm, pq, co, pa, fa, ce, ts, ns, es, on, nx, rfl, rfl, hp⟩ := hT
  have OK := okX4_height C hQ hr
  refine go OK [] 60 ?_
  exact ⟨_, _, _, _, _, _, _, _, _, _, _, _, _, _, _, _, _, _, _, _, _, _, _, _, _, _, rfl, rfl, rfl, hp⟩
abbrev tX4_rolls : aTi := fun av X post => ∃ (th rm pm ic it iv ie rc : Int32) (k tt w h : Nat) (wm pq co pa fa ce ts ns es on nx : Nat → Int32), av = [.ref 0] ∧ X = MW th (nI w) (nI h) rm pm (nI (cm w k)) (nI (tt / 6 + 1)) (nI (tt % 6 + 1)) (nI (eoN tt)) ic it iv ie rc wm pq co pa fa ce ts ns es on nx ∧ post rm (MW 0 (nI w) (nI h) rm pm (nI (cm w k)) (nI (tt / 6 + 1)) (nI (tt % 6 + 1)) (nI (eoN tt)) ic it iv ie rc wm pq co pa fa ce ts ns es on nx)
abbrev rmX4_rolls : Room := { frames := 1, cells := 0, slots := 0, locals := 21 }
theorem inX4_rolls_X4 : ∀ w ∈ wsX40, w ∈ wsX4_rolls := by decide +kernel
def tbX4_rolls (post : Int32 → List aE → Prop) (ad0 : Nat → Nat) : List (Nat × aO) := [(0, oAL 0 1),
  (1, oAL 0 2),
  (2, oGet 3 7 5),
  (5, oCi tX4_ok 2 (some 3) rmX4_ok.cells rmX4_ok.slots rmX4_rolls.cells rmX4_rolls.slots 8),
  (8, oRi post ad0 rmX4_rolls.cells rmX4_rolls.slots)]
set_option maxRecDepth 20000 in
theorem okX4_rolls {Γ : aΓ} {post : Int32 → List aE → Prop} {ad0 : Nat → Nat} {X0 : List aE} (C : FOK Γ cX4_rolls wsX4_rolls RX4 1 rmX4_rolls) (hQ : isQ Γ (va_Qi post (aBk (gK Γ) ad0 X0 (hsz Γ)) (aA (gK Γ) ad0 X0 (hsz Γ))) rmX4_rolls ad0 X0) (hr : rTy Γ = some .int) : AllS Γ (tbX4_rolls post ad0) := by
  unfold tbX4_rolls
  refine al_c (pc := 0) (snd_aload_n C dX4_rolls_0 rfl) ?_
  refine al_c (pc := 1) (snd_aload_n C dX4_rolls_1 rfl) ?_
  refine al_c (pc := 2) (snd_get C dX4_rolls_2 (ci := 3) (kf := 7) rfl (by decide) inX4_rolls_X4 rfl (by decide +kernel)) ?_
  refine al_c (pc := 5) (snd_Ci C (site_V C rfl dX4_rolls_5 gX4_rolls_X4_ok rfl rfl rfl ⟨rfl, by decide +kernel, by decide +kernel, by decide +kernel⟩ ⟨by decide, by decide⟩) mX4_ok) ?_
  refine al_c (pc := 8) (snd_Ri C hQ hr dX4_rolls_8) ?_
  exact al_0
set_option maxHeartbeats 1000000 in
set_option maxRecDepth 100000 in
theorem mX4_rolls : aMi yX4_rolls wsX4_rolls rmX4_rolls tX4_rolls := by
  refine aMi_of (by decide +kernel) rfl rfl (by intro av X post hT; obtain ⟨th, rm, pm, ic, it, iv, ie, rc, k, tt, w, h, wm, pq, co, pa, fa, ce, ts, ns, es, on, nx, rfl, rfl, hp⟩ := hT; exact Nat.le_of_ble_eq_true rfl) ?_
  intro Γ ad av X post C hQ hr hT
  obtain ⟨th, rm, pm, ic, it, iv, ie, rc, k, tt, w, h, wm, pq, co, pa, fa, ce, ts, ns, es, on, nx, rfl, rfl, hp⟩ := hT
  have OK := okX4_rolls C hQ hr
  refine go OK [] 60 ?_
  exact ⟨_, _, _, _, _, _, _, _, _, _, _, _, _, _, _, _, _, _, _, _, _, _, _, _, _, _, rfl, rfl, rfl, hp⟩
abbrev tX4_prints : aTi := fun av X post => ∃ (th rm pm ic it iv ie rc : Int32) (k tt w h : Nat) (wm pq co pa fa ce ts ns es on nx : Nat → Int32), av = [.ref 0] ∧ X = MW th (nI w) (nI h) rm pm (nI (cm w k)) (nI (tt / 6 + 1)) (nI (tt % 6 + 1)) (nI (eoN tt)) ic it iv ie rc wm pq co pa fa ce ts ns es on nx ∧ post pm (MW 0 (nI w) (nI h) rm pm (nI (cm w k)) (nI (tt / 6 + 1)) (nI (tt % 6 + 1)) (nI (eoN tt)) ic it iv ie rc wm pq co pa fa ce ts ns es on nx)
abbrev rmX4_prints : Room := { frames := 1, cells := 0, slots := 0, locals := 21 }
theorem inX4_prints_X4 : ∀ w ∈ wsX40, w ∈ wsX4_prints := by decide +kernel
def tbX4_prints (post : Int32 → List aE → Prop) (ad0 : Nat → Nat) : List (Nat × aO) := [(0, oAL 0 1),
  (1, oAL 0 2),
  (2, oGet 3 8 5),
  (5, oCi tX4_ok 2 (some 3) rmX4_ok.cells rmX4_ok.slots rmX4_prints.cells rmX4_prints.slots 8),
  (8, oRi post ad0 rmX4_prints.cells rmX4_prints.slots)]
set_option maxRecDepth 20000 in
theorem okX4_prints {Γ : aΓ} {post : Int32 → List aE → Prop} {ad0 : Nat → Nat} {X0 : List aE} (C : FOK Γ cX4_prints wsX4_prints RX4 1 rmX4_prints) (hQ : isQ Γ (va_Qi post (aBk (gK Γ) ad0 X0 (hsz Γ)) (aA (gK Γ) ad0 X0 (hsz Γ))) rmX4_prints ad0 X0) (hr : rTy Γ = some .int) : AllS Γ (tbX4_prints post ad0) := by
  unfold tbX4_prints
  refine al_c (pc := 0) (snd_aload_n C dX4_prints_0 rfl) ?_
  refine al_c (pc := 1) (snd_aload_n C dX4_prints_1 rfl) ?_
  refine al_c (pc := 2) (snd_get C dX4_prints_2 (ci := 3) (kf := 8) rfl (by decide) inX4_prints_X4 rfl (by decide +kernel)) ?_
  refine al_c (pc := 5) (snd_Ci C (site_V C rfl dX4_prints_5 gX4_prints_X4_ok rfl rfl rfl ⟨rfl, by decide +kernel, by decide +kernel, by decide +kernel⟩ ⟨by decide, by decide⟩) mX4_ok) ?_
  refine al_c (pc := 8) (snd_Ri C hQ hr dX4_prints_8) ?_
  exact al_0
set_option maxHeartbeats 1000000 in
set_option maxRecDepth 100000 in
theorem mX4_prints : aMi yX4_prints wsX4_prints rmX4_prints tX4_prints := by
  refine aMi_of (by decide +kernel) rfl rfl (by intro av X post hT; obtain ⟨th, rm, pm, ic, it, iv, ie, rc, k, tt, w, h, wm, pq, co, pa, fa, ce, ts, ns, es, on, nx, rfl, rfl, hp⟩ := hT; exact Nat.le_of_ble_eq_true rfl) ?_
  intro Γ ad av X post C hQ hr hT
  obtain ⟨th, rm, pm, ic, it, iv, ie, rc, k, tt, w, h, wm, pq, co, pa, fa, ce, ts, ns, es, on, nx, rfl, rfl, hp⟩ := hT
  have OK := okX4_prints C hQ hr
  refine go OK [] 60 ?_
  exact ⟨_, _, _, _, _, _, _, _, _, _, _, _, _, _, _, _, _, _, _, _, _, _, _, _, _, _, rfl, rfl, rfl, hp⟩
theorem wh_le {w h : Nat} (hw : w ≤ 7) (hh : h ≤ 7) : w * h ≤ 49 := Nat.mul_le_mul hw hh
abbrev tX4_wallsThere : aTi := fun av X post => ∃ (th rm pm ic it iv ie rc : Int32) (k tt w h : Nat) (wm pq co pa fa ce ts ns es on nx : Nat → Int32), av = [.ref 0] ∧ X = MW th (nI w) (nI h) rm pm (nI (cm w k)) (nI (tt / 6 + 1)) (nI (tt % 6 + 1)) (nI (eoN tt)) ic it iv ie rc wm pq co pa fa ce ts ns es on nx ∧ w ≤ 7 ∧ h ≤ 7 ∧ post (nI (ct (fun c => decide (¬ wm c = 0)) (w * h))) X
abbrev rmX4_wallsThere : Room := { frames := 0, cells := 0, slots := 0, locals := 0 }
theorem inX4_wallsThere_X4 : ∀ w ∈ wsX40, w ∈ wsX4_wallsThere := by decide +kernel
def tbX4_wallsThere (post : Int32 → List aE → Prop) (ad0 : Nat → Nat) : List (Nat × aO) := [(0, oC (0) 1),
  (1, oIS 1 2),
  (2, oC (0) 3),
  (3, oIS 2 4),
  (4, oIL 2 5),
  (5, oAL 0 6),
  (6, oGet 3 1 9),
  (9, oAL 0 10),
  (10, oGet 3 2 13),
  (13, oImul 14),
  (14, oIc_ge 40 17),
  (17, oIL 1 18),
  (18, oAL 0 19),
  (19, oGet 3 3 22),
  (22, oIL 2 23),
  (23, oZald 24),
  (24, oIf_eq 31 27),
  (27, oC (1) 28),
  (28, oGo 32),
  (31, oC (0) 32),
  (32, oIadd 33),
  (33, oIS 1 34),
  (34, oInc 2 1 37),
  (37, oGo 4),
  (40, oIL 1 41),
  (41, oRi post ad0 rmX4_wallsThere.cells rmX4_wallsThere.slots)]
set_option maxRecDepth 20000 in
theorem okX4_wallsThere {Γ : aΓ} {post : Int32 → List aE → Prop} {ad0 : Nat → Nat} {X0 : List aE} (C : FOK Γ cX4_wallsThere wsX4_wallsThere RX4 3 rmX4_wallsThere) (hQ : isQ Γ (va_Qi post (aBk (gK Γ) ad0 X0 (hsz Γ)) (aA (gK Γ) ad0 X0 (hsz Γ))) rmX4_wallsThere ad0 X0) (hr : rTy Γ = some .int) : AllS Γ (tbX4_wallsThere post ad0) := by
  unfold tbX4_wallsThere
  refine al_c (pc := 0) (snd_iconst C dX4_wallsThere_0 (by decide)) ?_
  refine al_c (pc := 1) (snd_istore_n C dX4_wallsThere_1 rfl (by decide)) ?_
  refine al_c (pc := 2) (snd_iconst C dX4_wallsThere_2 (by decide)) ?_
  refine al_c (pc := 3) (snd_istore_n C dX4_wallsThere_3 rfl (by decide)) ?_
  refine al_c (pc := 4) (snd_iload_n C dX4_wallsThere_4 rfl) ?_
  refine al_c (pc := 5) (snd_aload_n C dX4_wallsThere_5 rfl) ?_
  refine al_c (pc := 6) (snd_get C dX4_wallsThere_6 (ci := 3) (kf := 1) rfl (by decide) inX4_wallsThere_X4 rfl (by decide +kernel)) ?_
  refine al_c (pc := 9) (snd_aload_n C dX4_wallsThere_9 rfl) ?_
  refine al_c (pc := 10) (snd_get C dX4_wallsThere_10 (ci := 3) (kf := 2) rfl (by decide) inX4_wallsThere_X4 rfl (by decide +kernel)) ?_
  refine al_c (pc := 13) (snd_imul C dX4_wallsThere_13) ?_
  refine al_c (pc := 14) (snd_icmp_ge C dX4_wallsThere_14 (by decide)) ?_
  refine al_c (pc := 17) (snd_iload_n C dX4_wallsThere_17 rfl) ?_
  refine al_c (pc := 18) (snd_aload_n C dX4_wallsThere_18 rfl) ?_
  refine al_c (pc := 19) (snd_get C dX4_wallsThere_19 (ci := 3) (kf := 3) rfl (by decide) inX4_wallsThere_X4 rfl (by decide +kernel)) ?_
  refine al_c (pc := 22) (snd_iload_n C dX4_wallsThere_22 rfl) ?_
  refine al_c (pc := 23) (snd_baload C dX4_wallsThere_23) ?_
  refine al_c (pc := 24) (snd_if_eq C dX4_wallsThere_24 (by decide)) ?_
  refine al_c (pc := 27) (snd_iconst C dX4_wallsThere_27 (by decide)) ?_
  refine al_c (pc := 28) (snd_goto C dX4_wallsThere_28 (by decide)) ?_
  refine al_c (pc := 31) (snd_iconst C dX4_wallsThere_31 (by decide)) ?_
  refine al_c (pc := 32) (snd_iadd C dX4_wallsThere_32) ?_
  refine al_c (pc := 33) (snd_istore_n C dX4_wallsThere_33 rfl (by decide)) ?_
  refine al_c (pc := 34) (snd_iinc C dX4_wallsThere_34 (by decide) (by decide)) ?_
  refine al_c (pc := 37) (snd_goto C dX4_wallsThere_37 (by decide)) ?_
  refine al_c (pc := 40) (snd_iload_n C dX4_wallsThere_40 rfl) ?_
  refine al_c (pc := 41) (snd_Ri C hQ hr dX4_wallsThere_41) ?_
  exact al_0
set_option maxHeartbeats 1000000 in
set_option maxRecDepth 100000 in
theorem mX4_wallsThere : aMi yX4_wallsThere wsX4_wallsThere rmX4_wallsThere tX4_wallsThere := by
  refine aMi_of (by decide +kernel) rfl rfl (by intro av X post hT; obtain ⟨th, rm, pm, ic, it, iv, ie, rc, k, tt, w, h, wm, pq, co, pa, fa, ce, ts, ns, es, on, nx, rfl, rfl, hw, hh, hp⟩ := hT; exact Nat.le_of_ble_eq_true rfl) ?_
  intro Γ ad av X post C hQ hr hT
  obtain ⟨th, rm, pm, ic, it, iv, ie, rc, k, tt, w, h, wm, pq, co, pa, fa, ce, ts, ns, es, on, nx, rfl, rfl, hw, hh, hp⟩ := hT
  have OK := okX4_wallsThere C hQ hr
  have hwh := wh_le hw hh
  have loop : ∀ (n i : Nat), i ≤ w * h → w * h - i < n → FG Γ 4 ad 0 0 [(2, .int (nI i)), (1, .int (nI (ct (fun c => decide (¬ wm c = 0)) i))), (0, .ref 0)] [] (MW th (nI w) (nI h) rm pm (nI (cm w k)) (nI (tt / 6 + 1)) (nI (tt % 6 + 1)) (nI (eoN tt)) ic it iv ie rc wm pq co pa fa ce ts ns es on nx) := by
    intro n
    induction n with
    | zero => intro i _ h; omega
    | succ n ih =>
      intro i hi hn
      refine go OK [4] 60 ?_
      refine And.intro (fun q => ?_) (fun q => ?_)
      · have q : nI w * nI h ≤ nI i := q
        rw [mulI] at q
        have q := (leN (by omega) (by omega)).mp q
        have : i = w * h := by omega
        subst this
        exact ⟨rfl, hp⟩
      · have hlt : i < w * h := by
          rcases Nat.lt_or_ge i (w * h) with z | z
          · exact z
          · exact absurd (show nI w * nI h ≤ nI i by rw [mulI]; exact (leN (by omega) (by omega)).mpr z) q
        have key := ih (i + 1) (by omega) (by omega)
        rw [← nI_p1 i] at key
        refine ⟨inS (by omega : i < 49) (by decide), ?_⟩
        rw [nI_clampS (by omega)]
        refine And.intro (fun q => ?_) (fun q => ?_)
        · rw [ct_f (n := i) (by simp [q]), ← Int32.add_zero (nI (ct _ i))] at key
          exact key
        · rw [ct_t (n := i) (by simp [q]), ← nI_p1 (ct _ i)] at key
          exact key
  refine go OK [4] 40 ?_
  exact loop (w * h + 1) 0 (by omega) (by omega)
abbrev tX4_walls : aTi := fun av X post => ∃ (th rm pm ic it iv ie rc : Int32) (k tt w h : Nat) (wm pq co pa fa ce ts ns es on nx : Nat → Int32), av = [.ref 0] ∧ X = MW th (nI w) (nI h) rm pm (nI (cm w k)) (nI (tt / 6 + 1)) (nI (tt % 6 + 1)) (nI (eoN tt)) ic it iv ie rc wm pq co pa fa ce ts ns es on nx ∧ w ≤ 7 ∧ h ≤ 7 ∧ post (nI (ct (fun c => decide (¬ wm c = 0)) (w * h))) (MW 0 (nI w) (nI h) rm pm (nI (cm w k)) (nI (tt / 6 + 1)) (nI (tt % 6 + 1)) (nI (eoN tt)) ic it iv ie rc wm pq co pa fa ce ts ns es on nx)
abbrev rmX4_walls : Room := { frames := 1, cells := 0, slots := 0, locals := 22 }
def tbX4_walls (post : Int32 → List aE → Prop) (ad0 : Nat → Nat) : List (Nat × aO) := [(0, oAL 0 1),
  (1, oAL 0 2),
  (2, oCi tX4_wallsThere 1 (some 3) rmX4_wallsThere.cells rmX4_wallsThere.slots rmX4_walls.cells rmX4_walls.slots 5),
  (5, oCi tX4_ok 2 (some 3) rmX4_ok.cells rmX4_ok.slots rmX4_walls.cells rmX4_walls.slots 8),
  (8, oRi post ad0 rmX4_walls.cells rmX4_walls.slots)]
set_option maxRecDepth 20000 in
theorem okX4_walls {Γ : aΓ} {post : Int32 → List aE → Prop} {ad0 : Nat → Nat} {X0 : List aE} (C : FOK Γ cX4_walls wsX4_walls RX4 1 rmX4_walls) (hQ : isQ Γ (va_Qi post (aBk (gK Γ) ad0 X0 (hsz Γ)) (aA (gK Γ) ad0 X0 (hsz Γ))) rmX4_walls ad0 X0) (hr : rTy Γ = some .int) : AllS Γ (tbX4_walls post ad0) := by
  unfold tbX4_walls
  refine al_c (pc := 0) (snd_aload_n C dX4_walls_0 rfl) ?_
  refine al_c (pc := 1) (snd_aload_n C dX4_walls_1 rfl) ?_
  refine al_c (pc := 2) (snd_Ci C (site_V C rfl dX4_walls_2 gX4_walls_X4_wallsThere rfl rfl rfl ⟨rfl, by decide +kernel, by decide +kernel, by decide +kernel⟩ ⟨by decide, by decide⟩) mX4_wallsThere) ?_
  refine al_c (pc := 5) (snd_Ci C (site_V C rfl dX4_walls_5 gX4_walls_X4_ok rfl rfl rfl ⟨rfl, by decide +kernel, by decide +kernel, by decide +kernel⟩ ⟨by decide, by decide⟩) mX4_ok) ?_
  refine al_c (pc := 8) (snd_Ri C hQ hr dX4_walls_8) ?_
  exact al_0
set_option maxHeartbeats 1000000 in
set_option maxRecDepth 100000 in
theorem mX4_walls : aMi yX4_walls wsX4_walls rmX4_walls tX4_walls := by
  refine aMi_of (by decide +kernel) rfl rfl (by intro av X post hT; obtain ⟨th, rm, pm, ic, it, iv, ie, rc, k, tt, w, h, wm, pq, co, pa, fa, ce, ts, ns, es, on, nx, rfl, rfl, hw, hh, hp⟩ := hT; exact Nat.le_of_ble_eq_true rfl) ?_
  intro Γ ad av X post C hQ hr hT
  obtain ⟨th, rm, pm, ic, it, iv, ie, rc, k, tt, w, h, wm, pq, co, pa, fa, ce, ts, ns, es, on, nx, rfl, rfl, hw, hh, hp⟩ := hT
  have OK := okX4_walls C hQ hr
  refine go OK [] 60 ?_
  refine ⟨_, _, _, _, _, _, _, _, _, _, _, _, _, _, _, _, _, _, _, _, _, _, _, rfl, rfl, hw, hh, ?_⟩
  exact ⟨_, _, _, _, _, _, _, _, _, _, _, _, _, _, _, _, _, _, _, _, _, _, _, _, _, _, rfl, rfl, rfl, hp⟩
abbrev tX4_cellsWith : aTi := fun av X post => ∃ (a : Int32) (th rm pm ic it iv ie rc : Int32) (k tt w h : Nat) (wm pq co pa fa ce ts ns es on nx : Nat → Int32), av = [.ref 0, .int a] ∧ X = MW th (nI w) (nI h) rm pm (nI (cm w k)) (nI (tt / 6 + 1)) (nI (tt % 6 + 1)) (nI (eoN tt)) ic it iv ie rc wm pq co pa fa ce ts ns es on nx ∧ w ≤ 7 ∧ h ≤ 7 ∧ (¬ inR a 0 9 → post 0 (MW 1 (nI w) (nI h) rm pm (nI (cm w k)) (nI (tt / 6 + 1)) (nI (tt % 6 + 1)) (nI (eoN tt)) ic it iv ie rc wm pq co pa fa ce ts ns es on nx)) ∧ (inR a 0 9 → post (nI (ct (fun c => decide (pq c = a)) (w * h))) (MW 0 (nI w) (nI h) rm pm (nI (cm w k)) (nI (tt / 6 + 1)) (nI (tt % 6 + 1)) (nI (eoN tt)) ic it iv ie rc wm pq co pa fa ce ts ns es on nx))
abbrev rmX4_cellsWith : Room := { frames := 1, cells := 0, slots := 0, locals := 22 }
theorem inX4_cellsWith_X4 : ∀ w ∈ wsX40, w ∈ wsX4_cellsWith := by decide +kernel
def tbX4_cellsWith (post : Int32 → List aE → Prop) (ad0 : Nat → Nat) : List (Nat × aO) := [(0, oAL 0 1),
  (1, oC (0) 2),
  (2, oPut 3 0 5),
  (5, oIL 1 6),
  (6, oC (0) 7),
  (7, oC (9) 9),
  (9, oCi tX4_isIn 3 none rmX4_isIn.cells rmX4_isIn.slots rmX4_cellsWith.cells rmX4_cellsWith.slots 12),
  (12, oIf_ne 21 15),
  (15, oAL 0 16),
  (16, oC (1) 17),
  (17, oCi tX4_no 2 (some 3) rmX4_no.cells rmX4_no.slots rmX4_cellsWith.cells rmX4_cellsWith.slots 20),
  (20, oRi post ad0 rmX4_cellsWith.cells rmX4_cellsWith.slots),
  (21, oC (0) 22),
  (22, oIS 2 23),
  (23, oC (0) 24),
  (24, oIS 3 25),
  (25, oIL 3 26),
  (26, oAL 0 27),
  (27, oGet 3 1 30),
  (30, oAL 0 31),
  (31, oGet 3 2 34),
  (34, oImul 35),
  (35, oIc_ge 62 38),
  (38, oIL 2 39),
  (39, oAL 0 40),
  (40, oGet 3 4 43),
  (43, oIL 3 44),
  (44, oIald 45),
  (45, oIL 1 46),
  (46, oIc_ne 53 49),
  (49, oC (1) 50),
  (50, oGo 54),
  (53, oC (0) 54),
  (54, oIadd 55),
  (55, oIS 2 56),
  (56, oInc 3 1 59),
  (59, oGo 25),
  (62, oIL 2 63),
  (63, oRi post ad0 rmX4_cellsWith.cells rmX4_cellsWith.slots)]
set_option maxRecDepth 20000 in
theorem okX4_cellsWith {Γ : aΓ} {post : Int32 → List aE → Prop} {ad0 : Nat → Nat} {X0 : List aE} (C : FOK Γ cX4_cellsWith wsX4_cellsWith RX4 4 rmX4_cellsWith) (hQ : isQ Γ (va_Qi post (aBk (gK Γ) ad0 X0 (hsz Γ)) (aA (gK Γ) ad0 X0 (hsz Γ))) rmX4_cellsWith ad0 X0) (hr : rTy Γ = some .int) : AllS Γ (tbX4_cellsWith post ad0) := by
  unfold tbX4_cellsWith
  refine al_c (pc := 0) (snd_aload_n C dX4_cellsWith_0 rfl) ?_
  refine al_c (pc := 1) (snd_iconst C dX4_cellsWith_1 (by decide)) ?_
  refine al_c (pc := 2) (snd_put C dX4_cellsWith_2 (ci := 3) (kf := 0) rfl (by decide) inX4_cellsWith_X4 tyX4_ok nmX4 rfl rfl rfl (by decide +kernel)) ?_
  refine al_c (pc := 5) (snd_iload_n C dX4_cellsWith_5 rfl) ?_
  refine al_c (pc := 6) (snd_iconst C dX4_cellsWith_6 (by decide)) ?_
  refine al_c (pc := 7) (snd_bipush C dX4_cellsWith_7 (by decide)) ?_
  refine al_c (pc := 9) (snd_Ci C (site_S C dX4_cellsWith_9 gX4_cellsWith_X4_isIn rfl rfl rfl ⟨by decide +kernel, by decide +kernel, by decide +kernel⟩ ⟨by decide, by decide⟩) mX4_isIn) ?_
  refine al_c (pc := 12) (snd_if_ne C dX4_cellsWith_12 (by decide)) ?_
  refine al_c (pc := 15) (snd_aload_n C dX4_cellsWith_15 rfl) ?_
  refine al_c (pc := 16) (snd_iconst C dX4_cellsWith_16 (by decide)) ?_
  refine al_c (pc := 17) (snd_Ci C (site_V C rfl dX4_cellsWith_17 gX4_cellsWith_X4_no rfl rfl rfl ⟨rfl, by decide +kernel, by decide +kernel, by decide +kernel⟩ ⟨by decide, by decide⟩) mX4_no) ?_
  refine al_c (pc := 20) (snd_Ri C hQ hr dX4_cellsWith_20) ?_
  refine al_c (pc := 21) (snd_iconst C dX4_cellsWith_21 (by decide)) ?_
  refine al_c (pc := 22) (snd_istore_n C dX4_cellsWith_22 rfl (by decide)) ?_
  refine al_c (pc := 23) (snd_iconst C dX4_cellsWith_23 (by decide)) ?_
  refine al_c (pc := 24) (snd_istore_n C dX4_cellsWith_24 rfl (by decide)) ?_
  refine al_c (pc := 25) (snd_iload_n C dX4_cellsWith_25 rfl) ?_
  refine al_c (pc := 26) (snd_aload_n C dX4_cellsWith_26 rfl) ?_
  refine al_c (pc := 27) (snd_get C dX4_cellsWith_27 (ci := 3) (kf := 1) rfl (by decide) inX4_cellsWith_X4 rfl (by decide +kernel)) ?_
  refine al_c (pc := 30) (snd_aload_n C dX4_cellsWith_30 rfl) ?_
  refine al_c (pc := 31) (snd_get C dX4_cellsWith_31 (ci := 3) (kf := 2) rfl (by decide) inX4_cellsWith_X4 rfl (by decide +kernel)) ?_
  refine al_c (pc := 34) (snd_imul C dX4_cellsWith_34) ?_
  refine al_c (pc := 35) (snd_icmp_ge C dX4_cellsWith_35 (by decide)) ?_
  refine al_c (pc := 38) (snd_iload_n C dX4_cellsWith_38 rfl) ?_
  refine al_c (pc := 39) (snd_aload_n C dX4_cellsWith_39 rfl) ?_
  refine al_c (pc := 40) (snd_get C dX4_cellsWith_40 (ci := 3) (kf := 4) rfl (by decide) inX4_cellsWith_X4 rfl (by decide +kernel)) ?_
  refine al_c (pc := 43) (snd_iload_n C dX4_cellsWith_43 rfl) ?_
  refine al_c (pc := 44) (snd_iaload C dX4_cellsWith_44) ?_
  refine al_c (pc := 45) (snd_iload_n C dX4_cellsWith_45 rfl) ?_
  refine al_c (pc := 46) (snd_icmp_ne C dX4_cellsWith_46 (by decide)) ?_
  refine al_c (pc := 49) (snd_iconst C dX4_cellsWith_49 (by decide)) ?_
  refine al_c (pc := 50) (snd_goto C dX4_cellsWith_50 (by decide)) ?_
  refine al_c (pc := 53) (snd_iconst C dX4_cellsWith_53 (by decide)) ?_
  refine al_c (pc := 54) (snd_iadd C dX4_cellsWith_54) ?_
  refine al_c (pc := 55) (snd_istore_n C dX4_cellsWith_55 rfl (by decide)) ?_
  refine al_c (pc := 56) (snd_iinc C dX4_cellsWith_56 (by decide) (by decide)) ?_
  refine al_c (pc := 59) (snd_goto C dX4_cellsWith_59 (by decide)) ?_
  refine al_c (pc := 62) (snd_iload_n C dX4_cellsWith_62 rfl) ?_
  refine al_c (pc := 63) (snd_Ri C hQ hr dX4_cellsWith_63) ?_
  exact al_0
set_option maxHeartbeats 1000000 in
set_option maxRecDepth 100000 in
theorem mX4_cellsWith : aMi yX4_cellsWith wsX4_cellsWith rmX4_cellsWith tX4_cellsWith := by
  refine aMi_of (by decide +kernel) rfl rfl (by intro av X post hT; obtain ⟨a, th, rm, pm, ic, it, iv, ie, rc, k, tt, w, h, wm, pq, co, pa, fa, ce, ts, ns, es, on, nx, rfl, rfl, hw, hh, h1, h2⟩ := hT; exact Nat.le_of_ble_eq_true rfl) ?_
  intro Γ ad av X post C hQ hr hT
  obtain ⟨a, th, rm, pm, ic, it, iv, ie, rc, k, tt, w, h, wm, pq, co, pa, fa, ce, ts, ns, es, on, nx, rfl, rfl, hw, hh, h1, h2⟩ := hT
  have OK := okX4_cellsWith C hQ hr
  have hwh := wh_le hw hh
  have loop : post (nI (ct (fun c => decide (pq c = a)) (w * h))) (MW 0 (nI w) (nI h) rm pm (nI (cm w k)) (nI (tt / 6 + 1)) (nI (tt % 6 + 1)) (nI (eoN tt)) ic it iv ie rc wm pq co pa fa ce ts ns es on nx) → ∀ (n i : Nat), i ≤ w * h → w * h - i < n → FG Γ 25 ad 0 0 [(3, .int (nI i)), (2, .int (nI (ct (fun c => decide (pq c = a)) i))), (0, .ref 0), (1, .int a)] [] (MW 0 (nI w) (nI h) rm pm (nI (cm w k)) (nI (tt / 6 + 1)) (nI (tt % 6 + 1)) (nI (eoN tt)) ic it iv ie rc wm pq co pa fa ce ts ns es on nx) := by
    intro hp n
    induction n with
    | zero => intro i _ h; omega
    | succ n ih =>
      intro i hi hn
      refine go OK [25] 60 ?_
      refine And.intro (fun q => ?_) (fun q => ?_)
      · have q : nI w * nI h ≤ nI i := q
        rw [mulI] at q
        have q := (leN (by omega) (by omega)).mp q
        have : i = w * h := by omega
        subst this
        exact ⟨rfl, hp⟩
      · have hlt : i < w * h := by
          rcases Nat.lt_or_ge i (w * h) with z | z
          · exact z
          · exact absurd (show nI w * nI h ≤ nI i by rw [mulI]; exact (leN (by omega) (by omega)).mpr z) q
        have key := ih (i + 1) (by omega) (by omega)
        rw [← nI_p1 i] at key
        refine ⟨inS (by omega : i < 49) (by decide), ?_⟩
        rw [nI_clampS (by omega)]
        refine And.intro (fun q => ?_) (fun q => ?_)
        · rw [ct_f (n := i) (by simp [q]), ← Int32.add_zero (nI (ct _ i))] at key
          exact key
        · rw [ct_t (n := i) (by simp [q]), ← nI_p1 (ct _ i)] at key
          exact key
  refine go OK [25] 60 ?_
  refine ⟨_, _, _, 0, 9, rfl, rfl, rfl, by omega, by omega, fun q => ?_, fun q => ?_⟩
  · refine And.intro (fun _ => ?_) (fun q => absurd q (by decide))
    exact loop (h2 q) (w * h + 1) 0 (by omega) (by omega)
  · refine And.intro (fun q => absurd rfl q) (fun _ => ?_)
    exact ⟨_, _, _, _, _, _, _, _, _, _, _, _, _, _, _, _, _, _, _, _, _, _, _, _, _, _, rfl, rfl, rfl, h1 q⟩
abbrev tX4_meanPaint : aTd := fun av X post => ∃ (th rm pm ic it iv ie rc : Int32) (k tt w h : Nat) (wm pq co pa fa ce ts ns es on nx : Nat → Int32), av = [.ref 0] ∧ X = MW th (nI w) (nI h) rm pm (nI (cm w k)) (nI (tt / 6 + 1)) (nI (tt % 6 + 1)) (nI (eoN tt)) ic it iv ie rc wm pq co pa fa ce ts ns es on nx ∧ PB pa ∧ post (FP.ddiv (FP.i2d (smI pa 6)) six) (MW 0 (nI w) (nI h) rm pm (nI (cm w k)) (nI (tt / 6 + 1)) (nI (tt % 6 + 1)) (nI (eoN tt)) ic it iv ie rc wm pq co pa fa ce ts ns es on nx)
abbrev rmX4_meanPaint : Room := { frames := 0, cells := 0, slots := 0, locals := 0 }
theorem inX4_meanPaint_X4 : ∀ w ∈ wsX40, w ∈ wsX4_meanPaint := by decide +kernel
def tbX4_meanPaint (post : UInt64 → List aE → Prop) (ad0 : Nat → Nat) : List (Nat × aO) := [(0, oAL 0 1),
  (1, oC (0) 2),
  (2, oPut 3 0 5),
  (5, oC (0) 6),
  (6, oIS 1 7),
  (7, oC (1) 8),
  (8, oIS 2 9),
  (9, oIL 2 10),
  (10, oC (6) 12),
  (12, oIc_gt 30 15),
  (15, oIL 1 16),
  (16, oAL 0 17),
  (17, oGet 3 6 20),
  (20, oIL 2 21),
  (21, oIald 22),
  (22, oIadd 23),
  (23, oIS 1 24),
  (24, oInc 2 1 27),
  (27, oGo 9),
  (30, oIL 1 31),
  (31, oI2d 32),
  (32, oCD 4618441417868443648 35),
  (35, oDdiv 36),
  (36, oRd post ad0 rmX4_meanPaint.cells rmX4_meanPaint.slots)]
set_option maxRecDepth 20000 in
theorem okX4_meanPaint {Γ : aΓ} {post : UInt64 → List aE → Prop} {ad0 : Nat → Nat} {X0 : List aE} (C : FOK Γ cX4_meanPaint wsX4_meanPaint RX4 3 rmX4_meanPaint) (hQ : isQ Γ (va_Qd post (aBk (gK Γ) ad0 X0 (hsz Γ)) (aA (gK Γ) ad0 X0 (hsz Γ))) rmX4_meanPaint ad0 X0) (hr : rTy Γ = some .double) : AllS Γ (tbX4_meanPaint post ad0) := by
  unfold tbX4_meanPaint
  refine al_c (pc := 0) (snd_aload_n C dX4_meanPaint_0 rfl) ?_
  refine al_c (pc := 1) (snd_iconst C dX4_meanPaint_1 (by decide)) ?_
  refine al_c (pc := 2) (snd_put C dX4_meanPaint_2 (ci := 3) (kf := 0) rfl (by decide) inX4_meanPaint_X4 tyX4_ok nmX4 rfl rfl rfl (by decide +kernel)) ?_
  refine al_c (pc := 5) (snd_iconst C dX4_meanPaint_5 (by decide)) ?_
  refine al_c (pc := 6) (snd_istore_n C dX4_meanPaint_6 rfl (by decide)) ?_
  refine al_c (pc := 7) (snd_iconst C dX4_meanPaint_7 (by decide)) ?_
  refine al_c (pc := 8) (snd_istore_n C dX4_meanPaint_8 rfl (by decide)) ?_
  refine al_c (pc := 9) (snd_iload_n C dX4_meanPaint_9 rfl) ?_
  refine al_c (pc := 10) (snd_bipush C dX4_meanPaint_10 (by decide)) ?_
  refine al_c (pc := 12) (snd_icmp_gt C dX4_meanPaint_12 (by decide)) ?_
  refine al_c (pc := 15) (snd_iload_n C dX4_meanPaint_15 rfl) ?_
  refine al_c (pc := 16) (snd_aload_n C dX4_meanPaint_16 rfl) ?_
  refine al_c (pc := 17) (snd_get C dX4_meanPaint_17 (ci := 3) (kf := 6) rfl (by decide) inX4_meanPaint_X4 rfl (by decide +kernel)) ?_
  refine al_c (pc := 20) (snd_iload_n C dX4_meanPaint_20 rfl) ?_
  refine al_c (pc := 21) (snd_iaload C dX4_meanPaint_21) ?_
  refine al_c (pc := 22) (snd_iadd C dX4_meanPaint_22) ?_
  refine al_c (pc := 23) (snd_istore_n C dX4_meanPaint_23 rfl (by decide)) ?_
  refine al_c (pc := 24) (snd_iinc C dX4_meanPaint_24 (by decide) (by decide)) ?_
  refine al_c (pc := 27) (snd_goto C dX4_meanPaint_27 (by decide)) ?_
  refine al_c (pc := 30) (snd_iload_n C dX4_meanPaint_30 rfl) ?_
  refine al_c (pc := 31) (snd_i2d C dX4_meanPaint_31) ?_
  refine al_c (pc := 32) (snd_ldc2d C dX4_meanPaint_32 (by decide +kernel)) ?_
  refine al_c (pc := 35) (snd_ddiv C dX4_meanPaint_35) ?_
  refine al_c (pc := 36) (snd_Rd C hQ hr dX4_meanPaint_36) ?_
  exact al_0
set_option maxHeartbeats 1000000 in
set_option maxRecDepth 100000 in
theorem mX4_meanPaint : aMd yX4_meanPaint wsX4_meanPaint rmX4_meanPaint tX4_meanPaint := by
  refine aMd_of (by decide +kernel) rfl rfl (by intro av X post hT; obtain ⟨th, rm, pm, ic, it, iv, ie, rc, k, tt, w, h, wm, pq, co, pa, fa, ce, ts, ns, es, on, nx, rfl, rfl, hP, hp⟩ := hT; exact Nat.le_of_ble_eq_true rfl) ?_
  intro Γ ad av X post C hQ hr hT
  obtain ⟨th, rm, pm, ic, it, iv, ie, rc, k, tt, w, h, wm, pq, co, pa, fa, ce, ts, ns, es, on, nx, rfl, rfl, hP, hp⟩ := hT
  have OK := okX4_meanPaint C hQ hr
  have loop : ∀ (n i : Nat), i + n = 6 → FG Γ 9 ad 0 0 [(2, .int (nI (i + 1))), (1, .int (smI pa i)), (0, .ref 0)] [] (MW 0 (nI w) (nI h) rm pm (nI (cm w k)) (nI (tt / 6 + 1)) (nI (tt % 6 + 1)) (nI (eoN tt)) ic it iv ie rc wm pq co pa fa ce ts ns es on nx) := by
    intro n
    induction n with
    | zero =>
      intro i hi
      have : i = 6 := by omega
      subst this
      refine go OK [9] 60 ?_
      refine And.intro (fun _ => ?_) (fun q => absurd (show (6 : Int32) < nI 7 by decide) q)
      exact ⟨mean_n64 hP, rfl, hp⟩
    | succ n ih =>
      intro i hi
      refine go OK [9] 60 ?_
      refine And.intro (fun q => ?_) (fun _ => ?_)
      · have := (ltN (a := 6) (by omega) (by omega)).mp q
        omega
      refine ⟨inS (by omega : i + 1 < 7) (by decide), ?_⟩
      rw [nI_clampS (by omega)]
      have key := ih (i + 1) (by omega)
      rw [← nI_p1 (i + 1)] at key
      exact key
  refine go OK [9] 60 ?_
  exact loop 6 0 rfl
