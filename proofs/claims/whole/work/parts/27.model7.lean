/-! ===== the model: the first roll, the best cell ===== -/
theorem fw0_f {D : Nat → Option Nat} {c f : Nat} (h : 1 ≤ f) : fw0 D c f = fwt D c f := if_neg (by omega)
abbrev tX4_first : aTi := fun av X post => ∃ (a b : Int32) (c f : Nat) (wl : Nat → Int32) (D : Nat → Option Nat) (th rm pm ic it iv ie rc : Int32) (k tt w h : Nat) (wm pq co pa fa ce ts ns es on nx : Nat → Int32), av = [.ref 0, .int a, .int b] ∧ a = nI (cm w c) ∧ b = nI f ∧ 1 ≤ f ∧ f ≤ 6 ∧ X = MW th (nI w) (nI h) rm pm (nI (cm w k)) (nI (tt / 6 + 1)) (nI (tt % 6 + 1)) (nI (eoN tt)) ic it iv ie rc wm pq co pa fa ce ts ns es on nx ∧ 2 ≤ w ∧ w ≤ 7 ∧ 2 ≤ h ∧ h ≤ 7 ∧ c % 7 < w ∧ c / 7 < h ∧ RW w h wl wm ∧ frN w h wl k ∧ vt tt = true ∧
  (∀ j u, frN w h wl j → vt u = true → D (j * 36 + u) = fwt (fin (nbF w h wl) 1764 [j * 36 + u]).2 c f) ∧
  ∀ (ic2 it2 iv2 ie2 rc2 : Int32) (fa2 ce2 ts2 ns2 es2 : Nat → Int32), post (oI (frD w h wl D k tt)) (MW th (nI w) (nI h) rm pm (nI (cm w k)) (nI (tt / 6 + 1)) (nI (tt % 6 + 1)) (nI (eoN tt)) ic2 it2 iv2 ie2 rc2 wm pq co pa fa2 ce2 ts2 ns2 es2 on nx)
abbrev rmX4_first : Room := { frames := 5, cells := 0, slots := 0, locals := 113 }
theorem inX4_first_X4 : ∀ w ∈ wsX40, w ∈ wsX4_first := by decide +kernel
def tbX4_first (post : Int32 → List aE → Prop) (ad0 : Nat → Nat) : List (Nat × aO) := [(0, oAL 0 1),
  (1, oIL 1 2),
  (2, oIL 2 3),
  (3, oCi tX4_fewest 3 (some 3) rmX4_fewest.cells rmX4_fewest.slots rmX4_first.cells rmX4_first.slots 6),
  (6, oIS 3 7),
  (7, oC (0) 8),
  (8, oIS 4 10),
  (10, oIL 4 12),
  (12, oC (4) 13),
  (13, oIc_ge 78 16),
  (16, oIL 3 17),
  (17, oIf_le 78 20),
  (20, oAL 0 21),
  (21, oAL 0 22),
  (22, oGet 3 9 25),
  (25, oIL 4 27),
  (27, oCi tX4_beside 3 (some 3) rmX4_beside.cells rmX4_beside.slots rmX4_first.cells rmX4_first.slots 30),
  (30, oIS 5 32),
  (32, oIL 5 34),
  (34, oC (-1) 35),
  (35, oIc_ne 41 38),
  (38, oGo 72),
  (41, oAL 0 42),
  (42, oCv tX4_look 1 (some 3) rmX4_look.cells rmX4_look.slots rmX4_first.cells rmX4_first.slots 45),
  (45, oAL 0 46),
  (46, oIL 4 48),
  (48, oIL 5 50),
  (50, oCv tX4_tip 3 (some 3) rmX4_tip.cells rmX4_tip.slots rmX4_first.cells rmX4_first.slots 53),
  (53, oAL 0 54),
  (54, oCv tX4_spread 1 (some 3) rmX4_spread.cells rmX4_spread.slots rmX4_first.cells rmX4_first.slots 57),
  (57, oAL 0 58),
  (58, oIL 1 59),
  (59, oIL 2 60),
  (60, oCi tX4_fewestTo 3 (some 3) rmX4_fewestTo.cells rmX4_fewestTo.slots rmX4_first.cells rmX4_first.slots 63),
  (63, oIL 3 64),
  (64, oC (1) 65),
  (65, oIsub 66),
  (66, oIc_ne 72 69),
  (69, oIL 4 71),
  (71, oRi post ad0 rmX4_first.cells rmX4_first.slots),
  (72, oInc 4 1 75),
  (75, oGo 10),
  (78, oC (-1) 79),
  (79, oRi post ad0 rmX4_first.cells rmX4_first.slots)]
set_option maxRecDepth 20000 in
theorem okX4_first {Γ : aΓ} {post : Int32 → List aE → Prop} {ad0 : Nat → Nat} {X0 : List aE} (C : FOK Γ cX4_first wsX4_first RX4 6 rmX4_first) (hQ : isQ Γ (va_Qi post (aBk (gK Γ) ad0 X0 (hsz Γ)) (aA (gK Γ) ad0 X0 (hsz Γ))) rmX4_first ad0 X0) (hr : rTy Γ = some .int) : AllS Γ (tbX4_first post ad0) := by
  unfold tbX4_first
  refine al_c (pc := 0) (snd_aload_n C dX4_first_0 rfl) ?_
  refine al_c (pc := 1) (snd_iload_n C dX4_first_1 rfl) ?_
  refine al_c (pc := 2) (snd_iload_n C dX4_first_2 rfl) ?_
  refine al_c (pc := 3) (snd_Ci C (site_V C rfl dX4_first_3 gX4_first_X4_fewest rfl rfl rfl ⟨rfl, by decide +kernel, by decide +kernel, by decide +kernel⟩ ⟨by decide, by decide⟩) mX4_fewest) ?_
  refine al_c (pc := 6) (snd_istore_n C dX4_first_6 rfl (by decide)) ?_
  refine al_c (pc := 7) (snd_iconst C dX4_first_7 (by decide)) ?_
  refine al_c (pc := 8) (snd_istore C dX4_first_8 (by decide)) ?_
  refine al_c (pc := 10) (snd_iload C dX4_first_10) ?_
  refine al_c (pc := 12) (snd_iconst C dX4_first_12 (by decide)) ?_
  refine al_c (pc := 13) (snd_icmp_ge C dX4_first_13 (by decide)) ?_
  refine al_c (pc := 16) (snd_iload_n C dX4_first_16 rfl) ?_
  refine al_c (pc := 17) (snd_if_le C dX4_first_17 (by decide)) ?_
  refine al_c (pc := 20) (snd_aload_n C dX4_first_20 rfl) ?_
  refine al_c (pc := 21) (snd_aload_n C dX4_first_21 rfl) ?_
  refine al_c (pc := 22) (snd_get C dX4_first_22 (ci := 3) (kf := 9) rfl (by decide) inX4_first_X4 rfl (by decide +kernel)) ?_
  refine al_c (pc := 25) (snd_iload C dX4_first_25) ?_
  refine al_c (pc := 27) (snd_Ci C (site_V C rfl dX4_first_27 gX4_first_X4_beside rfl rfl rfl ⟨rfl, by decide +kernel, by decide +kernel, by decide +kernel⟩ ⟨by decide, by decide⟩) mX4_beside) ?_
  refine al_c (pc := 30) (snd_istore C dX4_first_30 (by decide)) ?_
  refine al_c (pc := 32) (snd_iload C dX4_first_32) ?_
  refine al_c (pc := 34) (snd_iconst C dX4_first_34 (by decide)) ?_
  refine al_c (pc := 35) (snd_icmp_ne C dX4_first_35 (by decide)) ?_
  refine al_c (pc := 38) (snd_goto C dX4_first_38 (by decide)) ?_
  refine al_c (pc := 41) (snd_aload_n C dX4_first_41 rfl) ?_
  refine al_c (pc := 42) (snd_Cv C (site_V C rfl dX4_first_42 gX4_first_X4_look rfl rfl rfl ⟨rfl, by decide +kernel, by decide +kernel, by decide +kernel⟩ ⟨by decide, by decide⟩) mX4_look) ?_
  refine al_c (pc := 45) (snd_aload_n C dX4_first_45 rfl) ?_
  refine al_c (pc := 46) (snd_iload C dX4_first_46) ?_
  refine al_c (pc := 48) (snd_iload C dX4_first_48) ?_
  refine al_c (pc := 50) (snd_Cv C (site_V C rfl dX4_first_50 gX4_first_X4_tip rfl rfl rfl ⟨rfl, by decide +kernel, by decide +kernel, by decide +kernel⟩ ⟨by decide, by decide⟩) mX4_tip) ?_
  refine al_c (pc := 53) (snd_aload_n C dX4_first_53 rfl) ?_
  refine al_c (pc := 54) (snd_Cv C (site_V C rfl dX4_first_54 gX4_first_X4_spread rfl rfl rfl ⟨rfl, by decide +kernel, by decide +kernel, by decide +kernel⟩ ⟨by decide, by decide⟩) mX4_spread) ?_
  refine al_c (pc := 57) (snd_aload_n C dX4_first_57 rfl) ?_
  refine al_c (pc := 58) (snd_iload_n C dX4_first_58 rfl) ?_
  refine al_c (pc := 59) (snd_iload_n C dX4_first_59 rfl) ?_
  refine al_c (pc := 60) (snd_Ci C (site_V C rfl dX4_first_60 gX4_first_X4_fewestTo rfl rfl rfl ⟨rfl, by decide +kernel, by decide +kernel, by decide +kernel⟩ ⟨by decide, by decide⟩) mX4_fewestTo) ?_
  refine al_c (pc := 63) (snd_iload_n C dX4_first_63 rfl) ?_
  refine al_c (pc := 64) (snd_iconst C dX4_first_64 (by decide)) ?_
  refine al_c (pc := 65) (snd_isub C dX4_first_65) ?_
  refine al_c (pc := 66) (snd_icmp_ne C dX4_first_66 (by decide)) ?_
  refine al_c (pc := 69) (snd_iload C dX4_first_69) ?_
  refine al_c (pc := 71) (snd_Ri C hQ hr dX4_first_71) ?_
  refine al_c (pc := 72) (snd_iinc C dX4_first_72 (by decide) (by decide)) ?_
  refine al_c (pc := 75) (snd_goto C dX4_first_75 (by decide)) ?_
  refine al_c (pc := 78) (snd_iconst C dX4_first_78 (by decide)) ?_
  refine al_c (pc := 79) (snd_Ri C hQ hr dX4_first_79) ?_
  exact al_0
set_option maxHeartbeats 1000000 in
set_option maxRecDepth 100000 in
theorem mX4_first : aMi yX4_first wsX4_first rmX4_first tX4_first := by
  refine aMi_of (by decide +kernel) rfl rfl (by intro av X post hT; obtain ⟨a, b, c, f, wl, D, th, rm, pm, ic, it, iv, ie, rc, k, tt, w, h, wm, pq, co, pa, fa, ce, ts, ns, es, on, nx, rfl, rfl, rfl, hf1, hf6, rfl, hw2, hw, hh2, hh, hc1, hc2, hRW, hfr, hv, hD, hp⟩ := hT; exact Nat.le_of_ble_eq_true rfl) ?_
  intro Γ ad av X post C hQ hr hT
  obtain ⟨a, b, c, f, wl, D, th, rm, pm, ic, it, iv, ie, rc, k, tt, w, h, wm, pq, co, pa, fa, ce, ts, ns, es, on, nx, rfl, rfl, rfl, hf1, hf6, rfl, hw2, hw, hh2, hh, hc1, hc2, hRW, hfr, hv, hD, hp⟩ := hT
  have OK := okX4_first C hQ hr
  have hlt : ∀ j u, frN w h wl j → vt u = true → ∀ r, D (j * 36 + u) = some r → r < 5000 := by
    intro j u h1 h2 r hr
    rw [hD j u h1 h2] at hr
    exact fwt_lt (bS_one hw hh h2 h1).2 c f r hr
  refine go OK [10] 60 ?_
  refine ⟨_, _, c, f, wl, _, _, _, _, _, _, _, _, _, _, _, _, _, _, _, _, _, _, _, _, _, _, _, rfl, rfl, rfl, hf6, rfl, hw2, hw, hh2, hh, hc1, hc2, hRW, hfr, hv, ?_⟩
  rw [fw0_f hf1, ← hD k tt hfr hv]
  intro ic2 it2 iv2 ie2 rc2 fa2 ce2 ts2 ns2 es2
  cases eD : D (k * 36 + tt) with
  | none =>
    have e0 : frD w h wl D k tt = none := by unfold frD; rw [eD]
    rw [e0] at hp
    refine go OK [] 60 ?_
    refine And.intro (fun q => absurd q (show ¬ (4 : Int32) ≤ 0 by decide)) (fun _ => ?_)
    refine And.intro (fun _ => ?_) (fun q => absurd (show (-1 : Int32) ≤ 0 by decide) q)
    exact ⟨rfl, hp _ _ _ _ _ _ _ _ _ _⟩
  | some x =>
    have hx := hlt k tt hfr hv x eD
    cases x with
    | zero =>
      have e0 : frD w h wl D k tt = none := by unfold frD; rw [eD]
      rw [e0] at hp
      refine go OK [] 60 ?_
      refine And.intro (fun q => absurd q (show ¬ (4 : Int32) ≤ 0 by decide)) (fun _ => ?_)
      refine And.intro (fun _ => ?_) (fun q => absurd (show nI 0 ≤ 0 by decide) q)
      exact ⟨rfl, hp _ _ _ _ _ _ _ _ _ _⟩
    | succ l =>
      have e0 : frD w h wl D k tt = frF (frP w h wl D k tt l) 4 0 := by unfold frD; rw [eD]
      rw [e0] at hp
      have loop : ∀ (n d : Nat) (ic it iv ie rc : Int32) (fa ce ts ns es : Nat → Int32), d + n = 4 → frF (frP w h wl D k tt l) 4 0 = frF (frP w h wl D k tt l) n d →
          FG Γ 10 ad 0 0 [(4, .int (nI d)), (3, .int (nI (l + 1))), (0, .ref 0), (1, .int (nI (cm w c))), (2, .int (nI f))] [] (MW th (nI w) (nI h) rm pm (nI (cm w k)) (nI (tt / 6 + 1)) (nI (tt % 6 + 1)) (nI (eoN tt)) ic it iv ie rc wm pq co pa fa ce ts ns es on nx) := by
        intro n
        induction n with
        | zero =>
          intro d ic it iv ie rc fa ce ts ns es hd he
          have : d = 4 := by omega
          subst this
          refine go OK [10] 80 ?_
          refine And.intro (fun _ => ?_) (fun q => absurd (show (4 : Int32) ≤ nI 4 by decide) q)
          refine ⟨rfl, ?_⟩
          rw [he] at hp
          exact hp _ _ _ _ _ _ _ _ _ _
        | succ n ih =>
          intro d ic it iv ie rc fa ce ts ns es hd he
          have no : frP w h wl D k tt l d = false → ∀ (ic it iv ie rc : Int32) (fa ce ts ns es : Nat → Int32), FG Γ 10 ad 0 0 [(4, .int (nI d + 1)), (3, .int (nI (l + 1))), (0, .ref 0), (1, .int (nI (cm w c))), (2, .int (nI f))] [] (MW th (nI w) (nI h) rm pm (nI (cm w k)) (nI (tt / 6 + 1)) (nI (tt % 6 + 1)) (nI (eoN tt)) ic it iv ie rc wm pq co pa fa ce ts ns es on nx) := fun z ic it iv ie rc fa ce ts ns es => by
            have key := ih (d + 1) ic it iv ie rc fa ce ts ns es (by omega) (by rw [he, frF, if_neg (by rw [z]; exact Bool.false_ne_true)])
            rw [← nI_p1 d] at key
            exact key
          refine go OK [10] 80 ?_
          refine And.intro (fun q => ?_) (fun q => ?_)
          · have := (leN (a := 4) (by omega) (by omega)).mp q
            omega
          refine And.intro (fun q2 => ?_) (fun q2 => ?_)
          · have := (leN (a := l + 1) (b := 0) (by omega) (by omega)).mp q2
            omega
          have hd4 : d < 4 := by omega
          refine ⟨_, _, k, d, wl, _, _, _, _, _, _, _, _, _, _, _, _, _, _, _, _, _, _, _, _, _, _, _, rfl, rfl, rfl, rfl, hw2, hw, hh2, hh, hfr.1, hfr.2.1, hd4, hRW, ?_⟩
          refine And.intro (fun q3 => ?_) (fun q3 => ?_)
          · cases e : nxt w h wl k d with
            | none => exact absurd ((oJ_m1 hw hh).mpr e) q3
            | some m =>
              have hm := nxt_fr e
              have hrv := rlN_vt hv hd4
              have hO := okQ_of (wl := wl) hw hh hrv hm
              have hDm := hD m (rlN tt d) hm hrv
              have hlm := hlt m (rlN tt d) hm hrv
              refine ⟨_, _, _, _, _, _, _, _, _, _, _, _, _, _, _, _, _, _, _, _, _, _, _, _, _, rfl, rfl, ?_⟩
              refine ⟨_, _, d, tt, _, _, _, _, _, _, _, _, _, _, _, _, _, _, _, _, _, _, _, _, _, _, _, _, _, rfl, rfl, hd4, hv, rfl, rfl, rfl, rfl, ?_⟩
              refine ⟨m, rlN tt d, wl, _, _, _, _, _, _, _, _, _, _, _, _, _, _, _, _, _, _, _, _, _, _, _, rfl, rfl, rfl, rfl, rfl, rfl, hw2, hw, hh2, hh, hRW, hm, hrv, ?_⟩
              obtain ⟨D2, hD2⟩ : ∃ D2, D2 = fin (nbF w h wl) 1764 [m * 36 + rlN tt d] := ⟨_, rfl⟩
              rw [← hD2] at hDm hO ⊢
              intro ic3 it3 iv3 ie3 rc3 fa3 ce3 ts3 ns3 es3 hR
              refine ⟨_, _, c, f, D2, _, _, _, _, _, _, _, _, _, _, _, _, _, _, _, _, _, _, _, _, _, _, _, rfl, rfl, rfl, hf6, rfl, hw, hh, hc1, hc2, hO, hR, ?_⟩
              rw [fw0_f hf1, ← hDm]
              have e3 : oI (D (m * 36 + rlN tt d)) = nI l ↔ D (m * 36 + rlN tt d) = some l := oI_eq (fun r hr => by have := hlm r hr; omega) (by omega)
              refine And.intro (fun q4 => ?_) (fun q4 => ?_)
              · refine FG_sub [0, 2, 3, 4, 5] rfl (no ?_ _ _ _ _ _ _ _ _ _ _)
                unfold frP
                rw [e]
                exact decide_eq_false (fun z => q4 ((e3.mpr z).trans (nI_pred l).symm))
              · refine ⟨rfl, ?_⟩
                have : frP w h wl D k tt l d = true := by
                  unfold frP
                  rw [e]
                  exact decide_eq_true (e3.mp (q4.trans (nI_pred l)))
                rw [he, frF, if_pos this] at hp
                exact hp _ _ _ _ _ _ _ _ _ _
          · have e := (oJ_m1 hw hh).mp q3
            exact FG_sub [0, 2, 3, 4, 5] rfl (no (by unfold frP; rw [e]) _ _ _ _ _ _ _ _ _ _)
      exact loop 4 0 _ _ _ _ _ _ _ _ _ _ rfl rfl
abbrev tX4_firstRoll : aTi := fun av X post => ∃ (a b g : Int32) (wl : Nat → Int32) (th rm pm ic it iv ie rc : Int32) (k tt w h : Nat) (wm pq co pa fa ce ts ns es on nx : Nat → Int32), av = [.ref 0, .int a, .int b, .int g] ∧ X = MW th (nI w) (nI h) rm pm (nI (cm w k)) (nI (tt / 6 + 1)) (nI (tt % 6 + 1)) (nI (eoN tt)) ic it iv ie rc wm pq co pa fa ce ts ns es on nx ∧ 2 ≤ w ∧ w ≤ 7 ∧ 2 ≤ h ∧ h ≤ 7 ∧ RW w h wl wm ∧ frN w h wl k ∧ vt tt = true ∧
  (¬ (inB a b w h ∧ inR g 1 6) → post 0 (MW 1 (nI w) (nI h) rm pm (nI (cm w k)) (nI (tt / 6 + 1)) (nI (tt % 6 + 1)) (nI (eoN tt)) ic it iv ie rc wm pq co pa fa ce ts ns es on nx)) ∧ ∀ i j f, a = nI i → b = nI j → g = nI f → i < w → j < h → 1 ≤ f → f ≤ 6 → ∃ D : Nat → Option Nat, (∀ j2 u, frN w h wl j2 → vt u = true → D (j2 * 36 + u) = fwt (fin (nbF w h wl) 1764 [j2 * 36 + u]).2 (j * 7 + i) f) ∧
    ∀ (ic2 it2 iv2 ie2 rc2 : Int32) (fa2 ce2 ts2 ns2 es2 : Nat → Int32), post (oI (frD w h wl D k tt)) (MW 0 (nI w) (nI h) rm pm (nI (cm w k)) (nI (tt / 6 + 1)) (nI (tt % 6 + 1)) (nI (eoN tt)) ic2 it2 iv2 ie2 rc2 wm pq co pa fa2 ce2 ts2 ns2 es2 on nx)
abbrev rmX4_firstRoll : Room := { frames := 6, cells := 0, slots := 0, locals := 138 }
theorem inX4_firstRoll_X4 : ∀ w ∈ wsX40, w ∈ wsX4_firstRoll := by decide +kernel
def tbX4_firstRoll (post : Int32 → List aE → Prop) (ad0 : Nat → Nat) : List (Nat × aO) := [(0, oAL 0 1),
  (1, oC (0) 2),
  (2, oPut 3 0 5),
  (5, oAL 0 6),
  (6, oIL 1 7),
  (7, oIL 2 8),
  (8, oCi tX4_isCell 3 (some 3) rmX4_isCell.cells rmX4_isCell.slots rmX4_firstRoll.cells rmX4_firstRoll.slots 11),
  (11, oIf_eq 37 14),
  (14, oIL 3 15),
  (15, oCi tX4_isFace 1 none rmX4_isFace.cells rmX4_isFace.slots rmX4_firstRoll.cells rmX4_firstRoll.slots 18),
  (18, oIf_eq 37 21),
  (21, oAL 0 22),
  (22, oAL 0 23),
  (23, oGet 3 1 26),
  (26, oIL 2 27),
  (27, oImul 28),
  (28, oIL 1 29),
  (29, oIadd 30),
  (30, oIL 3 31),
  (31, oCi tX4_first 3 (some 3) rmX4_first.cells rmX4_first.slots rmX4_firstRoll.cells rmX4_firstRoll.slots 34),
  (34, oGo 42),
  (37, oAL 0 38),
  (38, oC (1) 39),
  (39, oCi tX4_no 2 (some 3) rmX4_no.cells rmX4_no.slots rmX4_firstRoll.cells rmX4_firstRoll.slots 42),
  (42, oRi post ad0 rmX4_firstRoll.cells rmX4_firstRoll.slots)]
set_option maxRecDepth 20000 in
theorem okX4_firstRoll {Γ : aΓ} {post : Int32 → List aE → Prop} {ad0 : Nat → Nat} {X0 : List aE} (C : FOK Γ cX4_firstRoll wsX4_firstRoll RX4 4 rmX4_firstRoll) (hQ : isQ Γ (va_Qi post (aBk (gK Γ) ad0 X0 (hsz Γ)) (aA (gK Γ) ad0 X0 (hsz Γ))) rmX4_firstRoll ad0 X0) (hr : rTy Γ = some .int) : AllS Γ (tbX4_firstRoll post ad0) := by
  unfold tbX4_firstRoll
  refine al_c (pc := 0) (snd_aload_n C dX4_firstRoll_0 rfl) ?_
  refine al_c (pc := 1) (snd_iconst C dX4_firstRoll_1 (by decide)) ?_
  refine al_c (pc := 2) (snd_put C dX4_firstRoll_2 (ci := 3) (kf := 0) rfl (by decide) inX4_firstRoll_X4 tyX4_ok nmX4 rfl rfl rfl (by decide +kernel)) ?_
  refine al_c (pc := 5) (snd_aload_n C dX4_firstRoll_5 rfl) ?_
  refine al_c (pc := 6) (snd_iload_n C dX4_firstRoll_6 rfl) ?_
  refine al_c (pc := 7) (snd_iload_n C dX4_firstRoll_7 rfl) ?_
  refine al_c (pc := 8) (snd_Ci C (site_V C rfl dX4_firstRoll_8 gX4_firstRoll_X4_isCell rfl rfl rfl ⟨rfl, by decide +kernel, by decide +kernel, by decide +kernel⟩ ⟨by decide, by decide⟩) mX4_isCell) ?_
  refine al_c (pc := 11) (snd_if_eq C dX4_firstRoll_11 (by decide)) ?_
  refine al_c (pc := 14) (snd_iload_n C dX4_firstRoll_14 rfl) ?_
  refine al_c (pc := 15) (snd_Ci C (site_S C dX4_firstRoll_15 gX4_firstRoll_X4_isFace rfl rfl rfl ⟨by decide +kernel, by decide +kernel, by decide +kernel⟩ ⟨by decide, by decide⟩) mX4_isFace) ?_
  refine al_c (pc := 18) (snd_if_eq C dX4_firstRoll_18 (by decide)) ?_
  refine al_c (pc := 21) (snd_aload_n C dX4_firstRoll_21 rfl) ?_
  refine al_c (pc := 22) (snd_aload_n C dX4_firstRoll_22 rfl) ?_
  refine al_c (pc := 23) (snd_get C dX4_firstRoll_23 (ci := 3) (kf := 1) rfl (by decide) inX4_firstRoll_X4 rfl (by decide +kernel)) ?_
  refine al_c (pc := 26) (snd_iload_n C dX4_firstRoll_26 rfl) ?_
  refine al_c (pc := 27) (snd_imul C dX4_firstRoll_27) ?_
  refine al_c (pc := 28) (snd_iload_n C dX4_firstRoll_28 rfl) ?_
  refine al_c (pc := 29) (snd_iadd C dX4_firstRoll_29) ?_
  refine al_c (pc := 30) (snd_iload_n C dX4_firstRoll_30 rfl) ?_
  refine al_c (pc := 31) (snd_Ci C (site_V C rfl dX4_firstRoll_31 gX4_firstRoll_X4_first rfl rfl rfl ⟨rfl, by decide +kernel, by decide +kernel, by decide +kernel⟩ ⟨by decide, by decide⟩) mX4_first) ?_
  refine al_c (pc := 34) (snd_goto C dX4_firstRoll_34 (by decide)) ?_
  refine al_c (pc := 37) (snd_aload_n C dX4_firstRoll_37 rfl) ?_
  refine al_c (pc := 38) (snd_iconst C dX4_firstRoll_38 (by decide)) ?_
  refine al_c (pc := 39) (snd_Ci C (site_V C rfl dX4_firstRoll_39 gX4_firstRoll_X4_no rfl rfl rfl ⟨rfl, by decide +kernel, by decide +kernel, by decide +kernel⟩ ⟨by decide, by decide⟩) mX4_no) ?_
  refine al_c (pc := 42) (snd_Ri C hQ hr dX4_firstRoll_42) ?_
  exact al_0
set_option maxHeartbeats 1000000 in
set_option maxRecDepth 100000 in
theorem mX4_firstRoll : aMi yX4_firstRoll wsX4_firstRoll rmX4_firstRoll tX4_firstRoll := by
  refine aMi_of (by decide +kernel) rfl rfl (by intro av X post hT; obtain ⟨a, b, g, wl, th, rm, pm, ic, it, iv, ie, rc, k, tt, w, h, wm, pq, co, pa, fa, ce, ts, ns, es, on, nx, rfl, rfl, hw2, hw, hh2, hh, hRW, hfr, hv, h1, h2⟩ := hT; exact Nat.le_of_ble_eq_true rfl) ?_
  intro Γ ad av X post C hQ hr hT
  obtain ⟨a, b, g, wl, th, rm, pm, ic, it, iv, ie, rc, k, tt, w, h, wm, pq, co, pa, fa, ce, ts, ns, es, on, nx, rfl, rfl, hw2, hw, hh2, hh, hRW, hfr, hv, h1, h2⟩ := hT
  have OK := okX4_firstRoll C hQ hr
  refine go OK [] 60 ?_
  refine ⟨_, _, _, _, _, _, _, _, _, _, _, _, _, _, _, _, _, _, _, _, _, _, _, _, _, rfl, rfl, hw2, hw, hh2, hh, fun q => ?_, fun q => ?_⟩
  · refine And.intro (fun q => absurd q (by decide)) (fun _ => ?_)
    refine ⟨_, rfl, fun q2 => ?_, fun q2 => ?_⟩
    · refine And.intro (fun q => absurd q (by decide)) (fun _ => ?_)
      obtain ⟨i, j, rfl, rfl, hi, hj⟩ := q
      obtain ⟨f, rfl, f1, f2⟩ := q2
      have hb := ob_at hw hi hj
      obtain ⟨D, hD, hp⟩ := h2 i j f rfl rfl rfl hi hj f1 f2
      exact ⟨_, _, j * 7 + i, f, wl, D, _, _, _, _, _, _, _, _, _, _, _, _, _, _, _, _, _, _, _, _, _, _, _, rfl, by rw [wI, cm_at (by omega)], rfl, f1, f2, rfl, hw2, hw, hh2, hh, hb.1, hb.2, hRW, hfr, hv, hD, fun ic2 it2 iv2 ie2 rc2 fa2 ce2 ts2 ns2 es2 => ⟨rfl, hp ic2 it2 iv2 ie2 rc2 fa2 ce2 ts2 ns2 es2⟩⟩
    · refine And.intro (fun _ => ?_) (fun q => absurd rfl q)
      exact ⟨_, _, _, _, _, _, _, _, _, _, _, _, _, _, _, _, _, _, _, _, _, _, _, _, _, _, rfl, rfl, rfl, h1 (fun z => q2 z.2)⟩
  · refine And.intro (fun _ => ?_) (fun q => absurd rfl q)
    exact ⟨_, _, _, _, _, _, _, _, _, _, _, _, _, _, _, _, _, _, _, _, _, _, _, _, _, _, rfl, rfl, rfl, h1 (fun z => q z.1)⟩
theorem RW_k7 {w h c : Nat} {wl wm : Nat → Int32} (hw : 1 ≤ w) (hR : RW w h wl wm) (hc : c < w * h) : wm c = wl (k7 w c) := by
  have h1 := hR (c % w) (c / w) (Nat.mod_lt c hw) ((Nat.div_lt_iff_lt_mul hw).mpr (by rw [Nat.mul_comm]; exact hc))
  rw [Nat.div_add_mod] at h1
  exact h1
abbrev tX4_best : aTi := fun av X post => ∃ (a : Int32) (f : Nat) (wl : Nat → Int32) (p : Nat → Option Nat) (th rm pm ic it iv ie rc : Int32) (k tt w h : Nat) (wm pq co pa fa ce ts ns es on nx : Nat → Int32), av = [.ref 0, .int a] ∧ a = nI f ∧ 1 ≤ f ∧ f ≤ 6 ∧ X = MW th (nI w) (nI h) rm pm (nI (cm w k)) (nI (tt / 6 + 1)) (nI (tt % 6 + 1)) (nI (eoN tt)) ic it iv ie rc wm pq co pa fa ce ts ns es on nx ∧ 2 ≤ w ∧ w ≤ 7 ∧ 2 ≤ h ∧ h ≤ 7 ∧ RW w h wl wm ∧ k % 7 < w ∧ k / 7 < h ∧
  (∀ c, c < w * h → ¬ wm c = 0 → p c = none) ∧ (∀ c, c < w * h → wm c = 0 → p c = fwt (fin (nbF w h wl) 1764 [k7 w c * 36 + 1]).2 k f) ∧ (∀ c y, p c = some y → y < 5000) ∧
  ∀ (ic2 it2 iv2 ie2 rc2 : Int32) (fa2 ce2 ts2 ns2 es2 : Nat → Int32), post (oI ((bpL p (w * h)).map Prod.fst)) (MW th (nI w) (nI h) rm pm (nI (cm w k)) (nI (tt / 6 + 1)) (nI (tt % 6 + 1)) (nI (eoN tt)) ic2 it2 iv2 ie2 rc2 wm pq co pa fa2 ce2 ts2 ns2 es2 on nx)
abbrev rmX4_best : Room := { frames := 4, cells := 0, slots := 0, locals := 91 }
theorem inX4_best_X4 : ∀ w ∈ wsX40, w ∈ wsX4_best := by decide +kernel
def tbX4_best (post : Int32 → List aE → Prop) (ad0 : Nat → Nat) : List (Nat × aO) := [(0, oC (-1) 1),
  (1, oIS 2 2),
  (2, oC (-1) 3),
  (3, oIS 3 4),
  (4, oC (0) 5),
  (5, oIS 4 7),
  (7, oIL 4 9),
  (9, oAL 0 10),
  (10, oGet 3 1 13),
  (13, oAL 0 14),
  (14, oGet 3 2 17),
  (17, oImul 18),
  (18, oIc_ge 87 21),
  (21, oAL 0 22),
  (22, oGet 3 3 25),
  (25, oIL 4 27),
  (27, oZald 28),
  (28, oIf_eq 34 31),
  (31, oGo 81),
  (34, oAL 0 35),
  (35, oIL 4 37),
  (37, oCv tX4_lookFirst 2 (some 3) rmX4_lookFirst.cells rmX4_lookFirst.slots rmX4_best.cells rmX4_best.slots 40),
  (40, oAL 0 41),
  (41, oCv tX4_spread 1 (some 3) rmX4_spread.cells rmX4_spread.slots rmX4_best.cells rmX4_best.slots 44),
  (44, oAL 0 45),
  (45, oAL 0 46),
  (46, oGet 3 9 49),
  (49, oIL 1 50),
  (50, oCi tX4_fewestTo 3 (some 3) rmX4_fewestTo.cells rmX4_fewestTo.slots rmX4_best.cells rmX4_best.slots 53),
  (53, oIS 5 55),
  (55, oIL 5 57),
  (57, oC (-1) 58),
  (58, oIc_eq 81 61),
  (61, oIL 3 62),
  (62, oC (-1) 63),
  (63, oIc_eq 75 66),
  (66, oIL 5 68),
  (68, oIL 3 69),
  (69, oIc_lt 75 72),
  (72, oGo 81),
  (75, oIL 4 77),
  (77, oIS 2 78),
  (78, oIL 5 80),
  (80, oIS 3 81),
  (81, oInc 4 1 84),
  (84, oGo 7),
  (87, oIL 2 88),
  (88, oRi post ad0 rmX4_best.cells rmX4_best.slots)]
set_option maxRecDepth 20000 in
theorem okX4_best {Γ : aΓ} {post : Int32 → List aE → Prop} {ad0 : Nat → Nat} {X0 : List aE} (C : FOK Γ cX4_best wsX4_best RX4 6 rmX4_best) (hQ : isQ Γ (va_Qi post (aBk (gK Γ) ad0 X0 (hsz Γ)) (aA (gK Γ) ad0 X0 (hsz Γ))) rmX4_best ad0 X0) (hr : rTy Γ = some .int) : AllS Γ (tbX4_best post ad0) := by
  unfold tbX4_best
  refine al_c (pc := 0) (snd_iconst C dX4_best_0 (by decide)) ?_
  refine al_c (pc := 1) (snd_istore_n C dX4_best_1 rfl (by decide)) ?_
  refine al_c (pc := 2) (snd_iconst C dX4_best_2 (by decide)) ?_
  refine al_c (pc := 3) (snd_istore_n C dX4_best_3 rfl (by decide)) ?_
  refine al_c (pc := 4) (snd_iconst C dX4_best_4 (by decide)) ?_
  refine al_c (pc := 5) (snd_istore C dX4_best_5 (by decide)) ?_
  refine al_c (pc := 7) (snd_iload C dX4_best_7) ?_
  refine al_c (pc := 9) (snd_aload_n C dX4_best_9 rfl) ?_
  refine al_c (pc := 10) (snd_get C dX4_best_10 (ci := 3) (kf := 1) rfl (by decide) inX4_best_X4 rfl (by decide +kernel)) ?_
  refine al_c (pc := 13) (snd_aload_n C dX4_best_13 rfl) ?_
  refine al_c (pc := 14) (snd_get C dX4_best_14 (ci := 3) (kf := 2) rfl (by decide) inX4_best_X4 rfl (by decide +kernel)) ?_
  refine al_c (pc := 17) (snd_imul C dX4_best_17) ?_
  refine al_c (pc := 18) (snd_icmp_ge C dX4_best_18 (by decide)) ?_
  refine al_c (pc := 21) (snd_aload_n C dX4_best_21 rfl) ?_
  refine al_c (pc := 22) (snd_get C dX4_best_22 (ci := 3) (kf := 3) rfl (by decide) inX4_best_X4 rfl (by decide +kernel)) ?_
  refine al_c (pc := 25) (snd_iload C dX4_best_25) ?_
  refine al_c (pc := 27) (snd_baload C dX4_best_27) ?_
  refine al_c (pc := 28) (snd_if_eq C dX4_best_28 (by decide)) ?_
  refine al_c (pc := 31) (snd_goto C dX4_best_31 (by decide)) ?_
  refine al_c (pc := 34) (snd_aload_n C dX4_best_34 rfl) ?_
  refine al_c (pc := 35) (snd_iload C dX4_best_35) ?_
  refine al_c (pc := 37) (snd_Cv C (site_V C rfl dX4_best_37 gX4_best_X4_lookFirst rfl rfl rfl ⟨rfl, by decide +kernel, by decide +kernel, by decide +kernel⟩ ⟨by decide, by decide⟩) mX4_lookFirst) ?_
  refine al_c (pc := 40) (snd_aload_n C dX4_best_40 rfl) ?_
  refine al_c (pc := 41) (snd_Cv C (site_V C rfl dX4_best_41 gX4_best_X4_spread rfl rfl rfl ⟨rfl, by decide +kernel, by decide +kernel, by decide +kernel⟩ ⟨by decide, by decide⟩) mX4_spread) ?_
  refine al_c (pc := 44) (snd_aload_n C dX4_best_44 rfl) ?_
  refine al_c (pc := 45) (snd_aload_n C dX4_best_45 rfl) ?_
  refine al_c (pc := 46) (snd_get C dX4_best_46 (ci := 3) (kf := 9) rfl (by decide) inX4_best_X4 rfl (by decide +kernel)) ?_
  refine al_c (pc := 49) (snd_iload_n C dX4_best_49 rfl) ?_
  refine al_c (pc := 50) (snd_Ci C (site_V C rfl dX4_best_50 gX4_best_X4_fewestTo rfl rfl rfl ⟨rfl, by decide +kernel, by decide +kernel, by decide +kernel⟩ ⟨by decide, by decide⟩) mX4_fewestTo) ?_
  refine al_c (pc := 53) (snd_istore C dX4_best_53 (by decide)) ?_
  refine al_c (pc := 55) (snd_iload C dX4_best_55) ?_
  refine al_c (pc := 57) (snd_iconst C dX4_best_57 (by decide)) ?_
  refine al_c (pc := 58) (snd_icmp_eq C dX4_best_58 (by decide)) ?_
  refine al_c (pc := 61) (snd_iload_n C dX4_best_61 rfl) ?_
  refine al_c (pc := 62) (snd_iconst C dX4_best_62 (by decide)) ?_
  refine al_c (pc := 63) (snd_icmp_eq C dX4_best_63 (by decide)) ?_
  refine al_c (pc := 66) (snd_iload C dX4_best_66) ?_
  refine al_c (pc := 68) (snd_iload_n C dX4_best_68 rfl) ?_
  refine al_c (pc := 69) (snd_icmp_lt C dX4_best_69 (by decide)) ?_
  refine al_c (pc := 72) (snd_goto C dX4_best_72 (by decide)) ?_
  refine al_c (pc := 75) (snd_iload C dX4_best_75) ?_
  refine al_c (pc := 77) (snd_istore_n C dX4_best_77 rfl (by decide)) ?_
  refine al_c (pc := 78) (snd_iload C dX4_best_78) ?_
  refine al_c (pc := 80) (snd_istore_n C dX4_best_80 rfl (by decide)) ?_
  refine al_c (pc := 81) (snd_iinc C dX4_best_81 (by decide) (by decide)) ?_
  refine al_c (pc := 84) (snd_goto C dX4_best_84 (by decide)) ?_
  refine al_c (pc := 87) (snd_iload_n C dX4_best_87 rfl) ?_
  refine al_c (pc := 88) (snd_Ri C hQ hr dX4_best_88) ?_
  exact al_0
set_option maxHeartbeats 1000000 in
set_option maxRecDepth 100000 in
theorem mX4_best : aMi yX4_best wsX4_best rmX4_best tX4_best := by
  refine aMi_of (by decide +kernel) rfl rfl (by intro av X post hT; obtain ⟨a, f, wl, p, th, rm, pm, ic, it, iv, ie, rc, k, tt, w, h, wm, pq, co, pa, fa, ce, ts, ns, es, on, nx, rfl, rfl, hf1, hf6, rfl, hw2, hw, hh2, hh, hRW, hk1, hk2, hp1, hp2, hp3, hp⟩ := hT; exact Nat.le_of_ble_eq_true rfl) ?_
  intro Γ ad av X post C hQ hr hT
  obtain ⟨a, f, wl, p, th, rm, pm, ic, it, iv, ie, rc, k, tt, w, h, wm, pq, co, pa, fa, ce, ts, ns, es, on, nx, rfl, rfl, hf1, hf6, rfl, hw2, hw, hh2, hh, hRW, hk1, hk2, hp1, hp2, hp3, hp⟩ := hT
  have OK := okX4_best C hQ hr
  have hwh := wh_le hw hh
  have loop : ∀ (n c : Nat) (ic it iv ie rc : Int32) (fa ce ts ns es : Nat → Int32), c ≤ w * h → w * h - c < n → FG Γ 7 ad 0 0 [(4, .int (nI c)), (3, .int (oI ((bpL p c).map Prod.snd))), (2, .int (oI ((bpL p c).map Prod.fst))), (0, .ref 0), (1, .int (nI f))] [] (MW th (nI w) (nI h) rm pm (nI (cm w k)) (nI (tt / 6 + 1)) (nI (tt % 6 + 1)) (nI (eoN tt)) ic it iv ie rc wm pq co pa fa ce ts ns es on nx) := by
    intro n
    induction n with
    | zero => intro c _ _ _ _ _ _ _ _ _ _ _ h; omega
    | succ n ih =>
      intro c ic it iv ie rc fa ce ts ns es hc hn
      refine go OK [7] 100 ?_
      refine And.intro (fun q => ?_) (fun q => ?_)
      · have q : nI w * nI h ≤ nI c := q
        rw [mulI] at q
        have q := (leN (by omega) (by omega)).mp q
        have : c = w * h := by omega
        subst this
        exact ⟨rfl, hp _ _ _ _ _ _ _ _ _ _⟩
      have hlt : c < w * h := by
        rcases Nat.lt_or_ge c (w * h) with z | z
        · exact z
        · exact absurd (show nI w * nI h ≤ nI c by rw [mulI]; exact (leN (by omega) (by omega)).mpr z) q
      have key := fun ic it iv ie rc fa ce ts ns es => ih (c + 1) ic it iv ie rc fa ce ts ns es (by omega) (by omega)
      rw [← nI_p1 c, show bpL p (c + 1) = bpT (bpL p c) c (p c) from rfl] at key
      refine ⟨inS (by omega : c < 49) (by decide), ?_⟩
      rw [nI_clampS (by omega)]
      refine And.intro (fun z => ?_) (fun z => ?_)
      · obtain ⟨c1, c2, c3⟩ := cm_k7 (c := c) (by omega) hw
        have hfc : frN w h wl (k7 w c) := ⟨c2, k7_h (by omega) hw hlt, (RW_k7 (by omega) hRW hlt).symm.trans z⟩
        have v1 : vt 1 = true := by decide
        have hO := okQ_of (wl := wl) hw hh v1 hfc
        have hpc := hp2 c hlt z
        refine ⟨_, _, _, _, _, _, _, _, _, _, _, _, _, _, _, _, _, _, _, _, _, _, _, _, _, _, rfl, rfl, ?_⟩
        refine ⟨k7 w c, 1, wl, _, _, _, _, _, _, _, _, _, _, _, _, _, _, _, _, _, _, _, _, _, _, _, rfl, by rw [c1], by decide, by decide, by decide, rfl, hw2, hw, hh2, hh, hRW, hfc, v1, ?_⟩
        obtain ⟨D2, hD2⟩ : ∃ D2, D2 = fin (nbF w h wl) 1764 [k7 w c * 36 + 1] := ⟨_, rfl⟩
        rw [← hD2] at hpc hO ⊢
        intro ic3 it3 iv3 ie3 rc3 fa3 ce3 ts3 ns3 es3 hR
        refine ⟨_, _, k, f, D2, _, _, _, _, _, _, _, _, _, _, _, _, _, _, _, _, _, _, _, _, _, _, _, rfl, rfl, rfl, hf6, rfl, hw, hh, hk1, hk2, hO, hR, ?_⟩
        rw [fw0_f hf1, ← hpc]
        cases ep : p c with
        | none =>
          rw [ep] at key
          refine And.intro (fun _ => ?_) (fun q => absurd rfl q)
          exact FG_sub [0, 2, 3, 4, 5] rfl (key _ _ _ _ _ _ _ _ _ _)
        | some y =>
          have hy := hp3 c y ep
          rw [ep] at key
          refine And.intro (fun q => absurd q (nI_m1 (by omega : y < 10000))) (fun _ => ?_)
          cases es2 : bpL p c with
          | none =>
            rw [es2] at key
            refine And.intro (fun _ => ?_) (fun q => absurd rfl q)
            have key : ∀ ic it iv ie rc fa ce ts ns es, FG Γ 7 ad 0 0 [(4, .int (nI c + 1)), (3, .int (nI y)), (2, .int (nI c)), (0, .ref 0), (1, .int (nI f))] [] (MW th (nI w) (nI h) rm pm (nI (cm w k)) (nI (tt / 6 + 1)) (nI (tt % 6 + 1)) (nI (eoN tt)) ic it iv ie rc wm pq co pa fa ce ts ns es on nx) := key
            exact FG_sub [0, 1, 2, 4, 5] rfl (key _ _ _ _ _ _ _ _ _ _)
          | some bl =>
            obtain ⟨b0, y0⟩ := bl
            have h0 := bpL_ok hp3 _ b0 y0 es2
            rw [es2] at key
            refine And.intro (fun q => absurd q (nI_m1 (by omega : y0 < 10000))) (fun _ => ?_)
            have ek : bpT (some (b0, y0)) c (some y) = if y < y0 then some (c, y) else some (b0, y0) := rfl
            rw [ek] at key
            refine And.intro (fun q => ?_) (fun q => ?_)
            · have q := (ltN (by omega) (by omega)).mp q
              rw [if_pos q] at key
              have key : ∀ ic it iv ie rc fa ce ts ns es, FG Γ 7 ad 0 0 [(4, .int (nI c + 1)), (3, .int (nI y)), (2, .int (nI c)), (0, .ref 0), (1, .int (nI f))] [] (MW th (nI w) (nI h) rm pm (nI (cm w k)) (nI (tt / 6 + 1)) (nI (tt % 6 + 1)) (nI (eoN tt)) ic it iv ie rc wm pq co pa fa ce ts ns es on nx) := key
              exact FG_sub [0, 1, 2, 4, 5] rfl (key _ _ _ _ _ _ _ _ _ _)
            · have hge : ¬ y < y0 := fun z => q ((ltN (by omega) (by omega)).mpr z)
              rw [if_neg hge] at key
              exact FG_sub [0, 2, 3, 4, 5] rfl (key _ _ _ _ _ _ _ _ _ _)
      · rw [hp1 c hlt z] at key
        exact key _ _ _ _ _ _ _ _ _ _
  refine go OK [7] 40 ?_
  exact loop (w * h + 1) 0 _ _ _ _ _ _ _ _ _ _ (by omega) (by omega)
abbrev tX4_bestPut : aTi := fun av X post => ∃ (a : Int32) (wl : Nat → Int32) (th rm pm ic it iv ie rc : Int32) (k tt w h : Nat) (wm pq co pa fa ce ts ns es on nx : Nat → Int32), av = [.ref 0, .int a] ∧ X = MW th (nI w) (nI h) rm pm (nI (cm w k)) (nI (tt / 6 + 1)) (nI (tt % 6 + 1)) (nI (eoN tt)) ic it iv ie rc wm pq co pa fa ce ts ns es on nx ∧ 2 ≤ w ∧ w ≤ 7 ∧ 2 ≤ h ∧ h ≤ 7 ∧ RW w h wl wm ∧ k % 7 < w ∧ k / 7 < h ∧ (¬ inR a 1 6 → post 0 (MW 1 (nI w) (nI h) rm pm (nI (cm w k)) (nI (tt / 6 + 1)) (nI (tt % 6 + 1)) (nI (eoN tt)) ic it iv ie rc wm pq co pa fa ce ts ns es on nx)) ∧
  ∀ f, a = nI f → 1 ≤ f → f ≤ 6 → ∃ p : Nat → Option Nat, (∀ c, c < w * h → ¬ wm c = 0 → p c = none) ∧ (∀ c, c < w * h → wm c = 0 → p c = fwt (fin (nbF w h wl) 1764 [k7 w c * 36 + 1]).2 k f) ∧ (∀ c y, p c = some y → y < 5000) ∧
    ∀ (ic2 it2 iv2 ie2 rc2 : Int32) (fa2 ce2 ts2 ns2 es2 : Nat → Int32), post (oI ((bpL p (w * h)).map Prod.fst)) (MW 0 (nI w) (nI h) rm pm (nI (cm w k)) (nI (tt / 6 + 1)) (nI (tt % 6 + 1)) (nI (eoN tt)) ic2 it2 iv2 ie2 rc2 wm pq co pa fa2 ce2 ts2 ns2 es2 on nx)
abbrev rmX4_bestPut : Room := { frames := 5, cells := 0, slots := 0, locals := 116 }
theorem inX4_bestPut_X4 : ∀ w ∈ wsX40, w ∈ wsX4_bestPut := by decide +kernel
def tbX4_bestPut (post : Int32 → List aE → Prop) (ad0 : Nat → Nat) : List (Nat × aO) := [(0, oAL 0 1),
  (1, oC (0) 2),
  (2, oPut 3 0 5),
  (5, oIL 1 6),
  (6, oCi tX4_isFace 1 none rmX4_isFace.cells rmX4_isFace.slots rmX4_bestPut.cells rmX4_bestPut.slots 9),
  (9, oIf_eq 20 12),
  (12, oAL 0 13),
  (13, oIL 1 14),
  (14, oCi tX4_best 2 (some 3) rmX4_best.cells rmX4_best.slots rmX4_bestPut.cells rmX4_bestPut.slots 17),
  (17, oGo 25),
  (20, oAL 0 21),
  (21, oC (1) 22),
  (22, oCi tX4_no 2 (some 3) rmX4_no.cells rmX4_no.slots rmX4_bestPut.cells rmX4_bestPut.slots 25),
  (25, oRi post ad0 rmX4_bestPut.cells rmX4_bestPut.slots)]
set_option maxRecDepth 20000 in
theorem okX4_bestPut {Γ : aΓ} {post : Int32 → List aE → Prop} {ad0 : Nat → Nat} {X0 : List aE} (C : FOK Γ cX4_bestPut wsX4_bestPut RX4 2 rmX4_bestPut) (hQ : isQ Γ (va_Qi post (aBk (gK Γ) ad0 X0 (hsz Γ)) (aA (gK Γ) ad0 X0 (hsz Γ))) rmX4_bestPut ad0 X0) (hr : rTy Γ = some .int) : AllS Γ (tbX4_bestPut post ad0) := by
  unfold tbX4_bestPut
  refine al_c (pc := 0) (snd_aload_n C dX4_bestPut_0 rfl) ?_
  refine al_c (pc := 1) (snd_iconst C dX4_bestPut_1 (by decide)) ?_
  refine al_c (pc := 2) (snd_put C dX4_bestPut_2 (ci := 3) (kf := 0) rfl (by decide) inX4_bestPut_X4 tyX4_ok nmX4 rfl rfl rfl (by decide +kernel)) ?_
  refine al_c (pc := 5) (snd_iload_n C dX4_bestPut_5 rfl) ?_
  refine al_c (pc := 6) (snd_Ci C (site_S C dX4_bestPut_6 gX4_bestPut_X4_isFace rfl rfl rfl ⟨by decide +kernel, by decide +kernel, by decide +kernel⟩ ⟨by decide, by decide⟩) mX4_isFace) ?_
  refine al_c (pc := 9) (snd_if_eq C dX4_bestPut_9 (by decide)) ?_
  refine al_c (pc := 12) (snd_aload_n C dX4_bestPut_12 rfl) ?_
  refine al_c (pc := 13) (snd_iload_n C dX4_bestPut_13 rfl) ?_
  refine al_c (pc := 14) (snd_Ci C (site_V C rfl dX4_bestPut_14 gX4_bestPut_X4_best rfl rfl rfl ⟨rfl, by decide +kernel, by decide +kernel, by decide +kernel⟩ ⟨by decide, by decide⟩) mX4_best) ?_
  refine al_c (pc := 17) (snd_goto C dX4_bestPut_17 (by decide)) ?_
  refine al_c (pc := 20) (snd_aload_n C dX4_bestPut_20 rfl) ?_
  refine al_c (pc := 21) (snd_iconst C dX4_bestPut_21 (by decide)) ?_
  refine al_c (pc := 22) (snd_Ci C (site_V C rfl dX4_bestPut_22 gX4_bestPut_X4_no rfl rfl rfl ⟨rfl, by decide +kernel, by decide +kernel, by decide +kernel⟩ ⟨by decide, by decide⟩) mX4_no) ?_
  refine al_c (pc := 25) (snd_Ri C hQ hr dX4_bestPut_25) ?_
  exact al_0
set_option maxHeartbeats 1000000 in
set_option maxRecDepth 100000 in
theorem mX4_bestPut : aMi yX4_bestPut wsX4_bestPut rmX4_bestPut tX4_bestPut := by
  refine aMi_of (by decide +kernel) rfl rfl (by intro av X post hT; obtain ⟨a, wl, th, rm, pm, ic, it, iv, ie, rc, k, tt, w, h, wm, pq, co, pa, fa, ce, ts, ns, es, on, nx, rfl, rfl, hw2, hw, hh2, hh, hRW, hk1, hk2, h1, h2⟩ := hT; exact Nat.le_of_ble_eq_true rfl) ?_
  intro Γ ad av X post C hQ hr hT
  obtain ⟨a, wl, th, rm, pm, ic, it, iv, ie, rc, k, tt, w, h, wm, pq, co, pa, fa, ce, ts, ns, es, on, nx, rfl, rfl, hw2, hw, hh2, hh, hRW, hk1, hk2, h1, h2⟩ := hT
  have OK := okX4_bestPut C hQ hr
  refine go OK [] 60 ?_
  refine ⟨_, rfl, fun q => ?_, fun q => ?_⟩
  · refine And.intro (fun q => absurd q (by decide)) (fun _ => ?_)
    obtain ⟨f, rfl, f1, f2⟩ := q
    obtain ⟨p, p1, p2, p3, hp⟩ := h2 f rfl f1 f2
    exact ⟨_, f, wl, p, _, _, _, _, _, _, _, _, _, _, _, _, _, _, _, _, _, _, _, _, _, _, _, rfl, rfl, f1, f2, rfl, hw2, hw, hh2, hh, hRW, hk1, hk2, p1, p2, p3, fun ic2 it2 iv2 ie2 rc2 fa2 ce2 ts2 ns2 es2 => ⟨rfl, hp ic2 it2 iv2 ie2 rc2 fa2 ce2 ts2 ns2 es2⟩⟩
  · refine And.intro (fun _ => ?_) (fun q => absurd rfl q)
    exact ⟨_, _, _, _, _, _, _, _, _, _, _, _, _, _, _, _, _, _, _, _, _, _, _, _, _, _, rfl, rfl, rfl, h1 q⟩
