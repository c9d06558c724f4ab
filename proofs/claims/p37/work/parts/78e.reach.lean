/-! ===== within reach, ways to lie, the cells beside ===== -/
set_option maxHeartbeats 4000000 in
set_option maxRecDepth 100000 in
theorem lw_381 {Γ : aΓ} {ad0 ad : Nat → Nat} (C : FOK Γ code wsL_law RL 27 room_1) (CX : FOX Γ) (CN : FON ad0 Γ) (hL : isLQ Γ) (had : ∀ i, 1000 ≤ i → ad i = ad0 i) (a b : Nat) (ha : a ≤ 20000) (hb : b ≤ 100000) (k tt w h : Nat) (rm pm fd : Int32) (wl pr fe qu co pa : Nat → Int32) (Z : List aE) (dg : Int64) (v ti : Int32) (D : Nat → Option Nat) (ways : Nat) (hw1 : 1 ≤ w) (hw : w ≤ 7) (hh : h ≤ 7) (kf : kFew k tt w h rm pm wl pr co pa D) (kt : kTop k tt w h rm pm wl pr co pa D)
    (kw : ∀ (fd : Int32) (fe qu : Nat → Int32), tX3_waysToLie [.ref 0] (CW (nI k) (nI tt) rm pm (nI w) (nI h) fd wl pr fe qu co pa) (fun r X2 => r = nI ways ∧ ∃ (fd2 : Int32) (fe2 qu2 : Nat → Int32), X2 = CW (nI k) (nI tt) rm pm (nI w) (nI h) fd2 wl pr fe2 qu2 co pa))
    (kc : ∀ (fd : Int32) (fe qu : Nat → Int32), tX3_cellsWithinReach [.ref 0] (CW (nI k) (nI tt) rm pm (nI w) (nI h) fd wl pr fe qu co pa) (fun r X2 => r = nI (ct (fun c => (ftc D c).isSome) 49) ∧ ∃ (fd2 : Int32) (fe2 qu2 : Nat → Int32), X2 = CW (nI k) (nI tt) rm pm (nI w) (nI h) fd2 wl pr fe2 qu2 co pa))
    (c1 : ∀ m r, ftc D m = some r → r < 5000) (c3 : ∀ m r, ftc D m = some r → apN k m ≤ r ∧ (r - apN k m) % 2 = 0) (c4 : ∀ m, ¬ wl m = 0 → ftc D m = none) (c5 : ∀ d m, d < 4 → nxt w h wl k d = some m → ftc D m = some 1) (hR : ct (fun c => (ftc D c).isSome) 49 = ct2 (qD D) h w) (hW : ct2 (qD D) h w ≤ ways ∧ ways ≤ 12 * ct2 (qD D) h w) (hk : k % 7 < w ∧ k / 7 < h)
    (hK : ∀ (fd : Int32) (fe qu : Nat → Int32), FG Γ 626 ad (a + 470) (b + 2700) [(10, .int (nI (k / 7))), (9, .int (nI (k % 7))), (8, .int (nI h)), (7, .int (nI w)), (5, .long dg), (4, .int v), (3, .int ti), (2, .ref 9), (1, .ref 0), (0, .ref 1000)] [] (CW (nI k) (nI tt) rm pm (nI w) (nI h) fd wl pr fe qu co pa ++ Z)) : FG Γ 381 ad (a + 295) (b + 1720) [(10, .int (nI (k / 7))), (9, .int (nI (k % 7))), (8, .int (nI h)), (7, .int (nI w)), (5, .long dg), (4, .int v), (3, .int ti), (2, .ref 9), (1, .ref 0), (0, .ref 1000)] [] (CW (nI k) (nI tt) rm pm (nI w) (nI h) fd wl pr fe qu co pa ++ Z) := by
  have OK := okL_law C CX CN hL
  have h49 : h * w ≤ 49 := Nat.mul_le_mul hh hw
  have hr49 := ct2_le (qD D) h w
  have st577 : ∀ (g d : Nat), d + g = 4 → ∀ (fd : Int32) (fe qu : Nat → Int32), FG Γ 577 ad (a + 460 + 2 * d) (b + 2650 + 12 * d) [(16, .int (nI d)), (10, .int (nI (k / 7))), (9, .int (nI (k % 7))), (8, .int (nI h)), (7, .int (nI w)), (5, .long dg), (4, .int v), (3, .int ti), (2, .ref 9), (1, .ref 0), (0, .ref 1000)] [] (CW (nI k) (nI tt) rm pm (nI w) (nI h) fd wl pr fe qu co pa ++ Z) := by
    intro g
    induction g with
    | zero =>
      intro d hd fd fe qu
      have : d = 4 := by omega
      subst this
      refine go OK [626] 60 ?_
      refine And.intro (fun _ => ?_) (fun q => absurd (nIge (a := 4) (b := 4) (by decide) (by decide) (Nat.le_refl 4)) q)
      exact FG_to [1, 2, 3, 4, 5, 6, 7, 8, 9, 10] rfl (by omega) (by omega) (hK fd fe qu)
    | succ g ih =>
      intro d hd fd fe qu
      have hd4 : d < 4 := by omega
      have key := fun (fd : Int32) (fe qu : Nat → Int32) => ih (d + 1) (by omega) fd fe qu
      rw [← nI_p1] at key
      refine go OK [577] 60 ?_
      refine And.intro (fun q => absurd ((leN (a := 4) (by decide) (by omega)).mp q) (by omega)) (fun _ => ?_)
      refine gX_of (fs := _) rfl rfl (k_canRoll k tt w h rm pm fd wl pr fe qu co pa hw hh (by omega) d hd4) rfl (by omega) (by omega) ?_ (fun _ _ q => q.elim)
      rintro r X2 ⟨rfl, rfl⟩
      refine ⟨rfl, ?_⟩
      cases hm : nxt w h wl k d with
      | none =>
        refine And.intro (fun _ => ?_) (fun q => absurd rfl q)
        exact FG_wid (by omega) (by omega) (key fd fe qu)
      | some m =>
        refine And.intro (fun q => absurd (show (1 : Int32) = 0 from q) (by decide)) (fun _ => ?_)
        obtain ⟨ex, ey⟩ := nxt_xy hw hk.1 hd4 hm
        obtain ⟨m1, m2, m3⟩ := nxt_fr hm
        have kf2 := kf fd fe qu (m % 7) (m / 7) m1 m2
        rw [← ex, ← ey, show m / 7 * 7 + m % 7 = m by omega, c5 d m hd4 hm] at kf2
        refine ⟨had 1001 (by decide), rfl, had 1001 (by decide), d, rfl, hd4, ?_⟩
        refine ⟨had 1002 (by decide), rfl, had 1002 (by decide), d, rfl, hd4, ?_⟩
        refine gX_of (fs := _) rfl rfl (kf2) rfl (by omega) (by omega) ?_ (fun _ _ q => q.elim)
        rintro r X2 ⟨rfl, fd2, fe2, qu2, rfl⟩
        refine ⟨rfl, ?_⟩
        refine And.intro (fun _ => ?_) (fun q => absurd rfl q)
        exact FG_wid (by omega) (by omega) (key fd2 fe2 qu2)
  have st546 : ∀ (fd : Int32) (fe qu : Nat → Int32), FG Γ 546 ad (a + 450) (b + 2640) [(15, .int (nI ways)), (14, .int (nI (ct2 (qD D) h w))), (10, .int (nI (k / 7))), (9, .int (nI (k % 7))), (8, .int (nI h)), (7, .int (nI w)), (5, .long dg), (4, .int v), (3, .int ti), (2, .ref 9), (1, .ref 0), (0, .ref 1000)] [] (CW (nI k) (nI tt) rm pm (nI w) (nI h) fd wl pr fe qu co pa ++ Z) := by
    intro fd fe qu
    have kc := kc
    rw [hR] at kc
    generalize ct2 (qD D) h w = rc at kc hW hr49 ⊢
    refine go OK [574] 60 ?_
    refine hi_of (fs := _) rfl rfl (kc fd fe qu) rfl (by omega) (by omega) ?_
    rintro r X2 ⟨rfl, fd2, fe2, qu2, rfl⟩
    refine ⟨rfl, ?_⟩
    refine And.intro (fun q => absurd rfl q) (fun _ => ?_)
    refine And.intro (fun q => absurd ((ltN (by omega) (by omega)).mp q) (by omega)) (fun _ => ?_)
    refine And.intro (fun _ => ?_) (fun q => absurd (show nI ways ≤ 12 * nI rc by rw [show (12 : Int32) = nI 12 from rfl, pk_mul]; exact nIge (by omega) (by omega) hW.2) q)
    refine FG_to (ls' := [(10, .int (nI (k / 7))), (9, .int (nI (k % 7))), (8, .int (nI h)), (7, .int (nI w)), (5, .long dg), (4, .int v), (3, .int ti), (2, .ref 9), (1, .ref 0), (0, .ref 1000)]) (k' := a + 460) (n' := b + 2650) [2, 3, 4, 5, 6, 7, 8, 9, 10, 11] rfl (by omega) (by omega) ?_
    refine go OK [577] 60 ?_
    exact st577 4 0 rfl fd2 fe2 qu2
  refine go OK [393] 60 ?_
  refine hi_of (fs := _) rfl rfl (kw fd fe qu) rfl (by omega) (by omega) ?_
  rintro r X2 ⟨rfl, fd2, fe2, qu2, rfl⟩
  refine ⟨rfl, ?_⟩
  exact FG_wid (by omega) (by omega) (lw_393 C CX CN hL a b ha hb k tt w h rm pm fd2 wl pr fe2 qu2 co pa Z dg v ti (nI ways) D hw hh kf kt c1 c3 c4 hk st546)
