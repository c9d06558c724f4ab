/-! ===== the law asks for a way ===== -/
theorem cmp_self (x : Int64) : lg_cmp x x = 0 := by
  simp [lg_cmp]
set_option maxHeartbeats 4000000 in
set_option maxRecDepth 100000 in
theorem lw_662 {Γ : aΓ} {ad0 ad : Nat → Nat} (C : FOK Γ code wsL_law RL 27 room_1) (CX : FOX Γ) (CN : FON ad0 Γ) (hL : isLQ Γ) (a b : Nat) (ha : a ≤ 20000) (hb : b ≤ 100000) (k tt w h : Nat) (rm pm fd : Int32) (wl pr fe qu co pa : Nat → Int32) (Z : List aE) (dg : Int64) (v ti : Int32) (D : Nat → Option Nat) (fw fr : Option Nat) (c r f : Nat) (hc : c < w) (hr : r < h) (kf : kFew k tt w h rm pm wl pr co pa D)
    (kt : ∀ (fd : Int32) (fe qu : Nat → Int32), tX3_fewestRollsWithTop [.ref 0, .int (nI c), .int (nI r), .int (nI f)] (CW (nI k) (nI tt) rm pm (nI w) (nI h) fd wl pr fe qu co pa) (fun r X2 => r = oI fw ∧ ∃ (fd2 : Int32) (fe2 qu2 : Nat → Int32), X2 = CW (nI k) (nI tt) rm pm (nI w) (nI h) fd2 wl pr fe2 qu2 co pa) (fun _ _ => False))
    (kr : ∀ (fd : Int32) (fe qu : Nat → Int32), tX3_firstRoll [.ref 0, .int (nI c), .int (nI r), .int (nI f)] (CW (nI k) (nI tt) rm pm (nI w) (nI h) fd wl pr fe qu co pa) (fun r X2 => r = oI fr ∧ ∃ (fd2 : Int32) (fe2 qu2 : Nat → Int32), X2 = CW (nI k) (nI tt) rm pm (nI w) (nI h) fd2 wl pr fe2 qu2 co pa) (fun _ _ => False))
    (kd : ∀ (fd : Int32) (fe qu : Nat → Int32), tX3_digest [.ref 0] (CW (nI k) (nI tt) rm pm (nI w) (nI h) fd wl pr fe qu co pa) (fun r X2 => r = dg ∧ ∃ (fd2 : Int32) (fe2 qu2 : Nat → Int32), X2 = CW (nI k) (nI tt) rm pm (nI w) (nI h) fd2 wl pr fe2 qu2 co pa))
    (h5 : ∀ l, fw = some l → l < 5000) (h6 : ∀ l, fw = some l → ∃ r2, ftc D (r * 7 + c) = some r2 ∧ r2 ≤ l) (h7 : (fw = none ∧ fr = none) ∨ (fw = some 0 ∧ fr = none) ∨ ∃ l d, fw = some (l + 1) ∧ fr = some d ∧ d < 4)
    (hK : ∀ (fd : Int32) (fe qu : Nat → Int32), FG Γ 739 ad (a + 480) (b + 2740) [(20, .int (oI fr)), (19, .int (oI fw)), (18, .int (nI f)), (17, .int (nI r)), (16, .int (nI c)), (10, .int (nI (k / 7))), (9, .int (nI (k % 7))), (8, .int (nI h)), (7, .int (nI w)), (5, .long dg), (4, .int v), (3, .int ti), (2, .ref 9), (1, .ref 0), (0, .ref 1000)] [] (CW (nI k) (nI tt) rm pm (nI w) (nI h) fd wl pr fe qu co pa ++ Z)) : FG Γ 662 ad (a + 470) (b + 2700) [(18, .int (nI f)), (17, .int (nI r)), (16, .int (nI c)), (10, .int (nI (k / 7))), (9, .int (nI (k % 7))), (8, .int (nI h)), (7, .int (nI w)), (5, .long dg), (4, .int v), (3, .int ti), (2, .ref 9), (1, .ref 0), (0, .ref 1000)] [] (CW (nI k) (nI tt) rm pm (nI w) (nI h) fd wl pr fe qu co pa ++ Z) := by
  have OK := okL_law C CX CN hL
  have st727 : ∀ (fd : Int32) (fe qu : Nat → Int32), FG Γ 727 ad (a + 475) (b + 2730) [(20, .int (oI fr)), (19, .int (oI fw)), (18, .int (nI f)), (17, .int (nI r)), (16, .int (nI c)), (10, .int (nI (k / 7))), (9, .int (nI (k % 7))), (8, .int (nI h)), (7, .int (nI w)), (5, .long dg), (4, .int v), (3, .int ti), (2, .ref 9), (1, .ref 0), (0, .ref 1000)] [] (CW (nI k) (nI tt) rm pm (nI w) (nI h) fd wl pr fe qu co pa ++ Z) := by
    intro fd fe qu
    refine go OK [739] 60 ?_
    refine hl_of (fs := _) rfl rfl (kd fd fe qu) rfl (by omega) (by omega) ?_
    rintro r9 X2 ⟨rfl, fd2, fe2, qu2, rfl⟩
    refine ⟨rfl, ?_⟩
    refine And.intro (fun _ => ?_) (fun q => absurd (cmp_self _) q)
    exact FG_wid (by omega) (by omega) (hK fd2 fe2 qu2)
  have st704 : ∀ (fd : Int32) (fe qu : Nat → Int32), FG Γ 704 ad (a + 475) (b + 2730) [(20, .int (oI fr)), (19, .int (oI fw)), (18, .int (nI f)), (17, .int (nI r)), (16, .int (nI c)), (10, .int (nI (k / 7))), (9, .int (nI (k % 7))), (8, .int (nI h)), (7, .int (nI w)), (5, .long dg), (4, .int v), (3, .int ti), (2, .ref 9), (1, .ref 0), (0, .ref 1000)] [] (CW (nI k) (nI tt) rm pm (nI w) (nI h) fd wl pr fe qu co pa ++ Z) := by
    intro fd fe qu
    have s7 := st727 fd fe qu
    rcases h7 with ⟨e1, e2⟩ | ⟨e1, e2⟩ | ⟨l, d, e1, e2, hd⟩
    · rw [e1, e2] at s7 ⊢
      refine go OK [727] 60 ?_
      refine And.intro (fun _ => ?_) (fun q => absurd (show oI none < 0 by decide) q)
      refine And.intro (fun _ => ?_) (fun q => absurd (show oI none ≤ 0 by decide) q)
      refine And.intro (fun q => absurd rfl q) (fun _ => ?_)
      exact s7
    · rw [e1, e2] at s7 ⊢
      refine go OK [727] 60 ?_
      refine And.intro (fun _ => ?_) (fun q => absurd (show oI none < 0 by decide) q)
      refine And.intro (fun _ => ?_) (fun q => absurd (show oI (some 0) ≤ 0 by decide) q)
      refine And.intro (fun q => absurd rfl q) (fun _ => ?_)
      exact s7
    · have l5 := h5 _ e1
      rw [e1, e2] at s7 ⊢
      refine go OK [727] 60 ?_
      refine And.intro (fun q => absurd q (nI_nn (n := d) (by omega))) (fun _ => ?_)
      refine And.intro (fun q => absurd ((leN (b := 0) (by omega) (by decide)).mp (show nI (l + 1) ≤ nI 0 from q)) (by omega)) (fun _ => ?_)
      refine And.intro (fun q => absurd rfl q) (fun _ => ?_)
      exact s7
  refine go OK [704] 60 ?_
  refine gX_of (fs := _) rfl rfl (kt fd fe qu) rfl (by omega) (by omega) ?_ (fun _ _ q => q.elim)
  rintro r9 X2 ⟨rfl, fd2, fe2, qu2, rfl⟩
  refine ⟨rfl, ?_⟩
  refine gX_of (fs := _) rfl rfl (kr fd2 fe2 qu2) rfl (by omega) (by omega) ?_ (fun _ _ q => q.elim)
  rintro r9 X2 ⟨rfl, fd3, fe3, qu3, rfl⟩
  refine ⟨rfl, ?_⟩
  refine And.intro (fun _ => ?_) (fun q => ?_)
  · exact FG_wid (by omega) (by omega) (st704 fd3 fe3 qu3)
  · obtain ⟨l, hl⟩ := ((oI_sgn h5).2.mp (Int32.not_lt.mp q))
    obtain ⟨r2, e2, hle⟩ := h6 l hl
    have l5 := h5 l hl
    have kf2 := kf fd3 fe3 qu3 c r hc hr
    rw [e2] at kf2
    refine gX_of (fs := _) rfl rfl (kf2) rfl (by omega) (by omega) ?_ (fun _ _ q => q.elim)
    rintro r9 X2 ⟨rfl, fd4, fe4, qu4, rfl⟩
    refine ⟨rfl, ?_⟩
    rw [hl]
    refine And.intro (fun q2 => absurd ((ltN (by omega) (by omega)).mp (show nI l < nI r2 from q2)) (by omega)) (fun _ => ?_)
    rw [← hl]
    exact FG_wid (by omega) (by omega) (st704 fd4 fe4 qu4)
