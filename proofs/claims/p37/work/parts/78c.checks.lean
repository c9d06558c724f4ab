/-! ===== the law's checks ===== -/
theorem nI_nn {n : Nat} (h : n < 10000) : ¬ nI n < 0 := Int32.not_lt.mpr ((leN (a := 0) (by decide) h).mpr (Nat.zero_le n))
set_option maxHeartbeats 4000000 in
set_option maxRecDepth 100000 in
theorem lw_80 {Γ : aΓ} {ad0 ad : Nat → Nat} (C : FOK Γ code wsL_law RL 27 room_1) (CX : FOX Γ) (CN : FON ad0 Γ) (hL : isLQ Γ) (a b : Nat) (ha : a ≤ 20000) (hb : b ≤ 100000) (k tt w h : Nat) (rm pm fd : Int32) (wl pr fe qu co pa : Nat → Int32) (Z : List aE) (v ti i0 : Int32) (hw : w ≤ 7) (hh : h ≤ 7) (hv : vt tt = true) (hf : frN w h wl k) (hK : ∀ (dg : Int64), dg = dgV w h wl pr co pa k tt rm pm → ∀ (fd : Int32) (fe qu : Nat → Int32), FG Γ 211 ad (a + 200) (b + 1300) [(12, .int 0), (11, .int (fmk tt 0)), (10, .int (nI (k / 7))), (9, .int (nI (k % 7))), (8, .int (nI h)), (7, .int (nI w)), (5, .long dg), (4, .int v), (3, .int ti), (2, .ref 9), (1, .ref 0), (0, .ref 1000)] [] (CW (nI k) (nI tt) rm pm (nI w) (nI h) fd wl pr fe qu co pa ++ Z)) : FG Γ 80 ad (a + 180) (b + 1200) [(5, .int i0), (4, .int v), (3, .int ti), (2, .ref 9), (1, .ref 0), (0, .ref 1000)] [] (CW (nI k) (nI tt) rm pm (nI w) (nI h) fd wl pr fe qu co pa ++ Z) := by
  have OK := okL_law C CX CN hL
  have ht := vt_lt hv
  obtain ⟨f1, f2, f3⟩ := id hf
  have hk : k < 49 := by omega
  obtain ⟨s1, s2, s3⟩ := fc_sum tt ht hv
  refine go OK [110] 60 ?_
  refine hl_of (fs := _) rfl rfl (k_digest k tt w h rm pm fd wl pr fe qu co pa hw hh hv hf) rfl (by omega) (by omega) ?_
  rintro r X2 ⟨rfl, fd2, fe2, qu2, rfl⟩
  refine ⟨rfl, ?_⟩
  generalize hdg : dgV w h wl pr co pa k tt rm pm = dg
  have hK := hK dg hdg.symm fd2 fe2 qu2
  refine hi_of (fs := _) rfl rfl (k_width k tt w h rm pm fd2 wl pr fe2 qu2 co pa) rfl (by omega) (by omega) ?_
  rintro r X2 ⟨rfl, rfl⟩
  refine ⟨rfl, ?_⟩
  refine hi_of (fs := _) rfl rfl (k_height k tt w h rm pm fd2 wl pr fe2 qu2 co pa) rfl (by omega) (by omega) ?_
  rintro r X2 ⟨rfl, rfl⟩
  refine ⟨rfl, ?_⟩
  refine hi_of (fs := _) rfl rfl (k_column k tt w h rm pm fd2 wl pr fe2 qu2 co pa hk) rfl (by omega) (by omega) ?_
  rintro r X2 ⟨rfl, rfl⟩
  refine ⟨rfl, ?_⟩
  refine hi_of (fs := _) rfl rfl (k_row k tt w h rm pm fd2 wl pr fe2 qu2 co pa hk) rfl (by omega) (by omega) ?_
  rintro r X2 ⟨rfl, rfl⟩
  refine ⟨rfl, ?_⟩
  refine FG_to (ls' := [(10, .int (nI (k / 7))), (9, .int (nI (k % 7))), (8, .int (nI h)), (7, .int (nI w)), (5, .long dg), (4, .int v), (3, .int ti), (2, .ref 9), (1, .ref 0), (0, .ref 1000)]) (k' := a + 180) (n' := b + 1200) [0, 1, 2, 3, 4, 5, 6, 7, 8, 9] rfl (by omega) (by omega) ?_
  refine go OK [211] 80 ?_
  refine And.intro (fun q => absurd q (nI_nn (by omega))) (fun _ => ?_)
  refine And.intro (fun q => absurd q (nI_nn (by omega))) (fun _ => ?_)
  refine And.intro (fun q => absurd ((leN (by omega) (by omega)).mp q) (by omega)) (fun _ => ?_)
  refine And.intro (fun q => absurd ((leN (by omega) (by omega)).mp q) (by omega)) (fun _ => ?_)
  refine gX_of (fs := _) rfl rfl (k_isWall k tt w h rm pm fd2 wl pr fe2 qu2 co pa hw hh (k % 7) (k / 7) f1 f2) rfl (by omega) (by omega) ?_ (fun _ _ q => q.elim)
  rintro r X2 ⟨rfl, rfl⟩
  refine ⟨rfl, ?_⟩
  rw [if_pos (show wl (k / 7 * 7 + k % 7) = 0 by rw [show k / 7 * 7 + k % 7 = k by omega]; exact f3)]
  refine And.intro (fun q => absurd rfl q) (fun _ => ?_)
  refine hi_of (fs := _) rfl rfl (k_top k tt w h rm pm fd2 wl pr fe2 qu2 co pa ht) rfl (by omega) (by omega) ?_
  rintro r X2 ⟨rfl, rfl⟩
  refine ⟨rfl, ?_⟩
  refine hi_of (fs := _) rfl rfl (k_bottom k tt w h rm pm fd2 wl pr fe2 qu2 co pa ht) rfl (by omega) (by omega) ?_
  rintro r X2 ⟨rfl, rfl⟩
  refine ⟨rfl, ?_⟩
  refine And.intro (fun q => absurd s1 q) (fun _ => ?_)
  refine gX_of (fs := _) rfl rfl (k_faceTo k tt w h rm pm fd2 wl pr fe2 qu2 co pa hv 0 (by decide)) rfl (by omega) (by omega) ?_ (fun _ _ q => q.elim)
  rintro r X2 ⟨rfl, rfl⟩
  refine ⟨rfl, ?_⟩
  refine gX_of (fs := _) rfl rfl (k_faceTo k tt w h rm pm fd2 wl pr fe2 qu2 co pa hv 2 (by decide)) rfl (by omega) (by omega) ?_ (fun _ _ q => q.elim)
  rintro r X2 ⟨rfl, rfl⟩
  refine ⟨rfl, ?_⟩
  refine And.intro (fun q => absurd s2 q) (fun _ => ?_)
  refine gX_of (fs := _) rfl rfl (k_faceTo k tt w h rm pm fd2 wl pr fe2 qu2 co pa hv 1 (by decide)) rfl (by omega) (by omega) ?_ (fun _ _ q => q.elim)
  rintro r X2 ⟨rfl, rfl⟩
  refine ⟨rfl, ?_⟩
  refine gX_of (fs := _) rfl rfl (k_faceTo k tt w h rm pm fd2 wl pr fe2 qu2 co pa hv 3 (by decide)) rfl (by omega) (by omega) ?_ (fun _ _ q => q.elim)
  rintro r X2 ⟨rfl, rfl⟩
  refine ⟨rfl, ?_⟩
  refine And.intro (fun _ => ?_) (fun q => absurd s3 q)
  refine hi_of (fs := _) rfl rfl (k_top k tt w h rm pm fd2 wl pr fe2 qu2 co pa ht) rfl (by omega) (by omega) ?_
  rintro r X2 ⟨rfl, rfl⟩
  refine ⟨rfl, ?_⟩
  refine hi_of (fs := _) rfl rfl (k_bottom k tt w h rm pm fd2 wl pr fe2 qu2 co pa ht) rfl (by omega) (by omega) ?_
  rintro r X2 ⟨rfl, rfl⟩
  refine ⟨rfl, ?_⟩
  exact FG_wid (by omega) (by omega) hK
set_option maxHeartbeats 4000000 in
set_option maxRecDepth 100000 in
theorem lw_322 {Γ : aΓ} {ad0 ad : Nat → Nat} (C : FOK Γ code wsL_law RL 27 room_1) (CX : FOX Γ) (CN : FON ad0 Γ) (hL : isLQ Γ) (a b : Nat) (ha : a ≤ 20000) (hb : b ≤ 100000) (k tt w h : Nat) (rm pm fd : Int32) (wl pr fe qu co pa : Nat → Int32) (Z : List aE) (dg : Int64) (v ti : Int32) (hw1 : 1 ≤ w) (hw : w ≤ 7) (hh : h ≤ 7) (hv : vt tt = true) (hf : frN w h wl k) (hz : offB w h wl) (hpr : ¬ rm < pm) (hK : ∀ (fd : Int32) (fe qu : Nat → Int32), FG Γ 381 ad (a + 295) (b + 1720) [(10, .int (nI (k / 7))), (9, .int (nI (k % 7))), (8, .int (nI h)), (7, .int (nI w)), (5, .long dg), (4, .int v), (3, .int ti), (2, .ref 9), (1, .ref 0), (0, .ref 1000)] [] (CW (nI k) (nI tt) rm pm (nI w) (nI h) fd wl pr fe qu co pa ++ Z)) : FG Γ 322 ad (a + 290) (b + 1700) [(13, .int (nI (ct2 (fun c r => decide (¬ wl (r * 7 + c) = 0)) h w))), (12, .int (nI (w * h))), (11, .int 126), (10, .int (nI (k / 7))), (9, .int (nI (k % 7))), (8, .int (nI h)), (7, .int (nI w)), (5, .long dg), (4, .int v), (3, .int ti), (2, .ref 9), (1, .ref 0), (0, .ref 1000)] [] (CW (nI k) (nI tt) rm pm (nI w) (nI h) fd wl pr fe qu co pa ++ Z) := by
  have OK := okL_law C CX CN hL
  obtain ⟨f1, f2, f3⟩ := id hf
  have e0 : oI (ftc (DH w h wl k tt) (k / 7 * 7 + k % 7)) = 0 := by
    rw [show k / 7 * 7 + k % 7 = k by omega, ftc_own hw hh hv hf]
    rfl
  have e1 : nI (ct (fun c => cbh 0 (ftc (DH w h wl k tt) c)) 49) = 1 := by
    rw [bh_one hw hh hv hf]
    rfl
  have kf := k_fewestRolls k tt w h rm pm fd wl pr fe qu co pa hw hh hv hf (k % 7) (k / 7) f1 f2
  rw [e0] at kf
  have kb := fun (fd : Int32) (fe qu : Nat → Int32) => k_cellsBehind k tt w h rm pm fd wl pr fe qu co pa hw hh hv hf
  rw [e1] at kb
  refine go OK [381] 80 ?_
  refine And.intro (fun q => absurd rfl q) (fun _ => ?_)
  refine And.intro (fun q => absurd (show nI (w * h) = nI w * nI h by rw [pk_mul]) q) (fun _ => ?_)
  refine hi_of (fs := _) rfl rfl (k_walls k tt w h rm pm fd wl pr fe qu co pa) rfl (by omega) (by omega) ?_
  rintro r X2 ⟨rfl, rfl⟩
  refine ⟨rfl, ?_⟩
  refine And.intro (fun q => absurd (congrArg nI (walls_ct2 hw1 hw hh hz).symm) q) (fun _ => ?_)
  refine hi_of (fs := _) rfl rfl (k_prints k tt w h rm pm fd wl pr fe qu co pa) rfl (by omega) (by omega) ?_
  intro r X2 h9
  obtain ⟨h8, h7⟩ := h9
  subst h7
  rw [h8]
  refine ⟨rfl, ?_⟩
  refine hi_of (fs := _) rfl rfl (k_rolls k tt w h rm pm fd wl pr fe qu co pa) rfl (by omega) (by omega) ?_
  intro r X2 h9
  obtain ⟨h8, h7⟩ := h9
  subst h7
  rw [h8]
  refine ⟨rfl, ?_⟩
  refine And.intro (fun q => absurd q hpr) (fun _ => ?_)
  refine gX_of (fs := _) rfl rfl (kf) rfl (by omega) (by omega) ?_ (fun _ _ q => q.elim)
  rintro r X2 ⟨rfl, fd2, fe2, qu2, rfl⟩
  refine ⟨rfl, ?_⟩
  refine And.intro (fun q => absurd rfl q) (fun _ => ?_)
  refine gX_of (fs := _) rfl rfl (kb fd2 fe2 qu2) rfl (by omega) (by omega) ?_ (fun _ _ q => q.elim)
  rintro r X2 ⟨rfl, fd3, fe3, qu3, rfl⟩
  refine ⟨rfl, ?_⟩
  refine And.intro (fun _ => ?_) (fun q => absurd rfl q)
  exact FG_to [3, 4, 5, 6, 7, 8, 9, 10, 11, 12] rfl (by omega) (by omega) (hK fd3 fe3 qu3)
