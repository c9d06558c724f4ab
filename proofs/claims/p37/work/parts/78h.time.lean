/-! ===== one time round the law's loop ===== -/
set_option maxHeartbeats 4000000 in
set_option maxRecDepth 100000 in
theorem lw_739 {Γ : aΓ} {ad0 ad : Nat → Nat} (C : FOK Γ code wsL_law RL 27 room_1) (CX : FOX Γ) (CN : FON ad0 Γ) (hL : isLQ Γ) (had : ∀ i, 1000 ≤ i → ad i = ad0 i) (a b : Nat) (ha : a ≤ 20000) (hb : b ≤ 100000) (B k tt w h rN pN : Nat) (fd : Int32) (wl pr fe qu co pa : Nat → Int32) (fw fp : Nat → Nat → Int32) (cs as df : Nat → Int32) (dg : Int64) (v ti : Int32) (gw fr : Option Nat) (c r f : Nat) (hc : c < w) (hr : r < h) (f1 : 1 ≤ f) (f6 : f ≤ 6) (hB : B ≤ 8000) (hI : IVd B k tt w h rN pN wl pr co pa fw fp cs as df)
    (h5 : ∀ l, gw = some l → l < 5000) (h7 : fr = none ∨ ∃ l d j, gw = some (l + 1) ∧ fr = some d ∧ d < 4 ∧ nxt w h wl k d = some j ∧ fwt (DH w h wl j (rlN tt d)) (r * 7 + c) f = some l)
    (hK : Nx Γ ad0 799 (a + 500) (b + 2900) [(4, .int v), (3, .int ti), (2, .ref 9), (1, .ref 0), (0, .ref 1000)] (B + 1)) : FG Γ 739 ad (a + 480) (b + 2740) [(20, .int (oI fr)), (19, .int (oI gw)), (18, .int (nI f)), (17, .int (nI r)), (16, .int (nI c)), (10, .int (nI (k / 7))), (9, .int (nI (k % 7))), (8, .int (nI h)), (7, .int (nI w)), (5, .long dg), (4, .int v), (3, .int ti), (2, .ref 9), (1, .ref 0), (0, .ref 1000)] [] (CW (nI k) (nI tt) (nI rN) (nI pN) (nI w) (nI h) fd wl pr fe qu co pa ++ Zs w h rN pN k fw fp cs as df) := by
  have OK := okL_law C CX CN hL
  obtain ⟨a1, a2, a3, a4, a5, a6, a7, a8, a9, a10, a11, a12, a13, a14, a15⟩ := id hI
  obtain ⟨k1, k2, k3⟩ := id a6
  have hk : k < 49 := by omega
  rcases h7 with e2 | ⟨l, d, m, e1, e2, hd, hm, hl⟩
  · rw [e2]
    have key := hK ad B k tt w h rN pN fd wl pr fe qu co pa fw fp cs as df had (by omega) hI
    refine go OK [799] 60 ?_
    refine And.intro (fun _ => ?_) (fun q => absurd (show oI none < 0 by decide) q)
    exact FG_to (k' := a + 500) (n' := b + 2900) [10, 11, 12, 13, 14] rfl (by omega) (by omega) key
  · have l5 := h5 _ e1
    rw [e2, e1]
    have kg := k_goes (fd := fd) (fe := fe) (qu := qu) (by omega) hd hm rfl hI
    have hv1 := rlN_vt a5 hd
    have hfm := nxt_fr hm
    refine go OK [759, 799] 60 ?_
    refine And.intro (fun q => absurd q (nI_nn (n := d) (by omega))) (fun _ => ?_)
    refine hi_of (fs := _) rfl rfl (k_rolls k tt w h (nI rN) (nI pN) fd wl pr fe qu co pa) rfl (by omega) (by omega) ?_
    rintro r X2 ⟨rfl, rfl⟩
    refine ⟨rfl, ?_⟩
    refine gX_of (fs := _) rfl rfl (k_canRoll k tt w h (nI rN) (nI pN) fd wl pr fe qu co pa a2 a4 hk d hd) rfl (by omega) (by omega) ?_ (fun _ _ q => q.elim)
    rintro r X2 ⟨rfl, rfl⟩
    refine ⟨rfl, ?_⟩
    rw [hm]
    refine And.intro (fun q => absurd (show (1 : Int32) = 0 from q) (by decide)) (fun _ => ?_)
    refine FG_wid (k' := a + 482) (n' := b + 2750) (by omega) (by omega) ?_
    refine go OK [766] 60 ?_
    refine qW_of 10 rfl had rfl rfl (jx_ok (by omega)) (by rw [jx_len]; omega) ro_none rfl (by omega) (by omega) kg ?_
    rintro r9 X2 ⟨rfl, fp2, as2, df2, hI2, rfl⟩
    refine ⟨by rw [jx_len]; omega, by rw [jx_len]; omega, jx_ok (by rw [jx_len]; omega), fun ad2 hag => ?_⟩
    have had2 : ∀ i, 1000 ≤ i → ad2 i = ad0 i := fun i hi => (hag i (Or.inr hi)).trans (had i hi)
    have key := fun (fd2 : Int32) (fe2 qu2 : Nat → Int32) => hK ad2 (B + 1) m (rlN tt d) w h (rN + 1) (pnN pa (dnF tt d) pN) fd2 wl (prP pa (dnF tt d) m co pr) fe2 qu2 co (paP pa (dnF tt d)) fw fp2 cs as2 df2 had2 (Nat.le_refl _) hI2
    generalize Zs w h (rN + 1) (pnN pa (dnF tt d) pN) m fw fp2 cs as2 df2 = Z at key ⊢
    generalize nI (pnN pa (dnF tt d) pN) = pm2 at key ⊢
    generalize prP pa (dnF tt d) m co pr = pr2 at key ⊢
    generalize paP pa (dnF tt d) = pa2 at key ⊢
    have kt := k_fewestRollsWithTop m (rlN tt d) w h (nI (rN + 1)) pm2 fd wl pr2 fe qu co pa2 a2 a4 hv1 hfm c r hc hr f f1 f6
    rw [hl] at kt
    refine FG_wid (k' := a + 494) (n' := b + 2830) (by omega) (by omega) ?_
    refine go OK [799] 60 ?_
    refine And.intro (fun q => absurd q (by decide)) (fun _ => ?_)
    refine gX_of (fs := _) rfl rfl (kt) rfl (by omega) (by omega) ?_ (fun _ _ q => q.elim)
    rintro r X2 ⟨rfl, fd2, fe2, qu2, rfl⟩
    refine ⟨rfl, ?_⟩
    have e9 : nI l = nI (l + 1) - 1 := by
      rw [show (1 : Int32) = nI 1 from rfl, pk_sub (by omega)]
      rfl
    refine And.intro (fun q => absurd e9 q) (fun _ => ?_)
    refine hi_of (fs := _) rfl rfl (k_rolls m (rlN tt d) w h (nI (rN + 1)) pm2 fd2 wl pr2 fe2 qu2 co pa2) rfl (by omega) (by omega) ?_
    rintro r X2 ⟨rfl, rfl⟩
    refine ⟨rfl, ?_⟩
    refine And.intro (fun _ => ?_) (fun q => absurd (nI_p1 rN).symm q)
    exact FG_to (k' := a + 500) (n' := b + 2900) [11, 12, 13, 14, 15] rfl (by omega) (by omega) (key fd2 fe2 qu2)
set_option maxHeartbeats 4000000 in
set_option maxRecDepth 100000 in
theorem lw_626 {Γ : aΓ} {ad0 ad : Nat → Nat} (C : FOK Γ code wsL_law RL 27 room_1) (CX : FOX Γ) (CN : FON ad0 Γ) (hL : isLQ Γ) (a b : Nat) (ha : a ≤ 20000) (hb : b ≤ 100000) (k tt w h : Nat) (rm pm fd : Int32) (wl pr fe qu co pa : Nat → Int32) (Z : List aE) (dg : Int64) (v ti : Int32) (hw1 : 1 ≤ w) (hw : w ≤ 7) (hh1 : 1 ≤ h) (hh : h ≤ 7) (hK : ∀ c r f : Nat, c < w → r < h → 1 ≤ f → f ≤ 6 → FG Γ 662 ad (a + 470) (b + 2700) [(18, .int (nI f)), (17, .int (nI r)), (16, .int (nI c)), (10, .int (nI (k / 7))), (9, .int (nI (k % 7))), (8, .int (nI h)), (7, .int (nI w)), (5, .long dg), (4, .int v), (3, .int ti), (2, .ref 9), (1, .ref 0), (0, .ref 1000)] [] (CW (nI k) (nI tt) rm pm (nI w) (nI h) fd wl pr fe qu co pa ++ Z)) : FG Γ 626 ad (a + 470) (b + 2700) [(10, .int (nI (k / 7))), (9, .int (nI (k % 7))), (8, .int (nI h)), (7, .int (nI w)), (5, .long dg), (4, .int v), (3, .int ti), (2, .ref 9), (1, .ref 0), (0, .ref 1000)] [] (CW (nI k) (nI tt) rm pm (nI w) (nI h) fd wl pr fe qu co pa ++ Z) := by
  have OK := okL_law C CX CN hL
  refine go OK [662] 60 ?_
  refine hB_of w hw1 (by omega) rfl (by omega) (by omega) ?_
  intro c hc
  refine hB_of h hh1 (by omega) rfl (by omega) (by omega) ?_
  intro r hr
  refine hB_of 6 (by decide) (by decide) rfl (by omega) (by omega) ?_
  intro j hj
  have key := hK c r (1 + j) hc hr (by omega) (by omega)
  rw [← nI_a1] at key
  exact FG_wid (by omega) (by omega) key
set_option maxHeartbeats 4000000 in
set_option maxRecDepth 100000 in
theorem lw_time {Γ : aΓ} {ad0 ad : Nat → Nat} (C : FOK Γ code wsL_law RL 27 room_1) (CX : FOX Γ) (CN : FON ad0 Γ) (hL : isLQ Γ) (had : ∀ i, 1000 ≤ i → ad i = ad0 i) (a b : Nat) (ha : a ≤ 20000) (hb : b ≤ 100000) (B k tt w h rN pN : Nat) (fd : Int32) (wl pr fe qu co pa : Nat → Int32) (fw fp : Nat → Nat → Int32) (cs as df : Nat → Int32) (v ti i0 : Int32) (hB : B ≤ 7000) (hI : IVd B k tt w h rN pN wl pr co pa fw fp cs as df)
    (hK : Nx Γ ad0 22 (a + 1000) (b + 6000) [(3, .int (ti + 1)), (2, .ref 9), (1, .ref 0), (0, .ref 1000)] (B + 3)) : FG Γ 80 ad (a + 180) (b + 1200) [(5, .int i0), (4, .int v), (3, .int ti), (2, .ref 9), (1, .ref 0), (0, .ref 1000)] [] (CW (nI k) (nI tt) (nI rN) (nI pN) (nI w) (nI h) fd wl pr fe qu co pa ++ Zs w h rN pN k fw fp cs as df) := by
  have OK := okL_law C CX CN hL
  obtain ⟨w2, w7, h2, h7, hv, hf, a7, a8, a9, a10, hz, hpB, hcp, hpr, hrB⟩ := id hI
  obtain ⟨k1, k2, k3⟩ := id hf
  have wh49 : w * h ≤ 49 := Nat.mul_le_mul w7 h7
  have hnr : ¬ nI rN < nI pN := fun q => by
    have := (ltN (by omega) (by omega)).mp q
    omega
  -- the distances from here
  obtain ⟨D, hD⟩ : ∃ D, D = DH w h wl k tt := ⟨_, rfl⟩
  obtain ⟨ways, hways⟩ : ∃ n, n = (fin (nbF w h wl) 1764 [k * 36 + tt]).1.length := ⟨_, rfl⟩
  have kf : kFew k tt w h (nI rN) (nI pN) wl pr co pa D := by
    intro fd fe qu i j hi hj
    rw [hD]
    exact k_fewestRolls k tt w h (nI rN) (nI pN) fd wl pr fe qu co pa w7 h7 hv hf i j hi hj
  have kt : kTop k tt w h (nI rN) (nI pN) wl pr co pa D := by
    intro fd fe qu i j hi hj
    rw [hD]
    exact k_topsAt k tt w h (nI rN) (nI pN) fd wl pr fe qu co pa w7 h7 hv hf i j hi hj
  have kw : ∀ (fd : Int32) (fe qu : Nat → Int32), tX3_waysToLie [.ref 0] (CW (nI k) (nI tt) (nI rN) (nI pN) (nI w) (nI h) fd wl pr fe qu co pa) (fun r X2 => r = nI ways ∧ ∃ (fd2 : Int32) (fe2 qu2 : Nat → Int32), X2 = CW (nI k) (nI tt) (nI rN) (nI pN) (nI w) (nI h) fd2 wl pr fe2 qu2 co pa) := by
    intro fd fe qu
    rw [hways]
    exact k_waysToLie k tt w h (nI rN) (nI pN) fd wl pr fe qu co pa w7 h7 hv hf
  have kc : ∀ (fd : Int32) (fe qu : Nat → Int32), tX3_cellsWithinReach [.ref 0] (CW (nI k) (nI tt) (nI rN) (nI pN) (nI w) (nI h) fd wl pr fe qu co pa) (fun r X2 => r = nI (ct (fun c => (ftc D c).isSome) 49) ∧ ∃ (fd2 : Int32) (fe2 qu2 : Nat → Int32), X2 = CW (nI k) (nI tt) (nI rN) (nI pN) (nI w) (nI h) fd2 wl pr fe2 qu2 co pa) := by
    intro fd fe qu
    rw [hD]
    exact k_cellsWithinReach k tt w h (nI rN) (nI pN) fd wl pr fe qu co pa w7 h7 hv hf
  have c0 : ∀ v r, D v = some r → r < 5000 := by
    rw [hD]
    exact DH_lt w7 h7 hv hf
  have c1 : ∀ m r, ftc D m = some r → r < 5000 := fun m => ftc_lt c0 m
  have c3 : ∀ m r, ftc D m = some r → apN k m ≤ r ∧ (r - apN k m) % 2 = 0 := by
    rw [hD]
    exact fun m r e => ftc_ap w7 h7 hv hf e
  have c4 : ∀ m, ¬ wl m = 0 → ftc D m = none := by
    rw [hD]
    exact fun m e => ftc_wall w7 h7 hv hf e
  have c5 : ∀ d m, d < 4 → nxt w h wl k d = some m → ftc D m = some 1 := by
    rw [hD]
    exact fun d m hd hm => ftc_next w7 h7 hv hf hd hm
  have hR : ct (fun c => (ftc D c).isSome) 49 = ct2 (qD D) h w := by
    refine cols_ct2 (by omega) w7 h7 (fun c _ hc => ?_)
    rw [hD, DH_off w7 h7 hv hf hc]
    rfl
  have hW : ct2 (qD D) h w ≤ ways ∧ ways ≤ 12 * ct2 (qD D) h w := by
    rw [← hR, hways, hD]
    exact ways_in w7 h7 hv hf
  have s662 : ∀ (dg : Int64), dg = dgV w h wl pr co pa k tt (nI rN) (nI pN) → ∀ (c r f : Nat), c < w → r < h → 1 ≤ f → f ≤ 6 → ∀ (fd : Int32) (fe qu : Nat → Int32), FG Γ 662 ad (a + 470) (b + 2700) [(18, .int (nI f)), (17, .int (nI r)), (16, .int (nI c)), (10, .int (nI (k / 7))), (9, .int (nI (k % 7))), (8, .int (nI h)), (7, .int (nI w)), (5, .long dg), (4, .int v), (3, .int ti), (2, .ref 9), (1, .ref 0), (0, .ref 1000)] [] (CW (nI k) (nI tt) (nI rN) (nI pN) (nI w) (nI h) fd wl pr fe qu co pa ++ Zs w h rN pN k fw fp cs as df) := by
    intro dg hdg c r f hc hr f1 f6 fd fe qu
    obtain ⟨gw, hgw⟩ : ∃ x, x = fwt D (r * 7 + c) f := ⟨_, rfl⟩
    obtain ⟨fr, hfr⟩ : ∃ x, x = frD w h wl (DB w h wl (r * 7 + c) f) k tt := ⟨_, rfl⟩
    have fi := first_is (e := r * 7 + c) (f := f) w7 h7 hv hf f1 (by omega)
    rw [← hD, ← hgw, ← hfr] at fi
    have g5 : ∀ l, gw = some l → l < 5000 := by
      rw [hgw]
      exact fwt_lt c0 _ _
    refine lw_662 C CX CN hL a b ha hb k tt w h (nI rN) (nI pN) fd wl pr fe qu co pa _ dg v ti D gw fr c r f hc hr kf ?_ ?_ ?_ g5 ?_ ?_ ?_
    · intro fd fe qu
      rw [hgw, hD]
      exact k_fewestRollsWithTop k tt w h (nI rN) (nI pN) fd wl pr fe qu co pa w7 h7 hv hf c r hc hr f f1 f6
    · intro fd fe qu
      rw [hfr]
      exact k_firstRoll k tt w h (nI rN) (nI pN) fd wl pr fe qu co pa w7 h7 hv hf c r hc hr f f1 f6
    · intro fd fe qu
      rw [hdg]
      exact k_digest k tt w h (nI rN) (nI pN) fd wl pr fe qu co pa w7 h7 hv hf
    · rw [hgw]
      exact fun l e => ftc_le f1 f6 e
    · rcases fi with ⟨x1, x2⟩ | ⟨x1, x2⟩ | ⟨l, d, j, x1, x2, x3, x4, x5⟩
      · exact Or.inl ⟨x1, x2⟩
      · exact Or.inr (Or.inl ⟨x1, x2⟩)
      · exact Or.inr (Or.inr ⟨l, d, x1, x2, x3⟩)
    · intro fd fe qu
      refine lw_739 C CX CN hL had a b ha hb B k tt w h rN pN fd wl pr fe qu co pa fw fp cs as df dg v ti gw fr c r f hc hr f1 f6 (by omega) hI g5 ?_ ?_
      · rcases fi with ⟨x1, x2⟩ | ⟨x1, x2⟩ | ⟨l, d, j, x1, x2, x3, x4, x5⟩
        · exact Or.inl x2
        · exact Or.inl x2
        · exact Or.inr ⟨l, d, j, x1, x2, x3, x4, x5⟩
      · intro ad2 B2 k2 t2 w2 h2 rN2 pN2 fd2 wl2 pr2 fe2 qu2 co2 pa2 fw2 fp2 cs2 as2 df2 g1 g2 g3
        refine lw_799 C CX CN hL g1 a b ha hb B2 k2 t2 w2 h2 rN2 pN2 fd2 wl2 pr2 fe2 qu2 co2 pa2 fw2 fp2 cs2 as2 df2 v ti (by omega) g3 ?_
        intro ad4 B4 k4 t4 w4 h4 rN4 pN4 fd4 wl4 pr4 fe4 qu4 co4 pa4 fw4 fp4 cs4 as4 df4 i1 i2 i3
        exact hK ad4 B4 k4 t4 w4 h4 rN4 pN4 fd4 wl4 pr4 fe4 qu4 co4 pa4 fw4 fp4 cs4 as4 df4 i1 (by omega) i3
  generalize Zs w h rN pN k fw fp cs as df = Z at s662 ⊢
  refine lw_80 C CX CN hL a b ha hb k tt w h (nI rN) (nI pN) fd wl pr fe qu co pa Z v ti i0 w7 h7 hv hf ?_
  intro dg hdg fd fe qu
  refine lw_211 C CX CN hL a b ha hb k tt w h (nI rN) (nI pN) fd wl pr fe qu co pa Z dg v ti hv ?_
  refine FG_wid (k' := a + 210) (n' := b + 1330) (by omega) (by omega) ?_
  refine go OK [242] 60 ?_
  refine lw_242 C CX CN hL a b ha hb k tt w h (nI rN) (nI pN) fd wl pr fe qu co pa Z dg v ti 126 w7 h7 hpB ?_
  refine FG_wid (k' := a + 230) (n' := b + 1400) (by omega) (by omega) ?_
  refine go OK [272] 60 ?_
  refine lw_272 C CX CN hL a b ha hb k tt w h (nI rN) (nI pN) fd wl pr fe qu co pa Z dg v ti 126 (nI (w * h)) w7 h7 ?_
  refine lw_322 C CX CN hL a b ha hb k tt w h (nI rN) (nI pN) fd wl pr fe qu co pa Z dg v ti (by omega) w7 h7 hv hf hz hnr ?_
  intro fd fe qu
  refine lw_381 C CX CN hL had a b ha hb k tt w h (nI rN) (nI pN) fd wl pr fe qu co pa Z dg v ti D ways (by omega) w7 h7 kf kt kw kc c1 c3 c4 c5 hR hW ⟨k1, k2⟩ ?_
  intro fd fe qu
  refine lw_626 C CX CN hL a b ha hb k tt w h (nI rN) (nI pN) fd wl pr fe qu co pa Z dg v ti (by omega) w7 (by omega) h7 ?_
  intro c r f hc hr f1 f6
  exact s662 dg hdg c r f hc hr f1 f6 fd fe qu
