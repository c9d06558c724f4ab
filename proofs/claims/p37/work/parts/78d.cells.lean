/-! ===== the law looks at each cell ===== -/
def qD (D : Nat → Option Nat) (c r : Nat) : Bool := (ftc D (r * 7 + c)).isSome
abbrev kFew (k tt w h : Nat) (rm pm : Int32) (wl pr co pa : Nat → Int32) (D : Nat → Option Nat) : Prop := ∀ (fd : Int32) (fe qu : Nat → Int32) (i j : Nat), i < w → j < h → tX3_fewestRolls [.ref 0, .int (nI i), .int (nI j)] (CW (nI k) (nI tt) rm pm (nI w) (nI h) fd wl pr fe qu co pa) (fun r X2 => r = oI (ftc D (j * 7 + i)) ∧ ∃ (fd2 : Int32) (fe2 qu2 : Nat → Int32), X2 = CW (nI k) (nI tt) rm pm (nI w) (nI h) fd2 wl pr fe2 qu2 co pa) (fun _ _ => False)
abbrev kTop (k tt w h : Nat) (rm pm : Int32) (wl pr co pa : Nat → Int32) (D : Nat → Option Nat) : Prop := ∀ (fd : Int32) (fe qu : Nat → Int32) (i j : Nat), i < w → j < h → tX3_topsAt [.ref 0, .int (nI i), .int (nI j)] (CW (nI k) (nI tt) rm pm (nI w) (nI h) fd wl pr fe qu co pa) (fun r X2 => r = nI (ct (fun f => (fwt D (j * 7 + i) (f + 1)).isSome) 6) ∧ ∃ (fd2 : Int32) (fe2 qu2 : Nat → Int32), X2 = CW (nI k) (nI tt) rm pm (nI w) (nI h) fd2 wl pr fe2 qu2 co pa) (fun _ _ => False)
set_option maxHeartbeats 4000000 in
set_option maxRecDepth 100000 in
theorem lw_393 {Γ : aΓ} {ad0 ad : Nat → Nat} (C : FOK Γ code wsL_law RL 27 room_1) (CX : FOX Γ) (CN : FON ad0 Γ) (hL : isLQ Γ) (a b : Nat) (ha : a ≤ 20000) (hb : b ≤ 100000) (k tt w h : Nat) (rm pm fd : Int32) (wl pr fe qu co pa : Nat → Int32) (Z : List aE) (dg : Int64) (v ti wy : Int32) (D : Nat → Option Nat) (hw : w ≤ 7) (hh : h ≤ 7) (kf : kFew k tt w h rm pm wl pr co pa D) (kt : kTop k tt w h rm pm wl pr co pa D)
    (c1 : ∀ m r, ftc D m = some r → r < 5000) (c3 : ∀ m r, ftc D m = some r → apN k m ≤ r ∧ (r - apN k m) % 2 = 0) (c4 : ∀ m, ¬ wl m = 0 → ftc D m = none) (hk : k % 7 < w ∧ k / 7 < h)
    (hK : ∀ (fd : Int32) (fe qu : Nat → Int32), FG Γ 546 ad (a + 450) (b + 2640) [(15, .int wy), (14, .int (nI (ct2 (qD D) h w))), (10, .int (nI (k / 7))), (9, .int (nI (k % 7))), (8, .int (nI h)), (7, .int (nI w)), (5, .long dg), (4, .int v), (3, .int ti), (2, .ref 9), (1, .ref 0), (0, .ref 1000)] [] (CW (nI k) (nI tt) rm pm (nI w) (nI h) fd wl pr fe qu co pa ++ Z)) : FG Γ 393 ad (a + 300) (b + 1750) [(16, .int 0), (15, .int wy), (14, .int 0), (10, .int (nI (k / 7))), (9, .int (nI (k % 7))), (8, .int (nI h)), (7, .int (nI w)), (5, .long dg), (4, .int v), (3, .int ti), (2, .ref 9), (1, .ref 0), (0, .ref 1000)] [] (CW (nI k) (nI tt) rm pm (nI w) (nI h) fd wl pr fe qu co pa ++ Z) := by
  have OK := okL_law C CX CN hL
  have loop : ∀ (g c : Nat), c + g = w → ∀ (fd : Int32) (fe qu : Nat → Int32), FG Γ 393 ad (a + 300 + 21 * c) (b + 1750 + 126 * c) [(16, .int (nI c)), (15, .int wy), (14, .int (nI (ct2 (qD D) h c))), (10, .int (nI (k / 7))), (9, .int (nI (k % 7))), (8, .int (nI h)), (7, .int (nI w)), (5, .long dg), (4, .int v), (3, .int ti), (2, .ref 9), (1, .ref 0), (0, .ref 1000)] [] (CW (nI k) (nI tt) rm pm (nI w) (nI h) fd wl pr fe qu co pa ++ Z) := by
    intro g
    induction g with
    | zero =>
      intro c hc fd fe qu
      have : c = w := by omega
      subst this
      refine go OK [546] 60 ?_
      refine And.intro (fun _ => ?_) (fun q => absurd (nIge (by omega) (by omega) (Nat.le_refl c)) q)
      exact FG_to [1, 2, 3, 4, 5, 6, 7, 8, 9, 10, 11, 12] rfl (by omega) (by omega) (hK fd fe qu)
    | succ g ih =>
      intro c hc fd fe qu
      have inner : ∀ (g2 r : Nat), r + g2 = h → ∀ (fd : Int32) (fe qu : Nat → Int32), FG Γ 403 ad (a + 300 + 21 * c + 3 * r) (b + 1750 + 126 * c + 18 * r) [(17, .int (nI r)), (16, .int (nI c)), (15, .int wy), (14, .int (nI (ct2 (qD D) h c + ct (qD D c) r))), (10, .int (nI (k / 7))), (9, .int (nI (k % 7))), (8, .int (nI h)), (7, .int (nI w)), (5, .long dg), (4, .int v), (3, .int ti), (2, .ref 9), (1, .ref 0), (0, .ref 1000)] [] (CW (nI k) (nI tt) rm pm (nI w) (nI h) fd wl pr fe qu co pa ++ Z) := by
        intro g2
        induction g2 with
        | zero =>
          intro r hr fd fe qu
          have : h = r := by omega
          subst this
          refine go OK [393] 60 ?_
          refine And.intro (fun _ => ?_) (fun q => absurd (nIge (by omega) (by omega) (Nat.le_refl h)) q)
          refine FG_pick (ls' := [(16, .int (nI c + 1)), (15, .int wy), (14, .int (nI (ct2 (qD D) h c + ct (qD D c) h))), (10, .int (nI (k / 7))), (9, .int (nI (k % 7))), (8, .int (nI h)), (7, .int (nI w)), (5, .long dg), (4, .int v), (3, .int ti), (2, .ref 9), (1, .ref 0), (0, .ref 1000)]) [0, 2, 3, 4, 5, 6, 7, 8, 9, 10, 11, 12, 13] rfl ?_
          rw [nI_p1]
          exact FG_wid (by omega) (by omega) (ih (c + 1) (by omega) fd fe qu)
        | succ g2 ih2 =>
          intro r hr fd fe qu
          have key2 : ∀ (x : Int32) (fd : Int32) (fe qu : Nat → Int32), x = (if qD D c r then 1 else 0) → FG Γ 403 ad (a + 300 + 21 * c + 3 * (r + 1)) (b + 1750 + 126 * c + 18 * (r + 1)) [(17, .int (nI r + 1)), (16, .int (nI c)), (15, .int wy), (14, .int (nI (ct2 (qD D) h c + ct (qD D c) r) + x)), (10, .int (nI (k / 7))), (9, .int (nI (k % 7))), (8, .int (nI h)), (7, .int (nI w)), (5, .long dg), (4, .int v), (3, .int ti), (2, .ref 9), (1, .ref 0), (0, .ref 1000)] [] (CW (nI k) (nI tt) rm pm (nI w) (nI h) fd wl pr fe qu co pa ++ Z) := by
            intro x fd fe qu hx
            have e : nI (ct2 (qD D) h c + ct (qD D c) r) + x = nI (ct2 (qD D) h c + ct (qD D c) (r + 1)) := by
              rw [hx]
              cases z : qD D c r with
              | false =>
                rw [ct_f z]
                exact Int32.add_zero _
              | true =>
                rw [ct_t z, ← Nat.add_assoc]
                exact nI_p1 _
            rw [nI_p1, e]
            exact ih2 (r + 1) (by omega) fd fe qu
          have hap : abI (nI c - nI (k % 7)) + abI (nI r - nI (k / 7)) = nI (apN k (r * 7 + c)) := by
            rw [ab_ap (by omega) (by omega), ab_ap (by omega) (by omega), nI_add]
            unfold apN
            congr 1
            omega
          have tc := tops_ct D (r * 7 + c)
          have t6 := ct_le2 (fun f => (fwt D (r * 7 + c) (f + 1)).isSome) 6
          have st449 : ∀ (fd : Int32) (fe qu : Nat → Int32), FG Γ 449 ad (a + 300 + 21 * c + 3 * r + 2) (b + 1750 + 126 * c + 18 * r + 12) [(20, .int (nI (apN k (r * 7 + c)))), (19, .int (nI (ct (fun f => (fwt D (r * 7 + c) (f + 1)).isSome) 6))), (18, .int (oI (ftc D (r * 7 + c)))), (17, .int (nI r)), (16, .int (nI c)), (15, .int wy), (14, .int (nI (ct2 (qD D) h c + ct (qD D c) r))), (10, .int (nI (k / 7))), (9, .int (nI (k % 7))), (8, .int (nI h)), (7, .int (nI w)), (5, .long dg), (4, .int v), (3, .int ti), (2, .ref 9), (1, .ref 0), (0, .ref 1000)] [] (CW (nI k) (nI tt) rm pm (nI w) (nI h) fd wl pr fe qu co pa ++ Z) := by
            intro fd fe qu
            generalize ct (fun f => (fwt D (r * 7 + c) (f + 1)).isSome) 6 = tn at tc t6 ⊢
            have e1 := c1 (r * 7 + c)
            have e3 := c3 (r * 7 + c)
            have e4 := c4 (r * 7 + c)
            have k2 := fun (x : Int32) => key2 x fd fe qu
            unfold qD at k2
            generalize apN k (r * 7 + c) = ap at e3 ⊢
            cases z : ftc D (r * 7 + c) with
            | none =>
              have z0 := tc.1 z
              subst z0
              have kk := k2 0 (by rw [z]; rfl)
              have st495 : ∀ K S : Nat, K ≤ a + 300 + 21 * c + 3 * (r + 1) → S ≤ b + 1750 + 126 * c + 18 * (r + 1) → FG Γ 495 ad K S [(20, .int (nI ap)), (19, .int (nI 0)), (18, .int (oI none)), (17, .int (nI r)), (16, .int (nI c)), (15, .int wy), (14, .int (nI (ct2 (qD D) h c + ct (qD D c) r))), (10, .int (nI (k / 7))), (9, .int (nI (k % 7))), (8, .int (nI h)), (7, .int (nI w)), (5, .long dg), (4, .int v), (3, .int ti), (2, .ref 9), (1, .ref 0), (0, .ref 1000)] [] (CW (nI k) (nI tt) rm pm (nI w) (nI h) fd wl pr fe qu co pa ++ Z) := by
                intro K S hK9 hS9
                refine go OK [403] 60 ?_
                refine And.intro (fun _ => ?_) (fun q => absurd (show oI none < 0 by decide) q)
                refine And.intro (fun q => absurd q (by decide)) (fun _ => ?_)
                exact FG_to [0, 5, 6, 1, 7, 8, 9, 10, 11, 12, 13, 14, 15, 16] rfl hK9 hS9 kk
              refine go OK [495] 60 ?_
              refine And.intro (fun q => absurd q (by decide)) (fun _ => ?_)
              refine And.intro (fun q => absurd rfl q) (fun _ => ?_)
              refine And.intro (fun q => absurd rfl q) (fun _ => ?_)
              refine And.intro (fun q => absurd q (by decide)) (fun _ => ?_)
              refine gX_of (fs := _) rfl rfl (k_isWall k tt w h rm pm fd wl pr fe qu co pa hw hh c r (by omega) (by omega)) rfl (by omega) (by omega) ?_ (fun _ _ q => q.elim)
              rintro r X2 ⟨rfl, rfl⟩
              refine ⟨rfl, ?_⟩
              refine And.intro (fun _ => ?_) (fun _ => ?_)
              · exact st495 _ _ (by omega) (by omega)
              · refine And.intro (fun q => absurd q (by decide)) (fun _ => ?_)
                exact st495 _ _ (by omega) (by omega)
            | some r9 =>
              have r5 := e1 r9 z
              obtain ⟨e5, e6⟩ := e3 r9 z
              have tp := tc.2 r9 z
              have kk := k2 1 (by rw [z]; rfl)
              have ew : wl (r * 7 + c) = 0 := Classical.byContradiction fun q => by
                have := e4 q
                rw [z] at this
                cases this
              have ge : (0 : Int32) ≤ nI r9 := (leN (a := 0) (by decide) (by omega)).mpr (Nat.zero_le _)
              have er : (nI r9 - nI ap) - (nI r9 - nI ap) / 2 * 2 = 0 := by
                rw [pk_sub e5]
                have := pk_rem (a := r9 - ap) (d := 2) (by omega) (by omega) (by omega)
                rw [show (2 : Int32) = nI 2 from rfl, this, e6]
                rfl
              refine go OK [403] 90 ?_
              refine And.intro (fun _ => ?_) (fun q => absurd ge q)
              refine And.intro (fun _ => ?_) (fun q => absurd q (nI_nz tp (by omega)))
              refine And.intro (fun q => absurd rfl q) (fun _ => ?_)
              refine And.intro (fun q => absurd ((ltN (by decide) (by omega)).mp (show nI 6 < nI tn from q)) (by omega)) (fun _ => ?_)
              refine gX_of (fs := _) rfl rfl (k_isWall k tt w h rm pm fd wl pr fe qu co pa hw hh c r (by omega) (by omega)) rfl (by omega) (by omega) ?_ (fun _ _ q => q.elim)
              rintro r X2 ⟨rfl, rfl⟩
              refine ⟨rfl, ?_⟩
              rw [if_pos ew]
              refine And.intro (fun _ => ?_) (fun q => absurd rfl q)
              refine And.intro (fun q => absurd q (Int32.not_lt.mpr ge)) (fun _ => ?_)
              refine And.intro (fun q => absurd ((ltN (by omega) (by omega)).mp q) (by omega)) (fun _ => ?_)
              refine ⟨by decide, ?_⟩
              refine And.intro (fun _ => ?_) (fun q => absurd er q)
              refine And.intro (fun _ => ?_) (fun q => absurd ge q)
              exact FG_to [0, 5, 6, 1, 7, 8, 9, 10, 11, 12, 13, 14, 15, 16] rfl (by omega) (by omega) kk
          refine go OK [449] 90 ?_
          refine And.intro (fun q => absurd ((leN (by omega) (by omega)).mp q) (by omega)) (fun _ => ?_)
          refine gX_of (fs := _) rfl rfl (kf fd fe qu c r (by omega) (by omega)) rfl (by omega) (by omega) ?_ (fun _ _ q => q.elim)
          rintro r X2 ⟨rfl, fd2, fe2, qu2, rfl⟩
          refine ⟨rfl, ?_⟩
          refine gX_of (fs := _) rfl rfl (kt fd2 fe2 qu2 c r (by omega) (by omega)) rfl (by omega) (by omega) ?_ (fun _ _ q => q.elim)
          rintro r9 X2 ⟨rfl, fd3, fe3, qu3, rfl⟩
          refine ⟨rfl, ?_⟩
          refine ck_i (Nat.ble_eq_true_of_le (by omega)) (ck_i (Nat.ble_eq_true_of_le (by omega)) ?_)
          refine ck_i (Nat.ble_eq_true_of_le (by omega)) (ck_i (Nat.ble_eq_true_of_le (by omega)) ?_)
          refine FG_pick (ls' := [(20, .int (abI (nI c - nI (k % 7)) + abI (nI r - nI (k / 7)))), (19, .int (nI (ct (fun f => (fwt D (r * 7 + c) (f + 1)).isSome) 6))), (18, .int (oI (ftc D (r * 7 + c)))), (17, .int (nI r)), (16, .int (nI c)), (15, .int wy), (14, .int (nI (ct2 (qD D) h c + ct (qD D c) r))), (10, .int (nI (k / 7))), (9, .int (nI (k % 7))), (8, .int (nI h)), (7, .int (nI w)), (5, .long dg), (4, .int v), (3, .int ti), (2, .ref 9), (1, .ref 0), (0, .ref 1000)]) [0, 1, 2, 3, 4, 5, 6, 7, 8, 9, 10, 11, 12, 13, 14, 15, 16] rfl ?_
          rw [hap]
          exact FG_wid (by omega) (by omega) (st449 fd3 fe3 qu3)
      refine go OK [403] 60 ?_
      refine And.intro (fun q => absurd ((leN (by omega) (by omega)).mp q) (by omega)) (fun _ => ?_)
      exact inner h 0 (by omega) fd fe qu
  exact loop w 0 (by omega) fd fe qu
