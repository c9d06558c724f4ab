/-! ===== the law's inner loops ===== -/
theorem nIge {a b : Nat} (ha : a < 10000) (hb : b < 10000) (h : a ≤ b) : nI a ≤ nI b := (leN ha hb).mpr h
theorem nIlt {a b : Nat} (ha : a < 10000) (hb : b < 10000) (h : ¬ nI a ≤ nI b) : b < a := by
  rcases Nat.lt_or_ge b a with z | z
  · exact z
  · exact absurd ((leN ha hb).mpr z) h
set_option maxHeartbeats 4000000 in
set_option maxRecDepth 100000 in
theorem lw_211 {Γ : aΓ} {ad0 ad : Nat → Nat} (C : FOK Γ code wsL_law RL 27 room_1) (CX : FOX Γ) (CN : FON ad0 Γ) (hL : isLQ Γ) (a b : Nat) (ha : a ≤ 20000) (hb : b ≤ 100000) (k tt w h : Nat) (rm pm fd : Int32) (wl pr fe qu co pa : Nat → Int32) (Z : List aE) (dg : Int64) (v ti : Int32) (hv : vt tt = true) (hK : FG Γ 236 ad (a + 204) (b + 1324) [(11, .int 126), (10, .int (nI (k / 7))), (9, .int (nI (k % 7))), (8, .int (nI h)), (7, .int (nI w)), (5, .long dg), (4, .int v), (3, .int ti), (2, .ref 9), (1, .ref 0), (0, .ref 1000)] [] (CW (nI k) (nI tt) rm pm (nI w) (nI h) fd wl pr fe qu co pa ++ Z)) : FG Γ 211 ad (a + 200) (b + 1300) [(12, .int 0), (11, .int (fmk tt 0)), (10, .int (nI (k / 7))), (9, .int (nI (k % 7))), (8, .int (nI h)), (7, .int (nI w)), (5, .long dg), (4, .int v), (3, .int ti), (2, .ref 9), (1, .ref 0), (0, .ref 1000)] [] (CW (nI k) (nI tt) rm pm (nI w) (nI h) fd wl pr fe qu co pa ++ Z) := by
  have OK := okL_law C CX CN hL
  have ht := vt_lt hv
  have hK2 : FG Γ 236 ad (a + 204) (b + 1324) [(11, .int (fmk tt 4)), (10, .int (nI (k / 7))), (9, .int (nI (k % 7))), (8, .int (nI h)), (7, .int (nI w)), (5, .long dg), (4, .int v), (3, .int ti), (2, .ref 9), (1, .ref 0), (0, .ref 1000)] [] (CW (nI k) (nI tt) rm pm (nI w) (nI h) fd wl pr fe qu co pa ++ Z) := by
    rw [fmk_126 tt ht hv]
    exact hK
  have loop : ∀ (g d : Nat), d + g = 4 → FG Γ 211 ad (a + 200 + d) (b + 1300 + 6 * d) [(12, .int (nI d)), (11, .int (fmk tt d)), (10, .int (nI (k / 7))), (9, .int (nI (k % 7))), (8, .int (nI h)), (7, .int (nI w)), (5, .long dg), (4, .int v), (3, .int ti), (2, .ref 9), (1, .ref 0), (0, .ref 1000)] [] (CW (nI k) (nI tt) rm pm (nI w) (nI h) fd wl pr fe qu co pa ++ Z) := by
    intro g
    induction g with
    | zero =>
      intro d hd
      have : d = 4 := by omega
      subst this
      refine go OK [236] 60 ?_
      refine And.intro (fun _ => ?_) (fun q => absurd (nIge (a := 4) (b := 4) (by decide) (by decide) (Nat.le_refl 4)) q)
      exact FG_to [1, 2, 3, 4, 5, 6, 7, 8, 9, 10, 11] rfl (by omega) (by omega) hK2
    | succ g ih =>
      intro d hd
      have key := ih (d + 1) (by omega)
      rw [← nI_p1] at key
      refine go OK [211] 60 ?_
      refine And.intro (fun q => absurd ((leN (a := 4) (by decide) (by omega)).mp q) (by omega)) (fun _ => ?_)
      refine gX_of (fs := _) rfl rfl (k_faceTo k tt w h rm pm fd wl pr fe qu co pa hv d (by omega)) rfl (by omega) (by omega) ?_ (fun _ _ q => q.elim)
      rintro r X2 ⟨rfl, rfl⟩
      refine ⟨rfl, ?_⟩
      exact FG_wid (by omega) (by omega) key
  exact loop 4 0 rfl
set_option maxHeartbeats 4000000 in
set_option maxRecDepth 100000 in
theorem lw_242 {Γ : aΓ} {ad0 ad : Nat → Nat} (C : FOK Γ code wsL_law RL 27 room_1) (CX : FOX Γ) (CN : FON ad0 Γ) (hL : isLQ Γ) (a b : Nat) (ha : a ≤ 20000) (hb : b ≤ 100000) (k tt w h : Nat) (rm pm fd : Int32) (wl pr fe qu co pa : Nat → Int32) (Z : List aE) (dg : Int64) (v ti mk : Int32) (hw : w ≤ 7) (hh : h ≤ 7) (hp : ∀ i j, i < w → j < h → inR (pr (j * 7 + i)) 0 9) (hK : FG Γ 266 ad (a + 220) (b + 1390) [(12, .int (nI (w * h))), (11, .int mk), (10, .int (nI (k / 7))), (9, .int (nI (k % 7))), (8, .int (nI h)), (7, .int (nI w)), (5, .long dg), (4, .int v), (3, .int ti), (2, .ref 9), (1, .ref 0), (0, .ref 1000)] [] (CW (nI k) (nI tt) rm pm (nI w) (nI h) fd wl pr fe qu co pa ++ Z)) : FG Γ 242 ad (a + 210) (b + 1330) [(13, .int 0), (12, .int 0), (11, .int mk), (10, .int (nI (k / 7))), (9, .int (nI (k % 7))), (8, .int (nI h)), (7, .int (nI w)), (5, .long dg), (4, .int v), (3, .int ti), (2, .ref 9), (1, .ref 0), (0, .ref 1000)] [] (CW (nI k) (nI tt) rm pm (nI w) (nI h) fd wl pr fe qu co pa ++ Z) := by
  have OK := okL_law C CX CN hL
  have hK2 : FG Γ 266 ad (a + 220) (b + 1390) [(12, .int (nI (smN (fun v => ct2 (fun j i => decide (pr (j * 7 + i) = nI v)) w h) 10))), (11, .int mk), (10, .int (nI (k / 7))), (9, .int (nI (k % 7))), (8, .int (nI h)), (7, .int (nI w)), (5, .long dg), (4, .int v), (3, .int ti), (2, .ref 9), (1, .ref 0), (0, .ref 1000)] [] (CW (nI k) (nI tt) rm pm (nI w) (nI h) fd wl pr fe qu co pa ++ Z) := by
    rw [all_wh h hp]
    exact hK
  have loop : ∀ (g d : Nat), d + g = 10 → FG Γ 242 ad (a + 210 + d) (b + 1330 + 6 * d) [(13, .int (nI d)), (12, .int (nI (smN (fun v => ct2 (fun j i => decide (pr (j * 7 + i) = nI v)) w h) d))), (11, .int mk), (10, .int (nI (k / 7))), (9, .int (nI (k % 7))), (8, .int (nI h)), (7, .int (nI w)), (5, .long dg), (4, .int v), (3, .int ti), (2, .ref 9), (1, .ref 0), (0, .ref 1000)] [] (CW (nI k) (nI tt) rm pm (nI w) (nI h) fd wl pr fe qu co pa ++ Z) := by
    intro g
    induction g with
    | zero =>
      intro d hd
      have : d = 10 := by omega
      subst this
      refine go OK [266] 60 ?_
      refine And.intro (fun _ => ?_) (fun q => absurd (nIge (a := 10) (b := 10) (by decide) (by decide) (Nat.le_refl 10)) q)
      exact FG_to [1, 2, 3, 4, 5, 6, 7, 8, 9, 10, 11, 12] rfl (by omega) (by omega) hK2
    | succ g ih =>
      intro d hd
      have key := ih (d + 1) (by omega)
      rw [← nI_p1] at key
      have e : nI (smN (fun v => ct2 (fun j i => decide (pr (j * 7 + i) = nI v)) w h) (d + 1)) = nI (smN (fun v => ct2 (fun j i => decide (pr (j * 7 + i) = nI v)) w h) d) + nI (ct2 (fun j i => decide (pr (j * 7 + i) = nI d)) w h) := (nI_add _ _).symm
      rw [e] at key
      refine go OK [242] 60 ?_
      refine And.intro (fun q => absurd ((leN (a := 10) (by decide) (by omega)).mp q) (by omega)) (fun _ => ?_)
      refine gX_of (fs := _) rfl rfl (k_cellsWith k tt w h rm pm fd wl pr fe qu co pa hw hh d (by omega)) rfl (by omega) (by omega) ?_ (fun _ _ q => q.elim)
      rintro r X2 ⟨rfl, rfl⟩
      refine ⟨rfl, ?_⟩
      exact FG_wid (by omega) (by omega) key
  exact loop 10 0 rfl
set_option maxHeartbeats 4000000 in
set_option maxRecDepth 100000 in
theorem lw_272 {Γ : aΓ} {ad0 ad : Nat → Nat} (C : FOK Γ code wsL_law RL 27 room_1) (CX : FOX Γ) (CN : FON ad0 Γ) (hL : isLQ Γ) (a b : Nat) (ha : a ≤ 20000) (hb : b ≤ 100000) (k tt w h : Nat) (rm pm fd : Int32) (wl pr fe qu co pa : Nat → Int32) (Z : List aE) (dg : Int64) (v ti mk al : Int32) (hw : w ≤ 7) (hh : h ≤ 7) (hK : FG Γ 322 ad (a + 290) (b + 1700) [(13, .int (nI (ct2 (fun c r => decide (¬ wl (r * 7 + c) = 0)) h w))), (12, .int al), (11, .int mk), (10, .int (nI (k / 7))), (9, .int (nI (k % 7))), (8, .int (nI h)), (7, .int (nI w)), (5, .long dg), (4, .int v), (3, .int ti), (2, .ref 9), (1, .ref 0), (0, .ref 1000)] [] (CW (nI k) (nI tt) rm pm (nI w) (nI h) fd wl pr fe qu co pa ++ Z)) : FG Γ 272 ad (a + 230) (b + 1400) [(14, .int 0), (13, .int 0), (12, .int al), (11, .int mk), (10, .int (nI (k / 7))), (9, .int (nI (k % 7))), (8, .int (nI h)), (7, .int (nI w)), (5, .long dg), (4, .int v), (3, .int ti), (2, .ref 9), (1, .ref 0), (0, .ref 1000)] [] (CW (nI k) (nI tt) rm pm (nI w) (nI h) fd wl pr fe qu co pa ++ Z) := by
  have OK := okL_law C CX CN hL
  have loop : ∀ (g c : Nat), c + g = w → FG Γ 272 ad (a + 230 + 7 * c) (b + 1400 + 42 * c) [(14, .int (nI c)), (13, .int (nI (ct2 (fun c r => decide (¬ wl (r * 7 + c) = 0)) h c))), (12, .int al), (11, .int mk), (10, .int (nI (k / 7))), (9, .int (nI (k % 7))), (8, .int (nI h)), (7, .int (nI w)), (5, .long dg), (4, .int v), (3, .int ti), (2, .ref 9), (1, .ref 0), (0, .ref 1000)] [] (CW (nI k) (nI tt) rm pm (nI w) (nI h) fd wl pr fe qu co pa ++ Z) := by
    intro g
    induction g with
    | zero =>
      intro c hc
      have : c = w := by omega
      subst this
      refine go OK [322] 60 ?_
      refine And.intro (fun _ => ?_) (fun q => absurd (nIge (by omega) (by omega) (Nat.le_refl c)) q)
      exact FG_to [1, 2, 3, 4, 5, 6, 7, 8, 9, 10, 11, 12, 13] rfl (by omega) (by omega) hK
    | succ g ih =>
      intro c hc
      have key := ih (c + 1) (by omega)
      rw [← nI_p1] at key
      have inner : ∀ (g2 r : Nat), r + g2 = h → FG Γ 282 ad (a + 230 + 7 * c + r) (b + 1400 + 42 * c + 6 * r) [(15, .int (nI r)), (14, .int (nI c)), (13, .int (nI (ct2 (fun c r => decide (¬ wl (r * 7 + c) = 0)) h c + ct (fun r => decide (¬ wl (r * 7 + c) = 0)) r))), (12, .int al), (11, .int mk), (10, .int (nI (k / 7))), (9, .int (nI (k % 7))), (8, .int (nI h)), (7, .int (nI w)), (5, .long dg), (4, .int v), (3, .int ti), (2, .ref 9), (1, .ref 0), (0, .ref 1000)] [] (CW (nI k) (nI tt) rm pm (nI w) (nI h) fd wl pr fe qu co pa ++ Z) := by
        intro g2
        induction g2 with
        | zero =>
          intro r hr
          have : r = h := by omega
          subst this
          refine go OK [272] 60 ?_
          refine And.intro (fun _ => ?_) (fun q => absurd (nIge (by omega) (by omega) (Nat.le_refl r)) q)
          exact FG_to [0, 2, 3, 4, 5, 6, 7, 8, 9, 10, 11, 12, 13, 14] rfl (by omega) (by omega) key
        | succ g2 ih2 =>
          intro r hr
          have key2 := ih2 (r + 1) (by omega)
          rw [← nI_p1] at key2
          refine go OK [282] 60 ?_
          refine And.intro (fun q => absurd ((leN (by omega) (by omega)).mp q) (by omega)) (fun _ => ?_)
          refine gX_of (fs := _) rfl rfl (k_isWall k tt w h rm pm fd wl pr fe qu co pa hw hh c r (by omega) (by omega)) rfl (by omega) (by omega) ?_ (fun _ _ q => q.elim)
          rintro r X2 ⟨rfl, rfl⟩
          refine ⟨rfl, ?_⟩
          by_cases z : wl (r * 7 + c) = 0
          · rw [if_pos z]
            refine And.intro (fun _ => ?_) (fun q => absurd rfl q)
            rw [ct_f (p := fun r => decide (¬ wl (r * 7 + c) = 0)) (n := r) (decide_eq_false (fun q => q z))] at key2
            refine FG_pick (ls' := [(15, .int (nI r + 1)), (14, .int (nI c)), (13, .int (nI (ct2 (fun c r => decide (¬ wl (r * 7 + c) = 0)) h c + ct (fun r => decide (¬ wl (r * 7 + c) = 0)) r) + 0)), (12, .int al), (11, .int mk), (10, .int (nI (k / 7))), (9, .int (nI (k % 7))), (8, .int (nI h)), (7, .int (nI w)), (5, .long dg), (4, .int v), (3, .int ti), (2, .ref 9), (1, .ref 0), (0, .ref 1000)]) [0, 2, 1, 3, 4, 5, 6, 7, 8, 9, 10, 11, 12, 13, 14] rfl ?_
            rw [Int32.add_zero]
            exact FG_wid (by omega) (by omega) key2
          · rw [if_neg z]
            refine And.intro (fun q => absurd q (by decide)) (fun _ => ?_)
            have e3 : nI (ct2 (fun c r => decide (¬ wl (r * 7 + c) = 0)) h c + ct (fun r => decide (¬ wl (r * 7 + c) = 0)) (r + 1)) = nI (ct2 (fun c r => decide (¬ wl (r * 7 + c) = 0)) h c + ct (fun r => decide (¬ wl (r * 7 + c) = 0)) r) + 1 := by
              rw [ct_t (p := fun r => decide (¬ wl (r * 7 + c) = 0)) (n := r) (decide_eq_true z), ← Nat.add_assoc, nI_p1]
            rw [e3] at key2
            refine FG_pick (ls' := [(15, .int (nI r + 1)), (14, .int (nI c)), (13, .int (nI (ct2 (fun c r => decide (¬ wl (r * 7 + c) = 0)) h c + ct (fun r => decide (¬ wl (r * 7 + c) = 0)) r) + 1)), (12, .int al), (11, .int mk), (10, .int (nI (k / 7))), (9, .int (nI (k % 7))), (8, .int (nI h)), (7, .int (nI w)), (5, .long dg), (4, .int v), (3, .int ti), (2, .ref 9), (1, .ref 0), (0, .ref 1000)]) [0, 2, 1, 3, 4, 5, 6, 7, 8, 9, 10, 11, 12, 13, 14] rfl ?_
            exact FG_wid (by omega) (by omega) key2
      refine go OK [282] 60 ?_
      refine And.intro (fun q => absurd ((leN (by omega) (by omega)).mp q) (by omega)) (fun _ => ?_)
      exact inner h 0 (by omega)
  exact loop w 0 (by omega)
