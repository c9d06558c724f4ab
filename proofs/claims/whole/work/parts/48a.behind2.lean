/-! ===== the cells behind n rolls: class and model count the same ===== -/
theorem wk_fr {w h k : Nat} {wl : Nat → Int32} (hf : frN w h wl k) : ∀ (n m : Nat), wk (nxt w h wl) n k m → frN w h wl m
  | 0, m, h => by
    have : k = m := h
    subst this
    exact hf
  | n + 1, m, h => by
    obtain ⟨b, d, h1, h2, h3⟩ := h
    exact nxt_fr h3
theorem wk_2 {w h k : Nat} {wl : Nat → Int32} (hw : w ≤ 7) (hf : frN w h wl k) (hsh : ∃ d j, d < 4 ∧ nxt w h wl k d = some j) : ∀ (n m : Nat), wk (nxt w h wl) n k m → wk (nxt w h wl) (n + 2) k m
  | 0, m, h => by
    have : k = m := h
    subst this
    obtain ⟨d, j, h1, h2⟩ := hsh
    exact ⟨j, (d + 2) % 4, ⟨k, d, rfl, h1, h2⟩, by omega, nxt_rev hw hf h1 h2⟩
  | n + 1, m, h => by
    obtain ⟨b, d, h1, h2, h3⟩ := h
    have hb := wk_fr hf n b h1
    exact ⟨b, d, ⟨m, (d + 2) % 4, ⟨b, d, h1, h2, h3⟩, by omega, nxt_rev hw hb h2 h3⟩, h2, h3⟩
theorem wk_ev {w h k n m : Nat} {wl : Nat → Int32} (hw : w ≤ 7) (hf : frN w h wl k) (hsh : ∃ d j, d < 4 ∧ nxt w h wl k d = some j) (h0 : wk (nxt w h wl) n k m) : ∀ j, wk (nxt w h wl) (n + 2 * j) k m
  | 0 => h0
  | j + 1 => wk_2 hw hf hsh (n + 2 * j) m (wk_ev hw hf hsh h0 j)
theorem ok_one {w h k tt : Nat} {wl : Nat → Int32} (hv : vt tt = true) (hf : frN w h wl k) : okN w h wl (k * 36 + tt) := by
  have hl := vt_lt hv
  refine ⟨?_, ?_⟩
  · rw [show (k * 36 + tt) % 36 = tt by omega]
    exact hv
  · rw [show (k * 36 + tt) / 36 = k by omega]
    exact hf
set_option maxRecDepth 100000 in
theorem DH_wk {w h k tt m f g r : Nat} {wl : Nat → Int32} (hw : w ≤ 7) (hh : h ≤ 7) (hv : vt tt = true) (hf : frN w h wl k) (f1 : 1 ≤ f) (f2 : f ≤ 6) (g1 : 1 ≤ g) (g2 : g ≤ 6) (hg : DH w h wl k tt (m * 36 + wiN f g) = some r) : wk (nxt w h wl) r k m := by
  have hx := ok_one hv hf
  have hg2 : (fin (nbF w h wl) 1764 [k * 36 + tt]).2 (m * 36 + wiN f g) = some r := hg
  obtain ⟨s, hs, hwk⟩ := ((fin_iff (M := 1764) nb_ok (fun v => okN_lt hw hh) (by simp) (fun s hs => by rw [List.mem_singleton.mp hs]; exact hx) _ r).mp hg2).1
  rw [List.mem_singleton.mp hs] at hwk
  have hwi := wiN_lt f (by omega) g (by omega) f1 g1
  have hl := vt_lt hv
  have h2 := (wk_dn r _ _ hx hwk).2
  rw [show (k * 36 + tt) / 36 = k by omega, show (m * 36 + wiN f g) / 36 = m by omega] at h2
  exact h2
set_option maxRecDepth 100000 in
theorem cbh_iff {w h k tt n m : Nat} {wl : Nat → Int32} (hw : w ≤ 7) (hh : h ≤ 7) (hv : vt tt = true) (hf : frN w h wl k) (hns : ¬ (0 < n ∧ ∀ d, d < 4 → nxt w h wl k d = none)) : cbh n (ftc (DH w h wl k tt) m) = true ↔ wk (nxt w h wl) n k m := by
  have hm := isMin_ftc (DH w h wl k tt) m
  constructor
  · intro e
    cases z : ftc (DH w h wl k tt) m with
    | none =>
      rw [z] at e
      cases e
    | some r =>
      rw [z] at e
      have e2 : r ≤ n ∧ (n - r) % 2 = 0 := by simpa [cbh] using e
      obtain ⟨⟨f, f1, f2, g, g1, g2, hg⟩, -⟩ := hm.1 r z
      have h2 := DH_wk hw hh hv hf f1 f2 g1 g2 hg
      by_cases c : r = n
      · rw [← c]
        exact h2
      · have hsh : ∃ d j, d < 4 ∧ nxt w h wl k d = some j := Classical.byContradiction fun q => hns ⟨by omega, fun d hd => by
          cases y : nxt w h wl k d with
          | none => rfl
          | some j => exact (q ⟨d, j, hd, y⟩).elim⟩
        have h3 := wk_ev hw hf hsh h2 ((n - r) / 2)
        rw [show r + 2 * ((n - r) / 2) = n by omega] at h3
        exact h3
  · intro hwk
    obtain ⟨t, ht, hw2⟩ := wk_up n k tt m hv hwk
    obtain ⟨r, hr, hrn⟩ := fin_wk (M := 1764) nb_ok (fun v => okN_lt hw hh) (by simp) (fun s hs => by rw [List.mem_singleton.mp hs]; exact ok_one hv hf) n _ _ (List.mem_singleton.mpr rfl) hw2
    have hl := vt_lt ht
    have et : wiN (t / 6 + 1) (t % 6 + 1) = t := by
      unfold wiN
      omega
    have hr2 : DH w h wl k tt (m * 36 + wiN (t / 6 + 1) (t % 6 + 1)) = some r := by
      rw [et]
      exact hr
    cases z : ftc (DH w h wl k tt) m with
    | none => exact (hm.2 z r ⟨t / 6 + 1, by omega, by omega, t % 6 + 1, by omega, by omega, hr2⟩).elim
    | some r0 =>
      obtain ⟨⟨f, f1, f2, g, g1, g2, hg⟩, hle⟩ := hm.1 r0 z
      have h3 := hle r ⟨t / 6 + 1, by omega, by omega, t % 6 + 1, by omega, by omega, hr2⟩
      have h2 := DH_wk hw hh hv hf f1 f2 g1 g2 hg
      have p1 := (wk_chs hw r0 k m hf.1 h2).2
      have p2 := (wk_chs hw n k m hf.1 hwk).2
      show (decide (r0 ≤ n) && decide ((n - r0) % 2 = 0)) = true
      rw [decide_eq_true (show r0 ≤ n by omega), decide_eq_true (show (n - r0) % 2 = 0 by omega)]
      rfl
theorem wk_shut {w h k : Nat} {wl : Nat → Int32} (hs : ∀ d, d < 4 → nxt w h wl k d = none) : ∀ (n m : Nat), wk (nxt w h wl) n k m → n = 0
  | 0, _, _ => rfl
  | n + 1, m, h => by
    obtain ⟨b, d, h1, h2, h3⟩ := h
    have := wk_shut hs n b h1
    subst this
    have hb : k = b := h1
    subst hb
    rw [hs d h2] at h3
    cases h3
theorem cm_wh {w h m : Nat} (h1 : m % 7 < w) (h2 : m / 7 < h) : cm w m < w * h := by
  unfold cm
  have := Nat.mul_le_mul_left w (show m / 7 + 1 ≤ h by omega)
  rw [Nat.mul_succ] at this
  omega
set_option maxRecDepth 100000 in
theorem cb_eq {w h k tt n : Nat} {wl on2 : Nat → Int32} (hw1 : 1 ≤ w) (hw : w ≤ 7) (hh : h ≤ 7) (hv : vt tt = true) (hf : frN w h wl k) (hns : ¬ (0 < n ∧ ∀ d, d < 4 → nxt w h wl k d = none)) (hon : isP (bhP w h wl k n) on2) :
    ct (fun c => cbh n (ftc (DH w h wl k tt) c)) 49 = ct (fun c => decide (¬ on2 c = 0)) 49 := by
  have wh : w * h ≤ 49 := Nat.mul_le_mul hw hh
  have off : ∀ c, ¬ (c % 7 < w ∧ c / 7 < h) → ftc (DH w h wl k tt) c = none := fun c hc => ftc_off (S := fin (nbF w h wl) 1764 [k * 36 + tt]) (fin_okS (ok_one hv hf)) hc
  rw [ct_lin (h := h) hw1 hw hh (fun c h1 h2 => by
    show cbh n (ftc (DH w h wl k tt) c) = false
    rw [off c h2]
    rfl)]
  rw [ct_cut (p := fun c => decide (¬ on2 c = 0)) wh (fun i h1 h2 => decide_eq_false (fun z => z ((isP_0 hon h2).mpr (fun y => by
    obtain ⟨m, a1, a2, a3, a4⟩ := (bhP_wk hw1 hw hf.1 hf.2.1 n i).mp y
    have := cm_wh a1 a2
    omega))))]
  refine ct_cg _ (fun c hc => ?_)
  show cbh n (ftc (DH w h wl k tt) (k7 w c)) = decide (¬ on2 c = 0)
  have c49 : c < 49 := by omega
  obtain ⟨c1, c2, c3⟩ := cm_k7 (c := c) hw1 hw
  have key : bhP w h wl k n c ↔ wk (nxt w h wl) n k (k7 w c) := (bhP_wk hw1 hw hf.1 hf.2.1 n c).trans ⟨fun ⟨m, a1, a2, a3, a4⟩ => by
    rw [cm_inj c2 a1 (c1.trans a3.symm)]
    exact a4, fun q => ⟨k7 w c, c2, k7_h hw1 hw hc, c1, q⟩⟩
  by_cases q : wk (nxt w h wl) n k (k7 w c)
  · rw [(cbh_iff hw hh hv hf hns).mpr q, decide_eq_true (show ¬ on2 c = 0 from fun z => (isP_0 hon c49).mp z (key.mpr q))]
  · rw [Bool.eq_false_iff.mpr (fun z => q ((cbh_iff hw hh hv hf hns).mp z)), decide_eq_false (show ¬ ¬ on2 c = 0 from fun z => z ((isP_0 hon c49).mpr (fun y => q (key.mp y))))]
theorem cb_shut {w h k n : Nat} {wl on2 : Nat → Int32} (hw1 : 1 ≤ w) (hw : w ≤ 7) (hf : frN w h wl k) (h0 : 0 < n) (hs : ∀ d, d < 4 → nxt w h wl k d = none) (hon : isP (bhP w h wl k n) on2) : ct (fun c => decide (¬ on2 c = 0)) 49 = 0 :=
  ct_no 49 (fun c hc => decide_eq_false (fun z => z ((isP_0 hon hc).mpr (fun y => by
    obtain ⟨m, a1, a2, a3, a4⟩ := (bhP_wk hw1 hw hf.1 hf.2.1 n c).mp y
    have := wk_shut hs n m a4
    omega))))
