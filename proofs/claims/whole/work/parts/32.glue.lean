/-! ===== class and model: the same counts ===== -/
theorem ct_cg {p q : Nat → Bool} : ∀ n, (∀ i, i < n → p i = q i) → ct p n = ct q n
  | 0, _ => rfl
  | n + 1, h => by
    show ct p n + _ = ct q n + _
    rw [ct_cg n (fun i hi => h i (by omega)), h n (by omega)]
theorem ct_add (p : Nat → Bool) (a : Nat) : ∀ b, ct p (a + b) = ct p a + ct (fun i => p (a + i)) b
  | 0 => rfl
  | b + 1 => by
    show ct p (a + b) + _ = ct p a + (ct _ b + _)
    rw [ct_add p a b, Nat.add_assoc]
    rfl
theorem ct_no {p : Nat → Bool} : ∀ n, (∀ i, i < n → p i = false) → ct p n = 0
  | 0, _ => rfl
  | n + 1, h => by rw [ct_f (h n (by omega)), ct_no n (fun i hi => h i (by omega))]
theorem ct_cut {p : Nat → Bool} {a b : Nat} (h : a ≤ b) (hp : ∀ i, a ≤ i → i < b → p i = false) : ct p b = ct p a := by
  have e := ct_add p a (b - a)
  rw [ct_no (b - a) (fun i hi => hp (a + i) (by omega) (by omega)), show a + (b - a) = b by omega] at e
  exact e
theorem ct2_lin (q : Nat → Nat → Bool) (w : Nat) (hw : 1 ≤ w) : ∀ h, ct2 q w h = ct (fun c => q (c / w) (c % w)) (w * h)
  | 0 => rfl
  | h + 1 => by
    show ct2 q w h + ct (q h) w = _
    rw [ct2_lin q w hw h, Nat.mul_succ, ct_add]
    congr 1
    refine ct_cg w (fun i hi => ?_)
    show q h i = q ((w * h + i) / w) ((w * h + i) % w)
    rw [Nat.mul_add_div (by omega), Nat.mul_add_mod, Nat.div_eq_of_lt hi, Nat.mod_eq_of_lt hi, Nat.add_zero]
theorem ct2_cg {p q : Nat → Nat → Bool} {w : Nat} : ∀ h, (∀ j i, j < h → i < w → p j i = q j i) → ct2 p w h = ct2 q w h
  | 0, _ => rfl
  | h + 1, e => by
    show ct2 p w h + ct (p h) w = ct2 q w h + ct (q h) w
    rw [ct2_cg h (fun j i h1 h2 => e j i (by omega) h2), ct_cg w (fun i hi => e h i (by omega) hi)]
theorem ct2_cut (q : Nat → Nat → Bool) {w h : Nat} (hw : w ≤ 7) (hq : ∀ j i, j < 7 → i < 7 → ¬ (i < w ∧ j < h) → q j i = false) : ∀ n, n ≤ 7 → ct2 q 7 n = ct2 q w (min n h)
  | 0, _ => by
    rw [Nat.zero_min]
    rfl
  | n + 1, hn => by
    show ct2 q 7 n + ct (q n) 7 = _
    rw [ct2_cut q hw hq n (by omega)]
    by_cases z : n < h
    · rw [Nat.min_eq_left (by omega), Nat.min_eq_left (by omega), ct_cut hw (fun i h1 h2 => hq n i (by omega) h2 (by omega))]
      rfl
    · rw [Nat.min_eq_right (by omega), Nat.min_eq_right (by omega), ct_no 7 (fun i hi => hq n i (by omega) hi (by omega))]
      rfl
/-- a count over all cells of the class, and over the board's of the model -/
theorem ct_lin {p : Nat → Bool} {w h : Nat} (hw1 : 1 ≤ w) (hw : w ≤ 7) (hh : h ≤ 7) (hp : ∀ c, c < 49 → ¬ (c % 7 < w ∧ c / 7 < h) → p c = false) : ct p 49 = ct (fun c => p (k7 w c)) (w * h) := by
  have h1 : ct p 49 = ct2 (fun j i => p (j * 7 + i)) 7 7 := by
    rw [ct2_lin _ 7 (by omega) 7]
    exact ct_cg 49 (fun c hc => by
      show p c = p (c / 7 * 7 + c % 7)
      rw [show c / 7 * 7 + c % 7 = c by omega])
  rw [h1, ct2_cut (h := h) _ hw (fun j i h2 h3 h4 => hp (j * 7 + i) (by omega) (by omega)) 7 (Nat.le_refl 7), Nat.min_eq_right hh, ct2_lin _ w hw1 h]
  rfl
theorem ct_walls {w h : Nat} {wl wm : Nat → Int32} (hw1 : 1 ≤ w) (hw : w ≤ 7) (hh : h ≤ 7) (hR : RW w h wl wm) (hz : ∀ c, c < 49 → ¬ (c % 7 < w ∧ c / 7 < h) → wl c = 0) :
    ct (fun c => decide (¬ wl c = 0)) 49 = ct (fun c => decide (¬ wm c = 0)) (w * h) := by
  rw [ct_lin hw1 hw hh (fun c h1 h2 => by rw [hz c h1 h2]; rfl)]
  exact ct_cg _ (fun c hc => by rw [RW_k7 hw1 hR hc])
theorem ct_prints {w h : Nat} {pr pq : Nat → Int32} {a : Int32} (hw1 : 1 ≤ w) (hR : RW w h pr pq) : ct2 (fun j i => decide (pr (j * 7 + i) = a)) w h = ct (fun c => decide (pq c = a)) (w * h) := by
  rw [ct2_lin _ w hw1 h]
  exact ct_cg _ (fun c hc => by
    show decide (pr (k7 w c) = a) = _
    rw [RW_k7 hw1 hR hc])
/-- what is told of cells off the board: nothing -/
theorem ftc_off {w h c : Nat} {wl : Nat → Int32} {S : qS} (hS : okS (okN w h wl) S) (hc : ¬ (c % 7 < w ∧ c / 7 < h)) : ftc S.2 c = none := by
  have hm := isMin_ftc S.2 c
  cases e : ftc S.2 c with
  | none => rfl
  | some r =>
    obtain ⟨⟨f, f1, f2, g, g1, g2, hg⟩, -⟩ := hm.1 r e
    have hok := hS.2.2 _ ((hS.1 _).mp ⟨r, hg⟩)
    have hwi := wiN_lt f (by omega) g (by omega) f1 g1
    have h3 := hok.2
    rw [show (c * 36 + wiN f g) / 36 = c by omega] at h3
    exact absurd ⟨h3.1, h3.2.1⟩ hc
theorem fwt_off {w h e f : Nat} {wl : Nat → Int32} {S : qS} (hS : okS (okN w h wl) S) (hf1 : 1 ≤ f) (hf : f < 7) (he : ¬ frN w h wl e) : fwt S.2 e f = none := by
  have hm := isMin_fwt S.2 e f
  cases z : fwt S.2 e f with
  | none => rfl
  | some r =>
    obtain ⟨⟨g, g1, g2, hg⟩, -⟩ := hm.1 r z
    have hok := hS.2.2 _ ((hS.1 _).mp ⟨r, hg⟩)
    have hwi := wiN_lt f hf g (by omega) hf1 g1
    have h3 := hok.2
    rw [show (e * 36 + wiN f g) / 36 = e by omega] at h3
    exact absurd h3 he
theorem jc_cg {p q : Nat → List Int32} {d : Int64} : ∀ n, (∀ c, c < n → p c = q c) → jc p d n = jc q d n
  | 0, _ => rfl
  | n + 1, h => by
    show jl (jc p d n) (p n) = jl (jc q d n) (q n)
    rw [jc_cg n (fun c hc => h c (by omega)), h n (by omega)]
theorem jc_cells {w h : Nat} {wl wm pr pq : Nat → Int32} {D : Nat → Option Nat} {d : Int64} (hw1 : 1 ≤ w) (hR : RW w h wl wm) (hP : RW w h pr pq) : jc (cN w h wl pr D) d (w * h) = jc (cM w wm pq D) d (w * h) :=
  jc_cg _ (fun c hc => by
    unfold cN cM
    rw [RW_k7 hw1 hR hc, RW_k7 hw1 hP hc])
theorem RW_upd {w h i j : Nat} {f g : Nat → Int32} {x : Int32} (hw : w ≤ 7) (hR : RW w h f g) (hi : i < w) (hj : j < h) : RW w h (upd f (j * 7 + i) x) (upd g (w * j + i) x) := by
  intro i2 j2 hi2 hj2
  have e2 := cm_at (w := w) (i := i2) (j := j2) (by omega)
  have e1 := cm_at (w := w) (i := i) (j := j) (by omega)
  by_cases z : j2 * 7 + i2 = j * 7 + i
  · rw [← e2, ← e1, z, pk_us, pk_us]
  · have z2 : ¬ w * j2 + i2 = w * j + i := fun q => z (cm_inj (w := w) (by omega) (by omega) (by rw [e2, e1]; exact q))
    rw [pk_un z, pk_un z2]
    exact hR i2 j2 hi2 hj2
theorem RW_pr {w h m dn : Nat} {pa co pr pq : Nat → Int32} (hw : w ≤ 7) (hR : RW w h pr pq) (h1 : m % 7 < w) (h2 : m / 7 < h) : RW w h (prP pa dn m co pr) (prP pa dn (cm w m) co pq) := by
  unfold prP
  by_cases z : 0 < pa dn
  · rw [if_pos z, if_pos z]
    have := RW_upd (x := co dn) hw hR h1 h2
    rw [show m / 7 * 7 + m % 7 = m by omega] at this
    exact this
  · rw [if_neg z, if_neg z]
    exact hR
theorem rollM_K {w h d : Nat} {wl co : Nat → Int32} (hw : w ≤ 7) : ∀ (n k tt : Nat) (rm pm : Int32) (pr pq pa : Nat → Int32) (m k2 t2 : Nat) (rm2 pm2 : Int32) (pr2 pa2 : Nat → Int32), RW w h pr pq → rollK w h wl co d n (k, tt, rm, pm, pr, pa) = (m, k2, t2, rm2, pm2, pr2, pa2) →
    ∃ pq2, rollM w h wl co d n (k, tt, rm, pm, pq, pa) = (m, k2, t2, rm2, pm2, pq2, pa2) ∧ RW w h pr2 pq2
  | 0, k, tt, rm, pm, pr, pq, pa, m, k2, t2, rm2, pm2, pr2, pa2, hR, e => by
    cases e
    exact ⟨pq, rfl, hR⟩
  | n + 1, k, tt, rm, pm, pr, pq, pa, m, k2, t2, rm2, pm2, pr2, pa2, hR, e => by
    cases z : nxt w h wl k d with
    | none =>
      have s1 : stepD w h wl co d (k, tt, rm, pm, pr, pa) = none := by unfold stepD; rw [z]
      have s2 : stepM w h wl co d (k, tt, rm, pm, pq, pa) = none := by unfold stepM; rw [z]
      rw [rollK, s1] at e
      cases e
      refine ⟨pq, ?_, hR⟩
      rw [rollM, s2]
    | some j =>
      have hj := nxt_fr z
      have s1 : stepD w h wl co d (k, tt, rm, pm, pr, pa) = some (j, rlN tt d, rm + 1, pmP pa (7 - (rlN tt d / 6 + 1)) pm, prP pa (7 - (rlN tt d / 6 + 1)) j co pr, paP pa (7 - (rlN tt d / 6 + 1))) := by unfold stepD; rw [z]
      have s2 : stepM w h wl co d (k, tt, rm, pm, pq, pa) = some (j, rlN tt d, rm + 1, pmP pa (7 - (rlN tt d / 6 + 1)) pm, prP pa (7 - (rlN tt d / 6 + 1)) (cm w j) co pq, paP pa (7 - (rlN tt d / 6 + 1))) := by unfold stepM; rw [z]
      rw [rollK, s1] at e
      obtain ⟨r1, r2, r3, r4, r5, r6, r7, e8⟩ : ∃ (r1 : Nat) (r2 r3 : Nat) (r4 r5 : Int32) (r6 r7 : Nat → Int32), rollK w h wl co d n (j, rlN tt d, rm + 1, pmP pa (7 - (rlN tt d / 6 + 1)) pm, prP pa (7 - (rlN tt d / 6 + 1)) j co pr, paP pa (7 - (rlN tt d / 6 + 1))) = (r1, r2, r3, r4, r5, r6, r7) := ⟨_, _, _, _, _, _, _, rfl⟩
      change ((rollK w h wl co d n _).1 + 1, (rollK w h wl co d n _).2) = _ at e
      rw [e8] at e
      cases e
      obtain ⟨pq2, g1, g2⟩ := rollM_K hw n j (rlN tt d) (rm + 1) _ _ (prP pa (7 - (rlN tt d / 6 + 1)) (cm w j) co pq) _ _ _ _ _ _ _ _ (RW_pr hw hR hj.1 hj.2.1) e8
      refine ⟨pq2, ?_, g2⟩
      rw [rollM, s2]
      show ((rollM w h wl co d n _).1 + 1, (rollM w h wl co d n _).2) = _
      rw [g1]
