/-! ===== counting ===== -/
theorem ct_cg {p q : Nat → Bool} : ∀ n, (∀ i, i < n → p i = q i) → ct p n = ct q n
  | 0, _ => rfl
  | n + 1, h => by
    show ct p n + _ = ct q n + _
    rw [ct_cg n (fun i hi => h i (by omega)), h n (by omega)]
theorem ct_add (p : Nat → Bool) (a : Nat) : ∀ b, ct p (a + b) = ct p a + ct (fun i => p (a + i)) b
  | 0 => rfl
  | b + 1 => by
    show ct p (a + b) + _ = ct p a + (ct _ b + _)
    rw [ct_add p a b, Nat.add_assoc]
    rfl
theorem ct_no {p : Nat → Bool} : ∀ n, (∀ i, i < n → p i = false) → ct p n = 0
  | 0, _ => rfl
  | n + 1, h => by rw [ct_f (h n (by omega)), ct_no n (fun i hi => h i (by omega))]
theorem ct_cut {p : Nat → Bool} {a b : Nat} (h : a ≤ b) (hp : ∀ i, a ≤ i → i < b → p i = false) : ct p b = ct p a := by
  have e := ct_add p a (b - a)
  rw [ct_no (b - a) (fun i hi => hp (a + i) (by omega) (by omega)), show a + (b - a) = b by omega] at e
  exact e
theorem ct2_lin (q : Nat → Nat → Bool) (w : Nat) (hw : 1 ≤ w) : ∀ h, ct2 q w h = ct (fun c => q (c / w) (c % w)) (w * h)
  | 0 => rfl
  | h + 1 => by
    show ct2 q w h + ct (q h) w = _
    rw [ct2_lin q w hw h, Nat.mul_succ, ct_add]
    congr 1
    refine ct_cg w (fun i hi => ?_)
    show q h i = q ((w * h + i) / w) ((w * h + i) % w)
    rw [Nat.mul_add_div (by omega), Nat.mul_add_mod, Nat.div_eq_of_lt hi, Nat.mod_eq_of_lt hi, Nat.add_zero]
theorem ct2_cg {p q : Nat → Nat → Bool} {w : Nat} : ∀ h, (∀ j i, j < h → i < w → p j i = q j i) → ct2 p w h = ct2 q w h
  | 0, _ => rfl
  | h + 1, e => by
    show ct2 p w h + ct (p h) w = ct2 q w h + ct (q h) w
    rw [ct2_cg h (fun j i h1 h2 => e j i (by omega) h2), ct_cg w (fun i hi => e h i (by omega) hi)]
theorem ct2_cut (q : Nat → Nat → Bool) {w h : Nat} (hw : w ≤ 7) (hq : ∀ j i, j < 7 → i < 7 → ¬ (i < w ∧ j < h) → q j i = false) : ∀ n, n ≤ 7 → ct2 q 7 n = ct2 q w (min n h)
  | 0, _ => by
    rw [Nat.zero_min]
    rfl
  | n + 1, hn => by
    show ct2 q 7 n + ct (q n) 7 = _
    rw [ct2_cut q hw hq n (by omega)]
    by_cases z : n < h
    · rw [Nat.min_eq_left (by omega), Nat.min_eq_left (by omega), ct_cut hw (fun i h1 h2 => hq n i (by omega) h2 (by omega))]
      rfl
    · rw [Nat.min_eq_right (by omega), Nat.min_eq_right (by omega), ct_no 7 (fun i hi => hq n i (by omega) hi (by omega))]
      rfl
/-- a count over all cells of the class, and over the board's of the model -/
theorem ct_lin {p : Nat → Bool} {w h : Nat} (hw1 : 1 ≤ w) (hw : w ≤ 7) (hh : h ≤ 7) (hp : ∀ c, c < 49 → ¬ (c % 7 < w ∧ c / 7 < h) → p c = false) : ct p 49 = ct (fun c => p (k7 w c)) (w * h) := by
  have h1 : ct p 49 = ct2 (fun j i => p (j * 7 + i)) 7 7 := by
    rw [ct2_lin _ 7 (by omega) 7]
    exact ct_cg 49 (fun c hc => by
      show p c = p (c / 7 * 7 + c % 7)
      rw [show c / 7 * 7 + c % 7 = c by omega])
  rw [h1, ct2_cut (h := h) _ hw (fun j i h2 h3 h4 => hp (j * 7 + i) (by omega) (by omega)) 7 (Nat.le_refl 7), Nat.min_eq_right hh, ct2_lin _ w hw1 h]
  rfl
theorem ct2_z (p : Nat → Nat → Bool) : ∀ n, ct2 p 0 n = 0
  | 0 => rfl
  | n + 1 => ct2_z p n
theorem ct2_flip1 (p : Nat → Nat → Bool) (h : Nat) : ∀ w, ct2 (fun i j => p j i) (h + 1) w = ct2 (fun i j => p j i) h w + ct (p h) w
  | 0 => rfl
  | w + 1 => by
    have ih := ct2_flip1 p h w
    show ct2 (fun i j => p j i) (h + 1) w + (ct (fun j => p j w) h + (if p h w then 1 else 0)) = ct2 (fun i j => p j i) h w + ct (fun j => p j w) h + (ct (p h) w + (if p h w then 1 else 0))
    rw [ih]
    omega
theorem ct2_flip (p : Nat → Nat → Bool) (w : Nat) : ∀ h, ct2 p w h = ct2 (fun i j => p j i) h w
  | 0 => (ct2_z _ w).symm
  | h + 1 => by
    show ct2 p w h + ct (p h) w = _
    rw [ct2_flip p w h, ct2_flip1]
theorem walls_ct2 {w h : Nat} {wl : Nat → Int32} (hw1 : 1 ≤ w) (hw : w ≤ 7) (hh : h ≤ 7) (hz : offB w h wl) : ct (fun c => decide (¬ wl c = 0)) 49 = ct2 (fun c r => decide (¬ wl (r * 7 + c) = 0)) h w := by
  rw [ct_lin hw1 hw hh (fun c h1 h2 => by rw [hz c h1 h2]; rfl), ← ct2_flip (fun r c => decide (¬ wl (r * 7 + c) = 0)) w h, ct2_lin _ w hw1 h]
  rfl
theorem prints_ct2 {w h v : Nat} {pr : Nat → Int32} : ct2 (fun j i => decide (pr (j * 7 + i) = nI v)) w h = ct2 (fun c r => decide (pr (r * 7 + c) = nI v)) h w := ct2_flip _ w h
theorem ct_le2 (p : Nat → Bool) : ∀ n, ct p n ≤ n
  | 0 => Nat.le_refl 0
  | n + 1 => by
    show ct p n + (if p n then 1 else 0) ≤ n + 1
    have := ct_le2 p n
    split <;> omega
theorem ct2_le (p : Nat → Nat → Bool) (w : Nat) : ∀ h, ct2 p w h ≤ w * h
  | 0 => Nat.zero_le _
  | h + 1 => by
    show ct2 p w h + ct (p h) w ≤ _
    have := ct2_le p w h
    have := ct_le2 (p h) w
    rw [Nat.mul_succ]
    omega
