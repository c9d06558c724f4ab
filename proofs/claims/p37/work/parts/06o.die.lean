/-! ===== how the die lies: a number t below 36, its top t / 6 + 1, its north t % 6 + 1 ===== -/
def axN (f : Nat) : Nat := if f ≤ 3 then f else 7 - f
/-- top and north are not of one axis -/
def vt (t : Nat) : Bool := decide (t < 36) && decide (axN (t / 6 + 1) ≠ axN (t % 6 + 1))
def eoN (t : Nat) : Nat :=
  let low := 6 - axN (t / 6 + 1) - axN (t % 6 + 1)
  let b1 := decide ((axN (t % 6 + 1) + 3 - axN (t / 6 + 1)) % 3 = 1)
  let b2 := if t / 6 + 1 > 3 then !b1 else b1
  let b3 := if t % 6 + 1 > 3 then !b2 else b2
  if b3 then low else 7 - low
def wiN (top north : Nat) : Nat := (top - 1) * 6 + (north - 1)
/-- behind a roll -/
def rlN (t d : Nat) : Nat := match d with
  | 0 => wiN (7 - (t % 6 + 1)) (t / 6 + 1)
  | 1 => wiN (7 - eoN t) (t % 6 + 1)
  | 2 => wiN (t % 6 + 1) (7 - (t / 6 + 1))
  | _ => wiN (eoN t) (t % 6 + 1)
/-- the face on a side -/
def faN (t d : Nat) : Nat := match d with
  | 0 => t % 6 + 1
  | 1 => eoN t
  | 2 => 7 - (t % 6 + 1)
  | _ => 7 - eoN t
theorem vt_lt {t : Nat} (h : vt t = true) : t < 36 := by
  unfold vt at h
  simp only [Bool.and_eq_true, decide_eq_true_eq] at h
  exact h.1
theorem eoN_in : ∀ t, t < 36 → vt t = true → 1 ≤ eoN t ∧ eoN t ≤ 6 := by decide +kernel
theorem rlN_ok0 : ∀ t, t < 36 → ∀ d, d < 4 → vt t = true → vt (rlN t d) = true ∧ rlN (rlN t d) ((d + 2) % 4) = t := by decide +kernel
theorem rlN_vt {t d : Nat} (h : vt t = true) (hd : d < 4) : vt (rlN t d) = true := (rlN_ok0 t (vt_lt h) d hd h).1
theorem rlN_rev {t d : Nat} (h : vt t = true) (hd : d < 4) : rlN (rlN t d) ((d + 2) % 4) = t := (rlN_ok0 t (vt_lt h) d hd h).2
theorem rlN_lt {t d : Nat} (h : vt t = true) (hd : d < 4) : rlN t d < 36 := vt_lt (rlN_vt h hd)
/-- top, north and east behind a roll -/
theorem tip0 : ∀ t, t < 36 → vt t = true → rlN t 0 / 6 + 1 = 7 - (t % 6 + 1) ∧ rlN t 0 % 6 + 1 = t / 6 + 1 ∧ eoN (rlN t 0) = eoN t := by decide +kernel
theorem tip1 : ∀ t, t < 36 → vt t = true → rlN t 1 / 6 + 1 = 7 - eoN t ∧ rlN t 1 % 6 + 1 = t % 6 + 1 ∧ eoN (rlN t 1) = t / 6 + 1 := by decide +kernel
theorem tip2 : ∀ t, t < 36 → vt t = true → rlN t 2 / 6 + 1 = t % 6 + 1 ∧ rlN t 2 % 6 + 1 = 7 - (t / 6 + 1) ∧ eoN (rlN t 2) = eoN t := by decide +kernel
theorem tip3 : ∀ t, t < 36 → vt t = true → rlN t 3 / 6 + 1 = eoN t ∧ rlN t 3 % 6 + 1 = t % 6 + 1 ∧ eoN (rlN t 3) = 7 - (t / 6 + 1) := by decide +kernel
/-! ===== the board: a cell k = 7 * row + column, whatever the width ===== -/
def frN (w h : Nat) (wl : Nat → Int32) (k : Nat) : Prop := k % 7 < w ∧ k / 7 < h ∧ wl k = 0
def frb (w h : Nat) (wl : Nat → Int32) (k : Nat) : Bool := decide (k % 7 < w) && (decide (k / 7 < h) && decide (wl k = 0))
theorem frb_iff {w h : Nat} {wl : Nat → Int32} {k : Nat} : frb w h wl k = true ↔ frN w h wl k := by
  unfold frb frN
  simp only [Bool.and_eq_true, decide_eq_true_eq]
/-- the next cell in a direction -/
def nxt (w h : Nat) (wl : Nat → Int32) (k d : Nat) : Option Nat := match d with
  | 0 => if decide (7 ≤ k) && frb w h wl (k - 7) then some (k - 7) else none
  | 1 => if decide (k % 7 + 1 < w) && frb w h wl (k + 1) then some (k + 1) else none
  | 2 => if frb w h wl (k + 7) then some (k + 7) else none
  | _ => if decide (1 ≤ k % 7) && frb w h wl (k - 1) then some (k - 1) else none
def nbF (w h : Nat) (wl : Nat → Int32) (v d : Nat) : Option Nat := match nxt w h wl (v / 36) d with
  | some k => some (k * 36 + rlN (v % 36) d)
  | none => none
/-- a way to lie: on a free cell, turned in one of the 24 ways -/
def okN (w h : Nat) (wl : Nat → Int32) (v : Nat) : Prop := vt (v % 36) = true ∧ frN w h wl (v / 36)
theorem okN_lt {w h : Nat} {wl : Nat → Int32} {v : Nat} (hw : w ≤ 7) (hh : h ≤ 7) (hv : okN w h wl v) : v < 1764 := by
  obtain ⟨h1, h2, h3, -⟩ := hv
  omega
theorem nxt_fr {w h : Nat} {wl : Nat → Int32} {k d j : Nat} (hj : nxt w h wl k d = some j) : frN w h wl j := by
  unfold nxt at hj
  split at hj
  all_goals
    split at hj
    · next q =>
      cases hj
      try rw [Bool.and_eq_true] at q
      first | exact frb_iff.mp q.2 | exact frb_iff.mp q
    · cases hj
theorem nb_ok {w h : Nat} {wl : Nat → Int32} : ∀ a d v, okN w h wl a → d < 4 → nbF w h wl a d = some v → okN w h wl v := by
  intro a d v ha hd hv
  unfold nbF at hv
  cases e : nxt w h wl (a / 36) d with
  | none => rw [e] at hv; cases hv
  | some k =>
    rw [e] at hv
    have hv : k * 36 + rlN (a % 36) d = v := Option.some.inj hv
    have hl := rlN_lt ha.1 hd
    subst hv
    refine ⟨?_, ?_⟩
    · rw [show (k * 36 + rlN (a % 36) d) % 36 = rlN (a % 36) d by omega]
      exact rlN_vt ha.1 hd
    · rw [show (k * 36 + rlN (a % 36) d) / 36 = k by omega]
      exact nxt_fr e
/-- a step back -/
theorem nxt_rev {w h : Nat} {wl : Nat → Int32} {k d j : Nat} (hw : w ≤ 7) (hk : frN w h wl k) (hd : d < 4) (hj : nxt w h wl k d = some j) : nxt w h wl j ((d + 2) % 4) = some k := by
  have hk2 := frb_iff.mpr hk
  obtain ⟨k1, k2, k3⟩ := hk
  have hd4 : d = 0 ∨ d = 1 ∨ d = 2 ∨ d = 3 := by omega
  rcases hd4 with rfl | rfl | rfl | rfl
  · simp only [nxt] at hj ⊢
    split at hj
    · next q =>
      cases hj
      rw [Bool.and_eq_true, decide_eq_true_eq] at q
      rw [show k - 7 + 7 = k by omega, hk2]
      rfl
    · cases hj
  · simp only [nxt] at hj ⊢
    split at hj
    · next q =>
      cases hj
      rw [Bool.and_eq_true, decide_eq_true_eq] at q
      have : 1 ≤ (k + 1) % 7 := by omega
      rw [show k + 1 - 1 = k by omega, hk2, decide_eq_true this]
      rfl
    · cases hj
  · simp only [nxt] at hj ⊢
    split at hj
    · next q =>
      cases hj
      rw [show k + 7 - 7 = k by omega, hk2, decide_eq_true (show 7 ≤ k + 7 by omega)]
      rfl
    · cases hj
  · simp only [nxt] at hj ⊢
    split at hj
    · next q =>
      cases hj
      rw [Bool.and_eq_true, decide_eq_true_eq] at q
      have h1 : k - 1 + 1 = k := by omega
      have h2 : (k - 1) % 7 + 1 = k % 7 := by omega
      rw [h1, hk2, h2, decide_eq_true k1]
      rfl
    · cases hj
theorem nb_rev {w h : Nat} {wl : Nat → Int32} (hw : w ≤ 7) : ∀ a d v, okN w h wl a → d < 4 → nbF w h wl a d = some v → nbF w h wl v ((d + 2) % 4) = some a := by
  intro a d v ha hd hv
  unfold nbF at hv
  cases e : nxt w h wl (a / 36) d with
  | none => rw [e] at hv; cases hv
  | some k =>
    rw [e] at hv
    have hv : k * 36 + rlN (a % 36) d = v := Option.some.inj hv
    have hl := rlN_lt ha.1 hd
    subst hv
    unfold nbF
    rw [show (k * 36 + rlN (a % 36) d) / 36 = k by omega, nxt_rev hw ha.2 hd e]
    show some (a / 36 * 36 + rlN ((k * 36 + rlN (a % 36) d) % 36) ((d + 2) % 4)) = some a
    rw [show (k * 36 + rlN (a % 36) d) % 36 = rlN (a % 36) d by omega, rlN_rev ha.1 hd]
    congr 1
    omega
