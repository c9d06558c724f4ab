/-! ===== the cells behind n rolls: by parity of the distance, and step by step (DRAFT, not yet built) ===== -/
/-- a cell's colour of the chessboard changes with each step -/
def chs (k : Nat) : Nat := (k % 7 + k / 7) % 2
theorem nxt_chs {w h k d j : Nat} {wl : Nat → Int32} (hw : w ≤ 7) (hk : k % 7 < w) (hj : nxt w h wl k d = some j) : chs j = 1 - chs k := by
  unfold nxt at hj
  unfold chs
  split at hj
  all_goals
    split at hj
    · next q =>
      cases hj
      try rw [Bool.and_eq_true, decide_eq_true_eq] at q
      try have q1 := q.1
      omega
    · cases hj
theorem wk_chs {w h : Nat} {wl : Nat → Int32} (hw : w ≤ 7) : ∀ (n k m : Nat), k % 7 < w → wk (nxt w h wl) n k m → m % 7 < w ∧ chs m = (chs k + n) % 2
  | 0, k, m, hk, h => by
    have : k = m := h
    subst this
    refine ⟨hk, ?_⟩
    unfold chs
    omega
  | n + 1, k, m, hk, h => by
    obtain ⟨b, d, h1, h2, h3⟩ := h
    obtain ⟨g1, g2⟩ := wk_chs hw n k b hk h1
    have g3 := nxt_chs hw g1 h3
    refine ⟨(nxt_fr h3).1, ?_⟩
    rw [g3, g2]
    omega
/-- walks of cells and walks of ways to lie -/
theorem wk_up {w h : Nat} {wl : Nat → Int32} : ∀ (n k tt m : Nat), vt tt = true → wk (nxt w h wl) n k m → ∃ t, vt t = true ∧ wk (nbF w h wl) n (k * 36 + tt) (m * 36 + t)
  | 0, k, tt, m, hv, h => by
    have : k = m := h
    subst this
    exact ⟨tt, hv, rfl⟩
  | n + 1, k, tt, m, hv, h => by
    obtain ⟨b, d, h1, h2, h3⟩ := h
    obtain ⟨t, g1, g2⟩ := wk_up n k tt b hv h1
    have hl := vt_lt g1
    refine ⟨rlN t d, rlN_vt g1 h2, b * 36 + t, d, g2, h2, ?_⟩
    unfold nbF
    rw [show (b * 36 + t) / 36 = b by omega, h3, show (b * 36 + t) % 36 = t by omega]
theorem wk_dn {w h : Nat} {wl : Nat → Int32} : ∀ (n x y : Nat), okN w h wl x → wk (nbF w h wl) n x y → okN w h wl y ∧ wk (nxt w h wl) n (x / 36) (y / 36)
  | 0, x, y, hx, h => by
    have : x = y := h
    subst this
    exact ⟨hx, rfl⟩
  | n + 1, x, y, hx, h => by
    obtain ⟨b, d, h1, h2, h3⟩ := h
    obtain ⟨g1, g2⟩ := wk_dn n x b hx h1
    have hy := nb_ok b d y g1 h2 h3
    refine ⟨hy, b / 36, d, g2, h2, ?_⟩
    unfold nbF at h3
    cases e : nxt w h wl (b / 36) d with
    | none => rw [e] at h3; cases h3
    | some j =>
      rw [e] at h3
      have h4 : j * 36 + rlN (b % 36) d = y := Option.some.inj h3
      have hl := rlN_lt g1.1 h2
      rw [← h4, show (j * 36 + rlN (b % 36) d) / 36 = j by omega]
/-- the model's set behind n rolls -/
theorem bhP_wk {w h k : Nat} {wl : Nat → Int32} (hw1 : 1 ≤ w) (hw : w ≤ 7) (hk1 : k % 7 < w) (hk2 : k / 7 < h) : ∀ (n c : Nat), bhP w h wl k n c ↔ ∃ m, m % 7 < w ∧ m / 7 < h ∧ cm w m = c ∧ wk (nxt w h wl) n k m
  | 0, c => by
    constructor
    · intro e
      exact ⟨k, hk1, hk2, e.symm, rfl⟩
    · rintro ⟨m, -, -, h3, h4⟩
      have : k = m := h4
      subst this
      exact h3.symm
  | n + 1, c => by
    constructor
    · rintro ⟨a, d, m, h1, h2, h3, h4, h5⟩
      obtain ⟨b, g1, g2, g3, g4⟩ := (bhP_wk hw1 hw hk1 hk2 n a).mp h2
      have hm := nxt_fr h4
      have hb : k7 w a = b := by
        obtain ⟨c1, c2, c3⟩ := cm_k7 (c := a) hw1 hw
        exact cm_inj c2 g1 (by rw [c1, g3])
      rw [hb] at h4
      exact ⟨m, hm.1, hm.2.1, h5, b, d, g4, h3, h4⟩
    · rintro ⟨m, h1, h2, h3, b, d, g1, g2, g3⟩
      have hb : b % 7 < w ∧ b / 7 < h := by
        cases n with
        | zero =>
          have : k = b := g1
          subst this
          exact ⟨hk1, hk2⟩
        | succ n =>
          obtain ⟨b2, d2, _, _, e3⟩ := g1
          exact ⟨(nxt_fr e3).1, (nxt_fr e3).2.1⟩
      refine ⟨cm w b, d, m, ?_, (bhP_wk hw1 hw hk1 hk2 n _).mpr ⟨b, hb.1, hb.2, rfl, g1⟩, g2, ?_, h3⟩
      · unfold cm
        have := Nat.mul_le_mul_left w (show b / 7 + 1 ≤ h by omega)
        rw [Nat.mul_succ] at this
        omega
      · obtain ⟨c1, c2, c3⟩ := cm_k7 (c := cm w b) hw1 hw
        rw [show k7 w (cm w b) = b from cm_inj c2 hb.1 c1]
        exact g3
