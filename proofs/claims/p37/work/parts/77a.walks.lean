/-! ===== smallest answers, walks, there and back ===== -/
/-- o is the smallest number with Q, or there is none -/
def isMin (Q : Nat → Prop) (o : Option Nat) : Prop := (∀ r, o = some r → Q r ∧ ∀ s, Q s → r ≤ s) ∧ (o = none → ∀ s, ¬ Q s)
theorem isMin_eq {Q : Nat → Prop} {a b : Option Nat} (ha : isMin Q a) (hb : isMin Q b) : a = b := by
  cases a with
  | none =>
    cases b with
    | none => rfl
    | some y => exact absurd (hb.1 y rfl).1 (ha.2 rfl y)
  | some x =>
    cases b with
    | none => exact absurd (ha.1 x rfl).1 (hb.2 rfl x)
    | some y => rw [Nat.le_antisymm ((ha.1 x rfl).2 y (hb.1 y rfl).1) ((hb.1 y rfl).2 x (ha.1 x rfl).1)]
theorem isMin_cg {Q R : Nat → Prop} {o : Option Nat} (h : ∀ r, Q r ↔ R r) (ho : isMin Q o) : isMin R o :=
  ⟨fun r e => ⟨(h r).mp (ho.1 r e).1, fun s hs => (ho.1 r e).2 s ((h s).mpr hs)⟩, fun e s hs => ho.2 e s ((h s).mpr hs)⟩
theorem isMin_op (o : Option Nat) : isMin (fun r => o = some r) o :=
  ⟨fun r e => ⟨e, fun s hs => by rw [e] at hs; cases hs; exact Nat.le_refl _⟩, fun e s hs => by rw [e] at hs; cases hs⟩
theorem isMin_mn {Q R : Nat → Prop} {a b : Option Nat} (ha : isMin Q a) (hb : isMin R b) : isMin (fun r => Q r ∨ R r) (mn a b) := by
  cases a with
  | none =>
    have e : mn none b = b := rfl
    rw [e]
    exact isMin_cg (fun r => ⟨Or.inr, fun z => z.elim (fun q => absurd q (ha.2 rfl r)) id⟩) hb
  | some x =>
    cases b with
    | none => exact isMin_cg (fun r => ⟨Or.inl, fun z => z.elim id (fun q => absurd q (hb.2 rfl r))⟩) ha
    | some y =>
      obtain ⟨x1, x2⟩ := ha.1 x rfl
      obtain ⟨y1, y2⟩ := hb.1 y rfl
      refine ⟨fun r e => ?_, fun e => by cases e⟩
      have e : (if y < x then y else x) = r := Option.some.inj e
      by_cases z : y < x
      · rw [if_pos z] at e
        subst e
        exact ⟨Or.inr y1, fun s hs => hs.elim (fun q => by have := x2 s q; omega) (y2 s)⟩
      · rw [if_neg z] at e
        subst e
        exact ⟨Or.inl x1, fun s hs => hs.elim (x2 s) (fun q => by have := y2 s q; omega)⟩
theorem isMin_mnf {p : Nat → Option Nat} {Q : Nat → Nat → Prop} : ∀ n, (∀ i, 1 ≤ i → i ≤ n → isMin (Q i) (p i)) → isMin (fun r => ∃ i, 1 ≤ i ∧ i ≤ n ∧ Q i r) (mnf p n)
  | 0, _ => ⟨fun r e => (by cases e), fun _ s hs => by obtain ⟨i, h1, h2, _⟩ := hs; omega⟩
  | n + 1, h => by
    refine isMin_cg (fun r => ?_) (isMin_mn (isMin_mnf n (fun i h1 h2 => h i h1 (by omega))) (h (n + 1) (by omega) (Nat.le_refl _)))
    constructor
    · rintro (⟨i, h1, h2, hq⟩ | hq)
      · exact ⟨i, h1, by omega, hq⟩
      · exact ⟨n + 1, by omega, Nat.le_refl _, hq⟩
    · rintro ⟨i, h1, h2, hq⟩
      by_cases e : i = n + 1
      · subst e
        exact Or.inr hq
      · exact Or.inl ⟨i, h1, by omega, hq⟩
theorem isMin_fwt (D : Nat → Option Nat) (k f : Nat) : isMin (fun r => ∃ g, 1 ≤ g ∧ g ≤ 6 ∧ D (k * 36 + wiN f g) = some r) (fwt D k f) :=
  isMin_mnf 6 (fun g _ _ => isMin_op _)
theorem isMin_ftc (D : Nat → Option Nat) (k : Nat) : isMin (fun r => ∃ f, 1 ≤ f ∧ f ≤ 6 ∧ ∃ g, 1 ≤ g ∧ g ≤ 6 ∧ D (k * 36 + wiN f g) = some r) (ftc D k) :=
  isMin_mnf 6 (fun f _ _ => isMin_fwt D k f)
theorem one_src {w h : Nat} {wl : Nat → Int32} {k tt : Nat} (hv : vt tt = true) (hf : frN w h wl k) : [k * 36 + tt].Nodup ∧ ∀ s ∈ [k * 36 + tt], okN w h wl s := by
  refine ⟨by simp, fun s h1 => ?_⟩
  have ht := vt_lt hv
  rw [List.mem_singleton.mp h1]
  refine ⟨?_, ?_⟩
  · rw [show (k * 36 + tt) % 36 = tt by omega]; exact hv
  · rw [show (k * 36 + tt) / 36 = k by omega]; exact hf
set_option maxRecDepth 100000 in
theorem DB_def (w h : Nat) (wl : Nat → Int32) (e f : Nat) : DB w h wl e f = (fin (nbF w h wl) 1764 (sBk w h wl e f)).2 := rfl
/-- from x to the top f on e, and back from there: the same -/
theorem DB_eq {w h e f x : Nat} {wl : Nat → Int32} (hw : w ≤ 7) (hh : h ≤ 7) (he : frN w h wl e) (hf1 : 1 ≤ f) (hf : f < 7) (hx : okN w h wl x) : DB w h wl e f x = fwt (fin (nbF w h wl) 1764 [x]).2 e f := by
  have hM : ∀ v, okN w h wl v → v < 1764 := fun v => okN_lt hw hh
  have hrev : ∀ a d v, okN w h wl a → d < 4 → nbF w h wl a d = some v → ∃ e, e < 4 ∧ nbF w h wl v e = some a := fun a d v h1 h2 h3 => ⟨(d + 2) % 4, by omega, nb_rev hw a d v h1 h2 h3⟩
  have hb := sBk_ok (w := w) (h := h) (e := e) (wl := wl) hf1 hf
  have h1 : [x].Nodup := by simp
  have h2 : ∀ s ∈ [x], okN w h wl s := fun s hs => by rw [List.mem_singleton.mp hs]; exact hx
  have i1 := fin_iff (M := 1764) nb_ok hM hb.1 hb.2 x
  have n1 := fin_none (M := 1764) nb_ok hM hb.1 hb.2 x
  have i2 := fin_iff (M := 1764) nb_ok hM h1 h2
  have n2 := fin_none (M := 1764) nb_ok hM h1 h2
  have mem : ∀ v, v ∈ sBk w h wl e f ↔ v / 36 = e ∧ vt (v % 36) = true ∧ v % 36 / 6 + 1 = f := by
    intro v
    unfold sBk
    rw [if_pos (frb_iff.mpr he)]
    unfold sB
    rw [List.mem_map]
    constructor
    · rintro ⟨t, h3, rfl⟩
      obtain ⟨h4, h5⟩ := (sBo_ok f hf hf1 6 (by omega)).2 t h3
      have := vt_lt h4
      refine ⟨by omega, ?_, ?_⟩
      · rw [show (e * 36 + t) % 36 = t by omega]; exact h4
      · rw [show (e * 36 + t) % 36 = t by omega]; exact h5
    · rintro ⟨h3, h4, h5⟩
      exact ⟨v % 36, sBo_all f hf hf1 _ (vt_lt h4) h4 h5, by omega⟩
  -- the walks from a source to x, and from x to it
  have W : ∀ r, (∃ s ∈ sBk w h wl e f, wk (nbF w h wl) r s x) ↔ ∃ g, 1 ≤ g ∧ g ≤ 6 ∧ wk (nbF w h wl) r x (e * 36 + wiN f g) := by
    intro r
    constructor
    · rintro ⟨s, hs, hk⟩
      have h3 := (mem s).mp hs
      have h4 := (wk_rev nb_ok hrev (hb.2 s hs) hk).2
      refine ⟨s % 36 % 6 + 1, by omega, by omega, ?_⟩
      unfold wiN
      rw [show e * 36 + ((f - 1) * 6 + (s % 36 % 6 + 1 - 1)) = s by omega]
      exact h4
    · rintro ⟨g, g1, g2, hk⟩
      have h4 := wk_rev nb_ok hrev hx hk
      have hwl := wiN_lt f hf g (by omega) hf1 g1
      refine ⟨_, (mem _).mpr ⟨by omega, h4.1.1, ?_⟩, h4.2⟩
      unfold wiN at hwl ⊢
      omega
  refine isMin_eq (Q := fun r => ∃ s ∈ sBk w h wl e f, wk (nbF w h wl) r s x) ?_ ?_
  · rw [DB_def]
    refine ⟨fun r hr => ?_, fun hr s => n1.mp hr s⟩
    obtain ⟨q1, q2⟩ := (i1 r).mp hr
    refine ⟨q1, fun s hs => ?_⟩
    rcases Nat.lt_or_ge s r with z | z
    · exact absurd hs (q2 s z)
    · exact z
  · have hm := isMin_fwt (fin (nbF w h wl) 1764 [x]).2 e f
    have key : ∀ g r, (∃ s ∈ [x], wk (nbF w h wl) r s (e * 36 + wiN f g)) ↔ wk (nbF w h wl) r x (e * 36 + wiN f g) := by
      intro g r
      constructor
      · rintro ⟨s, hs, hk⟩
        rw [List.mem_singleton.mp hs] at hk
        exact hk
      · intro hk
        exact ⟨x, List.mem_singleton.mpr rfl, hk⟩
    have told : ∀ g r, wk (nbF w h wl) r x (e * 36 + wiN f g) → ∃ r2, (fin (nbF w h wl) 1764 [x]).2 (e * 36 + wiN f g) = some r2 ∧ r2 ≤ r := fun g r hk => fin_wk (M := 1764) nb_ok hM h1 h2 r x _ (List.mem_singleton.mpr rfl) hk
    refine ⟨fun r hr => ?_, fun hr s hs => ?_⟩
    · obtain ⟨⟨g, g1, g2, hg⟩, q⟩ := hm.1 r hr
      refine ⟨(W r).mpr ⟨g, g1, g2, (key g r).mp ((i2 _ r).mp hg).1⟩, fun s hs => ?_⟩
      obtain ⟨g', g1', g2', hk⟩ := (W s).mp hs
      obtain ⟨r2, e2, hle⟩ := told g' s hk
      have := q r2 ⟨g', g1', g2', e2⟩
      omega
    · obtain ⟨g', g1', g2', hk⟩ := (W s).mp hs
      obtain ⟨r2, e2, -⟩ := told g' s hk
      exact hm.2 hr r2 ⟨g', g1', g2', e2⟩
/-- whoever stands on no free cell is never reached -/
theorem DB_no {w h e f x : Nat} {wl : Nat → Int32} (hf1 : 1 ≤ f) (hf : f < 7) (hx : ¬ okN w h wl x) : DB w h wl e f x = none := by
  rw [DB_def]
  have hb := sBk_ok (w := w) (h := h) (e := e) (wl := wl) hf1 hf
  have hS := fin_in (nb := nbF w h wl) (M := 1764) nb_ok hb.1 hb.2
  cases z : (fin (nbF w h wl) 1764 (sBk w h wl e f)).2 x with
  | none => rfl
  | some r => exact absurd (hS.1.2.2 x ((hS.1.1 x).mp ⟨r, z⟩)) hx
/-- what is told of cells off the board: nothing -/
theorem ftc_off {w h c : Nat} {wl : Nat → Int32} {S : qS} (hS : okS (okN w h wl) S) (hc : ¬ (c % 7 < w ∧ c / 7 < h)) : ftc S.2 c = none := by
  have hm := isMin_ftc S.2 c
  cases e : ftc S.2 c with
  | none => rfl
  | some r =>
    obtain ⟨⟨f, f1, f2, g, g1, g2, hg⟩, -⟩ := hm.1 r e
    have hok := hS.2.2 _ ((hS.1 _).mp ⟨r, hg⟩)
    have hwi := wiN_lt f (by omega) g (by omega) f1 g1
    have h3 := hok.2
    rw [show (c * 36 + wiN f g) / 36 = c by omega] at h3
    exact absurd ⟨h3.1, h3.2.1⟩ hc
theorem fwt_off {w h e f : Nat} {wl : Nat → Int32} {S : qS} (hS : okS (okN w h wl) S) (hf1 : 1 ≤ f) (hf : f < 7) (he : ¬ frN w h wl e) : fwt S.2 e f = none := by
  have hm := isMin_fwt S.2 e f
  cases z : fwt S.2 e f with
  | none => rfl
  | some r =>
    obtain ⟨⟨g, g1, g2, hg⟩, -⟩ := hm.1 r z
    have hok := hS.2.2 _ ((hS.1 _).mp ⟨r, hg⟩)
    have hwi := wiN_lt f hf g (by omega) hf1 g1
    have h3 := hok.2
    rw [show (e * 36 + wiN f g) / 36 = e by omega] at h3
    exact absurd h3 he
theorem DB_wall {w h e f x : Nat} {wl : Nat → Int32} (hw : w ≤ 7) (hh : h ≤ 7) (hf1 : 1 ≤ f) (hf : f < 7) (he : ¬ frN w h wl e) : (fin (nbF w h wl) 1764 (sBk w h wl e f)).2 x = none := by
  have hb := sBk_ok (w := w) (h := h) (e := e) (wl := wl) hf1 hf
  have h0 : sBk w h wl e f = [] := by
    unfold sBk
    rw [if_neg (fun z => he (frb_iff.mp z))]
  refine (fin_none (M := 1764) nb_ok (fun v => okN_lt hw hh) hb.1 hb.2 x).mpr (fun k hk => ?_)
  obtain ⟨s, hs, -⟩ := hk
  rw [h0] at hs
  cases hs
theorem fin_okS {w h x : Nat} {wl : Nat → Int32} (hx : okN w h wl x) : okS (okN w h wl) (fin (nbF w h wl) 1764 [x]) :=
  (fin_in (nb := nbF w h wl) (M := 1764) nb_ok (by simp) (fun s hs => by rw [List.mem_singleton.mp hs]; exact hx)).1
theorem DB_all {w h e f x : Nat} {wl : Nat → Int32} (hw : w ≤ 7) (hh : h ≤ 7) (hf1 : 1 ≤ f) (hf : f < 7) (hx : okN w h wl x) : DB w h wl e f x = fwt (fin (nbF w h wl) 1764 [x]).2 e f := by
  by_cases he : frN w h wl e
  · exact DB_eq hw hh he hf1 hf hx
  · rw [DB_def, DB_wall hw hh hf1 hf he]
    exact (fwt_off (fin_okS hx) hf1 hf he).symm
/-- a cell's colour of the chessboard changes with each step -/
def chs (k : Nat) : Nat := (k % 7 + k / 7) % 2
theorem nxt_chs {w h k d j : Nat} {wl : Nat → Int32} (hw : w ≤ 7) (hk : k % 7 < w) (hj : nxt w h wl k d = some j) : chs j = 1 - chs k := by
  unfold nxt at hj
  unfold chs
  split at hj
  all_goals
    split at hj
    · next q =>
      cases hj
      try rw [Bool.and_eq_true, decide_eq_true_eq] at q
      try have q1 := q.1
      omega
    · cases hj
theorem wk_chs {w h : Nat} {wl : Nat → Int32} (hw : w ≤ 7) : ∀ (n k m : Nat), k % 7 < w → wk (nxt w h wl) n k m → m % 7 < w ∧ chs m = (chs k + n) % 2
  | 0, k, m, hk, h => by
    have : k = m := h
    subst this
    refine ⟨hk, ?_⟩
    unfold chs
    omega
  | n + 1, k, m, hk, h => by
    obtain ⟨b, d, h1, h2, h3⟩ := h
    obtain ⟨g1, g2⟩ := wk_chs hw n k b hk h1
    have g3 := nxt_chs hw g1 h3
    refine ⟨(nxt_fr h3).1, ?_⟩
    rw [g3, g2]
    omega
/-- walks of cells and walks of ways to lie -/
theorem wk_up {w h : Nat} {wl : Nat → Int32} : ∀ (n k tt m : Nat), vt tt = true → wk (nxt w h wl) n k m → ∃ t, vt t = true ∧ wk (nbF w h wl) n (k * 36 + tt) (m * 36 + t)
  | 0, k, tt, m, hv, h => by
    have : k = m := h
    subst this
    exact ⟨tt, hv, rfl⟩
  | n + 1, k, tt, m, hv, h => by
    obtain ⟨b, d, h1, h2, h3⟩ := h
    obtain ⟨t, g1, g2⟩ := wk_up n k tt b hv h1
    have hl := vt_lt g1
    refine ⟨rlN t d, rlN_vt g1 h2, b * 36 + t, d, g2, h2, ?_⟩
    unfold nbF
    rw [show (b * 36 + t) / 36 = b by omega, h3, show (b * 36 + t) % 36 = t by omega]
theorem wk_dn {w h : Nat} {wl : Nat → Int32} : ∀ (n x y : Nat), okN w h wl x → wk (nbF w h wl) n x y → okN w h wl y ∧ wk (nxt w h wl) n (x / 36) (y / 36)
  | 0, x, y, hx, h => by
    have : x = y := h
    subst this
    exact ⟨hx, rfl⟩
  | n + 1, x, y, hx, h => by
    obtain ⟨b, d, h1, h2, h3⟩ := h
    obtain ⟨g1, g2⟩ := wk_dn n x b hx h1
    have hy := nb_ok b d y g1 h2 h3
    refine ⟨hy, b / 36, d, g2, h2, ?_⟩
    unfold nbF at h3
    cases e : nxt w h wl (b / 36) d with
    | none => rw [e] at h3; cases h3
    | some j =>
      rw [e] at h3
      have h4 : j * 36 + rlN (b % 36) d = y := Option.some.inj h3
      have hl := rlN_lt g1.1 h2
      rw [← h4, show (j * 36 + rlN (b % 36) d) / 36 = j by omega]
theorem wk_fr {w h k : Nat} {wl : Nat → Int32} (hf : frN w h wl k) : ∀ (n m : Nat), wk (nxt w h wl) n k m → frN w h wl m
  | 0, m, h => by
    have : k = m := h
    subst this
    exact hf
  | n + 1, m, h => by
    obtain ⟨b, d, h1, h2, h3⟩ := h
    exact nxt_fr h3
theorem wk_2 {w h k : Nat} {wl : Nat → Int32} (hw : w ≤ 7) (hf : frN w h wl k) (hsh : ∃ d j, d < 4 ∧ nxt w h wl k d = some j) : ∀ (n m : Nat), wk (nxt w h wl) n k m → wk (nxt w h wl) (n + 2) k m
  | 0, m, h => by
    have : k = m := h
    subst this
    obtain ⟨d, j, h1, h2⟩ := hsh
    exact ⟨j, (d + 2) % 4, ⟨k, d, rfl, h1, h2⟩, by omega, nxt_rev hw hf h1 h2⟩
  | n + 1, m, h => by
    obtain ⟨b, d, h1, h2, h3⟩ := h
    have hb := wk_fr hf n b h1
    exact ⟨b, d, ⟨m, (d + 2) % 4, ⟨b, d, h1, h2, h3⟩, by omega, nxt_rev hw hb h2 h3⟩, h2, h3⟩
theorem wk_ev {w h k n m : Nat} {wl : Nat → Int32} (hw : w ≤ 7) (hf : frN w h wl k) (hsh : ∃ d j, d < 4 ∧ nxt w h wl k d = some j) (h0 : wk (nxt w h wl) n k m) : ∀ j, wk (nxt w h wl) (n + 2 * j) k m
  | 0 => h0
  | j + 1 => wk_2 hw hf hsh (n + 2 * j) m (wk_ev hw hf hsh h0 j)
theorem ok_one {w h k tt : Nat} {wl : Nat → Int32} (hv : vt tt = true) (hf : frN w h wl k) : okN w h wl (k * 36 + tt) := by
  have hl := vt_lt hv
  refine ⟨?_, ?_⟩
  · rw [show (k * 36 + tt) % 36 = tt by omega]
    exact hv
  · rw [show (k * 36 + tt) / 36 = k by omega]
    exact hf
set_option maxRecDepth 100000 in
theorem DH_wk {w h k tt m f g r : Nat} {wl : Nat → Int32} (hw : w ≤ 7) (hh : h ≤ 7) (hv : vt tt = true) (hf : frN w h wl k) (f1 : 1 ≤ f) (f2 : f ≤ 6) (g1 : 1 ≤ g) (g2 : g ≤ 6) (hg : DH w h wl k tt (m * 36 + wiN f g) = some r) : wk (nxt w h wl) r k m := by
  have hx := ok_one hv hf
  have hg2 : (fin (nbF w h wl) 1764 [k * 36 + tt]).2 (m * 36 + wiN f g) = some r := hg
  obtain ⟨s, hs, hwk⟩ := ((fin_iff (M := 1764) nb_ok (fun v => okN_lt hw hh) (by simp) (fun s hs => by rw [List.mem_singleton.mp hs]; exact hx) _ r).mp hg2).1
  rw [List.mem_singleton.mp hs] at hwk
  have hwi := wiN_lt f (by omega) g (by omega) f1 g1
  have hl := vt_lt hv
  have h2 := (wk_dn r _ _ hx hwk).2
  rw [show (k * 36 + tt) / 36 = k by omega, show (m * 36 + wiN f g) / 36 = m by omega] at h2
  exact h2
set_option maxRecDepth 100000 in
theorem cbh_iff {w h k tt n m : Nat} {wl : Nat → Int32} (hw : w ≤ 7) (hh : h ≤ 7) (hv : vt tt = true) (hf : frN w h wl k) (hns : ¬ (0 < n ∧ ∀ d, d < 4 → nxt w h wl k d = none)) : cbh n (ftc (DH w h wl k tt) m) = true ↔ wk (nxt w h wl) n k m := by
  have hm := isMin_ftc (DH w h wl k tt) m
  constructor
  · intro e
    cases z : ftc (DH w h wl k tt) m with
    | none =>
      rw [z] at e
      cases e
    | some r =>
      rw [z] at e
      have e2 : r ≤ n ∧ (n - r) % 2 = 0 := by simpa [cbh] using e
      obtain ⟨⟨f, f1, f2, g, g1, g2, hg⟩, -⟩ := hm.1 r z
      have h2 := DH_wk hw hh hv hf f1 f2 g1 g2 hg
      by_cases c : r = n
      · rw [← c]
        exact h2
      · have hsh : ∃ d j, d < 4 ∧ nxt w h wl k d = some j := Classical.byContradiction fun q => hns ⟨by omega, fun d hd => by
          cases y : nxt w h wl k d with
          | none => rfl
          | some j => exact (q ⟨d, j, hd, y⟩).elim⟩
        have h3 := wk_ev hw hf hsh h2 ((n - r) / 2)
        rw [show r + 2 * ((n - r) / 2) = n by omega] at h3
        exact h3
  · intro hwk
    obtain ⟨t, ht, hw2⟩ := wk_up n k tt m hv hwk
    obtain ⟨r, hr, hrn⟩ := fin_wk (M := 1764) nb_ok (fun v => okN_lt hw hh) (by simp) (fun s hs => by rw [List.mem_singleton.mp hs]; exact ok_one hv hf) n _ _ (List.mem_singleton.mpr rfl) hw2
    have hl := vt_lt ht
    have et : wiN (t / 6 + 1) (t % 6 + 1) = t := by
      unfold wiN
      omega
    have hr2 : DH w h wl k tt (m * 36 + wiN (t / 6 + 1) (t % 6 + 1)) = some r := by
      rw [et]
      exact hr
    cases z : ftc (DH w h wl k tt) m with
    | none => exact (hm.2 z r ⟨t / 6 + 1, by omega, by omega, t % 6 + 1, by omega, by omega, hr2⟩).elim
    | some r0 =>
      obtain ⟨⟨f, f1, f2, g, g1, g2, hg⟩, hle⟩ := hm.1 r0 z
      have h3 := hle r ⟨t / 6 + 1, by omega, by omega, t % 6 + 1, by omega, by omega, hr2⟩
      have h2 := DH_wk hw hh hv hf f1 f2 g1 g2 hg
      have p1 := (wk_chs hw r0 k m hf.1 h2).2
      have p2 := (wk_chs hw n k m hf.1 hwk).2
      show (decide (r0 ≤ n) && decide ((n - r0) % 2 = 0)) = true
      rw [decide_eq_true (show r0 ≤ n by omega), decide_eq_true (show (n - r0) % 2 = 0 by omega)]
      rfl
