/-! ===== smallest answers ===== -/
/-- o is the smallest number with Q, or there is none -/
def isMin (Q : Nat → Prop) (o : Option Nat) : Prop := (∀ r, o = some r → Q r ∧ ∀ s, Q s → r ≤ s) ∧ (o = none → ∀ s, ¬ Q s)
theorem isMin_eq {Q : Nat → Prop} {a b : Option Nat} (ha : isMin Q a) (hb : isMin Q b) : a = b := by
  cases a with
  | none =>
    cases b with
    | none => rfl
    | some y => exact absurd (hb.1 y rfl).1 (ha.2 rfl y)
  | some x =>
    cases b with
    | none => exact absurd (ha.1 x rfl).1 (hb.2 rfl x)
    | some y => rw [Nat.le_antisymm ((ha.1 x rfl).2 y (hb.1 y rfl).1) ((hb.1 y rfl).2 x (ha.1 x rfl).1)]
theorem isMin_cg {Q R : Nat → Prop} {o : Option Nat} (h : ∀ r, Q r ↔ R r) (ho : isMin Q o) : isMin R o :=
  ⟨fun r e => ⟨(h r).mp (ho.1 r e).1, fun s hs => (ho.1 r e).2 s ((h s).mpr hs)⟩, fun e s hs => ho.2 e s ((h s).mpr hs)⟩
theorem isMin_op (o : Option Nat) : isMin (fun r => o = some r) o :=
  ⟨fun r e => ⟨e, fun s hs => by rw [e] at hs; cases hs; exact Nat.le_refl _⟩, fun e s hs => by rw [e] at hs; cases hs⟩
theorem isMin_mn {Q R : Nat → Prop} {a b : Option Nat} (ha : isMin Q a) (hb : isMin R b) : isMin (fun r => Q r ∨ R r) (mn a b) := by
  cases a with
  | none =>
    have e : mn none b = b := rfl
    rw [e]
    exact isMin_cg (fun r => ⟨Or.inr, fun z => z.elim (fun q => absurd q (ha.2 rfl r)) id⟩) hb
  | some x =>
    cases b with
    | none => exact isMin_cg (fun r => ⟨Or.inl, fun z => z.elim id (fun q => absurd q (hb.2 rfl r))⟩) ha
    | some y =>
      obtain ⟨x1, x2⟩ := ha.1 x rfl
      obtain ⟨y1, y2⟩ := hb.1 y rfl
      refine ⟨fun r e => ?_, fun e => by cases e⟩
      have e : (if y < x then y else x) = r := Option.some.inj e
      by_cases z : y < x
      · rw [if_pos z] at e
        subst e
        exact ⟨Or.inr y1, fun s hs => hs.elim (fun q => by have := x2 s q; omega) (y2 s)⟩
      · rw [if_neg z] at e
        subst e
        exact ⟨Or.inl x1, fun s hs => hs.elim (x2 s) (fun q => by have := y2 s q; omega)⟩
theorem isMin_mnf {p : Nat → Option Nat} {Q : Nat → Nat → Prop} : ∀ n, (∀ i, 1 ≤ i → i ≤ n → isMin (Q i) (p i)) → isMin (fun r => ∃ i, 1 ≤ i ∧ i ≤ n ∧ Q i r) (mnf p n)
  | 0, _ => ⟨fun r e => (by cases e), fun _ s hs => by obtain ⟨i, h1, h2, _⟩ := hs; omega⟩
  | n + 1, h => by
    refine isMin_cg (fun r => ?_) (isMin_mn (isMin_mnf n (fun i h1 h2 => h i h1 (by omega))) (h (n + 1) (by omega) (Nat.le_refl _)))
    constructor
    · rintro (⟨i, h1, h2, hq⟩ | hq)
      · exact ⟨i, h1, by omega, hq⟩
      · exact ⟨n + 1, by omega, Nat.le_refl _, hq⟩
    · rintro ⟨i, h1, h2, hq⟩
      by_cases e : i = n + 1
      · subst e
        exact Or.inr hq
      · exact Or.inl ⟨i, h1, by omega, hq⟩
theorem isMin_fwt (D : Nat → Option Nat) (k f : Nat) : isMin (fun r => ∃ g, 1 ≤ g ∧ g ≤ 6 ∧ D (k * 36 + wiN f g) = some r) (fwt D k f) :=
  isMin_mnf 6 (fun g _ _ => isMin_op _)
theorem isMin_ftc (D : Nat → Option Nat) (k : Nat) : isMin (fun r => ∃ f, 1 ≤ f ∧ f ≤ 6 ∧ ∃ g, 1 ≤ g ∧ g ≤ 6 ∧ D (k * 36 + wiN f g) = some r) (ftc D k) :=
  isMin_mnf 6 (fun f _ _ => isMin_fwt D k f)
/-- the first of the queue that p takes -/
def fq (p : Nat → Bool) (S : qS) : Option Nat := (S.1.find? p).bind S.2
theorem isMin_fq {P : Nat → Prop} {S : qS} {p : Nat → Bool} (hok : okS P S) (hs : ∀ (i j a b : Nat), i ≤ j → S.1[i]? = some a → S.1[j]? = some b → rk S a ≤ rk S b) : isMin (fun r => ∃ v, p v = true ∧ S.2 v = some r) (fq p S) := by
  unfold fq
  cases e : S.1.find? p with
  | none =>
    refine ⟨fun r h => (by cases h), fun _ s ⟨v, h1, h2⟩ => ?_⟩
    exact (List.find?_eq_none.mp e) v ((hok.1 v).mp ⟨s, h2⟩) h1
  | some v =>
    obtain ⟨hp, i, hi, ev, hb⟩ := List.find?_eq_some_iff_getElem.mp e
    obtain ⟨rv, hrv⟩ := (hok.1 v).mpr (List.mem_of_find?_eq_some e)
    have e2 : (some v).bind S.2 = some rv := hrv
    rw [e2]
    refine ⟨fun r h => ?_, fun h => by cases h⟩
    cases h
    refine ⟨⟨v, hp, hrv⟩, fun s ⟨u, h1, h2⟩ => ?_⟩
    obtain ⟨j, hj⟩ := List.getElem?_of_mem ((hok.1 u).mp ⟨s, h2⟩)
    have hij : i ≤ j := by
      rcases Nat.lt_or_ge j i with z | z
      · have h3 := hb j z
        have h4 : S.1[j]'(by omega) = u := (List.getElem?_eq_some_iff.mp hj).2
        rw [h4, h1] at h3
        cases h3
      · exact z
    have := hs i j v u hij (List.getElem?_eq_some_iff.mpr ⟨hi, ev⟩) hj
    rw [rk_of hrv, rk_of h2] at this
    exact this
def qp (c f v : Nat) : Bool := decide (v / 36 = c) && (decide (f = 0) || decide (v % 36 / 6 + 1 = f))
def fw0 (D : Nat → Option Nat) (c f : Nat) : Option Nat := if f = 0 then ftc D c else fwt D c f
theorem fq_fw0 {P : Nat → Prop} {S : qS} (hok : okS P S) (hs : ∀ (i j a b : Nat), i ≤ j → S.1[i]? = some a → S.1[j]? = some b → rk S a ≤ rk S b) (c f : Nat) (hf : f ≤ 6) : fq (qp c f) S = fw0 S.2 c f := by
  refine isMin_eq (isMin_fq hok hs) ?_
  unfold fw0
  by_cases z : f = 0
  · rw [if_pos z]
    refine isMin_cg (fun r => ?_) (isMin_ftc S.2 c)
    constructor
    · rintro ⟨f2, h1, h2, g, h3, h4, e⟩
      refine ⟨_, ?_, e⟩
      unfold qp wiN
      rw [Bool.and_eq_true, Bool.or_eq_true, decide_eq_true_eq, decide_eq_true_eq]
      exact ⟨by omega, Or.inl z⟩
    · rintro ⟨v, h1, h2⟩
      unfold qp at h1
      rw [Bool.and_eq_true, decide_eq_true_eq] at h1
      refine ⟨v % 36 / 6 + 1, by omega, by omega, v % 36 % 6 + 1, by omega, by omega, ?_⟩
      unfold wiN
      rw [show c * 36 + ((v % 36 / 6 + 1 - 1) * 6 + (v % 36 % 6 + 1 - 1)) = v by omega]
      exact h2
  · rw [if_neg z]
    refine isMin_cg (fun r => ?_) (isMin_fwt S.2 c f)
    constructor
    · rintro ⟨g, h3, h4, e⟩
      refine ⟨_, ?_, e⟩
      unfold qp wiN
      rw [Bool.and_eq_true, Bool.or_eq_true, decide_eq_true_eq, decide_eq_true_eq, decide_eq_true_eq]
      exact ⟨by omega, Or.inr (by omega)⟩
    · rintro ⟨v, h1, h2⟩
      unfold qp at h1
      rw [Bool.and_eq_true, Bool.or_eq_true, decide_eq_true_eq, decide_eq_true_eq, decide_eq_true_eq] at h1
      refine ⟨v % 36 % 6 + 1, by omega, by omega, ?_⟩
      unfold wiN
      rw [show c * 36 + ((f - 1) * 6 + (v % 36 % 6 + 1 - 1)) = v by omega]
      exact h2
theorem one_src {w h : Nat} {wl : Nat → Int32} {k tt : Nat} (hv : vt tt = true) (hf : frN w h wl k) : [k * 36 + tt].Nodup ∧ ∀ s ∈ [k * 36 + tt], okN w h wl s := by
  refine ⟨by simp, fun s h1 => ?_⟩
  have ht := vt_lt hv
  rw [List.mem_singleton.mp h1]
  refine ⟨?_, ?_⟩
  · rw [show (k * 36 + tt) % 36 = tt by omega]; exact hv
  · rw [show (k * 36 + tt) / 36 = k by omega]; exact hf
theorem fin_fq {w h : Nat} {wl : Nat → Int32} {k tt : Nat} (hv : vt tt = true) (hf : frN w h wl k) (c f : Nat) (hf6 : f ≤ 6) : fq (qp c f) (fin (nbF w h wl) 1764 [k * 36 + tt]) = fw0 (fin (nbF w h wl) 1764 [k * 36 + tt]).2 c f := by
  have hS := fin_in (nb := nbF w h wl) (M := 1764) nb_ok (one_src hv hf).1 (one_src hv hf).2
  exact fq_fw0 hS.1 hS.2.2.2.1 c f hf6
set_option maxRecDepth 100000 in
theorem DB_def (w h : Nat) (wl : Nat → Int32) (e f : Nat) : DB w h wl e f = (fin (nbF w h wl) 1764 (sBk w h wl e f)).2 := rfl
/-- from x to the top f on e, and back from there: the same -/
theorem DB_eq {w h e f x : Nat} {wl : Nat → Int32} (hw : w ≤ 7) (hh : h ≤ 7) (he : frN w h wl e) (hf1 : 1 ≤ f) (hf : f < 7) (hx : okN w h wl x) : DB w h wl e f x = fwt (fin (nbF w h wl) 1764 [x]).2 e f := by
  have hM : ∀ v, okN w h wl v → v < 1764 := fun v => okN_lt hw hh
  have hrev : ∀ a d v, okN w h wl a → d < 4 → nbF w h wl a d = some v → ∃ e, e < 4 ∧ nbF w h wl v e = some a := fun a d v h1 h2 h3 => ⟨(d + 2) % 4, by omega, nb_rev hw a d v h1 h2 h3⟩
  have hb := sBk_ok (w := w) (h := h) (e := e) (wl := wl) hf1 hf
  have h1 : [x].Nodup := by simp
  have h2 : ∀ s ∈ [x], okN w h wl s := fun s hs => by rw [List.mem_singleton.mp hs]; exact hx
  have i1 := fin_iff (M := 1764) nb_ok hM hb.1 hb.2 x
  have n1 := fin_none (M := 1764) nb_ok hM hb.1 hb.2 x
  have i2 := fin_iff (M := 1764) nb_ok hM h1 h2
  have n2 := fin_none (M := 1764) nb_ok hM h1 h2
  have mem : ∀ v, v ∈ sBk w h wl e f ↔ v / 36 = e ∧ vt (v % 36) = true ∧ v % 36 / 6 + 1 = f := by
    intro v
    unfold sBk
    rw [if_pos (frb_iff.mpr he)]
    unfold sB
    rw [List.mem_map]
    constructor
    · rintro ⟨t, h3, rfl⟩
      obtain ⟨h4, h5⟩ := (sBo_ok f hf hf1 6 (by omega)).2 t h3
      have := vt_lt h4
      refine ⟨by omega, ?_, ?_⟩
      · rw [show (e * 36 + t) % 36 = t by omega]; exact h4
      · rw [show (e * 36 + t) % 36 = t by omega]; exact h5
    · rintro ⟨h3, h4, h5⟩
      exact ⟨v % 36, sBo_all f hf hf1 _ (vt_lt h4) h4 h5, by omega⟩
  -- the walks from a source to x, and from x to it
  have W : ∀ r, (∃ s ∈ sBk w h wl e f, wk (nbF w h wl) r s x) ↔ ∃ g, 1 ≤ g ∧ g ≤ 6 ∧ wk (nbF w h wl) r x (e * 36 + wiN f g) := by
    intro r
    constructor
    · rintro ⟨s, hs, hk⟩
      have h3 := (mem s).mp hs
      have h4 := (wk_rev nb_ok hrev (hb.2 s hs) hk).2
      refine ⟨s % 36 % 6 + 1, by omega, by omega, ?_⟩
      unfold wiN
      rw [show e * 36 + ((f - 1) * 6 + (s % 36 % 6 + 1 - 1)) = s by omega]
      exact h4
    · rintro ⟨g, g1, g2, hk⟩
      have h4 := wk_rev nb_ok hrev hx hk
      have hwl := wiN_lt f hf g (by omega) hf1 g1
      refine ⟨_, (mem _).mpr ⟨by omega, h4.1.1, ?_⟩, h4.2⟩
      unfold wiN at hwl ⊢
      omega
  refine isMin_eq (Q := fun r => ∃ s ∈ sBk w h wl e f, wk (nbF w h wl) r s x) ?_ ?_
  · rw [DB_def]
    refine ⟨fun r hr => ?_, fun hr s => n1.mp hr s⟩
    obtain ⟨q1, q2⟩ := (i1 r).mp hr
    refine ⟨q1, fun s hs => ?_⟩
    rcases Nat.lt_or_ge s r with z | z
    · exact absurd hs (q2 s z)
    · exact z
  · have hm := isMin_fwt (fin (nbF w h wl) 1764 [x]).2 e f
    have key : ∀ g r, (∃ s ∈ [x], wk (nbF w h wl) r s (e * 36 + wiN f g)) ↔ wk (nbF w h wl) r x (e * 36 + wiN f g) := by
      intro g r
      constructor
      · rintro ⟨s, hs, hk⟩
        rw [List.mem_singleton.mp hs] at hk
        exact hk
      · intro hk
        exact ⟨x, List.mem_singleton.mpr rfl, hk⟩
    have told : ∀ g r, wk (nbF w h wl) r x (e * 36 + wiN f g) → ∃ r2, (fin (nbF w h wl) 1764 [x]).2 (e * 36 + wiN f g) = some r2 ∧ r2 ≤ r := fun g r hk => fin_wk (M := 1764) nb_ok hM h1 h2 r x _ (List.mem_singleton.mpr rfl) hk
    refine ⟨fun r hr => ?_, fun hr s hs => ?_⟩
    · obtain ⟨⟨g, g1, g2, hg⟩, q⟩ := hm.1 r hr
      refine ⟨(W r).mpr ⟨g, g1, g2, (key g r).mp ((i2 _ r).mp hg).1⟩, fun s hs => ?_⟩
      obtain ⟨g', g1', g2', hk⟩ := (W s).mp hs
      obtain ⟨r2, e2, hle⟩ := told g' s hk
      have := q r2 ⟨g', g1', g2', e2⟩
      omega
    · obtain ⟨g', g1', g2', hk⟩ := (W s).mp hs
      obtain ⟨r2, e2, -⟩ := told g' s hk
      exact hm.2 hr r2 ⟨g', g1', g2', e2⟩
/-- whoever stands on no free cell is never reached -/
theorem DB_no {w h e f x : Nat} {wl : Nat → Int32} (hf1 : 1 ≤ f) (hf : f < 7) (hx : ¬ okN w h wl x) : DB w h wl e f x = none := by
  rw [DB_def]
  have hb := sBk_ok (w := w) (h := h) (e := e) (wl := wl) hf1 hf
  have hS := fin_in (nb := nbF w h wl) (M := 1764) nb_ok hb.1 hb.2
  cases z : (fin (nbF w h wl) 1764 (sBk w h wl e f)).2 x with
  | none => rfl
  | some r => exact absurd (hS.1.2.2 x ((hS.1.1 x).mp ⟨r, z⟩)) hx
