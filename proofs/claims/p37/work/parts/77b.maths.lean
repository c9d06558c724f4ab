/-! ===== what the law holds, as numbers ===== -/
theorem fc_sum : ∀ t, t < 36 → vt t = true → nI (t / 6 + 1) + nI (7 - (t / 6 + 1)) = 7 ∧ nI (faN t 0) + nI (faN t 2) = 7 ∧ nI (faN t 1) + nI (faN t 3) = 7 := by decide +kernel
/-- the faces as bits: top, bottom, then the first n sides -/
def fmk (t : Nat) : Nat → Int32
  | 0 => (1 <<< (nI (t / 6 + 1) &&& 31)) ||| (1 <<< (nI (7 - (t / 6 + 1)) &&& 31))
  | n + 1 => fmk t n ||| (1 <<< (nI (faN t n) &&& 31))
theorem fmk_126 : ∀ t, t < 36 → vt t = true → fmk t 4 = 126 := by decide +kernel
def smN (p : Nat → Nat) : Nat → Nat
  | 0 => 0
  | n + 1 => smN p n + p n
theorem smN_add {p q : Nat → Nat} : ∀ n, smN (fun v => p v + q v) n = smN p n + smN q n
  | 0 => rfl
  | n + 1 => by
    show smN (fun v => p v + q v) n + (p n + q n) = smN p n + p n + (smN q n + q n)
    rw [smN_add n]
    omega
theorem smN_le {p q : Nat → Nat} : ∀ n, (∀ i, i < n → p i ≤ q i) → smN p n ≤ smN q n
  | 0, _ => Nat.le_refl 0
  | n + 1, h => by
    show smN p n + p n ≤ smN q n + q n
    have := smN_le n (fun i hi => h i (by omega))
    have := h n (by omega)
    omega
theorem smN_z : ∀ n, smN (fun _ => 0) n = 0
  | 0 => rfl
  | n + 1 => by
    show smN (fun _ => 0) n + 0 = 0
    rw [smN_z n]
theorem one_0 : ∀ n, n < 10 → smN (fun v => if decide (nI n = nI v) = true then 1 else 0) 10 = 1 := by decide +kernel
theorem row_w {g : Nat → Int32} : ∀ w, (∀ i, i < w → inR (g i) 0 9) → smN (fun v => ct (fun i => decide (g i = nI v)) w) 10 = w
  | 0, _ => smN_z 10
  | w + 1, h => by
    have e : (fun v => ct (fun i => decide (g i = nI v)) (w + 1)) = fun v => ct (fun i => decide (g i = nI v)) w + (if decide (g w = nI v) = true then 1 else 0) := by
      funext v
      rfl
    rw [e, smN_add, row_w w (fun i hi => h i (by omega))]
    obtain ⟨n, e2, -, n2⟩ := h w (by omega)
    rw [e2, one_0 n (by omega)]
theorem all_wh {w : Nat} {pr : Nat → Int32} : ∀ h, (∀ i j, i < w → j < h → inR (pr (j * 7 + i)) 0 9) → smN (fun v => ct2 (fun j i => decide (pr (j * 7 + i) = nI v)) w h) 10 = w * h
  | 0, _ => smN_z 10
  | h + 1, hp => by
    have e : (fun v => ct2 (fun j i => decide (pr (j * 7 + i) = nI v)) w (h + 1)) = fun v => ct2 (fun j i => decide (pr (j * 7 + i) = nI v)) w h + ct (fun i => decide (pr (h * 7 + i) = nI v)) w := by
      funext v
      rfl
    rw [e, smN_add, all_wh h (fun i j h1 h2 => hp i j h1 (by omega)), row_w w (fun i hi => hp i h hi (by omega)), Nat.mul_succ]
/-- cells counted by columns -/
theorem cols_ct2 {p : Nat → Bool} {w h : Nat} (hw1 : 1 ≤ w) (hw : w ≤ 7) (hh : h ≤ 7) (hz : ∀ c, c < 49 → ¬ (c % 7 < w ∧ c / 7 < h) → p c = false) : ct p 49 = ct2 (fun c r => p (r * 7 + c)) h w := by
  rw [ct_lin hw1 hw hh hz, ← ct2_flip (fun r c => p (r * 7 + c)) w h, ct2_lin _ w hw1 h]
  rfl
/-! ===== distances ===== -/
theorem oI_sgn {o : Option Nat} (h : ∀ r, o = some r → r < 5000) : (oI o < 0 ↔ o = none) ∧ (0 ≤ oI o ↔ ∃ r, o = some r) := by
  cases o with
  | none => exact ⟨⟨fun _ => rfl, fun _ => by decide⟩, ⟨fun z => absurd z (by decide), fun ⟨r, e⟩ => by cases e⟩⟩
  | some r =>
    have hr := h r rfl
    have e : (0 : Int32) ≤ nI r := (leN (a := 0) (by omega) (by omega)).mpr (Nat.zero_le _)
    exact ⟨⟨fun z => absurd e (Int32.not_le.mpr z), fun z => by cases z⟩, ⟨fun _ => ⟨r, rfl⟩, fun _ => e⟩⟩
theorem mnf_ct {p : Nat → Option Nat} : ∀ n, (mnf p n = none → ct (fun f => (p (f + 1)).isSome) n = 0) ∧ (∀ r, mnf p n = some r → 0 < ct (fun f => (p (f + 1)).isSome) n)
  | 0 => ⟨fun _ => rfl, fun r e => by cases e⟩
  | n + 1 => by
    obtain ⟨i1, i2⟩ := mnf_ct (p := p) n
    have em : mnf p (n + 1) = mn (mnf p n) (p (n + 1)) := rfl
    rw [em]
    cases z : p (n + 1) with
    | none =>
      rw [ct_f (p := fun f => (p (f + 1)).isSome) (n := n) (by show (p (n + 1)).isSome = false; rw [z]; rfl)]
      cases y : mnf p n with
      | none => exact ⟨fun _ => i1 y, fun r e => by cases e⟩
      | some x => exact ⟨fun e => (by cases e), fun r _ => i2 x y⟩
    | some x =>
      rw [ct_t (p := fun f => (p (f + 1)).isSome) (n := n) (by show (p (n + 1)).isSome = true; rw [z]; rfl)]
      refine ⟨fun e => ?_, fun r _ => Nat.succ_pos _⟩
      cases y : mnf p n with
      | none => rw [y] at e; cases e
      | some u => rw [y] at e; cases e
theorem tops_ct (D : Nat → Option Nat) (m : Nat) : (ftc D m = none → ct (fun f => (fwt D m (f + 1)).isSome) 6 = 0) ∧ (∀ r, ftc D m = some r → 0 < ct (fun f => (fwt D m (f + 1)).isSome) 6) := mnf_ct (p := fun f => fwt D m f) 6
theorem ftc_le {D : Nat → Option Nat} {m f r : Nat} (f1 : 1 ≤ f) (f6 : f ≤ 6) (h : fwt D m f = some r) : ∃ r2, ftc D m = some r2 ∧ r2 ≤ r := by
  have hm := isMin_ftc D m
  obtain ⟨⟨g, g1, g2, hg⟩, -⟩ := (isMin_fwt D m f).1 r h
  cases z : ftc D m with
  | none => exact (hm.2 z r ⟨f, f1, f6, g, g1, g2, hg⟩).elim
  | some r2 => exact ⟨r2, rfl, (hm.1 r2 z).2 r ⟨f, f1, f6, g, g1, g2, hg⟩⟩
section
variable {w h k tt : Nat} {wl : Nat → Int32}
set_option maxRecDepth 100000 in
theorem DH_lt (hw : w ≤ 7) (hh : h ≤ 7) (hv : vt tt = true) (hf : frN w h wl k) : ∀ v r, DH w h wl k tt v = some r → r < 5000 := (bS_one hw hh hv hf).2
theorem ftc_is (hw : w ≤ 7) (hh : h ≤ 7) (hv : vt tt = true) (hf : frN w h wl k) {m r : Nat} (hr : ftc (DH w h wl k tt) m = some r) : wk (nxt w h wl) r k m := by
  obtain ⟨⟨f, f1, f2, g, g1, g2, hg⟩, -⟩ := (isMin_ftc (DH w h wl k tt) m).1 r hr
  exact DH_wk hw hh hv hf f1 f2 g1 g2 hg
set_option maxRecDepth 100000 in
theorem ftc_wk (hw : w ≤ 7) (hh : h ≤ 7) (hv : vt tt = true) (hf : frN w h wl k) {m n : Nat} (hn : wk (nxt w h wl) n k m) : ∃ r, ftc (DH w h wl k tt) m = some r ∧ r ≤ n := by
  obtain ⟨t, ht, hw2⟩ := wk_up n k tt m hv hn
  obtain ⟨r, hr, hrn⟩ := fin_wk (M := 1764) nb_ok (fun v => okN_lt hw hh) (by simp) (fun s hs => by rw [List.mem_singleton.mp hs]; exact ok_one hv hf) n _ _ (List.mem_singleton.mpr rfl) hw2
  have hl := vt_lt ht
  have et : wiN (t / 6 + 1) (t % 6 + 1) = t := by
    unfold wiN
    omega
  have hr2 : DH w h wl k tt (m * 36 + wiN (t / 6 + 1) (t % 6 + 1)) = some r := by
    rw [et]
    exact hr
  have hm := isMin_ftc (DH w h wl k tt) m
  cases z : ftc (DH w h wl k tt) m with
  | none => exact (hm.2 z r ⟨t / 6 + 1, by omega, by omega, t % 6 + 1, by omega, by omega, hr2⟩).elim
  | some r0 =>
    have := (hm.1 r0 z).2 r ⟨t / 6 + 1, by omega, by omega, t % 6 + 1, by omega, by omega, hr2⟩
    exact ⟨r0, rfl, by omega⟩
theorem ftc_own (hw : w ≤ 7) (hh : h ≤ 7) (hv : vt tt = true) (hf : frN w h wl k) : ftc (DH w h wl k tt) k = some 0 := by
  obtain ⟨r, e, hr⟩ := ftc_wk (tt := tt) (m := k) (n := 0) hw hh hv hf rfl
  rw [e, Nat.le_zero.mp hr]
theorem ftc_next (hw : w ≤ 7) (hh : h ≤ 7) (hv : vt tt = true) (hf : frN w h wl k) {d m : Nat} (hd : d < 4) (hm : nxt w h wl k d = some m) : ftc (DH w h wl k tt) m = some 1 := by
  have h1 : wk (nxt w h wl) 1 k m := ⟨k, d, rfl, hd, hm⟩
  obtain ⟨r, e, hr⟩ := ftc_wk (tt := tt) hw hh hv hf h1
  have p1 := (wk_chs hw 1 k m hf.1 h1).2
  have p2 := (wk_chs hw r k m hf.1 (ftc_is hw hh hv hf e)).2
  unfold chs at p1 p2
  rw [e, show r = 1 by omega]
theorem bh_one (hw : w ≤ 7) (hh : h ≤ 7) (hv : vt tt = true) (hf : frN w h wl k) : ct (fun c => cbh 0 (ftc (DH w h wl k tt) c)) 49 = 1 := by
  have hk : k < 49 := by have := hf.1; have := hf.2.1; omega
  have e : ∀ c, cbh 0 (ftc (DH w h wl k tt) c) = decide (c = k) := fun c => by
    have hi := cbh_iff (m := c) (n := 0) hw hh hv hf (fun z => absurd z.1 (Nat.lt_irrefl 0))
    by_cases q : c = k
    · rw [decide_eq_true q, hi.mpr (show k = c from q.symm)]
    · rw [decide_eq_false q, Bool.eq_false_iff.mpr (fun z => q (show k = c from hi.mp z).symm)]
  rw [ct_cg (q := fun c => decide (c = k)) 49 (fun c _ => e c), show (49 : Nat) = k + (1 + (48 - k)) by omega, ct_add, ct_add, ct_no k (fun i hi => decide_eq_false (by omega)), ct_no (48 - k) (fun i _ => decide_eq_false (by omega))]
  show 0 + (0 + (if decide (k + 0 = k) = true then 1 else 0) + 0) = 1
  rw [if_pos (decide_eq_true (Nat.add_zero k))]
/-- columns and rows apart -/
def apN (k m : Nat) : Nat := (m % 7 - k % 7) + (k % 7 - m % 7) + ((m / 7 - k / 7) + (k / 7 - m / 7))
theorem nxt_ap (hw : w ≤ 7) {b d m : Nat} (hb : b % 7 < w) (hm : nxt w h wl b d = some m) : apN b m ≤ 1 := by
  unfold nxt at hm
  unfold apN
  split at hm
  all_goals
    split at hm
    · next q =>
      cases hm
      try rw [Bool.and_eq_true, decide_eq_true_eq] at q
      try have q1 := q.1
      omega
    · cases hm
theorem wk_ap (hw : w ≤ 7) : ∀ (n k m : Nat), k % 7 < w → wk (nxt w h wl) n k m → apN k m ≤ n
  | 0, k, m, _, h => by
    have : k = m := h
    subst this
    unfold apN
    omega
  | n + 1, k, m, hk, h => by
    obtain ⟨b, d, h1, h2, h3⟩ := h
    have g1 := wk_ap hw n k b hk h1
    have g2 := nxt_ap hw (wk_chs hw n k b hk h1).1 h3
    unfold apN at g1 g2 ⊢
    omega
theorem ftc_ap (hw : w ≤ 7) (hh : h ≤ 7) (hv : vt tt = true) (hf : frN w h wl k) {m r : Nat} (hr : ftc (DH w h wl k tt) m = some r) : apN k m ≤ r ∧ (r - apN k m) % 2 = 0 := by
  have hwk := ftc_is hw hh hv hf hr
  have h1 := wk_ap hw r k m hf.1 hwk
  have h2 := (wk_chs hw r k m hf.1 hwk).2
  unfold chs at h2
  unfold apN at h1 ⊢
  exact ⟨h1, by omega⟩
theorem ftc_wall (hw : w ≤ 7) (hh : h ≤ 7) (hv : vt tt = true) (hf : frN w h wl k) {m : Nat} (hm : ¬ wl m = 0) : ftc (DH w h wl k tt) m = none := by
  cases e : ftc (DH w h wl k tt) m with
  | none => rfl
  | some r => exact absurd (wk_fr hf r m (ftc_is hw hh hv hf e)).2.2 hm
theorem DH_off (hw : w ≤ 7) (hh : h ≤ 7) (hv : vt tt = true) (hf : frN w h wl k) {c : Nat} (hc : ¬ (c % 7 < w ∧ c / 7 < h)) : ftc (DH w h wl k tt) c = none := by
  cases e : ftc (DH w h wl k tt) c with
  | none => rfl
  | some r =>
    have := wk_fr hf r c (ftc_is hw hh hv hf e)
    exact absurd ⟨this.1, this.2.1⟩ hc
end
/-! ===== ways to lie: as many as cells within reach, and no more than 12 for each ===== -/
def par (t : Nat) : Nat := if [1, 4, 8, 9, 12, 17, 18, 23, 26, 27, 31, 34].contains t then 0 else 1
theorem par_rl0 : ∀ t, t < 36 → ∀ d, d < 4 → vt t = true → par (rlN t d) = 1 - par t := by decide +kernel
theorem par_12 : ∀ e, e < 2 → ct (fun i => vt i && decide (par i = e)) 36 ≤ 12 := by decide +kernel
theorem par_lt (t : Nat) : par t < 2 := by
  unfold par
  split <;> omega
theorem ct_mono {p q : Nat → Bool} : ∀ n, (∀ i, i < n → p i = true → q i = true) → ct p n ≤ ct q n
  | 0, _ => Nat.le_refl 0
  | n + 1, h => by
    have ih := ct_mono (p := p) (q := q) n (fun i hi => h i (by omega))
    have hn := h n (by omega)
    show ct p n + (if p n then 1 else 0) ≤ ct q n + (if q n then 1 else 0)
    cases z : p n with
    | false =>
      show ct p n + 0 ≤ _
      split <;> omega
    | true =>
      rw [hn z]
      omega
theorem ct_pos {p : Nat → Bool} {i : Nat} : ∀ n, i < n → p i = true → 1 ≤ ct p n
  | 0, h, _ => absurd h (Nat.not_lt_zero i)
  | n + 1, h, hp => by
    show 1 ≤ ct p n + (if p n then 1 else 0)
    by_cases e : i = n
    · subst e
      rw [hp]
      exact Nat.le_add_left _ _
    · have := ct_pos n (by omega) hp
      omega
theorem wk_par {w h : Nat} {wl : Nat → Int32} : ∀ (n x y : Nat), okN w h wl x → wk (nbF w h wl) n x y → par (y % 36) = (par (x % 36) + n) % 2
  | 0, x, y, _, h => by
    have : x = y := h
    subst this
    have := par_lt (x % 36)
    omega
  | n + 1, x, y, hx, h => by
    obtain ⟨b, d, h1, h2, h3⟩ := h
    have ih := wk_par n x b hx h1
    have hb := (wk_dn n x b hx h1).1
    unfold nbF at h3
    cases e : nxt w h wl (b / 36) d with
    | none => rw [e] at h3; cases h3
    | some j =>
      rw [e] at h3
      have h4 : j * 36 + rlN (b % 36) d = y := Option.some.inj h3
      have hl := rlN_lt hb.1 h2
      rw [← h4, show (j * 36 + rlN (b % 36) d) % 36 = rlN (b % 36) d by omega, par_rl0 _ (vt_lt hb.1) d h2 hb.1, ih]
      have := par_lt (x % 36)
      omega
theorem ct_list : ∀ (M : Nat) (l : List Nat), l.Nodup → (∀ v ∈ l, v < M) → l.length = ct (fun v => decide (v ∈ l)) M
  | 0, l, _, h => by
    cases l with
    | nil => rfl
    | cons a t => exact absurd (h a List.mem_cons_self) (Nat.not_lt_zero a)
  | M + 1, l, hn, h => by
    have h1 := ct_list M (l.erase M) (hn.erase M) (fun v hv => by
      have := h v (List.mem_of_mem_erase hv)
      have ne : v ≠ M := fun e => by
        subst e
        exact (List.Nodup.not_mem_erase hn) hv
      omega)
    have h2 : ct (fun v => decide (v ∈ l.erase M)) M = ct (fun v => decide (v ∈ l)) M := ct_cg M (fun i hi => by
      have : i ∈ l.erase M ↔ i ∈ l := List.mem_erase_of_ne (by omega)
      by_cases z : i ∈ l
      · rw [decide_eq_true z, decide_eq_true (this.mpr z)]
      · rw [decide_eq_false z, decide_eq_false (fun y => z (this.mp y))])
    rw [h2] at h1
    show l.length = ct (fun v => decide (v ∈ l)) M + (if decide (M ∈ l) = true then 1 else 0)
    by_cases z : M ∈ l
    · rw [decide_eq_true z, if_pos rfl, ← h1, List.length_erase_of_mem z]
      have := List.length_pos_of_mem z
      omega
    · rw [decide_eq_false z, if_neg (by decide), ← h1, List.erase_of_not_mem z]
      rfl
theorem ct2_btw {b : Nat → Bool} {p : Nat → Nat → Bool} {w K : Nat} : ∀ h, (∀ j, j < h → (b j = false → ct (p j) w = 0) ∧ (b j = true → 1 ≤ ct (p j) w ∧ ct (p j) w ≤ K)) → ct b h ≤ ct2 p w h ∧ ct2 p w h ≤ K * ct b h
  | 0, _ => ⟨Nat.le_refl 0, Nat.zero_le _⟩
  | h + 1, hp => by
    obtain ⟨i1, i2⟩ := ct2_btw (b := b) (p := p) (w := w) (K := K) h (fun j hj => hp j (by omega))
    obtain ⟨g1, g2⟩ := hp h (by omega)
    show ct b (h + 1) ≤ ct2 p w h + ct (p h) w ∧ ct2 p w h + ct (p h) w ≤ K * ct b (h + 1)
    cases z : b h with
    | false =>
      rw [ct_f z, g1 z]
      exact ⟨i1, i2⟩
    | true =>
      rw [ct_t z, Nat.mul_succ]
      have := g2 z
      omega
section
variable {w h k tt : Nat} {wl : Nat → Int32}
set_option maxRecDepth 100000 in
theorem ways_ct (hw : w ≤ 7) (hh : h ≤ 7) (hv : vt tt = true) (hf : frN w h wl k) : (fin (nbF w h wl) 1764 [k * 36 + tt]).1.length = ct2 (fun j i => (DH w h wl k tt (j * 36 + i)).isSome) 36 49 := by
  have hS := fin_okS (ok_one hv hf)
  have e : ∀ v, decide (v ∈ (fin (nbF w h wl) 1764 [k * 36 + tt]).1) = (DH w h wl k tt v).isSome := fun v => by
    have hi := hS.1 v
    unfold DH
    cases z : (fin (nbF w h wl) 1764 [k * 36 + tt]).2 v with
    | none =>
      refine decide_eq_false (fun q => ?_)
      obtain ⟨r, hr⟩ := hi.mpr q
      rw [z] at hr
      cases hr
    | some r => exact decide_eq_true (hi.mp ⟨r, z⟩)
  rw [ct_list 1764 _ hS.2.1 (fun v hv2 => okN_lt hw hh (hS.2.2 v hv2)), ct2_lin _ 36 (by decide) 49]
  refine ct_cg 1764 (fun v _ => ?_)
  rw [e]
  show _ = (DH w h wl k tt (v / 36 * 36 + v % 36)).isSome
  rw [show v / 36 * 36 + v % 36 = v by omega]
set_option maxRecDepth 100000 in
theorem ways_in (hw : w ≤ 7) (hh : h ≤ 7) (hv : vt tt = true) (hf : frN w h wl k) : ct (fun c => (ftc (DH w h wl k tt) c).isSome) 49 ≤ (fin (nbF w h wl) 1764 [k * 36 + tt]).1.length ∧ (fin (nbF w h wl) 1764 [k * 36 + tt]).1.length ≤ 12 * ct (fun c => (ftc (DH w h wl k tt) c).isSome) 49 := by
  rw [ways_ct hw hh hv hf]
  have hx := ok_one hv hf
  have ht := vt_lt hv
  refine ct2_btw 49 (fun j hj => ⟨fun z => ?_, fun z => ?_⟩)
  · refine ct_no 36 (fun i hi => ?_)
    cases e : DH w h wl k tt (j * 36 + i) with
    | none => rfl
    | some r =>
      have et : wiN (i / 6 + 1) (i % 6 + 1) = i := by
        unfold wiN
        omega
      cases y : ftc (DH w h wl k tt) j with
      | none => exact ((isMin_ftc (DH w h wl k tt) j).2 y r ⟨i / 6 + 1, by omega, by omega, i % 6 + 1, by omega, by omega, by rw [et]; exact e⟩).elim
      | some x =>
        rw [y] at z
        cases z
  · cases y : ftc (DH w h wl k tt) j with
    | none =>
      rw [y] at z
      cases z
    | some x =>
      obtain ⟨⟨f, f1, f2, g, g1, g2, hg⟩, -⟩ := (isMin_ftc (DH w h wl k tt) j).1 x y
      refine ⟨ct_pos (i := wiN f g) 36 (wiN_lt f (by omega) g (by omega) f1 g1) (by rw [hg]; rfl), ?_⟩
      refine Nat.le_trans (ct_mono (q := fun i => vt i && decide (par i = (par tt + chs j + chs k) % 2)) 36 (fun i hi q => ?_)) (par_12 _ (Nat.mod_lt _ (by decide)))
      cases e : DH w h wl k tt (j * 36 + i) with
      | none =>
        rw [e] at q
        cases q
      | some r =>
        have e2 : (fin (nbF w h wl) 1764 [k * 36 + tt]).2 (j * 36 + i) = some r := e
        obtain ⟨s, hs, hwk⟩ := ((fin_iff (M := 1764) nb_ok (fun v => okN_lt hw hh) (by simp) (fun s hs => by rw [List.mem_singleton.mp hs]; exact hx) _ r).mp e2).1
        rw [List.mem_singleton.mp hs] at hwk
        have hp := wk_par r _ _ hx hwk
        obtain ⟨hy, hd⟩ := wk_dn r _ _ hx hwk
        rw [show (k * 36 + tt) / 36 = k by omega, show (j * 36 + i) / 36 = j by omega] at hd
        have hc := (wk_chs hw r k j hf.1 hd).2
        rw [show (k * 36 + tt) % 36 = tt by omega, show (j * 36 + i) % 36 = i by omega] at hp
        have hvi := hy.1
        rw [show (j * 36 + i) % 36 = i by omega] at hvi
        rw [hvi, decide_eq_true (show par i = (par tt + chs j + chs k) % 2 by
          unfold chs at hc ⊢
          omega)]
        rfl
/-- the first of the numbers that is so -/
theorem frF_some {p : Nat → Bool} : ∀ (n a d : Nat), a ≤ d → d < a + n → p d = true → ∃ e, frF p n a = some e ∧ p e = true ∧ e < a + n
  | 0, a, d, h1, h2, _ => absurd h2 (by omega)
  | n + 1, a, d, h1, h2, hp => by
    show ∃ e, (if p a then some a else frF p n (a + 1)) = some e ∧ p e = true ∧ e < a + (n + 1)
    cases z : p a with
    | true => exact ⟨a, rfl, z, by omega⟩
    | false =>
      have ne : a ≠ d := fun e => by
        rw [e, hp] at z
        cases z
      obtain ⟨e, e1, e2, e3⟩ := frF_some n (a + 1) d (by omega) (by omega) hp
      exact ⟨e, e1, e2, by omega⟩
set_option maxRecDepth 100000 in
theorem DB_step (hw : w ≤ 7) (hh : h ≤ 7) {e f x l : Nat} (f1 : 1 ≤ f) (f7 : f < 7) (hx : DB w h wl e f x = some (l + 1)) : ∃ d b, d < 4 ∧ nbF w h wl x d = some b ∧ DB w h wl e f b = some l := by
  have hM : ∀ v, okN w h wl v → v < 1764 := fun v => okN_lt hw hh
  have hb := sBk_ok (w := w) (h := h) (e := e) (wl := wl) f1 f7
  rw [DB_def] at hx ⊢
  obtain ⟨⟨s, hs, b, d, g1, g2, g3⟩, q⟩ := (fin_iff (M := 1764) nb_ok hM hb.1 hb.2 x (l + 1)).mp hx
  obtain ⟨r, hr, hrl⟩ := fin_wk (M := 1764) nb_ok hM hb.1 hb.2 l s b hs g1
  have hok : okN w h wl b := (wk_dn l s b (hb.2 s hs) g1).1
  refine ⟨(d + 2) % 4, b, by omega, nb_rev hw b d x hok g2 g3, ?_⟩
  obtain ⟨⟨s2, hs2, k2⟩, -⟩ := (fin_iff (M := 1764) nb_ok hM hb.1 hb.2 b r).mp hr
  rcases Nat.lt_or_ge r l with z | z
  · exact (q (r + 1) (by omega) ⟨s2, hs2, b, d, k2, g2, g3⟩).elim
  · rw [hr, Nat.le_antisymm hrl z]
set_option maxRecDepth 100000 in
theorem DH_def (w h k tt : Nat) (wl : Nat → Int32) : DH w h wl k tt = (fin (nbF w h wl) 1764 [k * 36 + tt]).2 := rfl
set_option maxRecDepth 100000 in
theorem first_is (hw : w ≤ 7) (hh : h ≤ 7) (hv : vt tt = true) (hf : frN w h wl k) {e f : Nat} (f1 : 1 ≤ f) (f7 : f < 7) :
    (fwt (DH w h wl k tt) e f = none ∧ frD w h wl (DB w h wl e f) k tt = none) ∨ (fwt (DH w h wl k tt) e f = some 0 ∧ frD w h wl (DB w h wl e f) k tt = none) ∨
    ∃ l d j, fwt (DH w h wl k tt) e f = some (l + 1) ∧ frD w h wl (DB w h wl e f) k tt = some d ∧ d < 4 ∧ nxt w h wl k d = some j ∧ fwt (DH w h wl j (rlN tt d)) e f = some l := by
  have ht := vt_lt hv
  have hA : DB w h wl e f (k * 36 + tt) = fwt (DH w h wl k tt) e f := by
    rw [DB_all hw hh f1 f7 (ok_one hv hf), DH_def]
  unfold frD
  rw [hA]
  cases z : fwt (DH w h wl k tt) e f with
  | none => exact Or.inl ⟨rfl, rfl⟩
  | some r =>
    cases r with
    | zero => exact Or.inr (Or.inl ⟨rfl, rfl⟩)
    | succ l =>
      rw [z] at hA
      obtain ⟨d, b, hd, hb, hl⟩ := DB_step hw hh f1 f7 hA
      have hp : frP w h wl (DB w h wl e f) k tt l d = true := by
        unfold frP
        unfold nbF at hb
        rw [show (k * 36 + tt) / 36 = k by omega, show (k * 36 + tt) % 36 = tt by omega] at hb
        cases y : nxt w h wl k d with
        | none => rw [y] at hb; cases hb
        | some j =>
          rw [y] at hb
          have hb2 : j * 36 + rlN tt d = b := Option.some.inj hb
          show decide (DB w h wl e f (j * 36 + rlN tt d) = some l) = true
          rw [hb2]
          exact decide_eq_true hl
      obtain ⟨d2, q1, q2, q3⟩ := frF_some (p := frP w h wl (DB w h wl e f) k tt l) 4 0 d (Nat.zero_le _) (by omega) hp
      unfold frP at q2
      cases y : nxt w h wl k d2 with
      | none => rw [y] at q2; cases q2
      | some j =>
        rw [y] at q2
        have q4 : DB w h wl e f (j * 36 + rlN tt d2) = some l := of_decide_eq_true q2
        rw [DB_all hw hh f1 f7 (ok_one (rlN_vt hv (by omega)) (nxt_fr y)), ← DH_def] at q4
        exact Or.inr (Or.inr ⟨l, d2, j, rfl, q1, by omega, y, q4⟩)
end
/-! ===== paint ===== -/
def nv (pa : Nat → Int32) (f : Nat) : Nat := (pa f).toNatClampNeg
theorem nv_of {pa : Nat → Int32} {f n : Nat} (h : pa f = nI n) (hn : n ≤ 20) : nv pa f = n := by
  unfold nv
  rw [h]
  exact nI_clampS (by omega)
theorem nv_in {pa : Nat → Int32} {f : Nat} (h : inR (pa f) 0 20) : pa f = nI (nv pa f) ∧ nv pa f ≤ 20 := by
  obtain ⟨n, e, -, hn⟩ := h
  rw [nv_of e hn]
  exact ⟨e, hn⟩
/-- the paint of the faces 1 to n -/
def pS (pa : Nat → Int32) (n : Nat) : Nat := smN (fun f => nv pa (f + 1)) n
theorem pS_le {pa pb : Nat → Int32} {i n : Nat} (hi : i ≤ n) (h : ∀ f, 1 ≤ f → f ≤ n → nv pb f ≤ nv pa f) : pS pb i ≤ pS pa n := by
  induction n with
  | zero => rw [show i = 0 by omega]; exact Nat.le_refl 0
  | succ n ih =>
    show pS pb i ≤ pS pa n + nv pa (n + 1)
    by_cases e : i = n + 1
    · rw [e]
      show pS pb n + nv pb (n + 1) ≤ _
      have h1 : pS pb n ≤ pS pa n := smN_le n (fun f hf => h (f + 1) (by omega) (by omega))
      have := h (n + 1) (by omega) (Nat.le_refl _)
      omega
    · have := ih (by omega) (fun f q1 q2 => h f q1 (by omega))
      omega
theorem paP_nv {pa : Nat → Int32} {dn : Nat} (hd : inR (pa dn) 0 20) : ∀ f, nv (paP pa dn) f = if f = dn then nv pa f - 1 else nv pa f := by
  intro f
  obtain ⟨n, e, -, hn⟩ := hd
  by_cases z : f = dn
  · rw [if_pos z, z, nv_of e hn]
    unfold paP
    rw [e]
    by_cases y : 0 < nI n
    · rw [if_pos y]
      have n0 := (nI_pos0 (by omega)).mp y
      refine nv_of ?_ (by omega)
      rw [pk_us, Int32.sub_eq_add_neg]
      exact nI_s1 n0
    · rw [if_neg y]
      have : ¬ 0 < n := fun q => y ((nI_pos0 (by omega)).mpr q)
      rw [nv_of e hn]
      omega
  · rw [if_neg z]
    unfold paP
    by_cases y : 0 < pa dn
    · rw [if_pos y]
      unfold nv
      rw [pk_un z]
    · rw [if_neg y]
theorem pS_upd {pa pb : Nat → Int32} {dn : Nat} (h : ∀ f, nv pb f = if f = dn then nv pa f - 1 else nv pa f) : ∀ n, pS pb n + (if 1 ≤ dn ∧ dn ≤ n ∧ 0 < nv pa dn then 1 else 0) = pS pa n
  | 0 => by
    rw [if_neg (fun z => by omega)]
    rfl
  | n + 1 => by
    have ih := pS_upd h n
    show pS pb n + nv pb (n + 1) + _ = pS pa n + nv pa (n + 1)
    rw [h (n + 1)]
    by_cases e : n + 1 = dn
    · subst e
      rw [if_neg (fun z : 1 ≤ n + 1 ∧ n + 1 ≤ n ∧ 0 < nv pa (n + 1) => by omega)] at ih
      rw [if_pos rfl]
      by_cases c : 0 < nv pa (n + 1)
      · rw [if_pos (⟨by omega, Nat.le_refl _, c⟩ : 1 ≤ n + 1 ∧ n + 1 ≤ n + 1 ∧ 0 < nv pa (n + 1))]
        omega
      · rw [if_neg (fun z : 1 ≤ n + 1 ∧ n + 1 ≤ n + 1 ∧ 0 < nv pa (n + 1) => c z.2.2)]
        omega
    · rw [if_neg e]
      by_cases c : 1 ≤ dn ∧ dn ≤ n ∧ 0 < nv pa dn
      · rw [if_pos c] at ih
        rw [if_pos (⟨c.1, by omega, c.2.2⟩ : 1 ≤ dn ∧ dn ≤ n + 1 ∧ 0 < nv pa dn)]
        omega
      · rw [if_neg c] at ih
        rw [if_neg (fun z : 1 ≤ dn ∧ dn ≤ n + 1 ∧ 0 < nv pa dn => c ⟨z.1, by omega, z.2.2⟩)]
        omega
/-- what a roll takes of the paint is what it prints -/
theorem paP_S {pa : Nat → Int32} {dn pN : Nat} (h1 : 1 ≤ dn) (h6 : dn ≤ 6) (hd : inR (pa dn) 0 20) : (∀ f, nv (paP pa dn) f ≤ nv pa f) ∧ ∃ a, a ≤ 1 ∧ pnN pa dn pN = pN + a ∧ pS (paP pa dn) 6 + a = pS pa 6 := by
  have hn := paP_nv hd
  refine ⟨fun f => ?_, ?_⟩
  · rw [hn f]
    split <;> omega
  have hs := pS_upd hn 6
  obtain ⟨e, hn2⟩ := nv_in hd
  have hi : 0 < pa dn ↔ 0 < nv pa dn := by
    rw [e]
    exact nI_pos0 (by omega)
  unfold pnN
  by_cases z : 0 < pa dn
  · rw [if_pos (⟨h1, h6, hi.mp z⟩ : 1 ≤ dn ∧ dn ≤ 6 ∧ 0 < nv pa dn)] at hs
    rw [if_pos z]
    exact ⟨1, Nat.le_refl _, rfl, hs⟩
  · rw [if_neg (fun q : 1 ≤ dn ∧ dn ≤ 6 ∧ 0 < nv pa dn => z (hi.mpr q.2.2))] at hs
    rw [if_neg z]
    exact ⟨0, by omega, rfl, hs⟩
/-- no more ways to turn a face up than there are faces; of what is far apart in whole numbers -/
theorem ab_ap {a b : Nat} (ha : a < 100) (hb : b < 100) : abI (nI a - nI b) = nI ((a - b) + (b - a)) := by
  unfold abI
  rcases Nat.le_total b a with z | z
  · rw [pk_sub z, if_pos (show (0 : Int32) ≤ nI (a - b) from (leN (a := 0) (by omega) (by omega)).mpr (Nat.zero_le _)), show b - a = 0 by omega, Nat.add_zero]
  · by_cases e : a = b
    · subst e
      rw [pk_sub (Nat.le_refl a), Nat.sub_self]
      rfl
    · have e1 : nI a - nI b = -(nI (b - a)) := by
        rw [← pk_sub z, Int32.neg_sub]
      have e2 : nI a - nI b < 0 := by
        rw [Int32.lt_iff_toInt_lt, e1]
        have : ∀ n, n < 100 → 0 < n → (-(nI n)).toInt < (0 : Int32).toInt := by decide +kernel
        exact this _ (by omega) (by omega)
      rw [if_neg (Int32.not_le.mpr e2), e1, show a - b = 0 by omega, Nat.zero_add, Int32.zero_sub, Int32.neg_neg]
