/-! ===== breadth-first search, as both programs do it ===== -/
abbrev qS : Type := List Nat × (Nat → Option Nat)
def vis (r : Nat) (S : qS) (v : Nat) : qS := match S.2 v with
  | some _ => S
  | none => (S.1 ++ [v], fun x => if x = v then some r else S.2 x)
def ex1 (nb : Nat → Nat → Option Nat) (n r : Nat) (S : qS) (d : Nat) : qS := match nb n d with
  | some v => vis r S v
  | none => S
def rk (S : qS) (n : Nat) : Nat := (S.2 n).getD 0
/-- the first d directions of the k-th of the queue -/
def exd (nb : Nat → Nat → Option Nat) (n r : Nat) (S : qS) : Nat → qS
  | 0 => S
  | d + 1 => ex1 nb n r (exd nb n r S d) d
def stp (nb : Nat → Nat → Option Nat) (k : Nat) (S : qS) : qS := match S.1[k]? with
  | some n => exd nb n (rk S n + 1) S 4
  | none => S
def SS (nb : Nat → Nat → Option Nat) (S0 : qS) : Nat → qS
  | 0 => S0
  | k + 1 => stp nb k (SS nb S0 k)
/-- a walk -/
def wk (nb : Nat → Nat → Option Nat) : Nat → Nat → Nat → Prop
  | 0, a, b => a = b
  | k + 1, a, c => ∃ b d, wk nb k a b ∧ d < 4 ∧ nb b d = some c
/-- the queue and the distances belong together; all of it is of the kind P -/
def okS (P : Nat → Prop) (S : qS) : Prop := (∀ v, (∃ r, S.2 v = some r) ↔ v ∈ S.1) ∧ S.1.Nodup ∧ ∀ v ∈ S.1, P v
theorem ok_vis {P : Nat → Prop} {S : qS} {r v : Nat} (h : okS P S) (hv : P v) : okS P (vis r S v) := by
  unfold vis
  cases e : S.2 v with
  | some x => exact h
  | none =>
    have hn : v ∉ S.1 := fun z => by
      obtain ⟨r, hr⟩ := (h.1 v).mpr z
      rw [e] at hr
      cases hr
    refine ⟨fun x => ?_, ?_, ?_⟩
    · show (∃ r_1, (if x = v then some r else S.2 x) = some r_1) ↔ x ∈ S.1 ++ [v]
      by_cases hx : x = v
      · subst hx
        simp
      · simp [hx, h.1 x]
    · show (S.1 ++ [v]).Nodup
      rw [List.nodup_append]
      refine ⟨h.2.1, by simp, fun a ha b hb => ?_⟩
      rw [List.mem_singleton.mp hb]
      exact fun z => hn (z ▸ ha)
    · intro x hx
      rcases List.mem_append.mp hx with z | z
      · exact h.2.2 x z
      · rw [List.mem_singleton.mp z]
        exact hv
theorem ok_exd {P : Nat → Prop} {nb : Nat → Nat → Option Nat} {n r : Nat} {S : qS} (h : okS P S) (hnb : ∀ d v, d < 4 → nb n d = some v → P v) : ∀ d, d ≤ 4 → okS P (exd nb n r S d)
  | 0, _ => h
  | d + 1, hd => by
    have ih := ok_exd (r := r) h hnb d (by omega)
    show okS P (ex1 nb n r (exd nb n r S d) d)
    unfold ex1
    cases e : nb n d with
    | none => exact ih
    | some v => exact ok_vis ih (hnb d v (by omega) e)
/-- the queue only grows; what is told stays -/
def leS (S T : qS) : Prop := (∃ l, T.1 = S.1 ++ l) ∧ ∀ v r, S.2 v = some r → T.2 v = some r
theorem leS.rf (S : qS) : leS S S := ⟨⟨[], by simp⟩, fun _ _ h => h⟩
theorem leS.tr {S T U : qS} (h : leS S T) (g : leS T U) : leS S U := by
  obtain ⟨⟨l, h1⟩, h2⟩ := h
  obtain ⟨⟨l2, g1⟩, g2⟩ := g
  exact ⟨⟨l ++ l2, by rw [g1, h1, List.append_assoc]⟩, fun v r z => g2 v r (h2 v r z)⟩
theorem le_vis (r : Nat) (S : qS) (v : Nat) : leS S (vis r S v) := by
  unfold vis
  cases e : S.2 v with
  | some x => exact leS.rf S
  | none =>
    refine ⟨⟨[v], rfl⟩, fun x r2 h => ?_⟩
    show (if x = v then some r else S.2 x) = some r2
    rw [if_neg (fun z => by rw [z, e] at h; cases h)]
    exact h
theorem le_ex1 (nb : Nat → Nat → Option Nat) (n r : Nat) (S : qS) (d : Nat) : leS S (ex1 nb n r S d) := by
  unfold ex1
  cases nb n d with
  | none => exact leS.rf S
  | some v => exact le_vis r S v
theorem le_exd (nb : Nat → Nat → Option Nat) (n r : Nat) (S : qS) : ∀ d, leS S (exd nb n r S d)
  | 0 => leS.rf S
  | d + 1 => (le_exd nb n r S d).tr (le_ex1 nb n r _ d)
theorem le_stp (nb : Nat → Nat → Option Nat) (k : Nat) (S : qS) : leS S (stp nb k S) := by
  unfold stp
  cases S.1[k]? with
  | none => exact leS.rf S
  | some n => exact le_exd nb n _ S 4
theorem le_SS (nb : Nat → Nat → Option Nat) (S0 : qS) : ∀ {j k : Nat}, j ≤ k → leS (SS nb S0 j) (SS nb S0 k)
  | j, 0, h => by
    have : j = 0 := by omega
    subst this
    exact leS.rf _
  | j, k + 1, h => by
    by_cases e : j = k + 1
    · subst e
      exact leS.rf _
    · exact (le_SS nb S0 (by omega : j ≤ k)).tr (le_stp nb k _)
theorem leS.get {S T : qS} (h : leS S T) {k n : Nat} (hk : S.1[k]? = some n) : T.1[k]? = some n := by
  obtain ⟨⟨l, e⟩, -⟩ := h
  rw [e, List.getElem?_append_left (List.getElem?_eq_some_iff.mp hk).1]
  exact hk
/-- behind its end nothing changes -/
theorem SS_stop {nb : Nat → Nat → Option Nat} {S0 : qS} {k : Nat} (h : (SS nb S0 k).1.length ≤ k) : ∀ j, k ≤ j → SS nb S0 j = SS nb S0 k
  | 0, hj => by
    have : k = 0 := by omega
    rw [this]
  | j + 1, hj => by
    by_cases e : k = j + 1
    · rw [e]
    · have ih := SS_stop h j (by omega)
      show stp nb j (SS nb S0 j) = _
      rw [ih]
      unfold stp
      rw [List.getElem?_eq_none (by omega)]
theorem nodup_len : ∀ (M : Nat) (l : List Nat), l.Nodup → (∀ v ∈ l, v < M) → l.length ≤ M
  | 0, l, _, h => by
    cases l with
    | nil => exact Nat.le_refl _
    | cons a t => exact absurd (h a List.mem_cons_self) (Nat.not_lt_zero a)
  | M + 1, l, hn, h => by
    have h1 := nodup_len M (l.erase M) (hn.erase M) (fun v hv => by
      have := h v (List.mem_of_mem_erase hv)
      have ne : v ≠ M := fun e => by
        subst e
        exact (List.Nodup.not_mem_erase hn) hv
      omega)
    have h2 : l.length ≤ (l.erase M).length + 1 := by
      rw [List.length_erase]
      split <;> omega
    omega
/-- the whole of what a search knows when it has looked at k of its queue -/
def inS2 (nb : Nat → Nat → Option Nat) (P : Nat → Prop) (src : List Nat) (k : Nat) (S : qS) : Prop :=
  okS P S ∧ (∀ s ∈ src, S.2 s = some 0) ∧ (∀ v r, S.2 v = some r → ∃ s ∈ src, wk nb r s v) ∧
  (∀ (i j a b : Nat), i ≤ j → S.1[i]? = some a → S.1[j]? = some b → rk S a ≤ rk S b) ∧
  (∀ (j a b : Nat), S.1[k]? = some a → S.1[j]? = some b → rk S b ≤ rk S a + 1) ∧
  (∀ (i a d v : Nat), i < k → S.1[i]? = some a → d < 4 → nb a d = some v → ∃ r, S.2 v = some r ∧ r ≤ rk S a + 1)
theorem rk_of {S : qS} {v r : Nat} (h : S.2 v = some r) : rk S v = r := by
  unfold rk
  rw [h]
  rfl
/-- one direction of the one that is looked at: q its number, n it, r one more than its distance -/
theorem in_ex1 {nb : Nat → Nat → Option Nat} {P : Nat → Prop} {src : List Nat} {k n : Nat} {S : qS} (d : Nat) (hd : d < 4) (hk : S.1[k]? = some n) (hP : ∀ a d v, P a → d < 4 → nb a d = some v → P v)
    (h : inS2 nb P src k S) : inS2 nb P src k (ex1 nb n (rk S n + 1) S d) ∧ rk (ex1 nb n (rk S n + 1) S d) n = rk S n := by
  obtain ⟨h1, h2, h3, h4, h5, h6⟩ := h
  have hn : n ∈ S.1 := List.mem_of_getElem? hk
  unfold ex1
  cases e : nb n d with
  | none => exact ⟨⟨h1, h2, h3, h4, h5, h6⟩, rfl⟩
  | some v =>
    show inS2 nb P src k (vis (rk S n + 1) S v) ∧ rk (vis (rk S n + 1) S v) n = rk S n
    have hok : okS P (vis (rk S n + 1) S v) := ok_vis h1 (hP n d v (h1.2.2 n hn) hd e)
    have hle := le_vis (rk S n + 1) S v
    cases e2 : S.2 v with
    | some x =>
      have : vis (rk S n + 1) S v = S := by unfold vis; rw [e2]
      rw [this]
      exact ⟨⟨h1, h2, h3, h4, h5, h6⟩, rfl⟩
    | none =>
      have eS : vis (rk S n + 1) S v = (S.1 ++ [v], fun x => if x = v then some (rk S n + 1) else S.2 x) := by unfold vis; rw [e2]
      have old : ∀ a, a ∈ S.1 → rk (vis (rk S n + 1) S v) a = rk S a := by
        intro a ha
        obtain ⟨r, hr⟩ := (h1.1 a).mpr ha
        rw [rk_of hr, rk_of (hle.2 a r hr)]
      have new : rk (vis (rk S n + 1) S v) v = rk S n + 1 := by
        rw [eS]
        unfold rk
        simp
      have get : ∀ i a, (vis (rk S n + 1) S v).1[i]? = some a → (S.1[i]? = some a ∧ a ∈ S.1) ∨ (a = v ∧ i = S.1.length) := by
        intro i a hi
        rw [eS] at hi
        by_cases hl : i < S.1.length
        · rw [List.getElem?_append_left hl] at hi
          exact Or.inl ⟨hi, List.mem_of_getElem? hi⟩
        · rw [List.getElem?_append_right (by omega)] at hi
          have hz : i - S.1.length < 1 := (List.getElem?_eq_some_iff.mp hi).1
          have : i = S.1.length := by omega
          subst this
          simp at hi
          exact Or.inr ⟨hi.symm, rfl⟩
      obtain ⟨rn, hrn⟩ := (h1.1 n).mpr hn
      refine ⟨⟨hok, fun s hs => hle.2 s 0 (h2 s hs), ?_, ?_, ?_, ?_⟩, old n hn⟩
      · intro x r hx
        rw [eS] at hx
        have hx' : (if x = v then some (rk S n + 1) else S.2 x) = some r := hx
        by_cases hxv : x = v
        · rw [if_pos hxv] at hx'
          cases hx'
          obtain ⟨s, hs, hw⟩ := h3 n rn hrn
          rw [rk_of hrn, hxv]
          exact ⟨s, hs, n, d, hw, hd, e⟩
        · rw [if_neg hxv] at hx'
          exact h3 x r hx'
      · intro i j a b hij ha hb
        rcases get i a ha with ⟨ha1, ha2⟩ | ⟨rfl, hi⟩
        · rcases get j b hb with ⟨hb1, hb2⟩ | ⟨rfl, hj⟩
          · rw [old a ha2, old b hb2]
            exact h4 i j a b hij ha1 hb1
          · rw [old a ha2, new]
            exact h5 i n a hk ha1
        · rcases get j b hb with ⟨hb1, hb2⟩ | ⟨rfl, hj⟩
          · have := (List.getElem?_eq_some_iff.mp hb1).1
            omega
          · exact Nat.le_refl _
      · intro j a b ha hb
        have ha' : a = n := by
          rcases get k a ha with ⟨ha1, -⟩ | ⟨-, hkk⟩
          · exact Option.some.inj (ha1.symm.trans hk)
          · have := (List.getElem?_eq_some_iff.mp hk).1
            omega
        subst ha'
        rw [old a hn]
        rcases get j b hb with ⟨hb1, hb2⟩ | ⟨rfl, hj⟩
        · rw [old b hb2]
          exact h5 j a b hk hb1
        · rw [new]
          exact Nat.le_refl _
      · intro i a d2 x hi ha hd2 hx
        rcases get i a ha with ⟨ha1, ha2⟩ | ⟨-, hii⟩
        · rw [old a ha2]
          obtain ⟨r, hr, hr2⟩ := h6 i a d2 x hi ha1 hd2 hx
          exact ⟨r, hle.2 x r hr, hr2⟩
        · have := (List.getElem?_eq_some_iff.mp hk).1
          omega
theorem in_exd {nb : Nat → Nat → Option Nat} {P : Nat → Prop} {src : List Nat} {k n : Nat} {S : qS} (hk : S.1[k]? = some n) (hP : ∀ a d v, P a → d < 4 → nb a d = some v → P v) (h : inS2 nb P src k S) :
    ∀ d, d ≤ 4 → inS2 nb P src k (exd nb n (rk S n + 1) S d) ∧ rk (exd nb n (rk S n + 1) S d) n = rk S n ∧ ∀ e v, e < d → nb n e = some v → ∃ r, (exd nb n (rk S n + 1) S d).2 v = some r ∧ r ≤ rk S n + 1
  | 0, _ => ⟨h, rfl, fun e v he => absurd he (Nat.not_lt_zero e)⟩
  | d + 1, hd => by
    obtain ⟨i1, i2, i3⟩ := in_exd hk hP h d (by omega)
    have hk2 := (le_exd nb n (rk S n + 1) S d).get hk
    have := in_ex1 d (by omega) hk2 hP i1
    rw [i2] at this
    refine ⟨this.1, this.2, fun e v he hv => ?_⟩
    have hle := le_ex1 nb n (rk S n + 1) (exd nb n (rk S n + 1) S d) d
    by_cases hed : e < d
    · obtain ⟨r, hr, hr2⟩ := i3 e v hed hv
      exact ⟨r, hle.2 v r hr, hr2⟩
    · have : e = d := by omega
      subst this
      show ∃ r, (ex1 nb n (rk S n + 1) (exd nb n (rk S n + 1) S e) e).2 v = some r ∧ r ≤ rk S n + 1
      unfold ex1
      rw [hv]
      show ∃ r, (vis (rk S n + 1) (exd nb n (rk S n + 1) S e) v).2 v = some r ∧ r ≤ rk S n + 1
      cases e2 : (exd nb n (rk S n + 1) S e).2 v with
      | some x =>
        have eS : vis (rk S n + 1) (exd nb n (rk S n + 1) S e) v = exd nb n (rk S n + 1) S e := by unfold vis; rw [e2]
        rw [eS]
        refine ⟨x, e2, ?_⟩
        obtain ⟨g1, -, -, -, g5, -⟩ := i1
        have hv2 : v ∈ (exd nb n (rk S n + 1) S e).1 := (g1.1 v).mp ⟨x, e2⟩
        obtain ⟨j, hj⟩ := List.getElem?_of_mem hv2
        have := g5 j n v hk2 hj
        rw [i2, rk_of e2] at this
        exact this
      | none =>
        have eS : vis (rk S n + 1) (exd nb n (rk S n + 1) S e) v = ((exd nb n (rk S n + 1) S e).1 ++ [v], fun x => if x = v then some (rk S n + 1) else (exd nb n (rk S n + 1) S e).2 x) := by unfold vis; rw [e2]
        rw [eS]
        exact ⟨rk S n + 1, by simp, Nat.le_refl _⟩
theorem in_stp {nb : Nat → Nat → Option Nat} {P : Nat → Prop} {src : List Nat} {k : Nat} {S : qS} (hP : ∀ a d v, P a → d < 4 → nb a d = some v → P v) (h : inS2 nb P src k S) : inS2 nb P src (k + 1) (stp nb k S) := by
  unfold stp
  cases hk : S.1[k]? with
  | none =>
    show inS2 nb P src (k + 1) S
    obtain ⟨h1, h2, h3, h4, h5, h6⟩ := h
    have hl := List.getElem?_eq_none_iff.mp hk
    refine ⟨h1, h2, h3, h4, fun j a b ha => ?_, fun i a d v hi ha => ?_⟩
    · have := (List.getElem?_eq_some_iff.mp ha).1
      omega
    · have := (List.getElem?_eq_some_iff.mp ha).1
      exact h6 i a d v (by omega) ha
  | some n =>
    show inS2 nb P src (k + 1) (exd nb n (rk S n + 1) S 4)
    obtain ⟨i1, i2, i3⟩ := in_exd hk hP h 4 (Nat.le_refl 4)
    have hk2 := (le_exd nb n (rk S n + 1) S 4).get hk
    obtain ⟨h1, h2, h3, h4, h5, h6⟩ := i1
    refine ⟨h1, h2, h3, h4, fun j a b ha hb => ?_, fun i a d v hi ha hd hv => ?_⟩
    · have g1 := h5 j n b hk2 hb
      have g2 := h4 k (k + 1) n a (by omega) hk2 ha
      omega
    · by_cases e : i < k
      · exact h6 i a d v e ha hd hv
      · have : i = k := by omega
        subst this
        have ea : a = n := Option.some.inj (ha.symm.trans hk2)
        subst ea
        rw [i2]
        exact i3 d v hd hv
theorem in_SS {nb : Nat → Nat → Option Nat} {P : Nat → Prop} {src : List Nat} {S0 : qS} (hP : ∀ a d v, P a → d < 4 → nb a d = some v → P v) (h : inS2 nb P src 0 S0) : ∀ k, inS2 nb P src k (SS nb S0 k)
  | 0 => h
  | k + 1 => in_stp hP (in_SS hP h k)
/-- the start: sources laid out at distance 0 -/
def src0 (src : List Nat) : qS := (src, fun v => if v ∈ src then some 0 else none)
theorem in_src0 {nb : Nat → Nat → Option Nat} {P : Nat → Prop} {src : List Nat} (hn : src.Nodup) (hP : ∀ s ∈ src, P s) : inS2 nb P src 0 (src0 src) := by
  have r0 : ∀ a ∈ src, rk (src0 src) a = 0 := fun a ha => by
    unfold rk src0
    simp [ha]
  refine ⟨⟨fun v => ?_, hn, hP⟩, fun s hs => by unfold src0; simp [hs], fun v r h => ?_, fun i j a b _ ha hb => ?_, fun j a b ha hb => ?_, fun i a d v hi => absurd hi (Nat.not_lt_zero i)⟩
  · unfold src0
    by_cases h : v ∈ src <;> simp [h]
  · unfold src0 at h
    by_cases hv : v ∈ src
    · simp [hv] at h
      subst h
      exact ⟨v, hv, rfl⟩
    · simp [hv] at h
  · rw [r0 a (List.mem_of_getElem? ha)]
    exact Nat.zero_le _
  · rw [r0 b (List.mem_of_getElem? hb)]
    exact Nat.zero_le _
/-- the search at its end -/
def fin (nb : Nat → Nat → Option Nat) (M : Nat) (src : List Nat) : qS := SS nb (src0 src) M
theorem fin_len {nb : Nat → Nat → Option Nat} {P : Nat → Prop} {src : List Nat} {M : Nat} (hP : ∀ a d v, P a → d < 4 → nb a d = some v → P v) (hM : ∀ v, P v → v < M) (hn : src.Nodup) (hs : ∀ s ∈ src, P s) (k : Nat) : (SS nb (src0 src) k).1.length ≤ M :=
  nodup_len M _ (in_SS hP (in_src0 hn hs) k).1.2.1 fun v hv => hM v ((in_SS hP (in_src0 hn hs) k).1.2.2 v hv)
theorem fin_at {nb : Nat → Nat → Option Nat} {P : Nat → Prop} {src : List Nat} {M : Nat} (hP : ∀ a d v, P a → d < 4 → nb a d = some v → P v) (hM : ∀ v, P v → v < M) (hn : src.Nodup) (hs : ∀ s ∈ src, P s) {k : Nat} (hk : (SS nb (src0 src) k).1.length ≤ k) : SS nb (src0 src) k = fin nb M src := by
  unfold fin
  rcases Nat.le_total k M with h | h
  · exact (SS_stop hk M h).symm
  · exact SS_stop (fin_len hP hM hn hs M) k h
theorem fin_in {nb : Nat → Nat → Option Nat} {P : Nat → Prop} {src : List Nat} {M : Nat} (hP : ∀ a d v, P a → d < 4 → nb a d = some v → P v) (hn : src.Nodup) (hs : ∀ s ∈ src, P s) : inS2 nb P src M (fin nb M src) := in_SS hP (in_src0 hn hs) M
/-- whatever a walk reaches is told, no farther than the walk is long -/
theorem fin_wk {nb : Nat → Nat → Option Nat} {P : Nat → Prop} {src : List Nat} {M : Nat} (hP : ∀ a d v, P a → d < 4 → nb a d = some v → P v) (hM : ∀ v, P v → v < M) (hn : src.Nodup) (hs : ∀ s ∈ src, P s) : ∀ (k s v : Nat), s ∈ src → wk nb k s v → ∃ r, (fin nb M src).2 v = some r ∧ r ≤ k
  | 0, s, v, hsrc, h => by
    obtain ⟨-, h2, -⟩ := fin_in (M := M) hP hn hs
    have : s = v := h
    subst this
    exact ⟨0, h2 s hsrc, Nat.le_refl _⟩
  | k + 1, s, v, hsrc, h => by
    obtain ⟨b, d, hw, hd, hb⟩ := h
    obtain ⟨r, hr, hrk⟩ := fin_wk hP hM hn hs k s b hsrc hw
    obtain ⟨h1, -, -, -, -, h6⟩ := fin_in (M := M) hP hn hs
    obtain ⟨i, hi⟩ := List.getElem?_of_mem ((h1.1 b).mp ⟨r, hr⟩)
    have hl := fin_len hP hM hn hs M
    have hi2 := (List.getElem?_eq_some_iff.mp hi).1
    have : (SS nb (src0 src) M).1.length = (fin nb M src).1.length := rfl
    obtain ⟨r2, g1, g2⟩ := h6 i b d v (by omega) hi hd hb
    rw [rk_of hr] at g2
    exact ⟨r2, g1, by omega⟩
/-- the distance told is that of a shortest walk -/
theorem fin_iff {nb : Nat → Nat → Option Nat} {P : Nat → Prop} {src : List Nat} {M : Nat} (hP : ∀ a d v, P a → d < 4 → nb a d = some v → P v) (hM : ∀ v, P v → v < M) (hn : src.Nodup) (hs : ∀ s ∈ src, P s) (v r : Nat) :
    (fin nb M src).2 v = some r ↔ (∃ s ∈ src, wk nb r s v) ∧ ∀ k, k < r → ¬ ∃ s ∈ src, wk nb k s v := by
  obtain ⟨-, -, h3, -⟩ := fin_in (M := M) hP hn hs
  constructor
  · intro h
    refine ⟨h3 v r h, fun k hk hw => ?_⟩
    obtain ⟨s, hs1, hw⟩ := hw
    obtain ⟨r2, g1, g2⟩ := fin_wk hP hM hn hs k s v hs1 hw
    rw [h] at g1
    cases g1
    omega
  · intro ⟨⟨s, hs1, hw⟩, hmin⟩
    obtain ⟨r2, g1, g2⟩ := fin_wk hP hM hn hs r s v hs1 hw
    by_cases e : r2 = r
    · rw [← e]; exact g1
    · exact absurd (h3 v r2 g1) (hmin r2 (by omega))
theorem fin_none {nb : Nat → Nat → Option Nat} {P : Nat → Prop} {src : List Nat} {M : Nat} (hP : ∀ a d v, P a → d < 4 → nb a d = some v → P v) (hM : ∀ v, P v → v < M) (hn : src.Nodup) (hs : ∀ s ∈ src, P s) (v : Nat) :
    (fin nb M src).2 v = none ↔ ∀ k, ¬ ∃ s ∈ src, wk nb k s v := by
  obtain ⟨-, -, h3, -⟩ := fin_in (M := M) hP hn hs
  constructor
  · intro h k ⟨s, hs1, hw⟩
    obtain ⟨r2, g1, -⟩ := fin_wk hP hM hn hs k s v hs1 hw
    rw [h] at g1
    cases g1
  · intro h
    cases e : (fin nb M src).2 v with
    | none => rfl
    | some r => exact absurd (h3 v r e) (h r)
/-- walks run both ways where every step does -/
theorem wk_app {nb : Nat → Nat → Option Nat} : ∀ {j k a b c : Nat}, wk nb k a b → wk nb j b c → wk nb (k + j) a c
  | 0, k, a, b, c, h, g => by
    have : b = c := g
    subst this
    exact h
  | j + 1, k, a, b, c, h, g => by
    obtain ⟨x, d, g1, g2, g3⟩ := g
    exact ⟨x, d, wk_app h g1, g2, g3⟩
theorem wk_one {nb : Nat → Nat → Option Nat} {a b d : Nat} (hd : d < 4) (h : nb a d = some b) : wk nb 1 a b := ⟨a, d, rfl, hd, h⟩
theorem wk_rev {nb : Nat → Nat → Option Nat} {P : Nat → Prop} (hP : ∀ a d v, P a → d < 4 → nb a d = some v → P v) (hrev : ∀ a d v, P a → d < 4 → nb a d = some v → ∃ e, e < 4 ∧ nb v e = some a) : ∀ {k a b : Nat}, P a → wk nb k a b → P b ∧ wk nb k b a
  | 0, a, b, ha, h => by
    have : a = b := h
    subst this
    exact ⟨ha, rfl⟩
  | k + 1, a, c, ha, h => by
    obtain ⟨b, d, h1, h2, h3⟩ := h
    obtain ⟨hb, hw⟩ := wk_rev hP hrev ha h1
    obtain ⟨e, he, hx⟩ := hrev b d c hb h2 h3
    refine ⟨hP b d c hb h2 h3, ?_⟩
    have := wk_app (wk_one he hx) hw
    rwa [Nat.add_comm] at this
