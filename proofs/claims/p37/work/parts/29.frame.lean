/-! ===== a callee on a part of the caller's world: its places shifted by off ===== -/
def shV (off : Nat) : Value → Value
  | .ref a => .ref (a + off)
  | v => v
def shE (off : Nat) : aE → aE
  | .inl q => .inl q
  | .inr (.inl o) => .inr (.inl (o.1, o.2.map (shV off)))
  | .inr (.inr q) => .inr (.inr (q.1, q.2.1, fun j => q.2.2 j + off))
abbrev adS (ad : Nat → Nat) (off : Nat) : Nat → Nat := fun j => ad (j + off)
theorem aV_sh (ad : Nat → Nat) (off : Nat) (v : Value) : aV ad (shV off v) = aV (adS ad off) v := by cases v <;> rfl
theorem aVs_sh (ad : Nat → Nat) (off : Nat) (l : List Value) : (l.map (shV off)).map (aV ad) = l.map (aV (adS ad off)) := by
  rw [List.map_map]
  congr 1
  funext v
  exact aV_sh ad off v
theorem aC_sh (K : aG) (ad : Nat → Nat) (off : Nat) (e : aE) : aC K ad (shE off e) = aC K (adS ad off) e := by
  rcases e with ⟨b, n, f⟩ | o | q
  · cases b <;> rfl
  · obtain ⟨c, fs⟩ := o
    simp only [shE, aC, aVs_sh]
  · obtain ⟨b, n, g⟩ := q
    cases b <;> rfl
theorem aX_inv (K : aG) (ad : Nat → Nat) : ∀ (X : List aE) (i k : Nat) (q : Nat × va_E), (aX K ad i X)[k]? = some q → ∃ e, X[k]? = some e ∧ q = (ad (i + k), aC K ad e)
  | [], i, k, q, h => by simp [aX] at h
  | x :: t, i, 0, q, h => by
    simp only [aX, List.getElem?_cons_zero, Option.some.injEq] at h
    exact ⟨x, rfl, h.symm⟩
  | x :: t, i, k + 1, q, h => by
    simp only [aX, List.getElem?_cons_succ] at h
    obtain ⟨e, h1, h2⟩ := aX_inv K ad t (i + 1) k q h
    exact ⟨e, by rw [List.getElem?_cons_succ]; exact h1, by rw [h2, show i + 1 + k = i + (k + 1) by omega]⟩
theorem aX_at (K : aG) (ad : Nat → Nat) {X : List aE} {k : Nat} {e : aE} (h : X[k]? = some e) : (aX K ad 0 X)[k]? = some (ad k, aC K ad e) := by
  have := aX_get K ad X 0 k e h
  rwa [Nat.zero_add] at this
/-- the addresses are by the places alone -/
theorem aX_D {K : aG} {ad : Nat → Nat} {A : Nat → Prop} {X Y : List aE} (h : va_D A (aX K ad 0 X)) (hl : Y.length = X.length) : va_D A (aX K ad 0 Y) := by
  have get : ∀ (k : Nat) (q : Nat × va_E), (aX K ad 0 Y)[k]? = some q → ∃ p : Nat × va_E, (aX K ad 0 X)[k]? = some p ∧ p.1 = q.1 := by
    intro k q hq
    obtain ⟨e, h1, h2⟩ := aX_inv K ad Y 0 k q hq
    have hk := (List.getElem?_eq_some_iff.mp h1).1
    have hx : X[k]? = some (X[k]'(by omega)) := List.getElem?_eq_getElem (by omega)
    refine ⟨_, aX_at K ad hx, ?_⟩
    rw [h2, Nat.zero_add]
  refine ⟨fun i j p q hp hq hpq => ?_, fun k q hq => ?_⟩
  · obtain ⟨p', g1, g2⟩ := get i p hp
    obtain ⟨q', g3, g4⟩ := get j q hq
    exact h.1 i j p' q' g1 g3 (by rw [g2, g4, hpq])
  · obtain ⟨p', g1, g2⟩ := get k q hq
    rw [← g2]
    exact h.2 k p' g1
section FRAME
variable {K : aG} {ad : Nat → Nat} {off : Nat} {X1 X' Z X2 : List aE} {A : Nat → Prop} {cl : List vw_C} {H H1 : Heap}
theorem fr_mid (ho : X1.length = off) {k : Nat} {e : aE} (h : X'[k]? = some e) : (X1 ++ X'.map (shE off) ++ Z)[k + off]? = some (shE off e) := by
  have hk := (List.getElem?_eq_some_iff.mp h).1
  rw [List.append_assoc, List.getElem?_append_right (by omega), List.getElem?_append_left (by rw [List.length_map]; omega), show k + off - X1.length = k by omega, List.getElem?_map, h]
  rfl
theorem fr_P (ho : X1.length = off) (hP : va_P K.1 cl (aX K ad 0 (X1 ++ X'.map (shE off) ++ Z)) H) : va_P K.1 cl (aX K (adS ad off) 0 X') H := by
  intro k q hq
  obtain ⟨e, h1, h2⟩ := aX_inv K (adS ad off) X' 0 k q hq
  have h3 := hP (k + off) _ (aX_at K ad (fr_mid (Z := Z) ho h1))
  rw [aC_sh] at h3
  rw [h2, Nat.zero_add]
  exact h3
theorem fr_D (ho : X1.length = off) (hD : va_D A (aX K ad 0 (X1 ++ X'.map (shE off) ++ Z))) : va_D A (aX K (adS ad off) 0 X') := by
  have get : ∀ (k : Nat) (q : Nat × va_E), (aX K (adS ad off) 0 X')[k]? = some q → ∃ p : Nat × va_E, (aX K ad 0 (X1 ++ X'.map (shE off) ++ Z))[k + off]? = some p ∧ p.1 = q.1 := by
    intro k q hq
    obtain ⟨e, h1, h2⟩ := aX_inv K (adS ad off) X' 0 k q hq
    refine ⟨_, aX_at K ad (fr_mid (Z := Z) ho h1), ?_⟩
    rw [h2, Nat.zero_add]
  refine ⟨fun i j p q hp hq hpq => ?_, fun k q hq => ?_⟩
  · obtain ⟨p', g1, g2⟩ := get i p hp
    obtain ⟨q', g3, g4⟩ := get j q hq
    have := hD.1 (i + off) (j + off) p' q' g1 g3 (by rw [g2, g4, hpq])
    omega
  · obtain ⟨p', g1, g2⟩ := get k q hq
    rw [← g2]
    exact hD.2 (k + off) p' g1
/-- behind the call: what the callee left, and the rest as it was -/
theorem fr_join (ho : X1.length = off) (hl : X2.length = X'.length) (hP : va_P K.1 cl (aX K ad 0 (X1 ++ X'.map (shE off) ++ Z)) H) (hD : va_D A (aX K ad 0 (X1 ++ X'.map (shE off) ++ Z)))
    (hk : ∀ q : Nat, q < H.size → ¬ aA K (adS ad off) X' H.size q → H1[q]? = H[q]?) (hP1 : va_P K.1 cl (aX K (adS ad off) 0 X2) H1) : va_P K.1 cl (aX K ad 0 (X1 ++ X2.map (shE off) ++ Z)) H1 := by
  intro k q hq
  obtain ⟨e, h1, h2⟩ := aX_inv K ad _ 0 k q hq
  rw [Nat.zero_add] at h2
  by_cases hin : off ≤ k ∧ k < off + X'.length
  · have e2 : (X2.map (shE off))[k - off]? = some e := by
      rw [List.append_assoc, List.getElem?_append_right (by omega), List.getElem?_append_left (by rw [List.length_map]; omega), ho] at h1
      exact h1
    rw [List.getElem?_map] at e2
    cases e3 : X2[k - off]? with
    | none => rw [e3] at e2; cases e2
    | some e0 =>
      rw [e3] at e2
      have e2 : shE off e0 = e := Option.some.inj e2
      have h3 := hP1 (k - off) _ (aX_at K (adS ad off) e3)
      rw [h2, ← e2, aC_sh]
      show va_at K.1 cl (ad k, aC K (adS ad off) e0) H1
      have h4 : adS ad off (k - off) = ad k := by show ad (k - off + off) = ad k; rw [show k - off + off = k by omega]
      rw [h4] at h3
      exact h3
  · have hold : (X1 ++ X'.map (shE off) ++ Z)[k]? = some e := by
      rw [List.append_assoc] at h1 ⊢
      by_cases hlt : k < X1.length
      · rw [List.getElem?_append_left hlt] at h1 ⊢
        exact h1
      · rw [List.getElem?_append_right (by omega)] at h1 ⊢
        rw [List.getElem?_append_right (by rw [List.length_map]; omega)] at h1 ⊢
        rw [List.length_map] at h1 ⊢
        rw [← hl]
        exact h1
    have h3 := aX_at K ad hold
    have h4 := hP k _ h3
    rw [h2]
    refine h4.kept (hk _ h4.lt (fun z => ?_))
    rcases z with ⟨j, x, hj⟩ | z
    · obtain ⟨e', g1, g2⟩ := aX_inv K (adS ad off) X' 0 j _ hj
      have hjl := (List.getElem?_eq_some_iff.mp g1).1
      have g3 := aX_at K ad (fr_mid (Z := Z) ho g1)
      have g4 := hD.1 k (j + off) _ _ h3 g3 (by
        have g5 := congrArg Prod.fst g2
        rw [Nat.zero_add] at g5
        exact g5)
      omega
    · have := h4.lt
      omega
theorem fr_free {H0 : Heap} {locs : List Loc} (ho : X1.length = off) (hD : va_D A (aX K ad 0 (X1 ++ X'.map (shE off) ++ Z))) (hS : va_S A H0 H locs) (hA : ∀ q, H0.size ≤ q → A q) : ∀ q, aA K (adS ad off) X' H.size q → A q := by
  intro q h
  rcases h with ⟨k, e, h⟩ | h
  · exact (fr_D ho hD).2 k (q, e) h
  · exact hA q (Nat.le_trans hS.1 h)
theorem fr_len (ho : X1.length = off) (hl : X2.length = X'.length) : (X1 ++ X2.map (shE off) ++ Z).length = (X1 ++ X'.map (shE off) ++ Z).length := by
  simp only [List.length_append, List.length_map, hl]
end FRAME
def oFi (off : Nat) (T : aTi) (n : Nat) (ro : Option Nat) (mc ms RC RS nx : Nat) : aO := fun K ad k sl ls st X => tk n [] (fun av t => rcv ro X (ck (le4 t) (ck (Nat.ble (k + mc) RC) (ck (Nat.ble (sl + ms) RS) (∃ (X1 X' Z : List aE) (av' : List Value), X1.length = off ∧ X = X1 ++ X'.map (shE off) ++ Z ∧ av = av'.map (shV off) ∧ T av' X' (fun r X2 => X2.length = X'.length ∧ K nx ad (k + mc) (sl + ms) ls (.int r :: t) (X1 ++ X2.map (shE off) ++ Z)))))) av) st
def oFl (off : Nat) (T : aTl) (n : Nat) (ro : Option Nat) (mc ms RC RS nx : Nat) : aO := fun K ad k sl ls st X => tk n [] (fun av t => rcv ro X (ck (le4 t) (ck (Nat.ble (k + mc) RC) (ck (Nat.ble (sl + ms) RS) (∃ (X1 X' Z : List aE) (av' : List Value), X1.length = off ∧ X = X1 ++ X'.map (shE off) ++ Z ∧ av = av'.map (shV off) ∧ T av' X' (fun r X2 => X2.length = X'.length ∧ K nx ad (k + mc) (sl + ms) ls (.long r :: t) (X1 ++ X2.map (shE off) ++ Z)))))) av) st
def oFd (off : Nat) (T : aTd) (n : Nat) (ro : Option Nat) (mc ms RC RS nx : Nat) : aO := fun K ad k sl ls st X => tk n [] (fun av t => rcv ro X (ck (le4 t) (ck (Nat.ble (k + mc) RC) (ck (Nat.ble (sl + ms) RS) (∃ (X1 X' Z : List aE) (av' : List Value), X1.length = off ∧ X = X1 ++ X'.map (shE off) ++ Z ∧ av = av'.map (shV off) ∧ T av' X' (fun r X2 => X2.length = X'.length ∧ K nx ad (k + mc) (sl + ms) ls (.double r :: t) (X1 ++ X2.map (shE off) ++ Z)))))) av) st
def oFv (off : Nat) (T : aTv) (n : Nat) (ro : Option Nat) (mc ms RC RS nx : Nat) : aO := fun K ad k sl ls st X => tk n [] (fun av t => rcv ro X (ck (le4 t) (ck (Nat.ble (k + mc) RC) (ck (Nat.ble (sl + ms) RS) (∃ (X1 X' Z : List aE) (av' : List Value), X1.length = off ∧ X = X1 ++ X'.map (shE off) ++ Z ∧ av = av'.map (shV off) ∧ T av' X' (fun X2 => X2.length = X'.length ∧ K nx ad (k + mc) (sl + ms) ls (t) (X1 ++ X2.map (shE off) ++ Z)))))) av) st
section FCALLS
variable {Γ : aΓ} {cc : ByteArray} {Ts : List Cond} {own : String} {nL : Nat} {rm : Room} {pc : Nat} {y : MethodName} {ws : List Cond} {rm' : Room} {n : Nat} {ro : Option Nat}
theorem snd_Fi (off : Nat) {T : aTi} (C : FOK Γ cc Ts own nL rm) (hs : aSite Γ pc n ro rm'.cells rm'.slots y ws rm') (hM : aMi y ws rm' T) : Snd Γ pc (oFi off T n ro rm'.cells rm'.slots rm.cells rm.slots (pc + 3)) := by
  obtain ⟨p, l, e, R, s, m, args, below, meth, c, Q, G, A, nL'⟩ := Γ
  obtain ⟨hx, hb, hml, hown, hts, hK, hA, rfl, rfl, hB⟩ := C
  intro K hK' ad k sl ls st X ho
  dsimp only [oFi] at ho
  obtain ⟨av, t, e1, hn, h0⟩ := tk_spec ho
  rw [List.append_nil] at h0
  obtain ⟨h1, hro⟩ := rcv_spec h0
  obtain ⟨h4, h2⟩ := ck_spec h1
  obtain ⟨hc, h3⟩ := ck_spec h2
  obtain ⟨hsl, X1, X', Z, av', hof, e2, e3, h⟩ := ck_spec h3
  clear ho h0 h1 h2 h3
  subst e1 e2 e3
  intro H locs la hP hD hS hl
  have hF := fr_free hof hD hS hA
  have hpc := fun (U : State) hU hW => aPc_at (av := av') (U := U) (fr_P hof hP) hK (fr_D hof hD) hB hU hW
  rw [← aVs_sh] at hpc
  have hrun := hs _ _ _ H locs k sl la ((av'.map (shV off)).map (aV ad)) (t.map (aV ad)) (hM l G (adS ad off) H.size av' X' _ h) (aPc_blind _ _ _ _ _) hpc (by rw [List.length_map]; exact hn) hl.1 (le4_spec ad h4) ⟨Nat.le_of_ble_eq_true hc, Nat.le_of_ble_eq_true hsl⟩ (fun ci hci => by
    obtain ⟨q, As, fs, eq, hq⟩ := hro ci hci
    rw [eq]
    have hq2 := aX_get G ad _ 0 q _ hq
    rw [Nat.zero_add] at hq2
    obtain ⟨qc, g0, -⟩ := hP q _ hq2
    obtain ⟨cellB, g1, g2, g3⟩ := va_recv hK hP g0 hq2
    exact ⟨ad q, As.map (aV ad), cellB, qc, rfl, g0, g1, g2, g3⟩)
  have hst : List.map (aV ad) ((av'.map (shV off)).reverse ++ t) = ((av'.map (shV off)).map (aV ad)).reverse ++ t.map (aV ad) := by rw [List.map_append, List.map_reverse]
  rw [hst]
  refine va_calli hrun hS (fun q _ h9 => hF q h9) hF (fun r u t1 H1 locs1 ht hvm hpost hBk hz hk hS1 => ?_)
  obtain ⟨hP1, -⟩ := hBk
  rw [ht] at hP1
  obtain ⟨hl2, hpost⟩ := hpost
  exact hK' _ _ _ _ _ _ _ hpost H1 locs1 la (fr_join hof hl2 hP hD hk hP1) (aX_D hD (fr_len hof hl2)) hS1 hl
theorem snd_Fl (off : Nat) {T : aTl} (C : FOK Γ cc Ts own nL rm) (hs : aSite Γ pc n ro rm'.cells rm'.slots y ws rm') (hM : aMl y ws rm' T) : Snd Γ pc (oFl off T n ro rm'.cells rm'.slots rm.cells rm.slots (pc + 3)) := by
  obtain ⟨p, l, e, R, s, m, args, below, meth, c, Q, G, A, nL'⟩ := Γ
  obtain ⟨hx, hb, hml, hown, hts, hK, hA, rfl, rfl, hB⟩ := C
  intro K hK' ad k sl ls st X ho
  dsimp only [oFl] at ho
  obtain ⟨av, t, e1, hn, h0⟩ := tk_spec ho
  rw [List.append_nil] at h0
  obtain ⟨h1, hro⟩ := rcv_spec h0
  obtain ⟨h4, h2⟩ := ck_spec h1
  obtain ⟨hc, h3⟩ := ck_spec h2
  obtain ⟨hsl, X1, X', Z, av', hof, e2, e3, h⟩ := ck_spec h3
  clear ho h0 h1 h2 h3
  subst e1 e2 e3
  intro H locs la hP hD hS hl
  have hF := fr_free hof hD hS hA
  have hpc := fun (U : State) hU hW => aPc_at (av := av') (U := U) (fr_P hof hP) hK (fr_D hof hD) hB hU hW
  rw [← aVs_sh] at hpc
  have hrun := hs _ _ _ H locs k sl la ((av'.map (shV off)).map (aV ad)) (t.map (aV ad)) (hM l G (adS ad off) H.size av' X' _ h) (aPc_blind _ _ _ _ _) hpc (by rw [List.length_map]; exact hn) hl.1 (le4_spec ad h4) ⟨Nat.le_of_ble_eq_true hc, Nat.le_of_ble_eq_true hsl⟩ (fun ci hci => by
    obtain ⟨q, As, fs, eq, hq⟩ := hro ci hci
    rw [eq]
    have hq2 := aX_get G ad _ 0 q _ hq
    rw [Nat.zero_add] at hq2
    obtain ⟨qc, g0, -⟩ := hP q _ hq2
    obtain ⟨cellB, g1, g2, g3⟩ := va_recv hK hP g0 hq2
    exact ⟨ad q, As.map (aV ad), cellB, qc, rfl, g0, g1, g2, g3⟩)
  have hst : List.map (aV ad) ((av'.map (shV off)).reverse ++ t) = ((av'.map (shV off)).map (aV ad)).reverse ++ t.map (aV ad) := by rw [List.map_append, List.map_reverse]
  rw [hst]
  refine va_calll hrun hS (fun q _ h9 => hF q h9) hF (fun r u t1 H1 locs1 ht hvm hpost hBk hz hk hS1 => ?_)
  obtain ⟨hP1, -⟩ := hBk
  rw [ht] at hP1
  obtain ⟨hl2, hpost⟩ := hpost
  exact hK' _ _ _ _ _ _ _ hpost H1 locs1 la (fr_join hof hl2 hP hD hk hP1) (aX_D hD (fr_len hof hl2)) hS1 hl
theorem snd_Fd (off : Nat) {T : aTd} (C : FOK Γ cc Ts own nL rm) (hs : aSite Γ pc n ro rm'.cells rm'.slots y ws rm') (hM : aMd y ws rm' T) : Snd Γ pc (oFd off T n ro rm'.cells rm'.slots rm.cells rm.slots (pc + 3)) := by
  obtain ⟨p, l, e, R, s, m, args, below, meth, c, Q, G, A, nL'⟩ := Γ
  obtain ⟨hx, hb, hml, hown, hts, hK, hA, rfl, rfl, hB⟩ := C
  intro K hK' ad k sl ls st X ho
  dsimp only [oFd] at ho
  obtain ⟨av, t, e1, hn, h0⟩ := tk_spec ho
  rw [List.append_nil] at h0
  obtain ⟨h1, hro⟩ := rcv_spec h0
  obtain ⟨h4, h2⟩ := ck_spec h1
  obtain ⟨hc, h3⟩ := ck_spec h2
  obtain ⟨hsl, X1, X', Z, av', hof, e2, e3, h⟩ := ck_spec h3
  clear ho h0 h1 h2 h3
  subst e1 e2 e3
  intro H locs la hP hD hS hl
  have hF := fr_free hof hD hS hA
  have hpc := fun (U : State) hU hW => aPc_at (av := av') (U := U) (fr_P hof hP) hK (fr_D hof hD) hB hU hW
  rw [← aVs_sh] at hpc
  have hrun := hs _ _ _ H locs k sl la ((av'.map (shV off)).map (aV ad)) (t.map (aV ad)) (hM l G (adS ad off) H.size av' X' _ h) (aPc_blind _ _ _ _ _) hpc (by rw [List.length_map]; exact hn) hl.1 (le4_spec ad h4) ⟨Nat.le_of_ble_eq_true hc, Nat.le_of_ble_eq_true hsl⟩ (fun ci hci => by
    obtain ⟨q, As, fs, eq, hq⟩ := hro ci hci
    rw [eq]
    have hq2 := aX_get G ad _ 0 q _ hq
    rw [Nat.zero_add] at hq2
    obtain ⟨qc, g0, -⟩ := hP q _ hq2
    obtain ⟨cellB, g1, g2, g3⟩ := va_recv hK hP g0 hq2
    exact ⟨ad q, As.map (aV ad), cellB, qc, rfl, g0, g1, g2, g3⟩)
  have hst : List.map (aV ad) ((av'.map (shV off)).reverse ++ t) = ((av'.map (shV off)).map (aV ad)).reverse ++ t.map (aV ad) := by rw [List.map_append, List.map_reverse]
  rw [hst]
  refine va_calld hrun hS (fun q _ h9 => hF q h9) hF (fun r u t1 H1 locs1 ht hvm hpost hBk hz hk hS1 => ?_)
  obtain ⟨hP1, -⟩ := hBk
  rw [ht] at hP1
  obtain ⟨hl2, hpost⟩ := hpost
  exact hK' _ _ _ _ _ _ _ hpost H1 locs1 la (fr_join hof hl2 hP hD hk hP1) (aX_D hD (fr_len hof hl2)) hS1 hl
theorem snd_Fv (off : Nat) {T : aTv} (C : FOK Γ cc Ts own nL rm) (hs : aSite Γ pc n ro rm'.cells rm'.slots y ws rm') (hM : aMv y ws rm' T) : Snd Γ pc (oFv off T n ro rm'.cells rm'.slots rm.cells rm.slots (pc + 3)) := by
  obtain ⟨p, l, e, R, s, m, args, below, meth, c, Q, G, A, nL'⟩ := Γ
  obtain ⟨hx, hb, hml, hown, hts, hK, hA, rfl, rfl, hB⟩ := C
  intro K hK' ad k sl ls st X ho
  dsimp only [oFv] at ho
  obtain ⟨av, t, e1, hn, h0⟩ := tk_spec ho
  rw [List.append_nil] at h0
  obtain ⟨h1, hro⟩ := rcv_spec h0
  obtain ⟨h4, h2⟩ := ck_spec h1
  obtain ⟨hc, h3⟩ := ck_spec h2
  obtain ⟨hsl, X1, X', Z, av', hof, e2, e3, h⟩ := ck_spec h3
  clear ho h0 h1 h2 h3
  subst e1 e2 e3
  intro H locs la hP hD hS hl
  have hF := fr_free hof hD hS hA
  have hpc := fun (U : State) hU hW => aPc_at (av := av') (U := U) (fr_P hof hP) hK (fr_D hof hD) hB hU hW
  rw [← aVs_sh] at hpc
  have hrun := hs _ _ _ H locs k sl la ((av'.map (shV off)).map (aV ad)) (t.map (aV ad)) (hM l G (adS ad off) H.size av' X' _ h) (aPc_blind _ _ _ _ _) hpc (by rw [List.length_map]; exact hn) hl.1 (le4_spec ad h4) ⟨Nat.le_of_ble_eq_true hc, Nat.le_of_ble_eq_true hsl⟩ (fun ci hci => by
    obtain ⟨q, As, fs, eq, hq⟩ := hro ci hci
    rw [eq]
    have hq2 := aX_get G ad _ 0 q _ hq
    rw [Nat.zero_add] at hq2
    obtain ⟨qc, g0, -⟩ := hP q _ hq2
    obtain ⟨cellB, g1, g2, g3⟩ := va_recv hK hP g0 hq2
    exact ⟨ad q, As.map (aV ad), cellB, qc, rfl, g0, g1, g2, g3⟩)
  have hst : List.map (aV ad) ((av'.map (shV off)).reverse ++ t) = ((av'.map (shV off)).map (aV ad)).reverse ++ t.map (aV ad) := by rw [List.map_append, List.map_reverse]
  rw [hst]
  refine va_callv hrun hS (fun q _ h9 => hF q h9) hF (fun u t1 H1 locs1 ht hvm hpost hBk hz hk hS1 => ?_)
  obtain ⟨hP1, -⟩ := hBk
  rw [ht] at hP1
  obtain ⟨hl2, hpost⟩ := hpost
  exact hK' _ _ _ _ _ _ _ hpost H1 locs1 la (fr_join hof hl2 hP hD hk hP1) (aX_D hD (fr_len hof hl2)) hS1 hl
end FCALLS
