/-! ===== a method that may throw, on the first part of the caller's world ===== -/
theorem shV_0 : ∀ v : Value, shV 0 v = v
  | .ref _ => rfl
  | .int _ => rfl
  | .long _ => rfl
  | .float _ => rfl
  | .double _ => rfl
  | .null => rfl
  | .retAddr _ => rfl
theorem shVs_0 (l : List Value) : l.map (shV 0) = l := by
  rw [List.map_congr_left (g := id) (fun v _ => shV_0 v), List.map_id]
theorem shE_0 : ∀ e : aE, shE 0 e = e
  | .inl _ => rfl
  | .inr (.inl o) => by
    obtain ⟨c, fs⟩ := o
    simp only [shE, shVs_0]
  | .inr (.inr _) => rfl
theorem shEs_0 (l : List aE) : l.map (shE 0) = l := by
  rw [List.map_congr_left (g := id) (fun v _ => shE_0 v), List.map_id]
theorem gx_of {α : Type} : ∀ {i : Nat} {c : α → Prop} {X : List α} {e : α}, X[i]? = some e → c e → gx i c X
  | i, c, [], e, h, _ => by simp at h
  | 0, c, x :: t, e, h, hc => by
    simp only [List.getElem?_cons_zero, Option.some.injEq] at h
    subst h
    exact hc
  | i + 1, c, x :: t, e, h, hc => by
    rw [List.getElem?_cons_succ] at h
    exact gx_of (i := i) (X := t) h hc
theorem sx_of {α : Type} : ∀ {i : Nat} {e : α} {c : List α → Prop} {X : List α}, i < X.length → c (X.set i e) → sx i e c X
  | i, e, c, [], h, _ => by simp at h
  | 0, e, c, x :: t, _, hc => hc
  | i + 1, e, c, x :: t, h, hc => sx_of (i := i) (X := t) (c := fun t' => c (x :: t')) (by simpa using h) hc
def oGXi (T : xTi) (n ci : Nat) (mc ms RC RS nx : Nat) (ex : aXk) : aO := fun K ad k sl ls st X => tk n [] (fun av t => ∃ (X' Z : List aE) (P : Int32 → List aE → Prop) (E : aXp) (q : Nat) (As fs : List Value), le4 t = true ∧ k + mc ≤ RC ∧ sl + ms ≤ RS ∧ av = .ref q :: As ∧ X[q]? = some (.inr (.inl (ci, fs))) ∧ X = X' ++ Z ∧ T av X' P E ∧
  (∀ r X2, P r X2 → X2.length = X'.length ∧ K nx ad (k + mc) (sl + ms) ls (.int r :: t) (X2 ++ Z)) ∧ (∀ e X2, E e X2 → X2.length = X'.length ∧ ex e ad (k + mc) (sl + ms) ls (X2 ++ Z))) st
section WRAP
variable {Γ : aΓ} {cc : ByteArray} {Ts : List Cond} {own : String} {nL : Nat} {rm : Room} {pc : Nat}
variable {y : MethodName} {ws : List Cond} {rm' : Room} {n ci : Nat}
theorem snd_GXi {T : xTi} {ex : aXk} (C : FOK Γ cc Ts own nL rm) (CX : FOX Γ) (hs : xSite Γ pc n (some ci) rm'.cells rm'.slots y ws rm') (hM : xMi y ws rm' T) (hex : ∀ E ad k sl ls X, ex E ad k sl ls X → FX Γ pc E ad k sl ls X) : Snd Γ pc (oGXi T n ci rm'.cells rm'.slots rm.cells rm.slots (pc + 3) ex) := by
  obtain ⟨p, l, e, R, s, m, args, below, meth, c, Q, G, A, nL'⟩ := Γ
  obtain ⟨hx, hb, hml, hown, hts, hK, hA, rfl, rfl, hB⟩ := C
  intro K hK' ad k sl ls st X ho
  dsimp only [oGXi] at ho
  obtain ⟨av, t, e1, hn, h0⟩ := tk_spec ho
  rw [List.append_nil] at h0
  obtain ⟨X', Z, P, E9, q0, As0, fs0, h4, hc, hsl, hav, hq0, hX, h, hp1, hp2⟩ := h0
  clear ho
  subst e1
  intro H locs la hP hD hS hl
  have hP0 : va_P G.1 vwCl (aX G ad 0 ([] ++ X'.map (shE 0) ++ Z)) H := by rw [shEs_0, List.nil_append, ← hX]; exact hP
  have hD0 : va_D A (aX G ad 0 ([] ++ X'.map (shE 0) ++ Z)) := by rw [shEs_0, List.nil_append, ← hX]; exact hD
  have had : adS ad 0 = ad := rfl
  have hF := fr_free (off := 0) rfl hD0 hS hA
  have hP9 := fr_P (off := 0) rfl hP0
  have hD9 := fr_D (off := 0) rfl hD0
  rw [had] at hF hP9 hD9
  have hrun := hs _ _ _ _ H locs k sl la (av.map (aV ad)) (t.map (aV ad)) (hM l CX.1 G ad H.size av X' _ _ h) (aPcX_blind _ _ _ _ _) (fun U hU hW => ⟨aPc_at hP9 hK hD9 hB hU hW, by
    have h8 := aZ_at CX.2.1 hS hF hU hW
    exact h8⟩) (by rw [List.length_map]; exact hn) hl.1 (le4_spec ad h4) ⟨hc, hsl⟩ (fun ci' hci => by
    cases hci
    rw [hav]
    have hq2 := aX_get G ad X 0 q0 _ hq0
    rw [Nat.zero_add] at hq2
    obtain ⟨qc, g1, -⟩ := hP q0 _ hq2
    obtain ⟨cellB, g2, g3, g4⟩ := va_recv hK hP g1 hq2
    exact ⟨ad q0, As0.map (aV ad), cellB, qc, rfl, g1, g2, g3, g4⟩)
  have hst : List.map (aV ad) (av.reverse ++ t) = (av.map (aV ad)).reverse ++ t.map (aV ad) := by rw [List.map_append, List.map_reverse]
  rw [hst]
  have join : ∀ (X2 : List aE) (H1 : Heap), X2.length = X'.length → (∀ q : Nat, q < H.size → ¬ aA G ad X' H.size q → H1[q]? = H[q]?) → va_P G.1 vwCl (aX G ad 0 X2) H1 → va_P G.1 vwCl (aX G ad 0 (X2 ++ Z)) H1 ∧ va_D A (aX G ad 0 (X2 ++ Z)) := by
    intro X2 H1 hl2 hk hP1
    have g1 := fr_join (off := 0) (X1 := []) (Z := Z) rfl hl2 hP0 hD0 hk hP1
    have g2 := aX_D hD0 (fr_len (off := 0) (X1 := []) (Z := Z) rfl hl2)
    rw [shEs_0, List.nil_append] at g1 g2
    exact ⟨g1, g2⟩
  refine vx_calli hrun hS (fun q _ h9 => hF q h9) hF (fun q _ h9 => hF q h9) (fun E ce q9 u t1 H1 locs1 ht hvm hpx hBx hz hk hS1 g1 g2 g3 => ?_) (fun r u t1 H1 locs1 ht hvm hpost hBk hz hk hS1 => ?_)
  · obtain ⟨hE, hP1, -⟩ := hBx
    subst hE
    rw [ht] at hP1
    obtain ⟨hl2, hpx⟩ := hp2 _ _ hpx
    obtain ⟨j1, j2⟩ := join _ H1 hl2 hk hP1
    exact hex _ _ _ _ _ _ hpx H1 locs1 la (t.map (aV ad)) ce q9 j1 j2 hS1 hl g1 g2 g3
  · obtain ⟨hP1, -⟩ := hBk
    rw [ht] at hP1
    obtain ⟨hl2, hpost⟩ := hp1 _ _ hpost
    obtain ⟨j1, j2⟩ := join _ H1 hl2 hk hP1
    exact hK' _ _ _ _ _ _ _ hpost H1 locs1 la j1 j2 hS1 hl
end WRAP
