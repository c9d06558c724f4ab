/-! ===== an array made in a method, and left behind at its end ===== -/
def okV (N : Nat) : Value → Bool
  | .ref a => Nat.blt a N
  | _ => true
def okE (N : Nat) : aE → Bool
  | .inl _ => true
  | .inr (.inl o) => o.2.all (okV N)
  | .inr (.inr q) => (List.range q.2.1).all fun j => Nat.blt (q.2.2 j) N
theorem rwF_cg {ad ad2 : Nat → Nat} {n : Nat} {g : Nat → Nat} (h : ∀ i, i < n → ad2 (g i) = ad (g i)) : rwF ad2 n g = rwF ad n g := by
  funext i
  by_cases z : i < n
  · simp only [rwF, if_pos z, h i z]
  · simp only [rwF, if_neg z]
theorem okE_rw {N : Nat} {b : Bool} {n : Nat} {g : Nat → Nat} (h : okE N (.inr (.inr (b, n, g))) = true) : ∀ i, i < n → g i < N := fun i hi => Nat.blt_eq.mp (List.all_eq_true.mp (h : (List.range n).all (fun j => Nat.blt (g j) N) = true) i (List.mem_range.mpr hi))
abbrev adx (ad : Nat → Nat) (N q : Nat) : Nat → Nat := fun x => if x = N then q else ad x
theorem aV_adx {ad : Nat → Nat} {N q : Nat} {v : Value} (h : okV N v = true) : aV (adx ad N q) v = aV ad v := by
  cases v with
  | ref a =>
    have hl : a < N := Nat.blt_eq.mp h
    have hne : ¬ a = N := fun z => by
      rw [z] at hl
      exact Nat.lt_irrefl _ hl
    exact congrArg Value.ref (if_neg hne)
  | _ => rfl
theorem aVs_adx {ad : Nat → Nat} {N q : Nat} {l : List Value} (h : l.all (okV N) = true) : l.map (aV (adx ad N q)) = l.map (aV ad) :=
  List.map_congr_left fun v hv => aV_adx (List.all_eq_true.mp h v hv)
theorem aC_adx {K : aG} {ad : Nat → Nat} {N q : Nat} {e : aE} (h : okE N e = true) : aC K (adx ad N q) e = aC K ad e := by
  rcases e with ⟨b, n, f⟩ | o | z
  · cases b <;> rfl
  · obtain ⟨c, fs⟩ := o
    have h : fs.all (okV N) = true := h
    simp only [aC, aVs_adx h]
  · obtain ⟨b, n, g⟩ := z
    have h9 : rwF (adx ad N q) n g = rwF ad n g := rwF_cg fun i hi => if_neg (Nat.ne_of_lt (okE_rw h i hi))
    cases b <;> simp only [aC, h9]
theorem aX_adx {K : aG} {ad : Nat → Nat} {N q : Nat} : ∀ (X : List aE) (i : Nat), X.all (okE N) = true → i + X.length ≤ N → aX K (adx ad N q) i X = aX K ad i X
  | [], i, _, _ => rfl
  | x :: t, i, h, hl => by
    rw [List.all_cons, Bool.and_eq_true] at h
    rw [List.length_cons] at hl
    simp only [aX]
    rw [aC_adx h.1, aX_adx t (i + 1) h.2 (by omega)]
    show (if i = N then q else ad i, _) :: _ = _
    rw [if_neg (by omega)]
theorem aX_app (K : aG) (ad : Nat → Nat) : ∀ (X Y : List aE) (i : Nat), aX K ad i (X ++ Y) = aX K ad i X ++ aX K ad (i + X.length) Y
  | [], Y, i => by simp [aX]
  | x :: t, Y, i => by
    simp only [List.cons_append, aX, List.length_cons]
    rw [aX_app K ad t Y (i + 1), show i + 1 + t.length = i + (t.length + 1) by omega]
theorem aX_push {K : aG} {ad : Nat → Nat} {q : Nat} {X : List aE} {e : aE} (h : X.all (okE X.length) = true) : aX K (adx ad X.length q) 0 (X ++ [e]) = aX K ad 0 X ++ [(q, aC K (adx ad X.length q) e)] := by
  rw [aX_app, aX_adx X 0 h (by omega)]
  congr 1
  show [((if 0 + X.length = X.length then q else ad (0 + X.length)), _)] = _
  rw [if_pos (by omega)]
theorem aL_adx {ad : Nat → Nat} {N q : Nat} {ls : List (Nat × Value)} (h : ls.all (fun z => okV N z.2) = true) : aL (adx ad N q) ls = aL ad ls :=
  List.map_congr_left fun z hz => by rw [aV_adx (List.all_eq_true.mp h z hz)]
def oNwI (N RC RS nx : Nat) : aO := fun K ad k n ls st X => pI (fun cn t => ck (ls.all (fun z => okV X.length z.2)) (ck (t.all (okV X.length)) (ck (X.all (okE X.length)) (ck (Nat.ble (k + 1) RC) (ck (Nat.ble (n + N) RS) (cn = nI N ∧ ∀ q, K nx (adx ad X.length q) (k + 1) (n + N) ls (.ref X.length :: t) (X ++ [.inl (false, N, fun _ => 0)]))))))) st
section NWI
variable {Γ : aΓ} {cc : ByteArray} {Ts : List Cond} {own : String} {nL : Nat} {rm : Room} {pc : Nat}
theorem snd_NwI (C : FOK Γ cc Ts own nL rm) {N : Nat} (hN : N < 10000) (d : decode cc pc = .ok (.newarray .int, 2)) (hm : Cond.arrayClass .int ∈ Ts) : Snd Γ pc (oNwI N rm.cells rm.slots (pc + 2)) := by
  obtain ⟨p, l, e, R, s, m, args, below, meth, c, Q, G, A, nL'⟩ := Γ
  obtain ⟨hx, hb, hml, hown, hts, hK, hA, rfl, rfl, hB⟩ := C
  intro K hK' ad k n ls st X ho
  dsimp only [oNwI] at ho
  obtain ⟨cn, t, rfl, h0⟩ := pI_spec ho
  obtain ⟨c1, h1⟩ := ck_spec h0
  obtain ⟨c2, h2⟩ := ck_spec h1
  obtain ⟨c3, h3⟩ := ck_spec h2
  obtain ⟨c4, h4⟩ := ck_spec h3
  obtain ⟨c5, rfl, h⟩ := ck_spec h4
  intro H locs la hP hD hS hl
  refine va_newa hx hb (atype := .int) (hts _ hm) (ty := .int) rfl hK hP hD hS hA (N' := N) (a0 := (N, .inl (fun _ => 0))) (fun cA => rfl) (nI_pos (by omega)) (nI_clampS hN) (Nat.le_trans (Nat.mul_le_mul_right _ (by omega : N ≤ 10000)) (by decide)) (Nat.le_of_ble_eq_true c4) (Nat.le_of_ble_eq_true c5) d (fun q cA H1 hK1 hP1 hD1 hS1 => ?_)
  have hc : cA = G.2.1 := by
    have g1 : s.vm.findClass ("[" ++ FieldType.int.toString) = some G.2.1 := (hK.2 0 (G.2.1, .int) rfl).2
    have g2 : s.vm.findClass ("[" ++ FieldType.int.toString) = some cA := (hK1.2 4 (cA, .int) rfl).2
    exact (Option.some.inj (g1.symm.trans g2)).symm
  subst hc
  have hX : aX G (adx ad X.length q) 0 (X ++ [.inl (false, N, fun _ => 0)]) = aX G ad 0 X ++ [(q, .inl (G.2.1, N, .inl (fun _ => 0)))] := aX_push c3
  have hst : ((Value.ref X.length :: t).map (aV (adx ad X.length q))) = .ref q :: t.map (aV ad) := by
    rw [List.map_cons, aVs_adx c2]
    show Value.ref (if X.length = X.length then q else _) :: _ = _
    rw [if_pos rfl]
  have key := hK' _ _ _ _ _ _ _ (h q) H1 locs la (by rw [hX]; exact hP1) (by rw [hX]; exact hD1) hS1 (by rw [aL_adx c1]; exact hl)
  rw [hst] at key
  exact key
end NWI
