/-! ===== the law's own methods: worlds that grow, two static rows, the script ===== -/
def acr : Nat → Int32
  | 1 => 1
  | 3 => -1
  | _ => 0
def dwn : Nat → Int32
  | 0 => -1
  | 2 => 1
  | _ => 0
/-- the two static rows and the script, at the places 1001, 1002, 1000 -/
def aSR (ad : Nat → Nat) (A : Nat → Prop) (U : State) (H : Heap) : Prop :=
  (va_Z "PaintedDieLaw" "ACROSS" "[I" (.ref (ad 1001)) A U H ∧ va_T .int (ad 1001) 4 (fun j => .int (acr j)) A U H) ∧ (va_Z "PaintedDieLaw" "DOWN" "[I" (.ref (ad 1002)) A U H ∧ va_T .int (ad 1002) 4 (fun j => .int (dwn j)) A U H) ∧ ∃ (L : Nat) (xs : Nat → Int32), L ≤ 260 ∧ va_T .int (ad 1000) L (fun j => .int (xs j)) A U H
def aNk (U : State) : Prop := va_AOA .boolean U ∧ va_AOA .int U ∧ va_Nw (.castable "[I" "java/lang/Cloneable") U ∧ va_Nw (.fieldLinkNest "PaintedDieLaw$Sim" 52 "PaintedDieLaw" "ACROSS" "[I" "PaintedDieLaw") U ∧ va_Nw (.fieldLinkNest "PaintedDieLaw$Sim" 57 "PaintedDieLaw" "DOWN" "[I" "PaintedDieLaw") U ∧ va_Nw (.methodLinkNest "PaintedDieLaw" 88 yX4_init "PaintedDieLaw") U
theorem aSR.at {ad : Nat → Nat} {A B : Nat → Prop} {s U : State} {H : Heap} {locs : List Loc} (h : aSR ad A s s.heap) (hS : va_S A s.heap H locs) (hAB : ∀ q, B q → A q) (hU : U.heap = H) (hW : s.WarmedH U.vm) : aSR ad B U U.heap := by
  rw [hU]
  obtain ⟨⟨a1, a2⟩, ⟨b1, b2⟩, L, xs, hL, c⟩ := h
  exact ⟨⟨((a1.kept fun a h1 h2 => hS.2.1 a h1 h2).narrow hAB).moved hW.alike, ((a2.kept fun a h1 h2 => hS.2.1 a h1 h2).narrow hAB).moved hW.alike⟩, ⟨((b1.kept fun a h1 h2 => hS.2.1 a h1 h2).narrow hAB).moved hW.alike, ((b2.kept fun a h1 h2 => hS.2.1 a h1 h2).narrow hAB).moved hW.alike⟩, L, xs, hL, ((c.kept fun a h1 h2 => hS.2.1 a h1 h2).narrow hAB).moved hW.alike⟩
theorem aSR.vm {ad : Nat → Nat} {A : Nat → Prop} {s U : State} {H : Heap} (h : aSR ad A s H) (hv : s.vm.Alike U.vm) : aSR ad A U H := by
  obtain ⟨⟨a1, a2⟩, ⟨b1, b2⟩, L, xs, hL, c⟩ := h
  exact ⟨⟨a1.moved hv, a2.moved hv⟩, ⟨b1.moved hv, b2.moved hv⟩, L, xs, hL, c.moved hv⟩
theorem aSR.cg {ad ad2 : Nat → Nat} {A : Nat → Prop} {s : State} {H : Heap} (h : aSR ad A s H) (hh : ∀ i, 1000 ≤ i → ad2 i = ad i) : aSR ad2 A s H := by
  unfold aSR at h ⊢
  rw [hh 1000 (Nat.le_refl _), hh 1001 (by decide), hh 1002 (by decide)]
  exact h
theorem va_AOA.moved {t : FieldType} {u U : State} (hvm : u.vm.Alike U.vm) (h : va_AOA t u) : va_AOA t U := Stand.arrayOver_alikeB hvm h
theorem aNk.warm {s U : State} (hW : s.WarmedH U.vm) (h : aNk s) : aNk U :=
  ⟨h.1.moved hW.alike, h.2.1.moved hW.alike, h.2.2.1.warmC hW, h.2.2.2.1.warmF hW, h.2.2.2.2.1.warmF hW, h.2.2.2.2.2.warmM hW⟩
theorem aNk.same {s U : State} (hv : s.vm = U.vm) (h : aNk s) : aNk U :=
  ⟨h.1.moved (hv ▸ Vm.Alike.refl s.vm), h.2.1.moved (hv ▸ Vm.Alike.refl s.vm), va_Nw.same rfl hv h.2.2.1, h.2.2.2.1.same rfl hv, h.2.2.2.2.1.same rfl hv, h.2.2.2.2.2.same rfl hv⟩
def aPcN (K : aG) (ad : Nat → Nat) (av : List Value) (X : List aE) (sz : Nat) : Array Value → State → Prop := fun a U => aPcX K ad av X sz a U ∧ aNk U ∧ aSR ad (aA K ad X sz) U U.heap
theorem aPcN_blind (K : aG) (ad : Nat → Nat) (av : List Value) (X : List aE) (sz : Nat) : FrameBlind (aPcN K ad av X sz) := fun a U g mk q =>
  ⟨aPcX_blind _ _ _ _ _ a U g mk q.1, q.2.1.same (s := U) (U := U.calling g mk a) rfl, q.2.2.vm (s := U) (U := U.calling g mk a) (Vm.Alike.refl U.vm)⟩
def aBn (K : aG) (ad : Nat → Nat) (X : List aE) (sz N : Nat) : (Nat → Nat) × List aE → State → Prop := fun u t => Ag N ad u.1 ∧ aP K u.1 u.2 t.heap ∧ va_D (aA K ad X sz) (aX K u.1 0 u.2)
abbrev aTr : Type := List Value → List aE → (Nat → List aE → Prop) → Prop
def nMi (y : MethodName) (ws : List Cond) (rm : Room) (N : List aE → Nat) (T : aTi) : Prop := ∀ (l : Launch) (_ : l.stackTraces = false) (K : aG) (ad : Nat → Nat) (sz : Nat) (av : List Value) (X : List aE) (post : Int32 → List aE → Prop), T av X post →
  Met l y ws rm (aPcN K ad av X sz) (va_Qi (fun r (u : (Nat → Nat) × List aE) => post r u.2) (aBn K ad X sz (N X)) (aA K ad X sz)) rm.cells rm.slots (aA K ad X sz)
def nMv (y : MethodName) (ws : List Cond) (rm : Room) (N : List aE → Nat) (T : aTv) : Prop := ∀ (l : Launch) (_ : l.stackTraces = false) (K : aG) (ad : Nat → Nat) (sz : Nat) (av : List Value) (X : List aE) (post : List aE → Prop), T av X post →
  Met l y ws rm (aPcN K ad av X sz) (va_Qv (fun (u : (Nat → Nat) × List aE) => post u.2) (aBn K ad X sz (N X)) (aA K ad X sz)) rm.cells rm.slots (aA K ad X sz)
/-- the answer is a reference to a place of the world left -/
def nMr (y : MethodName) (ws : List Cond) (rm : Room) (N : List aE → Nat) (T : aTr) : Prop := ∀ (l : Launch) (_ : l.stackTraces = false) (K : aG) (ad : Nat → Nat) (sz : Nat) (av : List Value) (X : List aE) (post : Nat → List aE → Prop), T av X post →
  Met l y ws rm (aPcN K ad av X sz) (va_Qr (fun (u : Nat × ((Nat → Nat) × List aE)) => post u.1 u.2.2) (fun u a t => a = u.2.1 u.1 ∧ aBn K ad X sz (N X) u.2 t) (aA K ad X sz)) rm.cells rm.slots (aA K ad X sz)
/-- what the law's own bodies know beside -/
def FON (ad0 : Nat → Nat) (Γ : aΓ) : Prop := match Γ with
  | (p, l, e, R, s, m, args, below, meth, c, Q, K, A, nL) => aNk s ∧ aSR ad0 A s s.heap ∧ ∀ q, s.heap.size ≤ q → A q
theorem nMi_of {y : MethodName} {cc : ByteArray} {maxL : Nat} {ws ws' : List Cond} {rm : Room} {own : String} {N : List aE → Nat} {T : aTi} (hy : plainName y.cls = true) (hown : y.cls = own) (hw : ws = Cond.code y cc maxL (some .int) :: ws') (hlen : ∀ av X post, T av X post → al av ≤ maxL)
    (body : ∀ (Γ : aΓ) (ad : Nat → Nat) (av : List Value) (X : List aE) (post : Int32 → List aE → Prop), FOK Γ cc ws own maxL rm → FOX Γ → FON ad Γ → isQ Γ (va_Qi (fun r (u : (Nat → Nat) × List aE) => post r u.2) (aBn (gK Γ) ad X (hsz Γ) (N X)) (aA (gK Γ) ad X (hsz Γ))) rm ad X → rTy Γ = some .int → T av X post → FG Γ 0 ad 0 0 (lv_args 0 av) [] X) : nMi y ws rm N T := by
  intro l hst K ad sz av X post hT
  refine Met.ofW (cc := cc) (maxL := maxL) (ret := some .int) hy hw ?_
  intro p e s m args below meth c s₁ B hml hv
  obtain ⟨⟨⟨hargs, hsz, hP, hK, hD0, hB⟩, hZ⟩, hN, hR⟩ := hv
  subst hargs
  subst hsz
  have hts := atoms_spec (ws := ws) B.pre
  have hown' : s.vm.findClass own = some m.cls := hown ▸ findClass_of_methodNamed B.named
  have hD := hD0.self (sz := s.heap.size)
  have hl := lv_entry (av.map (aV ad)) (n := maxL) (by rw [al_sl]; exact hlen av X post hT)
  rw [lg_entry_eq]
  rw [aL_args] at hl
  exact body (p, l, e, (headSpec ws rm).room, s, m, (av.map (aV ad)).toArray, below, meth, c, MQ below (va_Qi (fun r (u : (Nat → Nat) × List aE) => post r u.2) (aBn K ad X s.heap.size (N X)) (aA K ad X s.heap.size)) (av.map (aV ad)).toArray s rm.cells rm.slots (aA K ad X s.heap.size), K, aA K ad X s.heap.size, maxL) ad av X post
    ⟨B.exec, B.bytes, hml, hown', hts, hK, fun q h => Or.inr h, rfl, rfl, hB⟩ ⟨hst, hZ, B.notSynchronized⟩ ⟨hN, hR, fun q h => Or.inr h⟩ ⟨Or.inl rfl, rfl, B.notSynchronized⟩ B.returns hT s.heap [] _ hP hD va_S.rf hl
theorem nMz_of {y : MethodName} {cc : ByteArray} {maxL : Nat} {ws ws' : List Cond} {rm : Room} {own : String} {N : List aE → Nat} {T : aTi} (hy : plainName y.cls = true) (hown : y.cls = own) (hw : ws = Cond.code y cc maxL (some .boolean) :: ws') (hlen : ∀ av X post, T av X post → al av ≤ maxL)
    (body : ∀ (Γ : aΓ) (ad : Nat → Nat) (av : List Value) (X : List aE) (post : Int32 → List aE → Prop), FOK Γ cc ws own maxL rm → FOX Γ → FON ad Γ → isQ Γ (va_Qi (fun r (u : (Nat → Nat) × List aE) => post r u.2) (aBn (gK Γ) ad X (hsz Γ) (N X)) (aA (gK Γ) ad X (hsz Γ))) rm ad X → rTy Γ = some .boolean → T av X post → FG Γ 0 ad 0 0 (lv_args 0 av) [] X) : nMi y ws rm N T := by
  intro l hst K ad sz av X post hT
  refine Met.ofW (cc := cc) (maxL := maxL) (ret := some .boolean) hy hw ?_
  intro p e s m args below meth c s₁ B hml hv
  obtain ⟨⟨⟨hargs, hsz, hP, hK, hD0, hB⟩, hZ⟩, hN, hR⟩ := hv
  subst hargs
  subst hsz
  have hts := atoms_spec (ws := ws) B.pre
  have hown' : s.vm.findClass own = some m.cls := hown ▸ findClass_of_methodNamed B.named
  have hD := hD0.self (sz := s.heap.size)
  have hl := lv_entry (av.map (aV ad)) (n := maxL) (by rw [al_sl]; exact hlen av X post hT)
  rw [lg_entry_eq]
  rw [aL_args] at hl
  exact body (p, l, e, (headSpec ws rm).room, s, m, (av.map (aV ad)).toArray, below, meth, c, MQ below (va_Qi (fun r (u : (Nat → Nat) × List aE) => post r u.2) (aBn K ad X s.heap.size (N X)) (aA K ad X s.heap.size)) (av.map (aV ad)).toArray s rm.cells rm.slots (aA K ad X s.heap.size), K, aA K ad X s.heap.size, maxL) ad av X post
    ⟨B.exec, B.bytes, hml, hown', hts, hK, fun q h => Or.inr h, rfl, rfl, hB⟩ ⟨hst, hZ, B.notSynchronized⟩ ⟨hN, hR, fun q h => Or.inr h⟩ ⟨Or.inl rfl, rfl, B.notSynchronized⟩ B.returns hT s.heap [] _ hP hD va_S.rf hl
/-- a method that catches -/
def isTb (Γ : aΓ) (hh : List (Nat × Nat × Nat × Nat)) : Prop := match Γ with
  | (p, l, e, R, s, m, args, below, meth, c, Q, K, A, nL) => c.exceptionTable.toList = tableOf hh
theorem nMw_of {y : MethodName} {cc : ByteArray} {maxL : Nat} {ws ws' : List Cond} {rm : Room} {own : String} {N : List aE → Nat} {T : aTi} {hh : List (Nat × Nat × Nat × Nat)} (hy : plainName y.cls = true) (hown : y.cls = own) (hw : ws = Cond.codeWith y cc maxL (some .boolean) hh :: ws') (hlen : ∀ av X post, T av X post → al av ≤ maxL)
    (body : ∀ (Γ : aΓ) (ad : Nat → Nat) (av : List Value) (X : List aE) (post : Int32 → List aE → Prop), FOK Γ cc ws own maxL rm → FOX Γ → FON ad Γ → isTb Γ hh → isQ Γ (va_Qi (fun r (u : (Nat → Nat) × List aE) => post r u.2) (aBn (gK Γ) ad X (hsz Γ) (N X)) (aA (gK Γ) ad X (hsz Γ))) rm ad X → rTy Γ = some .boolean → T av X post → FG Γ 0 ad 0 0 (lv_args 0 av) [] X) : nMi y ws rm N T := by
  intro l hst K ad sz av X post hT
  refine va_MetW (cc := cc) (maxL := maxL) (ret := some .boolean) (hh := hh) hy hw ?_
  intro p e s m args below meth c s₁ B hml hv
  obtain ⟨⟨⟨hargs, hsz, hP, hK, hD0, hB⟩, hZ⟩, hN, hR⟩ := hv
  subst hargs
  subst hsz
  have hts := atoms_spec (ws := ws) B.pre
  have hown' : s.vm.findClass own = some m.cls := hown ▸ findClass_of_methodNamed B.named
  have htb : c.exceptionTable.toList = tableOf hh := vx_table (x := y) B (hts _ (by rw [hw]; exact List.mem_cons_self))
  have hD := hD0.self (sz := s.heap.size)
  have hl := lv_entry (av.map (aV ad)) (n := maxL) (by rw [al_sl]; exact hlen av X post hT)
  rw [lg_entry_eq]
  rw [aL_args] at hl
  exact body (p, l, e, (headSpec ws rm).room, s, m, (av.map (aV ad)).toArray, below, meth, c, MQ below (va_Qi (fun r (u : (Nat → Nat) × List aE) => post r u.2) (aBn K ad X s.heap.size (N X)) (aA K ad X s.heap.size)) (av.map (aV ad)).toArray s rm.cells rm.slots (aA K ad X s.heap.size), K, aA K ad X s.heap.size, maxL) ad av X post
    ⟨B.exec, B.bytes, hml, hown', hts, hK, fun q h => Or.inr h, rfl, rfl, hB⟩ ⟨hst, hZ, B.notSynchronized⟩ ⟨hN, hR, fun q h => Or.inr h⟩ htb ⟨Or.inl rfl, rfl, B.notSynchronized⟩ B.returns hT s.heap [] _ hP hD va_S.rf hl
theorem nMv_of {y : MethodName} {cc : ByteArray} {maxL : Nat} {ws ws' : List Cond} {rm : Room} {own : String} {N : List aE → Nat} {T : aTv} (hy : plainName y.cls = true) (hown : y.cls = own) (hw : ws = Cond.code y cc maxL none :: ws') (hlen : ∀ av X post, T av X post → al av ≤ maxL)
    (body : ∀ (Γ : aΓ) (ad : Nat → Nat) (av : List Value) (X : List aE) (post : List aE → Prop), FOK Γ cc ws own maxL rm → FOX Γ → FON ad Γ → isQ Γ (va_Qv (fun (u : (Nat → Nat) × List aE) => post u.2) (aBn (gK Γ) ad X (hsz Γ) (N X)) (aA (gK Γ) ad X (hsz Γ))) rm ad X → rTy Γ = none → T av X post → FG Γ 0 ad 0 0 (lv_args 0 av) [] X) : nMv y ws rm N T := by
  intro l hst K ad sz av X post hT
  refine Met.ofW (cc := cc) (maxL := maxL) (ret := none) hy hw ?_
  intro p e s m args below meth c s₁ B hml hv
  obtain ⟨⟨⟨hargs, hsz, hP, hK, hD0, hB⟩, hZ⟩, hN, hR⟩ := hv
  subst hargs
  subst hsz
  have hts := atoms_spec (ws := ws) B.pre
  have hown' : s.vm.findClass own = some m.cls := hown ▸ findClass_of_methodNamed B.named
  have hD := hD0.self (sz := s.heap.size)
  have hl := lv_entry (av.map (aV ad)) (n := maxL) (by rw [al_sl]; exact hlen av X post hT)
  rw [lg_entry_eq]
  rw [aL_args] at hl
  exact body (p, l, e, (headSpec ws rm).room, s, m, (av.map (aV ad)).toArray, below, meth, c, MQ below (va_Qv (fun (u : (Nat → Nat) × List aE) => post u.2) (aBn K ad X s.heap.size (N X)) (aA K ad X s.heap.size)) (av.map (aV ad)).toArray s rm.cells rm.slots (aA K ad X s.heap.size), K, aA K ad X s.heap.size, maxL) ad av X post
    ⟨B.exec, B.bytes, hml, hown', hts, hK, fun q h => Or.inr h, rfl, rfl, hB⟩ ⟨hst, hZ, B.notSynchronized⟩ ⟨hN, hR, fun q h => Or.inr h⟩ ⟨Or.inl rfl, rfl, B.notSynchronized⟩ B.returns hT s.heap [] _ hP hD va_S.rf hl
theorem nMr_of {y : MethodName} {cc : ByteArray} {maxL : Nat} {ws ws' : List Cond} {rm : Room} {own : String} {rt : FieldType} {N : List aE → Nat} {T : aTr} (hy : plainName y.cls = true) (hown : y.cls = own) (hw : ws = Cond.code y cc maxL (some rt) :: ws') (hlen : ∀ av X post, T av X post → al av ≤ maxL)
    (body : ∀ (Γ : aΓ) (ad : Nat → Nat) (av : List Value) (X : List aE) (post : Nat → List aE → Prop), FOK Γ cc ws own maxL rm → FOX Γ → FON ad Γ → isQ Γ (va_Qr (fun (u : Nat × ((Nat → Nat) × List aE)) => post u.1 u.2.2) (fun u a t => a = u.2.1 u.1 ∧ aBn (gK Γ) ad X (hsz Γ) (N X) u.2 t) (aA (gK Γ) ad X (hsz Γ))) rm ad X → rTy Γ = some rt → T av X post → FG Γ 0 ad 0 0 (lv_args 0 av) [] X) : nMr y ws rm N T := by
  intro l hst K ad sz av X post hT
  refine Met.ofW (cc := cc) (maxL := maxL) (ret := some rt) hy hw ?_
  intro p e s m args below meth c s₁ B hml hv
  obtain ⟨⟨⟨hargs, hsz, hP, hK, hD0, hB⟩, hZ⟩, hN, hR⟩ := hv
  subst hargs
  subst hsz
  have hts := atoms_spec (ws := ws) B.pre
  have hown' : s.vm.findClass own = some m.cls := hown ▸ findClass_of_methodNamed B.named
  have hD := hD0.self (sz := s.heap.size)
  have hl := lv_entry (av.map (aV ad)) (n := maxL) (by rw [al_sl]; exact hlen av X post hT)
  rw [lg_entry_eq]
  rw [aL_args] at hl
  exact body (p, l, e, (headSpec ws rm).room, s, m, (av.map (aV ad)).toArray, below, meth, c, MQ below (va_Qr (fun (u : Nat × ((Nat → Nat) × List aE)) => post u.1 u.2.2) (fun u a t => a = u.2.1 u.1 ∧ aBn K ad X s.heap.size (N X) u.2 t) (aA K ad X s.heap.size)) (av.map (aV ad)).toArray s rm.cells rm.slots (aA K ad X s.heap.size), K, aA K ad X s.heap.size, maxL) ad av X post
    ⟨B.exec, B.bytes, hml, hown', hts, hK, fun q h => Or.inr h, rfl, rfl, hB⟩ ⟨hst, hZ, B.notSynchronized⟩ ⟨hN, hR, fun q h => Or.inr h⟩ ⟨Or.inl rfl, rfl, B.notSynchronized⟩ B.returns hT s.heap [] _ hP hD va_S.rf hl
/-! the ends -/
theorem ck_of {b : Bool} {c : Prop} (hb : b = true) (h : c) : ck b c := by
  subst hb
  exact h
def oNz (post : Int32 → List aE → Prop) (ad0 : Nat → Nat) (N mc ms : Nat) : aO := fun K ad k sl ls st X => pI (fun r t => ck (List.isEmpty t) (k ≤ mc ∧ sl ≤ ms ∧ (r = 0 ∨ r = 1) ∧ Ag N ad0 ad ∧ post r X)) st
def oNi (post : Int32 → List aE → Prop) (ad0 : Nat → Nat) (N mc ms : Nat) : aO := fun K ad k sl ls st X => pI (fun r t => ck (List.isEmpty t) (k ≤ mc ∧ sl ≤ ms ∧ Ag N ad0 ad ∧ post r X)) st
def oNv (post : List aE → Prop) (ad0 : Nat → Nat) (N mc ms : Nat) : aO := fun K ad k sl ls st X => ck (List.isEmpty st) (k ≤ mc ∧ sl ≤ ms ∧ Ag N ad0 ad ∧ post X)
def oNr (post : Nat → List aE → Prop) (ad0 : Nat → Nat) (N mc ms : Nat) : aO := fun K ad k sl ls st X => pR (fun q t => ck (List.isEmpty t) (k ≤ mc ∧ sl ≤ ms ∧ Ag N ad0 ad ∧ post q X)) st
section NENDS
variable {Γ : aΓ} {cc : ByteArray} {Ts : List Cond} {own : String} {nL : Nat} {rm : Room} {pc : Nat} {ad0 : Nat → Nat} {X0 : List aE} {N : Nat}
theorem snd_Nz {post : Int32 → List aE → Prop} (C : FOK Γ cc Ts own nL rm) (hQ : isQ Γ (va_Qi (fun r (u : (Nat → Nat) × List aE) => post r u.2) (aBn (gK Γ) ad0 X0 (hsz Γ) N) (aA (gK Γ) ad0 X0 (hsz Γ))) rm ad0 X0) (hr : rTy Γ = some .boolean) (d : decode cc pc = .ok (.ireturn, 1)) : Snd Γ pc (oNz post ad0 N rm.cells rm.slots) := by
  obtain ⟨p, l, e, R, s, m, args, below, meth, c, Q, G, A, nL'⟩ := Γ
  obtain ⟨hx, hb, hml, hown, hts, hK, hA, rfl, rfl, hB⟩ := C
  intro K hK' ad k sl ls st X ho
  dsimp only [oNz] at ho
  obtain ⟨r, t, rfl, h6⟩ := pI_spec ho
  obtain ⟨h4, hc, hsl, hz, had, hpost⟩ := ck_spec h6
  have h5 := List.isEmpty_iff.mp h4
  subst h5
  obtain ⟨hQ, hAe, hlocks⟩ := hQ
  subst hAe
  intro H locs la hP hD hS hl
  have key : W p l e R s m args below meth c H locs k sl (MQ below (va_Qi (fun r (u : (Nat → Nat) × List aE) => post r u.2) (aBn G ad0 X0 s.heap.size N) (aA G ad0 X0 s.heap.size)) args s R.cells R.slots (aA G ad0 X0 s.heap.size)) (F0 m pc la (List.map (aV ad) [.int r])) := by
    refine W.widen (k := R.cells) (n := R.slots) hc hsl ?_
    exact W.zret hx hb hr (by rcases hz with rfl | rfl <;> decide) (fun t ht hW => ⟨⟨r, (ad, X), rfl, hpost, had, by rw [ht]; exact hP, hD⟩, hS.F ht⟩) hS.2.2 d hlocks
  rcases hQ with hQ | ⟨XC, hQ⟩
  · exact hQ ▸ key
  · exact hQ ▸ vx_ret key
theorem snd_Ni {post : Int32 → List aE → Prop} (C : FOK Γ cc Ts own nL rm) (hQ : isQ Γ (va_Qi (fun r (u : (Nat → Nat) × List aE) => post r u.2) (aBn (gK Γ) ad0 X0 (hsz Γ) N) (aA (gK Γ) ad0 X0 (hsz Γ))) rm ad0 X0) (hr : rTy Γ = some .int) (d : decode cc pc = .ok (.ireturn, 1)) : Snd Γ pc (oNi post ad0 N rm.cells rm.slots) := by
  obtain ⟨p, l, e, R, s, m, args, below, meth, c, Q, G, A, nL'⟩ := Γ
  obtain ⟨hx, hb, hml, hown, hts, hK, hA, rfl, rfl, hB⟩ := C
  intro K hK' ad k sl ls st X ho
  dsimp only [oNi] at ho
  obtain ⟨r, t, rfl, h6⟩ := pI_spec ho
  obtain ⟨h4, hc, hsl, had, hpost⟩ := ck_spec h6
  have h5 := List.isEmpty_iff.mp h4
  subst h5
  obtain ⟨hQ, hAe, hlocks⟩ := hQ
  subst hAe
  intro H locs la hP hD hS hl
  have key : W p l e R s m args below meth c H locs k sl (MQ below (va_Qi (fun r (u : (Nat → Nat) × List aE) => post r u.2) (aBn G ad0 X0 s.heap.size N) (aA G ad0 X0 s.heap.size)) args s R.cells R.slots (aA G ad0 X0 s.heap.size)) (F0 m pc la (List.map (aV ad) [.int r])) := by
    refine W.widen (k := R.cells) (n := R.slots) hc hsl ?_
    exact W.iret hx hb hr (fun t ht hW => ⟨⟨r, (ad, X), rfl, hpost, had, by rw [ht]; exact hP, hD⟩, hS.F ht⟩) hS.2.2 d hlocks
  rcases hQ with hQ | ⟨XC, hQ⟩
  · exact hQ ▸ key
  · exact hQ ▸ vx_ret key
theorem snd_Nv {post : List aE → Prop} (C : FOK Γ cc Ts own nL rm) (hQ : isQ Γ (va_Qv (fun (u : (Nat → Nat) × List aE) => post u.2) (aBn (gK Γ) ad0 X0 (hsz Γ) N) (aA (gK Γ) ad0 X0 (hsz Γ))) rm ad0 X0) (hr : rTy Γ = none) (d : decode cc pc = .ok (.return_, 1)) : Snd Γ pc (oNv post ad0 N rm.cells rm.slots) := by
  obtain ⟨p, l, e, R, s, m, args, below, meth, c, Q, G, A, nL'⟩ := Γ
  obtain ⟨hx, hb, hml, hown, hts, hK, hA, rfl, rfl, hB⟩ := C
  intro K hK' ad k sl ls st X ho
  dsimp only [oNv] at ho
  obtain ⟨h4, hc, hsl, had, hpost⟩ := ck_spec ho
  have h5 := List.isEmpty_iff.mp h4
  subst h5
  obtain ⟨hQ, hAe, hlocks⟩ := hQ
  subst hAe
  intro H locs la hP hD hS hl
  have key : W p l e R s m args below meth c H locs k sl (MQ below (va_Qv (fun (u : (Nat → Nat) × List aE) => post u.2) (aBn G ad0 X0 s.heap.size N) (aA G ad0 X0 s.heap.size)) args s R.cells R.slots (aA G ad0 X0 s.heap.size)) (F0 m pc la (List.map (aV ad) [])) := by
    refine W.widen (k := R.cells) (n := R.slots) hc hsl ?_
    exact W.vret hx hb hr (fun t ht hW => ⟨⟨(ad, X), rfl, hpost, had, by rw [ht]; exact hP, hD⟩, hS.F ht⟩) hS.2.2 d hlocks
  rcases hQ with hQ | ⟨XC, hQ⟩
  · exact hQ ▸ key
  · exact hQ ▸ vx_ret key
theorem snd_Nr {post : Nat → List aE → Prop} {rt : FieldType} (C : FOK Γ cc Ts own nL rm) (hQ : isQ Γ (va_Qr (fun (u : Nat × ((Nat → Nat) × List aE)) => post u.1 u.2.2) (fun u a t => a = u.2.1 u.1 ∧ aBn (gK Γ) ad0 X0 (hsz Γ) N u.2 t) (aA (gK Γ) ad0 X0 (hsz Γ))) rm ad0 X0) (hr : rTy Γ = some rt) (hrt : (∃ n, rt = .object n) ∨ ∃ t, rt = .array t) (d : decode cc pc = .ok (.areturn, 1)) : Snd Γ pc (oNr post ad0 N rm.cells rm.slots) := by
  obtain ⟨p, l, e, R, s, m, args, below, meth, c, Q, G, A, nL'⟩ := Γ
  obtain ⟨hx, hb, hml, hown, hts, hK, hA, rfl, rfl, hB⟩ := C
  intro K hK' ad k sl ls st X ho
  dsimp only [oNr] at ho
  obtain ⟨r, t, rfl, h6⟩ := pR_spec ho
  obtain ⟨h4, hc, hsl, had, hpost⟩ := ck_spec h6
  have h5 := List.isEmpty_iff.mp h4
  subst h5
  obtain ⟨hQ, hAe, hlocks⟩ := hQ
  subst hAe
  intro H locs la hP hD hS hl
  have key : W p l e R s m args below meth c H locs k sl (MQ below (va_Qr (fun (u : Nat × ((Nat → Nat) × List aE)) => post u.1 u.2.2) (fun u a t => a = u.2.1 u.1 ∧ aBn G ad0 X0 s.heap.size N u.2 t) (aA G ad0 X0 s.heap.size)) args s R.cells R.slots (aA G ad0 X0 s.heap.size)) (F0 m pc la (List.map (aV ad) [.ref r])) := by
    refine W.widen (k := R.cells) (n := R.slots) hc hsl ?_
    exact W.aret hx hb hr hrt (Or.inr ⟨_, rfl⟩) (fun t ht hW => ⟨⟨(r, (ad, X)), ad r, rfl, hpost, rfl, had, by rw [ht]; exact hP, hD⟩, hS.F ht⟩) hS.2.2 d hlocks
  rcases hQ with hQ | ⟨XC, hQ⟩
  · exact hQ ▸ key
  · exact hQ ▸ vx_ret key
end NENDS
