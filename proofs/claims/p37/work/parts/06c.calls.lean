/-! ===== contracts over the abstract machine; calls; ends ===== -/
/-- the world's picture at the end -/
abbrev aP (K : aG) (ad : Nat → Nat) (X : List aE) (H : Heap) : Prop := va_P K.1 vwCl (aX K ad 0 X) H
def aPc (K : aG) (ad : Nat → Nat) (av : List Value) (X : List aE) (sz : Nat) : Array Value → State → Prop :=
  va_Pc (av.map (aV ad)) (fun U => U.heap.size = sz ∧ aP K ad X U.heap ∧ va_K K.1 vwCl (aT K) U ∧ va_D (fun _ => True) (aX K ad 0 X) ∧ aB U)
abbrev aA (K : aG) (ad : Nat → Nat) (X : List aE) (sz : Nat) : Nat → Prop := va_A (aX K ad 0 X) sz
def aBk (K : aG) (ad : Nat → Nat) (X : List aE) (sz : Nat) : List aE → State → Prop := fun X2 t => aP K ad X2 t.heap ∧ va_D (aA K ad X sz) (aX K ad 0 X2)
/-- predicate transformers of callees: by the kind of answer -/
abbrev aTi : Type := List Value → List aE → (Int32 → List aE → Prop) → Prop
abbrev aTl : Type := List Value → List aE → (Int64 → List aE → Prop) → Prop
abbrev aTd : Type := List Value → List aE → (UInt64 → List aE → Prop) → Prop
abbrev aTv : Type := List Value → List aE → (List aE → Prop) → Prop
def aMi (y : MethodName) (ws : List Cond) (rm : Room) (T : aTi) : Prop := ∀ (l : Launch) (K : aG) (ad : Nat → Nat) (sz : Nat) (av : List Value) (X : List aE) (post : Int32 → List aE → Prop), T av X post →
  Met l y ws rm (aPc K ad av X sz) (va_Qi post (aBk K ad X sz) (aA K ad X sz)) rm.cells rm.slots (aA K ad X sz)
def aMl (y : MethodName) (ws : List Cond) (rm : Room) (T : aTl) : Prop := ∀ (l : Launch) (K : aG) (ad : Nat → Nat) (sz : Nat) (av : List Value) (X : List aE) (post : Int64 → List aE → Prop), T av X post →
  Met l y ws rm (aPc K ad av X sz) (va_Ql post (aBk K ad X sz) (aA K ad X sz)) rm.cells rm.slots (aA K ad X sz)
def aMd (y : MethodName) (ws : List Cond) (rm : Room) (T : aTd) : Prop := ∀ (l : Launch) (K : aG) (ad : Nat → Nat) (sz : Nat) (av : List Value) (X : List aE) (post : UInt64 → List aE → Prop), T av X post →
  Met l y ws rm (aPc K ad av X sz) (va_Qd post (aBk K ad X sz) (aA K ad X sz)) rm.cells rm.slots (aA K ad X sz)
def aMv (y : MethodName) (ws : List Cond) (rm : Room) (T : aTv) : Prop := ∀ (l : Launch) (K : aG) (ad : Nat → Nat) (sz : Nat) (av : List Value) (X : List aE) (post : List aE → Prop), T av X post →
  Met l y ws rm (aPc K ad av X sz) (va_Qv post (aBk K ad X sz) (aA K ad X sz)) rm.cells rm.slots (aA K ad X sz)
theorem aPc_blind (K : aG) (ad : Nat → Nat) (av : List Value) (X : List aE) (sz : Nat) : FrameBlind (aPc K ad av X sz) := fun a U g mk q => by
  obtain ⟨q0, q1, q2, q3, q4, q5⟩ := q
  exact ⟨q0, q1, q2, va_K.moved (u := U) (U := U.calling g mk a) (Vm.Alike.refl U.vm) q3, q4, q5.same rfl⟩
theorem aPc_at {K : aG} {ad : Nat → Nat} {av : List Value} {X : List aE} {s U : State} {H : Heap} {A : Nat → Prop} (hP : aP K ad X H) (hK : va_K K.1 vwCl (aT K) s) (hD : va_D A (aX K ad 0 X)) (hB : aB s) (hU : U.heap = H) (hW : s.WarmedH U.vm) : aPc K ad av X H.size (av.map (aV ad)).toArray U :=
  ⟨rfl, by rw [hU], by rw [hU]; exact hP, va_K.moved hW.alike hK, hD.weaken (fun _ _ _ _ => trivial), hB.warm hW⟩
/-- a callee's cells are the caller's -/
theorem aA_free {K : aG} {ad : Nat → Nat} {X : List aE} {A : Nat → Prop} {H0 H : Heap} {locs : List Loc} (hD : va_D A (aX K ad 0 X)) (hS : va_S A H0 H locs) (hA : ∀ q, H0.size ≤ q → A q) : ∀ q, aA K ad X H.size q → A q := by
  intro q h
  rcases h with ⟨k, e, h⟩ | h
  · exact hD.2 k (q, e) h
  · exact hA q (Nat.le_trans hS.1 h)
/-- what a call site is: whatever runs it may rely on -/
def aSite (Γ : aΓ) (pc n : Nat) (ro : Option Nat) (mc ms : Nat) (y : MethodName) (ws : List Cond) (rm : Room) : Prop :=
  match Γ with
  | (p, l, e, R, s, m, args, below, meth, c, Q, K, A, nL) => ∀ (Pc : Array Value → State → Prop) (Qc : Array Value → State → Outcome → State → Prop) (free : Addr → Prop) (H : Heap) (locs : List Loc) (k sl : Nat) (la : Array Slot) (av rest : List Value),
    Met l y ws rm Pc Qc mc ms free → FrameBlind Pc → (∀ U : State, U.heap = H → s.WarmedH U.vm → Pc av.toArray U) → av.length = n → la.size = nL → (rest.map fun v => v.category).sum ≤ 8 → k + mc ≤ R.cells ∧ sl + ms ≤ R.slots →
    (∀ ci, ro = some ci → ∃ (b : Nat) (As : List Value) (cellB : Cell) (q : vw_C), av = .ref b :: As ∧ vwCl[ci]? = some q ∧ H[b]? = some cellB ∧ cellB.vm.isStatics = false ∧ s.vm.findClass q.1 = some cellB.cls) →
    va_Run p l e R s m args below meth c H locs k sl mc ms (F0 m pc la (av.reverse ++ rest)) rest (Qc av.toArray) free
section SITES
variable {Γ : aΓ} {cc : ByteArray} {Ts : List Cond} {own : String} {nL : Nat} {rm : Room} {pc : Nat}
variable {y : MethodName} {ws ws' : List Cond} {rm' : Room} {bytes : ByteArray} {maxL : Nat} {ret : Option FieldType} {index mc ms n : Nat}
/-- an ordinary call of a method of the class Cn on an object -/
theorem site_V (C : FOK Γ cc Ts own nL rm) {Cn : String} {ci : Nat} {T : u_T} {N : Nat} (hc : vwCl[ci]? = some (Cn, T, N)) (d : decode cc pc = .ok (.invokevirtual index, 3)) (hg : GoodIn Ts (wsV own index Cn y ws)) (hw : ws = Cond.code y bytes maxL ret :: ws') (hrc : rm'.cells = mc) (hrs : rm'.slots = ms)
    (hd : y.cls = Cn ∧ y.cls ≠ "java/lang/invoke/MethodHandle" ∧ y.cls ≠ "java/lang/invoke/VarHandle" ∧ (parseMethodDescriptor y.desc).map (fun d => d.parameters.length) = some n) (hR : rm'.frames + 1 ≤ rm.frames ∧ 8 + (maxL + 11) + rm'.locals ≤ rm.locals) : aSite Γ pc (n + 1) (some ci) mc ms y ws rm' := by
  obtain ⟨p, l, e, R, s, m, args, below, meth, c, Q, G, A, nL'⟩ := Γ
  obtain ⟨hx, hb, hml, hown, hts, hK, hA, rfl, rfl, hB⟩ := C
  intro Pc Qc free H locs k sl la av rest hM hbl hpc hn hsz hcat hf hro
  obtain ⟨b, As, cellB, q, rfl, hq, h1, h2, h3⟩ := hro ci rfl
  cases hc.symm.trans hq
  have hr := va_runV (As := As) (rest := rest) (g := F0 m pc la ((Value.ref b :: As).reverse ++ rest)) (e := e) (meth := meth) (below := below) (locs := locs) ⟨hx, hb, hml, hown, hts⟩ hM (cwV n hts hg hw hrc hrs hd hR) ⟨hbl, ⟨cellB, h1, h2, h3⟩, hpc⟩ rfl (by simpa using hn) hsz (by simp) (lv_room hcat) d hf
  exact hr
/-- of a private method of a nest mate -/
theorem site_VN (C : FOK Γ cc Ts own nL rm) {Cn : String} {ci : Nat} {T : u_T} {N : Nat} (hc : vwCl[ci]? = some (Cn, T, N)) (d : decode cc pc = .ok (.invokevirtual index, 3)) (hg : GoodIn Ts ws) (hw : ws = Cond.code y bytes maxL ret :: ws') (hrc : rm'.cells = mc) (hrs : rm'.slots = ms) (hN : (own, index, y) ∈ aNm) (hi : Cond.initialized y.cls ∈ Ts) (him : Cond.instanceMethod y ∈ Ts) (hse : Cond.selects Cn y y ∈ Ts)
    (hd : y.cls ≠ "java/lang/invoke/MethodHandle" ∧ y.cls ≠ "java/lang/invoke/VarHandle" ∧ (parseMethodDescriptor y.desc).map (fun d => d.parameters.length) = some n) (hR : rm'.frames + 1 ≤ rm.frames ∧ 8 + (maxL + 11) + rm'.locals ≤ rm.locals) : aSite Γ pc (n + 1) (some ci) mc ms y ws rm' := by
  obtain ⟨p, l, e, R, s, m, args, below, meth, c, Q, G, A, nL'⟩ := Γ
  obtain ⟨hx, hb, hml, hown, hts, hK, hA, rfl, rfl, hB⟩ := C
  intro Pc Qc free H locs k sl la av rest hM hbl hpc hn hsz hcat hf hro
  obtain ⟨b, As, cellB, q, rfl, hq, h1, h2, h3⟩ := hro ci rfl
  cases hc.symm.trans hq
  have hr := va_runVN (As := As) (rest := rest) (g := F0 m pc la ((Value.ref b :: As).reverse ++ rest)) (e := e) (meth := meth) (below := below) (locs := locs) (host := "PaintedDie") ⟨hx, hb, hml, hown, hts⟩ hM ⟨va_cnB n hts hg hw hrc hrs (hB.1.2 _ hN) (hts _ hi) hd hR, hts _ him, hts _ hse⟩ ⟨hbl, ⟨cellB, h1, h2, h3⟩, hpc⟩ rfl (by simpa using hn) hsz (by simp) (lv_room hcat) d hf
  exact hr
/-- a static one -/
theorem site_S (C : FOK Γ cc Ts own nL rm) (d : decode cc pc = .ok (.invokestatic index, 3)) (hg : GoodIn Ts (va_wsS own index y ws)) (hw : ws = Cond.code y bytes maxL ret :: ws') (hrc : rm'.cells = mc) (hrs : rm'.slots = ms)
    (hd : y.cls ≠ "java/lang/invoke/MethodHandle" ∧ y.cls ≠ "java/lang/invoke/VarHandle" ∧ (parseMethodDescriptor y.desc).map (fun d => d.parameters.length) = some n) (hR : rm'.frames + 1 ≤ rm.frames ∧ 8 + (maxL + 11) + rm'.locals ≤ rm.locals) : aSite Γ pc n none mc ms y ws rm' := by
  obtain ⟨p, l, e, R, s, m, args, below, meth, c, Q, G, A, nL'⟩ := Γ
  obtain ⟨hx, hb, hml, hown, hts, hK, hA, rfl, rfl, hB⟩ := C
  intro Pc Qc free H locs k sl la av rest hM hbl hpc hn hsz hcat hf hro
  exact va_runS (As := av) (rest := rest) ⟨hx, hb, hml, hown, hts⟩ hM (va_cwS n hts hg hw hrc hrs hd hR) ⟨hbl, hpc⟩ rfl hn hsz rfl (lv_room hcat) d hf
theorem site_SN (C : FOK Γ cc Ts own nL rm) (d : decode cc pc = .ok (.invokestatic index, 3)) (hg : GoodIn Ts ws) (hw : ws = Cond.code y bytes maxL ret :: ws') (hrc : rm'.cells = mc) (hrs : rm'.slots = ms) (hN : (own, index, y) ∈ aNm) (hi : Cond.initialized y.cls ∈ Ts) (hst : Cond.static y ∈ Ts)
    (hd : y.cls ≠ "java/lang/invoke/MethodHandle" ∧ y.cls ≠ "java/lang/invoke/VarHandle" ∧ (parseMethodDescriptor y.desc).map (fun d => d.parameters.length) = some n) (hR : rm'.frames + 1 ≤ rm.frames ∧ 8 + (maxL + 11) + rm'.locals ≤ rm.locals) : aSite Γ pc n none mc ms y ws rm' := by
  obtain ⟨p, l, e, R, s, m, args, below, meth, c, Q, G, A, nL'⟩ := Γ
  obtain ⟨hx, hb, hml, hown, hts, hK, hA, rfl, rfl, hB⟩ := C
  intro Pc Qc free H locs k sl la av rest hM hbl hpc hn hsz hcat hf hro
  exact va_runSN (As := av) (rest := rest) (host := "PaintedDie") ⟨hx, hb, hml, hown, hts⟩ hM ⟨va_cnB n hts hg hw hrc hrs (hB.1.2 _ hN) (hts _ hi) hd hR, hts _ hst, trivial⟩ ⟨hbl, hpc⟩ rfl hn hsz rfl (lv_room hcat) d hf
end SITES
/-- n values off the stack, the lowest first -/
def tk : Nat → List Value → (List Value → List Value → Prop) → List Value → Prop
  | 0, acc, c, st => c acc st
  | n + 1, acc, c, v :: t => tk n (v :: acc) c t
  | _ + 1, _, _, [] => False
theorem tk_spec : ∀ {n : Nat} {acc : List Value} {c : List Value → List Value → Prop} {st : List Value}, tk n acc c st → ∃ av t, st = av.reverse ++ t ∧ av.length = n ∧ c (av ++ acc) t
  | 0, acc, c, st, h => ⟨[], st, rfl, rfl, h⟩
  | n + 1, acc, c, v :: t, h => by
    obtain ⟨av, t2, rfl, hl, h2⟩ := tk_spec (n := n) (acc := v :: acc) (c := c) (st := t) h
    refine ⟨av ++ [v], t2, by simp, by simp [hl], by simpa using h2⟩
  | _ + 1, _, _, [], h => h.elim
def le4 : List Value → Bool
  | [] => true
  | [_] => true
  | [_, _] => true
  | [_, _, _] => true
  | [_, _, _, _] => true
  | _ => false
theorem cat_le (v : Value) : v.category ≤ 2 := by cases v <;> simp [Value.category]
theorem le4_spec (ad : Nat → Nat) {t : List Value} (h : le4 t = true) : ((t.map (aV ad)).map fun v => v.category).sum ≤ 8 := by
  unfold le4 at h
  split at h
  · simp
  · next a => have := cat_le (aV ad a); simp; omega
  · next a b => have := cat_le (aV ad a); have := cat_le (aV ad b); simp; omega
  · next a b c => have := cat_le (aV ad a); have := cat_le (aV ad b); have := cat_le (aV ad c); simp; omega
  · next a b c d => have := cat_le (aV ad a); have := cat_le (aV ad b); have := cat_le (aV ad c); have := cat_le (aV ad d); simp; omega
  · cases h
/-- the receiver is an object of the class -/
def rcv (ro : Option Nat) (X : List aE) (c : Prop) : List Value → Prop := fun av => match ro with
  | none => c
  | some ci => pR (fun q _ => gx q (eO ci fun _ => c) X) av
theorem rcv_spec {ro : Option Nat} {X : List aE} {c : Prop} {av : List Value} (h : rcv ro X c av) : c ∧ ∀ ci, ro = some ci → ∃ q As fs, av = .ref q :: As ∧ X[q]? = some (.inr (.inl (ci, fs))) := by
  cases ro with
  | none => exact ⟨h, fun ci hc => by cases hc⟩
  | some ci =>
    obtain ⟨q, As, rfl, h7⟩ := pR_spec h
    obtain ⟨e0, h1, h8⟩ := gx_spec h7
    obtain ⟨fs, rfl, h9⟩ := eO_spec h8
    exact ⟨h9, fun ci' hc => by cases hc; exact ⟨q, As, fs, rfl, h1⟩⟩
def oCi (T : aTi) (n : Nat) (ro : Option Nat) (mc ms RC RS nx : Nat) : aO := fun K ad k sl ls st X => tk n [] (fun av t => rcv ro X (ck (le4 t) (ck (Nat.ble (k + mc) RC) (ck (Nat.ble (sl + ms) RS) (T av X (fun r X2 => K nx ad (k + mc) (sl + ms) ls (.int r :: t) X2))))) av) st
def oCl (T : aTl) (n : Nat) (ro : Option Nat) (mc ms RC RS nx : Nat) : aO := fun K ad k sl ls st X => tk n [] (fun av t => rcv ro X (ck (le4 t) (ck (Nat.ble (k + mc) RC) (ck (Nat.ble (sl + ms) RS) (T av X (fun r X2 => K nx ad (k + mc) (sl + ms) ls (.long r :: t) X2))))) av) st
def oCd (T : aTd) (n : Nat) (ro : Option Nat) (mc ms RC RS nx : Nat) : aO := fun K ad k sl ls st X => tk n [] (fun av t => rcv ro X (ck (le4 t) (ck (Nat.ble (k + mc) RC) (ck (Nat.ble (sl + ms) RS) (T av X (fun r X2 => K nx ad (k + mc) (sl + ms) ls (.double r :: t) X2))))) av) st
def oCv (T : aTv) (n : Nat) (ro : Option Nat) (mc ms RC RS nx : Nat) : aO := fun K ad k sl ls st X => tk n [] (fun av t => rcv ro X (ck (le4 t) (ck (Nat.ble (k + mc) RC) (ck (Nat.ble (sl + ms) RS) (T av X (fun X2 => K nx ad (k + mc) (sl + ms) ls t X2))))) av) st
section CALLS
variable {Γ : aΓ} {cc : ByteArray} {Ts : List Cond} {own : String} {nL : Nat} {rm : Room} {pc : Nat} {y : MethodName} {ws : List Cond} {rm' : Room} {n : Nat} {ro : Option Nat}
theorem snd_Ci {T : aTi} (C : FOK Γ cc Ts own nL rm) (hs : aSite Γ pc n ro rm'.cells rm'.slots y ws rm') (hM : aMi y ws rm' T) : Snd Γ pc (oCi T n ro rm'.cells rm'.slots rm.cells rm.slots (pc + 3)) := by
  obtain ⟨p, l, e, R, s, m, args, below, meth, c, Q, G, A, nL'⟩ := Γ
  obtain ⟨hx, hb, hml, hown, hts, hK, hA, rfl, rfl, hB⟩ := C
  intro K hK' ad k sl ls st X ho
  dsimp only [oCi] at ho
  obtain ⟨av, t, rfl, hn, h⟩ := tk_spec ho
  rw [List.append_nil] at h
  obtain ⟨h, hro⟩ := rcv_spec h
  obtain ⟨h4, h⟩ := ck_spec h
  obtain ⟨hc, h⟩ := ck_spec h
  obtain ⟨hsl, h⟩ := ck_spec h
  intro H locs la hP hD hS hl
  have hF := aA_free hD hS hA
  have hrun := hs _ _ _ H locs k sl la (av.map (aV ad)) (t.map (aV ad)) (hM l G ad H.size av X _ h) (aPc_blind _ _ _ _ _) (fun U hU hW => aPc_at hP hK hD hB hU hW) (by rw [List.length_map]; exact hn) hl.1 (le4_spec ad h4) ⟨Nat.le_of_ble_eq_true hc, Nat.le_of_ble_eq_true hsl⟩ (fun ci hci => by
    obtain ⟨q, As, fs, rfl, hq⟩ := hro ci hci
    have hq2 := aX_get G ad X 0 q _ hq
    rw [Nat.zero_add] at hq2
    obtain ⟨qc, h1, -⟩ := hP q _ hq2
    obtain ⟨cellB, g1, g2, g3⟩ := va_recv hK hP h1 hq2
    exact ⟨ad q, As.map (aV ad), cellB, qc, rfl, h1, g1, g2, g3⟩)
  have hst : List.map (aV ad) (av.reverse ++ t) = (av.map (aV ad)).reverse ++ t.map (aV ad) := by rw [List.map_append, List.map_reverse]
  rw [hst]
  refine va_calli hrun hS (fun q _ h9 => hF q h9) hF (fun r u t1 H1 locs1 ht hvm hpost hBk hz hk hS1 => ?_)
  obtain ⟨hP1, hD1⟩ := hBk
  rw [ht] at hP1
  exact hK' _ _ _ _ _ _ _ hpost H1 locs1 la hP1 (hD1.weaken (fun _ _ _ h9 => hF _ h9)) hS1 hl
theorem snd_Cl {T : aTl} (C : FOK Γ cc Ts own nL rm) (hs : aSite Γ pc n ro rm'.cells rm'.slots y ws rm') (hM : aMl y ws rm' T) : Snd Γ pc (oCl T n ro rm'.cells rm'.slots rm.cells rm.slots (pc + 3)) := by
  obtain ⟨p, l, e, R, s, m, args, below, meth, c, Q, G, A, nL'⟩ := Γ
  obtain ⟨hx, hb, hml, hown, hts, hK, hA, rfl, rfl, hB⟩ := C
  intro K hK' ad k sl ls st X ho
  dsimp only [oCl] at ho
  obtain ⟨av, t, rfl, hn, h⟩ := tk_spec ho
  rw [List.append_nil] at h
  obtain ⟨h, hro⟩ := rcv_spec h
  obtain ⟨h4, h⟩ := ck_spec h
  obtain ⟨hc, h⟩ := ck_spec h
  obtain ⟨hsl, h⟩ := ck_spec h
  intro H locs la hP hD hS hl
  have hF := aA_free hD hS hA
  have hrun := hs _ _ _ H locs k sl la (av.map (aV ad)) (t.map (aV ad)) (hM l G ad H.size av X _ h) (aPc_blind _ _ _ _ _) (fun U hU hW => aPc_at hP hK hD hB hU hW) (by rw [List.length_map]; exact hn) hl.1 (le4_spec ad h4) ⟨Nat.le_of_ble_eq_true hc, Nat.le_of_ble_eq_true hsl⟩ (fun ci hci => by
    obtain ⟨q, As, fs, rfl, hq⟩ := hro ci hci
    have hq2 := aX_get G ad X 0 q _ hq
    rw [Nat.zero_add] at hq2
    obtain ⟨qc, h1, -⟩ := hP q _ hq2
    obtain ⟨cellB, g1, g2, g3⟩ := va_recv hK hP h1 hq2
    exact ⟨ad q, As.map (aV ad), cellB, qc, rfl, h1, g1, g2, g3⟩)
  have hst : List.map (aV ad) (av.reverse ++ t) = (av.map (aV ad)).reverse ++ t.map (aV ad) := by rw [List.map_append, List.map_reverse]
  rw [hst]
  refine va_calll hrun hS (fun q _ h9 => hF q h9) hF (fun r u t1 H1 locs1 ht hvm hpost hBk hz hk hS1 => ?_)
  obtain ⟨hP1, hD1⟩ := hBk
  rw [ht] at hP1
  exact hK' _ _ _ _ _ _ _ hpost H1 locs1 la hP1 (hD1.weaken (fun _ _ _ h9 => hF _ h9)) hS1 hl
theorem snd_Cd {T : aTd} (C : FOK Γ cc Ts own nL rm) (hs : aSite Γ pc n ro rm'.cells rm'.slots y ws rm') (hM : aMd y ws rm' T) : Snd Γ pc (oCd T n ro rm'.cells rm'.slots rm.cells rm.slots (pc + 3)) := by
  obtain ⟨p, l, e, R, s, m, args, below, meth, c, Q, G, A, nL'⟩ := Γ
  obtain ⟨hx, hb, hml, hown, hts, hK, hA, rfl, rfl, hB⟩ := C
  intro K hK' ad k sl ls st X ho
  dsimp only [oCd] at ho
  obtain ⟨av, t, rfl, hn, h⟩ := tk_spec ho
  rw [List.append_nil] at h
  obtain ⟨h, hro⟩ := rcv_spec h
  obtain ⟨h4, h⟩ := ck_spec h
  obtain ⟨hc, h⟩ := ck_spec h
  obtain ⟨hsl, h⟩ := ck_spec h
  intro H locs la hP hD hS hl
  have hF := aA_free hD hS hA
  have hrun := hs _ _ _ H locs k sl la (av.map (aV ad)) (t.map (aV ad)) (hM l G ad H.size av X _ h) (aPc_blind _ _ _ _ _) (fun U hU hW => aPc_at hP hK hD hB hU hW) (by rw [List.length_map]; exact hn) hl.1 (le4_spec ad h4) ⟨Nat.le_of_ble_eq_true hc, Nat.le_of_ble_eq_true hsl⟩ (fun ci hci => by
    obtain ⟨q, As, fs, rfl, hq⟩ := hro ci hci
    have hq2 := aX_get G ad X 0 q _ hq
    rw [Nat.zero_add] at hq2
    obtain ⟨qc, h1, -⟩ := hP q _ hq2
    obtain ⟨cellB, g1, g2, g3⟩ := va_recv hK hP h1 hq2
    exact ⟨ad q, As.map (aV ad), cellB, qc, rfl, h1, g1, g2, g3⟩)
  have hst : List.map (aV ad) (av.reverse ++ t) = (av.map (aV ad)).reverse ++ t.map (aV ad) := by rw [List.map_append, List.map_reverse]
  rw [hst]
  refine va_calld hrun hS (fun q _ h9 => hF q h9) hF (fun r u t1 H1 locs1 ht hvm hpost hBk hz hk hS1 => ?_)
  obtain ⟨hP1, hD1⟩ := hBk
  rw [ht] at hP1
  exact hK' _ _ _ _ _ _ _ hpost H1 locs1 la hP1 (hD1.weaken (fun _ _ _ h9 => hF _ h9)) hS1 hl
theorem snd_Cv {T : aTv} (C : FOK Γ cc Ts own nL rm) (hs : aSite Γ pc n ro rm'.cells rm'.slots y ws rm') (hM : aMv y ws rm' T) : Snd Γ pc (oCv T n ro rm'.cells rm'.slots rm.cells rm.slots (pc + 3)) := by
  obtain ⟨p, l, e, R, s, m, args, below, meth, c, Q, G, A, nL'⟩ := Γ
  obtain ⟨hx, hb, hml, hown, hts, hK, hA, rfl, rfl, hB⟩ := C
  intro K hK' ad k sl ls st X ho
  dsimp only [oCv] at ho
  obtain ⟨av, t, rfl, hn, h⟩ := tk_spec ho
  rw [List.append_nil] at h
  obtain ⟨h, hro⟩ := rcv_spec h
  obtain ⟨h4, h⟩ := ck_spec h
  obtain ⟨hc, h⟩ := ck_spec h
  obtain ⟨hsl, h⟩ := ck_spec h
  intro H locs la hP hD hS hl
  have hF := aA_free hD hS hA
  have hrun := hs _ _ _ H locs k sl la (av.map (aV ad)) (t.map (aV ad)) (hM l G ad H.size av X _ h) (aPc_blind _ _ _ _ _) (fun U hU hW => aPc_at hP hK hD hB hU hW) (by rw [List.length_map]; exact hn) hl.1 (le4_spec ad h4) ⟨Nat.le_of_ble_eq_true hc, Nat.le_of_ble_eq_true hsl⟩ (fun ci hci => by
    obtain ⟨q, As, fs, rfl, hq⟩ := hro ci hci
    have hq2 := aX_get G ad X 0 q _ hq
    rw [Nat.zero_add] at hq2
    obtain ⟨qc, h1, -⟩ := hP q _ hq2
    obtain ⟨cellB, g1, g2, g3⟩ := va_recv hK hP h1 hq2
    exact ⟨ad q, As.map (aV ad), cellB, qc, rfl, h1, g1, g2, g3⟩)
  have hst : List.map (aV ad) (av.reverse ++ t) = (av.map (aV ad)).reverse ++ t.map (aV ad) := by rw [List.map_append, List.map_reverse]
  rw [hst]
  refine va_callv hrun hS (fun q _ h9 => hF q h9) hF (fun u t1 H1 locs1 ht hvm hpost hBk hz hk hS1 => ?_)
  obtain ⟨hP1, hD1⟩ := hBk
  rw [ht] at hP1
  exact hK' _ _ _ _ _ _ _ hpost H1 locs1 la hP1 (hD1.weaken (fun _ _ _ h9 => hF _ h9)) hS1 hl
end CALLS
/-! ===== methods that return or throw ===== -/
def aZ (A : Nat → Prop) (U : State) (H : Heap) : Prop := vx_Zq Bundle.tN "UNASSIGNED_STACK" Bundle.steD A U H ∧ vx_Zq Bundle.tN "SUPPRESSED_SENTINEL" Bundle.listD A U H
def aPcX (K : aG) (ad : Nat → Nat) (av : List Value) (X : List aE) (sz : Nat) : Array Value → State → Prop := fun a U => aPc K ad av X sz a U ∧ aZ (aA K ad X sz) U U.heap
abbrev aXp : Type := String → List aE → Prop
def aXC (K : aG) (ad : Nat → Nat) (X : List aE) (sz : Nat) (ex : aXp) : String → State → State → Prop := vx_X (fun u : String × List aE => ex u.1 u.2) (fun E u t => u.1 = E ∧ aBk K ad X sz u.2 t) (aA K ad X sz)
abbrev xTi : Type := List Value → List aE → (Int32 → List aE → Prop) → aXp → Prop
def xMi (y : MethodName) (ws : List Cond) (rm : Room) (T : xTi) : Prop := ∀ (l : Launch) (_ : l.stackTraces = false) (K : aG) (ad : Nat → Nat) (sz : Nat) (av : List Value) (X : List aE) (post : Int32 → List aE → Prop) (ex : aXp), T av X post ex →
  vx_Met l y ws rm (aPcX K ad av X sz) (va_Qi post (aBk K ad X sz) (aA K ad X sz)) (aXC K ad X sz ex) rm.cells rm.slots (aA K ad X sz)
abbrev xTl : Type := List Value → List aE → (Int64 → List aE → Prop) → aXp → Prop
def xMl (y : MethodName) (ws : List Cond) (rm : Room) (T : xTl) : Prop := ∀ (l : Launch) (_ : l.stackTraces = false) (K : aG) (ad : Nat → Nat) (sz : Nat) (av : List Value) (X : List aE) (post : Int64 → List aE → Prop) (ex : aXp), T av X post ex →
  vx_Met l y ws rm (aPcX K ad av X sz) (va_Ql post (aBk K ad X sz) (aA K ad X sz)) (aXC K ad X sz ex) rm.cells rm.slots (aA K ad X sz)
abbrev xTd : Type := List Value → List aE → (UInt64 → List aE → Prop) → aXp → Prop
def xMd (y : MethodName) (ws : List Cond) (rm : Room) (T : xTd) : Prop := ∀ (l : Launch) (_ : l.stackTraces = false) (K : aG) (ad : Nat → Nat) (sz : Nat) (av : List Value) (X : List aE) (post : UInt64 → List aE → Prop) (ex : aXp), T av X post ex →
  vx_Met l y ws rm (aPcX K ad av X sz) (va_Qd post (aBk K ad X sz) (aA K ad X sz)) (aXC K ad X sz ex) rm.cells rm.slots (aA K ad X sz)
abbrev xTv : Type := List Value → List aE → (List aE → Prop) → aXp → Prop
def xMv (y : MethodName) (ws : List Cond) (rm : Room) (T : xTv) : Prop := ∀ (l : Launch) (_ : l.stackTraces = false) (K : aG) (ad : Nat → Nat) (sz : Nat) (av : List Value) (X : List aE) (post : List aE → Prop) (ex : aXp), T av X post ex →
  vx_Met l y ws rm (aPcX K ad av X sz) (va_Qv post (aBk K ad X sz) (aA K ad X sz)) (aXC K ad X sz ex) rm.cells rm.slots (aA K ad X sz)
theorem aPcX_blind (K : aG) (ad : Nat → Nat) (av : List Value) (X : List aE) (sz : Nat) : FrameBlind (aPcX K ad av X sz) := fun a U g mk q =>
  ⟨aPc_blind _ _ _ _ _ a U g mk q.1, q.2.1.moved (u := U) (U := U.calling g mk a) (Vm.Alike.refl U.vm), q.2.2.moved (u := U) (U := U.calling g mk a) (Vm.Alike.refl U.vm)⟩
theorem aZ_at {A B : Nat → Prop} {s U : State} {H : Heap} {locs : List Loc} (h : aZ A s s.heap) (hS : va_S A s.heap H locs) (hAB : ∀ q, B q → A q) (hU : U.heap = H) (hW : s.WarmedH U.vm) : aZ B U U.heap := by
  rw [hU]
  exact ⟨((h.1.kept fun a h1 h2 => hS.2.1 a h1 h2).narrow hAB).moved hW.alike, ((h.2.kept fun a h1 h2 => hS.2.1 a h1 h2).narrow hAB).moved hW.alike⟩
/-- facts of a body that may throw -/
def FOX (Γ : aΓ) : Prop :=
  match Γ with
  | (p, l, e, R, s, m, args, below, meth, c, Q, K, A, nL) => l.stackTraces = false ∧ aZ A s s.heap ∧ meth.locks = false
/-- q, of class E, thrown over this body's frame -/
def FX (Γ : aΓ) (pc : Nat) (E : String) (ad : Nat → Nat) (k n : Nat) (ls : List (Nat × Value)) (X : List aE) : Prop :=
  match Γ with
  | (p, l, e, R, s, m, args, below, meth, c, Q, K, A, nL) => ∀ (H : Heap) (locs : List Loc) (la : Array Slot) (rest : List Value) (ce : Cell) (q : Nat), aP K ad X H → va_D A (aX K ad 0 X) → va_S A s.heap H locs → lv_has la nL (aL ad ls) →
    H[q]? = some ce → ce.vm = .none → s.vm.findClass E = some ce.cls → vx_W p l e R s m args below meth c H locs k n Q (F0 m pc la rest) q
abbrev aXk : Type := String → (Nat → Nat) → Nat → Nat → List (Nat × Value) → List aE → Prop
def xSite (Γ : aΓ) (pc n : Nat) (ro : Option Nat) (mc ms : Nat) (y : MethodName) (ws : List Cond) (rm : Room) : Prop :=
  match Γ with
  | (p, l, e, R, s, m, args, below, meth, c, Q, K, A, nL) => ∀ (Pc : Array Value → State → Prop) (Qc : Array Value → State → Outcome → State → Prop) (XC : String → State → State → Prop) (free : Addr → Prop) (H : Heap) (locs : List Loc) (k sl : Nat) (la : Array Slot) (av rest : List Value),
    vx_Met l y ws rm Pc Qc XC mc ms free → FrameBlind Pc → (∀ U : State, U.heap = H → s.WarmedH U.vm → Pc av.toArray U) → av.length = n → la.size = nL → (rest.map fun v => v.category).sum ≤ 8 → k + mc ≤ R.cells ∧ sl + ms ≤ R.slots →
    (∀ ci, ro = some ci → ∃ (b : Nat) (As : List Value) (cellB : Cell) (q : vw_C), av = .ref b :: As ∧ vwCl[ci]? = some q ∧ H[b]? = some cellB ∧ cellB.vm.isStatics = false ∧ s.vm.findClass q.1 = some cellB.cls) →
    vx_Run p l e R s m args below meth c H locs k sl mc ms (F0 m pc la (av.reverse ++ rest)) rest (Qc av.toArray) XC free
section XSITES
variable {Γ : aΓ} {cc : ByteArray} {Ts : List Cond} {own : String} {nL : Nat} {rm : Room} {pc : Nat}
variable {y : MethodName} {ws ws' : List Cond} {rm' : Room} {bytes : ByteArray} {maxL : Nat} {ret : Option FieldType} {index mc ms n : Nat}
theorem xsite_V (C : FOK Γ cc Ts own nL rm) {Cn : String} {ci : Nat} {T : u_T} {N : Nat} (hc : vwCl[ci]? = some (Cn, T, N)) (d : decode cc pc = .ok (.invokevirtual index, 3)) (hg : GoodIn Ts (wsV own index Cn y ws)) (hw : ws = Cond.code y bytes maxL ret :: ws') (hrc : rm'.cells = mc) (hrs : rm'.slots = ms)
    (hd : y.cls = Cn ∧ y.cls ≠ "java/lang/invoke/MethodHandle" ∧ y.cls ≠ "java/lang/invoke/VarHandle" ∧ (parseMethodDescriptor y.desc).map (fun d => d.parameters.length) = some n) (hR : rm'.frames + 1 ≤ rm.frames ∧ 8 + (maxL + 11) + rm'.locals ≤ rm.locals) : xSite Γ pc (n + 1) (some ci) mc ms y ws rm' := by
  obtain ⟨p, l, e, R, s, m, args, below, meth, c, Q, G, A, nL'⟩ := Γ
  obtain ⟨hx, hb, hml, hown, hts, hK, hA, rfl, rfl, hB⟩ := C
  intro Pc Qc XC free H locs k sl la av rest hM hbl hpc hn hsz hcat hf hro
  obtain ⟨b, As, cellB, q, rfl, hq, h1, h2, h3⟩ := hro ci rfl
  cases hc.symm.trans hq
  have hr := vx_runV (As := As) (rest := rest) (g := F0 m pc la ((Value.ref b :: As).reverse ++ rest)) (e := e) (meth := meth) (below := below) (locs := locs) ⟨hx, hb, hml, hown, hts⟩ hM (cwV n hts hg hw hrc hrs hd hR) ⟨hbl, ⟨cellB, h1, h2, h3⟩, hpc⟩ rfl (by simpa using hn) hsz (by simp) (lv_room hcat) d hf
  exact hr
theorem xsite_S (C : FOK Γ cc Ts own nL rm) (d : decode cc pc = .ok (.invokestatic index, 3)) (hg : GoodIn Ts (va_wsS own index y ws)) (hw : ws = Cond.code y bytes maxL ret :: ws') (hrc : rm'.cells = mc) (hrs : rm'.slots = ms)
    (hd : y.cls ≠ "java/lang/invoke/MethodHandle" ∧ y.cls ≠ "java/lang/invoke/VarHandle" ∧ (parseMethodDescriptor y.desc).map (fun d => d.parameters.length) = some n) (hR : rm'.frames + 1 ≤ rm.frames ∧ 8 + (maxL + 11) + rm'.locals ≤ rm.locals) : xSite Γ pc n none mc ms y ws rm' := by
  obtain ⟨p, l, e, R, s, m, args, below, meth, c, Q, G, A, nL'⟩ := Γ
  obtain ⟨hx, hb, hml, hown, hts, hK, hA, rfl, rfl, hB⟩ := C
  intro Pc Qc XC free H locs k sl la av rest hM hbl hpc hn hsz hcat hf hro
  exact vx_runS (As := av) (rest := rest) ⟨hx, hb, hml, hown, hts⟩ hM (va_cwS n hts hg hw hrc hrs hd hR) ⟨hbl, hpc⟩ rfl hn hsz rfl (lv_room hcat) d hf
end XSITES
section XCALLS
variable {Γ : aΓ} {cc : ByteArray} {Ts : List Cond} {own : String} {nL : Nat} {rm : Room} {pc : Nat} {y : MethodName} {ws : List Cond} {rm' : Room} {n : Nat} {ro : Option Nat}
def oXi (T : xTi) (n : Nat) (ro : Option Nat) (mc ms RC RS nx : Nat) (ex : aXk) : aO := fun K ad k sl ls st X => tk n [] (fun av t => rcv ro X (ck (le4 t) (ck (Nat.ble (k + mc) RC) (ck (Nat.ble (sl + ms) RS) (T av X (fun r X2 => K nx ad (k + mc) (sl + ms) ls (.int r :: t) X2) (fun E X2 => ex E ad (k + mc) (sl + ms) ls X2))))) av) st
theorem snd_Xi {T : xTi} {ex : aXk} (C : FOK Γ cc Ts own nL rm) (CX : FOX Γ) (hs : xSite Γ pc n ro rm'.cells rm'.slots y ws rm') (hM : xMi y ws rm' T) (hex : ∀ E ad k sl ls X, ex E ad k sl ls X → FX Γ pc E ad k sl ls X) : Snd Γ pc (oXi T n ro rm'.cells rm'.slots rm.cells rm.slots (pc + 3) ex) := by
  obtain ⟨p, l, e, R, s, m, args, below, meth, c, Q, G, A, nL'⟩ := Γ
  obtain ⟨hx, hb, hml, hown, hts, hK, hA, rfl, rfl, hB⟩ := C
  intro K hK' ad k sl ls st X ho
  dsimp only [oXi] at ho
  obtain ⟨av, t, rfl, hn, h⟩ := tk_spec ho
  rw [List.append_nil] at h
  obtain ⟨h, hro⟩ := rcv_spec h
  obtain ⟨h4, h⟩ := ck_spec h
  obtain ⟨hc, h⟩ := ck_spec h
  obtain ⟨hsl, h⟩ := ck_spec h
  intro H locs la hP hD hS hl
  have hF := aA_free hD hS hA
  have hrun := hs _ _ _ _ H locs k sl la (av.map (aV ad)) (t.map (aV ad)) (hM l CX.1 G ad H.size av X _ _ h) (aPcX_blind _ _ _ _ _) (fun U hU hW => ⟨aPc_at hP hK hD hB hU hW, by
    have h8 := aZ_at CX.2.1 hS hF hU hW
    exact h8⟩) (by rw [List.length_map]; exact hn) hl.1 (le4_spec ad h4) ⟨Nat.le_of_ble_eq_true hc, Nat.le_of_ble_eq_true hsl⟩ (fun ci hci => by
    obtain ⟨q, As, fs, rfl, hq⟩ := hro ci hci
    have hq2 := aX_get G ad X 0 q _ hq
    rw [Nat.zero_add] at hq2
    obtain ⟨qc, h1, -⟩ := hP q _ hq2
    obtain ⟨cellB, g1, g2, g3⟩ := va_recv hK hP h1 hq2
    exact ⟨ad q, As.map (aV ad), cellB, qc, rfl, h1, g1, g2, g3⟩)
  have hst : List.map (aV ad) (av.reverse ++ t) = (av.map (aV ad)).reverse ++ t.map (aV ad) := by rw [List.map_append, List.map_reverse]
  rw [hst]
  refine vx_calli hrun hS (fun q _ h9 => hF q h9) hF (fun q _ h9 => hF q h9) (fun E ce q9 u t1 H1 locs1 ht hvm hpx hBx hz hk hS1 g1 g2 g3 => ?_) (fun r u t1 H1 locs1 ht hvm hpost hBk hz hk hS1 => ?_)
  · obtain ⟨hE, hP1, hD1⟩ := hBx
    subst hE
    rw [ht] at hP1
    exact hex _ _ _ _ _ _ hpx H1 locs1 la (t.map (aV ad)) ce q9 hP1 (hD1.weaken (fun _ _ _ h9 => hF _ h9)) hS1 hl g1 g2 g3
  · obtain ⟨hP1, hD1⟩ := hBk
    rw [ht] at hP1
    exact hK' _ _ _ _ _ _ _ hpost H1 locs1 la hP1 (hD1.weaken (fun _ _ _ h9 => hF _ h9)) hS1 hl
def oXl (T : xTl) (n : Nat) (ro : Option Nat) (mc ms RC RS nx : Nat) (ex : aXk) : aO := fun K ad k sl ls st X => tk n [] (fun av t => rcv ro X (ck (le4 t) (ck (Nat.ble (k + mc) RC) (ck (Nat.ble (sl + ms) RS) (T av X (fun r X2 => K nx ad (k + mc) (sl + ms) ls (.long r :: t) X2) (fun E X2 => ex E ad (k + mc) (sl + ms) ls X2))))) av) st
theorem snd_Xl {T : xTl} {ex : aXk} (C : FOK Γ cc Ts own nL rm) (CX : FOX Γ) (hs : xSite Γ pc n ro rm'.cells rm'.slots y ws rm') (hM : xMl y ws rm' T) (hex : ∀ E ad k sl ls X, ex E ad k sl ls X → FX Γ pc E ad k sl ls X) : Snd Γ pc (oXl T n ro rm'.cells rm'.slots rm.cells rm.slots (pc + 3) ex) := by
  obtain ⟨p, l, e, R, s, m, args, below, meth, c, Q, G, A, nL'⟩ := Γ
  obtain ⟨hx, hb, hml, hown, hts, hK, hA, rfl, rfl, hB⟩ := C
  intro K hK' ad k sl ls st X ho
  dsimp only [oXl] at ho
  obtain ⟨av, t, rfl, hn, h⟩ := tk_spec ho
  rw [List.append_nil] at h
  obtain ⟨h, hro⟩ := rcv_spec h
  obtain ⟨h4, h⟩ := ck_spec h
  obtain ⟨hc, h⟩ := ck_spec h
  obtain ⟨hsl, h⟩ := ck_spec h
  intro H locs la hP hD hS hl
  have hF := aA_free hD hS hA
  have hrun := hs _ _ _ _ H locs k sl la (av.map (aV ad)) (t.map (aV ad)) (hM l CX.1 G ad H.size av X _ _ h) (aPcX_blind _ _ _ _ _) (fun U hU hW => ⟨aPc_at hP hK hD hB hU hW, by
    have h8 := aZ_at CX.2.1 hS hF hU hW
    exact h8⟩) (by rw [List.length_map]; exact hn) hl.1 (le4_spec ad h4) ⟨Nat.le_of_ble_eq_true hc, Nat.le_of_ble_eq_true hsl⟩ (fun ci hci => by
    obtain ⟨q, As, fs, rfl, hq⟩ := hro ci hci
    have hq2 := aX_get G ad X 0 q _ hq
    rw [Nat.zero_add] at hq2
    obtain ⟨qc, h1, -⟩ := hP q _ hq2
    obtain ⟨cellB, g1, g2, g3⟩ := va_recv hK hP h1 hq2
    exact ⟨ad q, As.map (aV ad), cellB, qc, rfl, h1, g1, g2, g3⟩)
  have hst : List.map (aV ad) (av.reverse ++ t) = (av.map (aV ad)).reverse ++ t.map (aV ad) := by rw [List.map_append, List.map_reverse]
  rw [hst]
  refine vx_calll hrun hS (fun q _ h9 => hF q h9) hF (fun q _ h9 => hF q h9) (fun E ce q9 u t1 H1 locs1 ht hvm hpx hBx hz hk hS1 g1 g2 g3 => ?_) (fun r u t1 H1 locs1 ht hvm hpost hBk hz hk hS1 => ?_)
  · obtain ⟨hE, hP1, hD1⟩ := hBx
    subst hE
    rw [ht] at hP1
    exact hex _ _ _ _ _ _ hpx H1 locs1 la (t.map (aV ad)) ce q9 hP1 (hD1.weaken (fun _ _ _ h9 => hF _ h9)) hS1 hl g1 g2 g3
  · obtain ⟨hP1, hD1⟩ := hBk
    rw [ht] at hP1
    exact hK' _ _ _ _ _ _ _ hpost H1 locs1 la hP1 (hD1.weaken (fun _ _ _ h9 => hF _ h9)) hS1 hl
def oXd (T : xTd) (n : Nat) (ro : Option Nat) (mc ms RC RS nx : Nat) (ex : aXk) : aO := fun K ad k sl ls st X => tk n [] (fun av t => rcv ro X (ck (le4 t) (ck (Nat.ble (k + mc) RC) (ck (Nat.ble (sl + ms) RS) (T av X (fun r X2 => K nx ad (k + mc) (sl + ms) ls (.double r :: t) X2) (fun E X2 => ex E ad (k + mc) (sl + ms) ls X2))))) av) st
theorem snd_Xd {T : xTd} {ex : aXk} (C : FOK Γ cc Ts own nL rm) (CX : FOX Γ) (hs : xSite Γ pc n ro rm'.cells rm'.slots y ws rm') (hM : xMd y ws rm' T) (hex : ∀ E ad k sl ls X, ex E ad k sl ls X → FX Γ pc E ad k sl ls X) : Snd Γ pc (oXd T n ro rm'.cells rm'.slots rm.cells rm.slots (pc + 3) ex) := by
  obtain ⟨p, l, e, R, s, m, args, below, meth, c, Q, G, A, nL'⟩ := Γ
  obtain ⟨hx, hb, hml, hown, hts, hK, hA, rfl, rfl, hB⟩ := C
  intro K hK' ad k sl ls st X ho
  dsimp only [oXd] at ho
  obtain ⟨av, t, rfl, hn, h⟩ := tk_spec ho
  rw [List.append_nil] at h
  obtain ⟨h, hro⟩ := rcv_spec h
  obtain ⟨h4, h⟩ := ck_spec h
  obtain ⟨hc, h⟩ := ck_spec h
  obtain ⟨hsl, h⟩ := ck_spec h
  intro H locs la hP hD hS hl
  have hF := aA_free hD hS hA
  have hrun := hs _ _ _ _ H locs k sl la (av.map (aV ad)) (t.map (aV ad)) (hM l CX.1 G ad H.size av X _ _ h) (aPcX_blind _ _ _ _ _) (fun U hU hW => ⟨aPc_at hP hK hD hB hU hW, by
    have h8 := aZ_at CX.2.1 hS hF hU hW
    exact h8⟩) (by rw [List.length_map]; exact hn) hl.1 (le4_spec ad h4) ⟨Nat.le_of_ble_eq_true hc, Nat.le_of_ble_eq_true hsl⟩ (fun ci hci => by
    obtain ⟨q, As, fs, rfl, hq⟩ := hro ci hci
    have hq2 := aX_get G ad X 0 q _ hq
    rw [Nat.zero_add] at hq2
    obtain ⟨qc, h1, -⟩ := hP q _ hq2
    obtain ⟨cellB, g1, g2, g3⟩ := va_recv hK hP h1 hq2
    exact ⟨ad q, As.map (aV ad), cellB, qc, rfl, h1, g1, g2, g3⟩)
  have hst : List.map (aV ad) (av.reverse ++ t) = (av.map (aV ad)).reverse ++ t.map (aV ad) := by rw [List.map_append, List.map_reverse]
  rw [hst]
  refine vx_calld hrun hS (fun q _ h9 => hF q h9) hF (fun q _ h9 => hF q h9) (fun E ce q9 u t1 H1 locs1 ht hvm hpx hBx hz hk hS1 g1 g2 g3 => ?_) (fun r u t1 H1 locs1 ht hvm hpost hBk hz hk hS1 => ?_)
  · obtain ⟨hE, hP1, hD1⟩ := hBx
    subst hE
    rw [ht] at hP1
    exact hex _ _ _ _ _ _ hpx H1 locs1 la (t.map (aV ad)) ce q9 hP1 (hD1.weaken (fun _ _ _ h9 => hF _ h9)) hS1 hl g1 g2 g3
  · obtain ⟨hP1, hD1⟩ := hBk
    rw [ht] at hP1
    exact hK' _ _ _ _ _ _ _ hpost H1 locs1 la hP1 (hD1.weaken (fun _ _ _ h9 => hF _ h9)) hS1 hl
def oXv (T : xTv) (n : Nat) (ro : Option Nat) (mc ms RC RS nx : Nat) (ex : aXk) : aO := fun K ad k sl ls st X => tk n [] (fun av t => rcv ro X (ck (le4 t) (ck (Nat.ble (k + mc) RC) (ck (Nat.ble (sl + ms) RS) (T av X (fun X2 => K nx ad (k + mc) (sl + ms) ls t X2) (fun E X2 => ex E ad (k + mc) (sl + ms) ls X2))))) av) st
theorem snd_Xv {T : xTv} {ex : aXk} (C : FOK Γ cc Ts own nL rm) (CX : FOX Γ) (hs : xSite Γ pc n ro rm'.cells rm'.slots y ws rm') (hM : xMv y ws rm' T) (hex : ∀ E ad k sl ls X, ex E ad k sl ls X → FX Γ pc E ad k sl ls X) : Snd Γ pc (oXv T n ro rm'.cells rm'.slots rm.cells rm.slots (pc + 3) ex) := by
  obtain ⟨p, l, e, R, s, m, args, below, meth, c, Q, G, A, nL'⟩ := Γ
  obtain ⟨hx, hb, hml, hown, hts, hK, hA, rfl, rfl, hB⟩ := C
  intro K hK' ad k sl ls st X ho
  dsimp only [oXv] at ho
  obtain ⟨av, t, rfl, hn, h⟩ := tk_spec ho
  rw [List.append_nil] at h
  obtain ⟨h, hro⟩ := rcv_spec h
  obtain ⟨h4, h⟩ := ck_spec h
  obtain ⟨hc, h⟩ := ck_spec h
  obtain ⟨hsl, h⟩ := ck_spec h
  intro H locs la hP hD hS hl
  have hF := aA_free hD hS hA
  have hrun := hs _ _ _ _ H locs k sl la (av.map (aV ad)) (t.map (aV ad)) (hM l CX.1 G ad H.size av X _ _ h) (aPcX_blind _ _ _ _ _) (fun U hU hW => ⟨aPc_at hP hK hD hB hU hW, by
    have h8 := aZ_at CX.2.1 hS hF hU hW
    exact h8⟩) (by rw [List.length_map]; exact hn) hl.1 (le4_spec ad h4) ⟨Nat.le_of_ble_eq_true hc, Nat.le_of_ble_eq_true hsl⟩ (fun ci hci => by
    obtain ⟨q, As, fs, rfl, hq⟩ := hro ci hci
    have hq2 := aX_get G ad X 0 q _ hq
    rw [Nat.zero_add] at hq2
    obtain ⟨qc, h1, -⟩ := hP q _ hq2
    obtain ⟨cellB, g1, g2, g3⟩ := va_recv hK hP h1 hq2
    exact ⟨ad q, As.map (aV ad), cellB, qc, rfl, h1, g1, g2, g3⟩)
  have hst : List.map (aV ad) (av.reverse ++ t) = (av.map (aV ad)).reverse ++ t.map (aV ad) := by rw [List.map_append, List.map_reverse]
  rw [hst]
  refine vx_callv hrun hS (fun q _ h9 => hF q h9) hF (fun q _ h9 => hF q h9) (fun E ce q9 u t1 H1 locs1 ht hvm hpx hBx hz hk hS1 g1 g2 g3 => ?_) (fun u t1 H1 locs1 ht hvm hpost hBk hz hk hS1 => ?_)
  · obtain ⟨hE, hP1, hD1⟩ := hBx
    subst hE
    rw [ht] at hP1
    exact hex _ _ _ _ _ _ hpx H1 locs1 la (t.map (aV ad)) ce q9 hP1 (hD1.weaken (fun _ _ _ h9 => hF _ h9)) hS1 hl g1 g2 g3
  · obtain ⟨hP1, hD1⟩ := hBk
    rw [ht] at hP1
    exact hK' _ _ _ _ _ _ _ hpost H1 locs1 la hP1 (hD1.weaken (fun _ _ _ h9 => hF _ h9)) hS1 hl
end XCALLS
/-! ===== the ends of a body ===== -/
/-- what Q is: of a method that returns, or of one that may throw too -/
def isQ (Γ : aΓ) (Qc : Array Value → State → Outcome → State → Prop) (rm : Room) (ad0 : Nat → Nat) (X0 : List aE) : Prop :=
  match Γ with
  | (p, l, e, R, s, m, args, below, meth, c, Q, K, A, nL) => (Q = MQ below Qc args s rm.cells rm.slots (aA K ad0 X0 s.heap.size) ∨ ∃ XC, Q = vx_MQ below Qc XC args s rm.cells rm.slots (aA K ad0 X0 s.heap.size)) ∧ A = aA K ad0 X0 s.heap.size ∧ meth.locks = false
def hsz (Γ : aΓ) : Nat := match Γ with
  | (p, l, e, R, s, m, args, below, meth, c, Q, K, A, nL) => s.heap.size
def gK (Γ : aΓ) : aG := match Γ with
  | (p, l, e, R, s, m, args, below, meth, c, Q, K, A, nL) => K
def rTy (Γ : aΓ) : Option FieldType := match Γ with
  | (p, l, e, R, s, m, args, below, meth, c, Q, K, A, nL) => meth.sig.returnType
section ENDS
variable {Γ : aΓ} {cc : ByteArray} {Ts : List Cond} {own : String} {nL : Nat} {rm : Room} {pc : Nat} {ad0 : Nat → Nat} {X0 : List aE}
def oRi (post : Int32 → List aE → Prop) (ad0 : Nat → Nat) (mc ms : Nat) : aO := fun K ad k sl ls st X => pI (fun r t => ck (List.isEmpty t) (ck (Nat.ble k mc) (ck (Nat.ble sl ms) (ad = ad0 ∧ post r X)))) st
theorem snd_Ri {post : Int32 → List aE → Prop} (C : FOK Γ cc Ts own nL rm) (hQ : isQ Γ (va_Qi post (aBk (gK Γ) ad0 X0 (hsz Γ)) (aA (gK Γ) ad0 X0 (hsz Γ))) rm ad0 X0) (hr : rTy Γ = some .int) (d : decode cc pc = .ok (.ireturn, 1)) : Snd Γ pc (oRi post ad0 rm.cells rm.slots) := by
  obtain ⟨p, l, e, R, s, m, args, below, meth, c, Q, G, A, nL'⟩ := Γ
  obtain ⟨hx, hb, hml, hown, hts, hK, hA, rfl, rfl, hB⟩ := C
  intro K hK' ad k sl ls st X ho
  dsimp only [oRi] at ho
  obtain ⟨r, t, rfl, h6⟩ := pI_spec ho
  obtain ⟨h4, h7⟩ := ck_spec h6
  obtain ⟨hc, h8⟩ := ck_spec h7
  obtain ⟨hsl, h9⟩ := ck_spec h8
  obtain ⟨had, hpost⟩ := h9
  have h5 := List.isEmpty_iff.mp h4
  subst h5
  subst had
  obtain ⟨hQ, hAe, hlocks⟩ := hQ
  subst hAe
  intro H locs la hP hD hS hl
  have key : W p l e R s m args below meth c H locs k sl (MQ below (va_Qi post (aBk G ad X0 s.heap.size) (aA G ad X0 s.heap.size)) args s R.cells R.slots (aA G ad X0 s.heap.size)) (F0 m pc la (List.map (aV ad) [.int r])) := by
    refine W.widen (k := R.cells) (n := R.slots) (Nat.le_of_ble_eq_true hc) (Nat.le_of_ble_eq_true hsl) ?_
    exact W.iret hx hb hr (fun t ht hW => ⟨⟨r, X, rfl, hpost, by rw [ht]; exact hP, hD⟩, hS.F ht⟩) hS.2.2 d hlocks
  rcases hQ with hQ | ⟨XC, hQ⟩
  · exact hQ ▸ key
  · exact hQ ▸ vx_ret key
def oRl (post : Int64 → List aE → Prop) (ad0 : Nat → Nat) (mc ms : Nat) : aO := fun K ad k sl ls st X => pL (fun r t => ck (List.isEmpty t) (ck (Nat.ble k mc) (ck (Nat.ble sl ms) (ad = ad0 ∧ post r X)))) st
theorem snd_Rl {post : Int64 → List aE → Prop} (C : FOK Γ cc Ts own nL rm) (hQ : isQ Γ (va_Ql post (aBk (gK Γ) ad0 X0 (hsz Γ)) (aA (gK Γ) ad0 X0 (hsz Γ))) rm ad0 X0) (hr : rTy Γ = some .long) (d : decode cc pc = .ok (.lreturn, 1)) : Snd Γ pc (oRl post ad0 rm.cells rm.slots) := by
  obtain ⟨p, l, e, R, s, m, args, below, meth, c, Q, G, A, nL'⟩ := Γ
  obtain ⟨hx, hb, hml, hown, hts, hK, hA, rfl, rfl, hB⟩ := C
  intro K hK' ad k sl ls st X ho
  dsimp only [oRl] at ho
  obtain ⟨r, t, rfl, h6⟩ := pL_spec ho
  obtain ⟨h4, h7⟩ := ck_spec h6
  obtain ⟨hc, h8⟩ := ck_spec h7
  obtain ⟨hsl, h9⟩ := ck_spec h8
  obtain ⟨had, hpost⟩ := h9
  have h5 := List.isEmpty_iff.mp h4
  subst h5
  subst had
  obtain ⟨hQ, hAe, hlocks⟩ := hQ
  subst hAe
  intro H locs la hP hD hS hl
  have key : W p l e R s m args below meth c H locs k sl (MQ below (va_Ql post (aBk G ad X0 s.heap.size) (aA G ad X0 s.heap.size)) args s R.cells R.slots (aA G ad X0 s.heap.size)) (F0 m pc la (List.map (aV ad) [.long r])) := by
    refine W.widen (k := R.cells) (n := R.slots) (Nat.le_of_ble_eq_true hc) (Nat.le_of_ble_eq_true hsl) ?_
    exact W.lret hx hb hr (fun t ht hW => ⟨⟨r, X, rfl, hpost, by rw [ht]; exact hP, hD⟩, hS.F ht⟩) hS.2.2 d hlocks
  rcases hQ with hQ | ⟨XC, hQ⟩
  · exact hQ ▸ key
  · exact hQ ▸ vx_ret key
def oRd (post : UInt64 → List aE → Prop) (ad0 : Nat → Nat) (mc ms : Nat) : aO := fun K ad k sl ls st X => pD (fun r t => ck (List.isEmpty t) (ck (Nat.ble k mc) (ck (Nat.ble sl ms) (ad = ad0 ∧ post r X)))) st
theorem snd_Rd {post : UInt64 → List aE → Prop} (C : FOK Γ cc Ts own nL rm) (hQ : isQ Γ (va_Qd post (aBk (gK Γ) ad0 X0 (hsz Γ)) (aA (gK Γ) ad0 X0 (hsz Γ))) rm ad0 X0) (hr : rTy Γ = some .double) (d : decode cc pc = .ok (.dreturn, 1)) : Snd Γ pc (oRd post ad0 rm.cells rm.slots) := by
  obtain ⟨p, l, e, R, s, m, args, below, meth, c, Q, G, A, nL'⟩ := Γ
  obtain ⟨hx, hb, hml, hown, hts, hK, hA, rfl, rfl, hB⟩ := C
  intro K hK' ad k sl ls st X ho
  dsimp only [oRd] at ho
  obtain ⟨r, t, rfl, h6⟩ := pD_spec ho
  obtain ⟨h4, h7⟩ := ck_spec h6
  obtain ⟨hc, h8⟩ := ck_spec h7
  obtain ⟨hsl, h9⟩ := ck_spec h8
  obtain ⟨had, hpost⟩ := h9
  have h5 := List.isEmpty_iff.mp h4
  subst h5
  subst had
  obtain ⟨hQ, hAe, hlocks⟩ := hQ
  subst hAe
  intro H locs la hP hD hS hl
  have key : W p l e R s m args below meth c H locs k sl (MQ below (va_Qd post (aBk G ad X0 s.heap.size) (aA G ad X0 s.heap.size)) args s R.cells R.slots (aA G ad X0 s.heap.size)) (F0 m pc la (List.map (aV ad) [.double r])) := by
    refine W.widen (k := R.cells) (n := R.slots) (Nat.le_of_ble_eq_true hc) (Nat.le_of_ble_eq_true hsl) ?_
    exact W.dret hx hb hr (fun t ht hW => ⟨⟨r, X, rfl, hpost, by rw [ht]; exact hP, hD⟩, hS.F ht⟩) hS.2.2 d hlocks
  rcases hQ with hQ | ⟨XC, hQ⟩
  · exact hQ ▸ key
  · exact hQ ▸ vx_ret key
def oRz (post : Int32 → List aE → Prop) (ad0 : Nat → Nat) (mc ms : Nat) : aO := fun K ad k sl ls st X => pI (fun r t => ck (List.isEmpty t) (ck (Nat.ble k mc) (ck (Nat.ble sl ms) ((r = 0 ∨ r = 1) ∧ ad = ad0 ∧ post r X)))) st
theorem snd_Rz {post : Int32 → List aE → Prop} (C : FOK Γ cc Ts own nL rm) (hQ : isQ Γ (va_Qi post (aBk (gK Γ) ad0 X0 (hsz Γ)) (aA (gK Γ) ad0 X0 (hsz Γ))) rm ad0 X0) (hr : rTy Γ = some .boolean) (d : decode cc pc = .ok (.ireturn, 1)) : Snd Γ pc (oRz post ad0 rm.cells rm.slots) := by
  obtain ⟨p, l, e, R, s, m, args, below, meth, c, Q, G, A, nL'⟩ := Γ
  obtain ⟨hx, hb, hml, hown, hts, hK, hA, rfl, rfl, hB⟩ := C
  intro K hK' ad k sl ls st X ho
  dsimp only [oRz] at ho
  obtain ⟨r, t, rfl, h6⟩ := pI_spec ho
  obtain ⟨h4, h7⟩ := ck_spec h6
  obtain ⟨hc, h8⟩ := ck_spec h7
  obtain ⟨hsl, h9⟩ := ck_spec h8
  obtain ⟨hz, had, hpost⟩ := h9
  have h5 := List.isEmpty_iff.mp h4
  subst h5
  subst had
  obtain ⟨hQ, hAe, hlocks⟩ := hQ
  subst hAe
  intro H locs la hP hD hS hl
  have key : W p l e R s m args below meth c H locs k sl (MQ below (va_Qi post (aBk G ad X0 s.heap.size) (aA G ad X0 s.heap.size)) args s R.cells R.slots (aA G ad X0 s.heap.size)) (F0 m pc la (List.map (aV ad) [.int r])) := by
    refine W.widen (k := R.cells) (n := R.slots) (Nat.le_of_ble_eq_true hc) (Nat.le_of_ble_eq_true hsl) ?_
    exact W.zret hx hb hr (by rcases hz with rfl | rfl <;> decide) (fun t ht hW => ⟨⟨r, X, rfl, hpost, by rw [ht]; exact hP, hD⟩, hS.F ht⟩) hS.2.2 d hlocks
  rcases hQ with hQ | ⟨XC, hQ⟩
  · exact hQ ▸ key
  · exact hQ ▸ vx_ret key
def oRv (post : List aE → Prop) (ad0 : Nat → Nat) (mc ms : Nat) : aO := fun K ad k sl ls st X => ck (List.isEmpty st) (ck (Nat.ble k mc) (ck (Nat.ble sl ms) (ad = ad0 ∧ post X)))
theorem snd_Rv {post : List aE → Prop} (C : FOK Γ cc Ts own nL rm) (hQ : isQ Γ (va_Qv post (aBk (gK Γ) ad0 X0 (hsz Γ)) (aA (gK Γ) ad0 X0 (hsz Γ))) rm ad0 X0) (hr : rTy Γ = none) (d : decode cc pc = .ok (.return_, 1)) : Snd Γ pc (oRv post ad0 rm.cells rm.slots) := by
  obtain ⟨p, l, e, R, s, m, args, below, meth, c, Q, G, A, nL'⟩ := Γ
  obtain ⟨hx, hb, hml, hown, hts, hK, hA, rfl, rfl, hB⟩ := C
  intro K hK' ad k sl ls st X ho
  dsimp only [oRv] at ho
  obtain ⟨h4, h7⟩ := ck_spec ho
  obtain ⟨hc, h8⟩ := ck_spec h7
  obtain ⟨hsl, h9⟩ := ck_spec h8
  obtain ⟨had, hpost⟩ := h9
  have h5 := List.isEmpty_iff.mp h4
  subst h5
  subst had
  obtain ⟨hQ, hAe, hlocks⟩ := hQ
  subst hAe
  intro H locs la hP hD hS hl
  have key : W p l e R s m args below meth c H locs k sl (MQ below (va_Qv post (aBk G ad X0 s.heap.size) (aA G ad X0 s.heap.size)) args s R.cells R.slots (aA G ad X0 s.heap.size)) (F0 m pc la (List.map (aV ad) [])) := by
    refine W.widen (k := R.cells) (n := R.slots) (Nat.le_of_ble_eq_true hc) (Nat.le_of_ble_eq_true hsl) ?_
    exact W.vret hx hb hr (fun t ht hW => ⟨⟨X, rfl, hpost, by rw [ht]; exact hP, hD⟩, hS.F ht⟩) hS.2.2 d hlocks
  rcases hQ with hQ | ⟨XC, hQ⟩
  · exact hQ ▸ key
  · exact hQ ▸ vx_ret key
/-- a throw that leaves the body -/
def isX (Γ : aΓ) (ex : aXp) (rm : Room) (ad0 : Nat → Nat) (X0 : List aE) : Prop :=
  match Γ with
  | (p, l, e, R, s, m, args, below, meth, c, Q, K, A, nL) => (∃ Qc, Q = vx_MQ below Qc (aXC K ad0 X0 s.heap.size ex) args s rm.cells rm.slots (aA K ad0 X0 s.heap.size)) ∧ A = aA K ad0 X0 s.heap.size ∧ (∀ x ∈ c.exceptionTable.toList, False)
def exU (ex : aXp) (ad0 : Nat → Nat) (mc ms : Nat) : aXk := fun E ad k sl _ X => ck (Nat.ble k mc) (ck (Nat.ble sl ms) (ad = ad0 ∧ ex E X))
theorem exU_FX {ex : aXp} (C : FOK Γ cc Ts own nL rm) (CX : FOX Γ) (hQ : isX Γ ex rm ad0 X0) (E : String) (ad : Nat → Nat) (k sl : Nat) (ls : List (Nat × Value)) (X : List aE) (h : exU ex ad0 rm.cells rm.slots E ad k sl ls X) : FX Γ pc E ad k sl ls X := by
  obtain ⟨p, l, e, R, s, m, args, below, meth, c, Q, G, A, nL'⟩ := Γ
  obtain ⟨hx, hb, hml, hown, hts, hK, hA, rfl, rfl, hB⟩ := C
  obtain ⟨hc, h⟩ := ck_spec h
  obtain ⟨hsl, h⟩ := ck_spec h
  obtain ⟨rfl, hpost⟩ := h
  obtain ⟨⟨Qc, hQ⟩, hAe, hno⟩ := hQ
  subst hAe
  subst hQ
  intro H locs la rest ce q hP hD hS hl g1 g2 g3
  exact vx_out (fun x hx => (hno x hx).elim) CX.2.2 g1 g2 g3 (fun t ht hv => ⟨(E, X), hpost, ⟨rfl, by rw [ht]; exact hP, hD⟩, hS.F ht⟩) hS.2.2 (Nat.le_of_ble_eq_true hc) (Nat.le_of_ble_eq_true hsl)
/-- throw new E("text") -/
def oTh (E : String) (ex : aXp) (ad0 : Nat → Nat) (mc ms : Nat) : aO := fun K ad k sl ls st X => ck (le4 st) (ck (Nat.ble (k + 1) mc) (ck (Nat.ble (sl + 6) ms) (ad = ad0 ∧ ex E X)))
theorem snd_Th {ex : aXp} {E text : String} {names : List String} {ik is ic : Nat} (C : FOK Γ cc Ts own nL rm) (CX : FOX Γ) (hQ : isX Γ ex rm ad0 X0) (hcls : Bundle.fit E = true) (hnames : ∀ n ∈ names, Bundle.fit n = true)
    (hk : Cond.classLink own ik E ∈ Ts) (hini : Cond.initialized E ∈ Ts) (hstr : (own, is, text) ∈ aSt) (hat : ∀ w ∈ vx_atS own ic E names, w ∈ Ts ++ aEl) (hgood : ∀ w ∈ Cond.classLink own ik E :: Cond.initialized E :: vx_atS own ic E names, vx_ot w = true)
    (d0 : decode cc pc = .ok (.new ik, 3)) (d3 : decode cc (pc + 3) = .ok (.dup, 1)) (d4 : decode cc (pc + 4) = .ok (.ldc is, 2)) (d6 : decode cc (pc + 6) = .ok (.invokespecial ic, 3)) (d9 : decode cc (pc + 9) = .ok (.athrow, 1))
    (hRf : names.length + 3 < rm.frames) (hRl : 8 + (13 * (names.length + 1) + 43) ≤ rm.locals) : Snd Γ pc (oTh E ex ad0 rm.cells rm.slots) := by
  obtain ⟨p, l, e, R, s, m, args, below, meth, c, Q, G, A, nL'⟩ := Γ
  obtain ⟨hx, hb, hml, hown, hts, hK, hA, rfl, rfl, hB⟩ := C
  intro K hK' ad k sl ls st X ho
  dsimp only [oTh] at ho
  obtain ⟨h4, h⟩ := ck_spec ho
  obtain ⟨hc, h⟩ := ck_spec h
  obtain ⟨hsl, h⟩ := ck_spec h
  obtain ⟨rfl, hpost⟩ := h
  obtain ⟨⟨Qc, hQ⟩, hAe, hno⟩ := hQ
  subst hAe
  subst hQ
  obtain ⟨sa, hsa⟩ := hB.2.1 _ hstr
  intro H locs la hP hD hS hl
  have h5 := le4_spec ad h4
  exact vx_throwS hx hb CX.1 hown hcls hnames (hts _ hk) (hts _ hini) hsa (fun w hw => (List.mem_append.mp (hat w hw)).elim (hts w) (hB.2.2.use w)) hgood CX.2.1.1 CX.2.1.2 hS (hl.1.trans hml.symm) d0 d3 d4 d6 d9 (fun x hx => (hno x hx).elim) hRf (by omega) (Nat.le_of_ble_eq_true hc) (Nat.le_of_ble_eq_true hsl) CX.2.2
    (fun t hv hz hq => ⟨(E, X), hpost, ⟨rfl, hP.kept (fun k9 q9 h9 => hq q9.1 (hP k9 q9 h9).lt), hD⟩, ⟨Nat.le_trans hS.1 hz, fun q h1 h2 => (hq q (Nat.lt_of_lt_of_le h1 hS.1)).trans (hS.2.1 q h1 h2)⟩⟩) hS.2.2 (Nat.le_of_ble_eq_true hc) (Nat.le_of_ble_eq_true hsl)
end ENDS
