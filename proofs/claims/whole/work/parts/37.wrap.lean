/-! ===== the law's wrappers: a call, its answer stored, its throws counted ===== -/
def aNcs (U : State) : Prop := va_Nc "java/lang/IllegalStateException" "java/lang/IndexOutOfBoundsException" U ∧ va_Nc "java/lang/IllegalArgumentException" "java/lang/IndexOutOfBoundsException" U
def aPcW (K : aG) (ad : Nat → Nat) (av : List Value) (X : List aE) (sz : Nat) : Array Value → State → Prop := fun a U => aPcX K ad av X sz a U ∧ aNcs U
theorem aPcW_blind (K : aG) (ad : Nat → Nat) (av : List Value) (X : List aE) (sz : Nat) : FrameBlind (aPcW K ad av X sz) := fun a U g mk q =>
  ⟨aPcX_blind _ _ _ _ _ a U g mk q.1, q.2.1.moved (u := U) (U := U.calling g mk a) (Vm.Alike.refl U.vm), q.2.2.moved (u := U) (U := U.calling g mk a) (Vm.Alike.refl U.vm)⟩
def wMi (y : MethodName) (ws : List Cond) (rm : Room) (T : aTi) : Prop := ∀ (l : Launch) (_ : l.stackTraces = false) (K : aG) (ad : Nat → Nat) (sz : Nat) (av : List Value) (X : List aE) (post : Int32 → List aE → Prop), T av X post →
  Met l y ws rm (aPcW K ad av X sz) (va_Qi post (aBk K ad X sz) (aA K ad X sz)) rm.cells rm.slots (aA K ad X sz)
def isTb (Γ : aΓ) (hh : List (Nat × Nat × Nat × Nat)) : Prop := match Γ with
  | (p, l, e, R, s, m, args, below, meth, c, Q, K, A, nL) => c.exceptionTable.toList = tableOf hh
def FOW (Γ : aΓ) : Prop := match Γ with
  | (p, l, e, R, s, m, args, below, meth, c, Q, K, A, nL) => aNcs s
theorem wMi_of {y : MethodName} {cc : ByteArray} {maxL : Nat} {ws ws' : List Cond} {rm : Room} {own : String} {T : aTi} {hh : List (Nat × Nat × Nat × Nat)} (hy : plainName y.cls = true) (hown : y.cls = own) (hw : ws = Cond.codeWith y cc maxL (some .int) hh :: ws') (hlen : ∀ av X post, T av X post → al av ≤ maxL)
    (body : ∀ (Γ : aΓ) (ad : Nat → Nat) (av : List Value) (X : List aE) (post : Int32 → List aE → Prop), FOK Γ cc ws own maxL rm → FOX Γ → FOW Γ → isTb Γ hh → isQ Γ (va_Qi post (aBk (gK Γ) ad X (hsz Γ)) (aA (gK Γ) ad X (hsz Γ))) rm ad X → rTy Γ = some .int → T av X post → FG Γ 0 ad 0 0 (lv_args 0 av) [] X) : wMi y ws rm T := by
  intro l hst K ad sz av X post hT
  refine va_MetW (cc := cc) (maxL := maxL) (ret := some .int) (hh := hh) hy hw ?_
  intro p e s m args below meth c s₁ B hml hv
  obtain ⟨⟨⟨hargs, hsz, hP, hK, hD0, hB⟩, hZ⟩, hN⟩ := hv
  subst hargs
  subst hsz
  have hts := atoms_spec (ws := ws) B.pre
  have hown' : s.vm.findClass own = some m.cls := hown ▸ findClass_of_methodNamed B.named
  have htb : c.exceptionTable.toList = tableOf hh   := vx_table (x := y) B (hts _ (by rw [hw]; exact List.mem_cons_self))
  have hD := hD0.self (sz := s.heap.size)
  have hl := lv_entry (av.map (aV ad)) (n := maxL) (by rw [al_sl]; exact hlen av X post hT)
  rw [lg_entry_eq]
  rw [aL_args] at hl
  exact body (p, l, e, (headSpec ws rm).room, s, m, (av.map (aV ad)).toArray, below, meth, c, MQ below (va_Qi post (aBk K ad X s.heap.size) (aA K ad X s.heap.size)) (av.map (aV ad)).toArray s rm.cells rm.slots (aA K ad X s.heap.size), K, aA K ad X s.heap.size, maxL) ad av X post
    ⟨B.exec, B.bytes, hml, hown', hts, hK, fun q h => Or.inr h, rfl, rfl, hB⟩ ⟨hst, hZ, B.notSynchronized⟩ hN htb ⟨Or.inl rfl, rfl, B.notSynchronized⟩ B.returns hT s.heap [] _ hP hD va_S.rf hl
theorem shV_0 : ∀ v : Value, shV 0 v = v
  | .ref _ => rfl
  | .int _ => rfl
  | .long _ => rfl
  | .float _ => rfl
  | .double _ => rfl
  | .null => rfl
  | .retAddr _ => rfl
theorem shVs_0 (l : List Value) : l.map (shV 0) = l := by
  rw [List.map_congr_left (g := id) (fun v _ => shV_0 v), List.map_id]
theorem shE_0 : ∀ e : aE, shE 0 e = e
  | .inl _ => rfl
  | .inr (.inl o) => by
    obtain ⟨c, fs⟩ := o
    simp only [shE, shVs_0]
  | .inr (.inr _) => rfl
theorem shEs_0 (l : List aE) : l.map (shE 0) = l := by
  rw [List.map_congr_left (g := id) (fun v _ => shE_0 v), List.map_id]
theorem gx_of {α : Type} : ∀ {i : Nat} {c : α → Prop} {X : List α} {e : α}, X[i]? = some e → c e → gx i c X
  | i, c, [], e, h, _ => by simp at h
  | 0, c, x :: t, e, h, hc => by
    simp only [List.getElem?_cons_zero, Option.some.injEq] at h
    subst h
    exact hc
  | i + 1, c, x :: t, e, h, hc => by
    rw [List.getElem?_cons_succ] at h
    exact gx_of (i := i) (X := t) h hc
theorem sx_of {α : Type} : ∀ {i : Nat} {e : α} {c : List α → Prop} {X : List α}, i < X.length → c (X.set i e) → sx i e c X
  | i, e, c, [], h, _ => by simp at h
  | 0, e, c, x :: t, _, hc => hc
  | i + 1, e, c, x :: t, h, hc => sx_of (i := i) (X := t) (c := fun t' => c (x :: t')) (by simpa using h) hc
/-- the row of longs stands last -/
def oJas (nx : Nat) : aO := fun K ad k n ls st X => pL (fun x t => pI (fun i t2 => pR (fun q t3 => ∃ (Y : List aE) (o : Nat → Int64), X = Y ++ [.inr (.inr (1, o))] ∧ q = Y.length ∧ i = 0 ∧ K nx ad k n ls t3 (Y ++ [.inr (.inr (1, vp_updL o 0 x))])) t2) t) st
def oJal (nx : Nat) : aO := fun K ad k n ls st X => pI (fun i t => pR (fun q t2 => ∃ (Y : List aE) (o : Nat → Int64), X = Y ++ [.inr (.inr (1, o))] ∧ q = Y.length ∧ i = 0 ∧ K nx ad k n ls (.long (o 0) :: t2) X) t) st
def oGXi (T : xTi) (n ci : Nat) (mc ms RC RS nx : Nat) (ex : aXk) : aO := fun K ad k sl ls st X => tk n [] (fun av t => ∃ (X' Z : List aE) (P : Int32 → List aE → Prop) (E : aXp) (q : Nat) (As fs : List Value), le4 t = true ∧ k + mc ≤ RC ∧ sl + ms ≤ RS ∧ av = .ref q :: As ∧ X[q]? = some (.inr (.inl (ci, fs))) ∧ X = X' ++ Z ∧ T av X' P E ∧
  (∀ r X2, P r X2 → X2.length = X'.length ∧ K nx ad (k + mc) (sl + ms) ls (.int r :: t) (X2 ++ Z)) ∧ (∀ e X2, E e X2 → X2.length = X'.length ∧ ex e ad (k + mc) (sl + ms) ls (X2 ++ Z))) st
/-- what a caught throw answers -/
def exW (code : String → Option Int32) (post : Int32 → List aE → Prop) (ad0 : Nat → Nat) (mc ms : Nat) : aXk := fun E ad k sl _ X => ∃ v, code E = some v ∧ k ≤ mc ∧ sl ≤ ms ∧ ad = ad0 ∧ post v X
section WRAP
variable {Γ : aΓ} {cc : ByteArray} {Ts : List Cond} {own : String} {nL : Nat} {rm : Room} {pc : Nat}
theorem snd_Jas (C : FOK Γ cc Ts own nL rm) (d : decode cc pc = .ok (.lastore, 1)) : Snd Γ pc (oJas (pc + 1)) := by
  intro K hK' ad k n ls st X ho
  refine snd_lastore C d K hK' ad k n ls st X ?_
  dsimp only [oJas] at ho
  obtain ⟨x, t, rfl, h1⟩ := pL_spec ho
  obtain ⟨i, t2, rfl, h2⟩ := pI_spec h1
  obtain ⟨q, t3, rfl, h3⟩ := pR_spec h2
  obtain ⟨Y, o, rfl, rfl, rfl, h⟩ := h3
  show gx Y.length (eJ fun L f => vp_in 0 L ∧ sx Y.length (.inr (.inr (L, vp_updL f 0 x))) (fun X2 => K (pc + 1) ad k n ls t3 X2) (Y ++ [.inr (.inr (1, o))])) (Y ++ [.inr (.inr (1, o))])
  refine gx_of (e := .inr (.inr (1, o))) ?_ ?_
  · rw [List.getElem?_append_right (Nat.le_refl _), Nat.sub_self]
    rfl
  · show vp_in 0 1 ∧ sx Y.length (.inr (.inr (1, vp_updL o 0 x))) (fun X2 => K (pc + 1) ad k n ls t3 X2) (Y ++ [.inr (.inr (1, o))])
    refine ⟨inS (n := 0) (by decide) (by decide), sx_of (by rw [List.length_append]; exact Nat.lt_succ_self _) ?_⟩
    rw [List.set_append_right _ _ (Nat.le_refl _), Nat.sub_self]
    exact h
theorem snd_Jal (C : FOK Γ cc Ts own nL rm) (d : decode cc pc = .ok (.laload, 1)) : Snd Γ pc (oJal (pc + 1)) := by
  intro K hK' ad k n ls st X ho
  refine snd_laload C d K hK' ad k n ls st X ?_
  dsimp only [oJal] at ho
  obtain ⟨i, t, rfl, h1⟩ := pI_spec ho
  obtain ⟨q, t2, rfl, h2⟩ := pR_spec h1
  obtain ⟨Y, o, rfl, rfl, rfl, h⟩ := h2
  show gx Y.length (eJ fun L f => vp_in 0 L ∧ K (pc + 1) ad k n ls (.long (f 0) :: t2) (Y ++ [.inr (.inr (1, o))])) (Y ++ [.inr (.inr (1, o))])
  refine gx_of (e := .inr (.inr (1, o))) ?_ ?_
  · rw [List.getElem?_append_right (Nat.le_refl _), Nat.sub_self]
    rfl
  · exact ⟨(inS (n := 0) (N := 1) (by decide) (by decide) : vp_in 0 1), h⟩
variable {y : MethodName} {ws : List Cond} {rm' : Room} {n ci : Nat}
theorem snd_GXi {T : xTi} {ex : aXk} (C : FOK Γ cc Ts own nL rm) (CX : FOX Γ) (hs : xSite Γ pc n (some ci) rm'.cells rm'.slots y ws rm') (hM : xMi y ws rm' T) (hex : ∀ E ad k sl ls X, ex E ad k sl ls X → FX Γ pc E ad k sl ls X) : Snd Γ pc (oGXi T n ci rm'.cells rm'.slots rm.cells rm.slots (pc + 3) ex) := by
  obtain ⟨p, l, e, R, s, m, args, below, meth, c, Q, G, A, nL'⟩ := Γ
  obtain ⟨hx, hb, hml, hown, hts, hK, hA, rfl, rfl, hB⟩ := C
  intro K hK' ad k sl ls st X ho
  dsimp only [oGXi] at ho
  obtain ⟨av, t, e1, hn, h0⟩ := tk_spec ho
  rw [List.append_nil] at h0
  obtain ⟨X', Z, P, E9, q0, As0, fs0, h4, hc, hsl, hav, hq0, hX, h, hp1, hp2⟩ := h0
  clear ho
  subst e1
  intro H locs la hP hD hS hl
  have hP0 : va_P G.1 vwCl (aX G ad 0 ([] ++ X'.map (shE 0) ++ Z)) H := by rw [shEs_0, List.nil_append, ← hX]; exact hP
  have hD0 : va_D A (aX G ad 0 ([] ++ X'.map (shE 0) ++ Z)) := by rw [shEs_0, List.nil_append, ← hX]; exact hD
  have had : adS ad 0 = ad := rfl
  have hF := fr_free (off := 0) rfl hD0 hS hA
  have hP9 := fr_P (off := 0) rfl hP0
  have hD9 := fr_D (off := 0) rfl hD0
  rw [had] at hF hP9 hD9
  have hrun := hs _ _ _ _ H locs k sl la (av.map (aV ad)) (t.map (aV ad)) (hM l CX.1 G ad H.size av X' _ _ h) (aPcX_blind _ _ _ _ _) (fun U hU hW => ⟨aPc_at hP9 hK hD9 hB hU hW, by
    have h8 := aZ_at CX.2.1 hS hF hU hW
    exact h8⟩) (by rw [List.length_map]; exact hn) hl.1 (le4_spec ad h4) ⟨hc, hsl⟩ (fun ci' hci => by
    cases hci
    rw [hav]
    have hq2 := aX_get G ad X 0 q0 _ hq0
    rw [Nat.zero_add] at hq2
    obtain ⟨qc, g1, -⟩ := hP q0 _ hq2
    obtain ⟨cellB, g2, g3, g4⟩ := va_recv hK hP g1 hq2
    exact ⟨ad q0, As0.map (aV ad), cellB, qc, rfl, g1, g2, g3, g4⟩)
  have hst : List.map (aV ad) (av.reverse ++ t) = (av.map (aV ad)).reverse ++ t.map (aV ad) := by rw [List.map_append, List.map_reverse]
  rw [hst]
  have join : ∀ (X2 : List aE) (H1 : Heap), X2.length = X'.length → (∀ q : Nat, q < H.size → ¬ aA G ad X' H.size q → H1[q]? = H[q]?) → va_P G.1 vwCl (aX G ad 0 X2) H1 → va_P G.1 vwCl (aX G ad 0 (X2 ++ Z)) H1 ∧ va_D A (aX G ad 0 (X2 ++ Z)) := by
    intro X2 H1 hl2 hk hP1
    have g1 := fr_join (off := 0) (X1 := []) (Z := Z) rfl hl2 hP0 hD0 hk hP1
    have g2 := aX_D hD0 (fr_len (off := 0) (X1 := []) (Z := Z) rfl hl2)
    rw [shEs_0, List.nil_append] at g1 g2
    exact ⟨g1, g2⟩
  refine vx_calli hrun hS (fun q _ h9 => hF q h9) hF (fun q _ h9 => hF q h9) (fun E ce q9 u t1 H1 locs1 ht hvm hpx hBx hz hk hS1 g1 g2 g3 => ?_) (fun r u t1 H1 locs1 ht hvm hpost hBk hz hk hS1 => ?_)
  · obtain ⟨hE, hP1, -⟩ := hBx
    subst hE
    rw [ht] at hP1
    obtain ⟨hl2, hpx⟩ := hp2 _ _ hpx
    obtain ⟨j1, j2⟩ := join _ H1 hl2 hk hP1
    exact hex _ _ _ _ _ _ hpx H1 locs1 la (t.map (aV ad)) ce q9 j1 j2 hS1 hl g1 g2 g3
  · obtain ⟨hP1, -⟩ := hBk
    rw [ht] at hP1
    obtain ⟨hl2, hpost⟩ := hp1 _ _ hpost
    obtain ⟨j1, j2⟩ := join _ H1 hl2 hk hP1
    exact hK' _ _ _ _ _ _ _ hpost H1 locs1 la j1 j2 hS1 hl
variable {ad0 : Nat → Nat} {X0 : List aE} {post : Int32 → List aE → Prop}
/-- a handler's rows: the throw put aside, a number answered -/
theorem cat_W {i h kz : Nat} {zz : Int} {v : Int32} {E nm : String} {x : ExceptionTableEntry} {pre suf : List ExceptionTableEntry} {hh : List (Nat × Nat × Nat × Nat)} (C : FOK Γ cc Ts own nL rm) (hQ : isQ Γ (va_Qi post (aBk (gK Γ) ad0 X0 (hsz Γ)) (aA (gK Γ) ad0 X0 (hsz Γ))) rm ad0 X0) (hr : rTy Γ = some .int) (hT : isTb Γ hh)
    (hs : tableOf hh = pre ++ x :: suf) (hpre : pre = [] ∨ ∃ z, pre = [z] ∧ z.catchType ≠ 0 ∧ Cond.classLink own z.catchType nm ∈ Ts ∧ ∀ s : State, aNcs s → va_Nc E nm s) (hN : FOW Γ) (hcov : covers x pc = true) (h0 : x.catchType ≠ 0) (hlk : Cond.classLink own x.catchType E ∈ Ts) (hE : E ∈ aCs) (hh9 : x.handlerPc = h)
    (d0 : decode cc h = .ok (.astore i, kz) ∧ kz = 2 ∨ (∃ j : Fin 4, (j : Nat) = i ∧ decode cc h = .ok (.astore_n j, kz) ∧ kz = 1)) (hi : i < nL) (d1 : decode cc (h + kz) = .ok (.iconst zz, 1)) (hv : Int32.ofInt zz = v) (d2 : decode cc (h + kz + 1) = .ok (.ireturn, 1))
    (ad : Nat → Nat) (k sl : Nat) (ls : List (Nat × Value)) (X : List aE) (hk : k ≤ rm.cells) (hsl : sl ≤ rm.slots) (had : ad = ad0) (hp : post v X) : FX Γ pc E ad k sl ls X := by
  obtain ⟨p, l, e, R, s, m, args, below, meth, c, Q, G, A, nL'⟩ := Γ
  obtain ⟨hx, hb, hml, hown, hts, hK, hA, rfl, rfl, hB⟩ := C
  obtain ⟨hQ, hAe, hlocks⟩ := hQ
  subst hAe
  subst had
  subst hh9
  intro H locs la rest ce q hP hD hS hl g1 g2 g3
  have fin9 : ∀ la2 : Array Slot, W p l e R s m args below meth c H locs k sl Q (F0 m (x.handlerPc + kz) la2 []) := fun la2 => by
    refine lv_iconst hx hb d1 hv ?_
    have key : W p l e R s m args below meth c H locs k sl (MQ below (va_Qi post (aBk G ad X0 s.heap.size) (aA G ad X0 s.heap.size)) args s R.cells R.slots (aA G ad X0 s.heap.size)) (F0 m (x.handlerPc + kz + 1) la2 [.int v]) := by
      refine W.widen (k := R.cells) (n := R.slots) hk hsl ?_
      exact W.iret hx hb hr (fun t ht hW => ⟨⟨v, X, rfl, hp, by rw [ht]; exact hP, hD⟩, hS.F ht⟩) hS.2.2 d2 hlocks
    rcases hQ with hQ | ⟨XC, hQ⟩
    · exact hQ ▸ key
    · exact hQ ▸ vx_ret key
  refine vx_catch (own := own) (E := E) (name := E) hown pre x suf (by rw [← hs]; exact hT) (fun z hz => ?_) hcov h0 (hts _ hlk) (va_tabs rfl rfl (hB.2.2.1 E hE)) g1 g2 g3 ?_
  · rcases hpre with rfl | ⟨z0, rfl, q1, q2, q3⟩
    · cases hz
    · rw [List.mem_singleton.mp hz]
      exact Or.inr ⟨q1, nm, hts _ q2, q3 s hN⟩
  · rcases d0 with ⟨d0, rfl⟩ | ⟨j, hj, d0, rfl⟩
    · exact lv_astore (lv' := (i, .ref q) :: (aL ad ls).filter (kf1 i)) hx hb d0 hl hi rfl (fun la2 _ => fin9 la2)
    · exact lv_astore_n (lv' := (i, .ref q) :: (aL ad ls).filter (kf1 i)) hx hb d0 hj hl hi rfl (fun la2 _ => fin9 la2)
end WRAP
def code1 (E : String) : String → Option Int32 := fun e => if e = E then some 1 else none
def code2 (E F : String) : String → Option Int32 := fun e => if e = E then some 1 else if e = F then some 2 else none
def svI (r : Int32) : Int64 := r.toInt64
def svZ (r : Int32) : Int64 := if r = 0 then 0 else 1
/-- what a wrapper does, by what its method does: the class's things first, the row of longs last -/
def tWr (T : xTi) (code : String → Option Int32) (sv : Int32 → Int64) (as : List Value) (q : Nat) (X : List aE) (post : Int32 → List aE → Prop) : Prop := ∃ (fs : List Value) (C' Z : List aE) (o : Nat → Int64) (P : Int32 → List aE → Prop) (E : aXp), X = .inr (.inl (2, fs)) :: C' ++ Z ++ [.inr (.inr (1, o))] ∧ q = (.inr (.inl (2, fs)) :: C' ++ Z).length ∧ T (.ref 0 :: as) (.inr (.inl (2, fs)) :: C') P E ∧
  (∀ r C2, P r C2 → C2.length = C'.length + 1 ∧ post 0 (C2 ++ Z ++ [.inr (.inr (1, vp_updL o 0 (sv r)))])) ∧ (∀ e C2, E e C2 → C2.length = C'.length + 1 ∧ ∃ v, code e = some v ∧ post v (C2 ++ Z ++ [.inr (.inr (1, o))]))
abbrev tW1 (T : xTi) (code : String → Option Int32) (sv : Int32 → Int64) : aTi := fun av X post => ∃ (a : Int32) (q : Nat), av = [.ref 0, .int a, .ref q] ∧ tWr T code sv [.int a] q X post
abbrev tW2 (T : xTi) (code : String → Option Int32) (sv : Int32 → Int64) : aTi := fun av X post => ∃ (a b : Int32) (q : Nat), av = [.ref 0, .int a, .int b, .ref q] ∧ tWr T code sv [.int a, .int b] q X post
abbrev tW3 (T : xTi) (code : String → Option Int32) (sv : Int32 → Int64) : aTi := fun av X post => ∃ (a b c : Int32) (q : Nat), av = [.ref 0, .int a, .int b, .int c, .ref q] ∧ tWr T code sv [.int a, .int b, .int c] q X post
