/-! ===== things made in a constructor: worlds that grow ===== -/
def okW (N : Nat) : Value → Bool
  | .ref a => Nat.blt a N || Nat.ble 1000 a
  | _ => true
/-- two pictures of the places agree on the first N, and from 1000 on (places of what is no cell of the world) -/
def Ag (N : Nat) (ad ad2 : Nat → Nat) : Prop := ∀ i, (i < N ∨ 1000 ≤ i) → ad2 i = ad i
theorem Ag.rf {N : Nat} {ad : Nat → Nat} : Ag N ad ad := fun _ _ => rfl
theorem Ag.tr {N M : Nat} {a b c : Nat → Nat} (h : Ag N a b) (g : Ag M b c) (hl : N ≤ M) : Ag N a c := fun i hi => (g i (hi.elim (fun z => Or.inl (Nat.lt_of_lt_of_le z hl)) Or.inr)).trans (h i hi)
theorem ag_adx {ad : Nat → Nat} {N q : Nat} (h : N < 1000) : Ag N ad (adx ad N q) := fun i hi => if_neg (by omega)
theorem aV_ag {N : Nat} {ad ad2 : Nat → Nat} (g : Ag N ad ad2) {v : Value} (h : okW N v = true) : aV ad2 v = aV ad v := by
  cases v with
  | ref a =>
    have h7 : (Nat.blt a N || Nat.ble 1000 a) = true := h
    rw [Bool.or_eq_true] at h7
    refine congrArg Value.ref (g a ?_)
    rcases h7 with h8 | h8
    · exact Or.inl (Nat.blt_eq.mp h8)
    · exact Or.inr (Nat.le_of_ble_eq_true h8)
  | _ => rfl
theorem aVs_ag {N : Nat} {ad ad2 : Nat → Nat} (g : Ag N ad ad2) {l : List Value} (h : l.all (okW N) = true) : l.map (aV ad2) = l.map (aV ad) :=
  List.map_congr_left fun v hv => aV_ag g (List.all_eq_true.mp h v hv)
theorem aL_ag {N : Nat} {ad ad2 : Nat → Nat} (g : Ag N ad ad2) {ls : List (Nat × Value)} (h : ls.all (fun z => okW N z.2) = true) : aL ad2 ls = aL ad ls :=
  List.map_congr_left fun z hz => by rw [aV_ag g (List.all_eq_true.mp h z hz)]
theorem aV_lt {N : Nat} {ad ad2 : Nat → Nat} (g : ∀ i, i < N → ad2 i = ad i) {v : Value} (h : okV N v = true) : aV ad2 v = aV ad v := by
  cases v with
  | ref a => exact congrArg Value.ref (g a (Nat.blt_eq.mp h))
  | _ => rfl
theorem aC_lt {K : aG} {N : Nat} {ad ad2 : Nat → Nat} (g : ∀ i, i < N → ad2 i = ad i) {e : aE} (h : okE N e = true) : aC K ad2 e = aC K ad e := by
  rcases e with ⟨b, n, f⟩ | o | z
  · cases b <;> rfl
  · obtain ⟨c, fs⟩ := o
    have h7 : fs.all (okV N) = true := h
    have h8 : fs.map (aV ad2) = fs.map (aV ad) := List.map_congr_left fun v hv => aV_lt g (List.all_eq_true.mp h7 v hv)
    simp only [aC, h8]
  · obtain ⟨b, n, f⟩ := z
    have h9 : rwF ad2 n f = rwF ad n f := rwF_cg fun i hi => g _ (okE_rw h i hi)
    cases b <;> simp only [aC, h9]
theorem aX_lt {K : aG} {N : Nat} {ad ad2 : Nat → Nat} (g : ∀ i, i < N → ad2 i = ad i) : ∀ (X : List aE) (i : Nat), X.all (okE N) = true → i + X.length ≤ N → aX K ad2 i X = aX K ad i X
  | [], i, _, _ => rfl
  | x :: t, i, h, hl => by
    rw [List.all_cons, Bool.and_eq_true] at h
    rw [List.length_cons] at hl
    simp only [aX]
    rw [aC_lt g h.1, aX_lt g t (i + 1) h.2 (by omega), g i (by omega)]
/-- the callee's places, in the caller's list -/
theorem aX_shf {K : aG} {off : Nat} {adJ ad2 : Nat → Nat} : ∀ (X : List aE) (i : Nat), (∀ e ∈ X, aC K (adS adJ off) e = aC K ad2 e) → (∀ j, i ≤ j → j < i + X.length → adJ (j + off) = ad2 j) → aX K adJ (i + off) (X.map (shE off)) = aX K ad2 i X
  | [], i, _, _ => rfl
  | x :: t, i, h, hj => by
    have ih := aX_shf (K := K) (off := off) (adJ := adJ) (ad2 := ad2) t (i + 1) (fun e he => h e (List.mem_cons_of_mem _ he)) (fun j h1 h2 => hj j (by omega) (by rw [List.length_cons]; omega))
    rw [show i + 1 + off = i + off + 1 by omega] at ih
    simp only [List.map_cons, aX]
    rw [ih, aC_sh, h x List.mem_cons_self, hj i (Nat.le_refl i) (by rw [List.length_cons]; omega)]
theorem aX_push2 {K : aG} {ad : Nat → Nat} {q : Nat} {X : List aE} {e : aE} (h : X.all (okE X.length) = true) : aX K (adx ad X.length q) 0 (X ++ [e]) = aX K ad 0 X ++ [(q, aC K (adx ad X.length q) e)] := aX_push h
def oNI (N RC RS nx : Nat) : aO := fun K ad k n ls st X => pI (fun cn t => ck (ls.all (fun z => okW X.length z.2)) (ck (t.all (okW X.length)) (ck (X.all (okE X.length)) (ck (Nat.ble (k + 1) RC) (ck (Nat.ble (n + N) RS) (ck (Nat.blt X.length 1000) (cn = nI N ∧ ∀ ad2, Ag X.length ad ad2 → K nx ad2 (k + 1) (n + N) ls (.ref X.length :: t) (X ++ [.inl (false, N, fun _ => 0)])))))))) st
def oNZ (N RC RS nx : Nat) : aO := fun K ad k n ls st X => pI (fun cn t => ck (ls.all (fun z => okW X.length z.2)) (ck (t.all (okW X.length)) (ck (X.all (okE X.length)) (ck (Nat.ble (k + 1) RC) (ck (Nat.ble (n + N) RS) (ck (Nat.blt X.length 1000) (cn = nI N ∧ ∀ ad2, Ag X.length ad ad2 → K nx ad2 (k + 1) (n + N) ls (.ref X.length :: t) (X ++ [.inl (true, N, fun _ => 0)])))))))) st
def oNO (ci N : Nat) (fs : List Value) (RC RS nx : Nat) : aO := fun K ad k n ls st X => ck (ls.all (fun z => okW X.length z.2)) (ck (st.all (okW X.length)) (ck (X.all (okE X.length)) (ck (Nat.ble (k + 1) RC) (ck (Nat.ble (n + N) RS) (ck (Nat.blt X.length 1000) (∀ ad2, Ag X.length ad ad2 → K nx ad2 (k + 1) (n + N) ls (.ref X.length :: st) (X ++ [.inr (.inl (ci, fs))])))))))
def isInit (Γ : aΓ) : Prop := match Γ with
  | (p, l, e, R, s, m, args, below, meth, c, Q, K, A, nL) => meth.name = "<init>"
/-- a constructor's contract: it leaves a longer world -/
def aBc (K : aG) (ad : Nat → Nat) (X : List aE) (sz : Nat) : (Nat → Nat) × List aE → State → Prop := fun u t => Ag X.length ad u.1 ∧ aP K u.1 u.2 t.heap ∧ va_D (aA K ad X sz) (aX K u.1 0 u.2)
def aMc (y : MethodName) (ws : List Cond) (rm : Room) (T : aTv) : Prop := ∀ (l : Launch) (K : aG) (ad : Nat → Nat) (sz : Nat) (av : List Value) (X : List aE) (post : List aE → Prop), T av X post →
  Met l y ws rm (aPc K ad av X sz) (va_Qv (fun u : (Nat → Nat) × List aE => post u.2) (aBc K ad X sz) (aA K ad X sz)) rm.cells rm.slots (aA K ad X sz)
def oNc (off : Nat) (T : aTv) (n : Nat) (ro : Option Nat) (mc ms RC RS nx : Nat) : aO := fun K ad k sl ls st X => tk n [] (fun av t => rcv ro X (ck (le4 t) (ck (Nat.ble (k + mc) RC) (ck (Nat.ble (sl + ms) RS) (∃ (X1 X' : List aE) (av' : List Value), X1.length = off ∧ X = X1 ++ X'.map (shE off) ∧ av = av'.map (shV off) ∧ ls.all (fun z => okW X.length z.2) = true ∧ t.all (okW X.length) = true ∧ X1.all (okE X.length) = true ∧ T av' X' (fun X2 => X'.length ≤ X2.length ∧ off + X2.length ≤ 1000 ∧ X2.all (okE X2.length) = true ∧ ∀ ad2, Ag X.length ad ad2 → K nx ad2 (k + mc) (sl + ms) ls t (X1 ++ X2.map (shE off))))))) av) st
def oPutR (ci kf nx : Nat) : aO := fun K ad k n ls st X => pR (fun x t => pR (fun q t2 => gx q (eO ci fun fs => sx kf (.ref x) (fun fs2 => sx q (.inr (.inl (ci, fs2))) (fun X2 => K nx ad k n ls t2 X2) X) fs) X) t) st
def oOI (nx : Nat) : aO := fun K ad k n ls st X => pR (fun _ t => ck (le4 t) (K nx ad k n ls t X)) st
def oRc (post : List aE → Prop) (ad0 : Nat → Nat) (N0 mc ms : Nat) : aO := fun K ad k sl ls st X => ck (List.isEmpty st) (ck (Nat.ble k mc) (ck (Nat.ble sl ms) (Ag N0 ad0 ad ∧ post X)))
section NEWS
variable {Γ : aΓ} {cc : ByteArray} {Ts : List Cond} {own : String} {nL : Nat} {rm : Room} {pc : Nat}
theorem snd_NI (C : FOK Γ cc Ts own nL rm) {N : Nat} (hN : N < 10000) (d : decode cc pc = .ok (.newarray .int, 2)) (hm : Cond.arrayClass .int ∈ Ts) : Snd Γ pc (oNI N rm.cells rm.slots (pc + 2)) := by
  obtain ⟨p, l, e, R, s, m, args, below, meth, c, Q, G, A, nL'⟩ := Γ
  obtain ⟨hx, hb, hml, hown, hts, hK, hA, rfl, rfl, hB⟩ := C
  intro K hK' ad k n ls st X ho
  dsimp only [oNI] at ho
  obtain ⟨cn, t, rfl, h0⟩ := pI_spec ho
  obtain ⟨c1, h1⟩ := ck_spec h0
  obtain ⟨c2, h2⟩ := ck_spec h1
  obtain ⟨c3, h3⟩ := ck_spec h2
  obtain ⟨c4, h4⟩ := ck_spec h3
  obtain ⟨c5, h5⟩ := ck_spec h4
  obtain ⟨c6, rfl, h⟩ := ck_spec h5
  intro H locs la hP hD hS hl
  refine va_newa hx hb (atype := .int) (hts _ hm) (ty := .int) rfl hK hP hD hS hA (N' := N) (a0 := (N, .inl (fun _ => 0))) (fun cA => rfl) (nI_pos (by omega)) (nI_clampS hN) (Nat.le_trans (Nat.mul_le_mul_right _ (by omega : N ≤ 10000)) (by decide)) (Nat.le_of_ble_eq_true c4) (Nat.le_of_ble_eq_true c5) d (fun q cA H1 hK1 hP1 hD1 hS1 => ?_)
  have hc : cA = G.2.1 := by
    have g1 : s.vm.findClass ("[" ++ FieldType.int.toString) = some G.2.1 := (hK.2 0 (G.2.1, .int) rfl).2
    have g2 : s.vm.findClass ("[" ++ FieldType.int.toString) = some cA := (hK1.2 4 (cA, .int) rfl).2
    exact (Option.some.inj (g1.symm.trans g2)).symm
  subst hc
  have ag : Ag X.length ad (adx ad X.length q) := ag_adx (Nat.blt_eq.mp c6)
  have hX : aX G (adx ad X.length q) 0 (X ++ [.inl (false, N, fun _ => 0)]) = aX G ad 0 X ++ [(q, .inl (G.2.1, N, .inl (fun _ => 0)))] := aX_push c3
  have hst : ((Value.ref X.length :: t).map (aV (adx ad X.length q))) = .ref q :: t.map (aV ad) := by
    rw [List.map_cons, aVs_ag ag c2]
    show Value.ref (if X.length = X.length then q else _) :: _ = _
    rw [if_pos rfl]
  have key := hK' _ _ _ _ _ _ _ (h _ ag) H1 locs la (by rw [hX]; exact hP1) (by rw [hX]; exact hD1) hS1 (by rw [aL_ag ag c1]; exact hl)
  rw [hst] at key
  exact key
theorem snd_NZ (C : FOK Γ cc Ts own nL rm) {N : Nat} (hN : N < 10000) (d : decode cc pc = .ok (.newarray .boolean, 2)) (hm : Cond.arrayClass .boolean ∈ Ts) : Snd Γ pc (oNZ N rm.cells rm.slots (pc + 2)) := by
  obtain ⟨p, l, e, R, s, m, args, below, meth, c, Q, G, A, nL'⟩ := Γ
  obtain ⟨hx, hb, hml, hown, hts, hK, hA, rfl, rfl, hB⟩ := C
  intro K hK' ad k n ls st X ho
  dsimp only [oNZ] at ho
  obtain ⟨cn, t, rfl, h0⟩ := pI_spec ho
  obtain ⟨c1, h1⟩ := ck_spec h0
  obtain ⟨c2, h2⟩ := ck_spec h1
  obtain ⟨c3, h3⟩ := ck_spec h2
  obtain ⟨c4, h4⟩ := ck_spec h3
  obtain ⟨c5, h5⟩ := ck_spec h4
  obtain ⟨c6, rfl, h⟩ := ck_spec h5
  intro H locs la hP hD hS hl
  refine va_newa hx hb (atype := .boolean) (hts _ hm) (ty := .boolean) rfl hK hP hD hS hA (N' := N) (a0 := (N, .inl (fun _ => 0))) (fun cA => rfl) (nI_pos (by omega)) (nI_clampS hN) (Nat.le_trans (Nat.mul_le_mul_right _ (by omega : N ≤ 10000)) (by decide)) (Nat.le_of_ble_eq_true c4) (Nat.le_of_ble_eq_true c5) d (fun q cA H1 hK1 hP1 hD1 hS1 => ?_)
  have hc : cA = G.2.2.1 := by
    have g1 : s.vm.findClass ("[" ++ FieldType.boolean.toString) = some G.2.2.1 := (hK.2 1 (G.2.2.1, .boolean) rfl).2
    have g2 : s.vm.findClass ("[" ++ FieldType.boolean.toString) = some cA := (hK1.2 4 (cA, .boolean) rfl).2
    exact (Option.some.inj (g1.symm.trans g2)).symm
  subst hc
  have ag : Ag X.length ad (adx ad X.length q) := ag_adx (Nat.blt_eq.mp c6)
  have hX : aX G (adx ad X.length q) 0 (X ++ [.inl (true, N, fun _ => 0)]) = aX G ad 0 X ++ [(q, .inl (G.2.2.1, N, .inl (fun _ => 0)))] := aX_push c3
  have hst : ((Value.ref X.length :: t).map (aV (adx ad X.length q))) = .ref q :: t.map (aV ad) := by
    rw [List.map_cons, aVs_ag ag c2]
    show Value.ref (if X.length = X.length then q else _) :: _ = _
    rw [if_pos rfl]
  have key := hK' _ _ _ _ _ _ _ (h _ ag) H1 locs la (by rw [hX]; exact hP1) (by rw [hX]; exact hD1) hS1 (by rw [aL_ag ag c1]; exact hl)
  rw [hst] at key
  exact key
theorem snd_NO (C : FOK Γ cc Ts own nL rm) {ci N index : Nat} {Cn : String} {T : u_T} {ty0 : Nat → FieldType} {fs : List Value} (d : decode cc pc = .ok (.new index, 3)) (hc : vwCl[ci]? = some (Cn, T, N)) (hin : ∀ w ∈ u_ws Cn T N, w ∈ Ts) (hty : ∀ k, k < N → parseFieldDescriptor (T k).2.2.1 = some (ty0 k)) (hcl : Cond.classLink own index Cn ∈ Ts) (hinst : Cond.instantiable Cn N ∈ Ts) (hini : Cond.initialized Cn ∈ Ts)
    (hfs : ∀ j, j < N → defaultValue (ty0 j) = vp_V fs j) (hfr : ∀ ad : Nat → Nat, fs.map (aV ad) = fs) : Snd Γ pc (oNO ci N fs rm.cells rm.slots (pc + 3)) := by
  obtain ⟨p, l, e, R, s, m, args, below, meth, c, Q, G, A, nL'⟩ := Γ
  obtain ⟨hx, hb, hml, hown, hts, hK, hA, rfl, rfl, hB⟩ := C
  intro K hK' ad k n ls st X ho
  dsimp only [oNO] at ho
  obtain ⟨c1, h1⟩ := ck_spec ho
  obtain ⟨c2, h2⟩ := ck_spec h1
  obtain ⟨c3, h3⟩ := ck_spec h2
  obtain ⟨c4, h4⟩ := ck_spec h3
  obtain ⟨c5, h5⟩ := ck_spec h4
  obtain ⟨c6, h⟩ := ck_spec h5
  intro H locs la hP hD hS hl
  refine va_new hx hb hts hin ty0 hty hown (hts _ hcl) (hts _ hinst) (hts _ hini) hK hP hD hS hA hc hfs (Nat.le_of_ble_eq_true c4) (Nat.le_of_ble_eq_true c5) d (fun q H1 hP1 hD1 hS1 => ?_)
  have ag : Ag X.length ad (adx ad X.length q) := ag_adx (Nat.blt_eq.mp c6)
  have hX : aX G (adx ad X.length q) 0 (X ++ [.inr (.inl (ci, fs))]) = aX G ad 0 X ++ [(q, .inr (ci, fs))] := by
    rw [aX_push c3]
    simp only [aC, hfr]
  have hst : ((Value.ref X.length :: st).map (aV (adx ad X.length q))) = .ref q :: st.map (aV ad) := by
    rw [List.map_cons, aVs_ag ag c2]
    show Value.ref (if X.length = X.length then q else _) :: _ = _
    rw [if_pos rfl]
  have key := hK' _ _ _ _ _ _ _ (h _ ag) H1 locs la (by rw [hX]; exact hP1) (by rw [hX]; exact hD1) hS1 (by rw [aL_ag ag c1]; exact hl)
  rw [hst] at key
  exact key
theorem snd_putRF (C : FOK Γ cc Ts own nL rm) (hI : isInit Γ) {ci kf index N : Nat} {ref Cn : String} {T : u_T} {ty0 : Nat → FieldType} (d : decode cc pc = .ok (.putfield index, 3)) (hc : vwCl[ci]? = some (Cn, T, N)) (hk : kf < N) (hin : ∀ w ∈ u_ws Cn T N, w ∈ Ts) (hty : ∀ k, k < N → parseFieldDescriptor (T k).2.2.1 = some (ty0 k)) (hnm : ∀ a, a < N → ∀ b, b < N → a ≠ b → (T a).2.1 ≠ (T b).2.1) (hfin : (T kf).2.2.2 = true) (hdecl : (T kf).1 = own) (hn : ∀ a, narrow (ty0 kf) (.ref a) = .ref a) (hfit : ∀ a, fits (ty0 kf) (.ref a) = true) (href : ref = (T kf).1) (hw : Cond.fieldLink own index ref (T kf).2.1 (T kf).2.2.1 ∈ Ts) : Snd Γ pc (oPutR ci kf (pc + 3)) := by
  obtain ⟨p, l, e, R, s, m, args, below, meth, c, Q, G, A, nL'⟩ := Γ
  obtain ⟨hx, hb, hml, hown, hts, hK, hA, rfl, rfl, hB⟩ := C
  have hI : meth.name = "<init>" := hI
  intro K hK' ad k n ls st X ho
  dsimp only [oPutR] at ho
  obtain ⟨x, t, rfl, g1⟩ := pR_spec ho
  obtain ⟨q, t2, rfl, g2⟩ := pR_spec g1
  obtain ⟨e0, h1, g3⟩ := gx_spec g2
  obtain ⟨fs, he9, g4⟩ := eO_spec g3
  subst he9
  obtain ⟨hlt, g5⟩ := sx_spec g4
  obtain ⟨-, h⟩ := sx_spec g5
  subst href
  intro H locs la hP hD hS hl
  have hq := aX_get G ad X 0 q _ h1
  rw [Nat.zero_add] at hq
  have hset : (aX G ad 0 X).set q (ad q, aC G ad (.inr (.inl (ci, fs.set kf (.ref x))))) = aX G ad 0 (X.set q (.inr (.inl (ci, fs.set kf (.ref x))))) := by
    have h9 := aX_set G ad X 0 q (.inr (.inl (ci, fs.set kf (.ref x))))
    rwa [Nat.zero_add] at h9
  have hmap : ((fs.map (aV ad)).set kf (.ref (ad x))) = (fs.set kf (.ref x)).map (aV ad) := by rw [List.map_set]; rfl
  refine va_putF hx hb hts hin ty0 hty hnm hown hK hP hD hS q hq hc kf hk (hts _ hw) (fun _ h9 => h9) hfin hI hdecl (ty := ty0 kf) (v := .ref (ad x)) (hty kf hk) (hn _) (hfit _) (by rw [List.length_map]; exact hlt) d (fun H1 locs1 hP1 hD1 hS1 => ?_)
  rw [hmap] at hP1 hD1
  have hP2 : va_P G.1 vwCl (aX G ad 0 (X.set q (.inr (.inl (ci, fs.set kf (.ref x)))))) H1 := hset ▸ hP1
  have hD2 : va_D A (aX G ad 0 (X.set q (.inr (.inl (ci, fs.set kf (.ref x)))))) := hset ▸ hD1
  exact hK' _ _ _ _ _ _ _ h H1 locs1 la hP2 hD2 hS1 hl
theorem snd_OI (C : FOK Γ cc Ts own nL rm) {index : Nat} (d : decode cc pc = .ok (.invokespecial index, 3)) (h1 : Cond.methodLink own index objectInit ∈ Ts) (h2 : Cond.instanceMethod objectInit ∈ Ts) (h3 : Cond.code objectInit ⟨#[0xb1]⟩ 1 none ∈ Ts) (hR : 1 ≤ rm.frames ∧ 20 ≤ rm.locals) : Snd Γ pc (oOI (pc + 3)) := by
  obtain ⟨p, l, e, R, s, m, args, below, meth, c, Q, G, A, nL'⟩ := Γ
  obtain ⟨hx, hb, hml, hown, hts, hK, hA, rfl, rfl, hB⟩ := C
  intro K hK' ad k n ls st X ho
  dsimp only [oOI] at ho
  obtain ⟨q, t, rfl, g1⟩ := pR_spec ho
  obtain ⟨c1, h⟩ := ck_spec g1
  intro H locs la hP hD hS hl
  have h5 := le4_spec ad c1
  have h6 := lv_room (m := m) (pc := pc) (ls := la) (rest := t.map (aV ad)) h5
  refine W.objInit hx hb hown (hts _ h1) (hts _ h2) (hts _ h3) rfl (by rw [hml]; exact hl.1) rfl d hR.1 (Nat.le_trans (Nat.add_le_add_right (h6 : _ ≤ 8) 12) hR.2) ?_
  exact hK' _ _ _ _ _ _ _ h H locs la hP hD hS hl
variable {y : MethodName} {ws ws' : List Cond} {rm' : Room} {bytes : ByteArray} {maxL : Nat} {index mc ms n : Nat} {ro : Option Nat}
/-- a constructor of a nest mate -/
theorem site_IN (C : FOK Γ cc Ts own nL rm) {Cn : String} {ci : Nat} {T : u_T} {N : Nat} (hc : vwCl[ci]? = some (Cn, T, N)) (d : decode cc pc = .ok (.invokespecial index, 3)) (hg : GoodIn Ts ws) (hw : ws = Cond.code y bytes maxL none :: ws') (hrc : rm'.cells = mc) (hrs : rm'.slots = ms) (hN : (own, index, y) ∈ aNm) (hi : Cond.initialized y.cls ∈ Ts) (him : Cond.instanceMethod y ∈ Ts) (hyn : y.name = "<init>")
    (hd : y.cls ≠ "java/lang/invoke/MethodHandle" ∧ y.cls ≠ "java/lang/invoke/VarHandle" ∧ (parseMethodDescriptor y.desc).map (fun d => d.parameters.length) = some n) (hR : rm'.frames + 1 ≤ rm.frames ∧ 8 + (maxL + 11) + rm'.locals ≤ rm.locals) : aSite Γ pc (n + 1) (some ci) mc ms y ws rm' := by
  obtain ⟨p, l, e, R, s, m, args, below, meth, c, Q, G, A, nL'⟩ := Γ
  obtain ⟨hx, hb, hml, hown, hts, hK, hA, rfl, rfl, hB⟩ := C
  intro Pc Qc free H locs k sl la av rest hM hbl hpc hn hsz hcat hf hro
  obtain ⟨b, As, cellB, q, rfl, hq, h1, h2, h3⟩ := hro ci rfl
  have hr := va_runIN (b := b) (As := As) (rest := rest) (g := F0 m pc la ((Value.ref b :: As).reverse ++ rest)) (e := e) (meth := meth) (below := below) (locs := locs) (host := "PaintedDie") ⟨hx, hb, hml, hown, hts⟩ hM ⟨va_cnB n hts hg hw hrc hrs (hB.1.2 _ hN) (hts _ hi) hd hR, hyn, hts _ him⟩ ⟨hbl, hpc⟩ rfl (by simpa using hn) hsz (by simp) (lv_room hcat) d hf
  exact hr
/-- of a class that the caller sees -/
theorem site_I (C : FOK Γ cc Ts own nL rm) {Cn : String} {ci : Nat} {T : u_T} {N : Nat} (hc : vwCl[ci]? = some (Cn, T, N)) (d : decode cc pc = .ok (.invokespecial index, 3)) (hg : GoodIn Ts ws) (hw : ws = Cond.code y bytes maxL none :: ws') (hrc : rm'.cells = mc) (hrs : rm'.slots = ms) (hl : Cond.methodLink own index y ∈ Ts) (hi : Cond.initialized y.cls ∈ Ts) (him : Cond.instanceMethod y ∈ Ts) (hyn : y.name = "<init>")
    (hd : y.cls ≠ "java/lang/invoke/MethodHandle" ∧ y.cls ≠ "java/lang/invoke/VarHandle" ∧ (parseMethodDescriptor y.desc).map (fun d => d.parameters.length) = some n) (hR : rm'.frames + 1 ≤ rm.frames ∧ 8 + (maxL + 11) + rm'.locals ≤ rm.locals) : aSite Γ pc (n + 1) (some ci) mc ms y ws rm' := by
  obtain ⟨p, l, e, R, s, m, args, below, meth, c, Q, G, A, nL'⟩ := Γ
  obtain ⟨hx, hb, hml, hown, hts, hK, hA, rfl, rfl, hB⟩ := C
  intro Pc Qc free H locs k sl la av rest hM hbl hpc hn hsz hcat hf hro
  obtain ⟨b, As, cellB, q, rfl, hq, h1, h2, h3⟩ := hro ci rfl
  have hr := va_runI (b := b) (As := As) (rest := rest) (g := F0 m pc la ((Value.ref b :: As).reverse ++ rest)) (e := e) (meth := meth) (below := below) (locs := locs) ⟨hx, hb, hml, hown, hts⟩ hM (cwI n hts hg hw hrc hrs (hts _ hi) (hts _ hl) (hts _ him) hyn hd hR) ⟨hbl, hpc⟩ rfl (by simpa using hn) hsz (by simp) (lv_room hcat) d hf
  exact hr
theorem snd_Nc (off : Nat) {T : aTv} (C : FOK Γ cc Ts own nL rm) (hs : aSite Γ pc n ro rm'.cells rm'.slots y ws rm') (hM : aMc y ws rm' T) : Snd Γ pc (oNc off T n ro rm'.cells rm'.slots rm.cells rm.slots (pc + 3)) := by
  obtain ⟨p, l, e, R, s, m, args, below, meth, c, Q, G, A, nL'⟩ := Γ
  obtain ⟨hx, hb, hml, hown, hts, hK, hA, rfl, rfl, hB⟩ := C
  intro K hK' ad k sl ls st X ho
  dsimp only [oNc] at ho
  obtain ⟨av, t, e1, hn, h0⟩ := tk_spec ho
  rw [List.append_nil] at h0
  obtain ⟨h1, hro⟩ := rcv_spec h0
  obtain ⟨h4, h2⟩ := ck_spec h1
  obtain ⟨hc, h3⟩ := ck_spec h2
  obtain ⟨hsl, X1, X', av', hof, e2, e3, cl, ct9, cx, h⟩ := ck_spec h3
  clear ho h0 h1 h2 h3
  subst e1 e2 e3
  intro H locs la hP hD hS hl
  have hP0 : va_P G.1 vwCl (aX G ad 0 (X1 ++ X'.map (shE off) ++ [])) H := by rw [List.append_nil]; exact hP
  have hD0 : va_D A (aX G ad 0 (X1 ++ X'.map (shE off) ++ [])) := by rw [List.append_nil]; exact hD
  have hF := fr_free hof hD0 hS hA
  have hpc := fun (U : State) hU hW => aPc_at (av := av') (U := U) (fr_P hof hP0) hK (fr_D hof hD0) hB hU hW
  rw [← aVs_sh] at hpc
  have hrun := hs _ _ _ H locs k sl la ((av'.map (shV off)).map (aV ad)) (t.map (aV ad)) (hM l G (adS ad off) H.size av' X' _ h) (aPc_blind _ _ _ _ _) hpc (by rw [List.length_map]; exact hn) hl.1 (le4_spec ad h4) ⟨Nat.le_of_ble_eq_true hc, Nat.le_of_ble_eq_true hsl⟩ (fun ci hci => by
    obtain ⟨q, As, fs, eq, hq⟩ := hro ci hci
    rw [eq]
    have hq2 := aX_get G ad _ 0 q _ hq
    rw [Nat.zero_add] at hq2
    obtain ⟨qc, g0, -⟩ := hP q _ hq2
    obtain ⟨cellB, g1, g2, g3⟩ := va_recv hK hP g0 hq2
    exact ⟨ad q, As.map (aV ad), cellB, qc, rfl, g0, g1, g2, g3⟩)
  have hst : List.map (aV ad) ((av'.map (shV off)).reverse ++ t) = ((av'.map (shV off)).map (aV ad)).reverse ++ t.map (aV ad) := by rw [List.map_append, List.map_reverse]
  rw [hst]
  refine va_callv hrun hS (fun q _ h9 => hF q h9) hF (fun u t1 H1 locs1 ht hvm hpost hBk hz hk hS1 => ?_)
  obtain ⟨ad', X2⟩ := u
  obtain ⟨hag, hP1, hD1⟩ := hBk
  rw [ht] at hP1
  obtain ⟨p1, p2, p3, hpost⟩ := hpost
  dsimp only at hag hP1 hD1 p1 p2 p3 hpost
  have p3' := List.all_eq_true.mp p3
  obtain ⟨adJ, hJ⟩ : ∃ f : Nat → Nat, f = fun j => if j < off then ad j else if j < off + X2.length then ad' (j - off) else ad j := ⟨_, rfl⟩
  have j1 : ∀ j, j < off → adJ j = ad j := fun j hj => by rw [hJ]; exact if_pos hj
  have j2 : ∀ j, j < X2.length → adJ (j + off) = ad' j := fun j hj => by
    rw [hJ]
    show (if j + off < off then _ else if j + off < off + X2.length then ad' (j + off - off) else _) = _
    rw [if_neg (by omega), if_pos (by omega), show j + off - off = j by omega]
  have j3 : Ag (X1 ++ X'.map (shE off)).length ad adJ := fun i hi => by
    rw [List.length_append, List.length_map, hof] at hi
    by_cases z1 : i < off
    · exact j1 i z1
    · by_cases z2 : i < off + X2.length
      · have g1 := j2 (i - off) (by omega)
        rw [show i - off + off = i by omega] at g1
        rw [g1, hag (i - off) (by omega)]
        show ad (i - off + off) = ad i
        rw [show i - off + off = i by omega]
      · rw [hJ]
        show (if i < off then _ else if i < off + X2.length then _ else ad i) = _
        rw [if_neg z1, if_neg z2]
  have e1 : aX G adJ 0 X1 = aX G ad 0 X1 := aX_lt (N := (X1 ++ X'.map (shE off)).length) (fun i hi => j3 i (Or.inl hi)) X1 0 cx (by rw [List.length_append]; omega)
  have e2 : aX G adJ X1.length (X2.map (shE off)) = aX G ad' 0 X2 := by
    have h7 := aX_shf (K := G) (off := off) (adJ := adJ) (ad2 := ad') X2 0 (fun e0 he => aC_lt (N := X2.length) (fun i hi => j2 i hi) (p3' e0 he)) (fun j _ hj => j2 j (by omega))
    rw [Nat.zero_add] at h7
    rw [hof]
    exact h7
  have e3 : aX G adJ 0 (X1 ++ X2.map (shE off)) = aX G ad 0 X1 ++ aX G ad' 0 X2 := by rw [aX_app, Nat.zero_add, e1, e2]
  have up : ∀ (i : Nat) (x : Nat × va_E), (aX G ad 0 X1)[i]? = some x → i < off ∧ (aX G ad 0 (X1 ++ X'.map (shE off)))[i]? = some x := fun i x hx => by
    obtain ⟨e0, g1, g2⟩ := aX_inv G ad X1 0 i x hx
    have hi := (List.getElem?_eq_some_iff.mp g1).1
    refine ⟨by omega, ?_⟩
    rw [g2, Nat.zero_add]
    exact aX_at G ad (by rw [List.getElem?_append_left hi]; exact g1)
  have apart : ∀ (i : Nat) (x : Nat × va_E), (aX G ad 0 X1)[i]? = some x → x.1 < H.size ∧ ¬ aA G (adS ad off) X' H.size x.1 := fun i x hx => by
    obtain ⟨hi, hx2⟩ := up i x hx
    have hlt := (hP i x hx2).lt
    refine ⟨hlt, fun z => ?_⟩
    rcases z with ⟨j, w, hj⟩ | z
    · obtain ⟨e', g1, g2⟩ := aX_inv G (adS ad off) X' 0 j _ hj
      have g3 := aX_at G ad (fr_mid (Z := []) hof g1)
      rw [List.append_nil] at g3
      have g4 := hD.1 i (j + off) _ _ hx2 g3 (by
        have g5 := congrArg Prod.fst g2
        rw [Nat.zero_add] at g5
        exact g5)
      omega
    · omega
  have hPA : va_P G.1 vwCl (aX G ad 0 X1) H := fun i x hx => hP i x (up i x hx).2
  have hDA : va_D A (aX G ad 0 X1) := ⟨fun i j x y hx hy hxy => hD.1 i j x y (up i x hx).2 (up j y hy).2 hxy, fun i x hx => hD.2 i x (up i x hx).2⟩
  have hPJ : va_P G.1 vwCl (aX G adJ 0 (X1 ++ X2.map (shE off))) H1 := by
    rw [e3]
    exact (hPA.kept (fun i x hx => hk x.1 (apart i x hx).1 (apart i x hx).2)).app hP1
  have hDJ : va_D A (aX G adJ 0 (X1 ++ X2.map (shE off))) := by
    rw [e3]
    exact va_D.app hDA (hD1.weaken (fun _ _ _ h9 => hF _ h9)) (fun i j x y hx hy hxy => (apart i x hx).2 (by rw [hxy]; exact hD1.2 j y hy))
  have key := hK' _ _ _ _ _ _ _ (hpost adJ j3) H1 locs1 la hPJ hDJ hS1 (by rw [aL_ag j3 cl]; exact hl)
  rw [aVs_ag j3 ct9] at key
  exact key
variable {ad0 : Nat → Nat} {X0 : List aE}
theorem snd_Rc {post : List aE → Prop} {N0 : Nat} (C : FOK Γ cc Ts own nL rm) (hQ : isQ Γ (va_Qv (fun u : (Nat → Nat) × List aE => post u.2) (aBc (gK Γ) ad0 X0 (hsz Γ)) (aA (gK Γ) ad0 X0 (hsz Γ))) rm ad0 X0) (hN : X0.length = N0) (hr : rTy Γ = none) (d : decode cc pc = .ok (.return_, 1)) : Snd Γ pc (oRc post ad0 N0 rm.cells rm.slots) := by
  obtain ⟨p, l, e, R, s, m, args, below, meth, c, Q, G, A, nL'⟩ := Γ
  obtain ⟨hx, hb, hml, hown, hts, hK, hA, rfl, rfl, hB⟩ := C
  subst hN
  intro K hK' ad k sl ls st X ho
  dsimp only [oRc] at ho
  obtain ⟨h4, h7⟩ := ck_spec ho
  obtain ⟨hc, h8⟩ := ck_spec h7
  obtain ⟨hsl, had, hpost⟩ := ck_spec h8
  have h5 := List.isEmpty_iff.mp h4
  subst h5
  obtain ⟨hQ, hAe, hlocks⟩ := hQ
  subst hAe
  intro H locs la hP hD hS hl
  have key : W p l e R s m args below meth c H locs k sl (MQ below (va_Qv (fun u : (Nat → Nat) × List aE => post u.2) (aBc G ad0 X0 s.heap.size) (aA G ad0 X0 s.heap.size)) args s R.cells R.slots (aA G ad0 X0 s.heap.size)) (F0 m pc la (List.map (aV ad) [])) := by
    refine W.widen (k := R.cells) (n := R.slots) (Nat.le_of_ble_eq_true hc) (Nat.le_of_ble_eq_true hsl) ?_
    exact W.vret hx hb hr (fun t ht hW => ⟨⟨(ad, X), rfl, hpost, had, by rw [ht]; exact hP, hD⟩, hS.F ht⟩) hS.2.2 d hlocks
  rcases hQ with hQ | ⟨XC, hQ⟩
  · exact hQ ▸ key
  · exact hQ ▸ vx_ret key
end NEWS
theorem aMc_of {y : MethodName} {cc : ByteArray} {maxL : Nat} {ws ws' : List Cond} {rm : Room} {own : String} {T : aTv} (hy : plainName y.cls = true) (hown : y.cls = own) (hyn : y.name = "<init>") (hw : ws = Cond.code y cc maxL none :: ws') (hlen : ∀ av X post, T av X post → al av ≤ maxL)
    (body : ∀ (Γ : aΓ) (ad : Nat → Nat) (av : List Value) (X : List aE) (post : List aE → Prop), FOK Γ cc ws own maxL rm → isQ Γ (va_Qv (fun u : (Nat → Nat) × List aE => post u.2) (aBc (gK Γ) ad X (hsz Γ)) (aA (gK Γ) ad X (hsz Γ))) rm ad X → rTy Γ = none → isInit Γ → T av X post → FG Γ 0 ad 0 0 (lv_args 0 av) [] X) : aMc y ws rm T := by
  intro l K ad sz av X post hT
  refine Met.ofW (cc := cc) (maxL := maxL) (ret := none) hy hw ?_
  intro p e s m args below meth c s₁ B hml hv
  obtain ⟨hargs, hsz, hP, hK, hD0, hB⟩ := hv
  subst hargs
  subst hsz
  have hts := atoms_spec (ws := ws) B.pre
  have hown' : s.vm.findClass own = some m.cls := hown ▸ findClass_of_methodNamed B.named
  have hin : meth.name = "<init>" := (name_of_methodNamed B.named B.method).1.trans hyn
  have hD := hD0.self (sz := s.heap.size)
  have hl := lv_entry (av.map (aV ad)) (n := maxL) (by rw [al_sl]; exact hlen av X post hT)
  rw [lg_entry_eq]
  rw [aL_args] at hl
  exact body (p, l, e, (headSpec ws rm).room, s, m, (av.map (aV ad)).toArray, below, meth, c, MQ below (va_Qv (fun u : (Nat → Nat) × List aE => post u.2) (aBc K ad X s.heap.size) (aA K ad X s.heap.size)) (av.map (aV ad)).toArray s rm.cells rm.slots (aA K ad X s.heap.size), K, aA K ad X s.heap.size, maxL) ad av X post
    ⟨B.exec, B.bytes, hml, hown', hts, hK, fun q h => Or.inr h, rfl, rfl, hB⟩ ⟨Or.inl rfl, rfl, B.notSynchronized⟩ B.returns hin hT s.heap [] _ hP hD va_S.rf hl
