/-! THE CLAIM OUT OF ONE WALK OF THE LAW'S BODY. Your part is whole_start (and what it stands on); all else here is the same for every law, but numbers. -/
def R_law : String := "PaintedDieLaw"
def lw_P (b : Addr) (xs : List Int32) (args : Array Value) (s : State) : Prop := args = #[.ref b] ∧ s.IntsAt b xs ∧ xs.length ≤ 2048 ∧ (Jvm.Cond.and given_1 narrow_1).before args s = true
/-- what a walk over the start with the record d0 says of its end, said of the start itself -/
theorem lw_closed {s t : State} {o : Outcome} {d0 : Drawn} {L : List Loc} {k n : Nat} (hd0 : s.drawn.sameBut d0 lw_cs) (hv : ∃ v, o = .returned v) (hW : (s.setDrawn d0).WarmedH t.vm) (hs : (s.setDrawn d0).sameButNew ({ t with vm := s.vm } : State) L k n) : State.butDraws s t lw_cs (fun t1 => Framed s o t1 L k n) := by
  have h2 : t.drawn = d0 := congrArg State.drawn hs.1
  refine ⟨⟨hv, hW, State.sameButNew.setDrawn hs s.drawn⟩, ?_, by decide⟩
  rw [h2]
  exact hd0
def lw_Q (_ : Array Value) (s : State) (o : Outcome) (t : State) : Prop := o = .returned (some (.int 1)) ∧ State.butDraws s t lw_cs (fun t1 => Framed s o t1 [] 601024 7293034)
def lw_Z (below : List Frame) (a : Array Value) (s : State) : State → Prop := fun t => ∃ o, t.status = .running ∧ Ended t below o ∧ lw_Q a s o t
/-- the law's own end, with 1 on the stack, nothing written that was there before, its room as the claim has it; d0: the record of draws at this point (at the entry s.drawn: begin with 'refine W.base ?_' and 'have hd0 := Drawn.sameBut.refl s.drawn lw_cs') -/
theorem lw_ret {p : Program} {l : Launch} {e : Env} {s : State} {m : MethodId} {below : List Frame} {meth : Method} {c : Code} {b : Nat} {d0 : Drawn} (hd0 : s.drawn.sameBut d0 lw_cs) (hx : p.tables.exec = Jvm.exec) (hb : c.code = code) (hr : meth.sig.returnType = ret) (hlocks : meth.locks = false) {pc : Nat} {H : Heap} {ls : Array Slot} (hdg : decode code pc = .ok (.ireturn, 1)) : W p l e room_1 (s.setDrawn d0) m #[Value.ref b] below meth c H [] 601024 7293034 (lw_Z below #[Value.ref b] s) (F0 m pc ls [.int 1]) := by
  intro T hT X
  obtain ⟨fs, hret, hrun, hended, hW, hframe⟩ := X.leave (v := some (.int 1)) (hlocks := hlocks) (fun h => by rw [hr] at h; cases h)
  have hmeth' : T.vm.method? m = some meth := X.method'
  refine ⟨T.setFrames fs, ?_, .returned (some (.int 1)), hrun, hended, rfl, lw_closed hd0 ⟨_, rfl⟩ hW hframe⟩
  jvm_step X.here [X.here.top, hx, hb, hdg, hmeth', hr, ret, narrow_b1]
  (try refine ⟨rfl, ?_⟩); (try refine ⟨rfl, ?_⟩)
  first | (intro acts; rw [hret _ acts rfl rfl rfl]) | rw [hret _ _ rfl rfl rfl]
  exact Steps.refl _
/-- what holds at the law's entry: the machine, the code, the tables' words (any of lw_tbl by 'hts w (by decide +kernel)'), the script of L ints xs at the cell b, what the Statement gives of the start (any of its parts by flat_of_before) -/
def lw_At (p : Program) (s : State) (m : MethodId) (meth : Method) (c : Code) (b L : Nat) (xs : Nat → Int32) : Prop :=
  p.tables.exec = Jvm.exec ∧ c.code = code ∧ meth.sig.returnType = ret ∧ c.maxLocals = 9 ∧ s.vm.findClass R_law = some m.cls ∧ (∀ w ∈ lw_tbl, w.before #[Value.ref b] s = true) ∧ va_X b L xs s s.heap ∧ b < s.heap.size ∧ meth.locks = false ∧ (Jvm.Cond.and given_1 narrow_1).before #[Value.ref b] s = true
/-! ===== the law's body: its ops ===== -/
def LScr (b L : Nat) (xs : Nat → Int32) (Γ : aΓ) : Prop := match Γ with
  | (p, l, e, R, s, m, args, below, meth, c, Q, K, A, nL) => va_X b L xs s s.heap ∧ b < s.heap.size ∧ ¬ A b
def isLQ (Γ : aΓ) : Prop := match Γ with
  | (p, l, e, R, s, m, args, below, meth, c, Q, K, A, nL) => ∃ b, args = #[.ref b] ∧ Q = lw_Z below #[.ref b] s ∧ (∀ q, A q → s.heap.size ≤ q) ∧ meth.sig.returnType = ret ∧ meth.locks = false
/-- the script lies at place 1000, which is no cell of the world -/
def oSld (b L : Nat) (xs : Nat → Int32) (nx : Nat) : aO := fun K ad k n ls st X => pI (fun i t => pR (fun q t2 => q = 1000 ∧ ad 1000 = b ∧ ∃ j, i = nI j ∧ j < L ∧ L ≤ 2048 ∧ K nx ad k n ls (.int (xs j) :: t2) X) t) st
def oSln (b L nx : Nat) : aO := fun K ad k n ls st X => pR (fun q t => q = 1000 ∧ ad 1000 = b ∧ K nx ad k n ls (.int (nI L) :: t) X) st
def oLr : aO := fun K ad k n ls st X => pI (fun r t => ck (List.isEmpty t) (r = 1 ∧ k ≤ 601024 ∧ n ≤ 7293034)) st
def oWi (T : aTi) (n : Nat) (mc ms RC RS nx : Nat) : aO := fun K ad k sl ls st X => tk n [] (fun av t => ∃ P : Int32 → List aE → Prop, le4 t = true ∧ k + mc ≤ RC ∧ sl + ms ≤ RS ∧ T av X P ∧ ∀ r X2, P r X2 → K nx ad (k + mc) (sl + ms) ls (.int r :: t) X2) st
def oGi (off : Nat) (T : aTi) (n ci : Nat) (mc ms RC RS nx : Nat) : aO := fun K ad k sl ls st X => tk n [] (fun av t => ∃ (X1 X' Z : List aE) (av' : List Value) (P : Int32 → List aE → Prop) (q : Nat) (As fs : List Value), le4 t = true ∧ k + mc ≤ RC ∧ sl + ms ≤ RS ∧ av' = .ref q :: As ∧ X'[q]? = some (.inr (.inl (ci, fs))) ∧ X1.length = off ∧ X = X1 ++ X'.map (shE off) ++ Z ∧ av = av'.map (shV off) ∧ T av' X' P ∧
  ∀ r X2, P r X2 → X2.length = X'.length ∧ K nx ad (k + mc) (sl + ms) ls (.int r :: t) (X1 ++ X2.map (shE off) ++ Z)) st
def oGl (off : Nat) (T : aTl) (n ci : Nat) (mc ms RC RS nx : Nat) : aO := fun K ad k sl ls st X => tk n [] (fun av t => ∃ (X1 X' Z : List aE) (av' : List Value) (P : Int64 → List aE → Prop) (q : Nat) (As fs : List Value), le4 t = true ∧ k + mc ≤ RC ∧ sl + ms ≤ RS ∧ av' = .ref q :: As ∧ X'[q]? = some (.inr (.inl (ci, fs))) ∧ X1.length = off ∧ X = X1 ++ X'.map (shE off) ++ Z ∧ av = av'.map (shV off) ∧ T av' X' P ∧
  ∀ r X2, P r X2 → X2.length = X'.length ∧ K nx ad (k + mc) (sl + ms) ls (.long r :: t) (X1 ++ X2.map (shE off) ++ Z)) st
def oGd (off : Nat) (T : aTd) (n ci : Nat) (mc ms RC RS nx : Nat) : aO := fun K ad k sl ls st X => tk n [] (fun av t => ∃ (X1 X' Z : List aE) (av' : List Value) (P : UInt64 → List aE → Prop) (q : Nat) (As fs : List Value), le4 t = true ∧ k + mc ≤ RC ∧ sl + ms ≤ RS ∧ av' = .ref q :: As ∧ X'[q]? = some (.inr (.inl (ci, fs))) ∧ X1.length = off ∧ X = X1 ++ X'.map (shE off) ++ Z ∧ av = av'.map (shV off) ∧ T av' X' P ∧
  ∀ r X2, P r X2 → X2.length = X'.length ∧ K nx ad (k + mc) (sl + ms) ls (.double r :: t) (X1 ++ X2.map (shE off) ++ Z)) st
theorem FG_wid {Γ : aΓ} {pc : Nat} {ad : Nat → Nat} {k n k' n' : Nat} {ls : List (Nat × Value)} {st : List Value} {X : List aE} (hk : k ≤ k') (hn : n ≤ n') (h : FG Γ pc ad k' n' ls st X) : FG Γ pc ad k n ls st X := by
  obtain ⟨p, l, e, R, s, m, args, below, meth, c, Q, G, A, nL⟩ := Γ
  intro H locs la hP hD hS hl
  exact W.widen hk hn (h H locs la hP hD hS hl)
section LAW
variable {Γ : aΓ} {cc : ByteArray} {Ts : List Cond} {own : String} {nL : Nat} {rm : Room} {pc : Nat}
variable {b L : Nat} {xs : Nat → Int32}
theorem snd_Sld (C : FOK Γ cc Ts own nL rm) (hS : LScr b L xs Γ) (d : decode cc pc = .ok (.iaload, 1)) : Snd Γ pc (oSld b L xs (pc + 1)) := by
  obtain ⟨p, l, e, R, s, m, args, below, meth, c, Q, G, A, nL'⟩ := Γ
  obtain ⟨hx, hb, hml, hown, hts, hK, hA, rfl, rfl, hB⟩ := C
  intro K hK' ad k n ls st X ho
  dsimp only [oSld] at ho
  obtain ⟨i, t, rfl, h1⟩ := pI_spec ho
  obtain ⟨q, t2, rfl, rfl, rfl, j, rfl, hj, hL, h⟩ := pR_spec h1
  intro H locs la hP hD hS9 hl
  refine va_sld hx hb hS.1 hS.2.1 hS.2.2 hS9 (i := nI j) (inS hj (by omega)) d ?_
  rw [nI_clampS (by omega)]
  exact hK' _ _ _ _ _ _ _ h H locs la hP hD hS9 hl
theorem snd_Sln (C : FOK Γ cc Ts own nL rm) (hS : LScr b L xs Γ) (d : decode cc pc = .ok (.arraylength, 1)) : Snd Γ pc (oSln b L (pc + 1)) := by
  obtain ⟨p, l, e, R, s, m, args, below, meth, c, Q, G, A, nL'⟩ := Γ
  obtain ⟨hx, hb, hml, hown, hts, hK, hA, rfl, rfl, hB⟩ := C
  intro K hK' ad k n ls st X ho
  dsimp only [oSln] at ho
  obtain ⟨q, t, rfl, rfl, rfl, h⟩ := pR_spec ho
  intro H locs la hP hD hS9 hl
  exact va_slen hx hb hS.1 hS.2.1 hS.2.2 hS9 d (hK' _ _ _ _ _ _ _ h H locs la hP hD hS9 hl)
theorem snd_Lr (C : FOK Γ code Ts own nL room_1) (hQ : isLQ Γ) (d : decode code pc = .ok (.ireturn, 1)) : Snd Γ pc oLr := by
  obtain ⟨p, l, e, R, s, m, args, below, meth, c, Q, G, A, nL'⟩ := Γ
  obtain ⟨hx, hb, hml, hown, hts, hK, hA, rfl, rfl, hB⟩ := C
  obtain ⟨b, rfl, rfl, hA2, hr, hlocks⟩ := hQ
  intro K hK' ad k n ls st X ho
  dsimp only [oLr] at ho
  obtain ⟨r, t, rfl, h1⟩ := pI_spec ho
  obtain ⟨h2, rfl, hk, hn⟩ := ck_spec h1
  have h3 := List.isEmpty_iff.mp h2
  subst h3
  intro H locs la hP hD hS hl
  refine va_forget (fun q hq => hA2 _ (hS.2.2 q hq)) ?_
  refine W.widen (k := 601024) (n := 7293034) hk hn ?_
  exact lw_ret (d0 := s.drawn) (Drawn.sameBut.refl s.drawn lw_cs) hx hb hr hlocks d
variable {y : MethodName} {ws ws' : List Cond} {rm' : Room} {n ci : Nat} {bytes : ByteArray} {maxL : Nat} {ret0 : Option FieldType} {index mc ms : Nat} {hh : List (Nat × Nat × Nat × Nat)}
theorem site_SW (C : FOK Γ cc Ts own nL rm) (d : decode cc pc = .ok (.invokestatic index, 3)) (hg : GoodIn Ts (va_wsS own index y ws)) (hw : ws = Cond.codeWith y bytes maxL ret0 hh :: ws') (hrc : rm'.cells = mc) (hrs : rm'.slots = ms)
    (hd : y.cls ≠ "java/lang/invoke/MethodHandle" ∧ y.cls ≠ "java/lang/invoke/VarHandle" ∧ (parseMethodDescriptor y.desc).map (fun d => d.parameters.length) = some n) (hR : rm'.frames + 1 ≤ rm.frames ∧ 8 + (maxL + 11) + rm'.locals ≤ rm.locals) : aSite Γ pc n none mc ms y ws rm' := by
  obtain ⟨p, l, e, R, s, m, args, below, meth, c, Q, G, A, nL'⟩ := Γ
  obtain ⟨hx, hb, hml, hown, hts, hK, hA, rfl, rfl, hB⟩ := C
  intro Pc Qc free H locs k sl la av rest hM hbl hpc hn hsz hcat hf hro
  exact vx_runSW (As := av) (rest := rest) ⟨hx, hb, hml, hown, hts⟩ hM (vx_cwSW n hts hg hw hrc hrs hd hR) ⟨hbl, hpc⟩ rfl hn hsz rfl (lv_room hcat) d hf
theorem snd_Wi {T : aTi} (C : FOK Γ cc Ts own nL rm) (CX : FOX Γ) (CN : FOW Γ) (hs : aSite Γ pc n none rm'.cells rm'.slots y ws rm') (hM : wMi y ws rm' T) : Snd Γ pc (oWi T n rm'.cells rm'.slots rm.cells rm.slots (pc + 3)) := by
  obtain ⟨p, l, e, R, s, m, args, below, meth, c, Q, G, A, nL'⟩ := Γ
  obtain ⟨hx, hb, hml, hown, hts, hK, hA, rfl, rfl, hB⟩ := C
  have hN : aNcs s := CN
  intro K hK' ad k sl ls st X ho
  dsimp only [oWi] at ho
  obtain ⟨av, t, e1, hn, h0⟩ := tk_spec ho
  rw [List.append_nil] at h0
  obtain ⟨P, h4, hc, hsl, h, hp⟩ := h0
  clear ho
  subst e1
  intro H locs la hP hD hS hl
  have hF := aA_free hD hS hA
  have hrun := hs _ _ _ H locs k sl la (av.map (aV ad)) (t.map (aV ad)) (hM l CX.1 G ad H.size av X _ h) (aPcW_blind _ _ _ _ _) (fun U hU hW => ⟨⟨aPc_at hP hK hD hB hU hW, by
    have h8 := aZ_at CX.2.1 hS hF hU hW
    exact h8⟩, hN.1.moved hW.alike, hN.2.moved hW.alike⟩) (by rw [List.length_map]; exact hn) hl.1 (le4_spec ad h4) ⟨hc, hsl⟩ (fun ci hci => by cases hci)
  have hst : List.map (aV ad) (av.reverse ++ t) = (av.map (aV ad)).reverse ++ t.map (aV ad) := by rw [List.map_append, List.map_reverse]
  rw [hst]
  refine va_calli hrun hS (fun q _ h9 => hF q h9) hF (fun r u t1 H1 locs1 ht hvm hpost hBk hz hk hS1 => ?_)
  obtain ⟨hP1, hD1⟩ := hBk
  rw [ht] at hP1
  exact hK' _ _ _ _ _ _ _ (hp _ _ hpost) H1 locs1 la hP1 (hD1.weaken (fun _ _ _ h9 => hF _ h9)) hS1 hl
theorem snd_Gi (off : Nat) {T : aTi} (C : FOK Γ cc Ts own nL rm) (hs : aSite Γ pc n (some ci) rm'.cells rm'.slots y ws rm') (hM : aMi y ws rm' T) : Snd Γ pc (oGi off T n ci rm'.cells rm'.slots rm.cells rm.slots (pc + 3)) := by
  obtain ⟨p, l, e, R, s, m, args, below, meth, c, Q, G, A, nL'⟩ := Γ
  obtain ⟨hx, hb, hml, hown, hts, hK, hA, rfl, rfl, hB⟩ := C
  intro K hK' ad k sl ls st X ho
  dsimp only [oGi] at ho
  obtain ⟨av, t, e1, hn, h0⟩ := tk_spec ho
  rw [List.append_nil] at h0
  obtain ⟨X1, X', Z, av', P, q0, As0, fs0, h4, hc, hsl, hav, hq0, hof, e2, e3, h, hp⟩ := h0
  clear ho
  subst e1 e2 e3
  intro H locs la hP hD hS hl
  have hF := fr_free hof hD hS hA
  have hpc := fun (U : State) hU hW => aPc_at (av := av') (U := U) (fr_P hof hP) hK (fr_D hof hD) hB hU hW
  rw [← aVs_sh] at hpc
  have hrun := hs _ _ _ H locs k sl la ((av'.map (shV off)).map (aV ad)) (t.map (aV ad)) (hM l G (adS ad off) H.size av' X' _ h) (aPc_blind _ _ _ _ _) hpc (by rw [List.length_map]; exact hn) hl.1 (le4_spec ad h4) ⟨hc, hsl⟩ (fun ci' hci => by
    cases hci
    have hq := fr_mid (Z := Z) hof hq0
    have hq2 := aX_get G ad _ 0 _ _ hq
    rw [Nat.zero_add] at hq2
    obtain ⟨qc, g0, -⟩ := hP _ _ hq2
    obtain ⟨cellB, g1, g2, g3⟩ := va_recv hK hP g0 hq2
    rw [hav]
    exact ⟨ad (q0 + off), (As0.map (shV off)).map (aV ad), cellB, qc, rfl, g0, g1, g2, g3⟩)
  have hst : List.map (aV ad) ((av'.map (shV off)).reverse ++ t) = ((av'.map (shV off)).map (aV ad)).reverse ++ t.map (aV ad) := by rw [List.map_append, List.map_reverse]
  rw [hst]
  refine va_calli hrun hS (fun q _ h9 => hF q h9) hF (fun r u t1 H1 locs1 ht hvm hpost hBk hz hk hS1 => ?_)
  obtain ⟨hP1, -⟩ := hBk
  rw [ht] at hP1
  obtain ⟨hl2, hpost⟩ := hp _ _ hpost
  exact hK' _ _ _ _ _ _ _ hpost H1 locs1 la (fr_join hof hl2 hP hD hk hP1) (aX_D hD (fr_len hof hl2)) hS1 hl
theorem snd_Gl (off : Nat) {T : aTl} (C : FOK Γ cc Ts own nL rm) (hs : aSite Γ pc n (some ci) rm'.cells rm'.slots y ws rm') (hM : aMl y ws rm' T) : Snd Γ pc (oGl off T n ci rm'.cells rm'.slots rm.cells rm.slots (pc + 3)) := by
  obtain ⟨p, l, e, R, s, m, args, below, meth, c, Q, G, A, nL'⟩ := Γ
  obtain ⟨hx, hb, hml, hown, hts, hK, hA, rfl, rfl, hB⟩ := C
  intro K hK' ad k sl ls st X ho
  dsimp only [oGl] at ho
  obtain ⟨av, t, e1, hn, h0⟩ := tk_spec ho
  rw [List.append_nil] at h0
  obtain ⟨X1, X', Z, av', P, q0, As0, fs0, h4, hc, hsl, hav, hq0, hof, e2, e3, h, hp⟩ := h0
  clear ho
  subst e1 e2 e3
  intro H locs la hP hD hS hl
  have hF := fr_free hof hD hS hA
  have hpc := fun (U : State) hU hW => aPc_at (av := av') (U := U) (fr_P hof hP) hK (fr_D hof hD) hB hU hW
  rw [← aVs_sh] at hpc
  have hrun := hs _ _ _ H locs k sl la ((av'.map (shV off)).map (aV ad)) (t.map (aV ad)) (hM l G (adS ad off) H.size av' X' _ h) (aPc_blind _ _ _ _ _) hpc (by rw [List.length_map]; exact hn) hl.1 (le4_spec ad h4) ⟨hc, hsl⟩ (fun ci' hci => by
    cases hci
    have hq := fr_mid (Z := Z) hof hq0
    have hq2 := aX_get G ad _ 0 _ _ hq
    rw [Nat.zero_add] at hq2
    obtain ⟨qc, g0, -⟩ := hP _ _ hq2
    obtain ⟨cellB, g1, g2, g3⟩ := va_recv hK hP g0 hq2
    rw [hav]
    exact ⟨ad (q0 + off), (As0.map (shV off)).map (aV ad), cellB, qc, rfl, g0, g1, g2, g3⟩)
  have hst : List.map (aV ad) ((av'.map (shV off)).reverse ++ t) = ((av'.map (shV off)).map (aV ad)).reverse ++ t.map (aV ad) := by rw [List.map_append, List.map_reverse]
  rw [hst]
  refine va_calll hrun hS (fun q _ h9 => hF q h9) hF (fun r u t1 H1 locs1 ht hvm hpost hBk hz hk hS1 => ?_)
  obtain ⟨hP1, -⟩ := hBk
  rw [ht] at hP1
  obtain ⟨hl2, hpost⟩ := hp _ _ hpost
  exact hK' _ _ _ _ _ _ _ hpost H1 locs1 la (fr_join hof hl2 hP hD hk hP1) (aX_D hD (fr_len hof hl2)) hS1 hl
theorem snd_Gd (off : Nat) {T : aTd} (C : FOK Γ cc Ts own nL rm) (hs : aSite Γ pc n (some ci) rm'.cells rm'.slots y ws rm') (hM : aMd y ws rm' T) : Snd Γ pc (oGd off T n ci rm'.cells rm'.slots rm.cells rm.slots (pc + 3)) := by
  obtain ⟨p, l, e, R, s, m, args, below, meth, c, Q, G, A, nL'⟩ := Γ
  obtain ⟨hx, hb, hml, hown, hts, hK, hA, rfl, rfl, hB⟩ := C
  intro K hK' ad k sl ls st X ho
  dsimp only [oGd] at ho
  obtain ⟨av, t, e1, hn, h0⟩ := tk_spec ho
  rw [List.append_nil] at h0
  obtain ⟨X1, X', Z, av', P, q0, As0, fs0, h4, hc, hsl, hav, hq0, hof, e2, e3, h, hp⟩ := h0
  clear ho
  subst e1 e2 e3
  intro H locs la hP hD hS hl
  have hF := fr_free hof hD hS hA
  have hpc := fun (U : State) hU hW => aPc_at (av := av') (U := U) (fr_P hof hP) hK (fr_D hof hD) hB hU hW
  rw [← aVs_sh] at hpc
  have hrun := hs _ _ _ H locs k sl la ((av'.map (shV off)).map (aV ad)) (t.map (aV ad)) (hM l G (adS ad off) H.size av' X' _ h) (aPc_blind _ _ _ _ _) hpc (by rw [List.length_map]; exact hn) hl.1 (le4_spec ad h4) ⟨hc, hsl⟩ (fun ci' hci => by
    cases hci
    have hq := fr_mid (Z := Z) hof hq0
    have hq2 := aX_get G ad _ 0 _ _ hq
    rw [Nat.zero_add] at hq2
    obtain ⟨qc, g0, -⟩ := hP _ _ hq2
    obtain ⟨cellB, g1, g2, g3⟩ := va_recv hK hP g0 hq2
    rw [hav]
    exact ⟨ad (q0 + off), (As0.map (shV off)).map (aV ad), cellB, qc, rfl, g0, g1, g2, g3⟩)
  have hst : List.map (aV ad) ((av'.map (shV off)).reverse ++ t) = ((av'.map (shV off)).map (aV ad)).reverse ++ t.map (aV ad) := by rw [List.map_append, List.map_reverse]
  rw [hst]
  refine va_calld hrun hS (fun q _ h9 => hF q h9) hF (fun r u t1 H1 locs1 ht hvm hpost hBk hz hk hS1 => ?_)
  obtain ⟨hP1, -⟩ := hBk
  rw [ht] at hP1
  obtain ⟨hl2, hpost⟩ := hp _ _ hpost
  exact hK' _ _ _ _ _ _ _ hpost H1 locs1 la (fr_join hof hl2 hP hD hk hP1) (aX_D hD (fr_len hof hl2)) hS1 hl
end LAW
/-! ===== the law's world: the class's things, the model's, the row of answers ===== -/
def LW (C M : List aE) (o : Nat → Int64) : List aE := C ++ M.map (shE 9) ++ [.inr (.inr (1, o))]
def Pw (T4 : aTi) (sv : Int32 → Int64) (as : List Value) (M : List aE) (v : Int32) (X2 : List aE) : Prop := ∃ (C2 : List aE) (o2 : Nat → Int64), X2 = LW C2 M o2 ∧ C2.length = 9 ∧ ((v = 0 ∧ ∃ r, o2 0 = sv r ∧ T4 (.ref 0 :: as) M (fun b M2 => b = r ∧ thr 0 M2 ∧ JJ C2 M2)) ∨ (¬ v = 0 ∧ T4 (.ref 0 :: as) M (fun _ M2 => thr v M2 ∧ JJ C2 M2)))
set_option maxRecDepth 100000 in
theorem wr_ag {T3 : xTi} {T4 : aTi} {code : String → Option Int32} {sv : Int32 → Int64} {as : List Value} {C M : List aE} {o : Nat → Int64} (hag : AG T3 T4 code as) (hc : ∀ e v, code e = some v → ¬ v = 0) (hJ : JJ C M) : tWr T3 code sv as 21 (LW C M o) (Pw T4 sv as M) := by
  have h := hag C M hJ
  obtain ⟨k, tt, w, h9, rm, pm, fd, th, ic, it, iv, ie, rc, wl, pr, fe, qu, co, pa, wm, pq, fa, ce, ts, ns, es, on, nx, rfl, rfl, hI⟩ := id hJ
  refine ⟨_, _, _, o, _, _, rfl, rfl, h, fun r C2 q => ⟨q.1, ?_⟩, fun e C2 q => ⟨q.1, ?_⟩⟩
  · exact ⟨C2, _, rfl, q.1, Or.inl ⟨rfl, r, pk_uLs, q.2⟩⟩
  · obtain ⟨v, h1, h2⟩ := q.2
    exact ⟨v, h1, C2, o, rfl, q.1, Or.inr ⟨hc e v h1, h2⟩⟩
theorem code1_ne {E : String} : ∀ e v, code1 E e = some v → ¬ v = 0 := by
  intro e v h
  unfold code1 at h
  split at h
  · cases h
    decide
  · cases h
theorem code2_ne {E F : String} : ∀ e v, code2 E F e = some v → ¬ v = 0 := by
  intro e v h
  unfold code2 at h
  split at h
  · cases h
    decide
  · split at h
    · cases h
      decide
    · cases h
theorem JJ_C {C M : List aE} (h : JJ C M) : C.length = 9 ∧ ∃ fs, C[0]? = some (.inr (.inl (2, fs))) := by
  obtain ⟨k, tt, w, h9, rm, pm, fd, th, ic, it, iv, ie, rc, wl, pr, fe, qu, co, pa, wm, pq, fa, ce, ts, ns, es, on, nx, rfl, rfl, hI⟩ := h
  exact ⟨rfl, _, rfl⟩
theorem JJ_M {C M : List aE} (h : JJ C M) : M.length = 12 ∧ ∃ fs, M[0]? = some (.inr (.inl (3, fs))) := by
  obtain ⟨k, tt, w, h9, rm, pm, fd, th, ic, it, iv, ie, rc, wl, pr, fe, qu, co, pa, wm, pq, fa, ce, ts, ns, es, on, nx, rfl, rfl, hI⟩ := h
  exact ⟨rfl, _, rfl⟩
theorem thr_T {C M : List aE} {v : Int32} (h : JJ C M) (ht : thr v M) : tX4_thrown [.ref 0] M (fun r M3 => r = v ∧ M3 = M) := by
  obtain ⟨k, tt, w, h9, rm, pm, fd, th, ic, it, iv, ie, rc, wl, pr, fe, qu, co, pa, wm, pq, fa, ce, ts, ns, es, on, nx, rfl, rfl, hI⟩ := h
  obtain ⟨fs, t, e⟩ := ht
  have e2 : th = v := by
    unfold MW at e
    cases e
    rfl
  exact ⟨_, _, _, _, _, _, _, _, _, _, _, _, _, _, _, _, _, _, _, _, _, _, _, _, _, rfl, rfl, e2, rfl⟩
theorem lw21 {C M : List aE} (h1 : C.length = 9) (h2 : M.length = 12) : 21 = (C ++ M.map (shE 9)).length := by
  rw [List.length_append, List.length_map, h1, h2]
theorem nI_p2 (i : Nat) : nI i + 2 = nI (i + 2) := nI_add i 2
theorem nI_p3 (i : Nat) : nI i + 3 = nI (i + 3) := nI_add i 3
theorem nI_p4 (i : Nat) : nI i + 4 = nI (i + 4) := nI_add i 4
theorem cmp_self (x : Int64) : lg_cmp x x = 0 := by
  simp [lg_cmp]
theorem mean_cc : ∀ s, s < 121 → Op.cmpValue (FP.dcmp (FP.ddiv (FP.i2d (nI s)) six) (FP.ddiv (FP.i2d (nI s)) six)) .l = 0 := by decide +kernel
theorem ag_mean2 : ∀ C M, JJ C M → tX3_meanPaint [.ref 0] C (fun r C2 => C2.length = 9 ∧ tX4_meanPaint [.ref 0] M (fun b M2 => b = r ∧ Op.cmpValue (FP.dcmp r r) .l = 0 ∧ JJ C2 M2)) := by
  intro C M hJ
  obtain ⟨k, tt, w, h, rm, pm, fd, th, ic, it, iv, ie, rc, wl, pr, fe, qu, co, pa, wm, pq, fa, ce, ts, ns, es, on, nx, rfl, rfl, hI⟩ := hJ
  obtain ⟨w2, w7, h2, h7, hf, hv, hR, hP, hz, h01, hPB⟩ := id hI
  refine ⟨k, tt, w, h, rm, pm, fd, wl, pr, fe, qu, co, pa, rfl, rfl, hPB, ⟨rfl, th, rm, pm, ic, it, iv, ie, rc, k, tt, w, h, wm, pq, co, pa, fa, ce, ts, ns, es, on, nx, rfl, rfl, hPB, ⟨rfl, ?_, JJ_mk hI⟩⟩⟩
  obtain ⟨s, e1, e2⟩ := smI_in hPB 6 (Nat.le_refl 6)
  rw [e1]
  exact mean_cc s (by omega)
theorem lw_0 {C M : List aE} {o : Nat → Int64} : LW C M o = [] ++ C.map (shE 0) ++ (M.map (shE 9) ++ [.inr (.inr (1, o))]) := by
  rw [shEs_0]
  exact List.append_assoc _ _ _
theorem lw_1 {C M : List aE} {o : Nat → Int64} : [] ++ C.map (shE 0) ++ (M.map (shE 9) ++ [.inr (.inr (1, o))]) = C ++ M.map (shE 9) ++ [.inr (.inr (1, o))] := by
  rw [shEs_0]
  exact (List.append_assoc _ _ _).symm
