/-! ===== a contract out of a body ===== -/
def al : List Value → Nat
  | [] => 0
  | v :: t => v.category + al t
theorem al_sl (ad : Nat → Nat) : ∀ av : List Value, (lg_sl (av.map (aV ad))).length = al av
  | [] => rfl
  | v :: t => by
    have h := al_sl ad t
    cases v <;> simp [lg_sl, al, aV, Value.category] at h ⊢ <;> omega
theorem aL_args (ad : Nat → Nat) : ∀ (i : Nat) (av : List Value), lv_args i (av.map (aV ad)) = aL ad (lv_args i av)
  | _, [] => rfl
  | i, v :: t => by
    have h := aL_args ad (if v.category = 2 then i + 2 else i + 1) t
    simp only [List.map_cons, lv_args, aL, aV_cat]
    rw [h]
    rfl
theorem aMi_of {y : MethodName} {cc : ByteArray} {maxL : Nat} {ws ws' : List Cond} {rm : Room} {own : String} {T : aTi} (hy : plainName y.cls = true) (hown : y.cls = own) (hw : ws = Cond.code y cc maxL (some .int) :: ws') (hlen : ∀ av X post, T av X post → al av ≤ maxL)
    (body : ∀ (Γ : aΓ) (ad : Nat → Nat) (av : List Value) (X : List aE) (post : Int32 → List aE → Prop), FOK Γ cc ws own maxL rm → isQ Γ (va_Qi post (aBk (gK Γ) ad X (hsz Γ)) (aA (gK Γ) ad X (hsz Γ))) rm ad X → rTy Γ = some .int → T av X post → FG Γ 0 ad 0 0 (lv_args 0 av) [] X) : aMi y ws rm T := by
  intro l K ad sz av X post hT
  refine Met.ofW (cc := cc) (maxL := maxL) (ret := some .int) hy hw ?_
  intro p e s m args below meth c s₁ B hml hv
  obtain ⟨hargs, hsz, hP, hK, hD0, hB⟩ := hv
  subst hargs
  subst hsz
  have hts := atoms_spec (ws := ws) B.pre
  have hown' : s.vm.findClass own = some m.cls := hown ▸ findClass_of_methodNamed B.named
  have hD := hD0.self (sz := s.heap.size)
  have hl := lv_entry (av.map (aV ad)) (n := maxL) (by rw [al_sl]; exact hlen av X post hT)
  rw [lg_entry_eq]
  rw [aL_args] at hl
  exact body (p, l, e, (headSpec ws rm).room, s, m, (av.map (aV ad)).toArray, below, meth, c, MQ below (va_Qi post (aBk K ad X s.heap.size) (aA K ad X s.heap.size)) (av.map (aV ad)).toArray s rm.cells rm.slots (aA K ad X s.heap.size), K, aA K ad X s.heap.size, maxL) ad av X post
    ⟨B.exec, B.bytes, hml, hown', hts, hK, fun q h => Or.inr h, rfl, rfl, hB⟩ ⟨Or.inl rfl, rfl, B.notSynchronized⟩ B.returns hT s.heap [] _ hP hD va_S.rf hl
theorem xMi_of {y : MethodName} {cc : ByteArray} {maxL : Nat} {ws ws' : List Cond} {rm : Room} {own : String} {T : xTi} (hy : plainName y.cls = true) (hown : y.cls = own) (hw : ws = Cond.code y cc maxL (some .int) :: ws') (hlen : ∀ av X post ex, T av X post ex → al av ≤ maxL)
    (body : ∀ (Γ : aΓ) (ad : Nat → Nat) (av : List Value) (X : List aE) (post : Int32 → List aE → Prop) (ex : aXp), FOK Γ cc ws own maxL rm → FOX Γ → isQ Γ (va_Qi post (aBk (gK Γ) ad X (hsz Γ)) (aA (gK Γ) ad X (hsz Γ))) rm ad X → isX Γ ex rm ad X → rTy Γ = some .int → T av X post ex → FG Γ 0 ad 0 0 (lv_args 0 av) [] X) : xMi y ws rm T := by
  intro l hst K ad sz av X post ex hT
  refine vx_ofW (cc := cc) (maxL := maxL) (ret := some .int) hy hw ?_
  intro p e s m args below meth c s₁ B hml hno hv
  obtain ⟨⟨hargs, hsz, hP, hK, hD0, hB⟩, hZ⟩ := hv
  subst hargs
  subst hsz
  have hts := atoms_spec (ws := ws) B.pre
  have hown' : s.vm.findClass own = some m.cls := hown ▸ findClass_of_methodNamed B.named
  have hD := hD0.self (sz := s.heap.size)
  have hl := lv_entry (av.map (aV ad)) (n := maxL) (by rw [al_sl]; exact hlen av X post ex hT)
  rw [lg_entry_eq]
  rw [aL_args] at hl
  exact body (p, l, e, (headSpec ws rm).room, s, m, (av.map (aV ad)).toArray, below, meth, c, vx_MQ below (va_Qi post (aBk K ad X s.heap.size) (aA K ad X s.heap.size)) (aXC K ad X s.heap.size ex) (av.map (aV ad)).toArray s rm.cells rm.slots (aA K ad X s.heap.size), K, aA K ad X s.heap.size, maxL) ad av X post ex
    ⟨B.exec, B.bytes, hml, hown', hts, hK, fun q h => Or.inr h, rfl, rfl, hB⟩ ⟨hst, hZ, B.notSynchronized⟩ ⟨Or.inr ⟨_, rfl⟩, rfl, B.notSynchronized⟩ ⟨⟨_, rfl⟩, rfl, hno⟩ B.returns hT s.heap [] _ hP hD va_S.rf hl
theorem aMz_of {y : MethodName} {cc : ByteArray} {maxL : Nat} {ws ws' : List Cond} {rm : Room} {own : String} {T : aTi} (hy : plainName y.cls = true) (hown : y.cls = own) (hw : ws = Cond.code y cc maxL (some .boolean) :: ws') (hlen : ∀ av X post, T av X post → al av ≤ maxL)
    (body : ∀ (Γ : aΓ) (ad : Nat → Nat) (av : List Value) (X : List aE) (post : Int32 → List aE → Prop), FOK Γ cc ws own maxL rm → isQ Γ (va_Qi post (aBk (gK Γ) ad X (hsz Γ)) (aA (gK Γ) ad X (hsz Γ))) rm ad X → rTy Γ = some .boolean → T av X post → FG Γ 0 ad 0 0 (lv_args 0 av) [] X) : aMi y ws rm T := by
  intro l K ad sz av X post hT
  refine Met.ofW (cc := cc) (maxL := maxL) (ret := some .boolean) hy hw ?_
  intro p e s m args below meth c s₁ B hml hv
  obtain ⟨hargs, hsz, hP, hK, hD0, hB⟩ := hv
  subst hargs
  subst hsz
  have hts := atoms_spec (ws := ws) B.pre
  have hown' : s.vm.findClass own = some m.cls := hown ▸ findClass_of_methodNamed B.named
  have hD := hD0.self (sz := s.heap.size)
  have hl := lv_entry (av.map (aV ad)) (n := maxL) (by rw [al_sl]; exact hlen av X post hT)
  rw [lg_entry_eq]
  rw [aL_args] at hl
  exact body (p, l, e, (headSpec ws rm).room, s, m, (av.map (aV ad)).toArray, below, meth, c, MQ below (va_Qi post (aBk K ad X s.heap.size) (aA K ad X s.heap.size)) (av.map (aV ad)).toArray s rm.cells rm.slots (aA K ad X s.heap.size), K, aA K ad X s.heap.size, maxL) ad av X post
    ⟨B.exec, B.bytes, hml, hown', hts, hK, fun q h => Or.inr h, rfl, rfl, hB⟩ ⟨Or.inl rfl, rfl, B.notSynchronized⟩ B.returns hT s.heap [] _ hP hD va_S.rf hl
theorem xMz_of {y : MethodName} {cc : ByteArray} {maxL : Nat} {ws ws' : List Cond} {rm : Room} {own : String} {T : xTi} (hy : plainName y.cls = true) (hown : y.cls = own) (hw : ws = Cond.code y cc maxL (some .boolean) :: ws') (hlen : ∀ av X post ex, T av X post ex → al av ≤ maxL)
    (body : ∀ (Γ : aΓ) (ad : Nat → Nat) (av : List Value) (X : List aE) (post : Int32 → List aE → Prop) (ex : aXp), FOK Γ cc ws own maxL rm → FOX Γ → isQ Γ (va_Qi post (aBk (gK Γ) ad X (hsz Γ)) (aA (gK Γ) ad X (hsz Γ))) rm ad X → isX Γ ex rm ad X → rTy Γ = some .boolean → T av X post ex → FG Γ 0 ad 0 0 (lv_args 0 av) [] X) : xMi y ws rm T := by
  intro l hst K ad sz av X post ex hT
  refine vx_ofW (cc := cc) (maxL := maxL) (ret := some .boolean) hy hw ?_
  intro p e s m args below meth c s₁ B hml hno hv
  obtain ⟨⟨hargs, hsz, hP, hK, hD0, hB⟩, hZ⟩ := hv
  subst hargs
  subst hsz
  have hts := atoms_spec (ws := ws) B.pre
  have hown' : s.vm.findClass own = some m.cls := hown ▸ findClass_of_methodNamed B.named
  have hD := hD0.self (sz := s.heap.size)
  have hl := lv_entry (av.map (aV ad)) (n := maxL) (by rw [al_sl]; exact hlen av X post ex hT)
  rw [lg_entry_eq]
  rw [aL_args] at hl
  exact body (p, l, e, (headSpec ws rm).room, s, m, (av.map (aV ad)).toArray, below, meth, c, vx_MQ below (va_Qi post (aBk K ad X s.heap.size) (aA K ad X s.heap.size)) (aXC K ad X s.heap.size ex) (av.map (aV ad)).toArray s rm.cells rm.slots (aA K ad X s.heap.size), K, aA K ad X s.heap.size, maxL) ad av X post ex
    ⟨B.exec, B.bytes, hml, hown', hts, hK, fun q h => Or.inr h, rfl, rfl, hB⟩ ⟨hst, hZ, B.notSynchronized⟩ ⟨Or.inr ⟨_, rfl⟩, rfl, B.notSynchronized⟩ ⟨⟨_, rfl⟩, rfl, hno⟩ B.returns hT s.heap [] _ hP hD va_S.rf hl
theorem aMl_of {y : MethodName} {cc : ByteArray} {maxL : Nat} {ws ws' : List Cond} {rm : Room} {own : String} {T : aTl} (hy : plainName y.cls = true) (hown : y.cls = own) (hw : ws = Cond.code y cc maxL (some .long) :: ws') (hlen : ∀ av X post, T av X post → al av ≤ maxL)
    (body : ∀ (Γ : aΓ) (ad : Nat → Nat) (av : List Value) (X : List aE) (post : Int64 → List aE → Prop), FOK Γ cc ws own maxL rm → isQ Γ (va_Ql post (aBk (gK Γ) ad X (hsz Γ)) (aA (gK Γ) ad X (hsz Γ))) rm ad X → rTy Γ = some .long → T av X post → FG Γ 0 ad 0 0 (lv_args 0 av) [] X) : aMl y ws rm T := by
  intro l K ad sz av X post hT
  refine Met.ofW (cc := cc) (maxL := maxL) (ret := some .long) hy hw ?_
  intro p e s m args below meth c s₁ B hml hv
  obtain ⟨hargs, hsz, hP, hK, hD0, hB⟩ := hv
  subst hargs
  subst hsz
  have hts := atoms_spec (ws := ws) B.pre
  have hown' : s.vm.findClass own = some m.cls := hown ▸ findClass_of_methodNamed B.named
  have hD := hD0.self (sz := s.heap.size)
  have hl := lv_entry (av.map (aV ad)) (n := maxL) (by rw [al_sl]; exact hlen av X post hT)
  rw [lg_entry_eq]
  rw [aL_args] at hl
  exact body (p, l, e, (headSpec ws rm).room, s, m, (av.map (aV ad)).toArray, below, meth, c, MQ below (va_Ql post (aBk K ad X s.heap.size) (aA K ad X s.heap.size)) (av.map (aV ad)).toArray s rm.cells rm.slots (aA K ad X s.heap.size), K, aA K ad X s.heap.size, maxL) ad av X post
    ⟨B.exec, B.bytes, hml, hown', hts, hK, fun q h => Or.inr h, rfl, rfl, hB⟩ ⟨Or.inl rfl, rfl, B.notSynchronized⟩ B.returns hT s.heap [] _ hP hD va_S.rf hl
theorem aMd_of {y : MethodName} {cc : ByteArray} {maxL : Nat} {ws ws' : List Cond} {rm : Room} {own : String} {T : aTd} (hy : plainName y.cls = true) (hown : y.cls = own) (hw : ws = Cond.code y cc maxL (some .double) :: ws') (hlen : ∀ av X post, T av X post → al av ≤ maxL)
    (body : ∀ (Γ : aΓ) (ad : Nat → Nat) (av : List Value) (X : List aE) (post : UInt64 → List aE → Prop), FOK Γ cc ws own maxL rm → isQ Γ (va_Qd post (aBk (gK Γ) ad X (hsz Γ)) (aA (gK Γ) ad X (hsz Γ))) rm ad X → rTy Γ = some .double → T av X post → FG Γ 0 ad 0 0 (lv_args 0 av) [] X) : aMd y ws rm T := by
  intro l K ad sz av X post hT
  refine Met.ofW (cc := cc) (maxL := maxL) (ret := some .double) hy hw ?_
  intro p e s m args below meth c s₁ B hml hv
  obtain ⟨hargs, hsz, hP, hK, hD0, hB⟩ := hv
  subst hargs
  subst hsz
  have hts := atoms_spec (ws := ws) B.pre
  have hown' : s.vm.findClass own = some m.cls := hown ▸ findClass_of_methodNamed B.named
  have hD := hD0.self (sz := s.heap.size)
  have hl := lv_entry (av.map (aV ad)) (n := maxL) (by rw [al_sl]; exact hlen av X post hT)
  rw [lg_entry_eq]
  rw [aL_args] at hl
  exact body (p, l, e, (headSpec ws rm).room, s, m, (av.map (aV ad)).toArray, below, meth, c, MQ below (va_Qd post (aBk K ad X s.heap.size) (aA K ad X s.heap.size)) (av.map (aV ad)).toArray s rm.cells rm.slots (aA K ad X s.heap.size), K, aA K ad X s.heap.size, maxL) ad av X post
    ⟨B.exec, B.bytes, hml, hown', hts, hK, fun q h => Or.inr h, rfl, rfl, hB⟩ ⟨Or.inl rfl, rfl, B.notSynchronized⟩ B.returns hT s.heap [] _ hP hD va_S.rf hl
theorem aMv_of {y : MethodName} {cc : ByteArray} {maxL : Nat} {ws ws' : List Cond} {rm : Room} {own : String} {T : aTv} (hy : plainName y.cls = true) (hown : y.cls = own) (hw : ws = Cond.code y cc maxL (none) :: ws') (hlen : ∀ av X post, T av X post → al av ≤ maxL)
    (body : ∀ (Γ : aΓ) (ad : Nat → Nat) (av : List Value) (X : List aE) (post : List aE → Prop), FOK Γ cc ws own maxL rm → isQ Γ (va_Qv post (aBk (gK Γ) ad X (hsz Γ)) (aA (gK Γ) ad X (hsz Γ))) rm ad X → rTy Γ = none → T av X post → FG Γ 0 ad 0 0 (lv_args 0 av) [] X) : aMv y ws rm T := by
  intro l K ad sz av X post hT
  refine Met.ofW (cc := cc) (maxL := maxL) (ret := none) hy hw ?_
  intro p e s m args below meth c s₁ B hml hv
  obtain ⟨hargs, hsz, hP, hK, hD0, hB⟩ := hv
  subst hargs
  subst hsz
  have hts := atoms_spec (ws := ws) B.pre
  have hown' : s.vm.findClass own = some m.cls := hown ▸ findClass_of_methodNamed B.named
  have hD := hD0.self (sz := s.heap.size)
  have hl := lv_entry (av.map (aV ad)) (n := maxL) (by rw [al_sl]; exact hlen av X post hT)
  rw [lg_entry_eq]
  rw [aL_args] at hl
  exact body (p, l, e, (headSpec ws rm).room, s, m, (av.map (aV ad)).toArray, below, meth, c, MQ below (va_Qv post (aBk K ad X s.heap.size) (aA K ad X s.heap.size)) (av.map (aV ad)).toArray s rm.cells rm.slots (aA K ad X s.heap.size), K, aA K ad X s.heap.size, maxL) ad av X post
    ⟨B.exec, B.bytes, hml, hown', hts, hK, fun q h => Or.inr h, rfl, rfl, hB⟩ ⟨Or.inl rfl, rfl, B.notSynchronized⟩ B.returns hT s.heap [] _ hP hD va_S.rf hl
theorem xMv_of {y : MethodName} {cc : ByteArray} {maxL : Nat} {ws ws' : List Cond} {rm : Room} {own : String} {T : xTv} (hy : plainName y.cls = true) (hown : y.cls = own) (hw : ws = Cond.code y cc maxL (none) :: ws') (hlen : ∀ av X post ex, T av X post ex → al av ≤ maxL)
    (body : ∀ (Γ : aΓ) (ad : Nat → Nat) (av : List Value) (X : List aE) (post : List aE → Prop) (ex : aXp), FOK Γ cc ws own maxL rm → FOX Γ → isQ Γ (va_Qv post (aBk (gK Γ) ad X (hsz Γ)) (aA (gK Γ) ad X (hsz Γ))) rm ad X → isX Γ ex rm ad X → rTy Γ = none → T av X post ex → FG Γ 0 ad 0 0 (lv_args 0 av) [] X) : xMv y ws rm T := by
  intro l hst K ad sz av X post ex hT
  refine vx_ofW (cc := cc) (maxL := maxL) (ret := none) hy hw ?_
  intro p e s m args below meth c s₁ B hml hno hv
  obtain ⟨⟨hargs, hsz, hP, hK, hD0, hB⟩, hZ⟩ := hv
  subst hargs
  subst hsz
  have hts := atoms_spec (ws := ws) B.pre
  have hown' : s.vm.findClass own = some m.cls := hown ▸ findClass_of_methodNamed B.named
  have hD := hD0.self (sz := s.heap.size)
  have hl := lv_entry (av.map (aV ad)) (n := maxL) (by rw [al_sl]; exact hlen av X post ex hT)
  rw [lg_entry_eq]
  rw [aL_args] at hl
  exact body (p, l, e, (headSpec ws rm).room, s, m, (av.map (aV ad)).toArray, below, meth, c, vx_MQ below (va_Qv post (aBk K ad X s.heap.size) (aA K ad X s.heap.size)) (aXC K ad X s.heap.size ex) (av.map (aV ad)).toArray s rm.cells rm.slots (aA K ad X s.heap.size), K, aA K ad X s.heap.size, maxL) ad av X post ex
    ⟨B.exec, B.bytes, hml, hown', hts, hK, fun q h => Or.inr h, rfl, rfl, hB⟩ ⟨hst, hZ, B.notSynchronized⟩ ⟨Or.inr ⟨_, rfl⟩, rfl, B.notSynchronized⟩ ⟨⟨_, rfl⟩, rfl, hno⟩ B.returns hT s.heap [] _ hP hD va_S.rf hl
/-! ===== switches, and the JDK's own ===== -/
def swc (x : Int32) (c : Nat → Prop) (dflt : Nat) : List (Int32 × Nat) → Prop
  | [] => c dflt
  | q :: t => (x = q.1 → c q.2) ∧ (¬ x = q.1 → swc x c dflt t)
theorem swc_hit {x : Int32} {c : Nat → Prop} {dflt : Nat} : ∀ {L : List (Int32 × Nat)}, swc x c dflt L → (∃ q ∈ L, x = q.1) → ∃ q ∈ L, x = q.1 ∧ c q.2
  | [], _, h => by obtain ⟨q, hq, -⟩ := h; cases hq
  | q :: t, hs, h => by
    by_cases e : x = q.1
    · exact ⟨q, List.mem_cons_self, e, hs.1 e⟩
    · obtain ⟨q2, h2, h3⟩ := h
      rcases List.mem_cons.mp h2 with rfl | h2
      · exact absurd h3 e
      · obtain ⟨q4, a, b, d⟩ := swc_hit (hs.2 e) ⟨q2, h2, h3⟩
        exact ⟨q4, List.mem_cons_of_mem _ a, b, d⟩
theorem swc_miss {x : Int32} {c : Nat → Prop} {dflt : Nat} : ∀ {L : List (Int32 × Nat)}, swc x c dflt L → (∀ q ∈ L, ¬ x = q.1) → c dflt
  | [], hs, _ => hs
  | q :: t, hs, h => swc_miss (hs.2 (h q List.mem_cons_self)) fun q2 h2 => h q2 (List.mem_cons_of_mem _ h2)
section MORE
variable {Γ : aΓ} {cc : ByteArray} {Ts : List Cond} {own : String} {nL : Nat} {rm : Room} {pc : Nat}
def oSw (L : List (Int32 × Nat)) (dflt : Nat) : aO := fun K ad k n ls st X => pI (fun x t => swc x (fun tg => K tg ad k n ls t X) dflt L) st
theorem snd_sw {L : List (Int32 × Nat)} {dflt lo hi : Int} {offs : Array Int} {len tg : Nat} (C : FOK Γ cc Ts own nL rm) (d : decode cc pc = .ok (.tableswitch dflt lo hi offs, len)) (hd : (pc : Int) + dflt = (tg : Int))
    (h1 : ∀ q ∈ L, lo ≤ q.1.toInt ∧ q.1.toInt ≤ hi ∧ (offs[(q.1.toInt - lo).toNat]?).map (fun o => (pc : Int) + o) = some (q.2 : Int)) (h2 : ∀ x : Int32, lo ≤ x.toInt → x.toInt ≤ hi → ∃ q ∈ L, x = q.1) : Snd Γ pc (oSw L tg) := by
  obtain ⟨p, l, e, R, s, m, args, below, meth, c, Q, G, A, nL'⟩ := Γ
  obtain ⟨hx, hb, hml, hown, hts, hK, hA, rfl, rfl, hB⟩ := C
  intro K hK' ad k n ls st X ho
  dsimp only [oSw] at ho
  obtain ⟨x, t, rfl, h⟩ := pI_spec ho
  intro H locs la hP hD hS hl
  by_cases hin : lo ≤ x.toInt ∧ x.toInt ≤ hi
  · obtain ⟨q, hq, rfl, hc⟩ := swc_hit h (h2 x hin.1 hin.2)
    obtain ⟨a1, a2, a3⟩ := h1 q hq
    obtain ⟨o, ho1, ho2⟩ := Option.map_eq_some_iff.mp a3
    exact lv_tableIn hx hb d (by omega) (by omega) ho1 ho2 (hK' _ _ _ _ _ _ _ hc H locs la hP hD hS hl)
  · have hc := swc_miss h (fun q hq e => hin (by rw [e]; exact ⟨(h1 q hq).1, (h1 q hq).2.1⟩))
    exact lv_tableOut hx hb d (by omega) hd (hK' _ _ _ _ _ _ _ hc H locs la hP hD hS hl)
def oMin (nx RC RS : Nat) : aO := fun K ad k n ls st X => pI (fun y t => pI (fun x t2 => ck (le4 t2) (ck (Nat.ble k RC) (ck (Nat.ble n RS) (K nx ad k n ls (.int (if y < x then y else x) :: t2) X)))) t) st
theorem snd_min {index : Nat} (C : FOK Γ cc Ts own nL rm) (d : decode cc pc = .ok (.invokestatic index, 3)) (h1 : Cond.methodLink own index Lib.Math.min.name ∈ Ts) (h2 : Cond.static Lib.Math.min.name ∈ Ts) (h3 : Cond.initialized "java/lang/Math" ∈ Ts) (h4 : Cond.code Lib.Math.min.name Lib.Math.min.code 2 (some .int) ∈ Ts) (h5 : 1 ≤ rm.frames) (h6 : 21 ≤ rm.locals) : Snd Γ pc (oMin (pc + 3) rm.cells rm.slots) := by
  obtain ⟨p, l, e, R, s, m, args, below, meth, c, Q, G, A, nL'⟩ := Γ
  obtain ⟨hx, hb, hml, hown, hts, hK, hA, rfl, rfl, hB⟩ := C
  intro K hK' ad k n ls st X ho
  dsimp only [oMin] at ho
  obtain ⟨y, t, rfl, g1⟩ := pI_spec ho
  obtain ⟨x, t2, rfl, g2⟩ := pI_spec g1
  obtain ⟨g3, g4⟩ := ck_spec g2
  obtain ⟨g5, g6⟩ := ck_spec g4
  obtain ⟨g7, g8⟩ := ck_spec g6
  intro H locs la hP hD hS hl
  have h9 := le4_spec ad g3
  exact va_mmin hx hb (hml.trans hl.1.symm) hown (hts _ h1) (hts _ h2) (hts _ h3) (hts _ h4) h5 (by omega) (Nat.le_of_ble_eq_true g5) (Nat.le_of_ble_eq_true g7) d (hK' _ _ _ _ _ _ _ g8 H locs la hP hD hS hl)
def oAbs (nx RC RS : Nat) : aO := fun K ad k n ls st X => pI (fun x t2 => ck (le4 t2) (ck (Nat.ble k RC) (ck (Nat.ble n RS) (K nx ad k n ls (.int (if 0 ≤ x then x else 0 - x) :: t2) X)))) st
theorem snd_abs {index : Nat} (C : FOK Γ cc Ts own nL rm) (d : decode cc pc = .ok (.invokestatic index, 3)) (h1 : Cond.methodLink own index Lib.Math.abs.name ∈ Ts) (h2 : Cond.static Lib.Math.abs.name ∈ Ts) (h3 : Cond.initialized "java/lang/Math" ∈ Ts) (h4 : Cond.code Lib.Math.abs.name Lib.Math.abs.code 1 (some .int) ∈ Ts) (h5 : 1 ≤ rm.frames) (h6 : 21 ≤ rm.locals) : Snd Γ pc (oAbs (pc + 3) rm.cells rm.slots) := by
  obtain ⟨p, l, e, R, s, m, args, below, meth, c, Q, G, A, nL'⟩ := Γ
  obtain ⟨hx, hb, hml, hown, hts, hK, hA, rfl, rfl, hB⟩ := C
  intro K hK' ad k n ls st X ho
  dsimp only [oAbs] at ho
  obtain ⟨x, t2, rfl, g2⟩ := pI_spec ho
  obtain ⟨g3, g4⟩ := ck_spec g2
  obtain ⟨g5, g6⟩ := ck_spec g4
  obtain ⟨g7, g8⟩ := ck_spec g6
  intro H locs la hP hD hS hl
  have h9 := le4_spec ad g3
  exact va_mabs hx hb (hml.trans hl.1.symm) hown (hts _ h1) (hts _ h2) (hts _ h3) (hts _ h4) h5 (by omega) (Nat.le_of_ble_eq_true g5) (Nat.le_of_ble_eq_true g7) d (hK' _ _ _ _ _ _ _ g8 H locs la hP hD hS hl)
end MORE
