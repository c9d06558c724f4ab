/-! what is on the stack -/
def pV (c : Value → List Value → Prop) : List Value → Prop
  | [] => False
  | v :: t => c v t
theorem pV_spec {c : Value → List Value → Prop} : ∀ {st : List Value}, pV c st → ∃ v t, st = v :: t ∧ c v t
  | [], h => h.elim
  | v :: t, h => ⟨v, t, rfl, h⟩
def vI (c : Int32 → Prop) : Value → Prop
  | .int x => c x
  | _ => False
theorem vI_spec {c : Int32 → Prop} : ∀ {v : Value}, vI c v → ∃ x, v = .int x ∧ c x
  | .int x, h => ⟨x, rfl, h⟩
  | .long _, h => h.elim
  | .float _, h => h.elim
  | .double _, h => h.elim
  | .null, h => h.elim
  | .ref _, h => h.elim
  | .retAddr _, h => h.elim
def vR (c : Nat → Prop) : Value → Prop
  | .ref x => c x
  | _ => False
theorem vR_spec {c : Nat → Prop} : ∀ {v : Value}, vR c v → ∃ x, v = .ref x ∧ c x
  | .ref x, h => ⟨x, rfl, h⟩
  | .long _, h => h.elim
  | .float _, h => h.elim
  | .double _, h => h.elim
  | .null, h => h.elim
  | .int _, h => h.elim
  | .retAddr _, h => h.elim
def vL (c : Int64 → Prop) : Value → Prop
  | .long x => c x
  | _ => False
theorem vL_spec {c : Int64 → Prop} : ∀ {v : Value}, vL c v → ∃ x, v = .long x ∧ c x
  | .long x, h => ⟨x, rfl, h⟩
  | .int _, h => h.elim
  | .float _, h => h.elim
  | .double _, h => h.elim
  | .null, h => h.elim
  | .ref _, h => h.elim
  | .retAddr _, h => h.elim
def vD (c : UInt64 → Prop) : Value → Prop
  | .double x => c x
  | _ => False
theorem vD_spec {c : UInt64 → Prop} : ∀ {v : Value}, vD c v → ∃ x, v = .double x ∧ c x
  | .double x, h => ⟨x, rfl, h⟩
  | .int _, h => h.elim
  | .float _, h => h.elim
  | .long _, h => h.elim
  | .null, h => h.elim
  | .ref _, h => h.elim
  | .retAddr _, h => h.elim
abbrev pI (c : Int32 → List Value → Prop) : List Value → Prop := pV fun v t => vI (fun x => c x t) v
abbrev pR (c : Nat → List Value → Prop) : List Value → Prop := pV fun v t => vR (fun x => c x t) v
abbrev pL (c : Int64 → List Value → Prop) : List Value → Prop := pV fun v t => vL (fun x => c x t) v
abbrev pD (c : UInt64 → List Value → Prop) : List Value → Prop := pV fun v t => vD (fun x => c x t) v
theorem pI_spec {c : Int32 → List Value → Prop} {st : List Value} (h : pI c st) : ∃ x t, st = .int x :: t ∧ c x t := by
  obtain ⟨v, t, rfl, h⟩ := pV_spec h
  obtain ⟨x, rfl, h⟩ := vI_spec h
  exact ⟨x, t, rfl, h⟩
theorem pR_spec {c : Nat → List Value → Prop} {st : List Value} (h : pR c st) : ∃ x t, st = .ref x :: t ∧ c x t := by
  obtain ⟨v, t, rfl, h⟩ := pV_spec h
  obtain ⟨x, rfl, h⟩ := vR_spec h
  exact ⟨x, t, rfl, h⟩
theorem pL_spec {c : Int64 → List Value → Prop} {st : List Value} (h : pL c st) : ∃ x t, st = .long x :: t ∧ c x t := by
  obtain ⟨v, t, rfl, h⟩ := pV_spec h
  obtain ⟨x, rfl, h⟩ := vL_spec h
  exact ⟨x, t, rfl, h⟩
theorem pD_spec {c : UInt64 → List Value → Prop} {st : List Value} (h : pD c st) : ∃ x t, st = .double x :: t ∧ c x t := by
  obtain ⟨v, t, rfl, h⟩ := pV_spec h
  obtain ⟨x, rfl, h⟩ := vD_spec h
  exact ⟨x, t, rfl, h⟩
/-! cells of the world -/
def eO (ci : Nat) (c : List Value → Prop) : aE → Prop
  | .inr (.inl o) => match Nat.beq o.1 ci with
    | true => c o.2
    | false => False
  | _ => False
theorem eO_spec {ci : Nat} {c : List Value → Prop} : ∀ {e : aE}, eO ci c e → ∃ fs, e = .inr (.inl (ci, fs)) ∧ c fs
  | .inr (.inl (a, fs)), h => by
    unfold eO at h
    cases e : Nat.beq a ci with
    | true =>
      simp only [e] at h
      have := Nat.eq_of_beq_eq_true e
      subst this
      exact ⟨fs, rfl, h⟩
    | false =>
      simp only [e] at h
  | .inl _, h => h.elim
  | .inr (.inr _), h => h.elim
def eI (c : Nat → (Nat → Int32) → Prop) : aE → Prop
  | .inl (false, n, f) => c n f
  | _ => False
theorem eI_spec {c : Nat → (Nat → Int32) → Prop} : ∀ {e : aE}, eI c e → ∃ n f, e = .inl (false, n, f) ∧ c n f
  | .inl (false, n, f), h => ⟨n, f, rfl, h⟩
  | .inl (true, n, f), h => h.elim
  | .inr _, h => h.elim
def eZ (c : Nat → (Nat → Int32) → Prop) : aE → Prop
  | .inl (true, n, f) => c n f
  | _ => False
theorem eZ_spec {c : Nat → (Nat → Int32) → Prop} : ∀ {e : aE}, eZ c e → ∃ n f, e = .inl (true, n, f) ∧ c n f
  | .inl (true, n, f), h => ⟨n, f, rfl, h⟩
  | .inl (false, n, f), h => h.elim
  | .inr _, h => h.elim
def eLen (c : Nat → Prop) : aE → Prop
  | .inl q => c q.2.1
  | .inr (.inr q) => c q.2.1
  | _ => False
def ck (b : Bool) (c : Prop) : Prop := match b with
  | true => c
  | false => False
theorem ck_spec {b : Bool} {c : Prop} (h : ck b c) : b = true ∧ c := by
  cases b
  · exact h.elim
  · exact ⟨rfl, h⟩
/-! the instructions -/
section OPS
variable {Γ : aΓ} {cc : ByteArray} {Ts : List Cond} {own : String} {nL : Nat} {rm : Room} {pc : Nat}
def oC (v : Int32) (nx : Nat) : aO := fun K ad k n ls st X => K nx ad k n ls (.int v :: st) X
theorem snd_iconst (C : FOK Γ cc Ts own nL rm) {z : Int} {v : Int32} (d : decode cc pc = .ok (.iconst z, 1)) (hv : Int32.ofInt z = v) : Snd Γ pc (oC v (pc + 1)) := by
  obtain ⟨p, l, e, R, s, m, args, below, meth, c, Q, G, A, nL'⟩ := Γ
  obtain ⟨hx, hb, hml, hown, hts, hK, hA, rfl, rfl, hB⟩ := C
  intro K hK' ad k n ls st X ho
  dsimp only [oC] at ho
  intro H locs la hP hD hS hl
  exact lv_iconst hx hb d hv (hK' _ _ _ _ _ _ _ ho H locs la hP hD hS hl)
theorem snd_bipush (C : FOK Γ cc Ts own nL rm) {z : Int} {v : Int32} (d : decode cc pc = .ok (.bipush z, 2)) (hv : (Int8.ofInt z).toInt32 = v) : Snd Γ pc (oC v (pc + 2)) := by
  obtain ⟨p, l, e, R, s, m, args, below, meth, c, Q, G, A, nL'⟩ := Γ
  obtain ⟨hx, hb, hml, hown, hts, hK, hA, rfl, rfl, hB⟩ := C
  intro K hK' ad k n ls st X ho
  dsimp only [oC] at ho
  intro H locs la hP hD hS hl
  exact lv_bipush hx hb d hv (hK' _ _ _ _ _ _ _ ho H locs la hP hD hS hl)
theorem snd_sipush (C : FOK Γ cc Ts own nL rm) {z : Int} {v : Int32} (d : decode cc pc = .ok (.sipush z, 3)) (hv : (Int16.ofInt z).toInt32 = v) : Snd Γ pc (oC v (pc + 3)) := by
  obtain ⟨p, l, e, R, s, m, args, below, meth, c, Q, G, A, nL'⟩ := Γ
  obtain ⟨hx, hb, hml, hown, hts, hK, hA, rfl, rfl, hB⟩ := C
  intro K hK' ad k n ls st X ho
  dsimp only [oC] at ho
  intro H locs la hP hD hS hl
  exact lv_sipush hx hb d hv (hK' _ _ _ _ _ _ _ ho H locs la hP hD hS hl)
def oCL (v : Int64) (nx : Nat) : aO := fun K ad k n ls st X => K nx ad k n ls (.long v :: st) X
theorem snd_lconst (C : FOK Γ cc Ts own nL rm) {z : Fin 2} {v : Int64} (d : decode cc pc = .ok (.lconst z, 1)) (hv : Int64.ofNat (z : Nat) = v) : Snd Γ pc (oCL v (pc + 1)) := by
  obtain ⟨p, l, e, R, s, m, args, below, meth, c, Q, G, A, nL'⟩ := Γ
  obtain ⟨hx, hb, hml, hown, hts, hK, hA, rfl, rfl, hB⟩ := C
  intro K hK' ad k n ls st X ho
  dsimp only [oCL] at ho
  intro H locs la hP hD hS hl
  exact lv_lconst hx hb d hv (hK' _ _ _ _ _ _ _ ho H locs la hP hD hS hl)
theorem snd_ldc2 (C : FOK Γ cc Ts own nL rm) {index : Nat} {v : Int64} (d : decode cc pc = .ok (.ldc2_w index, 3)) (hv : Cond.constantLong own index v ∈ Ts) : Snd Γ pc (oCL v (pc + 3)) := by
  obtain ⟨p, l, e, R, s, m, args, below, meth, c, Q, G, A, nL'⟩ := Γ
  obtain ⟨hx, hb, hml, hown, hts, hK, hA, rfl, rfl, hB⟩ := C
  intro K hK' ad k n ls st X ho
  dsimp only [oCL] at ho
  intro H locs la hP hD hS hl
  exact lv_ldc2 hx hb hown (hts _ hv) d (hK' _ _ _ _ _ _ _ ho H locs la hP hD hS hl)
def oCD (v : UInt64) (nx : Nat) : aO := fun K ad k n ls st X => K nx ad k n ls (.double v :: st) X
theorem snd_ldc2d (C : FOK Γ cc Ts own nL rm) {index : Nat} {v : UInt64} (d : decode cc pc = .ok (.ldc2_w index, 3)) (hv : Cond.constantDouble own index v ∈ Ts) : Snd Γ pc (oCD v (pc + 3)) := by
  obtain ⟨p, l, e, R, s, m, args, below, meth, c, Q, G, A, nL'⟩ := Γ
  obtain ⟨hx, hb, hml, hown, hts, hK, hA, rfl, rfl, hB⟩ := C
  intro K hK' ad k n ls st X ho
  dsimp only [oCD] at ho
  intro H locs la hP hD hS hl
  exact lv_ldc2d hx hb hown (hts _ hv) d (hK' _ _ _ _ _ _ _ ho H locs la hP hD hS hl)
def oIL (i nx : Nat) : aO := fun K ad k n ls st X => gl i (vI fun x => K nx ad k n ls (.int x :: st) X) ls
theorem snd_iload_n (C : FOK Γ cc Ts own nL rm) {i : Nat} {j : Fin 4} (d : decode cc pc = .ok (.iload_n j, 1)) (hi : (j : Nat) = i) : Snd Γ pc (oIL i (pc + 1)) := by
  obtain ⟨p, l, e, R, s, m, args, below, meth, c, Q, G, A, nL'⟩ := Γ
  obtain ⟨hx, hb, hml, hown, hts, hK, hA, rfl, rfl, hB⟩ := C
  intro K hK' ad k n ls st X ho
  dsimp only [oIL] at ho
  obtain ⟨q, v, h1, h2⟩ := gl_spec ho
  obtain ⟨x, rfl, h2⟩ := vI_spec h2
  intro H locs la hP hD hS hl
  exact lv_iload_n hx hb d hi (lv_at hl q (aL_get ad h1)) (hK' _ _ _ _ _ _ _ h2 H locs la hP hD hS hl)
theorem snd_iload (C : FOK Γ cc Ts own nL rm) {i : Nat} (d : decode cc pc = .ok (.iload i, 2)) : Snd Γ pc (oIL i (pc + 2)) := by
  obtain ⟨p, l, e, R, s, m, args, below, meth, c, Q, G, A, nL'⟩ := Γ
  obtain ⟨hx, hb, hml, hown, hts, hK, hA, rfl, rfl, hB⟩ := C
  intro K hK' ad k n ls st X ho
  dsimp only [oIL] at ho
  obtain ⟨q, v, h1, h2⟩ := gl_spec ho
  obtain ⟨x, rfl, h2⟩ := vI_spec h2
  intro H locs la hP hD hS hl
  exact lv_iload hx hb d (lv_at hl q (aL_get ad h1)) (hK' _ _ _ _ _ _ _ h2 H locs la hP hD hS hl)
def oAL (i nx : Nat) : aO := fun K ad k n ls st X => gl i (vR fun x => K nx ad k n ls (.ref x :: st) X) ls
theorem snd_aload_n (C : FOK Γ cc Ts own nL rm) {i : Nat} {j : Fin 4} (d : decode cc pc = .ok (.aload_n j, 1)) (hi : (j : Nat) = i) : Snd Γ pc (oAL i (pc + 1)) := by
  obtain ⟨p, l, e, R, s, m, args, below, meth, c, Q, G, A, nL'⟩ := Γ
  obtain ⟨hx, hb, hml, hown, hts, hK, hA, rfl, rfl, hB⟩ := C
  intro K hK' ad k n ls st X ho
  dsimp only [oAL] at ho
  obtain ⟨q, v, h1, h2⟩ := gl_spec ho
  obtain ⟨x, rfl, h2⟩ := vR_spec h2
  intro H locs la hP hD hS hl
  exact lv_aload_n hx hb d hi (lv_at hl q (aL_get ad h1)) (hK' _ _ _ _ _ _ _ h2 H locs la hP hD hS hl)
theorem snd_aload (C : FOK Γ cc Ts own nL rm) {i : Nat} (d : decode cc pc = .ok (.aload i, 2)) : Snd Γ pc (oAL i (pc + 2)) := by
  obtain ⟨p, l, e, R, s, m, args, below, meth, c, Q, G, A, nL'⟩ := Γ
  obtain ⟨hx, hb, hml, hown, hts, hK, hA, rfl, rfl, hB⟩ := C
  intro K hK' ad k n ls st X ho
  dsimp only [oAL] at ho
  obtain ⟨q, v, h1, h2⟩ := gl_spec ho
  obtain ⟨x, rfl, h2⟩ := vR_spec h2
  intro H locs la hP hD hS hl
  exact lv_aload hx hb d (lv_at hl q (aL_get ad h1)) (hK' _ _ _ _ _ _ _ h2 H locs la hP hD hS hl)
def oLL (i nx : Nat) : aO := fun K ad k n ls st X => gl i (vL fun x => K nx ad k n ls (.long x :: st) X) ls
theorem snd_lload_n (C : FOK Γ cc Ts own nL rm) {i : Nat} {j : Fin 4} (d : decode cc pc = .ok (.lload_n j, 1)) (hi : (j : Nat) = i) : Snd Γ pc (oLL i (pc + 1)) := by
  obtain ⟨p, l, e, R, s, m, args, below, meth, c, Q, G, A, nL'⟩ := Γ
  obtain ⟨hx, hb, hml, hown, hts, hK, hA, rfl, rfl, hB⟩ := C
  intro K hK' ad k n ls st X ho
  dsimp only [oLL] at ho
  obtain ⟨q, v, h1, h2⟩ := gl_spec ho
  obtain ⟨x, rfl, h2⟩ := vL_spec h2
  intro H locs la hP hD hS hl
  exact lv_lload_n hx hb d hi (lv_at hl q (aL_get ad h1)) (hK' _ _ _ _ _ _ _ h2 H locs la hP hD hS hl)
theorem snd_lload (C : FOK Γ cc Ts own nL rm) {i : Nat} (d : decode cc pc = .ok (.lload i, 2)) : Snd Γ pc (oLL i (pc + 2)) := by
  obtain ⟨p, l, e, R, s, m, args, below, meth, c, Q, G, A, nL'⟩ := Γ
  obtain ⟨hx, hb, hml, hown, hts, hK, hA, rfl, rfl, hB⟩ := C
  intro K hK' ad k n ls st X ho
  dsimp only [oLL] at ho
  obtain ⟨q, v, h1, h2⟩ := gl_spec ho
  obtain ⟨x, rfl, h2⟩ := vL_spec h2
  intro H locs la hP hD hS hl
  exact lv_lload hx hb d (lv_at hl q (aL_get ad h1)) (hK' _ _ _ _ _ _ _ h2 H locs la hP hD hS hl)
def oDL (i nx : Nat) : aO := fun K ad k n ls st X => gl i (vD fun x => K nx ad k n ls (.double x :: st) X) ls
theorem snd_dload_n (C : FOK Γ cc Ts own nL rm) {i : Nat} {j : Fin 4} (d : decode cc pc = .ok (.dload_n j, 1)) (hi : (j : Nat) = i) : Snd Γ pc (oDL i (pc + 1)) := by
  obtain ⟨p, l, e, R, s, m, args, below, meth, c, Q, G, A, nL'⟩ := Γ
  obtain ⟨hx, hb, hml, hown, hts, hK, hA, rfl, rfl, hB⟩ := C
  intro K hK' ad k n ls st X ho
  dsimp only [oDL] at ho
  obtain ⟨q, v, h1, h2⟩ := gl_spec ho
  obtain ⟨x, rfl, h2⟩ := vD_spec h2
  intro H locs la hP hD hS hl
  exact lv_dload_n hx hb d hi (lv_at hl q (aL_get ad h1)) (hK' _ _ _ _ _ _ _ h2 H locs la hP hD hS hl)
theorem snd_dload (C : FOK Γ cc Ts own nL rm) {i : Nat} (d : decode cc pc = .ok (.dload i, 2)) : Snd Γ pc (oDL i (pc + 2)) := by
  obtain ⟨p, l, e, R, s, m, args, below, meth, c, Q, G, A, nL'⟩ := Γ
  obtain ⟨hx, hb, hml, hown, hts, hK, hA, rfl, rfl, hB⟩ := C
  intro K hK' ad k n ls st X ho
  dsimp only [oDL] at ho
  obtain ⟨q, v, h1, h2⟩ := gl_spec ho
  obtain ⟨x, rfl, h2⟩ := vD_spec h2
  intro H locs la hP hD hS hl
  exact lv_dload hx hb d (lv_at hl q (aL_get ad h1)) (hK' _ _ _ _ _ _ _ h2 H locs la hP hD hS hl)
def oIS (i nx : Nat) : aO := fun K ad k n ls st X => pI (fun x t => fl1 i (fun ls2 => K nx ad k n ((i, .int x) :: ls2) t X) ls) st
theorem snd_istore_n (C : FOK Γ cc Ts own nL rm) {i : Nat} {j : Fin 4} (d : decode cc pc = .ok (.istore_n j, 1)) (hi : (j : Nat) = i) (hn : i < nL) : Snd Γ pc (oIS i (pc + 1)) := by
  obtain ⟨p, l, e, R, s, m, args, below, meth, c, Q, G, A, nL'⟩ := Γ
  obtain ⟨hx, hb, hml, hown, hts, hK, hA, rfl, rfl, hB⟩ := C
  intro K hK' ad k n ls st X ho
  dsimp only [oIS] at ho
  obtain ⟨x, t, rfl, h⟩ := pI_spec ho
  have h := fl1_spec h
  intro H locs la hP hD hS hl
  refine lv_istore_n (lv' := aL ad ((i, .int x) :: ls.filter (kf1 i))) hx hb d hi hl hn ?_ (fun la' hl' => hK' _ _ _ _ _ _ _ h H locs la' hP hD hS hl')
  show (i, Value.int x) :: (aL ad ls).filter (kf1 i) = _
  rw [aL_f1]
  rfl
theorem snd_istore (C : FOK Γ cc Ts own nL rm) {i : Nat} (d : decode cc pc = .ok (.istore i, 2)) (hn : i < nL) : Snd Γ pc (oIS i (pc + 2)) := by
  obtain ⟨p, l, e, R, s, m, args, below, meth, c, Q, G, A, nL'⟩ := Γ
  obtain ⟨hx, hb, hml, hown, hts, hK, hA, rfl, rfl, hB⟩ := C
  intro K hK' ad k n ls st X ho
  dsimp only [oIS] at ho
  obtain ⟨x, t, rfl, h⟩ := pI_spec ho
  have h := fl1_spec h
  intro H locs la hP hD hS hl
  refine lv_istore (lv' := aL ad ((i, .int x) :: ls.filter (kf1 i))) hx hb d hl hn ?_ (fun la' hl' => hK' _ _ _ _ _ _ _ h H locs la' hP hD hS hl')
  show (i, Value.int x) :: (aL ad ls).filter (kf1 i) = _
  rw [aL_f1]
  rfl
def oAS (i nx : Nat) : aO := fun K ad k n ls st X => pR (fun x t => fl1 i (fun ls2 => K nx ad k n ((i, .ref x) :: ls2) t X) ls) st
theorem snd_astore_n (C : FOK Γ cc Ts own nL rm) {i : Nat} {j : Fin 4} (d : decode cc pc = .ok (.astore_n j, 1)) (hi : (j : Nat) = i) (hn : i < nL) : Snd Γ pc (oAS i (pc + 1)) := by
  obtain ⟨p, l, e, R, s, m, args, below, meth, c, Q, G, A, nL'⟩ := Γ
  obtain ⟨hx, hb, hml, hown, hts, hK, hA, rfl, rfl, hB⟩ := C
  intro K hK' ad k n ls st X ho
  dsimp only [oAS] at ho
  obtain ⟨x, t, rfl, h⟩ := pR_spec ho
  have h := fl1_spec h
  intro H locs la hP hD hS hl
  refine lv_astore_n (lv' := aL ad ((i, .ref x) :: ls.filter (kf1 i))) hx hb d hi hl hn ?_ (fun la' hl' => hK' _ _ _ _ _ _ _ h H locs la' hP hD hS hl')
  show (i, Value.ref (ad x)) :: (aL ad ls).filter (kf1 i) = _
  rw [aL_f1]
  rfl
theorem snd_astore (C : FOK Γ cc Ts own nL rm) {i : Nat} (d : decode cc pc = .ok (.astore i, 2)) (hn : i < nL) : Snd Γ pc (oAS i (pc + 2)) := by
  obtain ⟨p, l, e, R, s, m, args, below, meth, c, Q, G, A, nL'⟩ := Γ
  obtain ⟨hx, hb, hml, hown, hts, hK, hA, rfl, rfl, hB⟩ := C
  intro K hK' ad k n ls st X ho
  dsimp only [oAS] at ho
  obtain ⟨x, t, rfl, h⟩ := pR_spec ho
  have h := fl1_spec h
  intro H locs la hP hD hS hl
  refine lv_astore (lv' := aL ad ((i, .ref x) :: ls.filter (kf1 i))) hx hb d hl hn ?_ (fun la' hl' => hK' _ _ _ _ _ _ _ h H locs la' hP hD hS hl')
  show (i, Value.ref (ad x)) :: (aL ad ls).filter (kf1 i) = _
  rw [aL_f1]
  rfl
def oLS (i nx : Nat) : aO := fun K ad k n ls st X => pL (fun x t => fl2 i (fun ls2 => K nx ad k n ((i, .long x) :: ls2) t X) ls) st
theorem snd_lstore_n (C : FOK Γ cc Ts own nL rm) {i : Nat} {j : Fin 4} (d : decode cc pc = .ok (.lstore_n j, 1)) (hi : (j : Nat) = i) (hn : i + 1 < nL) : Snd Γ pc (oLS i (pc + 1)) := by
  obtain ⟨p, l, e, R, s, m, args, below, meth, c, Q, G, A, nL'⟩ := Γ
  obtain ⟨hx, hb, hml, hown, hts, hK, hA, rfl, rfl, hB⟩ := C
  intro K hK' ad k n ls st X ho
  dsimp only [oLS] at ho
  obtain ⟨x, t, rfl, h⟩ := pL_spec ho
  have h := fl2_spec h
  intro H locs la hP hD hS hl
  refine lv_lstore_n (lv' := aL ad ((i, .long x) :: ls.filter (kf2 i))) hx hb d hi hl hn ?_ (fun la' hl' => hK' _ _ _ _ _ _ _ h H locs la' hP hD hS hl')
  show (i, Value.long x) :: (aL ad ls).filter (kf2 i) = _
  rw [aL_f2]
  rfl
theorem snd_lstore (C : FOK Γ cc Ts own nL rm) {i : Nat} (d : decode cc pc = .ok (.lstore i, 2)) (hn : i + 1 < nL) : Snd Γ pc (oLS i (pc + 2)) := by
  obtain ⟨p, l, e, R, s, m, args, below, meth, c, Q, G, A, nL'⟩ := Γ
  obtain ⟨hx, hb, hml, hown, hts, hK, hA, rfl, rfl, hB⟩ := C
  intro K hK' ad k n ls st X ho
  dsimp only [oLS] at ho
  obtain ⟨x, t, rfl, h⟩ := pL_spec ho
  have h := fl2_spec h
  intro H locs la hP hD hS hl
  refine lv_lstore (lv' := aL ad ((i, .long x) :: ls.filter (kf2 i))) hx hb d hl hn ?_ (fun la' hl' => hK' _ _ _ _ _ _ _ h H locs la' hP hD hS hl')
  show (i, Value.long x) :: (aL ad ls).filter (kf2 i) = _
  rw [aL_f2]
  rfl
def oDS (i nx : Nat) : aO := fun K ad k n ls st X => pD (fun x t => fl2 i (fun ls2 => K nx ad k n ((i, .double x) :: ls2) t X) ls) st
theorem snd_dstore_n (C : FOK Γ cc Ts own nL rm) {i : Nat} {j : Fin 4} (d : decode cc pc = .ok (.dstore_n j, 1)) (hi : (j : Nat) = i) (hn : i + 1 < nL) : Snd Γ pc (oDS i (pc + 1)) := by
  obtain ⟨p, l, e, R, s, m, args, below, meth, c, Q, G, A, nL'⟩ := Γ
  obtain ⟨hx, hb, hml, hown, hts, hK, hA, rfl, rfl, hB⟩ := C
  intro K hK' ad k n ls st X ho
  dsimp only [oDS] at ho
  obtain ⟨x, t, rfl, h⟩ := pD_spec ho
  have h := fl2_spec h
  intro H locs la hP hD hS hl
  refine lv_dstore_n (lv' := aL ad ((i, .double x) :: ls.filter (kf2 i))) hx hb d hi hl hn ?_ (fun la' hl' => hK' _ _ _ _ _ _ _ h H locs la' hP hD hS hl')
  show (i, Value.double x) :: (aL ad ls).filter (kf2 i) = _
  rw [aL_f2]
  rfl
theorem snd_dstore (C : FOK Γ cc Ts own nL rm) {i : Nat} (d : decode cc pc = .ok (.dstore i, 2)) (hn : i + 1 < nL) : Snd Γ pc (oDS i (pc + 2)) := by
  obtain ⟨p, l, e, R, s, m, args, below, meth, c, Q, G, A, nL'⟩ := Γ
  obtain ⟨hx, hb, hml, hown, hts, hK, hA, rfl, rfl, hB⟩ := C
  intro K hK' ad k n ls st X ho
  dsimp only [oDS] at ho
  obtain ⟨x, t, rfl, h⟩ := pD_spec ho
  have h := fl2_spec h
  intro H locs la hP hD hS hl
  refine lv_dstore (lv' := aL ad ((i, .double x) :: ls.filter (kf2 i))) hx hb d hl hn ?_ (fun la' hl' => hK' _ _ _ _ _ _ _ h H locs la' hP hD hS hl')
  show (i, Value.double x) :: (aL ad ls).filter (kf2 i) = _
  rw [aL_f2]
  rfl
def oInc (i : Nat) (z : Int32) (nx : Nat) : aO := fun K ad k n ls st X => gl i (vI fun x => fl1 i (fun ls2 => K nx ad k n ((i, .int (x + z)) :: ls2) st X) ls) ls
theorem snd_iinc (C : FOK Γ cc Ts own nL rm) {i : Nat} {z : Int} {w : Int32} (d : decode cc pc = .ok (.iinc i z, 3)) (hw : Int32.ofInt z = w) (hn : i < nL) : Snd Γ pc (oInc i w (pc + 3)) := by
  obtain ⟨p, l, e, R, s, m, args, below, meth, c, Q, G, A, nL'⟩ := Γ
  obtain ⟨hx, hb, hml, hown, hts, hK, hA, rfl, rfl, hB⟩ := C
  intro K hK' ad k n ls st X ho
  dsimp only [oInc] at ho
  subst hw
  obtain ⟨q, v, h1, h2⟩ := gl_spec ho
  obtain ⟨x, rfl, h2⟩ := vI_spec h2
  have h := fl1_spec h2
  intro H locs la hP hD hS hl
  refine lv_iinc (v := x + Int32.ofInt z) (lv' := aL ad ((i, .int (x + Int32.ofInt z)) :: ls.filter (kf1 i))) hx hb d hl (aL_get ad h1) rfl hn ?_ (fun la' hl' => hK' _ _ _ _ _ _ _ h H locs la' hP hD hS hl')
  show (i, Value.int (x + Int32.ofInt z)) :: (aL ad ls).filter (kf1 i) = _
  rw [aL_f1]
  rfl
def oIadd (nx : Nat) : aO := fun K ad k n ls st X => pI (fun b t => pI (fun a t2 => K nx ad k n ls (.int (a + b) :: t2) X) t) st
theorem snd_iadd (C : FOK Γ cc Ts own nL rm) (d : decode cc pc = .ok (.iadd, 1)) : Snd Γ pc (oIadd (pc + 1)) := by
  obtain ⟨p, l, e, R, s, m, args, below, meth, c, Q, G, A, nL'⟩ := Γ
  obtain ⟨hx, hb, hml, hown, hts, hK, hA, rfl, rfl, hB⟩ := C
  intro K hK' ad k n ls st X ho
  dsimp only [oIadd] at ho
  obtain ⟨b, t, rfl, h⟩ := pI_spec ho
  obtain ⟨a, t2, rfl, h⟩ := pI_spec h
  intro H locs la hP hD hS hl
  exact lv_iadd hx hb d (hK' _ _ _ _ _ _ _ h H locs la hP hD hS hl)
def oIsub (nx : Nat) : aO := fun K ad k n ls st X => pI (fun b t => pI (fun a t2 => K nx ad k n ls (.int (a - b) :: t2) X) t) st
theorem snd_isub (C : FOK Γ cc Ts own nL rm) (d : decode cc pc = .ok (.isub, 1)) : Snd Γ pc (oIsub (pc + 1)) := by
  obtain ⟨p, l, e, R, s, m, args, below, meth, c, Q, G, A, nL'⟩ := Γ
  obtain ⟨hx, hb, hml, hown, hts, hK, hA, rfl, rfl, hB⟩ := C
  intro K hK' ad k n ls st X ho
  dsimp only [oIsub] at ho
  obtain ⟨b, t, rfl, h⟩ := pI_spec ho
  obtain ⟨a, t2, rfl, h⟩ := pI_spec h
  intro H locs la hP hD hS hl
  exact lv_isub hx hb d (hK' _ _ _ _ _ _ _ h H locs la hP hD hS hl)
def oImul (nx : Nat) : aO := fun K ad k n ls st X => pI (fun b t => pI (fun a t2 => K nx ad k n ls (.int (a * b) :: t2) X) t) st
theorem snd_imul (C : FOK Γ cc Ts own nL rm) (d : decode cc pc = .ok (.imul, 1)) : Snd Γ pc (oImul (pc + 1)) := by
  obtain ⟨p, l, e, R, s, m, args, below, meth, c, Q, G, A, nL'⟩ := Γ
  obtain ⟨hx, hb, hml, hown, hts, hK, hA, rfl, rfl, hB⟩ := C
  intro K hK' ad k n ls st X ho
  dsimp only [oImul] at ho
  obtain ⟨b, t, rfl, h⟩ := pI_spec ho
  obtain ⟨a, t2, rfl, h⟩ := pI_spec h
  intro H locs la hP hD hS hl
  exact lv_imul hx hb d (hK' _ _ _ _ _ _ _ h H locs la hP hD hS hl)
def oIand (nx : Nat) : aO := fun K ad k n ls st X => pI (fun b t => pI (fun a t2 => K nx ad k n ls (.int (a &&& b) :: t2) X) t) st
theorem snd_iand (C : FOK Γ cc Ts own nL rm) (d : decode cc pc = .ok (.iand, 1)) : Snd Γ pc (oIand (pc + 1)) := by
  obtain ⟨p, l, e, R, s, m, args, below, meth, c, Q, G, A, nL'⟩ := Γ
  obtain ⟨hx, hb, hml, hown, hts, hK, hA, rfl, rfl, hB⟩ := C
  intro K hK' ad k n ls st X ho
  dsimp only [oIand] at ho
  obtain ⟨b, t, rfl, h⟩ := pI_spec ho
  obtain ⟨a, t2, rfl, h⟩ := pI_spec h
  intro H locs la hP hD hS hl
  exact lv_iand hx hb d (hK' _ _ _ _ _ _ _ h H locs la hP hD hS hl)
def oIdiv (nx : Nat) : aO := fun K ad k n ls st X => pI (fun b t => pI (fun a t2 => ¬ b = 0 ∧ K nx ad k n ls (.int (a / b) :: t2) X) t) st
theorem snd_idiv (C : FOK Γ cc Ts own nL rm) (d : decode cc pc = .ok (.idiv, 1)) : Snd Γ pc (oIdiv (pc + 1)) := by
  obtain ⟨p, l, e, R, s, m, args, below, meth, c, Q, G, A, nL'⟩ := Γ
  obtain ⟨hx, hb, hml, hown, hts, hK, hA, rfl, rfl, hB⟩ := C
  intro K hK' ad k n ls st X ho
  dsimp only [oIdiv] at ho
  obtain ⟨b, t, rfl, h⟩ := pI_spec ho
  obtain ⟨a, t2, rfl, hne, h⟩ := pI_spec h
  intro H locs la hP hD hS hl
  exact lv_idiv hx hb d hne (hK' _ _ _ _ _ _ _ h H locs la hP hD hS hl)
def oIrem (nx : Nat) : aO := fun K ad k n ls st X => pI (fun b t => pI (fun a t2 => ¬ b = 0 ∧ K nx ad k n ls (.int (a - a / b * b) :: t2) X) t) st
theorem snd_irem (C : FOK Γ cc Ts own nL rm) (d : decode cc pc = .ok (.irem, 1)) : Snd Γ pc (oIrem (pc + 1)) := by
  obtain ⟨p, l, e, R, s, m, args, below, meth, c, Q, G, A, nL'⟩ := Γ
  obtain ⟨hx, hb, hml, hown, hts, hK, hA, rfl, rfl, hB⟩ := C
  intro K hK' ad k n ls st X ho
  dsimp only [oIrem] at ho
  obtain ⟨b, t, rfl, h⟩ := pI_spec ho
  obtain ⟨a, t2, rfl, hne, h⟩ := pI_spec h
  intro H locs la hP hD hS hl
  exact lv_irem hx hb d hne (hK' _ _ _ _ _ _ _ h H locs la hP hD hS hl)
def oIneg (nx : Nat) : aO := fun K ad k n ls st X => pI (fun b t => K nx ad k n ls (.int (-b) :: t) X) st
theorem snd_ineg (C : FOK Γ cc Ts own nL rm) (d : decode cc pc = .ok (.ineg, 1)) : Snd Γ pc (oIneg (pc + 1)) := by
  obtain ⟨p, l, e, R, s, m, args, below, meth, c, Q, G, A, nL'⟩ := Γ
  obtain ⟨hx, hb, hml, hown, hts, hK, hA, rfl, rfl, hB⟩ := C
  intro K hK' ad k n ls st X ho
  dsimp only [oIneg] at ho
  obtain ⟨b, t, rfl, h⟩ := pI_spec ho
  intro H locs la hP hD hS hl
  exact lv_ineg hx hb d (hK' _ _ _ _ _ _ _ h H locs la hP hD hS hl)
def oI2l (nx : Nat) : aO := fun K ad k n ls st X => pI (fun b t => K nx ad k n ls (.long b.toInt64 :: t) X) st
theorem snd_i2l (C : FOK Γ cc Ts own nL rm) (d : decode cc pc = .ok (.i2l, 1)) : Snd Γ pc (oI2l (pc + 1)) := by
  obtain ⟨p, l, e, R, s, m, args, below, meth, c, Q, G, A, nL'⟩ := Γ
  obtain ⟨hx, hb, hml, hown, hts, hK, hA, rfl, rfl, hB⟩ := C
  intro K hK' ad k n ls st X ho
  dsimp only [oI2l] at ho
  obtain ⟨b, t, rfl, h⟩ := pI_spec ho
  intro H locs la hP hD hS hl
  exact lv_i2l hx hb d rfl (hK' _ _ _ _ _ _ _ h H locs la hP hD hS hl)
def oLadd (nx : Nat) : aO := fun K ad k n ls st X => pL (fun b t => pL (fun a t2 => K nx ad k n ls (.long (a + b) :: t2) X) t) st
theorem snd_ladd (C : FOK Γ cc Ts own nL rm) (d : decode cc pc = .ok (.ladd, 1)) : Snd Γ pc (oLadd (pc + 1)) := by
  obtain ⟨p, l, e, R, s, m, args, below, meth, c, Q, G, A, nL'⟩ := Γ
  obtain ⟨hx, hb, hml, hown, hts, hK, hA, rfl, rfl, hB⟩ := C
  intro K hK' ad k n ls st X ho
  dsimp only [oLadd] at ho
  obtain ⟨b, t, rfl, h⟩ := pL_spec ho
  obtain ⟨a, t2, rfl, h⟩ := pL_spec h
  intro H locs la hP hD hS hl
  exact lv_ladd hx hb d (hK' _ _ _ _ _ _ _ h H locs la hP hD hS hl)
def oLmul (nx : Nat) : aO := fun K ad k n ls st X => pL (fun b t => pL (fun a t2 => K nx ad k n ls (.long (a * b) :: t2) X) t) st
theorem snd_lmul (C : FOK Γ cc Ts own nL rm) (d : decode cc pc = .ok (.lmul, 1)) : Snd Γ pc (oLmul (pc + 1)) := by
  obtain ⟨p, l, e, R, s, m, args, below, meth, c, Q, G, A, nL'⟩ := Γ
  obtain ⟨hx, hb, hml, hown, hts, hK, hA, rfl, rfl, hB⟩ := C
  intro K hK' ad k n ls st X ho
  dsimp only [oLmul] at ho
  obtain ⟨b, t, rfl, h⟩ := pL_spec ho
  obtain ⟨a, t2, rfl, h⟩ := pL_spec h
  intro H locs la hP hD hS hl
  exact lv_lmul hx hb d (hK' _ _ _ _ _ _ _ h H locs la hP hD hS hl)
def oLcmp (nx : Nat) : aO := fun K ad k n ls st X => pL (fun b t => pL (fun a t2 => K nx ad k n ls (.int (lg_cmp a b) :: t2) X) t) st
theorem snd_lcmp (C : FOK Γ cc Ts own nL rm) (d : decode cc pc = .ok (.lcmp, 1)) : Snd Γ pc (oLcmp (pc + 1)) := by
  obtain ⟨p, l, e, R, s, m, args, below, meth, c, Q, G, A, nL'⟩ := Γ
  obtain ⟨hx, hb, hml, hown, hts, hK, hA, rfl, rfl, hB⟩ := C
  intro K hK' ad k n ls st X ho
  dsimp only [oLcmp] at ho
  obtain ⟨b, t, rfl, h⟩ := pL_spec ho
  obtain ⟨a, t2, rfl, h⟩ := pL_spec h
  intro H locs la hP hD hS hl
  exact W.lcmp hx hb d (hK' _ _ _ _ _ _ _ h H locs la hP hD hS hl)
def oI2d (nx : Nat) : aO := fun K ad k n ls st X => pI (fun b t => K nx ad k n ls (.double (FP.i2d b) :: t) X) st
theorem snd_i2d (C : FOK Γ cc Ts own nL rm) (d : decode cc pc = .ok (.i2d, 1)) : Snd Γ pc (oI2d (pc + 1)) := by
  obtain ⟨p, l, e, R, s, m, args, below, meth, c, Q, G, A, nL'⟩ := Γ
  obtain ⟨hx, hb, hml, hown, hts, hK, hA, rfl, rfl, hB⟩ := C
  intro K hK' ad k n ls st X ho
  dsimp only [oI2d] at ho
  obtain ⟨b, t, rfl, h⟩ := pI_spec ho
  intro H locs la hP hD hS hl
  exact lv_i2d hx hb d (hK' _ _ _ _ _ _ _ h H locs la hP hD hS hl)
def oDdiv (nx : Nat) : aO := fun K ad k n ls st X => pD (fun b t => pD (fun a t2 => vf_n64 (FP.ddiv a b) ∧ K nx ad k n ls (.double (FP.ddiv a b) :: t2) X) t) st
theorem snd_ddiv (C : FOK Γ cc Ts own nL rm) (d : decode cc pc = .ok (.ddiv, 1)) : Snd Γ pc (oDdiv (pc + 1)) := by
  obtain ⟨p, l, e, R, s, m, args, below, meth, c, Q, G, A, nL'⟩ := Γ
  obtain ⟨hx, hb, hml, hown, hts, hK, hA, rfl, rfl, hB⟩ := C
  intro K hK' ad k n ls st X ho
  dsimp only [oDdiv] at ho
  obtain ⟨b, t, rfl, h⟩ := pD_spec ho
  obtain ⟨a, t2, rfl, hn, h⟩ := pD_spec h
  intro H locs la hP hD hS hl
  exact lv_ddiv hx hb d hn (hK' _ _ _ _ _ _ _ h H locs la hP hD hS hl)
def oDcmp (o : CmpOp) (nx : Nat) : aO := fun K ad k n ls st X => pD (fun b t => pD (fun a t2 => K nx ad k n ls (.int (Op.cmpValue (FP.dcmp a b) o) :: t2) X) t) st
theorem snd_dcmp (C : FOK Γ cc Ts own nL rm) {o : CmpOp} (d : decode cc pc = .ok (.dcmp o, 1)) : Snd Γ pc (oDcmp o (pc + 1)) := by
  obtain ⟨p, l, e, R, s, m, args, below, meth, c, Q, G, A, nL'⟩ := Γ
  obtain ⟨hx, hb, hml, hown, hts, hK, hA, rfl, rfl, hB⟩ := C
  intro K hK' ad k n ls st X ho
  dsimp only [oDcmp] at ho
  obtain ⟨b, t, rfl, h⟩ := pD_spec ho
  obtain ⟨a, t2, rfl, h⟩ := pD_spec h
  intro H locs la hP hD hS hl
  exact lv_dcmp hx hb d (hK' _ _ _ _ _ _ _ h H locs la hP hD hS hl)
def oIf_eq (tg nx : Nat) : aO := fun K ad k n ls st X => pI (fun x t => (x = 0 → K tg ad k n ls t X) ∧ (¬ x = 0 → K nx ad k n ls t X)) st
theorem snd_if_eq (C : FOK Γ cc Ts own nL rm) {off : Int} {tg : Nat} (d : decode cc pc = .ok (.ifCond .eq off, 3)) (ht : (pc : Int) + off = (tg : Int)) : Snd Γ pc (oIf_eq tg (pc + 3)) := by
  obtain ⟨p, l, e, R, s, m, args, below, meth, c, Q, G, A, nL'⟩ := Γ
  obtain ⟨hx, hb, hml, hown, hts, hK, hA, rfl, rfl, hB⟩ := C
  intro K hK' ad k n ls st X ho
  dsimp only [oIf_eq] at ho
  obtain ⟨x, t, rfl, h1, h2⟩ := pI_spec ho
  intro H locs la hP hD hS hl
  exact lv_if_eq hx hb d ht (fun q => hK' _ _ _ _ _ _ _ (h1 q) H locs la hP hD hS hl) (fun q => hK' _ _ _ _ _ _ _ (h2 q) H locs la hP hD hS hl)
def oIf_ne (tg nx : Nat) : aO := fun K ad k n ls st X => pI (fun x t => (¬ x = 0 → K tg ad k n ls t X) ∧ (x = 0 → K nx ad k n ls t X)) st
theorem snd_if_ne (C : FOK Γ cc Ts own nL rm) {off : Int} {tg : Nat} (d : decode cc pc = .ok (.ifCond .ne off, 3)) (ht : (pc : Int) + off = (tg : Int)) : Snd Γ pc (oIf_ne tg (pc + 3)) := by
  obtain ⟨p, l, e, R, s, m, args, below, meth, c, Q, G, A, nL'⟩ := Γ
  obtain ⟨hx, hb, hml, hown, hts, hK, hA, rfl, rfl, hB⟩ := C
  intro K hK' ad k n ls st X ho
  dsimp only [oIf_ne] at ho
  obtain ⟨x, t, rfl, h1, h2⟩ := pI_spec ho
  intro H locs la hP hD hS hl
  exact lv_if_ne hx hb d ht (fun q => hK' _ _ _ _ _ _ _ (h1 q) H locs la hP hD hS hl) (fun q => hK' _ _ _ _ _ _ _ (h2 q) H locs la hP hD hS hl)
def oIf_lt (tg nx : Nat) : aO := fun K ad k n ls st X => pI (fun x t => (x < 0 → K tg ad k n ls t X) ∧ (¬ x < 0 → K nx ad k n ls t X)) st
theorem snd_if_lt (C : FOK Γ cc Ts own nL rm) {off : Int} {tg : Nat} (d : decode cc pc = .ok (.ifCond .lt off, 3)) (ht : (pc : Int) + off = (tg : Int)) : Snd Γ pc (oIf_lt tg (pc + 3)) := by
  obtain ⟨p, l, e, R, s, m, args, below, meth, c, Q, G, A, nL'⟩ := Γ
  obtain ⟨hx, hb, hml, hown, hts, hK, hA, rfl, rfl, hB⟩ := C
  intro K hK' ad k n ls st X ho
  dsimp only [oIf_lt] at ho
  obtain ⟨x, t, rfl, h1, h2⟩ := pI_spec ho
  intro H locs la hP hD hS hl
  exact lv_if_lt hx hb d ht (fun q => hK' _ _ _ _ _ _ _ (h1 q) H locs la hP hD hS hl) (fun q => hK' _ _ _ _ _ _ _ (h2 q) H locs la hP hD hS hl)
def oIf_ge (tg nx : Nat) : aO := fun K ad k n ls st X => pI (fun x t => (0 ≤ x → K tg ad k n ls t X) ∧ (¬ 0 ≤ x → K nx ad k n ls t X)) st
theorem snd_if_ge (C : FOK Γ cc Ts own nL rm) {off : Int} {tg : Nat} (d : decode cc pc = .ok (.ifCond .ge off, 3)) (ht : (pc : Int) + off = (tg : Int)) : Snd Γ pc (oIf_ge tg (pc + 3)) := by
  obtain ⟨p, l, e, R, s, m, args, below, meth, c, Q, G, A, nL'⟩ := Γ
  obtain ⟨hx, hb, hml, hown, hts, hK, hA, rfl, rfl, hB⟩ := C
  intro K hK' ad k n ls st X ho
  dsimp only [oIf_ge] at ho
  obtain ⟨x, t, rfl, h1, h2⟩ := pI_spec ho
  intro H locs la hP hD hS hl
  exact lv_if_ge hx hb d ht (fun q => hK' _ _ _ _ _ _ _ (h1 q) H locs la hP hD hS hl) (fun q => hK' _ _ _ _ _ _ _ (h2 q) H locs la hP hD hS hl)
def oIf_gt (tg nx : Nat) : aO := fun K ad k n ls st X => pI (fun x t => (0 < x → K tg ad k n ls t X) ∧ (¬ 0 < x → K nx ad k n ls t X)) st
theorem snd_if_gt (C : FOK Γ cc Ts own nL rm) {off : Int} {tg : Nat} (d : decode cc pc = .ok (.ifCond .gt off, 3)) (ht : (pc : Int) + off = (tg : Int)) : Snd Γ pc (oIf_gt tg (pc + 3)) := by
  obtain ⟨p, l, e, R, s, m, args, below, meth, c, Q, G, A, nL'⟩ := Γ
  obtain ⟨hx, hb, hml, hown, hts, hK, hA, rfl, rfl, hB⟩ := C
  intro K hK' ad k n ls st X ho
  dsimp only [oIf_gt] at ho
  obtain ⟨x, t, rfl, h1, h2⟩ := pI_spec ho
  intro H locs la hP hD hS hl
  exact lv_if_gt hx hb d ht (fun q => hK' _ _ _ _ _ _ _ (h1 q) H locs la hP hD hS hl) (fun q => hK' _ _ _ _ _ _ _ (h2 q) H locs la hP hD hS hl)
def oIf_le (tg nx : Nat) : aO := fun K ad k n ls st X => pI (fun x t => (x ≤ 0 → K tg ad k n ls t X) ∧ (¬ x ≤ 0 → K nx ad k n ls t X)) st
theorem snd_if_le (C : FOK Γ cc Ts own nL rm) {off : Int} {tg : Nat} (d : decode cc pc = .ok (.ifCond .le off, 3)) (ht : (pc : Int) + off = (tg : Int)) : Snd Γ pc (oIf_le tg (pc + 3)) := by
  obtain ⟨p, l, e, R, s, m, args, below, meth, c, Q, G, A, nL'⟩ := Γ
  obtain ⟨hx, hb, hml, hown, hts, hK, hA, rfl, rfl, hB⟩ := C
  intro K hK' ad k n ls st X ho
  dsimp only [oIf_le] at ho
  obtain ⟨x, t, rfl, h1, h2⟩ := pI_spec ho
  intro H locs la hP hD hS hl
  exact lv_if_le hx hb d ht (fun q => hK' _ _ _ _ _ _ _ (h1 q) H locs la hP hD hS hl) (fun q => hK' _ _ _ _ _ _ _ (h2 q) H locs la hP hD hS hl)
def oIc_eq (tg nx : Nat) : aO := fun K ad k n ls st X => pI (fun y t => pI (fun x t2 => (x = y → K tg ad k n ls t2 X) ∧ (¬ x = y → K nx ad k n ls t2 X)) t) st
theorem snd_icmp_eq (C : FOK Γ cc Ts own nL rm) {off : Int} {tg : Nat} (d : decode cc pc = .ok (.if_icmp .eq off, 3)) (ht : (pc : Int) + off = (tg : Int)) : Snd Γ pc (oIc_eq tg (pc + 3)) := by
  obtain ⟨p, l, e, R, s, m, args, below, meth, c, Q, G, A, nL'⟩ := Γ
  obtain ⟨hx, hb, hml, hown, hts, hK, hA, rfl, rfl, hB⟩ := C
  intro K hK' ad k n ls st X ho
  dsimp only [oIc_eq] at ho
  obtain ⟨y, t, rfl, h⟩ := pI_spec ho
  obtain ⟨x, t2, rfl, h1, h2⟩ := pI_spec h
  intro H locs la hP hD hS hl
  exact lv_icmp_eq hx hb d ht (fun q => hK' _ _ _ _ _ _ _ (h1 q) H locs la hP hD hS hl) (fun q => hK' _ _ _ _ _ _ _ (h2 q) H locs la hP hD hS hl)
def oIc_ne (tg nx : Nat) : aO := fun K ad k n ls st X => pI (fun y t => pI (fun x t2 => (¬ x = y → K tg ad k n ls t2 X) ∧ (x = y → K nx ad k n ls t2 X)) t) st
theorem snd_icmp_ne (C : FOK Γ cc Ts own nL rm) {off : Int} {tg : Nat} (d : decode cc pc = .ok (.if_icmp .ne off, 3)) (ht : (pc : Int) + off = (tg : Int)) : Snd Γ pc (oIc_ne tg (pc + 3)) := by
  obtain ⟨p, l, e, R, s, m, args, below, meth, c, Q, G, A, nL'⟩ := Γ
  obtain ⟨hx, hb, hml, hown, hts, hK, hA, rfl, rfl, hB⟩ := C
  intro K hK' ad k n ls st X ho
  dsimp only [oIc_ne] at ho
  obtain ⟨y, t, rfl, h⟩ := pI_spec ho
  obtain ⟨x, t2, rfl, h1, h2⟩ := pI_spec h
  intro H locs la hP hD hS hl
  exact lv_icmp_ne hx hb d ht (fun q => hK' _ _ _ _ _ _ _ (h1 q) H locs la hP hD hS hl) (fun q => hK' _ _ _ _ _ _ _ (h2 q) H locs la hP hD hS hl)
def oIc_lt (tg nx : Nat) : aO := fun K ad k n ls st X => pI (fun y t => pI (fun x t2 => (x < y → K tg ad k n ls t2 X) ∧ (¬ x < y → K nx ad k n ls t2 X)) t) st
theorem snd_icmp_lt (C : FOK Γ cc Ts own nL rm) {off : Int} {tg : Nat} (d : decode cc pc = .ok (.if_icmp .lt off, 3)) (ht : (pc : Int) + off = (tg : Int)) : Snd Γ pc (oIc_lt tg (pc + 3)) := by
  obtain ⟨p, l, e, R, s, m, args, below, meth, c, Q, G, A, nL'⟩ := Γ
  obtain ⟨hx, hb, hml, hown, hts, hK, hA, rfl, rfl, hB⟩ := C
  intro K hK' ad k n ls st X ho
  dsimp only [oIc_lt] at ho
  obtain ⟨y, t, rfl, h⟩ := pI_spec ho
  obtain ⟨x, t2, rfl, h1, h2⟩ := pI_spec h
  intro H locs la hP hD hS hl
  exact lv_icmp_lt hx hb d ht (fun q => hK' _ _ _ _ _ _ _ (h1 q) H locs la hP hD hS hl) (fun q => hK' _ _ _ _ _ _ _ (h2 q) H locs la hP hD hS hl)
def oIc_ge (tg nx : Nat) : aO := fun K ad k n ls st X => pI (fun y t => pI (fun x t2 => (y ≤ x → K tg ad k n ls t2 X) ∧ (¬ y ≤ x → K nx ad k n ls t2 X)) t) st
theorem snd_icmp_ge (C : FOK Γ cc Ts own nL rm) {off : Int} {tg : Nat} (d : decode cc pc = .ok (.if_icmp .ge off, 3)) (ht : (pc : Int) + off = (tg : Int)) : Snd Γ pc (oIc_ge tg (pc + 3)) := by
  obtain ⟨p, l, e, R, s, m, args, below, meth, c, Q, G, A, nL'⟩ := Γ
  obtain ⟨hx, hb, hml, hown, hts, hK, hA, rfl, rfl, hB⟩ := C
  intro K hK' ad k n ls st X ho
  dsimp only [oIc_ge] at ho
  obtain ⟨y, t, rfl, h⟩ := pI_spec ho
  obtain ⟨x, t2, rfl, h1, h2⟩ := pI_spec h
  intro H locs la hP hD hS hl
  exact lv_icmp_ge hx hb d ht (fun q => hK' _ _ _ _ _ _ _ (h1 q) H locs la hP hD hS hl) (fun q => hK' _ _ _ _ _ _ _ (h2 q) H locs la hP hD hS hl)
def oIc_gt (tg nx : Nat) : aO := fun K ad k n ls st X => pI (fun y t => pI (fun x t2 => (y < x → K tg ad k n ls t2 X) ∧ (¬ y < x → K nx ad k n ls t2 X)) t) st
theorem snd_icmp_gt (C : FOK Γ cc Ts own nL rm) {off : Int} {tg : Nat} (d : decode cc pc = .ok (.if_icmp .gt off, 3)) (ht : (pc : Int) + off = (tg : Int)) : Snd Γ pc (oIc_gt tg (pc + 3)) := by
  obtain ⟨p, l, e, R, s, m, args, below, meth, c, Q, G, A, nL'⟩ := Γ
  obtain ⟨hx, hb, hml, hown, hts, hK, hA, rfl, rfl, hB⟩ := C
  intro K hK' ad k n ls st X ho
  dsimp only [oIc_gt] at ho
  obtain ⟨y, t, rfl, h⟩ := pI_spec ho
  obtain ⟨x, t2, rfl, h1, h2⟩ := pI_spec h
  intro H locs la hP hD hS hl
  exact lv_icmp_gt hx hb d ht (fun q => hK' _ _ _ _ _ _ _ (h1 q) H locs la hP hD hS hl) (fun q => hK' _ _ _ _ _ _ _ (h2 q) H locs la hP hD hS hl)
def oIc_le (tg nx : Nat) : aO := fun K ad k n ls st X => pI (fun y t => pI (fun x t2 => (x ≤ y → K tg ad k n ls t2 X) ∧ (¬ x ≤ y → K nx ad k n ls t2 X)) t) st
theorem snd_icmp_le (C : FOK Γ cc Ts own nL rm) {off : Int} {tg : Nat} (d : decode cc pc = .ok (.if_icmp .le off, 3)) (ht : (pc : Int) + off = (tg : Int)) : Snd Γ pc (oIc_le tg (pc + 3)) := by
  obtain ⟨p, l, e, R, s, m, args, below, meth, c, Q, G, A, nL'⟩ := Γ
  obtain ⟨hx, hb, hml, hown, hts, hK, hA, rfl, rfl, hB⟩ := C
  intro K hK' ad k n ls st X ho
  dsimp only [oIc_le] at ho
  obtain ⟨y, t, rfl, h⟩ := pI_spec ho
  obtain ⟨x, t2, rfl, h1, h2⟩ := pI_spec h
  intro H locs la hP hD hS hl
  exact lv_icmp_le hx hb d ht (fun q => hK' _ _ _ _ _ _ _ (h1 q) H locs la hP hD hS hl) (fun q => hK' _ _ _ _ _ _ _ (h2 q) H locs la hP hD hS hl)
def oGo (tg : Nat) : aO := fun K ad k n ls st X => K tg ad k n ls st X
theorem snd_goto (C : FOK Γ cc Ts own nL rm) {off : Int} {tg : Nat} (d : decode cc pc = .ok (.goto off, 3)) (ht : (pc : Int) + off = (tg : Int)) : Snd Γ pc (oGo tg) := by
  obtain ⟨p, l, e, R, s, m, args, below, meth, c, Q, G, A, nL'⟩ := Γ
  obtain ⟨hx, hb, hml, hown, hts, hK, hA, rfl, rfl, hB⟩ := C
  intro K hK' ad k n ls st X ho
  dsimp only [oGo] at ho
  intro H locs la hP hD hS hl
  exact lv_goto hx hb d ht (hK' _ _ _ _ _ _ _ ho H locs la hP hD hS hl)
def oDup (nx : Nat) : aO := fun K ad k n ls st X => pV (fun v t => ck (Nat.beq v.category 1) (K nx ad k n ls (v :: v :: t) X)) st
theorem snd_dup (C : FOK Γ cc Ts own nL rm) (d : decode cc pc = .ok (.dup, 1)) : Snd Γ pc (oDup (pc + 1)) := by
  obtain ⟨p, l, e, R, s, m, args, below, meth, c, Q, G, A, nL'⟩ := Γ
  obtain ⟨hx, hb, hml, hown, hts, hK, hA, rfl, rfl, hB⟩ := C
  intro K hK' ad k n ls st X ho
  dsimp only [oDup] at ho
  obtain ⟨v, t, rfl, h⟩ := pV_spec ho
  obtain ⟨hc, h⟩ := ck_spec h
  intro H locs la hP hD hS hl
  exact lv_dup hx hb d ((aV_cat ad v).trans (Nat.eq_of_beq_eq_true hc)) (hK' _ _ _ _ _ _ _ h H locs la hP hD hS hl)
def oDup2 (nx : Nat) : aO := fun K ad k n ls st X => pV (fun v t => pV (fun w t2 => ck (Nat.beq v.category 1) (ck (Nat.beq w.category 1) (K nx ad k n ls (v :: w :: v :: w :: t2) X))) t) st
theorem snd_dup2 (C : FOK Γ cc Ts own nL rm) (d : decode cc pc = .ok (.dup2, 1)) : Snd Γ pc (oDup2 (pc + 1)) := by
  obtain ⟨p, l, e, R, s, m, args, below, meth, c, Q, G, A, nL'⟩ := Γ
  obtain ⟨hx, hb, hml, hown, hts, hK, hA, rfl, rfl, hB⟩ := C
  intro K hK' ad k n ls st X ho
  dsimp only [oDup2] at ho
  obtain ⟨v, t, rfl, h⟩ := pV_spec ho
  obtain ⟨w, t2, rfl, h⟩ := pV_spec h
  obtain ⟨hc, h⟩ := ck_spec h
  obtain ⟨hc2, h⟩ := ck_spec h
  intro H locs la hP hD hS hl
  exact lv_dup2_11 hx hb d ((aV_cat ad v).trans (Nat.eq_of_beq_eq_true hc)) ((aV_cat ad w).trans (Nat.eq_of_beq_eq_true hc2)) (hK' _ _ _ _ _ _ _ h H locs la hP hD hS hl)
def oGet (ci kf nx : Nat) : aO := fun K ad k n ls st X => pR (fun q t => gx q (eO ci fun fs => gx kf (fun v => K nx ad k n ls (v :: t) X) fs) X) st
theorem snd_get (C : FOK Γ cc Ts own nL rm) {ci kf index N : Nat} {ref Cn : String} {T : u_T} (d : decode cc pc = .ok (.getfield index, 3)) (hc : vwCl[ci]? = some (Cn, T, N)) (hk : kf < N) (hin : ∀ w ∈ u_ws Cn T N, w ∈ Ts) (href : ref = (T kf).1) (hw : Cond.fieldLink own index ref (T kf).2.1 (T kf).2.2.1 ∈ Ts) : Snd Γ pc (oGet ci kf (pc + 3)) := by
  obtain ⟨p, l, e, R, s, m, args, below, meth, c, Q, G, A, nL'⟩ := Γ
  obtain ⟨hx, hb, hml, hown, hts, hK, hA, rfl, rfl, hB⟩ := C
  intro K hK' ad k n ls st X ho
  dsimp only [oGet] at ho
  obtain ⟨q, t, rfl, h⟩ := pR_spec ho
  obtain ⟨e0, h1, h⟩ := gx_spec h
  obtain ⟨fs, he9, h9⟩ := eO_spec h
  subst he9
  clear h
  have h := h9
  obtain ⟨v, h2, h⟩ := gx_spec h
  subst href
  intro H locs la hP hD hS hl
  have hq := aX_get G ad X 0 q _ h1
  rw [Nat.zero_add] at hq
  exact va_get hx hb hts hin hown hK hP q hq hc kf hk (hts _ hw) (fun _ h9 => h9) (aS_get ad h2) d (hK' _ _ _ _ _ _ _ h H locs la hP hD hS hl)
theorem snd_getN (C : FOK Γ cc Ts own nL rm) {ci kf index N : Nat} {ref Cn : String} {T : u_T} (d : decode cc pc = .ok (.getfield index, 3)) (hc : vwCl[ci]? = some (Cn, T, N)) (hk : kf < N) (hin : ∀ w ∈ u_ws Cn T N, w ∈ Ts) (href : ref = (T kf).1) (hI : (T kf).2.2.1 = "I") (hown9 : own = "PaintedDie") (hw : (index, ref, (T kf).2.1) ∈ aNf) : Snd Γ pc (oGet ci kf (pc + 3)) := by
  obtain ⟨p, l, e, R, s, m, args, below, meth, c, Q, G, A, nL'⟩ := Γ
  obtain ⟨hx, hb, hml, hown, hts, hK, hA, rfl, rfl, hB⟩ := C
  intro K hK' ad k n ls st X ho
  dsimp only [oGet] at ho
  obtain ⟨q, t, rfl, h⟩ := pR_spec ho
  obtain ⟨e0, h1, h⟩ := gx_spec h
  obtain ⟨fs, he9, h9⟩ := eO_spec h
  subst he9
  clear h
  have h := h9
  obtain ⟨v, h2, h⟩ := gx_spec h
  subst href
  intro H locs la hP hD hS hl
  have hq := aX_get G ad X 0 q _ h1
  rw [Nat.zero_add] at hq
  have hN := (hB.1.1 _ hw).use (A := args) rfl
  dsimp only at hN
  rw [← hI, ← hown9] at hN
  exact va_getN hx hb hts hin hown hK hP q hq hc kf hk hN (fun _ h9 => h9) (aS_get ad h2) d (hK' _ _ _ _ _ _ _ h H locs la hP hD hS hl)
def oPut (ci kf nx : Nat) : aO := fun K ad k n ls st X => pI (fun x t => pR (fun q t2 => gx q (eO ci fun fs => sx kf (.int x) (fun fs2 => sx q (.inr (.inl (ci, fs2))) (fun X2 => K nx ad k n ls t2 X2) X) fs) X) t) st
theorem snd_put (C : FOK Γ cc Ts own nL rm) {ci kf index N : Nat} {ref Cn : String} {T : u_T} {ty0 : Nat → FieldType} (d : decode cc pc = .ok (.putfield index, 3)) (hc : vwCl[ci]? = some (Cn, T, N)) (hk : kf < N) (hin : ∀ w ∈ u_ws Cn T N, w ∈ Ts) (hty : ∀ k, k < N → parseFieldDescriptor (T k).2.2.1 = some (ty0 k)) (hnm : ∀ a, a < N → ∀ b, b < N → a ≠ b → (T a).2.1 ≠ (T b).2.1) (hfin : (T kf).2.2.2 = false) (hI : ty0 kf = .int) (href : ref = (T kf).1) (hw : Cond.fieldLink own index ref (T kf).2.1 (T kf).2.2.1 ∈ Ts) : Snd Γ pc (oPut ci kf (pc + 3)) := by
  obtain ⟨p, l, e, R, s, m, args, below, meth, c, Q, G, A, nL'⟩ := Γ
  obtain ⟨hx, hb, hml, hown, hts, hK, hA, rfl, rfl, hB⟩ := C
  intro K hK' ad k n ls st X ho
  dsimp only [oPut] at ho
  obtain ⟨x, t, rfl, h⟩ := pI_spec ho
  obtain ⟨q, t2, rfl, h⟩ := pR_spec h
  obtain ⟨e0, h1, h⟩ := gx_spec h
  obtain ⟨fs, he9, h9⟩ := eO_spec h
  subst he9
  clear h
  have h := h9
  obtain ⟨hlt, h⟩ := sx_spec h
  obtain ⟨-, h⟩ := sx_spec h
  subst href
  intro H locs la hP hD hS hl
  have hq := aX_get G ad X 0 q _ h1
  rw [Nat.zero_add] at hq
  have hset : (aX G ad 0 X).set q (ad q, aC G ad (.inr (.inl (ci, fs.set kf (.int x))))) = aX G ad 0 (X.set q (.inr (.inl (ci, fs.set kf (.int x))))) := by
    have h9 := aX_set G ad X 0 q (.inr (.inl (ci, fs.set kf (.int x))))
    rwa [Nat.zero_add] at h9
  have hmap : ((fs.map (aV ad)).set kf (.int x)) = (fs.set kf (.int x)).map (aV ad) := by rw [List.map_set]; rfl
  refine va_put hx hb hts hin ty0 hty hnm hown hK hP hD hS q hq hc kf hk (hts _ hw) (fun _ h9 => h9) hfin (ty := .int) (v := .int x) (by rw [hty kf hk, hI]) rfl rfl (by rw [List.length_map]; exact hlt) d (fun H1 locs1 hP1 hD1 hS1 => ?_)
  rw [hmap] at hP1 hD1
  have hP2 : va_P G.1 vwCl (aX G ad 0 (X.set q (.inr (.inl (ci, fs.set kf (.int x)))))) H1 := hset ▸ hP1
  have hD2 : va_D A (aX G ad 0 (X.set q (.inr (.inl (ci, fs.set kf (.int x)))))) := hset ▸ hD1
  exact hK' _ _ _ _ _ _ _ h H1 locs1 la hP2 hD2 hS1 hl
def oIald (nx : Nat) : aO := fun K ad k n ls st X => pI (fun i t => pR (fun q t2 => gx q (eI fun L f => vp_in i L ∧ K nx ad k n ls (.int (f i.toNatClampNeg) :: t2) X) X) t) st
theorem snd_iaload (C : FOK Γ cc Ts own nL rm) (d : decode cc pc = .ok (.iaload, 1)) : Snd Γ pc (oIald (pc + 1)) := by
  obtain ⟨p, l, e, R, s, m, args, below, meth, c, Q, G, A, nL'⟩ := Γ
  obtain ⟨hx, hb, hml, hown, hts, hK, hA, rfl, rfl, hB⟩ := C
  intro K hK' ad k n ls st X ho
  dsimp only [oIald] at ho
  obtain ⟨i, t, rfl, h⟩ := pI_spec ho
  obtain ⟨q, t2, rfl, h⟩ := pR_spec h
  obtain ⟨e0, h1, h⟩ := gx_spec h
  obtain ⟨L, f, rfl, hin, h⟩ := eI_spec h
  intro H locs la hP hD hS hl
  have hq := aX_get G ad X 0 q _ h1
  rw [Nat.zero_add] at hq
  exact va_iald hx hb hK hP q 0 hq rfl hin d (hK' _ _ _ _ _ _ _ h H locs la hP hD hS hl)
def oZald (nx : Nat) : aO := fun K ad k n ls st X => pI (fun i t => pR (fun q t2 => gx q (eZ fun L f => vp_in i L ∧ K nx ad k n ls (.int (f i.toNatClampNeg) :: t2) X) X) t) st
theorem snd_baload (C : FOK Γ cc Ts own nL rm) (d : decode cc pc = .ok (.baload, 1)) : Snd Γ pc (oZald (pc + 1)) := by
  obtain ⟨p, l, e, R, s, m, args, below, meth, c, Q, G, A, nL'⟩ := Γ
  obtain ⟨hx, hb, hml, hown, hts, hK, hA, rfl, rfl, hB⟩ := C
  intro K hK' ad k n ls st X ho
  dsimp only [oZald] at ho
  obtain ⟨i, t, rfl, h⟩ := pI_spec ho
  obtain ⟨q, t2, rfl, h⟩ := pR_spec h
  obtain ⟨e0, h1, h⟩ := gx_spec h
  obtain ⟨L, f, rfl, hin, h⟩ := eZ_spec h
  intro H locs la hP hD hS hl
  have hq := aX_get G ad X 0 q _ h1
  rw [Nat.zero_add] at hq
  exact va_zald hx hb hK hP q 1 hq rfl hin d (hK' _ _ _ _ _ _ _ h H locs la hP hD hS hl)
def oIast (nx : Nat) : aO := fun K ad k n ls st X => pI (fun x t => pI (fun i t2 => pR (fun q t3 => gx q (eI fun L f => vp_in i L ∧ sx q (.inl (false, L, upd f i.toNatClampNeg x)) (fun X2 => K nx ad k n ls t3 X2) X) X) t2) t) st
theorem snd_iastore (C : FOK Γ cc Ts own nL rm) (d : decode cc pc = .ok (.iastore, 1)) : Snd Γ pc (oIast (pc + 1)) := by
  obtain ⟨p, l, e, R, s, m, args, below, meth, c, Q, G, A, nL'⟩ := Γ
  obtain ⟨hx, hb, hml, hown, hts, hK, hA, rfl, rfl, hB⟩ := C
  intro K hK' ad k n ls st X ho
  dsimp only [oIast] at ho
  obtain ⟨x, t, rfl, h⟩ := pI_spec ho
  obtain ⟨i, t2, rfl, h⟩ := pI_spec h
  obtain ⟨q, t3, rfl, h⟩ := pR_spec h
  obtain ⟨e0, h1, h⟩ := gx_spec h
  obtain ⟨L, f, rfl, hin, h⟩ := eI_spec h
  obtain ⟨-, h⟩ := sx_spec h
  intro H locs la hP hD hS hl
  have hq := aX_get G ad X 0 q _ h1
  rw [Nat.zero_add] at hq
  have hset : (aX G ad 0 X).set q (ad q, aC G ad (.inl (false, L, upd f i.toNatClampNeg x))) = aX G ad 0 (X.set q (.inl (false, L, upd f i.toNatClampNeg x))) := by
    have h9 := aX_set G ad X 0 q (.inl (false, L, upd f i.toNatClampNeg x))
    rwa [Nat.zero_add] at h9
  refine va_iast hx hb hK hP hD hS q 0 hq rfl hin d (fun H1 locs1 hP1 hD1 hS1 => ?_)
  have hP2 : va_P G.1 vwCl (aX G ad 0 (X.set q (.inl (false, L, upd f i.toNatClampNeg x)))) H1 := hset ▸ hP1
  have hD2 : va_D A (aX G ad 0 (X.set q (.inl (false, L, upd f i.toNatClampNeg x)))) := hset ▸ hD1
  exact hK' _ _ _ _ _ _ _ h H1 locs1 la hP2 hD2 hS1 hl
def oZast (nx : Nat) : aO := fun K ad k n ls st X => pI (fun x t => pI (fun i t2 => pR (fun q t3 => gx q (eZ fun L f => vp_in i L ∧ (x = 0 ∨ x = 1) ∧ sx q (.inl (true, L, upd f i.toNatClampNeg x)) (fun X2 => K nx ad k n ls t3 X2) X) X) t2) t) st
theorem snd_bastore (C : FOK Γ cc Ts own nL rm) (d : decode cc pc = .ok (.bastore, 1)) : Snd Γ pc (oZast (pc + 1)) := by
  obtain ⟨p, l, e, R, s, m, args, below, meth, c, Q, G, A, nL'⟩ := Γ
  obtain ⟨hx, hb, hml, hown, hts, hK, hA, rfl, rfl, hB⟩ := C
  intro K hK' ad k n ls st X ho
  dsimp only [oZast] at ho
  obtain ⟨x, t, rfl, h⟩ := pI_spec ho
  obtain ⟨i, t2, rfl, h⟩ := pI_spec h
  obtain ⟨q, t3, rfl, h⟩ := pR_spec h
  obtain ⟨e0, h1, h⟩ := gx_spec h
  obtain ⟨L, f, rfl, hin, hz, h⟩ := eZ_spec h
  obtain ⟨-, h⟩ := sx_spec h
  intro H locs la hP hD hS hl
  have hq := aX_get G ad X 0 q _ h1
  rw [Nat.zero_add] at hq
  have hset : (aX G ad 0 X).set q (ad q, aC G ad (.inl (true, L, upd f i.toNatClampNeg x))) = aX G ad 0 (X.set q (.inl (true, L, upd f i.toNatClampNeg x))) := by
    have h9 := aX_set G ad X 0 q (.inl (true, L, upd f i.toNatClampNeg x))
    rwa [Nat.zero_add] at h9
  refine va_zast hx hb hK hP hD hS q 1 hq rfl hin d (fun H1 locs1 hP1 hD1 hS1 => ?_)
  have hz9 : vp_nar .boolean x = x := by rcases hz with rfl | rfl <;> decide
  rw [hz9] at hP1 hD1
  have hP2 : va_P G.1 vwCl (aX G ad 0 (X.set q (.inl (true, L, upd f i.toNatClampNeg x)))) H1 := hset ▸ hP1
  have hD2 : va_D A (aX G ad 0 (X.set q (.inl (true, L, upd f i.toNatClampNeg x)))) := hset ▸ hD1
  exact hK' _ _ _ _ _ _ _ h H1 locs1 la hP2 hD2 hS1 hl
def oAlen (nx : Nat) : aO := fun K ad k n ls st X => pR (fun q t => gx q (eLen fun L => K nx ad k n ls (.int (nI L) :: t) X) X) st
theorem snd_alen (C : FOK Γ cc Ts own nL rm) (d : decode cc pc = .ok (.arraylength, 1)) : Snd Γ pc (oAlen (pc + 1)) := by
  obtain ⟨p, l, e, R, s, m, args, below, meth, c, Q, G, A, nL'⟩ := Γ
  obtain ⟨hx, hb, hml, hown, hts, hK, hA, rfl, rfl, hB⟩ := C
  intro K hK' ad k n ls st X ho
  dsimp only [oAlen] at ho
  obtain ⟨q, t, rfl, h⟩ := pR_spec ho
  obtain ⟨e0, h1, h⟩ := gx_spec h
  intro H locs la hP hD hS hl
  have hq := aX_get G ad X 0 q _ h1
  rw [Nat.zero_add] at hq
  match e0, h1, h, hq with
  | .inl (true, L, f), h1, h, hq => exact va_alen hx hb hK hP q 1 hq (ty := .boolean) rfl rfl d (hK' _ _ _ _ _ _ _ h H locs la hP hD hS hl)
  | .inl (false, L, f), h1, h, hq => exact va_alen hx hb hK hP q 0 hq (ty := .int) rfl rfl d (hK' _ _ _ _ _ _ _ h H locs la hP hD hS hl)
  | .inr (.inr (true, L, f)), h1, h, hq => exact va_alen hx hb hK hP q 3 hq (ty := .array .boolean) rfl rfl d (hK' _ _ _ _ _ _ _ h H locs la hP hD hS hl)
  | .inr (.inr (false, L, f)), h1, h, hq => exact va_alen hx hb hK hP q 2 hq (ty := .array .int) rfl rfl d (hK' _ _ _ _ _ _ _ h H locs la hP hD hS hl)
  | .inr (.inl _), h1, h, hq => exact h.elim
end OPS
