/-! ===== the abstract machine: a method's frame and world as lists whose references are places of the world's list ===== -/
abbrev aE : Type := (Bool × Nat × (Nat → Int32)) ⊕ ((Nat × List Value) ⊕ (Bool × Nat × (Nat → Nat)))
abbrev aG : Type := va_G × ClassId × ClassId × ClassId × ClassId
/-- the rows of an array of arrays -/
abbrev rwF (ad : Nat → Nat) (n : Nat) (g : Nat → Nat) : Nat → Option Nat := fun i => if i < n then some (ad (g i)) else none
def aV (ad : Nat → Nat) : Value → Value
  | .ref a => .ref (ad a)
  | v => v
def aC (K : aG) (ad : Nat → Nat) : aE → va_E
  | .inl (true, n, f) => .inl (K.2.2.1, n, .inl f)
  | .inl (false, n, f) => .inl (K.2.1, n, .inl f)
  | .inr (.inl o) => .inr (o.1, o.2.map (aV ad))
  | .inr (.inr (true, n, g)) => .inl (K.2.2.2.2, n, .inr (.inr (.inr (.inr (rwF ad n g)))))
  | .inr (.inr (false, n, g)) => .inl (K.2.2.2.1, n, .inr (.inr (.inr (.inr (rwF ad n g)))))
def aX (K : aG) (ad : Nat → Nat) : Nat → List aE → va_W
  | _, [] => []
  | i, e :: t => (ad i, aC K ad e) :: aX K ad (i + 1) t
abbrev aT (K : aG) : List (ClassId × FieldType) := [(K.2.1, .int), (K.2.2.1, .boolean), (K.2.2.2.1, .array .int), (K.2.2.2.2, .array .boolean)]
def aL (ad : Nat → Nat) (ls : List (Nat × Value)) : List (Nat × Value) := ls.map (fun q => (q.1, aV ad q.2))
theorem aX_get (K : aG) (ad : Nat → Nat) : ∀ (X : List aE) (i k : Nat) (e : aE), X[k]? = some e → (aX K ad i X)[k]? = some (ad (i + k), aC K ad e)
  | [], i, k, e, h => by simp at h
  | x :: t, i, 0, e, h => by
    simp only [List.getElem?_cons_zero, Option.some.injEq] at h
    subst h
    simp [aX]
  | x :: t, i, k + 1, e, h => by
    simp only [List.getElem?_cons_succ] at h
    have := aX_get K ad t (i + 1) k e h
    simp only [aX, List.getElem?_cons_succ]
    rw [this, show i + 1 + k = i + (k + 1) by omega]
theorem aX_set (K : aG) (ad : Nat → Nat) : ∀ (X : List aE) (i k : Nat) (e : aE), (aX K ad i X).set k (ad (i + k), aC K ad e) = aX K ad i (X.set k e)
  | [], i, k, e => by simp [aX]
  | x :: t, i, 0, e => by simp [aX]
  | x :: t, i, k + 1, e => by
    have := aX_set K ad t (i + 1) k e
    simp only [aX, List.set_cons_succ]
    rw [← this, show i + 1 + k = i + (k + 1) by omega]
theorem aV_cat (ad : Nat → Nat) (v : Value) : (aV ad v).category = v.category := by cases v <;> rfl
theorem aL_get (ad : Nat → Nat) {ls : List (Nat × Value)} {j i : Nat} {v : Value} (h : ls[j]? = some (i, v)) : (aL ad ls)[j]? = some (i, aV ad v) := by
  unfold aL
  rw [List.getElem?_map, h]
  rfl
theorem aS_get (ad : Nat → Nat) {fs : List Value} {j : Nat} {v : Value} (h : fs[j]? = some v) : (fs.map (aV ad))[j]? = some (aV ad v) := by
  rw [List.getElem?_map, h]
  rfl
/-! the context of a body -/
abbrev aΓ : Type := Program × Launch × Env × Room × State × MethodId × Array Value × List Frame × Method × Code × (State → Prop) × aG × (Nat → Prop) × Nat
def FG (Γ : aΓ) (pc : Nat) (ad : Nat → Nat) (k n : Nat) (ls : List (Nat × Value)) (st : List Value) (X : List aE) : Prop :=
  match Γ with
  | (p, l, e, R, s, m, args, below, meth, c, Q, K, A, nL) => ∀ (H : Heap) (locs : List Loc) (la : Array Slot), va_P K.1 vwCl (aX K ad 0 X) H → va_D A (aX K ad 0 X) → va_S A s.heap H locs → lv_has la nL (aL ad ls) →
    W p l e R s m args below meth c H locs k n Q (F0 m pc la (st.map (aV ad)))
def aNf : List (Nat × String × String) := [(133, "PaintedDie$Board", "width"), (136, "PaintedDie$Board", "height"), (177, "PaintedDie$Search", "found")]
/-- what the tables say beside the words of a method's list: nest mates' members -/
def aNst (N : List (String × Nat × MethodName)) (U : State) : Prop := (∀ q ∈ aNf, va_Nw (.fieldLinkNest "PaintedDie" q.1 q.2.1 q.2.2 "I" "PaintedDie") U) ∧ ∀ q ∈ N, va_Nw (.methodLinkNest q.1 q.2.1 q.2.2 "PaintedDie") U
theorem aNst.warm {N : List (String × Nat × MethodName)} {s U : State} (hW : s.WarmedH U.vm) (h : aNst N s) : aNst N U := ⟨fun q hq => (h.1 q hq).warmF hW, fun q hq => (h.2 q hq).warmM hW⟩
theorem aNst.same {N : List (String × Nat × MethodName)} {s U : State} (hv : s.vm = U.vm) (h : aNst N s) : aNst N U := ⟨fun q hq => (h.1 q hq).same rfl hv, fun q hq => (h.2 q hq).same rfl hv⟩
def aStr (S : List (String × Nat × String)) (U : State) : Prop := ∀ q ∈ S, ∃ a, vk_R q.1 q.2.1 q.2.2 a U
theorem aStr.warm {S : List (String × Nat × String)} {s U : State} (hW : s.WarmedH U.vm) (h : aStr S s) : aStr S U := fun q hq => by
  obtain ⟨a, h⟩ := h q hq
  exact ⟨a, h.warm hW⟩
theorem aStr.same {S : List (String × Nat × String)} {s U : State} (hv : s.vm = U.vm) (h : aStr S s) : aStr S U := fun q hq => by
  obtain ⟨a, h⟩ := h q hq
  exact ⟨a, vk_R.same hv.symm h⟩
def aNm : List (String × Nat × MethodName) := [("PaintedDie", 11, yX0_init), ("PaintedDie", 112, yX0_columnOf), ("PaintedDie", 115, yX0_rowOf), ("PaintedDie", 118, yX2_topOf), ("PaintedDie", 124, yX2_faceOn), ("PaintedDie", 127, yX0_printOn), ("PaintedDie", 130, yX0_nextCell), ("PaintedDie", 139, yX0_countWalls), ("PaintedDie", 153, yX0_countPrints), ("PaintedDie", 159, yX1_fewestTo), ("PaintedDie", 162, yX1_fewestWithTop), ("PaintedDie", 168, yX1_rollsAt), ("PaintedDie", 171, yX2_behindRoll), ("PaintedDie", 174, yX1_countTops), ("PaintedDie", 18, yX1_init), ("PaintedDie", 213, yX0_layOut), ("PaintedDie", 222, yX0_printOnto), ("PaintedDie", 225, yX1_forget), ("PaintedDie", 228, yX1_reach), ("PaintedDie", 232, yX1_spread), ("PaintedDie", 236, yX0_isFreeCell), ("PaintedDie", 239, yX2_with), ("PaintedDie", 242, yX0_has), ("PaintedDie", 48, yX0_cellAt), ("PaintedDie", 61, yX0_turnOver), ("PaintedDie", 77, yX0_isFree), ("PaintedDie$Search", 34, yX0_nextCell), ("PaintedDie$Search", 39, yX2_behindRoll), ("PaintedDie$Search", 46, yX2_with)]
def aSt : List (String × Nat × String) := [("PaintedDie", 105, "this roll cannot be made"), ("PaintedDie", 110, "rolls are 1 to 50"), ("PaintedDie", 150, "a print is 0 to 9"), ("PaintedDie", 180, "rolls are 0 to 20"), ("PaintedDie", 245, "there is no such cell"), ("PaintedDie", 247, "a face is 1 to 6"), ("PaintedDie", 249, "a direction is 0 to 3"), ("PaintedDie", 40, "a board is 2 to 7 cells wide and high"), ("PaintedDie", 58, "the die lies there"), ("PaintedDie", 68, "a colour is 1 to 9"), ("PaintedDie", 70, "paint is given from 1 to 20"), ("PaintedDie", 81, "a wall is there")]
/-- what a throw asks of the tables beside the good words -/
def aCs : List String := ["java/lang/IndexOutOfBoundsException", "java/lang/IllegalArgumentException", "java/lang/IllegalStateException"]
def aDc : List MethodName := [⟨"java/lang/RuntimeException", "<init>", "(Ljava/lang/String;)V"⟩, ⟨"java/lang/Exception", "<init>", "(Ljava/lang/String;)V"⟩, ⟨"java/lang/Throwable", "<init>", "(Ljava/lang/String;)V"⟩, ⟨"java/lang/Object", "<init>", "()V"⟩]
def aEx (U : State) : Prop := (∀ E ∈ aCs, (Cond.castable E E).before #[] U = true) ∧ ∀ y ∈ aDc, (Cond.declares y).before #[] U = true
theorem aEx_tr {u U : State} {c : Cond} (hc : c.onTables = true) (h : c.before #[] (u.setVm U.vm) = true) : c.before #[] U = true := by
  have e := Cond.onTables_vm (A := #[]) (A' := #[]) (U := u) (U' := U) U.vm c hc
  have hU : U.setVm U.vm = U := rfl
  rw [hU] at e
  rw [← e]
  exact h
theorem aEx.warm {s U : State} (hW : s.WarmedH U.vm) (h : aEx s) : aEx U :=
  ⟨fun E hE => aEx_tr rfl (by rw [Cond.castable_setVm hW.alike]; exact h.1 E hE), fun y hy => aEx_tr rfl (by rw [Cond.declares_setVm hW.alike]; exact h.2 y hy)⟩
theorem aEx.same {s U : State} (hv : s.vm = U.vm) (h : aEx s) : aEx U := ⟨fun E hE => va_tabs rfl hv (h.1 E hE), fun y hy => va_tabs rfl hv (h.2 y hy)⟩
def aEl : List Cond := aCs.map (fun E => Cond.castable E E) ++ aDc.map Cond.declares
theorem aEx.use {s : State} {A : Array Value} (h : aEx s) : ∀ w ∈ aEl, w.before A s = true := by
  intro w hw
  rcases List.mem_append.mp hw with hw | hw
  · obtain ⟨E, hE, rfl⟩ := List.mem_map.mp hw
    exact va_tabs rfl rfl (h.1 E hE)
  · obtain ⟨y, hy, rfl⟩ := List.mem_map.mp hw
    exact va_tabs rfl rfl (h.2 y hy)
def aB (U : State) : Prop := aNst aNm U ∧ aStr aSt U ∧ aEx U
theorem aB.warm {s U : State} (hW : s.WarmedH U.vm) (h : aB s) : aB U := ⟨h.1.warm hW, h.2.1.warm hW, h.2.2.warm hW⟩
theorem aB.same {s U : State} (hv : s.vm = U.vm) (h : aB s) : aB U := ⟨h.1.same hv, h.2.1.same hv, h.2.2.same hv⟩
/-- the facts of a body -/
def FOK (Γ : aΓ) (cc : ByteArray) (Ts : List Cond) (own : String) (nL : Nat) (rm : Room) : Prop :=
  match Γ with
  | (p, _, _, R, s, m, args, _, _, c, _, K, A, nL') => p.tables.exec = Jvm.exec ∧ c.code = cc ∧ c.maxLocals = nL ∧ s.vm.findClass own = some m.cls ∧ (∀ w ∈ Ts, w.before args s = true) ∧ va_K K.1 vwCl (aT K) s ∧ (∀ q, s.heap.size ≤ q → A q) ∧ nL' = nL ∧ R = rm ∧ aB s
abbrev aK : Type := Nat → (Nat → Nat) → Nat → Nat → List (Nat × Value) → List Value → List aE → Prop
abbrev aO : Type := aK → (Nat → Nat) → Nat → Nat → List (Nat × Value) → List Value → List aE → Prop
def Snd (Γ : aΓ) (pc : Nat) (o : aO) : Prop := ∀ K : aK, (∀ pc ad k n ls st X, K pc ad k n ls st X → FG Γ pc ad k n ls st X) → ∀ ad k n ls st X, o K ad k n ls st X → FG Γ pc ad k n ls st X
def AllS (Γ : aΓ) (tb : List (Nat × aO)) : Prop := ∀ q ∈ tb, Snd Γ q.1 q.2
theorem al_0 {Γ : aΓ} : AllS Γ [] := fun _ h => by cases h
theorem al_c {Γ : aΓ} {pc : Nat} {o : aO} {t : List (Nat × aO)} (h : Snd Γ pc o) (ht : AllS Γ t) : AllS Γ ((pc, o) :: t) := fun q hq => by
  rcases List.mem_cons.mp hq with rfl | hq
  · exact h
  · exact ht q hq
def lku (pc : Nat) : List (Nat × aO) → aO
  | [] => fun _ _ _ _ _ _ _ => False
  | q :: t => match Nat.beq q.1 pc with
    | true => q.2
    | false => lku pc t
theorem lku_snd {Γ : aΓ} {tb : List (Nat × aO)} (h : AllS Γ tb) (pc : Nat) : Snd Γ pc (lku pc tb) := by
  induction tb with
  | nil => exact fun K hK ad k n ls st X hf => hf.elim
  | cons q t ih =>
    unfold lku
    cases e : Nat.beq q.1 pc with
    | true =>
      have := h q List.mem_cons_self
      rw [Nat.eq_of_beq_eq_true e] at this
      exact this
    | false => exact ih fun q hq => h q (List.mem_cons_of_mem _ hq)
def isIn (pc : Nat) : List Nat → Bool
  | [] => false
  | q :: t => match Nat.beq q pc with
    | true => true
    | false => isIn pc t
noncomputable def run (Γ : aΓ) (tb : List (Nat × aO)) (cuts : List Nat) (f : Nat) : aK :=
  Nat.rec (motive := fun _ => aK) (FG Γ) (fun _ ih pc ad k n ls st X => match isIn pc cuts with
    | true => FG Γ pc ad k n ls st X
    | false => lku pc tb ih ad k n ls st X) f
theorem run_snd {Γ : aΓ} {tb : List (Nat × aO)} (h : AllS Γ tb) (cuts : List Nat) : ∀ (f pc : Nat) (ad : Nat → Nat) (k n : Nat) (ls : List (Nat × Value)) (st : List Value) (X : List aE), run Γ tb cuts f pc ad k n ls st X → FG Γ pc ad k n ls st X
  | 0, _, _, _, _, _, _, _, hr => hr
  | f + 1, pc, ad, k, n, ls, st, X, hr => by
    have hr' : (match isIn pc cuts with
      | true => FG Γ pc ad k n ls st X
      | false => lku pc tb (run Γ tb cuts f) ad k n ls st X) := hr
    split at hr'
    · exact hr'
    · exact lku_snd h pc _ (run_snd h cuts f) ad k n ls st X hr'
/-- the instruction at pc, then at most f more, up to the cuts -/
theorem go {Γ : aΓ} {tb : List (Nat × aO)} (h : AllS Γ tb) (cuts : List Nat) (f : Nat) {pc : Nat} {ad : Nat → Nat} {k n : Nat} {ls : List (Nat × Value)} {st : List Value} {X : List aE} (hr : lku pc tb (run Γ tb cuts f) ad k n ls st X) : FG Γ pc ad k n ls st X :=
  lku_snd h pc _ (run_snd h cuts f) ad k n ls st X hr
/-! reading and writing the lists, the rest of the run behind it -/
def gl (i : Nat) (c : Value → Prop) : List (Nat × Value) → Prop
  | [] => False
  | q :: t => match Nat.beq q.1 i with
    | true => c q.2
    | false => gl i c t
theorem gl_spec {i : Nat} {c : Value → Prop} : ∀ {ls : List (Nat × Value)}, gl i c ls → ∃ (j : Nat) (v : Value), ls[j]? = some (i, v) ∧ c v
  | [], h => h.elim
  | q :: t, h => by
    unfold gl at h
    cases e : Nat.beq q.1 i with
    | true =>
      rw [e] at h
      have := Nat.eq_of_beq_eq_true e
      exact ⟨0, q.2, by rw [List.getElem?_cons_zero, ← this], h⟩
    | false =>
      rw [e] at h
      obtain ⟨j, v, h1, h2⟩ := gl_spec h
      exact ⟨j + 1, v, by rw [List.getElem?_cons_succ]; exact h1, h2⟩
def fl1 (i : Nat) (c : List (Nat × Value) → Prop) : List (Nat × Value) → Prop
  | [] => c []
  | q :: t => match Nat.beq q.1 i with
    | true => fl1 i c t
    | false => match Nat.beq (q.1 + 1) i with
      | true => match Nat.beq q.2.category 2 with
        | true => fl1 i c t
        | false => fl1 i (fun t' => c (q :: t')) t
      | false => fl1 i (fun t' => c (q :: t')) t
abbrev kf1 (i : Nat) : Nat × Value → Bool := fun q => !(q.1 == i) && !(q.1 + 1 == i && q.2.category == 2)
theorem beq_nat (a b : Nat) : (a == b) = Nat.beq a b := Bool.eq_iff_iff.mpr (by rw [beq_iff_eq]; exact ⟨fun h => by subst h; exact Nat.beq_refl a, Nat.eq_of_beq_eq_true⟩)
theorem fl1_spec {i : Nat} : ∀ {ls : List (Nat × Value)} {c : List (Nat × Value) → Prop}, fl1 i c ls → c (ls.filter (kf1 i))
  | [], c, h => h
  | q :: t, c, h => by
    unfold fl1 at h
    rw [List.filter_cons]
    simp only [kf1, beq_nat]
    cases e1 : Nat.beq q.1 i with
    | true =>
      rw [e1] at h
      simpa [kf1, beq_nat] using fl1_spec h
    | false =>
      rw [e1] at h
      cases e2 : Nat.beq (q.1 + 1) i with
      | true =>
        rw [e2] at h
        cases e3 : Nat.beq q.2.category 2 with
        | true =>
          rw [e3] at h
          simpa [kf1, beq_nat] using fl1_spec h
        | false =>
          rw [e3] at h
          simpa [kf1, beq_nat] using fl1_spec h
      | false =>
        rw [e2] at h
        simpa [kf1, beq_nat] using fl1_spec h
def fl2 (i : Nat) (c : List (Nat × Value) → Prop) : List (Nat × Value) → Prop
  | [] => c []
  | q :: t => match Nat.beq q.1 i with
    | true => fl2 i c t
    | false => match Nat.beq q.1 (i + 1) with
      | true => fl2 i c t
      | false => match Nat.beq (q.1 + 1) i with
        | true => match Nat.beq q.2.category 2 with
          | true => fl2 i c t
          | false => fl2 i (fun t' => c (q :: t')) t
        | false => fl2 i (fun t' => c (q :: t')) t
abbrev kf2 (i : Nat) : Nat × Value → Bool := fun q => !(q.1 == i) && (!(q.1 == i + 1) && !(q.1 + 1 == i && q.2.category == 2))
theorem fl2_spec {i : Nat} : ∀ {ls : List (Nat × Value)} {c : List (Nat × Value) → Prop}, fl2 i c ls → c (ls.filter (kf2 i))
  | [], c, h => h
  | q :: t, c, h => by
    unfold fl2 at h
    rw [List.filter_cons]
    simp only [kf2, beq_nat]
    cases e1 : Nat.beq q.1 i with
    | true =>
      rw [e1] at h
      simpa [kf2, beq_nat] using fl2_spec h
    | false =>
      rw [e1] at h
      cases e4 : Nat.beq q.1 (i + 1) with
      | true =>
        rw [e4] at h
        simpa [kf2, beq_nat] using fl2_spec h
      | false =>
        rw [e4] at h
        cases e2 : Nat.beq (q.1 + 1) i with
        | true =>
          rw [e2] at h
          cases e3 : Nat.beq q.2.category 2 with
          | true =>
            rw [e3] at h
            simpa [kf2, beq_nat] using fl2_spec h
          | false =>
            rw [e3] at h
            simpa [kf2, beq_nat] using fl2_spec h
        | false =>
          rw [e2] at h
          simpa [kf2, beq_nat] using fl2_spec h
theorem aL_f1 (ad : Nat → Nat) (i : Nat) (ls : List (Nat × Value)) : (aL ad ls).filter (kf1 i) = aL ad (ls.filter (kf1 i)) := by
  unfold aL
  rw [List.filter_map]
  congr 1
  refine List.filter_congr fun q _ => ?_
  simp [kf1, aV_cat]
theorem aL_f2 (ad : Nat → Nat) (i : Nat) (ls : List (Nat × Value)) : (aL ad ls).filter (kf2 i) = aL ad (ls.filter (kf2 i)) := by
  unfold aL
  rw [List.filter_map]
  congr 1
  refine List.filter_congr fun q _ => ?_
  simp [kf2, aV_cat]
/-- the thing at a place of a list -/
def gx {α : Type} : Nat → (α → Prop) → List α → Prop
  | _, _, [] => False
  | 0, c, e :: _ => c e
  | i + 1, c, _ :: t => gx i c t
theorem gx_spec {α : Type} : ∀ {i : Nat} {c : α → Prop} {X : List α}, gx i c X → ∃ e, X[i]? = some e ∧ c e
  | i, c, [], h => by
    cases i <;> exact h.elim
  | 0, c, e :: _, h => ⟨e, rfl, h⟩
  | i + 1, c, _ :: t, h => by
    obtain ⟨e, h1, h2⟩ := gx_spec (i := i) (c := c) (X := t) h
    exact ⟨e, by rw [List.getElem?_cons_succ]; exact h1, h2⟩
def sx {α : Type} : Nat → α → (List α → Prop) → List α → Prop
  | _, _, _, [] => False
  | 0, e, c, _ :: t => c (e :: t)
  | i + 1, e, c, h :: t => sx i e (fun t' => c (h :: t')) t
theorem sx_spec {α : Type} : ∀ {i : Nat} {e : α} {c : List α → Prop} {X : List α}, sx i e c X → i < X.length ∧ c (X.set i e)
  | i, e, c, [], h => by
    cases i <;> exact h.elim
  | 0, e, c, _ :: t, h => ⟨Nat.succ_pos _, h⟩
  | i + 1, e, c, a :: t, h => by
    obtain ⟨h1, h2⟩ := sx_spec (i := i) (e := e) (X := t) h
    exact ⟨Nat.succ_lt_succ h1, h2⟩
