/-! ===== ops of the law's own bodies ===== -/
theorem FG_wid {Γ : aΓ} {pc : Nat} {ad : Nat → Nat} {k n k' n' : Nat} {ls : List (Nat × Value)} {st : List Value} {X : List aE} (hk : k ≤ k') (hn : n ≤ n') (h : FG Γ pc ad k' n' ls st X) : FG Γ pc ad k n ls st X := by
  obtain ⟨p, l, e, R, s, m, args, below, meth, c, Q, G, A, nL⟩ := Γ
  intro H locs la hP hD hS hl
  exact W.widen hk hn (h H locs la hP hD hS hl)
/-! a world told anew: other places, nothing that is not there -/
def reV (π : Nat → Nat) : Value → Value
  | .ref a => .ref (π a)
  | v => v
def reE (π : Nat → Nat) : aE → aE
  | .inl q => .inl q
  | .inr (.inl o) => .inr (.inl (o.1, o.2.map (reV π)))
  | .inr (.inr q) => .inr (.inr (q.1, q.2.1, fun j => π (q.2.2 j)))
theorem aV_re (ad π : Nat → Nat) (v : Value) : aV ad (reV π v) = aV (fun j => ad (π j)) v := by cases v <;> rfl
theorem aVs_re (ad π : Nat → Nat) (l : List Value) : (l.map (reV π)).map (aV ad) = l.map (aV (fun j => ad (π j))) := by
  rw [List.map_map]
  congr 1
  funext v
  exact aV_re ad π v
theorem aC_re (K : aG) (ad π : Nat → Nat) (e : aE) : aC K ad (reE π e) = aC K (fun j => ad (π j)) e := by
  rcases e with ⟨b, n, f⟩ | o | q
  · cases b <;> rfl
  · obtain ⟨c, fs⟩ := o
    simp only [reE, aC, aVs_re]
  · obtain ⟨b, n, g⟩ := q
    cases b <;> rfl
theorem FG_re {Γ : aΓ} {pc : Nat} {ad : Nat → Nat} {k n : Nat} {ls ls' : List (Nat × Value)} {st st' : List Value} {X X2 : List aE} (π : Nat → Nat) (hX : ∀ j e, X2[j]? = some e → X[π j]? = some (reE π e)) (hinj : ∀ i j, i < X2.length → j < X2.length → π i = π j → i = j)
    (hls : ls = ls'.map (fun z => (z.1, reV π z.2))) (hst : st = st'.map (reV π)) (h : FG Γ pc (fun j => ad (π j)) k n ls' st' X2) : FG Γ pc ad k n ls st X := by
  subst hls hst
  obtain ⟨p, l, e, R, s, m, args, below, meth, c, Q, G, A, nL⟩ := Γ
  intro H locs la hP hD hS hl
  have get : ∀ (j : Nat) (q : Nat × va_E), (aX G (fun j => ad (π j)) 0 X2)[j]? = some q → j < X2.length ∧ (aX G ad 0 X)[π j]? = some q := by
    intro j q hq
    obtain ⟨e0, h1, h2⟩ := aX_inv G _ X2 0 j q hq
    refine ⟨(List.getElem?_eq_some_iff.mp h1).1, ?_⟩
    have h3 := aX_at G ad (hX j e0 h1)
    rw [aC_re] at h3
    rw [h2, Nat.zero_add]
    exact h3
  have hP2 : va_P G.1 vwCl (aX G (fun j => ad (π j)) 0 X2) H := fun j q hq => hP (π j) q (get j q hq).2
  have hD2 : va_D A (aX G (fun j => ad (π j)) 0 X2) := ⟨fun i j x y hx hy hxy => by
    obtain ⟨g1, g2⟩ := get i x hx
    obtain ⟨g3, g4⟩ := get j y hy
    exact hinj i j g1 g3 (hD.1 _ _ x y g2 g4 hxy), fun j q hq => hD.2 _ q (get j q hq).2⟩
  have el : aL ad (ls'.map (fun z => (z.1, reV π z.2))) = aL (fun j => ad (π j)) ls' := by
    unfold aL
    rw [List.map_map]
    refine List.map_congr_left fun z _ => ?_
    show (z.1, aV ad (reV π z.2)) = _
    rw [aV_re]
  rw [el] at hl
  have key := h H locs la hP2 hD2 hS hl
  rw [← aVs_re] at key
  exact key
def oAald (nx : Nat) : aO := fun K ad k n ls st X => pI (fun i t => pR (fun q t2 => gx q (fun e => ∃ (b : Bool) (N : Nat) (g : Nat → Nat) (j : Nat), e = .inr (.inr (b, N, g)) ∧ i = nI j ∧ j < N ∧ N ≤ 100 ∧ K nx ad k n ls (.ref (g j) :: t2) X) X) t) st
def oIshr (nx : Nat) : aO := fun K ad k n ls st X => pI (fun y t => pI (fun x t2 => K nx ad k n ls (.int (x >>> (y &&& 31)) :: t2) X) t) st
def oIshl (nx : Nat) : aO := fun K ad k n ls st X => pI (fun y t => pI (fun x t2 => K nx ad k n ls (.int (x <<< (y &&& 31)) :: t2) X) t) st
def oIor (nx : Nat) : aO := fun K ad k n ls st X => pI (fun y t => pI (fun x t2 => K nx ad k n ls (.int (x ||| y) :: t2) X) t) st
def oNul (nx : Nat) : aO := fun K ad k n ls st X => K nx ad k n ls (.null :: st) X
def oIfnn (tg : Nat) : aO := fun K ad k n ls st X => pR (fun _ t => K tg ad k n ls t X) st
/-- a static row: its place -/
def oGs (ad0 : Nat → Nat) (q nx : Nat) : aO := fun K ad k n ls st X => ad q = ad0 q ∧ K nx ad k n ls (.ref q :: st) X
def oSi (ad0 : Nat → Nat) (q9 : Nat) (f : Nat → Int32) (nx : Nat) : aO := fun K ad k n ls st X => pI (fun i t => pR (fun q t2 => q = q9 ∧ ad q9 = ad0 q9 ∧ ∃ j, i = nI j ∧ j < 4 ∧ K nx ad k n ls (.int (f j) :: t2) X) t) st
def oSln (ad0 : Nat → Nat) (L nx : Nat) : aO := fun K ad k n ls st X => pR (fun q t => q = 1000 ∧ ad 1000 = ad0 1000 ∧ K nx ad k n ls (.int (nI L) :: t) X) st
def oSld (ad0 : Nat → Nat) (L : Nat) (xs : Nat → Int32) (nx : Nat) : aO := fun K ad k n ls st X => pI (fun i t => pR (fun q t2 => q = 1000 ∧ ad 1000 = ad0 1000 ∧ ∃ j, i = nI j ∧ j < L ∧ L ≤ 260 ∧ K nx ad k n ls (.int (xs j) :: t2) X) t) st
def oCln (RC RS nx : Nat) : aO := fun K ad k n ls st X => pR (fun q t => ck (le4 t) (∃ (N : Nat) (f : Nat → Int32), X[q]? = some (.inl (false, N, f)) ∧ ls.all (fun z => okW X.length z.2) = true ∧ t.all (okW X.length) = true ∧ X.all (okE X.length) = true ∧ k + 1 ≤ RC ∧ n + N ≤ RS ∧ X.length < 1000 ∧ ∀ ad2, Ag X.length ad ad2 → K nx ad2 (k + 1) (n + N) ls (.ref X.length :: t) (X ++ [.inl (false, N, f)]))) st
def oCsA (nx : Nat) : aO := fun K ad k n ls st X => pR (fun q t => (∃ (N : Nat) (f : Nat → Int32), X[q]? = some (.inl (false, N, f))) ∧ K nx ad k n ls (.ref q :: t) X) st
/-- new T[N][M] -/
def oMna (b : Bool) (RC RS nx : Nat) : aO := fun K ad k n ls st X => pI (fun m t => pI (fun c t2 => ∃ (N M : Nat), c = nI N ∧ m = nI M ∧ N ≤ 100 ∧ M ≤ 100 ∧ ls.all (fun z => okW X.length z.2) = true ∧ t2.all (okW X.length) = true ∧ X.all (okE X.length) = true ∧ k + 1 + N ≤ RC ∧ n + N + N * M ≤ RS ∧ X.length + 1 + N < 1000 ∧
  ∀ ad2, Ag X.length ad ad2 → K nx ad2 (k + 1 + N) (n + N + N * M) ls (.ref X.length :: t2) (X ++ (.inr (.inr (b, N, fun j => X.length + 1 + j)) :: (List.range N).map (fun _ => .inl (b, M, fun _ => 0))))) t) st
section NOPS
variable {Γ : aΓ} {cc : ByteArray} {Ts : List Cond} {own : String} {nL : Nat} {rm : Room} {pc : Nat} {ad0 : Nat → Nat}
theorem va_aldA {p : Program} {l : Launch} {e : Env} {R : Room} {s : State} {m : MethodId} {args : Array Value} {below : List Frame} {meth : Method} {c : Code} {H : Heap} {locs : List Loc} {cells slots : Nat} {Q : State → Prop} {pc : Nat} {ls : Array Slot} {rest : List Value} {D : va_G} {cl : List vw_C} {a : Nat} {tys : List (ClassId × FieldType)} {ws : va_W} {cc : ByteArray}
    (hexec : p.tables.exec = Jvm.exec) (hb : c.code = cc) (hK : va_K D cl tys s) (hP : va_P D cl ws H) (q0 t0 : Nat) {cA : ClassId} {ty : FieldType} {n : Nat} {f : Nat → Option Nat} (ha : ws[q0]? = some (a, .inl (cA, n, .inr (.inr (.inr (.inr f)))))) (ht : tys[t0]? = some (cA, .array ty)) {i : Int32} (hin : vp_in i n) (hdg : decode cc pc = .ok (.aaload, 1))
    (kk : W p l e R s m args below meth c H locs cells slots Q (F0 m (pc + 1) ls (va_rf (f i.toNatClampNeg) :: rest))) : W p l e R s m args below meth c H locs cells slots Q (F0 m pc ls (.int i :: .ref a :: rest)) := by
  have hlt : i.toNatClampNeg < n := Nat.not_le.mp fun q => hin (Or.inr q)
  exact W.aald (v := va_rf (f i.toNatClampNeg)) (ty := .array ty) hexec hb (hP q0 _ ha) ((hK.2 t0 _ ht).1 n (fun j => va_rf (f j))) rfl (fun q => by cases q) (by show ¬ (i < 0 ∨ (arrV _ _ _).slots.size ≤ _); rw [arrV_size]; exact hin) (by show (arrV _ _ _).slots[_]? = _; rw [arrV_read _ _ hlt]) rfl rfl hdg kk
theorem snd_aaload (C : FOK Γ cc Ts own nL rm) (d : decode cc pc = .ok (.aaload, 1)) : Snd Γ pc (oAald (pc + 1)) := by
  obtain ⟨p, l, e, R, s, m, args, below, meth, c, Q, G, A, nL'⟩ := Γ
  obtain ⟨hx, hb, hml, hown, hts, hK, hA, rfl, rfl, hB⟩ := C
  intro K hK' ad k n ls st X ho
  dsimp only [oAald] at ho
  obtain ⟨i, t, rfl, h⟩ := pI_spec ho
  obtain ⟨q, t2, rfl, h⟩ := pR_spec h
  obtain ⟨e0, h1, b, N, g, j, rfl, rfl, hj, hN, h⟩ := gx_spec h
  intro H locs la hP hD hS hl
  have hq := aX_get G ad X 0 q _ h1
  rw [Nat.zero_add] at hq
  have hcl : (nI j).toNatClampNeg = j := nI_clampS (by omega)
  have hrf : va_rf (rwF ad N g j) = Value.ref (ad (g j)) := by
    show va_rf (if j < N then some (ad (g j)) else none) = _
    rw [if_pos hj]
    rfl
  have key := hK' _ _ _ _ _ _ _ h H locs la hP hD hS hl
  cases b with
  | true =>
    refine va_aldA hx hb hK hP q 3 (ty := .boolean) hq rfl (inS hj (by omega)) d ?_
    rw [hcl, hrf]
    exact key
  | false =>
    refine va_aldA hx hb hK hP q 2 (ty := .int) hq rfl (inS hj (by omega)) d ?_
    rw [hcl, hrf]
    exact key
theorem snd_ishr (C : FOK Γ cc Ts own nL rm) (d : decode cc pc = .ok (.ishr, 1)) : Snd Γ pc (oIshr (pc + 1)) := by
  obtain ⟨p, l, e, R, s, m, args, below, meth, c, Q, G, A, nL'⟩ := Γ
  obtain ⟨hx, hb, hml, hown, hts, hK, hA, rfl, rfl, hB⟩ := C
  intro K hK' ad k n ls st X ho
  dsimp only [oIshr] at ho
  obtain ⟨y, t, rfl, h⟩ := pI_spec ho
  obtain ⟨x, t2, rfl, h⟩ := pI_spec h
  intro H locs la hP hD hS hl
  exact lv_ishr hx hb d (hK' _ _ _ _ _ _ _ h H locs la hP hD hS hl)
theorem snd_ishl (C : FOK Γ cc Ts own nL rm) (d : decode cc pc = .ok (.ishl, 1)) : Snd Γ pc (oIshl (pc + 1)) := by
  obtain ⟨p, l, e, R, s, m, args, below, meth, c, Q, G, A, nL'⟩ := Γ
  obtain ⟨hx, hb, hml, hown, hts, hK, hA, rfl, rfl, hB⟩ := C
  intro K hK' ad k n ls st X ho
  dsimp only [oIshl] at ho
  obtain ⟨y, t, rfl, h⟩ := pI_spec ho
  obtain ⟨x, t2, rfl, h⟩ := pI_spec h
  intro H locs la hP hD hS hl
  exact lv_ishl hx hb d (hK' _ _ _ _ _ _ _ h H locs la hP hD hS hl)
theorem snd_ior (C : FOK Γ cc Ts own nL rm) (d : decode cc pc = .ok (.ior, 1)) : Snd Γ pc (oIor (pc + 1)) := by
  obtain ⟨p, l, e, R, s, m, args, below, meth, c, Q, G, A, nL'⟩ := Γ
  obtain ⟨hx, hb, hml, hown, hts, hK, hA, rfl, rfl, hB⟩ := C
  intro K hK' ad k n ls st X ho
  dsimp only [oIor] at ho
  obtain ⟨y, t, rfl, h⟩ := pI_spec ho
  obtain ⟨x, t2, rfl, h⟩ := pI_spec h
  intro H locs la hP hD hS hl
  exact lv_ior hx hb d (hK' _ _ _ _ _ _ _ h H locs la hP hD hS hl)
theorem snd_ldc (C : FOK Γ cc Ts own nL rm) {index : Nat} {v : Int32} (d : decode cc pc = .ok (.ldc index, 2)) (hv : Cond.constant own index v ∈ Ts) : Snd Γ pc (oC v (pc + 2)) := by
  obtain ⟨p, l, e, R, s, m, args, below, meth, c, Q, G, A, nL'⟩ := Γ
  obtain ⟨hx, hb, hml, hown, hts, hK, hA, rfl, rfl, hB⟩ := C
  intro K hK' ad k n ls st X ho
  dsimp only [oC] at ho
  intro H locs la hP hD hS hl
  exact lv_ldc hx hb hown (hts _ hv) d (hK' _ _ _ _ _ _ _ ho H locs la hP hD hS hl)
theorem snd_null (C : FOK Γ cc Ts own nL rm) (d : decode cc pc = .ok (.aconst_null, 1)) : Snd Γ pc (oNul (pc + 1)) := by
  obtain ⟨p, l, e, R, s, m, args, below, meth, c, Q, G, A, nL'⟩ := Γ
  obtain ⟨hx, hb, hml, hown, hts, hK, hA, rfl, rfl, hB⟩ := C
  intro K hK' ad k n ls st X ho
  dsimp only [oNul] at ho
  intro H locs la hP hD hS hl
  exact lv_null hx hb d (hK' _ _ _ _ _ _ _ ho H locs la hP hD hS hl)
theorem snd_ifnn (C : FOK Γ cc Ts own nL rm) {off : Int} {tg : Nat} (d : decode cc pc = .ok (.ifnonnull off, 3)) (ht : (pc : Int) + off = (tg : Int)) : Snd Γ pc (oIfnn tg) := by
  obtain ⟨p, l, e, R, s, m, args, below, meth, c, Q, G, A, nL'⟩ := Γ
  obtain ⟨hx, hb, hml, hown, hts, hK, hA, rfl, rfl, hB⟩ := C
  intro K hK' ad k n ls st X ho
  dsimp only [oIfnn] at ho
  obtain ⟨q, t, rfl, h⟩ := pR_spec ho
  intro H locs la hP hD hS hl
  exact lv_ifnonnull hx hb d ht (hK' _ _ _ _ _ _ _ h H locs la hP hD hS hl)
theorem snd_putR (C : FOK Γ cc Ts own nL rm) {ci kf index N : Nat} {ref Cn : String} {T : u_T} {ty0 : Nat → FieldType} (d : decode cc pc = .ok (.putfield index, 3)) (hc : vwCl[ci]? = some (Cn, T, N)) (hk : kf < N) (hin : ∀ w ∈ u_ws Cn T N, w ∈ Ts) (hty : ∀ k, k < N → parseFieldDescriptor (T k).2.2.1 = some (ty0 k)) (hnm : ∀ a, a < N → ∀ b, b < N → a ≠ b → (T a).2.1 ≠ (T b).2.1) (hfin : (T kf).2.2.2 = false) (hn : ∀ a, narrow (ty0 kf) (.ref a) = .ref a) (hfit : ∀ a, fits (ty0 kf) (.ref a) = true) (href : ref = (T kf).1) (hw : Cond.fieldLink own index ref (T kf).2.1 (T kf).2.2.1 ∈ Ts) : Snd Γ pc (oPutR ci kf (pc + 3)) := by
  obtain ⟨p, l, e, R, s, m, args, below, meth, c, Q, G, A, nL'⟩ := Γ
  obtain ⟨hx, hb, hml, hown, hts, hK, hA, rfl, rfl, hB⟩ := C
  intro K hK' ad k n ls st X ho
  dsimp only [oPutR] at ho
  obtain ⟨x, t, rfl, g1⟩ := pR_spec ho
  obtain ⟨q, t2, rfl, g2⟩ := pR_spec g1
  obtain ⟨e0, h1, g3⟩ := gx_spec g2
  obtain ⟨fs, he9, g4⟩ := eO_spec g3
  subst he9
  obtain ⟨hlt, g5⟩ := sx_spec g4
  obtain ⟨-, h⟩ := sx_spec g5
  subst href
  intro H locs la hP hD hS hl
  have hq := aX_get G ad X 0 q _ h1
  rw [Nat.zero_add] at hq
  have hset : (aX G ad 0 X).set q (ad q, aC G ad (.inr (.inl (ci, fs.set kf (.ref x))))) = aX G ad 0 (X.set q (.inr (.inl (ci, fs.set kf (.ref x))))) := by
    have h9 := aX_set G ad X 0 q (.inr (.inl (ci, fs.set kf (.ref x))))
    rwa [Nat.zero_add] at h9
  have hmap : ((fs.map (aV ad)).set kf (.ref (ad x))) = (fs.set kf (.ref x)).map (aV ad) := by rw [List.map_set]; rfl
  refine va_put hx hb hts hin ty0 hty hnm hown hK hP hD hS q hq hc kf hk (hts _ hw) (fun _ h9 => h9) hfin (ty := ty0 kf) (v := .ref (ad x)) (hty kf hk) (hn _) (hfit _) (by rw [List.length_map]; exact hlt) d (fun H1 locs1 hP1 hD1 hS1 => ?_)
  rw [hmap] at hP1 hD1
  have hP2 : va_P G.1 vwCl (aX G ad 0 (X.set q (.inr (.inl (ci, fs.set kf (.ref x)))))) H1 := hset ▸ hP1
  have hD2 : va_D A (aX G ad 0 (X.set q (.inr (.inl (ci, fs.set kf (.ref x)))))) := hset ▸ hD1
  exact hK' _ _ _ _ _ _ _ h H1 locs1 la hP2 hD2 hS1 hl
theorem snd_Gs1 (C : FOK Γ cc Ts own nL rm) (CN : FON ad0 Γ) {index : Nat} (d : decode cc pc = .ok (.getstatic index, 3)) (hw : Cond.fieldLink own index "PaintedDieLaw" "ACROSS" "[I" ∈ Ts) : Snd Γ pc (oGs ad0 1001 (pc + 3)) := by
  obtain ⟨p, l, e, R, s, m, args, below, meth, c, Q, G, A, nL'⟩ := Γ
  obtain ⟨hx, hb, hml, hown, hts, hK, hA, rfl, rfl, hB⟩ := C
  intro K hK' ad k n ls st X ho
  dsimp only [oGs] at ho
  intro H locs la hP hD hS hl
  have key := hK' _ _ _ _ _ _ _ ho.2 H locs la hP hD hS hl
  have e1 : (Value.ref 1001 :: st).map (aV ad) = .ref (ad0 1001) :: st.map (aV ad) := by
    show Value.ref (ad 1001) :: _ = _
    rw [ho.1]
  rw [e1] at key
  exact va_gets hx hb CN.2.1.1.1 hS hown (hts _ hw) (fun _ h9 => h9) d key
theorem snd_Gs2 (C : FOK Γ cc Ts own nL rm) (CN : FON ad0 Γ) {index : Nat} (d : decode cc pc = .ok (.getstatic index, 3)) (hw : Cond.fieldLink own index "PaintedDieLaw" "DOWN" "[I" ∈ Ts) : Snd Γ pc (oGs ad0 1002 (pc + 3)) := by
  obtain ⟨p, l, e, R, s, m, args, below, meth, c, Q, G, A, nL'⟩ := Γ
  obtain ⟨hx, hb, hml, hown, hts, hK, hA, rfl, rfl, hB⟩ := C
  intro K hK' ad k n ls st X ho
  dsimp only [oGs] at ho
  intro H locs la hP hD hS hl
  have key := hK' _ _ _ _ _ _ _ ho.2 H locs la hP hD hS hl
  have e1 : (Value.ref 1002 :: st).map (aV ad) = .ref (ad0 1002) :: st.map (aV ad) := by
    show Value.ref (ad 1002) :: _ = _
    rw [ho.1]
  rw [e1] at key
  exact va_gets hx hb CN.2.1.2.1.1 hS hown (hts _ hw) (fun _ h9 => h9) d key
theorem snd_GsN1 (C : FOK Γ cc Ts "PaintedDieLaw$Sim" nL rm) (CN : FON ad0 Γ) (d : decode cc pc = .ok (.getstatic 52, 3)) : Snd Γ pc (oGs ad0 1001 (pc + 3)) := by
  obtain ⟨p, l, e, R, s, m, args, below, meth, c, Q, G, A, nL'⟩ := Γ
  obtain ⟨hx, hb, hml, hown, hts, hK, hA, rfl, rfl, hB⟩ := C
  intro K hK' ad k n ls st X ho
  dsimp only [oGs] at ho
  intro H locs la hP hD hS hl
  have key := hK' _ _ _ _ _ _ _ ho.2 H locs la hP hD hS hl
  have e1 : (Value.ref 1001 :: st).map (aV ad) = .ref (ad0 1001) :: st.map (aV ad) := by
    show Value.ref (ad 1001) :: _ = _
    rw [ho.1]
  rw [e1] at key
  exact va_getsN hx hb CN.2.1.1.1 hS hown (CN.1.2.2.2.1.use (A := args) rfl) (fun _ h9 => h9) d key
theorem snd_GsN2 (C : FOK Γ cc Ts "PaintedDieLaw$Sim" nL rm) (CN : FON ad0 Γ) (d : decode cc pc = .ok (.getstatic 57, 3)) : Snd Γ pc (oGs ad0 1002 (pc + 3)) := by
  obtain ⟨p, l, e, R, s, m, args, below, meth, c, Q, G, A, nL'⟩ := Γ
  obtain ⟨hx, hb, hml, hown, hts, hK, hA, rfl, rfl, hB⟩ := C
  intro K hK' ad k n ls st X ho
  dsimp only [oGs] at ho
  intro H locs la hP hD hS hl
  have key := hK' _ _ _ _ _ _ _ ho.2 H locs la hP hD hS hl
  have e1 : (Value.ref 1002 :: st).map (aV ad) = .ref (ad0 1002) :: st.map (aV ad) := by
    show Value.ref (ad 1002) :: _ = _
    rw [ho.1]
  rw [e1] at key
  exact va_getsN hx hb CN.2.1.2.1.1 hS hown (CN.1.2.2.2.2.1.use (A := args) rfl) (fun _ h9 => h9) d key
theorem snd_Si1 (C : FOK Γ cc Ts own nL rm) (CN : FON ad0 Γ) (d : decode cc pc = .ok (.iaload, 1)) : Snd Γ pc (oSi ad0 1001 acr (pc + 1)) := by
  obtain ⟨p, l, e, R, s, m, args, below, meth, c, Q, G, A, nL'⟩ := Γ
  obtain ⟨hx, hb, hml, hown, hts, hK, hA, rfl, rfl, hB⟩ := C
  intro K hK' ad k n ls st X ho
  dsimp only [oSi] at ho
  obtain ⟨i, t, rfl, h1⟩ := pI_spec ho
  obtain ⟨q, t2, rfl, rfl, had, j, rfl, hj, h⟩ := pR_spec h1
  intro H locs la hP hD hS hl
  have e1 : (Value.int (nI j) :: Value.ref 1001 :: t2).map (aV ad) = .int (nI j) :: .ref (ad0 1001) :: t2.map (aV ad) := by
    show _ :: Value.ref (ad 1001) :: _ = _
    rw [had]
    rfl
  rw [e1]
  exact va_ti hx hb CN.2.1.1.2 hS (inS hj (by decide)) (v := .int (acr j)) (by rw [nI_clampS (by omega)]) d (hK' _ _ _ _ _ _ _ h H locs la hP hD hS hl)
theorem snd_Si2 (C : FOK Γ cc Ts own nL rm) (CN : FON ad0 Γ) (d : decode cc pc = .ok (.iaload, 1)) : Snd Γ pc (oSi ad0 1002 dwn (pc + 1)) := by
  obtain ⟨p, l, e, R, s, m, args, below, meth, c, Q, G, A, nL'⟩ := Γ
  obtain ⟨hx, hb, hml, hown, hts, hK, hA, rfl, rfl, hB⟩ := C
  intro K hK' ad k n ls st X ho
  dsimp only [oSi] at ho
  obtain ⟨i, t, rfl, h1⟩ := pI_spec ho
  obtain ⟨q, t2, rfl, rfl, had, j, rfl, hj, h⟩ := pR_spec h1
  intro H locs la hP hD hS hl
  have e1 : (Value.int (nI j) :: Value.ref 1002 :: t2).map (aV ad) = .int (nI j) :: .ref (ad0 1002) :: t2.map (aV ad) := by
    show _ :: Value.ref (ad 1002) :: _ = _
    rw [had]
    rfl
  rw [e1]
  exact va_ti hx hb CN.2.1.2.1.2 hS (inS hj (by decide)) (v := .int (dwn j)) (by rw [nI_clampS (by omega)]) d (hK' _ _ _ _ _ _ _ h H locs la hP hD hS hl)
/-- the script as a body knows it -/
def FOS (ad0 : Nat → Nat) (L : Nat) (xs : Nat → Int32) (Γ : aΓ) : Prop := match Γ with
  | (p, l, e, R, s, m, args, below, meth, c, Q, K, A, nL) => va_T .int (ad0 1000) L (fun j => .int (xs j)) A s s.heap
theorem FON.scr {Γ : aΓ} (h : FON ad0 Γ) : ∃ (L : Nat) (xs : Nat → Int32), L ≤ 260 ∧ FOS ad0 L xs Γ := by
  obtain ⟨p, l, e, R, s, m, args, below, meth, c, Q, G, A, nL'⟩ := Γ
  exact h.2.1.2.2
theorem snd_Sln {L : Nat} {xs : Nat → Int32} (C : FOK Γ cc Ts own nL rm) (CS : FOS ad0 L xs Γ) (d : decode cc pc = .ok (.arraylength, 1)) : Snd Γ pc (oSln ad0 L (pc + 1)) := by
  obtain ⟨p, l, e, R, s, m, args, below, meth, c, Q, G, A, nL'⟩ := Γ
  obtain ⟨hx, hb, hml, hown, hts, hK, hA, rfl, rfl, hB⟩ := C
  intro K hK' ad k n ls st X ho
  dsimp only [oSln] at ho
  obtain ⟨q, t, rfl, rfl, had, h⟩ := pR_spec ho
  intro H locs la hP hD hS hl
  have e1 : (Value.ref 1000 :: t).map (aV ad) = .ref (ad0 1000) :: t.map (aV ad) := by
    show Value.ref (ad 1000) :: _ = _
    rw [had]
  rw [e1]
  exact va_tlen hx hb (ty := .int) CS hS rfl d (hK' _ _ _ _ _ _ _ h H locs la hP hD hS hl)
theorem snd_Sld {L : Nat} {xs : Nat → Int32} (C : FOK Γ cc Ts own nL rm) (CS : FOS ad0 L xs Γ) (d : decode cc pc = .ok (.iaload, 1)) : Snd Γ pc (oSld ad0 L xs (pc + 1)) := by
  obtain ⟨p, l, e, R, s, m, args, below, meth, c, Q, G, A, nL'⟩ := Γ
  obtain ⟨hx, hb, hml, hown, hts, hK, hA, rfl, rfl, hB⟩ := C
  intro K hK' ad k n ls st X ho
  dsimp only [oSld] at ho
  obtain ⟨i, t, rfl, h1⟩ := pI_spec ho
  obtain ⟨q, t2, rfl, rfl, had, j, rfl, hj, hL, h⟩ := pR_spec h1
  intro H locs la hP hD hS hl
  have e1 : (Value.int (nI j) :: Value.ref 1000 :: t2).map (aV ad) = .int (nI j) :: .ref (ad0 1000) :: t2.map (aV ad) := by
    show _ :: Value.ref (ad 1000) :: _ = _
    rw [had]
    rfl
  rw [e1]
  exact va_ti hx hb CS hS (inS hj (by omega)) (v := .int (xs j)) (by rw [nI_clampS (by omega)]) d (hK' _ _ _ _ _ _ _ h H locs la hP hD hS hl)
theorem snd_CsA (C : FOK Γ cc Ts own nL rm) {index : Nat} (d : decode cc pc = .ok (.checkcast index, 3)) (hw : Cond.classLink own index "[I" ∈ Ts) : Snd Γ pc (oCsA (pc + 3)) := by
  obtain ⟨p, l, e, R, s, m, args, below, meth, c, Q, G, A, nL'⟩ := Γ
  obtain ⟨hx, hb, hml, hown, hts, hK, hA, rfl, rfl, hB⟩ := C
  intro K hK' ad k n ls st X ho
  dsimp only [oCsA] at ho
  obtain ⟨q, t, rfl, ⟨N, f, h1⟩, h⟩ := pR_spec ho
  intro H locs la hP hD hS hl
  have hq := aX_get G ad X 0 q _ h1
  rw [Nat.zero_add] at hq
  have g1 : s.vm.findClass "[I" = some G.2.1 := (hK.2 0 (G.2.1, .int) rfl).2
  exact va_castA hx hb hown (hts _ hw) hP q hq g1 d (hK' _ _ _ _ _ _ _ h H locs la hP hD hS hl)
theorem snd_Cln (C : FOK Γ cc Ts own nL rm) (CN : FON ad0 Γ) {index : Nat} (d : decode cc pc = .ok (.invokevirtual index, 3)) (h1 : Cond.methodLink own index ⟨"[I", "clone", "()Ljava/lang/Object;"⟩ ∈ Ts) (h2 : Cond.sameMethod "[I" "java/lang/Object" "clone" "()Ljava/lang/Object;" ∈ Ts) (h3 : Cond.native ⟨"java/lang/Object", "clone", "()Ljava/lang/Object;"⟩ ∈ Ts) (h4 : Cond.instanceMethod ⟨"java/lang/Object", "clone", "()Ljava/lang/Object;"⟩ ∈ Ts)
    (h5 : Cond.selects "[I" ⟨"[I", "clone", "()Ljava/lang/Object;"⟩ ⟨"java/lang/Object", "clone", "()Ljava/lang/Object;"⟩ ∈ Ts) (hR : 1 ≤ rm.frames ∧ 22 ≤ rm.locals) : Snd Γ pc (oCln rm.cells rm.slots (pc + 3)) := by
  obtain ⟨p, l, e, R, s, m, args, below, meth, c, Q, G, A, nL'⟩ := Γ
  obtain ⟨hx, hb, hml, hown, hts, hK, hA, rfl, rfl, hB⟩ := C
  intro K hK' ad k n ls st X ho
  dsimp only [oCln] at ho
  obtain ⟨q, t, rfl, g0⟩ := pR_spec ho
  obtain ⟨c0, N, f, g1, c1, c2, c3, c4, c5, c6, h⟩ := ck_spec g0
  intro H locs la hP hD hS hl
  have hq := aX_get G ad X 0 q _ g1
  rw [Nat.zero_add] at hq
  have g2 : s.vm.findClass "[I" = some G.2.1 := (hK.2 0 (G.2.1, .int) rfl).2
  have h9 := le4_spec ad c0
  refine va_clone hx hb (hml.trans hl.1.symm) hown (hts _ h1) (hts _ h2) (hts _ h3) (hts _ h4) (hts _ h5) CN.1.2.2.1 hK hP hD hS hA q 0 (ty := .int) hq rfl g2 (fun i v hv => ?_) hR.1 (by omega) c4 c5 d (fun q9 H1 _ hP1 hD1 hS1 => ?_)
  · have hv2 : (arrV G.2.1 N (fun j => .int (f j))).slots[i]? = some v := hv
    by_cases hi : i < N
    · rw [arrV_read _ _ hi] at hv2
      cases hv2
      rfl
    · rw [Array.getElem?_eq_none (by rw [arrV_size]; omega)] at hv2
      cases hv2
  · have ag := ag_adx (ad := ad) (q := q9) c6
    have hX : aX G (adx ad X.length q9) 0 (X ++ [.inl (false, N, f)]) = aX G ad 0 X ++ [(q9, .inl (G.2.1, N, .inl f))] := aX_push c3
    have hst : ((Value.ref X.length :: t).map (aV (adx ad X.length q9))) = .ref q9 :: t.map (aV ad) := by
      rw [List.map_cons, aVs_ag ag c2]
      show Value.ref (if X.length = X.length then q9 else _) :: _ = _
      rw [if_pos rfl]
    have key := hK' _ _ _ _ _ _ _ (h _ ag) H1 locs la (by rw [hX]; exact hP1) (by rw [hX]; exact hD1) hS1 (by rw [aL_ag ag c1]; exact hl)
    rw [hst] at key
    exact key
/-- places of an outer array and its rows -/
abbrev adM (ad : Nat → Nat) (n q N : Nat) (r : Nat → Nat) : Nat → Nat := fun i => if i < n then ad i else if i = n then q else if i ≤ n + N then r (i - n - 1) else ad i
theorem aX_rows (K : aG) (ad : Nat → Nat) (e : aE) : ∀ (N i : Nat), aX K ad i ((List.range N).map (fun _ => e)) = (List.range N).map (fun j => (ad (i + j), aC K ad e))
  | 0, i => rfl
  | N + 1, i => by
    rw [List.range_succ, List.map_append, List.map_append, aX_app, aX_rows K ad e N i, List.length_map, List.length_range]
    rfl
theorem snd_Mna_true (C : FOK Γ cc Ts own nL rm) (CN : FON ad0 Γ) {index : Nat} (d : decode cc pc = .ok (.multianewarray index 2, 4)) (hw : Cond.classLink own index ("[" ++ (FieldType.array .boolean).toString) ∈ Ts) (ha : Cond.arrayClass .boolean ∈ Ts) : Snd Γ pc (oMna true rm.cells rm.slots (pc + 4)) := by
  obtain ⟨p, l, e, R, s, m, args, below, meth, c, Q, G, A, nL'⟩ := Γ
  obtain ⟨hx, hb, hml, hown, hts, hK, hA, rfl, rfl, hB⟩ := C
  intro K hK' ad k n ls st X ho
  dsimp only [oMna] at ho
  obtain ⟨y, t, rfl, g1⟩ := pI_spec ho
  obtain ⟨x, t2, rfl, N, M, rfl, rfl, hN, hM, c1, c2, c3, c4, c5, c6, h⟩ := pI_spec g1
  intro H locs la hP hD hS hl
  have hcy : s.vm.findClass (FieldType.array .boolean).toString = some G.2.2.1 := (hK.2 1 (G.2.2.1, .boolean) rfl).2
  refine va_mna (X := aX G ad 0 X) (L := []) (f := fun _ => .inl (G.2.2.1, 0, .inl (fun _ => 0))) (z := (M, .inl (fun _ => 0))) hx hb hown (hts _ hw) CN.1.1 (hts _ ha) hcy hK (by rw [show va_pl [] _ = [] from rfl, List.append_nil]; exact hP) (by rw [show va_pl [] _ = [] from rfl, List.append_nil]; exact hD) hS hA (nI_pos (by omega)) (nI_pos (by omega)) (nI_clampS (by omega)) (nI_clampS (by omega)) (by omega)
    (Nat.le_trans (Nat.mul_le_mul_right _ hM) (by decide)) (by omega) rfl rfl (by omega) (by omega) (fun _ => arrV_new _ _ _) d (fun q r cA H1 hr _ hK1 hP1 hD1 hS1 => ?_)
  have hc : cA = G.2.2.2.2 := by
    have g1 : s.vm.findClass ("[" ++ (FieldType.array .boolean).toString) = some G.2.2.2.2 := (hK.2 3 (G.2.2.2.2, .array .boolean) rfl).2
    have g2 : s.vm.findClass ("[" ++ (FieldType.array .boolean).toString) = some cA := (hK1.2 4 (cA, .array .boolean) rfl).2
    exact (Option.some.inj (g1.symm.trans g2)).symm
  subst hc
  have ag : Ag X.length ad (adM ad X.length q N r) := fun i hi => by
    show (if i < X.length then ad i else if i = X.length then q else if i ≤ X.length + N then r (i - X.length - 1) else ad i) = ad i
    rcases hi with hi | hi
    · rw [if_pos hi]
    · rw [if_neg (by omega), if_neg (by omega), if_neg (by omega)]
  have eN : adM ad X.length q N r X.length = q := by
    show (if X.length < X.length then ad X.length else if X.length = X.length then q else _) = q
    rw [if_neg (Nat.lt_irrefl _), if_pos rfl]
  have eR : ∀ j, j < N → adM ad X.length q N r (X.length + 1 + j) = r j := fun j hj => by
    show (if X.length + 1 + j < X.length then _ else if X.length + 1 + j = X.length then q else if X.length + 1 + j ≤ X.length + N then r (X.length + 1 + j - X.length - 1) else _) = _
    rw [if_neg (by omega), if_neg (by omega), if_pos (by omega), show X.length + 1 + j - X.length - 1 = j by omega]
  have hX : aX G (adM ad X.length q N r) 0 (X ++ (.inr (.inr (true, N, fun j => X.length + 1 + j)) :: (List.range N).map (fun _ => .inl (true, M, fun _ => 0)))) = aX G ad 0 X ++ [(q, .inl (G.2.2.2.2, N, .inr (.inr (.inr (.inr (fun i => if i < N then some (r i) else none))))))] ++ va_pl ([] ++ (List.range N).map r) (vr_up (fun _ => .inl (G.2.2.1, 0, .inl (fun _ => 0))) ((List.range N).map r) (.inl (G.2.2.1, (M, .inl (fun _ => 0))))) := by
    rw [aX_app, Nat.zero_add, aX_lt (N := X.length) (fun i hi => ag i (Or.inl hi)) X 0 c3 (by omega), List.append_assoc]
    congr 1
    show (adM ad X.length q N r X.length, (.inl (G.2.2.2.2, N, .inr (.inr (.inr (.inr (rwF (adM ad X.length q N r) N (fun j => X.length + 1 + j)))))) : va_E)) :: aX G (adM ad X.length q N r) (X.length + 1) ((List.range N).map (fun _ => .inl (true, M, fun _ => 0))) = _
    rw [eN, aX_rows, ← vr_rows (L := []) (fun _ _ h => by cases h)]
    have e1 : rwF (adM ad X.length q N r) N (fun j => X.length + 1 + j) = fun i => if i < N then some (r i) else none := by
      funext i
      by_cases hi : i < N
      · simp only [rwF, if_pos hi]
        exact congrArg some (eR i hi)
      · simp only [rwF, if_neg hi]
    rw [e1]
    show _ :: _ = _ :: _
    congr 1
    show _ = va_pl [] _ ++ List.map (fun a => (a, _)) ((List.range N).map r)
    rw [show va_pl [] (fun _ => (Sum.inl (G.2.2.1, 0, .inl (fun _ => 0)) : va_E)) = [] from rfl, List.nil_append, List.map_map]
    refine List.map_congr_left fun j hj => ?_
    show (adM ad X.length q N r (X.length + 1 + j), _) = _
    rw [eR j (List.mem_range.mp hj)]
    rfl
  have hst : ((Value.ref X.length :: t2).map (aV (adM ad X.length q N r))) = .ref q :: t2.map (aV ad) := by
    rw [List.map_cons, aVs_ag ag c2]
    show Value.ref (adM ad X.length q N r X.length) :: _ = _
    rw [eN]
  have key := hK' _ _ _ _ _ _ _ (h _ ag) H1 locs la (by rw [hX]; exact hP1) (by rw [hX]; exact hD1) hS1 (by rw [aL_ag ag c1]; exact hl)
  rw [hst] at key
  exact key
theorem snd_Mna_false (C : FOK Γ cc Ts own nL rm) (CN : FON ad0 Γ) {index : Nat} (d : decode cc pc = .ok (.multianewarray index 2, 4)) (hw : Cond.classLink own index ("[" ++ (FieldType.array .int).toString) ∈ Ts) (ha : Cond.arrayClass .int ∈ Ts) : Snd Γ pc (oMna false rm.cells rm.slots (pc + 4)) := by
  obtain ⟨p, l, e, R, s, m, args, below, meth, c, Q, G, A, nL'⟩ := Γ
  obtain ⟨hx, hb, hml, hown, hts, hK, hA, rfl, rfl, hB⟩ := C
  intro K hK' ad k n ls st X ho
  dsimp only [oMna] at ho
  obtain ⟨y, t, rfl, g1⟩ := pI_spec ho
  obtain ⟨x, t2, rfl, N, M, rfl, rfl, hN, hM, c1, c2, c3, c4, c5, c6, h⟩ := pI_spec g1
  intro H locs la hP hD hS hl
  have hcy : s.vm.findClass (FieldType.array .int).toString = some G.2.1 := (hK.2 0 (G.2.1, .int) rfl).2
  refine va_mna (X := aX G ad 0 X) (L := []) (f := fun _ => .inl (G.2.1, 0, .inl (fun _ => 0))) (z := (M, .inl (fun _ => 0))) hx hb hown (hts _ hw) CN.1.2.1 (hts _ ha) hcy hK (by rw [show va_pl [] _ = [] from rfl, List.append_nil]; exact hP) (by rw [show va_pl [] _ = [] from rfl, List.append_nil]; exact hD) hS hA (nI_pos (by omega)) (nI_pos (by omega)) (nI_clampS (by omega)) (nI_clampS (by omega)) (by omega)
    (Nat.le_trans (Nat.mul_le_mul_right _ hM) (by decide)) (by omega) rfl rfl (by omega) (by omega) (fun _ => arrV_new _ _ _) d (fun q r cA H1 hr _ hK1 hP1 hD1 hS1 => ?_)
  have hc : cA = G.2.2.2.1 := by
    have g1 : s.vm.findClass ("[" ++ (FieldType.array .int).toString) = some G.2.2.2.1 := (hK.2 2 (G.2.2.2.1, .array .int) rfl).2
    have g2 : s.vm.findClass ("[" ++ (FieldType.array .int).toString) = some cA := (hK1.2 4 (cA, .array .int) rfl).2
    exact (Option.some.inj (g1.symm.trans g2)).symm
  subst hc
  have ag : Ag X.length ad (adM ad X.length q N r) := fun i hi => by
    show (if i < X.length then ad i else if i = X.length then q else if i ≤ X.length + N then r (i - X.length - 1) else ad i) = ad i
    rcases hi with hi | hi
    · rw [if_pos hi]
    · rw [if_neg (by omega), if_neg (by omega), if_neg (by omega)]
  have eN : adM ad X.length q N r X.length = q := by
    show (if X.length < X.length then ad X.length else if X.length = X.length then q else _) = q
    rw [if_neg (Nat.lt_irrefl _), if_pos rfl]
  have eR : ∀ j, j < N → adM ad X.length q N r (X.length + 1 + j) = r j := fun j hj => by
    show (if X.length + 1 + j < X.length then _ else if X.length + 1 + j = X.length then q else if X.length + 1 + j ≤ X.length + N then r (X.length + 1 + j - X.length - 1) else _) = _
    rw [if_neg (by omega), if_neg (by omega), if_pos (by omega), show X.length + 1 + j - X.length - 1 = j by omega]
  have hX : aX G (adM ad X.length q N r) 0 (X ++ (.inr (.inr (false, N, fun j => X.length + 1 + j)) :: (List.range N).map (fun _ => .inl (false, M, fun _ => 0)))) = aX G ad 0 X ++ [(q, .inl (G.2.2.2.1, N, .inr (.inr (.inr (.inr (fun i => if i < N then some (r i) else none))))))] ++ va_pl ([] ++ (List.range N).map r) (vr_up (fun _ => .inl (G.2.1, 0, .inl (fun _ => 0))) ((List.range N).map r) (.inl (G.2.1, (M, .inl (fun _ => 0))))) := by
    rw [aX_app, Nat.zero_add, aX_lt (N := X.length) (fun i hi => ag i (Or.inl hi)) X 0 c3 (by omega), List.append_assoc]
    congr 1
    show (adM ad X.length q N r X.length, (.inl (G.2.2.2.1, N, .inr (.inr (.inr (.inr (rwF (adM ad X.length q N r) N (fun j => X.length + 1 + j)))))) : va_E)) :: aX G (adM ad X.length q N r) (X.length + 1) ((List.range N).map (fun _ => .inl (false, M, fun _ => 0))) = _
    rw [eN, aX_rows, ← vr_rows (L := []) (fun _ _ h => by cases h)]
    have e1 : rwF (adM ad X.length q N r) N (fun j => X.length + 1 + j) = fun i => if i < N then some (r i) else none := by
      funext i
      by_cases hi : i < N
      · simp only [rwF, if_pos hi]
        exact congrArg some (eR i hi)
      · simp only [rwF, if_neg hi]
    rw [e1]
    show _ :: _ = _ :: _
    congr 1
    show _ = va_pl [] _ ++ List.map (fun a => (a, _)) ((List.range N).map r)
    rw [show va_pl [] (fun _ => (Sum.inl (G.2.1, 0, .inl (fun _ => 0)) : va_E)) = [] from rfl, List.nil_append, List.map_map]
    refine List.map_congr_left fun j hj => ?_
    show (adM ad X.length q N r (X.length + 1 + j), _) = _
    rw [eR j (List.mem_range.mp hj)]
    rfl
  have hst : ((Value.ref X.length :: t2).map (aV (adM ad X.length q N r))) = .ref q :: t2.map (aV ad) := by
    rw [List.map_cons, aVs_ag ag c2]
    show Value.ref (adM ad X.length q N r X.length) :: _ = _
    rw [eN]
  have key := hK' _ _ _ _ _ _ _ (h _ ag) H1 locs la (by rw [hX]; exact hP1) (by rw [hX]; exact hD1) hS1 (by rw [aL_ag ag c1]; exact hl)
  rw [hst] at key
  exact key
end NOPS
