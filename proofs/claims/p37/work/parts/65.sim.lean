/-! ===== Sim: its world, and its first methods ===== -/
def oNip (N RC RS nx : Nat) : aO := fun K ad k n ls st X => pI (fun cn t => cn = nI N ∧ ls.all (fun z => okW X.length z.2) = true ∧ t.all (okW X.length) = true ∧ X.all (okE X.length) = true ∧ k + 1 ≤ RC ∧ n + N ≤ RS ∧ X.length < 1000 ∧ ∀ ad2, Ag X.length ad ad2 → K nx ad2 (k + 1) (n + N) ls (.ref X.length :: t) (X ++ [.inl (false, N, fun _ => 0)])) st
theorem bleT {a b : Nat} (h : a ≤ b) : Nat.ble a b = true := Nat.ble_eq.mpr h
theorem snd_Nip {Γ : aΓ} {cc : ByteArray} {Ts : List Cond} {own : String} {nL : Nat} {rm : Room} {pc : Nat} (C : FOK Γ cc Ts own nL rm) {N : Nat} (hN : N < 10000) (d : decode cc pc = .ok (.newarray .int, 2)) (hm : Cond.arrayClass .int ∈ Ts) : Snd Γ pc (oNip N rm.cells rm.slots (pc + 2)) := by
  intro K hK' ad k n ls st X ho
  refine snd_NI C hN d hm K hK' ad k n ls st X ?_
  dsimp only [oNip] at ho
  obtain ⟨cn, t, rfl, rfl, c1, c2, c3, c4, c5, c6, h⟩ := pI_spec ho
  exact ck_of c1 (ck_of c2 (ck_of c3 (ck_of (bleT c4) (ck_of (bleT c5) (ck_of (Nat.blt_eq.mpr c6) ⟨rfl, h⟩)))))
/-- rows of walls, rows of prints -/
def rZ (w h : Nat) (f : Nat → Nat → Int32) : List aE := (List.range w).map (fun c => .inl (true, h, f c))
def rI (w h : Nat) (f : Nat → Nat → Int32) : List aE := (List.range w).map (fun c => .inl (false, h, f c))
def updR (f : Nat → Nat → Int32) (c : Nat) (g : Nat → Int32) : Nat → Nat → Int32 := fun i => if i = c then g else f i
theorem rr_set {α : Type} (f : Nat → α) (w c : Nat) (g : α) : ((List.range w).map f).set c g = (List.range w).map (fun i => if i = c then g else f i) := by
  apply List.ext_getElem?
  intro i
  rw [List.getElem?_set, List.getElem?_map, List.getElem?_map, List.length_map, List.length_range]
  by_cases h : c = i
  · subst h
    rw [if_pos rfl]
    by_cases hc : c < w
    · rw [if_pos hc, List.getElem?_range hc]
      simp
    · rw [if_neg hc, List.getElem?_eq_none (by rw [List.length_range]; omega)]
      rfl
  · rw [if_neg h]
    by_cases hc : i < w
    · rw [List.getElem?_range hc]
      simp [Ne.symm h]
    · rw [List.getElem?_eq_none (by rw [List.length_range]; omega)]
      rfl
theorem rZ_get {w h c : Nat} {f : Nat → Nat → Int32} (hc : c < w) : (rZ w h f)[c]? = some (.inl (true, h, f c)) := by
  unfold rZ
  rw [List.getElem?_map, List.getElem?_range hc]
  rfl
theorem rI_get {w h c : Nat} {f : Nat → Nat → Int32} (hc : c < w) : (rI w h f)[c]? = some (.inl (false, h, f c)) := by
  unfold rI
  rw [List.getElem?_map, List.getElem?_range hc]
  rfl
theorem rZ_set {w h c : Nat} {f : Nat → Nat → Int32} {g : Nat → Int32} : (rZ w h f).set c (.inl (true, h, g)) = rZ w h (updR f c g) := by
  unfold rZ
  rw [rr_set]
  refine List.map_congr_left fun i _ => ?_
  unfold updR
  split <;> rfl
theorem rI_set {w h c : Nat} {f : Nat → Nat → Int32} {g : Nat → Int32} : (rI w h f).set c (.inl (false, h, g)) = rI w h (updR f c g) := by
  unfold rI
  rw [rr_set]
  refine List.map_congr_left fun i _ => ?_
  unfold updR
  split <;> rfl
theorem rZ_len {w h : Nat} {f : Nat → Nat → Int32} : (rZ w h f).length = w := by simp [rZ]
theorem rI_len {w h : Nat} {f : Nat → Nat → Int32} : (rI w h f).length = w := by simp [rI]
/-- Sim 0, walls 1, prints 2, colours 3, paints 4, the die 5 -/
def SH (w h : Nat) (rl ps x y : Int32) (cs as df : Nat → Int32) : List aE :=
  [.inr (.inl (3, [.int (nI w), .int (nI h), .ref 1, .ref 2, .ref 3, .ref 4, .int rl, .int ps, .int x, .int y, .ref 5])), .inr (.inr (true, w, fun j => 6 + j)), .inr (.inr (false, w, fun j => 6 + w + j)), .inl (false, 7, cs), .inl (false, 7, as), .inl (false, 6, df)]
def SW (w h : Nat) (rl ps x y : Int32) (fw fp : Nat → Nat → Int32) (cs as df : Nat → Int32) : List aE := SH w h rl ps x y cs as df ++ (rZ w h fw ++ rI w h fp)
theorem SW_len {w h : Nat} {rl ps x y : Int32} {fw fp : Nat → Nat → Int32} {cs as df : Nat → Int32} : (SW w h rl ps x y fw fp cs as df).length = 6 + w + w := by
  unfold SW
  rw [List.length_append, List.length_append, rZ_len, rI_len]
  show 6 + (w + w) = _
  omega
theorem SW_w {w h c : Nat} {rl ps x y : Int32} {fw fp : Nat → Nat → Int32} {cs as df : Nat → Int32} (hc : c < w) : (SW w h rl ps x y fw fp cs as df)[6 + c]? = some (.inl (true, h, fw c)) := by
  unfold SW
  rw [List.getElem?_append_right (by show 6 ≤ _; omega), List.getElem?_append_left (by rw [rZ_len]; show 6 + c - 6 < w; omega), show 6 + c - (SH w h rl ps x y cs as df).length = c from Nat.add_sub_cancel_left 6 c]
  exact rZ_get hc
theorem SW_p {w h c : Nat} {rl ps x y : Int32} {fw fp : Nat → Nat → Int32} {cs as df : Nat → Int32} (hc : c < w) : (SW w h rl ps x y fw fp cs as df)[6 + w + c]? = some (.inl (false, h, fp c)) := by
  unfold SW
  rw [List.getElem?_append_right (by show 6 ≤ _; omega), List.getElem?_append_right (by rw [rZ_len]; show w ≤ 6 + w + c - 6; omega), rZ_len, show 6 + w + c - (SH w h rl ps x y cs as df).length - w = c by show 6 + w + c - 6 - w = c; omega]
  exact rI_get hc
theorem SW_sw {w h c : Nat} {rl ps x y : Int32} {fw fp : Nat → Nat → Int32} {cs as df : Nat → Int32} {g : Nat → Int32} (hc : c < w) : (SW w h rl ps x y fw fp cs as df).set (6 + c) (.inl (true, h, g)) = SW w h rl ps x y (updR fw c g) fp cs as df := by
  unfold SW
  rw [List.set_append_right _ _ (by show 6 ≤ _; omega), List.set_append_left _ _ (by rw [rZ_len]; show 6 + c - 6 < w; omega), show 6 + c - (SH w h rl ps x y cs as df).length = c from Nat.add_sub_cancel_left 6 c, rZ_set]
theorem SW_sp {w h c : Nat} {rl ps x y : Int32} {fw fp : Nat → Nat → Int32} {cs as df : Nat → Int32} {g : Nat → Int32} : (SW w h rl ps x y fw fp cs as df).set (6 + w + c) (.inl (false, h, g)) = SW w h rl ps x y fw (updR fp c g) cs as df := by
  unfold SW
  rw [List.set_append_right _ _ (by show 6 ≤ _; omega), List.set_append_right _ _ (by rw [rZ_len]; show w ≤ 6 + w + c - 6; omega), rZ_len, show 6 + w + c - (SH w h rl ps x y cs as df).length - w = c by show 6 + w + c - 6 - w = c; omega, rI_set]
theorem okV_mono {N M : Nat} (h : N ≤ M) {v : Value} (hv : okV N v = true) : okV M v = true := by
  cases v with
  | ref a => exact Nat.blt_eq.mpr (Nat.lt_of_lt_of_le (Nat.blt_eq.mp hv) h)
  | _ => rfl
theorem okE_mono {N M : Nat} (h : N ≤ M) {e : aE} (he : okE N e = true) : okE M e = true := by
  rcases e with q | o | q
  · rfl
  · exact List.all_eq_true.mpr fun v hv => okV_mono h (List.all_eq_true.mp (he : o.2.all (okV N) = true) v hv)
  · exact List.all_eq_true.mpr fun v hv => Nat.blt_eq.mpr (Nat.lt_of_lt_of_le (Nat.blt_eq.mp (List.all_eq_true.mp (he : (List.range q.2.1).all (fun j => Nat.blt (q.2.2 j) N) = true) v hv)) h)
theorem okX_mono {N M : Nat} (h : N ≤ M) {X : List aE} (hX : X.all (okE N) = true) : X.all (okE M) = true := List.all_eq_true.mpr fun e he => okE_mono h (List.all_eq_true.mp hX e he)
theorem okE_out {N n : Nat} {b : Bool} {g : Nat → Nat} (h : ∀ j, j < n → g j < N) : okE N (.inr (.inr (b, n, g))) = true := List.all_eq_true.mpr fun j hj => Nat.blt_eq.mpr (h j (List.mem_range.mp hj))
theorem rZ_ok {N w h : Nat} {f : Nat → Nat → Int32} : (rZ w h f).all (okE N) = true := List.all_eq_true.mpr fun e he => by
  obtain ⟨c, -, rfl⟩ := List.mem_map.mp he
  rfl
theorem rI_ok {N w h : Nat} {f : Nat → Nat → Int32} : (rI w h f).all (okE N) = true := List.all_eq_true.mpr fun e he => by
  obtain ⟨c, -, rfl⟩ := List.mem_map.mp he
  rfl
theorem SW_ok {N w h : Nat} {rl ps x y : Int32} {fw fp : Nat → Nat → Int32} {cs as df : Nat → Int32} (hN : 6 + w + w ≤ N) : (SW w h rl ps x y fw fp cs as df).all (okE N) = true := by
  unfold SW
  rw [List.all_append, List.all_append, rZ_ok, rI_ok, Bool.and_true, Bool.and_true]
  refine okX_mono hN ?_
  have h0 : okE (6 + w + w) (.inr (.inl (3, [.int (nI w), .int (nI h), .ref 1, .ref 2, .ref 3, .ref 4, .int rl, .int ps, .int x, .int y, .ref 5]))) = true := okE_mono (N := 6) (by omega) rfl
  have h1 : okE (6 + w + w) (.inr (.inr (true, w, fun j => 6 + j))) = true := okE_out fun j hj => by show 6 + j < _; omega
  have h2 : okE (6 + w + w) (.inr (.inr (false, w, fun j => 6 + w + j))) = true := okE_out fun j hj => by show 6 + w + j < _; omega
  unfold SH
  simp only [List.all_cons, List.all_nil, h0, h1, h2]
  rfl
/-- f by columns tells what wl tells by cells -/
def RWL (w h : Nat) (wl : Nat → Int32) (f : Nat → Nat → Int32) : Prop := ∀ c r, c < w → r < h → f c r = wl (r * 7 + c)
abbrev NX4_isFree : List aE → Nat := fun X => X.length
abbrev tX4_isFree : aTi := fun av X post => ∃ (a b : Int32) (w h : Nat) (rl ps x y : Int32) (fw fp : Nat → Nat → Int32) (cs as df wl : Nat → Int32), av = [.ref 0, .int a, .int b] ∧ X = SW w h rl ps x y fw fp cs as df ∧ w ≤ 7 ∧ h ≤ 7 ∧ RWL w h wl fw ∧ (frB a b w h wl → post 1 X) ∧ (¬ frB a b w h wl → post 0 X)
abbrev rmX4_isFree : Room := { frames := 0, cells := 0, slots := 0, locals := 0 }
theorem inX4_isFree_X4 : ∀ w ∈ wsX40, w ∈ wsX4_isFree := by decide +kernel
def tbX4_isFree (post : Int32 → List aE → Prop) (ad0 : Nat → Nat) (N0 : Nat) : List (Nat × aO) := [(0, oIL 1 1),
  (1, oIf_lt 39 4),
  (4, oIL 2 5),
  (5, oIf_lt 39 8),
  (8, oIL 1 9),
  (9, oAL 0 10),
  (10, oGet 3 0 13),
  (13, oIc_ge 39 16),
  (16, oIL 2 17),
  (17, oAL 0 18),
  (18, oGet 3 1 21),
  (21, oIc_ge 39 24),
  (24, oAL 0 25),
  (25, oGet 3 2 28),
  (28, oIL 1 29),
  (29, oAald 30),
  (30, oIL 2 31),
  (31, oZald 32),
  (32, oIf_ne 39 35),
  (35, oC (1) 36),
  (36, oGo 40),
  (39, oC (0) 40),
  (40, oNz post ad0 N0 0 0)]
set_option maxRecDepth 20000 in
theorem okX4_isFree {Γ : aΓ} {post : Int32 → List aE → Prop} {ad0 : Nat → Nat} {X0 : List aE} {N0 : Nat} (C : FOK Γ cX4_isFree wsX4_isFree RX4 3 rmX4_isFree) (CX : FOX Γ) (CN : FON ad0 Γ) (hQ : isQ Γ (va_Qi (fun r (u : (Nat → Nat) × List aE) => post r u.2) (aBn (gK Γ) ad0 X0 (hsz Γ) N0) (aA (gK Γ) ad0 X0 (hsz Γ))) rmX4_isFree ad0 X0) (hr : rTy Γ = some .boolean) : AllS Γ (tbX4_isFree post ad0 N0) := by
  unfold tbX4_isFree
  refine al_c (pc := 0) (snd_iload_n C dX4_isFree_0 rfl) ?_
  refine al_c (pc := 1) (snd_if_lt C dX4_isFree_1 (by decide)) ?_
  refine al_c (pc := 4) (snd_iload_n C dX4_isFree_4 rfl) ?_
  refine al_c (pc := 5) (snd_if_lt C dX4_isFree_5 (by decide)) ?_
  refine al_c (pc := 8) (snd_iload_n C dX4_isFree_8 rfl) ?_
  refine al_c (pc := 9) (snd_aload_n C dX4_isFree_9 rfl) ?_
  refine al_c (pc := 10) (snd_get C dX4_isFree_10 (ci := 3) (kf := 0) rfl (by decide) inX4_isFree_X4 rfl (by decide +kernel)) ?_
  refine al_c (pc := 13) (snd_icmp_ge C dX4_isFree_13 (by decide)) ?_
  refine al_c (pc := 16) (snd_iload_n C dX4_isFree_16 rfl) ?_
  refine al_c (pc := 17) (snd_aload_n C dX4_isFree_17 rfl) ?_
  refine al_c (pc := 18) (snd_get C dX4_isFree_18 (ci := 3) (kf := 1) rfl (by decide) inX4_isFree_X4 rfl (by decide +kernel)) ?_
  refine al_c (pc := 21) (snd_icmp_ge C dX4_isFree_21 (by decide)) ?_
  refine al_c (pc := 24) (snd_aload_n C dX4_isFree_24 rfl) ?_
  refine al_c (pc := 25) (snd_get C dX4_isFree_25 (ci := 3) (kf := 2) rfl (by decide) inX4_isFree_X4 rfl (by decide +kernel)) ?_
  refine al_c (pc := 28) (snd_iload_n C dX4_isFree_28 rfl) ?_
  refine al_c (pc := 29) (snd_aaload C dX4_isFree_29) ?_
  refine al_c (pc := 30) (snd_iload_n C dX4_isFree_30 rfl) ?_
  refine al_c (pc := 31) (snd_baload C dX4_isFree_31) ?_
  refine al_c (pc := 32) (snd_if_ne C dX4_isFree_32 (by decide)) ?_
  refine al_c (pc := 35) (snd_iconst C dX4_isFree_35 (by decide)) ?_
  refine al_c (pc := 36) (snd_goto C dX4_isFree_36 (by decide)) ?_
  refine al_c (pc := 39) (snd_iconst C dX4_isFree_39 (by decide)) ?_
  refine al_c (pc := 40) (snd_Nz C hQ hr dX4_isFree_40) ?_
  exact al_0
set_option maxHeartbeats 4000000 in
set_option maxRecDepth 100000 in
theorem mX4_isFree : nMi yX4_isFree wsX4_isFree rmX4_isFree NX4_isFree tX4_isFree := by
  refine nMz_of (by decide +kernel) rfl rfl (by intro av X post hT; obtain ⟨a, b, w, h, rl, ps, x, y, fw, fp, cs, as, df, wl, rfl, rfl, hw, hh, hW, h1, h2⟩ := hT; exact Nat.le_of_ble_eq_true rfl) ?_
  intro Γ ad av X post C CX CN hQ hr hT
  obtain ⟨a, b, w, h, rl, ps, x, y, fw, fp, cs, as, df, wl, rfl, rfl, hw, hh, hW, h1, h2⟩ := hT
  have OK := okX4_isFree C CX CN hQ hr
  refine go OK [] 40 ?_
  refine And.intro (fun q1 => ?_) (fun q1 => ?_)
  · exact ⟨Nat.le_refl _, Nat.le_refl _, Or.inl rfl, Ag.rf, h2 (fun ⟨i, j, e1, e2, e3, e4, _⟩ => by rw [e1] at q1; exact absurd q1 (nI_pos (by omega)))⟩
  refine And.intro (fun q2 => ?_) (fun q2 => ?_)
  · exact ⟨Nat.le_refl _, Nat.le_refl _, Or.inl rfl, Ag.rf, h2 (fun ⟨i, j, e1, e2, e3, e4, _⟩ => by rw [e2] at q2; exact absurd q2 (nI_pos (by omega)))⟩
  refine And.intro (fun q3 => ?_) (fun q3 => ?_)
  · exact ⟨Nat.le_refl _, Nat.le_refl _, Or.inl rfl, Ag.rf, h2 (fun ⟨i, j, e1, e2, e3, e4, _⟩ => by rw [e1] at q3; exact absurd q3 (nI_ge e3 (by omega)))⟩
  refine And.intro (fun q4 => ?_) (fun q4 => ?_)
  · exact ⟨Nat.le_refl _, Nat.le_refl _, Or.inl rfl, Ag.rf, h2 (fun ⟨i, j, e1, e2, e3, e4, _⟩ => by rw [e2] at q4; exact absurd q4 (nI_ge e4 (by omega)))⟩
  rcases pk_ix a (n := w) (by omega) with z | z | ⟨i, hi, rfl⟩
  · exact absurd z q1
  · exact absurd z q3
  rcases pk_ix b (n := h) (by omega) with z | z | ⟨j, hj, rfl⟩
  · exact absurd z q2
  · exact absurd z q4
  refine ⟨true, w, _, i, rfl, rfl, hi, by omega, ?_⟩
  refine gx_of (SW_w hi) ?_
  refine ⟨inS hj (by omega), ?_⟩
  have e : fw i (nI j).toNatClampNeg = wl (j * 7 + i) := by rw [nI_clampS (by omega), hW i j hi hj]
  rw [e]
  refine And.intro (fun q5 => ?_) (fun q5 => ?_)
  · exact ⟨Nat.le_refl _, Nat.le_refl _, Or.inl rfl, Ag.rf, h2 (fun ⟨i2, j2, e1, e2, e3, e4, e5⟩ => q5 (by rw [(nI_eq (by omega) (by omega)).mp e1, (nI_eq (by omega) (by omega)).mp e2]; exact e5))⟩
  · exact ⟨Nat.le_refl _, Nat.le_refl _, Or.inr rfl, Ag.rf, h1 ⟨i, j, rfl, rfl, hi, hj, q5⟩⟩
