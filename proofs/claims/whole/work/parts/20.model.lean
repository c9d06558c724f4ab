/-! ===== the model's world ===== -/
/-- PaintedDieModel 0; walls 1, prints 2, colours 3, paints 4, far 5, cells 6, tops 7, norths 8, easts 9, isOn 10, isNext 11 -/
def MW (th w h rl ps cl tp nt et ic it iv ie rc : Int32) (wm pq co pa fa ce ts ns es on nx : Nat → Int32) : List aE :=
  [.inr (.inl (3, [.int th, .int w, .int h, .ref 1, .ref 2, .ref 3, .ref 4, .int rl, .int ps, .int cl, .int tp, .int nt, .int et, .int ic, .int it, .int iv, .int ie, .ref 5, .ref 6, .ref 7, .ref 8, .ref 9, .int rc, .ref 10, .ref 11])),
    .inl (true, 49, wm), .inl (false, 49, pq), .inl (false, 7, co), .inl (false, 7, pa), .inl (false, 2401, fa), .inl (false, 2401, ce), .inl (false, 2401, ts), .inl (false, 2401, ns), .inl (false, 2401, es), .inl (true, 49, on), .inl (true, 49, nx)]
/-- the model's number of the cell k -/
def cm (w k : Nat) : Nat := w * (k / 7) + k % 7
theorem cm_at {w i j : Nat} (hi : i < 7) : cm w (j * 7 + i) = w * j + i := by
  unfold cm
  rw [show (j * 7 + i) / 7 = j by omega, show (j * 7 + i) % 7 = i by omega]
theorem cm_div {w k : Nat} (h : k % 7 < w) : cm w k / w = k / 7 := by
  unfold cm
  rw [Nat.mul_add_div (by omega), Nat.div_eq_of_lt h, Nat.add_zero]
theorem cm_mod {w k : Nat} (h : k % 7 < w) : cm w k % w = k % 7 := by
  unfold cm
  rw [Nat.mul_add_mod, Nat.mod_eq_of_lt h]
theorem cm_lt {w h k : Nat} (hw : w ≤ 7) (hh : h ≤ 7) (h1 : k % 7 < w) (h2 : k / 7 < h) : cm w k < 49 := by
  have := wj_lt (i := k % 7 + 1) hw hh (by omega) h2
  unfold cm
  omega
theorem cm_inj {w a b : Nat} (ha : a % 7 < w) (hb : b % 7 < w) (h : cm w a = cm w b) : a = b := by
  have h1 := congrArg (· / w) h
  have h2 := congrArg (· % w) h
  rw [cm_div ha, cm_div hb] at h1
  rw [cm_mod ha, cm_mod hb] at h2
  omega
theorem wI {w i j : Nat} : nI w * nI j + nI i = nI (w * j + i) := by rw [mulI, nI_add]
/-- two rows hold the same of the board's cells: one by 7 * row + column, one by the width -/
def RW (w h : Nat) (f g : Nat → Int32) : Prop := ∀ i j, i < w → j < h → g (w * j + i) = f (j * 7 + i)
abbrev tX4_no : aTi := fun av X post => ∃ (n : Int32) (th w0 h0 rl ps cl tp nt et ic it iv ie rc : Int32) (wm pq co pa fa ce ts ns es on nx : Nat → Int32), av = [.ref 0, .int n] ∧ X = MW th w0 h0 rl ps cl tp nt et ic it iv ie rc wm pq co pa fa ce ts ns es on nx ∧ post 0 (MW n w0 h0 rl ps cl tp nt et ic it iv ie rc wm pq co pa fa ce ts ns es on nx)
abbrev rmX4_no : Room := { frames := 0, cells := 0, slots := 0, locals := 0 }
theorem inX4_no_X4 : ∀ w ∈ wsX40, w ∈ wsX4_no := by decide +kernel
def tbX4_no (post : Int32 → List aE → Prop) (ad0 : Nat → Nat) : List (Nat × aO) := [(0, oAL 0 1),
  (1, oIL 1 2),
  (2, oPut 3 0 5),
  (5, oC (0) 6),
  (6, oRi post ad0 rmX4_no.cells rmX4_no.slots)]
set_option maxRecDepth 20000 in
theorem okX4_no {Γ : aΓ} {post : Int32 → List aE → Prop} {ad0 : Nat → Nat} {X0 : List aE} (C : FOK Γ cX4_no wsX4_no RX4 2 rmX4_no) (hQ : isQ Γ (va_Qi post (aBk (gK Γ) ad0 X0 (hsz Γ)) (aA (gK Γ) ad0 X0 (hsz Γ))) rmX4_no ad0 X0) (hr : rTy Γ = some .int) : AllS Γ (tbX4_no post ad0) := by
  unfold tbX4_no
  refine al_c (pc := 0) (snd_aload_n C dX4_no_0 rfl) ?_
  refine al_c (pc := 1) (snd_iload_n C dX4_no_1 rfl) ?_
  refine al_c (pc := 2) (snd_put C dX4_no_2 (ci := 3) (kf := 0) rfl (by decide) inX4_no_X4 tyX4_ok nmX4 rfl rfl rfl (by decide +kernel)) ?_
  refine al_c (pc := 5) (snd_iconst C dX4_no_5 (by decide)) ?_
  refine al_c (pc := 6) (snd_Ri C hQ hr dX4_no_6) ?_
  exact al_0
set_option maxHeartbeats 1000000 in
set_option maxRecDepth 100000 in
theorem mX4_no : aMi yX4_no wsX4_no rmX4_no tX4_no := by
  refine aMi_of (by decide +kernel) rfl rfl (by intro av X post hT; obtain ⟨n, th, w0, h0, rl, ps, cl, tp, nt, et, ic, it, iv, ie, rc, wm, pq, co, pa, fa, ce, ts, ns, es, on, nx, rfl, rfl, hp⟩ := hT; exact Nat.le_of_ble_eq_true rfl) ?_
  intro Γ ad av X post C hQ hr hT
  obtain ⟨n, th, w0, h0, rl, ps, cl, tp, nt, et, ic, it, iv, ie, rc, wm, pq, co, pa, fa, ce, ts, ns, es, on, nx, rfl, rfl, hp⟩ := hT
  have OK := okX4_no C hQ hr
  refine go OK [] 40 ?_
  exact ⟨rfl, hp⟩
abbrev tX4_isNot : aTi := fun av X post => ∃ (n : Int32) (th w0 h0 rl ps cl tp nt et ic it iv ie rc : Int32) (wm pq co pa fa ce ts ns es on nx : Nat → Int32), av = [.ref 0, .int n] ∧ X = MW th w0 h0 rl ps cl tp nt et ic it iv ie rc wm pq co pa fa ce ts ns es on nx ∧ post 0 (MW n w0 h0 rl ps cl tp nt et ic it iv ie rc wm pq co pa fa ce ts ns es on nx)
abbrev rmX4_isNot : Room := { frames := 0, cells := 0, slots := 0, locals := 0 }
theorem inX4_isNot_X4 : ∀ w ∈ wsX40, w ∈ wsX4_isNot := by decide +kernel
def tbX4_isNot (post : Int32 → List aE → Prop) (ad0 : Nat → Nat) : List (Nat × aO) := [(0, oAL 0 1),
  (1, oIL 1 2),
  (2, oPut 3 0 5),
  (5, oC (0) 6),
  (6, oRz post ad0 rmX4_isNot.cells rmX4_isNot.slots)]
set_option maxRecDepth 20000 in
theorem okX4_isNot {Γ : aΓ} {post : Int32 → List aE → Prop} {ad0 : Nat → Nat} {X0 : List aE} (C : FOK Γ cX4_isNot wsX4_isNot RX4 2 rmX4_isNot) (hQ : isQ Γ (va_Qi post (aBk (gK Γ) ad0 X0 (hsz Γ)) (aA (gK Γ) ad0 X0 (hsz Γ))) rmX4_isNot ad0 X0) (hr : rTy Γ = some .boolean) : AllS Γ (tbX4_isNot post ad0) := by
  unfold tbX4_isNot
  refine al_c (pc := 0) (snd_aload_n C dX4_isNot_0 rfl) ?_
  refine al_c (pc := 1) (snd_iload_n C dX4_isNot_1 rfl) ?_
  refine al_c (pc := 2) (snd_put C dX4_isNot_2 (ci := 3) (kf := 0) rfl (by decide) inX4_isNot_X4 tyX4_ok nmX4 rfl rfl rfl (by decide +kernel)) ?_
  refine al_c (pc := 5) (snd_iconst C dX4_isNot_5 (by decide)) ?_
  refine al_c (pc := 6) (snd_Rz C hQ hr dX4_isNot_6) ?_
  exact al_0
set_option maxHeartbeats 1000000 in
set_option maxRecDepth 100000 in
theorem mX4_isNot : aMi yX4_isNot wsX4_isNot rmX4_isNot tX4_isNot := by
  refine aMz_of (by decide +kernel) rfl rfl (by intro av X post hT; obtain ⟨n, th, w0, h0, rl, ps, cl, tp, nt, et, ic, it, iv, ie, rc, wm, pq, co, pa, fa, ce, ts, ns, es, on, nx, rfl, rfl, hp⟩ := hT; exact Nat.le_of_ble_eq_true rfl) ?_
  intro Γ ad av X post C hQ hr hT
  obtain ⟨n, th, w0, h0, rl, ps, cl, tp, nt, et, ic, it, iv, ie, rc, wm, pq, co, pa, fa, ce, ts, ns, es, on, nx, rfl, rfl, hp⟩ := hT
  have OK := okX4_isNot C hQ hr
  refine go OK [] 40 ?_
  exact ⟨Or.inl rfl, rfl, hp⟩
abbrev tX4_ok : aTi := fun av X post => ∃ (n : Int32) (th w0 h0 rl ps cl tp nt et ic it iv ie rc : Int32) (wm pq co pa fa ce ts ns es on nx : Nat → Int32), av = [.ref 0, .int n] ∧ X = MW th w0 h0 rl ps cl tp nt et ic it iv ie rc wm pq co pa fa ce ts ns es on nx ∧ post n (MW 0 w0 h0 rl ps cl tp nt et ic it iv ie rc wm pq co pa fa ce ts ns es on nx)
abbrev rmX4_ok : Room := { frames := 0, cells := 0, slots := 0, locals := 0 }
theorem inX4_ok_X4 : ∀ w ∈ wsX40, w ∈ wsX4_ok := by decide +kernel
def tbX4_ok (post : Int32 → List aE → Prop) (ad0 : Nat → Nat) : List (Nat × aO) := [(0, oAL 0 1),
  (1, oC (0) 2),
  (2, oPut 3 0 5),
  (5, oIL 1 6),
  (6, oRi post ad0 rmX4_ok.cells rmX4_ok.slots)]
set_option maxRecDepth 20000 in
theorem okX4_ok {Γ : aΓ} {post : Int32 → List aE → Prop} {ad0 : Nat → Nat} {X0 : List aE} (C : FOK Γ cX4_ok wsX4_ok RX4 2 rmX4_ok) (hQ : isQ Γ (va_Qi post (aBk (gK Γ) ad0 X0 (hsz Γ)) (aA (gK Γ) ad0 X0 (hsz Γ))) rmX4_ok ad0 X0) (hr : rTy Γ = some .int) : AllS Γ (tbX4_ok post ad0) := by
  unfold tbX4_ok
  refine al_c (pc := 0) (snd_aload_n C dX4_ok_0 rfl) ?_
  refine al_c (pc := 1) (snd_iconst C dX4_ok_1 (by decide)) ?_
  refine al_c (pc := 2) (snd_put C dX4_ok_2 (ci := 3) (kf := 0) rfl (by decide) inX4_ok_X4 tyX4_ok nmX4 rfl rfl rfl (by decide +kernel)) ?_
  refine al_c (pc := 5) (snd_iload_n C dX4_ok_5 rfl) ?_
  refine al_c (pc := 6) (snd_Ri C hQ hr dX4_ok_6) ?_
  exact al_0
set_option maxHeartbeats 1000000 in
set_option maxRecDepth 100000 in
theorem mX4_ok : aMi yX4_ok wsX4_ok rmX4_ok tX4_ok := by
  refine aMi_of (by decide +kernel) rfl rfl (by intro av X post hT; obtain ⟨n, th, w0, h0, rl, ps, cl, tp, nt, et, ic, it, iv, ie, rc, wm, pq, co, pa, fa, ce, ts, ns, es, on, nx, rfl, rfl, hp⟩ := hT; exact Nat.le_of_ble_eq_true rfl) ?_
  intro Γ ad av X post C hQ hr hT
  obtain ⟨n, th, w0, h0, rl, ps, cl, tp, nt, et, ic, it, iv, ie, rc, wm, pq, co, pa, fa, ce, ts, ns, es, on, nx, rfl, rfl, hp⟩ := hT
  have OK := okX4_ok C hQ hr
  refine go OK [] 40 ?_
  exact ⟨rfl, hp⟩
abbrev tX4_thrown : aTi := fun av X post => ∃ (th w0 h0 rl ps cl tp nt et ic it iv ie rc : Int32) (wm pq co pa fa ce ts ns es on nx : Nat → Int32), av = [.ref 0] ∧ X = MW th w0 h0 rl ps cl tp nt et ic it iv ie rc wm pq co pa fa ce ts ns es on nx ∧ post th X
abbrev rmX4_thrown : Room := { frames := 0, cells := 0, slots := 0, locals := 0 }
theorem inX4_thrown_X4 : ∀ w ∈ wsX40, w ∈ wsX4_thrown := by decide +kernel
def tbX4_thrown (post : Int32 → List aE → Prop) (ad0 : Nat → Nat) : List (Nat × aO) := [(0, oAL 0 1),
  (1, oGet 3 0 4),
  (4, oRi post ad0 rmX4_thrown.cells rmX4_thrown.slots)]
set_option maxRecDepth 20000 in
theorem okX4_thrown {Γ : aΓ} {post : Int32 → List aE → Prop} {ad0 : Nat → Nat} {X0 : List aE} (C : FOK Γ cX4_thrown wsX4_thrown RX4 1 rmX4_thrown) (hQ : isQ Γ (va_Qi post (aBk (gK Γ) ad0 X0 (hsz Γ)) (aA (gK Γ) ad0 X0 (hsz Γ))) rmX4_thrown ad0 X0) (hr : rTy Γ = some .int) : AllS Γ (tbX4_thrown post ad0) := by
  unfold tbX4_thrown
  refine al_c (pc := 0) (snd_aload_n C dX4_thrown_0 rfl) ?_
  refine al_c (pc := 1) (snd_get C dX4_thrown_1 (ci := 3) (kf := 0) rfl (by decide) inX4_thrown_X4 rfl (by decide +kernel)) ?_
  refine al_c (pc := 4) (snd_Ri C hQ hr dX4_thrown_4) ?_
  exact al_0
set_option maxHeartbeats 1000000 in
set_option maxRecDepth 100000 in
theorem mX4_thrown : aMi yX4_thrown wsX4_thrown rmX4_thrown tX4_thrown := by
  refine aMi_of (by decide +kernel) rfl rfl (by intro av X post hT; obtain ⟨th, w0, h0, rl, ps, cl, tp, nt, et, ic, it, iv, ie, rc, wm, pq, co, pa, fa, ce, ts, ns, es, on, nx, rfl, rfl, hp⟩ := hT; exact Nat.le_of_ble_eq_true rfl) ?_
  intro Γ ad av X post C hQ hr hT
  obtain ⟨th, w0, h0, rl, ps, cl, tp, nt, et, ic, it, iv, ie, rc, wm, pq, co, pa, fa, ce, ts, ns, es, on, nx, rfl, rfl, hp⟩ := hT
  have OK := okX4_thrown C hQ hr
  refine go OK [] 40 ?_
  exact ⟨rfl, hp⟩
abbrev tX4_isIn : aTi := fun av X post => ∃ (v l u : Int32) (lo hi : Nat), av = [.int v, .int l, .int u] ∧ l = nI lo ∧ u = nI hi ∧ lo < 10000 ∧ hi < 10000 ∧ (inR v lo hi → post 1 X) ∧ (¬ inR v lo hi → post 0 X)
abbrev rmX4_isIn : Room := { frames := 0, cells := 0, slots := 0, locals := 0 }
def tbX4_isIn (post : Int32 → List aE → Prop) (ad0 : Nat → Nat) : List (Nat × aO) := [(0, oIL 0 1),
  (1, oIL 1 2),
  (2, oIc_lt 14 5),
  (5, oIL 0 6),
  (6, oIL 2 7),
  (7, oIc_gt 14 10),
  (10, oC (1) 11),
  (11, oGo 15),
  (14, oC (0) 15),
  (15, oRz post ad0 rmX4_isIn.cells rmX4_isIn.slots)]
set_option maxRecDepth 20000 in
theorem okX4_isIn {Γ : aΓ} {post : Int32 → List aE → Prop} {ad0 : Nat → Nat} {X0 : List aE} (C : FOK Γ cX4_isIn wsX4_isIn RX4 3 rmX4_isIn) (hQ : isQ Γ (va_Qi post (aBk (gK Γ) ad0 X0 (hsz Γ)) (aA (gK Γ) ad0 X0 (hsz Γ))) rmX4_isIn ad0 X0) (hr : rTy Γ = some .boolean) : AllS Γ (tbX4_isIn post ad0) := by
  unfold tbX4_isIn
  refine al_c (pc := 0) (snd_iload_n C dX4_isIn_0 rfl) ?_
  refine al_c (pc := 1) (snd_iload_n C dX4_isIn_1 rfl) ?_
  refine al_c (pc := 2) (snd_icmp_lt C dX4_isIn_2 (by decide)) ?_
  refine al_c (pc := 5) (snd_iload_n C dX4_isIn_5 rfl) ?_
  refine al_c (pc := 6) (snd_iload_n C dX4_isIn_6 rfl) ?_
  refine al_c (pc := 7) (snd_icmp_gt C dX4_isIn_7 (by decide)) ?_
  refine al_c (pc := 10) (snd_iconst C dX4_isIn_10 (by decide)) ?_
  refine al_c (pc := 11) (snd_goto C dX4_isIn_11 (by decide)) ?_
  refine al_c (pc := 14) (snd_iconst C dX4_isIn_14 (by decide)) ?_
  refine al_c (pc := 15) (snd_Rz C hQ hr dX4_isIn_15) ?_
  exact al_0
set_option maxHeartbeats 1000000 in
set_option maxRecDepth 100000 in
theorem mX4_isIn : aMi yX4_isIn wsX4_isIn rmX4_isIn tX4_isIn := by
  refine aMz_of (by decide +kernel) rfl rfl (by intro av X post hT; obtain ⟨v, l, u, lo, hi, rfl, rfl, rfl, hlo, hhi, h1, h2⟩ := hT; exact Nat.le_of_ble_eq_true rfl) ?_
  intro Γ ad av X post C hQ hr hT
  obtain ⟨v, l, u, lo, hi, rfl, rfl, rfl, hlo, hhi, h1, h2⟩ := hT
  have OK := okX4_isIn C hQ hr
  refine go OK [] 40 ?_
  refine And.intro (fun q => ?_) (fun q1 => ?_)
  · exact ⟨Or.inl rfl, rfl, h2 (inR_lo hlo hhi q)⟩
  refine And.intro (fun q => ?_) (fun q2 => ?_)
  · exact ⟨Or.inl rfl, rfl, h2 (inR_hi hlo hhi q)⟩
  · exact ⟨Or.inr rfl, rfl, h1 (inR_of hlo hhi q1 q2)⟩
abbrev tX4_isFace : aTi := fun av X post => ∃ v : Int32, av = [.int v] ∧ (inR v 1 6 → post 1 X) ∧ (¬ inR v 1 6 → post 0 X)
abbrev rmX4_isFace : Room := { frames := 1, cells := 0, slots := 0, locals := 22 }
def tbX4_isFace (post : Int32 → List aE → Prop) (ad0 : Nat → Nat) : List (Nat × aO) := [(0, oIL 0 1),
  (1, oC (1) 2),
  (2, oC (6) 4),
  (4, oCi tX4_isIn 3 none rmX4_isIn.cells rmX4_isIn.slots rmX4_isFace.cells rmX4_isFace.slots 7),
  (7, oRz post ad0 rmX4_isFace.cells rmX4_isFace.slots)]
set_option maxRecDepth 20000 in
theorem okX4_isFace {Γ : aΓ} {post : Int32 → List aE → Prop} {ad0 : Nat → Nat} {X0 : List aE} (C : FOK Γ cX4_isFace wsX4_isFace RX4 1 rmX4_isFace) (hQ : isQ Γ (va_Qi post (aBk (gK Γ) ad0 X0 (hsz Γ)) (aA (gK Γ) ad0 X0 (hsz Γ))) rmX4_isFace ad0 X0) (hr : rTy Γ = some .boolean) : AllS Γ (tbX4_isFace post ad0) := by
  unfold tbX4_isFace
  refine al_c (pc := 0) (snd_iload_n C dX4_isFace_0 rfl) ?_
  refine al_c (pc := 1) (snd_iconst C dX4_isFace_1 (by decide)) ?_
  refine al_c (pc := 2) (snd_bipush C dX4_isFace_2 (by decide)) ?_
  refine al_c (pc := 4) (snd_Ci C (site_S C dX4_isFace_4 gX4_isFace_X4_isIn rfl rfl rfl ⟨by decide +kernel, by decide +kernel, by decide +kernel⟩ ⟨by decide, by decide⟩) mX4_isIn) ?_
  refine al_c (pc := 7) (snd_Rz C hQ hr dX4_isFace_7) ?_
  exact al_0
set_option maxHeartbeats 1000000 in
set_option maxRecDepth 100000 in
theorem mX4_isFace : aMi yX4_isFace wsX4_isFace rmX4_isFace tX4_isFace := by
  refine aMz_of (by decide +kernel) rfl rfl (by intro av X post hT; obtain ⟨v, rfl, h1, h2⟩ := hT; exact Nat.le_of_ble_eq_true rfl) ?_
  intro Γ ad av X post C hQ hr hT
  obtain ⟨v, rfl, h1, h2⟩ := hT
  have OK := okX4_isFace C hQ hr
  refine go OK [] 40 ?_
  exact ⟨_, _, _, 1, 6, rfl, rfl, rfl, by omega, by omega, fun q => ⟨Or.inr rfl, rfl, h1 q⟩, fun q => ⟨Or.inl rfl, rfl, h2 q⟩⟩
abbrev tX4_isSide : aTi := fun av X post => ∃ v : Int32, av = [.int v] ∧ (inR v 0 3 → post 1 X) ∧ (¬ inR v 0 3 → post 0 X)
abbrev rmX4_isSide : Room := { frames := 1, cells := 0, slots := 0, locals := 22 }
def tbX4_isSide (post : Int32 → List aE → Prop) (ad0 : Nat → Nat) : List (Nat × aO) := [(0, oIL 0 1),
  (1, oC (0) 2),
  (2, oC (3) 3),
  (3, oCi tX4_isIn 3 none rmX4_isIn.cells rmX4_isIn.slots rmX4_isSide.cells rmX4_isSide.slots 6),
  (6, oRz post ad0 rmX4_isSide.cells rmX4_isSide.slots)]
set_option maxRecDepth 20000 in
theorem okX4_isSide {Γ : aΓ} {post : Int32 → List aE → Prop} {ad0 : Nat → Nat} {X0 : List aE} (C : FOK Γ cX4_isSide wsX4_isSide RX4 1 rmX4_isSide) (hQ : isQ Γ (va_Qi post (aBk (gK Γ) ad0 X0 (hsz Γ)) (aA (gK Γ) ad0 X0 (hsz Γ))) rmX4_isSide ad0 X0) (hr : rTy Γ = some .boolean) : AllS Γ (tbX4_isSide post ad0) := by
  unfold tbX4_isSide
  refine al_c (pc := 0) (snd_iload_n C dX4_isSide_0 rfl) ?_
  refine al_c (pc := 1) (snd_iconst C dX4_isSide_1 (by decide)) ?_
  refine al_c (pc := 2) (snd_iconst C dX4_isSide_2 (by decide)) ?_
  refine al_c (pc := 3) (snd_Ci C (site_S C dX4_isSide_3 gX4_isSide_X4_isIn rfl rfl rfl ⟨by decide +kernel, by decide +kernel, by decide +kernel⟩ ⟨by decide, by decide⟩) mX4_isIn) ?_
  refine al_c (pc := 6) (snd_Rz C hQ hr dX4_isSide_6) ?_
  exact al_0
set_option maxHeartbeats 1000000 in
set_option maxRecDepth 100000 in
theorem mX4_isSide : aMi yX4_isSide wsX4_isSide rmX4_isSide tX4_isSide := by
  refine aMz_of (by decide +kernel) rfl rfl (by intro av X post hT; obtain ⟨v, rfl, h1, h2⟩ := hT; exact Nat.le_of_ble_eq_true rfl) ?_
  intro Γ ad av X post C hQ hr hT
  obtain ⟨v, rfl, h1, h2⟩ := hT
  have OK := okX4_isSide C hQ hr
  refine go OK [] 40 ?_
  exact ⟨_, _, _, 0, 3, rfl, rfl, rfl, by omega, by omega, fun q => ⟨Or.inr rfl, rfl, h1 q⟩, fun q => ⟨Or.inl rfl, rfl, h2 q⟩⟩
theorem inB_iff {a b : Int32} {w h : Nat} (hw : 1 ≤ w) (hh : 1 ≤ h) : inB a b w h ↔ inR a 0 (w - 1) ∧ inR b 0 (h - 1) := by
  constructor
  · intro ⟨i, j, e1, e2, h1, h2⟩
    exact ⟨⟨i, e1, Nat.zero_le _, by omega⟩, ⟨j, e2, Nat.zero_le _, by omega⟩⟩
  · intro ⟨⟨i, e1, _, h1⟩, ⟨j, e2, _, h2⟩⟩
    exact ⟨i, j, e1, e2, by omega, by omega⟩
theorem nI_sub1 {n : Nat} (h : 1 ≤ n) : nI n - 1 = nI (n - 1) := by
  have := nI_pred (n - 1)
  rwa [show n - 1 + 1 = n by omega] at this
abbrev tX4_isCell : aTi := fun av X post => ∃ (a b : Int32) (th rm pm ic it iv ie rc : Int32) (k tt w h : Nat) (wm pq co pa fa ce ts ns es on nx : Nat → Int32), av = [.ref 0, .int a, .int b] ∧ X = MW th (nI w) (nI h) rm pm (nI (cm w k)) (nI (tt / 6 + 1)) (nI (tt % 6 + 1)) (nI (eoN tt)) ic it iv ie rc wm pq co pa fa ce ts ns es on nx ∧ 2 ≤ w ∧ w ≤ 7 ∧ 2 ≤ h ∧ h ≤ 7 ∧ (inB a b w h → post 1 X) ∧ (¬ inB a b w h → post 0 X)
abbrev rmX4_isCell : Room := { frames := 1, cells := 0, slots := 0, locals := 22 }
theorem inX4_isCell_X4 : ∀ w ∈ wsX40, w ∈ wsX4_isCell := by decide +kernel
def tbX4_isCell (post : Int32 → List aE → Prop) (ad0 : Nat → Nat) : List (Nat × aO) := [(0, oIL 1 1),
  (1, oC (0) 2),
  (2, oAL 0 3),
  (3, oGet 3 1 6),
  (6, oC (1) 7),
  (7, oIsub 8),
  (8, oCi tX4_isIn 3 none rmX4_isIn.cells rmX4_isIn.slots rmX4_isCell.cells rmX4_isCell.slots 11),
  (11, oIf_eq 32 14),
  (14, oIL 2 15),
  (15, oC (0) 16),
  (16, oAL 0 17),
  (17, oGet 3 2 20),
  (20, oC (1) 21),
  (21, oIsub 22),
  (22, oCi tX4_isIn 3 none rmX4_isIn.cells rmX4_isIn.slots rmX4_isCell.cells rmX4_isCell.slots 25),
  (25, oIf_eq 32 28),
  (28, oC (1) 29),
  (29, oGo 33),
  (32, oC (0) 33),
  (33, oRz post ad0 rmX4_isCell.cells rmX4_isCell.slots)]
set_option maxRecDepth 20000 in
theorem okX4_isCell {Γ : aΓ} {post : Int32 → List aE → Prop} {ad0 : Nat → Nat} {X0 : List aE} (C : FOK Γ cX4_isCell wsX4_isCell RX4 3 rmX4_isCell) (hQ : isQ Γ (va_Qi post (aBk (gK Γ) ad0 X0 (hsz Γ)) (aA (gK Γ) ad0 X0 (hsz Γ))) rmX4_isCell ad0 X0) (hr : rTy Γ = some .boolean) : AllS Γ (tbX4_isCell post ad0) := by
  unfold tbX4_isCell
  refine al_c (pc := 0) (snd_iload_n C dX4_isCell_0 rfl) ?_
  refine al_c (pc := 1) (snd_iconst C dX4_isCell_1 (by decide)) ?_
  refine al_c (pc := 2) (snd_aload_n C dX4_isCell_2 rfl) ?_
  refine al_c (pc := 3) (snd_get C dX4_isCell_3 (ci := 3) (kf := 1) rfl (by decide) inX4_isCell_X4 rfl (by decide +kernel)) ?_
  refine al_c (pc := 6) (snd_iconst C dX4_isCell_6 (by decide)) ?_
  refine al_c (pc := 7) (snd_isub C dX4_isCell_7) ?_
  refine al_c (pc := 8) (snd_Ci C (site_S C dX4_isCell_8 gX4_isCell_X4_isIn rfl rfl rfl ⟨by decide +kernel, by decide +kernel, by decide +kernel⟩ ⟨by decide, by decide⟩) mX4_isIn) ?_
  refine al_c (pc := 11) (snd_if_eq C dX4_isCell_11 (by decide)) ?_
  refine al_c (pc := 14) (snd_iload_n C dX4_isCell_14 rfl) ?_
  refine al_c (pc := 15) (snd_iconst C dX4_isCell_15 (by decide)) ?_
  refine al_c (pc := 16) (snd_aload_n C dX4_isCell_16 rfl) ?_
  refine al_c (pc := 17) (snd_get C dX4_isCell_17 (ci := 3) (kf := 2) rfl (by decide) inX4_isCell_X4 rfl (by decide +kernel)) ?_
  refine al_c (pc := 20) (snd_iconst C dX4_isCell_20 (by decide)) ?_
  refine al_c (pc := 21) (snd_isub C dX4_isCell_21) ?_
  refine al_c (pc := 22) (snd_Ci C (site_S C dX4_isCell_22 gX4_isCell_X4_isIn rfl rfl rfl ⟨by decide +kernel, by decide +kernel, by decide +kernel⟩ ⟨by decide, by decide⟩) mX4_isIn) ?_
  refine al_c (pc := 25) (snd_if_eq C dX4_isCell_25 (by decide)) ?_
  refine al_c (pc := 28) (snd_iconst C dX4_isCell_28 (by decide)) ?_
  refine al_c (pc := 29) (snd_goto C dX4_isCell_29 (by decide)) ?_
  refine al_c (pc := 32) (snd_iconst C dX4_isCell_32 (by decide)) ?_
  refine al_c (pc := 33) (snd_Rz C hQ hr dX4_isCell_33) ?_
  exact al_0
set_option maxHeartbeats 1000000 in
set_option maxRecDepth 100000 in
theorem mX4_isCell : aMi yX4_isCell wsX4_isCell rmX4_isCell tX4_isCell := by
  refine aMz_of (by decide +kernel) rfl rfl (by intro av X post hT; obtain ⟨a, b, th, rm, pm, ic, it, iv, ie, rc, k, tt, w, h, wm, pq, co, pa, fa, ce, ts, ns, es, on, nx, rfl, rfl, hw2, hw, hh2, hh, h1, h2⟩ := hT; exact Nat.le_of_ble_eq_true rfl) ?_
  intro Γ ad av X post C hQ hr hT
  obtain ⟨a, b, th, rm, pm, ic, it, iv, ie, rc, k, tt, w, h, wm, pq, co, pa, fa, ce, ts, ns, es, on, nx, rfl, rfl, hw2, hw, hh2, hh, h1, h2⟩ := hT
  have OK := okX4_isCell C hQ hr
  have e := inB_iff (a := a) (b := b) (w := w) (h := h) (by omega) (by omega)
  refine go OK [] 60 ?_
  refine ⟨_, _, _, 0, w - 1, rfl, rfl, nI_sub1 (by omega), by omega, by omega, fun q => ?_, fun q => ?_⟩
  · refine And.intro (fun q => absurd q (by decide)) (fun _ => ?_)
    refine ⟨_, _, _, 0, h - 1, rfl, rfl, nI_sub1 (by omega), by omega, by omega, fun q2 => ?_, fun q2 => ?_⟩
    · refine And.intro (fun q => absurd q (by decide)) (fun _ => ?_)
      exact ⟨Or.inr rfl, rfl, h1 (e.mpr ⟨q, q2⟩)⟩
    · refine And.intro (fun _ => ?_) (fun q => absurd rfl q)
      exact ⟨Or.inl rfl, rfl, h2 (fun z => q2 (e.mp z).2)⟩
  · refine And.intro (fun _ => ?_) (fun q => absurd rfl q)
    exact ⟨Or.inl rfl, rfl, h2 (fun z => q (e.mp z).1)⟩
abbrev tX4_turnAsAtFirst : aTv := fun av X post => ∃ (th w0 h0 rl ps cl tp nt et ic it iv ie rc : Int32) (wm pq co pa fa ce ts ns es on nx : Nat → Int32), av = [.ref 0] ∧ X = MW th w0 h0 rl ps cl tp nt et ic it iv ie rc wm pq co pa fa ce ts ns es on nx ∧ post (MW th w0 h0 rl ps cl 1 2 3 ic it iv ie rc wm pq co pa fa ce ts ns es on nx)
abbrev rmX4_turnAsAtFirst : Room := { frames := 0, cells := 0, slots := 0, locals := 0 }
theorem inX4_turnAsAtFirst_X4 : ∀ w ∈ wsX40, w ∈ wsX4_turnAsAtFirst := by decide +kernel
def tbX4_turnAsAtFirst (post : List aE → Prop) (ad0 : Nat → Nat) : List (Nat × aO) := [(0, oAL 0 1),
  (1, oC (1) 2),
  (2, oPut 3 10 5),
  (5, oAL 0 6),
  (6, oC (2) 7),
  (7, oPut 3 11 10),
  (10, oAL 0 11),
  (11, oC (3) 12),
  (12, oPut 3 12 15),
  (15, oRv post ad0 rmX4_turnAsAtFirst.cells rmX4_turnAsAtFirst.slots)]
set_option maxRecDepth 20000 in
theorem okX4_turnAsAtFirst {Γ : aΓ} {post : List aE → Prop} {ad0 : Nat → Nat} {X0 : List aE} (C : FOK Γ cX4_turnAsAtFirst wsX4_turnAsAtFirst RX4 1 rmX4_turnAsAtFirst) (hQ : isQ Γ (va_Qv post (aBk (gK Γ) ad0 X0 (hsz Γ)) (aA (gK Γ) ad0 X0 (hsz Γ))) rmX4_turnAsAtFirst ad0 X0) (hr : rTy Γ = none) : AllS Γ (tbX4_turnAsAtFirst post ad0) := by
  unfold tbX4_turnAsAtFirst
  refine al_c (pc := 0) (snd_aload_n C dX4_turnAsAtFirst_0 rfl) ?_
  refine al_c (pc := 1) (snd_iconst C dX4_turnAsAtFirst_1 (by decide)) ?_
  refine al_c (pc := 2) (snd_put C dX4_turnAsAtFirst_2 (ci := 3) (kf := 10) rfl (by decide) inX4_turnAsAtFirst_X4 tyX4_ok nmX4 rfl rfl rfl (by decide +kernel)) ?_
  refine al_c (pc := 5) (snd_aload_n C dX4_turnAsAtFirst_5 rfl) ?_
  refine al_c (pc := 6) (snd_iconst C dX4_turnAsAtFirst_6 (by decide)) ?_
  refine al_c (pc := 7) (snd_put C dX4_turnAsAtFirst_7 (ci := 3) (kf := 11) rfl (by decide) inX4_turnAsAtFirst_X4 tyX4_ok nmX4 rfl rfl rfl (by decide +kernel)) ?_
  refine al_c (pc := 10) (snd_aload_n C dX4_turnAsAtFirst_10 rfl) ?_
  refine al_c (pc := 11) (snd_iconst C dX4_turnAsAtFirst_11 (by decide)) ?_
  refine al_c (pc := 12) (snd_put C dX4_turnAsAtFirst_12 (ci := 3) (kf := 12) rfl (by decide) inX4_turnAsAtFirst_X4 tyX4_ok nmX4 rfl rfl rfl (by decide +kernel)) ?_
  refine al_c (pc := 15) (snd_Rv C hQ hr dX4_turnAsAtFirst_15) ?_
  exact al_0
set_option maxHeartbeats 1000000 in
set_option maxRecDepth 100000 in
theorem mX4_turnAsAtFirst : aMv yX4_turnAsAtFirst wsX4_turnAsAtFirst rmX4_turnAsAtFirst tX4_turnAsAtFirst := by
  refine aMv_of (by decide +kernel) rfl rfl (by intro av X post hT; obtain ⟨th, w0, h0, rl, ps, cl, tp, nt, et, ic, it, iv, ie, rc, wm, pq, co, pa, fa, ce, ts, ns, es, on, nx, rfl, rfl, hp⟩ := hT; exact Nat.le_of_ble_eq_true rfl) ?_
  intro Γ ad av X post C hQ hr hT
  obtain ⟨th, w0, h0, rl, ps, cl, tp, nt, et, ic, it, iv, ie, rc, wm, pq, co, pa, fa, ce, ts, ns, es, on, nx, rfl, rfl, hp⟩ := hT
  have OK := okX4_turnAsAtFirst C hQ hr
  refine go OK [] 40 ?_
  exact ⟨rfl, hp⟩
abbrev tX4_take : aTv := fun av X post => ∃ (a b : Int32) (th w0 h0 rl ps cl tp nt et ic it iv ie rc : Int32) (wm pq co pa fa ce ts ns es on nx : Nat → Int32), av = [.ref 0, .int a, .int b] ∧ X = MW th w0 h0 rl ps cl tp nt et ic it iv ie rc wm pq co pa fa ce ts ns es on nx ∧ ∀ wm2 pq2 : Nat → Int32, (∀ k, k < 49 → wm2 k = 0) → (∀ k, k < 49 → pq2 k = 0) → post (MW th a b 0 0 0 1 2 3 ic it iv ie rc wm2 pq2 co pa fa ce ts ns es on nx)
abbrev rmX4_take : Room := { frames := 1, cells := 0, slots := 0, locals := 20 }
theorem inX4_take_X4 : ∀ w ∈ wsX40, w ∈ wsX4_take := by decide +kernel
def tbX4_take (post : List aE → Prop) (ad0 : Nat → Nat) : List (Nat × aO) := [(0, oAL 0 1),
  (1, oIL 1 2),
  (2, oPut 3 1 5),
  (5, oAL 0 6),
  (6, oIL 2 7),
  (7, oPut 3 2 10),
  (10, oAL 0 11),
  (11, oC (0) 12),
  (12, oPut 3 7 15),
  (15, oAL 0 16),
  (16, oC (0) 17),
  (17, oPut 3 8 20),
  (20, oAL 0 21),
  (21, oC (0) 22),
  (22, oPut 3 9 25),
  (25, oAL 0 26),
  (26, oCv tX4_turnAsAtFirst 1 (some 3) rmX4_turnAsAtFirst.cells rmX4_turnAsAtFirst.slots rmX4_take.cells rmX4_take.slots 29),
  (29, oC (0) 30),
  (30, oIS 3 31),
  (31, oIL 3 32),
  (32, oC (49) 34),
  (34, oIc_ge 57 37),
  (37, oAL 0 38),
  (38, oGet 3 3 41),
  (41, oIL 3 42),
  (42, oC (0) 43),
  (43, oZast 44),
  (44, oAL 0 45),
  (45, oGet 3 4 48),
  (48, oIL 3 49),
  (49, oC (0) 50),
  (50, oIast 51),
  (51, oInc 3 1 54),
  (54, oGo 31),
  (57, oRv post ad0 rmX4_take.cells rmX4_take.slots)]
set_option maxRecDepth 20000 in
theorem okX4_take {Γ : aΓ} {post : List aE → Prop} {ad0 : Nat → Nat} {X0 : List aE} (C : FOK Γ cX4_take wsX4_take RX4 4 rmX4_take) (hQ : isQ Γ (va_Qv post (aBk (gK Γ) ad0 X0 (hsz Γ)) (aA (gK Γ) ad0 X0 (hsz Γ))) rmX4_take ad0 X0) (hr : rTy Γ = none) : AllS Γ (tbX4_take post ad0) := by
  unfold tbX4_take
  refine al_c (pc := 0) (snd_aload_n C dX4_take_0 rfl) ?_
  refine al_c (pc := 1) (snd_iload_n C dX4_take_1 rfl) ?_
  refine al_c (pc := 2) (snd_put C dX4_take_2 (ci := 3) (kf := 1) rfl (by decide) inX4_take_X4 tyX4_ok nmX4 rfl rfl rfl (by decide +kernel)) ?_
  refine al_c (pc := 5) (snd_aload_n C dX4_take_5 rfl) ?_
  refine al_c (pc := 6) (snd_iload_n C dX4_take_6 rfl) ?_
  refine al_c (pc := 7) (snd_put C dX4_take_7 (ci := 3) (kf := 2) rfl (by decide) inX4_take_X4 tyX4_ok nmX4 rfl rfl rfl (by decide +kernel)) ?_
  refine al_c (pc := 10) (snd_aload_n C dX4_take_10 rfl) ?_
  refine al_c (pc := 11) (snd_iconst C dX4_take_11 (by decide)) ?_
  refine al_c (pc := 12) (snd_put C dX4_take_12 (ci := 3) (kf := 7) rfl (by decide) inX4_take_X4 tyX4_ok nmX4 rfl rfl rfl (by decide +kernel)) ?_
  refine al_c (pc := 15) (snd_aload_n C dX4_take_15 rfl) ?_
  refine al_c (pc := 16) (snd_iconst C dX4_take_16 (by decide)) ?_
  refine al_c (pc := 17) (snd_put C dX4_take_17 (ci := 3) (kf := 8) rfl (by decide) inX4_take_X4 tyX4_ok nmX4 rfl rfl rfl (by decide +kernel)) ?_
  refine al_c (pc := 20) (snd_aload_n C dX4_take_20 rfl) ?_
  refine al_c (pc := 21) (snd_iconst C dX4_take_21 (by decide)) ?_
  refine al_c (pc := 22) (snd_put C dX4_take_22 (ci := 3) (kf := 9) rfl (by decide) inX4_take_X4 tyX4_ok nmX4 rfl rfl rfl (by decide +kernel)) ?_
  refine al_c (pc := 25) (snd_aload_n C dX4_take_25 rfl) ?_
  refine al_c (pc := 26) (snd_Cv C (site_V C rfl dX4_take_26 gX4_take_X4_turnAsAtFirst rfl rfl rfl ⟨rfl, by decide +kernel, by decide +kernel, by decide +kernel⟩ ⟨by decide, by decide⟩) mX4_turnAsAtFirst) ?_
  refine al_c (pc := 29) (snd_iconst C dX4_take_29 (by decide)) ?_
  refine al_c (pc := 30) (snd_istore_n C dX4_take_30 rfl (by decide)) ?_
  refine al_c (pc := 31) (snd_iload_n C dX4_take_31 rfl) ?_
  refine al_c (pc := 32) (snd_bipush C dX4_take_32 (by decide)) ?_
  refine al_c (pc := 34) (snd_icmp_ge C dX4_take_34 (by decide)) ?_
  refine al_c (pc := 37) (snd_aload_n C dX4_take_37 rfl) ?_
  refine al_c (pc := 38) (snd_get C dX4_take_38 (ci := 3) (kf := 3) rfl (by decide) inX4_take_X4 rfl (by decide +kernel)) ?_
  refine al_c (pc := 41) (snd_iload_n C dX4_take_41 rfl) ?_
  refine al_c (pc := 42) (snd_iconst C dX4_take_42 (by decide)) ?_
  refine al_c (pc := 43) (snd_bastore C dX4_take_43) ?_
  refine al_c (pc := 44) (snd_aload_n C dX4_take_44 rfl) ?_
  refine al_c (pc := 45) (snd_get C dX4_take_45 (ci := 3) (kf := 4) rfl (by decide) inX4_take_X4 rfl (by decide +kernel)) ?_
  refine al_c (pc := 48) (snd_iload_n C dX4_take_48 rfl) ?_
  refine al_c (pc := 49) (snd_iconst C dX4_take_49 (by decide)) ?_
  refine al_c (pc := 50) (snd_iastore C dX4_take_50) ?_
  refine al_c (pc := 51) (snd_iinc C dX4_take_51 (by decide) (by decide)) ?_
  refine al_c (pc := 54) (snd_goto C dX4_take_54 (by decide)) ?_
  refine al_c (pc := 57) (snd_Rv C hQ hr dX4_take_57) ?_
  exact al_0
set_option maxHeartbeats 1000000 in
set_option maxRecDepth 100000 in
theorem mX4_take : aMv yX4_take wsX4_take rmX4_take tX4_take := by
  refine aMv_of (by decide +kernel) rfl rfl (by intro av X post hT; obtain ⟨a, b, th, w0, h0, rl, ps, cl, tp, nt, et, ic, it, iv, ie, rc, wm, pq, co, pa, fa, ce, ts, ns, es, on, nx, rfl, rfl, hp⟩ := hT; exact Nat.le_of_ble_eq_true rfl) ?_
  intro Γ ad av X post C hQ hr hT
  obtain ⟨a, b, th, w0, h0, rl, ps, cl, tp, nt, et, ic, it, iv, ie, rc, wm, pq, co, pa, fa, ce, ts, ns, es, on, nx, rfl, rfl, hp⟩ := hT
  have OK := okX4_take C hQ hr
  have loop : ∀ (n i : Nat) (wm2 pq2 : Nat → Int32), i ≤ 49 → 49 - i < n → (∀ k, k < i → wm2 k = 0) → (∀ k, k < i → pq2 k = 0) → FG Γ 31 ad 0 0 [(3, .int (nI i)), (0, .ref 0), (1, .int a), (2, .int b)] [] (MW th a b 0 0 0 1 2 3 ic it iv ie rc wm2 pq2 co pa fa ce ts ns es on nx) := by
    intro n
    induction n with
    | zero => intro i _ _ _ h; omega
    | succ n ih =>
      intro i wm2 pq2 hi hn hz1 hz2
      refine go OK [31] 40 ?_
      refine And.intro (fun q => ?_) (fun q => ?_)
      · have q := (leN (a := 49) (b := i) (by omega) (by omega)).mp q
        exact ⟨rfl, hp wm2 pq2 (fun k hk => hz1 k (by omega)) (fun k hk => hz2 k (by omega))⟩
      · have hlt : i < 49 := by
          rcases Nat.lt_or_ge i 49 with z | z
          · exact z
          · exact absurd ((leN (a := 49) (b := i) (by omega) (by omega)).mpr z) q
        refine ⟨inS hlt (by decide), Or.inl rfl, ?_⟩
        refine ⟨inS hlt (by decide), ?_⟩
        rw [nI_clampS (by omega)]
        have key := ih (i + 1) (upd wm2 i 0) (upd pq2 i 0) (by omega) (by omega) ?_ ?_
        · rw [← nI_p1] at key
          exact key
        all_goals intro k hk
        · by_cases e : k = i
          · rw [e, pk_us]
          · rw [pk_un e]; exact hz1 k (by omega)
        · by_cases e : k = i
          · rw [e, pk_us]
          · rw [pk_un e]; exact hz2 k (by omega)
  refine go OK [31] 60 ?_
  refine ⟨_, _, _, _, _, _, _, _, _, _, _, _, _, _, _, _, _, _, _, _, _, _, _, _, _, rfl, rfl, ?_⟩
  exact loop 50 0 _ _ (by omega) (by omega) (fun k hk => by omega) (fun k hk => by omega)
abbrev tX4_look : aTv := fun av X post => ∃ (th w0 h0 rl ps cl tp nt et ic it iv ie rc : Int32) (wm pq co pa fa ce ts ns es on nx : Nat → Int32), av = [.ref 0] ∧ X = MW th w0 h0 rl ps cl tp nt et ic it iv ie rc wm pq co pa fa ce ts ns es on nx ∧ post (MW th w0 h0 rl ps cl tp nt et cl tp nt et rc wm pq co pa fa ce ts ns es on nx)
abbrev rmX4_look : Room := { frames := 0, cells := 0, slots := 0, locals := 0 }
theorem inX4_look_X4 : ∀ w ∈ wsX40, w ∈ wsX4_look := by decide +kernel
def tbX4_look (post : List aE → Prop) (ad0 : Nat → Nat) : List (Nat × aO) := [(0, oAL 0 1),
  (1, oAL 0 2),
  (2, oGet 3 9 5),
  (5, oPut 3 13 8),
  (8, oAL 0 9),
  (9, oAL 0 10),
  (10, oGet 3 10 13),
  (13, oPut 3 14 16),
  (16, oAL 0 17),
  (17, oAL 0 18),
  (18, oGet 3 11 21),
  (21, oPut 3 15 24),
  (24, oAL 0 25),
  (25, oAL 0 26),
  (26, oGet 3 12 29),
  (29, oPut 3 16 32),
  (32, oRv post ad0 rmX4_look.cells rmX4_look.slots)]
set_option maxRecDepth 20000 in
theorem okX4_look {Γ : aΓ} {post : List aE → Prop} {ad0 : Nat → Nat} {X0 : List aE} (C : FOK Γ cX4_look wsX4_look RX4 1 rmX4_look) (hQ : isQ Γ (va_Qv post (aBk (gK Γ) ad0 X0 (hsz Γ)) (aA (gK Γ) ad0 X0 (hsz Γ))) rmX4_look ad0 X0) (hr : rTy Γ = none) : AllS Γ (tbX4_look post ad0) := by
  unfold tbX4_look
  refine al_c (pc := 0) (snd_aload_n C dX4_look_0 rfl) ?_
  refine al_c (pc := 1) (snd_aload_n C dX4_look_1 rfl) ?_
  refine al_c (pc := 2) (snd_get C dX4_look_2 (ci := 3) (kf := 9) rfl (by decide) inX4_look_X4 rfl (by decide +kernel)) ?_
  refine al_c (pc := 5) (snd_put C dX4_look_5 (ci := 3) (kf := 13) rfl (by decide) inX4_look_X4 tyX4_ok nmX4 rfl rfl rfl (by decide +kernel)) ?_
  refine al_c (pc := 8) (snd_aload_n C dX4_look_8 rfl) ?_
  refine al_c (pc := 9) (snd_aload_n C dX4_look_9 rfl) ?_
  refine al_c (pc := 10) (snd_get C dX4_look_10 (ci := 3) (kf := 10) rfl (by decide) inX4_look_X4 rfl (by decide +kernel)) ?_
  refine al_c (pc := 13) (snd_put C dX4_look_13 (ci := 3) (kf := 14) rfl (by decide) inX4_look_X4 tyX4_ok nmX4 rfl rfl rfl (by decide +kernel)) ?_
  refine al_c (pc := 16) (snd_aload_n C dX4_look_16 rfl) ?_
  refine al_c (pc := 17) (snd_aload_n C dX4_look_17 rfl) ?_
  refine al_c (pc := 18) (snd_get C dX4_look_18 (ci := 3) (kf := 11) rfl (by decide) inX4_look_X4 rfl (by decide +kernel)) ?_
  refine al_c (pc := 21) (snd_put C dX4_look_21 (ci := 3) (kf := 15) rfl (by decide) inX4_look_X4 tyX4_ok nmX4 rfl rfl rfl (by decide +kernel)) ?_
  refine al_c (pc := 24) (snd_aload_n C dX4_look_24 rfl) ?_
  refine al_c (pc := 25) (snd_aload_n C dX4_look_25 rfl) ?_
  refine al_c (pc := 26) (snd_get C dX4_look_26 (ci := 3) (kf := 12) rfl (by decide) inX4_look_X4 rfl (by decide +kernel)) ?_
  refine al_c (pc := 29) (snd_put C dX4_look_29 (ci := 3) (kf := 16) rfl (by decide) inX4_look_X4 tyX4_ok nmX4 rfl rfl rfl (by decide +kernel)) ?_
  refine al_c (pc := 32) (snd_Rv C hQ hr dX4_look_32) ?_
  exact al_0
set_option maxHeartbeats 1000000 in
set_option maxRecDepth 100000 in
theorem mX4_look : aMv yX4_look wsX4_look rmX4_look tX4_look := by
  refine aMv_of (by decide +kernel) rfl rfl (by intro av X post hT; obtain ⟨th, w0, h0, rl, ps, cl, tp, nt, et, ic, it, iv, ie, rc, wm, pq, co, pa, fa, ce, ts, ns, es, on, nx, rfl, rfl, hp⟩ := hT; exact Nat.le_of_ble_eq_true rfl) ?_
  intro Γ ad av X post C hQ hr hT
  obtain ⟨th, w0, h0, rl, ps, cl, tp, nt, et, ic, it, iv, ie, rc, wm, pq, co, pa, fa, ce, ts, ns, es, on, nx, rfl, rfl, hp⟩ := hT
  have OK := okX4_look C hQ hr
  refine go OK [] 60 ?_
  exact ⟨rfl, hp⟩
abbrev tX4_lookFirst : aTv := fun av X post => ∃ (a : Int32) (th w0 h0 rl ps cl tp nt et ic it iv ie rc : Int32) (wm pq co pa fa ce ts ns es on nx : Nat → Int32), av = [.ref 0, .int a] ∧ X = MW th w0 h0 rl ps cl tp nt et ic it iv ie rc wm pq co pa fa ce ts ns es on nx ∧ post (MW th w0 h0 rl ps cl tp nt et a 1 2 3 rc wm pq co pa fa ce ts ns es on nx)
abbrev rmX4_lookFirst : Room := { frames := 0, cells := 0, slots := 0, locals := 0 }
theorem inX4_lookFirst_X4 : ∀ w ∈ wsX40, w ∈ wsX4_lookFirst := by decide +kernel
def tbX4_lookFirst (post : List aE → Prop) (ad0 : Nat → Nat) : List (Nat × aO) := [(0, oAL 0 1),
  (1, oIL 1 2),
  (2, oPut 3 13 5),
  (5, oAL 0 6),
  (6, oC (1) 7),
  (7, oPut 3 14 10),
  (10, oAL 0 11),
  (11, oC (2) 12),
  (12, oPut 3 15 15),
  (15, oAL 0 16),
  (16, oC (3) 17),
  (17, oPut 3 16 20),
  (20, oRv post ad0 rmX4_lookFirst.cells rmX4_lookFirst.slots)]
set_option maxRecDepth 20000 in
theorem okX4_lookFirst {Γ : aΓ} {post : List aE → Prop} {ad0 : Nat → Nat} {X0 : List aE} (C : FOK Γ cX4_lookFirst wsX4_lookFirst RX4 2 rmX4_lookFirst) (hQ : isQ Γ (va_Qv post (aBk (gK Γ) ad0 X0 (hsz Γ)) (aA (gK Γ) ad0 X0 (hsz Γ))) rmX4_lookFirst ad0 X0) (hr : rTy Γ = none) : AllS Γ (tbX4_lookFirst post ad0) := by
  unfold tbX4_lookFirst
  refine al_c (pc := 0) (snd_aload_n C dX4_lookFirst_0 rfl) ?_
  refine al_c (pc := 1) (snd_iload_n C dX4_lookFirst_1 rfl) ?_
  refine al_c (pc := 2) (snd_put C dX4_lookFirst_2 (ci := 3) (kf := 13) rfl (by decide) inX4_lookFirst_X4 tyX4_ok nmX4 rfl rfl rfl (by decide +kernel)) ?_
  refine al_c (pc := 5) (snd_aload_n C dX4_lookFirst_5 rfl) ?_
  refine al_c (pc := 6) (snd_iconst C dX4_lookFirst_6 (by decide)) ?_
  refine al_c (pc := 7) (snd_put C dX4_lookFirst_7 (ci := 3) (kf := 14) rfl (by decide) inX4_lookFirst_X4 tyX4_ok nmX4 rfl rfl rfl (by decide +kernel)) ?_
  refine al_c (pc := 10) (snd_aload_n C dX4_lookFirst_10 rfl) ?_
  refine al_c (pc := 11) (snd_iconst C dX4_lookFirst_11 (by decide)) ?_
  refine al_c (pc := 12) (snd_put C dX4_lookFirst_12 (ci := 3) (kf := 15) rfl (by decide) inX4_lookFirst_X4 tyX4_ok nmX4 rfl rfl rfl (by decide +kernel)) ?_
  refine al_c (pc := 15) (snd_aload_n C dX4_lookFirst_15 rfl) ?_
  refine al_c (pc := 16) (snd_iconst C dX4_lookFirst_16 (by decide)) ?_
  refine al_c (pc := 17) (snd_put C dX4_lookFirst_17 (ci := 3) (kf := 16) rfl (by decide) inX4_lookFirst_X4 tyX4_ok nmX4 rfl rfl rfl (by decide +kernel)) ?_
  refine al_c (pc := 20) (snd_Rv C hQ hr dX4_lookFirst_20) ?_
  exact al_0
set_option maxHeartbeats 1000000 in
set_option maxRecDepth 100000 in
theorem mX4_lookFirst : aMv yX4_lookFirst wsX4_lookFirst rmX4_lookFirst tX4_lookFirst := by
  refine aMv_of (by decide +kernel) rfl rfl (by intro av X post hT; obtain ⟨a, th, w0, h0, rl, ps, cl, tp, nt, et, ic, it, iv, ie, rc, wm, pq, co, pa, fa, ce, ts, ns, es, on, nx, rfl, rfl, hp⟩ := hT; exact Nat.le_of_ble_eq_true rfl) ?_
  intro Γ ad av X post C hQ hr hT
  obtain ⟨a, th, w0, h0, rl, ps, cl, tp, nt, et, ic, it, iv, ie, rc, wm, pq, co, pa, fa, ce, ts, ns, es, on, nx, rfl, rfl, hp⟩ := hT
  have OK := okX4_lookFirst C hQ hr
  refine go OK [] 60 ?_
  exact ⟨rfl, hp⟩
abbrev tX4_lookAt : aTv := fun av X post => ∃ (a : Int32) (q : Nat) (th w0 h0 rl ps cl tp nt et ic it iv ie rc : Int32) (wm pq co pa fa ce ts ns es on nx : Nat → Int32), av = [.ref 0, .int a] ∧ a = nI q ∧ q < 2401 ∧ X = MW th w0 h0 rl ps cl tp nt et ic it iv ie rc wm pq co pa fa ce ts ns es on nx ∧ post (MW th w0 h0 rl ps cl tp nt et (ce q) (ts q) (ns q) (es q) rc wm pq co pa fa ce ts ns es on nx)
abbrev rmX4_lookAt : Room := { frames := 0, cells := 0, slots := 0, locals := 0 }
theorem inX4_lookAt_X4 : ∀ w ∈ wsX40, w ∈ wsX4_lookAt := by decide +kernel
def tbX4_lookAt (post : List aE → Prop) (ad0 : Nat → Nat) : List (Nat × aO) := [(0, oAL 0 1),
  (1, oAL 0 2),
  (2, oGet 3 18 5),
  (5, oIL 1 6),
  (6, oIald 7),
  (7, oPut 3 13 10),
  (10, oAL 0 11),
  (11, oAL 0 12),
  (12, oGet 3 19 15),
  (15, oIL 1 16),
  (16, oIald 17),
  (17, oPut 3 14 20),
  (20, oAL 0 21),
  (21, oAL 0 22),
  (22, oGet 3 20 25),
  (25, oIL 1 26),
  (26, oIald 27),
  (27, oPut 3 15 30),
  (30, oAL 0 31),
  (31, oAL 0 32),
  (32, oGet 3 21 35),
  (35, oIL 1 36),
  (36, oIald 37),
  (37, oPut 3 16 40),
  (40, oRv post ad0 rmX4_lookAt.cells rmX4_lookAt.slots)]
set_option maxRecDepth 20000 in
theorem okX4_lookAt {Γ : aΓ} {post : List aE → Prop} {ad0 : Nat → Nat} {X0 : List aE} (C : FOK Γ cX4_lookAt wsX4_lookAt RX4 2 rmX4_lookAt) (hQ : isQ Γ (va_Qv post (aBk (gK Γ) ad0 X0 (hsz Γ)) (aA (gK Γ) ad0 X0 (hsz Γ))) rmX4_lookAt ad0 X0) (hr : rTy Γ = none) : AllS Γ (tbX4_lookAt post ad0) := by
  unfold tbX4_lookAt
  refine al_c (pc := 0) (snd_aload_n C dX4_lookAt_0 rfl) ?_
  refine al_c (pc := 1) (snd_aload_n C dX4_lookAt_1 rfl) ?_
  refine al_c (pc := 2) (snd_get C dX4_lookAt_2 (ci := 3) (kf := 18) rfl (by decide) inX4_lookAt_X4 rfl (by decide +kernel)) ?_
  refine al_c (pc := 5) (snd_iload_n C dX4_lookAt_5 rfl) ?_
  refine al_c (pc := 6) (snd_iaload C dX4_lookAt_6) ?_
  refine al_c (pc := 7) (snd_put C dX4_lookAt_7 (ci := 3) (kf := 13) rfl (by decide) inX4_lookAt_X4 tyX4_ok nmX4 rfl rfl rfl (by decide +kernel)) ?_
  refine al_c (pc := 10) (snd_aload_n C dX4_lookAt_10 rfl) ?_
  refine al_c (pc := 11) (snd_aload_n C dX4_lookAt_11 rfl) ?_
  refine al_c (pc := 12) (snd_get C dX4_lookAt_12 (ci := 3) (kf := 19) rfl (by decide) inX4_lookAt_X4 rfl (by decide +kernel)) ?_
  refine al_c (pc := 15) (snd_iload_n C dX4_lookAt_15 rfl) ?_
  refine al_c (pc := 16) (snd_iaload C dX4_lookAt_16) ?_
  refine al_c (pc := 17) (snd_put C dX4_lookAt_17 (ci := 3) (kf := 14) rfl (by decide) inX4_lookAt_X4 tyX4_ok nmX4 rfl rfl rfl (by decide +kernel)) ?_
  refine al_c (pc := 20) (snd_aload_n C dX4_lookAt_20 rfl) ?_
  refine al_c (pc := 21) (snd_aload_n C dX4_lookAt_21 rfl) ?_
  refine al_c (pc := 22) (snd_get C dX4_lookAt_22 (ci := 3) (kf := 20) rfl (by decide) inX4_lookAt_X4 rfl (by decide +kernel)) ?_
  refine al_c (pc := 25) (snd_iload_n C dX4_lookAt_25 rfl) ?_
  refine al_c (pc := 26) (snd_iaload C dX4_lookAt_26) ?_
  refine al_c (pc := 27) (snd_put C dX4_lookAt_27 (ci := 3) (kf := 15) rfl (by decide) inX4_lookAt_X4 tyX4_ok nmX4 rfl rfl rfl (by decide +kernel)) ?_
  refine al_c (pc := 30) (snd_aload_n C dX4_lookAt_30 rfl) ?_
  refine al_c (pc := 31) (snd_aload_n C dX4_lookAt_31 rfl) ?_
  refine al_c (pc := 32) (snd_get C dX4_lookAt_32 (ci := 3) (kf := 21) rfl (by decide) inX4_lookAt_X4 rfl (by decide +kernel)) ?_
  refine al_c (pc := 35) (snd_iload_n C dX4_lookAt_35 rfl) ?_
  refine al_c (pc := 36) (snd_iaload C dX4_lookAt_36) ?_
  refine al_c (pc := 37) (snd_put C dX4_lookAt_37 (ci := 3) (kf := 16) rfl (by decide) inX4_lookAt_X4 tyX4_ok nmX4 rfl rfl rfl (by decide +kernel)) ?_
  refine al_c (pc := 40) (snd_Rv C hQ hr dX4_lookAt_40) ?_
  exact al_0
set_option maxHeartbeats 1000000 in
set_option maxRecDepth 100000 in
theorem mX4_lookAt : aMv yX4_lookAt wsX4_lookAt rmX4_lookAt tX4_lookAt := by
  refine aMv_of (by decide +kernel) rfl rfl (by intro av X post hT; obtain ⟨a, q, th, w0, h0, rl, ps, cl, tp, nt, et, ic, it, iv, ie, rc, wm, pq, co, pa, fa, ce, ts, ns, es, on, nx, rfl, rfl, hq, rfl, hp⟩ := hT; exact Nat.le_of_ble_eq_true rfl) ?_
  intro Γ ad av X post C hQ hr hT
  obtain ⟨a, q, th, w0, h0, rl, ps, cl, tp, nt, et, ic, it, iv, ie, rc, wm, pq, co, pa, fa, ce, ts, ns, es, on, nx, rfl, rfl, hq, rfl, hp⟩ := hT
  have OK := okX4_lookAt C hQ hr
  refine go OK [] 60 ?_
  refine ⟨inS hq (by decide), ?_⟩
  rw [nI_clampS (by omega)]
  refine ⟨inS hq (by decide), ?_⟩
  rw [nI_clampS (by omega)]
  refine ⟨inS hq (by decide), ?_⟩
  rw [nI_clampS (by omega)]
  refine ⟨inS hq (by decide), ?_⟩
  rw [nI_clampS (by omega)]
  exact ⟨rfl, hp⟩
/-- tips the die that is looked at: turn u -/
abbrev tX4_tip : aTv := fun av X post => ∃ (a to : Int32) (d u : Nat) (th w0 h0 rl ps cl tp nt et ic it iv ie rc : Int32) (wm pq co pa fa ce ts ns es on nx : Nat → Int32), av = [.ref 0, .int a, .int to] ∧ a = nI d ∧ d < 4 ∧ vt u = true ∧ it = nI (u / 6 + 1) ∧ iv = nI (u % 6 + 1) ∧ ie = nI (eoN u) ∧ X = MW th w0 h0 rl ps cl tp nt et ic it iv ie rc wm pq co pa fa ce ts ns es on nx ∧
  post (MW th w0 h0 rl ps cl tp nt et to (nI (rlN u d / 6 + 1)) (nI (rlN u d % 6 + 1)) (nI (eoN (rlN u d))) rc wm pq co pa fa ce ts ns es on nx)
abbrev rmX4_tip : Room := { frames := 0, cells := 0, slots := 0, locals := 0 }
theorem inX4_tip_X4 : ∀ w ∈ wsX40, w ∈ wsX4_tip := by decide +kernel
def tbX4_tip (post : List aE → Prop) (ad0 : Nat → Nat) : List (Nat × aO) := [(0, oAL 0 1),
  (1, oGet 3 14 4),
  (4, oIS 3 5),
  (5, oAL 0 6),
  (6, oIL 2 7),
  (7, oPut 3 13 10),
  (10, oIL 1 11),
  (11, oSw [(0, 36), (1, 53), (2, 70)] 87),
  (36, oAL 0 37),
  (37, oC (7) 39),
  (39, oAL 0 40),
  (40, oGet 3 15 43),
  (43, oIsub 44),
  (44, oPut 3 14 47),
  (47, oAL 0 48),
  (48, oIL 3 49),
  (49, oPut 3 15 52),
  (52, oRv post ad0 rmX4_tip.cells rmX4_tip.slots),
  (53, oAL 0 54),
  (54, oC (7) 56),
  (56, oAL 0 57),
  (57, oGet 3 16 60),
  (60, oIsub 61),
  (61, oPut 3 14 64),
  (64, oAL 0 65),
  (65, oIL 3 66),
  (66, oPut 3 16 69),
  (69, oRv post ad0 rmX4_tip.cells rmX4_tip.slots),
  (70, oAL 0 71),
  (71, oAL 0 72),
  (72, oGet 3 15 75),
  (75, oPut 3 14 78),
  (78, oAL 0 79),
  (79, oC (7) 81),
  (81, oIL 3 82),
  (82, oIsub 83),
  (83, oPut 3 15 86),
  (86, oRv post ad0 rmX4_tip.cells rmX4_tip.slots),
  (87, oAL 0 88),
  (88, oAL 0 89),
  (89, oGet 3 16 92),
  (92, oPut 3 14 95),
  (95, oAL 0 96),
  (96, oC (7) 98),
  (98, oIL 3 99),
  (99, oIsub 100),
  (100, oPut 3 16 103),
  (103, oRv post ad0 rmX4_tip.cells rmX4_tip.slots)]
set_option maxRecDepth 20000 in
theorem okX4_tip {Γ : aΓ} {post : List aE → Prop} {ad0 : Nat → Nat} {X0 : List aE} (C : FOK Γ cX4_tip wsX4_tip RX4 4 rmX4_tip) (hQ : isQ Γ (va_Qv post (aBk (gK Γ) ad0 X0 (hsz Γ)) (aA (gK Γ) ad0 X0 (hsz Γ))) rmX4_tip ad0 X0) (hr : rTy Γ = none) : AllS Γ (tbX4_tip post ad0) := by
  unfold tbX4_tip
  refine al_c (pc := 0) (snd_aload_n C dX4_tip_0 rfl) ?_
  refine al_c (pc := 1) (snd_get C dX4_tip_1 (ci := 3) (kf := 14) rfl (by decide) inX4_tip_X4 rfl (by decide +kernel)) ?_
  refine al_c (pc := 4) (snd_istore_n C dX4_tip_4 rfl (by decide)) ?_
  refine al_c (pc := 5) (snd_aload_n C dX4_tip_5 rfl) ?_
  refine al_c (pc := 6) (snd_iload_n C dX4_tip_6 rfl) ?_
  refine al_c (pc := 7) (snd_put C dX4_tip_7 (ci := 3) (kf := 13) rfl (by decide) inX4_tip_X4 tyX4_ok nmX4 rfl rfl rfl (by decide +kernel)) ?_
  refine al_c (pc := 10) (snd_iload_n C dX4_tip_10 rfl) ?_
  refine al_c (pc := 11) (snd_sw C dX4_tip_11 (by decide) (by decide) (fun x h1 h2 => sw_in3 x h1 h2)) ?_
  refine al_c (pc := 36) (snd_aload_n C dX4_tip_36 rfl) ?_
  refine al_c (pc := 37) (snd_bipush C dX4_tip_37 (by decide)) ?_
  refine al_c (pc := 39) (snd_aload_n C dX4_tip_39 rfl) ?_
  refine al_c (pc := 40) (snd_get C dX4_tip_40 (ci := 3) (kf := 15) rfl (by decide) inX4_tip_X4 rfl (by decide +kernel)) ?_
  refine al_c (pc := 43) (snd_isub C dX4_tip_43) ?_
  refine al_c (pc := 44) (snd_put C dX4_tip_44 (ci := 3) (kf := 14) rfl (by decide) inX4_tip_X4 tyX4_ok nmX4 rfl rfl rfl (by decide +kernel)) ?_
  refine al_c (pc := 47) (snd_aload_n C dX4_tip_47 rfl) ?_
  refine al_c (pc := 48) (snd_iload_n C dX4_tip_48 rfl) ?_
  refine al_c (pc := 49) (snd_put C dX4_tip_49 (ci := 3) (kf := 15) rfl (by decide) inX4_tip_X4 tyX4_ok nmX4 rfl rfl rfl (by decide +kernel)) ?_
  refine al_c (pc := 52) (snd_Rv C hQ hr dX4_tip_52) ?_
  refine al_c (pc := 53) (snd_aload_n C dX4_tip_53 rfl) ?_
  refine al_c (pc := 54) (snd_bipush C dX4_tip_54 (by decide)) ?_
  refine al_c (pc := 56) (snd_aload_n C dX4_tip_56 rfl) ?_
  refine al_c (pc := 57) (snd_get C dX4_tip_57 (ci := 3) (kf := 16) rfl (by decide) inX4_tip_X4 rfl (by decide +kernel)) ?_
  refine al_c (pc := 60) (snd_isub C dX4_tip_60) ?_
  refine al_c (pc := 61) (snd_put C dX4_tip_61 (ci := 3) (kf := 14) rfl (by decide) inX4_tip_X4 tyX4_ok nmX4 rfl rfl rfl (by decide +kernel)) ?_
  refine al_c (pc := 64) (snd_aload_n C dX4_tip_64 rfl) ?_
  refine al_c (pc := 65) (snd_iload_n C dX4_tip_65 rfl) ?_
  refine al_c (pc := 66) (snd_put C dX4_tip_66 (ci := 3) (kf := 16) rfl (by decide) inX4_tip_X4 tyX4_ok nmX4 rfl rfl rfl (by decide +kernel)) ?_
  refine al_c (pc := 69) (snd_Rv C hQ hr dX4_tip_69) ?_
  refine al_c (pc := 70) (snd_aload_n C dX4_tip_70 rfl) ?_
  refine al_c (pc := 71) (snd_aload_n C dX4_tip_71 rfl) ?_
  refine al_c (pc := 72) (snd_get C dX4_tip_72 (ci := 3) (kf := 15) rfl (by decide) inX4_tip_X4 rfl (by decide +kernel)) ?_
  refine al_c (pc := 75) (snd_put C dX4_tip_75 (ci := 3) (kf := 14) rfl (by decide) inX4_tip_X4 tyX4_ok nmX4 rfl rfl rfl (by decide +kernel)) ?_
  refine al_c (pc := 78) (snd_aload_n C dX4_tip_78 rfl) ?_
  refine al_c (pc := 79) (snd_bipush C dX4_tip_79 (by decide)) ?_
  refine al_c (pc := 81) (snd_iload_n C dX4_tip_81 rfl) ?_
  refine al_c (pc := 82) (snd_isub C dX4_tip_82) ?_
  refine al_c (pc := 83) (snd_put C dX4_tip_83 (ci := 3) (kf := 15) rfl (by decide) inX4_tip_X4 tyX4_ok nmX4 rfl rfl rfl (by decide +kernel)) ?_
  refine al_c (pc := 86) (snd_Rv C hQ hr dX4_tip_86) ?_
  refine al_c (pc := 87) (snd_aload_n C dX4_tip_87 rfl) ?_
  refine al_c (pc := 88) (snd_aload_n C dX4_tip_88 rfl) ?_
  refine al_c (pc := 89) (snd_get C dX4_tip_89 (ci := 3) (kf := 16) rfl (by decide) inX4_tip_X4 rfl (by decide +kernel)) ?_
  refine al_c (pc := 92) (snd_put C dX4_tip_92 (ci := 3) (kf := 14) rfl (by decide) inX4_tip_X4 tyX4_ok nmX4 rfl rfl rfl (by decide +kernel)) ?_
  refine al_c (pc := 95) (snd_aload_n C dX4_tip_95 rfl) ?_
  refine al_c (pc := 96) (snd_bipush C dX4_tip_96 (by decide)) ?_
  refine al_c (pc := 98) (snd_iload_n C dX4_tip_98 rfl) ?_
  refine al_c (pc := 99) (snd_isub C dX4_tip_99) ?_
  refine al_c (pc := 100) (snd_put C dX4_tip_100 (ci := 3) (kf := 16) rfl (by decide) inX4_tip_X4 tyX4_ok nmX4 rfl rfl rfl (by decide +kernel)) ?_
  refine al_c (pc := 103) (snd_Rv C hQ hr dX4_tip_103) ?_
  exact al_0
set_option maxHeartbeats 1000000 in
set_option maxRecDepth 100000 in
theorem mX4_tip : aMv yX4_tip wsX4_tip rmX4_tip tX4_tip := by
  refine aMv_of (by decide +kernel) rfl rfl (by intro av X post hT; obtain ⟨a, to, d, u, th, w0, h0, rl, ps, cl, tp, nt, et, ic, it, iv, ie, rc, wm, pq, co, pa, fa, ce, ts, ns, es, on, nx, rfl, rfl, hd, hv, rfl, rfl, rfl, rfl, hp⟩ := hT; exact Nat.le_of_ble_eq_true rfl) ?_
  intro Γ ad av X post C hQ hr hT
  obtain ⟨a, to, d, u, th, w0, h0, rl, ps, cl, tp, nt, et, ic, it, iv, ie, rc, wm, pq, co, pa, fa, ce, ts, ns, es, on, nx, rfl, rfl, hd, hv, rfl, rfl, rfl, rfl, hp⟩ := hT
  have OK := okX4_tip C hQ hr
  have hu := vt_lt hv
  have hd4 : d = 0 ∨ d = 1 ∨ d = 2 ∨ d = 3 := by omega
  obtain ⟨e1, e2⟩ := eoN_in u hu hv
  refine go OK [] 80 ?_
  rcases hd4 with rfl | rfl | rfl | rfl
  · refine And.intro (fun q => ?_) (fun q => absurd rfl q)
    obtain ⟨g1, g2, g3⟩ := tip0 u hu hv
    rw [g1, g2, g3, ← n7 _ (by omega)] at hp
    exact ⟨rfl, hp⟩
  · refine And.intro (fun q => absurd q (by decide)) (fun q => ?_)
    refine And.intro (fun q => ?_) (fun q => absurd rfl q)
    obtain ⟨g1, g2, g3⟩ := tip1 u hu hv
    rw [g1, g2, g3, ← n7 _ (by omega)] at hp
    exact ⟨rfl, hp⟩
  · refine And.intro (fun q => absurd q (by decide)) (fun q => ?_)
    refine And.intro (fun q => absurd q (by decide)) (fun q => ?_)
    refine And.intro (fun q => ?_) (fun q => absurd rfl q)
    obtain ⟨g1, g2, g3⟩ := tip2 u hu hv
    rw [g1, g2, g3, ← n7 _ (by omega)] at hp
    exact ⟨rfl, hp⟩
  · refine And.intro (fun q => absurd q (by decide)) (fun q => ?_)
    refine And.intro (fun q => absurd q (by decide)) (fun q => ?_)
    refine And.intro (fun q => absurd q (by decide)) (fun q => ?_)
    obtain ⟨g1, g2, g3⟩ := tip3 u hu hv
    rw [g1, g2, g3, ← n7 _ (by omega)] at hp
    exact ⟨rfl, hp⟩
