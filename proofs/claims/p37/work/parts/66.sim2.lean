/-! ===== Sim: can, put, tipped ===== -/
theorem okWs_mono {N M : Nat} (h : N ≤ M) {l : List Value} (hl : l.all (okW N) = true) : l.all (okW M) = true := List.all_eq_true.mpr fun v hv => by
  have h1 := List.all_eq_true.mp hl v hv
  cases v with
  | ref a =>
    have h2 : (Nat.blt a N || Nat.ble 1000 a) = true := h1
    show (Nat.blt a M || Nat.ble 1000 a) = true
    rw [Bool.or_eq_true] at h2 ⊢
    exact h2.imp (fun z => Nat.blt_eq.mpr (Nat.lt_of_lt_of_le (Nat.blt_eq.mp z) h)) id
  | _ => rfl
theorem okWl_mono {N M : Nat} (h : N ≤ M) {l : List (Nat × Value)} (hl : l.all (fun z => okW N z.2) = true) : l.all (fun z => okW M z.2) = true := List.all_eq_true.mpr fun z hz => by
  have h1 := okWs_mono h (l := [z.2]) (by rw [List.all_cons, List.all_nil, Bool.and_true]; exact List.all_eq_true.mp hl z hz)
  rwa [List.all_cons, List.all_nil, Bool.and_true] at h1
theorem qOK_of {ad0 ad : Nat → Nat} {off N N0 : Nat} {ls : List (Nat × Value)} {t : List Value} {X1 X' : List aE} {av' : List Value} (had : ∀ i, 1000 ≤ i → ad i = ad0 i) (h0 : N0 ≤ off + N) (hl : ls.all (fun z => okW N0 z.2) = true) (ht : t.all (okW N0) = true) (h1 : X1.all (okE N0) = true) (h2 : X'.all (okE 1000) = true) (h3 : X'.length ≤ 1000) (h4 : off = 0 ∨ av'.all (okV 1000) = true) : qOK ad0 ad off N ls t X1 X' av' :=
  ⟨had, okWl_mono h0 hl, okWs_mono h0 ht, okX_mono h0 h1, h2, h3, h4⟩
theorem nxt_xy {w h k d m : Nat} {wl : Nat → Int32} (hw : w ≤ 7) (hk : k % 7 < w) (hd : d < 4) (hm : nxt w h wl k d = some m) : nI (k % 7) + acr d = nI (m % 7) ∧ nI (k / 7) + dwn d = nI (m / 7) := by
  have z : ∀ n : Nat, nI n + 0 = nI n := fun n => Int32.add_zero _
  have hd4 : d = 0 ∨ d = 1 ∨ d = 2 ∨ d = 3 := by omega
  rcases hd4 with rfl | rfl | rfl | rfl
  · simp only [nxt] at hm
    split at hm
    · next q =>
      cases hm
      rw [Bool.and_eq_true, decide_eq_true_eq] at q
      refine ⟨?_, ?_⟩
      · show nI (k % 7) + 0 = _
        rw [z, show (k - 7) % 7 = k % 7 by omega]
      · show nI (k / 7) + (-1) = _
        rw [nI_s1 (by omega), show (k - 7) / 7 = k / 7 - 1 by omega]
    · cases hm
  · simp only [nxt] at hm
    split at hm
    · next q =>
      cases hm
      rw [Bool.and_eq_true, decide_eq_true_eq] at q
      refine ⟨?_, ?_⟩
      · show nI (k % 7) + 1 = _
        rw [nI_p1, show (k + 1) % 7 = k % 7 + 1 by omega]
      · show nI (k / 7) + 0 = _
        rw [z, show (k + 1) / 7 = k / 7 by omega]
    · cases hm
  · simp only [nxt] at hm
    split at hm
    · next q =>
      cases hm
      refine ⟨?_, ?_⟩
      · show nI (k % 7) + 0 = _
        rw [z, show (k + 7) % 7 = k % 7 by omega]
      · show nI (k / 7) + 1 = _
        rw [nI_p1, show (k + 7) / 7 = k / 7 + 1 by omega]
    · cases hm
  · simp only [nxt] at hm
    split at hm
    · next q =>
      cases hm
      rw [Bool.and_eq_true, decide_eq_true_eq] at q
      refine ⟨?_, ?_⟩
      · show nI (k % 7) + (-1) = _
        rw [nI_s1 (by omega), show (k - 1) % 7 = k % 7 - 1 by omega]
      · show nI (k / 7) + 0 = _
        rw [z, show (k - 1) / 7 = k / 7 by omega]
    · cases hm
theorem can_fr {w h k d : Nat} {wl : Nat → Int32} (hw : w ≤ 7) (hh : h ≤ 7) (hk : k < 49) (hd : d < 4) : (frB (nI (k % 7) + acr d) (nI (k / 7) + dwn d) w h wl → (nxt w h wl k d).isSome = true) ∧ (¬ frB (nI (k % 7) + acr d) (nI (k / 7) + dwn d) w h wl → (nxt w h wl k d).isSome = false) := by
  have z : ∀ n : Nat, nI n + 0 = nI n := fun n => Int32.add_zero _
  have hd4 : d = 0 ∨ d = 1 ∨ d = 2 ∨ d = 3 := by omega
  have key : ∀ a b : Int32, ((frB a b w h wl → b * 7 + a = oI (nxt w h wl k d)) ∧ (¬ frB a b w h wl → nxt w h wl k d = none)) → (frB a b w h wl → (nxt w h wl k d).isSome = true) ∧ (¬ frB a b w h wl → (nxt w h wl k d).isSome = false) := by
    intro a b ⟨g1, g2⟩
    refine ⟨fun q => ?_, fun q => ?_⟩
    · have e := g1 q
      obtain ⟨i, j, rfl, rfl, hi, hj, -⟩ := q
      cases e2 : nxt w h wl k d with
      | some m => rfl
      | none =>
        rw [e2, cellI] at e
        exact absurd e (nI_m1 (by omega))
    · rw [g2 q]
      rfl
  refine key _ _ (nx_case hw hh hk hd ?_)
  rcases hd4 with rfl | rfl | rfl | rfl
  · exact Or.inl ⟨rfl, z _, rfl⟩
  · exact Or.inr (Or.inl ⟨rfl, rfl, z _⟩)
  · exact Or.inr (Or.inr (Or.inl ⟨rfl, z _, rfl⟩))
  · exact Or.inr (Or.inr (Or.inr ⟨rfl, rfl, z _⟩))
abbrev NX4_can : List aE → Nat := fun X => X.length
abbrev tX4_can : aTi := fun av X post => ∃ (d k w h : Nat) (rl ps : Int32) (fw fp : Nat → Nat → Int32) (cs as df wl : Nat → Int32), av = [.ref 0, .int (nI d)] ∧ X = SW w h rl ps (nI (k % 7)) (nI (k / 7)) fw fp cs as df ∧ w ≤ 7 ∧ h ≤ 7 ∧ k < 49 ∧ d < 4 ∧ RWL w h wl fw ∧ post (if (nxt w h wl k d).isSome then 1 else 0) X
abbrev rmX4_can : Room := { frames := 1, cells := 0, slots := 0, locals := 22 }
theorem inX4_can_X4 : ∀ w ∈ wsX40, w ∈ wsX4_can := by decide +kernel
def tbX4_can (post : Int32 → List aE → Prop) (ad0 : Nat → Nat) (N0 : Nat) : List (Nat × aO) := [(0, oAL 0 1),
  (1, oAL 0 2),
  (2, oGet 3 8 5),
  (5, oGs ad0 1001 8),
  (8, oIL 1 9),
  (9, oSi ad0 1001 acr 10),
  (10, oIadd 11),
  (11, oAL 0 12),
  (12, oGet 3 9 15),
  (15, oGs ad0 1002 18),
  (18, oIL 1 19),
  (19, oSi ad0 1002 dwn 20),
  (20, oIadd 21),
  (21, oQi ad0 0 NX4_isFree tX4_isFree 3 (some 3) rmX4_isFree.cells rmX4_isFree.slots 0 0 24),
  (24, oNz post ad0 N0 0 0)]
set_option maxRecDepth 20000 in
theorem okX4_can {Γ : aΓ} {post : Int32 → List aE → Prop} {ad0 : Nat → Nat} {X0 : List aE} {N0 : Nat} (C : FOK Γ cX4_can wsX4_can RX4 2 rmX4_can) (CX : FOX Γ) (CN : FON ad0 Γ) (hQ : isQ Γ (va_Qi (fun r (u : (Nat → Nat) × List aE) => post r u.2) (aBn (gK Γ) ad0 X0 (hsz Γ) N0) (aA (gK Γ) ad0 X0 (hsz Γ))) rmX4_can ad0 X0) (hr : rTy Γ = some .boolean) : AllS Γ (tbX4_can post ad0 N0) := by
  unfold tbX4_can
  refine al_c (pc := 0) (snd_aload_n C dX4_can_0 rfl) ?_
  refine al_c (pc := 1) (snd_aload_n C dX4_can_1 rfl) ?_
  refine al_c (pc := 2) (snd_get C dX4_can_2 (ci := 3) (kf := 8) rfl (by decide) inX4_can_X4 rfl (by decide +kernel)) ?_
  refine al_c (pc := 5) (snd_GsN1 C CN dX4_can_5) ?_
  refine al_c (pc := 8) (snd_iload_n C dX4_can_8 rfl) ?_
  refine al_c (pc := 9) (snd_Si1 C CN dX4_can_9) ?_
  refine al_c (pc := 10) (snd_iadd C dX4_can_10) ?_
  refine al_c (pc := 11) (snd_aload_n C dX4_can_11 rfl) ?_
  refine al_c (pc := 12) (snd_get C dX4_can_12 (ci := 3) (kf := 9) rfl (by decide) inX4_can_X4 rfl (by decide +kernel)) ?_
  refine al_c (pc := 15) (snd_GsN2 C CN dX4_can_15) ?_
  refine al_c (pc := 18) (snd_iload_n C dX4_can_18 rfl) ?_
  refine al_c (pc := 19) (snd_Si2 C CN dX4_can_19) ?_
  refine al_c (pc := 20) (snd_iadd C dX4_can_20) ?_
  refine al_c (pc := 21) (snd_Qi 0 C CX CN (site_V C rfl dX4_can_21 gX4_can_X4_isFree rfl rfl rfl ⟨rfl, by decide +kernel, by decide +kernel, by decide +kernel⟩ ⟨by decide, by decide⟩) mX4_isFree) ?_
  refine al_c (pc := 24) (snd_Nz C hQ hr dX4_can_24) ?_
  exact al_0
set_option maxHeartbeats 4000000 in
set_option maxRecDepth 100000 in
theorem mX4_can : nMi yX4_can wsX4_can rmX4_can NX4_can tX4_can := by
  refine nMz_of (by decide +kernel) rfl rfl (by intro av X post hT; obtain ⟨d, k, w, h, rl, ps, fw, fp, cs, as, df, wl, rfl, rfl, hw, hh, hk, hd, hW, hp⟩ := hT; exact Nat.le_of_ble_eq_true rfl) ?_
  intro Γ ad av X post C CX CN hQ hr hT
  obtain ⟨d, k, w, h, rl, ps, fw, fp, cs, as, df, wl, rfl, rfl, hw, hh, hk, hd, hW, hp⟩ := hT
  have OK := okX4_can C CX CN hQ hr
  refine go OK [] 40 ?_
  refine ⟨rfl, rfl, rfl, d, rfl, hd, rfl, rfl, rfl, d, rfl, hd, ?_⟩
  refine ⟨[], SW w h rl ps (nI (k % 7)) (nI (k / 7)) fw fp cs as df, _, fun r X2 => r = (if (nxt w h wl k d).isSome then 1 else 0) ∧ X2 = SW w h rl ps (nI (k % 7)) (nI (k / 7)) fw fp cs as df, rfl, Nat.le_refl _, Nat.le_refl _, rfl, (shEs_0 _).symm, (shVs_0 _).symm, qOK_of (N0 := 1) (fun _ _ => rfl) (by show 1 ≤ 0 + (SW _ _ _ _ _ _ _ _ _ _ _).length; rw [SW_len]; omega) rfl rfl rfl (SW_ok (by omega)) (by rw [SW_len]; omega) (Or.inl rfl), fun ci hc => by cases hc; exact ⟨0, _, _, rfl, rfl⟩, ?_, ?_⟩
  · refine ⟨_, _, w, h, rl, ps, _, _, fw, fp, cs, as, df, wl, rfl, rfl, hw, hh, hW, fun q => ⟨?_, rfl⟩, fun q => ⟨?_, rfl⟩⟩
    · rw [(can_fr hw hh hk hd).1 q]
      rfl
    · rw [(can_fr hw hh hk hd).2 q]
      rfl
  · rintro r X2 ⟨rfl, rfl⟩
    refine ⟨Nat.le_refl _, by rw [SW_len]; omega, SW_ok (by rw [SW_len]; omega), fun adJ hJ => ?_⟩
    rw [List.nil_append, shEs_0]
    rw [Nat.zero_add] at hJ
    refine ⟨Nat.le_refl _, Nat.le_refl _, ?_, hJ, hp⟩
    split
    · exact Or.inr rfl
    · exact Or.inl rfl
/-- the six faces, as Sim has them -/
def dieF (t : Nat) (i : Nat) : Int32 := match i with
  | 0 => nI (t / 6 + 1)
  | 1 => nI (7 - (t / 6 + 1))
  | 2 => nI (faN t 0)
  | 3 => nI (faN t 1)
  | 4 => nI (faN t 2)
  | _ => nI (faN t 3)
abbrev aE_obj (fs : List Value) : aE := .inr (.inl (3, fs))
def DF (t : Nat) (df : Nat → Int32) : Prop := ∀ i, i < 6 → df i = dieF t i
theorem okW_self (q : Nat) : okW (q + 1) (.ref q) = true := by
  show (Nat.blt q (q + 1) || Nat.ble 1000 q) = true
  rw [Nat.blt_eq.mpr (Nat.lt_succ_self q)]
  rfl
theorem ast_last {Y : List aE} {N : Nat} {g : Nat → Int32} {i x : Int32} {c : List aE → Prop} (hin : vp_in i N) (h : c (Y ++ [.inl (false, N, upd g i.toNatClampNeg x)])) : gx Y.length (eI fun L f => vp_in i L ∧ sx Y.length (.inl (false, L, upd f i.toNatClampNeg x)) c (Y ++ [.inl (false, N, g)])) (Y ++ [.inl (false, N, g)]) := by
  refine gx_of (e := .inl (false, N, g)) (by rw [List.getElem?_append_right (Nat.le_refl _), Nat.sub_self]; rfl) ?_
  refine ⟨hin, sx_of (by rw [List.length_append]; exact Nat.lt_succ_self _) ?_⟩
  rw [List.set_append_right _ _ (Nat.le_refl _), Nat.sub_self]
  exact h
/-- the die as it is at first, written face by face -/
theorem DF_1 {df : Nat → Int32} (h : df = upd (upd (upd (upd (upd (upd (fun _ => 0) 0 1) 1 6) 2 2) 3 3) 4 5) 5 4) : DF 1 df := by
  intro i hi
  subst h
  have h6 : i = 0 ∨ i = 1 ∨ i = 2 ∨ i = 3 ∨ i = 4 ∨ i = 5 := by omega
  rcases h6 with rfl | rfl | rfl | rfl | rfl | rfl <;> rfl
abbrev NX4_put : List aE → Nat := fun X => X.length
abbrev tX4_put : aTv := fun av X post => ∃ (a b x y v0 v1 v6 v7 : Int32) (q2 q3 q4 q5 qd : Nat) (R : List aE), av = [.ref 0, .int a, .int b] ∧ X = .inr (.inl (3, [.int v0, .int v1, .ref q2, .ref q3, .ref q4, .ref q5, .int v6, .int v7, .int x, .int y, .ref qd])) :: R ∧ X.all (okE X.length) = true ∧ X.length ≤ 900 ∧
  ∀ df, DF 1 df → post (.inr (.inl (3, [.int v0, .int v1, .ref q2, .ref q3, .ref q4, .ref q5, .int v6, .int v7, .int a, .int b, .ref X.length])) :: (R ++ [.inl (false, 6, df)]))
abbrev rmX4_put : Room := { frames := 0, cells := 1, slots := 6, locals := 0 }
theorem inX4_put_X4 : ∀ w ∈ wsX40, w ∈ wsX4_put := by decide +kernel
def tbX4_put (post : List aE → Prop) (ad0 : Nat → Nat) (N0 : Nat) : List (Nat × aO) := [(0, oAL 0 1),
  (1, oIL 1 2),
  (2, oPut 3 8 5),
  (5, oAL 0 6),
  (6, oIL 2 7),
  (7, oPut 3 9 10),
  (10, oAL 0 11),
  (11, oC (6) 13),
  (13, oNip 6 1 6 15),
  (15, oDup 16),
  (16, oC (0) 17),
  (17, oC (1) 18),
  (18, oIast 19),
  (19, oDup 20),
  (20, oC (1) 21),
  (21, oC (6) 23),
  (23, oIast 24),
  (24, oDup 25),
  (25, oC (2) 26),
  (26, oC (2) 27),
  (27, oIast 28),
  (28, oDup 29),
  (29, oC (3) 30),
  (30, oC (3) 31),
  (31, oIast 32),
  (32, oDup 33),
  (33, oC (4) 34),
  (34, oC (5) 35),
  (35, oIast 36),
  (36, oDup 37),
  (37, oC (5) 38),
  (38, oC (4) 39),
  (39, oIast 40),
  (40, oPutR 3 10 43),
  (43, oNv post ad0 N0 1 6)]
set_option maxRecDepth 20000 in
theorem okX4_put {Γ : aΓ} {post : List aE → Prop} {ad0 : Nat → Nat} {X0 : List aE} {N0 : Nat} (C : FOK Γ cX4_put wsX4_put RX4 3 rmX4_put) (CX : FOX Γ) (CN : FON ad0 Γ) (hQ : isQ Γ (va_Qv (fun (u : (Nat → Nat) × List aE) => post u.2) (aBn (gK Γ) ad0 X0 (hsz Γ) N0) (aA (gK Γ) ad0 X0 (hsz Γ))) rmX4_put ad0 X0) (hr : rTy Γ = none) : AllS Γ (tbX4_put post ad0 N0) := by
  unfold tbX4_put
  refine al_c (pc := 0) (snd_aload_n C dX4_put_0 rfl) ?_
  refine al_c (pc := 1) (snd_iload_n C dX4_put_1 rfl) ?_
  refine al_c (pc := 2) (snd_put C dX4_put_2 (ci := 3) (kf := 8) rfl (by decide) inX4_put_X4 tyX4_ok nmX4 rfl rfl rfl (by decide +kernel)) ?_
  refine al_c (pc := 5) (snd_aload_n C dX4_put_5 rfl) ?_
  refine al_c (pc := 6) (snd_iload_n C dX4_put_6 rfl) ?_
  refine al_c (pc := 7) (snd_put C dX4_put_7 (ci := 3) (kf := 9) rfl (by decide) inX4_put_X4 tyX4_ok nmX4 rfl rfl rfl (by decide +kernel)) ?_
  refine al_c (pc := 10) (snd_aload_n C dX4_put_10 rfl) ?_
  refine al_c (pc := 11) (snd_bipush C dX4_put_11 (by decide)) ?_
  refine al_c (pc := 13) (snd_Nip C (N := 6) (by decide) dX4_put_13 (by decide +kernel)) ?_
  refine al_c (pc := 15) (snd_dup C dX4_put_15) ?_
  refine al_c (pc := 16) (snd_iconst C dX4_put_16 (by decide)) ?_
  refine al_c (pc := 17) (snd_iconst C dX4_put_17 (by decide)) ?_
  refine al_c (pc := 18) (snd_iastore C dX4_put_18) ?_
  refine al_c (pc := 19) (snd_dup C dX4_put_19) ?_
  refine al_c (pc := 20) (snd_iconst C dX4_put_20 (by decide)) ?_
  refine al_c (pc := 21) (snd_bipush C dX4_put_21 (by decide)) ?_
  refine al_c (pc := 23) (snd_iastore C dX4_put_23) ?_
  refine al_c (pc := 24) (snd_dup C dX4_put_24) ?_
  refine al_c (pc := 25) (snd_iconst C dX4_put_25 (by decide)) ?_
  refine al_c (pc := 26) (snd_iconst C dX4_put_26 (by decide)) ?_
  refine al_c (pc := 27) (snd_iastore C dX4_put_27) ?_
  refine al_c (pc := 28) (snd_dup C dX4_put_28) ?_
  refine al_c (pc := 29) (snd_iconst C dX4_put_29 (by decide)) ?_
  refine al_c (pc := 30) (snd_iconst C dX4_put_30 (by decide)) ?_
  refine al_c (pc := 31) (snd_iastore C dX4_put_31) ?_
  refine al_c (pc := 32) (snd_dup C dX4_put_32) ?_
  refine al_c (pc := 33) (snd_iconst C dX4_put_33 (by decide)) ?_
  refine al_c (pc := 34) (snd_iconst C dX4_put_34 (by decide)) ?_
  refine al_c (pc := 35) (snd_iastore C dX4_put_35) ?_
  refine al_c (pc := 36) (snd_dup C dX4_put_36) ?_
  refine al_c (pc := 37) (snd_iconst C dX4_put_37 (by decide)) ?_
  refine al_c (pc := 38) (snd_iconst C dX4_put_38 (by decide)) ?_
  refine al_c (pc := 39) (snd_iastore C dX4_put_39) ?_
  refine al_c (pc := 40) (snd_putR C dX4_put_40 (ci := 3) (kf := 10) rfl (by decide) inX4_put_X4 tyX4_ok nmX4 rfl (fun _ => rfl) (fun _ => rfl) rfl (by decide +kernel)) ?_
  refine al_c (pc := 43) (snd_Nv C hQ hr dX4_put_43) ?_
  exact al_0
set_option maxHeartbeats 4000000 in
set_option maxRecDepth 100000 in
theorem mX4_put : nMv yX4_put wsX4_put rmX4_put NX4_put tX4_put := by
  refine nMv_of (by decide +kernel) rfl rfl (by intro av X post hT; obtain ⟨a, b, x, y, v0, v1, v6, v7, q2, q3, q4, q5, qd, R, rfl, rfl, hok, hlen, hp⟩ := hT; exact Nat.le_of_ble_eq_true rfl) ?_
  intro Γ ad av X post C CX CN hQ hr hT
  obtain ⟨a, b, x, y, v0, v1, v6, v7, q2, q3, q4, q5, qd, R, rfl, rfl, hok, hlen, hp⟩ := hT
  have OK := okX4_put C CX CN hQ hr
  have hok2 : (aE_obj [.int v0, .int v1, .ref q2, .ref q3, .ref q4, .ref q5, .int v6, .int v7, .int a, .int b, .ref qd] :: R).all (okE (R.length + 1)) = true := hok
  have hl2 : R.length + 1 ≤ 900 := hlen
  refine go OK [] 60 ?_
  refine ⟨rfl, okWl_mono (N := 1) (by rw [List.length_cons]; omega) rfl, okWs_mono (N := 1) (by rw [List.length_cons]; omega) rfl, hok2, Nat.le_refl _, Nat.le_refl _, by rw [List.length_cons]; omega, fun ad2 hag => ?_⟩
  refine ast_last (Y := aE_obj [.int v0, .int v1, .ref q2, .ref q3, .ref q4, .ref q5, .int v6, .int v7, .int a, .int b, .ref qd] :: R) (i := 0) (N := 6) (inS (n := 0) (N := 6) (by decide) (by decide)) ?_
  refine ast_last (Y := aE_obj [.int v0, .int v1, .ref q2, .ref q3, .ref q4, .ref q5, .int v6, .int v7, .int a, .int b, .ref qd] :: R) (i := 1) (N := 6) (inS (n := 1) (N := 6) (by decide) (by decide)) ?_
  refine ast_last (Y := aE_obj [.int v0, .int v1, .ref q2, .ref q3, .ref q4, .ref q5, .int v6, .int v7, .int a, .int b, .ref qd] :: R) (i := 2) (N := 6) (inS (n := 2) (N := 6) (by decide) (by decide)) ?_
  refine ast_last (Y := aE_obj [.int v0, .int v1, .ref q2, .ref q3, .ref q4, .ref q5, .int v6, .int v7, .int a, .int b, .ref qd] :: R) (i := 3) (N := 6) (inS (n := 3) (N := 6) (by decide) (by decide)) ?_
  refine ast_last (Y := aE_obj [.int v0, .int v1, .ref q2, .ref q3, .ref q4, .ref q5, .int v6, .int v7, .int a, .int b, .ref qd] :: R) (i := 4) (N := 6) (inS (n := 4) (N := 6) (by decide) (by decide)) ?_
  refine ast_last (Y := aE_obj [.int v0, .int v1, .ref q2, .ref q3, .ref q4, .ref q5, .int v6, .int v7, .int a, .int b, .ref qd] :: R) (i := 5) (N := 6) (inS (n := 5) (N := 6) (by decide) (by decide)) ?_
  exact ⟨Nat.le_refl _, Nat.le_refl _, hag, hp _ (DF_1 rfl)⟩
def tipG (f : Nat → Int32) (d i : Nat) : Int32 := if i = 0 then f (2 + (d + 2) % 4) else if i = 2 + (d + 2) % 4 then f 1 else if i = 2 + d then f 0 else if i = 1 then f (2 + d) else f i
theorem tipG_die : ∀ t, t < 36 → vt t = true → ∀ d, d < 4 → ∀ i, i < 6 → dieF (rlN t d) i = tipG (dieF t) d i := by decide +kernel
theorem DF_tip {t d : Nat} {df g : Nat → Int32} (hv : vt t = true) (hd : d < 4) (hdf : DF t df) (hg : ∀ i, i < 6 → g i = tipG df d i) : DF (rlN t d) g := by
  intro i hi
  rw [hg i hi, tipG_die t (vt_lt hv) hv d hd i hi]
  unfold tipG
  rw [hdf _ (show 2 + (d + 2) % 4 < 6 by omega), hdf 1 (by decide), hdf 0 (by decide), hdf (2 + d) (by omega), hdf i hi]
abbrev NX4_tipped : List aE → Nat := fun X => X.length
abbrev tX4_tipped : aTr := fun av X post => ∃ (q d t : Nat) (df : Nat → Int32), av = [.ref q, .int (nI d)] ∧ X[q]? = some (.inl (false, 6, df)) ∧ X.all (okE X.length) = true ∧ X.length ≤ 900 ∧ vt t = true ∧ d < 4 ∧ DF t df ∧ ∀ df2, DF (rlN t d) df2 → post X.length (X ++ [.inl (false, 6, df2)])
abbrev rmX4_tipped : Room := { frames := 1, cells := 1, slots := 6, locals := 60 }
def tbX4_tipped (post : Nat → List aE → Prop) (ad0 : Nat → Nat) (N0 : Nat) : List (Nat × aO) := [(0, oAL 0 1),
  (1, oCln 1 6 4),
  (4, oCsA 7),
  (7, oAS 2 8),
  (8, oC (2) 9),
  (9, oIL 1 10),
  (10, oIadd 11),
  (11, oIS 3 12),
  (12, oC (2) 13),
  (13, oIL 1 14),
  (14, oC (2) 15),
  (15, oIadd 16),
  (16, oC (4) 17),
  (17, oIrem 18),
  (18, oIadd 19),
  (19, oIS 4 21),
  (21, oAL 2 22),
  (22, oC (1) 23),
  (23, oAL 0 24),
  (24, oIL 3 25),
  (25, oIald 26),
  (26, oIast 27),
  (27, oAL 2 28),
  (28, oIL 3 29),
  (29, oAL 0 30),
  (30, oC (0) 31),
  (31, oIald 32),
  (32, oIast 33),
  (33, oAL 2 34),
  (34, oIL 4 36),
  (36, oAL 0 37),
  (37, oC (1) 38),
  (38, oIald 39),
  (39, oIast 40),
  (40, oAL 2 41),
  (41, oC (0) 42),
  (42, oAL 0 43),
  (43, oIL 4 45),
  (45, oIald 46),
  (46, oIast 47),
  (47, oAL 2 48),
  (48, oNr post ad0 N0 1 6)]
set_option maxRecDepth 20000 in
theorem okX4_tipped {Γ : aΓ} {post : Nat → List aE → Prop} {ad0 : Nat → Nat} {X0 : List aE} {N0 : Nat} (C : FOK Γ cX4_tipped wsX4_tipped RX4 5 rmX4_tipped) (CX : FOX Γ) (CN : FON ad0 Γ) (hQ : isQ Γ (va_Qr (fun (u : Nat × ((Nat → Nat) × List aE)) => post u.1 u.2.2) (fun u a t => a = u.2.1 u.1 ∧ aBn (gK Γ) ad0 X0 (hsz Γ) N0 u.2 t) (aA (gK Γ) ad0 X0 (hsz Γ))) rmX4_tipped ad0 X0) (hr : rTy Γ = some (.array .int)) : AllS Γ (tbX4_tipped post ad0 N0) := by
  unfold tbX4_tipped
  refine al_c (pc := 0) (snd_aload_n C dX4_tipped_0 rfl) ?_
  refine al_c (pc := 1) (snd_Cln C CN dX4_tipped_1 (by decide +kernel) (by decide +kernel) (by decide +kernel) (by decide +kernel) (by decide +kernel) ⟨by decide, by decide⟩) ?_
  refine al_c (pc := 4) (snd_CsA C dX4_tipped_4 (by decide +kernel)) ?_
  refine al_c (pc := 7) (snd_astore_n C dX4_tipped_7 rfl (by decide)) ?_
  refine al_c (pc := 8) (snd_iconst C dX4_tipped_8 (by decide)) ?_
  refine al_c (pc := 9) (snd_iload_n C dX4_tipped_9 rfl) ?_
  refine al_c (pc := 10) (snd_iadd C dX4_tipped_10) ?_
  refine al_c (pc := 11) (snd_istore_n C dX4_tipped_11 rfl (by decide)) ?_
  refine al_c (pc := 12) (snd_iconst C dX4_tipped_12 (by decide)) ?_
  refine al_c (pc := 13) (snd_iload_n C dX4_tipped_13 rfl) ?_
  refine al_c (pc := 14) (snd_iconst C dX4_tipped_14 (by decide)) ?_
  refine al_c (pc := 15) (snd_iadd C dX4_tipped_15) ?_
  refine al_c (pc := 16) (snd_iconst C dX4_tipped_16 (by decide)) ?_
  refine al_c (pc := 17) (snd_irem C dX4_tipped_17) ?_
  refine al_c (pc := 18) (snd_iadd C dX4_tipped_18) ?_
  refine al_c (pc := 19) (snd_istore C dX4_tipped_19 (by decide)) ?_
  refine al_c (pc := 21) (snd_aload_n C dX4_tipped_21 rfl) ?_
  refine al_c (pc := 22) (snd_iconst C dX4_tipped_22 (by decide)) ?_
  refine al_c (pc := 23) (snd_aload_n C dX4_tipped_23 rfl) ?_
  refine al_c (pc := 24) (snd_iload_n C dX4_tipped_24 rfl) ?_
  refine al_c (pc := 25) (snd_iaload C dX4_tipped_25) ?_
  refine al_c (pc := 26) (snd_iastore C dX4_tipped_26) ?_
  refine al_c (pc := 27) (snd_aload_n C dX4_tipped_27 rfl) ?_
  refine al_c (pc := 28) (snd_iload_n C dX4_tipped_28 rfl) ?_
  refine al_c (pc := 29) (snd_aload_n C dX4_tipped_29 rfl) ?_
  refine al_c (pc := 30) (snd_iconst C dX4_tipped_30 (by decide)) ?_
  refine al_c (pc := 31) (snd_iaload C dX4_tipped_31) ?_
  refine al_c (pc := 32) (snd_iastore C dX4_tipped_32) ?_
  refine al_c (pc := 33) (snd_aload_n C dX4_tipped_33 rfl) ?_
  refine al_c (pc := 34) (snd_iload C dX4_tipped_34) ?_
  refine al_c (pc := 36) (snd_aload_n C dX4_tipped_36 rfl) ?_
  refine al_c (pc := 37) (snd_iconst C dX4_tipped_37 (by decide)) ?_
  refine al_c (pc := 38) (snd_iaload C dX4_tipped_38) ?_
  refine al_c (pc := 39) (snd_iastore C dX4_tipped_39) ?_
  refine al_c (pc := 40) (snd_aload_n C dX4_tipped_40 rfl) ?_
  refine al_c (pc := 41) (snd_iconst C dX4_tipped_41 (by decide)) ?_
  refine al_c (pc := 42) (snd_aload_n C dX4_tipped_42 rfl) ?_
  refine al_c (pc := 43) (snd_iload C dX4_tipped_43) ?_
  refine al_c (pc := 45) (snd_iaload C dX4_tipped_45) ?_
  refine al_c (pc := 46) (snd_iastore C dX4_tipped_46) ?_
  refine al_c (pc := 47) (snd_aload_n C dX4_tipped_47 rfl) ?_
  refine al_c (pc := 48) (snd_Nr C hQ hr (Or.inr ⟨_, rfl⟩) dX4_tipped_48) ?_
  exact al_0
set_option maxHeartbeats 4000000 in
set_option maxRecDepth 100000 in
theorem mX4_tipped : nMr yX4_tipped wsX4_tipped rmX4_tipped NX4_tipped tX4_tipped := by
  refine nMr_of (by decide +kernel) rfl rfl (by intro av X post hT; obtain ⟨q, d, t, df, rfl, hq, hok, hlen, hv, hd, hdf, hp⟩ := hT; exact Nat.le_of_ble_eq_true rfl) ?_
  intro Γ ad av X post C CX CN hQ hr hT
  obtain ⟨q, d, t, df, rfl, hq, hok, hlen, hv, hd, hdf, hp⟩ := hT
  have OK := okX4_tipped C CX CN hQ hr
  have hql : q < X.length := (List.getElem?_eq_some_iff.mp hq).1
  have get : ∀ g : Nat → Int32, (X ++ [.inl (false, 6, g)])[q]? = some (.inl (false, 6, df)) := fun g => by
    rw [List.getElem?_append_left hql]
    exact hq
  have hd4 : d = 0 ∨ d = 1 ∨ d = 2 ∨ d = 3 := by omega
  have ix : ∀ n, n < 6 → vp_in (nI n) 6 := fun n hn => inS hn (by decide)
  have main : ∀ (ad2 : Nat → Nat) (sI aI : Int32), Ag X.length ad ad2 → sI = nI (2 + d) → aI = nI (2 + (d + 2) % 4) → FG Γ 21 ad2 1 6 [(4, .int aI), (3, .int sI), (2, .ref X.length), (0, .ref q), (1, .int (nI d))] [] (X ++ [.inl (false, 6, df)]) := by
    intro ad2 sI aI hag e1 e2
    subst e1 e2
    refine go OK [] 40 ?_
    refine gx_of (get _) ⟨ix (2 + d) (by omega), ?_⟩
    refine ast_last (i := nI 1) (N := 6) (ix 1 (by decide)) ?_
    refine gx_of (get _) ⟨ix 0 (by decide), ?_⟩
    refine ast_last (i := nI (2 + d)) (N := 6) (ix (2 + d) (by omega)) ?_
    refine gx_of (get _) ⟨ix 1 (by decide), ?_⟩
    refine ast_last (i := nI (2 + (d + 2) % 4)) (N := 6) (ix _ (by omega)) ?_
    refine gx_of (get _) ⟨ix (2 + (d + 2) % 4) (by omega), ?_⟩
    refine ast_last (i := nI 0) (N := 6) (ix 0 (by decide)) ?_
    refine ⟨Nat.le_refl _, Nat.le_refl _, hag, hp _ (DF_tip hv hd hdf (fun i hi => ?_))⟩
    rw [nI_clampS (show 2 + d < 10000 by omega), nI_clampS (show 2 + (d + 2) % 4 < 10000 by omega), nI_clampS (show 0 < 10000 by decide), nI_clampS (show 1 < 10000 by decide)]
    rfl
  refine go OK [21] 60 ?_
  refine ⟨6, df, hq, okWl_mono (N := q + 1) hql (by show (okW (q + 1) (.ref q) && (true && true)) = true; rw [okW_self]; rfl), rfl, hok, Nat.le_refl _, Nat.le_refl _, by omega, fun ad2 hag => ?_⟩
  refine ⟨⟨6, df, by rw [List.getElem?_append_right (Nat.le_refl _), Nat.sub_self]; rfl⟩, ?_⟩
  refine ⟨by decide, ?_⟩
  refine main ad2 _ _ hag ?_ ?_
  · rcases hd4 with rfl | rfl | rfl | rfl <;> decide
  · rcases hd4 with rfl | rfl | rfl | rfl <;> decide
