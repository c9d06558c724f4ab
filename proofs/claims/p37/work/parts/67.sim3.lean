/-! ===== Sim: board, the constructor ===== -/
theorem FG_rp {Γ : aΓ} {pc : Nat} {ad : Nat → Nat} {k n : Nat} {ls ls' : List (Nat × Value)} {st st' : List Value} {X X2 : List aE} (π : Nat → Nat) (hX : ∀ j e, X2[j]? = some e → ∃ e1, X[π j]? = some e1 ∧ ∀ (K : aG) (ad : Nat → Nat), aC K ad e1 = aC K ad (reE π e)) (hinj : ∀ i j, i < X2.length → j < X2.length → π i = π j → i = j)
    (hls : ls = ls'.map (fun z => (z.1, reV π z.2))) (hst : st = st'.map (reV π)) (h : FG Γ pc (fun j => ad (π j)) k n ls' st' X2) : FG Γ pc ad k n ls st X := by
  subst hls hst
  obtain ⟨p, l, e, R, s, m, args, below, meth, c, Q, G, A, nL⟩ := Γ
  intro H locs la hP hD hS hl
  have get : ∀ (j : Nat) (q : Nat × va_E), (aX G (fun j => ad (π j)) 0 X2)[j]? = some q → j < X2.length ∧ (aX G ad 0 X)[π j]? = some q := by
    intro j q hq
    obtain ⟨e0, h1, h2⟩ := aX_inv G _ X2 0 j q hq
    refine ⟨(List.getElem?_eq_some_iff.mp h1).1, ?_⟩
    obtain ⟨e1, g1, g2⟩ := hX j e0 h1
    have h3 := aX_at G ad g1
    rw [g2, aC_re] at h3
    rw [h2, Nat.zero_add]
    exact h3
  have hP2 : va_P G.1 vwCl (aX G (fun j => ad (π j)) 0 X2) H := fun j q hq => hP (π j) q (get j q hq).2
  have hD2 : va_D A (aX G (fun j => ad (π j)) 0 X2) := ⟨fun i j x y hx hy hxy => by
    obtain ⟨g1, g2⟩ := get i x hx
    obtain ⟨g3, g4⟩ := get j y hy
    exact hinj i j g1 g3 (hD.1 _ _ x y g2 g4 hxy), fun j q hq => hD.2 _ q (get j q hq).2⟩
  have el : aL ad (ls'.map (fun z => (z.1, reV π z.2))) = aL (fun j => ad (π j)) ls' := by
    unfold aL
    rw [List.map_map]
    refine List.map_congr_left fun z _ => ?_
    show (z.1, aV ad (reV π z.2)) = _
    rw [aV_re]
  rw [el] at hl
  have key := h H locs la hP2 hD2 hS hl
  rw [← aVs_re] at key
  exact key
theorem aC_out {K : aG} {ad : Nat → Nat} {b : Bool} {n : Nat} {g1 g2 : Nat → Nat} (h : ∀ j, j < n → g1 j = g2 j) : aC K ad (.inr (.inr (b, n, g1))) = aC K ad (.inr (.inr (b, n, g2))) := by
  have e : rwF ad n g1 = rwF ad n g2 := by
    funext i
    by_cases z : i < n
    · simp only [rwF, if_pos z, h i z]
    · simp only [rwF, if_neg z]
  cases b <;> simp only [aC, e]
/-- Sim's things, found in a world at the places π -/
theorem SW_re {X : List aE} {π : Nat → Nat} {w h : Nat} {rl ps x y : Int32} {fw fp : Nat → Nat → Int32} {cs as df : Nat → Int32} {g1 g2 : Nat → Nat} (h0 : X[π 0]? = some (.inr (.inl (3, [.int (nI w), .int (nI h), .ref (π 1), .ref (π 2), .ref (π 3), .ref (π 4), .int rl, .int ps, .int x, .int y, .ref (π 5)]))))
    (h1 : X[π 1]? = some (.inr (.inr (true, w, g1)))) (q1 : ∀ j, j < w → g1 j = π (6 + j)) (h2 : X[π 2]? = some (.inr (.inr (false, w, g2)))) (q2 : ∀ j, j < w → g2 j = π (6 + w + j)) (h3 : X[π 3]? = some (.inl (false, 7, cs))) (h4 : X[π 4]? = some (.inl (false, 7, as))) (h5 : X[π 5]? = some (.inl (false, 6, df)))
    (hw : ∀ c, c < w → X[π (6 + c)]? = some (.inl (true, h, fw c))) (hp : ∀ c, c < w → X[π (6 + w + c)]? = some (.inl (false, h, fp c))) : ∀ j e, (SW w h rl ps x y fw fp cs as df)[j]? = some e → ∃ e1, X[π j]? = some e1 ∧ ∀ (K : aG) (ad : Nat → Nat), aC K ad e1 = aC K ad (reE π e) := by
  intro j e he
  have hj : j < 6 + w + w := by
    have := (List.getElem?_eq_some_iff.mp he).1
    rwa [SW_len] at this
  by_cases j6 : j < 6
  · have h6 : j = 0 ∨ j = 1 ∨ j = 2 ∨ j = 3 ∨ j = 4 ∨ j = 5 := by omega
    rcases h6 with rfl | rfl | rfl | rfl | rfl | rfl
    · cases he
      exact ⟨_, h0, fun K ad => rfl⟩
    · cases he
      exact ⟨_, h1, fun K ad => aC_out q1⟩
    · cases he
      exact ⟨_, h2, fun K ad => aC_out q2⟩
    · cases he
      exact ⟨_, h3, fun K ad => rfl⟩
    · cases he
      exact ⟨_, h4, fun K ad => rfl⟩
    · cases he
      exact ⟨_, h5, fun K ad => rfl⟩
  · by_cases jw : j < 6 + w
    · obtain ⟨c, rfl⟩ : ∃ c, j = 6 + c := ⟨j - 6, by omega⟩
      rw [SW_w (by omega)] at he
      cases he
      exact ⟨_, hw c (by omega), fun K ad => rfl⟩
    · obtain ⟨c, rfl⟩ : ∃ c, j = 6 + w + c := ⟨j - 6 - w, by omega⟩
      rw [SW_p (by omega)] at he
      cases he
      exact ⟨_, hp c (by omega), fun K ad => rfl⟩
/-- where a new board's things lie, behind what was there -/
def πB (w τ : Nat) (j : Nat) : Nat := if j = 0 then 0 else if j = 1 then τ + 1 else if j = 2 then τ + w + 2 else if j = 3 then 3 else if j = 4 then 4 else if j = 5 then τ + w + w + 3 else if j < 6 + w then τ + 2 + (j - 6) else if j < 6 + w + w then τ + w + 3 + (j - 6 - w) else j
theorem πB_lo (w τ c : Nat) (h : c < w) : πB w τ (6 + c) = τ + 2 + c := by
  unfold πB
  rw [if_neg (by omega), if_neg (by omega), if_neg (by omega), if_neg (by omega), if_neg (by omega), if_neg (by omega), if_pos (by omega)]
  omega
theorem πB_hi (w τ c : Nat) (h : c < w) : πB w τ (6 + w + c) = τ + w + 3 + c := by
  unfold πB
  rw [if_neg (by omega), if_neg (by omega), if_neg (by omega), if_neg (by omega), if_neg (by omega), if_neg (by omega), if_neg (by omega), if_pos (by omega)]
  omega
theorem πB_far (w τ j : Nat) (h : 6 + w + w ≤ j) : πB w τ j = j := by
  unfold πB
  rw [if_neg (by omega), if_neg (by omega), if_neg (by omega), if_neg (by omega), if_neg (by omega), if_neg (by omega), if_neg (by omega), if_neg (by omega)]
theorem πB_inj {w τ i j : Nat} (ht : 4 ≤ τ) (hi : i < 6 + w + w) (hj : j < 6 + w + w) (h : πB w τ i = πB w τ j) : i = j := by
  unfold πB at h
  repeat' split at h
  all_goals omega
/-- a world behind 'new board' -/
theorem board_re {T : List aE} {w h : Nat} {rl ps x y : Int32} {cs as df : Nat → Int32} (hT2 : T[2]? = some (.inl (false, 7, cs))) (hT3 : T[3]? = some (.inl (false, 7, as))) :
    ∀ j e, (SW w h rl ps x y (fun _ _ => 0) (fun _ _ => 0) cs as df)[j]? = some e → ∃ e1, (aE_obj [.int (nI w), .int (nI h), .ref (T.length + 1), .ref (T.length + w + 2), .ref 3, .ref 4, .int rl, .int ps, .int x, .int y, .ref (T.length + w + w + 3)] :: (((T ++ (.inr (.inr (true, w, fun j => T.length + 1 + 1 + j)) :: (List.range w).map (fun _ => .inl (true, h, fun _ => 0)))) ++ (.inr (.inr (false, w, fun j => T.length + w + 2 + 1 + j)) :: (List.range w).map (fun _ => .inl (false, h, fun _ => 0)))) ++ [.inl (false, 6, df)]))[πB w T.length j]? = some e1 ∧ ∀ (K : aG) (ad : Nat → Nat), aC K ad e1 = aC K ad (reE (πB w T.length) e) := by
  have t2 := (List.getElem?_eq_some_iff.mp hT2).1
  have t3 := (List.getElem?_eq_some_iff.mp hT3).1
  refine SW_re (g1 := fun j => T.length + 1 + 1 + j) (g2 := fun j => T.length + w + 2 + 1 + j) rfl ?_ (fun j hj => ?_) ?_ (fun j hj => ?_) ?_ ?_ ?_ (fun c hc => ?_) (fun c hc => ?_)
  · show (_ :: _)[T.length + 1]? = _
    rw [List.getElem?_cons_succ, List.append_assoc, List.append_assoc, List.getElem?_append_right (Nat.le_refl _), Nat.sub_self]
    rfl
  · rw [πB_lo _ _ _ hj]
  · show (_ :: _)[T.length + w + 1 + 1]? = _
    rw [List.getElem?_cons_succ, List.append_assoc, List.getElem?_append_right (by simp; omega), List.length_append, List.length_cons, List.length_map, List.length_range, show T.length + w + 1 - (T.length + (w + 1)) = 0 by omega]
    rfl
  · rw [πB_hi _ _ _ hj]
  · show (_ :: _)[2 + 1]? = _
    rw [List.getElem?_cons_succ, List.append_assoc, List.append_assoc, List.getElem?_append_left t2]
    exact hT2
  · show (_ :: _)[3 + 1]? = _
    rw [List.getElem?_cons_succ, List.append_assoc, List.append_assoc, List.getElem?_append_left t3]
    exact hT3
  · show (_ :: _)[T.length + w + w + 2 + 1]? = _
    rw [List.getElem?_cons_succ, List.getElem?_append_right (by simp; omega)]
    simp only [List.length_append, List.length_cons, List.length_map, List.length_range]
    rw [show T.length + w + w + 2 - (T.length + (w + 1) + (w + 1)) = 0 by omega]
    rfl
  · rw [πB_lo _ _ _ hc, show T.length + 2 + c = (T.length + 1 + c) + 1 by omega, List.getElem?_cons_succ, List.append_assoc, List.append_assoc, List.getElem?_append_right (by omega), show T.length + 1 + c - T.length = c + 1 by omega, List.cons_append, List.getElem?_cons_succ, List.getElem?_append_left (by simp; omega), List.getElem?_map, List.getElem?_range hc]
    rfl
  · rw [πB_hi _ _ _ hc, show T.length + w + 3 + c = (T.length + w + 2 + c) + 1 by omega, List.getElem?_cons_succ, List.append_assoc, List.getElem?_append_right (by simp; omega), List.length_append, List.length_cons, List.length_map, List.length_range, show T.length + w + 2 + c - (T.length + (w + 1)) = c + 1 by omega, List.cons_append, List.getElem?_cons_succ, List.getElem?_append_left (by simp; omega), List.getElem?_map, List.getElem?_range hc]
    rfl
def SWt (w h : Nat) (fw fp : Nat → Nat → Int32) (cs as df : Nat → Int32) : List aE := [.inr (.inr (true, w, fun j => 6 + j)), .inr (.inr (false, w, fun j => 6 + w + j)), .inl (false, 7, cs), .inl (false, 7, as), .inl (false, 6, df)] ++ (rZ w h fw ++ rI w h fp)
theorem SW_cons {w h : Nat} {rl ps x y : Int32} {fw fp : Nat → Nat → Int32} {cs as df : Nat → Int32} : SW w h rl ps x y fw fp cs as df = aE_obj [.int (nI w), .int (nI h), .ref 1, .ref 2, .ref 3, .ref 4, .int rl, .int ps, .int x, .int y, .ref 5] :: SWt w h fw fp cs as df := rfl
abbrev BZ (w h a : Nat) : List aE := .inr (.inr (true, w, fun j => a + 1 + j)) :: (List.range w).map (fun _ => .inl (true, h, fun _ => 0))
abbrev BI (w h a : Nat) : List aE := .inr (.inr (false, w, fun j => a + 1 + j)) :: (List.range w).map (fun _ => .inl (false, h, fun _ => 0))
theorem BZ_len {w h a : Nat} : (BZ w h a).length = w + 1 := by simp
theorem BI_len {w h a : Nat} : (BI w h a).length = w + 1 := by simp
theorem BZ_ok {w h a N : Nat} (hN : a + 1 + w ≤ N) : (BZ w h a).all (okE N) = true := by
  unfold BZ
  rw [List.all_cons, okE_out (fun j hj => by omega), Bool.true_and]
  exact List.all_eq_true.mpr fun e he => by
    obtain ⟨c, -, rfl⟩ := List.mem_map.mp he
    rfl
theorem BI_ok {w h a N : Nat} (hN : a + 1 + w ≤ N) : (BI w h a).all (okE N) = true := by
  unfold BI
  rw [List.all_cons, okE_out (fun j hj => by omega), Bool.true_and]
  exact List.all_eq_true.mpr fun e he => by
    obtain ⟨c, -, rfl⟩ := List.mem_map.mp he
    rfl
theorem obj_ok {N q1 q2 q3 q4 q5 : Nat} {a b c d e f : Int32} (h1 : q1 < N) (h2 : q2 < N) (h3 : q3 < N) (h4 : q4 < N) (h5 : q5 < N) : okE N (aE_obj [.int a, .int b, .ref q1, .ref q2, .ref q3, .ref q4, .int c, .int d, .int e, .int f, .ref q5]) = true := by
  show (true && (true && (Nat.blt q1 N && (Nat.blt q2 N && (Nat.blt q3 N && (Nat.blt q4 N && (true && (true && (true && (true && (Nat.blt q5 N && true))))))))))) = true
  rw [Nat.blt_eq.mpr h1, Nat.blt_eq.mpr h2, Nat.blt_eq.mpr h3, Nat.blt_eq.mpr h4, Nat.blt_eq.mpr h5]
  rfl
abbrev NX4_board : List aE → Nat := fun _ => 1
abbrev tX4_board : aTv := fun av X post => ∃ (w h w0 h0 : Nat) (rl ps x y : Int32) (fw fp : Nat → Nat → Int32) (cs as df : Nat → Int32), av = [.ref 0, .int (nI w), .int (nI h)] ∧ X = SW w0 h0 rl ps x y fw fp cs as df ∧ w ≤ 7 ∧ h ≤ 7 ∧ w0 ≤ 7 ∧ ∀ df2, DF 1 df2 → post (SW w h 0 0 0 0 (fun _ _ => 0) (fun _ _ => 0) cs as df2)
abbrev rmX4_board : Room := { frames := 1, cells := 17, slots := 118, locals := 22 }
theorem inX4_board_X4 : ∀ w ∈ wsX40, w ∈ wsX4_board := by decide +kernel
def tbX4_board (post : List aE → Prop) (ad0 : Nat → Nat) (N0 : Nat) : List (Nat × aO) := [(0, oAL 0 1),
  (1, oIL 1 2),
  (2, oPut 3 0 5),
  (5, oAL 0 6),
  (6, oIL 2 7),
  (7, oPut 3 1 10),
  (10, oAL 0 11),
  (11, oAL 0 12),
  (12, oGet 3 0 15),
  (15, oAL 0 16),
  (16, oGet 3 1 19),
  (19, oMna true 17 118 23),
  (23, oPutR 3 2 26),
  (26, oAL 0 27),
  (27, oAL 0 28),
  (28, oGet 3 0 31),
  (31, oAL 0 32),
  (32, oGet 3 1 35),
  (35, oMna false 17 118 39),
  (39, oPutR 3 3 42),
  (42, oAL 0 43),
  (43, oC (0) 44),
  (44, oPut 3 6 47),
  (47, oAL 0 48),
  (48, oC (0) 49),
  (49, oPut 3 7 52),
  (52, oAL 0 53),
  (53, oC (0) 54),
  (54, oC (0) 55),
  (55, oQv ad0 0 NX4_put tX4_put 3 (some 3) rmX4_put.cells rmX4_put.slots 17 118 58),
  (58, oNv post ad0 N0 17 118)]
set_option maxRecDepth 20000 in
theorem okX4_board {Γ : aΓ} {post : List aE → Prop} {ad0 : Nat → Nat} {X0 : List aE} {N0 : Nat} (C : FOK Γ cX4_board wsX4_board RX4 3 rmX4_board) (CX : FOX Γ) (CN : FON ad0 Γ) (hQ : isQ Γ (va_Qv (fun (u : (Nat → Nat) × List aE) => post u.2) (aBn (gK Γ) ad0 X0 (hsz Γ) N0) (aA (gK Γ) ad0 X0 (hsz Γ))) rmX4_board ad0 X0) (hr : rTy Γ = none) : AllS Γ (tbX4_board post ad0 N0) := by
  unfold tbX4_board
  refine al_c (pc := 0) (snd_aload_n C dX4_board_0 rfl) ?_
  refine al_c (pc := 1) (snd_iload_n C dX4_board_1 rfl) ?_
  refine al_c (pc := 2) (snd_put C dX4_board_2 (ci := 3) (kf := 0) rfl (by decide) inX4_board_X4 tyX4_ok nmX4 rfl rfl rfl (by decide +kernel)) ?_
  refine al_c (pc := 5) (snd_aload_n C dX4_board_5 rfl) ?_
  refine al_c (pc := 6) (snd_iload_n C dX4_board_6 rfl) ?_
  refine al_c (pc := 7) (snd_put C dX4_board_7 (ci := 3) (kf := 1) rfl (by decide) inX4_board_X4 tyX4_ok nmX4 rfl rfl rfl (by decide +kernel)) ?_
  refine al_c (pc := 10) (snd_aload_n C dX4_board_10 rfl) ?_
  refine al_c (pc := 11) (snd_aload_n C dX4_board_11 rfl) ?_
  refine al_c (pc := 12) (snd_get C dX4_board_12 (ci := 3) (kf := 0) rfl (by decide) inX4_board_X4 rfl (by decide +kernel)) ?_
  refine al_c (pc := 15) (snd_aload_n C dX4_board_15 rfl) ?_
  refine al_c (pc := 16) (snd_get C dX4_board_16 (ci := 3) (kf := 1) rfl (by decide) inX4_board_X4 rfl (by decide +kernel)) ?_
  refine al_c (pc := 19) (snd_Mna_true C CN dX4_board_19 (by decide +kernel) (by decide +kernel)) ?_
  refine al_c (pc := 23) (snd_putR C dX4_board_23 (ci := 3) (kf := 2) rfl (by decide) inX4_board_X4 tyX4_ok nmX4 rfl (fun _ => rfl) (fun _ => rfl) rfl (by decide +kernel)) ?_
  refine al_c (pc := 26) (snd_aload_n C dX4_board_26 rfl) ?_
  refine al_c (pc := 27) (snd_aload_n C dX4_board_27 rfl) ?_
  refine al_c (pc := 28) (snd_get C dX4_board_28 (ci := 3) (kf := 0) rfl (by decide) inX4_board_X4 rfl (by decide +kernel)) ?_
  refine al_c (pc := 31) (snd_aload_n C dX4_board_31 rfl) ?_
  refine al_c (pc := 32) (snd_get C dX4_board_32 (ci := 3) (kf := 1) rfl (by decide) inX4_board_X4 rfl (by decide +kernel)) ?_
  refine al_c (pc := 35) (snd_Mna_false C CN dX4_board_35 (by decide +kernel) (by decide +kernel)) ?_
  refine al_c (pc := 39) (snd_putR C dX4_board_39 (ci := 3) (kf := 3) rfl (by decide) inX4_board_X4 tyX4_ok nmX4 rfl (fun _ => rfl) (fun _ => rfl) rfl (by decide +kernel)) ?_
  refine al_c (pc := 42) (snd_aload_n C dX4_board_42 rfl) ?_
  refine al_c (pc := 43) (snd_iconst C dX4_board_43 (by decide)) ?_
  refine al_c (pc := 44) (snd_put C dX4_board_44 (ci := 3) (kf := 6) rfl (by decide) inX4_board_X4 tyX4_ok nmX4 rfl rfl rfl (by decide +kernel)) ?_
  refine al_c (pc := 47) (snd_aload_n C dX4_board_47 rfl) ?_
  refine al_c (pc := 48) (snd_iconst C dX4_board_48 (by decide)) ?_
  refine al_c (pc := 49) (snd_put C dX4_board_49 (ci := 3) (kf := 7) rfl (by decide) inX4_board_X4 tyX4_ok nmX4 rfl rfl rfl (by decide +kernel)) ?_
  refine al_c (pc := 52) (snd_aload_n C dX4_board_52 rfl) ?_
  refine al_c (pc := 53) (snd_iconst C dX4_board_53 (by decide)) ?_
  refine al_c (pc := 54) (snd_iconst C dX4_board_54 (by decide)) ?_
  refine al_c (pc := 55) (snd_Qv 0 C CX CN (site_V C rfl dX4_board_55 gX4_board_X4_put rfl rfl rfl ⟨rfl, by decide +kernel, by decide +kernel, by decide +kernel⟩ ⟨by decide, by decide⟩) mX4_put) ?_
  refine al_c (pc := 58) (snd_Nv C hQ hr dX4_board_58) ?_
  exact al_0
set_option maxHeartbeats 4000000 in
set_option maxRecDepth 100000 in
theorem mX4_board : nMv yX4_board wsX4_board rmX4_board NX4_board tX4_board := by
  refine nMv_of (by decide +kernel) rfl rfl (by intro av X post hT; obtain ⟨w, h, w0, h0, rl, ps, x, y, fw, fp, cs, as, df, rfl, rfl, hw, hh, hw0, hp⟩ := hT; exact Nat.le_of_ble_eq_true rfl) ?_
  intro Γ ad av X post C CX CN hQ hr hT
  obtain ⟨w, h, w0, h0, rl, ps, x, y, fw, fp, cs, as, df, rfl, rfl, hw, hh, hw0, hp⟩ := hT
  have OK := okX4_board C CX CN hQ hr
  have hlen : (SWt w0 h0 fw fp cs as df).length + 1 = 6 + w0 + w0 := SW_len (w := w0) (h := h0) (rl := rl) (ps := ps) (x := x) (y := y) (fw := fw) (fp := fp) (cs := cs) (as := as) (df := df)
  have hok : (SWt w0 h0 fw fp cs as df).all (okE (6 + w0 + w0)) = true := by
    have := SW_ok (N := 6 + w0 + w0) (w := w0) (h := h0) (rl := rl) (ps := ps) (x := x) (y := y) (fw := fw) (fp := fp) (cs := cs) (as := as) (df := df) (Nat.le_refl _)
    rw [SW_cons, List.all_cons, Bool.and_eq_true] at this
    exact this.2
  have hT2 : (SWt w0 h0 fw fp cs as df)[2]? = some (.inl (false, 7, cs)) := rfl
  have hT3 : (SWt w0 h0 fw fp cs as df)[3]? = some (.inl (false, 7, as)) := rfl
  rw [SW_cons]
  rw [SW_cons] at OK
  generalize SWt w0 h0 fw fp cs as df = T at hlen hok hT2 hT3 OK ⊢
  have hwh : w * h ≤ 49 := Nat.mul_le_mul hw hh
  have stC : ∀ (ad2 df2 : _) (L2 L3 K S : Nat), Ag 1 ad ad2 → DF 1 df2 → L2 = T.length + w + 2 → L3 = T.length + w + w + 3 → K ≤ 17 → S ≤ 118 → FG Γ 58 ad2 K S [(0, .ref 0), (1, .int (nI w)), (2, .int (nI h))] [] (aE_obj [.int (nI w), .int (nI h), .ref (T.length + 1), .ref L2, .ref 3, .ref 4, .int 0, .int 0, .int 0, .int 0, .ref L3] :: (((T ++ BZ w h (T.length + 1)) ++ BI w h L2) ++ [.inl (false, 6, df2)])) := by
    intro ad2 df2 L2 L3 K S hag hdf e2 e3 hK hS
    subst e2 e3
    refine FG_rp (πB w T.length) (board_re (rl := 0) (ps := 0) (x := 0) (y := 0) hT2 hT3) (fun i j hi hj e => πB_inj (by omega) (by rwa [SW_len] at hi) (by rwa [SW_len] at hj) e) (ls' := [(0, .ref 0), (1, .int (nI w)), (2, .int (nI h))]) (st' := []) rfl rfl ?_
    refine go OK [] 10 ?_
    refine ⟨hK, hS, fun i hi => ?_, hp _ hdf⟩
    rcases hi with hi | hi
    · have hi0 : i = 0 := Nat.lt_one_iff.mp hi
      subst hi0
      exact hag 0 (Or.inl (by decide))
    · show ad2 (πB w T.length i) = ad i
      rw [πB_far _ _ _ (by omega)]
      exact hag i (Or.inr hi)
  have stB : ∀ ad2, Ag (T.length + 1) ad ad2 → FG Γ 26 ad2 (0 + 1 + w) (0 + w + w * h) [(0, .ref 0), (1, .int (nI w)), (2, .int (nI h))] [] (aE_obj [.int (nI w), .int (nI h), .ref (T.length + 1), .ref 2, .ref 3, .ref 4, .int rl, .int ps, .int x, .int y, .ref 5] :: (T ++ BZ w h (T.length + 1))) := by
    intro ad2 hag
    have l1 : (T ++ BZ w h (T.length + 1)).length = T.length + w + 1 := by rw [List.length_append, BZ_len]; omega
    have ok1 : (T ++ BZ w h (T.length + 1)).all (okE (T.length + w + 2)) = true := by
      rw [List.all_append, okX_mono (by omega) hok, BZ_ok (by omega)]
      rfl
    have l2 : ((T ++ BZ w h (T.length + 1)) ++ BI w h ((T ++ BZ w h (T.length + 1)).length + 1)).length = T.length + w + w + 2 := by rw [List.length_append, BI_len, l1]; omega
    have ok2 : ((T ++ BZ w h (T.length + 1)) ++ BI w h ((T ++ BZ w h (T.length + 1)).length + 1)).all (okE (T.length + w + w + 3)) = true := by
      rw [List.all_append, okX_mono (by omega) ok1, BI_ok (by omega)]
      rfl
    refine go OK [58] 60 ?_
    refine ⟨w, h, rfl, rfl, by omega, by omega, okWl_mono (N := 1) (by rw [List.length_cons]; omega) rfl, okWs_mono (N := 1) (by rw [List.length_cons]; omega) rfl, ?_, by omega, by omega, ?_, fun ad3 hag3 => ?_⟩
    · show (aE_obj _ :: (T ++ BZ w h (T.length + 1))).all (okE ((T ++ BZ w h (T.length + 1)).length + 1)) = true
      rw [List.all_cons, l1, obj_ok (by omega) (by omega) (by omega) (by omega) (by omega), Bool.true_and]
      exact ok1
    · show (T ++ BZ w h (T.length + 1)).length + 1 + 1 + w < 1000
      omega
    · have hag3' : Ag 1 ad ad3 := ((Ag.rf (N := 1)).tr hag (by omega)).tr (M := (T ++ BZ w h (T.length + 1)).length + 1) hag3 (by omega)
      have okP : (aE_obj [.int (nI w), .int (nI h), .ref (T.length + 1), .ref ((T ++ BZ w h (T.length + 1)).length + 1), .ref 3, .ref 4, .int 0, .int 0, .int x, .int y, .ref 5] :: ((T ++ BZ w h (T.length + 1)) ++ BI w h ((T ++ BZ w h (T.length + 1)).length + 1))).all (okE (T.length + w + w + 3)) = true := by
        rw [List.all_cons, obj_ok (by omega) (by omega) (by omega) (by omega) (by omega), Bool.true_and]
        exact ok2
      have lP : (aE_obj [.int (nI w), .int (nI h), .ref (T.length + 1), .ref ((T ++ BZ w h (T.length + 1)).length + 1), .ref 3, .ref 4, .int 0, .int 0, .int x, .int y, .ref 5] :: ((T ++ BZ w h (T.length + 1)) ++ BI w h ((T ++ BZ w h (T.length + 1)).length + 1))).length = T.length + w + w + 3 := by rw [List.length_cons, l2]
      refine ⟨[], aE_obj [.int (nI w), .int (nI h), .ref (T.length + 1), .ref ((T ++ BZ w h (T.length + 1)).length + 1), .ref 3, .ref 4, .int 0, .int 0, .int x, .int y, .ref 5] :: ((T ++ BZ w h (T.length + 1)) ++ BI w h ((T ++ BZ w h (T.length + 1)).length + 1)), _, fun X2 => ∃ df2, DF 1 df2 ∧ X2 = aE_obj [.int (nI w), .int (nI h), .ref (T.length + 1), .ref ((T ++ BZ w h (T.length + 1)).length + 1), .ref 3, .ref 4, .int 0, .int 0, .int 0, .int 0, .ref (((T ++ BZ w h (T.length + 1)) ++ BI w h ((T ++ BZ w h (T.length + 1)).length + 1)).length + 1)] :: (((T ++ BZ w h (T.length + 1)) ++ BI w h ((T ++ BZ w h (T.length + 1)).length + 1)) ++ [.inl (false, 6, df2)]), rfl, by show 0 + 1 + w + 1 + w + 1 ≤ 17; omega, by show 0 + w + w * h + w + w * h + 6 ≤ 118; omega, rfl, (shEs_0 _).symm, (shVs_0 _).symm, qOK_of (N0 := 1) (fun i hi => hag3' i (Or.inr hi)) (by show 1 ≤ 0 + (_ :: _).length; rw [List.length_cons]; omega) rfl rfl rfl (okX_mono (by omega) okP) (by rw [lP]; omega) (Or.inl rfl), fun ci hc => by cases hc; exact ⟨0, _, _, rfl, rfl⟩, ?_, ?_⟩
      · exact ⟨0, 0, x, y, nI w, nI h, 0, 0, _, _, 3, 4, 5, _, rfl, rfl, by rw [lP]; exact okP, by rw [lP]; omega, fun df2 hdf => ⟨df2, hdf, rfl⟩⟩
      · rintro X2 ⟨df2, hdf, rfl⟩
        have lQ : (aE_obj [.int (nI w), .int (nI h), .ref (T.length + 1), .ref ((T ++ BZ w h (T.length + 1)).length + 1), .ref 3, .ref 4, .int 0, .int 0, .int 0, .int 0, .ref (((T ++ BZ w h (T.length + 1)) ++ BI w h ((T ++ BZ w h (T.length + 1)).length + 1)).length + 1)] :: (((T ++ BZ w h (T.length + 1)) ++ BI w h ((T ++ BZ w h (T.length + 1)).length + 1)) ++ [.inl (false, 6, df2)])).length = T.length + w + w + 4 := by
          rw [List.length_cons, List.length_append, l2]
          rfl
        refine ⟨by show (_ :: _).length ≤ _; rw [lP, lQ]; omega, by rw [lQ]; omega, ?_, fun adJ hJ => ?_⟩
        · rw [lQ, List.all_cons, obj_ok (by omega) (by omega) (by omega) (by omega) (by omega), Bool.true_and, List.all_append, okX_mono (by omega) ok2]
          rfl
        · rw [List.nil_append, shEs_0]
          have hJ1 : Ag 1 ad adJ := hag3'.tr hJ (by show 1 ≤ 0 + (_ :: _).length; rw [lP]; omega)
          exact stC adJ df2 _ _ _ _ hJ1 hdf (by omega) (by omega) (by show 0 + 1 + w + 1 + w + 1 ≤ 17; omega) (by show 0 + w + w * h + w + w * h + 6 ≤ 118; omega)
  refine go OK [26] 40 ?_
  refine ⟨w, h, rfl, rfl, by omega, by omega, okWl_mono (N := 1) (by rw [List.length_cons]; omega) rfl, okWs_mono (N := 1) (by rw [List.length_cons]; omega) rfl, ?_, by omega, by omega, ?_, fun ad2 hag2 => ?_⟩
  · show (aE_obj _ :: T).all (okE (T.length + 1)) = true
    rw [List.all_cons, obj_ok (by omega) (by omega) (by omega) (by omega) (by omega), Bool.true_and, hlen]
    exact hok
  · show T.length + 1 + 1 + w < 1000
    omega
  · exact stB ad2 hag2
