/-! ===== calls from the law's own bodies ===== -/
/-- the callee's picture of the places: shifted, but those of what is no cell -/
def adQ (ad : Nat → Nat) (off : Nat) : Nat → Nat := fun j => if 1000 ≤ j then ad j else ad (j + off)
theorem adQ_lo {ad : Nat → Nat} {off j : Nat} (h : j < 1000) : adQ ad off j = ad (j + off) := if_neg (by omega)
theorem adQ_hi {ad : Nat → Nat} {off j : Nat} (h : 1000 ≤ j) : adQ ad off j = ad j := if_pos h
theorem adQ_X (K : aG) (ad : Nat → Nat) (off : Nat) {X : List aE} (h : X.all (okE 1000) = true) (hl : X.length ≤ 1000) : aX K (adQ ad off) 0 X = aX K (adS ad off) 0 X :=
  aX_lt (N := 1000) (fun _ hi => adQ_lo hi) X 0 h (by omega)
theorem adQ_av (ad : Nat → Nat) (off : Nat) {av : List Value} (h : off = 0 ∨ av.all (okV 1000) = true) : (av.map (shV off)).map (aV ad) = av.map (aV (adQ ad off)) := by
  rcases h with rfl | h
  · rw [shVs_0]
    refine List.map_congr_left fun v _ => ?_
    cases v with
    | ref a =>
      by_cases z : 1000 ≤ a
      · exact congrArg Value.ref (adQ_hi (ad := ad) (off := 0) z).symm
      · exact congrArg Value.ref (adQ_lo (ad := ad) (off := 0) (j := a) (Nat.lt_of_not_le z)).symm
    | _ => rfl
  · rw [aVs_sh]
    refine List.map_congr_left fun v hv => ?_
    exact (aV_lt (N := 1000) (fun _ hi => adQ_lo hi) (List.all_eq_true.mp h v hv)).symm
/-- behind the call: what the callee left, the first places as they were -/
theorem gr_join {K : aG} {ad ad' : Nat → Nat} {off N : Nat} {X1 X' X2 : List aE} {H H1 : Heap} {A : Nat → Prop} (hof : X1.length = off) (hP : va_P K.1 vwCl (aX K ad 0 (X1 ++ X'.map (shE off))) H) (hD : va_D A (aX K ad 0 (X1 ++ X'.map (shE off)))) (hN2 : N ≤ X2.length) (p2 : X2.length + off ≤ 999)
    (hag : Ag N (adQ ad off) ad') (cx : X1.all (okE (off + N)) = true) (p3 : X2.all (okE X2.length) = true) (hk : ∀ q : Nat, q < H.size → ¬ aA K (adS ad off) X' H.size q → H1[q]? = H[q]?) (hP1 : va_P K.1 vwCl (aX K ad' 0 X2) H1) (hD1 : va_D (aA K (adS ad off) X' H.size) (aX K ad' 0 X2)) (hF : ∀ q, aA K (adS ad off) X' H.size q → A q) :
    ∃ adJ, Ag (off + N) ad adJ ∧ (∀ j, j < X2.length → adJ (j + off) = ad' j) ∧ va_P K.1 vwCl (aX K adJ 0 (X1 ++ X2.map (shE off))) H1 ∧ va_D A (aX K adJ 0 (X1 ++ X2.map (shE off))) := by
  have p3' := List.all_eq_true.mp p3
  obtain ⟨adJ, hJ⟩ : ∃ f : Nat → Nat, f = fun j => if j < off then ad j else if j < off + X2.length then ad' (j - off) else ad j := ⟨_, rfl⟩
  have j1 : ∀ j, j < off → adJ j = ad j := fun j hj => by rw [hJ]; exact if_pos hj
  have j2 : ∀ j, j < X2.length → adJ (j + off) = ad' j := fun j hj => by
    rw [hJ]
    show (if j + off < off then _ else if j + off < off + X2.length then ad' (j + off - off) else _) = _
    rw [if_neg (by omega), if_pos (by omega), show j + off - off = j by omega]
  have j3 : Ag (off + N) ad adJ := fun i hi => by
    by_cases z1 : i < off
    · exact j1 i z1
    · by_cases z2 : i < off + X2.length
      · have hi2 : i < off + N := by omega
        have g1 := j2 (i - off) (by omega)
        rw [show i - off + off = i by omega] at g1
        rw [g1, hag (i - off) (Or.inl (by omega)), adQ_lo (by omega), show i - off + off = i by omega]
      · rw [hJ]
        show (if i < off then _ else if i < off + X2.length then _ else ad i) = _
        rw [if_neg z1, if_neg z2]
  refine ⟨adJ, j3, j2, ?_⟩
  have e1 : aX K adJ 0 X1 = aX K ad 0 X1 := aX_lt (N := off + N) (fun i hi => j3 i (Or.inl hi)) X1 0 cx (by omega)
  have e2 : aX K adJ X1.length (X2.map (shE off)) = aX K ad' 0 X2 := by
    have h7 := aX_shf (K := K) (off := off) (adJ := adJ) (ad2 := ad') X2 0 (fun e0 he => aC_lt (N := X2.length) (fun i hi => j2 i hi) (p3' e0 he)) (fun j _ hj => j2 j (by omega))
    rw [Nat.zero_add] at h7
    rw [hof]
    exact h7
  have e3 : aX K adJ 0 (X1 ++ X2.map (shE off)) = aX K ad 0 X1 ++ aX K ad' 0 X2 := by rw [aX_app, Nat.zero_add, e1, e2]
  have up : ∀ (i : Nat) (x : Nat × va_E), (aX K ad 0 X1)[i]? = some x → i < off ∧ (aX K ad 0 (X1 ++ X'.map (shE off)))[i]? = some x := fun i x hx => by
    obtain ⟨e0, g1, g2⟩ := aX_inv K ad X1 0 i x hx
    have hi := (List.getElem?_eq_some_iff.mp g1).1
    refine ⟨by omega, ?_⟩
    rw [g2, Nat.zero_add]
    exact aX_at K ad (by rw [List.getElem?_append_left hi]; exact g1)
  have apart : ∀ (i : Nat) (x : Nat × va_E), (aX K ad 0 X1)[i]? = some x → x.1 < H.size ∧ ¬ aA K (adS ad off) X' H.size x.1 := fun i x hx => by
    obtain ⟨hi, hx2⟩ := up i x hx
    have hlt := (hP i x hx2).lt
    refine ⟨hlt, fun z => ?_⟩
    rcases z with ⟨j, w, hj⟩ | z
    · obtain ⟨e', g1, g2⟩ := aX_inv K (adS ad off) X' 0 j _ hj
      have g3 := aX_at K ad (fr_mid (Z := []) hof g1)
      rw [List.append_nil] at g3
      have g4 := hD.1 i (j + off) _ _ hx2 g3 (by
        have g5 := congrArg Prod.fst g2
        rw [Nat.zero_add] at g5
        exact g5)
      omega
    · omega
  have hPA : va_P K.1 vwCl (aX K ad 0 X1) H := fun i x hx => hP i x (up i x hx).2
  have hDA : va_D A (aX K ad 0 X1) := ⟨fun i j x y hx hy hxy => hD.1 i j x y (up i x hx).2 (up j y hy).2 hxy, fun i x hx => hD.2 i x (up i x hx).2⟩
  refine ⟨?_, ?_⟩
  · rw [e3]
    exact (hPA.kept (fun i x hx => hk x.1 (apart i x hx).1 (apart i x hx).2)).app hP1
  · rw [e3]
    exact va_D.app hDA (hD1.weaken (fun _ _ _ h9 => hF _ h9)) (fun i j x y hx hy hxy => (apart i x hx).2 (by rw [hxy]; exact hD1.2 j y hy))
/-- what an own method's call asks of lists and places -/
def qOK (ad0 ad : Nat → Nat) (off N : Nat) (ls : List (Nat × Value)) (t : List Value) (X1 X' : List aE) (av' : List Value) : Prop :=
  (∀ i, 1000 ≤ i → ad i = ad0 i) ∧ ls.all (fun z => okW (off + N) z.2) = true ∧ t.all (okW (off + N)) = true ∧ X1.all (okE (off + N)) = true ∧ X'.all (okE 1000) = true ∧ X'.length ≤ 1000 ∧ (off = 0 ∨ av'.all (okV 1000) = true)
def rcvP (ro : Option Nat) (X' : List aE) (av' : List Value) : Prop := ∀ ci, ro = some ci → ∃ q As fs, av' = .ref q :: As ∧ X'[q]? = some (.inr (.inl (ci, fs)))
section NCALLS
variable {Γ : aΓ} {cc : ByteArray} {Ts : List Cond} {own : String} {nL : Nat} {rm : Room} {pc : Nat} {ad0 : Nat → Nat} {y : MethodName} {ws : List Cond} {rm' : Room} {n : Nat} {ro : Option Nat}
def oQi (ad0 : Nat → Nat) (off : Nat) (N : List aE → Nat) (T : aTi) (n : Nat) (ro : Option Nat) (mc ms RC RS nx : Nat) : aO := fun K ad k sl ls st X => tk n [] (fun av t => ∃ (X1 X' : List aE) (av' : List Value) (P : Int32 → List aE → Prop), le4 t = true ∧ k + mc ≤ RC ∧ sl + ms ≤ RS ∧ X1.length = off ∧ X = X1 ++ X'.map (shE off) ∧ av = av'.map (shV off) ∧ qOK ad0 ad off (N X') ls t X1 X' av' ∧ rcvP ro X' av' ∧ T av' X' P ∧
  ∀ r X2, P r X2 → N X' ≤ X2.length ∧ X2.length + off ≤ 999 ∧ X2.all (okE X2.length) = true ∧ ∀ adJ, Ag (off + N X') ad adJ → K nx adJ (k + mc) (sl + ms) ls (.int r :: t) (X1 ++ X2.map (shE off))) st
theorem snd_Qi (off : Nat) {N : List aE → Nat} {T : aTi} (C : FOK Γ cc Ts own nL rm) (CX : FOX Γ) (CN : FON ad0 Γ) (hs : aSite Γ pc n ro rm'.cells rm'.slots y ws rm') (hM : nMi y ws rm' N T) : Snd Γ pc (oQi ad0 off N T n ro rm'.cells rm'.slots rm.cells rm.slots (pc + 3)) := by
  obtain ⟨p, l, e, R, s, m, args, below, meth, c, Q, G, A, nL'⟩ := Γ
  obtain ⟨hx, hb, hml, hown, hts, hK, hA, rfl, rfl, hB⟩ := C
  intro K hK' ad k sl ls st X ho
  dsimp only [oQi] at ho
  obtain ⟨av, t, e1, hn, h0⟩ := tk_spec ho
  rw [List.append_nil] at h0
  obtain ⟨X1, X', av', P, h4, hc, hsl, hof, e2, e3, hq, hro, h, hp⟩ := h0
  obtain ⟨had, cl, ct9, cx, cx2, cxl, cav⟩ := hq
  clear ho
  subst e1 e2 e3
  intro H locs la hP hD hS hl
  have hP0 : va_P G.1 vwCl (aX G ad 0 (X1 ++ X'.map (shE off) ++ [])) H := by rw [List.append_nil]; exact hP
  have hD0 : va_D A (aX G ad 0 (X1 ++ X'.map (shE off) ++ [])) := by rw [List.append_nil]; exact hD
  have hF := fr_free hof hD0 hS hA
  have eX := adQ_X G ad off cx2 cxl
  have eA : aA G (adQ ad off) X' H.size = aA G (adS ad off) X' H.size := by unfold aA; rw [eX]
  have hPQ : aP G (adQ ad off) X' H := by
    show va_P G.1 vwCl (aX G (adQ ad off) 0 X') H
    rw [eX]
    exact fr_P hof hP0
  have hDQ : va_D A (aX G (adQ ad off) 0 X') := by
    rw [eX]
    exact fr_D hof hD0
  have hFQ : ∀ q, aA G (adQ ad off) X' H.size q → A q := by
    rw [eA]
    exact hF
  have hpc : ∀ U : State, U.heap = H → s.WarmedH U.vm → aPcN G (adQ ad off) av' X' H.size ((av'.map (shV off)).map (aV ad)).toArray U := fun U hU hW => by
    rw [adQ_av ad off cav]
    exact ⟨⟨aPc_at hPQ hK hDQ hB hU hW, aZ_at CX.2.1 hS hFQ hU hW⟩, CN.1.warm hW, ((CN.2.1.at hS hFQ hU hW).cg fun i hi => (adQ_hi hi).trans (had i hi))⟩
  have hrun := hs _ _ _ H locs k sl la ((av'.map (shV off)).map (aV ad)) (t.map (aV ad)) (hM l CX.1 G (adQ ad off) H.size av' X' _ h) (aPcN_blind _ _ _ _ _) hpc (by rw [List.length_map]; exact hn) hl.1 (le4_spec ad h4) ⟨hc, hsl⟩ (fun ci hci => by
    obtain ⟨q, As, fs, eq, hq⟩ := hro ci hci
    rw [eq]
    have hq2 := aX_get G ad _ 0 _ _ (fr_mid (Z := []) hof hq)
    rw [Nat.zero_add] at hq2
    obtain ⟨qc, g0, -⟩ := hP0 _ _ hq2
    obtain ⟨cellB, g1, g2, g3⟩ := va_recv hK hP0 g0 hq2
    exact ⟨ad (q + off), (As.map (shV off)).map (aV ad), cellB, qc, rfl, g0, g1, g2, g3⟩)
  have hst : List.map (aV ad) ((av'.map (shV off)).reverse ++ t) = ((av'.map (shV off)).map (aV ad)).reverse ++ t.map (aV ad) := by rw [List.map_append, List.map_reverse]
  rw [hst]
  refine va_calli hrun hS (fun q _ h9 => hFQ q h9) hFQ (fun r u t1 H1 locs1 ht hvm hpost hBk hz hk hS1 => ?_)
  obtain ⟨ad', X2⟩ := u
  obtain ⟨hag, hP1, hD1⟩ := hBk
  rw [ht] at hP1
  rw [eA] at hk hD1
  obtain ⟨p1, p2, p3, hpost⟩ := hp _ _ hpost
  obtain ⟨adJ, j3, j2, hPJ, hDJ⟩ := gr_join hof hP hD p1 p2 hag cx p3 hk hP1 hD1 hF
  have key := hK' _ _ _ _ _ _ _ (hpost adJ j3) H1 locs1 la hPJ hDJ hS1 (by rw [aL_ag j3 cl]; exact hl)
  rw [List.map_cons, aVs_ag j3 ct9] at key
  exact key
def oQv (ad0 : Nat → Nat) (off : Nat) (N : List aE → Nat) (T : aTv) (n : Nat) (ro : Option Nat) (mc ms RC RS nx : Nat) : aO := fun K ad k sl ls st X => tk n [] (fun av t => ∃ (X1 X' : List aE) (av' : List Value) (P : List aE → Prop), le4 t = true ∧ k + mc ≤ RC ∧ sl + ms ≤ RS ∧ X1.length = off ∧ X = X1 ++ X'.map (shE off) ∧ av = av'.map (shV off) ∧ qOK ad0 ad off (N X') ls t X1 X' av' ∧ rcvP ro X' av' ∧ T av' X' P ∧
  ∀ X2, P X2 → N X' ≤ X2.length ∧ X2.length + off ≤ 999 ∧ X2.all (okE X2.length) = true ∧ ∀ adJ, Ag (off + N X') ad adJ → K nx adJ (k + mc) (sl + ms) ls (t) (X1 ++ X2.map (shE off))) st
theorem snd_Qv (off : Nat) {N : List aE → Nat} {T : aTv} (C : FOK Γ cc Ts own nL rm) (CX : FOX Γ) (CN : FON ad0 Γ) (hs : aSite Γ pc n ro rm'.cells rm'.slots y ws rm') (hM : nMv y ws rm' N T) : Snd Γ pc (oQv ad0 off N T n ro rm'.cells rm'.slots rm.cells rm.slots (pc + 3)) := by
  obtain ⟨p, l, e, R, s, m, args, below, meth, c, Q, G, A, nL'⟩ := Γ
  obtain ⟨hx, hb, hml, hown, hts, hK, hA, rfl, rfl, hB⟩ := C
  intro K hK' ad k sl ls st X ho
  dsimp only [oQv] at ho
  obtain ⟨av, t, e1, hn, h0⟩ := tk_spec ho
  rw [List.append_nil] at h0
  obtain ⟨X1, X', av', P, h4, hc, hsl, hof, e2, e3, hq, hro, h, hp⟩ := h0
  obtain ⟨had, cl, ct9, cx, cx2, cxl, cav⟩ := hq
  clear ho
  subst e1 e2 e3
  intro H locs la hP hD hS hl
  have hP0 : va_P G.1 vwCl (aX G ad 0 (X1 ++ X'.map (shE off) ++ [])) H := by rw [List.append_nil]; exact hP
  have hD0 : va_D A (aX G ad 0 (X1 ++ X'.map (shE off) ++ [])) := by rw [List.append_nil]; exact hD
  have hF := fr_free hof hD0 hS hA
  have eX := adQ_X G ad off cx2 cxl
  have eA : aA G (adQ ad off) X' H.size = aA G (adS ad off) X' H.size := by unfold aA; rw [eX]
  have hPQ : aP G (adQ ad off) X' H := by
    show va_P G.1 vwCl (aX G (adQ ad off) 0 X') H
    rw [eX]
    exact fr_P hof hP0
  have hDQ : va_D A (aX G (adQ ad off) 0 X') := by
    rw [eX]
    exact fr_D hof hD0
  have hFQ : ∀ q, aA G (adQ ad off) X' H.size q → A q := by
    rw [eA]
    exact hF
  have hpc : ∀ U : State, U.heap = H → s.WarmedH U.vm → aPcN G (adQ ad off) av' X' H.size ((av'.map (shV off)).map (aV ad)).toArray U := fun U hU hW => by
    rw [adQ_av ad off cav]
    exact ⟨⟨aPc_at hPQ hK hDQ hB hU hW, aZ_at CX.2.1 hS hFQ hU hW⟩, CN.1.warm hW, ((CN.2.1.at hS hFQ hU hW).cg fun i hi => (adQ_hi hi).trans (had i hi))⟩
  have hrun := hs _ _ _ H locs k sl la ((av'.map (shV off)).map (aV ad)) (t.map (aV ad)) (hM l CX.1 G (adQ ad off) H.size av' X' _ h) (aPcN_blind _ _ _ _ _) hpc (by rw [List.length_map]; exact hn) hl.1 (le4_spec ad h4) ⟨hc, hsl⟩ (fun ci hci => by
    obtain ⟨q, As, fs, eq, hq⟩ := hro ci hci
    rw [eq]
    have hq2 := aX_get G ad _ 0 _ _ (fr_mid (Z := []) hof hq)
    rw [Nat.zero_add] at hq2
    obtain ⟨qc, g0, -⟩ := hP0 _ _ hq2
    obtain ⟨cellB, g1, g2, g3⟩ := va_recv hK hP0 g0 hq2
    exact ⟨ad (q + off), (As.map (shV off)).map (aV ad), cellB, qc, rfl, g0, g1, g2, g3⟩)
  have hst : List.map (aV ad) ((av'.map (shV off)).reverse ++ t) = ((av'.map (shV off)).map (aV ad)).reverse ++ t.map (aV ad) := by rw [List.map_append, List.map_reverse]
  rw [hst]
  refine va_callv hrun hS (fun q _ h9 => hFQ q h9) hFQ (fun u t1 H1 locs1 ht hvm hpost hBk hz hk hS1 => ?_)
  obtain ⟨ad', X2⟩ := u
  obtain ⟨hag, hP1, hD1⟩ := hBk
  rw [ht] at hP1
  rw [eA] at hk hD1
  obtain ⟨p1, p2, p3, hpost⟩ := hp _ hpost
  obtain ⟨adJ, j3, j2, hPJ, hDJ⟩ := gr_join hof hP hD p1 p2 hag cx p3 hk hP1 hD1 hF
  have key := hK' _ _ _ _ _ _ _ (hpost adJ j3) H1 locs1 la hPJ hDJ hS1 (by rw [aL_ag j3 cl]; exact hl)
  rw [aVs_ag j3 ct9] at key
  exact key
def oQr (ad0 : Nat → Nat) (off : Nat) (N : List aE → Nat) (T : aTr) (n : Nat) (ro : Option Nat) (mc ms RC RS nx : Nat) : aO := fun K ad k sl ls st X => tk n [] (fun av t => ∃ (X1 X' : List aE) (av' : List Value) (P : Nat → List aE → Prop), le4 t = true ∧ k + mc ≤ RC ∧ sl + ms ≤ RS ∧ X1.length = off ∧ X = X1 ++ X'.map (shE off) ∧ av = av'.map (shV off) ∧ qOK ad0 ad off (N X') ls t X1 X' av' ∧ rcvP ro X' av' ∧ T av' X' P ∧
  ∀ r X2, P r X2 → N X' ≤ X2.length ∧ X2.length + off ≤ 999 ∧ X2.all (okE X2.length) = true ∧ r < X2.length ∧ ∀ adJ, Ag (off + N X') ad adJ → K nx adJ (k + mc) (sl + ms) ls (.ref (r + off) :: t) (X1 ++ X2.map (shE off))) st
theorem snd_Qr (off : Nat) {N : List aE → Nat} {T : aTr} (C : FOK Γ cc Ts own nL rm) (CX : FOX Γ) (CN : FON ad0 Γ) (hs : aSite Γ pc n ro rm'.cells rm'.slots y ws rm') (hM : nMr y ws rm' N T) : Snd Γ pc (oQr ad0 off N T n ro rm'.cells rm'.slots rm.cells rm.slots (pc + 3)) := by
  obtain ⟨p, l, e, R, s, m, args, below, meth, c, Q, G, A, nL'⟩ := Γ
  obtain ⟨hx, hb, hml, hown, hts, hK, hA, rfl, rfl, hB⟩ := C
  intro K hK' ad k sl ls st X ho
  dsimp only [oQr] at ho
  obtain ⟨av, t, e1, hn, h0⟩ := tk_spec ho
  rw [List.append_nil] at h0
  obtain ⟨X1, X', av', P, h4, hc, hsl, hof, e2, e3, hq, hro, h, hp⟩ := h0
  obtain ⟨had, cl, ct9, cx, cx2, cxl, cav⟩ := hq
  clear ho
  subst e1 e2 e3
  intro H locs la hP hD hS hl
  have hP0 : va_P G.1 vwCl (aX G ad 0 (X1 ++ X'.map (shE off) ++ [])) H := by rw [List.append_nil]; exact hP
  have hD0 : va_D A (aX G ad 0 (X1 ++ X'.map (shE off) ++ [])) := by rw [List.append_nil]; exact hD
  have hF := fr_free hof hD0 hS hA
  have eX := adQ_X G ad off cx2 cxl
  have eA : aA G (adQ ad off) X' H.size = aA G (adS ad off) X' H.size := by unfold aA; rw [eX]
  have hPQ : aP G (adQ ad off) X' H := by
    show va_P G.1 vwCl (aX G (adQ ad off) 0 X') H
    rw [eX]
    exact fr_P hof hP0
  have hDQ : va_D A (aX G (adQ ad off) 0 X') := by
    rw [eX]
    exact fr_D hof hD0
  have hFQ : ∀ q, aA G (adQ ad off) X' H.size q → A q := by
    rw [eA]
    exact hF
  have hpc : ∀ U : State, U.heap = H → s.WarmedH U.vm → aPcN G (adQ ad off) av' X' H.size ((av'.map (shV off)).map (aV ad)).toArray U := fun U hU hW => by
    rw [adQ_av ad off cav]
    exact ⟨⟨aPc_at hPQ hK hDQ hB hU hW, aZ_at CX.2.1 hS hFQ hU hW⟩, CN.1.warm hW, ((CN.2.1.at hS hFQ hU hW).cg fun i hi => (adQ_hi hi).trans (had i hi))⟩
  have hrun := hs _ _ _ H locs k sl la ((av'.map (shV off)).map (aV ad)) (t.map (aV ad)) (hM l CX.1 G (adQ ad off) H.size av' X' _ h) (aPcN_blind _ _ _ _ _) hpc (by rw [List.length_map]; exact hn) hl.1 (le4_spec ad h4) ⟨hc, hsl⟩ (fun ci hci => by
    obtain ⟨q, As, fs, eq, hq⟩ := hro ci hci
    rw [eq]
    have hq2 := aX_get G ad _ 0 _ _ (fr_mid (Z := []) hof hq)
    rw [Nat.zero_add] at hq2
    obtain ⟨qc, g0, -⟩ := hP0 _ _ hq2
    obtain ⟨cellB, g1, g2, g3⟩ := va_recv hK hP0 g0 hq2
    exact ⟨ad (q + off), (As.map (shV off)).map (aV ad), cellB, qc, rfl, g0, g1, g2, g3⟩)
  have hst : List.map (aV ad) ((av'.map (shV off)).reverse ++ t) = ((av'.map (shV off)).map (aV ad)).reverse ++ t.map (aV ad) := by rw [List.map_append, List.map_reverse]
  rw [hst]
  refine va_callr hrun hS (fun q _ h9 => hFQ q h9) hFQ (fun u ra t1 H1 locs1 ht hvm hpost hBk hz hk hS1 => ?_)
  obtain ⟨r, ad', X2⟩ := u
  obtain ⟨era, hag, hP1, hD1⟩ := hBk
  rw [ht] at hP1
  rw [eA] at hk hD1
  obtain ⟨p1, p2, p3, p4, hpost⟩ := hp _ _ hpost
  obtain ⟨adJ, j3, j2, hPJ, hDJ⟩ := gr_join hof hP hD p1 p2 hag cx p3 hk hP1 hD1 hF
  have key := hK' _ _ _ _ _ _ _ (hpost adJ j3) H1 locs1 la hPJ hDJ hS1 (by rw [aL_ag j3 cl]; exact hl)
  have e9 : (Value.ref (r + off) :: t).map (aV adJ) = .ref ra :: t.map (aV ad) := by
    rw [List.map_cons, aVs_ag j3 ct9, era]
    show Value.ref (adJ (r + off)) :: _ = _
    rw [j2 r p4]
  rw [e9] at key
  exact key
/-- Sim's constructor, a nest mate's -/
theorem site_IS (C : FOK Γ cc Ts "PaintedDieLaw" nL rm) (CN : FON ad0 Γ) {ws' : List Cond} {bytes : ByteArray} {maxL mc ms : Nat} (d : decode cc pc = .ok (.invokespecial 88, 3)) (hg : GoodIn Ts ws) (hw : ws = Cond.code yX4_init bytes maxL none :: ws') (hrc : rm'.cells = mc) (hrs : rm'.slots = ms) (hi : Cond.initialized yX4_init.cls ∈ Ts) (him : Cond.instanceMethod yX4_init ∈ Ts)
    (hd : yX4_init.cls ≠ "java/lang/invoke/MethodHandle" ∧ yX4_init.cls ≠ "java/lang/invoke/VarHandle" ∧ (parseMethodDescriptor yX4_init.desc).map (fun d => d.parameters.length) = some n) (hR : rm'.frames + 1 ≤ rm.frames ∧ 8 + (maxL + 11) + rm'.locals ≤ rm.locals) : aSite Γ pc (n + 1) (some 3) mc ms yX4_init ws rm' := by
  obtain ⟨p, l, e, R, s, m, args, below, meth, c, Q, G, A, nL'⟩ := Γ
  obtain ⟨hx, hb, hml, hown, hts, hK, hA, rfl, rfl, hB⟩ := C
  intro Pc Qc free H locs k sl la av rest hM hbl hpc hn hsz hcat hf hro
  obtain ⟨b, As, cellB, q, rfl, hq, h1, h2, h3⟩ := hro 3 rfl
  have hr := va_runIN (b := b) (As := As) (rest := rest) (g := F0 m pc la ((Value.ref b :: As).reverse ++ rest)) (e := e) (meth := meth) (below := below) (locs := locs) (host := "PaintedDieLaw") ⟨hx, hb, hml, hown, hts⟩ hM ⟨va_cnB n hts hg hw hrc hrs CN.1.2.2.2.2.2 (hts _ hi) hd hR, rfl, hts _ him⟩ ⟨hbl, hpc⟩ rfl (by simpa using hn) hsz (by simp) (lv_room hcat) d hf
  exact hr
/-! the class's methods, on the first part of the world -/
def oHi (T : aTi) (n ci : Nat) (mc ms RC RS nx : Nat) : aO := fun K ad k sl ls st X => tk n [] (fun av t => ∃ (X' Z : List aE) (P : Int32 → List aE → Prop) (q : Nat) (As fs : List Value), le4 t = true ∧ k + mc ≤ RC ∧ sl + ms ≤ RS ∧ av = .ref q :: As ∧ X[q]? = some (.inr (.inl (ci, fs))) ∧ X = X' ++ Z ∧ T av X' P ∧
  ∀ r X2, P r X2 → X2.length = X'.length ∧ K nx ad (k + mc) (sl + ms) ls (.int r :: t) (X2 ++ Z)) st
theorem snd_Hi {ci : Nat} {T : aTi} (C : FOK Γ cc Ts own nL rm) (hs : aSite Γ pc n (some ci) rm'.cells rm'.slots y ws rm') (hM : aMi y ws rm' T) : Snd Γ pc (oHi T n ci rm'.cells rm'.slots rm.cells rm.slots (pc + 3)) := by
  obtain ⟨p, l, e, R, s, m, args, below, meth, c, Q, G, A, nL'⟩ := Γ
  obtain ⟨hx, hb, hml, hown, hts, hK, hA, rfl, rfl, hB⟩ := C
  intro K hK' ad k sl ls st X ho
  dsimp only [oHi] at ho
  obtain ⟨av, t, e1, hn, h0⟩ := tk_spec ho
  rw [List.append_nil] at h0
  obtain ⟨X', Z, P, q0, As0, fs0, h4, hc, hsl, hav, hq0, hX, h, hp⟩ := h0
  clear ho
  subst e1
  intro H locs la hP hD hS hl
  have hP0 : va_P G.1 vwCl (aX G ad 0 ([] ++ X'.map (shE 0) ++ Z)) H := by rw [shEs_0, List.nil_append, ← hX]; exact hP
  have hD0 : va_D A (aX G ad 0 ([] ++ X'.map (shE 0) ++ Z)) := by rw [shEs_0, List.nil_append, ← hX]; exact hD
  have had : adS ad 0 = ad := rfl
  have hF := fr_free (off := 0) rfl hD0 hS hA
  have hP9 := fr_P (off := 0) rfl hP0
  have hD9 := fr_D (off := 0) rfl hD0
  rw [had] at hF hP9 hD9
  have hrun := hs _ _ _ H locs k sl la (av.map (aV ad)) (t.map (aV ad)) (hM l G ad H.size av X' _ h) (aPc_blind _ _ _ _ _) (fun U hU hW => aPc_at hP9 hK hD9 hB hU hW) (by rw [List.length_map]; exact hn) hl.1 (le4_spec ad h4) ⟨hc, hsl⟩ (fun ci' hci => by
    cases hci
    rw [hav]
    have hq2 := aX_get G ad X 0 q0 _ hq0
    rw [Nat.zero_add] at hq2
    obtain ⟨qc, g1, -⟩ := hP q0 _ hq2
    obtain ⟨cellB, g2, g3, g4⟩ := va_recv hK hP g1 hq2
    exact ⟨ad q0, As0.map (aV ad), cellB, qc, rfl, g1, g2, g3, g4⟩)
  have hst : List.map (aV ad) (av.reverse ++ t) = (av.map (aV ad)).reverse ++ t.map (aV ad) := by rw [List.map_append, List.map_reverse]
  rw [hst]
  refine va_calli hrun hS (fun q _ h9 => hF q h9) hF (fun r u t1 H1 locs1 ht hvm hpost hBk hz hk hS1 => ?_)
  obtain ⟨hP1, -⟩ := hBk
  rw [ht] at hP1
  obtain ⟨hl2, hpost⟩ := hp _ _ hpost
  have g1 := fr_join (off := 0) (X1 := []) (Z := Z) rfl hl2 hP0 hD0 hk hP1
  have g2 := aX_D hD0 (fr_len (off := 0) (X1 := []) (Z := Z) rfl hl2)
  rw [shEs_0, List.nil_append] at g1 g2
  exact hK' _ _ _ _ _ _ _ hpost H1 locs1 la g1 g2 hS1 hl
def oHl (T : aTl) (n ci : Nat) (mc ms RC RS nx : Nat) : aO := fun K ad k sl ls st X => tk n [] (fun av t => ∃ (X' Z : List aE) (P : Int64 → List aE → Prop) (q : Nat) (As fs : List Value), le4 t = true ∧ k + mc ≤ RC ∧ sl + ms ≤ RS ∧ av = .ref q :: As ∧ X[q]? = some (.inr (.inl (ci, fs))) ∧ X = X' ++ Z ∧ T av X' P ∧
  ∀ r X2, P r X2 → X2.length = X'.length ∧ K nx ad (k + mc) (sl + ms) ls (.long r :: t) (X2 ++ Z)) st
theorem snd_Hl {ci : Nat} {T : aTl} (C : FOK Γ cc Ts own nL rm) (hs : aSite Γ pc n (some ci) rm'.cells rm'.slots y ws rm') (hM : aMl y ws rm' T) : Snd Γ pc (oHl T n ci rm'.cells rm'.slots rm.cells rm.slots (pc + 3)) := by
  obtain ⟨p, l, e, R, s, m, args, below, meth, c, Q, G, A, nL'⟩ := Γ
  obtain ⟨hx, hb, hml, hown, hts, hK, hA, rfl, rfl, hB⟩ := C
  intro K hK' ad k sl ls st X ho
  dsimp only [oHl] at ho
  obtain ⟨av, t, e1, hn, h0⟩ := tk_spec ho
  rw [List.append_nil] at h0
  obtain ⟨X', Z, P, q0, As0, fs0, h4, hc, hsl, hav, hq0, hX, h, hp⟩ := h0
  clear ho
  subst e1
  intro H locs la hP hD hS hl
  have hP0 : va_P G.1 vwCl (aX G ad 0 ([] ++ X'.map (shE 0) ++ Z)) H := by rw [shEs_0, List.nil_append, ← hX]; exact hP
  have hD0 : va_D A (aX G ad 0 ([] ++ X'.map (shE 0) ++ Z)) := by rw [shEs_0, List.nil_append, ← hX]; exact hD
  have had : adS ad 0 = ad := rfl
  have hF := fr_free (off := 0) rfl hD0 hS hA
  have hP9 := fr_P (off := 0) rfl hP0
  have hD9 := fr_D (off := 0) rfl hD0
  rw [had] at hF hP9 hD9
  have hrun := hs _ _ _ H locs k sl la (av.map (aV ad)) (t.map (aV ad)) (hM l G ad H.size av X' _ h) (aPc_blind _ _ _ _ _) (fun U hU hW => aPc_at hP9 hK hD9 hB hU hW) (by rw [List.length_map]; exact hn) hl.1 (le4_spec ad h4) ⟨hc, hsl⟩ (fun ci' hci => by
    cases hci
    rw [hav]
    have hq2 := aX_get G ad X 0 q0 _ hq0
    rw [Nat.zero_add] at hq2
    obtain ⟨qc, g1, -⟩ := hP q0 _ hq2
    obtain ⟨cellB, g2, g3, g4⟩ := va_recv hK hP g1 hq2
    exact ⟨ad q0, As0.map (aV ad), cellB, qc, rfl, g1, g2, g3, g4⟩)
  have hst : List.map (aV ad) (av.reverse ++ t) = (av.map (aV ad)).reverse ++ t.map (aV ad) := by rw [List.map_append, List.map_reverse]
  rw [hst]
  refine va_calll hrun hS (fun q _ h9 => hF q h9) hF (fun r u t1 H1 locs1 ht hvm hpost hBk hz hk hS1 => ?_)
  obtain ⟨hP1, -⟩ := hBk
  rw [ht] at hP1
  obtain ⟨hl2, hpost⟩ := hp _ _ hpost
  have g1 := fr_join (off := 0) (X1 := []) (Z := Z) rfl hl2 hP0 hD0 hk hP1
  have g2 := aX_D hD0 (fr_len (off := 0) (X1 := []) (Z := Z) rfl hl2)
  rw [shEs_0, List.nil_append] at g1 g2
  exact hK' _ _ _ _ _ _ _ hpost H1 locs1 la g1 g2 hS1 hl
def oHd (T : aTd) (n ci : Nat) (mc ms RC RS nx : Nat) : aO := fun K ad k sl ls st X => tk n [] (fun av t => ∃ (X' Z : List aE) (P : UInt64 → List aE → Prop) (q : Nat) (As fs : List Value), le4 t = true ∧ k + mc ≤ RC ∧ sl + ms ≤ RS ∧ av = .ref q :: As ∧ X[q]? = some (.inr (.inl (ci, fs))) ∧ X = X' ++ Z ∧ T av X' P ∧
  ∀ r X2, P r X2 → X2.length = X'.length ∧ K nx ad (k + mc) (sl + ms) ls (.double r :: t) (X2 ++ Z)) st
theorem snd_Hd {ci : Nat} {T : aTd} (C : FOK Γ cc Ts own nL rm) (hs : aSite Γ pc n (some ci) rm'.cells rm'.slots y ws rm') (hM : aMd y ws rm' T) : Snd Γ pc (oHd T n ci rm'.cells rm'.slots rm.cells rm.slots (pc + 3)) := by
  obtain ⟨p, l, e, R, s, m, args, below, meth, c, Q, G, A, nL'⟩ := Γ
  obtain ⟨hx, hb, hml, hown, hts, hK, hA, rfl, rfl, hB⟩ := C
  intro K hK' ad k sl ls st X ho
  dsimp only [oHd] at ho
  obtain ⟨av, t, e1, hn, h0⟩ := tk_spec ho
  rw [List.append_nil] at h0
  obtain ⟨X', Z, P, q0, As0, fs0, h4, hc, hsl, hav, hq0, hX, h, hp⟩ := h0
  clear ho
  subst e1
  intro H locs la hP hD hS hl
  have hP0 : va_P G.1 vwCl (aX G ad 0 ([] ++ X'.map (shE 0) ++ Z)) H := by rw [shEs_0, List.nil_append, ← hX]; exact hP
  have hD0 : va_D A (aX G ad 0 ([] ++ X'.map (shE 0) ++ Z)) := by rw [shEs_0, List.nil_append, ← hX]; exact hD
  have had : adS ad 0 = ad := rfl
  have hF := fr_free (off := 0) rfl hD0 hS hA
  have hP9 := fr_P (off := 0) rfl hP0
  have hD9 := fr_D (off := 0) rfl hD0
  rw [had] at hF hP9 hD9
  have hrun := hs _ _ _ H locs k sl la (av.map (aV ad)) (t.map (aV ad)) (hM l G ad H.size av X' _ h) (aPc_blind _ _ _ _ _) (fun U hU hW => aPc_at hP9 hK hD9 hB hU hW) (by rw [List.length_map]; exact hn) hl.1 (le4_spec ad h4) ⟨hc, hsl⟩ (fun ci' hci => by
    cases hci
    rw [hav]
    have hq2 := aX_get G ad X 0 q0 _ hq0
    rw [Nat.zero_add] at hq2
    obtain ⟨qc, g1, -⟩ := hP q0 _ hq2
    obtain ⟨cellB, g2, g3, g4⟩ := va_recv hK hP g1 hq2
    exact ⟨ad q0, As0.map (aV ad), cellB, qc, rfl, g1, g2, g3, g4⟩)
  have hst : List.map (aV ad) (av.reverse ++ t) = (av.map (aV ad)).reverse ++ t.map (aV ad) := by rw [List.map_append, List.map_reverse]
  rw [hst]
  refine va_calld hrun hS (fun q _ h9 => hF q h9) hF (fun r u t1 H1 locs1 ht hvm hpost hBk hz hk hS1 => ?_)
  obtain ⟨hP1, -⟩ := hBk
  rw [ht] at hP1
  obtain ⟨hl2, hpost⟩ := hp _ _ hpost
  have g1 := fr_join (off := 0) (X1 := []) (Z := Z) rfl hl2 hP0 hD0 hk hP1
  have g2 := aX_D hD0 (fr_len (off := 0) (X1 := []) (Z := Z) rfl hl2)
  rw [shEs_0, List.nil_append] at g1 g2
  exact hK' _ _ _ _ _ _ _ hpost H1 locs1 la g1 g2 hS1 hl
/-- a static one, that looks at no world -/
def oBi (T : aTi) (n : Nat) (mc ms RC RS nx : Nat) : aO := fun K ad k sl ls st X => tk n [] (fun av t => ∃ (P : Int32 → List aE → Prop), le4 t = true ∧ k + mc ≤ RC ∧ sl + ms ≤ RS ∧ T av [] P ∧ ∀ r X2, P r X2 → X2 = [] ∧ K nx ad (k + mc) (sl + ms) ls (.int r :: t) X) st
theorem snd_Bi {T : aTi} (C : FOK Γ cc Ts own nL rm) (hs : aSite Γ pc n none rm'.cells rm'.slots y ws rm') (hM : aMi y ws rm' T) : Snd Γ pc (oBi T n rm'.cells rm'.slots rm.cells rm.slots (pc + 3)) := by
  obtain ⟨p, l, e, R, s, m, args, below, meth, c, Q, G, A, nL'⟩ := Γ
  obtain ⟨hx, hb, hml, hown, hts, hK, hA, rfl, rfl, hB⟩ := C
  intro K hK' ad k sl ls st X ho
  dsimp only [oBi] at ho
  obtain ⟨av, t, e1, hn, h0⟩ := tk_spec ho
  rw [List.append_nil] at h0
  obtain ⟨P, h4, hc, hsl, h, hp⟩ := h0
  clear ho
  subst e1
  intro H locs la hP hD hS hl
  have hF : ∀ q, aA G ad [] H.size q → A q := fun q z => by
    rcases z with ⟨k9, e9, z⟩ | z
    · cases k9 <;> cases z
    · exact hA q (Nat.le_trans hS.1 z)
  have hP9 : aP G ad [] H := fun k9 q9 z => by cases k9 <;> cases z
  have hD9 : va_D A (aX G ad 0 []) := ⟨fun i j p q z => (by cases i <;> cases z), fun k9 q9 z => (by cases k9 <;> cases z)⟩
  have hrun := hs _ _ _ H locs k sl la (av.map (aV ad)) (t.map (aV ad)) (hM l G ad H.size av [] _ h) (aPc_blind _ _ _ _ _) (fun U hU hW => aPc_at hP9 hK hD9 hB hU hW) (by rw [List.length_map]; exact hn) hl.1 (le4_spec ad h4) ⟨hc, hsl⟩ (fun ci' hci => by cases hci)
  have hst : List.map (aV ad) (av.reverse ++ t) = (av.map (aV ad)).reverse ++ t.map (aV ad) := by rw [List.map_append, List.map_reverse]
  rw [hst]
  refine va_calli hrun hS (fun q _ h9 => hF q h9) hF (fun r u t1 H1 locs1 ht hvm hpost hBk hz hk hS1 => ?_)
  obtain ⟨-, hpost⟩ := hp _ _ hpost
  have kept : ∀ (k9 : Nat) (q9 : Nat × va_E), (aX G ad 0 X)[k9]? = some q9 → H1[q9.1]? = H[q9.1]? := fun k9 q9 h9 => hk q9.1 ((hP k9 q9 h9).lt) (fun z => by
    rcases z with ⟨k8, e8, z⟩ | z
    · cases k8 <;> cases z
    · have := (hP k9 q9 h9).lt
      omega)
  exact hK' _ _ _ _ _ _ _ hpost H1 locs1 la (hP.kept kept) hD hS1 hl
/-! a throw that this body catches -/
def exH (Γ : aΓ) (E9 : String) (h : Nat) : aXk := fun E ad k sl ls X => E = E9 ∧ ls.all (fun z => okW 999 z.2) = true ∧ X.all (okE 999) = true ∧ X.length ≤ 999 ∧ ∀ ad2, Ag 999 ad ad2 → FG Γ h ad2 k sl ls [.ref 999] X
/-- no throw can come -/
def exN : aXk := fun _ _ _ _ _ _ => False
theorem exN_FX (E : String) (ad : Nat → Nat) (k sl : Nat) (ls : List (Nat × Value)) (X : List aE) (h : exN E ad k sl ls X) : FX Γ pc E ad k sl ls X := h.elim
theorem exH_FX {E9 : String} {h9 : Nat} {x : ExceptionTableEntry} {pre suf : List ExceptionTableEntry} {hh : List (Nat × Nat × Nat × Nat)} (C : FOK Γ cc Ts own nL rm) (hT : isTb Γ hh) (hs : tableOf hh = pre ++ x :: suf) (hpre : ∀ z ∈ pre, covers z pc = false) (hcov : covers x pc = true) (h0 : x.catchType ≠ 0) (hlk : Cond.classLink own x.catchType E9 ∈ Ts) (hE : E9 ∈ aCs) (hh9 : x.handlerPc = h9)
    (E : String) (ad : Nat → Nat) (k sl : Nat) (ls : List (Nat × Value)) (X : List aE) (h : exH Γ E9 h9 E ad k sl ls X) : FX Γ pc E ad k sl ls X := by
  obtain ⟨p, l, e, R, s, m, args, below, meth, c, Q, G, A, nL'⟩ := Γ
  obtain ⟨hx, hb, hml, hown, hts, hK, hA, rfl, rfl, hB⟩ := C
  obtain ⟨rfl, c1, c2, c3, hg⟩ := h
  subst hh9
  intro H locs la rest ce q hP hD hS hl g1 g2 g3
  refine vx_catch (own := own) (E := E) (name := E) hown pre x suf (by rw [← hs]; exact hT) (fun z hz => Or.inl (hpre z hz)) hcov h0 (hts _ hlk) (va_tabs rfl rfl (hB.2.2.1 E hE)) g1 g2 g3 ?_
  have ag : Ag 999 ad (adx ad 999 q) := ag_adx (by decide)
  have eX : aX G (adx ad 999 q) 0 X = aX G ad 0 X := aX_lt (N := 999) (fun i hi => ag i (Or.inl hi)) X 0 c2 (by omega)
  have key := hg _ ag H locs la (by rw [eX]; exact hP) (by rw [eX]; exact hD) hS (by rw [aL_ag ag c1]; exact hl)
  have e9 : [Value.ref 999].map (aV (adx ad 999 q)) = [.ref q] := by
    show [Value.ref (if 999 = 999 then q else ad 999)] = _
    rw [if_pos rfl]
  rw [e9] at key
  exact key
end NCALLS
