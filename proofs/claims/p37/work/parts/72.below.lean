/-! ===== below, cell; Sim.put told anew; rows of the law's world ===== -/
theorem and_nI (v : Int32) : ∃ m, m < 2 ^ 31 ∧ v &&& 2147483647 = nI m := by
  refine ⟨(v &&& 2147483647).toBitVec.toNat, ?_, ?_⟩
  · rw [Int32.toBitVec_and, BitVec.toNat_and]
    exact Nat.lt_of_le_of_lt Nat.and_le_right (by decide)
  · apply Int32.toBitVec_inj.mp
    show _ = (Int32.ofNat _).toBitVec
    rw [Int32.toBitVec_ofNat', BitVec.ofNat_toNat]
    simp
theorem nI_nz {n : Nat} (h1 : 1 ≤ n) (h2 : n < 10000) : ¬ nI n = 0 := fun e => by
  have := (eqN h2 (by decide : (0 : Nat) < 10000)).mp e
  omega
abbrev tL_below : aTi := fun av X post => ∃ (v : Int32) (n : Nat), av = [.int v, .int (nI n)] ∧ 1 ≤ n ∧ n ≤ 100 ∧ ∀ j, j < n → post (nI j) X
abbrev rmL_below : Room := { frames := 0, cells := 0, slots := 0, locals := 0 }
def tbL_below (post : Int32 → List aE → Prop) (ad0 : Nat → Nat) : List (Nat × aO) := [(0, oIL 0 1),
  (1, oC (2147483647) 3),
  (3, oIand 4),
  (4, oIL 1 5),
  (5, oIrem 6),
  (6, oRi post ad0 rmL_below.cells rmL_below.slots)]
set_option maxRecDepth 20000 in
theorem okL_below {Γ : aΓ} {post : Int32 → List aE → Prop} {ad0 : Nat → Nat} {X0 : List aE} (C : FOK Γ cL_below wsL_below RL 2 rmL_below) (hQ : isQ Γ (va_Qi post (aBk (gK Γ) ad0 X0 (hsz Γ)) (aA (gK Γ) ad0 X0 (hsz Γ))) rmL_below ad0 X0) (hr : rTy Γ = some .int) : AllS Γ (tbL_below post ad0) := by
  unfold tbL_below
  refine al_c (pc := 0) (snd_iload_n C dL_below_0 rfl) ?_
  refine al_c (pc := 1) (snd_ldc C dL_below_1 (by decide +kernel)) ?_
  refine al_c (pc := 3) (snd_iand C dL_below_3) ?_
  refine al_c (pc := 4) (snd_iload_n C dL_below_4 rfl) ?_
  refine al_c (pc := 5) (snd_irem C dL_below_5) ?_
  refine al_c (pc := 6) (snd_Ri C hQ hr dL_below_6) ?_
  exact al_0
set_option maxHeartbeats 1000000 in
set_option maxRecDepth 100000 in
theorem mL_below : aMi yL_below wsL_below rmL_below tL_below := by
  refine aMi_of (by decide +kernel) rfl rfl (by intro av X post hT; obtain ⟨v, n, rfl, hn1, hn2, hp⟩ := hT; exact Nat.le_of_ble_eq_true rfl) ?_
  intro Γ ad av X post C hQ hr hT
  obtain ⟨v, n, rfl, hn1, hn2, hp⟩ := hT
  have OK := okL_below C hQ hr
  obtain ⟨m, hm, em⟩ := and_nI v
  have e := pk_rem (a := m) (d := n) hm (by omega) (by omega)
  refine go OK [] 40 ?_
  refine ⟨nI_nz hn1 (by omega), ?_⟩
  rw [em, e]
  exact ⟨rfl, hp _ (Nat.mod_lt _ (by omega))⟩
theorem hB_of {mc ms RC RS nx : Nat} {K : aK} {ad : Nat → Nat} {k sl : Nat} {ls : List (Nat × Value)} {t : List Value} {X : List aE} {v : Int32} (n : Nat) (h1 : 1 ≤ n) (h2 : n ≤ 100) (h4 : le4 t = true) (hc : k + mc ≤ RC) (hs : sl + ms ≤ RS) (hK : ∀ j, j < n → K nx ad (k + mc) (sl + ms) ls (.int (nI j) :: t) X) :
    ∃ (P : Int32 → List aE → Prop), le4 t = true ∧ k + mc ≤ RC ∧ sl + ms ≤ RS ∧ tL_below [.int v, .int (nI n)] [] P ∧ ∀ r X2, P r X2 → X2 = [] ∧ K nx ad (k + mc) (sl + ms) ls (.int r :: t) X :=
  ⟨fun r X2 => (∃ j, j < n ∧ r = nI j) ∧ X2 = [], h4, hc, hs, ⟨v, n, rfl, h1, h2, fun j hj => ⟨⟨j, hj, rfl⟩, rfl⟩⟩, fun r X2 ⟨⟨j, hj, e1⟩, e2⟩ => ⟨e2, by rw [e1]; exact hK j hj⟩⟩
abbrev NL_cell : List aE → Nat := fun X => X.length
abbrev tL_cell : aTi := fun av X post => ∃ (j : Nat), av = [.ref 1000, .int (nI j)] ∧ j < 9000 ∧ ∀ r, post r X
abbrev rmL_cell : Room := { frames := 0, cells := 0, slots := 0, locals := 0 }
def tbL_cell (post : Int32 → List aE → Prop) (ad0 : Nat → Nat) (N0 : Nat) (L : Nat) (xs : Nat → Int32) : List (Nat × aO) := [(0, oIL 1 1),
  (1, oAL 0 2),
  (2, oSln ad0 L 3),
  (3, oIc_ge 12 6),
  (6, oAL 0 7),
  (7, oIL 1 8),
  (8, oSld ad0 L xs 9),
  (9, oGo 18),
  (12, oC (790386105) 14),
  (14, oIL 1 15),
  (15, oC (3) 16),
  (16, oIadd 17),
  (17, oImul 18),
  (18, oNi post ad0 N0 0 0)]
set_option maxRecDepth 20000 in
theorem okL_cell {Γ : aΓ} {post : Int32 → List aE → Prop} {ad0 : Nat → Nat} {X0 : List aE} {N0 : Nat} {L : Nat} {xs : Nat → Int32} (C : FOK Γ cL_cell wsL_cell RL 2 rmL_cell) (CX : FOX Γ) (CN : FON ad0 Γ) (CS : FOS ad0 L xs Γ) (hQ : isQ Γ (va_Qi (fun r (u : (Nat → Nat) × List aE) => post r u.2) (aBn (gK Γ) ad0 X0 (hsz Γ) N0) (aA (gK Γ) ad0 X0 (hsz Γ))) rmL_cell ad0 X0) (hr : rTy Γ = some .int) : AllS Γ (tbL_cell post ad0 N0 L xs) := by
  unfold tbL_cell
  refine al_c (pc := 0) (snd_iload_n C dL_cell_0 rfl) ?_
  refine al_c (pc := 1) (snd_aload_n C dL_cell_1 rfl) ?_
  refine al_c (pc := 2) (snd_Sln C CS dL_cell_2) ?_
  refine al_c (pc := 3) (snd_icmp_ge C dL_cell_3 (by decide)) ?_
  refine al_c (pc := 6) (snd_aload_n C dL_cell_6 rfl) ?_
  refine al_c (pc := 7) (snd_iload_n C dL_cell_7 rfl) ?_
  refine al_c (pc := 8) (snd_Sld C CS dL_cell_8) ?_
  refine al_c (pc := 9) (snd_goto C dL_cell_9 (by decide)) ?_
  refine al_c (pc := 12) (snd_ldc C dL_cell_12 (by decide +kernel)) ?_
  refine al_c (pc := 14) (snd_iload_n C dL_cell_14 rfl) ?_
  refine al_c (pc := 15) (snd_iconst C dL_cell_15 (by decide)) ?_
  refine al_c (pc := 16) (snd_iadd C dL_cell_16) ?_
  refine al_c (pc := 17) (snd_imul C dL_cell_17) ?_
  refine al_c (pc := 18) (snd_Ni C hQ hr dL_cell_18) ?_
  exact al_0
set_option maxHeartbeats 4000000 in
set_option maxRecDepth 100000 in
theorem mL_cell : nMi yL_cell wsL_cell rmL_cell NL_cell tL_cell := by
  refine nMi_of (by decide +kernel) rfl rfl (by intro av X post hT; obtain ⟨j, rfl, hj, hp⟩ := hT; exact Nat.le_of_ble_eq_true rfl) ?_
  intro Γ ad av X post C CX CN hQ hr hT
  obtain ⟨j, rfl, hj, hp⟩ := hT
  obtain ⟨L, xs, hL, CS⟩ := CN.scr
  have OK := okL_cell C CX CN CS hQ hr
  refine go OK [] 40 ?_
  refine ⟨rfl, rfl, ?_⟩
  refine And.intro (fun _ => ?_) (fun q => ?_)
  · exact ⟨Nat.le_refl _, Nat.le_refl _, Ag.rf, hp _⟩
  · have hlt : j < L := Nat.lt_of_not_le fun z => q ((leN (by omega) (by omega)).mpr z)
    exact ⟨rfl, rfl, j, rfl, hlt, hL, Nat.le_refl _, Nat.le_refl _, Ag.rf, hp _⟩
/-- a static own method that looks at no world -/
def oBs (ad0 : Nat → Nat) (T : aTi) (n : Nat) (mc ms RC RS nx : Nat) : aO := fun K ad k sl ls st X => tk n [] (fun av t => ∃ (P : Int32 → List aE → Prop), le4 t = true ∧ k + mc ≤ RC ∧ sl + ms ≤ RS ∧ (∀ i, 1000 ≤ i → ad i = ad0 i) ∧ T av [] P ∧ ∀ r X2, P r X2 → K nx ad (k + mc) (sl + ms) ls (.int r :: t) X) st
section NBS
variable {Γ : aΓ} {cc : ByteArray} {Ts : List Cond} {own : String} {nL : Nat} {rm : Room} {pc : Nat} {ad0 : Nat → Nat} {y : MethodName} {ws : List Cond} {rm' : Room} {n : Nat}
theorem snd_Bs {N : List aE → Nat} {T : aTi} (C : FOK Γ cc Ts own nL rm) (CX : FOX Γ) (CN : FON ad0 Γ) (hs : aSite Γ pc n none rm'.cells rm'.slots y ws rm') (hM : nMi y ws rm' N T) : Snd Γ pc (oBs ad0 T n rm'.cells rm'.slots rm.cells rm.slots (pc + 3)) := by
  obtain ⟨p, l, e, R, s, m, args, below, meth, c, Q, G, A, nL'⟩ := Γ
  obtain ⟨hx, hb, hml, hown, hts, hK, hA, rfl, rfl, hB⟩ := C
  intro K hK' ad k sl ls st X ho
  dsimp only [oBs] at ho
  obtain ⟨av, t, e1, hn, h0⟩ := tk_spec ho
  rw [List.append_nil] at h0
  obtain ⟨P, h4, hc, hsl, had, h, hp⟩ := h0
  clear ho
  subst e1
  intro H locs la hP hD hS hl
  have hF : ∀ q, aA G ad [] H.size q → A q := fun q z => by
    rcases z with ⟨k9, e9, z⟩ | z
    · cases k9 <;> cases z
    · exact hA q (Nat.le_trans hS.1 z)
  have hP9 : aP G ad [] H := fun k9 q9 z => by cases k9 <;> cases z
  have hD9 : va_D A (aX G ad 0 []) := ⟨fun i j p q z => (by cases i <;> cases z), fun k9 q9 z => (by cases k9 <;> cases z)⟩
  have hrun := hs _ _ _ H locs k sl la (av.map (aV ad)) (t.map (aV ad)) (hM l CX.1 G ad H.size av [] _ h) (aPcN_blind _ _ _ _ _) (fun U hU hW => ⟨⟨aPc_at hP9 hK hD9 hB hU hW, aZ_at CX.2.1 hS hF hU hW⟩, CN.1.warm hW, ((CN.2.1.at hS hF hU hW).cg had)⟩) (by rw [List.length_map]; exact hn) hl.1 (le4_spec ad h4) ⟨hc, hsl⟩ (fun ci' hci => by cases hci)
  have hst : List.map (aV ad) (av.reverse ++ t) = (av.map (aV ad)).reverse ++ t.map (aV ad) := by rw [List.map_append, List.map_reverse]
  rw [hst]
  refine va_calli hrun hS (fun q _ h9 => hF q h9) hF (fun r u t1 H1 locs1 ht hvm hpost hBk hz hk hS1 => ?_)
  have kept : ∀ (k9 : Nat) (q9 : Nat × va_E), (aX G ad 0 X)[k9]? = some q9 → H1[q9.1]? = H[q9.1]? := fun k9 q9 h9 => hk q9.1 ((hP k9 q9 h9).lt) (fun z => by
    rcases z with ⟨k8, e8, z⟩ | z
    · cases k8 <;> cases z
    · have := (hP k9 q9 h9).lt
      omega)
  exact hK' _ _ _ _ _ _ _ (hp _ _ hpost) H1 locs1 la (hP.kept kept) hD hS1 hl
end NBS
theorem hC_of {mc ms RC RS nx : Nat} {ad0 : Nat → Nat} {K : aK} {ad : Nat → Nat} {k sl : Nat} {ls : List (Nat × Value)} {t : List Value} {X : List aE} (j : Nat) (hj : j < 9000) (h4 : le4 t = true) (hc : k + mc ≤ RC) (hs : sl + ms ≤ RS) (had : ∀ i, 1000 ≤ i → ad i = ad0 i) (hK : ∀ r, K nx ad (k + mc) (sl + ms) ls (.int r :: t) X) :
    ∃ (P : Int32 → List aE → Prop), le4 t = true ∧ k + mc ≤ RC ∧ sl + ms ≤ RS ∧ (∀ i, 1000 ≤ i → ad i = ad0 i) ∧ tL_cell [.ref 1000, .int (nI j)] [] P ∧ ∀ r X2, P r X2 → K nx ad (k + mc) (sl + ms) ls (.int r :: t) X :=
  ⟨fun _ _ => True, h4, hc, hs, had, ⟨j, rfl, hj, fun _ => trivial⟩, fun r X2 _ => hK r⟩
abbrev NX4_put2 : List aE → Nat := fun _ => 1
abbrev tX4_put2 : aTv := fun av X post => ∃ (a b : Int32) (w h : Nat) (rl ps x y : Int32) (fw fp : Nat → Nat → Int32) (cs as df : Nat → Int32), av = [.ref 0, .int a, .int b] ∧ X = SW w h rl ps x y fw fp cs as df ∧ w ≤ 7 ∧ ∀ df2, DF 1 df2 → post (SW w h rl ps a b fw fp cs as df2)
set_option maxHeartbeats 4000000 in
set_option maxRecDepth 100000 in
theorem mX4_put2 : nMv yX4_put wsX4_put rmX4_put NX4_put2 tX4_put2 := by
  refine nMv_of (by decide +kernel) rfl rfl (by intro av X post hT; obtain ⟨a, b, w, h, rl, ps, x, y, fw, fp, cs, as, df, rfl, rfl, hw, hp⟩ := hT; exact Nat.le_of_ble_eq_true rfl) ?_
  intro Γ ad av X post C CX CN hQ hr hT
  obtain ⟨a, b, w, h, rl, ps, x, y, fw, fp, cs, as, df, rfl, rfl, hw, hp⟩ := hT
  have OK := okX4_put C CX CN hQ hr
  have hlen : (aE_obj [.int (nI w), .int (nI h), .ref 1, .ref 2, .ref 3, .ref 4, .int rl, .int ps, .int a, .int b, .ref 5] :: SWt w h fw fp cs as df).length = 6 + w + w := SW_len (rl := rl) (ps := ps) (x := a) (y := b)
  have hok2 : (aE_obj [.int (nI w), .int (nI h), .ref 1, .ref 2, .ref 3, .ref 4, .int rl, .int ps, .int a, .int b, .ref 5] :: SWt w h fw fp cs as df).all (okE (6 + w + w)) = true := SW_ok (rl := rl) (ps := ps) (x := a) (y := b) (Nat.le_refl _)
  have st43 : ∀ ad2 df2, Ag 1 ad ad2 → DF 1 df2 → FG Γ 43 ad2 1 6 [(0, .ref 0), (1, .int a), (2, .int b)] [] (aE_obj [.int (nI w), .int (nI h), .ref 1, .ref 2, .ref 3, .ref 4, .int rl, .int ps, .int a, .int b, .ref (6 + w + w)] :: (SWt w h fw fp cs as df ++ [.inl (false, 6, df2)])) := by
    intro ad2 df2 hag hdf2
    refine FG_rp (π5 (6 + w + w)) (tip_re rfl) (fun i j hi hj e9 => ?_) (ls' := [(0, .ref 0), (1, .int a), (2, .int b)]) (st' := []) rfl rfl ?_
    · rw [SW_len] at hi hj
      unfold π5 at e9
      repeat' split at e9
      all_goals omega
    · refine go OK [] 10 ?_
      refine ⟨by decide, by decide, fun i hi => ?_, hp _ hdf2⟩
      have hi' : i < 1 ∨ 1000 ≤ i := hi
      have h5 : π5 (6 + w + w) i = i := if_neg (by omega)
      show ad2 (π5 (6 + w + w) i) = ad i
      rw [h5]
      exact hag i hi
  refine go OK [15] 60 ?_
  have hok3 : (aE_obj [.int (nI w), .int (nI h), .ref 1, .ref 2, .ref 3, .ref 4, .int rl, .int ps, .int a, .int b, .ref 5] :: SWt w h fw fp cs as df).all (okE (aE_obj [.int (nI w), .int (nI h), .ref 1, .ref 2, .ref 3, .ref 4, .int rl, .int ps, .int a, .int b, .ref 5] :: SWt w h fw fp cs as df).length) = true := by
    rw [hlen]
    exact hok2
  have h1L : 1 ≤ (aE_obj [.int (nI w), .int (nI h), .ref 1, .ref 2, .ref 3, .ref 4, .int rl, .int ps, .int a, .int b, .ref 5] :: SWt w h fw fp cs as df).length := by omega
  have h2L : (aE_obj [.int (nI w), .int (nI h), .ref 1, .ref 2, .ref 3, .ref 4, .int rl, .int ps, .int a, .int b, .ref 5] :: SWt w h fw fp cs as df).length < 1000 := by omega
  refine ⟨rfl, okWl_mono (N := 1) h1L rfl, okWs_mono (N := 1) h1L rfl, hok3, Nat.le_refl _, Nat.le_refl _, h2L, fun ad2 hag => ?_⟩
  have hag1 : Ag 1 ad ad2 := by
    have h9 : Ag (aE_obj [.int (nI w), .int (nI h), .ref 1, .ref 2, .ref 3, .ref 4, .int rl, .int ps, .int a, .int b, .ref 5] :: SWt w h fw fp cs as df).length ad ad2 := hag
    rw [hlen] at h9
    exact h9.wk (by omega)
  have st15 : FG Γ 15 ad2 1 6 [(0, .ref 0), (1, .int a), (2, .int b)] [.ref (aE_obj [.int (nI w), .int (nI h), .ref 1, .ref 2, .ref 3, .ref 4, .int rl, .int ps, .int a, .int b, .ref 5] :: SWt w h fw fp cs as df).length, .ref 0] ((aE_obj [.int (nI w), .int (nI h), .ref 1, .ref 2, .ref 3, .ref 4, .int rl, .int ps, .int a, .int b, .ref 5] :: SWt w h fw fp cs as df) ++ [.inl (false, 6, fun _ => 0)]) := by
    refine go OK [43] 60 ?_
    refine ast_last (Y := aE_obj [.int (nI w), .int (nI h), .ref 1, .ref 2, .ref 3, .ref 4, .int rl, .int ps, .int a, .int b, .ref 5] :: SWt w h fw fp cs as df) (i := 0) (N := 6) (inS (n := 0) (N := 6) (by decide) (by decide)) ?_
    refine ast_last (Y := aE_obj [.int (nI w), .int (nI h), .ref 1, .ref 2, .ref 3, .ref 4, .int rl, .int ps, .int a, .int b, .ref 5] :: SWt w h fw fp cs as df) (i := 1) (N := 6) (inS (n := 1) (N := 6) (by decide) (by decide)) ?_
    refine ast_last (Y := aE_obj [.int (nI w), .int (nI h), .ref 1, .ref 2, .ref 3, .ref 4, .int rl, .int ps, .int a, .int b, .ref 5] :: SWt w h fw fp cs as df) (i := 2) (N := 6) (inS (n := 2) (N := 6) (by decide) (by decide)) ?_
    refine ast_last (Y := aE_obj [.int (nI w), .int (nI h), .ref 1, .ref 2, .ref 3, .ref 4, .int rl, .int ps, .int a, .int b, .ref 5] :: SWt w h fw fp cs as df) (i := 3) (N := 6) (inS (n := 3) (N := 6) (by decide) (by decide)) ?_
    refine ast_last (Y := aE_obj [.int (nI w), .int (nI h), .ref 1, .ref 2, .ref 3, .ref 4, .int rl, .int ps, .int a, .int b, .ref 5] :: SWt w h fw fp cs as df) (i := 4) (N := 6) (inS (n := 4) (N := 6) (by decide) (by decide)) ?_
    refine ast_last (Y := aE_obj [.int (nI w), .int (nI h), .ref 1, .ref 2, .ref 3, .ref 4, .int rl, .int ps, .int a, .int b, .ref 5] :: SWt w h fw fp cs as df) (i := 5) (N := 6) (inS (n := 5) (N := 6) (by decide) (by decide)) ?_
    have key := st43 ad2 _ hag1 (DF_1 rfl)
    rw [← hlen] at key
    exact key
  exact st15
theorem LX_w {c k w h rN pN : Nat} {a1 a2 a3 a4 a5 a6 fd : Int32} {wl pr fe qu co pa : Nat → Int32} {fw fp : Nat → Nat → Int32} {cs as df : Nat → Int32} (hc : c < w) : (CW a1 a2 a3 a4 a5 a6 fd wl pr fe qu co pa ++ Zs w h rN pN k fw fp cs as df)[6 + c + 9]? = some (.inl (true, h, fw c)) := by
  rw [List.getElem?_append_right (by rw [CW_len]; omega), CW_len, show 6 + c + 9 - 9 = 6 + c by omega]
  unfold Zs
  rw [List.getElem?_map, SW_w hc]
  rfl
theorem LX_p {c k w h rN pN : Nat} {a1 a2 a3 a4 a5 a6 fd : Int32} {wl pr fe qu co pa : Nat → Int32} {fw fp : Nat → Nat → Int32} {cs as df : Nat → Int32} (hc : c < w) : (CW a1 a2 a3 a4 a5 a6 fd wl pr fe qu co pa ++ Zs w h rN pN k fw fp cs as df)[6 + w + c + 9]? = some (.inl (false, h, fp c)) := by
  rw [List.getElem?_append_right (by rw [CW_len]; omega), CW_len, show 6 + w + c + 9 - 9 = 6 + w + c by omega]
  unfold Zs
  rw [List.getElem?_map, SW_p hc]
  rfl
theorem LX_sw {c k w h rN pN : Nat} {a1 a2 a3 a4 a5 a6 fd : Int32} {wl pr fe qu co pa : Nat → Int32} {fw fp : Nat → Nat → Int32} {cs as df : Nat → Int32} {g : Nat → Int32} (hc : c < w) : (CW a1 a2 a3 a4 a5 a6 fd wl pr fe qu co pa ++ Zs w h rN pN k fw fp cs as df).set (6 + c + 9) (.inl (true, h, g)) = CW a1 a2 a3 a4 a5 a6 fd wl pr fe qu co pa ++ Zs w h rN pN k (updR fw c g) fp cs as df := by
  rw [List.set_append_right _ _ (by rw [CW_len]; omega), CW_len, show 6 + c + 9 - 9 = 6 + c by omega]
  unfold Zs
  rw [← SW_sw hc, List.map_set]
  rfl
theorem LX_len {k w h rN pN : Nat} {a1 a2 a3 a4 a5 a6 fd : Int32} {wl pr fe qu co pa : Nat → Int32} {fw fp : Nat → Nat → Int32} {cs as df : Nat → Int32} : (CW a1 a2 a3 a4 a5 a6 fd wl pr fe qu co pa ++ Zs w h rN pN k fw fp cs as df).length = 15 + w + w := by
  rw [List.length_append, Zs_len, CW_len]
  omega
theorem sw_in9 (x : Int32) (h1 : (0 : Int) ≤ x.toInt) (h2 : x.toInt ≤ 8) {a b c d e f g h i : Nat} : ∃ q ∈ [((0 : Int32), a), (1, b), (2, c), (3, d), (4, e), (5, f), (6, g), (7, h), (8, i)], x = q.1 := by
  have hx : ∃ n : Nat, n < 9 ∧ x.toInt = n := ⟨x.toInt.toNat, by omega, by omega⟩
  obtain ⟨n, hn, e0⟩ := hx
  have key : x = nI n := Int32.toInt_inj.mp (by rw [e0, nI_toInt (by omega)])
  subst key
  have h9 : n = 0 ∨ n = 1 ∨ n = 2 ∨ n = 3 ∨ n = 4 ∨ n = 5 ∨ n = 6 ∨ n = 7 ∨ n = 8 := by omega
  rcases h9 with rfl | rfl | rfl | rfl | rfl | rfl | rfl | rfl | rfl
  · exact ⟨(0, a), by simp, rfl⟩
  · exact ⟨(1, b), by simp, rfl⟩
  · exact ⟨(2, c), by simp, rfl⟩
  · exact ⟨(3, d), by simp, rfl⟩
  · exact ⟨(4, e), by simp, rfl⟩
  · exact ⟨(5, f), by simp, rfl⟩
  · exact ⟨(6, g), by simp, rfl⟩
  · exact ⟨(7, h), by simp, rfl⟩
  · exact ⟨(8, i), by simp, rfl⟩
