/-! ===== the model: the fewest rolls ===== -/
/-- the model's queue of a search, and what it tells -/
def okQ (S : qS) : Prop := bS S ∧ ∀ c f, f ≤ 6 → fq (qp c f) S = fw0 S.2 c f
theorem okQ_of {w h : Nat} {wl : Nat → Int32} {k tt : Nat} (hw : w ≤ 7) (hh : h ≤ 7) (hv : vt tt = true) (hf : frN w h wl k) : okQ (fin (nbF w h wl) 1764 [k * 36 + tt]) := ⟨bS_one hw hh hv hf, fun c f h => fin_fq hv hf c f h⟩
theorem fw0_lt {S : qS} (hS : bS S) (c f : Nat) : ∀ r, fw0 S.2 c f = some r → r < 5000 := by
  intro r hr
  unfold fw0 at hr
  by_cases z : f = 0
  · rw [if_pos z] at hr
    exact ftc_lt hS.2 c r hr
  · rw [if_neg z] at hr
    exact fwt_lt hS.2 c f r hr
abbrev tX4_fewestTo : aTi := fun av X post => ∃ (a b : Int32) (c f : Nat) (S : qS) (th rm pm ic it iv ie rc : Int32) (k tt w h : Nat) (wm pq co pa fa ce ts ns es on nx : Nat → Int32), av = [.ref 0, .int a, .int b] ∧ a = nI (cm w c) ∧ b = nI f ∧ f ≤ 6 ∧ X = MW th (nI w) (nI h) rm pm (nI (cm w k)) (nI (tt / 6 + 1)) (nI (tt % 6 + 1)) (nI (eoN tt)) ic it iv ie rc wm pq co pa fa ce ts ns es on nx ∧ w ≤ 7 ∧ h ≤ 7 ∧ c % 7 < w ∧ c / 7 < h ∧ okQ S ∧ RM w h S rc fa ce ts ns es ∧ post (oI (fw0 S.2 c f)) X
abbrev rmX4_fewestTo : Room := { frames := 1, cells := 0, slots := 0, locals := 21 }
theorem inX4_fewestTo_X4 : ∀ w ∈ wsX40, w ∈ wsX4_fewestTo := by decide +kernel
def tbX4_fewestTo (post : Int32 → List aE → Prop) (ad0 : Nat → Nat) : List (Nat × aO) := [(0, oC (0) 1),
  (1, oIS 3 2),
  (2, oIL 3 3),
  (3, oAL 0 4),
  (4, oGet 3 22 7),
  (7, oIc_ge 46 10),
  (10, oAL 0 11),
  (11, oGet 3 18 14),
  (14, oIL 3 15),
  (15, oIald 16),
  (16, oIL 1 17),
  (17, oIc_ne 40 20),
  (20, oIL 2 21),
  (21, oIf_eq 34 24),
  (24, oAL 0 25),
  (25, oGet 3 19 28),
  (28, oIL 3 29),
  (29, oIald 30),
  (30, oIL 2 31),
  (31, oIc_ne 40 34),
  (34, oAL 0 35),
  (35, oIL 3 36),
  (36, oCi tX4_farOf 2 (some 3) rmX4_farOf.cells rmX4_farOf.slots rmX4_fewestTo.cells rmX4_fewestTo.slots 39),
  (39, oRi post ad0 rmX4_fewestTo.cells rmX4_fewestTo.slots),
  (40, oInc 3 1 43),
  (43, oGo 2),
  (46, oC (-1) 47),
  (47, oRi post ad0 rmX4_fewestTo.cells rmX4_fewestTo.slots)]
set_option maxRecDepth 20000 in
theorem okX4_fewestTo {Γ : aΓ} {post : Int32 → List aE → Prop} {ad0 : Nat → Nat} {X0 : List aE} (C : FOK Γ cX4_fewestTo wsX4_fewestTo RX4 4 rmX4_fewestTo) (hQ : isQ Γ (va_Qi post (aBk (gK Γ) ad0 X0 (hsz Γ)) (aA (gK Γ) ad0 X0 (hsz Γ))) rmX4_fewestTo ad0 X0) (hr : rTy Γ = some .int) : AllS Γ (tbX4_fewestTo post ad0) := by
  unfold tbX4_fewestTo
  refine al_c (pc := 0) (snd_iconst C dX4_fewestTo_0 (by decide)) ?_
  refine al_c (pc := 1) (snd_istore_n C dX4_fewestTo_1 rfl (by decide)) ?_
  refine al_c (pc := 2) (snd_iload_n C dX4_fewestTo_2 rfl) ?_
  refine al_c (pc := 3) (snd_aload_n C dX4_fewestTo_3 rfl) ?_
  refine al_c (pc := 4) (snd_get C dX4_fewestTo_4 (ci := 3) (kf := 22) rfl (by decide) inX4_fewestTo_X4 rfl (by decide +kernel)) ?_
  refine al_c (pc := 7) (snd_icmp_ge C dX4_fewestTo_7 (by decide)) ?_
  refine al_c (pc := 10) (snd_aload_n C dX4_fewestTo_10 rfl) ?_
  refine al_c (pc := 11) (snd_get C dX4_fewestTo_11 (ci := 3) (kf := 18) rfl (by decide) inX4_fewestTo_X4 rfl (by decide +kernel)) ?_
  refine al_c (pc := 14) (snd_iload_n C dX4_fewestTo_14 rfl) ?_
  refine al_c (pc := 15) (snd_iaload C dX4_fewestTo_15) ?_
  refine al_c (pc := 16) (snd_iload_n C dX4_fewestTo_16 rfl) ?_
  refine al_c (pc := 17) (snd_icmp_ne C dX4_fewestTo_17 (by decide)) ?_
  refine al_c (pc := 20) (snd_iload_n C dX4_fewestTo_20 rfl) ?_
  refine al_c (pc := 21) (snd_if_eq C dX4_fewestTo_21 (by decide)) ?_
  refine al_c (pc := 24) (snd_aload_n C dX4_fewestTo_24 rfl) ?_
  refine al_c (pc := 25) (snd_get C dX4_fewestTo_25 (ci := 3) (kf := 19) rfl (by decide) inX4_fewestTo_X4 rfl (by decide +kernel)) ?_
  refine al_c (pc := 28) (snd_iload_n C dX4_fewestTo_28 rfl) ?_
  refine al_c (pc := 29) (snd_iaload C dX4_fewestTo_29) ?_
  refine al_c (pc := 30) (snd_iload_n C dX4_fewestTo_30 rfl) ?_
  refine al_c (pc := 31) (snd_icmp_ne C dX4_fewestTo_31 (by decide)) ?_
  refine al_c (pc := 34) (snd_aload_n C dX4_fewestTo_34 rfl) ?_
  refine al_c (pc := 35) (snd_iload_n C dX4_fewestTo_35 rfl) ?_
  refine al_c (pc := 36) (snd_Ci C (site_V C rfl dX4_fewestTo_36 gX4_fewestTo_X4_farOf rfl rfl rfl ⟨rfl, by decide +kernel, by decide +kernel, by decide +kernel⟩ ⟨by decide, by decide⟩) mX4_farOf) ?_
  refine al_c (pc := 39) (snd_Ri C hQ hr dX4_fewestTo_39) ?_
  refine al_c (pc := 40) (snd_iinc C dX4_fewestTo_40 (by decide) (by decide)) ?_
  refine al_c (pc := 43) (snd_goto C dX4_fewestTo_43 (by decide)) ?_
  refine al_c (pc := 46) (snd_iconst C dX4_fewestTo_46 (by decide)) ?_
  refine al_c (pc := 47) (snd_Ri C hQ hr dX4_fewestTo_47) ?_
  exact al_0
set_option maxHeartbeats 1000000 in
set_option maxRecDepth 100000 in
theorem mX4_fewestTo : aMi yX4_fewestTo wsX4_fewestTo rmX4_fewestTo tX4_fewestTo := by
  refine aMi_of (by decide +kernel) rfl rfl (by intro av X post hT; obtain ⟨a, b, c, f, S, th, rm, pm, ic, it, iv, ie, rc, k, tt, w, h, wm, pq, co, pa, fa, ce, ts, ns, es, on, nx, rfl, rfl, rfl, hf6, rfl, hw, hh, hc1, hc2, hO, hR, hp⟩ := hT; exact Nat.le_of_ble_eq_true rfl) ?_
  intro Γ ad av X post C hQ hr hT
  obtain ⟨a, b, c, f, S, th, rm, pm, ic, it, iv, ie, rc, k, tt, w, h, wm, pq, co, pa, fa, ce, ts, ns, es, on, nx, rfl, rfl, rfl, hf6, rfl, hw, hh, hc1, hc2, hO, hR, hp⟩ := hT
  have OK := okX4_fewestTo C hQ hr
  obtain ⟨hS, hQ⟩ := hO
  rw [← hQ c f hf6] at hp
  have hlen := bS_len hS
  obtain ⟨rfl, hq, hf⟩ := id hR
  have hc49 := cm_lt hw hh hc1 hc2
  have loop : ∀ (n i : Nat), i ≤ S.1.length → S.1.length - i < n → (∀ j v, j < i → S.1[j]? = some v → qp c f v = false) → FG Γ 2 ad 0 0 [(3, .int (nI i)), (0, .ref 0), (1, .int (nI (cm w c))), (2, .int (nI f))] [] (MW th (nI w) (nI h) rm pm (nI (cm w k)) (nI (tt / 6 + 1)) (nI (tt % 6 + 1)) (nI (eoN tt)) ic it iv ie (nI S.1.length) wm pq co pa fa ce ts ns es on nx) := by
    intro n
    induction n with
    | zero => intro i _ h; omega
    | succ n ih =>
      intro i hi hn hno
      refine go OK [2] 80 ?_
      refine And.intro (fun z => ?_) (fun z => ?_)
      · have z := (leN (by omega) (by omega)).mp z
        have e : fq (qp c f) S = none := by
          unfold fq
          rw [List.find?_eq_none.mpr]
          · rfl
          · intro v hv
            obtain ⟨j, hj⟩ := List.getElem?_of_mem hv
            have := (List.getElem?_eq_some_iff.mp hj).1
            rw [hno j v (by omega) hj]
            exact Bool.false_ne_true
        rw [e] at hp
        exact ⟨rfl, hp⟩
      · have hlt : i < S.1.length := by
          rcases Nat.lt_or_ge i S.1.length with y | y
          · exact y
          · exact absurd ((leN (by omega) (by omega)).mpr y) z
        obtain ⟨v, hv⟩ : ∃ v, S.1[i]? = some v := ⟨_, List.getElem?_eq_getElem hlt⟩
        obtain ⟨o1, o2, o3, o4, o5⟩ := hq i v hv
        have hv49 := cm_lt hw hh o1.1 o1.2
        have hit : qp c f v = true → oI (fq (qp c f) S) = oI (S.2 v) := fun hqp => by
          have e : S.1.find? (qp c f) = some v := by
            refine List.find?_eq_some_iff_getElem.mpr ⟨hqp, i, hlt, (List.getElem?_eq_some_iff.mp hv).2, fun j hj => ?_⟩
            rw [hno j _ hj (List.getElem?_eq_getElem (by omega))]
            rfl
          unfold fq
          rw [e]
          rfl
        have miss : qp c f v = false → FG Γ 2 ad 0 0 [(3, .int (nI i + 1)), (0, .ref 0), (1, .int (nI (cm w c))), (2, .int (nI f))] [] (MW th (nI w) (nI h) rm pm (nI (cm w k)) (nI (tt / 6 + 1)) (nI (tt % 6 + 1)) (nI (eoN tt)) ic it iv ie (nI S.1.length) wm pq co pa fa ce ts ns es on nx) := fun hqp => by
          have key := ih (i + 1) (by omega) (by omega) (fun j x hj hx => by
            by_cases e : j < i
            · exact hno j x e hx
            · have : j = i := by omega
              subst this
              rw [hv] at hx
              cases hx
              exact hqp)
          rw [← nI_p1 i] at key
          exact key
        refine ⟨inS (by omega : i < 2401) (by decide), ?_⟩
        rw [nI_clampS (by omega), o2]
        have ec : nI (cm w (v / 36)) = nI (cm w c) ↔ v / 36 = c := by
          rw [eqN (by omega) (by omega)]
          exact ⟨fun e => cm_inj o1.1 hc1 e, fun e => by rw [e]⟩
        refine And.intro (fun z1 => ?_) (fun z1 => ?_)
        · refine miss ?_
          unfold qp
          rw [decide_eq_false (fun e => z1 (ec.mpr e))]
          rfl
        have hc := ec.mp z1
        refine And.intro (fun z2 => ?_) (fun z2 => ?_)
        · have hf0 := (eqN (a := f) (b := 0) (by omega) (by omega)).mp z2
          rw [hit (by unfold qp; rw [decide_eq_true hc, decide_eq_true hf0]; rfl)] at hp
          exact ⟨_, i, v, w, h, S, _, _, _, _, _, _, _, _, _, _, _, _, _, _, _, _, _, _, _, _, _, _, _, _, _, rfl, rfl, rfl, hw, hh, hS, hv, hR, rfl, hp⟩
        have hf0 : ¬ f = 0 := fun e => z2 (by rw [e]; rfl)
        refine ⟨inS (by omega : i < 2401) (by decide), ?_⟩
        rw [nI_clampS (by omega), o3]
        have et : nI (v % 36 / 6 + 1) = nI f ↔ v % 36 / 6 + 1 = f := eqN (by omega) (by omega)
        refine And.intro (fun z3 => ?_) (fun z3 => ?_)
        · refine miss ?_
          unfold qp
          rw [decide_eq_false hf0, decide_eq_false (fun e => z3 (et.mpr e))]
          simp
        · rw [hit (by unfold qp; rw [decide_eq_true hc, decide_eq_true (et.mp z3)]; simp)] at hp
          exact ⟨_, i, v, w, h, S, _, _, _, _, _, _, _, _, _, _, _, _, _, _, _, _, _, _, _, _, _, _, _, _, _, rfl, rfl, rfl, hw, hh, hS, hv, hR, rfl, hp⟩
  refine go OK [2] 40 ?_
  exact loop (S.1.length + 1) 0 (Nat.zero_le _) (by omega) (fun j v hj => by omega)
abbrev tX4_fewest : aTi := fun av X post => ∃ (a b : Int32) (c f : Nat) (wl : Nat → Int32) (th rm pm ic it iv ie rc : Int32) (k tt w h : Nat) (wm pq co pa fa ce ts ns es on nx : Nat → Int32), av = [.ref 0, .int a, .int b] ∧ a = nI (cm w c) ∧ b = nI f ∧ f ≤ 6 ∧ X = MW th (nI w) (nI h) rm pm (nI (cm w k)) (nI (tt / 6 + 1)) (nI (tt % 6 + 1)) (nI (eoN tt)) ic it iv ie rc wm pq co pa fa ce ts ns es on nx ∧ 2 ≤ w ∧ w ≤ 7 ∧ 2 ≤ h ∧ h ≤ 7 ∧ c % 7 < w ∧ c / 7 < h ∧ RW w h wl wm ∧ frN w h wl k ∧ vt tt = true ∧
  ∀ (ic2 it2 iv2 ie2 rc2 : Int32) (fa2 ce2 ts2 ns2 es2 : Nat → Int32), post (oI (fw0 (fin (nbF w h wl) 1764 [k * 36 + tt]).2 c f)) (MW th (nI w) (nI h) rm pm (nI (cm w k)) (nI (tt / 6 + 1)) (nI (tt % 6 + 1)) (nI (eoN tt)) ic2 it2 iv2 ie2 rc2 wm pq co pa fa2 ce2 ts2 ns2 es2 on nx)
abbrev rmX4_fewest : Room := { frames := 4, cells := 0, slots := 0, locals := 91 }
def tbX4_fewest (post : Int32 → List aE → Prop) (ad0 : Nat → Nat) : List (Nat × aO) := [(0, oAL 0 1),
  (1, oCv tX4_look 1 (some 3) rmX4_look.cells rmX4_look.slots rmX4_fewest.cells rmX4_fewest.slots 4),
  (4, oAL 0 5),
  (5, oCv tX4_spread 1 (some 3) rmX4_spread.cells rmX4_spread.slots rmX4_fewest.cells rmX4_fewest.slots 8),
  (8, oAL 0 9),
  (9, oIL 1 10),
  (10, oIL 2 11),
  (11, oCi tX4_fewestTo 3 (some 3) rmX4_fewestTo.cells rmX4_fewestTo.slots rmX4_fewest.cells rmX4_fewest.slots 14),
  (14, oRi post ad0 rmX4_fewest.cells rmX4_fewest.slots)]
set_option maxRecDepth 20000 in
theorem okX4_fewest {Γ : aΓ} {post : Int32 → List aE → Prop} {ad0 : Nat → Nat} {X0 : List aE} (C : FOK Γ cX4_fewest wsX4_fewest RX4 3 rmX4_fewest) (hQ : isQ Γ (va_Qi post (aBk (gK Γ) ad0 X0 (hsz Γ)) (aA (gK Γ) ad0 X0 (hsz Γ))) rmX4_fewest ad0 X0) (hr : rTy Γ = some .int) : AllS Γ (tbX4_fewest post ad0) := by
  unfold tbX4_fewest
  refine al_c (pc := 0) (snd_aload_n C dX4_fewest_0 rfl) ?_
  refine al_c (pc := 1) (snd_Cv C (site_V C rfl dX4_fewest_1 gX4_fewest_X4_look rfl rfl rfl ⟨rfl, by decide +kernel, by decide +kernel, by decide +kernel⟩ ⟨by decide, by decide⟩) mX4_look) ?_
  refine al_c (pc := 4) (snd_aload_n C dX4_fewest_4 rfl) ?_
  refine al_c (pc := 5) (snd_Cv C (site_V C rfl dX4_fewest_5 gX4_fewest_X4_spread rfl rfl rfl ⟨rfl, by decide +kernel, by decide +kernel, by decide +kernel⟩ ⟨by decide, by decide⟩) mX4_spread) ?_
  refine al_c (pc := 8) (snd_aload_n C dX4_fewest_8 rfl) ?_
  refine al_c (pc := 9) (snd_iload_n C dX4_fewest_9 rfl) ?_
  refine al_c (pc := 10) (snd_iload_n C dX4_fewest_10 rfl) ?_
  refine al_c (pc := 11) (snd_Ci C (site_V C rfl dX4_fewest_11 gX4_fewest_X4_fewestTo rfl rfl rfl ⟨rfl, by decide +kernel, by decide +kernel, by decide +kernel⟩ ⟨by decide, by decide⟩) mX4_fewestTo) ?_
  refine al_c (pc := 14) (snd_Ri C hQ hr dX4_fewest_14) ?_
  exact al_0
set_option maxHeartbeats 1000000 in
set_option maxRecDepth 100000 in
theorem mX4_fewest : aMi yX4_fewest wsX4_fewest rmX4_fewest tX4_fewest := by
  refine aMi_of (by decide +kernel) rfl rfl (by intro av X post hT; obtain ⟨a, b, c, f, wl, th, rm, pm, ic, it, iv, ie, rc, k, tt, w, h, wm, pq, co, pa, fa, ce, ts, ns, es, on, nx, rfl, rfl, rfl, hf6, rfl, hw2, hw, hh2, hh, hc1, hc2, hRW, hfr, hv, hp⟩ := hT; exact Nat.le_of_ble_eq_true rfl) ?_
  intro Γ ad av X post C hQ hr hT
  obtain ⟨a, b, c, f, wl, th, rm, pm, ic, it, iv, ie, rc, k, tt, w, h, wm, pq, co, pa, fa, ce, ts, ns, es, on, nx, rfl, rfl, rfl, hf6, rfl, hw2, hw, hh2, hh, hc1, hc2, hRW, hfr, hv, hp⟩ := hT
  have OK := okX4_fewest C hQ hr
  have hO := okQ_of (wl := wl) hw hh hv hfr
  refine go OK [] 60 ?_
  refine ⟨_, _, _, _, _, _, _, _, _, _, _, _, _, _, _, _, _, _, _, _, _, _, _, _, _, rfl, rfl, ?_⟩
  refine ⟨k, tt, wl, _, _, _, _, _, _, _, _, _, _, _, _, _, _, _, _, _, _, _, _, _, _, _, rfl, rfl, rfl, rfl, rfl, rfl, hw2, hw, hh2, hh, hRW, hfr, hv, ?_⟩
  obtain ⟨D, hDe⟩ : ∃ D, D = fin (nbF w h wl) 1764 [k * 36 + tt] := ⟨_, rfl⟩
  rw [← hDe] at hp hO ⊢
  intro ic2 it2 iv2 ie2 rc2 fa2 ce2 ts2 ns2 es2 hR
  exact ⟨_, _, c, f, D, _, _, _, _, _, _, _, _, _, _, _, _, _, _, _, _, _, _, _, _, _, _, _, rfl, rfl, rfl, hf6, rfl, hw, hh, hc1, hc2, hO, hR, rfl, hp _ _ _ _ _ _ _ _ _ _⟩
theorem ob_at {w h i j : Nat} (hw : w ≤ 7) (hi : i < w) (hj : j < h) : (j * 7 + i) % 7 < w ∧ (j * 7 + i) / 7 < h := by omega
abbrev tX4_fewestRolls : aTi := fun av X post => ∃ (a b : Int32) (wl : Nat → Int32) (th rm pm ic it iv ie rc : Int32) (k tt w h : Nat) (wm pq co pa fa ce ts ns es on nx : Nat → Int32), av = [.ref 0, .int a, .int b] ∧ X = MW th (nI w) (nI h) rm pm (nI (cm w k)) (nI (tt / 6 + 1)) (nI (tt % 6 + 1)) (nI (eoN tt)) ic it iv ie rc wm pq co pa fa ce ts ns es on nx ∧ 2 ≤ w ∧ w ≤ 7 ∧ 2 ≤ h ∧ h ≤ 7 ∧ RW w h wl wm ∧ frN w h wl k ∧ vt tt = true ∧
  (¬ inB a b w h → post 0 (MW 1 (nI w) (nI h) rm pm (nI (cm w k)) (nI (tt / 6 + 1)) (nI (tt % 6 + 1)) (nI (eoN tt)) ic it iv ie rc wm pq co pa fa ce ts ns es on nx)) ∧ ∀ i j, a = nI i → b = nI j → i < w → j < h → ∀ (ic2 it2 iv2 ie2 rc2 : Int32) (fa2 ce2 ts2 ns2 es2 : Nat → Int32), post (oI (ftc (fin (nbF w h wl) 1764 [k * 36 + tt]).2 (j * 7 + i))) (MW 0 (nI w) (nI h) rm pm (nI (cm w k)) (nI (tt / 6 + 1)) (nI (tt % 6 + 1)) (nI (eoN tt)) ic2 it2 iv2 ie2 rc2 wm pq co pa fa2 ce2 ts2 ns2 es2 on nx)
abbrev rmX4_fewestRolls : Room := { frames := 5, cells := 0, slots := 0, locals := 113 }
theorem inX4_fewestRolls_X4 : ∀ w ∈ wsX40, w ∈ wsX4_fewestRolls := by decide +kernel
def tbX4_fewestRolls (post : Int32 → List aE → Prop) (ad0 : Nat → Nat) : List (Nat × aO) := [(0, oAL 0 1),
  (1, oC (0) 2),
  (2, oPut 3 0 5),
  (5, oAL 0 6),
  (6, oIL 1 7),
  (7, oIL 2 8),
  (8, oCi tX4_isCell 3 (some 3) rmX4_isCell.cells rmX4_isCell.slots rmX4_fewestRolls.cells rmX4_fewestRolls.slots 11),
  (11, oIf_eq 30 14),
  (14, oAL 0 15),
  (15, oAL 0 16),
  (16, oGet 3 1 19),
  (19, oIL 2 20),
  (20, oImul 21),
  (21, oIL 1 22),
  (22, oIadd 23),
  (23, oC (0) 24),
  (24, oCi tX4_fewest 3 (some 3) rmX4_fewest.cells rmX4_fewest.slots rmX4_fewestRolls.cells rmX4_fewestRolls.slots 27),
  (27, oGo 35),
  (30, oAL 0 31),
  (31, oC (1) 32),
  (32, oCi tX4_no 2 (some 3) rmX4_no.cells rmX4_no.slots rmX4_fewestRolls.cells rmX4_fewestRolls.slots 35),
  (35, oRi post ad0 rmX4_fewestRolls.cells rmX4_fewestRolls.slots)]
set_option maxRecDepth 20000 in
theorem okX4_fewestRolls {Γ : aΓ} {post : Int32 → List aE → Prop} {ad0 : Nat → Nat} {X0 : List aE} (C : FOK Γ cX4_fewestRolls wsX4_fewestRolls RX4 3 rmX4_fewestRolls) (hQ : isQ Γ (va_Qi post (aBk (gK Γ) ad0 X0 (hsz Γ)) (aA (gK Γ) ad0 X0 (hsz Γ))) rmX4_fewestRolls ad0 X0) (hr : rTy Γ = some .int) : AllS Γ (tbX4_fewestRolls post ad0) := by
  unfold tbX4_fewestRolls
  refine al_c (pc := 0) (snd_aload_n C dX4_fewestRolls_0 rfl) ?_
  refine al_c (pc := 1) (snd_iconst C dX4_fewestRolls_1 (by decide)) ?_
  refine al_c (pc := 2) (snd_put C dX4_fewestRolls_2 (ci := 3) (kf := 0) rfl (by decide) inX4_fewestRolls_X4 tyX4_ok nmX4 rfl rfl rfl (by decide +kernel)) ?_
  refine al_c (pc := 5) (snd_aload_n C dX4_fewestRolls_5 rfl) ?_
  refine al_c (pc := 6) (snd_iload_n C dX4_fewestRolls_6 rfl) ?_
  refine al_c (pc := 7) (snd_iload_n C dX4_fewestRolls_7 rfl) ?_
  refine al_c (pc := 8) (snd_Ci C (site_V C rfl dX4_fewestRolls_8 gX4_fewestRolls_X4_isCell rfl rfl rfl ⟨rfl, by decide +kernel, by decide +kernel, by decide +kernel⟩ ⟨by decide, by decide⟩) mX4_isCell) ?_
  refine al_c (pc := 11) (snd_if_eq C dX4_fewestRolls_11 (by decide)) ?_
  refine al_c (pc := 14) (snd_aload_n C dX4_fewestRolls_14 rfl) ?_
  refine al_c (pc := 15) (snd_aload_n C dX4_fewestRolls_15 rfl) ?_
  refine al_c (pc := 16) (snd_get C dX4_fewestRolls_16 (ci := 3) (kf := 1) rfl (by decide) inX4_fewestRolls_X4 rfl (by decide +kernel)) ?_
  refine al_c (pc := 19) (snd_iload_n C dX4_fewestRolls_19 rfl) ?_
  refine al_c (pc := 20) (snd_imul C dX4_fewestRolls_20) ?_
  refine al_c (pc := 21) (snd_iload_n C dX4_fewestRolls_21 rfl) ?_
  refine al_c (pc := 22) (snd_iadd C dX4_fewestRolls_22) ?_
  refine al_c (pc := 23) (snd_iconst C dX4_fewestRolls_23 (by decide)) ?_
  refine al_c (pc := 24) (snd_Ci C (site_V C rfl dX4_fewestRolls_24 gX4_fewestRolls_X4_fewest rfl rfl rfl ⟨rfl, by decide +kernel, by decide +kernel, by decide +kernel⟩ ⟨by decide, by decide⟩) mX4_fewest) ?_
  refine al_c (pc := 27) (snd_goto C dX4_fewestRolls_27 (by decide)) ?_
  refine al_c (pc := 30) (snd_aload_n C dX4_fewestRolls_30 rfl) ?_
  refine al_c (pc := 31) (snd_iconst C dX4_fewestRolls_31 (by decide)) ?_
  refine al_c (pc := 32) (snd_Ci C (site_V C rfl dX4_fewestRolls_32 gX4_fewestRolls_X4_no rfl rfl rfl ⟨rfl, by decide +kernel, by decide +kernel, by decide +kernel⟩ ⟨by decide, by decide⟩) mX4_no) ?_
  refine al_c (pc := 35) (snd_Ri C hQ hr dX4_fewestRolls_35) ?_
  exact al_0
set_option maxHeartbeats 1000000 in
set_option maxRecDepth 100000 in
theorem mX4_fewestRolls : aMi yX4_fewestRolls wsX4_fewestRolls rmX4_fewestRolls tX4_fewestRolls := by
  refine aMi_of (by decide +kernel) rfl rfl (by intro av X post hT; obtain ⟨a, b, wl, th, rm, pm, ic, it, iv, ie, rc, k, tt, w, h, wm, pq, co, pa, fa, ce, ts, ns, es, on, nx, rfl, rfl, hw2, hw, hh2, hh, hRW, hfr, hv, h1, h2⟩ := hT; exact Nat.le_of_ble_eq_true rfl) ?_
  intro Γ ad av X post C hQ hr hT
  obtain ⟨a, b, wl, th, rm, pm, ic, it, iv, ie, rc, k, tt, w, h, wm, pq, co, pa, fa, ce, ts, ns, es, on, nx, rfl, rfl, hw2, hw, hh2, hh, hRW, hfr, hv, h1, h2⟩ := hT
  have OK := okX4_fewestRolls C hQ hr
  refine go OK [] 60 ?_
  refine ⟨_, _, _, _, _, _, _, _, _, _, _, _, _, _, _, _, _, _, _, _, _, _, _, _, _, rfl, rfl, hw2, hw, hh2, hh, fun q => ?_, fun q => ?_⟩
  · refine And.intro (fun q => absurd q (by decide)) (fun _ => ?_)
    obtain ⟨i, j, rfl, rfl, hi, hj⟩ := q
    have hb := ob_at hw hi hj
    refine ⟨_, _, j * 7 + i, 0, wl, _, _, _, _, _, _, _, _, _, _, _, _, _, _, _, _, _, _, _, _, _, _, _, rfl, by rw [wI, cm_at (by omega)], rfl, by omega, rfl, hw2, hw, hh2, hh, hb.1, hb.2, hRW, hfr, hv, fun ic2 it2 iv2 ie2 rc2 fa2 ce2 ts2 ns2 es2 => ⟨rfl, ?_⟩⟩
    have hp := h2 i j rfl rfl hi hj ic2 it2 iv2 ie2 rc2 fa2 ce2 ts2 ns2 es2
    rw [show ∀ D : Nat → Option Nat, fw0 D (j * 7 + i) 0 = ftc D (j * 7 + i) from fun D => rfl]
    exact hp
  · refine And.intro (fun _ => ?_) (fun q => absurd rfl q)
    exact ⟨_, _, _, _, _, _, _, _, _, _, _, _, _, _, _, _, _, _, _, _, _, _, _, _, _, _, rfl, rfl, rfl, h1 q⟩
abbrev tX4_fewestRollsWithTop : aTi := fun av X post => ∃ (a b g : Int32) (wl : Nat → Int32) (th rm pm ic it iv ie rc : Int32) (k tt w h : Nat) (wm pq co pa fa ce ts ns es on nx : Nat → Int32), av = [.ref 0, .int a, .int b, .int g] ∧ X = MW th (nI w) (nI h) rm pm (nI (cm w k)) (nI (tt / 6 + 1)) (nI (tt % 6 + 1)) (nI (eoN tt)) ic it iv ie rc wm pq co pa fa ce ts ns es on nx ∧ 2 ≤ w ∧ w ≤ 7 ∧ 2 ≤ h ∧ h ≤ 7 ∧ RW w h wl wm ∧ frN w h wl k ∧ vt tt = true ∧
  (¬ (inB a b w h ∧ inR g 1 6) → post 0 (MW 1 (nI w) (nI h) rm pm (nI (cm w k)) (nI (tt / 6 + 1)) (nI (tt % 6 + 1)) (nI (eoN tt)) ic it iv ie rc wm pq co pa fa ce ts ns es on nx)) ∧ ∀ i j f, a = nI i → b = nI j → g = nI f → i < w → j < h → 1 ≤ f → f ≤ 6 → ∀ (ic2 it2 iv2 ie2 rc2 : Int32) (fa2 ce2 ts2 ns2 es2 : Nat → Int32), post (oI (fwt (fin (nbF w h wl) 1764 [k * 36 + tt]).2 (j * 7 + i) f)) (MW 0 (nI w) (nI h) rm pm (nI (cm w k)) (nI (tt / 6 + 1)) (nI (tt % 6 + 1)) (nI (eoN tt)) ic2 it2 iv2 ie2 rc2 wm pq co pa fa2 ce2 ts2 ns2 es2 on nx)
abbrev rmX4_fewestRollsWithTop : Room := { frames := 5, cells := 0, slots := 0, locals := 113 }
theorem inX4_fewestRollsWithTop_X4 : ∀ w ∈ wsX40, w ∈ wsX4_fewestRollsWithTop := by decide +kernel
def tbX4_fewestRollsWithTop (post : Int32 → List aE → Prop) (ad0 : Nat → Nat) : List (Nat × aO) := [(0, oAL 0 1),
  (1, oC (0) 2),
  (2, oPut 3 0 5),
  (5, oAL 0 6),
  (6, oIL 1 7),
  (7, oIL 2 8),
  (8, oCi tX4_isCell 3 (some 3) rmX4_isCell.cells rmX4_isCell.slots rmX4_fewestRollsWithTop.cells rmX4_fewestRollsWithTop.slots 11),
  (11, oIf_eq 37 14),
  (14, oIL 3 15),
  (15, oCi tX4_isFace 1 none rmX4_isFace.cells rmX4_isFace.slots rmX4_fewestRollsWithTop.cells rmX4_fewestRollsWithTop.slots 18),
  (18, oIf_eq 37 21),
  (21, oAL 0 22),
  (22, oAL 0 23),
  (23, oGet 3 1 26),
  (26, oIL 2 27),
  (27, oImul 28),
  (28, oIL 1 29),
  (29, oIadd 30),
  (30, oIL 3 31),
  (31, oCi tX4_fewest 3 (some 3) rmX4_fewest.cells rmX4_fewest.slots rmX4_fewestRollsWithTop.cells rmX4_fewestRollsWithTop.slots 34),
  (34, oGo 42),
  (37, oAL 0 38),
  (38, oC (1) 39),
  (39, oCi tX4_no 2 (some 3) rmX4_no.cells rmX4_no.slots rmX4_fewestRollsWithTop.cells rmX4_fewestRollsWithTop.slots 42),
  (42, oRi post ad0 rmX4_fewestRollsWithTop.cells rmX4_fewestRollsWithTop.slots)]
set_option maxRecDepth 20000 in
theorem okX4_fewestRollsWithTop {Γ : aΓ} {post : Int32 → List aE → Prop} {ad0 : Nat → Nat} {X0 : List aE} (C : FOK Γ cX4_fewestRollsWithTop wsX4_fewestRollsWithTop RX4 4 rmX4_fewestRollsWithTop) (hQ : isQ Γ (va_Qi post (aBk (gK Γ) ad0 X0 (hsz Γ)) (aA (gK Γ) ad0 X0 (hsz Γ))) rmX4_fewestRollsWithTop ad0 X0) (hr : rTy Γ = some .int) : AllS Γ (tbX4_fewestRollsWithTop post ad0) := by
  unfold tbX4_fewestRollsWithTop
  refine al_c (pc := 0) (snd_aload_n C dX4_fewestRollsWithTop_0 rfl) ?_
  refine al_c (pc := 1) (snd_iconst C dX4_fewestRollsWithTop_1 (by decide)) ?_
  refine al_c (pc := 2) (snd_put C dX4_fewestRollsWithTop_2 (ci := 3) (kf := 0) rfl (by decide) inX4_fewestRollsWithTop_X4 tyX4_ok nmX4 rfl rfl rfl (by decide +kernel)) ?_
  refine al_c (pc := 5) (snd_aload_n C dX4_fewestRollsWithTop_5 rfl) ?_
  refine al_c (pc := 6) (snd_iload_n C dX4_fewestRollsWithTop_6 rfl) ?_
  refine al_c (pc := 7) (snd_iload_n C dX4_fewestRollsWithTop_7 rfl) ?_
  refine al_c (pc := 8) (snd_Ci C (site_V C rfl dX4_fewestRollsWithTop_8 gX4_fewestRollsWithTop_X4_isCell rfl rfl rfl ⟨rfl, by decide +kernel, by decide +kernel, by decide +kernel⟩ ⟨by decide, by decide⟩) mX4_isCell) ?_
  refine al_c (pc := 11) (snd_if_eq C dX4_fewestRollsWithTop_11 (by decide)) ?_
  refine al_c (pc := 14) (snd_iload_n C dX4_fewestRollsWithTop_14 rfl) ?_
  refine al_c (pc := 15) (snd_Ci C (site_S C dX4_fewestRollsWithTop_15 gX4_fewestRollsWithTop_X4_isFace rfl rfl rfl ⟨by decide +kernel, by decide +kernel, by decide +kernel⟩ ⟨by decide, by decide⟩) mX4_isFace) ?_
  refine al_c (pc := 18) (snd_if_eq C dX4_fewestRollsWithTop_18 (by decide)) ?_
  refine al_c (pc := 21) (snd_aload_n C dX4_fewestRollsWithTop_21 rfl) ?_
  refine al_c (pc := 22) (snd_aload_n C dX4_fewestRollsWithTop_22 rfl) ?_
  refine al_c (pc := 23) (snd_get C dX4_fewestRollsWithTop_23 (ci := 3) (kf := 1) rfl (by decide) inX4_fewestRollsWithTop_X4 rfl (by decide +kernel)) ?_
  refine al_c (pc := 26) (snd_iload_n C dX4_fewestRollsWithTop_26 rfl) ?_
  refine al_c (pc := 27) (snd_imul C dX4_fewestRollsWithTop_27) ?_
  refine al_c (pc := 28) (snd_iload_n C dX4_fewestRollsWithTop_28 rfl) ?_
  refine al_c (pc := 29) (snd_iadd C dX4_fewestRollsWithTop_29) ?_
  refine al_c (pc := 30) (snd_iload_n C dX4_fewestRollsWithTop_30 rfl) ?_
  refine al_c (pc := 31) (snd_Ci C (site_V C rfl dX4_fewestRollsWithTop_31 gX4_fewestRollsWithTop_X4_fewest rfl rfl rfl ⟨rfl, by decide +kernel, by decide +kernel, by decide +kernel⟩ ⟨by decide, by decide⟩) mX4_fewest) ?_
  refine al_c (pc := 34) (snd_goto C dX4_fewestRollsWithTop_34 (by decide)) ?_
  refine al_c (pc := 37) (snd_aload_n C dX4_fewestRollsWithTop_37 rfl) ?_
  refine al_c (pc := 38) (snd_iconst C dX4_fewestRollsWithTop_38 (by decide)) ?_
  refine al_c (pc := 39) (snd_Ci C (site_V C rfl dX4_fewestRollsWithTop_39 gX4_fewestRollsWithTop_X4_no rfl rfl rfl ⟨rfl, by decide +kernel, by decide +kernel, by decide +kernel⟩ ⟨by decide, by decide⟩) mX4_no) ?_
  refine al_c (pc := 42) (snd_Ri C hQ hr dX4_fewestRollsWithTop_42) ?_
  exact al_0
set_option maxHeartbeats 1000000 in
set_option maxRecDepth 100000 in
theorem mX4_fewestRollsWithTop : aMi yX4_fewestRollsWithTop wsX4_fewestRollsWithTop rmX4_fewestRollsWithTop tX4_fewestRollsWithTop := by
  refine aMi_of (by decide +kernel) rfl rfl (by intro av X post hT; obtain ⟨a, b, g, wl, th, rm, pm, ic, it, iv, ie, rc, k, tt, w, h, wm, pq, co, pa, fa, ce, ts, ns, es, on, nx, rfl, rfl, hw2, hw, hh2, hh, hRW, hfr, hv, h1, h2⟩ := hT; exact Nat.le_of_ble_eq_true rfl) ?_
  intro Γ ad av X post C hQ hr hT
  obtain ⟨a, b, g, wl, th, rm, pm, ic, it, iv, ie, rc, k, tt, w, h, wm, pq, co, pa, fa, ce, ts, ns, es, on, nx, rfl, rfl, hw2, hw, hh2, hh, hRW, hfr, hv, h1, h2⟩ := hT
  have OK := okX4_fewestRollsWithTop C hQ hr
  refine go OK [] 60 ?_
  refine ⟨_, _, _, _, _, _, _, _, _, _, _, _, _, _, _, _, _, _, _, _, _, _, _, _, _, rfl, rfl, hw2, hw, hh2, hh, fun q => ?_, fun q => ?_⟩
  · refine And.intro (fun q => absurd q (by decide)) (fun _ => ?_)
    refine ⟨_, rfl, fun q2 => ?_, fun q2 => ?_⟩
    · refine And.intro (fun q => absurd q (by decide)) (fun _ => ?_)
      obtain ⟨i, j, rfl, rfl, hi, hj⟩ := q
      obtain ⟨f, rfl, f1, f2⟩ := q2
      have hb := ob_at hw hi hj
      refine ⟨_, _, j * 7 + i, f, wl, _, _, _, _, _, _, _, _, _, _, _, _, _, _, _, _, _, _, _, _, _, _, _, rfl, by rw [wI, cm_at (by omega)], rfl, f2, rfl, hw2, hw, hh2, hh, hb.1, hb.2, hRW, hfr, hv, fun ic2 it2 iv2 ie2 rc2 fa2 ce2 ts2 ns2 es2 => ⟨rfl, ?_⟩⟩
      have hp := h2 i j f rfl rfl rfl hi hj f1 f2 ic2 it2 iv2 ie2 rc2 fa2 ce2 ts2 ns2 es2
      rw [show ∀ D : Nat → Option Nat, fw0 D (j * 7 + i) f = fwt D (j * 7 + i) f from fun D => if_neg (by omega)]
      exact hp
    · refine And.intro (fun _ => ?_) (fun q => absurd rfl q)
      exact ⟨_, _, _, _, _, _, _, _, _, _, _, _, _, _, _, _, _, _, _, _, _, _, _, _, _, _, rfl, rfl, rfl, h1 (fun z => q2 z.2)⟩
  · refine And.intro (fun _ => ?_) (fun q => absurd rfl q)
    exact ⟨_, _, _, _, _, _, _, _, _, _, _, _, _, _, _, _, _, _, _, _, _, _, _, _, _, _, rfl, rfl, rfl, h1 (fun z => q z.1)⟩
abbrev tX4_topsOn : aTi := fun av X post => ∃ (a : Int32) (c : Nat) (S : qS) (th rm pm ic it iv ie rc : Int32) (k tt w h : Nat) (wm pq co pa fa ce ts ns es on nx : Nat → Int32), av = [.ref 0, .int a] ∧ a = nI (cm w c) ∧ X = MW th (nI w) (nI h) rm pm (nI (cm w k)) (nI (tt / 6 + 1)) (nI (tt % 6 + 1)) (nI (eoN tt)) ic it iv ie rc wm pq co pa fa ce ts ns es on nx ∧ w ≤ 7 ∧ h ≤ 7 ∧ c % 7 < w ∧ c / 7 < h ∧ okQ S ∧ RM w h S rc fa ce ts ns es ∧ post (nI (ct (fun f => (fwt S.2 c (f + 1)).isSome) 6)) X
abbrev rmX4_topsOn : Room := { frames := 2, cells := 0, slots := 0, locals := 44 }
def tbX4_topsOn (post : Int32 → List aE → Prop) (ad0 : Nat → Nat) : List (Nat × aO) := [(0, oC (0) 1),
  (1, oIS 2 2),
  (2, oC (1) 3),
  (3, oIS 3 4),
  (4, oIL 3 5),
  (5, oC (6) 7),
  (7, oIc_gt 34 10),
  (10, oIL 2 11),
  (11, oAL 0 12),
  (12, oIL 1 13),
  (13, oIL 3 14),
  (14, oCi tX4_fewestTo 3 (some 3) rmX4_fewestTo.cells rmX4_fewestTo.slots rmX4_topsOn.cells rmX4_topsOn.slots 17),
  (17, oC (-1) 18),
  (18, oIc_ne 25 21),
  (21, oC (0) 22),
  (22, oGo 26),
  (25, oC (1) 26),
  (26, oIadd 27),
  (27, oIS 2 28),
  (28, oInc 3 1 31),
  (31, oGo 4),
  (34, oIL 2 35),
  (35, oRi post ad0 rmX4_topsOn.cells rmX4_topsOn.slots)]
set_option maxRecDepth 20000 in
theorem okX4_topsOn {Γ : aΓ} {post : Int32 → List aE → Prop} {ad0 : Nat → Nat} {X0 : List aE} (C : FOK Γ cX4_topsOn wsX4_topsOn RX4 4 rmX4_topsOn) (hQ : isQ Γ (va_Qi post (aBk (gK Γ) ad0 X0 (hsz Γ)) (aA (gK Γ) ad0 X0 (hsz Γ))) rmX4_topsOn ad0 X0) (hr : rTy Γ = some .int) : AllS Γ (tbX4_topsOn post ad0) := by
  unfold tbX4_topsOn
  refine al_c (pc := 0) (snd_iconst C dX4_topsOn_0 (by decide)) ?_
  refine al_c (pc := 1) (snd_istore_n C dX4_topsOn_1 rfl (by decide)) ?_
  refine al_c (pc := 2) (snd_iconst C dX4_topsOn_2 (by decide)) ?_
  refine al_c (pc := 3) (snd_istore_n C dX4_topsOn_3 rfl (by decide)) ?_
  refine al_c (pc := 4) (snd_iload_n C dX4_topsOn_4 rfl) ?_
  refine al_c (pc := 5) (snd_bipush C dX4_topsOn_5 (by decide)) ?_
  refine al_c (pc := 7) (snd_icmp_gt C dX4_topsOn_7 (by decide)) ?_
  refine al_c (pc := 10) (snd_iload_n C dX4_topsOn_10 rfl) ?_
  refine al_c (pc := 11) (snd_aload_n C dX4_topsOn_11 rfl) ?_
  refine al_c (pc := 12) (snd_iload_n C dX4_topsOn_12 rfl) ?_
  refine al_c (pc := 13) (snd_iload_n C dX4_topsOn_13 rfl) ?_
  refine al_c (pc := 14) (snd_Ci C (site_V C rfl dX4_topsOn_14 gX4_topsOn_X4_fewestTo rfl rfl rfl ⟨rfl, by decide +kernel, by decide +kernel, by decide +kernel⟩ ⟨by decide, by decide⟩) mX4_fewestTo) ?_
  refine al_c (pc := 17) (snd_iconst C dX4_topsOn_17 (by decide)) ?_
  refine al_c (pc := 18) (snd_icmp_ne C dX4_topsOn_18 (by decide)) ?_
  refine al_c (pc := 21) (snd_iconst C dX4_topsOn_21 (by decide)) ?_
  refine al_c (pc := 22) (snd_goto C dX4_topsOn_22 (by decide)) ?_
  refine al_c (pc := 25) (snd_iconst C dX4_topsOn_25 (by decide)) ?_
  refine al_c (pc := 26) (snd_iadd C dX4_topsOn_26) ?_
  refine al_c (pc := 27) (snd_istore_n C dX4_topsOn_27 rfl (by decide)) ?_
  refine al_c (pc := 28) (snd_iinc C dX4_topsOn_28 (by decide) (by decide)) ?_
  refine al_c (pc := 31) (snd_goto C dX4_topsOn_31 (by decide)) ?_
  refine al_c (pc := 34) (snd_iload_n C dX4_topsOn_34 rfl) ?_
  refine al_c (pc := 35) (snd_Ri C hQ hr dX4_topsOn_35) ?_
  exact al_0
set_option maxHeartbeats 1000000 in
set_option maxRecDepth 100000 in
theorem mX4_topsOn : aMi yX4_topsOn wsX4_topsOn rmX4_topsOn tX4_topsOn := by
  refine aMi_of (by decide +kernel) rfl rfl (by intro av X post hT; obtain ⟨a, c, S, th, rm, pm, ic, it, iv, ie, rc, k, tt, w, h, wm, pq, co, pa, fa, ce, ts, ns, es, on, nx, rfl, rfl, rfl, hw, hh, hc1, hc2, hO, hR, hp⟩ := hT; exact Nat.le_of_ble_eq_true rfl) ?_
  intro Γ ad av X post C hQ hr hT
  obtain ⟨a, c, S, th, rm, pm, ic, it, iv, ie, rc, k, tt, w, h, wm, pq, co, pa, fa, ce, ts, ns, es, on, nx, rfl, rfl, rfl, hw, hh, hc1, hc2, hO, hR, hp⟩ := hT
  have OK := okX4_topsOn C hQ hr
  have loop : ∀ (n g : Nat), g ≤ 6 → 6 - g < n → FG Γ 4 ad 0 0 [(3, .int (nI (g + 1))), (2, .int (nI (ct (fun f => (fwt S.2 c (f + 1)).isSome) g))), (0, .ref 0), (1, .int (nI (cm w c)))] [] (MW th (nI w) (nI h) rm pm (nI (cm w k)) (nI (tt / 6 + 1)) (nI (tt % 6 + 1)) (nI (eoN tt)) ic it iv ie rc wm pq co pa fa ce ts ns es on nx) := by
    intro n
    induction n with
    | zero => intro g _ h; omega
    | succ n ih =>
      intro g hg hn
      refine go OK [4] 60 ?_
      refine And.intro (fun q => ?_) (fun q => ?_)
      · have q := (ltN (a := 6) (b := g + 1) (by omega) (by omega)).mp q
        have : g = 6 := by omega
        subst this
        exact ⟨rfl, hp⟩
      · have hg6 : g < 6 := by
          rcases Nat.lt_or_ge g 6 with z | z
          · exact z
          · exact absurd ((ltN (a := 6) (b := g + 1) (by omega) (by omega)).mpr (by omega)) q
        have ef : fw0 S.2 c (g + 1) = fwt S.2 c (g + 1) := if_neg (by omega)
        have e1 : oI (fwt S.2 c (g + 1)) = -1 ↔ fwt S.2 c (g + 1) = none := oI_ne (fun n hn => by have := fwt_lt hO.1.2 c (g + 1) n hn; omega)
        have key := ih (g + 1) (by omega) (by omega)
        rw [← nI_p1 (g + 1)] at key
        refine ⟨_, _, c, g + 1, S, _, _, _, _, _, _, _, _, _, _, _, _, _, _, _, _, _, _, _, _, _, _, _, rfl, rfl, rfl, by omega, rfl, hw, hh, hc1, hc2, hO, hR, ?_⟩
        rw [ef]
        refine And.intro (fun q => ?_) (fun q => ?_)
        · have e : (fwt S.2 c (g + 1)).isSome = true := by
            cases z : fwt S.2 c (g + 1) with
            | none => exact absurd (e1.mpr z) q
            | some x => rfl
          rw [ct_t (n := g) e, ← nI_p1 (ct _ g)] at key
          exact key
        · have e := e1.mp q
          rw [ct_f (n := g) (by simp [e]), ← Int32.add_zero (nI (ct _ g))] at key
          exact key
  refine go OK [4] 40 ?_
  exact loop 7 0 (by omega) (by omega)
abbrev tX4_topsAt : aTi := fun av X post => ∃ (a b : Int32) (wl : Nat → Int32) (th rm pm ic it iv ie rc : Int32) (k tt w h : Nat) (wm pq co pa fa ce ts ns es on nx : Nat → Int32), av = [.ref 0, .int a, .int b] ∧ X = MW th (nI w) (nI h) rm pm (nI (cm w k)) (nI (tt / 6 + 1)) (nI (tt % 6 + 1)) (nI (eoN tt)) ic it iv ie rc wm pq co pa fa ce ts ns es on nx ∧ 2 ≤ w ∧ w ≤ 7 ∧ 2 ≤ h ∧ h ≤ 7 ∧ RW w h wl wm ∧ frN w h wl k ∧ vt tt = true ∧
  (¬ inB a b w h → post 0 (MW 1 (nI w) (nI h) rm pm (nI (cm w k)) (nI (tt / 6 + 1)) (nI (tt % 6 + 1)) (nI (eoN tt)) ic it iv ie rc wm pq co pa fa ce ts ns es on nx)) ∧ ∀ i j, a = nI i → b = nI j → i < w → j < h → ∀ (ic2 it2 iv2 ie2 rc2 : Int32) (fa2 ce2 ts2 ns2 es2 : Nat → Int32), post (nI (ct (fun f => (fwt (fin (nbF w h wl) 1764 [k * 36 + tt]).2 (j * 7 + i) (f + 1)).isSome) 6)) (MW 0 (nI w) (nI h) rm pm (nI (cm w k)) (nI (tt / 6 + 1)) (nI (tt % 6 + 1)) (nI (eoN tt)) ic2 it2 iv2 ie2 rc2 wm pq co pa fa2 ce2 ts2 ns2 es2 on nx)
abbrev rmX4_topsAt : Room := { frames := 4, cells := 0, slots := 0, locals := 91 }
theorem inX4_topsAt_X4 : ∀ w ∈ wsX40, w ∈ wsX4_topsAt := by decide +kernel
def tbX4_topsAt (post : Int32 → List aE → Prop) (ad0 : Nat → Nat) : List (Nat × aO) := [(0, oAL 0 1),
  (1, oC (0) 2),
  (2, oPut 3 0 5),
  (5, oAL 0 6),
  (6, oIL 1 7),
  (7, oIL 2 8),
  (8, oCi tX4_isCell 3 (some 3) rmX4_isCell.cells rmX4_isCell.slots rmX4_topsAt.cells rmX4_topsAt.slots 11),
  (11, oIf_ne 20 14),
  (14, oAL 0 15),
  (15, oC (1) 16),
  (16, oCi tX4_no 2 (some 3) rmX4_no.cells rmX4_no.slots rmX4_topsAt.cells rmX4_topsAt.slots 19),
  (19, oRi post ad0 rmX4_topsAt.cells rmX4_topsAt.slots),
  (20, oAL 0 21),
  (21, oCv tX4_look 1 (some 3) rmX4_look.cells rmX4_look.slots rmX4_topsAt.cells rmX4_topsAt.slots 24),
  (24, oAL 0 25),
  (25, oCv tX4_spread 1 (some 3) rmX4_spread.cells rmX4_spread.slots rmX4_topsAt.cells rmX4_topsAt.slots 28),
  (28, oAL 0 29),
  (29, oAL 0 30),
  (30, oGet 3 1 33),
  (33, oIL 2 34),
  (34, oImul 35),
  (35, oIL 1 36),
  (36, oIadd 37),
  (37, oCi tX4_topsOn 2 (some 3) rmX4_topsOn.cells rmX4_topsOn.slots rmX4_topsAt.cells rmX4_topsAt.slots 40),
  (40, oRi post ad0 rmX4_topsAt.cells rmX4_topsAt.slots)]
set_option maxRecDepth 20000 in
theorem okX4_topsAt {Γ : aΓ} {post : Int32 → List aE → Prop} {ad0 : Nat → Nat} {X0 : List aE} (C : FOK Γ cX4_topsAt wsX4_topsAt RX4 3 rmX4_topsAt) (hQ : isQ Γ (va_Qi post (aBk (gK Γ) ad0 X0 (hsz Γ)) (aA (gK Γ) ad0 X0 (hsz Γ))) rmX4_topsAt ad0 X0) (hr : rTy Γ = some .int) : AllS Γ (tbX4_topsAt post ad0) := by
  unfold tbX4_topsAt
  refine al_c (pc := 0) (snd_aload_n C dX4_topsAt_0 rfl) ?_
  refine al_c (pc := 1) (snd_iconst C dX4_topsAt_1 (by decide)) ?_
  refine al_c (pc := 2) (snd_put C dX4_topsAt_2 (ci := 3) (kf := 0) rfl (by decide) inX4_topsAt_X4 tyX4_ok nmX4 rfl rfl rfl (by decide +kernel)) ?_
  refine al_c (pc := 5) (snd_aload_n C dX4_topsAt_5 rfl) ?_
  refine al_c (pc := 6) (snd_iload_n C dX4_topsAt_6 rfl) ?_
  refine al_c (pc := 7) (snd_iload_n C dX4_topsAt_7 rfl) ?_
  refine al_c (pc := 8) (snd_Ci C (site_V C rfl dX4_topsAt_8 gX4_topsAt_X4_isCell rfl rfl rfl ⟨rfl, by decide +kernel, by decide +kernel, by decide +kernel⟩ ⟨by decide, by decide⟩) mX4_isCell) ?_
  refine al_c (pc := 11) (snd_if_ne C dX4_topsAt_11 (by decide)) ?_
  refine al_c (pc := 14) (snd_aload_n C dX4_topsAt_14 rfl) ?_
  refine al_c (pc := 15) (snd_iconst C dX4_topsAt_15 (by decide)) ?_
  refine al_c (pc := 16) (snd_Ci C (site_V C rfl dX4_topsAt_16 gX4_topsAt_X4_no rfl rfl rfl ⟨rfl, by decide +kernel, by decide +kernel, by decide +kernel⟩ ⟨by decide, by decide⟩) mX4_no) ?_
  refine al_c (pc := 19) (snd_Ri C hQ hr dX4_topsAt_19) ?_
  refine al_c (pc := 20) (snd_aload_n C dX4_topsAt_20 rfl) ?_
  refine al_c (pc := 21) (snd_Cv C (site_V C rfl dX4_topsAt_21 gX4_topsAt_X4_look rfl rfl rfl ⟨rfl, by decide +kernel, by decide +kernel, by decide +kernel⟩ ⟨by decide, by decide⟩) mX4_look) ?_
  refine al_c (pc := 24) (snd_aload_n C dX4_topsAt_24 rfl) ?_
  refine al_c (pc := 25) (snd_Cv C (site_V C rfl dX4_topsAt_25 gX4_topsAt_X4_spread rfl rfl rfl ⟨rfl, by decide +kernel, by decide +kernel, by decide +kernel⟩ ⟨by decide, by decide⟩) mX4_spread) ?_
  refine al_c (pc := 28) (snd_aload_n C dX4_topsAt_28 rfl) ?_
  refine al_c (pc := 29) (snd_aload_n C dX4_topsAt_29 rfl) ?_
  refine al_c (pc := 30) (snd_get C dX4_topsAt_30 (ci := 3) (kf := 1) rfl (by decide) inX4_topsAt_X4 rfl (by decide +kernel)) ?_
  refine al_c (pc := 33) (snd_iload_n C dX4_topsAt_33 rfl) ?_
  refine al_c (pc := 34) (snd_imul C dX4_topsAt_34) ?_
  refine al_c (pc := 35) (snd_iload_n C dX4_topsAt_35 rfl) ?_
  refine al_c (pc := 36) (snd_iadd C dX4_topsAt_36) ?_
  refine al_c (pc := 37) (snd_Ci C (site_V C rfl dX4_topsAt_37 gX4_topsAt_X4_topsOn rfl rfl rfl ⟨rfl, by decide +kernel, by decide +kernel, by decide +kernel⟩ ⟨by decide, by decide⟩) mX4_topsOn) ?_
  refine al_c (pc := 40) (snd_Ri C hQ hr dX4_topsAt_40) ?_
  exact al_0
set_option maxHeartbeats 1000000 in
set_option maxRecDepth 100000 in
theorem mX4_topsAt : aMi yX4_topsAt wsX4_topsAt rmX4_topsAt tX4_topsAt := by
  refine aMi_of (by decide +kernel) rfl rfl (by intro av X post hT; obtain ⟨a, b, wl, th, rm, pm, ic, it, iv, ie, rc, k, tt, w, h, wm, pq, co, pa, fa, ce, ts, ns, es, on, nx, rfl, rfl, hw2, hw, hh2, hh, hRW, hfr, hv, h1, h2⟩ := hT; exact Nat.le_of_ble_eq_true rfl) ?_
  intro Γ ad av X post C hQ hr hT
  obtain ⟨a, b, wl, th, rm, pm, ic, it, iv, ie, rc, k, tt, w, h, wm, pq, co, pa, fa, ce, ts, ns, es, on, nx, rfl, rfl, hw2, hw, hh2, hh, hRW, hfr, hv, h1, h2⟩ := hT
  have OK := okX4_topsAt C hQ hr
  have hO := okQ_of (wl := wl) hw hh hv hfr
  refine go OK [] 60 ?_
  refine ⟨_, _, _, _, _, _, _, _, _, _, _, _, _, _, _, _, _, _, _, _, _, _, _, _, _, rfl, rfl, hw2, hw, hh2, hh, fun q => ?_, fun q => ?_⟩
  · refine And.intro (fun _ => ?_) (fun q => absurd q (by decide))
    obtain ⟨i, j, rfl, rfl, hi, hj⟩ := q
    have hb := ob_at hw hi hj
    have hp := h2 i j rfl rfl hi hj
    refine ⟨_, _, _, _, _, _, _, _, _, _, _, _, _, _, _, _, _, _, _, _, _, _, _, _, _, rfl, rfl, ?_⟩
    refine ⟨k, tt, wl, _, _, _, _, _, _, _, _, _, _, _, _, _, _, _, _, _, _, _, _, _, _, _, rfl, rfl, rfl, rfl, rfl, rfl, hw2, hw, hh2, hh, hRW, hfr, hv, ?_⟩
    obtain ⟨D, hDe⟩ : ∃ D, D = fin (nbF w h wl) 1764 [k * 36 + tt] := ⟨_, rfl⟩
    rw [← hDe] at hp hO ⊢
    intro ic2 it2 iv2 ie2 rc2 fa2 ce2 ts2 ns2 es2 hR
    exact ⟨_, j * 7 + i, D, _, _, _, _, _, _, _, _, _, _, _, _, _, _, _, _, _, _, _, _, _, _, _, rfl, by rw [wI, cm_at (by omega)], rfl, hw, hh, hb.1, hb.2, hO, hR, rfl, hp _ _ _ _ _ _ _ _ _ _⟩
  · refine And.intro (fun q => absurd rfl q) (fun _ => ?_)
    exact ⟨_, _, _, _, _, _, _, _, _, _, _, _, _, _, _, _, _, _, _, _, _, _, _, _, _, _, rfl, rfl, rfl, h1 q⟩
abbrev tX4_waysToLie : aTi := fun av X post => ∃ (wl : Nat → Int32) (th rm pm ic it iv ie rc : Int32) (k tt w h : Nat) (wm pq co pa fa ce ts ns es on nx : Nat → Int32), av = [.ref 0] ∧ X = MW th (nI w) (nI h) rm pm (nI (cm w k)) (nI (tt / 6 + 1)) (nI (tt % 6 + 1)) (nI (eoN tt)) ic it iv ie rc wm pq co pa fa ce ts ns es on nx ∧ 2 ≤ w ∧ w ≤ 7 ∧ 2 ≤ h ∧ h ≤ 7 ∧ RW w h wl wm ∧ frN w h wl k ∧ vt tt = true ∧
  ∀ (ic2 it2 iv2 ie2 rc2 : Int32) (fa2 ce2 ts2 ns2 es2 : Nat → Int32), post (nI (fin (nbF w h wl) 1764 [k * 36 + tt]).1.length) (MW 0 (nI w) (nI h) rm pm (nI (cm w k)) (nI (tt / 6 + 1)) (nI (tt % 6 + 1)) (nI (eoN tt)) ic2 it2 iv2 ie2 rc2 wm pq co pa fa2 ce2 ts2 ns2 es2 on nx)
abbrev rmX4_waysToLie : Room := { frames := 4, cells := 0, slots := 0, locals := 91 }
theorem inX4_waysToLie_X4 : ∀ w ∈ wsX40, w ∈ wsX4_waysToLie := by decide +kernel
def tbX4_waysToLie (post : Int32 → List aE → Prop) (ad0 : Nat → Nat) : List (Nat × aO) := [(0, oAL 0 1),
  (1, oC (0) 2),
  (2, oPut 3 0 5),
  (5, oAL 0 6),
  (6, oCv tX4_look 1 (some 3) rmX4_look.cells rmX4_look.slots rmX4_waysToLie.cells rmX4_waysToLie.slots 9),
  (9, oAL 0 10),
  (10, oCv tX4_spread 1 (some 3) rmX4_spread.cells rmX4_spread.slots rmX4_waysToLie.cells rmX4_waysToLie.slots 13),
  (13, oAL 0 14),
  (14, oGet 3 22 17),
  (17, oRi post ad0 rmX4_waysToLie.cells rmX4_waysToLie.slots)]
set_option maxRecDepth 20000 in
theorem okX4_waysToLie {Γ : aΓ} {post : Int32 → List aE → Prop} {ad0 : Nat → Nat} {X0 : List aE} (C : FOK Γ cX4_waysToLie wsX4_waysToLie RX4 1 rmX4_waysToLie) (hQ : isQ Γ (va_Qi post (aBk (gK Γ) ad0 X0 (hsz Γ)) (aA (gK Γ) ad0 X0 (hsz Γ))) rmX4_waysToLie ad0 X0) (hr : rTy Γ = some .int) : AllS Γ (tbX4_waysToLie post ad0) := by
  unfold tbX4_waysToLie
  refine al_c (pc := 0) (snd_aload_n C dX4_waysToLie_0 rfl) ?_
  refine al_c (pc := 1) (snd_iconst C dX4_waysToLie_1 (by decide)) ?_
  refine al_c (pc := 2) (snd_put C dX4_waysToLie_2 (ci := 3) (kf := 0) rfl (by decide) inX4_waysToLie_X4 tyX4_ok nmX4 rfl rfl rfl (by decide +kernel)) ?_
  refine al_c (pc := 5) (snd_aload_n C dX4_waysToLie_5 rfl) ?_
  refine al_c (pc := 6) (snd_Cv C (site_V C rfl dX4_waysToLie_6 gX4_waysToLie_X4_look rfl rfl rfl ⟨rfl, by decide +kernel, by decide +kernel, by decide +kernel⟩ ⟨by decide, by decide⟩) mX4_look) ?_
  refine al_c (pc := 9) (snd_aload_n C dX4_waysToLie_9 rfl) ?_
  refine al_c (pc := 10) (snd_Cv C (site_V C rfl dX4_waysToLie_10 gX4_waysToLie_X4_spread rfl rfl rfl ⟨rfl, by decide +kernel, by decide +kernel, by decide +kernel⟩ ⟨by decide, by decide⟩) mX4_spread) ?_
  refine al_c (pc := 13) (snd_aload_n C dX4_waysToLie_13 rfl) ?_
  refine al_c (pc := 14) (snd_get C dX4_waysToLie_14 (ci := 3) (kf := 22) rfl (by decide) inX4_waysToLie_X4 rfl (by decide +kernel)) ?_
  refine al_c (pc := 17) (snd_Ri C hQ hr dX4_waysToLie_17) ?_
  exact al_0
set_option maxHeartbeats 1000000 in
set_option maxRecDepth 100000 in
theorem mX4_waysToLie : aMi yX4_waysToLie wsX4_waysToLie rmX4_waysToLie tX4_waysToLie := by
  refine aMi_of (by decide +kernel) rfl rfl (by intro av X post hT; obtain ⟨wl, th, rm, pm, ic, it, iv, ie, rc, k, tt, w, h, wm, pq, co, pa, fa, ce, ts, ns, es, on, nx, rfl, rfl, hw2, hw, hh2, hh, hRW, hfr, hv, hp⟩ := hT; exact Nat.le_of_ble_eq_true rfl) ?_
  intro Γ ad av X post C hQ hr hT
  obtain ⟨wl, th, rm, pm, ic, it, iv, ie, rc, k, tt, w, h, wm, pq, co, pa, fa, ce, ts, ns, es, on, nx, rfl, rfl, hw2, hw, hh2, hh, hRW, hfr, hv, hp⟩ := hT
  have OK := okX4_waysToLie C hQ hr
  refine go OK [] 60 ?_
  refine ⟨_, _, _, _, _, _, _, _, _, _, _, _, _, _, _, _, _, _, _, _, _, _, _, _, _, rfl, rfl, ?_⟩
  refine ⟨k, tt, wl, _, _, _, _, _, _, _, _, _, _, _, _, _, _, _, _, _, _, _, _, _, _, _, rfl, rfl, rfl, rfl, rfl, rfl, hw2, hw, hh2, hh, hRW, hfr, hv, ?_⟩
  obtain ⟨D, hDe⟩ : ∃ D, D = fin (nbF w h wl) 1764 [k * 36 + tt] := ⟨_, rfl⟩
  rw [← hDe] at hp ⊢
  intro ic2 it2 iv2 ie2 rc2 fa2 ce2 ts2 ns2 es2 hR
  have hp := hp ic2 it2 iv2 ie2 rc2 fa2 ce2 ts2 ns2 es2
  rw [← hR.1] at hp
  exact ⟨rfl, hp⟩
theorem cm_k7 {w c : Nat} (hw : 1 ≤ w) (hw7 : w ≤ 7) : cm w (k7 w c) = c ∧ k7 w c % 7 < w ∧ k7 w c / 7 = c / w := by
  have h1 := Nat.mod_lt c hw
  have e1 : k7 w c / 7 = c / w := by unfold k7; omega
  have e2 : k7 w c % 7 = c % w := by unfold k7; omega
  refine ⟨?_, by omega, e1⟩
  unfold cm
  rw [e1, e2]
  exact Nat.div_add_mod c w
theorem k7_h {w h c : Nat} (hw : 1 ≤ w) (hw7 : w ≤ 7) (hc : c < w * h) : k7 w c / 7 < h := by
  rw [(cm_k7 (c := c) hw hw7).2.2]
  exact (Nat.div_lt_iff_lt_mul hw).mpr (by rw [Nat.mul_comm]; exact hc)
abbrev tX4_cellsWithinReach : aTi := fun av X post => ∃ (wl : Nat → Int32) (th rm pm ic it iv ie rc : Int32) (k tt w h : Nat) (wm pq co pa fa ce ts ns es on nx : Nat → Int32), av = [.ref 0] ∧ X = MW th (nI w) (nI h) rm pm (nI (cm w k)) (nI (tt / 6 + 1)) (nI (tt % 6 + 1)) (nI (eoN tt)) ic it iv ie rc wm pq co pa fa ce ts ns es on nx ∧ 2 ≤ w ∧ w ≤ 7 ∧ 2 ≤ h ∧ h ≤ 7 ∧ RW w h wl wm ∧ frN w h wl k ∧ vt tt = true ∧
  ∀ (ic2 it2 iv2 ie2 rc2 : Int32) (fa2 ce2 ts2 ns2 es2 : Nat → Int32), post (nI (ct (fun c => (ftc (fin (nbF w h wl) 1764 [k * 36 + tt]).2 (k7 w c)).isSome) (w * h))) (MW 0 (nI w) (nI h) rm pm (nI (cm w k)) (nI (tt / 6 + 1)) (nI (tt % 6 + 1)) (nI (eoN tt)) ic2 it2 iv2 ie2 rc2 wm pq co pa fa2 ce2 ts2 ns2 es2 on nx)
abbrev rmX4_cellsWithinReach : Room := { frames := 4, cells := 0, slots := 0, locals := 91 }
theorem inX4_cellsWithinReach_X4 : ∀ w ∈ wsX40, w ∈ wsX4_cellsWithinReach := by decide +kernel
def tbX4_cellsWithinReach (post : Int32 → List aE → Prop) (ad0 : Nat → Nat) : List (Nat × aO) := [(0, oAL 0 1),
  (1, oC (0) 2),
  (2, oPut 3 0 5),
  (5, oAL 0 6),
  (6, oCv tX4_look 1 (some 3) rmX4_look.cells rmX4_look.slots rmX4_cellsWithinReach.cells rmX4_cellsWithinReach.slots 9),
  (9, oAL 0 10),
  (10, oCv tX4_spread 1 (some 3) rmX4_spread.cells rmX4_spread.slots rmX4_cellsWithinReach.cells rmX4_cellsWithinReach.slots 13),
  (13, oC (0) 14),
  (14, oIS 1 15),
  (15, oC (0) 16),
  (16, oIS 2 17),
  (17, oIL 2 18),
  (18, oAL 0 19),
  (19, oGet 3 1 22),
  (22, oAL 0 23),
  (23, oGet 3 2 26),
  (26, oImul 27),
  (27, oIc_ge 54 30),
  (30, oIL 1 31),
  (31, oAL 0 32),
  (32, oIL 2 33),
  (33, oC (0) 34),
  (34, oCi tX4_fewestTo 3 (some 3) rmX4_fewestTo.cells rmX4_fewestTo.slots rmX4_cellsWithinReach.cells rmX4_cellsWithinReach.slots 37),
  (37, oC (-1) 38),
  (38, oIc_ne 45 41),
  (41, oC (0) 42),
  (42, oGo 46),
  (45, oC (1) 46),
  (46, oIadd 47),
  (47, oIS 1 48),
  (48, oInc 2 1 51),
  (51, oGo 17),
  (54, oIL 1 55),
  (55, oRi post ad0 rmX4_cellsWithinReach.cells rmX4_cellsWithinReach.slots)]
set_option maxRecDepth 20000 in
theorem okX4_cellsWithinReach {Γ : aΓ} {post : Int32 → List aE → Prop} {ad0 : Nat → Nat} {X0 : List aE} (C : FOK Γ cX4_cellsWithinReach wsX4_cellsWithinReach RX4 3 rmX4_cellsWithinReach) (hQ : isQ Γ (va_Qi post (aBk (gK Γ) ad0 X0 (hsz Γ)) (aA (gK Γ) ad0 X0 (hsz Γ))) rmX4_cellsWithinReach ad0 X0) (hr : rTy Γ = some .int) : AllS Γ (tbX4_cellsWithinReach post ad0) := by
  unfold tbX4_cellsWithinReach
  refine al_c (pc := 0) (snd_aload_n C dX4_cellsWithinReach_0 rfl) ?_
  refine al_c (pc := 1) (snd_iconst C dX4_cellsWithinReach_1 (by decide)) ?_
  refine al_c (pc := 2) (snd_put C dX4_cellsWithinReach_2 (ci := 3) (kf := 0) rfl (by decide) inX4_cellsWithinReach_X4 tyX4_ok nmX4 rfl rfl rfl (by decide +kernel)) ?_
  refine al_c (pc := 5) (snd_aload_n C dX4_cellsWithinReach_5 rfl) ?_
  refine al_c (pc := 6) (snd_Cv C (site_V C rfl dX4_cellsWithinReach_6 gX4_cellsWithinReach_X4_look rfl rfl rfl ⟨rfl, by decide +kernel, by decide +kernel, by decide +kernel⟩ ⟨by decide, by decide⟩) mX4_look) ?_
  refine al_c (pc := 9) (snd_aload_n C dX4_cellsWithinReach_9 rfl) ?_
  refine al_c (pc := 10) (snd_Cv C (site_V C rfl dX4_cellsWithinReach_10 gX4_cellsWithinReach_X4_spread rfl rfl rfl ⟨rfl, by decide +kernel, by decide +kernel, by decide +kernel⟩ ⟨by decide, by decide⟩) mX4_spread) ?_
  refine al_c (pc := 13) (snd_iconst C dX4_cellsWithinReach_13 (by decide)) ?_
  refine al_c (pc := 14) (snd_istore_n C dX4_cellsWithinReach_14 rfl (by decide)) ?_
  refine al_c (pc := 15) (snd_iconst C dX4_cellsWithinReach_15 (by decide)) ?_
  refine al_c (pc := 16) (snd_istore_n C dX4_cellsWithinReach_16 rfl (by decide)) ?_
  refine al_c (pc := 17) (snd_iload_n C dX4_cellsWithinReach_17 rfl) ?_
  refine al_c (pc := 18) (snd_aload_n C dX4_cellsWithinReach_18 rfl) ?_
  refine al_c (pc := 19) (snd_get C dX4_cellsWithinReach_19 (ci := 3) (kf := 1) rfl (by decide) inX4_cellsWithinReach_X4 rfl (by decide +kernel)) ?_
  refine al_c (pc := 22) (snd_aload_n C dX4_cellsWithinReach_22 rfl) ?_
  refine al_c (pc := 23) (snd_get C dX4_cellsWithinReach_23 (ci := 3) (kf := 2) rfl (by decide) inX4_cellsWithinReach_X4 rfl (by decide +kernel)) ?_
  refine al_c (pc := 26) (snd_imul C dX4_cellsWithinReach_26) ?_
  refine al_c (pc := 27) (snd_icmp_ge C dX4_cellsWithinReach_27 (by decide)) ?_
  refine al_c (pc := 30) (snd_iload_n C dX4_cellsWithinReach_30 rfl) ?_
  refine al_c (pc := 31) (snd_aload_n C dX4_cellsWithinReach_31 rfl) ?_
  refine al_c (pc := 32) (snd_iload_n C dX4_cellsWithinReach_32 rfl) ?_
  refine al_c (pc := 33) (snd_iconst C dX4_cellsWithinReach_33 (by decide)) ?_
  refine al_c (pc := 34) (snd_Ci C (site_V C rfl dX4_cellsWithinReach_34 gX4_cellsWithinReach_X4_fewestTo rfl rfl rfl ⟨rfl, by decide +kernel, by decide +kernel, by decide +kernel⟩ ⟨by decide, by decide⟩) mX4_fewestTo) ?_
  refine al_c (pc := 37) (snd_iconst C dX4_cellsWithinReach_37 (by decide)) ?_
  refine al_c (pc := 38) (snd_icmp_ne C dX4_cellsWithinReach_38 (by decide)) ?_
  refine al_c (pc := 41) (snd_iconst C dX4_cellsWithinReach_41 (by decide)) ?_
  refine al_c (pc := 42) (snd_goto C dX4_cellsWithinReach_42 (by decide)) ?_
  refine al_c (pc := 45) (snd_iconst C dX4_cellsWithinReach_45 (by decide)) ?_
  refine al_c (pc := 46) (snd_iadd C dX4_cellsWithinReach_46) ?_
  refine al_c (pc := 47) (snd_istore_n C dX4_cellsWithinReach_47 rfl (by decide)) ?_
  refine al_c (pc := 48) (snd_iinc C dX4_cellsWithinReach_48 (by decide) (by decide)) ?_
  refine al_c (pc := 51) (snd_goto C dX4_cellsWithinReach_51 (by decide)) ?_
  refine al_c (pc := 54) (snd_iload_n C dX4_cellsWithinReach_54 rfl) ?_
  refine al_c (pc := 55) (snd_Ri C hQ hr dX4_cellsWithinReach_55) ?_
  exact al_0
set_option maxHeartbeats 1000000 in
set_option maxRecDepth 100000 in
theorem mX4_cellsWithinReach : aMi yX4_cellsWithinReach wsX4_cellsWithinReach rmX4_cellsWithinReach tX4_cellsWithinReach := by
  refine aMi_of (by decide +kernel) rfl rfl (by intro av X post hT; obtain ⟨wl, th, rm, pm, ic, it, iv, ie, rc, k, tt, w, h, wm, pq, co, pa, fa, ce, ts, ns, es, on, nx, rfl, rfl, hw2, hw, hh2, hh, hRW, hfr, hv, hp⟩ := hT; exact Nat.le_of_ble_eq_true rfl) ?_
  intro Γ ad av X post C hQ hr hT
  obtain ⟨wl, th, rm, pm, ic, it, iv, ie, rc, k, tt, w, h, wm, pq, co, pa, fa, ce, ts, ns, es, on, nx, rfl, rfl, hw2, hw, hh2, hh, hRW, hfr, hv, hp⟩ := hT
  have OK := okX4_cellsWithinReach C hQ hr
  have hO := okQ_of (wl := wl) hw hh hv hfr
  have hwh := wh_le hw hh
  refine go OK [17] 60 ?_
  refine ⟨_, _, _, _, _, _, _, _, _, _, _, _, _, _, _, _, _, _, _, _, _, _, _, _, _, rfl, rfl, ?_⟩
  refine ⟨k, tt, wl, _, _, _, _, _, _, _, _, _, _, _, _, _, _, _, _, _, _, _, _, _, _, _, rfl, rfl, rfl, rfl, rfl, rfl, hw2, hw, hh2, hh, hRW, hfr, hv, ?_⟩
  obtain ⟨D, hDe⟩ : ∃ D, D = fin (nbF w h wl) 1764 [k * 36 + tt] := ⟨_, rfl⟩
  rw [← hDe] at hp hO ⊢
  intro ic2 it2 iv2 ie2 rc2 fa2 ce2 ts2 ns2 es2 hR
  have hp := hp ic2 it2 iv2 ie2 rc2 fa2 ce2 ts2 ns2 es2
  have loop : ∀ (n c : Nat), c ≤ w * h → w * h - c < n → FG Γ 17 ad 0 0 [(2, .int (nI c)), (1, .int (nI (ct (fun c => (ftc D.2 (k7 w c)).isSome) c))), (0, .ref 0)] [] (MW 0 (nI w) (nI h) rm pm (nI (cm w k)) (nI (tt / 6 + 1)) (nI (tt % 6 + 1)) (nI (eoN tt)) ic2 it2 iv2 ie2 rc2 wm pq co pa fa2 ce2 ts2 ns2 es2 on nx) := by
    intro n
    induction n with
    | zero => intro c _ h; omega
    | succ n ih =>
      intro c hc hn
      refine go OK [17] 60 ?_
      refine And.intro (fun q => ?_) (fun q => ?_)
      · have q : nI w * nI h ≤ nI c := q
        rw [mulI] at q
        have q := (leN (by omega) (by omega)).mp q
        have : c = w * h := by omega
        subst this
        exact ⟨rfl, hp⟩
      · have hlt : c < w * h := by
          rcases Nat.lt_or_ge c (w * h) with z | z
          · exact z
          · exact absurd (show nI w * nI h ≤ nI c by rw [mulI]; exact (leN (by omega) (by omega)).mpr z) q
        have key := ih (c + 1) (by omega) (by omega)
        rw [← nI_p1 c] at key
        obtain ⟨c1, c2, c3⟩ := cm_k7 (c := c) (by omega) hw
        refine ⟨_, _, k7 w c, 0, D, _, _, _, _, _, _, _, _, _, _, _, _, _, _, _, _, _, _, _, _, _, _, _, rfl, by rw [c1], rfl, by omega, rfl, hw, hh, c2, k7_h (by omega) hw hlt, hO, hR, ?_⟩
        have e1 : oI (ftc D.2 (k7 w c)) = -1 ↔ ftc D.2 (k7 w c) = none := oI_ne (fun n hn => by have := ftc_lt hO.1.2 (k7 w c) n hn; omega)
        rw [show fw0 D.2 (k7 w c) 0 = ftc D.2 (k7 w c) from rfl]
        refine And.intro (fun q => ?_) (fun q => ?_)
        · have e : (ftc D.2 (k7 w c)).isSome = true := by
            cases z : ftc D.2 (k7 w c) with
            | none => exact absurd (e1.mpr z) q
            | some x => rfl
          rw [ct_t (p := fun c => (ftc D.2 (k7 w c)).isSome) (n := c) e, ← nI_p1 (ct _ c)] at key
          exact key
        · have e := e1.mp q
          rw [ct_f (p := fun c => (ftc D.2 (k7 w c)).isSome) (n := c) (by simp [e]), ← Int32.add_zero (nI (ct _ c))] at key
          exact key
  exact loop (w * h + 1) 0 (by omega) (by omega)
