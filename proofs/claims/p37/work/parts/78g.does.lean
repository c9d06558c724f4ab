/-! ===== the law rolls ===== -/
theorem qW_of {T : aTi} {N : List aE → Nat} {ad0 ad : Nat → Nat} {mc ms RC RS nx : Nat} {ro : Option Nat} {K : aK} {k sl : Nat} {ls : List (Nat × Value)} {t av : List Value} {X : List aE} {P : Int32 → List aE → Prop} (NN : Nat) (hN : N X = NN) (had : ∀ i, 1000 ≤ i → ad i = ad0 i) (hls : ls.all (fun z => okW NN z.2) = true) (ht : t.all (okW NN) = true) (hX : X.all (okE 1000) = true) (hXl : X.length ≤ 1000) (hro : rcvP ro X av) (h4 : le4 t = true) (hc : k + mc ≤ RC) (hs : sl + ms ≤ RS) (hT : T av X P)
    (hK : ∀ r X2, P r X2 → NN ≤ X2.length ∧ X2.length ≤ 999 ∧ X2.all (okE X2.length) = true ∧ ∀ adJ, Ag NN ad adJ → K nx adJ (k + mc) (sl + ms) ls (.int r :: t) X2) :
    ∃ (X1 X' : List aE) (av' : List Value) (P : Int32 → List aE → Prop), le4 t = true ∧ k + mc ≤ RC ∧ sl + ms ≤ RS ∧ X1.length = 0 ∧ X = X1 ++ X'.map (shE 0) ∧ av = av'.map (shV 0) ∧ qOK ad0 ad 0 (N X') ls t X1 X' av' ∧ rcvP ro X' av' ∧ T av' X' P ∧
  ∀ r X2, P r X2 → N X' ≤ X2.length ∧ X2.length + 0 ≤ 999 ∧ X2.all (okE X2.length) = true ∧ ∀ adJ, Ag (0 + N X') ad adJ → K nx adJ (k + mc) (sl + ms) ls (.int r :: t) (X1 ++ X2.map (shE 0)) := by
  refine ⟨[], X, av, P, h4, hc, hs, rfl, (shEs_0 _).symm, (shVs_0 _).symm, qOK_of (N0 := NN) had (by rw [hN]; omega) hls ht rfl hX hXl (Or.inl rfl), hro, hT, fun r X2 h9 => ?_⟩
  obtain ⟨g1, g2, g3, g4⟩ := hK r X2 h9
  rw [hN, List.nil_append, shEs_0, Nat.zero_add]
  exact ⟨g1, g2, g3, g4⟩
theorem jx_len {c t rm pm w9 h9 fd : Int32} {wl pr fe qu co pa : Nat → Int32} {w h rN pN k : Nat} {fw fp : Nat → Nat → Int32} {cs as df : Nat → Int32} : (CW c t rm pm w9 h9 fd wl pr fe qu co pa ++ Zs w h rN pN k fw fp cs as df).length = 15 + w + w := by
  rw [List.length_append, CW_len, Zs_len]
  omega
theorem jx_ok {N : Nat} {c t rm pm w9 h9 fd : Int32} {wl pr fe qu co pa : Nat → Int32} {w h rN pN k : Nat} {fw fp : Nat → Nat → Int32} {cs as df : Nat → Int32} (hN : 15 + w + w ≤ N) : (CW c t rm pm w9 h9 fd wl pr fe qu co pa ++ Zs w h rN pN k fw fp cs as df).all (okE N) = true := by
  rw [List.all_append, CW_ok (by omega), Zs_ok hN]
  rfl
/-- whatever joint state comes at pc -/
def Nx (Γ : aΓ) (ad0 : Nat → Nat) (pc a b : Nat) (ls : List (Nat × Value)) (B0 : Nat) : Prop := ∀ (ad2 : Nat → Nat) (B k t w h rN pN : Nat) (fd : Int32) (wl pr fe qu co pa : Nat → Int32) (fw fp : Nat → Nat → Int32) (cs as df : Nat → Int32), (∀ i, 1000 ≤ i → ad2 i = ad0 i) → B ≤ B0 → IVd B k t w h rN pN wl pr co pa fw fp cs as df →
  FG Γ pc ad2 a b ls [] (CW (nI k) (nI t) (nI rN) (nI pN) (nI w) (nI h) fd wl pr fe qu co pa ++ Zs w h rN pN k fw fp cs as df)
theorem k_goes {B d m k t w h rN pN t2 : Nat} {fd : Int32} {wl pr fe qu co pa : Nat → Int32} {fw fp : Nat → Nat → Int32} {cs as df : Nat → Int32} (hB : B ≤ 9000) (hd : d < 4) (hm : nxt w h wl k d = some m) (ht : rlN t d = t2) (hI : IVd B k t w h rN pN wl pr co pa fw fp cs as df) : tL_goes [.ref 0, .ref 9, .int (nI d)] (CW (nI k) (nI t) (nI rN) (nI pN) (nI w) (nI h) fd wl pr fe qu co pa ++ Zs w h rN pN k fw fp cs as df)
    (fun r X2 => r = 1 ∧ ∃ (fp2 : Nat → Nat → Int32) (as2 df2 : Nat → Int32), IVd (B + 1) m t2 w h (rN + 1) (pnN pa (dnF t d) pN) wl (prP pa (dnF t d) m co pr) co (paP pa (dnF t d)) fw fp2 cs as2 df2 ∧ X2 = CW (nI m) (nI t2) (nI (rN + 1)) (nI (pnN pa (dnF t d) pN)) (nI w) (nI h) fd wl (prP pa (dnF t d) m co pr) fe qu co (paP pa (dnF t d)) ++ Zs w h (rN + 1) (pnN pa (dnF t d) pN) m fw fp2 cs as2 df2) := by
  subst ht
  exact ⟨B, d, m, k, t, w, h, rN, pN, fd, wl, pr, fe, qu, co, pa, fw, fp, cs, as, df, rfl, rfl, hB, hd, hm, hI, fun fp2 as2 df2 hI2 => ⟨rfl, fp2, as2, df2, hI2, rfl⟩⟩
theorem ro_none {X : List aE} {av : List Value} : rcvP none X av := fun ci hc => by cases hc
set_option maxHeartbeats 4000000 in
set_option maxRecDepth 100000 in
theorem lw_919 {Γ : aΓ} {ad0 ad : Nat → Nat} (C : FOK Γ code wsL_law RL 27 room_1) (CX : FOX Γ) (CN : FON ad0 Γ) (hL : isLQ Γ) (had : ∀ i, 1000 ≤ i → ad i = ad0 i) (a b : Nat) (ha : a ≤ 20000) (hb : b ≤ 100000) (k tt w h : Nat) (rm pm fd : Int32) (wl pr fe qu co pa : Nat → Int32) (Z : List aE) (v ti x21 x22 x23 : Int32) (pN pM : Nat) (S e9 : Nat) (hS : S ≤ 120) (he : e9 ≤ 2) (h9 : pN ≤ 9000) (hpm : pm = nI (pN + e9)) (hp6 : ∀ f, 1 ≤ f → f ≤ 6 → inR (pa f) 0 20) (hs6 : pS pa 6 + e9 = S)
    (hK : FG Γ 963 ad (a + 560) (b + 3200) [(4, .int v), (3, .int ti), (2, .ref 9), (1, .ref 0), (0, .ref 1000)] [] (CW (nI k) (nI tt) rm pm (nI w) (nI h) fd wl pr fe qu co pa ++ Z)) : FG Γ 919 ad (a + 550) (b + 3140) [(26, .int 1), (25, .int (nI pN)), (24, .int (nI S)), (23, .int x23), (22, .int x22), (21, .int x21), (4, .int v), (3, .int ti), (2, .ref 9), (1, .ref 0), (0, .ref 1000)] [] (CW (nI k) (nI tt) rm pm (nI w) (nI h) fd wl pr fe qu co pa ++ Z) := by
  have OK := okL_law C CX CN hL
  have loop : ∀ (g n : Nat), n + g = 6 → FG Γ 919 ad (a + 550 + n) (b + 3140 + 6 * n) [(26, .int (nI (n + 1))), (25, .int (nI pN)), (24, .int (nI (S - pS pa n))), (23, .int x23), (22, .int x22), (21, .int x21), (4, .int v), (3, .int ti), (2, .ref 9), (1, .ref 0), (0, .ref 1000)] [] (CW (nI k) (nI tt) rm pm (nI w) (nI h) fd wl pr fe qu co pa ++ Z) := by
    intro g
    induction g with
    | zero =>
      intro n hn
      have : n = 6 := by omega
      subst this
      subst hpm
      have e1 : nI (pN + e9) - nI pN = nI (S - pS pa 6) := by
        rw [pk_sub (by omega)]
        congr 1
        omega
      refine go OK [963] 60 ?_
      refine And.intro (fun _ => ?_) (fun q => absurd (nIge (a := 7) (b := 7) (by decide) (by decide) (Nat.le_refl 7)) q)
      refine hi_of (fs := _) rfl rfl (k_prints k tt w h rm (nI (pN + e9)) fd wl pr fe qu co pa) rfl (by omega) (by omega) ?_
      intro r X2 h9
      obtain ⟨h8, h7⟩ := h9
      subst h7
      rw [h8]
      refine ⟨rfl, ?_⟩
      refine And.intro (fun q => absurd e1.symm q) (fun _ => ?_)
      refine And.intro (fun _ => ?_) (fun q => absurd (show nI (S - pS pa 6) ≤ nI 2 from nIge (by omega) (by decide) (by omega)) q)
      exact FG_to [6, 7, 8, 9, 10] rfl (by omega) (by omega) hK
    | succ g ih =>
      intro n hn
      have key := ih (n + 1) (by omega)
      have hi := nv_in (hp6 (n + 1) (by omega) (by omega))
      have hle : pS pa (n + 1) ≤ pS pa 6 := pS_le (by omega) (fun f _ _ => Nat.le_refl _)
      have hst : pS pa (n + 1) = pS pa n + nv pa (n + 1) := rfl
      have kp := k_paintOf k tt w h rm pm fd wl pr fe qu co pa (n + 1) (by omega) (by omega)
      rw [hi.1] at kp
      have e2 : nI (S - pS pa (n + 1)) = nI (S - pS pa n) - nI (nv pa (n + 1)) := by
        rw [pk_sub (by omega)]
        congr 1
        omega
      rw [e2, ← nI_p1] at key
      refine go OK [919] 60 ?_
      refine And.intro (fun q => absurd ((leN (a := 7) (by decide) (by omega)).mp q) (by omega)) (fun _ => ?_)
      refine gX_of (fs := _) rfl rfl (kp) rfl (by omega) (by omega) ?_ (fun _ _ q => q.elim)
      rintro r X2 ⟨rfl, rfl⟩
      refine ⟨rfl, ?_⟩
      exact FG_to [0, 2, 1, 3, 4, 5, 6, 7, 8, 9, 10] rfl (by omega) (by omega) key
  exact loop 6 0 rfl
set_option maxHeartbeats 4000000 in
set_option maxRecDepth 100000 in
theorem lw_841 {Γ : aΓ} {ad0 ad : Nat → Nat} (C : FOK Γ code wsL_law RL 27 room_1) (CX : FOX Γ) (CN : FON ad0 Γ) (hL : isLQ Γ) (a b : Nat) (ha : a ≤ 20000) (hb : b ≤ 100000) (k tt w h : Nat) (rm pm fd : Int32) (wl pr fe qu co pa : Nat → Int32) (Z : List aE) (v ti x21 x22 x23 : Int32) (hp6 : ∀ f, 1 ≤ f → f ≤ 6 → inR (pa f) 0 20)
    (hK : FG Γ 871 ad (a + 520) (b + 2980) [(25, .int pm), (24, .int (nI (pS pa 6))), (23, .int x23), (22, .int x22), (21, .int x21), (4, .int v), (3, .int ti), (2, .ref 9), (1, .ref 0), (0, .ref 1000)] [] (CW (nI k) (nI tt) rm pm (nI w) (nI h) fd wl pr fe qu co pa ++ Z)) : FG Γ 841 ad (a + 510) (b + 2930) [(25, .int 1), (24, .int 0), (23, .int x23), (22, .int x22), (21, .int x21), (4, .int v), (3, .int ti), (2, .ref 9), (1, .ref 0), (0, .ref 1000)] [] (CW (nI k) (nI tt) rm pm (nI w) (nI h) fd wl pr fe qu co pa ++ Z) := by
  have OK := okL_law C CX CN hL
  have loop : ∀ (g n : Nat), n + g = 6 → FG Γ 841 ad (a + 510 + n) (b + 2930 + 6 * n) [(25, .int (nI (n + 1))), (24, .int (nI (pS pa n))), (23, .int x23), (22, .int x22), (21, .int x21), (4, .int v), (3, .int ti), (2, .ref 9), (1, .ref 0), (0, .ref 1000)] [] (CW (nI k) (nI tt) rm pm (nI w) (nI h) fd wl pr fe qu co pa ++ Z) := by
    intro g
    induction g with
    | zero =>
      intro n hn
      have : n = 6 := by omega
      subst this
      refine go OK [871] 60 ?_
      refine And.intro (fun _ => ?_) (fun q => absurd (nIge (a := 7) (b := 7) (by decide) (by decide) (Nat.le_refl 7)) q)
      refine hi_of (fs := _) rfl rfl (k_prints k tt w h rm pm fd wl pr fe qu co pa) rfl (by omega) (by omega) ?_
      intro r X2 h9
      obtain ⟨h8, h7⟩ := h9
      subst h7
      rw [h8]
      refine ⟨rfl, ?_⟩
      exact FG_wid (by omega) (by omega) hK
    | succ g ih =>
      intro n hn
      have key := ih (n + 1) (by omega)
      have hi := nv_in (hp6 (n + 1) (by omega) (by omega))
      have kp := k_paintOf k tt w h rm pm fd wl pr fe qu co pa (n + 1) (by omega) (by omega)
      rw [hi.1] at kp
      have e2 : nI (pS pa (n + 1)) = nI (pS pa n) + nI (nv pa (n + 1)) := (nI_add _ _).symm
      rw [e2, ← nI_p1] at key
      refine go OK [841] 60 ?_
      refine And.intro (fun q => absurd ((leN (a := 7) (by decide) (by omega)).mp q) (by omega)) (fun _ => ?_)
      refine gX_of (fs := _) rfl rfl (kp) rfl (by omega) (by omega) ?_ (fun _ _ q => q.elim)
      rintro r X2 ⟨rfl, rfl⟩
      refine ⟨rfl, ?_⟩
      exact FG_wid (by omega) (by omega) key
  exact loop 6 0 rfl
theorem rem4 {d : Nat} (hd : d < 4) : nI d + 2 - (nI d + 2) / 4 * 4 = nI ((d + 2) % 4) := by
  have : ∀ d, d < 4 → nI d + 2 - (nI d + 2) / 4 * 4 = nI ((d + 2) % 4) := by decide +kernel
  exact this d hd
set_option maxHeartbeats 4000000 in
set_option maxRecDepth 100000 in
theorem lw_799 {Γ : aΓ} {ad0 ad : Nat → Nat} (C : FOK Γ code wsL_law RL 27 room_1) (CX : FOX Γ) (CN : FON ad0 Γ) (hL : isLQ Γ) (had : ∀ i, 1000 ≤ i → ad i = ad0 i) (a b : Nat) (ha : a ≤ 20000) (hb : b ≤ 100000) (B k tt w h rN pN : Nat) (fd : Int32) (wl pr fe qu co pa : Nat → Int32) (fw fp : Nat → Nat → Int32) (cs as df : Nat → Int32) (v ti : Int32) (hB : B ≤ 8000) (hI : IVd B k tt w h rN pN wl pr co pa fw fp cs as df)
    (hK : Nx Γ ad0 22 (a + 1000) (b + 6000) [(3, .int (ti + 1)), (2, .ref 9), (1, .ref 0), (0, .ref 1000)] (B + 2)) : FG Γ 799 ad (a + 500) (b + 2900) [(4, .int v), (3, .int ti), (2, .ref 9), (1, .ref 0), (0, .ref 1000)] [] (CW (nI k) (nI tt) (nI rN) (nI pN) (nI w) (nI h) fd wl pr fe qu co pa ++ Zs w h rN pN k fw fp cs as df) := by
  have OK := okL_law C CX CN hL
  obtain ⟨a1, a2, a3, a4, a5, a6, a7, a8, a9, a10, a11, a12, a13, a14, a15⟩ := id hI
  obtain ⟨k1, k2, k3⟩ := id a6
  have hk : k < 49 := by omega
  have ht := vt_lt a5
  have st963 : ∀ (ad2 : Nat → Nat) (B2 k2 t2 rN2 pN2 : Nat) (pr2 pa2 : Nat → Int32) (fp2 : Nat → Nat → Int32) (as2 df2 : Nat → Int32), (∀ i, 1000 ≤ i → ad2 i = ad0 i) → B2 ≤ B + 2 → IVd B2 k2 t2 w h rN2 pN2 wl pr2 co pa2 fw fp2 cs as2 df2 → FG Γ 963 ad2 (a + 560) (b + 3200) [(4, .int v), (3, .int ti), (2, .ref 9), (1, .ref 0), (0, .ref 1000)] [] (CW (nI k2) (nI t2) (nI rN2) (nI pN2) (nI w) (nI h) fd wl pr2 fe qu co pa2 ++ Zs w h rN2 pN2 k2 fw fp2 cs as2 df2) := by
    intro ad2 B2 k2 t2 rN2 pN2 pr2 pa2 fp2 as2 df2 h1 h2 h3
    have key := hK ad2 B2 k2 t2 w h rN2 pN2 fd wl pr2 fe qu co pa2 fw fp2 cs as2 df2 h1 h2 h3
    refine go OK [22] 60 ?_
    exact FG_to [0, 2, 3, 4] rfl (by omega) (by omega) key
  have stR : ∀ (d m : Nat), d < 4 → nxt w h wl k d = some m → FG Γ 871 ad (a + 520) (b + 2980) [(25, .int (nI pN)), (24, .int (nI (pS pa 6))), (23, .int (nI (faN tt 0))), (22, .int (nI (tt / 6 + 1))), (21, .int (nI d)), (4, .int v), (3, .int ti), (2, .ref 9), (1, .ref 0), (0, .ref 1000)] [] (CW (nI k) (nI tt) (nI rN) (nI pN) (nI w) (nI h) fd wl pr fe qu co pa ++ Zs w h rN pN k fw fp cs as df) := by
    intro d m hd hm
    have hd2 : (d + 2) % 4 < 4 := Nat.mod_lt _ (by decide)
    have hrev := nxt_rev a2 a6 hd hm
    have hrl := rlN_rev a5 hd
    have hv1 := rlN_vt a5 hd
    have dn1 := dnF_in a5 hd
    have dn2 := dnF_in hv1 hd2
    have hp6 : ∀ f, 1 ≤ f → f ≤ 6 → inR (pa f) 0 20 := fun f f1 f6 => (a13 f f1 f6).2.2.2
    obtain ⟨x1, q1, y1, y2, y3⟩ := paP_S (pN := pN) dn1.1 dn1.2 (hp6 _ dn1.1 dn1.2)
    have kg := k_goes (fd := fd) (fe := fe) (qu := qu) (by omega) hd hm rfl hI
    generalize dnF tt d = f1 at kg dn1 x1 y2 y3
    refine go OK [881] 60 ?_
    refine qW_of 10 rfl had rfl rfl (jx_ok (by omega)) (by rw [jx_len]; omega) ro_none rfl (by omega) (by omega) kg ?_
    rintro r X2 ⟨rfl, fp2, as2, df2, hI2, rfl⟩
    refine ⟨by rw [jx_len]; omega, by rw [jx_len]; omega, jx_ok (by rw [jx_len]; omega), fun ad2 hag => ?_⟩
    refine And.intro (fun q => absurd q (by decide)) (fun _ => ?_)
    have had2 : ∀ i, 1000 ≤ i → ad2 i = ad0 i := fun i hi => (hag i (Or.inr hi)).trans (had i hi)
    have hpa2 := hI2.2.2.2.2.2.2.2.2.2.2.2.2.1
    have hp62 : ∀ f, 1 ≤ f → f ≤ 6 → inR (paP pa f1 f) 0 20 := fun f f1 f6 => (hpa2 f f1 f6).2.2.2
    generalize paP pa f1 = pa1 at hI2 hp62 hpa2 x1 y3 ⊢
    generalize prP pa f1 m co pr = pr1 at hI2 ⊢
    generalize pnN pa f1 pN = pN1 at hI2 y2 ⊢
    obtain ⟨x2, q2, z1, z2, z3⟩ := paP_S (pN := pN1) dn2.1 dn2.2 (hp62 _ dn2.1 dn2.2)
    have kg2 := k_goes (fd := fd) (fe := fe) (qu := qu) (by omega) hd2 hrev hrl hI2
    rw [← rem4 hd] at kg2
    generalize dnF (rlN tt d) ((d + 2) % 4) = f2 at kg2 dn2 x2 z2 z3
    refine FG_wid (k' := a + 532) (n' := b + 3052) (by omega) (by omega) ?_
    refine go OK [919] 80 ?_
    refine ⟨by decide, ?_⟩
    refine qW_of 10 rfl had2 rfl rfl (jx_ok (by omega)) (by rw [jx_len]; omega) ro_none rfl (by omega) (by omega) kg2 ?_
    rintro r X2 ⟨rfl, fp3, as3, df3, hI3, rfl⟩
    refine ⟨by rw [jx_len]; omega, by rw [jx_len]; omega, jx_ok (by rw [jx_len]; omega), fun ad3 hag3 => ?_⟩
    refine And.intro (fun q => absurd q (by decide)) (fun _ => ?_)
    have had3 : ∀ i, 1000 ≤ i → ad3 i = ad0 i := fun i hi => (hag3 i (Or.inr hi)).trans (had2 i hi)
    have hpa3 := hI3.2.2.2.2.2.2.2.2.2.2.2.2.1
    have hp63 : ∀ f, 1 ≤ f → f ≤ 6 → inR (paP pa1 f2 f) 0 20 := fun f f1 f6 => (hpa3 f f1 f6).2.2.2
    have key := st963 ad3 (B + 1 + 1) k tt (rN + 1 + 1) (pnN pa1 f2 pN1) (prP pa1 f2 k co pr1) (paP pa1 f2) fp3 as3 df3 had3 (by omega) hI3
    generalize paP pa1 f2 = pa3 at hI3 hp63 x2 z3 key ⊢
    generalize prP pa1 f2 k co pr1 = pr3 at hI3 key ⊢
    generalize pnN pa1 f2 pN1 = pN3 at hI3 z2 key ⊢
    have hS6 : pS pa 6 ≤ 120 := by
      have g : ∀ n, n ≤ 6 → pS pa n ≤ 20 * n := by
        intro n
        induction n with
        | zero => intro _; exact Nat.le_refl 0
        | succ n ih =>
          intro hn
          have e := (nv_in (hp6 (n + 1) (by omega) hn)).2
          have i := ih (by omega)
          show pS pa n + nv pa (n + 1) ≤ _
          omega
      exact g 6 (Nat.le_refl 6)
    generalize Zs w h (rN + 1 + 1) pN3 k fw fp3 cs as3 df3 = Z3 at key ⊢
    refine hi_of (fs := _) rfl rfl (k_top k tt w h (nI (rN + 1 + 1)) (nI pN3) fd wl pr3 fe qu co pa3 ht) rfl (by omega) (by omega) ?_
    rintro r X2 ⟨rfl, rfl⟩
    refine ⟨rfl, ?_⟩
    refine And.intro (fun q => absurd rfl q) (fun _ => ?_)
    refine gX_of (fs := _) rfl rfl (k_faceTo k tt w h (nI (rN + 1 + 1)) (nI pN3) fd wl pr3 fe qu co pa3 a5 0 (by decide)) rfl (by omega) (by omega) ?_ (fun _ _ q => q.elim)
    rintro r X2 ⟨rfl, rfl⟩
    refine ⟨rfl, ?_⟩
    refine And.intro (fun _ => ?_) (fun q => absurd rfl q)
    exact FG_wid (by omega) (by omega) (lw_919 C CX CN hL had3 a b ha hb k tt w h (nI (rN + 1 + 1)) (nI pN3) fd wl pr3 fe qu co pa3 Z3 v ti (nI d) (nI (tt / 6 + 1)) (nI (faN tt 0)) pN 0 (pS pa 6) (q1 + q2) hS6 (by omega) (by omega) (by rw [z2, y2, Nat.add_assoc]) hp63 (by omega) key)
  refine go OK [822, 963] 60 ?_
  refine hB_of 4 (by decide) (by decide) rfl (by omega) (by omega) ?_
  intro d hd
  refine gX_of (fs := _) rfl rfl (k_canRoll k tt w h (nI rN) (nI pN) fd wl pr fe qu co pa a2 a4 hk d hd) rfl (by omega) (by omega) ?_ (fun _ _ q => q.elim)
  rintro r X2 ⟨rfl, rfl⟩
  refine ⟨rfl, ?_⟩
  cases hm : nxt w h wl k d with
  | none =>
    refine And.intro (fun q => absurd rfl q) (fun _ => ?_)
    exact FG_to [1, 2, 3, 4, 5] rfl (by omega) (by omega) (st963 ad B k tt rN pN pr pa fp as df had (by omega) hI)
  | some m =>
    refine And.intro (fun _ => ?_) (fun q => absurd (show (1 : Int32) = 0 from q) (by decide))
    have key := stR d m hd hm
    generalize Zs w h rN pN k fw fp cs as df = Z at key ⊢
    refine FG_wid (k' := a + 505) (n' := b + 2910) (by omega) (by omega) ?_
    refine go OK [841] 60 ?_
    refine hi_of (fs := _) rfl rfl (k_top k tt w h (nI rN) (nI pN) fd wl pr fe qu co pa ht) rfl (by omega) (by omega) ?_
    rintro r X2 ⟨rfl, rfl⟩
    refine ⟨rfl, ?_⟩
    refine gX_of (fs := _) rfl rfl (k_faceTo k tt w h (nI rN) (nI pN) fd wl pr fe qu co pa a5 0 (by decide)) rfl (by omega) (by omega) ?_ (fun _ _ q => q.elim)
    rintro r X2 ⟨rfl, rfl⟩
    refine ⟨rfl, ?_⟩
    exact FG_wid (by omega) (by omega) (lw_841 C CX CN hL a b ha hb k tt w h (nI rN) (nI pN) fd wl pr fe qu co pa Z v ti (nI d) (nI (tt / 6 + 1)) (nI (faN tt 0)) (fun f f1 f6 => (a13 f f1 f6).2.2.2) key)
