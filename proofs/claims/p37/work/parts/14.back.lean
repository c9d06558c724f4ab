/-! ===== searchBackFrom ===== -/
/-- the turns with face f on top, north up to g -/
def sBo (f : Nat) : Nat → List Nat
  | 0 => []
  | g + 1 => if g + 1 ≠ f ∧ g + 1 ≠ 7 - f then sBo f g ++ [wiN f (g + 1)] else sBo f g
theorem sBo_ok : ∀ f, f < 7 → 1 ≤ f → ∀ g, g < 7 → (sBo f g).Nodup ∧ ∀ t ∈ sBo f g, vt t = true ∧ t / 6 + 1 = f := by decide +kernel
theorem sBo_new0 : ∀ f, f < 7 → ∀ g, g < 6 → (decide (1 ≤ f) && (decide (g + 1 ≠ f) && decide (g + 1 ≠ 7 - f))) = true → (!(sBo f g).contains (wiN f (g + 1)) && vt (wiN f (g + 1))) = true := by decide +kernel
theorem sBo_new (f : Nat) (hf : f < 7) (hf1 : 1 ≤ f) (g : Nat) (hg : g < 6) (ne : g + 1 ≠ f ∧ g + 1 ≠ 7 - f) : wiN f (g + 1) ∉ sBo f g ∧ vt (wiN f (g + 1)) = true := by
  have h0 := sBo_new0 f hf g hg (by rw [decide_eq_true hf1, decide_eq_true ne.1, decide_eq_true ne.2]; rfl)
  rw [Bool.and_eq_true, Bool.not_eq_true'] at h0
  obtain ⟨h1, h2⟩ := h0
  exact ⟨fun z => by (rw [List.contains_iff_mem.mpr z] at h1; cases h1), h2⟩
theorem sBo_all0 : ∀ f, f < 7 → ∀ t, t < 36 → 1 ≤ f → vt t = true → t / 6 + 1 = f → (sBo f 6).contains t = true := by decide +kernel
theorem sBo_all (f : Nat) (hf : f < 7) (hf1 : 1 ≤ f) (t : Nat) (ht : t < 36) (hv : vt t = true) (e : t / 6 + 1 = f) : t ∈ sBo f 6 := List.contains_iff_mem.mp (sBo_all0 f hf t ht hf1 hv e)
def sB (e f g : Nat) : List Nat := (sBo f g).map (fun t => e * 36 + t)
theorem sB_nodup {e f g : Nat} (hf : f < 7) (hf1 : 1 ≤ f) (hg : g < 7) : (sB e f g).Nodup := by
  unfold sB
  exact List.Pairwise.map _ (fun a b h z => h (by omega)) (sBo_ok f hf hf1 g hg).1
theorem src0_add {l : List Nat} {v : Nat} (h : v ∉ l) : vis 0 (src0 l) v = src0 (l ++ [v]) := by
  have e : (src0 l).2 v = none := by unfold src0; simp [h]
  unfold vis
  rw [e]
  unfold src0
  simp only [Prod.mk.injEq, true_and]
  funext x
  by_cases hx : x = v
  · simp [hx]
  · simp [hx]
theorem src0_nil : src0 [] = ([], fun _ => none) := by
  unfold src0
  simp
theorem fin_nil (nb : Nat → Nat → Option Nat) (M : Nat) : fin nb M [] = ([], fun _ => none) := by
  rw [← src0_nil]
  exact SS_stop (k := 0) (S0 := src0 []) (by show (src0 []).1.length ≤ 0; rw [src0_nil]; exact Nat.le_refl 0) M (Nat.zero_le M)
def sBk (w h : Nat) (wl : Nat → Int32) (e f : Nat) : List Nat := if frb w h wl e then sB e f 6 else []
theorem bS_src0 {l : List Nat} (hn : l.Nodup) (hl : ∀ v ∈ l, v < 1764) : bS (src0 l) := by
  refine ⟨⟨fun v => ?_, hn, hl⟩, fun v r h => ?_⟩
  · unfold src0
    by_cases z : v ∈ l <;> simp [z]
  · unfold src0 at h
    by_cases z : v ∈ l
    · simp [z] at h
      omega
    · simp [z] at h
abbrev tX3_searchBackFrom : aTv := fun av X post => ∃ (a b : Int32) (e f : Nat) (k tt w h : Nat) (rm pm fd : Int32) (wl pr fe qu co pa : Nat → Int32), av = [.ref 0, .int a, .int b] ∧ a = nI e ∧ b = nI f ∧ X = CW (nI k) (nI tt) rm pm (nI w) (nI h) fd wl pr fe qu co pa ∧ w ≤ 7 ∧ h ≤ 7 ∧ e < 49 ∧ 1 ≤ f ∧ f < 7 ∧
  ∀ (fd2 : Int32) (fe2 qu2 : Nat → Int32), RC (fin (nbF w h wl) 1764 (sBk w h wl e f)) fe2 qu2 fd2 → post (CW (nI k) (nI tt) rm pm (nI w) (nI h) fd2 wl pr fe2 qu2 co pa)
abbrev rmX3_searchBackFrom : Room := { frames := 4, cells := 0, slots := 0, locals := 95 }
theorem inX3_searchBackFrom_X3 : ∀ w ∈ wsX30, w ∈ wsX3_searchBackFrom := by decide +kernel
def tbX3_searchBackFrom (post : List aE → Prop) (ad0 : Nat → Nat) : List (Nat × aO) := [(0, oAL 0 1),
  (1, oGet 2 1 4),
  (4, oCv tX1_forget 1 (some 1) rmX1_forget.cells rmX1_forget.slots rmX3_searchBackFrom.cells rmX3_searchBackFrom.slots 7),
  (7, oAL 0 8),
  (8, oGet 2 0 11),
  (11, oIL 1 12),
  (12, oCi tX0_isFreeCell 2 (some 0) rmX0_isFreeCell.cells rmX0_isFreeCell.slots rmX3_searchBackFrom.cells rmX3_searchBackFrom.slots 15),
  (15, oIf_ne 19 18),
  (18, oRv post ad0 rmX3_searchBackFrom.cells rmX3_searchBackFrom.slots),
  (19, oC (1) 20),
  (20, oIS 3 21),
  (21, oIL 3 22),
  (22, oC (6) 24),
  (24, oIc_gt 60 27),
  (27, oIL 3 28),
  (28, oIL 2 29),
  (29, oIc_eq 54 32),
  (32, oIL 3 33),
  (33, oC (7) 35),
  (35, oIL 2 36),
  (36, oIsub 37),
  (37, oIc_eq 54 40),
  (40, oAL 0 41),
  (41, oGet 2 1 44),
  (44, oIL 1 45),
  (45, oIL 2 46),
  (46, oIL 3 47),
  (47, oCi tX2_with 2 none rmX2_with.cells rmX2_with.slots rmX3_searchBackFrom.cells rmX3_searchBackFrom.slots 50),
  (50, oC (0) 51),
  (51, oCv tX1_reach 4 (some 1) rmX1_reach.cells rmX1_reach.slots rmX3_searchBackFrom.cells rmX3_searchBackFrom.slots 54),
  (54, oInc 3 1 57),
  (57, oGo 21),
  (60, oAL 0 61),
  (61, oGet 2 1 64),
  (64, oAL 0 65),
  (65, oGet 2 0 68),
  (68, oCv tX1_spread 2 (some 1) rmX1_spread.cells rmX1_spread.slots rmX3_searchBackFrom.cells rmX3_searchBackFrom.slots 71),
  (71, oRv post ad0 rmX3_searchBackFrom.cells rmX3_searchBackFrom.slots)]
set_option maxRecDepth 20000 in
theorem okX3_searchBackFrom {Γ : aΓ} {post : List aE → Prop} {ad0 : Nat → Nat} {X0 : List aE} (C : FOK Γ cX3_searchBackFrom wsX3_searchBackFrom RX3 4 rmX3_searchBackFrom) (hQ : isQ Γ (va_Qv post (aBk (gK Γ) ad0 X0 (hsz Γ)) (aA (gK Γ) ad0 X0 (hsz Γ))) rmX3_searchBackFrom ad0 X0) (hr : rTy Γ = none) : AllS Γ (tbX3_searchBackFrom post ad0) := by
  unfold tbX3_searchBackFrom
  refine al_c (pc := 0) (snd_aload_n C dX3_searchBackFrom_0 rfl) ?_
  refine al_c (pc := 1) (snd_get C dX3_searchBackFrom_1 (ci := 2) (kf := 1) rfl (by decide) inX3_searchBackFrom_X3 rfl (by decide +kernel)) ?_
  refine al_c (pc := 4) (snd_Cv C (site_VN C rfl dX3_searchBackFrom_4 gX3_searchBackFrom_X1_forget_n225 rfl rfl rfl (by decide +kernel) (by decide +kernel) (by decide +kernel) (by decide +kernel) ⟨by decide +kernel, by decide +kernel, by decide +kernel⟩ ⟨by decide, by decide⟩) mX1_forget) ?_
  refine al_c (pc := 7) (snd_aload_n C dX3_searchBackFrom_7 rfl) ?_
  refine al_c (pc := 8) (snd_get C dX3_searchBackFrom_8 (ci := 2) (kf := 0) rfl (by decide) inX3_searchBackFrom_X3 rfl (by decide +kernel)) ?_
  refine al_c (pc := 11) (snd_iload_n C dX3_searchBackFrom_11 rfl) ?_
  refine al_c (pc := 12) (snd_Ci C (site_VN C rfl dX3_searchBackFrom_12 gX3_searchBackFrom_X0_isFreeCell_n236 rfl rfl rfl (by decide +kernel) (by decide +kernel) (by decide +kernel) (by decide +kernel) ⟨by decide +kernel, by decide +kernel, by decide +kernel⟩ ⟨by decide, by decide⟩) mX0_isFreeCell) ?_
  refine al_c (pc := 15) (snd_if_ne C dX3_searchBackFrom_15 (by decide)) ?_
  refine al_c (pc := 18) (snd_Rv C hQ hr dX3_searchBackFrom_18) ?_
  refine al_c (pc := 19) (snd_iconst C dX3_searchBackFrom_19 (by decide)) ?_
  refine al_c (pc := 20) (snd_istore_n C dX3_searchBackFrom_20 rfl (by decide)) ?_
  refine al_c (pc := 21) (snd_iload_n C dX3_searchBackFrom_21 rfl) ?_
  refine al_c (pc := 22) (snd_bipush C dX3_searchBackFrom_22 (by decide)) ?_
  refine al_c (pc := 24) (snd_icmp_gt C dX3_searchBackFrom_24 (by decide)) ?_
  refine al_c (pc := 27) (snd_iload_n C dX3_searchBackFrom_27 rfl) ?_
  refine al_c (pc := 28) (snd_iload_n C dX3_searchBackFrom_28 rfl) ?_
  refine al_c (pc := 29) (snd_icmp_eq C dX3_searchBackFrom_29 (by decide)) ?_
  refine al_c (pc := 32) (snd_iload_n C dX3_searchBackFrom_32 rfl) ?_
  refine al_c (pc := 33) (snd_bipush C dX3_searchBackFrom_33 (by decide)) ?_
  refine al_c (pc := 35) (snd_iload_n C dX3_searchBackFrom_35 rfl) ?_
  refine al_c (pc := 36) (snd_isub C dX3_searchBackFrom_36) ?_
  refine al_c (pc := 37) (snd_icmp_eq C dX3_searchBackFrom_37 (by decide)) ?_
  refine al_c (pc := 40) (snd_aload_n C dX3_searchBackFrom_40 rfl) ?_
  refine al_c (pc := 41) (snd_get C dX3_searchBackFrom_41 (ci := 2) (kf := 1) rfl (by decide) inX3_searchBackFrom_X3 rfl (by decide +kernel)) ?_
  refine al_c (pc := 44) (snd_iload_n C dX3_searchBackFrom_44 rfl) ?_
  refine al_c (pc := 45) (snd_iload_n C dX3_searchBackFrom_45 rfl) ?_
  refine al_c (pc := 46) (snd_iload_n C dX3_searchBackFrom_46 rfl) ?_
  refine al_c (pc := 47) (snd_Ci C (site_SN C dX3_searchBackFrom_47 gX3_searchBackFrom_X2_with_n239 rfl rfl rfl (by decide +kernel) (by decide +kernel) (by decide +kernel) ⟨by decide +kernel, by decide +kernel, by decide +kernel⟩ ⟨by decide, by decide⟩) mX2_with) ?_
  refine al_c (pc := 50) (snd_iconst C dX3_searchBackFrom_50 (by decide)) ?_
  refine al_c (pc := 51) (snd_Cv C (site_VN C rfl dX3_searchBackFrom_51 gX3_searchBackFrom_X1_reach_n228 rfl rfl rfl (by decide +kernel) (by decide +kernel) (by decide +kernel) (by decide +kernel) ⟨by decide +kernel, by decide +kernel, by decide +kernel⟩ ⟨by decide, by decide⟩) mX1_reach) ?_
  refine al_c (pc := 54) (snd_iinc C dX3_searchBackFrom_54 (by decide) (by decide)) ?_
  refine al_c (pc := 57) (snd_goto C dX3_searchBackFrom_57 (by decide)) ?_
  refine al_c (pc := 60) (snd_aload_n C dX3_searchBackFrom_60 rfl) ?_
  refine al_c (pc := 61) (snd_get C dX3_searchBackFrom_61 (ci := 2) (kf := 1) rfl (by decide) inX3_searchBackFrom_X3 rfl (by decide +kernel)) ?_
  refine al_c (pc := 64) (snd_aload_n C dX3_searchBackFrom_64 rfl) ?_
  refine al_c (pc := 65) (snd_get C dX3_searchBackFrom_65 (ci := 2) (kf := 0) rfl (by decide) inX3_searchBackFrom_X3 rfl (by decide +kernel)) ?_
  refine al_c (pc := 68) (snd_Cv C (site_VN C rfl dX3_searchBackFrom_68 gX3_searchBackFrom_X1_spread_n232 rfl rfl rfl (by decide +kernel) (by decide +kernel) (by decide +kernel) (by decide +kernel) ⟨by decide +kernel, by decide +kernel, by decide +kernel⟩ ⟨by decide, by decide⟩) mX1_spread) ?_
  refine al_c (pc := 71) (snd_Rv C hQ hr dX3_searchBackFrom_71) ?_
  exact al_0
set_option maxHeartbeats 1000000 in
set_option maxRecDepth 100000 in
theorem mX3_searchBackFrom : aMv yX3_searchBackFrom wsX3_searchBackFrom rmX3_searchBackFrom tX3_searchBackFrom := by
  refine aMv_of (by decide +kernel) rfl rfl (by intro av X post hT; obtain ⟨a, b, e, f, k, tt, w, h, rm, pm, fd, wl, pr, fe, qu, co, pa, rfl, rfl, rfl, rfl, hw, hh, he, hf1, hf, hp⟩ := hT; exact Nat.le_of_ble_eq_true rfl) ?_
  intro Γ ad av X post C hQ hr hT
  obtain ⟨a, b, e, f, k, tt, w, h, rm, pm, fd, wl, pr, fe, qu, co, pa, rfl, rfl, rfl, rfl, hw, hh, he, hf1, hf, hp⟩ := hT
  have OK := okX3_searchBackFrom C hQ hr
  have loop : frN w h wl e → ∀ (n g : Nat) (fd2 : Int32) (fe2 qu2 : Nat → Int32), g ≤ 6 → 6 - g < n → RC (src0 (sB e f g)) fe2 qu2 fd2 → FG Γ 21 ad 0 0 [(3, .int (nI (g + 1))), (0, .ref 0), (1, .int (nI e)), (2, .int (nI f))] [] (CW (nI k) (nI tt) rm pm (nI w) (nI h) fd2 wl pr fe2 qu2 co pa) := by
    intro hfr n
    induction n with
    | zero => intro g _ _ _ _ h; omega
    | succ n ih =>
      intro g fd2 fe2 qu2 hg hn hR
      have next : ∀ (fd4 : Int32) (fe4 qu4 : Nat → Int32), g < 6 → RC (src0 (sB e f (g + 1))) fe4 qu4 fd4 → FG Γ 21 ad 0 0 [(3, .int (nI (g + 1) + 1)), (0, .ref 0), (1, .int (nI e)), (2, .int (nI f))] [] (CW (nI k) (nI tt) rm pm (nI w) (nI h) fd4 wl pr fe4 qu4 co pa) := by
        intro fd4 fe4 qu4 hg6 hR4
        have := ih (g + 1) fd4 fe4 qu4 (by omega) (by omega) hR4
        rw [← nI_p1 (g + 1)] at this
        exact this
      refine go OK [21] 80 ?_
      refine And.intro (fun q => ?_) (fun q => ?_)
      · have q := (ltN (a := 6) (b := g + 1) (by omega) (by omega)).mp q
        have : g = 6 := by omega
        subst this
        refine ⟨sB e f 6, _, _, _, _, _, _, _, _, _, _, _, _, _, rfl, rfl, hw, hh, sB_nodup hf hf1 (by omega), fun s hs => ?_, hR, fun fd3 fe3 qu3 hR3 => ?_⟩
        · obtain ⟨t, ht, rfl⟩ := List.mem_map.mp hs
          have h1 := (sBo_ok f hf hf1 6 (by omega)).2 t ht
          have h2 := vt_lt h1.1
          exact ⟨by rw [show (e * 36 + t) % 36 = t by omega]; exact h1.1, by rw [show (e * 36 + t) / 36 = e by omega]; exact hfr⟩
        · refine ⟨rfl, hp _ _ _ ?_⟩
          unfold sBk
          rw [if_pos (frb_iff.mpr hfr)]
          exact hR3
      have hg6 : g < 6 := by
        rcases Nat.lt_or_ge g 6 with z | z
        · exact z
        · exact absurd ((ltN (a := 6) (b := g + 1) (by omega) (by omega)).mpr (by omega)) q
      refine And.intro (fun q => ?_) (fun q1 => ?_)
      · have q := (eqN (by omega) (by omega)).mp q
        refine next _ _ _ hg6 ?_
        have : sB e f (g + 1) = sB e f g := by unfold sB; rw [sBo, if_neg (fun z => z.1 q)]
        rw [this]
        exact hR
      refine And.intro (fun q => ?_) (fun q2 => ?_)
      · have q : nI (g + 1) = 7 - nI f := q
        rw [n7 _ (by omega)] at q
        have q := (eqN (by omega) (by omega)).mp q
        refine next _ _ _ hg6 ?_
        have : sB e f (g + 1) = sB e f g := by unfold sB; rw [sBo, if_neg (fun z => z.2 q)]
        rw [this]
        exact hR
      have ne : g + 1 ≠ f ∧ g + 1 ≠ 7 - f := by
        refine ⟨fun z => q1 (by rw [z]), fun z => q2 ?_⟩
        show nI (g + 1) = 7 - nI f
        rw [n7 _ (by omega), z]
      obtain ⟨n1, n2⟩ := sBo_new f hf hf1 g hg6 ne
      have hwl := vt_lt n2
      refine ⟨_, _, f, g + 1, rfl, rfl, rfl, hf, by omega, hf1, by omega, ?_⟩
      refine ⟨_, _, _, e, wiN f (g + 1), 0, _, _, _, _, _, _, _, _, _, _, _, _, _, _, rfl, rfl, rfl, rfl, rfl, he, hwl, by omega, hR, bS_src0 (sB_nodup hf hf1 (by omega)) (fun v hv => ?_), fun fd4 fe4 qu4 hR4 => ?_⟩
      · obtain ⟨t, ht, rfl⟩ := List.mem_map.mp hv
        have h2 := vt_lt ((sBo_ok f hf hf1 g (by omega)).2 t ht).1
        omega
      · refine next _ _ _ hg6 ?_
        have hnot : e * 36 + wiN f (g + 1) ∉ sB e f g := fun z => by
          obtain ⟨t, ht, ht2⟩ := List.mem_map.mp z
          exact n1 (by rw [show wiN f (g + 1) = t by omega]; exact ht)
        rw [src0_add hnot] at hR4
        have : sB e f (g + 1) = sB e f g ++ [e * 36 + wiN f (g + 1)] := by unfold sB; rw [sBo, if_pos ne]; simp
        rw [this]
        exact hR4
  refine go OK [21] 80 ?_
  refine ⟨_, _, _, _, _, _, _, _, _, _, _, _, _, rfl, rfl, fun fe2 hR => ?_⟩
  refine ⟨_, e, _, _, _, _, _, _, _, _, _, _, _, _, _, rfl, rfl, rfl, hw, hh, he, fun hfr => ?_, fun hfr => ?_⟩
  · refine And.intro (fun _ => ?_) (fun q2 => absurd q2 (by decide))
    rw [← src0_nil] at hR
    exact loop hfr 7 0 _ _ _ (by omega) (by omega) hR
  · refine And.intro (fun q2 => absurd rfl q2) (fun _ => ?_)
    refine ⟨rfl, hp _ _ _ ?_⟩
    unfold sBk
    rw [if_neg (fun z => hfr (frb_iff.mp z)), fin_nil]
    exact hR
