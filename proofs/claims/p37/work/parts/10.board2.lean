/-! ===== PaintedDie$Board, the rest ===== -/
def oI : Option Nat → Int32
  | some r => nI r
  | none => -1
theorem nI_m1 {n : Nat} (h : n < 10000) : ¬ nI n = -1 := fun e => by
  have := congrArg Int32.toInt e
  rw [nI_toInt (by omega)] at this
  have h2 : (-1 : Int32).toInt = -1 := by decide
  omega
theorem oI_ne {r : Option Nat} (h : ∀ n, r = some n → n < 10000) : oI r = -1 ↔ r = none := by
  cases r with
  | none => exact ⟨fun _ => rfl, fun _ => rfl⟩
  | some n => exact ⟨fun e => absurd e (nI_m1 (h n rfl)), fun e => by cases e⟩
theorem leN {a b : Nat} (ha : a < 10000) (hb : b < 10000) : nI a ≤ nI b ↔ a ≤ b := nI_leI (by omega) (by omega)
theorem ltN {a b : Nat} (ha : a < 10000) (hb : b < 10000) : nI a < nI b ↔ a < b := nI_ltI (by omega) (by omega)
theorem eqN {a b : Nat} (ha : a < 10000) (hb : b < 10000) : nI a = nI b ↔ a = b := nI_eq (by omega) (by omega)
theorem cellI (i j : Nat) : nI j * 7 + nI i = nI (j * 7 + i) := by rw [show (7 : Int32) = nI 7 from rfl, pk_mul, nI_add]
theorem frB_nI {i j w h : Nat} {wl : Nat → Int32} (hi : i < 10000) (hj : j < 10000) (hw : w ≤ 7) (hh : h ≤ 7) : frB (nI i) (nI j) w h wl ↔ i < w ∧ j < h ∧ wl (j * 7 + i) = 0 := by
  constructor
  · intro ⟨a, b, e1, e2, h1, h2, h3⟩
    have e1 := (eqN hi (by omega)).mp e1
    have e2 := (eqN hj (by omega)).mp e2
    subst e1
    subst e2
    exact ⟨h1, h2, h3⟩
  · intro ⟨h1, h2, h3⟩
    exact ⟨i, j, rfl, rfl, h1, h2, h3⟩
theorem frB_n1 {a b : Int32} {w h : Nat} {wl : Nat → Int32} (hw : w ≤ 7) (hh : h ≤ 7) (q : a = -1 ∨ b = -1) : ¬ frB a b w h wl := fun ⟨i, j, e1, e2, h1, h2, h3⟩ => by
  rcases q with q | q
  · exact nI_m1 (by omega : i < 10000) (e1.symm.trans q)
  · exact nI_m1 (by omega : j < 10000) (e2.symm.trans q)
theorem nI_p1 (n : Nat) : nI n + 1 = nI (n + 1) := nI_1 n
theorem nI_s1 {n : Nat} (h : 1 ≤ n) : nI n + (-1) = nI (n - 1) := by
  have := pk_m1 (n - 1)
  rwa [show n - 1 + 1 = n by omega] at this
theorem nI_z1 : nI 0 + (-1) = -1 := by decide
/-- what isFree says of the cell beside, and where it lies -/
theorem nx_case {w h k d : Nat} {wl : Nat → Int32} {a b : Int32} (hw : w ≤ 7) (hh : h ≤ 7) (hk : k < 49) (hd : d < 4)
    (hab : (d = 0 ∧ a = nI (k % 7) ∧ b = nI (k / 7) + (-1)) ∨ (d = 1 ∧ a = nI (k % 7) + 1 ∧ b = nI (k / 7)) ∨ (d = 2 ∧ a = nI (k % 7) ∧ b = nI (k / 7) + 1) ∨ (d = 3 ∧ a = nI (k % 7) + (-1) ∧ b = nI (k / 7))) :
    (frB a b w h wl → b * 7 + a = oI (nxt w h wl k d)) ∧ (¬ frB a b w h wl → nxt w h wl k d = none) := by
  have k1 : k % 7 < 7 := by omega
  have k2 : k / 7 < 7 := by omega
  have fin : ∀ (i j : Nat) (c : Bool) (x : Nat), i < 10000 → j < 10000 → a = nI i → b = nI j → j * 7 + i = x → (c = true → x % 7 = i ∧ x / 7 = j) → ((i < w ∧ j < h ∧ wl x = 0) → c = true) → nxt w h wl k d = (if c && frb w h wl x then some x else none) → (frB a b w h wl → b * 7 + a = oI (nxt w h wl k d)) ∧ (¬ frB a b w h wl → nxt w h wl k d = none) := by
    intro i j c x hi hj ea eb hx hc hf e
    subst ea
    subst eb
    rw [frB_nI hi hj hw hh, e, cellI, hx]
    constructor
    · intro hfr
      have hcc := hf hfr
      obtain ⟨x1, x2⟩ := hc hcc
      have : frb w h wl x = true := frb_iff.mpr ⟨by rw [x1]; exact hfr.1, by rw [x2]; exact hfr.2.1, hfr.2.2⟩
      rw [hcc, this]
      rfl
    · intro hfr
      cases hb : (c && frb w h wl x) with
      | false => rfl
      | true =>
        rw [Bool.and_eq_true] at hb
        obtain ⟨x1, x2⟩ := hc hb.1
        obtain ⟨g1, g2, g3⟩ := frb_iff.mp hb.2
        exact absurd ⟨by rw [← x1]; exact g1, by rw [← x2]; exact g2, g3⟩ hfr
  rcases hab with ⟨rfl, ha, hb⟩ | ⟨rfl, ha, hb⟩ | ⟨rfl, ha, hb⟩ | ⟨rfl, ha, hb⟩
  · by_cases z : k / 7 = 0
    · rw [z, nI_z1] at hb
      refine ⟨fun q => absurd q (frB_n1 hw hh (Or.inr hb)), fun _ => ?_⟩
      have : decide (7 ≤ k) = false := by simp; omega
      simp only [nxt, this]
      rfl
    · rw [nI_s1 (by omega)] at hb
      exact fin (k % 7) (k / 7 - 1) (decide (7 ≤ k)) (k - 7) (by omega) (by omega) ha hb (by omega) (fun _ => by omega) (fun _ => by simp; omega) rfl
  · rw [nI_p1] at ha
    exact fin (k % 7 + 1) (k / 7) (decide (k % 7 + 1 < w)) (k + 1) (by omega) (by omega) ha hb (by omega) (fun q => by rw [decide_eq_true_eq] at q; omega) (fun q => by simpa using q.1) rfl
  · rw [nI_p1] at hb
    exact fin (k % 7) (k / 7 + 1) true (k + 7) (by omega) (by omega) ha hb (by omega) (fun _ => by omega) (fun _ => rfl) (by simp [nxt])
  · by_cases z : k % 7 = 0
    · rw [z, nI_z1] at ha
      refine ⟨fun q => absurd q (frB_n1 hw hh (Or.inl ha)), fun _ => ?_⟩
      have : decide (1 ≤ k % 7) = false := by simp; omega
      simp only [nxt, this]
      rfl
    · rw [nI_s1 (by omega)] at ha
      exact fin (k % 7 - 1) (k / 7) (decide (1 ≤ k % 7)) (k - 1) (by omega) (by omega) ha hb (by omega) (fun _ => by omega) (fun _ => by simp; omega) rfl
abbrev tX0_nextCell : aTi := fun av X post => ∃ (a b : Int32) (k d : Nat) (c t rm pm fd : Int32) (w h : Nat) (wl pr fe qu co pa : Nat → Int32), av = [.ref 1, .int a, .int b] ∧ a = nI k ∧ b = nI d ∧ X = CW c t rm pm (nI w) (nI h) fd wl pr fe qu co pa ∧ w ≤ 7 ∧ h ≤ 7 ∧ k < 49 ∧ d < 4 ∧ post (oI (nxt w h wl k d)) X
abbrev rmX0_nextCell : Room := { frames := 2, cells := 0, slots := 0, locals := 44 }
def tbX0_nextCell (post : Int32 → List aE → Prop) (ad0 : Nat → Nat) : List (Nat × aO) := [(0, oIL 1 1),
  (1, oCi tX0_columnOf 1 none rmX0_columnOf.cells rmX0_columnOf.slots rmX0_nextCell.cells rmX0_nextCell.slots 4),
  (4, oIS 3 5),
  (5, oIL 1 6),
  (6, oCi tX0_rowOf 1 none rmX0_rowOf.cells rmX0_rowOf.slots rmX0_nextCell.cells rmX0_nextCell.slots 9),
  (9, oIS 4 11),
  (11, oIL 2 12),
  (12, oSw [(0, 44), (1, 50), (2, 56), (3, 62)] 68),
  (44, oInc 4 (-1) 47),
  (47, oGo 70),
  (50, oInc 3 1 53),
  (53, oGo 70),
  (56, oInc 4 1 59),
  (59, oGo 70),
  (62, oInc 3 (-1) 65),
  (65, oGo 70),
  (68, oC (-1) 69),
  (69, oRi post ad0 rmX0_nextCell.cells rmX0_nextCell.slots),
  (70, oAL 0 71),
  (71, oIL 3 72),
  (72, oIL 4 74),
  (74, oCi tX0_isFree 3 (some 0) rmX0_isFree.cells rmX0_isFree.slots rmX0_nextCell.cells rmX0_nextCell.slots 77),
  (77, oIf_eq 89 80),
  (80, oIL 3 81),
  (81, oIL 4 83),
  (83, oCi tX0_cellAt 2 none rmX0_cellAt.cells rmX0_cellAt.slots rmX0_nextCell.cells rmX0_nextCell.slots 86),
  (86, oGo 90),
  (89, oC (-1) 90),
  (90, oRi post ad0 rmX0_nextCell.cells rmX0_nextCell.slots)]
set_option maxRecDepth 20000 in
theorem okX0_nextCell {Γ : aΓ} {post : Int32 → List aE → Prop} {ad0 : Nat → Nat} {X0 : List aE} (C : FOK Γ cX0_nextCell wsX0_nextCell RX0 5 rmX0_nextCell) (hQ : isQ Γ (va_Qi post (aBk (gK Γ) ad0 X0 (hsz Γ)) (aA (gK Γ) ad0 X0 (hsz Γ))) rmX0_nextCell ad0 X0) (hr : rTy Γ = some .int) : AllS Γ (tbX0_nextCell post ad0) := by
  unfold tbX0_nextCell
  refine al_c (pc := 0) (snd_iload_n C dX0_nextCell_0 rfl) ?_
  refine al_c (pc := 1) (snd_Ci C (site_S C dX0_nextCell_1 gX0_nextCell_X0_columnOf rfl rfl rfl ⟨by decide +kernel, by decide +kernel, by decide +kernel⟩ ⟨by decide, by decide⟩) mX0_columnOf) ?_
  refine al_c (pc := 4) (snd_istore_n C dX0_nextCell_4 rfl (by decide)) ?_
  refine al_c (pc := 5) (snd_iload_n C dX0_nextCell_5 rfl) ?_
  refine al_c (pc := 6) (snd_Ci C (site_S C dX0_nextCell_6 gX0_nextCell_X0_rowOf rfl rfl rfl ⟨by decide +kernel, by decide +kernel, by decide +kernel⟩ ⟨by decide, by decide⟩) mX0_rowOf) ?_
  refine al_c (pc := 9) (snd_istore C dX0_nextCell_9 (by decide)) ?_
  refine al_c (pc := 11) (snd_iload_n C dX0_nextCell_11 rfl) ?_
  refine al_c (pc := 12) (snd_sw C dX0_nextCell_12 (by decide) (by decide) (fun x h1 h2 => sw_in4 x h1 h2)) ?_
  refine al_c (pc := 44) (snd_iinc C dX0_nextCell_44 (by decide) (by decide)) ?_
  refine al_c (pc := 47) (snd_goto C dX0_nextCell_47 (by decide)) ?_
  refine al_c (pc := 50) (snd_iinc C dX0_nextCell_50 (by decide) (by decide)) ?_
  refine al_c (pc := 53) (snd_goto C dX0_nextCell_53 (by decide)) ?_
  refine al_c (pc := 56) (snd_iinc C dX0_nextCell_56 (by decide) (by decide)) ?_
  refine al_c (pc := 59) (snd_goto C dX0_nextCell_59 (by decide)) ?_
  refine al_c (pc := 62) (snd_iinc C dX0_nextCell_62 (by decide) (by decide)) ?_
  refine al_c (pc := 65) (snd_goto C dX0_nextCell_65 (by decide)) ?_
  refine al_c (pc := 68) (snd_iconst C dX0_nextCell_68 (by decide)) ?_
  refine al_c (pc := 69) (snd_Ri C hQ hr dX0_nextCell_69) ?_
  refine al_c (pc := 70) (snd_aload_n C dX0_nextCell_70 rfl) ?_
  refine al_c (pc := 71) (snd_iload_n C dX0_nextCell_71 rfl) ?_
  refine al_c (pc := 72) (snd_iload C dX0_nextCell_72) ?_
  refine al_c (pc := 74) (snd_Ci C (site_V C rfl dX0_nextCell_74 gX0_nextCell_X0_isFree rfl rfl rfl ⟨rfl, by decide +kernel, by decide +kernel, by decide +kernel⟩ ⟨by decide, by decide⟩) mX0_isFree) ?_
  refine al_c (pc := 77) (snd_if_eq C dX0_nextCell_77 (by decide)) ?_
  refine al_c (pc := 80) (snd_iload_n C dX0_nextCell_80 rfl) ?_
  refine al_c (pc := 81) (snd_iload C dX0_nextCell_81) ?_
  refine al_c (pc := 83) (snd_Ci C (site_S C dX0_nextCell_83 gX0_nextCell_X0_cellAt rfl rfl rfl ⟨by decide +kernel, by decide +kernel, by decide +kernel⟩ ⟨by decide, by decide⟩) mX0_cellAt) ?_
  refine al_c (pc := 86) (snd_goto C dX0_nextCell_86 (by decide)) ?_
  refine al_c (pc := 89) (snd_iconst C dX0_nextCell_89 (by decide)) ?_
  refine al_c (pc := 90) (snd_Ri C hQ hr dX0_nextCell_90) ?_
  exact al_0
set_option maxHeartbeats 1000000 in
set_option maxRecDepth 100000 in
theorem mX0_nextCell : aMi yX0_nextCell wsX0_nextCell rmX0_nextCell tX0_nextCell := by
  refine aMi_of (by decide +kernel) rfl rfl (by intro av X post hT; obtain ⟨a, b, k, d, c, t, rm, pm, fd, w, h, wl, pr, fe, qu, co, pa, rfl, rfl, rfl, rfl, hw, hh, hk, hd, hp⟩ := hT; exact Nat.le_of_ble_eq_true rfl) ?_
  intro Γ ad av X post C hQ hr hT
  obtain ⟨a, b, k, d, c, t, rm, pm, fd, w, h, wl, pr, fe, qu, co, pa, rfl, rfl, rfl, rfl, hw, hh, hk, hd, hp⟩ := hT
  have OK := okX0_nextCell C hQ hr
  have tail : ∀ (x y : Int32) (ls : List (Nat × Value)), ls = [(4, .int y), (3, .int x), (0, .ref 1), (1, .int (nI k)), (2, .int (nI d))] ∨ ls = [(3, .int x), (4, .int y), (0, .ref 1), (1, .int (nI k)), (2, .int (nI d))] →
      ((frB x y w h wl → y * 7 + x = oI (nxt w h wl k d)) ∧ (¬ frB x y w h wl → nxt w h wl k d = none)) → FG Γ 70 ad 0 0 ls [] (CW c t rm pm (nI w) (nI h) fd wl pr fe qu co pa) := by
    intro x y ls hls hc
    rcases hls with rfl | rfl
    all_goals
      refine go OK [] 40 ?_
      refine ⟨_, _, _, _, _, _, _, _, _, _, _, _, _, _, _, rfl, rfl, hw, hh, fun q => ?_, fun q => ?_⟩
      · refine And.intro (fun q2 => absurd q2 (by decide)) (fun _ => ?_)
        refine ⟨_, _, rfl, ?_⟩
        exact ⟨rfl, by rw [hc.1 q]; exact hp⟩
      · refine And.intro (fun _ => ?_) (fun q2 => absurd rfl q2)
        refine ⟨rfl, ?_⟩
        rw [hc.2 q] at hp
        exact hp
  have hd4 : d = 0 ∨ d = 1 ∨ d = 2 ∨ d = 3 := by omega
  refine go OK [70] 40 ?_
  refine ⟨nI k, k, rfl, rfl, hk, ?_⟩
  refine ⟨nI k, k, rfl, rfl, hk, ?_⟩
  rcases hd4 with rfl | rfl | rfl | rfl
  · refine And.intro (fun q => ?_) (fun q => absurd rfl q)
    exact tail _ _ _ (Or.inl rfl) (nx_case hw hh hk hd (Or.inl ⟨rfl, rfl, rfl⟩))
  · refine And.intro (fun q => absurd q (by decide)) (fun q => ?_)
    refine And.intro (fun q => ?_) (fun q => absurd rfl q)
    exact tail _ _ _ (Or.inr rfl) (nx_case hw hh hk hd (Or.inr (Or.inl ⟨rfl, rfl, rfl⟩)))
  · refine And.intro (fun q => absurd q (by decide)) (fun q => ?_)
    refine And.intro (fun q => absurd q (by decide)) (fun q => ?_)
    refine And.intro (fun q => ?_) (fun q => absurd rfl q)
    exact tail _ _ _ (Or.inl rfl) (nx_case hw hh hk hd (Or.inr (Or.inr (Or.inl ⟨rfl, rfl, rfl⟩))))
  · refine And.intro (fun q => absurd q (by decide)) (fun q => ?_)
    refine And.intro (fun q => absurd q (by decide)) (fun q => ?_)
    refine And.intro (fun q => absurd q (by decide)) (fun q => ?_)
    refine And.intro (fun q => ?_) (fun q => absurd rfl q)
    exact tail _ _ _ (Or.inr rfl) (nx_case hw hh hk hd (Or.inr (Or.inr (Or.inr ⟨rfl, rfl, rfl⟩))))
abbrev tX0_isFreeCell : aTi := fun av X post => ∃ (a : Int32) (k : Nat) (c t rm pm fd : Int32) (w h : Nat) (wl pr fe qu co pa : Nat → Int32), av = [.ref 1, .int a] ∧ a = nI k ∧ X = CW c t rm pm (nI w) (nI h) fd wl pr fe qu co pa ∧ w ≤ 7 ∧ h ≤ 7 ∧ k < 49 ∧ (frN w h wl k → post 1 X) ∧ (¬ frN w h wl k → post 0 X)
abbrev rmX0_isFreeCell : Room := { frames := 2, cells := 0, slots := 0, locals := 44 }
def tbX0_isFreeCell (post : Int32 → List aE → Prop) (ad0 : Nat → Nat) : List (Nat × aO) := [(0, oIL 1 1),
  (1, oIf_lt 23 4),
  (4, oAL 0 5),
  (5, oIL 1 6),
  (6, oCi tX0_columnOf 1 none rmX0_columnOf.cells rmX0_columnOf.slots rmX0_isFreeCell.cells rmX0_isFreeCell.slots 9),
  (9, oIL 1 10),
  (10, oCi tX0_rowOf 1 none rmX0_rowOf.cells rmX0_rowOf.slots rmX0_isFreeCell.cells rmX0_isFreeCell.slots 13),
  (13, oCi tX0_isFree 3 (some 0) rmX0_isFree.cells rmX0_isFree.slots rmX0_isFreeCell.cells rmX0_isFreeCell.slots 16),
  (16, oIf_eq 23 19),
  (19, oC (1) 20),
  (20, oGo 24),
  (23, oC (0) 24),
  (24, oRz post ad0 rmX0_isFreeCell.cells rmX0_isFreeCell.slots)]
set_option maxRecDepth 20000 in
theorem okX0_isFreeCell {Γ : aΓ} {post : Int32 → List aE → Prop} {ad0 : Nat → Nat} {X0 : List aE} (C : FOK Γ cX0_isFreeCell wsX0_isFreeCell RX0 2 rmX0_isFreeCell) (hQ : isQ Γ (va_Qi post (aBk (gK Γ) ad0 X0 (hsz Γ)) (aA (gK Γ) ad0 X0 (hsz Γ))) rmX0_isFreeCell ad0 X0) (hr : rTy Γ = some .boolean) : AllS Γ (tbX0_isFreeCell post ad0) := by
  unfold tbX0_isFreeCell
  refine al_c (pc := 0) (snd_iload_n C dX0_isFreeCell_0 rfl) ?_
  refine al_c (pc := 1) (snd_if_lt C dX0_isFreeCell_1 (by decide)) ?_
  refine al_c (pc := 4) (snd_aload_n C dX0_isFreeCell_4 rfl) ?_
  refine al_c (pc := 5) (snd_iload_n C dX0_isFreeCell_5 rfl) ?_
  refine al_c (pc := 6) (snd_Ci C (site_S C dX0_isFreeCell_6 gX0_isFreeCell_X0_columnOf rfl rfl rfl ⟨by decide +kernel, by decide +kernel, by decide +kernel⟩ ⟨by decide, by decide⟩) mX0_columnOf) ?_
  refine al_c (pc := 9) (snd_iload_n C dX0_isFreeCell_9 rfl) ?_
  refine al_c (pc := 10) (snd_Ci C (site_S C dX0_isFreeCell_10 gX0_isFreeCell_X0_rowOf rfl rfl rfl ⟨by decide +kernel, by decide +kernel, by decide +kernel⟩ ⟨by decide, by decide⟩) mX0_rowOf) ?_
  refine al_c (pc := 13) (snd_Ci C (site_V C rfl dX0_isFreeCell_13 gX0_isFreeCell_X0_isFree rfl rfl rfl ⟨rfl, by decide +kernel, by decide +kernel, by decide +kernel⟩ ⟨by decide, by decide⟩) mX0_isFree) ?_
  refine al_c (pc := 16) (snd_if_eq C dX0_isFreeCell_16 (by decide)) ?_
  refine al_c (pc := 19) (snd_iconst C dX0_isFreeCell_19 (by decide)) ?_
  refine al_c (pc := 20) (snd_goto C dX0_isFreeCell_20 (by decide)) ?_
  refine al_c (pc := 23) (snd_iconst C dX0_isFreeCell_23 (by decide)) ?_
  refine al_c (pc := 24) (snd_Rz C hQ hr dX0_isFreeCell_24) ?_
  exact al_0
set_option maxHeartbeats 1000000 in
set_option maxRecDepth 100000 in
theorem mX0_isFreeCell : aMi yX0_isFreeCell wsX0_isFreeCell rmX0_isFreeCell tX0_isFreeCell := by
  refine aMz_of (by decide +kernel) rfl rfl (by intro av X post hT; obtain ⟨a, k, c, t, rm, pm, fd, w, h, wl, pr, fe, qu, co, pa, rfl, rfl, rfl, hw, hh, hk, h1, h2⟩ := hT; exact Nat.le_of_ble_eq_true rfl) ?_
  intro Γ ad av X post C hQ hr hT
  obtain ⟨a, k, c, t, rm, pm, fd, w, h, wl, pr, fe, qu, co, pa, rfl, rfl, rfl, hw, hh, hk, h1, h2⟩ := hT
  have OK := okX0_isFreeCell C hQ hr
  have e : frB (nI (k % 7)) (nI (k / 7)) w h wl ↔ frN w h wl k := by
    rw [frB_nI (by omega) (by omega) hw hh]
    unfold frN
    rw [show k / 7 * 7 + k % 7 = k by omega]
  refine go OK [] 40 ?_
  refine And.intro (fun q => absurd q (nI_pos (by omega))) (fun _ => ?_)
  refine ⟨nI k, k, rfl, rfl, hk, ?_⟩
  refine ⟨nI k, k, rfl, rfl, hk, ?_⟩
  refine ⟨_, _, _, _, _, _, _, _, _, _, _, _, _, _, _, rfl, rfl, hw, hh, fun q => ?_, fun q => ?_⟩
  · refine And.intro (fun q2 => absurd q2 (by decide)) (fun _ => ?_)
    exact ⟨Or.inr rfl, rfl, h1 (e.mp q)⟩
  · refine And.intro (fun _ => ?_) (fun q2 => absurd rfl q2)
    exact ⟨Or.inl rfl, rfl, h2 (fun z => q (e.mpr z))⟩
abbrev tX0_printOn : aTi := fun av X post => ∃ (a b : Int32) (i j : Nat) (c t rm pm fd : Int32) (w h : Nat) (wl pr fe qu co pa : Nat → Int32), av = [.ref 1, .int a, .int b] ∧ a = nI i ∧ b = nI j ∧ X = CW c t rm pm (nI w) (nI h) fd wl pr fe qu co pa ∧ w ≤ 7 ∧ h ≤ 7 ∧ i < w ∧ j < h ∧ post (pr (j * 7 + i)) X
abbrev rmX0_printOn : Room := { frames := 1, cells := 0, slots := 0, locals := 22 }
theorem inX0_printOn_X0 : ∀ w ∈ wsX00, w ∈ wsX0_printOn := by decide +kernel
def tbX0_printOn (post : Int32 → List aE → Prop) (ad0 : Nat → Nat) : List (Nat × aO) := [(0, oAL 0 1),
  (1, oIL 1 2),
  (2, oIL 2 3),
  (3, oCi tX0_has 3 (some 0) rmX0_has.cells rmX0_has.slots rmX0_printOn.cells rmX0_printOn.slots 6),
  (6, oIf_eq 22 9),
  (9, oAL 0 10),
  (10, oGet 0 1 13),
  (13, oIL 1 14),
  (14, oIL 2 15),
  (15, oCi tX0_cellAt 2 none rmX0_cellAt.cells rmX0_cellAt.slots rmX0_printOn.cells rmX0_printOn.slots 18),
  (18, oIald 19),
  (19, oGo 23),
  (22, oC (0) 23),
  (23, oRi post ad0 rmX0_printOn.cells rmX0_printOn.slots)]
set_option maxRecDepth 20000 in
theorem okX0_printOn {Γ : aΓ} {post : Int32 → List aE → Prop} {ad0 : Nat → Nat} {X0 : List aE} (C : FOK Γ cX0_printOn wsX0_printOn RX0 3 rmX0_printOn) (hQ : isQ Γ (va_Qi post (aBk (gK Γ) ad0 X0 (hsz Γ)) (aA (gK Γ) ad0 X0 (hsz Γ))) rmX0_printOn ad0 X0) (hr : rTy Γ = some .int) : AllS Γ (tbX0_printOn post ad0) := by
  unfold tbX0_printOn
  refine al_c (pc := 0) (snd_aload_n C dX0_printOn_0 rfl) ?_
  refine al_c (pc := 1) (snd_iload_n C dX0_printOn_1 rfl) ?_
  refine al_c (pc := 2) (snd_iload_n C dX0_printOn_2 rfl) ?_
  refine al_c (pc := 3) (snd_Ci C (site_V C rfl dX0_printOn_3 gX0_printOn_X0_has rfl rfl rfl ⟨rfl, by decide +kernel, by decide +kernel, by decide +kernel⟩ ⟨by decide, by decide⟩) mX0_has) ?_
  refine al_c (pc := 6) (snd_if_eq C dX0_printOn_6 (by decide)) ?_
  refine al_c (pc := 9) (snd_aload_n C dX0_printOn_9 rfl) ?_
  refine al_c (pc := 10) (snd_get C dX0_printOn_10 (ci := 0) (kf := 1) rfl (by decide) inX0_printOn_X0 rfl (by decide +kernel)) ?_
  refine al_c (pc := 13) (snd_iload_n C dX0_printOn_13 rfl) ?_
  refine al_c (pc := 14) (snd_iload_n C dX0_printOn_14 rfl) ?_
  refine al_c (pc := 15) (snd_Ci C (site_S C dX0_printOn_15 gX0_printOn_X0_cellAt rfl rfl rfl ⟨by decide +kernel, by decide +kernel, by decide +kernel⟩ ⟨by decide, by decide⟩) mX0_cellAt) ?_
  refine al_c (pc := 18) (snd_iaload C dX0_printOn_18) ?_
  refine al_c (pc := 19) (snd_goto C dX0_printOn_19 (by decide)) ?_
  refine al_c (pc := 22) (snd_iconst C dX0_printOn_22 (by decide)) ?_
  refine al_c (pc := 23) (snd_Ri C hQ hr dX0_printOn_23) ?_
  exact al_0
set_option maxHeartbeats 1000000 in
set_option maxRecDepth 100000 in
theorem mX0_printOn : aMi yX0_printOn wsX0_printOn rmX0_printOn tX0_printOn := by
  refine aMi_of (by decide +kernel) rfl rfl (by intro av X post hT; obtain ⟨a, b, i, j, c, t, rm, pm, fd, w, h, wl, pr, fe, qu, co, pa, rfl, rfl, rfl, rfl, hw, hh, hi, hj, hp⟩ := hT; exact Nat.le_of_ble_eq_true rfl) ?_
  intro Γ ad av X post C hQ hr hT
  obtain ⟨a, b, i, j, c, t, rm, pm, fd, w, h, wl, pr, fe, qu, co, pa, rfl, rfl, rfl, rfl, hw, hh, hi, hj, hp⟩ := hT
  have OK := okX0_printOn C hQ hr
  refine go OK [] 40 ?_
  refine ⟨_, _, _, _, _, _, _, _, _, _, _, _, _, _, _, rfl, rfl, hw, hh, fun q => ?_, fun q => absurd ⟨i, j, rfl, rfl, hi, hj⟩ q⟩
  refine And.intro (fun q2 => absurd q2 (by decide)) (fun _ => ?_)
  refine ⟨_, _, rfl, ?_⟩
  rw [cellI]
  have hlt : j * 7 + i < 49 := by omega
  refine ⟨inS hlt (by decide), ?_⟩
  rw [nI_clampS (by omega)]
  exact ⟨rfl, hp⟩
abbrev tX0_printOnto : aTv := fun av X post => ∃ (a b : Int32) (k : Nat) (c t rm pm fd : Int32) (w h : Nat) (wl pr fe qu co pa : Nat → Int32), av = [.ref 1, .int a, .int b] ∧ a = nI k ∧ k < 49 ∧ X = CW c t rm pm (nI w) (nI h) fd wl pr fe qu co pa ∧ post (CW c t rm pm (nI w) (nI h) fd wl (upd pr k b) fe qu co pa)
abbrev rmX0_printOnto : Room := { frames := 0, cells := 0, slots := 0, locals := 0 }
theorem inX0_printOnto_X0 : ∀ w ∈ wsX00, w ∈ wsX0_printOnto := by decide +kernel
def tbX0_printOnto (post : List aE → Prop) (ad0 : Nat → Nat) : List (Nat × aO) := [(0, oIL 1 1),
  (1, oIf_lt 17 4),
  (4, oIL 1 5),
  (5, oC (49) 7),
  (7, oIc_ge 17 10),
  (10, oAL 0 11),
  (11, oGet 0 1 14),
  (14, oIL 1 15),
  (15, oIL 2 16),
  (16, oIast 17),
  (17, oRv post ad0 rmX0_printOnto.cells rmX0_printOnto.slots)]
set_option maxRecDepth 20000 in
theorem okX0_printOnto {Γ : aΓ} {post : List aE → Prop} {ad0 : Nat → Nat} {X0 : List aE} (C : FOK Γ cX0_printOnto wsX0_printOnto RX0 3 rmX0_printOnto) (hQ : isQ Γ (va_Qv post (aBk (gK Γ) ad0 X0 (hsz Γ)) (aA (gK Γ) ad0 X0 (hsz Γ))) rmX0_printOnto ad0 X0) (hr : rTy Γ = none) : AllS Γ (tbX0_printOnto post ad0) := by
  unfold tbX0_printOnto
  refine al_c (pc := 0) (snd_iload_n C dX0_printOnto_0 rfl) ?_
  refine al_c (pc := 1) (snd_if_lt C dX0_printOnto_1 (by decide)) ?_
  refine al_c (pc := 4) (snd_iload_n C dX0_printOnto_4 rfl) ?_
  refine al_c (pc := 5) (snd_bipush C dX0_printOnto_5 (by decide)) ?_
  refine al_c (pc := 7) (snd_icmp_ge C dX0_printOnto_7 (by decide)) ?_
  refine al_c (pc := 10) (snd_aload_n C dX0_printOnto_10 rfl) ?_
  refine al_c (pc := 11) (snd_get C dX0_printOnto_11 (ci := 0) (kf := 1) rfl (by decide) inX0_printOnto_X0 rfl (by decide +kernel)) ?_
  refine al_c (pc := 14) (snd_iload_n C dX0_printOnto_14 rfl) ?_
  refine al_c (pc := 15) (snd_iload_n C dX0_printOnto_15 rfl) ?_
  refine al_c (pc := 16) (snd_iastore C dX0_printOnto_16) ?_
  refine al_c (pc := 17) (snd_Rv C hQ hr dX0_printOnto_17) ?_
  exact al_0
set_option maxHeartbeats 1000000 in
set_option maxRecDepth 100000 in
theorem mX0_printOnto : aMv yX0_printOnto wsX0_printOnto rmX0_printOnto tX0_printOnto := by
  refine aMv_of (by decide +kernel) rfl rfl (by intro av X post hT; obtain ⟨a, b, k, c, t, rm, pm, fd, w, h, wl, pr, fe, qu, co, pa, rfl, rfl, hk, rfl, hp⟩ := hT; exact Nat.le_of_ble_eq_true rfl) ?_
  intro Γ ad av X post C hQ hr hT
  obtain ⟨a, b, k, c, t, rm, pm, fd, w, h, wl, pr, fe, qu, co, pa, rfl, rfl, hk, rfl, hp⟩ := hT
  have OK := okX0_printOnto C hQ hr
  refine go OK [] 40 ?_
  refine And.intro (fun q => absurd q (nI_pos (by omega))) (fun _ => ?_)
  refine And.intro (fun q => absurd q (nI_ge (b := 49) hk (by omega))) (fun _ => ?_)
  refine ⟨inS hk (by decide), ?_⟩
  rw [nI_clampS (by omega)]
  exact ⟨rfl, hp⟩
abbrev tX0_turnOver : aTi := fun av X post => ∃ (a : Int32) (k : Nat) (c t rm pm fd : Int32) (w h : Nat) (wl pr fe qu co pa : Nat → Int32), av = [.ref 1, .int a] ∧ a = nI k ∧ k < 49 ∧ X = CW c t rm pm (nI w) (nI h) fd wl pr fe qu co pa ∧ (wl k = 0 → post 1 (CW c t rm pm (nI w) (nI h) fd (upd wl k 1) pr fe qu co pa)) ∧ (¬ wl k = 0 → post 0 (CW c t rm pm (nI w) (nI h) fd (upd wl k 0) pr fe qu co pa))
abbrev rmX0_turnOver : Room := { frames := 0, cells := 0, slots := 0, locals := 0 }
theorem inX0_turnOver_X0 : ∀ w ∈ wsX00, w ∈ wsX0_turnOver := by decide +kernel
def tbX0_turnOver (post : Int32 → List aE → Prop) (ad0 : Nat → Nat) : List (Nat × aO) := [(0, oIL 1 1),
  (1, oIf_lt 10 4),
  (4, oIL 1 5),
  (5, oC (49) 7),
  (7, oIc_lt 12 10),
  (10, oC (0) 11),
  (11, oRz post ad0 rmX0_turnOver.cells rmX0_turnOver.slots),
  (12, oAL 0 13),
  (13, oGet 0 0 16),
  (16, oIL 1 17),
  (17, oAL 0 18),
  (18, oGet 0 0 21),
  (21, oIL 1 22),
  (22, oZald 23),
  (23, oIf_ne 30 26),
  (26, oC (1) 27),
  (27, oGo 31),
  (30, oC (0) 31),
  (31, oZast 32),
  (32, oAL 0 33),
  (33, oGet 0 0 36),
  (36, oIL 1 37),
  (37, oZald 38),
  (38, oRz post ad0 rmX0_turnOver.cells rmX0_turnOver.slots)]
set_option maxRecDepth 20000 in
theorem okX0_turnOver {Γ : aΓ} {post : Int32 → List aE → Prop} {ad0 : Nat → Nat} {X0 : List aE} (C : FOK Γ cX0_turnOver wsX0_turnOver RX0 2 rmX0_turnOver) (hQ : isQ Γ (va_Qi post (aBk (gK Γ) ad0 X0 (hsz Γ)) (aA (gK Γ) ad0 X0 (hsz Γ))) rmX0_turnOver ad0 X0) (hr : rTy Γ = some .boolean) : AllS Γ (tbX0_turnOver post ad0) := by
  unfold tbX0_turnOver
  refine al_c (pc := 0) (snd_iload_n C dX0_turnOver_0 rfl) ?_
  refine al_c (pc := 1) (snd_if_lt C dX0_turnOver_1 (by decide)) ?_
  refine al_c (pc := 4) (snd_iload_n C dX0_turnOver_4 rfl) ?_
  refine al_c (pc := 5) (snd_bipush C dX0_turnOver_5 (by decide)) ?_
  refine al_c (pc := 7) (snd_icmp_lt C dX0_turnOver_7 (by decide)) ?_
  refine al_c (pc := 10) (snd_iconst C dX0_turnOver_10 (by decide)) ?_
  refine al_c (pc := 11) (snd_Rz C hQ hr dX0_turnOver_11) ?_
  refine al_c (pc := 12) (snd_aload_n C dX0_turnOver_12 rfl) ?_
  refine al_c (pc := 13) (snd_get C dX0_turnOver_13 (ci := 0) (kf := 0) rfl (by decide) inX0_turnOver_X0 rfl (by decide +kernel)) ?_
  refine al_c (pc := 16) (snd_iload_n C dX0_turnOver_16 rfl) ?_
  refine al_c (pc := 17) (snd_aload_n C dX0_turnOver_17 rfl) ?_
  refine al_c (pc := 18) (snd_get C dX0_turnOver_18 (ci := 0) (kf := 0) rfl (by decide) inX0_turnOver_X0 rfl (by decide +kernel)) ?_
  refine al_c (pc := 21) (snd_iload_n C dX0_turnOver_21 rfl) ?_
  refine al_c (pc := 22) (snd_baload C dX0_turnOver_22) ?_
  refine al_c (pc := 23) (snd_if_ne C dX0_turnOver_23 (by decide)) ?_
  refine al_c (pc := 26) (snd_iconst C dX0_turnOver_26 (by decide)) ?_
  refine al_c (pc := 27) (snd_goto C dX0_turnOver_27 (by decide)) ?_
  refine al_c (pc := 30) (snd_iconst C dX0_turnOver_30 (by decide)) ?_
  refine al_c (pc := 31) (snd_bastore C dX0_turnOver_31) ?_
  refine al_c (pc := 32) (snd_aload_n C dX0_turnOver_32 rfl) ?_
  refine al_c (pc := 33) (snd_get C dX0_turnOver_33 (ci := 0) (kf := 0) rfl (by decide) inX0_turnOver_X0 rfl (by decide +kernel)) ?_
  refine al_c (pc := 36) (snd_iload_n C dX0_turnOver_36 rfl) ?_
  refine al_c (pc := 37) (snd_baload C dX0_turnOver_37) ?_
  refine al_c (pc := 38) (snd_Rz C hQ hr dX0_turnOver_38) ?_
  exact al_0
set_option maxHeartbeats 1000000 in
set_option maxRecDepth 100000 in
theorem mX0_turnOver : aMi yX0_turnOver wsX0_turnOver rmX0_turnOver tX0_turnOver := by
  refine aMz_of (by decide +kernel) rfl rfl (by intro av X post hT; obtain ⟨a, k, c, t, rm, pm, fd, w, h, wl, pr, fe, qu, co, pa, rfl, rfl, hk, rfl, h1, h2⟩ := hT; exact Nat.le_of_ble_eq_true rfl) ?_
  intro Γ ad av X post C hQ hr hT
  obtain ⟨a, k, c, t, rm, pm, fd, w, h, wl, pr, fe, qu, co, pa, rfl, rfl, hk, rfl, h1, h2⟩ := hT
  have OK := okX0_turnOver C hQ hr
  refine go OK [] 60 ?_
  refine And.intro (fun q => absurd q (nI_pos (by omega))) (fun _ => ?_)
  refine And.intro (fun _ => ?_) (fun q => absurd (nI_lt (b := 49) hk (by omega)) q)
  refine ⟨inS hk (by decide), ?_⟩
  rw [nI_clampS (by omega)]
  refine And.intro (fun q => ?_) (fun q => ?_)
  · refine ⟨inS hk (by decide), Or.inl rfl, ?_⟩
    rw [nI_clampS (by omega)]
    refine ⟨inS hk (by decide), ?_⟩
    rw [nI_clampS (by omega), pk_us]
    exact ⟨Or.inl rfl, rfl, h2 q⟩
  · refine ⟨inS hk (by decide), Or.inr rfl, ?_⟩
    rw [nI_clampS (by omega)]
    refine ⟨inS hk (by decide), ?_⟩
    rw [nI_clampS (by omega), pk_us]
    exact ⟨Or.inr rfl, rfl, h1 q⟩
abbrev tX0_layOut : aTv := fun av X post => ∃ (a b w0 h0 c t rm pm fd : Int32) (wl pr fe qu co pa : Nat → Int32), av = [.ref 1, .int a, .int b] ∧ X = CW c t rm pm w0 h0 fd wl pr fe qu co pa ∧ ∀ wl2 pr2 : Nat → Int32, (∀ k, k < 49 → wl2 k = 0) → (∀ k, k < 49 → pr2 k = 0) → post (CW c t rm pm a b fd wl2 pr2 fe qu co pa)
abbrev rmX0_layOut : Room := { frames := 0, cells := 0, slots := 0, locals := 0 }
theorem inX0_layOut_X0 : ∀ w ∈ wsX00, w ∈ wsX0_layOut := by decide +kernel
def tbX0_layOut (post : List aE → Prop) (ad0 : Nat → Nat) : List (Nat × aO) := [(0, oAL 0 1),
  (1, oIL 1 2),
  (2, oPut 0 2 5),
  (5, oAL 0 6),
  (6, oIL 2 7),
  (7, oPut 0 3 10),
  (10, oC (0) 11),
  (11, oIS 3 12),
  (12, oIL 3 13),
  (13, oC (49) 15),
  (15, oIc_ge 38 18),
  (18, oAL 0 19),
  (19, oGet 0 0 22),
  (22, oIL 3 23),
  (23, oC (0) 24),
  (24, oZast 25),
  (25, oAL 0 26),
  (26, oGet 0 1 29),
  (29, oIL 3 30),
  (30, oC (0) 31),
  (31, oIast 32),
  (32, oInc 3 1 35),
  (35, oGo 12),
  (38, oRv post ad0 rmX0_layOut.cells rmX0_layOut.slots)]
set_option maxRecDepth 20000 in
theorem okX0_layOut {Γ : aΓ} {post : List aE → Prop} {ad0 : Nat → Nat} {X0 : List aE} (C : FOK Γ cX0_layOut wsX0_layOut RX0 4 rmX0_layOut) (hQ : isQ Γ (va_Qv post (aBk (gK Γ) ad0 X0 (hsz Γ)) (aA (gK Γ) ad0 X0 (hsz Γ))) rmX0_layOut ad0 X0) (hr : rTy Γ = none) : AllS Γ (tbX0_layOut post ad0) := by
  unfold tbX0_layOut
  refine al_c (pc := 0) (snd_aload_n C dX0_layOut_0 rfl) ?_
  refine al_c (pc := 1) (snd_iload_n C dX0_layOut_1 rfl) ?_
  refine al_c (pc := 2) (snd_put C dX0_layOut_2 (ci := 0) (kf := 2) rfl (by decide) inX0_layOut_X0 tyX0_ok nmX0 rfl rfl rfl (by decide +kernel)) ?_
  refine al_c (pc := 5) (snd_aload_n C dX0_layOut_5 rfl) ?_
  refine al_c (pc := 6) (snd_iload_n C dX0_layOut_6 rfl) ?_
  refine al_c (pc := 7) (snd_put C dX0_layOut_7 (ci := 0) (kf := 3) rfl (by decide) inX0_layOut_X0 tyX0_ok nmX0 rfl rfl rfl (by decide +kernel)) ?_
  refine al_c (pc := 10) (snd_iconst C dX0_layOut_10 (by decide)) ?_
  refine al_c (pc := 11) (snd_istore_n C dX0_layOut_11 rfl (by decide)) ?_
  refine al_c (pc := 12) (snd_iload_n C dX0_layOut_12 rfl) ?_
  refine al_c (pc := 13) (snd_bipush C dX0_layOut_13 (by decide)) ?_
  refine al_c (pc := 15) (snd_icmp_ge C dX0_layOut_15 (by decide)) ?_
  refine al_c (pc := 18) (snd_aload_n C dX0_layOut_18 rfl) ?_
  refine al_c (pc := 19) (snd_get C dX0_layOut_19 (ci := 0) (kf := 0) rfl (by decide) inX0_layOut_X0 rfl (by decide +kernel)) ?_
  refine al_c (pc := 22) (snd_iload_n C dX0_layOut_22 rfl) ?_
  refine al_c (pc := 23) (snd_iconst C dX0_layOut_23 (by decide)) ?_
  refine al_c (pc := 24) (snd_bastore C dX0_layOut_24) ?_
  refine al_c (pc := 25) (snd_aload_n C dX0_layOut_25 rfl) ?_
  refine al_c (pc := 26) (snd_get C dX0_layOut_26 (ci := 0) (kf := 1) rfl (by decide) inX0_layOut_X0 rfl (by decide +kernel)) ?_
  refine al_c (pc := 29) (snd_iload_n C dX0_layOut_29 rfl) ?_
  refine al_c (pc := 30) (snd_iconst C dX0_layOut_30 (by decide)) ?_
  refine al_c (pc := 31) (snd_iastore C dX0_layOut_31) ?_
  refine al_c (pc := 32) (snd_iinc C dX0_layOut_32 (by decide) (by decide)) ?_
  refine al_c (pc := 35) (snd_goto C dX0_layOut_35 (by decide)) ?_
  refine al_c (pc := 38) (snd_Rv C hQ hr dX0_layOut_38) ?_
  exact al_0
set_option maxHeartbeats 1000000 in
set_option maxRecDepth 100000 in
theorem mX0_layOut : aMv yX0_layOut wsX0_layOut rmX0_layOut tX0_layOut := by
  refine aMv_of (by decide +kernel) rfl rfl (by intro av X post hT; obtain ⟨a, b, w0, h0, c, t, rm, pm, fd, wl, pr, fe, qu, co, pa, rfl, rfl, hp⟩ := hT; exact Nat.le_of_ble_eq_true rfl) ?_
  intro Γ ad av X post C hQ hr hT
  obtain ⟨a, b, w0, h0, c, t, rm, pm, fd, wl, pr, fe, qu, co, pa, rfl, rfl, hp⟩ := hT
  have OK := okX0_layOut C hQ hr
  have loop : ∀ (n i : Nat) (wl2 pr2 : Nat → Int32), i ≤ 49 → 49 - i < n → (∀ k, k < i → wl2 k = 0) → (∀ k, k < i → pr2 k = 0) → FG Γ 12 ad 0 0 [(3, .int (nI i)), (0, .ref 1), (1, .int a), (2, .int b)] [] (CW c t rm pm a b fd wl2 pr2 fe qu co pa) := by
    intro n
    induction n with
    | zero => intro i _ _ _ h; omega
    | succ n ih =>
      intro i wl2 pr2 hi hn hz1 hz2
      refine go OK [12] 40 ?_
      refine And.intro (fun q => ?_) (fun q => ?_)
      · have q := (leN (a := 49) (b := i) (by omega) (by omega)).mp q
        exact ⟨rfl, hp wl2 pr2 (fun k hk => hz1 k (by omega)) (fun k hk => hz2 k (by omega))⟩
      · have hlt : i < 49 := by
          rcases Nat.lt_or_ge i 49 with z | z
          · exact z
          · exact absurd ((leN (a := 49) (b := i) (by omega) (by omega)).mpr z) q
        refine ⟨inS hlt (by decide), Or.inl rfl, ?_⟩
        refine ⟨inS hlt (by decide), ?_⟩
        rw [nI_clampS (by omega)]
        have key := ih (i + 1) (upd wl2 i 0) (upd pr2 i 0) (by omega) (by omega) ?_ ?_
        · rw [← nI_p1] at key
          exact key
        all_goals intro k hk
        · by_cases e : k = i
          · rw [e, pk_us]
          · rw [pk_un e]; exact hz1 k (by omega)
        · by_cases e : k = i
          · rw [e, pk_us]
          · rw [pk_un e]; exact hz2 k (by omega)
  refine go OK [12] 40 ?_
  exact loop 50 0 wl pr (by omega) (by omega) (fun k hk => by omega) (fun k hk => by omega)
