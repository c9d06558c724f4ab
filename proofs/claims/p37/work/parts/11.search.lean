/-! ===== PaintedDie$Search ===== -/
/-- fewer locals, by their places -/
theorem FG_sub {Γ : aΓ} {pc : Nat} {ad : Nat → Nat} {k n : Nat} {ls ls' : List (Nat × Value)} {st : List Value} {X : List aE} (is : List Nat) (hl : lv_pick ls is = ls') (h : FG Γ pc ad k n ls' st X) : FG Γ pc ad k n ls st X := by
  obtain ⟨p, l, e, R, s, m, args, below, meth, c, Q, G, A, nL'⟩ := Γ
  intro H locs la hP hD hS hl2
  refine h H locs la hP hD hS (lv_sub hl2 is ?_)
  subst hl
  unfold lv_pick aL
  rw [List.map_filterMap]
  congr 1
  funext i
  rw [List.getElem?_map]
def mn : Option Nat → Option Nat → Option Nat
  | none, b => b
  | some a, none => some a
  | some a, some b => some (if b < a then b else a)
def mnf (p : Nat → Option Nat) : Nat → Option Nat
  | 0 => none
  | n + 1 => mn (mnf p n) (p (n + 1))
theorem mn_lt {a b : Option Nat} (ha : ∀ r, a = some r → r < 5000) (hb : ∀ r, b = some r → r < 5000) : ∀ r, mn a b = some r → r < 5000 := by
  intro r h
  cases a with
  | none => exact hb r h
  | some x =>
    cases b with
    | none => exact ha r h
    | some y =>
      have := ha x rfl
      have := hb y rfl
      simp only [mn, Option.some.injEq] at h
      split at h <;> omega
theorem mnf_lt {p : Nat → Option Nat} (hp : ∀ n r, p n = some r → r < 5000) : ∀ n r, mnf p n = some r → r < 5000
  | 0, r, h => by cases h
  | n + 1, r, h => mn_lt (mnf_lt hp n) (hp (n + 1)) r h
def ct (p : Nat → Bool) : Nat → Nat
  | 0 => 0
  | n + 1 => ct p n + (if p n then 1 else 0)
theorem ct_le (p : Nat → Bool) : ∀ n, ct p n ≤ n
  | 0 => Nat.le_refl 0
  | n + 1 => by
    have := ct_le p n
    show ct p n + _ ≤ n + 1
    split <;> omega
theorem ct_t {p : Nat → Bool} {n : Nat} (h : p n = true) : ct p (n + 1) = ct p n + 1 := by simp [ct, h]
theorem ct_f {p : Nat → Bool} {n : Nat} (h : p n = false) : ct p (n + 1) = ct p n := by simp [ct, h]
def RC (S : qS) (fe qu : Nat → Int32) (fd : Int32) : Prop := fd = nI S.1.length ∧ (∀ i v, S.1[i]? = some v → qu i = nI v) ∧ (∀ v, v < 1764 → fe v = oI (S.2 v))
def bS (S : qS) : Prop := okS (fun v => v < 1764) S ∧ ∀ v r, S.2 v = some r → r < 5000
theorem oI_lt {S : qS} (h : bS S) (v : Nat) : oI (S.2 v) = -1 ↔ S.2 v = none := oI_ne (fun n hn => by have := h.2 v n hn; omega)
theorem bS_len {S : qS} (h : bS S) : S.1.length ≤ 1764 := nodup_len 1764 _ h.1.2.1 h.1.2.2
theorem bS_full {S : qS} (h : bS S) {v : Nat} (hv : v < 1764) (hl : 1764 ≤ S.1.length) : ∃ r, S.2 v = some r := by
  refine (h.1.1 v).mpr ?_
  by_cases z : v ∈ S.1
  · exact z
  · have h2 : (v :: S.1).length ≤ 1764 := nodup_len 1764 _ (List.nodup_cons.mpr ⟨z, h.1.2.1⟩) (fun x hx => by
      rcases List.mem_cons.mp hx with rfl | hx
      · exact hv
      · exact h.1.2.2 x hx)
    simp at h2
    omega
abbrev tJ7_fill_53178 : aTv := fun av X post => ∃ (x : Int32) (c t rm pm fd : Int32) (w h : Nat) (wl pr fe qu co pa : Nat → Int32), av = [.ref 5, .int x] ∧ X = CW c t rm pm (nI w) (nI h) fd wl pr fe qu co pa ∧ ∀ fe2 : Nat → Int32, (∀ k, k < 1764 → fe2 k = x) → post (CW c t rm pm (nI w) (nI h) fd wl pr fe2 qu co pa)
abbrev rmJ7_fill_53178 : Room := { frames := 0, cells := 0, slots := 0, locals := 0 }
def tbJ7_fill_53178 (post : List aE → Prop) (ad0 : Nat → Nat) : List (Nat × aO) := [(0, oC (0) 1),
  (1, oIS 2 2),
  (2, oAL 0 3),
  (3, oAlen 4),
  (4, oIS 3 5),
  (5, oIL 2 6),
  (6, oIL 3 7),
  (7, oIc_ge 20 10),
  (10, oAL 0 11),
  (11, oIL 2 12),
  (12, oIL 1 13),
  (13, oIast 14),
  (14, oInc 2 1 17),
  (17, oGo 5),
  (20, oRv post ad0 rmJ7_fill_53178.cells rmJ7_fill_53178.slots)]
set_option maxRecDepth 20000 in
theorem okJ7_fill_53178 {Γ : aΓ} {post : List aE → Prop} {ad0 : Nat → Nat} {X0 : List aE} (C : FOK Γ cJ7_fill_53178 wsJ7_fill_53178 RJ7 4 rmJ7_fill_53178) (hQ : isQ Γ (va_Qv post (aBk (gK Γ) ad0 X0 (hsz Γ)) (aA (gK Γ) ad0 X0 (hsz Γ))) rmJ7_fill_53178 ad0 X0) (hr : rTy Γ = none) : AllS Γ (tbJ7_fill_53178 post ad0) := by
  unfold tbJ7_fill_53178
  refine al_c (pc := 0) (snd_iconst C dJ7_fill_53178_0 (by decide)) ?_
  refine al_c (pc := 1) (snd_istore_n C dJ7_fill_53178_1 rfl (by decide)) ?_
  refine al_c (pc := 2) (snd_aload_n C dJ7_fill_53178_2 rfl) ?_
  refine al_c (pc := 3) (snd_alen C dJ7_fill_53178_3) ?_
  refine al_c (pc := 4) (snd_istore_n C dJ7_fill_53178_4 rfl (by decide)) ?_
  refine al_c (pc := 5) (snd_iload_n C dJ7_fill_53178_5 rfl) ?_
  refine al_c (pc := 6) (snd_iload_n C dJ7_fill_53178_6 rfl) ?_
  refine al_c (pc := 7) (snd_icmp_ge C dJ7_fill_53178_7 (by decide)) ?_
  refine al_c (pc := 10) (snd_aload_n C dJ7_fill_53178_10 rfl) ?_
  refine al_c (pc := 11) (snd_iload_n C dJ7_fill_53178_11 rfl) ?_
  refine al_c (pc := 12) (snd_iload_n C dJ7_fill_53178_12 rfl) ?_
  refine al_c (pc := 13) (snd_iastore C dJ7_fill_53178_13) ?_
  refine al_c (pc := 14) (snd_iinc C dJ7_fill_53178_14 (by decide) (by decide)) ?_
  refine al_c (pc := 17) (snd_goto C dJ7_fill_53178_17 (by decide)) ?_
  refine al_c (pc := 20) (snd_Rv C hQ hr dJ7_fill_53178_20) ?_
  exact al_0
set_option maxHeartbeats 1000000 in
set_option maxRecDepth 100000 in
theorem mJ7_fill_53178 : aMv yJ7_fill_53178 wsJ7_fill_53178 rmJ7_fill_53178 tJ7_fill_53178 := by
  refine aMv_of (by decide +kernel) rfl rfl (by intro av X post hT; obtain ⟨x, c, t, rm, pm, fd, w, h, wl, pr, fe, qu, co, pa, rfl, rfl, hp⟩ := hT; exact Nat.le_of_ble_eq_true rfl) ?_
  intro Γ ad av X post C hQ hr hT
  obtain ⟨x, c, t, rm, pm, fd, w, h, wl, pr, fe, qu, co, pa, rfl, rfl, hp⟩ := hT
  have OK := okJ7_fill_53178 C hQ hr
  have loop : ∀ (n i : Nat) (fe2 : Nat → Int32), i ≤ 1764 → 1764 - i < n → (∀ k, k < i → fe2 k = x) → FG Γ 5 ad 0 0 [(3, .int (nI 1764)), (2, .int (nI i)), (0, .ref 5), (1, .int x)] [] (CW c t rm pm (nI w) (nI h) fd wl pr fe2 qu co pa) := by
    intro n
    induction n with
    | zero => intro i _ _ h; omega
    | succ n ih =>
      intro i fe2 hi hn hz
      refine go OK [5] 40 ?_
      refine And.intro (fun q => ?_) (fun q => ?_)
      · have q := (leN (a := 1764) (b := i) (by omega) (by omega)).mp q
        exact ⟨rfl, hp fe2 (fun k hk => hz k (by omega))⟩
      · have hlt : i < 1764 := by
          rcases Nat.lt_or_ge i 1764 with z | z
          · exact z
          · exact absurd ((leN (a := 1764) (b := i) (by omega) (by omega)).mpr z) q
        refine ⟨inS hlt (by decide), ?_⟩
        rw [nI_clampS (by omega)]
        have key := ih (i + 1) (upd fe2 i x) (by omega) (by omega) (fun k hk => by
          by_cases e : k = i
          · rw [e, pk_us]
          · rw [pk_un e]; exact hz k (by omega))
        rw [← nI_p1 i] at key
        exact FG_sub [1, 0, 2, 3] rfl key
  refine go OK [5] 40 ?_
  exact loop 1765 0 fe (by omega) (by omega) (fun k hk => by omega)
abbrev tX1_forget : aTv := fun av X post => ∃ (c t rm pm fd : Int32) (w h : Nat) (wl pr fe qu co pa : Nat → Int32), av = [.ref 4] ∧ X = CW c t rm pm (nI w) (nI h) fd wl pr fe qu co pa ∧ ∀ fe2 : Nat → Int32, RC ([], fun _ => none) fe2 qu 0 → post (CW c t rm pm (nI w) (nI h) 0 wl pr fe2 qu co pa)
abbrev rmX1_forget : Room := { frames := 1, cells := 0, slots := 0, locals := 23 }
theorem inX1_forget_X1 : ∀ w ∈ wsX10, w ∈ wsX1_forget := by decide +kernel
def tbX1_forget (post : List aE → Prop) (ad0 : Nat → Nat) : List (Nat × aO) := [(0, oAL 0 1),
  (1, oGet 1 0 4),
  (4, oC (-1) 5),
  (5, oCv tJ7_fill_53178 2 none rmJ7_fill_53178.cells rmJ7_fill_53178.slots rmX1_forget.cells rmX1_forget.slots 8),
  (8, oAL 0 9),
  (9, oC (0) 10),
  (10, oPut 1 2 13),
  (13, oRv post ad0 rmX1_forget.cells rmX1_forget.slots)]
set_option maxRecDepth 20000 in
theorem okX1_forget {Γ : aΓ} {post : List aE → Prop} {ad0 : Nat → Nat} {X0 : List aE} (C : FOK Γ cX1_forget wsX1_forget RX1 1 rmX1_forget) (hQ : isQ Γ (va_Qv post (aBk (gK Γ) ad0 X0 (hsz Γ)) (aA (gK Γ) ad0 X0 (hsz Γ))) rmX1_forget ad0 X0) (hr : rTy Γ = none) : AllS Γ (tbX1_forget post ad0) := by
  unfold tbX1_forget
  refine al_c (pc := 0) (snd_aload_n C dX1_forget_0 rfl) ?_
  refine al_c (pc := 1) (snd_get C dX1_forget_1 (ci := 1) (kf := 0) rfl (by decide) inX1_forget_X1 rfl (by decide +kernel)) ?_
  refine al_c (pc := 4) (snd_iconst C dX1_forget_4 (by decide)) ?_
  refine al_c (pc := 5) (snd_Cv C (site_S C dX1_forget_5 gX1_forget_J7_fill_53178 rfl rfl rfl ⟨by decide +kernel, by decide +kernel, by decide +kernel⟩ ⟨by decide, by decide⟩) mJ7_fill_53178) ?_
  refine al_c (pc := 8) (snd_aload_n C dX1_forget_8 rfl) ?_
  refine al_c (pc := 9) (snd_iconst C dX1_forget_9 (by decide)) ?_
  refine al_c (pc := 10) (snd_put C dX1_forget_10 (ci := 1) (kf := 2) rfl (by decide) inX1_forget_X1 tyX1_ok nmX1 rfl rfl rfl (by decide +kernel)) ?_
  refine al_c (pc := 13) (snd_Rv C hQ hr dX1_forget_13) ?_
  exact al_0
set_option maxHeartbeats 1000000 in
set_option maxRecDepth 100000 in
theorem mX1_forget : aMv yX1_forget wsX1_forget rmX1_forget tX1_forget := by
  refine aMv_of (by decide +kernel) rfl rfl (by intro av X post hT; obtain ⟨c, t, rm, pm, fd, w, h, wl, pr, fe, qu, co, pa, rfl, rfl, hp⟩ := hT; exact Nat.le_of_ble_eq_true rfl) ?_
  intro Γ ad av X post C hQ hr hT
  obtain ⟨c, t, rm, pm, fd, w, h, wl, pr, fe, qu, co, pa, rfl, rfl, hp⟩ := hT
  have OK := okX1_forget C hQ hr
  refine go OK [] 40 ?_
  refine ⟨_, _, _, _, _, _, _, _, _, _, _, _, _, _, rfl, rfl, fun fe2 hf => ?_⟩
  exact ⟨rfl, hp fe2 ⟨rfl, fun i v h => by simp at h, fun v hv => hf v hv⟩⟩
abbrev tX1_rollsAt : aTi := fun av X post => ∃ (a b : Int32) (k tt : Nat) (c t rm pm fd : Int32) (w h : Nat) (wl pr fe qu co pa : Nat → Int32), av = [.ref 4, .int a, .int b] ∧ a = nI k ∧ b = nI tt ∧ X = CW c t rm pm (nI w) (nI h) fd wl pr fe qu co pa ∧ k < 49 ∧ tt < 36 ∧ post (fe (k * 36 + tt)) X
theorem wayI (k tt : Nat) : nI k * 36 + nI tt = nI (k * 36 + tt) := by rw [show (36 : Int32) = nI 36 from rfl, pk_mul, nI_add]
abbrev rmX1_rollsAt : Room := { frames := 0, cells := 0, slots := 0, locals := 0 }
theorem inX1_rollsAt_X1 : ∀ w ∈ wsX10, w ∈ wsX1_rollsAt := by decide +kernel
def tbX1_rollsAt (post : Int32 → List aE → Prop) (ad0 : Nat → Nat) : List (Nat × aO) := [(0, oIL 1 1),
  (1, oC (36) 3),
  (3, oImul 4),
  (4, oIL 2 5),
  (5, oIadd 6),
  (6, oIS 3 7),
  (7, oIL 3 8),
  (8, oIf_lt 29 11),
  (11, oIL 3 12),
  (12, oAL 0 13),
  (13, oGet 1 0 16),
  (16, oAlen 17),
  (17, oIc_ge 29 20),
  (20, oAL 0 21),
  (21, oGet 1 0 24),
  (24, oIL 3 25),
  (25, oIald 26),
  (26, oGo 30),
  (29, oC (-1) 30),
  (30, oRi post ad0 rmX1_rollsAt.cells rmX1_rollsAt.slots)]
set_option maxRecDepth 20000 in
theorem okX1_rollsAt {Γ : aΓ} {post : Int32 → List aE → Prop} {ad0 : Nat → Nat} {X0 : List aE} (C : FOK Γ cX1_rollsAt wsX1_rollsAt RX1 4 rmX1_rollsAt) (hQ : isQ Γ (va_Qi post (aBk (gK Γ) ad0 X0 (hsz Γ)) (aA (gK Γ) ad0 X0 (hsz Γ))) rmX1_rollsAt ad0 X0) (hr : rTy Γ = some .int) : AllS Γ (tbX1_rollsAt post ad0) := by
  unfold tbX1_rollsAt
  refine al_c (pc := 0) (snd_iload_n C dX1_rollsAt_0 rfl) ?_
  refine al_c (pc := 1) (snd_bipush C dX1_rollsAt_1 (by decide)) ?_
  refine al_c (pc := 3) (snd_imul C dX1_rollsAt_3) ?_
  refine al_c (pc := 4) (snd_iload_n C dX1_rollsAt_4 rfl) ?_
  refine al_c (pc := 5) (snd_iadd C dX1_rollsAt_5) ?_
  refine al_c (pc := 6) (snd_istore_n C dX1_rollsAt_6 rfl (by decide)) ?_
  refine al_c (pc := 7) (snd_iload_n C dX1_rollsAt_7 rfl) ?_
  refine al_c (pc := 8) (snd_if_lt C dX1_rollsAt_8 (by decide)) ?_
  refine al_c (pc := 11) (snd_iload_n C dX1_rollsAt_11 rfl) ?_
  refine al_c (pc := 12) (snd_aload_n C dX1_rollsAt_12 rfl) ?_
  refine al_c (pc := 13) (snd_get C dX1_rollsAt_13 (ci := 1) (kf := 0) rfl (by decide) inX1_rollsAt_X1 rfl (by decide +kernel)) ?_
  refine al_c (pc := 16) (snd_alen C dX1_rollsAt_16) ?_
  refine al_c (pc := 17) (snd_icmp_ge C dX1_rollsAt_17 (by decide)) ?_
  refine al_c (pc := 20) (snd_aload_n C dX1_rollsAt_20 rfl) ?_
  refine al_c (pc := 21) (snd_get C dX1_rollsAt_21 (ci := 1) (kf := 0) rfl (by decide) inX1_rollsAt_X1 rfl (by decide +kernel)) ?_
  refine al_c (pc := 24) (snd_iload_n C dX1_rollsAt_24 rfl) ?_
  refine al_c (pc := 25) (snd_iaload C dX1_rollsAt_25) ?_
  refine al_c (pc := 26) (snd_goto C dX1_rollsAt_26 (by decide)) ?_
  refine al_c (pc := 29) (snd_iconst C dX1_rollsAt_29 (by decide)) ?_
  refine al_c (pc := 30) (snd_Ri C hQ hr dX1_rollsAt_30) ?_
  exact al_0
set_option maxHeartbeats 1000000 in
set_option maxRecDepth 100000 in
theorem mX1_rollsAt : aMi yX1_rollsAt wsX1_rollsAt rmX1_rollsAt tX1_rollsAt := by
  refine aMi_of (by decide +kernel) rfl rfl (by intro av X post hT; obtain ⟨a, b, k, tt, c, t, rm, pm, fd, w, h, wl, pr, fe, qu, co, pa, rfl, rfl, rfl, rfl, hk, ht, hp⟩ := hT; exact Nat.le_of_ble_eq_true rfl) ?_
  intro Γ ad av X post C hQ hr hT
  obtain ⟨a, b, k, tt, c, t, rm, pm, fd, w, h, wl, pr, fe, qu, co, pa, rfl, rfl, rfl, rfl, hk, ht, hp⟩ := hT
  have OK := okX1_rollsAt C hQ hr
  have hlt : k * 36 + tt < 1764 := by omega
  refine go OK [] 40 ?_
  refine And.intro (fun q => absurd (show nI (k * 36 + tt) < 0 by rw [← wayI]; exact q) (nI_pos (by omega))) (fun _ => ?_)
  rw [wayI]
  refine And.intro (fun q => absurd q (nI_ge (b := 1764) hlt (by omega))) (fun _ => ?_)
  refine ⟨inS hlt (by decide), ?_⟩
  rw [nI_clampS (by omega)]
  exact ⟨rfl, hp⟩
abbrev tX1_reach : aTv := fun av X post => ∃ (a b r : Int32) (k tt n : Nat) (S : qS) (c t rm pm fd : Int32) (w h : Nat) (wl pr fe qu co pa : Nat → Int32), av = [.ref 4, .int a, .int b, .int r] ∧ a = nI k ∧ b = nI tt ∧ r = nI n ∧ X = CW c t rm pm (nI w) (nI h) fd wl pr fe qu co pa ∧ k < 49 ∧ tt < 36 ∧ n < 5000 ∧ RC S fe qu fd ∧ bS S ∧
  ∀ (fd2 : Int32) (fe2 qu2 : Nat → Int32), RC (vis n S (k * 36 + tt)) fe2 qu2 fd2 → post (CW c t rm pm (nI w) (nI h) fd2 wl pr fe2 qu2 co pa)
abbrev rmX1_reach : Room := { frames := 0, cells := 0, slots := 0, locals := 0 }
theorem inX1_reach_X1 : ∀ w ∈ wsX10, w ∈ wsX1_reach := by decide +kernel
def tbX1_reach (post : List aE → Prop) (ad0 : Nat → Nat) : List (Nat × aO) := [(0, oIL 1 1),
  (1, oC (36) 3),
  (3, oImul 4),
  (4, oIL 2 5),
  (5, oIadd 6),
  (6, oIS 4 8),
  (8, oIL 4 10),
  (10, oIf_lt 46 13),
  (13, oIL 4 15),
  (15, oAL 0 16),
  (16, oGet 1 0 19),
  (19, oAlen 20),
  (20, oIc_ge 46 23),
  (23, oAL 0 24),
  (24, oGet 1 2 27),
  (27, oAL 0 28),
  (28, oGet 1 1 31),
  (31, oAlen 32),
  (32, oIc_ge 46 35),
  (35, oAL 0 36),
  (36, oGet 1 0 39),
  (39, oIL 4 41),
  (41, oIald 42),
  (42, oC (-1) 43),
  (43, oIc_eq 47 46),
  (46, oRv post ad0 rmX1_reach.cells rmX1_reach.slots),
  (47, oAL 0 48),
  (48, oGet 1 0 51),
  (51, oIL 4 53),
  (53, oIL 3 54),
  (54, oIast 55),
  (55, oAL 0 56),
  (56, oGet 1 1 59),
  (59, oAL 0 60),
  (60, oGet 1 2 63),
  (63, oIL 4 65),
  (65, oIast 66),
  (66, oAL 0 67),
  (67, oDup 68),
  (68, oGet 1 2 71),
  (71, oC (1) 72),
  (72, oIadd 73),
  (73, oPut 1 2 76),
  (76, oRv post ad0 rmX1_reach.cells rmX1_reach.slots)]
set_option maxRecDepth 20000 in
theorem okX1_reach {Γ : aΓ} {post : List aE → Prop} {ad0 : Nat → Nat} {X0 : List aE} (C : FOK Γ cX1_reach wsX1_reach RX1 5 rmX1_reach) (hQ : isQ Γ (va_Qv post (aBk (gK Γ) ad0 X0 (hsz Γ)) (aA (gK Γ) ad0 X0 (hsz Γ))) rmX1_reach ad0 X0) (hr : rTy Γ = none) : AllS Γ (tbX1_reach post ad0) := by
  unfold tbX1_reach
  refine al_c (pc := 0) (snd_iload_n C dX1_reach_0 rfl) ?_
  refine al_c (pc := 1) (snd_bipush C dX1_reach_1 (by decide)) ?_
  refine al_c (pc := 3) (snd_imul C dX1_reach_3) ?_
  refine al_c (pc := 4) (snd_iload_n C dX1_reach_4 rfl) ?_
  refine al_c (pc := 5) (snd_iadd C dX1_reach_5) ?_
  refine al_c (pc := 6) (snd_istore C dX1_reach_6 (by decide)) ?_
  refine al_c (pc := 8) (snd_iload C dX1_reach_8) ?_
  refine al_c (pc := 10) (snd_if_lt C dX1_reach_10 (by decide)) ?_
  refine al_c (pc := 13) (snd_iload C dX1_reach_13) ?_
  refine al_c (pc := 15) (snd_aload_n C dX1_reach_15 rfl) ?_
  refine al_c (pc := 16) (snd_get C dX1_reach_16 (ci := 1) (kf := 0) rfl (by decide) inX1_reach_X1 rfl (by decide +kernel)) ?_
  refine al_c (pc := 19) (snd_alen C dX1_reach_19) ?_
  refine al_c (pc := 20) (snd_icmp_ge C dX1_reach_20 (by decide)) ?_
  refine al_c (pc := 23) (snd_aload_n C dX1_reach_23 rfl) ?_
  refine al_c (pc := 24) (snd_get C dX1_reach_24 (ci := 1) (kf := 2) rfl (by decide) inX1_reach_X1 rfl (by decide +kernel)) ?_
  refine al_c (pc := 27) (snd_aload_n C dX1_reach_27 rfl) ?_
  refine al_c (pc := 28) (snd_get C dX1_reach_28 (ci := 1) (kf := 1) rfl (by decide) inX1_reach_X1 rfl (by decide +kernel)) ?_
  refine al_c (pc := 31) (snd_alen C dX1_reach_31) ?_
  refine al_c (pc := 32) (snd_icmp_ge C dX1_reach_32 (by decide)) ?_
  refine al_c (pc := 35) (snd_aload_n C dX1_reach_35 rfl) ?_
  refine al_c (pc := 36) (snd_get C dX1_reach_36 (ci := 1) (kf := 0) rfl (by decide) inX1_reach_X1 rfl (by decide +kernel)) ?_
  refine al_c (pc := 39) (snd_iload C dX1_reach_39) ?_
  refine al_c (pc := 41) (snd_iaload C dX1_reach_41) ?_
  refine al_c (pc := 42) (snd_iconst C dX1_reach_42 (by decide)) ?_
  refine al_c (pc := 43) (snd_icmp_eq C dX1_reach_43 (by decide)) ?_
  refine al_c (pc := 46) (snd_Rv C hQ hr dX1_reach_46) ?_
  refine al_c (pc := 47) (snd_aload_n C dX1_reach_47 rfl) ?_
  refine al_c (pc := 48) (snd_get C dX1_reach_48 (ci := 1) (kf := 0) rfl (by decide) inX1_reach_X1 rfl (by decide +kernel)) ?_
  refine al_c (pc := 51) (snd_iload C dX1_reach_51) ?_
  refine al_c (pc := 53) (snd_iload_n C dX1_reach_53 rfl) ?_
  refine al_c (pc := 54) (snd_iastore C dX1_reach_54) ?_
  refine al_c (pc := 55) (snd_aload_n C dX1_reach_55 rfl) ?_
  refine al_c (pc := 56) (snd_get C dX1_reach_56 (ci := 1) (kf := 1) rfl (by decide) inX1_reach_X1 rfl (by decide +kernel)) ?_
  refine al_c (pc := 59) (snd_aload_n C dX1_reach_59 rfl) ?_
  refine al_c (pc := 60) (snd_get C dX1_reach_60 (ci := 1) (kf := 2) rfl (by decide) inX1_reach_X1 rfl (by decide +kernel)) ?_
  refine al_c (pc := 63) (snd_iload C dX1_reach_63) ?_
  refine al_c (pc := 65) (snd_iastore C dX1_reach_65) ?_
  refine al_c (pc := 66) (snd_aload_n C dX1_reach_66 rfl) ?_
  refine al_c (pc := 67) (snd_dup C dX1_reach_67) ?_
  refine al_c (pc := 68) (snd_get C dX1_reach_68 (ci := 1) (kf := 2) rfl (by decide) inX1_reach_X1 rfl (by decide +kernel)) ?_
  refine al_c (pc := 71) (snd_iconst C dX1_reach_71 (by decide)) ?_
  refine al_c (pc := 72) (snd_iadd C dX1_reach_72) ?_
  refine al_c (pc := 73) (snd_put C dX1_reach_73 (ci := 1) (kf := 2) rfl (by decide) inX1_reach_X1 tyX1_ok nmX1 rfl rfl rfl (by decide +kernel)) ?_
  refine al_c (pc := 76) (snd_Rv C hQ hr dX1_reach_76) ?_
  exact al_0
set_option maxHeartbeats 1000000 in
set_option maxRecDepth 100000 in
theorem mX1_reach : aMv yX1_reach wsX1_reach rmX1_reach tX1_reach := by
  refine aMv_of (by decide +kernel) rfl rfl (by intro av X post hT; obtain ⟨a, b, r, k, tt, n, S, c, t, rm, pm, fd, w, h, wl, pr, fe, qu, co, pa, rfl, rfl, rfl, rfl, rfl, hk, ht, hn, hR, hb, hp⟩ := hT; exact Nat.le_of_ble_eq_true rfl) ?_
  intro Γ ad av X post C hQ hr hT
  obtain ⟨a, b, r, k, tt, n, S, c, t, rm, pm, fd, w, h, wl, pr, fe, qu, co, pa, rfl, rfl, rfl, rfl, rfl, hk, ht, hn, hR, hb, hp⟩ := hT
  have OK := okX1_reach C hQ hr
  have hlt : k * 36 + tt < 1764 := by omega
  obtain ⟨rfl, hq, hf⟩ := hR
  have hlen := bS_len hb
  have old : ∀ x, S.2 (k * 36 + tt) = some x → post (CW c t rm pm (nI w) (nI h) (nI S.1.length) wl pr fe qu co pa) := fun x hx => hp _ _ _ (by
    have : vis n S (k * 36 + tt) = S := by unfold vis; rw [hx]
    rw [this]
    exact ⟨rfl, hq, hf⟩)
  refine go OK [] 60 ?_
  refine And.intro (fun q => absurd (show nI (k * 36 + tt) < 0 by rw [← wayI]; exact q) (nI_pos (by omega))) (fun _ => ?_)
  rw [wayI]
  refine And.intro (fun q => absurd q (nI_ge (b := 1764) hlt (by omega))) (fun _ => ?_)
  refine And.intro (fun q => ?_) (fun q => ?_)
  · have q := (leN (a := 1764) (by omega) (by omega)).mp q
    obtain ⟨x, hx⟩ := bS_full hb hlt q
    exact ⟨rfl, old x hx⟩
  · have hl2 : S.1.length < 1764 := by
      rcases Nat.lt_or_ge S.1.length 1764 with z | z
      · exact z
      · exact absurd ((leN (a := 1764) (by omega) (by omega)).mpr z) q
    refine ⟨inS hlt (by decide), ?_⟩
    rw [nI_clampS (by omega), hf _ hlt]
    refine And.intro (fun q2 => ?_) (fun q2 => ?_)
    · have e := (oI_lt hb _).mp q2
      refine ⟨inS hlt (by decide), ?_⟩
      rw [nI_clampS (by omega)]
      refine ⟨inS hl2 (by decide), ?_⟩
      rw [nI_clampS (by omega)]
      refine ⟨rfl, ?_⟩
      refine hp _ _ _ ?_
      have eS : vis n S (k * 36 + tt) = (S.1 ++ [k * 36 + tt], fun x => if x = k * 36 + tt then some n else S.2 x) := by unfold vis; rw [e]
      rw [eS]
      refine ⟨by rw [nI_p1]; simp, fun i v hv => ?_, fun v hv => ?_⟩
      · by_cases hi : i = S.1.length
        · subst hi
          simp at hv
          rw [pk_us, hv]
        · rw [pk_un hi]
          have hi2 : i < S.1.length := by
            have := (List.getElem?_eq_some_iff.mp hv).1
            simp at this
            omega
          rw [List.getElem?_append_left hi2] at hv
          exact hq i v hv
      · show _ = oI (if v = k * 36 + tt then some n else S.2 v)
        by_cases hv2 : v = k * 36 + tt
        · rw [if_pos hv2, hv2, pk_us]
          rfl
        · rw [if_neg hv2, pk_un hv2]
          exact hf v hv
    · cases e : S.2 (k * 36 + tt) with
      | none => exact absurd ((oI_lt hb _).mpr e) q2
      | some x => exact ⟨rfl, old x e⟩
