/-! ===== the model's search ===== -/
theorem miI (c a b : Nat) : 49 * nI c + 7 * nI (a + 1) + nI (b + 1) - 8 = nI (49 * c + 7 * a + b) := by
  rw [show (49 : Int32) = nI 49 from rfl, show (7 : Int32) = nI 7 from rfl, mulI, mulI, nI_add, nI_add, show 49 * c + 7 * (a + 1) + (b + 1) = (49 * c + 7 * a + b) + 8 by omega, ← nI_add, show nI 8 = (8 : Int32) from rfl, Int32.add_sub_cancel]
/-- the place of a way to lie in the model's row of distances -/
def mi (w v : Nat) : Nat := 49 * cm w (v / 36) + 7 * (v % 36 / 6) + v % 36 % 6
def ob (w h v : Nat) : Prop := v / 36 % 7 < w ∧ v / 36 / 7 < h
theorem mi_at {w j u : Nat} (hu : u < 36) : mi w (j * 36 + u) = 49 * cm w j + 7 * (u / 6) + u % 6 := by
  unfold mi
  rw [show (j * 36 + u) / 36 = j by omega, show (j * 36 + u) % 36 = u by omega]
theorem mi_lt {w h v : Nat} (hw : w ≤ 7) (hh : h ≤ 7) (hv : ob w h v) : mi w v < 2401 := by
  have := cm_lt hw hh hv.1 hv.2
  unfold mi
  omega
theorem mi_inj {w h a b : Nat} (ha : ob w h a) (hb : ob w h b) (e : mi w a = mi w b) : a = b := by
  unfold mi at e
  have h1 : cm w (a / 36) = cm w (b / 36) := by omega
  have h2 := cm_inj ha.1 hb.1 h1
  omega
def RM (w h : Nat) (S : qS) (rc : Int32) (fa ce ts ns es : Nat → Int32) : Prop :=
  rc = nI S.1.length ∧ (∀ i v, S.1[i]? = some v → ob w h v ∧ ce i = nI (cm w (v / 36)) ∧ ts i = nI (v % 36 / 6 + 1) ∧ ns i = nI (v % 36 % 6 + 1) ∧ es i = nI (eoN (v % 36))) ∧ ∀ v, ob w h v → fa (mi w v) = oI (S.2 v)
theorem upd_ap {f : Nat → Int32} {l : List Nat} {v : Nat} {g : Nat → Int32} (h : ∀ i x, l[i]? = some x → f i = g x) : ∀ i x, (l ++ [v])[i]? = some x → upd f l.length (g v) i = g x := by
  intro i x hi
  by_cases hl : i < l.length
  · rw [List.getElem?_append_left hl] at hi
    rw [pk_un (by omega)]
    exact h i x hi
  · rw [List.getElem?_append_right (by omega)] at hi
    have hz : i - l.length < 1 := (List.getElem?_eq_some_iff.mp hi).1
    have : i = l.length := by omega
    subst this
    simp at hi
    rw [pk_us, hi]
theorem RM_vis {w h r j u : Nat} {S : qS} {rc : Int32} {fa ce ts ns es : Nat → Int32} (hu : u < 36) (hj : ob w h (j * 36 + u)) (e : S.2 (j * 36 + u) = none) (hR : RM w h S rc fa ce ts ns es) :
    RM w h (vis r S (j * 36 + u)) (rc + 1) (upd fa (mi w (j * 36 + u)) (nI r)) (upd ce S.1.length (nI (cm w j))) (upd ts S.1.length (nI (u / 6 + 1))) (upd ns S.1.length (nI (u % 6 + 1))) (upd es S.1.length (nI (eoN u))) := by
  obtain ⟨rfl, hq, hf⟩ := hR
  have eS : vis r S (j * 36 + u) = (S.1 ++ [j * 36 + u], fun x => if x = j * 36 + u then some r else S.2 x) := by unfold vis; rw [e]
  rw [eS]
  have e1 : (j * 36 + u) / 36 = j := by omega
  have e2 : (j * 36 + u) % 36 = u := by omega
  refine ⟨?_, fun i v hi => ⟨?_, ?_, ?_, ?_, ?_⟩, fun v hv => ?_⟩
  · rw [nI_p1]
    simp
  · rcases List.mem_append.mp (List.mem_of_getElem? hi) with z | z
    · obtain ⟨i2, hi2⟩ := List.getElem?_of_mem z
      exact (hq i2 v hi2).1
    · rw [List.mem_singleton.mp z]
      exact hj
  · have := upd_ap (f := ce) (v := j * 36 + u) (g := fun x => nI (cm w (x / 36))) (fun i x hx => (hq i x hx).2.1) i v hi
    rw [e1] at this
    exact this
  · have := upd_ap (f := ts) (v := j * 36 + u) (g := fun x => nI (x % 36 / 6 + 1)) (fun i x hx => (hq i x hx).2.2.1) i v hi
    rw [e2] at this
    exact this
  · have := upd_ap (f := ns) (v := j * 36 + u) (g := fun x => nI (x % 36 % 6 + 1)) (fun i x hx => (hq i x hx).2.2.2.1) i v hi
    rw [e2] at this
    exact this
  · have := upd_ap (f := es) (v := j * 36 + u) (g := fun x => nI (eoN (x % 36))) (fun i x hx => (hq i x hx).2.2.2.2) i v hi
    rw [e2] at this
    exact this
  · show upd fa (mi w (j * 36 + u)) (nI r) (mi w v) = oI (if v = j * 36 + u then some r else S.2 v)
    by_cases z : v = j * 36 + u
    · rw [if_pos z, z, pk_us]
      rfl
    · rw [if_neg z, pk_un (fun q => z (mi_inj hv hj q))]
      exact hf v hv
abbrev tX4_reach : aTv := fun av X post => ∃ (a : Int32) (j u r w h : Nat) (S : qS) (th w0 h0 rl ps cl tp nt et ic it iv ie rc : Int32) (wm pq co pa fa ce ts ns es on nx : Nat → Int32), av = [.ref 0, .int a] ∧ a = nI r ∧ ic = nI (cm w j) ∧ it = nI (u / 6 + 1) ∧ iv = nI (u % 6 + 1) ∧ ie = nI (eoN u) ∧ X = MW th w0 h0 rl ps cl tp nt et ic it iv ie rc wm pq co pa fa ce ts ns es on nx ∧ w ≤ 7 ∧ h ≤ 7 ∧ j % 7 < w ∧ j / 7 < h ∧ u < 36 ∧ bS S ∧ RM w h S rc fa ce ts ns es ∧
  ∀ (rc2 : Int32) (fa2 ce2 ts2 ns2 es2 : Nat → Int32), RM w h (vis r S (j * 36 + u)) rc2 fa2 ce2 ts2 ns2 es2 → post (MW th w0 h0 rl ps cl tp nt et ic it iv ie rc2 wm pq co pa fa2 ce2 ts2 ns2 es2 on nx)
abbrev rmX4_reach : Room := { frames := 0, cells := 0, slots := 0, locals := 0 }
theorem inX4_reach_X4 : ∀ w ∈ wsX40, w ∈ wsX4_reach := by decide +kernel
def tbX4_reach (post : List aE → Prop) (ad0 : Nat → Nat) : List (Nat × aO) := [(0, oC (49) 2),
  (2, oAL 0 3),
  (3, oGet 3 13 6),
  (6, oImul 7),
  (7, oC (7) 9),
  (9, oAL 0 10),
  (10, oGet 3 14 13),
  (13, oImul 14),
  (14, oIadd 15),
  (15, oAL 0 16),
  (16, oGet 3 15 19),
  (19, oIadd 20),
  (20, oC (8) 22),
  (22, oIsub 23),
  (23, oIS 2 24),
  (24, oAL 0 25),
  (25, oGet 3 17 28),
  (28, oIL 2 29),
  (29, oIald 30),
  (30, oC (-1) 31),
  (31, oIc_eq 35 34),
  (34, oRv post ad0 rmX4_reach.cells rmX4_reach.slots),
  (35, oAL 0 36),
  (36, oGet 3 17 39),
  (39, oIL 2 40),
  (40, oIL 1 41),
  (41, oIast 42),
  (42, oAL 0 43),
  (43, oGet 3 18 46),
  (46, oAL 0 47),
  (47, oGet 3 22 50),
  (50, oAL 0 51),
  (51, oGet 3 13 54),
  (54, oIast 55),
  (55, oAL 0 56),
  (56, oGet 3 19 59),
  (59, oAL 0 60),
  (60, oGet 3 22 63),
  (63, oAL 0 64),
  (64, oGet 3 14 67),
  (67, oIast 68),
  (68, oAL 0 69),
  (69, oGet 3 20 72),
  (72, oAL 0 73),
  (73, oGet 3 22 76),
  (76, oAL 0 77),
  (77, oGet 3 15 80),
  (80, oIast 81),
  (81, oAL 0 82),
  (82, oGet 3 21 85),
  (85, oAL 0 86),
  (86, oGet 3 22 89),
  (89, oAL 0 90),
  (90, oGet 3 16 93),
  (93, oIast 94),
  (94, oAL 0 95),
  (95, oDup 96),
  (96, oGet 3 22 99),
  (99, oC (1) 100),
  (100, oIadd 101),
  (101, oPut 3 22 104),
  (104, oRv post ad0 rmX4_reach.cells rmX4_reach.slots)]
set_option maxRecDepth 20000 in
theorem okX4_reach {Γ : aΓ} {post : List aE → Prop} {ad0 : Nat → Nat} {X0 : List aE} (C : FOK Γ cX4_reach wsX4_reach RX4 3 rmX4_reach) (hQ : isQ Γ (va_Qv post (aBk (gK Γ) ad0 X0 (hsz Γ)) (aA (gK Γ) ad0 X0 (hsz Γ))) rmX4_reach ad0 X0) (hr : rTy Γ = none) : AllS Γ (tbX4_reach post ad0) := by
  unfold tbX4_reach
  refine al_c (pc := 0) (snd_bipush C dX4_reach_0 (by decide)) ?_
  refine al_c (pc := 2) (snd_aload_n C dX4_reach_2 rfl) ?_
  refine al_c (pc := 3) (snd_get C dX4_reach_3 (ci := 3) (kf := 13) rfl (by decide) inX4_reach_X4 rfl (by decide +kernel)) ?_
  refine al_c (pc := 6) (snd_imul C dX4_reach_6) ?_
  refine al_c (pc := 7) (snd_bipush C dX4_reach_7 (by decide)) ?_
  refine al_c (pc := 9) (snd_aload_n C dX4_reach_9 rfl) ?_
  refine al_c (pc := 10) (snd_get C dX4_reach_10 (ci := 3) (kf := 14) rfl (by decide) inX4_reach_X4 rfl (by decide +kernel)) ?_
  refine al_c (pc := 13) (snd_imul C dX4_reach_13) ?_
  refine al_c (pc := 14) (snd_iadd C dX4_reach_14) ?_
  refine al_c (pc := 15) (snd_aload_n C dX4_reach_15 rfl) ?_
  refine al_c (pc := 16) (snd_get C dX4_reach_16 (ci := 3) (kf := 15) rfl (by decide) inX4_reach_X4 rfl (by decide +kernel)) ?_
  refine al_c (pc := 19) (snd_iadd C dX4_reach_19) ?_
  refine al_c (pc := 20) (snd_bipush C dX4_reach_20 (by decide)) ?_
  refine al_c (pc := 22) (snd_isub C dX4_reach_22) ?_
  refine al_c (pc := 23) (snd_istore_n C dX4_reach_23 rfl (by decide)) ?_
  refine al_c (pc := 24) (snd_aload_n C dX4_reach_24 rfl) ?_
  refine al_c (pc := 25) (snd_get C dX4_reach_25 (ci := 3) (kf := 17) rfl (by decide) inX4_reach_X4 rfl (by decide +kernel)) ?_
  refine al_c (pc := 28) (snd_iload_n C dX4_reach_28 rfl) ?_
  refine al_c (pc := 29) (snd_iaload C dX4_reach_29) ?_
  refine al_c (pc := 30) (snd_iconst C dX4_reach_30 (by decide)) ?_
  refine al_c (pc := 31) (snd_icmp_eq C dX4_reach_31 (by decide)) ?_
  refine al_c (pc := 34) (snd_Rv C hQ hr dX4_reach_34) ?_
  refine al_c (pc := 35) (snd_aload_n C dX4_reach_35 rfl) ?_
  refine al_c (pc := 36) (snd_get C dX4_reach_36 (ci := 3) (kf := 17) rfl (by decide) inX4_reach_X4 rfl (by decide +kernel)) ?_
  refine al_c (pc := 39) (snd_iload_n C dX4_reach_39 rfl) ?_
  refine al_c (pc := 40) (snd_iload_n C dX4_reach_40 rfl) ?_
  refine al_c (pc := 41) (snd_iastore C dX4_reach_41) ?_
  refine al_c (pc := 42) (snd_aload_n C dX4_reach_42 rfl) ?_
  refine al_c (pc := 43) (snd_get C dX4_reach_43 (ci := 3) (kf := 18) rfl (by decide) inX4_reach_X4 rfl (by decide +kernel)) ?_
  refine al_c (pc := 46) (snd_aload_n C dX4_reach_46 rfl) ?_
  refine al_c (pc := 47) (snd_get C dX4_reach_47 (ci := 3) (kf := 22) rfl (by decide) inX4_reach_X4 rfl (by decide +kernel)) ?_
  refine al_c (pc := 50) (snd_aload_n C dX4_reach_50 rfl) ?_
  refine al_c (pc := 51) (snd_get C dX4_reach_51 (ci := 3) (kf := 13) rfl (by decide) inX4_reach_X4 rfl (by decide +kernel)) ?_
  refine al_c (pc := 54) (snd_iastore C dX4_reach_54) ?_
  refine al_c (pc := 55) (snd_aload_n C dX4_reach_55 rfl) ?_
  refine al_c (pc := 56) (snd_get C dX4_reach_56 (ci := 3) (kf := 19) rfl (by decide) inX4_reach_X4 rfl (by decide +kernel)) ?_
  refine al_c (pc := 59) (snd_aload_n C dX4_reach_59 rfl) ?_
  refine al_c (pc := 60) (snd_get C dX4_reach_60 (ci := 3) (kf := 22) rfl (by decide) inX4_reach_X4 rfl (by decide +kernel)) ?_
  refine al_c (pc := 63) (snd_aload_n C dX4_reach_63 rfl) ?_
  refine al_c (pc := 64) (snd_get C dX4_reach_64 (ci := 3) (kf := 14) rfl (by decide) inX4_reach_X4 rfl (by decide +kernel)) ?_
  refine al_c (pc := 67) (snd_iastore C dX4_reach_67) ?_
  refine al_c (pc := 68) (snd_aload_n C dX4_reach_68 rfl) ?_
  refine al_c (pc := 69) (snd_get C dX4_reach_69 (ci := 3) (kf := 20) rfl (by decide) inX4_reach_X4 rfl (by decide +kernel)) ?_
  refine al_c (pc := 72) (snd_aload_n C dX4_reach_72 rfl) ?_
  refine al_c (pc := 73) (snd_get C dX4_reach_73 (ci := 3) (kf := 22) rfl (by decide) inX4_reach_X4 rfl (by decide +kernel)) ?_
  refine al_c (pc := 76) (snd_aload_n C dX4_reach_76 rfl) ?_
  refine al_c (pc := 77) (snd_get C dX4_reach_77 (ci := 3) (kf := 15) rfl (by decide) inX4_reach_X4 rfl (by decide +kernel)) ?_
  refine al_c (pc := 80) (snd_iastore C dX4_reach_80) ?_
  refine al_c (pc := 81) (snd_aload_n C dX4_reach_81 rfl) ?_
  refine al_c (pc := 82) (snd_get C dX4_reach_82 (ci := 3) (kf := 21) rfl (by decide) inX4_reach_X4 rfl (by decide +kernel)) ?_
  refine al_c (pc := 85) (snd_aload_n C dX4_reach_85 rfl) ?_
  refine al_c (pc := 86) (snd_get C dX4_reach_86 (ci := 3) (kf := 22) rfl (by decide) inX4_reach_X4 rfl (by decide +kernel)) ?_
  refine al_c (pc := 89) (snd_aload_n C dX4_reach_89 rfl) ?_
  refine al_c (pc := 90) (snd_get C dX4_reach_90 (ci := 3) (kf := 16) rfl (by decide) inX4_reach_X4 rfl (by decide +kernel)) ?_
  refine al_c (pc := 93) (snd_iastore C dX4_reach_93) ?_
  refine al_c (pc := 94) (snd_aload_n C dX4_reach_94 rfl) ?_
  refine al_c (pc := 95) (snd_dup C dX4_reach_95) ?_
  refine al_c (pc := 96) (snd_get C dX4_reach_96 (ci := 3) (kf := 22) rfl (by decide) inX4_reach_X4 rfl (by decide +kernel)) ?_
  refine al_c (pc := 99) (snd_iconst C dX4_reach_99 (by decide)) ?_
  refine al_c (pc := 100) (snd_iadd C dX4_reach_100) ?_
  refine al_c (pc := 101) (snd_put C dX4_reach_101 (ci := 3) (kf := 22) rfl (by decide) inX4_reach_X4 tyX4_ok nmX4 rfl rfl rfl (by decide +kernel)) ?_
  refine al_c (pc := 104) (snd_Rv C hQ hr dX4_reach_104) ?_
  exact al_0
set_option maxHeartbeats 1000000 in
set_option maxRecDepth 100000 in
theorem mX4_reach : aMv yX4_reach wsX4_reach rmX4_reach tX4_reach := by
  refine aMv_of (by decide +kernel) rfl rfl (by intro av X post hT; obtain ⟨a, j, u, r, w, h, S, th, w0, h0, rl, ps, cl, tp, nt, et, ic, it, iv, ie, rc, wm, pq, co, pa, fa, ce, ts, ns, es, on, nx, rfl, rfl, rfl, rfl, rfl, rfl, rfl, hw, hh, hj1, hj2, hu, hS, hR, hp⟩ := hT; exact Nat.le_of_ble_eq_true rfl) ?_
  intro Γ ad av X post C hQ hr hT
  obtain ⟨a, j, u, r, w, h, S, th, w0, h0, rl, ps, cl, tp, nt, et, ic, it, iv, ie, rc, wm, pq, co, pa, fa, ce, ts, ns, es, on, nx, rfl, rfl, rfl, rfl, rfl, rfl, rfl, hw, hh, hj1, hj2, hu, hS, hR, hp⟩ := hT
  have OK := okX4_reach C hQ hr
  have hlen := bS_len hS
  have hob : ob w h (j * 36 + u) := by
    refine ⟨?_, ?_⟩
    · rw [show (j * 36 + u) / 36 = j by omega]; exact hj1
    · rw [show (j * 36 + u) / 36 = j by omega]; exact hj2
  have hmi : mi w (j * 36 + u) = 49 * cm w j + 7 * (u / 6) + u % 6 := mi_at hu
  have hlt := mi_lt hw hh hob
  have hp2 := fun e => RM_vis (r := r) hu hob e hR
  obtain ⟨rfl, hq, hf⟩ := id hR
  refine go OK [] 80 ?_
  refine ⟨(show vp_in (49 * nI (cm w j) + 7 * nI (u / 6 + 1) + nI (u % 6 + 1) - 8) 2401 by rw [miI, ← hmi]; exact inS hlt (by decide)), ?_⟩
  rw [miI, ← hmi, nI_clampS (by omega), hf _ hob]
  refine And.intro (fun q => ?_) (fun q => ?_)
  · have e := (oI_lt hS _).mp q
    refine ⟨inS hlt (by decide), ?_⟩
    rw [nI_clampS (by omega)]
    refine ⟨inS (by omega : S.1.length < 2401) (by decide), ?_⟩
    rw [nI_clampS (by omega)]
    refine ⟨inS (by omega : S.1.length < 2401) (by decide), ?_⟩
    rw [nI_clampS (by omega)]
    refine ⟨inS (by omega : S.1.length < 2401) (by decide), ?_⟩
    rw [nI_clampS (by omega)]
    refine ⟨inS (by omega : S.1.length < 2401) (by decide), ?_⟩
    rw [nI_clampS (by omega)]
    exact ⟨rfl, hp _ _ _ _ _ _ (hp2 e)⟩
  · have e : vis r S (j * 36 + u) = S := by
      unfold vis
      cases z : S.2 (j * 36 + u) with
      | none => exact absurd ((oI_lt hS _).mpr z) q
      | some x => rfl
    refine ⟨rfl, hp _ _ _ _ _ _ ?_⟩
    rw [e]
    exact hR
abbrev tX4_farOf : aTi := fun av X post => ∃ (a : Int32) (i v w h : Nat) (S : qS) (th w0 h0 rl ps cl tp nt et ic it iv ie rc : Int32) (wm pq co pa fa ce ts ns es on nx : Nat → Int32), av = [.ref 0, .int a] ∧ a = nI i ∧ X = MW th w0 h0 rl ps cl tp nt et ic it iv ie rc wm pq co pa fa ce ts ns es on nx ∧ w ≤ 7 ∧ h ≤ 7 ∧ bS S ∧ S.1[i]? = some v ∧ RM w h S rc fa ce ts ns es ∧ post (oI (S.2 v)) X
abbrev rmX4_farOf : Room := { frames := 0, cells := 0, slots := 0, locals := 0 }
theorem inX4_farOf_X4 : ∀ w ∈ wsX40, w ∈ wsX4_farOf := by decide +kernel
def tbX4_farOf (post : Int32 → List aE → Prop) (ad0 : Nat → Nat) : List (Nat × aO) := [(0, oAL 0 1),
  (1, oGet 3 17 4),
  (4, oC (49) 6),
  (6, oAL 0 7),
  (7, oGet 3 18 10),
  (10, oIL 1 11),
  (11, oIald 12),
  (12, oImul 13),
  (13, oC (7) 15),
  (15, oAL 0 16),
  (16, oGet 3 19 19),
  (19, oIL 1 20),
  (20, oIald 21),
  (21, oImul 22),
  (22, oIadd 23),
  (23, oAL 0 24),
  (24, oGet 3 20 27),
  (27, oIL 1 28),
  (28, oIald 29),
  (29, oIadd 30),
  (30, oC (8) 32),
  (32, oIsub 33),
  (33, oIald 34),
  (34, oRi post ad0 rmX4_farOf.cells rmX4_farOf.slots)]
set_option maxRecDepth 20000 in
theorem okX4_farOf {Γ : aΓ} {post : Int32 → List aE → Prop} {ad0 : Nat → Nat} {X0 : List aE} (C : FOK Γ cX4_farOf wsX4_farOf RX4 2 rmX4_farOf) (hQ : isQ Γ (va_Qi post (aBk (gK Γ) ad0 X0 (hsz Γ)) (aA (gK Γ) ad0 X0 (hsz Γ))) rmX4_farOf ad0 X0) (hr : rTy Γ = some .int) : AllS Γ (tbX4_farOf post ad0) := by
  unfold tbX4_farOf
  refine al_c (pc := 0) (snd_aload_n C dX4_farOf_0 rfl) ?_
  refine al_c (pc := 1) (snd_get C dX4_farOf_1 (ci := 3) (kf := 17) rfl (by decide) inX4_farOf_X4 rfl (by decide +kernel)) ?_
  refine al_c (pc := 4) (snd_bipush C dX4_farOf_4 (by decide)) ?_
  refine al_c (pc := 6) (snd_aload_n C dX4_farOf_6 rfl) ?_
  refine al_c (pc := 7) (snd_get C dX4_farOf_7 (ci := 3) (kf := 18) rfl (by decide) inX4_farOf_X4 rfl (by decide +kernel)) ?_
  refine al_c (pc := 10) (snd_iload_n C dX4_farOf_10 rfl) ?_
  refine al_c (pc := 11) (snd_iaload C dX4_farOf_11) ?_
  refine al_c (pc := 12) (snd_imul C dX4_farOf_12) ?_
  refine al_c (pc := 13) (snd_bipush C dX4_farOf_13 (by decide)) ?_
  refine al_c (pc := 15) (snd_aload_n C dX4_farOf_15 rfl) ?_
  refine al_c (pc := 16) (snd_get C dX4_farOf_16 (ci := 3) (kf := 19) rfl (by decide) inX4_farOf_X4 rfl (by decide +kernel)) ?_
  refine al_c (pc := 19) (snd_iload_n C dX4_farOf_19 rfl) ?_
  refine al_c (pc := 20) (snd_iaload C dX4_farOf_20) ?_
  refine al_c (pc := 21) (snd_imul C dX4_farOf_21) ?_
  refine al_c (pc := 22) (snd_iadd C dX4_farOf_22) ?_
  refine al_c (pc := 23) (snd_aload_n C dX4_farOf_23 rfl) ?_
  refine al_c (pc := 24) (snd_get C dX4_farOf_24 (ci := 3) (kf := 20) rfl (by decide) inX4_farOf_X4 rfl (by decide +kernel)) ?_
  refine al_c (pc := 27) (snd_iload_n C dX4_farOf_27 rfl) ?_
  refine al_c (pc := 28) (snd_iaload C dX4_farOf_28) ?_
  refine al_c (pc := 29) (snd_iadd C dX4_farOf_29) ?_
  refine al_c (pc := 30) (snd_bipush C dX4_farOf_30 (by decide)) ?_
  refine al_c (pc := 32) (snd_isub C dX4_farOf_32) ?_
  refine al_c (pc := 33) (snd_iaload C dX4_farOf_33) ?_
  refine al_c (pc := 34) (snd_Ri C hQ hr dX4_farOf_34) ?_
  exact al_0
set_option maxHeartbeats 1000000 in
set_option maxRecDepth 100000 in
theorem mX4_farOf : aMi yX4_farOf wsX4_farOf rmX4_farOf tX4_farOf := by
  refine aMi_of (by decide +kernel) rfl rfl (by intro av X post hT; obtain ⟨a, i, v, w, h, S, th, w0, h0, rl, ps, cl, tp, nt, et, ic, it, iv, ie, rc, wm, pq, co, pa, fa, ce, ts, ns, es, on, nx, rfl, rfl, rfl, hw, hh, hS, hi, hR, hp⟩ := hT; exact Nat.le_of_ble_eq_true rfl) ?_
  intro Γ ad av X post C hQ hr hT
  obtain ⟨a, i, v, w, h, S, th, w0, h0, rl, ps, cl, tp, nt, et, ic, it, iv, ie, rc, wm, pq, co, pa, fa, ce, ts, ns, es, on, nx, rfl, rfl, rfl, hw, hh, hS, hi, hR, hp⟩ := hT
  have OK := okX4_farOf C hQ hr
  have hlen := bS_len hS
  obtain ⟨rfl, hq, hf⟩ := id hR
  obtain ⟨hob, q1, q2, q3, q4⟩ := hq i v hi
  have hil := (List.getElem?_eq_some_iff.mp hi).1
  have hlt := mi_lt hw hh hob
  have e : 49 * ce i + 7 * ts i + ns i - 8 = nI (mi w v) := by rw [q1, q2, q3, miI]; rfl
  rw [← hf v hob] at hp
  refine go OK [] 80 ?_
  refine ⟨inS (by omega : i < 2401) (by decide), ?_⟩
  rw [nI_clampS (by omega)]
  refine ⟨inS (by omega : i < 2401) (by decide), ?_⟩
  rw [nI_clampS (by omega)]
  refine ⟨inS (by omega : i < 2401) (by decide), ?_⟩
  rw [nI_clampS (by omega)]
  refine ⟨(show vp_in (49 * ce i + 7 * ts i + ns i - 8) 2401 by rw [e]; exact inS hlt (by decide)), ?_⟩
  rw [e, nI_clampS (by omega)]
  exact ⟨rfl, hp⟩
theorem vis_src (v : Nat) : vis 0 ([], fun _ => none) v = src0 [v] := by
  unfold vis src0
  simp
theorem bS_nil : bS ([], fun _ => none) := bS_e
abbrev tX4_spread : aTv := fun av X post => ∃ (j u : Nat) (wl : Nat → Int32) (th rm pm ic it iv ie rc : Int32) (k tt w h : Nat) (wm pq co pa fa ce ts ns es on nx : Nat → Int32), av = [.ref 0] ∧ ic = nI (cm w j) ∧ it = nI (u / 6 + 1) ∧ iv = nI (u % 6 + 1) ∧ ie = nI (eoN u) ∧ X = MW th (nI w) (nI h) rm pm (nI (cm w k)) (nI (tt / 6 + 1)) (nI (tt % 6 + 1)) (nI (eoN tt)) ic it iv ie rc wm pq co pa fa ce ts ns es on nx ∧ 2 ≤ w ∧ w ≤ 7 ∧ 2 ≤ h ∧ h ≤ 7 ∧ RW w h wl wm ∧ frN w h wl j ∧ vt u = true ∧
  ∀ (ic2 it2 iv2 ie2 rc2 : Int32) (fa2 ce2 ts2 ns2 es2 : Nat → Int32), RM w h (fin (nbF w h wl) 1764 [j * 36 + u]) rc2 fa2 ce2 ts2 ns2 es2 → post (MW th (nI w) (nI h) rm pm (nI (cm w k)) (nI (tt / 6 + 1)) (nI (tt % 6 + 1)) (nI (eoN tt)) ic2 it2 iv2 ie2 rc2 wm pq co pa fa2 ce2 ts2 ns2 es2 on nx)
abbrev rmX4_spread : Room := { frames := 3, cells := 0, slots := 0, locals := 68 }
theorem inX4_spread_X4 : ∀ w ∈ wsX40, w ∈ wsX4_spread := by decide +kernel
def tbX4_spread (post : List aE → Prop) (ad0 : Nat → Nat) : List (Nat × aO) := [(0, oC (0) 1),
  (1, oIS 1 2),
  (2, oIL 1 3),
  (3, oAL 0 4),
  (4, oGet 3 17 7),
  (7, oAlen 8),
  (8, oIc_ge 24 11),
  (11, oAL 0 12),
  (12, oGet 3 17 15),
  (15, oIL 1 16),
  (16, oC (-1) 17),
  (17, oIast 18),
  (18, oInc 1 1 21),
  (21, oGo 2),
  (24, oAL 0 25),
  (25, oC (0) 26),
  (26, oPut 3 22 29),
  (29, oAL 0 30),
  (30, oC (0) 31),
  (31, oCv tX4_reach 2 (some 3) rmX4_reach.cells rmX4_reach.slots rmX4_spread.cells rmX4_spread.slots 34),
  (34, oC (0) 35),
  (35, oIS 1 36),
  (36, oIL 1 37),
  (37, oAL 0 38),
  (38, oGet 3 22 41),
  (41, oIc_ge 105 44),
  (44, oC (0) 45),
  (45, oIS 2 46),
  (46, oIL 2 47),
  (47, oC (4) 48),
  (48, oIc_ge 99 51),
  (51, oAL 0 52),
  (52, oAL 0 53),
  (53, oGet 3 18 56),
  (56, oIL 1 57),
  (57, oIald 58),
  (58, oIL 2 59),
  (59, oCi tX4_beside 3 (some 3) rmX4_beside.cells rmX4_beside.slots rmX4_spread.cells rmX4_spread.slots 62),
  (62, oIS 3 63),
  (63, oIL 3 64),
  (64, oC (-1) 65),
  (65, oIc_ne 71 68),
  (68, oGo 93),
  (71, oAL 0 72),
  (72, oIL 1 73),
  (73, oCv tX4_lookAt 2 (some 3) rmX4_lookAt.cells rmX4_lookAt.slots rmX4_spread.cells rmX4_spread.slots 76),
  (76, oAL 0 77),
  (77, oIL 2 78),
  (78, oIL 3 79),
  (79, oCv tX4_tip 3 (some 3) rmX4_tip.cells rmX4_tip.slots rmX4_spread.cells rmX4_spread.slots 82),
  (82, oAL 0 83),
  (83, oAL 0 84),
  (84, oIL 1 85),
  (85, oCi tX4_farOf 2 (some 3) rmX4_farOf.cells rmX4_farOf.slots rmX4_spread.cells rmX4_spread.slots 88),
  (88, oC (1) 89),
  (89, oIadd 90),
  (90, oCv tX4_reach 2 (some 3) rmX4_reach.cells rmX4_reach.slots rmX4_spread.cells rmX4_spread.slots 93),
  (93, oInc 2 1 96),
  (96, oGo 46),
  (99, oInc 1 1 102),
  (102, oGo 36),
  (105, oRv post ad0 rmX4_spread.cells rmX4_spread.slots)]
set_option maxRecDepth 20000 in
theorem okX4_spread {Γ : aΓ} {post : List aE → Prop} {ad0 : Nat → Nat} {X0 : List aE} (C : FOK Γ cX4_spread wsX4_spread RX4 4 rmX4_spread) (hQ : isQ Γ (va_Qv post (aBk (gK Γ) ad0 X0 (hsz Γ)) (aA (gK Γ) ad0 X0 (hsz Γ))) rmX4_spread ad0 X0) (hr : rTy Γ = none) : AllS Γ (tbX4_spread post ad0) := by
  unfold tbX4_spread
  refine al_c (pc := 0) (snd_iconst C dX4_spread_0 (by decide)) ?_
  refine al_c (pc := 1) (snd_istore_n C dX4_spread_1 rfl (by decide)) ?_
  refine al_c (pc := 2) (snd_iload_n C dX4_spread_2 rfl) ?_
  refine al_c (pc := 3) (snd_aload_n C dX4_spread_3 rfl) ?_
  refine al_c (pc := 4) (snd_get C dX4_spread_4 (ci := 3) (kf := 17) rfl (by decide) inX4_spread_X4 rfl (by decide +kernel)) ?_
  refine al_c (pc := 7) (snd_alen C dX4_spread_7) ?_
  refine al_c (pc := 8) (snd_icmp_ge C dX4_spread_8 (by decide)) ?_
  refine al_c (pc := 11) (snd_aload_n C dX4_spread_11 rfl) ?_
  refine al_c (pc := 12) (snd_get C dX4_spread_12 (ci := 3) (kf := 17) rfl (by decide) inX4_spread_X4 rfl (by decide +kernel)) ?_
  refine al_c (pc := 15) (snd_iload_n C dX4_spread_15 rfl) ?_
  refine al_c (pc := 16) (snd_iconst C dX4_spread_16 (by decide)) ?_
  refine al_c (pc := 17) (snd_iastore C dX4_spread_17) ?_
  refine al_c (pc := 18) (snd_iinc C dX4_spread_18 (by decide) (by decide)) ?_
  refine al_c (pc := 21) (snd_goto C dX4_spread_21 (by decide)) ?_
  refine al_c (pc := 24) (snd_aload_n C dX4_spread_24 rfl) ?_
  refine al_c (pc := 25) (snd_iconst C dX4_spread_25 (by decide)) ?_
  refine al_c (pc := 26) (snd_put C dX4_spread_26 (ci := 3) (kf := 22) rfl (by decide) inX4_spread_X4 tyX4_ok nmX4 rfl rfl rfl (by decide +kernel)) ?_
  refine al_c (pc := 29) (snd_aload_n C dX4_spread_29 rfl) ?_
  refine al_c (pc := 30) (snd_iconst C dX4_spread_30 (by decide)) ?_
  refine al_c (pc := 31) (snd_Cv C (site_V C rfl dX4_spread_31 gX4_spread_X4_reach rfl rfl rfl ⟨rfl, by decide +kernel, by decide +kernel, by decide +kernel⟩ ⟨by decide, by decide⟩) mX4_reach) ?_
  refine al_c (pc := 34) (snd_iconst C dX4_spread_34 (by decide)) ?_
  refine al_c (pc := 35) (snd_istore_n C dX4_spread_35 rfl (by decide)) ?_
  refine al_c (pc := 36) (snd_iload_n C dX4_spread_36 rfl) ?_
  refine al_c (pc := 37) (snd_aload_n C dX4_spread_37 rfl) ?_
  refine al_c (pc := 38) (snd_get C dX4_spread_38 (ci := 3) (kf := 22) rfl (by decide) inX4_spread_X4 rfl (by decide +kernel)) ?_
  refine al_c (pc := 41) (snd_icmp_ge C dX4_spread_41 (by decide)) ?_
  refine al_c (pc := 44) (snd_iconst C dX4_spread_44 (by decide)) ?_
  refine al_c (pc := 45) (snd_istore_n C dX4_spread_45 rfl (by decide)) ?_
  refine al_c (pc := 46) (snd_iload_n C dX4_spread_46 rfl) ?_
  refine al_c (pc := 47) (snd_iconst C dX4_spread_47 (by decide)) ?_
  refine al_c (pc := 48) (snd_icmp_ge C dX4_spread_48 (by decide)) ?_
  refine al_c (pc := 51) (snd_aload_n C dX4_spread_51 rfl) ?_
  refine al_c (pc := 52) (snd_aload_n C dX4_spread_52 rfl) ?_
  refine al_c (pc := 53) (snd_get C dX4_spread_53 (ci := 3) (kf := 18) rfl (by decide) inX4_spread_X4 rfl (by decide +kernel)) ?_
  refine al_c (pc := 56) (snd_iload_n C dX4_spread_56 rfl) ?_
  refine al_c (pc := 57) (snd_iaload C dX4_spread_57) ?_
  refine al_c (pc := 58) (snd_iload_n C dX4_spread_58 rfl) ?_
  refine al_c (pc := 59) (snd_Ci C (site_V C rfl dX4_spread_59 gX4_spread_X4_beside rfl rfl rfl ⟨rfl, by decide +kernel, by decide +kernel, by decide +kernel⟩ ⟨by decide, by decide⟩) mX4_beside) ?_
  refine al_c (pc := 62) (snd_istore_n C dX4_spread_62 rfl (by decide)) ?_
  refine al_c (pc := 63) (snd_iload_n C dX4_spread_63 rfl) ?_
  refine al_c (pc := 64) (snd_iconst C dX4_spread_64 (by decide)) ?_
  refine al_c (pc := 65) (snd_icmp_ne C dX4_spread_65 (by decide)) ?_
  refine al_c (pc := 68) (snd_goto C dX4_spread_68 (by decide)) ?_
  refine al_c (pc := 71) (snd_aload_n C dX4_spread_71 rfl) ?_
  refine al_c (pc := 72) (snd_iload_n C dX4_spread_72 rfl) ?_
  refine al_c (pc := 73) (snd_Cv C (site_V C rfl dX4_spread_73 gX4_spread_X4_lookAt rfl rfl rfl ⟨rfl, by decide +kernel, by decide +kernel, by decide +kernel⟩ ⟨by decide, by decide⟩) mX4_lookAt) ?_
  refine al_c (pc := 76) (snd_aload_n C dX4_spread_76 rfl) ?_
  refine al_c (pc := 77) (snd_iload_n C dX4_spread_77 rfl) ?_
  refine al_c (pc := 78) (snd_iload_n C dX4_spread_78 rfl) ?_
  refine al_c (pc := 79) (snd_Cv C (site_V C rfl dX4_spread_79 gX4_spread_X4_tip rfl rfl rfl ⟨rfl, by decide +kernel, by decide +kernel, by decide +kernel⟩ ⟨by decide, by decide⟩) mX4_tip) ?_
  refine al_c (pc := 82) (snd_aload_n C dX4_spread_82 rfl) ?_
  refine al_c (pc := 83) (snd_aload_n C dX4_spread_83 rfl) ?_
  refine al_c (pc := 84) (snd_iload_n C dX4_spread_84 rfl) ?_
  refine al_c (pc := 85) (snd_Ci C (site_V C rfl dX4_spread_85 gX4_spread_X4_farOf rfl rfl rfl ⟨rfl, by decide +kernel, by decide +kernel, by decide +kernel⟩ ⟨by decide, by decide⟩) mX4_farOf) ?_
  refine al_c (pc := 88) (snd_iconst C dX4_spread_88 (by decide)) ?_
  refine al_c (pc := 89) (snd_iadd C dX4_spread_89) ?_
  refine al_c (pc := 90) (snd_Cv C (site_V C rfl dX4_spread_90 gX4_spread_X4_reach rfl rfl rfl ⟨rfl, by decide +kernel, by decide +kernel, by decide +kernel⟩ ⟨by decide, by decide⟩) mX4_reach) ?_
  refine al_c (pc := 93) (snd_iinc C dX4_spread_93 (by decide) (by decide)) ?_
  refine al_c (pc := 96) (snd_goto C dX4_spread_96 (by decide)) ?_
  refine al_c (pc := 99) (snd_iinc C dX4_spread_99 (by decide) (by decide)) ?_
  refine al_c (pc := 102) (snd_goto C dX4_spread_102 (by decide)) ?_
  refine al_c (pc := 105) (snd_Rv C hQ hr dX4_spread_105) ?_
  exact al_0
set_option maxHeartbeats 1000000 in
set_option maxRecDepth 100000 in
theorem mX4_spread : aMv yX4_spread wsX4_spread rmX4_spread tX4_spread := by
  refine aMv_of (by decide +kernel) rfl rfl (by intro av X post hT; obtain ⟨j, u, wl, th, rm, pm, ic, it, iv, ie, rc, k, tt, w, h, wm, pq, co, pa, fa, ce, ts, ns, es, on, nx, rfl, rfl, rfl, rfl, rfl, rfl, hw2, hw, hh2, hh, hRW, hfr, hv, hp⟩ := hT; exact Nat.le_of_ble_eq_true rfl) ?_
  intro Γ ad av X post C hQ hr hT
  obtain ⟨j, u, wl, th, rm, pm, ic, it, iv, ie, rc, k, tt, w, h, wm, pq, co, pa, fa, ce, ts, ns, es, on, nx, rfl, rfl, rfl, rfl, rfl, rfl, hw2, hw, hh2, hh, hRW, hfr, hv, hp⟩ := hT
  have OK := okX4_spread C hQ hr
  have hu := vt_lt hv
  have hn : [j * 36 + u].Nodup := by simp
  have hs : ∀ s ∈ [j * 36 + u], okN w h wl s := by
    intro s h1
    rw [List.mem_singleton.mp h1]
    refine ⟨?_, ?_⟩
    · rw [show (j * 36 + u) % 36 = u by omega]; exact hv
    · rw [show (j * 36 + u) / 36 = j by omega]; exact hfr
  have hin := fun k => in_SS nb_ok (in_src0 (nb := nbF w h wl) hn hs) k
  have hbS := fun k => bS_SS (w := w) (h := h) (wl := wl) hw hh hn hs k
  have hD := fun q (z : (SS (nbF w h wl) (src0 [j * 36 + u]) q).1.length ≤ q) => fin_at (nb := nbF w h wl) (M := 1764) nb_ok (fun v => okN_lt hw hh) hn hs z
  obtain ⟨D, hDe⟩ : ∃ D, D = fin (nbF w h wl) 1764 [j * 36 + u] := ⟨_, rfl⟩
  rw [← hDe] at hp hD
  have loop : ∀ (n q : Nat) (ic it iv ie rc : Int32) (fa ce ts ns es : Nat → Int32), q ≤ (SS (nbF w h wl) (src0 [j * 36 + u]) q).1.length → 1764 - q < n → RM w h (SS (nbF w h wl) (src0 [j * 36 + u]) q) rc fa ce ts ns es →
      FG Γ 36 ad 0 0 [(1, .int (nI q)), (0, .ref 0)] [] (MW th (nI w) (nI h) rm pm (nI (cm w k)) (nI (tt / 6 + 1)) (nI (tt % 6 + 1)) (nI (eoN tt)) ic it iv ie rc wm pq co pa fa ce ts ns es on nx) := by
    intro n
    induction n with
    | zero => intro q _ _ _ _ _ _ _ _ _ _ _ h; omega
    | succ n ih =>
      intro q ic it iv ie rc fa ce ts ns es hql hqn hR
      have hlen := bS_len (hbS q)
      obtain ⟨rfl, hq, hf⟩ := id hR
      refine go OK [36, 46] 80 ?_
      refine And.intro (fun z => ?_) (fun z => ?_)
      · have z := (leN (by omega) (by omega)).mp z
        refine ⟨rfl, hp _ _ _ _ _ _ _ _ _ _ ?_⟩
        rw [← hD q z]
        exact hR
      have hqlt : q < (SS (nbF w h wl) (src0 [j * 36 + u]) q).1.length := by
        rcases Nat.lt_or_ge q (SS (nbF w h wl) (src0 [j * 36 + u]) q).1.length with y | y
        · exact y
        · exact absurd ((leN (by omega) (by omega)).mpr y) z
      obtain ⟨v, hv⟩ : ∃ v, (SS (nbF w h wl) (src0 [j * 36 + u]) q).1[q]? = some v := ⟨_, List.getElem?_eq_getElem hqlt⟩
      have hvok := (hin q).1.2.2 v (List.mem_of_getElem? hv)
      have hvlt := okN_lt hw hh hvok
      obtain ⟨rv, hrv⟩ := ((hin q).1.1 v).mpr (List.mem_of_getElem? hv)
      have inner : ∀ (n2 d : Nat) (ic it iv ie rc : Int32) (fa ce ts ns es : Nat → Int32), d ≤ 4 → 4 - d < n2 → RM w h (exd (nbF w h wl) v (rk (SS (nbF w h wl) (src0 [j * 36 + u]) q) v + 1) (SS (nbF w h wl) (src0 [j * 36 + u]) q) d) rc fa ce ts ns es →
          FG Γ 46 ad 0 0 [(2, .int (nI d)), (1, .int (nI q)), (0, .ref 0)] [] (MW th (nI w) (nI h) rm pm (nI (cm w k)) (nI (tt / 6 + 1)) (nI (tt % 6 + 1)) (nI (eoN tt)) ic it iv ie rc wm pq co pa fa ce ts ns es on nx) := by
        intro n2
        induction n2 with
        | zero => intro d _ _ _ _ _ _ _ _ _ _ h; omega
        | succ n2 ih2 =>
          intro d ic it iv ie rc fa ce ts ns es hd hn2 hR3
          have hle := le_exd (nbF w h wl) v (rk (SS (nbF w h wl) (src0 [j * 36 + u]) q) v + 1) (SS (nbF w h wl) (src0 [j * 36 + u]) q) d
          have hv3 := hle.get hv
          have hrv3 := hle.2 v rv hrv
          have hb3 := bS_exd hw hh hn hs q v hv d hd
          obtain ⟨-, hq3, -⟩ := id hR3
          obtain ⟨o1, o2, o3, o4, o5⟩ := hq3 q v hv3
          refine go OK [36, 46] 80 ?_
          refine And.intro (fun z => ?_) (fun z => ?_)
          · have z := (leN (a := 4) (b := d) (by omega) (by omega)).mp z
            have : d = 4 := by omega
            subst this
            have eS : SS (nbF w h wl) (src0 [j * 36 + u]) (q + 1) = exd (nbF w h wl) v (rk (SS (nbF w h wl) (src0 [j * 36 + u]) q) v + 1) (SS (nbF w h wl) (src0 [j * 36 + u]) q) 4 := by
              show stp (nbF w h wl) q (SS (nbF w h wl) (src0 [j * 36 + u]) q) = _
              unfold stp
              rw [hv]
            rw [← eS] at hR3
            have key := ih (q + 1) ic it iv ie rc fa ce ts ns es (by
              obtain ⟨⟨l, e⟩, -⟩ := le_SS (nbF w h wl) (src0 [j * 36 + u]) (Nat.le_succ q)
              rw [e]
              simp
              omega) (by omega) hR3
            rw [← nI_p1 q] at key
            exact FG_sub [0, 2] rfl key
          · have hd4 : d < 4 := by
              rcases Nat.lt_or_ge d 4 with y | y
              · exact y
              · exact absurd ((leN (a := 4) (b := d) (by omega) (by omega)).mpr y) z
            have hrol := rlN_lt hvok.1 hd4
            have next : ∀ (ic it iv ie rc : Int32) (fa ce ts ns es : Nat → Int32), RM w h (exd (nbF w h wl) v (rk (SS (nbF w h wl) (src0 [j * 36 + u]) q) v + 1) (SS (nbF w h wl) (src0 [j * 36 + u]) q) (d + 1)) rc fa ce ts ns es →
                FG Γ 46 ad 0 0 [(2, .int (nI d + 1)), (1, .int (nI q)), (0, .ref 0)] [] (MW th (nI w) (nI h) rm pm (nI (cm w k)) (nI (tt / 6 + 1)) (nI (tt % 6 + 1)) (nI (eoN tt)) ic it iv ie rc wm pq co pa fa ce ts ns es on nx) := by
              intro ic it iv ie rc fa ce ts ns es hR4
              have := ih2 (d + 1) ic it iv ie rc fa ce ts ns es (by omega) (by omega) hR4
              rw [← nI_p1 d] at this
              exact this
            refine ⟨inS (by omega : q < 2401) (by decide), ?_⟩
            rw [nI_clampS (by omega), o2]
            refine ⟨_, _, v / 36, d, wl, _, _, _, _, _, _, _, _, _, _, _, _, _, _, _, _, _, _, _, _, _, _, _, rfl, rfl, rfl, rfl, hw2, hw, hh2, hh, o1.1, o1.2, hd4, hRW, ?_⟩
            refine And.intro (fun z2 => ?_) (fun z2 => ?_)
            · cases e : nxt w h wl (v / 36) d with
              | none => exact absurd ((oJ_m1 hw hh).mpr e) z2
              | some m =>
                have hm := nxt_fr e
                refine ⟨_, q, _, _, _, _, _, _, _, _, _, _, _, _, _, _, _, _, _, _, _, _, _, _, _, _, _, rfl, rfl, by omega, rfl, ?_⟩
                rw [o2, o3, o4, o5]
                refine ⟨_, _, d, v % 36, _, _, _, _, _, _, _, _, _, _, _, _, _, _, _, _, _, _, _, _, _, _, _, _, _, rfl, rfl, hd4, hvok.1, rfl, rfl, rfl, rfl, ?_⟩
                refine ⟨_, q, v, w, h, _, _, _, _, _, _, _, _, _, _, _, _, _, _, _, _, _, _, _, _, _, _, _, _, _, _, rfl, rfl, rfl, hw, hh, hb3, hv3, hR3, ?_⟩
                rw [hrv3]
                refine ⟨_, m, rlN (v % 36) d, rv + 1, w, h, _, _, _, _, _, _, _, _, _, _, _, _, _, _, _, _, _, _, _, _, _, _, _, _, _, _, rfl, nI_p1 rv, rfl, rfl, rfl, rfl, rfl, hw, hh, hm.1, hm.2.1, hrol, hb3, hR3, fun rc4 fa4 ce4 ts4 ns4 es4 hR4 => ?_⟩
                have eN : nbF w h wl v d = some (m * 36 + rlN (v % 36) d) := by unfold nbF; rw [e]
                refine FG_sub [0, 2, 3] rfl (next _ _ _ _ _ _ _ _ _ _ ?_)
                show RM w h (ex1 _ _ _ (exd _ _ _ _ d) d) _ _ _ _ _ _
                unfold ex1
                rw [eN, rk_of hrv]
                rw [rk_of hrv] at hR4
                exact hR4
            · have e := (oJ_m1 hw hh).mp z2
              have eN : nbF w h wl v d = none := by unfold nbF; rw [e]
              refine FG_sub [0, 2, 3] rfl (next _ _ _ _ _ _ _ _ _ _ ?_)
              show RM w h (ex1 _ _ _ (exd _ _ _ _ d) d) _ _ _ _ _ _
              unfold ex1
              rw [eN]
              exact hR3
      exact inner 5 0 _ _ _ _ _ _ _ _ _ _ (by omega) (by omega) hR
  have first : ∀ (n i : Nat) (fa : Nat → Int32), i ≤ 2401 → 2401 - i < n → (∀ x, x < i → fa x = -1) → FG Γ 2 ad 0 0 [(1, .int (nI i)), (0, .ref 0)] [] (MW th (nI w) (nI h) rm pm (nI (cm w k)) (nI (tt / 6 + 1)) (nI (tt % 6 + 1)) (nI (eoN tt)) (nI (cm w j)) (nI (u / 6 + 1)) (nI (u % 6 + 1)) (nI (eoN u)) rc wm pq co pa fa ce ts ns es on nx) := by
    intro n
    induction n with
    | zero => intro i _ _ h; omega
    | succ n ih =>
      intro i fa hi hn hz
      refine go OK [2, 36] 60 ?_
      refine And.intro (fun z => ?_) (fun z => ?_)
      · have z := (leN (a := 2401) (b := i) (by omega) (by omega)).mp z
        refine ⟨_, j, u, 0, w, h, ([], fun _ => none), _, _, _, _, _, _, _, _, _, _, _, _, _, _, _, _, _, _, _, _, _, _, _, _, _, rfl, rfl, rfl, rfl, rfl, rfl, rfl, hw, hh, hfr.1, hfr.2.1, hu, bS_nil, ⟨rfl, fun i v hi => by simp at hi, fun v hv => hz _ (by have := mi_lt hw hh hv; omega)⟩, fun rc4 fa4 ce4 ts4 ns4 es4 hR4 => ?_⟩
        rw [vis_src] at hR4
        exact loop 1765 0 _ _ _ _ _ _ _ _ _ _ (Nat.zero_le _) (by omega) hR4
      · have hlt : i < 2401 := by
          rcases Nat.lt_or_ge i 2401 with y | y
          · exact y
          · exact absurd ((leN (a := 2401) (b := i) (by omega) (by omega)).mpr y) z
        refine ⟨inS hlt (by decide), ?_⟩
        rw [nI_clampS (by omega)]
        have key := ih (i + 1) (upd fa i (-1)) (by omega) (by omega) (fun x hx => by
          by_cases e : x = i
          · rw [e, pk_us]
          · rw [pk_un e]; exact hz x (by omega))
        rw [← nI_p1 i] at key
        exact key
  refine go OK [2, 36] 40 ?_
  exact first 2402 0 fa (by omega) (by omega) (fun x hx => by omega)
