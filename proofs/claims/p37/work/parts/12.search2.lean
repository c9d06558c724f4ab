/-! ===== PaintedDie$Search: the search, and its answers ===== -/
/-- a distance is no more than its place in the queue -/
def bd (S : qS) : Prop := ∀ j a, S.1[j]? = some a → rk S a ≤ j
theorem bd_vis {P : Nat → Prop} {S : qS} {r v : Nat} (h : bd S) (hok : okS P S) (hr : r ≤ S.1.length) : bd (vis r S v) := by
  have hle := le_vis r S v
  unfold vis at hle ⊢
  cases e : S.2 v with
  | some x => exact h
  | none =>
    rw [e] at hle
    intro j a hj
    have hj : (S.1 ++ [v])[j]? = some a := hj
    by_cases hl : j < S.1.length
    · rw [List.getElem?_append_left hl] at hj
      have ha := h j a hj
      obtain ⟨x, hx⟩ := (hok.1 a).mpr (List.mem_of_getElem? hj)
      rw [rk_of hx] at ha
      rw [rk_of (hle.2 a x hx)]
      exact ha
    · rw [List.getElem?_append_right (by omega)] at hj
      have hz : j - S.1.length < 1 := (List.getElem?_eq_some_iff.mp hj).1
      have : j = S.1.length := by omega
      subst this
      simp at hj
      subst hj
      unfold rk
      simp
      omega
theorem bd_exd {nb : Nat → Nat → Option Nat} {P : Nat → Prop} {n r : Nat} {S : qS} (hok : okS P S) (hnb : ∀ d v, d < 4 → nb n d = some v → P v) (h : bd S) (hr : r ≤ S.1.length) : ∀ d, d ≤ 4 → bd (exd nb n r S d)
  | 0, _ => h
  | d + 1, hd => by
    have ih := bd_exd (nb := nb) hok hnb h hr d (by omega)
    show bd (ex1 nb n r (exd nb n r S d) d)
    unfold ex1
    cases nb n d with
    | none => exact ih
    | some v =>
      refine bd_vis ih (ok_exd hok hnb d (by omega)) ?_
      obtain ⟨⟨l, hl⟩, -⟩ := le_exd nb n r S d
      rw [hl]
      simp
      omega
theorem bd_SS {nb : Nat → Nat → Option Nat} {P : Nat → Prop} {src : List Nat} (hP : ∀ a d v, P a → d < 4 → nb a d = some v → P v) (hn : src.Nodup) (hs : ∀ s ∈ src, P s) : ∀ k, bd (SS nb (src0 src) k)
  | 0 => fun j a hj => by
    have : rk (src0 src) a = 0 := by
      have hm : a ∈ src := List.mem_of_getElem? hj
      unfold rk src0
      simp [hm]
    show rk (src0 src) a ≤ j
    omega
  | k + 1 => by
    have ih := bd_SS hP hn hs k
    have hin := in_SS hP (in_src0 (nb := nb) hn hs) k
    show bd (stp nb k (SS nb (src0 src) k))
    unfold stp
    cases e : (SS nb (src0 src) k).1[k]? with
    | none => exact ih
    | some n =>
      refine bd_exd hin.1 (fun d v hd hv => hP n d v (hin.1.2.2 n (List.mem_of_getElem? e)) hd hv) ih ?_ 4 (Nat.le_refl 4)
      have h1 := ih k n e
      have h2 := (List.getElem?_eq_some_iff.mp e).1
      omega
theorem bS_of {P : Nat → Prop} {S : qS} (hP : ∀ v, P v → v < 1764) (h : okS P S) (hb : bd S) : bS S := by
  have h1 : okS (fun v => v < 1764) S := ⟨h.1, h.2.1, fun v hv => hP v (h.2.2 v hv)⟩
  refine ⟨h1, fun v r hr => ?_⟩
  obtain ⟨j, hj⟩ := List.getElem?_of_mem ((h.1 v).mp ⟨r, hr⟩)
  have h2 := hb j v hj
  rw [rk_of hr] at h2
  have h3 := nodup_len 1764 _ h1.2.1 h1.2.2
  have := (List.getElem?_eq_some_iff.mp hj).1
  omega
/-- all that a search of this board knows at any time -/
theorem bS_exd {w h : Nat} {wl : Nat → Int32} {src : List Nat} (hw : w ≤ 7) (hh : h ≤ 7) (hn : src.Nodup) (hs : ∀ s ∈ src, okN w h wl s) (k n : Nat) (hk : (SS (nbF w h wl) (src0 src) k).1[k]? = some n) (d : Nat) (hd : d ≤ 4) : bS (exd (nbF w h wl) n (rk (SS (nbF w h wl) (src0 src) k) n + 1) (SS (nbF w h wl) (src0 src) k) d) := by
  have hin := in_SS nb_ok (in_src0 (nb := nbF w h wl) hn hs) k
  have hnb : ∀ d v, d < 4 → nbF w h wl n d = some v → okN w h wl v := fun d v hd hv => nb_ok n d v (hin.1.2.2 n (List.mem_of_getElem? hk)) hd hv
  refine bS_of (fun v => okN_lt hw hh) (ok_exd hin.1 hnb d hd) (bd_exd hin.1 hnb (bd_SS nb_ok hn hs k) ?_ d hd)
  have h1 := bd_SS nb_ok hn hs k k n hk
  have h2 := (List.getElem?_eq_some_iff.mp hk).1
  omega
theorem bS_SS {w h : Nat} {wl : Nat → Int32} {src : List Nat} (hw : w ≤ 7) (hh : h ≤ 7) (hn : src.Nodup) (hs : ∀ s ∈ src, okN w h wl s) (k : Nat) : bS (SS (nbF w h wl) (src0 src) k) :=
  bS_of (fun v => okN_lt hw hh) (in_SS nb_ok (in_src0 (nb := nbF w h wl) hn hs) k).1 (bd_SS nb_ok hn hs k)
abbrev tX1_spread : aTv := fun av X post => ∃ (src : List Nat) (c t rm pm fd : Int32) (w h : Nat) (wl pr fe qu co pa : Nat → Int32), av = [.ref 4, .ref 1] ∧ X = CW c t rm pm (nI w) (nI h) fd wl pr fe qu co pa ∧ w ≤ 7 ∧ h ≤ 7 ∧ src.Nodup ∧ (∀ s ∈ src, okN w h wl s) ∧ RC (src0 src) fe qu fd ∧
  ∀ (fd2 : Int32) (fe2 qu2 : Nat → Int32), RC (fin (nbF w h wl) 1764 src) fe2 qu2 fd2 → post (CW c t rm pm (nI w) (nI h) fd2 wl pr fe2 qu2 co pa)
abbrev rmX1_spread : Room := { frames := 3, cells := 0, slots := 0, locals := 68 }
theorem inX1_spread_X1 : ∀ w ∈ wsX10, w ∈ wsX1_spread := by decide +kernel
def tbX1_spread (post : List aE → Prop) (ad0 : Nat → Nat) : List (Nat × aO) := [(0, oC (0) 1),
  (1, oIS 2 2),
  (2, oIL 2 3),
  (3, oAL 0 4),
  (4, oGet 1 2 7),
  (7, oIc_ge 102 10),
  (10, oIL 2 11),
  (11, oAL 0 12),
  (12, oGet 1 1 15),
  (15, oAlen 16),
  (16, oIc_ge 102 19),
  (19, oAL 0 20),
  (20, oGet 1 1 23),
  (23, oIL 2 24),
  (24, oIald 25),
  (25, oC (36) 27),
  (27, oIdiv 28),
  (28, oIS 3 29),
  (29, oAL 0 30),
  (30, oGet 1 1 33),
  (33, oIL 2 34),
  (34, oIald 35),
  (35, oC (36) 37),
  (37, oIrem 38),
  (38, oIS 4 40),
  (40, oAL 0 41),
  (41, oIL 3 42),
  (42, oIL 4 44),
  (44, oCi tX1_rollsAt 3 (some 1) rmX1_rollsAt.cells rmX1_rollsAt.slots rmX1_spread.cells rmX1_spread.slots 47),
  (47, oC (1) 48),
  (48, oIadd 49),
  (49, oIS 5 51),
  (51, oC (0) 52),
  (52, oIS 6 54),
  (54, oIL 6 56),
  (56, oC (4) 57),
  (57, oIc_ge 96 60),
  (60, oAL 1 61),
  (61, oIL 3 62),
  (62, oIL 6 64),
  (64, oCi tX0_nextCell 3 (some 0) rmX0_nextCell.cells rmX0_nextCell.slots rmX1_spread.cells rmX1_spread.slots 67),
  (67, oIS 7 69),
  (69, oIL 7 71),
  (71, oC (-1) 72),
  (72, oIc_eq 90 75),
  (75, oAL 0 76),
  (76, oIL 7 78),
  (78, oIL 4 80),
  (80, oIL 6 82),
  (82, oCi tX2_behindRoll 2 none rmX2_behindRoll.cells rmX2_behindRoll.slots rmX1_spread.cells rmX1_spread.slots 85),
  (85, oIL 5 87),
  (87, oCv tX1_reach 4 (some 1) rmX1_reach.cells rmX1_reach.slots rmX1_spread.cells rmX1_spread.slots 90),
  (90, oInc 6 1 93),
  (93, oGo 54),
  (96, oInc 2 1 99),
  (99, oGo 2),
  (102, oRv post ad0 rmX1_spread.cells rmX1_spread.slots)]
set_option maxRecDepth 20000 in
theorem okX1_spread {Γ : aΓ} {post : List aE → Prop} {ad0 : Nat → Nat} {X0 : List aE} (C : FOK Γ cX1_spread wsX1_spread RX1 8 rmX1_spread) (hQ : isQ Γ (va_Qv post (aBk (gK Γ) ad0 X0 (hsz Γ)) (aA (gK Γ) ad0 X0 (hsz Γ))) rmX1_spread ad0 X0) (hr : rTy Γ = none) : AllS Γ (tbX1_spread post ad0) := by
  unfold tbX1_spread
  refine al_c (pc := 0) (snd_iconst C dX1_spread_0 (by decide)) ?_
  refine al_c (pc := 1) (snd_istore_n C dX1_spread_1 rfl (by decide)) ?_
  refine al_c (pc := 2) (snd_iload_n C dX1_spread_2 rfl) ?_
  refine al_c (pc := 3) (snd_aload_n C dX1_spread_3 rfl) ?_
  refine al_c (pc := 4) (snd_get C dX1_spread_4 (ci := 1) (kf := 2) rfl (by decide) inX1_spread_X1 rfl (by decide +kernel)) ?_
  refine al_c (pc := 7) (snd_icmp_ge C dX1_spread_7 (by decide)) ?_
  refine al_c (pc := 10) (snd_iload_n C dX1_spread_10 rfl) ?_
  refine al_c (pc := 11) (snd_aload_n C dX1_spread_11 rfl) ?_
  refine al_c (pc := 12) (snd_get C dX1_spread_12 (ci := 1) (kf := 1) rfl (by decide) inX1_spread_X1 rfl (by decide +kernel)) ?_
  refine al_c (pc := 15) (snd_alen C dX1_spread_15) ?_
  refine al_c (pc := 16) (snd_icmp_ge C dX1_spread_16 (by decide)) ?_
  refine al_c (pc := 19) (snd_aload_n C dX1_spread_19 rfl) ?_
  refine al_c (pc := 20) (snd_get C dX1_spread_20 (ci := 1) (kf := 1) rfl (by decide) inX1_spread_X1 rfl (by decide +kernel)) ?_
  refine al_c (pc := 23) (snd_iload_n C dX1_spread_23 rfl) ?_
  refine al_c (pc := 24) (snd_iaload C dX1_spread_24) ?_
  refine al_c (pc := 25) (snd_bipush C dX1_spread_25 (by decide)) ?_
  refine al_c (pc := 27) (snd_idiv C dX1_spread_27) ?_
  refine al_c (pc := 28) (snd_istore_n C dX1_spread_28 rfl (by decide)) ?_
  refine al_c (pc := 29) (snd_aload_n C dX1_spread_29 rfl) ?_
  refine al_c (pc := 30) (snd_get C dX1_spread_30 (ci := 1) (kf := 1) rfl (by decide) inX1_spread_X1 rfl (by decide +kernel)) ?_
  refine al_c (pc := 33) (snd_iload_n C dX1_spread_33 rfl) ?_
  refine al_c (pc := 34) (snd_iaload C dX1_spread_34) ?_
  refine al_c (pc := 35) (snd_bipush C dX1_spread_35 (by decide)) ?_
  refine al_c (pc := 37) (snd_irem C dX1_spread_37) ?_
  refine al_c (pc := 38) (snd_istore C dX1_spread_38 (by decide)) ?_
  refine al_c (pc := 40) (snd_aload_n C dX1_spread_40 rfl) ?_
  refine al_c (pc := 41) (snd_iload_n C dX1_spread_41 rfl) ?_
  refine al_c (pc := 42) (snd_iload C dX1_spread_42) ?_
  refine al_c (pc := 44) (snd_Ci C (site_V C rfl dX1_spread_44 gX1_spread_X1_rollsAt rfl rfl rfl ⟨rfl, by decide +kernel, by decide +kernel, by decide +kernel⟩ ⟨by decide, by decide⟩) mX1_rollsAt) ?_
  refine al_c (pc := 47) (snd_iconst C dX1_spread_47 (by decide)) ?_
  refine al_c (pc := 48) (snd_iadd C dX1_spread_48) ?_
  refine al_c (pc := 49) (snd_istore C dX1_spread_49 (by decide)) ?_
  refine al_c (pc := 51) (snd_iconst C dX1_spread_51 (by decide)) ?_
  refine al_c (pc := 52) (snd_istore C dX1_spread_52 (by decide)) ?_
  refine al_c (pc := 54) (snd_iload C dX1_spread_54) ?_
  refine al_c (pc := 56) (snd_iconst C dX1_spread_56 (by decide)) ?_
  refine al_c (pc := 57) (snd_icmp_ge C dX1_spread_57 (by decide)) ?_
  refine al_c (pc := 60) (snd_aload_n C dX1_spread_60 rfl) ?_
  refine al_c (pc := 61) (snd_iload_n C dX1_spread_61 rfl) ?_
  refine al_c (pc := 62) (snd_iload C dX1_spread_62) ?_
  refine al_c (pc := 64) (snd_Ci C (site_VN C rfl dX1_spread_64 gX1_spread_X0_nextCell_n34 rfl rfl rfl (by decide +kernel) (by decide +kernel) (by decide +kernel) (by decide +kernel) ⟨by decide +kernel, by decide +kernel, by decide +kernel⟩ ⟨by decide, by decide⟩) mX0_nextCell) ?_
  refine al_c (pc := 67) (snd_istore C dX1_spread_67 (by decide)) ?_
  refine al_c (pc := 69) (snd_iload C dX1_spread_69) ?_
  refine al_c (pc := 71) (snd_iconst C dX1_spread_71 (by decide)) ?_
  refine al_c (pc := 72) (snd_icmp_eq C dX1_spread_72 (by decide)) ?_
  refine al_c (pc := 75) (snd_aload_n C dX1_spread_75 rfl) ?_
  refine al_c (pc := 76) (snd_iload C dX1_spread_76) ?_
  refine al_c (pc := 78) (snd_iload C dX1_spread_78) ?_
  refine al_c (pc := 80) (snd_iload C dX1_spread_80) ?_
  refine al_c (pc := 82) (snd_Ci C (site_SN C dX1_spread_82 gX1_spread_X2_behindRoll_n39 rfl rfl rfl (by decide +kernel) (by decide +kernel) (by decide +kernel) ⟨by decide +kernel, by decide +kernel, by decide +kernel⟩ ⟨by decide, by decide⟩) mX2_behindRoll) ?_
  refine al_c (pc := 85) (snd_iload C dX1_spread_85) ?_
  refine al_c (pc := 87) (snd_Cv C (site_V C rfl dX1_spread_87 gX1_spread_X1_reach rfl rfl rfl ⟨rfl, by decide +kernel, by decide +kernel, by decide +kernel⟩ ⟨by decide, by decide⟩) mX1_reach) ?_
  refine al_c (pc := 90) (snd_iinc C dX1_spread_90 (by decide) (by decide)) ?_
  refine al_c (pc := 93) (snd_goto C dX1_spread_93 (by decide)) ?_
  refine al_c (pc := 96) (snd_iinc C dX1_spread_96 (by decide) (by decide)) ?_
  refine al_c (pc := 99) (snd_goto C dX1_spread_99 (by decide)) ?_
  refine al_c (pc := 102) (snd_Rv C hQ hr dX1_spread_102) ?_
  exact al_0
set_option maxHeartbeats 1000000 in
set_option maxRecDepth 100000 in
theorem mX1_spread : aMv yX1_spread wsX1_spread rmX1_spread tX1_spread := by
  refine aMv_of (by decide +kernel) rfl rfl (by intro av X post hT; obtain ⟨src, c, t, rm, pm, fd, w, h, wl, pr, fe, qu, co, pa, rfl, rfl, hw, hh, hn, hs, hR0, hp⟩ := hT; exact Nat.le_of_ble_eq_true rfl) ?_
  intro Γ ad av X post C hQ hr hT
  obtain ⟨src, c, t, rm, pm, fd, w, h, wl, pr, fe, qu, co, pa, rfl, rfl, hw, hh, hn, hs, hR0, hp⟩ := hT
  have OK := okX1_spread C hQ hr
  have hin := fun k => in_SS nb_ok (in_src0 (nb := nbF w h wl) hn hs) k
  have hbS := fun k => bS_SS (w := w) (h := h) (wl := wl) hw hh hn hs k
  have loop : ∀ (n k : Nat) (fd2 : Int32) (fe2 qu2 : Nat → Int32), k ≤ (SS (nbF w h wl) (src0 src) k).1.length → 1764 - k < n → RC (SS (nbF w h wl) (src0 src) k) fe2 qu2 fd2 →
      FG Γ 2 ad 0 0 [(2, .int (nI k)), (0, .ref 4), (1, .ref 1)] [] (CW c t rm pm (nI w) (nI h) fd2 wl pr fe2 qu2 co pa) := by
    intro n
    induction n with
    | zero => intro k _ _ _ _ h; omega
    | succ n ih =>
      intro k fd2 fe2 qu2 hkl hkn hR
      have hlen := bS_len (hbS k)
      obtain ⟨rfl, hq, hf⟩ := id hR
      refine go OK [2, 54] 80 ?_
      refine And.intro (fun q => ?_) (fun q => ?_)
      · have q := (leN (by omega) (by omega)).mp q
        refine ⟨rfl, hp _ _ _ ?_⟩
        rw [← fin_at nb_ok (fun v => okN_lt hw hh) hn hs q]
        exact hR
      have hklt : k < (SS (nbF w h wl) (src0 src) k).1.length := by
        rcases Nat.lt_or_ge k (SS (nbF w h wl) (src0 src) k).1.length with z | z
        · exact z
        · exact absurd ((leN (by omega) (by omega)).mpr z) q
      refine And.intro (fun q => absurd q (nI_ge (b := 1764) (by omega) (by omega))) (fun _ => ?_)
      obtain ⟨v, hv⟩ : ∃ v, (SS (nbF w h wl) (src0 src) k).1[k]? = some v := ⟨_, List.getElem?_eq_getElem hklt⟩
      have hvok := (hin k).1.2.2 v (List.mem_of_getElem? hv)
      have hvlt := okN_lt hw hh hvok
      obtain ⟨rv, hrv⟩ := ((hin k).1.1 v).mpr (List.mem_of_getElem? hv)
      have hrvlt := bd_SS nb_ok hn hs k k v hv
      rw [rk_of hrv] at hrvlt
      refine ⟨inS (by omega) (by decide), ?_⟩
      rw [nI_clampS (by omega), hq k v hv]
      refine ⟨by decide, ?_⟩
      rw [show nI v / 36 = nI (v / 36) from pk_div (a := v) (d := 36) (by omega) (by omega) (by omega)]
      refine ⟨inS (by omega) (by decide), ?_⟩
      rw [nI_clampS (by omega), hq k v hv]
      refine ⟨by decide, ?_⟩
      rw [show nI v - nI v / 36 * 36 = nI (v % 36) from pk_rem (a := v) (d := 36) (by omega) (by omega) (by omega)]
      refine ⟨_, _, v / 36, v % 36, _, _, _, _, _, _, _, _, _, _, _, _, _, rfl, rfl, rfl, rfl, by omega, by omega, ?_⟩
      rw [show v / 36 * 36 + v % 36 = v by omega, hf v hvlt, hrv]
      -- the four directions
      have inner : ∀ (n2 d : Nat) (fd3 : Int32) (fe3 qu3 : Nat → Int32), d ≤ 4 → 4 - d < n2 → RC (exd (nbF w h wl) v (rk (SS (nbF w h wl) (src0 src) k) v + 1) (SS (nbF w h wl) (src0 src) k) d) fe3 qu3 fd3 →
          FG Γ 54 ad 0 0 [(6, .int (nI d)), (5, .int (nI rv + 1)), (4, .int (nI (v % 36))), (3, .int (nI (v / 36))), (2, .int (nI k)), (0, .ref 4), (1, .ref 1)] [] (CW c t rm pm (nI w) (nI h) fd3 wl pr fe3 qu3 co pa) := by
        intro n2
        induction n2 with
        | zero => intro d _ _ _ _ h; omega
        | succ n2 ih2 =>
          intro d fd3 fe3 qu3 hd hn2 hR3
          refine go OK [2, 54] 80 ?_
          refine And.intro (fun q => ?_) (fun q => ?_)
          · have q := (leN (a := 4) (b := d) (by omega) (by omega)).mp q
            have : d = 4 := by omega
            subst this
            have eS : SS (nbF w h wl) (src0 src) (k + 1) = exd (nbF w h wl) v (rk (SS (nbF w h wl) (src0 src) k) v + 1) (SS (nbF w h wl) (src0 src) k) 4 := by
              show stp (nbF w h wl) k (SS (nbF w h wl) (src0 src) k) = _
              unfold stp
              rw [hv]
            rw [← eS] at hR3
            have key := ih (k + 1) fd3 fe3 qu3 (by
              obtain ⟨⟨l, e⟩, -⟩ := le_SS (nbF w h wl) (src0 src) (Nat.le_succ k)
              rw [e]
              simp
              omega) (by omega) hR3
            rw [← nI_p1 k] at key
            exact FG_sub [0, 5, 6] rfl key
          · have hd4 : d < 4 := by
              rcases Nat.lt_or_ge d 4 with z | z
              · exact z
              · exact absurd ((leN (a := 4) (b := d) (by omega) (by omega)).mpr z) q
            have hrol := rlN_lt hvok.1 hd4
            refine ⟨_, _, v / 36, d, _, _, _, _, _, _, _, _, _, _, _, _, _, rfl, rfl, rfl, rfl, hw, hh, by omega, hd4, ?_⟩
            have next : ∀ (fd4 : Int32) (fe4 qu4 : Nat → Int32), RC (exd (nbF w h wl) v (rk (SS (nbF w h wl) (src0 src) k) v + 1) (SS (nbF w h wl) (src0 src) k) (d + 1)) fe4 qu4 fd4 →
                FG Γ 54 ad 0 0 [(6, .int (nI d + 1)), (5, .int (nI rv + 1)), (4, .int (nI (v % 36))), (3, .int (nI (v / 36))), (2, .int (nI k)), (0, .ref 4), (1, .ref 1)] [] (CW c t rm pm (nI w) (nI h) fd4 wl pr fe4 qu4 co pa) := by
              intro fd4 fe4 qu4 hR4
              have := ih2 (d + 1) fd4 fe4 qu4 (by omega) (by omega) hR4
              rw [← nI_p1 d] at this
              exact this
            cases e : nxt w h wl (v / 36) d with
            | none =>
              refine And.intro (fun _ => ?_) (fun q2 => absurd rfl q2)
              have eN : nbF w h wl v d = none := by unfold nbF; rw [e]
              refine FG_sub [0, 2, 3, 4, 5, 6, 7] rfl (next _ _ _ ?_)
              show RC (ex1 _ _ _ (exd _ _ _ _ d) d) _ _ _
              unfold ex1
              rw [eN]
              exact hR3
            | some j =>
              have hj := nxt_fr e
              have hj49 : j < 49 := by have := hj.1; have := hj.2.1; omega
              refine And.intro (fun q2 => absurd q2 (nI_m1 (by omega : j < 10000))) (fun _ => ?_)
              refine ⟨_, _, v % 36, d, rfl, rfl, rfl, by omega, hvok.1, hd4, ?_⟩
              refine ⟨_, _, _, j, rlN (v % 36) d, rv + 1, _, _, _, _, _, _, _, _, _, _, _, _, _, _, rfl, rfl, rfl, nI_p1 rv, rfl, hj49, hrol, by omega, hR3, bS_exd hw hh hn hs k v hv d (by omega), fun fd4 fe4 qu4 hR4 => ?_⟩
              refine FG_sub [0, 2, 3, 4, 5, 6, 7] rfl (next _ _ _ ?_)
              have eN : nbF w h wl v d = some (j * 36 + rlN (v % 36) d) := by unfold nbF; rw [e]
              show RC (ex1 _ _ _ (exd _ _ _ _ d) d) _ _ _
              unfold ex1
              rw [eN, rk_of hrv]
              rw [rk_of hrv] at hR4
              exact hR4
      exact inner 5 0 _ _ _ (by omega) (by omega) hR
  refine go OK [2] 80 ?_
  exact loop 1765 0 _ _ _ (Nat.zero_le _) (by omega) hR0
abbrev tX1_fewerOf : aTi := fun av X post => ∃ (a b : Int32) (x y : Option Nat), av = [.int a, .int b] ∧ a = oI x ∧ b = oI y ∧ (∀ r, x = some r → r < 5000) ∧ (∀ r, y = some r → r < 5000) ∧ post (oI (mn x y)) X
abbrev rmX1_fewerOf : Room := { frames := 1, cells := 0, slots := 0, locals := 60 }
def tbX1_fewerOf (post : Int32 → List aE → Prop) (ad0 : Nat → Nat) : List (Nat × aO) := [(0, oIL 0 1),
  (1, oC (-1) 2),
  (2, oIc_ne 7 5),
  (5, oIL 1 6),
  (6, oRi post ad0 rmX1_fewerOf.cells rmX1_fewerOf.slots),
  (7, oIL 1 8),
  (8, oC (-1) 9),
  (9, oIc_ne 16 12),
  (12, oIL 0 13),
  (13, oGo 21),
  (16, oIL 0 17),
  (17, oIL 1 18),
  (18, oMin 21 rmX1_fewerOf.cells rmX1_fewerOf.slots),
  (21, oRi post ad0 rmX1_fewerOf.cells rmX1_fewerOf.slots)]
set_option maxRecDepth 20000 in
theorem okX1_fewerOf {Γ : aΓ} {post : Int32 → List aE → Prop} {ad0 : Nat → Nat} {X0 : List aE} (C : FOK Γ cX1_fewerOf wsX1_fewerOf RX1 2 rmX1_fewerOf) (hQ : isQ Γ (va_Qi post (aBk (gK Γ) ad0 X0 (hsz Γ)) (aA (gK Γ) ad0 X0 (hsz Γ))) rmX1_fewerOf ad0 X0) (hr : rTy Γ = some .int) : AllS Γ (tbX1_fewerOf post ad0) := by
  unfold tbX1_fewerOf
  refine al_c (pc := 0) (snd_iload_n C dX1_fewerOf_0 rfl) ?_
  refine al_c (pc := 1) (snd_iconst C dX1_fewerOf_1 (by decide)) ?_
  refine al_c (pc := 2) (snd_icmp_ne C dX1_fewerOf_2 (by decide)) ?_
  refine al_c (pc := 5) (snd_iload_n C dX1_fewerOf_5 rfl) ?_
  refine al_c (pc := 6) (snd_Ri C hQ hr dX1_fewerOf_6) ?_
  refine al_c (pc := 7) (snd_iload_n C dX1_fewerOf_7 rfl) ?_
  refine al_c (pc := 8) (snd_iconst C dX1_fewerOf_8 (by decide)) ?_
  refine al_c (pc := 9) (snd_icmp_ne C dX1_fewerOf_9 (by decide)) ?_
  refine al_c (pc := 12) (snd_iload_n C dX1_fewerOf_12 rfl) ?_
  refine al_c (pc := 13) (snd_goto C dX1_fewerOf_13 (by decide)) ?_
  refine al_c (pc := 16) (snd_iload_n C dX1_fewerOf_16 rfl) ?_
  refine al_c (pc := 17) (snd_iload_n C dX1_fewerOf_17 rfl) ?_
  refine al_c (pc := 18) (snd_min C dX1_fewerOf_18 (by decide +kernel) (by decide +kernel) (by decide +kernel) (by decide +kernel) (by decide) (by decide)) ?_
  refine al_c (pc := 21) (snd_Ri C hQ hr dX1_fewerOf_21) ?_
  exact al_0
set_option maxHeartbeats 1000000 in
set_option maxRecDepth 100000 in
theorem mX1_fewerOf : aMi yX1_fewerOf wsX1_fewerOf rmX1_fewerOf tX1_fewerOf := by
  refine aMi_of (by decide +kernel) rfl rfl (by intro av X post hT; obtain ⟨a, b, x, y, rfl, rfl, rfl, hx, hy, hp⟩ := hT; exact Nat.le_of_ble_eq_true rfl) ?_
  intro Γ ad av X post C hQ hr hT
  obtain ⟨a, b, x, y, rfl, rfl, rfl, hx, hy, hp⟩ := hT
  have OK := okX1_fewerOf C hQ hr
  have ex : oI x = -1 ↔ x = none := oI_ne (fun n hn => by have := hx n hn; omega)
  have ey : oI y = -1 ↔ y = none := oI_ne (fun n hn => by have := hy n hn; omega)
  refine go OK [] 40 ?_
  refine And.intro (fun q1 => ?_) (fun q1 => ?_)
  · cases x with
    | none => exact absurd rfl q1
    | some u =>
      refine And.intro (fun q2 => ?_) (fun q2 => ?_)
      · cases y with
        | none => exact absurd rfl q2
        | some v =>
          refine ⟨rfl, Eq.mp (congrArg (fun z => post z X) ?_) hp⟩
          have := hx u rfl
          have := hy v rfl
          show nI (if v < u then v else u) = if nI v < nI u then nI v else nI u
          by_cases z : v < u
          · rw [if_pos z, if_pos ((ltN (by omega) (by omega)).mpr z)]
          · rw [if_neg z, if_neg (fun q => z ((ltN (by omega) (by omega)).mp q))]
      · have e := ey.mp q2
        subst e
        exact ⟨rfl, hp⟩
  · have e := ex.mp q1
    subst e
    exact ⟨rfl, hp⟩
/-- what the rows tell: D -/
def fwt (D : Nat → Option Nat) (k f : Nat) : Option Nat := mnf (fun g => D (k * 36 + wiN f g)) 6
def ftc (D : Nat → Option Nat) (k : Nat) : Option Nat := mnf (fun f => fwt D k f) 6
theorem fwt_lt {D : Nat → Option Nat} (hD : ∀ v r, D v = some r → r < 5000) (k f : Nat) : ∀ r, fwt D k f = some r → r < 5000 := mnf_lt (fun n r h => hD _ r h) 6
theorem ftc_lt {D : Nat → Option Nat} (hD : ∀ v r, D v = some r → r < 5000) (k : Nat) : ∀ r, ftc D k = some r → r < 5000 := mnf_lt (fun n r h => fwt_lt hD k n r h) 6
theorem wiN_lt : ∀ f, f < 7 → ∀ g, g < 7 → 1 ≤ f → 1 ≤ g → wiN f g < 36 := by decide +kernel
def DD (D : Nat → Option Nat) (fe : Nat → Int32) : Prop := (∀ v, v < 1764 → fe v = oI (D v)) ∧ ∀ v r, D v = some r → r < 5000
abbrev tX1_fewestWithTop : aTi := fun av X post => ∃ (a b : Int32) (k f : Nat) (D : Nat → Option Nat) (c t rm pm fd : Int32) (w h : Nat) (wl pr fe qu co pa : Nat → Int32), av = [.ref 4, .int a, .int b] ∧ a = nI k ∧ b = nI f ∧ X = CW c t rm pm (nI w) (nI h) fd wl pr fe qu co pa ∧ k < 49 ∧ 1 ≤ f ∧ f < 7 ∧ DD D fe ∧ post (oI (fwt D k f)) X
abbrev rmX1_fewestWithTop : Room := { frames := 2, cells := 0, slots := 0, locals := 81 }
def tbX1_fewestWithTop (post : Int32 → List aE → Prop) (ad0 : Nat → Nat) : List (Nat × aO) := [(0, oC (-1) 1),
  (1, oIS 3 2),
  (2, oC (1) 3),
  (3, oIS 4 5),
  (5, oIL 4 7),
  (7, oC (6) 9),
  (9, oIc_gt 34 12),
  (12, oIL 3 13),
  (13, oAL 0 14),
  (14, oIL 1 15),
  (15, oIL 2 16),
  (16, oIL 4 18),
  (18, oCi tX2_with 2 none rmX2_with.cells rmX2_with.slots rmX1_fewestWithTop.cells rmX1_fewestWithTop.slots 21),
  (21, oCi tX1_rollsAt 3 (some 1) rmX1_rollsAt.cells rmX1_rollsAt.slots rmX1_fewestWithTop.cells rmX1_fewestWithTop.slots 24),
  (24, oCi tX1_fewerOf 2 none rmX1_fewerOf.cells rmX1_fewerOf.slots rmX1_fewestWithTop.cells rmX1_fewestWithTop.slots 27),
  (27, oIS 3 28),
  (28, oInc 4 1 31),
  (31, oGo 5),
  (34, oIL 3 35),
  (35, oRi post ad0 rmX1_fewestWithTop.cells rmX1_fewestWithTop.slots)]
set_option maxRecDepth 20000 in
theorem okX1_fewestWithTop {Γ : aΓ} {post : Int32 → List aE → Prop} {ad0 : Nat → Nat} {X0 : List aE} (C : FOK Γ cX1_fewestWithTop wsX1_fewestWithTop RX1 5 rmX1_fewestWithTop) (hQ : isQ Γ (va_Qi post (aBk (gK Γ) ad0 X0 (hsz Γ)) (aA (gK Γ) ad0 X0 (hsz Γ))) rmX1_fewestWithTop ad0 X0) (hr : rTy Γ = some .int) : AllS Γ (tbX1_fewestWithTop post ad0) := by
  unfold tbX1_fewestWithTop
  refine al_c (pc := 0) (snd_iconst C dX1_fewestWithTop_0 (by decide)) ?_
  refine al_c (pc := 1) (snd_istore_n C dX1_fewestWithTop_1 rfl (by decide)) ?_
  refine al_c (pc := 2) (snd_iconst C dX1_fewestWithTop_2 (by decide)) ?_
  refine al_c (pc := 3) (snd_istore C dX1_fewestWithTop_3 (by decide)) ?_
  refine al_c (pc := 5) (snd_iload C dX1_fewestWithTop_5) ?_
  refine al_c (pc := 7) (snd_bipush C dX1_fewestWithTop_7 (by decide)) ?_
  refine al_c (pc := 9) (snd_icmp_gt C dX1_fewestWithTop_9 (by decide)) ?_
  refine al_c (pc := 12) (snd_iload_n C dX1_fewestWithTop_12 rfl) ?_
  refine al_c (pc := 13) (snd_aload_n C dX1_fewestWithTop_13 rfl) ?_
  refine al_c (pc := 14) (snd_iload_n C dX1_fewestWithTop_14 rfl) ?_
  refine al_c (pc := 15) (snd_iload_n C dX1_fewestWithTop_15 rfl) ?_
  refine al_c (pc := 16) (snd_iload C dX1_fewestWithTop_16) ?_
  refine al_c (pc := 18) (snd_Ci C (site_SN C dX1_fewestWithTop_18 gX1_fewestWithTop_X2_with_n46 rfl rfl rfl (by decide +kernel) (by decide +kernel) (by decide +kernel) ⟨by decide +kernel, by decide +kernel, by decide +kernel⟩ ⟨by decide, by decide⟩) mX2_with) ?_
  refine al_c (pc := 21) (snd_Ci C (site_V C rfl dX1_fewestWithTop_21 gX1_fewestWithTop_X1_rollsAt rfl rfl rfl ⟨rfl, by decide +kernel, by decide +kernel, by decide +kernel⟩ ⟨by decide, by decide⟩) mX1_rollsAt) ?_
  refine al_c (pc := 24) (snd_Ci C (site_S C dX1_fewestWithTop_24 gX1_fewestWithTop_X1_fewerOf rfl rfl rfl ⟨by decide +kernel, by decide +kernel, by decide +kernel⟩ ⟨by decide, by decide⟩) mX1_fewerOf) ?_
  refine al_c (pc := 27) (snd_istore_n C dX1_fewestWithTop_27 rfl (by decide)) ?_
  refine al_c (pc := 28) (snd_iinc C dX1_fewestWithTop_28 (by decide) (by decide)) ?_
  refine al_c (pc := 31) (snd_goto C dX1_fewestWithTop_31 (by decide)) ?_
  refine al_c (pc := 34) (snd_iload_n C dX1_fewestWithTop_34 rfl) ?_
  refine al_c (pc := 35) (snd_Ri C hQ hr dX1_fewestWithTop_35) ?_
  exact al_0
set_option maxHeartbeats 1000000 in
set_option maxRecDepth 100000 in
theorem mX1_fewestWithTop : aMi yX1_fewestWithTop wsX1_fewestWithTop rmX1_fewestWithTop tX1_fewestWithTop := by
  refine aMi_of (by decide +kernel) rfl rfl (by intro av X post hT; obtain ⟨a, b, k, f, D, c, t, rm, pm, fd, w, h, wl, pr, fe, qu, co, pa, rfl, rfl, rfl, rfl, hk, hf1, hf, hD, hp⟩ := hT; exact Nat.le_of_ble_eq_true rfl) ?_
  intro Γ ad av X post C hQ hr hT
  obtain ⟨a, b, k, f, D, c, t, rm, pm, fd, w, h, wl, pr, fe, qu, co, pa, rfl, rfl, rfl, rfl, hk, hf1, hf, hD, hp⟩ := hT
  have OK := okX1_fewestWithTop C hQ hr
  have loop : ∀ (n g : Nat), g ≤ 6 → 6 - g < n → FG Γ 5 ad 0 0 [(4, .int (nI (g + 1))), (3, .int (oI (mnf (fun g => D (k * 36 + wiN f g)) g))), (0, .ref 4), (1, .int (nI k)), (2, .int (nI f))] [] (CW c t rm pm (nI w) (nI h) fd wl pr fe qu co pa) := by
    intro n
    induction n with
    | zero => intro g _ h; omega
    | succ n ih =>
      intro g hg hn
      refine go OK [5] 60 ?_
      refine And.intro (fun q => ?_) (fun q => ?_)
      · have q := (ltN (a := 6) (b := g + 1) (by omega) (by omega)).mp q
        have : g = 6 := by omega
        subst this
        exact ⟨rfl, hp⟩
      · have hg6 : g < 6 := by
          rcases Nat.lt_or_ge g 6 with z | z
          · exact z
          · exact absurd ((ltN (a := 6) (b := g + 1) (by omega) (by omega)).mpr (by omega)) q
        refine ⟨_, _, f, g + 1, rfl, rfl, rfl, hf, by omega, hf1, by omega, ?_⟩
        have hwi := wiN_lt f hf (g + 1) (by omega) hf1 (by omega)
        refine ⟨_, _, k, wiN f (g + 1), _, _, _, _, _, _, _, _, _, _, _, _, _, rfl, rfl, rfl, rfl, hk, hwi, ?_⟩
        refine ⟨_, _, mnf (fun g => D (k * 36 + wiN f g)) g, D (k * 36 + wiN f (g + 1)), rfl, rfl, hD.1 _ (by omega), mnf_lt (fun n r h => hD.2 _ r h) g, hD.2 _, ?_⟩
        have key := ih (g + 1) (by omega) (by omega)
        rw [← nI_p1 (g + 1)] at key
        exact key
  refine go OK [5] 40 ?_
  exact loop 7 0 (by omega) (by omega)
abbrev tX1_fewestTo : aTi := fun av X post => ∃ (a : Int32) (k : Nat) (D : Nat → Option Nat) (c t rm pm fd : Int32) (w h : Nat) (wl pr fe qu co pa : Nat → Int32), av = [.ref 4, .int a] ∧ a = nI k ∧ X = CW c t rm pm (nI w) (nI h) fd wl pr fe qu co pa ∧ k < 49 ∧ DD D fe ∧ post (oI (ftc D k)) X
abbrev rmX1_fewestTo : Room := { frames := 3, cells := 0, slots := 0, locals := 105 }
def tbX1_fewestTo (post : Int32 → List aE → Prop) (ad0 : Nat → Nat) : List (Nat × aO) := [(0, oC (-1) 1),
  (1, oIS 2 2),
  (2, oC (1) 3),
  (3, oIS 3 4),
  (4, oIL 3 5),
  (5, oC (6) 7),
  (7, oIc_gt 27 10),
  (10, oIL 2 11),
  (11, oAL 0 12),
  (12, oIL 1 13),
  (13, oIL 3 14),
  (14, oCi tX1_fewestWithTop 3 (some 1) rmX1_fewestWithTop.cells rmX1_fewestWithTop.slots rmX1_fewestTo.cells rmX1_fewestTo.slots 17),
  (17, oCi tX1_fewerOf 2 none rmX1_fewerOf.cells rmX1_fewerOf.slots rmX1_fewestTo.cells rmX1_fewestTo.slots 20),
  (20, oIS 2 21),
  (21, oInc 3 1 24),
  (24, oGo 4),
  (27, oIL 2 28),
  (28, oRi post ad0 rmX1_fewestTo.cells rmX1_fewestTo.slots)]
set_option maxRecDepth 20000 in
theorem okX1_fewestTo {Γ : aΓ} {post : Int32 → List aE → Prop} {ad0 : Nat → Nat} {X0 : List aE} (C : FOK Γ cX1_fewestTo wsX1_fewestTo RX1 4 rmX1_fewestTo) (hQ : isQ Γ (va_Qi post (aBk (gK Γ) ad0 X0 (hsz Γ)) (aA (gK Γ) ad0 X0 (hsz Γ))) rmX1_fewestTo ad0 X0) (hr : rTy Γ = some .int) : AllS Γ (tbX1_fewestTo post ad0) := by
  unfold tbX1_fewestTo
  refine al_c (pc := 0) (snd_iconst C dX1_fewestTo_0 (by decide)) ?_
  refine al_c (pc := 1) (snd_istore_n C dX1_fewestTo_1 rfl (by decide)) ?_
  refine al_c (pc := 2) (snd_iconst C dX1_fewestTo_2 (by decide)) ?_
  refine al_c (pc := 3) (snd_istore_n C dX1_fewestTo_3 rfl (by decide)) ?_
  refine al_c (pc := 4) (snd_iload_n C dX1_fewestTo_4 rfl) ?_
  refine al_c (pc := 5) (snd_bipush C dX1_fewestTo_5 (by decide)) ?_
  refine al_c (pc := 7) (snd_icmp_gt C dX1_fewestTo_7 (by decide)) ?_
  refine al_c (pc := 10) (snd_iload_n C dX1_fewestTo_10 rfl) ?_
  refine al_c (pc := 11) (snd_aload_n C dX1_fewestTo_11 rfl) ?_
  refine al_c (pc := 12) (snd_iload_n C dX1_fewestTo_12 rfl) ?_
  refine al_c (pc := 13) (snd_iload_n C dX1_fewestTo_13 rfl) ?_
  refine al_c (pc := 14) (snd_Ci C (site_V C rfl dX1_fewestTo_14 gX1_fewestTo_X1_fewestWithTop rfl rfl rfl ⟨rfl, by decide +kernel, by decide +kernel, by decide +kernel⟩ ⟨by decide, by decide⟩) mX1_fewestWithTop) ?_
  refine al_c (pc := 17) (snd_Ci C (site_S C dX1_fewestTo_17 gX1_fewestTo_X1_fewerOf rfl rfl rfl ⟨by decide +kernel, by decide +kernel, by decide +kernel⟩ ⟨by decide, by decide⟩) mX1_fewerOf) ?_
  refine al_c (pc := 20) (snd_istore_n C dX1_fewestTo_20 rfl (by decide)) ?_
  refine al_c (pc := 21) (snd_iinc C dX1_fewestTo_21 (by decide) (by decide)) ?_
  refine al_c (pc := 24) (snd_goto C dX1_fewestTo_24 (by decide)) ?_
  refine al_c (pc := 27) (snd_iload_n C dX1_fewestTo_27 rfl) ?_
  refine al_c (pc := 28) (snd_Ri C hQ hr dX1_fewestTo_28) ?_
  exact al_0
set_option maxHeartbeats 1000000 in
set_option maxRecDepth 100000 in
theorem mX1_fewestTo : aMi yX1_fewestTo wsX1_fewestTo rmX1_fewestTo tX1_fewestTo := by
  refine aMi_of (by decide +kernel) rfl rfl (by intro av X post hT; obtain ⟨a, k, D, c, t, rm, pm, fd, w, h, wl, pr, fe, qu, co, pa, rfl, rfl, rfl, hk, hD, hp⟩ := hT; exact Nat.le_of_ble_eq_true rfl) ?_
  intro Γ ad av X post C hQ hr hT
  obtain ⟨a, k, D, c, t, rm, pm, fd, w, h, wl, pr, fe, qu, co, pa, rfl, rfl, rfl, hk, hD, hp⟩ := hT
  have OK := okX1_fewestTo C hQ hr
  have loop : ∀ (n g : Nat), g ≤ 6 → 6 - g < n → FG Γ 4 ad 0 0 [(3, .int (nI (g + 1))), (2, .int (oI (mnf (fun f => fwt D k f) g))), (0, .ref 4), (1, .int (nI k))] [] (CW c t rm pm (nI w) (nI h) fd wl pr fe qu co pa) := by
    intro n
    induction n with
    | zero => intro g _ h; omega
    | succ n ih =>
      intro g hg hn
      refine go OK [4] 60 ?_
      refine And.intro (fun q => ?_) (fun q => ?_)
      · have q := (ltN (a := 6) (b := g + 1) (by omega) (by omega)).mp q
        have : g = 6 := by omega
        subst this
        exact ⟨rfl, hp⟩
      · have hg6 : g < 6 := by
          rcases Nat.lt_or_ge g 6 with z | z
          · exact z
          · exact absurd ((ltN (a := 6) (b := g + 1) (by omega) (by omega)).mpr (by omega)) q
        refine ⟨_, _, k, g + 1, D, _, _, _, _, _, _, _, _, _, _, _, _, _, rfl, rfl, rfl, rfl, hk, by omega, by omega, hD, ?_⟩
        refine ⟨_, _, mnf (fun f => fwt D k f) g, fwt D k (g + 1), rfl, rfl, rfl, mnf_lt (fun n r h => fwt_lt hD.2 k n r h) g, fwt_lt hD.2 k _, ?_⟩
        have key := ih (g + 1) (by omega) (by omega)
        rw [← nI_p1 (g + 1)] at key
        exact key
  refine go OK [4] 40 ?_
  exact loop 7 0 (by omega) (by omega)
abbrev tX1_countTops : aTi := fun av X post => ∃ (a : Int32) (k : Nat) (D : Nat → Option Nat) (c t rm pm fd : Int32) (w h : Nat) (wl pr fe qu co pa : Nat → Int32), av = [.ref 4, .int a] ∧ a = nI k ∧ X = CW c t rm pm (nI w) (nI h) fd wl pr fe qu co pa ∧ k < 49 ∧ DD D fe ∧ post (nI (ct (fun f => (fwt D k (f + 1)).isSome) 6)) X
abbrev rmX1_countTops : Room := { frames := 3, cells := 0, slots := 0, locals := 105 }
def tbX1_countTops (post : Int32 → List aE → Prop) (ad0 : Nat → Nat) : List (Nat × aO) := [(0, oC (0) 1),
  (1, oIS 2 2),
  (2, oC (1) 3),
  (3, oIS 3 4),
  (4, oIL 3 5),
  (5, oC (6) 7),
  (7, oIc_gt 29 10),
  (10, oAL 0 11),
  (11, oIL 1 12),
  (12, oIL 3 13),
  (13, oCi tX1_fewestWithTop 3 (some 1) rmX1_fewestWithTop.cells rmX1_fewestWithTop.slots rmX1_countTops.cells rmX1_countTops.slots 16),
  (16, oC (-1) 17),
  (17, oIc_eq 23 20),
  (20, oInc 2 1 23),
  (23, oInc 3 1 26),
  (26, oGo 4),
  (29, oIL 2 30),
  (30, oRi post ad0 rmX1_countTops.cells rmX1_countTops.slots)]
set_option maxRecDepth 20000 in
theorem okX1_countTops {Γ : aΓ} {post : Int32 → List aE → Prop} {ad0 : Nat → Nat} {X0 : List aE} (C : FOK Γ cX1_countTops wsX1_countTops RX1 4 rmX1_countTops) (hQ : isQ Γ (va_Qi post (aBk (gK Γ) ad0 X0 (hsz Γ)) (aA (gK Γ) ad0 X0 (hsz Γ))) rmX1_countTops ad0 X0) (hr : rTy Γ = some .int) : AllS Γ (tbX1_countTops post ad0) := by
  unfold tbX1_countTops
  refine al_c (pc := 0) (snd_iconst C dX1_countTops_0 (by decide)) ?_
  refine al_c (pc := 1) (snd_istore_n C dX1_countTops_1 rfl (by decide)) ?_
  refine al_c (pc := 2) (snd_iconst C dX1_countTops_2 (by decide)) ?_
  refine al_c (pc := 3) (snd_istore_n C dX1_countTops_3 rfl (by decide)) ?_
  refine al_c (pc := 4) (snd_iload_n C dX1_countTops_4 rfl) ?_
  refine al_c (pc := 5) (snd_bipush C dX1_countTops_5 (by decide)) ?_
  refine al_c (pc := 7) (snd_icmp_gt C dX1_countTops_7 (by decide)) ?_
  refine al_c (pc := 10) (snd_aload_n C dX1_countTops_10 rfl) ?_
  refine al_c (pc := 11) (snd_iload_n C dX1_countTops_11 rfl) ?_
  refine al_c (pc := 12) (snd_iload_n C dX1_countTops_12 rfl) ?_
  refine al_c (pc := 13) (snd_Ci C (site_V C rfl dX1_countTops_13 gX1_countTops_X1_fewestWithTop rfl rfl rfl ⟨rfl, by decide +kernel, by decide +kernel, by decide +kernel⟩ ⟨by decide, by decide⟩) mX1_fewestWithTop) ?_
  refine al_c (pc := 16) (snd_iconst C dX1_countTops_16 (by decide)) ?_
  refine al_c (pc := 17) (snd_icmp_eq C dX1_countTops_17 (by decide)) ?_
  refine al_c (pc := 20) (snd_iinc C dX1_countTops_20 (by decide) (by decide)) ?_
  refine al_c (pc := 23) (snd_iinc C dX1_countTops_23 (by decide) (by decide)) ?_
  refine al_c (pc := 26) (snd_goto C dX1_countTops_26 (by decide)) ?_
  refine al_c (pc := 29) (snd_iload_n C dX1_countTops_29 rfl) ?_
  refine al_c (pc := 30) (snd_Ri C hQ hr dX1_countTops_30) ?_
  exact al_0
set_option maxHeartbeats 1000000 in
set_option maxRecDepth 100000 in
theorem mX1_countTops : aMi yX1_countTops wsX1_countTops rmX1_countTops tX1_countTops := by
  refine aMi_of (by decide +kernel) rfl rfl (by intro av X post hT; obtain ⟨a, k, D, c, t, rm, pm, fd, w, h, wl, pr, fe, qu, co, pa, rfl, rfl, rfl, hk, hD, hp⟩ := hT; exact Nat.le_of_ble_eq_true rfl) ?_
  intro Γ ad av X post C hQ hr hT
  obtain ⟨a, k, D, c, t, rm, pm, fd, w, h, wl, pr, fe, qu, co, pa, rfl, rfl, rfl, hk, hD, hp⟩ := hT
  have OK := okX1_countTops C hQ hr
  have loop : ∀ (n g : Nat), g ≤ 6 → 6 - g < n → FG Γ 4 ad 0 0 [(3, .int (nI (g + 1))), (2, .int (nI (ct (fun f => (fwt D k (f + 1)).isSome) g))), (0, .ref 4), (1, .int (nI k))] [] (CW c t rm pm (nI w) (nI h) fd wl pr fe qu co pa) := by
    intro n
    induction n with
    | zero => intro g _ h; omega
    | succ n ih =>
      intro g hg hn
      refine go OK [4] 60 ?_
      refine And.intro (fun q => ?_) (fun q => ?_)
      · have q := (ltN (a := 6) (b := g + 1) (by omega) (by omega)).mp q
        have : g = 6 := by omega
        subst this
        exact ⟨rfl, hp⟩
      · have hg6 : g < 6 := by
          rcases Nat.lt_or_ge g 6 with z | z
          · exact z
          · exact absurd ((ltN (a := 6) (b := g + 1) (by omega) (by omega)).mpr (by omega)) q
        have e1 : oI (fwt D k (g + 1)) = -1 ↔ fwt D k (g + 1) = none := oI_ne (fun n hn => by have := fwt_lt hD.2 k (g + 1) n hn; omega)
        have key := ih (g + 1) (by omega) (by omega)
        rw [← nI_p1 (g + 1)] at key
        refine ⟨_, _, k, g + 1, D, _, _, _, _, _, _, _, _, _, _, _, _, _, rfl, rfl, rfl, rfl, hk, by omega, by omega, hD, ?_⟩
        refine And.intro (fun q => ?_) (fun q => ?_)
        · have e := e1.mp q
          rw [ct_f (by simp [e])] at key
          exact key
        · have e : (fwt D k (g + 1)).isSome = true := by
            cases z : fwt D k (g + 1) with
            | none => exact absurd (e1.mpr z) q
            | some x => rfl
          rw [ct_t (n := g) e, ← nI_p1 (ct _ g)] at key
          exact FG_sub [0, 1, 2, 3] rfl key
  refine go OK [4] 40 ?_
  exact loop 7 0 (by omega) (by omega)
