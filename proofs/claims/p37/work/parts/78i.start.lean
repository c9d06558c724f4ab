/-! ===== the law from its entry to its end ===== -/
theorem sx_len {c t rm pm w9 h9 fd : Int32} {wl pr fe qu co pa : Nat → Int32} {e0 : aE} {w h : Nat} {rl ps x y : Int32} {fw fp : Nat → Nat → Int32} {cs as df : Nat → Int32} : (CW c t rm pm w9 h9 fd wl pr fe qu co pa ++ (e0 :: (SW w h rl ps x y fw fp cs as df).map (shE 10))).length = 16 + w + w := by
  rw [List.length_append, CW_len, List.length_cons, List.length_map, SW_len]
  omega
theorem sx_ok {N : Nat} {c t rm pm w9 h9 fd : Int32} {wl pr fe qu co pa g : Nat → Int32} {w h : Nat} {rl ps x y : Int32} {fw fp : Nat → Nat → Int32} {cs as df : Nat → Int32} (hN : 16 + w + w ≤ N) : (CW c t rm pm w9 h9 fd wl pr fe qu co pa ++ (.inl (false, 10, g) :: (SW w h rl ps x y fw fp cs as df).map (shE 10))).all (okE N) = true := by
  rw [List.all_append, CW_ok (by omega), List.all_cons]
  have h1 : ((SW w h rl ps x y fw fp cs as df).map (shE 10)).all (okE N) = true := List.all_eq_true.mpr fun e he => by
    obtain ⟨u, hu, rfl⟩ := List.mem_map.mp he
    exact okE_mono (N := 6 + w + w + 10) (by omega) (okE_sh (List.all_eq_true.mp (SW_ok (Nat.le_refl _)) u hu))
  rw [h1]
  rfl
theorem k_act {B k t w h rN pN : Nat} {v fd : Int32} {wl pr fe qu co pa : Nat → Int32} {fw fp : Nat → Nat → Int32} {cs as df : Nat → Int32} (hB : B ≤ 8000) (hI : IVd B k t w h rN pN wl pr co pa fw fp cs as df) : tL_act [.ref 0, .ref 9, .int v] (CW (nI k) (nI t) (nI rN) (nI pN) (nI w) (nI h) fd wl pr fe qu co pa ++ Zs w h rN pN k fw fp cs as df)
    (fun r X2 => r = 1 ∧ ∃ (k2 t2 w2 h2 rN2 pN2 : Nat) (fd2 : Int32) (wl2 pr2 fe2 qu2 co2 pa2 : Nat → Int32) (fw2 fp2 : Nat → Nat → Int32) (cs2 as2 df2 : Nat → Int32), IVd (B + 50) k2 t2 w2 h2 rN2 pN2 wl2 pr2 co2 pa2 fw2 fp2 cs2 as2 df2 ∧ X2 = CW (nI k2) (nI t2) (nI rN2) (nI pN2) (nI w2) (nI h2) fd2 wl2 pr2 fe2 qu2 co2 pa2 ++ Zs w2 h2 rN2 pN2 k2 fw2 fp2 cs2 as2 df2) :=
  ⟨B, k, t, w, h, rN, pN, v, fd, wl, pr, fe, qu, co, pa, fw, fp, cs, as, df, rfl, rfl, hB, hI, fun k2 t2 w2 h2 rN2 pN2 fd2 wl2 pr2 fe2 qu2 co2 pa2 fw2 fp2 cs2 as2 df2 hI2 => ⟨rfl, k2, t2, w2, h2, rN2, pN2, fd2, wl2, pr2, fe2, qu2, co2, pa2, fw2, fp2, cs2, as2, df2, hI2, rfl⟩⟩
theorem k_same {B k t w h rN pN : Nat} {fd : Int32} {wl pr fe qu co pa : Nat → Int32} {fw fp : Nat → Nat → Int32} {cs as df : Nat → Int32} (hI : IVd B k t w h rN pN wl pr co pa fw fp cs as df) : tX4_isSame [.ref 9, .ref 0] (CW (nI k) (nI t) (nI rN) (nI pN) (nI w) (nI h) fd wl pr fe qu co pa ++ Zs w h rN pN k fw fp cs as df)
    (fun r X2 => r = 1 ∧ ∃ g : Nat → Int32, X2 = CW (nI k) (nI t) (nI rN) (nI pN) (nI w) (nI h) fd wl pr fe qu co pa ++ (.inl (false, 10, g) :: (SW w h (nI rN) (nI pN) (nI (k % 7)) (nI (k / 7)) fw fp cs as df).map (shE 10))) :=
  ⟨B, k, t, w, h, rN, pN, fd, wl, pr, fe, qu, co, pa, fw, fp, cs, as, df, rfl, rfl, hI, fun g => ⟨rfl, g, rfl⟩⟩
theorem jx_9 {c t rm pm w9 h9 fd : Int32} {wl pr fe qu co pa : Nat → Int32} {w h rN pN k : Nat} {fw fp : Nat → Nat → Int32} {cs as df : Nat → Int32} : ∃ fs, (CW c t rm pm w9 h9 fd wl pr fe qu co pa ++ Zs w h rN pN k fw fp cs as df)[9]? = some (.inr (.inl (3, fs))) := by
  rw [List.getElem?_append_right (by rw [CW_len]; omega), CW_len]
  exact ⟨_, rfl⟩
set_option maxHeartbeats 4000000 in
set_option maxRecDepth 100000 in
theorem lw_22 {Γ : aΓ} {ad0 : Nat → Nat} (C : FOK Γ code wsL_law RL 27 room_1) (CX : FOX Γ) (CN : FON ad0 Γ) (hL : isLQ Γ) : ∀ (g time : Nat), time + g = 10 → Nx Γ ad0 22 (1000 * time + 100) (6000 * time + 5000) [(3, .int (nI time)), (2, .ref 9), (1, .ref 0), (0, .ref 1000)] (160 * time) := by
  have OK := okL_law C CX CN hL
  intro g
  induction g with
  | zero =>
    intro time ht ad2 B k t w h rN pN fd wl pr fe qu co pa fw fp cs as df had hB hI
    have : time = 10 := by omega
    subst this
    have hw7 := hI.2.1
    refine go OK [971] 60 ?_
    refine And.intro (fun _ => ?_) (fun q => absurd (nIge (a := 10) (b := 10) (by decide) (by decide) (Nat.le_refl 10)) q)
    refine FG_to (ls' := []) (k' := 10100) (n' := 65000) [] rfl (by decide) (by decide) ?_
    refine go OK [974] 60 ?_
    refine qW_of 9 rfl had rfl rfl (jx_ok (by omega)) (by rw [jx_len]; omega) (fun ci hc => by
      cases hc
      obtain ⟨fs, e⟩ := @jx_9 (nI k) (nI t) (nI rN) (nI pN) (nI w) (nI h) fd wl pr fe qu co pa w h rN pN k fw fp cs as df
      exact ⟨9, _, fs, rfl, e⟩) rfl (by decide) (by decide) (k_same hI) ?_
    rintro r X2 ⟨rfl, g9, rfl⟩
    refine ⟨by rw [sx_len]; omega, by rw [sx_len]; omega, sx_ok (by rw [sx_len]; omega), fun adJ hag => ?_⟩
    refine go OK [] 5 ?_
    exact ⟨rfl, by decide, by decide⟩
  | succ g ih =>
    intro time ht ad2 B k t w h rN pN fd wl pr fe qu co pa fw fp cs as df had hB hI
    have st45 : ∀ (g2 i : Nat), i + g2 = 3 → ∀ (v : Int32) (ad2 : Nat → Nat) (B k t w h rN pN : Nat) (fd : Int32) (wl pr fe qu co pa : Nat → Int32) (fw fp : Nat → Nat → Int32) (cs as df : Nat → Int32), (∀ i, 1000 ≤ i → ad2 i = ad0 i) → B ≤ 160 * time + 50 * i → IVd B k t w h rN pN wl pr co pa fw fp cs as df →
        FG Γ 45 ad2 (1000 * time + 100 + 60 * i) (6000 * time + 5000 + 400 * i) [(5, .int (nI i)), (4, .int v), (3, .int (nI time)), (2, .ref 9), (1, .ref 0), (0, .ref 1000)] [] (CW (nI k) (nI t) (nI rN) (nI pN) (nI w) (nI h) fd wl pr fe qu co pa ++ Zs w h rN pN k fw fp cs as df) := by
      intro g2
      induction g2 with
      | zero =>
        intro i hi v ad2 B k t w h rN pN fd wl pr fe qu co pa fw fp cs as df had hB hI
        have : i = 3 := by omega
        subst this
        have key := lw_time C CX CN hL had (1000 * time + 100) (6000 * time + 5000) (by omega) (by omega) B k t w h rN pN fd wl pr fe qu co pa fw fp cs as df v (nI time) (nI 3) (by omega) hI (by
          intro ad4 B4 k4 t4 w4 h4 rN4 pN4 fd4 wl4 pr4 fe4 qu4 co4 pa4 fw4 fp4 cs4 as4 df4 i1 i2 i3
          have k9 := ih (time + 1) (by omega) ad4 B4 k4 t4 w4 h4 rN4 pN4 fd4 wl4 pr4 fe4 qu4 co4 pa4 fw4 fp4 cs4 as4 df4 i1 (by omega) i3
          rw [← nI_p1] at k9
          exact FG_wid (by omega) (by omega) k9)
        refine go OK [80] 60 ?_
        refine And.intro (fun _ => ?_) (fun q => absurd (nIge (a := 3) (b := 3) (by decide) (by decide) (Nat.le_refl 3)) q)
        exact FG_wid (by omega) (by omega) key
      | succ g2 ih2 =>
        intro i hi v ad2 B k t w h rN pN fd wl pr fe qu co pa fw fp cs as df had hB hI
        have hw7 := hI.2.1
        refine go OK [45] 60 ?_
        refine And.intro (fun q => absurd ((leN (a := 3) (by decide) (by omega)).mp q) (by omega)) (fun _ => ?_)
        refine qW_of 10 rfl had rfl rfl (jx_ok (by omega)) (by rw [jx_len]; omega) ro_none rfl (by omega) (by omega) (k_act (by omega) hI) ?_
        rintro r X2 ⟨rfl, k2, t2, w2, h2, rN2, pN2, fd2, wl2, pr2, fe2, qu2, co2, pa2, fw2, fp2, cs2, as2, df2, hI2, rfl⟩
        have hw72 := hI2.2.1
        refine ⟨by rw [jx_len]; omega, by rw [jx_len]; omega, jx_ok (by rw [jx_len]; omega), fun adJ hag => ?_⟩
        have key := ih2 (i + 1) (by omega) v adJ (B + 50) k2 t2 w2 h2 rN2 pN2 fd2 wl2 pr2 fe2 qu2 co2 pa2 fw2 fp2 cs2 as2 df2 (fun i hi => (hag i (Or.inr hi)).trans (had i hi)) (by omega) hI2
        rw [← nI_p1] at key
        refine And.intro (fun _ => ?_) (fun q => absurd q (by decide))
        exact FG_wid (by omega) (by omega) key
    refine go OK [45] 60 ?_
    refine And.intro (fun q => absurd ((leN (a := 10) (by decide) (by omega)).mp q) (by omega)) (fun _ => ?_)
    refine hC_at time rfl (by omega) rfl (by omega) (by omega) had ?_
    intro x
    exact FG_wid (by omega) (by omega) (st45 3 0 rfl _ ad2 B k t w h rN pN fd wl pr fe qu co pa fw fp cs as df had (by omega) hI)
set_option maxHeartbeats 4000000 in
set_option maxRecDepth 100000 in
theorem lw_start {Γ : aΓ} {ad0 : Nat → Nat} (C : FOK Γ code wsL_law RL 27 room_1) (CX : FOX Γ) (CN : FON ad0 Γ) (hL : isLQ Γ) : FG Γ 0 ad0 0 0 [(0, .ref 1000)] [] [] := by
  have OK := okL_law C CX CN hL
  have st7 : ∀ (ad2 : Nat → Nat) (wl pr : Nat → Int32), (∀ i, 1000 ≤ i → ad2 i = ad0 i) → FG Γ 7 ad2 9 3700 [(0, .ref 1000)] [.ref 0] (CW 0 1 0 0 5 5 0 wl pr (fun _ => 0) (fun _ => 0) (stC 7) (fun _ => 0)) := by
    intro ad2 wl pr had
    refine go OK [13] 60 ?_
    refine ⟨[], CW 0 1 0 0 5 5 0 wl pr (fun _ => 0) (fun _ => 0) (stC 7) (fun _ => 0), [.ref 0, .ref 1000], fun r X2 => r = 9 ∧ ∃ (w2 h2 : Nat) (wl2 pr2 pa2 : Nat → Int32) (fw2 fp2 : Nat → Nat → Int32) (cs2 as2 df2 : Nat → Int32), IVd 0 0 1 w2 h2 0 0 wl2 pr2 (stC 7) pa2 fw2 fp2 cs2 as2 df2 ∧ X2 = CW (nI 0) (nI 1) (nI 0) (nI 0) (nI w2) (nI h2) 0 wl2 pr2 (fun _ => 0) (fun _ => 0) (stC 7) pa2 ++ Zs w2 h2 0 0 0 fw2 fp2 cs2 as2 df2, rfl, by decide, by decide, rfl, (shEs_0 _).symm, (shVs_0 _).symm, qOK_of (N0 := 9) had (Nat.le_refl _) rfl rfl rfl (CW_ok (by decide)) (by rw [CW_len]; decide) (Or.inl rfl), ro_none, ⟨0, 1, 5, 5, 0, 0, 0, wl, pr, _, _, stC 7, _, rfl, rfl, fun f f1 f6 => ⟨if_pos ⟨f1, by omega⟩, rfl⟩, fun w2 h2 wl2 pr2 pa2 fw2 fp2 cs2 as2 df2 hI => ⟨rfl, w2, h2, wl2, pr2, pa2, fw2, fp2, cs2, as2, df2, hI, rfl⟩⟩, ?_⟩
    rintro r X2 ⟨rfl, w2, h2, wl2, pr2, pa2, fw2, fp2, cs2, as2, df2, hI, rfl⟩
    have hw7 := hI.2.1
    refine ⟨by show 9 ≤ _; rw [jx_len]; omega, by rw [jx_len]; omega, jx_ok (by rw [jx_len]; omega), by rw [jx_len]; omega, fun adJ hag => ?_⟩
    rw [List.nil_append, shEs_0]
    refine go OK [22] 60 ?_
    exact FG_wid (k' := 1000 * 0 + 100) (n' := 6000 * 0 + 5000) (by decide) (by decide) (lw_22 C CX CN hL 10 0 rfl adJ 0 0 1 w2 h2 0 0 0 wl2 pr2 (fun _ => 0) (fun _ => 0) (stC 7) pa2 fw2 fp2 cs2 as2 df2 (fun i hi => (hag i (Or.inr hi)).trans (had i hi)) (Nat.le_refl _) hI)
  refine go OK [7] 60 ?_
  refine fun a1 g1 => ?_
  refine ⟨[], [.inr (.inl (2, [.null, .null, .null, .null, .int 0, .int 0, .int 0, .int 0]))], [.ref 0], rfl, rfl, rfl, rfl, rfl, rfl, ⟨rfl, rfl, fun wl pr h1 h2 => ⟨Nat.le_of_ble_eq_true rfl, Nat.le_of_ble_eq_true rfl, rfl, fun a2 g2 => ?_⟩⟩⟩
  rw [List.nil_append, shEs_0]
  have G1 : Ag 0 ad0 a1 := g1
  have G2 : Ag 1 a1 a2 := g2
  exact FG_wid (by decide) (by decide) (st7 a2 wl pr (fun i hi => (g2 i (Or.inr hi)).trans (g1 i (Or.inr hi))))
