/-! ===== the law from its entry, by program (mkloop.py) ===== -/
theorem inL_X3 : ∀ w ∈ wsX30, w ∈ wsL_law := by decide +kernel
theorem inL_X4 : ∀ w ∈ wsX40, w ∈ wsL_law := by decide +kernel
def tbLs0 (b L : Nat) (xs : Nat → Int32) : List (Nat × aO) := [(0, oNO 2 8 [.null, .null, .null, .null, .int 0, .int 0, .int 0, .int 0] room_1.cells room_1.slots 3),
  (3, oDup 4),
  (4, oNc 0 tX3_init 1 (some 2) rmX3_init.cells rmX3_init.slots room_1.cells room_1.slots 7),
  (7, oAS 1 8),
  (8, oNO 3 25 [.int 0, .int 0, .int 0, .null, .null, .null, .null, .int 0, .int 0, .int 0, .int 0, .int 0, .int 0, .int 0, .int 0, .int 0, .int 0, .null, .null, .null, .null, .null, .int 0, .null, .null] room_1.cells room_1.slots 11),
  (11, oDup 12),
  (12, oNc 9 tX4_init 1 (some 3) rmX4_init.cells rmX4_init.slots room_1.cells room_1.slots 15),
  (15, oAS 2 16),
  (16, oC (1) 17),
  (17, oNJ 1 room_1.cells room_1.slots 19),
  (19, oAS 3 20),
  (20, oC (0) 21),
  (21, oIS 4 23)]
set_option maxRecDepth 20000 in
theorem okLs0 {Γ : aΓ} {b L : Nat} {xs : Nat → Int32} (C : FOK Γ code wsL_law RL 9 room_1) (CX : FOX Γ) (CN : FOW Γ) (hS : LScr b L xs Γ) : AllS Γ (tbLs0 b L xs) := by
  unfold tbLs0
  refine al_c (pc := 0) (snd_NO C (ci := 2) dL_law_0 rfl inL_X3 tyX3_ok (by decide +kernel) (by decide +kernel) (by decide +kernel) (fun j hj => by match j, hj with | 0, _ => rfl | 1, _ => rfl | 2, _ => rfl | 3, _ => rfl | 4, _ => rfl | 5, _ => rfl | 6, _ => rfl | 7, _ => rfl | j + 8, h => exact absurd h (by omega)) (fun _ => rfl)) ?_
  refine al_c (pc := 3) (snd_dup C dL_law_3) ?_
  refine al_c (pc := 4) (snd_Nc 0 C (site_I C rfl dL_law_4 gL_law_X3_init rfl rfl rfl (by decide +kernel) (by decide +kernel) (by decide +kernel) rfl ⟨by decide +kernel, by decide +kernel, by decide +kernel⟩ ⟨by decide, by decide⟩) mX3_init) ?_
  refine al_c (pc := 7) (snd_astore_n C dL_law_7 rfl (by decide)) ?_
  refine al_c (pc := 8) (snd_NO C (ci := 3) dL_law_8 rfl inL_X4 tyX4_ok (by decide +kernel) (by decide +kernel) (by decide +kernel) (fun j hj => by match j, hj with | 0, _ => rfl | 1, _ => rfl | 2, _ => rfl | 3, _ => rfl | 4, _ => rfl | 5, _ => rfl | 6, _ => rfl | 7, _ => rfl | 8, _ => rfl | 9, _ => rfl | 10, _ => rfl | 11, _ => rfl | 12, _ => rfl | 13, _ => rfl | 14, _ => rfl | 15, _ => rfl | 16, _ => rfl | 17, _ => rfl | 18, _ => rfl | 19, _ => rfl | 20, _ => rfl | 21, _ => rfl | 22, _ => rfl | 23, _ => rfl | 24, _ => rfl | j + 25, h => exact absurd h (by omega)) (fun _ => rfl)) ?_
  refine al_c (pc := 11) (snd_dup C dL_law_11) ?_
  refine al_c (pc := 12) (snd_Nc 9 C (site_I C rfl dL_law_12 gL_law_X4_init rfl rfl rfl (by decide +kernel) (by decide +kernel) (by decide +kernel) rfl ⟨by decide +kernel, by decide +kernel, by decide +kernel⟩ ⟨by decide, by decide⟩) mX4_init) ?_
  refine al_c (pc := 15) (snd_astore_n C dL_law_15 rfl (by decide)) ?_
  refine al_c (pc := 16) (snd_iconst C dL_law_16 (by decide)) ?_
  refine al_c (pc := 17) (snd_NJ C (N := 1) (by decide) dL_law_17 (by decide +kernel)) ?_
  refine al_c (pc := 19) (snd_astore_n C dL_law_19 rfl (by decide)) ?_
  refine al_c (pc := 20) (snd_iconst C dL_law_20 (by decide)) ?_
  refine al_c (pc := 21) (snd_istore C dL_law_21 (by decide)) ?_
  exact al_0
theorem JJ_0 {wl pr wm pq fe qu fa ce ts ns es on nx : Nat → Int32} (h1 : ∀ k, k < 49 → wl k = 0) (h2 : ∀ k, k < 49 → pr k = 0) (h3 : ∀ k, k < 49 → wm k = 0) (h4 : ∀ k, k < 49 → pq k = 0) : JJ (CW 0 1 0 0 5 5 0 wl pr fe qu (stC 7) (fun _ => 0)) (MW 0 5 5 0 0 0 1 2 3 0 0 0 0 0 wm pq (stC 7) (fun _ => 0) fa ce ts ns es on nx) :=
  JJ_mk (k := 0) (tt := 1) (w := 5) (h := 5) ⟨by omega, by omega, by omega, by omega, ⟨by omega, by omega, h1 0 (by omega)⟩, by decide, fun i j hi hj => by rw [h1 _ (by omega), h3 _ (by omega)], fun i j hi hj => by rw [h2 _ (by omega), h4 _ (by omega)], fun c hc _ => h1 c hc, fun c hc => Or.inl (h3 c hc), fun f _ _ => ⟨0, rfl, by omega, by omega⟩⟩
set_option maxHeartbeats 4000000 in
set_option maxRecDepth 100000 in
theorem law_start {Γ : aΓ} {b L : Nat} {xs : Nat → Int32} (C : FOK Γ code wsL_law RL 9 room_1) (CX : FOX Γ) (CN : FOW Γ) (hS : LScr b L xs Γ) (hQ : isLQ Γ) (hL : L ≤ 2048) : FG Γ 0 (fun _ => b) 0 0 [(0, .ref 1000)] [] [] := by
  have OK := okLs0 C CX CN hS
  refine go OK [23] 60 ?_
  refine fun a1 g1 => ?_
  refine ⟨[], [.inr (.inl (2, [.null, .null, .null, .null, .int 0, .int 0, .int 0, .int 0]))], [.ref 0], rfl, rfl, rfl, rfl, rfl, rfl, ⟨rfl, rfl, fun wl pr h1 h2 => ⟨Nat.le_of_ble_eq_true rfl, Nat.le_of_ble_eq_true rfl, rfl, fun a2 g2 => ?_⟩⟩⟩
  refine fun a3 g3 => ?_
  refine ⟨CW 0 1 0 0 5 5 0 wl pr (fun _ => 0) (fun _ => 0) (stC 7) (fun _ => 0), [.inr (.inl (3, [.int 0, .int 0, .int 0, .null, .null, .null, .null, .int 0, .int 0, .int 0, .int 0, .int 0, .int 0, .int 0, .int 0, .int 0, .int 0, .null, .null, .null, .null, .null, .int 0, .null, .null]))], [.ref 0], rfl, rfl, rfl, rfl, rfl, rfl, ⟨rfl, rfl, fun wm pq h3 h4 => ⟨Nat.le_of_ble_eq_true rfl, Nat.le_of_ble_eq_true rfl, rfl, fun a4 g4 => ?_⟩⟩⟩
  refine ⟨rfl, fun a5 g5 => ?_⟩
  have G1 : Ag 0 (fun _ => b) a1 := g1
  have G2 : Ag 1 a1 a2 := g2
  have G3 : Ag 9 a2 a3 := g3
  have G4 : Ag 10 a3 a4 := g4
  have G5 : Ag 21 a4 a5 := g5
  have had : a5 1000 = b := (((((G1.tr G2 (by omega)).tr G3 (by omega)).tr G4 (by omega)).tr G5 (by omega)) 1000 (Or.inr (Nat.le_refl _)))
  have key := law_loop C CX CN hS hQ hL 512 0 (by omega) (by omega) a5 _ _ (fun _ => 0) had (JJ_0 (fe := fun _ => 0) (qu := fun _ => 0) (fa := fun _ => 0) (ce := fun _ => 0) (ts := fun _ => 0) (ns := fun _ => 0) (es := fun _ => 0) (on := fun _ => 0) (nx := fun _ => 0) h1 h2 h3 h4)
  exact FG_wid (k' := 100 + 0) (n' := 17000 + 5 * 0) (Nat.le_of_ble_eq_true rfl) (Nat.le_of_ble_eq_true rfl) (FG_sub [0, 1, 2, 3, 4] rfl key)
