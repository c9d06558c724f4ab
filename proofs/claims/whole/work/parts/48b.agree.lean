/-! ===== class and model, call by call ===== -/
theorem nI_ij {i j : Nat} (h : nI i = nI j) (hi : i < 10000) (hj : j < 10000) : i = j := by
  have e := congrArg Int32.toNatClampNeg h
  rwa [nI_clampS hi, nI_clampS hj] at e
/-- what holds of the die and the board, and joins class and model -/
def IV (k tt w h : Nat) (wl pr pa wm pq : Nat → Int32) : Prop := 2 ≤ w ∧ w ≤ 7 ∧ 2 ≤ h ∧ h ≤ 7 ∧ frN w h wl k ∧ vt tt = true ∧ RW w h wl wm ∧ RW w h pr pq ∧ (∀ c, c < 49 → ¬ (c % 7 < w ∧ c / 7 < h) → wl c = 0) ∧ (∀ c, c < 49 → wm c = 0 ∨ wm c = 1) ∧ PB pa
def JJ (C M : List aE) : Prop := ∃ (k tt w h : Nat) (rm pm fd th ic it iv ie rc : Int32) (wl pr fe qu co pa wm pq fa ce ts ns es on nx : Nat → Int32), C = CW (nI k) (nI tt) rm pm (nI w) (nI h) fd wl pr fe qu co pa ∧ M = MW th (nI w) (nI h) rm pm (nI (cm w k)) (nI (tt / 6 + 1)) (nI (tt % 6 + 1)) (nI (eoN tt)) ic it iv ie rc wm pq co pa fa ce ts ns es on nx ∧ IV k tt w h wl pr pa wm pq
theorem JJ_mk {k tt w h : Nat} {rm pm fd th ic it iv ie rc : Int32} {wl pr fe qu co pa wm pq fa ce ts ns es on nx : Nat → Int32} (hI : IV k tt w h wl pr pa wm pq) : JJ (CW (nI k) (nI tt) rm pm (nI w) (nI h) fd wl pr fe qu co pa) (MW th (nI w) (nI h) rm pm (nI (cm w k)) (nI (tt / 6 + 1)) (nI (tt % 6 + 1)) (nI (eoN tt)) ic it iv ie rc wm pq co pa fa ce ts ns es on nx) :=
  ⟨k, tt, w, h, rm, pm, fd, th, ic, it, iv, ie, rc, wl, pr, fe, qu, co, pa, wm, pq, fa, ce, ts, ns, es, on, nx, rfl, rfl, hI⟩
/-- what the model says of its last call -/
def thr (v : Int32) (M : List aE) : Prop := ∃ (fs : List Value) (t : List aE), M = .inr (.inl (3, .int v :: fs)) :: t
theorem thr_mk {th w h rl ps cl tp nt et ic it iv ie rc : Int32} {wm pq co pa fa ce ts ns es on nx : Nat → Int32} : thr th (MW th w h rl ps cl tp nt et ic it iv ie rc wm pq co pa fa ce ts ns es on nx) := ⟨_, _, rfl⟩
theorem code1_1 {E : String} : code1 E E = some 1 := if_pos rfl
theorem code2_1 {E F : String} : code2 E F E = some 1 := if_pos rfl
theorem code2_2 {E F : String} (h : ¬ F = E) : code2 E F F = some 2 := (if_neg h).trans (if_pos rfl)
theorem io_ia : ¬ "java/lang/IllegalArgumentException" = "java/lang/IndexOutOfBoundsException" := by decide
theorem io_is : ¬ "java/lang/IllegalStateException" = "java/lang/IndexOutOfBoundsException" := by decide
theorem PB_adP {pa : Nat → Int32} {f : Nat} {b : Int32} (hPB : PB pa) (hb : inR b 1 20) : PB (upd pa f (adP pa f b)) := by
  intro g g1 g6
  by_cases z : g = f
  · subst z
    rw [pk_us]
    obtain ⟨p, hp, p0, p20⟩ := hPB g g1 g6
    obtain ⟨q, rfl, q1, q20⟩ := hb
    unfold adP
    rw [hp, nI_add]
    by_cases c : nI (p + q) < 20
    · rw [if_pos c]
      have := (ltN (a := p + q) (b := 20) (by omega) (by omega)).mp c
      exact ⟨p + q, rfl, by omega, by omega⟩
    · rw [if_neg c]
      exact ⟨20, rfl, by omega, by omega⟩
  · rw [pk_un z]
    exact hPB g g1 g6
theorem PB_paP {pa : Nat → Int32} {dn : Nat} (hPB : PB pa) (d1 : 1 ≤ dn) (d6 : dn ≤ 6) : PB (paP pa dn) := by
  unfold paP
  by_cases z : 0 < pa dn
  · rw [if_pos z]
    intro g g1 g6
    by_cases y : g = dn
    · subst y
      rw [pk_us]
      obtain ⟨p, hp, p0, p20⟩ := hPB g g1 g6
      rw [hp] at z ⊢
      have := (ltN (a := 0) (b := p) (by omega) (by omega)).mp z
      rw [nI_sub1 (by omega)]
      exact ⟨p - 1, rfl, by omega, by omega⟩
    · rw [pk_un y]
      exact hPB g g1 g6
  · rw [if_neg z]
    exact hPB
theorem dn_in {t : Nat} (h : vt t = true) : 1 ≤ 7 - (t / 6 + 1) ∧ 7 - (t / 6 + 1) ≤ 6 := by
  have := vt_lt h
  omega
theorem rollK_inv {w h d : Nat} {wl co : Nat → Int32} (hd : d < 4) : ∀ (n k tt : Nat) (rm pm : Int32) (pr pa : Nat → Int32) (m k2 t2 : Nat) (rm2 pm2 : Int32) (pr2 pa2 : Nat → Int32), frN w h wl k → vt tt = true → PB pa → rollK w h wl co d n (k, tt, rm, pm, pr, pa) = (m, k2, t2, rm2, pm2, pr2, pa2) → frN w h wl k2 ∧ vt t2 = true ∧ PB pa2
  | 0, k, tt, rm, pm, pr, pa, m, k2, t2, rm2, pm2, pr2, pa2, hf, hv, hP, e => by
    cases e
    exact ⟨hf, hv, hP⟩
  | n + 1, k, tt, rm, pm, pr, pa, m, k2, t2, rm2, pm2, pr2, pa2, hf, hv, hP, e => by
    cases z : nxt w h wl k d with
    | none =>
      have s1 : stepD w h wl co d (k, tt, rm, pm, pr, pa) = none := by unfold stepD; rw [z]
      rw [rollK, s1] at e
      cases e
      exact ⟨hf, hv, hP⟩
    | some j =>
      have s1 : stepD w h wl co d (k, tt, rm, pm, pr, pa) = some (j, rlN tt d, rm + 1, pmP pa (7 - (rlN tt d / 6 + 1)) pm, prP pa (7 - (rlN tt d / 6 + 1)) j co pr, paP pa (7 - (rlN tt d / 6 + 1))) := by unfold stepD; rw [z]
      rw [rollK, s1] at e
      obtain ⟨r1, r2, r3, r4, r5, r6, r7, e8⟩ : ∃ (r1 : Nat) (r2 r3 : Nat) (r4 r5 : Int32) (r6 r7 : Nat → Int32), rollK w h wl co d n (j, rlN tt d, rm + 1, pmP pa (7 - (rlN tt d / 6 + 1)) pm, prP pa (7 - (rlN tt d / 6 + 1)) j co pr, paP pa (7 - (rlN tt d / 6 + 1))) = (r1, r2, r3, r4, r5, r6, r7) := ⟨_, _, _, _, _, _, _, rfl⟩
      change ((rollK w h wl co d n _).1 + 1, (rollK w h wl co d n _).2) = _ at e
      rw [e8] at e
      cases e
      have hv2 := rlN_vt hv hd
      exact rollK_inv hd n j (rlN tt d) _ _ _ _ _ _ _ _ _ _ _ (nxt_fr z) hv2 (PB_paP hP (dn_in hv2).1 (dn_in hv2).2) e8
/-- class and model answer alike, throw alike, and stay joined -/
def AG (T3 : xTi) (T4 : aTi) (code : String → Option Int32) (as : List Value) : Prop := ∀ C M, JJ C M → T3 (.ref 0 :: as) C (fun r C2 => C2.length = 9 ∧ T4 (.ref 0 :: as) M (fun b M2 => b = r ∧ thr 0 M2 ∧ JJ C2 M2)) (fun E C2 => C2.length = 9 ∧ ∃ v, code E = some v ∧ T4 (.ref 0 :: as) M (fun _ M2 => thr v M2 ∧ JJ C2 M2))
def AGn (T3 : aTi) (T4 : aTi) : Prop := ∀ C M, JJ C M → T3 [.ref 0] C (fun r C2 => C2.length = 9 ∧ T4 [.ref 0] M (fun b M2 => b = r ∧ JJ C2 M2))
def AGd (T3 : aTd) (T4 : aTd) : Prop := ∀ C M, JJ C M → T3 [.ref 0] C (fun r C2 => C2.length = 9 ∧ T4 [.ref 0] M (fun b M2 => b = r ∧ vf_n64 r ∧ JJ C2 M2))
def AGl (T3 : aTl) (T4 : aTl) : Prop := ∀ C M, JJ C M → T3 [.ref 0] C (fun r C2 => C2.length = 9 ∧ T4 [.ref 0] M (fun b M2 => b = r ∧ JJ C2 M2))
set_option maxRecDepth 100000 in
theorem reach_eq {w h k tt : Nat} {wl : Nat → Int32} (hw1 : 1 ≤ w) (hw : w ≤ 7) (hh : h ≤ 7) (hv : vt tt = true) (hf : frN w h wl k) : ct (fun c => (ftc (DH w h wl k tt) c).isSome) 49 = ct (fun c => (ftc (fin (nbF w h wl) 1764 [k * 36 + tt]).2 (k7 w c)).isSome) (w * h) :=
  ct_lin (p := fun c => (ftc (DH w h wl k tt) c).isSome) hw1 hw hh (fun c h1 h2 => by
    have off : ftc (DH w h wl k tt) c = none := ftc_off (S := fin (nbF w h wl) 1764 [k * 36 + tt]) (fin_okS (ok_one hv hf)) h2
    rw [off]
    rfl)
set_option maxRecDepth 100000 in
theorem dig_eq {w h k tt : Nat} {wl wm pr pq co pa : Nat → Int32} {rm pm : Int32} (hw1 : 1 ≤ w) (hw : w ≤ 7) (hh : h ≤ 7) (hR : RW w h wl wm) (hP : RW w h pr pq) (hz : ∀ c, c < 49 → ¬ (c % 7 < w ∧ c / 7 < h) → wl c = 0) :
    jc (cN w h wl pr (DH w h wl k tt)) (jf co pa (jl 1901 (dgH k tt w h (ct (fun c => decide (¬ wl c = 0)) 49) rm pm)) 6) (w * h) = jc (cM w wm pq (fin (nbF w h wl) 1764 [k * 36 + tt]).2) (jf co pa (jl 1901 (dgH k tt w h (ct (fun c => decide (¬ wm c = 0)) (w * h)) rm pm)) 6) (w * h) := by
  rw [ct_walls hw1 hw hh hR hz]
  exact jc_cells hw1 hR hP
set_option maxRecDepth 100000 in
theorem ag_newBoard (a b : Int32) : AG tX3_newBoard tX4_newBoard (code1 "java/lang/IllegalArgumentException") [.int a, .int b] := by
  intro C M hJ
  obtain ⟨k, tt, w, h, rm, pm, fd, th, ic, it, iv, ie, rc, wl, pr, fe, qu, co, pa, wm, pq, fa, ce, ts, ns, es, on, nx, rfl, rfl, hI⟩ := hJ
  obtain ⟨w2, w7, h2, h7, hf, hv, hR, hP, hz, h01, hPB⟩ := id hI
  have hk : k < 49 := by have := hf.1; have := hf.2.1; omega
  have ht := vt_lt hv
  refine ⟨a, b, k, tt, w, h, rm, pm, fd, wl, pr, fe, qu, co, pa, rfl, rfl, fun q wl2 pr2 z1 z2 => ?_, fun q => ⟨rfl, 1, code1_1, ?_⟩⟩
  · obtain ⟨⟨wa, rfl, a2, a7⟩, ⟨hb, rfl, b2, b7⟩⟩ := id q
    refine ⟨rfl, _, _, _, _, _, _, _, _, _, _, _, _, _, _, _, _, _, _, _, _, _, _, _, _, _, _, _, rfl, rfl, fun _ wm2 pq2 y1 y2 => ⟨rfl, thr_mk, ?_⟩, fun q2 => absurd q q2⟩
    have lt : ∀ i j, i < wa → j < hb → wa * j + i < 49 := fun i j hi hj => by
      have := cm_lt (w := wa) (h := hb) (k := j * 7 + i) a7 b7 (by omega) (by omega)
      rwa [cm_at (by omega)] at this
    exact JJ_mk (k := 0) (tt := 1) ⟨a2, a7, b2, b7, ⟨by omega, by omega, z1 0 (by omega)⟩, by decide, fun i j hi hj => by rw [z1 _ (by omega), y1 _ (lt i j hi hj)], fun i j hi hj => by rw [z2 _ (by omega), y2 _ (lt i j hi hj)], fun c hc _ => z1 c hc, fun c hc => Or.inl (y1 c hc), hPB⟩
  · exact ⟨_, _, _, _, _, _, _, _, _, _, _, _, _, _, _, _, _, _, _, _, _, _, _, _, _, _, _, rfl, rfl, fun q2 => absurd q2 q, fun _ => ⟨thr_mk, JJ_mk hI⟩⟩
set_option maxRecDepth 100000 in
theorem ag_isWall (a b : Int32) : AG tX3_isWall tX4_isWall (code1 "java/lang/IndexOutOfBoundsException") [.int a, .int b] := by
  intro C M hJ
  obtain ⟨k, tt, w, h, rm, pm, fd, th, ic, it, iv, ie, rc, wl, pr, fe, qu, co, pa, wm, pq, fa, ce, ts, ns, es, on, nx, rfl, rfl, hI⟩ := hJ
  obtain ⟨w2, w7, h2, h7, hf, hv, hR, hP, hz, h01, hPB⟩ := id hI
  have hk : k < 49 := by have := hf.1; have := hf.2.1; omega
  have ht := vt_lt hv
  refine ⟨a, b, k, tt, w, h, rm, pm, fd, wl, pr, fe, qu, co, pa, rfl, rfl, w7, h7, fun q => ⟨rfl, 1, code1_1, a, b, th, rm, pm, ic, it, iv, ie, rc, k, tt, w, h, wm, pq, co, pa, fa, ce, ts, ns, es, on, nx, rfl, rfl, w2, w7, h2, h7, h01, fun _ => ⟨thr_mk, JJ_mk hI⟩, fun i j e1 e2 e3 e4 => absurd ⟨i, j, e1, e2, e3, e4⟩ q⟩, fun i j e1 e2 e3 e4 => ⟨rfl, a, b, th, rm, pm, ic, it, iv, ie, rc, k, tt, w, h, wm, pq, co, pa, fa, ce, ts, ns, es, on, nx, rfl, rfl, w2, w7, h2, h7, h01, fun q => absurd ⟨i, j, e1, e2, e3, e4⟩ q, fun i2 j2 g1 g2 g3 g4 => ?_⟩⟩
  have e5 := nI_ij (e1.symm.trans g1) (by omega) (by omega)
  have e6 := nI_ij (e2.symm.trans g2) (by omega) (by omega)
  subst e5 e6
  exact ⟨by rw [hR _ _ e3 e4], thr_mk, JJ_mk hI⟩
set_option maxRecDepth 100000 in
theorem ag_printAt (a b : Int32) : AG tX3_printAt tX4_printAt (code1 "java/lang/IndexOutOfBoundsException") [.int a, .int b] := by
  intro C M hJ
  obtain ⟨k, tt, w, h, rm, pm, fd, th, ic, it, iv, ie, rc, wl, pr, fe, qu, co, pa, wm, pq, fa, ce, ts, ns, es, on, nx, rfl, rfl, hI⟩ := hJ
  obtain ⟨w2, w7, h2, h7, hf, hv, hR, hP, hz, h01, hPB⟩ := id hI
  have hk : k < 49 := by have := hf.1; have := hf.2.1; omega
  have ht := vt_lt hv
  refine ⟨a, b, k, tt, w, h, rm, pm, fd, wl, pr, fe, qu, co, pa, rfl, rfl, w7, h7, fun q => ⟨rfl, 1, code1_1, a, b, th, rm, pm, ic, it, iv, ie, rc, k, tt, w, h, wm, pq, co, pa, fa, ce, ts, ns, es, on, nx, rfl, rfl, w2, w7, h2, h7, fun _ => ⟨thr_mk, JJ_mk hI⟩, fun i j e1 e2 e3 e4 => absurd ⟨i, j, e1, e2, e3, e4⟩ q⟩, fun i j e1 e2 e3 e4 => ⟨rfl, a, b, th, rm, pm, ic, it, iv, ie, rc, k, tt, w, h, wm, pq, co, pa, fa, ce, ts, ns, es, on, nx, rfl, rfl, w2, w7, h2, h7, fun q => absurd ⟨i, j, e1, e2, e3, e4⟩ q, fun i2 j2 g1 g2 g3 g4 => ?_⟩⟩
  have e5 := nI_ij (e1.symm.trans g1) (by omega) (by omega)
  have e6 := nI_ij (e2.symm.trans g2) (by omega) (by omega)
  subst e5 e6
  exact ⟨hP _ _ e3 e4, thr_mk, JJ_mk hI⟩
set_option maxRecDepth 100000 in
theorem ag_fewestRolls (a b : Int32) : AG tX3_fewestRolls tX4_fewestRolls (code1 "java/lang/IndexOutOfBoundsException") [.int a, .int b] := by
  intro C M hJ
  obtain ⟨k, tt, w, h, rm, pm, fd, th, ic, it, iv, ie, rc, wl, pr, fe, qu, co, pa, wm, pq, fa, ce, ts, ns, es, on, nx, rfl, rfl, hI⟩ := hJ
  obtain ⟨w2, w7, h2, h7, hf, hv, hR, hP, hz, h01, hPB⟩ := id hI
  have hk : k < 49 := by have := hf.1; have := hf.2.1; omega
  have ht := vt_lt hv
  refine ⟨a, b, k, tt, w, h, rm, pm, fd, wl, pr, fe, qu, co, pa, rfl, rfl, w7, h7, hv, hf, fun q => ⟨rfl, 1, code1_1, a, b, wl, th, rm, pm, ic, it, iv, ie, rc, k, tt, w, h, wm, pq, co, pa, fa, ce, ts, ns, es, on, nx, rfl, rfl, w2, w7, h2, h7, hR, hf, hv, fun _ => ⟨thr_mk, JJ_mk hI⟩, fun i j e1 e2 e3 e4 => absurd ⟨i, j, e1, e2, e3, e4⟩ q⟩, fun i j e1 e2 e3 e4 fd2 fe2 qu2 => ⟨rfl, a, b, wl, th, rm, pm, ic, it, iv, ie, rc, k, tt, w, h, wm, pq, co, pa, fa, ce, ts, ns, es, on, nx, rfl, rfl, w2, w7, h2, h7, hR, hf, hv, fun q => absurd ⟨i, j, e1, e2, e3, e4⟩ q, fun i2 j2 g1 g2 g3 g4 ic2 it2 iv2 ie2 rc2 fa2 ce2 ts2 ns2 es2 => ?_⟩⟩
  have e5 := nI_ij (e1.symm.trans g1) (by omega) (by omega)
  have e6 := nI_ij (e2.symm.trans g2) (by omega) (by omega)
  subst e5 e6
  exact ⟨rfl, thr_mk, JJ_mk hI⟩
set_option maxRecDepth 100000 in
theorem ag_topsAt (a b : Int32) : AG tX3_topsAt tX4_topsAt (code1 "java/lang/IndexOutOfBoundsException") [.int a, .int b] := by
  intro C M hJ
  obtain ⟨k, tt, w, h, rm, pm, fd, th, ic, it, iv, ie, rc, wl, pr, fe, qu, co, pa, wm, pq, fa, ce, ts, ns, es, on, nx, rfl, rfl, hI⟩ := hJ
  obtain ⟨w2, w7, h2, h7, hf, hv, hR, hP, hz, h01, hPB⟩ := id hI
  have hk : k < 49 := by have := hf.1; have := hf.2.1; omega
  have ht := vt_lt hv
  refine ⟨a, b, k, tt, w, h, rm, pm, fd, wl, pr, fe, qu, co, pa, rfl, rfl, w7, h7, hv, hf, fun q => ⟨rfl, 1, code1_1, a, b, wl, th, rm, pm, ic, it, iv, ie, rc, k, tt, w, h, wm, pq, co, pa, fa, ce, ts, ns, es, on, nx, rfl, rfl, w2, w7, h2, h7, hR, hf, hv, fun _ => ⟨thr_mk, JJ_mk hI⟩, fun i j e1 e2 e3 e4 => absurd ⟨i, j, e1, e2, e3, e4⟩ q⟩, fun i j e1 e2 e3 e4 fd2 fe2 qu2 => ⟨rfl, a, b, wl, th, rm, pm, ic, it, iv, ie, rc, k, tt, w, h, wm, pq, co, pa, fa, ce, ts, ns, es, on, nx, rfl, rfl, w2, w7, h2, h7, hR, hf, hv, fun q => absurd ⟨i, j, e1, e2, e3, e4⟩ q, fun i2 j2 g1 g2 g3 g4 ic2 it2 iv2 ie2 rc2 fa2 ce2 ts2 ns2 es2 => ?_⟩⟩
  have e5 := nI_ij (e1.symm.trans g1) (by omega) (by omega)
  have e6 := nI_ij (e2.symm.trans g2) (by omega) (by omega)
  subst e5 e6
  exact ⟨rfl, thr_mk, JJ_mk hI⟩
set_option maxRecDepth 100000 in
theorem ag_turnWall (a b : Int32) : AG tX3_turnWall tX4_turnWall (code2 "java/lang/IndexOutOfBoundsException" "java/lang/IllegalStateException") [.int a, .int b] := by
  intro C M hJ
  obtain ⟨k, tt, w, h, rm, pm, fd, th, ic, it, iv, ie, rc, wl, pr, fe, qu, co, pa, wm, pq, fa, ce, ts, ns, es, on, nx, rfl, rfl, hI⟩ := hJ
  obtain ⟨w2, w7, h2, h7, hf, hv, hR, hP, hz, h01, hPB⟩ := id hI
  have hk : k < 49 := by have := hf.1; have := hf.2.1; omega
  have ht := vt_lt hv
  refine ⟨a, b, k, tt, w, h, rm, pm, fd, wl, pr, fe, qu, co, pa, rfl, rfl, w7, h7, hk, fun q => ⟨rfl, 1, code2_1, a, b, th, rm, pm, ic, it, iv, ie, rc, k, tt, w, h, wm, pq, co, pa, fa, ce, ts, ns, es, on, nx, rfl, rfl, w2, w7, h2, h7, hf.1, hf.2.1, fun _ => ⟨thr_mk, JJ_mk hI⟩, fun i j e1 e2 e3 e4 => absurd ⟨i, j, e1, e2, e3, e4⟩ q⟩, fun i j e1 e2 e3 e4 => ?_⟩
  have wmx : wm (w * j + i) = wl (j * 7 + i) := hR i j e3 e4
  have iv2 : ∀ x : Int32, x = 0 ∨ x = 1 → j * 7 + i ≠ k → IV k tt w h (upd wl (j * 7 + i) x) pr pa (upd wm (w * j + i) x) pq := fun x hx ne => ⟨w2, w7, h2, h7, ⟨hf.1, hf.2.1, (pk_un (fun z => ne z.symm)).trans hf.2.2⟩, hv, RW_upd w7 hR e3 e4, hP, fun c hc off => by
      rw [pk_un (fun z => off (by rw [z]; omega))]
      exact hz c hc off, fun c hc => by
      by_cases z : c = w * j + i
      · rw [z, pk_us]
        exact hx
      · rw [pk_un z]
        exact h01 c hc, hPB⟩
  refine ⟨fun e => ⟨rfl, 2, code2_2 io_is, a, b, th, rm, pm, ic, it, iv, ie, rc, k, tt, w, h, wm, pq, co, pa, fa, ce, ts, ns, es, on, nx, rfl, rfl, w2, w7, h2, h7, hf.1, hf.2.1, fun q => absurd ⟨i, j, e1, e2, e3, e4⟩ q, fun i2 j2 g1 g2 g3 g4 => ?_⟩, fun e => ⟨fun z => ⟨rfl, a, b, th, rm, pm, ic, it, iv, ie, rc, k, tt, w, h, wm, pq, co, pa, fa, ce, ts, ns, es, on, nx, rfl, rfl, w2, w7, h2, h7, hf.1, hf.2.1, fun q => absurd ⟨i, j, e1, e2, e3, e4⟩ q, fun i2 j2 g1 g2 g3 g4 => ?_⟩, fun z => ⟨rfl, a, b, th, rm, pm, ic, it, iv, ie, rc, k, tt, w, h, wm, pq, co, pa, fa, ce, ts, ns, es, on, nx, rfl, rfl, w2, w7, h2, h7, hf.1, hf.2.1, fun q => absurd ⟨i, j, e1, e2, e3, e4⟩ q, fun i2 j2 g1 g2 g3 g4 => ?_⟩⟩⟩
  all_goals
    have e5 := nI_ij (e1.symm.trans g1) (by omega) (by omega)
    have e6 := nI_ij (e2.symm.trans g2) (by omega) (by omega)
    subst e5 e6
  · exact ⟨fun _ => ⟨thr_mk, JJ_mk hI⟩, fun ne => absurd e ne⟩
  · exact ⟨fun y => absurd y e, fun _ => ⟨fun _ => ⟨rfl, thr_mk, JJ_mk (iv2 1 (Or.inr rfl) e)⟩, fun y => absurd (wmx.trans z) y⟩⟩
  · exact ⟨fun y => absurd y e, fun _ => ⟨fun y => absurd (wmx.symm.trans y) z, fun _ => ⟨rfl, thr_mk, JJ_mk (iv2 0 (Or.inl rfl) e)⟩⟩⟩
set_option maxRecDepth 100000 in
theorem ag_setColour (a b : Int32) : AG tX3_setColour tX4_setColour (code2 "java/lang/IndexOutOfBoundsException" "java/lang/IllegalArgumentException") [.int a, .int b] := by
  intro C M hJ
  obtain ⟨k, tt, w, h, rm, pm, fd, th, ic, it, iv, ie, rc, wl, pr, fe, qu, co, pa, wm, pq, fa, ce, ts, ns, es, on, nx, rfl, rfl, hI⟩ := hJ
  obtain ⟨w2, w7, h2, h7, hf, hv, hR, hP, hz, h01, hPB⟩ := id hI
  have hk : k < 49 := by have := hf.1; have := hf.2.1; omega
  have ht := vt_lt hv
  refine ⟨a, b, k, tt, w, h, rm, pm, fd, wl, pr, fe, qu, co, pa, rfl, rfl, fun q => ⟨rfl, 1, code2_1, a, b, th, rm, pm, ic, it, iv, ie, rc, k, tt, w, h, wm, pq, co, pa, fa, ce, ts, ns, es, on, nx, rfl, rfl, fun _ => ⟨thr_mk, JJ_mk hI⟩, fun f e1 e2 e3 => absurd ⟨f, e1, e2, e3⟩ q⟩, fun f e1 e2 e3 => ⟨fun p => ⟨rfl, 2, code2_2 io_ia, a, b, th, rm, pm, ic, it, iv, ie, rc, k, tt, w, h, wm, pq, co, pa, fa, ce, ts, ns, es, on, nx, rfl, rfl, fun q => absurd ⟨f, e1, e2, e3⟩ q, fun f2 g1 g2 g3 => ⟨fun _ => ⟨thr_mk, JJ_mk hI⟩, fun p2 => absurd p2 p⟩⟩, fun p => ⟨rfl, a, b, th, rm, pm, ic, it, iv, ie, rc, k, tt, w, h, wm, pq, co, pa, fa, ce, ts, ns, es, on, nx, rfl, rfl, fun q => absurd ⟨f, e1, e2, e3⟩ q, fun f2 g1 g2 g3 => ⟨fun p2 => absurd p p2, fun _ => ?_⟩⟩⟩⟩
  have e5 := nI_ij (e1.symm.trans g1) (by omega) (by omega)
  subst e5
  exact ⟨rfl, thr_mk, JJ_mk hI⟩
set_option maxRecDepth 100000 in
theorem ag_addPaint (a b : Int32) : AG tX3_addPaint tX4_addPaint (code2 "java/lang/IndexOutOfBoundsException" "java/lang/IllegalArgumentException") [.int a, .int b] := by
  intro C M hJ
  obtain ⟨k, tt, w, h, rm, pm, fd, th, ic, it, iv, ie, rc, wl, pr, fe, qu, co, pa, wm, pq, fa, ce, ts, ns, es, on, nx, rfl, rfl, hI⟩ := hJ
  obtain ⟨w2, w7, h2, h7, hf, hv, hR, hP, hz, h01, hPB⟩ := id hI
  have hk : k < 49 := by have := hf.1; have := hf.2.1; omega
  have ht := vt_lt hv
  refine ⟨a, b, k, tt, w, h, rm, pm, fd, wl, pr, fe, qu, co, pa, rfl, rfl, fun q => ⟨rfl, 1, code2_1, a, b, th, rm, pm, ic, it, iv, ie, rc, k, tt, w, h, wm, pq, co, pa, fa, ce, ts, ns, es, on, nx, rfl, rfl, fun _ => ⟨thr_mk, JJ_mk hI⟩, fun f e1 e2 e3 => absurd ⟨f, e1, e2, e3⟩ q⟩, fun f e1 e2 e3 => ⟨fun p => ⟨rfl, 2, code2_2 io_ia, a, b, th, rm, pm, ic, it, iv, ie, rc, k, tt, w, h, wm, pq, co, pa, fa, ce, ts, ns, es, on, nx, rfl, rfl, fun q => absurd ⟨f, e1, e2, e3⟩ q, fun f2 g1 g2 g3 => ⟨fun _ => ⟨thr_mk, JJ_mk hI⟩, fun p2 => absurd p2 p⟩⟩, fun p => ⟨rfl, a, b, th, rm, pm, ic, it, iv, ie, rc, k, tt, w, h, wm, pq, co, pa, fa, ce, ts, ns, es, on, nx, rfl, rfl, fun q => absurd ⟨f, e1, e2, e3⟩ q, fun f2 g1 g2 g3 => ⟨fun p2 => absurd p p2, fun _ => ?_⟩⟩⟩⟩
  have e5 := nI_ij (e1.symm.trans g1) (by omega) (by omega)
  subst e5
  exact ⟨rfl, thr_mk, JJ_mk ⟨w2, w7, h2, h7, hf, hv, hR, hP, hz, h01, PB_adP hPB p⟩⟩
set_option maxRecDepth 100000 in
theorem ag_put (a b : Int32) : AG tX3_put tX4_put (code2 "java/lang/IndexOutOfBoundsException" "java/lang/IllegalStateException") [.int a, .int b] := by
  intro C M hJ
  obtain ⟨k, tt, w, h, rm, pm, fd, th, ic, it, iv, ie, rc, wl, pr, fe, qu, co, pa, wm, pq, fa, ce, ts, ns, es, on, nx, rfl, rfl, hI⟩ := hJ
  obtain ⟨w2, w7, h2, h7, hf, hv, hR, hP, hz, h01, hPB⟩ := id hI
  have hk : k < 49 := by have := hf.1; have := hf.2.1; omega
  have ht := vt_lt hv
  refine ⟨a, b, k, tt, w, h, rm, pm, fd, wl, pr, fe, qu, co, pa, rfl, rfl, w7, h7, hk, fun q => ⟨rfl, 1, code2_1, a, b, th, rm, pm, ic, it, iv, ie, rc, k, tt, w, h, wm, pq, co, pa, fa, ce, ts, ns, es, on, nx, rfl, rfl, w2, w7, h2, h7, hf.1, hf.2.1, fun _ => ⟨thr_mk, JJ_mk hI⟩, fun i j e1 e2 e3 e4 => absurd ⟨i, j, e1, e2, e3, e4⟩ q⟩, fun i j e1 e2 e3 e4 => ?_⟩
  have wmx : wm (w * j + i) = wl (j * 7 + i) := hR i j e3 e4
  refine ⟨fun z => ⟨rfl, 2, code2_2 io_is, a, b, th, rm, pm, ic, it, iv, ie, rc, k, tt, w, h, wm, pq, co, pa, fa, ce, ts, ns, es, on, nx, rfl, rfl, w2, w7, h2, h7, hf.1, hf.2.1, fun q => absurd ⟨i, j, e1, e2, e3, e4⟩ q, fun i2 j2 g1 g2 g3 g4 => ?_⟩, fun z => ⟨rfl, a, b, th, rm, pm, ic, it, iv, ie, rc, k, tt, w, h, wm, pq, co, pa, fa, ce, ts, ns, es, on, nx, rfl, rfl, w2, w7, h2, h7, hf.1, hf.2.1, fun q => absurd ⟨i, j, e1, e2, e3, e4⟩ q, fun i2 j2 g1 g2 g3 g4 => ?_⟩⟩
  all_goals
    have e5 := nI_ij (e1.symm.trans g1) (by omega) (by omega)
    have e6 := nI_ij (e2.symm.trans g2) (by omega) (by omega)
    subst e5 e6
  · exact ⟨fun _ => ⟨thr_mk, JJ_mk hI⟩, fun y => absurd (wmx.symm.trans y) z⟩
  · refine ⟨fun y => absurd (wmx.trans z) y, fun _ => ⟨rfl, thr_mk, ?_⟩⟩
    exact JJ_mk (tt := 1) ⟨w2, w7, h2, h7, ⟨by omega, by omega, z⟩, by decide, hR, hP, hz, h01, hPB⟩
set_option maxRecDepth 100000 in
theorem ag_roll (a : Int32) : AG tX3_roll tX4_roll (code2 "java/lang/IndexOutOfBoundsException" "java/lang/IllegalStateException") [.int a] := by
  intro C M hJ
  obtain ⟨k, tt, w, h, rm, pm, fd, th, ic, it, iv, ie, rc, wl, pr, fe, qu, co, pa, wm, pq, fa, ce, ts, ns, es, on, nx, rfl, rfl, hI⟩ := hJ
  obtain ⟨w2, w7, h2, h7, hf, hv, hR, hP, hz, h01, hPB⟩ := id hI
  have hk : k < 49 := by have := hf.1; have := hf.2.1; omega
  have ht := vt_lt hv
  refine ⟨a, k, tt, w, h, rm, pm, fd, wl, pr, fe, qu, co, pa, rfl, rfl, w7, h7, hk, hv, fun q => ⟨rfl, 1, code2_1, a, wl, th, rm, pm, ic, it, iv, ie, rc, k, tt, w, h, wm, pq, co, pa, fa, ce, ts, ns, es, on, nx, rfl, rfl, w2, w7, h2, h7, hf.1, hf.2.1, hv, hR, fun _ => ⟨thr_mk, JJ_mk hI⟩, fun d e1 e2 => absurd ⟨d, e1, by omega, by omega⟩ q⟩, fun d e1 e2 => ⟨fun z => ⟨rfl, 2, code2_2 io_is, a, wl, th, rm, pm, ic, it, iv, ie, rc, k, tt, w, h, wm, pq, co, pa, fa, ce, ts, ns, es, on, nx, rfl, rfl, w2, w7, h2, h7, hf.1, hf.2.1, hv, hR, fun q => absurd ⟨d, e1, by omega, by omega⟩ q, fun d2 g1 g2 => ?_⟩, fun j z => ⟨rfl, a, wl, th, rm, pm, ic, it, iv, ie, rc, k, tt, w, h, wm, pq, co, pa, fa, ce, ts, ns, es, on, nx, rfl, rfl, w2, w7, h2, h7, hf.1, hf.2.1, hv, hR, fun q => absurd ⟨d, e1, by omega, by omega⟩ q, fun d2 g1 g2 => ?_⟩⟩⟩
  all_goals
    have e5 := nI_ij (e1.symm.trans g1) (by omega) (by omega)
    subst e5
  · exact ⟨fun _ => ⟨thr_mk, JJ_mk hI⟩, (fun j y => by rw [z] at y; cases y)⟩
  · refine ⟨(fun y => by rw [z] at y; cases y), fun j2 y ic2 it2 iv2 ie2 => ?_⟩
    rw [z] at y
    cases y
    have hj := nxt_fr z
    have hv2 := rlN_vt hv e2
    exact ⟨rfl, thr_mk, JJ_mk ⟨w2, w7, h2, h7, hj, hv2, hR, RW_pr w7 hP hj.1 hj.2.1, hz, h01, PB_paP hPB (dn_in hv2).1 (dn_in hv2).2⟩⟩
set_option maxRecDepth 100000 in
theorem ag_rollOn (a b : Int32) : AG tX3_rollOn2 tX4_rollOn (code2 "java/lang/IndexOutOfBoundsException" "java/lang/IllegalArgumentException") [.int a, .int b] := by
  intro C M hJ
  obtain ⟨k, tt, w, h, rm, pm, fd, th, ic, it, iv, ie, rc, wl, pr, fe, qu, co, pa, wm, pq, fa, ce, ts, ns, es, on, nx, rfl, rfl, hI⟩ := hJ
  obtain ⟨w2, w7, h2, h7, hf, hv, hR, hP, hz, h01, hPB⟩ := id hI
  have hk : k < 49 := by have := hf.1; have := hf.2.1; omega
  have ht := vt_lt hv
  refine ⟨a, b, k, tt, w, h, rm, pm, fd, wl, pr, fe, qu, co, pa, rfl, rfl, w7, h7, hk, hv, fun q => ⟨rfl, 1, code2_1, a, b, wl, th, rm, pm, ic, it, iv, ie, rc, k, tt, w, h, wm, pq, co, pa, fa, ce, ts, ns, es, on, nx, rfl, rfl, w2, w7, h2, h7, hf.1, hf.2.1, hv, hR, fun _ => ⟨thr_mk, JJ_mk hI⟩, fun d e1 e2 => absurd ⟨d, e1, by omega, by omega⟩ q⟩, fun d e1 e2 => ⟨fun z => ⟨rfl, 2, code2_2 io_ia, a, b, wl, th, rm, pm, ic, it, iv, ie, rc, k, tt, w, h, wm, pq, co, pa, fa, ce, ts, ns, es, on, nx, rfl, rfl, w2, w7, h2, h7, hf.1, hf.2.1, hv, hR, fun q => absurd ⟨d, e1, by omega, by omega⟩ q, fun d2 g1 g2 => ?_⟩, fun n y1 y2 y3 m k2 t2 rm2 pm2 pr2 pa2 er => ⟨rfl, a, b, wl, th, rm, pm, ic, it, iv, ie, rc, k, tt, w, h, wm, pq, co, pa, fa, ce, ts, ns, es, on, nx, rfl, rfl, w2, w7, h2, h7, hf.1, hf.2.1, hv, hR, fun q => absurd ⟨d, e1, by omega, by omega⟩ q, fun d2 g1 g2 => ?_⟩⟩⟩
  all_goals
    have e5 := nI_ij (e1.symm.trans g1) (by omega) (by omega)
    subst e5
  · exact ⟨fun _ => ⟨thr_mk, JJ_mk hI⟩, fun n2 x1 x2 x3 => absurd ⟨n2, x1, x2, x3⟩ z⟩
  · refine ⟨fun z => absurd ⟨n, y1, y2, y3⟩ z, fun n2 x1 x2 x3 m3 k3 t3 rm3 pm3 pq3 pa3 er2 ic2 it2 iv2 ie2 => ?_⟩
    have e6 := nI_ij (y1.symm.trans x1) (by omega) (by omega)
    subst e6
    obtain ⟨pq2, f1, f2⟩ := rollM_K w7 n k tt rm pm pr pq pa _ _ _ _ _ _ _ hP er
    rw [f1] at er2
    cases er2
    obtain ⟨i1, i2, i3⟩ := rollK_inv e2 n k tt rm pm pr pa _ _ _ _ _ _ _ hf hv hPB er
    exact ⟨rfl, thr_mk, JJ_mk ⟨w2, w7, h2, h7, i1, i2, hR, f2, hz, h01, i3⟩⟩
set_option maxRecDepth 100000 in
theorem ag_faceTo (a : Int32) : AG tX3_faceTo tX4_faceTo (code1 "java/lang/IndexOutOfBoundsException") [.int a] := by
  intro C M hJ
  obtain ⟨k, tt, w, h, rm, pm, fd, th, ic, it, iv, ie, rc, wl, pr, fe, qu, co, pa, wm, pq, fa, ce, ts, ns, es, on, nx, rfl, rfl, hI⟩ := hJ
  obtain ⟨w2, w7, h2, h7, hf, hv, hR, hP, hz, h01, hPB⟩ := id hI
  have hk : k < 49 := by have := hf.1; have := hf.2.1; omega
  have ht := vt_lt hv
  refine ⟨a, k, tt, w, h, rm, pm, fd, wl, pr, fe, qu, co, pa, rfl, rfl, hv, fun q => ⟨rfl, 1, code1_1, a, th, rm, pm, ic, it, iv, ie, rc, k, tt, w, h, wm, pq, co, pa, fa, ce, ts, ns, es, on, nx, rfl, rfl, hv, fun _ => ⟨thr_mk, JJ_mk hI⟩, fun d e1 e2 => absurd ⟨d, e1, by omega, by omega⟩ q⟩, fun d e1 e2 => ⟨rfl, a, th, rm, pm, ic, it, iv, ie, rc, k, tt, w, h, wm, pq, co, pa, fa, ce, ts, ns, es, on, nx, rfl, rfl, hv, fun q => absurd ⟨d, e1, by omega, by omega⟩ q, fun d2 g1 g2 => ?_⟩⟩
  have e5 := nI_ij (e1.symm.trans g1) (by omega) (by omega)
  subst e5
  exact ⟨rfl, thr_mk, JJ_mk hI⟩
set_option maxRecDepth 100000 in
theorem ag_colourOf (a : Int32) : AG tX3_colourOf tX4_colourOf (code1 "java/lang/IndexOutOfBoundsException") [.int a] := by
  intro C M hJ
  obtain ⟨k, tt, w, h, rm, pm, fd, th, ic, it, iv, ie, rc, wl, pr, fe, qu, co, pa, wm, pq, fa, ce, ts, ns, es, on, nx, rfl, rfl, hI⟩ := hJ
  obtain ⟨w2, w7, h2, h7, hf, hv, hR, hP, hz, h01, hPB⟩ := id hI
  have hk : k < 49 := by have := hf.1; have := hf.2.1; omega
  have ht := vt_lt hv
  refine ⟨a, k, tt, w, h, rm, pm, fd, wl, pr, fe, qu, co, pa, rfl, rfl, fun q => ⟨rfl, 1, code1_1, a, th, rm, pm, ic, it, iv, ie, rc, k, tt, w, h, wm, pq, co, pa, fa, ce, ts, ns, es, on, nx, rfl, rfl, fun _ => ⟨thr_mk, JJ_mk hI⟩, fun d e1 e2 e3 => absurd ⟨d, e1, by omega, by omega⟩ q⟩, fun d e1 e2 e3 => ⟨rfl, a, th, rm, pm, ic, it, iv, ie, rc, k, tt, w, h, wm, pq, co, pa, fa, ce, ts, ns, es, on, nx, rfl, rfl, fun q => absurd ⟨d, e1, by omega, by omega⟩ q, fun d2 g1 g2 g3 => ?_⟩⟩
  have e5 := nI_ij (e1.symm.trans g1) (by omega) (by omega)
  subst e5
  exact ⟨rfl, thr_mk, JJ_mk hI⟩
set_option maxRecDepth 100000 in
theorem ag_paintOf (a : Int32) : AG tX3_paintOf tX4_paintOf (code1 "java/lang/IndexOutOfBoundsException") [.int a] := by
  intro C M hJ
  obtain ⟨k, tt, w, h, rm, pm, fd, th, ic, it, iv, ie, rc, wl, pr, fe, qu, co, pa, wm, pq, fa, ce, ts, ns, es, on, nx, rfl, rfl, hI⟩ := hJ
  obtain ⟨w2, w7, h2, h7, hf, hv, hR, hP, hz, h01, hPB⟩ := id hI
  have hk : k < 49 := by have := hf.1; have := hf.2.1; omega
  have ht := vt_lt hv
  refine ⟨a, k, tt, w, h, rm, pm, fd, wl, pr, fe, qu, co, pa, rfl, rfl, fun q => ⟨rfl, 1, code1_1, a, th, rm, pm, ic, it, iv, ie, rc, k, tt, w, h, wm, pq, co, pa, fa, ce, ts, ns, es, on, nx, rfl, rfl, fun _ => ⟨thr_mk, JJ_mk hI⟩, fun d e1 e2 e3 => absurd ⟨d, e1, by omega, by omega⟩ q⟩, fun d e1 e2 e3 => ⟨rfl, a, th, rm, pm, ic, it, iv, ie, rc, k, tt, w, h, wm, pq, co, pa, fa, ce, ts, ns, es, on, nx, rfl, rfl, fun q => absurd ⟨d, e1, by omega, by omega⟩ q, fun d2 g1 g2 g3 => ?_⟩⟩
  have e5 := nI_ij (e1.symm.trans g1) (by omega) (by omega)
  subst e5
  exact ⟨rfl, thr_mk, JJ_mk hI⟩
set_option maxRecDepth 100000 in
theorem ag_canRoll (a : Int32) : AG tX3_canRoll tX4_canRoll (code1 "java/lang/IndexOutOfBoundsException") [.int a] := by
  intro C M hJ
  obtain ⟨k, tt, w, h, rm, pm, fd, th, ic, it, iv, ie, rc, wl, pr, fe, qu, co, pa, wm, pq, fa, ce, ts, ns, es, on, nx, rfl, rfl, hI⟩ := hJ
  obtain ⟨w2, w7, h2, h7, hf, hv, hR, hP, hz, h01, hPB⟩ := id hI
  have hk : k < 49 := by have := hf.1; have := hf.2.1; omega
  have ht := vt_lt hv
  refine ⟨a, k, tt, w, h, rm, pm, fd, wl, pr, fe, qu, co, pa, rfl, rfl, w7, h7, hk, fun q => ⟨rfl, 1, code1_1, a, wl, th, rm, pm, ic, it, iv, ie, rc, k, tt, w, h, wm, pq, co, pa, fa, ce, ts, ns, es, on, nx, rfl, rfl, w2, w7, h2, h7, hf.1, hf.2.1, hR, fun _ => ⟨thr_mk, JJ_mk hI⟩, fun d e1 e2 => absurd ⟨d, e1, by omega, by omega⟩ q⟩, fun d e1 e2 => ⟨rfl, a, wl, th, rm, pm, ic, it, iv, ie, rc, k, tt, w, h, wm, pq, co, pa, fa, ce, ts, ns, es, on, nx, rfl, rfl, w2, w7, h2, h7, hf.1, hf.2.1, hR, fun q => absurd ⟨d, e1, by omega, by omega⟩ q, fun d2 g1 g2 => ?_⟩⟩
  have e5 := nI_ij (e1.symm.trans g1) (by omega) (by omega)
  subst e5
  exact ⟨rfl, thr_mk, JJ_mk hI⟩
set_option maxRecDepth 100000 in
theorem ag_cellsWith (a : Int32) : AG tX3_cellsWith tX4_cellsWith (code1 "java/lang/IndexOutOfBoundsException") [.int a] := by
  intro C M hJ
  obtain ⟨k, tt, w, h, rm, pm, fd, th, ic, it, iv, ie, rc, wl, pr, fe, qu, co, pa, wm, pq, fa, ce, ts, ns, es, on, nx, rfl, rfl, hI⟩ := hJ
  obtain ⟨w2, w7, h2, h7, hf, hv, hR, hP, hz, h01, hPB⟩ := id hI
  have hk : k < 49 := by have := hf.1; have := hf.2.1; omega
  have ht := vt_lt hv
  refine ⟨a, k, tt, w, h, rm, pm, fd, wl, pr, fe, qu, co, pa, rfl, rfl, w7, h7, fun q => ⟨rfl, 1, code1_1, a, th, rm, pm, ic, it, iv, ie, rc, k, tt, w, h, wm, pq, co, pa, fa, ce, ts, ns, es, on, nx, rfl, rfl, w7, h7, fun _ => ⟨thr_mk, JJ_mk hI⟩, fun p => absurd p q⟩, fun q => ⟨rfl, a, th, rm, pm, ic, it, iv, ie, rc, k, tt, w, h, wm, pq, co, pa, fa, ce, ts, ns, es, on, nx, rfl, rfl, w7, h7, fun p => absurd q p, fun _ => ⟨?_, thr_mk, JJ_mk hI⟩⟩⟩
  rw [ct_prints (by omega) hP]
set_option maxRecDepth 100000 in
theorem ag_fewestRollsWithTop (a b g : Int32) : AG tX3_fewestRollsWithTop tX4_fewestRollsWithTop (code1 "java/lang/IndexOutOfBoundsException") [.int a, .int b, .int g] := by
  intro C M hJ
  obtain ⟨k, tt, w, h, rm, pm, fd, th, ic, it, iv, ie, rc, wl, pr, fe, qu, co, pa, wm, pq, fa, ce, ts, ns, es, on, nx, rfl, rfl, hI⟩ := hJ
  obtain ⟨w2, w7, h2, h7, hf, hv, hR, hP, hz, h01, hPB⟩ := id hI
  have hk : k < 49 := by have := hf.1; have := hf.2.1; omega
  have ht := vt_lt hv
  refine ⟨a, b, g, k, tt, w, h, rm, pm, fd, wl, pr, fe, qu, co, pa, rfl, rfl, w7, h7, hv, hf, (fun q => ⟨rfl, 1, code1_1, a, b, g, wl, th, rm, pm, ic, it, iv, ie, rc, k, tt, w, h, wm, pq, co, pa, fa, ce, ts, ns, es, on, nx, rfl, rfl, w2, w7, h2, h7, hR, hf, hv, fun _ => ⟨thr_mk, JJ_mk hI⟩, fun i j f e1 e2 e7 e3 e4 e8 e9 => absurd ⟨⟨i, j, e1, e2, e3, e4⟩, ⟨f, e7, e8, e9⟩⟩ q⟩), fun i j f e1 e2 e7 e3 e4 e8 e9 fd2 fe2 qu2 => ⟨rfl, a, b, g, wl, th, rm, pm, ic, it, iv, ie, rc, k, tt, w, h, wm, pq, co, pa, fa, ce, ts, ns, es, on, nx, rfl, rfl, w2, w7, h2, h7, hR, hf, hv, fun q => absurd ⟨⟨i, j, e1, e2, e3, e4⟩, ⟨f, e7, e8, e9⟩⟩ q, fun i2 j2 f2 g1 g2 g7 g3 g4 g8 g9 => ?_⟩⟩
  have e5 := nI_ij (e1.symm.trans g1) (by omega) (by omega)
  have e6 := nI_ij (e2.symm.trans g2) (by omega) (by omega)
  have e10 := nI_ij (e7.symm.trans g7) (by omega) (by omega)
  subst e5 e6 e10
  exact fun ic2 it2 iv2 ie2 rc2 fa2 ce2 ts2 ns2 es2 => ⟨rfl, thr_mk, JJ_mk hI⟩
set_option maxRecDepth 100000 in
theorem ag_firstRoll (a b g : Int32) : AG tX3_firstRoll tX4_firstRoll (code1 "java/lang/IndexOutOfBoundsException") [.int a, .int b, .int g] := by
  intro C M hJ
  obtain ⟨k, tt, w, h, rm, pm, fd, th, ic, it, iv, ie, rc, wl, pr, fe, qu, co, pa, wm, pq, fa, ce, ts, ns, es, on, nx, rfl, rfl, hI⟩ := hJ
  obtain ⟨w2, w7, h2, h7, hf, hv, hR, hP, hz, h01, hPB⟩ := id hI
  have hk : k < 49 := by have := hf.1; have := hf.2.1; omega
  have ht := vt_lt hv
  refine ⟨a, b, g, k, tt, w, h, rm, pm, fd, wl, pr, fe, qu, co, pa, rfl, rfl, w7, h7, hv, hf, (fun q => ⟨rfl, 1, code1_1, a, b, g, wl, th, rm, pm, ic, it, iv, ie, rc, k, tt, w, h, wm, pq, co, pa, fa, ce, ts, ns, es, on, nx, rfl, rfl, w2, w7, h2, h7, hR, hf, hv, fun _ => ⟨thr_mk, JJ_mk hI⟩, fun i j f e1 e2 e7 e3 e4 e8 e9 => absurd ⟨⟨i, j, e1, e2, e3, e4⟩, ⟨f, e7, e8, e9⟩⟩ q⟩), fun i j f e1 e2 e7 e3 e4 e8 e9 fd2 fe2 qu2 => ⟨rfl, a, b, g, wl, th, rm, pm, ic, it, iv, ie, rc, k, tt, w, h, wm, pq, co, pa, fa, ce, ts, ns, es, on, nx, rfl, rfl, w2, w7, h2, h7, hR, hf, hv, fun q => absurd ⟨⟨i, j, e1, e2, e3, e4⟩, ⟨f, e7, e8, e9⟩⟩ q, fun i2 j2 f2 g1 g2 g7 g3 g4 g8 g9 => ?_⟩⟩
  have e5 := nI_ij (e1.symm.trans g1) (by omega) (by omega)
  have e6 := nI_ij (e2.symm.trans g2) (by omega) (by omega)
  have e10 := nI_ij (e7.symm.trans g7) (by omega) (by omega)
  subst e5 e6 e10
  refine ⟨DB w h wl (j * 7 + i) f, fun j2 u h3 h4 => DB_all w7 h7 e8 (by omega) (ok_one h4 h3), fun ic2 it2 iv2 ie2 rc2 fa2 ce2 ts2 ns2 es2 => ⟨rfl, thr_mk, JJ_mk hI⟩⟩
set_option maxRecDepth 100000 in
theorem ag_cellsBehind (a : Int32) : AG tX3_cellsBehind tX4_cellsBehind (code1 "java/lang/IllegalArgumentException") [.int a] := by
  intro C M hJ
  obtain ⟨k, tt, w, h, rm, pm, fd, th, ic, it, iv, ie, rc, wl, pr, fe, qu, co, pa, wm, pq, fa, ce, ts, ns, es, on, nx, rfl, rfl, hI⟩ := hJ
  obtain ⟨w2, w7, h2, h7, hf, hv, hR, hP, hz, h01, hPB⟩ := id hI
  have hk : k < 49 := by have := hf.1; have := hf.2.1; omega
  have ht := vt_lt hv
  refine ⟨a, k, tt, w, h, rm, pm, fd, wl, pr, fe, qu, co, pa, rfl, rfl, w7, h7, hv, hf, fun q => ⟨rfl, 1, code1_1, a, wl, th, rm, pm, ic, it, iv, ie, rc, k, tt, w, h, wm, pq, co, pa, fa, ce, ts, ns, es, on, nx, rfl, rfl, w2, w7, h2, h7, hR, hf.1, hf.2.1, fun _ => ⟨thr_mk, JJ_mk hI⟩, fun n e1 e2 => absurd ⟨n, e1, by omega, by omega⟩ q⟩, fun n e1 e2 => ⟨fun s => ⟨rfl, a, wl, th, rm, pm, ic, it, iv, ie, rc, k, tt, w, h, wm, pq, co, pa, fa, ce, ts, ns, es, on, nx, rfl, rfl, w2, w7, h2, h7, hR, hf.1, hf.2.1, fun q => absurd ⟨n, e1, by omega, by omega⟩ q, fun n2 g1 g2 on2 nx2 hon => ?_⟩, fun s fd2 fe2 qu2 => ⟨rfl, a, wl, th, rm, pm, ic, it, iv, ie, rc, k, tt, w, h, wm, pq, co, pa, fa, ce, ts, ns, es, on, nx, rfl, rfl, w2, w7, h2, h7, hR, hf.1, hf.2.1, fun q => absurd ⟨n, e1, by omega, by omega⟩ q, fun n2 g1 g2 on2 nx2 hon => ?_⟩⟩⟩
  all_goals
    have e5 := nI_ij (e1.symm.trans g1) (by omega) (by omega)
    subst e5
  · rw [cb_shut (by omega) w7 hf s.1 s.2 hon]
    exact ⟨rfl, thr_mk, JJ_mk hI⟩
  · rw [cb_eq (by omega) w7 h7 hv hf s hon]
    exact ⟨rfl, thr_mk, JJ_mk hI⟩
set_option maxRecDepth 100000 in
theorem ag_bestPut (a : Int32) : AG tX3_bestPut tX4_bestPut (code1 "java/lang/IndexOutOfBoundsException") [.int a] := by
  intro C M hJ
  obtain ⟨k, tt, w, h, rm, pm, fd, th, ic, it, iv, ie, rc, wl, pr, fe, qu, co, pa, wm, pq, fa, ce, ts, ns, es, on, nx, rfl, rfl, hI⟩ := hJ
  obtain ⟨w2, w7, h2, h7, hf, hv, hR, hP, hz, h01, hPB⟩ := id hI
  have hk : k < 49 := by have := hf.1; have := hf.2.1; omega
  have ht := vt_lt hv
  refine ⟨a, k, tt, w, h, rm, pm, fd, wl, pr, fe, qu, co, pa, rfl, rfl, w7, h7, hk, fun q => ⟨rfl, 1, code1_1, a, wl, th, rm, pm, ic, it, iv, ie, rc, k, tt, w, h, wm, pq, co, pa, fa, ce, ts, ns, es, on, nx, rfl, rfl, w2, w7, h2, h7, hR, hf.1, hf.2.1, fun _ => ⟨thr_mk, JJ_mk hI⟩, fun f e1 e2 e3 => absurd ⟨f, e1, e2, e3⟩ q⟩, fun f e1 e2 e3 fd2 fe2 qu2 => ⟨rfl, a, wl, th, rm, pm, ic, it, iv, ie, rc, k, tt, w, h, wm, pq, co, pa, fa, ce, ts, ns, es, on, nx, rfl, rfl, w2, w7, h2, h7, hR, hf.1, hf.2.1, fun q => absurd ⟨f, e1, e2, e3⟩ q, fun f2 g1 g2 g3 => ?_⟩⟩
  have e5 := nI_ij (e1.symm.trans g1) (by omega) (by omega)
  subst e5
  refine ⟨fun c => DB w h wl k f (k7 w c * 36 + 1), fun c hc hne => DB_no e2 (by omega) (fun hok => ?_), fun c hc h0 => DB_all w7 h7 e2 (by omega) (ok_one (by decide) ?_), fun c y hy => ?_, fun ic2 it2 iv2 ie2 rc2 fa2 ce2 ts2 ns2 es2 => ⟨rfl, thr_mk, JJ_mk hI⟩⟩
  · have h3 := hok.2
    rw [show (k7 w c * 36 + 1) / 36 = k7 w c by omega] at h3
    exact hne ((RW_k7 (by omega) hR hc).trans h3.2.2)
  · exact ⟨(cm_k7 (c := c) (by omega) w7).2.1, k7_h (by omega) w7 hc, (RW_k7 (by omega) hR hc).symm.trans h0⟩
  · exact (bS_back w7 h7 e2 (by omega)).2 _ y hy
set_option maxRecDepth 100000 in
theorem ag_column : AGn tX3_column tX4_column := by
  intro C M hJ
  obtain ⟨k, tt, w, h, rm, pm, fd, th, ic, it, iv, ie, rc, wl, pr, fe, qu, co, pa, wm, pq, fa, ce, ts, ns, es, on, nx, rfl, rfl, hI⟩ := hJ
  obtain ⟨w2, w7, h2, h7, hf, hv, hR, hP, hz, h01, hPB⟩ := id hI
  have hk : k < 49 := by have := hf.1; have := hf.2.1; omega
  have ht := vt_lt hv
  refine ⟨k, tt, w, h, rm, pm, fd, wl, pr, fe, qu, co, pa, rfl, rfl, hk, ⟨rfl, th, rm, pm, ic, it, iv, ie, rc, k, tt, w, h, wm, pq, co, pa, fa, ce, ts, ns, es, on, nx, rfl, rfl, w2, w7, h7, hf.1, hf.2.1, ⟨rfl, JJ_mk hI⟩⟩⟩
set_option maxRecDepth 100000 in
theorem ag_row : AGn tX3_row tX4_row := by
  intro C M hJ
  obtain ⟨k, tt, w, h, rm, pm, fd, th, ic, it, iv, ie, rc, wl, pr, fe, qu, co, pa, wm, pq, fa, ce, ts, ns, es, on, nx, rfl, rfl, hI⟩ := hJ
  obtain ⟨w2, w7, h2, h7, hf, hv, hR, hP, hz, h01, hPB⟩ := id hI
  have hk : k < 49 := by have := hf.1; have := hf.2.1; omega
  have ht := vt_lt hv
  refine ⟨k, tt, w, h, rm, pm, fd, wl, pr, fe, qu, co, pa, rfl, rfl, hk, ⟨rfl, th, rm, pm, ic, it, iv, ie, rc, k, tt, w, h, wm, pq, co, pa, fa, ce, ts, ns, es, on, nx, rfl, rfl, w2, w7, h7, hf.1, hf.2.1, ⟨rfl, JJ_mk hI⟩⟩⟩
set_option maxRecDepth 100000 in
theorem ag_top : AGn tX3_top tX4_top := by
  intro C M hJ
  obtain ⟨k, tt, w, h, rm, pm, fd, th, ic, it, iv, ie, rc, wl, pr, fe, qu, co, pa, wm, pq, fa, ce, ts, ns, es, on, nx, rfl, rfl, hI⟩ := hJ
  obtain ⟨w2, w7, h2, h7, hf, hv, hR, hP, hz, h01, hPB⟩ := id hI
  have hk : k < 49 := by have := hf.1; have := hf.2.1; omega
  have ht := vt_lt hv
  refine ⟨k, tt, w, h, rm, pm, fd, wl, pr, fe, qu, co, pa, rfl, rfl, ht, ⟨rfl, th, rm, pm, ic, it, iv, ie, rc, k, tt, w, h, wm, pq, co, pa, fa, ce, ts, ns, es, on, nx, rfl, rfl, ⟨rfl, JJ_mk hI⟩⟩⟩
set_option maxRecDepth 100000 in
theorem ag_bottom : AGn tX3_bottom tX4_bottom := by
  intro C M hJ
  obtain ⟨k, tt, w, h, rm, pm, fd, th, ic, it, iv, ie, rc, wl, pr, fe, qu, co, pa, wm, pq, fa, ce, ts, ns, es, on, nx, rfl, rfl, hI⟩ := hJ
  obtain ⟨w2, w7, h2, h7, hf, hv, hR, hP, hz, h01, hPB⟩ := id hI
  have hk : k < 49 := by have := hf.1; have := hf.2.1; omega
  have ht := vt_lt hv
  refine ⟨k, tt, w, h, rm, pm, fd, wl, pr, fe, qu, co, pa, rfl, rfl, ht, ⟨rfl, th, rm, pm, ic, it, iv, ie, rc, k, tt, w, h, wm, pq, co, pa, fa, ce, ts, ns, es, on, nx, rfl, rfl, ht, ⟨rfl, JJ_mk hI⟩⟩⟩
set_option maxRecDepth 100000 in
theorem ag_isAsAtFirst : AGn tX3_isAsAtFirst tX4_isAsAtFirst := by
  intro C M hJ
  obtain ⟨k, tt, w, h, rm, pm, fd, th, ic, it, iv, ie, rc, wl, pr, fe, qu, co, pa, wm, pq, fa, ce, ts, ns, es, on, nx, rfl, rfl, hI⟩ := hJ
  obtain ⟨w2, w7, h2, h7, hf, hv, hR, hP, hz, h01, hPB⟩ := id hI
  have hk : k < 49 := by have := hf.1; have := hf.2.1; omega
  have ht := vt_lt hv
  refine ⟨k, tt, w, h, rm, pm, fd, wl, pr, fe, qu, co, pa, rfl, rfl, ht, ⟨rfl, th, rm, pm, ic, it, iv, ie, rc, k, tt, w, h, wm, pq, co, pa, fa, ce, ts, ns, es, on, nx, rfl, rfl, ht, ⟨rfl, JJ_mk hI⟩⟩⟩
set_option maxRecDepth 100000 in
theorem ag_width : AGn tX3_width tX4_width := by
  intro C M hJ
  obtain ⟨k, tt, w, h, rm, pm, fd, th, ic, it, iv, ie, rc, wl, pr, fe, qu, co, pa, wm, pq, fa, ce, ts, ns, es, on, nx, rfl, rfl, hI⟩ := hJ
  obtain ⟨w2, w7, h2, h7, hf, hv, hR, hP, hz, h01, hPB⟩ := id hI
  have hk : k < 49 := by have := hf.1; have := hf.2.1; omega
  have ht := vt_lt hv
  refine ⟨k, tt, w, h, rm, pm, fd, wl, pr, fe, qu, co, pa, rfl, rfl, ⟨rfl, th, rm, pm, ic, it, iv, ie, rc, k, tt, w, h, wm, pq, co, pa, fa, ce, ts, ns, es, on, nx, rfl, rfl, ⟨rfl, JJ_mk hI⟩⟩⟩
set_option maxRecDepth 100000 in
theorem ag_height : AGn tX3_height tX4_height := by
  intro C M hJ
  obtain ⟨k, tt, w, h, rm, pm, fd, th, ic, it, iv, ie, rc, wl, pr, fe, qu, co, pa, wm, pq, fa, ce, ts, ns, es, on, nx, rfl, rfl, hI⟩ := hJ
  obtain ⟨w2, w7, h2, h7, hf, hv, hR, hP, hz, h01, hPB⟩ := id hI
  have hk : k < 49 := by have := hf.1; have := hf.2.1; omega
  have ht := vt_lt hv
  refine ⟨k, tt, w, h, rm, pm, fd, wl, pr, fe, qu, co, pa, rfl, rfl, ⟨rfl, th, rm, pm, ic, it, iv, ie, rc, k, tt, w, h, wm, pq, co, pa, fa, ce, ts, ns, es, on, nx, rfl, rfl, ⟨rfl, JJ_mk hI⟩⟩⟩
set_option maxRecDepth 100000 in
theorem ag_walls : AGn tX3_walls tX4_walls := by
  intro C M hJ
  obtain ⟨k, tt, w, h, rm, pm, fd, th, ic, it, iv, ie, rc, wl, pr, fe, qu, co, pa, wm, pq, fa, ce, ts, ns, es, on, nx, rfl, rfl, hI⟩ := hJ
  obtain ⟨w2, w7, h2, h7, hf, hv, hR, hP, hz, h01, hPB⟩ := id hI
  have hk : k < 49 := by have := hf.1; have := hf.2.1; omega
  have ht := vt_lt hv
  refine ⟨k, tt, w, h, rm, pm, fd, wl, pr, fe, qu, co, pa, rfl, rfl, ⟨rfl, th, rm, pm, ic, it, iv, ie, rc, k, tt, w, h, wm, pq, co, pa, fa, ce, ts, ns, es, on, nx, rfl, rfl, w7, h7, ⟨by rw [ct_walls (by omega) w7 h7 hR hz], JJ_mk hI⟩⟩⟩
set_option maxRecDepth 100000 in
theorem ag_rolls : AGn tX3_rolls tX4_rolls := by
  intro C M hJ
  obtain ⟨k, tt, w, h, rm, pm, fd, th, ic, it, iv, ie, rc, wl, pr, fe, qu, co, pa, wm, pq, fa, ce, ts, ns, es, on, nx, rfl, rfl, hI⟩ := hJ
  obtain ⟨w2, w7, h2, h7, hf, hv, hR, hP, hz, h01, hPB⟩ := id hI
  have hk : k < 49 := by have := hf.1; have := hf.2.1; omega
  have ht := vt_lt hv
  refine ⟨k, tt, w, h, rm, pm, fd, wl, pr, fe, qu, co, pa, rfl, rfl, ⟨rfl, th, rm, pm, ic, it, iv, ie, rc, k, tt, w, h, wm, pq, co, pa, fa, ce, ts, ns, es, on, nx, rfl, rfl, ⟨rfl, JJ_mk hI⟩⟩⟩
set_option maxRecDepth 100000 in
theorem ag_prints : AGn tX3_prints tX4_prints := by
  intro C M hJ
  obtain ⟨k, tt, w, h, rm, pm, fd, th, ic, it, iv, ie, rc, wl, pr, fe, qu, co, pa, wm, pq, fa, ce, ts, ns, es, on, nx, rfl, rfl, hI⟩ := hJ
  obtain ⟨w2, w7, h2, h7, hf, hv, hR, hP, hz, h01, hPB⟩ := id hI
  have hk : k < 49 := by have := hf.1; have := hf.2.1; omega
  have ht := vt_lt hv
  refine ⟨k, tt, w, h, rm, pm, fd, wl, pr, fe, qu, co, pa, rfl, rfl, ⟨rfl, th, rm, pm, ic, it, iv, ie, rc, k, tt, w, h, wm, pq, co, pa, fa, ce, ts, ns, es, on, nx, rfl, rfl, ⟨rfl, JJ_mk hI⟩⟩⟩
set_option maxRecDepth 100000 in
theorem ag_cellsWithinReach : AGn tX3_cellsWithinReach tX4_cellsWithinReach := by
  intro C M hJ
  obtain ⟨k, tt, w, h, rm, pm, fd, th, ic, it, iv, ie, rc, wl, pr, fe, qu, co, pa, wm, pq, fa, ce, ts, ns, es, on, nx, rfl, rfl, hI⟩ := hJ
  obtain ⟨w2, w7, h2, h7, hf, hv, hR, hP, hz, h01, hPB⟩ := id hI
  have hk : k < 49 := by have := hf.1; have := hf.2.1; omega
  have ht := vt_lt hv
  refine ⟨k, tt, w, h, rm, pm, fd, wl, pr, fe, qu, co, pa, rfl, rfl, w7, h7, hv, hf, fun fd2 fe2 qu2 => ⟨rfl, wl, th, rm, pm, ic, it, iv, ie, rc, k, tt, w, h, wm, pq, co, pa, fa, ce, ts, ns, es, on, nx, rfl, rfl, w2, w7, h2, h7, hR, hf, hv, fun ic2 it2 iv2 ie2 rc2 fa2 ce2 ts2 ns2 es2 => ⟨by rw [reach_eq (by omega) w7 h7 hv hf], JJ_mk hI⟩⟩⟩
set_option maxRecDepth 100000 in
theorem ag_waysToLie : AGn tX3_waysToLie tX4_waysToLie := by
  intro C M hJ
  obtain ⟨k, tt, w, h, rm, pm, fd, th, ic, it, iv, ie, rc, wl, pr, fe, qu, co, pa, wm, pq, fa, ce, ts, ns, es, on, nx, rfl, rfl, hI⟩ := hJ
  obtain ⟨w2, w7, h2, h7, hf, hv, hR, hP, hz, h01, hPB⟩ := id hI
  have hk : k < 49 := by have := hf.1; have := hf.2.1; omega
  have ht := vt_lt hv
  refine ⟨k, tt, w, h, rm, pm, fd, wl, pr, fe, qu, co, pa, rfl, rfl, w7, h7, hv, hf, fun fd2 fe2 qu2 => ⟨rfl, wl, th, rm, pm, ic, it, iv, ie, rc, k, tt, w, h, wm, pq, co, pa, fa, ce, ts, ns, es, on, nx, rfl, rfl, w2, w7, h2, h7, hR, hf, hv, fun ic2 it2 iv2 ie2 rc2 fa2 ce2 ts2 ns2 es2 => ⟨rfl, JJ_mk hI⟩⟩⟩
set_option maxRecDepth 100000 in
theorem ag_meanPaint : AGd tX3_meanPaint tX4_meanPaint := by
  intro C M hJ
  obtain ⟨k, tt, w, h, rm, pm, fd, th, ic, it, iv, ie, rc, wl, pr, fe, qu, co, pa, wm, pq, fa, ce, ts, ns, es, on, nx, rfl, rfl, hI⟩ := hJ
  obtain ⟨w2, w7, h2, h7, hf, hv, hR, hP, hz, h01, hPB⟩ := id hI
  have hk : k < 49 := by have := hf.1; have := hf.2.1; omega
  have ht := vt_lt hv
  refine ⟨k, tt, w, h, rm, pm, fd, wl, pr, fe, qu, co, pa, rfl, rfl, hPB, ⟨rfl, th, rm, pm, ic, it, iv, ie, rc, k, tt, w, h, wm, pq, co, pa, fa, ce, ts, ns, es, on, nx, rfl, rfl, hPB, ⟨rfl, mean_n64 hPB, JJ_mk hI⟩⟩⟩
set_option maxRecDepth 100000 in
theorem ag_digest : AGl tX3_digest tX4_digest := by
  intro C M hJ
  obtain ⟨k, tt, w, h, rm, pm, fd, th, ic, it, iv, ie, rc, wl, pr, fe, qu, co, pa, wm, pq, fa, ce, ts, ns, es, on, nx, rfl, rfl, hI⟩ := hJ
  obtain ⟨w2, w7, h2, h7, hf, hv, hR, hP, hz, h01, hPB⟩ := id hI
  have hk : k < 49 := by have := hf.1; have := hf.2.1; omega
  have ht := vt_lt hv
  refine ⟨k, tt, w, h, rm, pm, fd, wl, pr, fe, qu, co, pa, rfl, rfl, w7, h7, hv, hf, fun fd2 fe2 qu2 => ⟨rfl, wl, th, rm, pm, ic, it, iv, ie, rc, k, tt, w, h, wm, pq, co, pa, fa, ce, ts, ns, es, on, nx, rfl, rfl, w2, w7, h2, h7, hR, hf, hv, fun ic2 it2 iv2 ie2 rc2 fa2 ce2 ts2 ns2 es2 => ⟨by rw [dig_eq (by omega) w7 h7 hR hP hz], JJ_mk hI⟩⟩⟩
