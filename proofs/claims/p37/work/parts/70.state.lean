/-! ===== class and Sim beside each other ===== -/
abbrev Zs (w h rN pN k : Nat) (fw fp : Nat → Nat → Int32) (cs as df : Nat → Int32) : List aE := (SW w h (nI rN) (nI pN) (nI (k % 7)) (nI (k / 7)) fw fp cs as df).map (shE 9)
def w01 (wl : Nat → Int32) : Prop := ∀ c, c < 49 → wl c = 0 ∨ wl c = 1
def offB (w h : Nat) (wl : Nat → Int32) : Prop := ∀ c, c < 49 → ¬ (c % 7 < w ∧ c / 7 < h) → wl c = 0
def prB (w h : Nat) (pr : Nat → Int32) : Prop := ∀ i j, i < w → j < h → inR (pr (j * 7 + i)) 0 9
def cpB (co pa cs as : Nat → Int32) : Prop := ∀ f, 1 ≤ f → f ≤ 6 → cs f = co f ∧ as f = pa f ∧ inR (co f) 1 9 ∧ inR (pa f) 0 20
def IVd (B k t w h rN pN : Nat) (wl pr co pa : Nat → Int32) (fw fp : Nat → Nat → Int32) (cs as df : Nat → Int32) : Prop :=
  2 ≤ w ∧ w ≤ 7 ∧ 2 ≤ h ∧ h ≤ 7 ∧ vt t = true ∧ frN w h wl k ∧ DF t df ∧ RWL w h wl fw ∧ RWL w h pr fp ∧ w01 wl ∧ offB w h wl ∧ prB w h pr ∧ cpB co pa cs as ∧ pN ≤ rN ∧ rN ≤ B
theorem cpB_PB {co pa cs as : Nat → Int32} (h : cpB co pa cs as) : PB pa := fun f h1 h2 => (h f h1 h2).2.2.2
theorem IVd_le {B B2 k t w h rN pN : Nat} {wl pr co pa : Nat → Int32} {fw fp : Nat → Nat → Int32} {cs as df : Nat → Int32} (hB : B ≤ B2) (h9 : IVd B k t w h rN pN wl pr co pa fw fp cs as df) : IVd B2 k t w h rN pN wl pr co pa fw fp cs as df := by
  obtain ⟨a1, a2, a3, a4, a5, a6, a7, a8, a9, a10, a11, a12, a13, a14, a15⟩ := h9
  exact ⟨a1, a2, a3, a4, a5, a6, a7, a8, a9, a10, a11, a12, a13, a14, Nat.le_trans a15 hB⟩
/-- the face that comes to lie at the bottom -/
abbrev dnF (t d : Nat) : Nat := 7 - (rlN t d / 6 + 1)
theorem dnF_in {t d : Nat} (hv : vt t = true) (hd : d < 4) : 1 ≤ dnF t d ∧ dnF t d ≤ 6 := by
  have := rlN_lt hv hd
  unfold dnF
  omega
theorem pk_us2 {f : Nat → Int32} {i : Nat} {x : Int32} : upd f i x i = x := pk_us
theorem nI_pos0 {n : Nat} (hn : n < 10000) : 0 < nI n ↔ 0 < n := by
  rw [show (0 : Int32) = nI 0 from rfl]
  exact ltN (by decide) hn
def pnN (pa : Nat → Int32) (dn pN : Nat) : Nat := if 0 < pa dn then pN + 1 else pN
theorem pmP_N {pa : Nat → Int32} {dn pN : Nat} : pmP pa dn (nI pN) = nI (pnN pa dn pN) := by
  unfold pmP pnN
  split
  · exact nI_p1 pN
  · rfl
theorem IVd_roll {B k t w h rN pN d m : Nat} {wl pr co pa : Nat → Int32} {fw fp : Nat → Nat → Int32} {cs as df df2 : Nat → Int32} (h9 : IVd B k t w h rN pN wl pr co pa fw fp cs as df) (hd : d < 4) (hm : nxt w h wl k d = some m) (hdf2 : DF (rlN t d) df2) :
    pmP as (dnF t d) (nI pN) = nI (pnN pa (dnF t d) pN) ∧ IVd (B + 1) m (rlN t d) w h (rN + 1) (pnN pa (dnF t d) pN) wl (prP pa (dnF t d) m co pr) co (paP pa (dnF t d)) fw (fpP as (dnF t d) m cs fp) cs (paP as (dnF t d)) df2 := by
  obtain ⟨a1, a2, a3, a4, a5, a6, a7, a8, a9, a10, a11, a12, a13, a14, a15⟩ := h9
  have hdn := dnF_in a5 hd
  generalize dnF t d = dn at hdn ⊢
  obtain ⟨c1, c2, c3, c4⟩ := a13 dn hdn.1 hdn.2
  obtain ⟨m1, m2, m3⟩ := nxt_fr hm
  refine ⟨by rw [← pmP_N]; unfold pmP; rw [c2], a1, a2, a3, a4, rlN_vt a5 hd, ⟨m1, m2, m3⟩, hdf2, a8, ?_, a10, a11, ?_, ?_, ?_, by omega⟩
  · intro c r hc hr
    unfold fpP prP
    rw [c2]
    by_cases z : 0 < pa dn
    · rw [if_pos z, if_pos z]
      unfold updR
      by_cases e : c = m % 7
      · rw [if_pos e]
        by_cases e2 : r = m / 7
        · rw [show r * 7 + c = m by omega, e2, pk_us, pk_us]
          exact c1
        · rw [pk_un e2, pk_un (show ¬ r * 7 + c = m by omega), ← e]
          exact a9 c r hc hr
      · rw [if_neg e, pk_un (show ¬ r * 7 + c = m by omega)]
        exact a9 c r hc hr
    · rw [if_neg z, if_neg z]
      exact a9 c r hc hr
  · intro i j hi hj
    unfold prP
    by_cases z : 0 < pa dn
    · rw [if_pos z]
      by_cases e : j * 7 + i = m
      · rw [e, pk_us]
        obtain ⟨n, e1, n1, n2⟩ := c3
        exact ⟨n, e1, Nat.zero_le _, n2⟩
      · rw [pk_un e]
        exact a12 i j hi hj
    · rw [if_neg z]
      exact a12 i j hi hj
  · intro f f1 f6
    obtain ⟨b1, b2, b3, b4⟩ := a13 f f1 f6
    refine ⟨b1, ?_, b3, ?_⟩
    · unfold paP
      rw [c2]
      by_cases z : 0 < pa dn
      · rw [if_pos z, if_pos z]
        by_cases e : f = dn
        · rw [e, pk_us, pk_us]
        · rw [pk_un e, pk_un e]
          exact b2
      · rw [if_neg z, if_neg z]
        exact b2
    · unfold paP
      by_cases z : 0 < pa dn
      · rw [if_pos z]
        by_cases e : f = dn
        · rw [e, pk_us]
          obtain ⟨n, e1, n1, n2⟩ := c4
          rw [e1] at z ⊢
          have n0 : 0 < n := (nI_pos0 (by omega)).mp z
          refine ⟨n - 1, ?_, Nat.zero_le _, by omega⟩
          rw [Int32.sub_eq_add_neg]
          exact nI_s1 n0
        · rw [pk_un e]
          exact b4
      · rw [if_neg z]
        exact b4
  · unfold pnN
    split <;> omega
theorem CW_len {c t rm pm w h fd : Int32} {wl pr fe qu co pa : Nat → Int32} : (CW c t rm pm w h fd wl pr fe qu co pa).length = 9 := rfl
theorem CW_ok {N : Nat} (hN : 9 ≤ N) {c t rm pm w h fd : Int32} {wl pr fe qu co pa : Nat → Int32} : (CW c t rm pm w h fd wl pr fe qu co pa).all (okE N) = true := okX_mono hN rfl
theorem Zs_len {w h rN pN k : Nat} {fw fp : Nat → Nat → Int32} {cs as df : Nat → Int32} : (Zs w h rN pN k fw fp cs as df).length = 6 + w + w := by
  unfold Zs
  rw [List.length_map, SW_len]
theorem okV_sh {N off : Nat} {v : Value} (h : okV N v = true) : okV (N + off) (shV off v) = true := by
  cases v with
  | ref a => exact Nat.blt_eq.mpr (Nat.add_lt_add_right (Nat.blt_eq.mp h) off)
  | _ => rfl
theorem okE_sh {N off : Nat} {e : aE} (h : okE N e = true) : okE (N + off) (shE off e) = true := by
  rcases e with q | o | q
  · rfl
  · refine List.all_eq_true.mpr fun v hv => ?_
    obtain ⟨u, hu, rfl⟩ := List.mem_map.mp hv
    exact okV_sh (List.all_eq_true.mp (h : o.2.all (okV N) = true) u hu)
  · exact List.all_eq_true.mpr fun j hj => Nat.blt_eq.mpr (Nat.add_lt_add_right (Nat.blt_eq.mp (List.all_eq_true.mp (h : (List.range q.2.1).all (fun j => Nat.blt (q.2.2 j) N) = true) j hj)) off)
theorem Zs_ok {N w h rN pN k : Nat} {fw fp : Nat → Nat → Int32} {cs as df : Nat → Int32} (hN : 15 + w + w ≤ N) : (Zs w h rN pN k fw fp cs as df).all (okE N) = true := List.all_eq_true.mpr fun e he => by
  obtain ⟨u, hu, rfl⟩ := List.mem_map.mp he
  exact okE_mono (N := 6 + w + w + 9) (by omega) (okE_sh (List.all_eq_true.mp (SW_ok (Nat.le_refl _)) u hu))
/-- what Ag asks of all later places, by a number that is enough -/
theorem Ag.wk {N M : Nat} {a b : Nat → Nat} (h : Ag N a b) (hM : M ≤ N) : Ag M a b := fun i hi => h i (hi.elim (fun z => Or.inl (Nat.lt_of_lt_of_le z hM)) Or.inr)
