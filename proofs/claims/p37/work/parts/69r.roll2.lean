/-! ===== rollOn once more, its number from 1 ===== -/
abbrev tX3_rollOn2 : xTi := fun av X post ex => ∃ (a b : Int32) (k tt w h : Nat) (rm pm fd : Int32) (wl pr fe qu co pa : Nat → Int32), av = [.ref 0, .int a, .int b] ∧ X = CW (nI k) (nI tt) rm pm (nI w) (nI h) fd wl pr fe qu co pa ∧ w ≤ 7 ∧ h ≤ 7 ∧ k < 49 ∧ vt tt = true ∧
  (¬ inR a 0 3 → ex "java/lang/IndexOutOfBoundsException" X) ∧ ∀ d, a = nI d → d < 4 → (¬ inR b 1 50 → ex "java/lang/IllegalArgumentException" X) ∧
    (∀ n, b = nI n → 1 ≤ n → n ≤ 50 → ∀ (m : Nat) (k2 t2 : Nat) (rm2 pm2 : Int32) (pr2 pa2 : Nat → Int32), rollK w h wl co d n (k, tt, rm, pm, pr, pa) = (m, k2, t2, rm2, pm2, pr2, pa2) → post (nI m) (CW (nI k2) (nI t2) rm2 pm2 (nI w) (nI h) fd wl pr2 fe qu co pa2))
set_option maxHeartbeats 1000000 in
set_option maxRecDepth 100000 in
theorem mX3_rollOn2 : xMi yX3_rollOn wsX3_rollOn rmX3_rollOn tX3_rollOn2 := by
  refine xMi_of (by decide +kernel) rfl rfl (by intro av X post ex hT; obtain ⟨a, b, k, tt, w, h, rm, pm, fd, wl, pr, fe, qu, co, pa, rfl, rfl, hw, hh, hk, hv, h1, h2⟩ := hT; exact Nat.le_of_ble_eq_true rfl) ?_
  intro Γ ad av X post ex C CX hQ hX hr hT
  obtain ⟨a, b, k, tt, w, h, rm, pm, fd, wl, pr, fe, qu, co, pa, rfl, rfl, hw, hh, hk, hv, h1, h2⟩ := hT
  have OK := okX3_rollOn C hQ hr CX hX
  refine go OK [27] 60 ?_
  refine ⟨_, rfl, fun q => ?_, fun q => ⟨rfl, h1 q⟩⟩
  obtain ⟨d, rfl, d1, d2⟩ := q
  obtain ⟨g1, g2⟩ := h2 d rfl (by omega)
  refine And.intro (fun q => ?_) (fun q1 => ?_)
  · exact ⟨rfl, g1 (ge1_lo q).2.2⟩
  refine And.intro (fun _ => ?_) (fun q => ?_)
  · rename_i q2
    have q2 : ¬ nI 50 < b := by rw [Int32.lt_iff_toInt_lt]; rw [Int32.le_iff_toInt_le] at q2; exact Int.not_lt.mpr q2
    obtain ⟨n, rfl, n1, n2⟩ := inR_of (lo := 1) (hi := 50) (by omega) (by omega) q1 q2
    have loop : ∀ (n2 i : Nat) (k2 t2 : Nat) (rm2 pm2 : Int32) (pr2 pa2 : Nat → Int32), i + n2 = n → k2 < 49 → vt t2 = true → rollK w h wl co d n (k, tt, rm, pm, pr, pa) = (i + (rollK w h wl co d n2 (k2, t2, rm2, pm2, pr2, pa2)).1, (rollK w h wl co d n2 (k2, t2, rm2, pm2, pr2, pa2)).2) →
        FG Γ 27 ad (0 + rmX3_checkDirection.cells) (0 + rmX3_checkDirection.slots) [(3, .int (nI i)), (0, .ref 0), (1, .int (nI d)), (2, .int (nI n))] [] (CW (nI k2) (nI t2) rm2 pm2 (nI w) (nI h) fd wl pr2 fe qu co pa2) := by
      intro n2
      induction n2 with
      | zero =>
        intro i k2 t2 rm2 pm2 pr2 pa2 hi hk2 hv2 he
        refine go OK [27] 60 ?_
        refine And.intro (fun q => ?_) (fun q => absurd ((leN (by omega) (by omega)).mpr (by omega : n ≤ i)) q)
        exact ⟨rfl, g2 n rfl n1 (by omega) _ _ _ _ _ _ _ he⟩
      | succ n2 ih =>
        intro i k2 t2 rm2 pm2 pr2 pa2 hi hk2 hv2 he
        refine go OK [27] 60 ?_
        refine And.intro (fun q => ?_) (fun q => ?_)
        · have := (leN (by omega) (by omega)).mp q
          omega
        refine ⟨_, d, _, _, _, _, _, _, _, _, _, _, _, _, _, rfl, rfl, rfl, hw, hh, hk2, by omega, hv2, fun q => ?_, fun j q => ?_⟩
        · refine And.intro (fun _ => ?_) (fun q => absurd rfl q)
          refine ⟨rfl, g2 n rfl n1 (by omega) _ _ _ _ _ _ _ ?_⟩
          rw [he]
          unfold rollK stepD
          rw [q]
          rfl
        · refine And.intro (fun q => absurd q (by decide)) (fun _ => ?_)
          have hj := nxt_fr q
          have key := ih (i + 1) j (rlN t2 d) (rm2 + 1) (pmP pa2 (7 - (rlN t2 d / 6 + 1)) pm2) (prP pa2 (7 - (rlN t2 d / 6 + 1)) j co pr2) (paP pa2 (7 - (rlN t2 d / 6 + 1))) (by omega) (by have := hj.1; have := hj.2.1; omega) (rlN_vt hv2 (by omega)) (by
            rw [he]
            have e : stepD w h wl co d (k2, t2, rm2, pm2, pr2, pa2) = some (j, rlN t2 d, rm2 + 1, pmP pa2 (7 - (rlN t2 d / 6 + 1)) pm2, prP pa2 (7 - (rlN t2 d / 6 + 1)) j co pr2, paP pa2 (7 - (rlN t2 d / 6 + 1))) := by
              unfold stepD
              rw [q]
            rw [rollK, e]
            show (i + ((rollK w h wl co d n2 _).1 + 1), _) = _
            rw [show ∀ x : Nat, i + (x + 1) = i + 1 + x from fun x => by omega])
          rw [← nI_p1 i] at key
          exact key
    exact loop n 0 k tt rm pm pr pa (by omega) hk hv (by simp)
  · have q2 : nI 50 < b := by rw [Int32.lt_iff_toInt_lt]; rw [Int32.le_iff_toInt_le] at q; exact Int.not_le.mp q
    exact ⟨rfl, g1 (inR_hi (hi := 50) (by omega) (by omega) q2)⟩
