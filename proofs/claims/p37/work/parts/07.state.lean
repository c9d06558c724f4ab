/-! ===== the class's world, and the model's ===== -/
theorem sw_in3 (x : Int32) (h1 : (0 : Int) ≤ x.toInt) (h2 : x.toInt ≤ 2) {a b c : Nat} : ∃ q ∈ [((0 : Int32), a), (1, b), (2, c)], x = q.1 := by
  have h : x.toInt = 0 ∨ x.toInt = 1 ∨ x.toInt = 2 := by omega
  rcases h with h | h | h
  · exact ⟨_, List.mem_cons_self, Int32.toInt_inj.mp h⟩
  · exact ⟨_, List.mem_cons_of_mem _ List.mem_cons_self, Int32.toInt_inj.mp h⟩
  · exact ⟨_, List.mem_cons_of_mem _ (List.mem_cons_of_mem _ List.mem_cons_self), Int32.toInt_inj.mp h⟩
theorem sw_in4 (x : Int32) (h1 : (0 : Int) ≤ x.toInt) (h2 : x.toInt ≤ 3) {a b c d : Nat} : ∃ q ∈ [((0 : Int32), a), (1, b), (2, c), (3, d)], x = q.1 := by
  have h : x.toInt = 0 ∨ x.toInt = 1 ∨ x.toInt = 2 ∨ x.toInt = 3 := by omega
  rcases h with h | h | h | h
  · exact ⟨_, List.mem_cons_self, Int32.toInt_inj.mp h⟩
  · exact ⟨_, List.mem_cons_of_mem _ List.mem_cons_self, Int32.toInt_inj.mp h⟩
  · exact ⟨_, List.mem_cons_of_mem _ (List.mem_cons_of_mem _ List.mem_cons_self), Int32.toInt_inj.mp h⟩
  · exact ⟨_, List.mem_cons_of_mem _ (List.mem_cons_of_mem _ (List.mem_cons_of_mem _ List.mem_cons_self)), Int32.toInt_inj.mp h⟩
/-- PaintedDie 0, Board 1 (walls 2, prints 3), Search 4 (fewest 5, queue 6), colours 7, paints 8 -/
def CW (c t rm pm w h fd : Int32) (wl pr fe qu co pa : Nat → Int32) : List aE :=
  [.inr (.inl (2, [.ref 1, .ref 4, .ref 7, .ref 8, .int c, .int t, .int rm, .int pm])), .inr (.inl (0, [.ref 2, .ref 3, .int w, .int h])), .inl (true, 49, wl), .inl (false, 49, pr),
    .inr (.inl (1, [.ref 5, .ref 6, .int fd])), .inl (false, 1764, fe), .inl (false, 1764, qu), .inl (false, 7, co), .inl (false, 7, pa)]
/-- a pair of ints is a cell of a board of w by h -/
def inB (a b : Int32) (w h : Nat) : Prop := ∃ i j : Nat, a = nI i ∧ b = nI j ∧ i < w ∧ j < h
def frB (a b : Int32) (w h : Nat) (wl : Nat → Int32) : Prop := ∃ i j : Nat, a = nI i ∧ b = nI j ∧ i < w ∧ j < h ∧ wl (j * 7 + i) = 0
theorem nI_clampS {n : Nat} (h : n < 10000) : (nI n).toNatClampNeg = n := nI_clamp (by omega)
theorem inS {n N : Nat} (h : n < N) (hN : N < 10000) : vp_in (nI n) N := vp_in_nI h (by omega)
