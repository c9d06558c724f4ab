section
-- ===== PART A: goes FIRST, ahead of the names: the tables' words, and 'selects' of the private methods out of them =====
/-- a private method of a class that the tables say can be made, by its rows of tables_1 -/
def lw_okq (q : MethodName × Nat) : Prop := (q.1.cls ≠ "java/lang/invoke/MethodHandle" ∧ q.1.cls ≠ "java/lang/invoke/VarHandle") ∧ Cond.instantiable q.1.cls q.2 ∈ tables_1 ∧ Cond.privateMethod q.1 ∈ tables_1 ∧ Cond.instanceMethod q.1 ∈ tables_1
theorem lw_p0 : lw_okq (⟨"PaintedDie", "startOn", "(II)V"⟩, 8) := ⟨⟨by decide +kernel, by decide +kernel⟩, List.mem_of_getElem? (i := 15) (by decide +kernel), List.mem_of_getElem? (i := 63) (by decide +kernel), List.mem_of_getElem? (i := 64) (by decide +kernel)⟩
theorem lw_p1 : lw_okq (⟨"PaintedDie$Board", "layOut", "(II)V"⟩, 4) := ⟨⟨by decide +kernel, by decide +kernel⟩, List.mem_of_getElem? (i := 23) (by decide +kernel), List.mem_of_getElem? (i := 67) (by decide +kernel), List.mem_of_getElem? (i := 68) (by decide +kernel)⟩
theorem lw_p2 : lw_okq (⟨"java/lang/Throwable", "fillInStackTrace", "(I)Ljava/lang/Throwable;"⟩, 6) := ⟨⟨by decide +kernel, by decide +kernel⟩, List.mem_of_getElem? (i := 167) (by decide +kernel), List.mem_of_getElem? (i := 165) (by decide +kernel), List.mem_of_getElem? (i := 166) (by decide +kernel)⟩
theorem lw_p3 : lw_okq (⟨"PaintedDie", "checkCell", "(II)V"⟩, 8) := ⟨⟨by decide +kernel, by decide +kernel⟩, List.mem_of_getElem? (i := 15) (by decide +kernel), List.mem_of_getElem? (i := 225) (by decide +kernel), List.mem_of_getElem? (i := 226) (by decide +kernel)⟩
theorem lw_p4 : lw_okq (⟨"PaintedDie$Board", "has", "(II)Z"⟩, 4) := ⟨⟨by decide +kernel, by decide +kernel⟩, List.mem_of_getElem? (i := 23) (by decide +kernel), List.mem_of_getElem? (i := 229) (by decide +kernel), List.mem_of_getElem? (i := 230) (by decide +kernel)⟩
theorem lw_p5 : lw_okq (⟨"PaintedDie$Board", "isFree", "(II)Z"⟩, 4) := ⟨⟨by decide +kernel, by decide +kernel⟩, List.mem_of_getElem? (i := 23) (by decide +kernel), List.mem_of_getElem? (i := 234) (by decide +kernel), List.mem_of_getElem? (i := 235) (by decide +kernel)⟩
theorem lw_p6 : lw_okq (⟨"PaintedDie$Board", "nextCell", "(II)I"⟩, 4) := ⟨⟨by decide +kernel, by decide +kernel⟩, List.mem_of_getElem? (i := 23) (by decide +kernel), List.mem_of_getElem? (i := 246) (by decide +kernel), List.mem_of_getElem? (i := 247) (by decide +kernel)⟩
theorem lw_p7 : lw_okq (⟨"PaintedDie$Board", "countWalls", "()I"⟩, 4) := ⟨⟨by decide +kernel, by decide +kernel⟩, List.mem_of_getElem? (i := 23) (by decide +kernel), List.mem_of_getElem? (i := 265) (by decide +kernel), List.mem_of_getElem? (i := 266) (by decide +kernel)⟩
theorem lw_p8 : lw_okq (⟨"PaintedDie$Board", "countPrints", "(I)I"⟩, 4) := ⟨⟨by decide +kernel, by decide +kernel⟩, List.mem_of_getElem? (i := 23) (by decide +kernel), List.mem_of_getElem? (i := 282) (by decide +kernel), List.mem_of_getElem? (i := 283) (by decide +kernel)⟩
theorem lw_p9 : lw_okq (⟨"PaintedDie$Board", "printOn", "(II)I"⟩, 4) := ⟨⟨by decide +kernel, by decide +kernel⟩, List.mem_of_getElem? (i := 23) (by decide +kernel), List.mem_of_getElem? (i := 286) (by decide +kernel), List.mem_of_getElem? (i := 287) (by decide +kernel)⟩
theorem lw_p10 : lw_okq (⟨"PaintedDie", "searchFromHere", "()V"⟩, 8) := ⟨⟨by decide +kernel, by decide +kernel⟩, List.mem_of_getElem? (i := 15) (by decide +kernel), List.mem_of_getElem? (i := 294) (by decide +kernel), List.mem_of_getElem? (i := 295) (by decide +kernel)⟩
theorem lw_p11 : lw_okq (⟨"PaintedDie$Search", "forget", "()V"⟩, 3) := ⟨⟨by decide +kernel, by decide +kernel⟩, List.mem_of_getElem? (i := 46) (by decide +kernel), List.mem_of_getElem? (i := 298) (by decide +kernel), List.mem_of_getElem? (i := 299) (by decide +kernel)⟩
theorem lw_p12 : lw_okq (⟨"PaintedDie$Search", "reach", "(III)V"⟩, 3) := ⟨⟨by decide +kernel, by decide +kernel⟩, List.mem_of_getElem? (i := 46) (by decide +kernel), List.mem_of_getElem? (i := 305) (by decide +kernel), List.mem_of_getElem? (i := 306) (by decide +kernel)⟩
theorem lw_p13 : lw_okq (⟨"PaintedDie$Search", "spread", "(LPaintedDie$Board;)V"⟩, 3) := ⟨⟨by decide +kernel, by decide +kernel⟩, List.mem_of_getElem? (i := 46) (by decide +kernel), List.mem_of_getElem? (i := 309) (by decide +kernel), List.mem_of_getElem? (i := 310) (by decide +kernel)⟩
theorem lw_p14 : lw_okq (⟨"PaintedDie$Search", "rollsAt", "(II)I"⟩, 3) := ⟨⟨by decide +kernel, by decide +kernel⟩, List.mem_of_getElem? (i := 46) (by decide +kernel), List.mem_of_getElem? (i := 313) (by decide +kernel), List.mem_of_getElem? (i := 314) (by decide +kernel)⟩
theorem lw_p15 : lw_okq (⟨"PaintedDie$Search", "fewestTo", "(I)I"⟩, 3) := ⟨⟨by decide +kernel, by decide +kernel⟩, List.mem_of_getElem? (i := 46) (by decide +kernel), List.mem_of_getElem? (i := 326) (by decide +kernel), List.mem_of_getElem? (i := 327) (by decide +kernel)⟩
def lw_privs_1 : List (MethodName × Nat) := [(⟨"PaintedDie", "startOn", "(II)V"⟩, 8), (⟨"PaintedDie$Board", "layOut", "(II)V"⟩, 4), (⟨"java/lang/Throwable", "fillInStackTrace", "(I)Ljava/lang/Throwable;"⟩, 6), (⟨"PaintedDie", "checkCell", "(II)V"⟩, 8), (⟨"PaintedDie$Board", "has", "(II)Z"⟩, 4), (⟨"PaintedDie$Board", "isFree", "(II)Z"⟩, 4), (⟨"PaintedDie$Board", "nextCell", "(II)I"⟩, 4), (⟨"PaintedDie$Board", "countWalls", "()I"⟩, 4), (⟨"PaintedDie$Board", "countPrints", "(I)I"⟩, 4), (⟨"PaintedDie$Board", "printOn", "(II)I"⟩, 4), (⟨"PaintedDie", "searchFromHere", "()V"⟩, 8), (⟨"PaintedDie$Search", "forget", "()V"⟩, 3), (⟨"PaintedDie$Search", "reach", "(III)V"⟩, 3), (⟨"PaintedDie$Search", "spread", "(LPaintedDie$Board;)V"⟩, 3), (⟨"PaintedDie$Search", "rollsAt", "(II)I"⟩, 3), (⟨"PaintedDie$Search", "fewestTo", "(I)I"⟩, 3)]
theorem lw_r1 : ∀ q ∈ lw_privs_1, lw_okq q := List.forall_mem_cons.mpr ⟨lw_p0, List.forall_mem_cons.mpr ⟨lw_p1, List.forall_mem_cons.mpr ⟨lw_p2, List.forall_mem_cons.mpr ⟨lw_p3, List.forall_mem_cons.mpr ⟨lw_p4, List.forall_mem_cons.mpr ⟨lw_p5, List.forall_mem_cons.mpr ⟨lw_p6, List.forall_mem_cons.mpr ⟨lw_p7, List.forall_mem_cons.mpr ⟨lw_p8, List.forall_mem_cons.mpr ⟨lw_p9, List.forall_mem_cons.mpr ⟨lw_p10, List.forall_mem_cons.mpr ⟨lw_p11, List.forall_mem_cons.mpr ⟨lw_p12, List.forall_mem_cons.mpr ⟨lw_p13, List.forall_mem_cons.mpr ⟨lw_p14, List.forall_mem_cons.mpr ⟨lw_p15, fun _ h => absurd h List.not_mem_nil⟩⟩⟩⟩⟩⟩⟩⟩⟩⟩⟩⟩⟩⟩⟩⟩
theorem lw_p16 : lw_okq (⟨"PaintedDie$Search", "fewestWithTop", "(II)I"⟩, 3) := ⟨⟨by decide +kernel, by decide +kernel⟩, List.mem_of_getElem? (i := 46) (by decide +kernel), List.mem_of_getElem? (i := 330) (by decide +kernel), List.mem_of_getElem? (i := 331) (by decide +kernel)⟩
theorem lw_p17 : lw_okq (⟨"PaintedDie", "searchBackFrom", "(II)V"⟩, 8) := ⟨⟨by decide +kernel, by decide +kernel⟩, List.mem_of_getElem? (i := 15) (by decide +kernel), List.mem_of_getElem? (i := 350) (by decide +kernel), List.mem_of_getElem? (i := 351) (by decide +kernel)⟩
theorem lw_p18 : lw_okq (⟨"PaintedDie$Board", "isFreeCell", "(I)Z"⟩, 4) := ⟨⟨by decide +kernel, by decide +kernel⟩, List.mem_of_getElem? (i := 23) (by decide +kernel), List.mem_of_getElem? (i := 354) (by decide +kernel), List.mem_of_getElem? (i := 355) (by decide +kernel)⟩
theorem lw_p19 : lw_okq (⟨"PaintedDie$Search", "countTops", "(I)I"⟩, 3) := ⟨⟨by decide +kernel, by decide +kernel⟩, List.mem_of_getElem? (i := 46) (by decide +kernel), List.mem_of_getElem? (i := 365) (by decide +kernel), List.mem_of_getElem? (i := 366) (by decide +kernel)⟩
theorem lw_p20 : lw_okq (⟨"PaintedDie", "isShutIn", "()Z"⟩, 8) := ⟨⟨by decide +kernel, by decide +kernel⟩, List.mem_of_getElem? (i := 15) (by decide +kernel), List.mem_of_getElem? (i := 397) (by decide +kernel), List.mem_of_getElem? (i := 398) (by decide +kernel)⟩
theorem lw_p21 : lw_okq (⟨"PaintedDie", "joinedWithCells", "(J)J"⟩, 8) := ⟨⟨by decide +kernel, by decide +kernel⟩, List.mem_of_getElem? (i := 15) (by decide +kernel), List.mem_of_getElem? (i := 418) (by decide +kernel), List.mem_of_getElem? (i := 419) (by decide +kernel)⟩
theorem lw_p22 : lw_okq (⟨"PaintedDie$Board", "turnOver", "(I)Z"⟩, 4) := ⟨⟨by decide +kernel, by decide +kernel⟩, List.mem_of_getElem? (i := 23) (by decide +kernel), List.mem_of_getElem? (i := 523) (by decide +kernel), List.mem_of_getElem? (i := 524) (by decide +kernel)⟩
theorem lw_p23 : lw_okq (⟨"PaintedDie", "rollOnce", "(I)Z"⟩, 8) := ⟨⟨by decide +kernel, by decide +kernel⟩, List.mem_of_getElem? (i := 15) (by decide +kernel), List.mem_of_getElem? (i := 568) (by decide +kernel), List.mem_of_getElem? (i := 569) (by decide +kernel)⟩
theorem lw_p24 : lw_okq (⟨"PaintedDie", "printHere", "()V"⟩, 8) := ⟨⟨by decide +kernel, by decide +kernel⟩, List.mem_of_getElem? (i := 15) (by decide +kernel), List.mem_of_getElem? (i := 572) (by decide +kernel), List.mem_of_getElem? (i := 573) (by decide +kernel)⟩
theorem lw_p25 : lw_okq (⟨"PaintedDie$Board", "printOnto", "(II)V"⟩, 4) := ⟨⟨by decide +kernel, by decide +kernel⟩, List.mem_of_getElem? (i := 23) (by decide +kernel), List.mem_of_getElem? (i := 576) (by decide +kernel), List.mem_of_getElem? (i := 577) (by decide +kernel)⟩
def lw_privs_2 : List (MethodName × Nat) := [(⟨"PaintedDie$Search", "fewestWithTop", "(II)I"⟩, 3), (⟨"PaintedDie", "searchBackFrom", "(II)V"⟩, 8), (⟨"PaintedDie$Board", "isFreeCell", "(I)Z"⟩, 4), (⟨"PaintedDie$Search", "countTops", "(I)I"⟩, 3), (⟨"PaintedDie", "isShutIn", "()Z"⟩, 8), (⟨"PaintedDie", "joinedWithCells", "(J)J"⟩, 8), (⟨"PaintedDie$Board", "turnOver", "(I)Z"⟩, 4), (⟨"PaintedDie", "rollOnce", "(I)Z"⟩, 8), (⟨"PaintedDie", "printHere", "()V"⟩, 8), (⟨"PaintedDie$Board", "printOnto", "(II)V"⟩, 4)]
theorem lw_r2 : ∀ q ∈ lw_privs_2, lw_okq q := List.forall_mem_cons.mpr ⟨lw_p16, List.forall_mem_cons.mpr ⟨lw_p17, List.forall_mem_cons.mpr ⟨lw_p18, List.forall_mem_cons.mpr ⟨lw_p19, List.forall_mem_cons.mpr ⟨lw_p20, List.forall_mem_cons.mpr ⟨lw_p21, List.forall_mem_cons.mpr ⟨lw_p22, List.forall_mem_cons.mpr ⟨lw_p23, List.forall_mem_cons.mpr ⟨lw_p24, List.forall_mem_cons.mpr ⟨lw_p25, fun _ h => absurd h List.not_mem_nil⟩⟩⟩⟩⟩⟩⟩⟩⟩⟩
def lw_privs : List (MethodName × Nat) := lw_privs_1 ++ (lw_privs_2)
def lw_tbl : List Cond := k2_sels lw_privs ++ tables_1
theorem lw_privs_ok : ∀ q ∈ lw_privs, lw_okq q := by
  show ∀ q ∈ lw_privs_1 ++ (lw_privs_2), lw_okq q
  exact List.forall_mem_append.mpr ⟨lw_r1, lw_r2⟩
/-- the streams that the claim lets the run draw from -/
abbrev lw_cs : List Choice := [Jvm.Choice.named "NaN.bits"]
theorem lw_bits : nanBits ∈ lw_cs := by first | decide | exact List.mem_cons_self | simp [lw_cs, nanBits]
-- ===== end of PART A; then your names; then what follows =====
/-- arrays of arrays: what the tables say of them -/
def va_AOA (t : FieldType) (U : State) : Prop := (Cond.arrayOver (.array t)).before #[] U = true
theorem va_AOA.use {t : FieldType} {A : Array Value} {U : State} (h : va_AOA t U) : (Cond.arrayOver (.array t)).before A U = true := h
/-! ===== BEGIN words of one list among another's, by their places ===== -/
theorem goodIn_r {big : List Cond} (ws : List Cond) (ps : List Nat) (hp : ws = ps.filterMap (fun i => big[i]?)) (h : ws.all goodWord = true) : GoodIn big ws := by
  intro w hw
  have h1 := List.all_eq_true.mp h w hw
  rw [hp] at hw
  obtain ⟨i, -, hi⟩ := List.mem_filterMap.mp hw
  have hm : w ∈ big := by first | exact List.mem_of_getElem? hi | exact List.getElem?_mem hi
  exact ⟨hm, good_of_word h1⟩
theorem goodIn_app {big a b : List Cond} (ha : GoodIn big a) (hb : GoodIn big b) : GoodIn big (a ++ b) := fun w h => (List.mem_append.mp h).elim (ha w) (hb w)
theorem goodIn_ca {big a b : List Cond} {c : Cond} (ha : GoodIn big (c :: a)) (hb : GoodIn big b) : GoodIn big (c :: (a ++ b)) := fun w h => (List.mem_cons.mp h).elim (fun e => ha w (List.mem_cons.mpr (Or.inl e))) (fun h => (List.mem_append.mp h).elim (fun h => ha w (List.mem_cons.mpr (Or.inr h))) (hb w))
theorem goodIn_sub {big ws : List Cond} (hm : ∀ w ∈ ws, w ∈ big) (h : ws.all goodWord = true) : GoodIn big ws := fun w hw => ⟨hm w hw, good_of_word (List.all_eq_true.mp h w hw)⟩
/-! ===== END ===== -/

/-! ===== BEGIN new T[n][m]: the outer array a place, the inner ones among the pooled ===== -/
/-- f, but v at every address of l -/
def vr_up {α : Type} (f : Nat → α) (l : List Nat) (v : α) : Nat → α := fun a => if a ∈ l then v else f a
theorem vr_up_in {α : Type} {f : Nat → α} {l : List Nat} {v : α} {a : Nat} (h : a ∈ l) : vr_up f l v a = v := if_pos h
theorem vr_up_ne {α : Type} {f : Nat → α} {l : List Nat} {v : α} {a : Nat} (h : a ∉ l) : vr_up f l v a = f a := if_neg h
theorem vr_rows {L l : List Nat} {f : Nat → va_E} {e : va_E} (h : ∀ a, a ∈ l → a ∉ L) : va_pl L f ++ l.map (fun a => (a, e)) = va_pl (L ++ l) (vr_up f l e) := by
  unfold va_pl
  rw [List.map_append]
  congr 1
  · apply List.map_congr_left
    intro a ha
    rw [vr_up_ne (fun q => h a q ha)]
  · apply List.map_congr_left
    intro a ha
    rw [vr_up_in ha]
theorem vr_lay {X rows : va_W} {x : Nat × va_E} {pl : va_W} {D : va_G} {cl : List vw_C} {H : Heap} (hP : va_P D cl (((X ++ pl) ++ [x]) ++ rows) H) : va_P D cl ((X ++ [x]) ++ (pl ++ rows)) H := by
  rw [List.append_assoc (X ++ pl)] at hP
  have h := va_P.swap hP
  rw [← List.append_assoc X] at h
  have h2 := va_P.swap h
  rw [List.append_assoc (X ++ [x])] at h2
  exact h2
theorem vr_layD {X rows : va_W} {x : Nat × va_E} {pl : va_W} {A : Nat → Prop} (hD : va_D A (((X ++ pl) ++ [x]) ++ rows)) : va_D A ((X ++ [x]) ++ (pl ++ rows)) := by
  rw [List.append_assoc (X ++ pl)] at hD
  have h := va_D.swap hD
  rw [← List.append_assoc X] at h
  have h2 := va_D.swap h
  rw [List.append_assoc (X ++ [x])] at h2
  exact h2
theorem vr_outer (c : ClassId) (N h0 : Nat) : ∀ i : Nat, Jvm.Free.Multi.outerC c N h0 i = arrV c N (fun j => va_rf (if j < i then some (h0 + 1 + j) else none))
  | 0 => by
    show ({ cls := c, slots := Array.replicate N .null, vm := .none } : Cell) = _
    rw [arrV_new]
    refine congrArg (arrV c N) (funext fun j => ?_)
    simp [va_rf]
  | i + 1 => by
    show (Jvm.Free.Multi.outerC c N h0 i).setSlot i (.ref (h0 + 1 + i)) = _
    rw [vr_outer c N h0 i, arrV_store]
    refine congrArg (arrV c N) (funext fun j => ?_)
    by_cases e : j = i
    · subst e
      simp [updV, va_rf]
    · by_cases h : j < i
      · simp [updV, e, h, Nat.lt_succ_of_lt h]
      · simp [updV, e, h, show ¬ j < i + 1 by omega]
section VGM
variable {p : Program} {l : Launch} {e : Env} {R : Room} {s : State} {m : MethodId} {args : Array Value} {below : List Frame} {meth : Method} {c : Code} {H : Heap} {locs : List Loc} {cells slots : Nat} {Q : State → Prop}
variable {cc : ByteArray} {pc : Nat} {ls : Array Slot} {rest : List Value} {D : va_G} {cl : List vw_C} {A : Nat → Prop} {a : Nat} {tys : List (ClassId × FieldType)} {ws : va_W} {H0 : Heap}
theorem va_mna {X : va_W} {L : List Nat} {f : Nat → va_E} {cc : ByteArray} (hexec : p.tables.exec = Jvm.exec) (hb : c.code = cc) {own : String} {index : Nat} {ty : FieldType} {cy : ClassId} (hown : s.vm.findClass own = some m.cls) (hclink : (Cond.classLink own index ("[" ++ (FieldType.array ty).toString)).before args s = true) (hover : va_AOA ty s) (harr : (Cond.arrayClass ty).before args s = true) (hcy : s.vm.findClass (FieldType.array ty).toString = some cy)
    (hK : va_K D cl tys s) (hP : va_P D cl (X ++ va_pl L f) H) (hD : va_D A (X ++ va_pl L f)) (hS : va_S A H0 H locs) (hA : ∀ q, H0.size ≤ q → A q) {n k : Int32} {N' K' : Nat} {z : vp_A} (hn : ¬ n < 0) (hk : ¬ k < 0) (hN : n.toNatClampNeg = N') (hM : k.toNatClampNeg = K')
    (hb1 : N' * 4 ≤ 536870912) (hb2 : K' * componentBytes ty ≤ 536870912) (hb3 : K' ≤ 536870912) (hdf : fits ty (defaultValue ty) = true) (hdd : (defaultValue ty).isDefault = true) (hcells : cells + (1 + N') ≤ R.cells) (hslots : slots + (N' + N' * K') ≤ R.slots) (hz : ∀ c : ClassId, Jvm.Free.Multi.innerC c K' (defaultValue ty) = vp_cell c z) (hdg : decode cc pc = .ok (.multianewarray index 2, 4))
    (kk : ∀ (q : Nat) (r : Nat → Nat) (cA : ClassId) (H1 : Heap), (∀ i j : Nat, i < N' → j < N' → r i = r j → i = j) → (∀ i : Nat, i < N' → r i ∉ L) → va_K D cl (tys ++ [(cA, .array ty)]) s →
      va_P D cl ((X ++ [(q, .inl (cA, N', .inr (.inr (.inr (.inr (fun i => if i < N' then some (r i) else none))))))]) ++ va_pl (L ++ (List.range N').map r) (vr_up f ((List.range N').map r) (.inl (cy, z)))) H1 → va_D A ((X ++ [(q, .inl (cA, N', .inr (.inr (.inr (.inr (fun i => if i < N' then some (r i) else none))))))]) ++ va_pl (L ++ (List.range N').map r) (vr_up f ((List.range N').map r) (.inl (cy, z)))) → va_S A H0 H1 locs →
      W p l e R s m args below meth c H1 locs (cells + 1 + N') (slots + N' + N' * K') Q (F0 m (pc + 4) ls (.ref q :: rest))) : W p l e R s m args below meth c H locs cells slots Q (F0 m pc ls (.int k :: .int n :: rest)) := by
  subst hN
  subst hM
  intro T hT Xs
  obtain ⟨vm₁, cA, comp, -, fA, fC, hO, -, X', step⟩ := Xs.multianewarray2F hexec hown hclink (va_AOA.use hover) harr (g := F0 m pc ls (.int k :: .int n :: rest)) rfl (by rw [hb]; exact hdg) rfl hn hk hb1 hb2 hb3 hdf hdd hcells hslots
  have ec : some cy = some comp := hcy.symm.trans fC
  cases ec
  generalize hF : Jvm.Free.Multi.fill (T.setVm vm₁) cA cy n.toNatClampNeg k.toNatClampNeg (defaultValue ty) n.toNatClampNeg = F at X' step
  have hTh : (T.setVm vm₁).heap = H := hT
  obtain ⟨f1, f2, -, -⟩ := Jvm.Free.Multi.fill_facts (T.setVm vm₁) cA cy n.toNatClampNeg k.toNatClampNeg (defaultValue ty) n.toNatClampNeg
  rw [hF, hTh] at f1 f2
  have hold : ∀ x : Nat, x < H.size → F.heap[x]? = H[x]? := fun x hx => by
    have := Jvm.Free.Multi.fill_old (T.setVm vm₁) cA cy n.toNatClampNeg k.toNatClampNeg (defaultValue ty) (a := x) (by rw [hTh]; exact hx) n.toNatClampNeg
    rw [hF, hTh] at this
    exact this
  have hrow : ∀ j : Nat, j < n.toNatClampNeg → F.heap[H.size + 1 + j]? = some (vp_cell cy z) := fun j hj => by
    have := Jvm.Free.Multi.fill_inner (T.setVm vm₁) cA cy n.toNatClampNeg k.toNatClampNeg (defaultValue ty) n.toNatClampNeg j hj
    rw [hF, hTh, hz] at this
    exact this
  have hout : Jvm.Free.Multi.outerC cA n.toNatClampNeg H.size n.toNatClampNeg = vp_cell cA (n.toNatClampNeg, .inr (.inr (.inr (.inr (fun i => if i < n.toNatClampNeg then some (H.size + 1 + i) else none))))) := by
    rw [vp_cell_q]
    exact vr_outer cA n.toNatClampNeg H.size n.toNatClampNeg
  rw [hout] at f2
  have hlt : ∀ a, a ∈ L → a < H.size := fun a ha => by
    obtain ⟨k9, hk9⟩ := va_pl_get (X := X) (f := f) ha
    exact (hP k9 _ hk9).lt
  have hnl : ∀ i : Nat, i < n.toNatClampNeg → H.size + 1 + i ∉ L := fun i _ h => by
    have := hlt _ h
    omega
  have hnm : ∀ a, a ∈ (List.range n.toNatClampNeg).map (fun i => H.size + 1 + i) → a ∉ L := fun a ha h => by
    obtain ⟨i, -, rfl⟩ := List.mem_map.mp ha
    have := hlt _ h
    omega
  have hP0 : va_P D cl (X ++ va_pl L f) F.heap := hP.kept (fun k9 x hx => hold x.1 ((hP k9 x hx).lt))
  have hP1 : va_P D cl ((X ++ va_pl L f) ++ [(H.size, .inl (cA, n.toNatClampNeg, .inr (.inr (.inr (.inr (fun i => if i < n.toNatClampNeg then some (H.size + 1 + i) else none))))))]) F.heap := hP0.app (fun k9 x hx => by
    have h0 : k9 < 1 := (List.getElem?_eq_some_iff.mp hx).1
    rw [show k9 = 0 by omega] at hx
    cases hx
    exact f2)
  have hP2 : va_P D cl (((X ++ va_pl L f) ++ [(H.size, .inl (cA, n.toNatClampNeg, .inr (.inr (.inr (.inr (fun i => if i < n.toNatClampNeg then some (H.size + 1 + i) else none))))))]) ++ ((List.range n.toNatClampNeg).map (fun i => H.size + 1 + i)).map (fun a => (a, .inl (cy, z)))) F.heap := hP1.app (fun k9 x hx => by
    obtain ⟨a, ha, rfl⟩ := List.mem_map.mp (List.mem_of_getElem? hx)
    obtain ⟨i, hi, rfl⟩ := List.mem_map.mp ha
    exact hrow i (List.mem_range.mp hi))
  have hD2 : va_D A (((X ++ va_pl L f) ++ [(H.size, .inl (cA, n.toNatClampNeg, .inr (.inr (.inr (.inr (fun i => if i < n.toNatClampNeg then some (H.size + 1 + i) else none))))))]) ++ ((List.range n.toNatClampNeg).map (fun i => H.size + 1 + i)).map (fun a => (a, .inl (cy, z)))) := by
    have hD1 := hD.push (e := .inl (cA, n.toNatClampNeg, .inr (.inr (.inr (.inr (fun i => if i < n.toNatClampNeg then some (H.size + 1 + i) else none)))))) hP rfl (hA _ hS.1)
    generalize hW1 : (X ++ va_pl L f) ++ [(H.size, .inl (cA, n.toNatClampNeg, .inr (.inr (.inr (.inr (fun i => if i < n.toNatClampNeg then some (H.size + 1 + i) else none))))))] = W1 at hD1 hP1 ⊢
    have hle : ∀ (k9 : Nat) (x : Nat × va_E), W1[k9]? = some x → x.1 ≤ H.size := fun k9 x hx => by
      rw [← hW1] at hx
      by_cases hl : k9 < (X ++ va_pl L f).length
      · rw [List.getElem?_append_left hl] at hx
        exact Nat.le_of_lt ((hP k9 x hx).lt)
      · rw [List.getElem?_append_right (by omega)] at hx
        have h0 : k9 - (X ++ va_pl L f).length < 1 := (List.getElem?_eq_some_iff.mp hx).1
        rw [show k9 - (X ++ va_pl L f).length = 0 by omega] at hx
        cases hx
        exact Nat.le_refl _
    have hr : ∀ (k9 : Nat) (x : Nat × va_E), (((List.range n.toNatClampNeg).map (fun i => H.size + 1 + i)).map (fun a => ((a, .inl (cy, z)) : Nat × va_E)))[k9]? = some x → x.1 = H.size + 1 + k9 := fun k9 x hx => by
      rw [List.getElem?_map, List.getElem?_map] at hx
      by_cases h9 : k9 < n.toNatClampNeg
      · rw [List.getElem?_range h9] at hx
        cases hx
        rfl
      · have hn0 : (List.range n.toNatClampNeg)[k9]? = none := List.getElem?_eq_none (by rw [List.length_range]; omega)
        rw [hn0] at hx
        cases hx
    refine ⟨fun i j x y hi hj hxy => ?_, fun k9 x hx => ?_⟩
    · by_cases h1 : i < W1.length <;> by_cases h2 : j < W1.length
      · rw [List.getElem?_append_left h1] at hi
        rw [List.getElem?_append_left h2] at hj
        exact hD1.1 i j x y hi hj hxy
      · rw [List.getElem?_append_left h1] at hi
        rw [List.getElem?_append_right (by omega)] at hj
        have := hle _ _ hi
        have := hr _ _ hj
        omega
      · rw [List.getElem?_append_right (by omega)] at hi
        rw [List.getElem?_append_left h2] at hj
        have := hle _ _ hj
        have := hr _ _ hi
        omega
      · rw [List.getElem?_append_right (by omega)] at hi hj
        have := hr _ _ hi
        have := hr _ _ hj
        omega
    · by_cases h1 : k9 < W1.length
      · rw [List.getElem?_append_left h1] at hx
        exact hD1.2 k9 x hx
      · rw [List.getElem?_append_right (by omega)] at hx
        have := hr _ _ hx
        exact hA _ (by have := hS.1; omega)
  have hAr : ArrOfT s cA (.array ty) := fun N9 z9 => by
    obtain ⟨-, k9, hk9, cm9, hkk9⟩ := (hO 0 0 0).1
    exact ⟨(fun q hq => by cases hq), k9, hk9, cm9, hkk9⟩
  have hK2 : va_K D cl (tys ++ [(cA, .array ty)]) s := ⟨hK.1, fun k9 x hx => by
    by_cases hl : k9 < tys.length
    · rw [List.getElem?_append_left hl] at hx
      exact hK.2 k9 x hx
    · rw [List.getElem?_append_right (by omega)] at hx
      have h0 : k9 - tys.length < 1 := (List.getElem?_eq_some_iff.mp hx).1
      rw [show k9 - tys.length = 0 by omega] at hx
      cases hx
      exact ⟨hAr, fA⟩⟩
  obtain ⟨t, a1, b1⟩ := kk H.size (fun i => H.size + 1 + i) cA F.heap (fun i j _ _ h => by have h9 : H.size + 1 + i = H.size + 1 + j := h; omega) hnl hK2 (by rw [← vr_rows hnm]; exact vr_lay hP2) (by rw [← vr_rows hnm]; exact vr_layD hD2) ⟨by rw [f1]; have := hS.1; omega, fun x h1 h2 => (hold x (Nat.lt_of_lt_of_le h1 hS.1)).trans (hS.2.1 x h1 h2), hS.2.2⟩ F rfl X'
  refine ⟨t, step t ?_, b1⟩
  have e : T.heap.size = H.size := by rw [hT]
  rw [e]
  exact a1
end VGM
/-! ===== END ===== -/

/-! ===== BEGIN exceptions that leave a method, and their catching by the caller (launches without stack traces) ===== -/
section VXA
/-! The laws vx_back, vx_callV, vx_callS, vx_callSW, vx_throw0, vx_throwS follow proofs of the library, with one case more: JvmDerived/Free/Laws.lean (Back.of_free), Shelf42/LK1.lean (callV, callS), Shelf/KitTraced.lean (throwNew0V, throwNewS). -/
/-- where a method has thrown q: the class by its name, the cell, what was written, the world -/
def vx_T (XC : String → State → State → Prop) (st : State) (q : Addr) (t : State) (mc ms : Nat) (free : Addr → Prop) : Prop :=
  ∃ (E : String) (ce : Cell) (L : List Loc), XC E st t ∧ t.heap[q]? = some ce ∧ ce.vm = .none ∧ st.vm.findClass E = some ce.cls ∧ st.WarmedH t.vm ∧ st.sameButNew ({ t with vm := st.vm } : State) L mc ms ∧ ∀ z ∈ L, free z.base
def vx_Q (Qc : Array Value → State → Outcome → State → Prop) (XC : String → State → State → Prop) (mc ms : Nat) (free : Addr → Prop) : Array Value → State → Outcome → State → Prop := fun a st o t =>
  (Qc a st o t ∧ ∃ L, FrameEnd st o t L mc ms ∧ ∀ q ∈ L, free q.base) ∨ ∃ q, o = .threw q ∧ vx_T XC st q t mc ms free
/-- a callee that returns or throws -/
def vx_Met (l : Launch) (y : MethodName) (ws : List Cond) (rm : Room) (Pc : Array Value → State → Prop) (Qc : Array Value → State → Outcome → State → Prop) (XC : String → State → State → Prop) (mc ms : Nat) (free : Addr → Prop) : Prop :=
  MetFree l y (headSpec ws rm) Pc (fun _ _ _ _ _ => True) (vx_Q Qc XC mc ms free)
def vx_Post (XC : String → State → State → Prop) (mc ms : Nat) (free : Addr → Prop) : Pt → Array Value → Addr → Pt → Prop := fun A a q B =>
  ∃ (g : JFrame) (mk : MethodId) (t : State) (L : List Loc) (E : String) (ce : Cell), B.U.heap = t.heap ∧ B.U.vm = t.vm ∧ XC E (A.U.calling g mk a) t ∧ t.heap[q]? = some ce ∧ ce.vm = .none ∧ A.U.vm.findClass E = some ce.cls ∧ B.locs = A.locs ++ L ∧ (∀ z ∈ L, free z.base) ∧ B.cells = A.cells + mc ∧ B.slots = A.slots + ms
def vx_Back (l : Launch) (R : Room) (p : Program) (e : Env) (below : List Frame) (s : State) (sargs : Array Value) (y : MethodName) (len W9 : Nat)
    (Pre : Pt → Array Value → Prop) (Post : Pt → Array Value → Option Value → Pt → Prop) (PostX : Pt → Array Value → Addr → Pt → Prop) : Prop :=
  ∀ (m : MethodId) (meth : Method) (c : Code) (A : Pt) (g : JFrame) (ig : Instr) (mk : MethodId) (a : Array Value),
    Stand p l e R s m sargs below meth c A.U A.locs A.cells A.slots → g.method = m → g.locals.size = c.maxLocals → decode c.code g.pc = .ok (ig, len) →
    2 * g.monitorRoom + (g.stack.map fun v => v.category).sum ≤ W9 → A.U.methodNamed? y = some mk → Pre A a →
    (∃ (v : Option Value) (B : Pt), Stand p l e R s m sargs below meth c B.U B.locs B.cells B.slots ∧ Post A a v B ∧
      Steps p.tables e below (doInvoke e (A.U.setTop g) [] mk a).1 (B.U.setTop { g with pc := g.pc + len, stack := v.toList ++ g.stack })) ∨
    (∃ (q : Addr) (B : Pt), Stand p l e R s m sargs below meth c B.U B.locs B.cells B.slots ∧ PostX A a q B ∧
      Steps p.tables e below (doInvoke e (A.U.setTop g) [] mk a).1 ((B.U.setTop g).pushFrame (.throwing q)))
section Payer
variable {l : Launch} {R : Room} {p : Program} {e : Env} {below : List Frame} {s : State} {sargs : Array Value} {y : MethodName} {len W9 : Nat}
theorem vx_back {ws : List Cond} {rm : Room} {Pc : Array Value → State → Prop} {Qc : Array Value → State → Outcome → State → Prop} {XC : String → State → State → Prop} {mc ms : Nat} {free : Addr → Prop} {bytes : ByteArray} {maxL : Nat} {ret : Option FieldType}
    (hM : vx_Met l y ws rm Pc Qc XC mc ms free) (hblind : FrameBlind Pc) (hrc : rm.cells = mc) (hrs : rm.slots = ms)
    (hframes : rm.frames + 1 ≤ R.frames) (hlocals : W9 + (maxL + 11) + rm.locals ≤ R.locals)
    (hws : ∀ w ∈ ws, ∀ a' U, s.WarmedH U.vm → w.before a' U = true) (hcode : Cond.code y bytes maxL ret ∈ ws) (hinit : ∀ a' U, s.WarmedH U.vm → (Cond.initialized y.cls).before a' U = true) :
    vx_Back l R p e below s sargs y len W9 (PreOf R mc ms Pc) (PostOf Qc mc ms free) (vx_Post XC mc ms free) := by
  intro m meth c A g ig mk a X hg hsize hdg hW hn hp
  have h1 : (headSpec ws rm).pre.before a A.U = true := atoms_intro fun w hw => hws w hw _ _ X.warmed
  have h2 : (Cond.code y bytes maxL ret).before a A.U = true := hws _ hcode _ _ X.warmed
  have h3 : (Cond.initialized y.cls).before a A.U = true := hinit _ _ X.warmed
  have h4 : A.cells + (headSpec ws rm).room.cells ≤ R.cells := by rw [show (headSpec ws rm).room.cells = mc from hrc]; exact hp.1
  have h5 : A.slots + (headSpec ws rm).room.slots ≤ R.slots := by rw [show (headSpec ws rm).room.slots = ms from hrs]; exact hp.2.1
  have hPc : Pc a (A.U.calling g mk a) := hblind _ _ _ _ hp.2.2
  obtain ⟨U, Ls, c0, s0⟩ := A
  dsimp only [Pt.U, Pt.locs, Pt.cells, Pt.slots] at h1 h2 h3 h4 h5 X hn hPc ⊢
  obtain ⟨methY, cY, hmY, hcY, -, hlY, -, -, -, -⟩ := Cond.code_spec hn h2
  obtain ⟨kY, hkY, -⟩ := className_of_methodNamed hn
  have hinitY : kY.init = .initialized := Cond.initialized_spec (findClass_of_methodNamed hn) hkY h3
  have h : At U g.method c below := by rw [hg]; exact X.here
  have hlocals9 : W9 + (maxL + 11) + (headSpec ws rm).room.locals ≤ R.locals := hlocals
  have happ : (headSpec ws rm).appliesLoose y e.platform (U.calling g mk a) = true :=
    Spec.appliesLoose_calling (g := g) h hdg hn hkY hinitY
      (X.room_calling (g := g) (R' := (headSpec ws rm).room) hsize hmY hcY hframes (by rw [hlY]; omega) h4 h5) h1
  obtain ⟨mid, hmid⟩ := h.above
  have hfr : (U.setTop g).frames = (.java g :: mid) ++ below := by rw [State.frames_setTop' g h.top, hmid]; rfl
  obtain ⟨o, s₂, hsteps, -, hend, hq⟩ := Steps.callFree hM p X.admits X.cas X.clock (acts := []) hfr happ hPc trivial
  have hq' : vx_Q Qc XC mc ms free a (U.calling g mk a) o s₂ := hq
  rw [State.frames_setTop' g h.top] at hend
  obtain ⟨g₀, hg0⟩ := Option.isSome_iff_exists.mp h.top
  obtain ⟨r, hr⟩ := State.topJava?_eq_some.mp hg0
  have hr' : (({ U with heap := s₂.heap, slotsUsed := s₂.slotsUsed } : State).setVm s₂.vm).frames = .java g₀ :: r := hr
  rcases hq' with ⟨hqc, L, hfe, hL⟩ | ⟨q, rfl, E, ce, L, hx, hce, hcv, hcl, hW₂, hsm, hL⟩
  · obtain ⟨⟨v, rfl⟩, hW₂, e2, q2, q3, q4, q5, q6⟩ := id hfe
    have e3 : s₂ = ({ (U.calling g mk a).setFrames s₂.frames with heap := s₂.heap, slotsUsed := s₂.slotsUsed } : State).setVm s₂.vm := by
      have : s₂ = ({ s₂ with vm := (U.calling g mk a).vm } : State).setVm s₂.vm := rfl
      rw [e2] at this
      exact this
    obtain ⟨c₂, i₂, len₂, hc₂, hd₂, hf₂⟩ := hend
    have hW' : U.WarmedH s₂.vm := hW₂
    have hcc : c₂ = c := by
      have h1 : s₂.code? g.method = U.code? g.method := by
        rw [State.code?_eq, State.code?_eq, hW'.alike.method?]
      exact Option.some.inj (hc₂.symm.trans (h1.trans h.code))
    subst hcc
    have hlen : len₂ = len := by rw [hdg] at hd₂; cases hd₂; rfl
    subst hlen
    have hs₂ : s₂ = (({ U with heap := s₂.heap, slotsUsed := s₂.slotsUsed } : State).setVm s₂.vm).setTop { g with pc := g.pc + len₂, stack := v.toList ++ g.stack } := by
      refine e3.trans ?_
      rw [hf₂, State.calling_eq h.top, State.setFrames_setFrames, State.setTop_of_frames _ hr', hr]
      rfl
    have hsame : U.sameButNew ({ U with heap := s₂.heap, slotsUsed := s₂.slotsUsed } : State) L mc ms := by
      refine ⟨?_, q2, q3, q4, q5, q6⟩
      obtain ⟨t, ht, -⟩ := State.frames_cons hr
      show ({ U with heap := s₂.heap, slotsUsed := s₂.slotsUsed } : State) = { U.setFrames U.frames with heap := s₂.heap, slotsUsed := s₂.slotsUsed }
      rw [State.setFrames_self ht]
    subst hg
    refine Or.inl ⟨v, ⟨(({ U with heap := s₂.heap, slotsUsed := s₂.slotsUsed } : State).setVm s₂.vm), Ls ++ L, c0 + mc, s0 + ms⟩,
      ⟨X.admits, X.cas, X.clock, X.frames, X.room, X.hears, X.method, X.code, (X.here.setHeapUsed s₂.heap s₂.slotsUsed).setVm hW'.alike, X.tail, State.WarmedH.trans X.warmed hW', X.limits, X.bytes, X.same.trans (hsame.setVm s.vm)⟩,
      ⟨g, mk, s₂, L, rfl, rfl, hqc, rfl, hL, rfl, rfl⟩, ?_⟩
    show Steps p.tables e below _ ((({ U with heap := s₂.heap, slotsUsed := s₂.slotsUsed } : State).setVm s₂.vm).setTop { g with pc := g.pc + len₂, stack := v.toList ++ g.stack })
    rw [← hs₂]
    exact hsteps
  · obtain ⟨e2, q2, q3, q4, q5, q6⟩ := id hsm
    have e3 : s₂ = ({ (U.calling g mk a).setFrames s₂.frames with heap := s₂.heap, slotsUsed := s₂.slotsUsed } : State).setVm s₂.vm := by
      have : s₂ = ({ s₂ with vm := (U.calling g mk a).vm } : State).setVm s₂.vm := rfl
      rw [e2] at this
      exact this
    have hf₂ : s₂.frames = .throwing q :: .java g :: U.frames.tail := hend
    have hW' : U.WarmedH s₂.vm := hW₂
    have hs₂ : s₂ = ((({ U with heap := s₂.heap, slotsUsed := s₂.slotsUsed } : State).setVm s₂.vm).setTop g).pushFrame (.throwing q) := by
      refine e3.trans ?_
      rw [hf₂, State.calling_eq h.top, State.setFrames_setFrames, State.pushFrame, State.frames_setTop _ hr', State.setTop_of_frames _ hr', State.setFrames_setFrames, hr]
      rfl
    have hsame : U.sameButNew ({ U with heap := s₂.heap, slotsUsed := s₂.slotsUsed } : State) L mc ms := by
      refine ⟨?_, q2, q3, q4, q5, q6⟩
      obtain ⟨t, ht, -⟩ := State.frames_cons hr
      show ({ U with heap := s₂.heap, slotsUsed := s₂.slotsUsed } : State) = { U.setFrames U.frames with heap := s₂.heap, slotsUsed := s₂.slotsUsed }
      rw [State.setFrames_self ht]
    subst hg
    refine Or.inr ⟨q, ⟨(({ U with heap := s₂.heap, slotsUsed := s₂.slotsUsed } : State).setVm s₂.vm), Ls ++ L, c0 + mc, s0 + ms⟩,
      ⟨X.admits, X.cas, X.clock, X.frames, X.room, X.hears, X.method, X.code, (X.here.setHeapUsed s₂.heap s₂.slotsUsed).setVm hW'.alike, X.tail, State.WarmedH.trans X.warmed hW', X.limits, X.bytes, X.same.trans (hsame.setVm s.vm)⟩,
      ⟨g, mk, s₂, L, E, ce, rfl, rfl, hx, hce, hcv, hcl, rfl, hL, rfl, rfl⟩, ?_⟩
    show Steps p.tables e below _ (((({ U with heap := s₂.heap, slotsUsed := s₂.slotsUsed } : State).setVm s₂.vm).setTop g).pushFrame (.throwing q))
    rw [← hs₂]
    exact hsteps
end Payer
section Calls
variable {p : Program} {l : Launch} {e : Env} {R : Room} {s : State} {m : MethodId} {args : Array Value} {below : List Frame} {meth : Method} {c : Code} {T : State} {locs : List Loc} {cells slots : Nat}
theorem vx_callV (X : Stand p l e R s m args below meth c T locs cells slots) (hexec : p.tables.exec = Jvm.exec) {own C : String} {index : Nat} {y : MethodName} {bytes : ByteArray} {maxL : Nat} {ret : Option FieldType}
    (hown : s.vm.findClass own = some m.cls) (hlink : (Cond.methodLink own index y).before args s = true) (hinst : (Cond.instanceMethod y).before args s = true) (hsel : (Cond.selects C y y).before args s = true)
    (hcode : (Cond.code y bytes maxL ret).before args s = true) (hy : y.cls ≠ "java/lang/invoke/MethodHandle" ∧ y.cls ≠ "java/lang/invoke/VarHandle")
    {W9 : Nat} {Pre : Pt → Array Value → Prop} {Post : Pt → Array Value → Option Value → Pt → Prop} {PostX : Pt → Array Value → Addr → Pt → Prop} (hK : vx_Back l R p e below s args y 3 W9 Pre Post PostX)
    {b : Addr} {cellB : Cell} (hcell : T.heap[b]? = some cellB) (hobj : cellB.vm.isStatics = false) (hcls : s.vm.findClass C = some cellB.cls)
    {g : JFrame} (hg : g.method = m) (hsize : g.locals.size = c.maxLocals) {argsL rest : List Value} (hlen : ∀ sig, parseMethodDescriptor y.desc = some sig → argsL.length = sig.parameters.length)
    (hstack : g.stack = argsL.reverse ++ .ref b :: rest) (hW : 2 * g.monitorRoom + (rest.map fun v => v.category).sum ≤ W9) (hdg : decode c.code g.pc = .ok (.invokevirtual index, 3))
    (hpre : ∀ vm₁, s.WarmedH vm₁ → Pre ⟨T.setVm vm₁, locs, cells, slots⟩ (Value.ref b :: argsL).toArray) :
    (∃ (v : Option Value) (vm₁ : Vm) (B : Pt), s.WarmedH vm₁ ∧ Stand p l e R s m args below meth c B.U B.locs B.cells B.slots ∧ Post ⟨T.setVm vm₁, locs, cells, slots⟩ (Value.ref b :: argsL).toArray v B ∧
      ∀ target, Steps p.tables e below (B.U.setTop { g with pc := g.pc + 3, stack := v.toList ++ rest }) target → Steps p.tables e below (T.setTop g) target) ∨
    (∃ (q : Addr) (vm₁ : Vm) (B : Pt), s.WarmedH vm₁ ∧ Stand p l e R s m args below meth c B.U B.locs B.cells B.slots ∧ PostX ⟨T.setVm vm₁, locs, cells, slots⟩ (Value.ref b :: argsL).toArray q B ∧
      Steps p.tables e below (T.setTop g) ((B.U.setTop { g with stack := rest }).pushFrame (.throwing q))) := by
  obtain ⟨mk, methM, hnamed, hmethM, hstM, habM⟩ := Cond.instanceMethod_spec hinst
  obtain ⟨methM', cM, hmethM', -, -, -, -, -, -, hsigM⟩ := Cond.code_spec hnamed hcode
  cases hmethM.symm.trans hmethM'
  obtain ⟨c2, r2, m2, q1, q2, q3, q4, kP, hkP, hkPi⟩ := Cond.selects_spec hsel
  cases hcls.symm.trans q1
  cases (State.methodFound?_of_named hnamed hy).symm.trans q2
  cases hnamed.symm.trans q3
  have hselP : selectMethod e.platform s.vm cellB.cls mk = .method mk := by rw [Launch.admits_selectMethod X.admits]; exact q4
  obtain ⟨vm₁, X₁, hstep₁⟩ := X.invokevirtual hexec hown hlink hnamed hmethM hstM hkP hkPi hy (a := b) (cell := cellB) hcell
    (fun z h => by rw [h] at hobj; cases hobj) hselP hmethM habM hkP hkPi (g := g) hg (argsL := argsL) (rest := rest) (hlen _ hsigM) hstack hdg
  rcases hK m meth c ⟨T.setVm vm₁, locs, cells, slots⟩ { g with stack := rest } (.invokevirtual index) mk (Value.ref b :: argsL).toArray X₁ hg hsize hdg hW (X₁.named hnamed) (hpre vm₁ X₁.warmed) with ⟨v, B, X', hpost, hsteps⟩ | ⟨q, B, X', hpost, hsteps⟩
  · exact Or.inl ⟨v, vm₁, B, X₁.warmed, X', hpost, fun target h => hstep₁ _ fun acts => by rw [doInvoke_state]; exact hsteps.trans h⟩
  · exact Or.inr ⟨q, vm₁, B, X₁.warmed, X', hpost, hstep₁ _ fun acts => by rw [doInvoke_state]; exact hsteps⟩
theorem vx_callS (X : Stand p l e R s m args below meth c T locs cells slots) (hexec : p.tables.exec = Jvm.exec) {own : String} {index : Nat} {y : MethodName} {bytes : ByteArray} {maxL : Nat} {ret : Option FieldType}
    (hown : s.vm.findClass own = some m.cls) (hlink : (Cond.methodLink own index y).before args s = true) (hstat : (Cond.static y).before args s = true) (hinit : (Cond.initialized y.cls).before args s = true)
    (hcode : (Cond.code y bytes maxL ret).before args s = true) (hy : y.cls ≠ "java/lang/invoke/MethodHandle" ∧ y.cls ≠ "java/lang/invoke/VarHandle")
    {W9 : Nat} {Pre : Pt → Array Value → Prop} {Post : Pt → Array Value → Option Value → Pt → Prop} {PostX : Pt → Array Value → Addr → Pt → Prop} (hK : vx_Back l R p e below s args y 3 W9 Pre Post PostX)
    {g : JFrame} (hg : g.method = m) (hsize : g.locals.size = c.maxLocals) {argsL rest : List Value} (hlen : ∀ sig, parseMethodDescriptor y.desc = some sig → argsL.length = sig.parameters.length)
    (hstack : g.stack = argsL.reverse ++ rest) (hW : 2 * g.monitorRoom + (rest.map fun v => v.category).sum ≤ W9) (hdg : decode c.code g.pc = .ok (.invokestatic index, 3))
    (hpre : ∀ vm₁, s.WarmedH vm₁ → Pre ⟨T.setVm vm₁, locs, cells, slots⟩ argsL.toArray) :
    (∃ (v : Option Value) (vm₁ : Vm) (B : Pt), s.WarmedH vm₁ ∧ Stand p l e R s m args below meth c B.U B.locs B.cells B.slots ∧ Post ⟨T.setVm vm₁, locs, cells, slots⟩ argsL.toArray v B ∧
      ∀ target, Steps p.tables e below (B.U.setTop { g with pc := g.pc + 3, stack := v.toList ++ rest }) target → Steps p.tables e below (T.setTop g) target) ∨
    (∃ (q : Addr) (vm₁ : Vm) (B : Pt), s.WarmedH vm₁ ∧ Stand p l e R s m args below meth c B.U B.locs B.cells B.slots ∧ PostX ⟨T.setVm vm₁, locs, cells, slots⟩ argsL.toArray q B ∧
      Steps p.tables e below (T.setTop g) ((B.U.setTop { g with stack := rest }).pushFrame (.throwing q))) := by
  obtain ⟨mk, hnamed⟩ := Cond.code_named hcode
  obtain ⟨methM, cM, hmethM, -, -, -, -, -, -, hsigM⟩ := Cond.code_spec hnamed hcode
  have hstatic : methM.isStatic = true := Cond.static_spec hnamed hmethM hstat
  obtain ⟨kP, hkP, -⟩ := className_of_methodNamed hnamed
  have hinitP : kP.init = .initialized := Cond.initialized_spec (findClass_of_methodNamed hnamed) hkP hinit
  obtain ⟨vm₁, X₁, hstep₁⟩ := X.invokestatic hexec hown hlink hnamed hmethM hstatic hkP hinitP hy (g := g) hg (argsL := argsL) (rest := rest) (hlen _ hsigM) hstack hdg
  rcases hK m meth c ⟨T.setVm vm₁, locs, cells, slots⟩ { g with stack := rest } (.invokestatic index) mk argsL.toArray X₁ hg hsize hdg hW (X₁.named hnamed) (hpre vm₁ X₁.warmed) with ⟨v, B, X', hpost, hsteps⟩ | ⟨q, B, X', hpost, hsteps⟩
  · exact Or.inl ⟨v, vm₁, B, X₁.warmed, X', hpost, fun target h => hstep₁ _ fun acts => by rw [doInvoke_state]; exact hsteps.trans h⟩
  · exact Or.inr ⟨q, vm₁, B, X₁.warmed, X', hpost, hstep₁ _ fun acts => by rw [doInvoke_state]; exact hsteps⟩
end Calls
theorem vx_cls {s : State} {T : State} {vm₁ : Vm} {E : String} {k : ClassId} (hW : s.WarmedH vm₁) (h : (T.setVm vm₁).vm.findClass E = some k) : s.vm.findClass E = some k := by
  have h1 : vm₁.findClass E = some k := h
  rw [hW.alike.findClass] at h1
  exact h1
/-- the method's frame g, with q thrown over it -/
def vx_W (p : Program) (l : Launch) (e : Env) (R : Room) (s : State) (m : MethodId) (args : Array Value) (below : List Frame) (meth : Method) (c : Code) (H : Heap) (locs : List Loc) (cells slots : Nat) (Q : State → Prop) (g : JFrame) (q : Addr) : Prop :=
  ∀ T : State, T.heap = H → Stand p l e R s m args below meth c T locs cells slots → ∃ t, Steps p.tables e below ((T.setTop g).pushFrame (.throwing q)) t ∧ Q t
def vx_Run (p : Program) (l : Launch) (e : Env) (R : Room) (s : State) (m : MethodId) (args : Array Value) (below : List Frame) (meth : Method) (c : Code) (H : Heap) (locs : List Loc) (cells slots mc ms : Nat) (g : JFrame) (rest : List Value) (Qa : State → Outcome → State → Prop) (XC : String → State → State → Prop) (free : Addr → Prop) : Prop :=
  ∀ T : State, T.heap = H → Stand p l e R s m args below meth c T locs cells slots →
    (∃ (v : Option Value) (st₀ t T' : State) (L : List Loc), st₀.heap = H ∧ Stand p l e R s m args below meth c T' (locs ++ L) (cells + mc) (slots + ms) ∧ (∀ q ∈ L, free q.base) ∧ T'.heap = t.heap ∧ T'.vm = t.vm ∧ Qa st₀ (.returned v) t ∧
      Goes p e below T g T' { g with pc := g.pc + 3, stack := v.toList ++ rest }) ∨
    (∃ (q : Addr) (st₀ t T' : State) (L : List Loc) (E : String) (ce : Cell), st₀.heap = H ∧ Stand p l e R s m args below meth c T' (locs ++ L) (cells + mc) (slots + ms) ∧ (∀ z ∈ L, free z.base) ∧ T'.heap = t.heap ∧ T'.vm = t.vm ∧ XC E st₀ t ∧ t.heap[q]? = some ce ∧ ce.vm = .none ∧ s.vm.findClass E = some ce.cls ∧
      Steps p.tables e below (T.setTop g) ((T'.setTop { g with stack := rest }).pushFrame (.throwing q)))
def vx_X {S : Type} (px : S → Prop) (B : String → S → State → Prop) (A : Nat → Prop) : String → State → State → Prop := fun E st t => ∃ u : S, px u ∧ B E u t ∧ va_F A st t
section Runs
variable {p : Program} {l : Launch} {e : Env} {R : Room} {s : State} {m : MethodId} {args : Array Value} {below : List Frame} {meth : Method} {c : Code} {H : Heap} {locs : List Loc} {cells slots : Nat}
variable {y : MethodName} {bytes cc : ByteArray} {maxL nL mc ms n index : Nat} {ret : Option FieldType} {ws : List Cond} {rm : Room} {Pc : Array Value → State → Prop} {Qc : Array Value → State → Outcome → State → Prop} {XC : String → State → State → Prop} {free : Addr → Prop} {Ts : List Cond} {own C : String} {b : Addr} {As rest : List Value} {g : JFrame}
theorem vx_callBack (cb : CallB R s args own index y bytes maxL ret ws rm mc ms n) (hM : vx_Met l y ws rm Pc Qc XC mc ms free) (hbl : FrameBlind Pc) : vx_Back l R p e below s args y 3 8 (PreOf R mc ms Pc) (PostOf Qc mc ms free) (vx_Post XC mc ms free) := by
  obtain ⟨hrc, hrs, hfr, hlo, hws, hcw, -, hini, -⟩ := cb
  exact vx_back (bytes := bytes) (maxL := maxL) (ret := ret) hM hbl hrc hrs hfr hlo hws hcw (fun a' U hW => word_at hW (Or.inl (by first | rfl | simp [Cond.onTables, Cond.keeps, Cond.steady])) hini)
theorem vx_runV (S : CallFix p m c cc nL s args Ts own) (hM : vx_Met l y ws rm Pc Qc XC mc ms free) (cw : CallW R s args own C index y bytes maxL ret ws rm mc ms n) (hp : PreV s H C b Pc As)
    (hg : g.method = m) (hn : As.length = n) (hsize : g.locals.size = nL) (hstack : g.stack = As.reverse ++ .ref b :: rest) (hW : 2 * g.monitorRoom + (rest.map fun v => v.category).sum ≤ 8) (hdg : decode cc g.pc = .ok (.invokevirtual index, 3)) (hf : cells + mc ≤ R.cells ∧ slots + ms ≤ R.slots) :
    vx_Run p l e R s m args below meth c H locs cells slots mc ms g rest (Qc (Value.ref b :: As).toArray) XC free := by
  have hK : vx_Back l R p e below s args y 3 8 (PreOf R mc ms Pc) (PostOf Qc mc ms free) (vx_Post XC mc ms free) := vx_callBack cw.1 hM hp.1
  obtain ⟨⟨-, -, -, -, -, -, hcode, -, hy, hlen, hl⟩, hin, hse⟩ := cw
  obtain ⟨hx, hb, hml, ho, -⟩ := S
  obtain ⟨-, ⟨cellB, hcB, hoB, hclB⟩, hPc⟩ := hp
  intro T hT X
  rcases vx_callV X hx (C := C) (bytes := bytes) (maxL := maxL) (ret := ret) ho hl hin hse hcode hy hK (by rw [hT]; exact hcB) hoB hclB hg (hsize.trans hml.symm) (argsL := As) (rest := rest) (fun sig h => hn.trans (hlen sig h)) hstack hW (by rw [hb]; exact hdg)
    (fun vm₁ hW₁ => ⟨hf.1, hf.2, hPc (T.setVm vm₁) hT hW₁⟩) with ⟨v, vm₁, ⟨U', l2, c2, s2⟩, hW₁, X', ⟨g', mk, t, L, e1, e2, hq, h1, hL, h2, h3⟩, st⟩ | ⟨q, vm₁, ⟨U', l2, c2, s2⟩, hW₁, X', ⟨g', mk, t, L, E, ce, e1, e2, hq, hce, hcv, hcl, h1, hL, h2, h3⟩, st⟩
  · dsimp only [Pt.U, Pt.locs, Pt.cells, Pt.slots] at X' e1 e2 h1 h2 h3 st
    subst h1; subst h2; subst h3
    exact Or.inl ⟨v, (T.setVm vm₁).calling g' mk (Value.ref b :: As).toArray, t, U', L, hT, X', hL, e1, e2, hq, st⟩
  · dsimp only [Pt.U, Pt.locs, Pt.cells, Pt.slots] at X' e1 e2 h1 h2 h3 st hcl
    subst h1; subst h2; subst h3
    exact Or.inr ⟨q, (T.setVm vm₁).calling g' mk (Value.ref b :: As).toArray, t, U', L, E, ce, hT, X', hL, e1, e2, hq, hce, hcv, vx_cls hW₁ hcl, st⟩
theorem vx_runS (S : CallFix p m c cc nL s args Ts own) (hM : vx_Met l y ws rm Pc Qc XC mc ms free) (cw : CallB R s args own index y bytes maxL ret ws rm mc ms n ∧ (Cond.static y).before args s = true) (hp : PreS s H Pc As)
    (hg : g.method = m) (hn : As.length = n) (hsize : g.locals.size = nL) (hstack : g.stack = As.reverse ++ rest) (hW : 2 * g.monitorRoom + (rest.map fun v => v.category).sum ≤ 8) (hdg : decode cc g.pc = .ok (.invokestatic index, 3)) (hf : cells + mc ≤ R.cells ∧ slots + ms ≤ R.slots) :
    vx_Run p l e R s m args below meth c H locs cells slots mc ms g rest (Qc As.toArray) XC free := by
  have hK : vx_Back l R p e below s args y 3 8 (PreOf R mc ms Pc) (PostOf Qc mc ms free) (vx_Post XC mc ms free) := vx_callBack cw.1 hM hp.1
  obtain ⟨⟨-, -, -, -, -, -, hcode, hini, hy, hlen, hl⟩, hstt⟩ := cw
  obtain ⟨hx, hb, hml, ho, -⟩ := S
  intro T hT X
  rcases vx_callS X hx (bytes := bytes) (maxL := maxL) (ret := ret) ho hl hstt hini hcode hy hK hg (hsize.trans hml.symm) (argsL := As) (rest := rest) (fun sig h => hn.trans (hlen sig h)) hstack hW (by rw [hb]; exact hdg)
    (fun vm₁ hW₁ => ⟨hf.1, hf.2, hp.2 (T.setVm vm₁) hT hW₁⟩) with ⟨v, vm₁, ⟨U', l2, c2, s2⟩, hW₁, X', ⟨g', mk, t, L, e1, e2, hq, h1, hL, h2, h3⟩, st⟩ | ⟨q, vm₁, ⟨U', l2, c2, s2⟩, hW₁, X', ⟨g', mk, t, L, E, ce, e1, e2, hq, hce, hcv, hcl, h1, hL, h2, h3⟩, st⟩
  · dsimp only [Pt.U, Pt.locs, Pt.cells, Pt.slots] at X' e1 e2 h1 h2 h3 st
    subst h1; subst h2; subst h3
    exact Or.inl ⟨v, (T.setVm vm₁).calling g' mk As.toArray, t, U', L, hT, X', hL, e1, e2, hq, st⟩
  · dsimp only [Pt.U, Pt.locs, Pt.cells, Pt.slots] at X' e1 e2 h1 h2 h3 st hcl
    subst h1; subst h2; subst h3
    exact Or.inr ⟨q, (T.setVm vm₁).calling g' mk As.toArray, t, U', L, E, ce, hT, X', hL, e1, e2, hq, hce, hcv, vx_cls hW₁ hcl, st⟩
end Runs
section Rows
variable {p : Program} {l : Launch} {e : Env} {R : Room} {s : State} {m : MethodId} {args : Array Value} {below : List Frame} {meth : Method} {c : Code} {H : Heap} {locs : List Loc} {cells slots : Nat} {Q : State → Prop}
variable {mc ms : Nat} {free : Addr → Prop} {A0 A1 : Nat → Prop} {H0 : Heap} {a : Array Value} {pc : Nat} {ls : Array Slot} {st0 rest : List Value}
theorem vx_keep {st₀ t T' : State} {L : List Loc} (h0 : st₀.heap = H) (e1 : T'.heap = t.heap) (hS : va_S A0 H0 H locs) (hA : ∀ q, q < H.size → A1 q → A0 q) (hf : ∀ q, free q → A0 q) (hL : ∀ q ∈ L, free q.base) (hF : va_F A1 st₀ t) :
    H.size ≤ T'.heap.size ∧ (∀ q : Nat, q < H.size → ¬ A1 q → T'.heap[q]? = H[q]?) ∧ va_S A0 H0 T'.heap (locs ++ L) := by
  obtain ⟨hz, hk⟩ := hF
  rw [h0] at hz hk
  exact ⟨by rw [e1]; exact hz, fun q h1 h2 => by rw [e1]; exact hk q h1 h2,
    ⟨Nat.le_trans hS.1 (by rw [e1]; exact hz), fun q h1 h2 => by rw [e1, hk q (Nat.lt_of_lt_of_le h1 hS.1) (fun z => h2 (hA q (Nat.lt_of_lt_of_le h1 hS.1) z))]; exact hS.2.1 q h1 h2, fun q hq => by
      rcases List.mem_append.mp hq with h | h
      · exact hS.2.2 q h
      · exact hf _ (hL q h)⟩⟩
theorem vx_calli {S SX : Type} {post : Int32 → S → Prop} {px : SX → Prop} {B : S → State → Prop} {BX : String → SX → State → Prop} {AX : Nat → Prop} (hr : vx_Run p l e R s m args below meth c H locs cells slots mc ms (F0 m pc ls st0) rest (va_Qi post B A1 a) (vx_X px BX AX) free) (hS : va_S A0 H0 H locs) (hA : ∀ q, q < H.size → A1 q → A0 q) (hf : ∀ q, free q → A0 q) (hAX : ∀ q, q < H.size → AX q → A0 q)
    (kx : ∀ (E : String) (ce : Cell) (q9 : Addr) (u : SX) (t : State) (H1 : Heap) (locs1 : List Loc), t.heap = H1 → s.vm.Alike t.vm → px u → BX E u t → H.size ≤ H1.size → (∀ q : Nat, q < H.size → ¬ AX q → H1[q]? = H[q]?) → va_S A0 H0 H1 locs1 → H1[q9]? = some ce → ce.vm = .none → s.vm.findClass E = some ce.cls → vx_W p l e R s m args below meth c H1 locs1 (cells + mc) (slots + ms) Q (F0 m pc ls rest) q9)
    (kk : ∀ (r : Int32) (u : S) (t : State) (H1 : Heap) (locs1 : List Loc), t.heap = H1 → s.vm.Alike t.vm → post r u → B u t → H.size ≤ H1.size → (∀ q : Nat, q < H.size → ¬ A1 q → H1[q]? = H[q]?) → va_S A0 H0 H1 locs1 → W p l e R s m args below meth c H1 locs1 (cells + mc) (slots + ms) Q (F0 m (pc + 3) ls (.int r :: rest))) : W p l e R s m args below meth c H locs cells slots Q (F0 m pc ls st0) := by
  intro T hT X
  rcases hr T hT X with ⟨v, st₀, t, T', L, h0, X', hL, e1, e2, ⟨⟨r, u, hv, hp, hb⟩, hF⟩, st⟩ | ⟨q, st₀, t, T', L, E, ce, h0, X', hL, e1, e2, ⟨u, hp, hb, hF⟩, hce, hcv, hcl, st⟩
  · cases hv
    obtain ⟨k1, k2, k3⟩ := vx_keep h0 e1 hS hA hf hL hF
    obtain ⟨t2, a1, b1⟩ := kk r u t T'.heap (locs ++ L) e1.symm (by rw [← e2]; exact X'.warmed.alike) hp hb k1 k2 k3 T' rfl X'
    exact ⟨t2, st t2 a1, b1⟩
  · obtain ⟨k1, k2, k3⟩ := vx_keep h0 e1 hS hAX hf hL hF
    obtain ⟨t2, a1, b1⟩ := kx E ce q u t T'.heap (locs ++ L) e1.symm (by rw [← e2]; exact X'.warmed.alike) hp hb k1 k2 k3 (by rw [e1]; exact hce) hcv hcl T' rfl X'
    exact ⟨t2, st.trans a1, b1⟩
theorem vx_calll {S SX : Type} {post : Int64 → S → Prop} {px : SX → Prop} {B : S → State → Prop} {BX : String → SX → State → Prop} {AX : Nat → Prop} (hr : vx_Run p l e R s m args below meth c H locs cells slots mc ms (F0 m pc ls st0) rest (va_Ql post B A1 a) (vx_X px BX AX) free) (hS : va_S A0 H0 H locs) (hA : ∀ q, q < H.size → A1 q → A0 q) (hf : ∀ q, free q → A0 q) (hAX : ∀ q, q < H.size → AX q → A0 q)
    (kx : ∀ (E : String) (ce : Cell) (q9 : Addr) (u : SX) (t : State) (H1 : Heap) (locs1 : List Loc), t.heap = H1 → s.vm.Alike t.vm → px u → BX E u t → H.size ≤ H1.size → (∀ q : Nat, q < H.size → ¬ AX q → H1[q]? = H[q]?) → va_S A0 H0 H1 locs1 → H1[q9]? = some ce → ce.vm = .none → s.vm.findClass E = some ce.cls → vx_W p l e R s m args below meth c H1 locs1 (cells + mc) (slots + ms) Q (F0 m pc ls rest) q9)
    (kk : ∀ (r : Int64) (u : S) (t : State) (H1 : Heap) (locs1 : List Loc), t.heap = H1 → s.vm.Alike t.vm → post r u → B u t → H.size ≤ H1.size → (∀ q : Nat, q < H.size → ¬ A1 q → H1[q]? = H[q]?) → va_S A0 H0 H1 locs1 → W p l e R s m args below meth c H1 locs1 (cells + mc) (slots + ms) Q (F0 m (pc + 3) ls (.long r :: rest))) : W p l e R s m args below meth c H locs cells slots Q (F0 m pc ls st0) := by
  intro T hT X
  rcases hr T hT X with ⟨v, st₀, t, T', L, h0, X', hL, e1, e2, ⟨⟨r, u, hv, hp, hb⟩, hF⟩, st⟩ | ⟨q, st₀, t, T', L, E, ce, h0, X', hL, e1, e2, ⟨u, hp, hb, hF⟩, hce, hcv, hcl, st⟩
  · cases hv
    obtain ⟨k1, k2, k3⟩ := vx_keep h0 e1 hS hA hf hL hF
    obtain ⟨t2, a1, b1⟩ := kk r u t T'.heap (locs ++ L) e1.symm (by rw [← e2]; exact X'.warmed.alike) hp hb k1 k2 k3 T' rfl X'
    exact ⟨t2, st t2 a1, b1⟩
  · obtain ⟨k1, k2, k3⟩ := vx_keep h0 e1 hS hAX hf hL hF
    obtain ⟨t2, a1, b1⟩ := kx E ce q u t T'.heap (locs ++ L) e1.symm (by rw [← e2]; exact X'.warmed.alike) hp hb k1 k2 k3 (by rw [e1]; exact hce) hcv hcl T' rfl X'
    exact ⟨t2, st.trans a1, b1⟩
theorem vx_callf {S SX : Type} {post : UInt32 → S → Prop} {px : SX → Prop} {B : S → State → Prop} {BX : String → SX → State → Prop} {AX : Nat → Prop} (hr : vx_Run p l e R s m args below meth c H locs cells slots mc ms (F0 m pc ls st0) rest (va_Qf post B A1 a) (vx_X px BX AX) free) (hS : va_S A0 H0 H locs) (hA : ∀ q, q < H.size → A1 q → A0 q) (hf : ∀ q, free q → A0 q) (hAX : ∀ q, q < H.size → AX q → A0 q)
    (kx : ∀ (E : String) (ce : Cell) (q9 : Addr) (u : SX) (t : State) (H1 : Heap) (locs1 : List Loc), t.heap = H1 → s.vm.Alike t.vm → px u → BX E u t → H.size ≤ H1.size → (∀ q : Nat, q < H.size → ¬ AX q → H1[q]? = H[q]?) → va_S A0 H0 H1 locs1 → H1[q9]? = some ce → ce.vm = .none → s.vm.findClass E = some ce.cls → vx_W p l e R s m args below meth c H1 locs1 (cells + mc) (slots + ms) Q (F0 m pc ls rest) q9)
    (kk : ∀ (r : UInt32) (u : S) (t : State) (H1 : Heap) (locs1 : List Loc), t.heap = H1 → s.vm.Alike t.vm → post r u → B u t → H.size ≤ H1.size → (∀ q : Nat, q < H.size → ¬ A1 q → H1[q]? = H[q]?) → va_S A0 H0 H1 locs1 → W p l e R s m args below meth c H1 locs1 (cells + mc) (slots + ms) Q (F0 m (pc + 3) ls (.float r :: rest))) : W p l e R s m args below meth c H locs cells slots Q (F0 m pc ls st0) := by
  intro T hT X
  rcases hr T hT X with ⟨v, st₀, t, T', L, h0, X', hL, e1, e2, ⟨⟨r, u, hv, hp, hb⟩, hF⟩, st⟩ | ⟨q, st₀, t, T', L, E, ce, h0, X', hL, e1, e2, ⟨u, hp, hb, hF⟩, hce, hcv, hcl, st⟩
  · cases hv
    obtain ⟨k1, k2, k3⟩ := vx_keep h0 e1 hS hA hf hL hF
    obtain ⟨t2, a1, b1⟩ := kk r u t T'.heap (locs ++ L) e1.symm (by rw [← e2]; exact X'.warmed.alike) hp hb k1 k2 k3 T' rfl X'
    exact ⟨t2, st t2 a1, b1⟩
  · obtain ⟨k1, k2, k3⟩ := vx_keep h0 e1 hS hAX hf hL hF
    obtain ⟨t2, a1, b1⟩ := kx E ce q u t T'.heap (locs ++ L) e1.symm (by rw [← e2]; exact X'.warmed.alike) hp hb k1 k2 k3 (by rw [e1]; exact hce) hcv hcl T' rfl X'
    exact ⟨t2, st.trans a1, b1⟩
theorem vx_calld {S SX : Type} {post : UInt64 → S → Prop} {px : SX → Prop} {B : S → State → Prop} {BX : String → SX → State → Prop} {AX : Nat → Prop} (hr : vx_Run p l e R s m args below meth c H locs cells slots mc ms (F0 m pc ls st0) rest (va_Qd post B A1 a) (vx_X px BX AX) free) (hS : va_S A0 H0 H locs) (hA : ∀ q, q < H.size → A1 q → A0 q) (hf : ∀ q, free q → A0 q) (hAX : ∀ q, q < H.size → AX q → A0 q)
    (kx : ∀ (E : String) (ce : Cell) (q9 : Addr) (u : SX) (t : State) (H1 : Heap) (locs1 : List Loc), t.heap = H1 → s.vm.Alike t.vm → px u → BX E u t → H.size ≤ H1.size → (∀ q : Nat, q < H.size → ¬ AX q → H1[q]? = H[q]?) → va_S A0 H0 H1 locs1 → H1[q9]? = some ce → ce.vm = .none → s.vm.findClass E = some ce.cls → vx_W p l e R s m args below meth c H1 locs1 (cells + mc) (slots + ms) Q (F0 m pc ls rest) q9)
    (kk : ∀ (r : UInt64) (u : S) (t : State) (H1 : Heap) (locs1 : List Loc), t.heap = H1 → s.vm.Alike t.vm → post r u → B u t → H.size ≤ H1.size → (∀ q : Nat, q < H.size → ¬ A1 q → H1[q]? = H[q]?) → va_S A0 H0 H1 locs1 → W p l e R s m args below meth c H1 locs1 (cells + mc) (slots + ms) Q (F0 m (pc + 3) ls (.double r :: rest))) : W p l e R s m args below meth c H locs cells slots Q (F0 m pc ls st0) := by
  intro T hT X
  rcases hr T hT X with ⟨v, st₀, t, T', L, h0, X', hL, e1, e2, ⟨⟨r, u, hv, hp, hb⟩, hF⟩, st⟩ | ⟨q, st₀, t, T', L, E, ce, h0, X', hL, e1, e2, ⟨u, hp, hb, hF⟩, hce, hcv, hcl, st⟩
  · cases hv
    obtain ⟨k1, k2, k3⟩ := vx_keep h0 e1 hS hA hf hL hF
    obtain ⟨t2, a1, b1⟩ := kk r u t T'.heap (locs ++ L) e1.symm (by rw [← e2]; exact X'.warmed.alike) hp hb k1 k2 k3 T' rfl X'
    exact ⟨t2, st t2 a1, b1⟩
  · obtain ⟨k1, k2, k3⟩ := vx_keep h0 e1 hS hAX hf hL hF
    obtain ⟨t2, a1, b1⟩ := kx E ce q u t T'.heap (locs ++ L) e1.symm (by rw [← e2]; exact X'.warmed.alike) hp hb k1 k2 k3 (by rw [e1]; exact hce) hcv hcl T' rfl X'
    exact ⟨t2, st.trans a1, b1⟩
theorem vx_callv {S SX : Type} {post : S → Prop} {px : SX → Prop} {B : S → State → Prop} {BX : String → SX → State → Prop} {AX : Nat → Prop} (hr : vx_Run p l e R s m args below meth c H locs cells slots mc ms (F0 m pc ls st0) rest (va_Qv post B A1 a) (vx_X px BX AX) free) (hS : va_S A0 H0 H locs) (hA : ∀ q, q < H.size → A1 q → A0 q) (hf : ∀ q, free q → A0 q) (hAX : ∀ q, q < H.size → AX q → A0 q)
    (kx : ∀ (E : String) (ce : Cell) (q9 : Addr) (u : SX) (t : State) (H1 : Heap) (locs1 : List Loc), t.heap = H1 → s.vm.Alike t.vm → px u → BX E u t → H.size ≤ H1.size → (∀ q : Nat, q < H.size → ¬ AX q → H1[q]? = H[q]?) → va_S A0 H0 H1 locs1 → H1[q9]? = some ce → ce.vm = .none → s.vm.findClass E = some ce.cls → vx_W p l e R s m args below meth c H1 locs1 (cells + mc) (slots + ms) Q (F0 m pc ls rest) q9)
    (kk : ∀ (u : S) (t : State) (H1 : Heap) (locs1 : List Loc), t.heap = H1 → s.vm.Alike t.vm → post u → B u t → H.size ≤ H1.size → (∀ q : Nat, q < H.size → ¬ A1 q → H1[q]? = H[q]?) → va_S A0 H0 H1 locs1 → W p l e R s m args below meth c H1 locs1 (cells + mc) (slots + ms) Q (F0 m (pc + 3) ls (rest))) : W p l e R s m args below meth c H locs cells slots Q (F0 m pc ls st0) := by
  intro T hT X
  rcases hr T hT X with ⟨v, st₀, t, T', L, h0, X', hL, e1, e2, ⟨⟨u, hv, hp, hb⟩, hF⟩, st⟩ | ⟨q, st₀, t, T', L, E, ce, h0, X', hL, e1, e2, ⟨u, hp, hb, hF⟩, hce, hcv, hcl, st⟩
  · cases hv
    obtain ⟨k1, k2, k3⟩ := vx_keep h0 e1 hS hA hf hL hF
    obtain ⟨t2, a1, b1⟩ := kk u t T'.heap (locs ++ L) e1.symm (by rw [← e2]; exact X'.warmed.alike) hp hb k1 k2 k3 T' rfl X'
    exact ⟨t2, st t2 a1, b1⟩
  · obtain ⟨k1, k2, k3⟩ := vx_keep h0 e1 hS hAX hf hL hF
    obtain ⟨t2, a1, b1⟩ := kx E ce q u t T'.heap (locs ++ L) e1.symm (by rw [← e2]; exact X'.warmed.alike) hp hb k1 k2 k3 (by rw [e1]; exact hce) hcv hcl T' rfl X'
    exact ⟨t2, st.trans a1, b1⟩
/-- caught by the row x of this method's table; the rows ahead don't take it -/
theorem vx_catch {own name : String} {E : String} {ce : Cell} {q : Addr} (hown : s.vm.findClass own = some m.cls) (pre : List ExceptionTableEntry) (x : ExceptionTableEntry) (suf : List ExceptionTableEntry) (hsplit : c.exceptionTable.toList = pre ++ x :: suf)
    (hpass : ∀ z ∈ pre, covers z pc = false ∨ (z.catchType ≠ 0 ∧ ∃ nm : String, (Cond.classLink own z.catchType nm).before args s = true ∧ va_Nc E nm s)) (hx : covers x pc = true) (h0 : x.catchType ≠ 0)
    (hlink : (Cond.classLink own x.catchType name).before args s = true) (hcast : (Cond.castable E name).before args s = true) (hcell : H[q]? = some ce) (hv : ce.vm = .none) (hcl : s.vm.findClass E = some ce.cls)
    (kk : W p l e R s m args below meth c H locs cells slots Q (F0 m x.handlerPc ls [.ref q])) : vx_W p l e R s m args below meth c H locs cells slots Q (F0 m pc ls rest) q := by
  intro T hT X
  have hpl : e.platform.magicAccessors = ({} : Platform).magicAccessors := by rw [X.admits.platform]
  obtain ⟨c3, c4, hc3, hc4, hasg⟩ := Cond.castable_spec hcast
  cases Option.some.inj (hc3.symm.trans hcl)
  obtain ⟨c5, hc5, hcl5⟩ := Cond.classLink_spec hown hlink e.platform hpl
  cases Option.some.inj (hc4.symm.trans hc5)
  obtain ⟨vm', X', st⟩ := X.thenCaughtThrough q (g := F0 m pc ls rest) rfl (Steps.refl _) (by rw [hT]; exact hcell) (by rw [hv]; rfl) (by obtain ⟨k9, h9, -⟩ := Vm.findClass_spec hcl; exact ⟨k9, h9⟩) pre x suf hsplit
    (fun z hz => by
      rcases hpass z hz with h | ⟨hz0, nm, hl1, hn1⟩
      · exact Or.inl h
      · obtain ⟨c6, hc6, hcl6⟩ := Cond.classLink_spec hown hl1 e.platform hpl
        obtain ⟨a8, b8, h1, h2, h3⟩ := hn1
        cases Option.some.inj (h1.symm.trans hcl)
        cases Option.some.inj (h2.symm.trans hc6)
        exact Or.inr ⟨hz0, _, hcl6, h3⟩) hx (Or.inr ⟨h0, c4, hcl5, hasg⟩)
  obtain ⟨t, a1, b1⟩ := kk (T.setVm vm') hT X'
  exact ⟨t, st.trans a1, b1⟩
end Rows
section Ends
variable {p : Program} {l : Launch} {e : Env} {R : Room} {s : State} {m : MethodId} {args : Array Value} {below : List Frame} {meth : Method} {c : Code} {H : Heap} {locs : List Loc} {cells slots : Nat} {Q : State → Prop}
variable {mc ms : Nat} {free : Addr → Prop} {A0 A1 : Nat → Prop} {H0 : Heap} {a : Array Value} {ls : Array Slot} {st0 rest : List Value}
variable {Qc : Array Value → State → Outcome → State → Prop} {XC : String → State → State → Prop}
/-- what a body that may throw owes at its end -/
def vx_MQ (below : List Frame) (Qc : Array Value → State → Outcome → State → Prop) (XC : String → State → State → Prop) (a : Array Value) (s : State) (mc ms : Nat) (free : Addr → Prop) : State → Prop := fun t =>
  ∃ o, t.status = .running ∧ Ended t below o ∧ vx_Q Qc XC mc ms free a s o t
theorem vx_ret {g : JFrame} {mc ms : Nat} (k : W p l e R s m args below meth c H locs cells slots (MQ below Qc args s mc ms free) g) : W p l e R s m args below meth c H locs cells slots (vx_MQ below Qc XC args s mc ms free) g := by
  intro T hT X
  obtain ⟨t, a1, o, b1, b2, b3, b4⟩ := k T hT X
  exact ⟨t, a1, o, b1, b2, Or.inl ⟨b3, b4⟩⟩
/-- not caught here: it goes on to the caller -/
theorem vx_widen {g : JFrame} {q : Addr} {k n : Nat} (h1 : cells ≤ k) (h2 : slots ≤ n) (kk : vx_W p l e R s m args below meth c H locs k n Q g q) : vx_W p l e R s m args below meth c H locs cells slots Q g q := fun T hT X => kk T hT (stand_widen X h1 h2)
theorem vx_out {pc : Nat} {E : String} {ce : Cell} {q : Addr} {mc ms : Nat} (hout : ∀ x ∈ c.exceptionTable.toList, covers x pc = false) (hlocks : meth.locks = false) (hcell : H[q]? = some ce) (hv : ce.vm = .none) (hcl : s.vm.findClass E = some ce.cls)
    (hx : ∀ t : State, t.heap = H → s.vm.Alike t.vm → XC E s t) (hf : ∀ z ∈ locs, free z.base) (hc : cells ≤ mc) (hs : slots ≤ ms) :
    vx_W p l e R s m args below meth c H locs cells slots (vx_MQ below Qc XC args s mc ms free) (F0 m pc ls rest) q := by
  intro T hT X
  obtain ⟨st1, hrun, hend, hW, hsm⟩ := X.leaveThrown q (g := F0 m pc ls rest) rfl rfl rfl hout hlocks
  have hcell9 : (T.setFrames (.throwing q :: below)).heap[q]? = some ce := by
    show T.heap[q]? = some ce
    rw [hT]; exact hcell
  exact ⟨_, st1, .threw q, hrun, hend, Or.inr ⟨q, rfl, E, ce, locs, hx _ hT hW.alike, hcell9, hv, hcl, hW, hsm.mono hc hs, hf⟩⟩
theorem vx_frame {U : State} {k n : Nat} (h : s.sameButNew ({ U with vm := s.vm } : State) locs k n) : s.heap.size ≤ U.heap.size ∧ ∀ q : Nat, q < s.heap.size → (∀ z ∈ locs, z.base ≠ q) → U.heap[q]? = s.heap[q]? := by
  obtain ⟨-, h2, -, -, -, h6⟩ := h
  refine ⟨h2, fun q hq hz => ?_⟩
  obtain ⟨c9, e1, e2, e3, e4⟩ := h6 q _ (Array.getElem?_eq_getElem hq)
  have hs : c9.slots = (s.heap[q]).slots := Array.ext_getElem? fun i => e4 i fun hm => hz _ hm rfl
  have h9 : c9 = s.heap[q] := by
    rw [hs] at e2
    exact e2
  have e5 : U.heap[q]? = some c9 := e1
  rw [e5, h9, Array.getElem?_eq_getElem hq]
/-- the words of a throw but the four that speak of the heap -/
def vx_no (w : Cond) : Bool := decide (w ≠ .isRef (.static Bundle.tN "UNASSIGNED_STACK" Bundle.steD)) && decide (w ≠ .isRef (.static Bundle.tN "SUPPRESSED_SENTINEL" Bundle.listD)) && decide (w ≠ .laysStatic Bundle.tN "UNASSIGNED_STACK" Bundle.steD) && decide (w ≠ .laysStatic Bundle.tN "SUPPRESSED_SENTINEL" Bundle.listD)
def vx_at0 (own : String) (ic : Nat) (X : String) (names : List String) : List Cond := (Bundle.ownAtoms0 own ic X names).filter vx_no
def vx_atS (own : String) (ic : Nat) (X : String) (names : List String) : List Cond := (Bundle.ownAtoms own ic X names).filter vx_no
/-- a word that the tables alone decide, or a good one -/
def vx_ot (w : Cond) : Bool := w.onTables || goodWord w
theorem vx_ot_at {args a' : Array Value} {s U : State} {w : Cond} (hW : s.WarmedH U.vm) (hvm : s.vm = U.vm) (hg : vx_ot w = true) (h : w.before args s = true) : w.before a' U = true := by
  simp only [vx_ot, Bool.or_eq_true] at hg
  rcases hg with hg | hg
  · exact va_tabs hg hvm h
  · exact word_at hW (good_of_word hg) h
/-- a list's words: the good ones out of the method's own list, the others by premises of their own -/
theorem vx_hat {args : Array Value} {s : State} {L B : List Cond} (h1 : ∀ w ∈ L.filter goodWord, w.before args s = true) (h2 : ∀ w ∈ L.filter (fun w => !goodWord w), w ∈ B) (h3 : ∀ w ∈ B, w.before args s = true) : ∀ w ∈ L, w.before args s = true := by
  intro w hw
  by_cases g : goodWord w = true
  · exact h1 w (List.mem_filter.mpr ⟨hw, g⟩)
  · refine h3 w (h2 w (List.mem_filter.mpr ⟨hw, ?_⟩))
    show (!goodWord w) = true
    cases hgw : goodWord w
    · rfl
    · exact absurd hgw g
theorem vx_c {args : Array Value} {s : State} {w : Cond} {B : List Cond} (h : w.before args s = true) (t : ∀ w ∈ B, w.before args s = true) : ∀ w' ∈ w :: B, w'.before args s = true := fun w' h' => (List.mem_cons.mp h').elim (fun e => by rw [e]; exact h) (t w')
theorem vx_n {args : Array Value} {s : State} : ∀ w ∈ ([] : List Cond), w.before args s = true := fun _ h => nomatch h
theorem vx_own {args : Array Value} {s : State} {L : List Cond} (h1 : ∀ w ∈ L.filter vx_no, w.before args s = true)
    (hU : (Cond.isRef (.static Bundle.tN "UNASSIGNED_STACK" Bundle.steD)).before args s = true) (hN : (Cond.isRef (.static Bundle.tN "SUPPRESSED_SENTINEL" Bundle.listD)).before args s = true)
    (lU : (Cond.laysStatic Bundle.tN "UNASSIGNED_STACK" Bundle.steD).before args s = true) (lN : (Cond.laysStatic Bundle.tN "SUPPRESSED_SENTINEL" Bundle.listD).before args s = true) : ∀ w ∈ L, w.before args s = true := by
  intro w hw
  by_cases e1 : w = .isRef (.static Bundle.tN "UNASSIGNED_STACK" Bundle.steD)
  · rw [e1]; exact hU
  · by_cases e2 : w = .isRef (.static Bundle.tN "SUPPRESSED_SENTINEL" Bundle.listD)
    · rw [e2]; exact hN
    · by_cases e3 : w = .laysStatic Bundle.tN "UNASSIGNED_STACK" Bundle.steD
      · rw [e3]; exact lU
      · by_cases e4 : w = .laysStatic Bundle.tN "SUPPRESSED_SENTINEL" Bundle.listD
        · rw [e4]; exact lN
        · exact h1 w (List.mem_filter.mpr ⟨hw, by unfold vx_no; rw [decide_eq_true e1, decide_eq_true e2, decide_eq_true e3, decide_eq_true e4]; rfl⟩)
/-- where a static field lies, its class's statics cell in H -/
def vx_L (C n d : String) (A : Nat → Prop) (U : State) (H : Heap) : Prop := ∃ (c : ClassId) (k : Class) (i : Nat) (f : Field) (a : Nat) (cell : Cell), U.vm.findClass C = some c ∧ U.fieldFound? C n d = some (c, k, i, f) ∧ f.isStatic = true ∧ k.statics = some a ∧ H[a]? = some cell ∧ cell.vm.isStatics = true ∧ cell.cls = c ∧ f.slot < cell.slots.size ∧ k.staticTypes[f.slot]? = some f.type ∧ ¬ A a
theorem vx_L.moved {C n d : String} {A : Nat → Prop} {u U : State} {H : Heap} (hvm : u.vm.Alike U.vm) (h : vx_L C n d A u H) : vx_L C n d A U H := by
  obtain ⟨c, k, i, f, a, cell, h1, h2, h3, h4, h5, h6, h7, h8, h9, h10⟩ := h
  obtain ⟨k', hi', he⟩ := State.fieldFound?_setVm hvm h2
  exact ⟨c, k', i, f, a, cell, by rw [hvm.findClass]; exact h1, hi', h3, by rw [he]; exact h4, h5, h6, h7, h8, by rw [he]; exact h9, h10⟩
theorem vx_L.kept {C n d : String} {A : Nat → Prop} {U : State} {H H1 : Heap} (h : vx_L C n d A U H) (hq : ∀ a : Nat, a < H.size → ¬ A a → H1[a]? = H[a]?) : vx_L C n d A U H1 := by
  obtain ⟨c, k, i, f, a, cell, h1, h2, h3, h4, h5, h6, h7, h8, h9, h10⟩ := h
  exact ⟨c, k, i, f, a, cell, h1, h2, h3, h4, by rw [hq a (Array.getElem?_eq_some_iff.mp h5).1 h10]; exact h5, h6, h7, h8, h9, h10⟩
theorem vx_L.narrow {C n d : String} {A B : Nat → Prop} {U : State} {H : Heap} (h : vx_L C n d A U H) (hAB : ∀ q, B q → A q) : vx_L C n d B U H := by
  obtain ⟨c, k, i, f, a, cell, h1, h2, h3, h4, h5, h6, h7, h8, h9, h10⟩ := h
  exact ⟨c, k, i, f, a, cell, h1, h2, h3, h4, h5, h6, h7, h8, h9, fun z => h10 (hAB _ z)⟩
theorem vx_L.word {C n d : String} {A : Nat → Prop} {s : State} {args : Array Value} (h : vx_L C n d A s s.heap) : (Cond.laysStatic C n d).before args s = true := by
  obtain ⟨c, k, i, f, a, cell, h1, h2, h3, h4, h5, h6, h7, h8, h9, -⟩ := h
  show (Cond.laysStatic C n d).holds args s none s [] = true
  exact Cond.laysStatic_of h1 h2 h3 h4 h5 h6 h7 h8 h9
/-- .. and what it holds: null or some reference -/
def vx_Zq (C n d : String) (A : Nat → Prop) (U : State) (H : Heap) : Prop := va_Zq C n d A U H ∧ vx_L C n d A U H
theorem vx_Zq.moved {C n d : String} {A : Nat → Prop} {u U : State} {H : Heap} (hvm : u.vm.Alike U.vm) (h : vx_Zq C n d A u H) : vx_Zq C n d A U H := ⟨va_Zq.moved hvm h.1, vx_L.moved hvm h.2⟩
theorem vx_Zq.kept {C n d : String} {A : Nat → Prop} {U : State} {H H1 : Heap} (h : vx_Zq C n d A U H) (hq : ∀ a : Nat, a < H.size → ¬ A a → H1[a]? = H[a]?) : vx_Zq C n d A U H1 := ⟨va_Zq.kept h.1 hq, vx_L.kept h.2 hq⟩
theorem vx_Zq.narrow {C n d : String} {A B : Nat → Prop} {U : State} {H : Heap} (h : vx_Zq C n d A U H) (hAB : ∀ q, B q → A q) : vx_Zq C n d B U H := ⟨va_Zq.narrow h.1 hAB, vx_L.narrow h.2 hAB⟩
theorem vx_Zqof {args : Array Value} {s : State} {C n d : String} {A : Nat → Prop} (hl : (Cond.laysStatic C n d).before args s = true) (hini : (Cond.initialized C).before args s = true) (h : (Cond.isRef (.static C n d)).before args s = true) (hA : ∀ a : Nat, a < s.heap.size → ¬ A a) : vx_Zq C n d A s s.heap := by
  refine ⟨va_Zqof hl hini h hA, ?_⟩
  obtain ⟨c, k, i, f, a, cell, h1, h2, h3, h4, h5, h6, h7, h8, h9⟩ := Cond.laysStatic_spec hl
  exact ⟨c, k, i, f, a, cell, h1, h2, h3, h4, h5, h6, h7, h8, h9, hA a (Array.getElem?_eq_some_iff.mp h5).1⟩
theorem vx_isRef {C n d : String} {v : Value} {A : Nat → Prop} {s : State} {args : Array Value} (h : va_Z C n d v A s s.heap) (hv : v.isRef = true) : (Cond.isRef (.static C n d)).before args s = true := by
  obtain ⟨cf, kf, fi, f, a, cell, h1, h2, h3, h4, h5, h6, h7, -⟩ := h
  have he : (Term.static C n d).eval args s none [] s = some v := by
    simp [Term.eval, State.fieldNamed?, h1, h2, h4, h5, h6, h7]
  simp only [Cond.before, Cond.holds, Cond.value, he]
  cases v <;> simp_all [Value.isRef]
theorem vx_isRefq {C n d : String} {A : Nat → Prop} {s : State} {args : Array Value} (h : va_Zq C n d A s s.heap) : (Cond.isRef (.static C n d)).before args s = true := by
  rcases h with h | ⟨t, h⟩
  · exact vx_isRef h rfl
  · exact vx_isRef h rfl
/-- the same frame, seen from here: as if the method were called anew in this heap -/
theorem vx_rebase {T : State} (X : Stand p l e R s m args below meth c T locs cells slots) {R' : Room} (hf : R'.frames ≤ R.frames) (hl : R'.locals ≤ R.locals) (hc : cells + R'.cells ≤ R.cells) (hs : slots + R'.slots ≤ R.slots) :
    Stand p l e R' ((T.setVm s.vm).setFrames (.invoking m args :: below)) m args below meth c T [] 0 0 := by
  have htop : (T.setVm s.vm).topJava?.isSome := X.here.top
  have hF : ((T.setVm s.vm).setFrames (.invoking m args :: below)).frames = .invoking m args :: below := State.frames_setFrames _ (State.cur_lt_of_top htop)
  obtain ⟨g₀, hg0⟩ := Option.isSome_iff_exists.mp htop
  obtain ⟨r, hr⟩ := State.topJava?_eq_some.mp hg0
  have hl9 : e.platform.stackLimits (T.setVm s.vm).me = e.platform.stackLimits s.me := X.limits
  have hb9 : (T.setVm s.vm).me.stackBytes = s.me.stackBytes := X.bytes
  refine ⟨X.admits, X.cas, X.clock, hF, ?_, X.hears, X.method, X.code, X.here, X.tail, X.warmed, ?_, ?_, ?_⟩
  · have h := X.room
    have hU : ((T.setVm s.vm).setFrames (.invoking m args :: below)).localsInUse = s.localsInUse := by
      rw [State.localsInUse_invoking hF (meth := meth) (c := c) X.method X.code, State.localsInUse_invoking X.frames X.method X.code]
    simp only [State.hasRoom, Bool.and_eq_true, decide_eq_true_eq] at h ⊢
    obtain ⟨⟨⟨⟨h1, h2, h3, h4, h5, h6⟩, h7⟩, h8⟩, h9⟩ := h
    rw [X.frames, List.length_cons] at h2 h3
    have q1 := X.heapSize
    have q2 := X.used
    simp only [hF, hU, List.length_cons, State.stackLimits_setFrames, State.stackBytes_setFrames, hl9, hb9]
    refine ⟨⟨⟨⟨by omega, by omega, by omega, by omega, by omega, h6⟩, ?_⟩, ?_⟩, X.book⟩
    · show T.heap.size + R'.cells ≤ e.platform.maxCells
      omega
    · show T.slotsUsed + R'.slots ≤ e.platform.maxSlots
      omega
  · rw [State.stackLimits_setFrames]; rfl
  · rw [State.stackBytes_setFrames]; rfl
  · refine ⟨?_, Nat.le_refl _, Nat.le_refl _, ?_, ?_, fun a c9 h9 => ⟨c9, h9, rfl, rfl, fun _ _ => rfl⟩⟩
    · obtain ⟨t, ht, -⟩ := State.frames_cons hr
      show T.setVm s.vm = { ((T.setVm s.vm).setFrames (.invoking m args :: below)).setFrames (T.setVm s.vm).frames with heap := T.heap, slotsUsed := T.slotsUsed }
      rw [State.setFrames_setFrames, State.setFrames_self ht]
      rfl
    · show T.slotsUsed = T.slotsUsed + ((T.heap.toList.drop T.heap.size).map (·.slots.size)).sum
      rw [List.drop_eq_nil_of_le (Nat.le_of_eq Array.length_toList)]
      rfl
    · show ((T.heap.toList.drop T.heap.size).map (·.slots.size)).sum ≤ 0
      rw [List.drop_eq_nil_of_le (Nat.le_of_eq Array.length_toList)]
      exact Nat.le_refl _
/-- 'throw new E()': new; dup; invokespecial; athrow -/
theorem vx_throw0 {cc : ByteArray} {pc : Nat} (hexec : p.tables.exec = Jvm.exec) (hb : c.code = cc) (hl : l.stackTraces = false) {own cls : String} {names : List String} {ik ic mc ms : Nat} {A : Nat → Prop}
    (hown : s.vm.findClass own = some m.cls) (hcls : Bundle.fit cls = true) (hnames : ∀ n ∈ names, Bundle.fit n = true)
    (hk : (Cond.classLink own ik cls).before args s = true) (hini : (Cond.initialized cls).before args s = true) (hat : ∀ w ∈ vx_at0 own ic cls names, w.before args s = true)
    (hgood : ∀ w ∈ Cond.classLink own ik cls :: Cond.initialized cls :: vx_at0 own ic cls names, vx_ot w = true)
    (hU : vx_Zq Bundle.tN "UNASSIGNED_STACK" Bundle.steD A s s.heap) (hN : vx_Zq Bundle.tN "SUPPRESSED_SENTINEL" Bundle.listD A s s.heap) (hS : va_S A s.heap H locs) (hsize : ls.size = c.maxLocals)
    (d0 : decode cc pc = .ok (.new ik, 3)) (d3 : decode cc (pc + 3) = .ok (.dup, 1)) (d4 : decode cc (pc + 4) = .ok (.invokespecial ic, 3)) (d7 : decode cc (pc + 7) = .ok (.athrow, 1))
    (hout : ∀ x ∈ c.exceptionTable.toList, covers x (pc + 7) = false)
    (hRframes : names.length + 3 < R.frames) (hRlocals : (rest.map fun v => v.category).sum + (13 * (names.length + 1) + 42) ≤ R.locals) (hRcells : cells + 1 ≤ R.cells) (hRslots : slots + 6 ≤ R.slots) (hlocks : meth.locks = false)
    (hx : ∀ t : State, s.vm.Alike t.vm → H.size ≤ t.heap.size → (∀ q : Nat, q < H.size → t.heap[q]? = H[q]?) → XC cls s t)
    (hf : ∀ z ∈ locs, free z.base) (hc : cells + 1 ≤ mc) (hs : slots + 6 ≤ ms) :
    W p l e R s m args below meth c H locs cells slots (vx_MQ below Qc XC args s mc ms free) (F0 m pc ls rest) := by
  intro T hT X
  have htr : e.platform.stackTraces = false := (show e.platform.stackTraces = l.stackTraces by rw [X.admits.platform]).trans hl
  have Y := vx_rebase X (R' := { frames := R.frames, locals := R.locals, cells := 1, slots := 6 }) (Nat.le_refl _) (Nat.le_refl _) hRcells hRslots
  obtain ⟨s', hA⟩ : ∃ z, z = (T.setVm s.vm).setFrames (.invoking m args :: below) := ⟨_, rfl⟩
  rw [← hA] at Y
  have hvm : s'.vm = s.vm := by rw [hA]; rfl
  have hhp : s'.heap = H := by rw [hA]; exact hT
  have hW0 : s.WarmedH s'.vm := by rw [hvm]; exact State.WarmedH.refl s
  have hat' : ∀ w ∈ vx_at0 own ic cls names, w.before args s' = true := fun w hw => vx_ot_at hW0 hvm.symm (hgood w (List.mem_cons_of_mem _ (List.mem_cons_of_mem _ hw))) (hat w hw)
  have hk' : (Cond.classLink own ik cls).before args s' = true := vx_ot_at hW0 hvm.symm (hgood _ List.mem_cons_self) hk
  have hini' : (Cond.initialized cls).before args s' = true := vx_ot_at hW0 hvm.symm (hgood _ (List.mem_cons_of_mem _ List.mem_cons_self)) hini
  have hU' : vx_Zq Bundle.tN "UNASSIGNED_STACK" Bundle.steD A s' s'.heap := by rw [hhp]; exact vx_Zq.moved hW0.alike (hU.kept hS.2.1)
  have hN' : vx_Zq Bundle.tN "SUPPRESSED_SENTINEL" Bundle.listD A s' s'.heap := by rw [hhp]; exact vx_Zq.moved hW0.alike (hN.kept hS.2.1)
  have h : ∀ w ∈ Bundle.ownAtoms0 own ic cls names, w.before args s' = true := vx_own hat' (vx_isRefq hU'.1) (vx_isRefq hN'.1) hU'.2.word hN'.2.word
  have hown' : s'.vm.findClass own = some m.cls := by rw [hvm]; exact hown
  have hins : (Cond.instantiable cls 6).before args s' = true := h _ (by simp [Bundle.ownAtoms0])
  obtain ⟨vm₁, cX, kX, hfX, hkX, -, -, X₁, st1⟩ := Y.newCold hexec (own := own) (C := cls) (index := ik) (n := 6) hown' hk' hins hini'
    (g := F0 m pc ls rest) rfl (by rw [hb]; exact d0) (Nat.le_refl _) (Nat.le_refl _)
  generalize hT1 : (T.setVm vm₁).pushCell { cls := cX, slots := kX.instanceTypes.map defaultValue, vm := .none } = T1 at X₁ st1
  have hcat : (Value.ref T.heap.size).category = 1 := rfl
  have hcellA : T1.heap[T.heap.size]? = some (freshCell cX kX) := by rw [← hT1]; exact State.heap_pushCell_size _ _
  have d3' : decode c.code (pc + 3) = .ok (.dup, 1) := by rw [hb]; exact d3
  obtain ⟨U, hsteps, hrun, hend, hW, hsame, ce, hce, hO⟩ := X₁.ctorThrow0 hexec htr (own := own) (cls := cls) (names := names) (ic := ic) hown' hcls hnames h (fun x hx => nomatch hx) hfX hkX hcellA (by rw [hhp, hT]; exact Nat.le_refl _)
    (g := { method := m, pc := pc + 4, locals := ls, stack := .ref T.heap.size :: .ref T.heap.size :: rest, locked := none }) rfl hsize rfl rfl (rest := rest) rfl
    (by rw [hb]; exact d4) (by rw [hb]; exact d7) hout hRframes (by simp only [List.map_cons, List.sum_cons, hcat]; omega) hlocks
  obtain ⟨f1, f2⟩ := vx_frame hsame
  rw [hhp] at f1 f2
  have hWs : s.WarmedH U.vm := State.WarmedH.trans hW0 hW
  have hcl : s.vm.findClass cls = some ce.cls := by
    have h9 := hO.cls
    rw [hvm] at h9
    exact h9
  have hall : s.sameButNew ({ U with vm := s.vm } : State) locs mc ms := by
    subst hA
    obtain ⟨e1, e2⟩ := hsame
    rw [State.setFrames_setFrames] at e1
    have h2 : (T.setVm s.vm).sameButNew ({ U with vm := s.vm } : State) [] (0 + 1) (0 + 6) := ⟨e1, e2⟩
    have h3 := X.same.trans h2
    rw [List.append_nil] at h3
    exact h3.mono hc hs
  refine ⟨U, ?_, .threw T.heap.size, hrun, hend, Or.inr ⟨T.heap.size, rfl, cls, ce, locs, hx U hWs.alike f1 (fun q hq => f2 q hq (fun z hz => nomatch hz)), hce, hO.vm, hcl, hWs, hall, hf⟩⟩
  refine st1 _ ?_
  show Steps p.tables e below (T1.setTop { method := m, pc := pc + 3, locals := ls, stack := .ref T.heap.size :: rest, locked := none }) _
  jvm_step X₁.here [X₁.here.top, hexec, d3', Value.category]
  exact hsteps
/-- 'throw new E("text")': new; dup; ldc; invokespecial; athrow -/
theorem vx_throwS {cc : ByteArray} {pc : Nat} (hexec : p.tables.exec = Jvm.exec) (hb : c.code = cc) (hl : l.stackTraces = false) {own cls text : String} {names : List String} {ik is ic mc ms sa : Nat} {A : Nat → Prop}
    (hown : s.vm.findClass own = some m.cls) (hcls : Bundle.fit cls = true) (hnames : ∀ n ∈ names, Bundle.fit n = true)
    (hk : (Cond.classLink own ik cls).before args s = true) (hini : (Cond.initialized cls).before args s = true) (hstr : vk_R own is text sa s) (hat : ∀ w ∈ vx_atS own ic cls names, w.before args s = true)
    (hgood : ∀ w ∈ Cond.classLink own ik cls :: Cond.initialized cls :: vx_atS own ic cls names, vx_ot w = true)
    (hU : vx_Zq Bundle.tN "UNASSIGNED_STACK" Bundle.steD A s s.heap) (hN : vx_Zq Bundle.tN "SUPPRESSED_SENTINEL" Bundle.listD A s s.heap) (hS : va_S A s.heap H locs) (hsize : ls.size = c.maxLocals)
    (d0 : decode cc pc = .ok (.new ik, 3)) (d3 : decode cc (pc + 3) = .ok (.dup, 1)) (d4 : decode cc (pc + 4) = .ok (.ldc is, 2)) (d6 : decode cc (pc + 6) = .ok (.invokespecial ic, 3)) (d9 : decode cc (pc + 9) = .ok (.athrow, 1))
    (hout : ∀ x ∈ c.exceptionTable.toList, covers x (pc + 9) = false)
    (hRframes : names.length + 3 < R.frames) (hRlocals : (rest.map fun v => v.category).sum + (13 * (names.length + 1) + 43) ≤ R.locals) (hRcells : cells + 1 ≤ R.cells) (hRslots : slots + 6 ≤ R.slots) (hlocks : meth.locks = false)
    (hx : ∀ t : State, s.vm.Alike t.vm → H.size ≤ t.heap.size → (∀ q : Nat, q < H.size → t.heap[q]? = H[q]?) → XC cls s t)
    (hf : ∀ z ∈ locs, free z.base) (hc : cells + 1 ≤ mc) (hs : slots + 6 ≤ ms) :
    W p l e R s m args below meth c H locs cells slots (vx_MQ below Qc XC args s mc ms free) (F0 m pc ls rest) := by
  intro T hT X
  have htr : e.platform.stackTraces = false := (show e.platform.stackTraces = l.stackTraces by rw [X.admits.platform]).trans hl
  have Y := vx_rebase X (R' := { frames := R.frames, locals := R.locals, cells := 1, slots := 6 }) (Nat.le_refl _) (Nat.le_refl _) hRcells hRslots
  obtain ⟨s', hA⟩ : ∃ z, z = (T.setVm s.vm).setFrames (.invoking m args :: below) := ⟨_, rfl⟩
  rw [← hA] at Y
  have hvm : s'.vm = s.vm := by rw [hA]; rfl
  have hhp : s'.heap = H := by rw [hA]; exact hT
  have hW0 : s.WarmedH s'.vm := by rw [hvm]; exact State.WarmedH.refl s
  have hat' : ∀ w ∈ vx_atS own ic cls names, w.before args s' = true := fun w hw => vx_ot_at hW0 hvm.symm (hgood w (List.mem_cons_of_mem _ (List.mem_cons_of_mem _ hw))) (hat w hw)
  have hk' : (Cond.classLink own ik cls).before args s' = true := vx_ot_at hW0 hvm.symm (hgood _ List.mem_cons_self) hk
  have hini' : (Cond.initialized cls).before args s' = true := vx_ot_at hW0 hvm.symm (hgood _ (List.mem_cons_of_mem _ List.mem_cons_self)) hini
  have hU' : vx_Zq Bundle.tN "UNASSIGNED_STACK" Bundle.steD A s' s'.heap := by rw [hhp]; exact vx_Zq.moved hW0.alike (hU.kept hS.2.1)
  have hN' : vx_Zq Bundle.tN "SUPPRESSED_SENTINEL" Bundle.listD A s' s'.heap := by rw [hhp]; exact vx_Zq.moved hW0.alike (hN.kept hS.2.1)
  have h : ∀ w ∈ Bundle.ownAtoms own ic cls names, w.before args s' = true := vx_own hat' (vx_isRefq hU'.1) (vx_isRefq hN'.1) hU'.2.word hN'.2.word
  have hown' : s'.vm.findClass own = some m.cls := by rw [hvm]; exact hown
  have hins : (Cond.instantiable cls 6).before args s' = true := h _ (by simp [Bundle.ownAtoms])
  obtain ⟨vm₁, cX, kX, hfX, hkX, -, -, X₁, st1⟩ := Y.newCold hexec (own := own) (C := cls) (index := ik) (n := 6) hown' hk' hins hini'
    (g := F0 m pc ls rest) rfl (by rw [hb]; exact d0) (Nat.le_refl _) (Nat.le_refl _)
  generalize hT1 : (T.setVm vm₁).pushCell { cls := cX, slots := kX.instanceTypes.map defaultValue, vm := .none } = T1 at X₁ st1
  have hcat : (Value.ref T.heap.size).category = 1 := rfl
  have hcellA : T1.heap[T.heap.size]? = some (freshCell cX kX) := by rw [← hT1]; exact State.heap_pushCell_size _ _
  have d3' : decode c.code (pc + 3) = .ok (.dup, 1) := by rw [hb]; exact d3
  have d4' : decode c.code (pc + 4) = .ok (.ldc is, 2) := by rw [hb]; exact d4
  have hstr' : vk_R own is text sa s' := vk_R.warm hW0 hstr
  obtain ⟨U, hsteps, hrun, hend, hW, hsame, ce, hce, hO⟩ := X₁.ctorThrowS hexec htr (own := own) (cls := cls) (names := names) (ic := ic) hown' hcls hnames h (fun x hx => nomatch hx) hfX hkX hcellA (by rw [hhp, hT]; exact Nat.le_refl _) (msg := .ref sa) rfl
    (g := { method := m, pc := pc + 6, locals := ls, stack := .ref sa :: .ref T.heap.size :: .ref T.heap.size :: rest, locked := none }) rfl hsize rfl rfl (rest := rest) rfl
    (by rw [hb]; exact d6) (by rw [hb]; exact d9) hout hRframes (by simp only [List.map_cons, List.sum_cons, hcat]; omega) hlocks
  obtain ⟨f1, f2⟩ := vx_frame hsame
  rw [hhp] at f1 f2
  have hWs : s.WarmedH U.vm := State.WarmedH.trans hW0 hW
  have hcl : s.vm.findClass cls = some ce.cls := by
    have h9 := hO.cls
    rw [hvm] at h9
    exact h9
  have hall : s.sameButNew ({ U with vm := s.vm } : State) locs mc ms := by
    subst hA
    obtain ⟨e1, e2⟩ := hsame
    rw [State.setFrames_setFrames] at e1
    have h2 : (T.setVm s.vm).sameButNew ({ U with vm := s.vm } : State) [] (0 + 1) (0 + 6) := ⟨e1, e2⟩
    have h3 := X.same.trans h2
    rw [List.append_nil] at h3
    exact h3.mono hc hs
  refine ⟨U, ?_, .threw T.heap.size, hrun, hend, Or.inr ⟨T.heap.size, rfl, cls, ce, locs, hx U hWs.alike f1 (fun q hq => f2 q hq (fun z hz => nomatch hz)), hce, hO.vm, hcl, hWs, hall, hf⟩⟩
  refine st1 _ ?_
  show Steps p.tables e below (T1.setTop { method := m, pc := pc + 3, locals := ls, stack := .ref T.heap.size :: rest, locked := none }) _
  jvm_step X₁.here [X₁.here.top, hexec, d3', Value.category]
  exact X₁.ldcString hexec (own := own) (text := text) (index := is) (a := sa) hown' hstr'.1 hstr'.2
    (g := { method := m, pc := pc + 4, locals := ls, stack := .ref T.heap.size :: .ref T.heap.size :: rest, locked := none }) rfl d4' _ hsteps
/-- 'throw new E("text")', the text by a wide index -/
theorem vx_throwSW {cc : ByteArray} {pc : Nat} (hexec : p.tables.exec = Jvm.exec) (hb : c.code = cc) (hl : l.stackTraces = false) {own cls text : String} {names : List String} {ik is ic mc ms sa : Nat} {A : Nat → Prop}
    (hown : s.vm.findClass own = some m.cls) (hcls : Bundle.fit cls = true) (hnames : ∀ n ∈ names, Bundle.fit n = true)
    (hk : (Cond.classLink own ik cls).before args s = true) (hini : (Cond.initialized cls).before args s = true) (hstr : vk_R own is text sa s) (hat : ∀ w ∈ vx_atS own ic cls names, w.before args s = true)
    (hgood : ∀ w ∈ Cond.classLink own ik cls :: Cond.initialized cls :: vx_atS own ic cls names, vx_ot w = true)
    (hU : vx_Zq Bundle.tN "UNASSIGNED_STACK" Bundle.steD A s s.heap) (hN : vx_Zq Bundle.tN "SUPPRESSED_SENTINEL" Bundle.listD A s s.heap) (hS : va_S A s.heap H locs) (hsize : ls.size = c.maxLocals)
    (d0 : decode cc pc = .ok (.new ik, 3)) (d3 : decode cc (pc + 3) = .ok (.dup, 1)) (d4 : decode cc (pc + 4) = .ok (.ldc_w is, 3)) (d7 : decode cc (pc + 7) = .ok (.invokespecial ic, 3)) (d10 : decode cc (pc + 10) = .ok (.athrow, 1))
    (hout : ∀ x ∈ c.exceptionTable.toList, covers x (pc + 10) = false)
    (hRframes : names.length + 3 < R.frames) (hRlocals : (rest.map fun v => v.category).sum + (13 * (names.length + 1) + 43) ≤ R.locals) (hRcells : cells + 1 ≤ R.cells) (hRslots : slots + 6 ≤ R.slots) (hlocks : meth.locks = false)
    (hx : ∀ t : State, s.vm.Alike t.vm → H.size ≤ t.heap.size → (∀ q : Nat, q < H.size → t.heap[q]? = H[q]?) → XC cls s t)
    (hf : ∀ z ∈ locs, free z.base) (hc : cells + 1 ≤ mc) (hs : slots + 6 ≤ ms) :
    W p l e R s m args below meth c H locs cells slots (vx_MQ below Qc XC args s mc ms free) (F0 m pc ls rest) := by
  intro T hT X
  have htr : e.platform.stackTraces = false := (show e.platform.stackTraces = l.stackTraces by rw [X.admits.platform]).trans hl
  have Y := vx_rebase X (R' := { frames := R.frames, locals := R.locals, cells := 1, slots := 6 }) (Nat.le_refl _) (Nat.le_refl _) hRcells hRslots
  obtain ⟨s', hA⟩ : ∃ z, z = (T.setVm s.vm).setFrames (.invoking m args :: below) := ⟨_, rfl⟩
  rw [← hA] at Y
  have hvm : s'.vm = s.vm := by rw [hA]; rfl
  have hhp : s'.heap = H := by rw [hA]; exact hT
  have hW0 : s.WarmedH s'.vm := by rw [hvm]; exact State.WarmedH.refl s
  have hat' : ∀ w ∈ vx_atS own ic cls names, w.before args s' = true := fun w hw => vx_ot_at hW0 hvm.symm (hgood w (List.mem_cons_of_mem _ (List.mem_cons_of_mem _ hw))) (hat w hw)
  have hk' : (Cond.classLink own ik cls).before args s' = true := vx_ot_at hW0 hvm.symm (hgood _ List.mem_cons_self) hk
  have hini' : (Cond.initialized cls).before args s' = true := vx_ot_at hW0 hvm.symm (hgood _ (List.mem_cons_of_mem _ List.mem_cons_self)) hini
  have hU' : vx_Zq Bundle.tN "UNASSIGNED_STACK" Bundle.steD A s' s'.heap := by rw [hhp]; exact vx_Zq.moved hW0.alike (hU.kept hS.2.1)
  have hN' : vx_Zq Bundle.tN "SUPPRESSED_SENTINEL" Bundle.listD A s' s'.heap := by rw [hhp]; exact vx_Zq.moved hW0.alike (hN.kept hS.2.1)
  have h : ∀ w ∈ Bundle.ownAtoms own ic cls names, w.before args s' = true := vx_own hat' (vx_isRefq hU'.1) (vx_isRefq hN'.1) hU'.2.word hN'.2.word
  have hown' : s'.vm.findClass own = some m.cls := by rw [hvm]; exact hown
  have hins : (Cond.instantiable cls 6).before args s' = true := h _ (by simp [Bundle.ownAtoms])
  obtain ⟨vm₁, cX, kX, hfX, hkX, -, -, X₁, st1⟩ := Y.newCold hexec (own := own) (C := cls) (index := ik) (n := 6) hown' hk' hins hini'
    (g := F0 m pc ls rest) rfl (by rw [hb]; exact d0) (Nat.le_refl _) (Nat.le_refl _)
  generalize hT1 : (T.setVm vm₁).pushCell { cls := cX, slots := kX.instanceTypes.map defaultValue, vm := .none } = T1 at X₁ st1
  have hcat : (Value.ref T.heap.size).category = 1 := rfl
  have hcellA : T1.heap[T.heap.size]? = some (freshCell cX kX) := by rw [← hT1]; exact State.heap_pushCell_size _ _
  have d3' : decode c.code (pc + 3) = .ok (.dup, 1) := by rw [hb]; exact d3
  have d4' : decode c.code (pc + 4) = .ok (.ldc_w is, 3) := by rw [hb]; exact d4
  have hstr' : vk_R own is text sa s' := vk_R.warm hW0 hstr
  obtain ⟨U, hsteps, hrun, hend, hW, hsame, ce, hce, hO⟩ := X₁.ctorThrowS hexec htr (own := own) (cls := cls) (names := names) (ic := ic) hown' hcls hnames h (fun x hx => nomatch hx) hfX hkX hcellA (by rw [hhp, hT]; exact Nat.le_refl _) (msg := .ref sa) rfl
    (g := { method := m, pc := pc + 7, locals := ls, stack := .ref sa :: .ref T.heap.size :: .ref T.heap.size :: rest, locked := none }) rfl hsize rfl rfl (rest := rest) rfl
    (by rw [hb]; exact d7) (by rw [hb]; exact d10) hout hRframes (by simp only [List.map_cons, List.sum_cons, hcat]; omega) hlocks
  obtain ⟨f1, f2⟩ := vx_frame hsame
  rw [hhp] at f1 f2
  have hWs : s.WarmedH U.vm := State.WarmedH.trans hW0 hW
  have hcl : s.vm.findClass cls = some ce.cls := by
    have h9 := hO.cls
    rw [hvm] at h9
    exact h9
  have hall : s.sameButNew ({ U with vm := s.vm } : State) locs mc ms := by
    subst hA
    obtain ⟨e1, e2⟩ := hsame
    rw [State.setFrames_setFrames] at e1
    have h2 : (T.setVm s.vm).sameButNew ({ U with vm := s.vm } : State) [] (0 + 1) (0 + 6) := ⟨e1, e2⟩
    have h3 := X.same.trans h2
    rw [List.append_nil] at h3
    exact h3.mono hc hs
  refine ⟨U, ?_, .threw T.heap.size, hrun, hend, Or.inr ⟨T.heap.size, rfl, cls, ce, locs, hx U hWs.alike f1 (fun q hq => f2 q hq (fun z hz => nomatch hz)), hce, hO.vm, hcl, hWs, hall, hf⟩⟩
  refine st1 _ ?_
  show Steps p.tables e below (T1.setTop { method := m, pc := pc + 3, locals := ls, stack := .ref T.heap.size :: rest, locked := none }) _
  jvm_step X₁.here [X₁.here.top, hexec, d3', Value.category]
  exact X₁.ldcStringW hexec (own := own) (text := text) (index := is) (a := sa) hown' hstr'.1 hstr'.2
    (g := { method := m, pc := pc + 4, locals := ls, stack := .ref T.heap.size :: .ref T.heap.size :: rest, locked := none }) rfl d4' _ hsteps
end Ends
section Bodies
variable {l : Launch}
theorem vx_ofW {y : MethodName} {ws ws' : List Cond} {rm : Room} {Pc : Array Value → State → Prop} {Qc : Array Value → State → Outcome → State → Prop} {XC : String → State → State → Prop} {mc ms : Nat} {free : Addr → Prop} {cc : ByteArray} {maxL : Nat} {ret : Option FieldType}
    (hy : plainName y.cls = true) (hw : ws = Cond.code y cc maxL ret :: ws')
    (body : ∀ p e s m args below meth c s₁, BodyLoose p l y (headSpec ws rm) cc maxL ret e s m args below meth c s₁ → c.maxLocals = maxL → (∀ x ∈ c.exceptionTable.toList, False) → Pc args s →
      W p l e (headSpec ws rm).room s m args below meth c s.heap [] 0 0 (vx_MQ below Qc XC args s mc ms free) (entryFrame m args maxL)) : vx_Met l y ws rm Pc Qc XC mc ms free := by
  refine MetFree.of_bodyS (code := cc) (maxLocals := maxL) (ret := ret) hy ?_ ?_
  · intro args s m h hn
    obtain ⟨meth, c, h1, h2, h3, h4, h5, h6, -, -⟩ := Cond.code_spec hn (atoms_spec (ws := ws) h _ (by rw [hw]; exact List.mem_cons_self))
    exact ⟨meth, c, h1, h2, h3, h4, h5, h6⟩
  · intro p e s m args below meth c s₁ B hml hP _
    have hh0 : s₁.heap = s.heap := by rw [B.state]; rfl
    have ht : ∀ x ∈ c.exceptionTable.toList, False := by
      obtain ⟨meth9, c9, h1, h2, -, -, -, -, h7, -⟩ := Cond.code_spec B.named (atoms_spec (ws := ws) B.pre _ (by rw [hw]; exact List.mem_cons_self))
      cases Option.some.inj (h1.symm.trans B.method)
      cases Option.some.inj (h2.symm.trans (Stand.of_body B).code)
      intro x hx
      rw [Array.isEmpty_iff.mp h7] at hx
      cases hx
    obtain ⟨t, a1, o, b1, b2, b3⟩ := body p e s m args below meth c s₁ B hml ht hP s₁ hh0 (Stand.of_body B)
    exact ⟨t, o, a1, b1, b2, b3⟩
/-- the table of a body with handlers -/
theorem vx_table {p : Program} {x y : MethodName} {S : Spec} {cc bytes : ByteArray} {maxL maxL' : Nat} {ret ret' : Option FieldType} {e : Env} {s s₁ : State} {m : MethodId} {args : Array Value} {below : List Frame} {meth : Method} {c : Code} {hh : List (Nat × Nat × Nat × Nat)}
    (B : BodyLoose p l y S cc maxL ret e s m args below meth c s₁) (h : (Cond.codeWith y bytes maxL' ret' hh).before args s = true) : c.exceptionTable.toList = tableOf hh := by
  obtain ⟨m9, meth9, c9, hn9, h1, h2, -, -, h6, -⟩ := Cond.codeWith_spec h
  cases Option.some.inj (hn9.symm.trans B.named)
  cases Option.some.inj (h1.symm.trans B.method)
  cases Option.some.inj (h2.symm.trans (Stand.of_body B).code)
  rw [← h6, table_eq]
end Bodies
end VXA
/-! ===== END ===== -/
/-! ===== BEGIN a static call of a method with an exception table ===== -/
section VXS
variable {p : Program} {l : Launch} {e : Env} {R : Room} {s : State} {m : MethodId} {args : Array Value} {below : List Frame} {meth : Method} {c : Code} {T : State} {H : Heap} {locs : List Loc} {cells slots : Nat}
abbrev vx_CSW (R : Room) (s : State) (args : Array Value) (own : String) (index : Nat) (y : MethodName) (bytes : ByteArray) (maxL : Nat) (ret : Option FieldType) (hh : List (Nat × Nat × Nat × Nat)) (ws : List Cond) (rm : Room) (mc ms n : Nat) : Prop :=
  (rm.cells = mc ∧ rm.slots = ms ∧ rm.frames + 1 ≤ R.frames ∧ 8 + (maxL + 11) + rm.locals ≤ R.locals ∧ (∀ w ∈ ws, ∀ (a' : Array Value) (U : State), s.WarmedH U.vm → w.before a' U = true) ∧ Cond.codeWith y bytes maxL ret hh ∈ ws) ∧
  (Cond.codeWith y bytes maxL ret hh).before args s = true ∧ (Cond.initialized y.cls).before args s = true ∧ (y.cls ≠ "java/lang/invoke/MethodHandle" ∧ y.cls ≠ "java/lang/invoke/VarHandle") ∧
  (∀ sig, parseMethodDescriptor y.desc = some sig → n = sig.parameters.length) ∧ (Cond.methodLink own index y).before args s = true ∧ (Cond.static y).before args s = true
theorem vx_cwSW {own : String} {index maxL mc ms : Nat} {y : MethodName} {bytes : ByteArray} {ret : Option FieldType} {hh : List (Nat × Nat × Nat × Nat)} {Ts ws ws' : List Cond} {rm : Room} (n : Nat) (ht : ∀ w ∈ Ts, w.before args s = true) (hT : GoodIn Ts (va_wsS own index y ws)) (hw : ws = Cond.codeWith y bytes maxL ret hh :: ws') (hrc : rm.cells = mc) (hrs : rm.slots = ms)
    (hd : y.cls ≠ "java/lang/invoke/MethodHandle" ∧ y.cls ≠ "java/lang/invoke/VarHandle" ∧ (parseMethodDescriptor y.desc).map (fun d => d.parameters.length) = some n) (hR : rm.frames + 1 ≤ R.frames ∧ 8 + (maxL + 11) + rm.locals ≤ R.locals) :
    vx_CSW R s args own index y bytes maxL ret hh ws rm mc ms n := by
  have ok : ∀ w ∈ va_wsS own index y ws, w.before args s = true := fun w h => ht w (hT w h).1
  have hG : GoodIn Ts ws := fun w h => hT w (by unfold va_wsS; exact List.mem_append_right _ h)
  have hc : Cond.codeWith y bytes maxL ret hh ∈ ws := by rw [hw]; exact List.mem_cons_self
  refine ⟨⟨hrc, hrs, hR.1, hR.2, pay_in ht hG, hc⟩, ht _ (hG _ hc).1, ok _ (by simp [va_wsS]), ⟨hd.1, hd.2.1⟩, fun sig h => ?_, ok _ (by simp [va_wsS]), ok _ (by simp [va_wsS])⟩
  have h2 := hd.2.2
  rw [h] at h2
  exact (Option.some.inj h2).symm
theorem vx_callSW (X : Stand p l e R s m args below meth c T locs cells slots) (hexec : p.tables.exec = Jvm.exec) {own : String} {index : Nat} {y : MethodName} {bytes : ByteArray} {maxL : Nat} {ret : Option FieldType} {hh : List (Nat × Nat × Nat × Nat)}
    (hown : s.vm.findClass own = some m.cls) (hlink : (Cond.methodLink own index y).before args s = true) (hstat : (Cond.static y).before args s = true) (hinit : (Cond.initialized y.cls).before args s = true)
    (hcode : (Cond.codeWith y bytes maxL ret hh).before args s = true) (hy : y.cls ≠ "java/lang/invoke/MethodHandle" ∧ y.cls ≠ "java/lang/invoke/VarHandle")
    {W9 : Nat} {Pre : Pt → Array Value → Prop} {Post : Pt → Array Value → Option Value → Pt → Prop} (hK : Back l R p e below s args y 3 W9 Pre Post)
    {g : JFrame} (hg : g.method = m) (hsize : g.locals.size = c.maxLocals) {argsL rest : List Value} (hlen : ∀ sig, parseMethodDescriptor y.desc = some sig → argsL.length = sig.parameters.length)
    (hstack : g.stack = argsL.reverse ++ rest) (hW : 2 * g.monitorRoom + (rest.map fun v => v.category).sum ≤ W9) (hdg : decode c.code g.pc = .ok (.invokestatic index, 3))
    (hpre : ∀ vm₁, s.WarmedH vm₁ → Pre ⟨T.setVm vm₁, locs, cells, slots⟩ argsL.toArray) :
    ∃ (v : Option Value) (vm₁ : Vm) (B : Pt), s.WarmedH vm₁ ∧ Stand p l e R s m args below meth c B.U B.locs B.cells B.slots ∧ Post ⟨T.setVm vm₁, locs, cells, slots⟩ argsL.toArray v B ∧
      ∀ target, Steps p.tables e below (B.U.setTop { g with pc := g.pc + 3, stack := v.toList ++ rest }) target → Steps p.tables e below (T.setTop g) target := by
  obtain ⟨mk, methM, cM, hnamed, hmethM, -, -, -, -, -, -, hsigM⟩ := Cond.codeWith_spec hcode
  have hstatic : methM.isStatic = true := Cond.static_spec hnamed hmethM hstat
  obtain ⟨kP, hkP, -⟩ := className_of_methodNamed hnamed
  have hinitP : kP.init = .initialized := Cond.initialized_spec (findClass_of_methodNamed hnamed) hkP hinit
  obtain ⟨vm₁, X₁, hstep₁⟩ := X.invokestatic hexec hown hlink hnamed hmethM hstatic hkP hinitP hy (g := g) hg (argsL := argsL) (rest := rest) (hlen _ hsigM) hstack hdg
  obtain ⟨v, B, X', hpost, hsteps⟩ := hK m meth c ⟨T.setVm vm₁, locs, cells, slots⟩ { g with stack := rest } (.invokestatic index) mk argsL.toArray X₁ hg hsize hdg hW (X₁.named hnamed) (hpre vm₁ X₁.warmed)
  exact ⟨v, vm₁, B, X₁.warmed, X', hpost, fun target h => hstep₁ _ fun acts => by rw [doInvoke_state]; exact hsteps.trans h⟩
theorem vx_runSW {y : MethodName} {bytes cc : ByteArray} {maxL nL mc ms n index : Nat} {ret : Option FieldType} {hh : List (Nat × Nat × Nat × Nat)} {ws : List Cond} {rm : Room} {Pc : Array Value → State → Prop} {Qc : Array Value → State → Outcome → State → Prop} {free : Addr → Prop} {Ts : List Cond} {own : String} {As rest : List Value} {g : JFrame}
    (S : CallFix p m c cc nL s args Ts own) (hM : Met l y ws rm Pc Qc mc ms free) (cw : vx_CSW R s args own index y bytes maxL ret hh ws rm mc ms n) (hp : PreS s H Pc As)
    (hg : g.method = m) (hn : As.length = n) (hsize : g.locals.size = nL) (hstack : g.stack = As.reverse ++ rest) (hW : 2 * g.monitorRoom + (rest.map fun v => v.category).sum ≤ 8) (hdg : decode cc g.pc = .ok (.invokestatic index, 3)) (hf : cells + mc ≤ R.cells ∧ slots + ms ≤ R.slots) :
    va_Run p l e R s m args below meth c H locs cells slots mc ms g rest (Qc As.toArray) (free) := by
  obtain ⟨⟨hrc, hrs, hfr, hlo, hws, hcw⟩, hcode, hini, hy, hlen, hl, hstt⟩ := cw
  have hK : Back l R p e below s args y 3 8 (PreOf R mc ms Pc) (PostOf Qc mc ms free) := va_backW (hh := hh) (bytes := bytes) (maxL := maxL) (ret := ret) hM hp.1 hrc hrs hfr hlo hws hcw (fun a' U hW => word_at hW (Or.inl (by first | rfl | simp [Cond.onTables, Cond.keeps, Cond.steady])) hini)
  obtain ⟨hx, hb, hml, ho, -⟩ := S
  intro T hT X
  obtain ⟨v, vm₁, ⟨U', l2, c2, s2⟩, hW₁, X', ⟨g', mk, t, L, e1, e2, hq, h1, hL, h2, h3⟩, st⟩ := vx_callSW X hx (hh := hh) (bytes := bytes) (maxL := maxL) (ret := ret) ho hl hstt hini hcode hy hK hg (hsize.trans hml.symm) (argsL := As) (rest := rest) (fun sig h => hn.trans (hlen sig h)) hstack hW (by rw [hb]; exact hdg)
    (fun vm₁ hW₁ => ⟨hf.1, hf.2, hp.2 (T.setVm vm₁) hT hW₁⟩)
  dsimp only [Pt.U, Pt.locs, Pt.cells, Pt.slots] at X' e1 e2 h1 h2 h3 st
  subst h1; subst h2; subst h3
  exact ⟨v, (T.setVm vm₁).calling g' mk As.toArray, t, U', L, hT, X', hL, e1, e2, hq, st⟩
/-- not caught here, past rows that name other classes: it goes on to the caller -/
theorem vx_outP {p : Program} {l : Launch} {e : Env} {R : Room} {s : State} {m : MethodId} {args : Array Value} {below : List Frame} {meth : Method} {c : Code} {H : Heap} {locs : List Loc} {cells slots : Nat} {free : Addr → Prop} {ls : Array Slot} {rest : List Value} {Qc : Array Value → State → Outcome → State → Prop} {XC : String → State → State → Prop}
    {pc : Nat} {own E : String} {ce : Cell} {q : Addr} {mc ms : Nat} (hown : s.vm.findClass own = some m.cls) (hlocks : meth.locks = false)
    (hpass : ∀ z ∈ c.exceptionTable.toList, covers z pc = false ∨ (z.catchType ≠ 0 ∧ ∃ nm : String, (Cond.classLink own z.catchType nm).before args s = true ∧ va_Nc E nm s)) (hcell : H[q]? = some ce) (hv : ce.vm = .none) (hcl : s.vm.findClass E = some ce.cls)
    (hx : ∀ t : State, t.heap = H → s.vm.Alike t.vm → XC E s t) (hf : ∀ z ∈ locs, free z.base) (hc : cells ≤ mc) (hs : slots ≤ ms) :
    vx_W p l e R s m args below meth c H locs cells slots (vx_MQ below Qc XC args s mc ms free) (F0 m pc ls rest) q := by
  intro T hT X
  have hpl : e.platform.magicAccessors = ({} : Platform).magicAccessors := by rw [X.admits.platform]
  obtain ⟨vm', hW', X', st⟩ := X.outThrough hlocks q (g := F0 m pc ls rest) rfl rfl rfl (cell := ce) (by rw [hT]; exact hcell) (by rw [hv]; rfl)
    (by obtain ⟨k9, h9, -⟩ := Vm.findClass_spec hcl; exact ⟨k9, h9⟩) (fun z hz => by
      rcases hpass z hz with h | ⟨hz0, nm, hl1, hn1⟩
      · exact Or.inl h
      · obtain ⟨c6, hc6, hcl6⟩ := Cond.classLink_spec hown hl1 e.platform hpl
        obtain ⟨a8, b8, h1, h2, h3⟩ := hn1
        cases Option.some.inj (h1.symm.trans hcl)
        cases Option.some.inj (h2.symm.trans hc6)
        exact Or.inr ⟨hz0, _, hcl6, h3⟩)
  obtain ⟨g₀, hfr⟩ := X'.frames_eq
  have hcell9 : ((T.setVm vm').setFrames (.throwing q :: below)).heap[q]? = some ce := by
    show T.heap[q]? = some ce
    rw [hT]; exact hcell
  have hend : Ended ((T.setVm vm').setFrames (.throwing q :: below)) below (.threw q) := State.frames_setFrames _ (State.cur_lt_of_frames hfr)
  refine ⟨(T.setVm vm').setFrames (.throwing q :: below), ?_, .threw q, X'.here.running, hend, Or.inr ⟨q, rfl, E, ce, locs, hx _ hT (X'.ends _).1.alike, hcell9, hv, hcl, (X'.ends _).1, (X'.ends _).2.mono hc hs, hf⟩⟩
  rw [X.pushThrowing_eq]
  exact st
/-- a thing of a world lies in the heap -/
theorem vx_lt {D : va_G} {cl : List vw_C} {ws : va_W} {H1 : Heap} (h : va_P D cl ws H1) {k : Nat} {q : Nat × va_E} (hk : ws[k]? = some q) : q.1 < H1.size := (h k q hk).lt
end VXS
/-! ===== END ===== -/
/-! ===== BEGIN methods with a table of their own: called by a name, returning or throwing ===== -/
section VXH
/-! vx_backW, vx_callVX, vx_callSX, vx_callVW, vx_runVW, vx_runVX, vx_runSX, vx_ofWH follow the same proofs as their sisters above (Free/Laws.lean, Shelf42/LK1.lean); vx_outP calls Shelf42/NT130.lean (outThrough). -/
section
variable {l : Launch} {R : Room} {p : Program} {e : Env} {below : List Frame} {s : State} {sargs : Array Value} {y : MethodName} {len W9 : Nat}
theorem vx_backW {ws : List Cond} {rm : Room} {Pc : Array Value → State → Prop} {Qc : Array Value → State → Outcome → State → Prop} {XC : String → State → State → Prop} {mc ms : Nat} {free : Addr → Prop} {bytes : ByteArray} {maxL : Nat} {ret : Option FieldType} {hh : List (Nat × Nat × Nat × Nat)}
    (hM : vx_Met l y ws rm Pc Qc XC mc ms free) (hblind : FrameBlind Pc) (hrc : rm.cells = mc) (hrs : rm.slots = ms)
    (hframes : rm.frames + 1 ≤ R.frames) (hlocals : W9 + (maxL + 11) + rm.locals ≤ R.locals)
    (hws : ∀ w ∈ ws, ∀ a' U, s.WarmedH U.vm → w.before a' U = true) (hcode : Cond.codeWith y bytes maxL ret hh ∈ ws) (hinit : ∀ a' U, s.WarmedH U.vm → (Cond.initialized y.cls).before a' U = true) :
    vx_Back l R p e below s sargs y len W9 (PreOf R mc ms Pc) (PostOf Qc mc ms free) (vx_Post XC mc ms free) := by
  intro m meth c A g ig mk a X hg hsize hdg hW hn hp
  have h1 : (headSpec ws rm).pre.before a A.U = true := atoms_intro fun w hw => hws w hw _ _ X.warmed
  have h2 : (Cond.codeWith y bytes maxL ret hh).before a A.U = true := hws _ hcode _ _ X.warmed
  have h3 : (Cond.initialized y.cls).before a A.U = true := hinit _ _ X.warmed
  have h4 : A.cells + (headSpec ws rm).room.cells ≤ R.cells := by rw [show (headSpec ws rm).room.cells = mc from hrc]; exact hp.1
  have h5 : A.slots + (headSpec ws rm).room.slots ≤ R.slots := by rw [show (headSpec ws rm).room.slots = ms from hrs]; exact hp.2.1
  have hPc : Pc a (A.U.calling g mk a) := hblind _ _ _ _ hp.2.2
  obtain ⟨U, Ls, c0, s0⟩ := A
  dsimp only [Pt.U, Pt.locs, Pt.cells, Pt.slots] at h1 h2 h3 h4 h5 X hn hPc ⊢
  obtain ⟨m9, methY, cY, hn9, hmY, hcY, -, hlY, -⟩ := Cond.codeWith_spec h2
  cases Option.some.inj (hn9.symm.trans hn)
  obtain ⟨kY, hkY, -⟩ := className_of_methodNamed hn
  have hinitY : kY.init = .initialized := Cond.initialized_spec (findClass_of_methodNamed hn) hkY h3
  have h : At U g.method c below := by rw [hg]; exact X.here
  have hlocals9 : W9 + (maxL + 11) + (headSpec ws rm).room.locals ≤ R.locals := hlocals
  have happ : (headSpec ws rm).appliesLoose y e.platform (U.calling g mk a) = true :=
    Spec.appliesLoose_calling (g := g) h hdg hn hkY hinitY
      (X.room_calling (g := g) (R' := (headSpec ws rm).room) hsize hmY hcY hframes (by rw [hlY]; omega) h4 h5) h1
  obtain ⟨mid, hmid⟩ := h.above
  have hfr : (U.setTop g).frames = (.java g :: mid) ++ below := by rw [State.frames_setTop' g h.top, hmid]; rfl
  obtain ⟨o, s₂, hsteps, -, hend, hq⟩ := Steps.callFree hM p X.admits X.cas X.clock (acts := []) hfr happ hPc trivial
  have hq' : vx_Q Qc XC mc ms free a (U.calling g mk a) o s₂ := hq
  rw [State.frames_setTop' g h.top] at hend
  obtain ⟨g₀, hg0⟩ := Option.isSome_iff_exists.mp h.top
  obtain ⟨r, hr⟩ := State.topJava?_eq_some.mp hg0
  have hr' : (({ U with heap := s₂.heap, slotsUsed := s₂.slotsUsed } : State).setVm s₂.vm).frames = .java g₀ :: r := hr
  rcases hq' with ⟨hqc, L, hfe, hL⟩ | ⟨q, rfl, E, ce, L, hx, hce, hcv, hcl, hW₂, hsm, hL⟩
  · obtain ⟨⟨v, rfl⟩, hW₂, e2, q2, q3, q4, q5, q6⟩ := id hfe
    have e3 : s₂ = ({ (U.calling g mk a).setFrames s₂.frames with heap := s₂.heap, slotsUsed := s₂.slotsUsed } : State).setVm s₂.vm := by
      have : s₂ = ({ s₂ with vm := (U.calling g mk a).vm } : State).setVm s₂.vm := rfl
      rw [e2] at this
      exact this
    obtain ⟨c₂, i₂, len₂, hc₂, hd₂, hf₂⟩ := hend
    have hW' : U.WarmedH s₂.vm := hW₂
    have hcc : c₂ = c := by
      have h1 : s₂.code? g.method = U.code? g.method := by
        rw [State.code?_eq, State.code?_eq, hW'.alike.method?]
      exact Option.some.inj (hc₂.symm.trans (h1.trans h.code))
    subst hcc
    have hlen : len₂ = len := by rw [hdg] at hd₂; cases hd₂; rfl
    subst hlen
    have hs₂ : s₂ = (({ U with heap := s₂.heap, slotsUsed := s₂.slotsUsed } : State).setVm s₂.vm).setTop { g with pc := g.pc + len₂, stack := v.toList ++ g.stack } := by
      refine e3.trans ?_
      rw [hf₂, State.calling_eq h.top, State.setFrames_setFrames, State.setTop_of_frames _ hr', hr]
      rfl
    have hsame : U.sameButNew ({ U with heap := s₂.heap, slotsUsed := s₂.slotsUsed } : State) L mc ms := by
      refine ⟨?_, q2, q3, q4, q5, q6⟩
      obtain ⟨t, ht, -⟩ := State.frames_cons hr
      show ({ U with heap := s₂.heap, slotsUsed := s₂.slotsUsed } : State) = { U.setFrames U.frames with heap := s₂.heap, slotsUsed := s₂.slotsUsed }
      rw [State.setFrames_self ht]
    subst hg
    refine Or.inl ⟨v, ⟨(({ U with heap := s₂.heap, slotsUsed := s₂.slotsUsed } : State).setVm s₂.vm), Ls ++ L, c0 + mc, s0 + ms⟩,
      ⟨X.admits, X.cas, X.clock, X.frames, X.room, X.hears, X.method, X.code, (X.here.setHeapUsed s₂.heap s₂.slotsUsed).setVm hW'.alike, X.tail, State.WarmedH.trans X.warmed hW', X.limits, X.bytes, X.same.trans (hsame.setVm s.vm)⟩,
      ⟨g, mk, s₂, L, rfl, rfl, hqc, rfl, hL, rfl, rfl⟩, ?_⟩
    show Steps p.tables e below _ ((({ U with heap := s₂.heap, slotsUsed := s₂.slotsUsed } : State).setVm s₂.vm).setTop { g with pc := g.pc + len₂, stack := v.toList ++ g.stack })
    rw [← hs₂]
    exact hsteps
  · obtain ⟨e2, q2, q3, q4, q5, q6⟩ := id hsm
    have e3 : s₂ = ({ (U.calling g mk a).setFrames s₂.frames with heap := s₂.heap, slotsUsed := s₂.slotsUsed } : State).setVm s₂.vm := by
      have : s₂ = ({ s₂ with vm := (U.calling g mk a).vm } : State).setVm s₂.vm := rfl
      rw [e2] at this
      exact this
    have hf₂ : s₂.frames = .throwing q :: .java g :: U.frames.tail := hend
    have hW' : U.WarmedH s₂.vm := hW₂
    have hs₂ : s₂ = ((({ U with heap := s₂.heap, slotsUsed := s₂.slotsUsed } : State).setVm s₂.vm).setTop g).pushFrame (.throwing q) := by
      refine e3.trans ?_
      rw [hf₂, State.calling_eq h.top, State.setFrames_setFrames, State.pushFrame, State.frames_setTop _ hr', State.setTop_of_frames _ hr', State.setFrames_setFrames, hr]
      rfl
    have hsame : U.sameButNew ({ U with heap := s₂.heap, slotsUsed := s₂.slotsUsed } : State) L mc ms := by
      refine ⟨?_, q2, q3, q4, q5, q6⟩
      obtain ⟨t, ht, -⟩ := State.frames_cons hr
      show ({ U with heap := s₂.heap, slotsUsed := s₂.slotsUsed } : State) = { U.setFrames U.frames with heap := s₂.heap, slotsUsed := s₂.slotsUsed }
      rw [State.setFrames_self ht]
    subst hg
    refine Or.inr ⟨q, ⟨(({ U with heap := s₂.heap, slotsUsed := s₂.slotsUsed } : State).setVm s₂.vm), Ls ++ L, c0 + mc, s0 + ms⟩,
      ⟨X.admits, X.cas, X.clock, X.frames, X.room, X.hears, X.method, X.code, (X.here.setHeapUsed s₂.heap s₂.slotsUsed).setVm hW'.alike, X.tail, State.WarmedH.trans X.warmed hW', X.limits, X.bytes, X.same.trans (hsame.setVm s.vm)⟩,
      ⟨g, mk, s₂, L, E, ce, rfl, rfl, hx, hce, hcv, hcl, rfl, hL, rfl, rfl⟩, ?_⟩
    show Steps p.tables e below _ (((({ U with heap := s₂.heap, slotsUsed := s₂.slotsUsed } : State).setVm s₂.vm).setTop g).pushFrame (.throwing q))
    rw [← hs₂]
    exact hsteps
end
variable {p : Program} {l : Launch} {e : Env} {R : Room} {s : State} {m : MethodId} {args : Array Value} {below : List Frame} {meth : Method} {c : Code} {T : State} {H : Heap} {locs : List Loc} {cells slots : Nat}
theorem vx_callVX (X : Stand p l e R s m args below meth c T locs cells slots) (hexec : p.tables.exec = Jvm.exec) {own C : String} {index : Nat} {y : MethodName} {bytes : ByteArray} {maxL : Nat} {ret : Option FieldType} {hh : List (Nat × Nat × Nat × Nat)}
    (hown : s.vm.findClass own = some m.cls) (hlink : (Cond.methodLink own index y).before args s = true) (hinst : (Cond.instanceMethod y).before args s = true) (hsel : (Cond.selects C y y).before args s = true)
    (hcode : (Cond.codeWith y bytes maxL ret hh).before args s = true) (hy : y.cls ≠ "java/lang/invoke/MethodHandle" ∧ y.cls ≠ "java/lang/invoke/VarHandle")
    {W9 : Nat} {Pre : Pt → Array Value → Prop} {Post : Pt → Array Value → Option Value → Pt → Prop} {PostX : Pt → Array Value → Addr → Pt → Prop} (hK : vx_Back l R p e below s args y 3 W9 Pre Post PostX)
    {b : Addr} {cellB : Cell} (hcell : T.heap[b]? = some cellB) (hobj : cellB.vm.isStatics = false) (hcls : s.vm.findClass C = some cellB.cls)
    {g : JFrame} (hg : g.method = m) (hsize : g.locals.size = c.maxLocals) {argsL rest : List Value} (hlen : ∀ sig, parseMethodDescriptor y.desc = some sig → argsL.length = sig.parameters.length)
    (hstack : g.stack = argsL.reverse ++ .ref b :: rest) (hW : 2 * g.monitorRoom + (rest.map fun v => v.category).sum ≤ W9) (hdg : decode c.code g.pc = .ok (.invokevirtual index, 3))
    (hpre : ∀ vm₁, s.WarmedH vm₁ → Pre ⟨T.setVm vm₁, locs, cells, slots⟩ (Value.ref b :: argsL).toArray) :
    (∃ (v : Option Value) (vm₁ : Vm) (B : Pt), s.WarmedH vm₁ ∧ Stand p l e R s m args below meth c B.U B.locs B.cells B.slots ∧ Post ⟨T.setVm vm₁, locs, cells, slots⟩ (Value.ref b :: argsL).toArray v B ∧
      ∀ target, Steps p.tables e below (B.U.setTop { g with pc := g.pc + 3, stack := v.toList ++ rest }) target → Steps p.tables e below (T.setTop g) target) ∨
    (∃ (q : Addr) (vm₁ : Vm) (B : Pt), s.WarmedH vm₁ ∧ Stand p l e R s m args below meth c B.U B.locs B.cells B.slots ∧ PostX ⟨T.setVm vm₁, locs, cells, slots⟩ (Value.ref b :: argsL).toArray q B ∧
      Steps p.tables e below (T.setTop g) ((B.U.setTop { g with stack := rest }).pushFrame (.throwing q))) := by
  obtain ⟨mk, methM, hnamed, hmethM, hstM, habM⟩ := Cond.instanceMethod_spec hinst
  obtain ⟨m8, methM', cM, hn8, hmethM', -, -, -, -, -, -, hsigM⟩ := Cond.codeWith_spec hcode
  cases Option.some.inj (hn8.symm.trans hnamed)
  cases hmethM.symm.trans hmethM'
  obtain ⟨c2, r2, m2, q1, q2, q3, q4, kP, hkP, hkPi⟩ := Cond.selects_spec hsel
  cases hcls.symm.trans q1
  cases (State.methodFound?_of_named hnamed hy).symm.trans q2
  cases hnamed.symm.trans q3
  have hselP : selectMethod e.platform s.vm cellB.cls mk = .method mk := by rw [Launch.admits_selectMethod X.admits]; exact q4
  obtain ⟨vm₁, X₁, hstep₁⟩ := X.invokevirtual hexec hown hlink hnamed hmethM hstM hkP hkPi hy (a := b) (cell := cellB) hcell
    (fun z h => by rw [h] at hobj; cases hobj) hselP hmethM habM hkP hkPi (g := g) hg (argsL := argsL) (rest := rest) (hlen _ hsigM) hstack hdg
  rcases hK m meth c ⟨T.setVm vm₁, locs, cells, slots⟩ { g with stack := rest } (.invokevirtual index) mk (Value.ref b :: argsL).toArray X₁ hg hsize hdg hW (X₁.named hnamed) (hpre vm₁ X₁.warmed) with ⟨v, B, X', hpost, hsteps⟩ | ⟨q, B, X', hpost, hsteps⟩
  · exact Or.inl ⟨v, vm₁, B, X₁.warmed, X', hpost, fun target h => hstep₁ _ fun acts => by rw [doInvoke_state]; exact hsteps.trans h⟩
  · exact Or.inr ⟨q, vm₁, B, X₁.warmed, X', hpost, hstep₁ _ fun acts => by rw [doInvoke_state]; exact hsteps⟩
theorem vx_callSX (X : Stand p l e R s m args below meth c T locs cells slots) (hexec : p.tables.exec = Jvm.exec) {own : String} {index : Nat} {y : MethodName} {bytes : ByteArray} {maxL : Nat} {ret : Option FieldType} {hh : List (Nat × Nat × Nat × Nat)}
    (hown : s.vm.findClass own = some m.cls) (hlink : (Cond.methodLink own index y).before args s = true) (hstat : (Cond.static y).before args s = true) (hinit : (Cond.initialized y.cls).before args s = true)
    (hcode : (Cond.codeWith y bytes maxL ret hh).before args s = true) (hy : y.cls ≠ "java/lang/invoke/MethodHandle" ∧ y.cls ≠ "java/lang/invoke/VarHandle")
    {W9 : Nat} {Pre : Pt → Array Value → Prop} {Post : Pt → Array Value → Option Value → Pt → Prop} {PostX : Pt → Array Value → Addr → Pt → Prop} (hK : vx_Back l R p e below s args y 3 W9 Pre Post PostX)
    {g : JFrame} (hg : g.method = m) (hsize : g.locals.size = c.maxLocals) {argsL rest : List Value} (hlen : ∀ sig, parseMethodDescriptor y.desc = some sig → argsL.length = sig.parameters.length)
    (hstack : g.stack = argsL.reverse ++ rest) (hW : 2 * g.monitorRoom + (rest.map fun v => v.category).sum ≤ W9) (hdg : decode c.code g.pc = .ok (.invokestatic index, 3))
    (hpre : ∀ vm₁, s.WarmedH vm₁ → Pre ⟨T.setVm vm₁, locs, cells, slots⟩ argsL.toArray) :
    (∃ (v : Option Value) (vm₁ : Vm) (B : Pt), s.WarmedH vm₁ ∧ Stand p l e R s m args below meth c B.U B.locs B.cells B.slots ∧ Post ⟨T.setVm vm₁, locs, cells, slots⟩ argsL.toArray v B ∧
      ∀ target, Steps p.tables e below (B.U.setTop { g with pc := g.pc + 3, stack := v.toList ++ rest }) target → Steps p.tables e below (T.setTop g) target) ∨
    (∃ (q : Addr) (vm₁ : Vm) (B : Pt), s.WarmedH vm₁ ∧ Stand p l e R s m args below meth c B.U B.locs B.cells B.slots ∧ PostX ⟨T.setVm vm₁, locs, cells, slots⟩ argsL.toArray q B ∧
      Steps p.tables e below (T.setTop g) ((B.U.setTop { g with stack := rest }).pushFrame (.throwing q))) := by
  obtain ⟨mk, methM, cM, hnamed, hmethM, -, -, -, -, -, -, hsigM⟩ := Cond.codeWith_spec hcode
  have hstatic : methM.isStatic = true := Cond.static_spec hnamed hmethM hstat
  obtain ⟨kP, hkP, -⟩ := className_of_methodNamed hnamed
  have hinitP : kP.init = .initialized := Cond.initialized_spec (findClass_of_methodNamed hnamed) hkP hinit
  obtain ⟨vm₁, X₁, hstep₁⟩ := X.invokestatic hexec hown hlink hnamed hmethM hstatic hkP hinitP hy (g := g) hg (argsL := argsL) (rest := rest) (hlen _ hsigM) hstack hdg
  rcases hK m meth c ⟨T.setVm vm₁, locs, cells, slots⟩ { g with stack := rest } (.invokestatic index) mk argsL.toArray X₁ hg hsize hdg hW (X₁.named hnamed) (hpre vm₁ X₁.warmed) with ⟨v, B, X', hpost, hsteps⟩ | ⟨q, B, X', hpost, hsteps⟩
  · exact Or.inl ⟨v, vm₁, B, X₁.warmed, X', hpost, fun target h => hstep₁ _ fun acts => by rw [doInvoke_state]; exact hsteps.trans h⟩
  · exact Or.inr ⟨q, vm₁, B, X₁.warmed, X', hpost, hstep₁ _ fun acts => by rw [doInvoke_state]; exact hsteps⟩
theorem vx_callVW (X : Stand p l e R s m args below meth c T locs cells slots) (hexec : p.tables.exec = Jvm.exec) {own C : String} {index : Nat} {y : MethodName} {bytes : ByteArray} {maxL : Nat} {ret : Option FieldType} {hh : List (Nat × Nat × Nat × Nat)}
    (hown : s.vm.findClass own = some m.cls) (hlink : (Cond.methodLink own index y).before args s = true) (hinst : (Cond.instanceMethod y).before args s = true) (hsel : (Cond.selects C y y).before args s = true)
    (hcode : (Cond.codeWith y bytes maxL ret hh).before args s = true) (hy : y.cls ≠ "java/lang/invoke/MethodHandle" ∧ y.cls ≠ "java/lang/invoke/VarHandle")
    {W9 : Nat} {Pre : Pt → Array Value → Prop} {Post : Pt → Array Value → Option Value → Pt → Prop} (hK : Back l R p e below s args y 3 W9 Pre Post)
    {b : Addr} {cellB : Cell} (hcell : T.heap[b]? = some cellB) (hobj : cellB.vm.isStatics = false) (hcls : s.vm.findClass C = some cellB.cls)
    {g : JFrame} (hg : g.method = m) (hsize : g.locals.size = c.maxLocals) {argsL rest : List Value} (hlen : ∀ sig, parseMethodDescriptor y.desc = some sig → argsL.length = sig.parameters.length)
    (hstack : g.stack = argsL.reverse ++ .ref b :: rest) (hW : 2 * g.monitorRoom + (rest.map fun v => v.category).sum ≤ W9) (hdg : decode c.code g.pc = .ok (.invokevirtual index, 3))
    (hpre : ∀ vm₁, s.WarmedH vm₁ → Pre ⟨T.setVm vm₁, locs, cells, slots⟩ (Value.ref b :: argsL).toArray) :
    ∃ (v : Option Value) (vm₁ : Vm) (B : Pt), s.WarmedH vm₁ ∧ Stand p l e R s m args below meth c B.U B.locs B.cells B.slots ∧ Post ⟨T.setVm vm₁, locs, cells, slots⟩ (Value.ref b :: argsL).toArray v B ∧
      ∀ target, Steps p.tables e below (B.U.setTop { g with pc := g.pc + 3, stack := v.toList ++ rest }) target → Steps p.tables e below (T.setTop g) target := by
  obtain ⟨mk, methM, hnamed, hmethM, hstM, habM⟩ := Cond.instanceMethod_spec hinst
  obtain ⟨m8, methM', cM, hn8, hmethM', -, -, -, -, -, -, hsigM⟩ := Cond.codeWith_spec hcode
  cases Option.some.inj (hn8.symm.trans hnamed)
  cases hmethM.symm.trans hmethM'
  obtain ⟨c2, r2, m2, q1, q2, q3, q4, kP, hkP, hkPi⟩ := Cond.selects_spec hsel
  cases hcls.symm.trans q1
  cases (State.methodFound?_of_named hnamed hy).symm.trans q2
  cases hnamed.symm.trans q3
  have hselP : selectMethod e.platform s.vm cellB.cls mk = .method mk := by rw [Launch.admits_selectMethod X.admits]; exact q4
  obtain ⟨vm₁, X₁, hstep₁⟩ := X.invokevirtual hexec hown hlink hnamed hmethM hstM hkP hkPi hy (a := b) (cell := cellB) hcell
    (fun z h => by rw [h] at hobj; cases hobj) hselP hmethM habM hkP hkPi (g := g) hg (argsL := argsL) (rest := rest) (hlen _ hsigM) hstack hdg
  obtain ⟨v, B, X', hpost, hsteps⟩ := hK m meth c ⟨T.setVm vm₁, locs, cells, slots⟩ { g with stack := rest } (.invokevirtual index) mk (Value.ref b :: argsL).toArray X₁ hg hsize hdg hW (X₁.named hnamed) (hpre vm₁ X₁.warmed)
  exact ⟨v, vm₁, B, X₁.warmed, X', hpost, fun target h => hstep₁ _ fun acts => by rw [doInvoke_state]; exact hsteps.trans h⟩
abbrev vx_CVW (R : Room) (s : State) (args : Array Value) (own C : String) (index : Nat) (y : MethodName) (bytes : ByteArray) (maxL : Nat) (ret : Option FieldType) (hh : List (Nat × Nat × Nat × Nat)) (ws : List Cond) (rm : Room) (mc ms n : Nat) : Prop :=
  (rm.cells = mc ∧ rm.slots = ms ∧ rm.frames + 1 ≤ R.frames ∧ 8 + (maxL + 11) + rm.locals ≤ R.locals ∧ (∀ w ∈ ws, ∀ (a' : Array Value) (U : State), s.WarmedH U.vm → w.before a' U = true) ∧ Cond.codeWith y bytes maxL ret hh ∈ ws) ∧
  (Cond.codeWith y bytes maxL ret hh).before args s = true ∧ (Cond.initialized y.cls).before args s = true ∧ (y.cls ≠ "java/lang/invoke/MethodHandle" ∧ y.cls ≠ "java/lang/invoke/VarHandle") ∧
  (∀ sig, parseMethodDescriptor y.desc = some sig → n = sig.parameters.length) ∧ (Cond.methodLink own index y).before args s = true ∧ (Cond.instanceMethod y).before args s = true ∧ (Cond.selects C y y).before args s = true
theorem vx_cwVW {own C : String} {index maxL mc ms : Nat} {y : MethodName} {bytes : ByteArray} {ret : Option FieldType} {hh : List (Nat × Nat × Nat × Nat)} {Ts ws ws' : List Cond} {rm : Room} (n : Nat) (ht : ∀ w ∈ Ts, w.before args s = true) (hT : GoodIn Ts (wsV own index C y ws)) (hw : ws = Cond.codeWith y bytes maxL ret hh :: ws') (hrc : rm.cells = mc) (hrs : rm.slots = ms)
    (hd : y.cls = C ∧ y.cls ≠ "java/lang/invoke/MethodHandle" ∧ y.cls ≠ "java/lang/invoke/VarHandle" ∧ (parseMethodDescriptor y.desc).map (fun d => d.parameters.length) = some n) (hR : rm.frames + 1 ≤ R.frames ∧ 8 + (maxL + 11) + rm.locals ≤ R.locals) :
    vx_CVW R s args own C index y bytes maxL ret hh ws rm mc ms n := by
  obtain ⟨hC, hd⟩ := hd
  subst hC
  have ok : ∀ w ∈ wsV own index y.cls y ws, w.before args s = true := fun w h => ht w (hT w h).1
  have hG : GoodIn Ts ws := fun w h => hT w (by unfold wsV; exact List.mem_append_right _ h)
  have hc : Cond.codeWith y bytes maxL ret hh ∈ ws := by rw [hw]; exact List.mem_cons_self
  refine ⟨⟨hrc, hrs, hR.1, hR.2, pay_in ht hG, hc⟩, ht _ (hG _ hc).1, ok _ (by simp [wsV]), ⟨hd.1, hd.2.1⟩, fun sig h => ?_, ok _ (by simp [wsV]), ok _ (by simp [wsV]), ok _ (by simp [wsV])⟩
  have h2 := hd.2.2
  rw [h] at h2
  exact (Option.some.inj h2).symm
theorem vx_runVW {y : MethodName} {bytes cc : ByteArray} {maxL nL mc ms n index : Nat} {ret : Option FieldType} {hh : List (Nat × Nat × Nat × Nat)} {ws : List Cond} {rm : Room} {Pc : Array Value → State → Prop} {Qc : Array Value → State → Outcome → State → Prop} {free : Addr → Prop} {Ts : List Cond} {own C : String} {b : Addr} {As rest : List Value} {g : JFrame}
    (S : CallFix p m c cc nL s args Ts own) (hM : Met l y ws rm Pc Qc mc ms free) (cw : vx_CVW R s args own C index y bytes maxL ret hh ws rm mc ms n) (hp : PreV s H C b Pc As)
    (hg : g.method = m) (hn : As.length = n) (hsize : g.locals.size = nL) (hstack : g.stack = As.reverse ++ .ref b :: rest) (hW : 2 * g.monitorRoom + (rest.map fun v => v.category).sum ≤ 8) (hdg : decode cc g.pc = .ok (.invokevirtual index, 3)) (hf : cells + mc ≤ R.cells ∧ slots + ms ≤ R.slots) :
    va_Run p l e R s m args below meth c H locs cells slots mc ms g rest (Qc (Value.ref b :: As).toArray) free := by
  obtain ⟨⟨hrc, hrs, hfr, hlo, hws, hcw⟩, hcode, hini, hy, hlen, hl, hin, hse⟩ := cw
  have hK : Back l R p e below s args y 3 8 (PreOf R mc ms Pc) (PostOf Qc mc ms free) := va_backW (hh := hh) (bytes := bytes) (maxL := maxL) (ret := ret) hM hp.1 hrc hrs hfr hlo hws hcw (fun a' U hW => word_at hW (Or.inl (by first | rfl | simp [Cond.onTables, Cond.keeps, Cond.steady])) hini)
  obtain ⟨hx, hb, hml, ho, -⟩ := S
  obtain ⟨-, ⟨cellB, hcB, hoB, hclB⟩, hPc⟩ := hp
  intro T hT X
  obtain ⟨v, vm₁, ⟨U', l2, c2, s2⟩, hW₁, X', ⟨g', mk, t, L, e1, e2, hq, h1, hL, h2, h3⟩, st⟩ := vx_callVW X hx (C := C) (hh := hh) (bytes := bytes) (maxL := maxL) (ret := ret) ho hl hin hse hcode hy hK (by rw [hT]; exact hcB) hoB hclB hg (hsize.trans hml.symm) (argsL := As) (rest := rest) (fun sig h => hn.trans (hlen sig h)) hstack hW (by rw [hb]; exact hdg)
    (fun vm₁ hW₁ => ⟨hf.1, hf.2, hPc (T.setVm vm₁) hT hW₁⟩)
  dsimp only [Pt.U, Pt.locs, Pt.cells, Pt.slots] at X' e1 e2 h1 h2 h3 st
  subst h1; subst h2; subst h3
  exact ⟨v, (T.setVm vm₁).calling g' mk (Value.ref b :: As).toArray, t, U', L, hT, X', hL, e1, e2, hq, st⟩
section
variable {y : MethodName} {bytes cc : ByteArray} {maxL nL mc ms n index : Nat} {ret : Option FieldType} {ws : List Cond} {rm : Room} {Pc : Array Value → State → Prop} {Qc : Array Value → State → Outcome → State → Prop} {XC : String → State → State → Prop} {free : Addr → Prop} {Ts : List Cond} {own C : String} {b : Addr} {As rest : List Value} {g : JFrame}
theorem vx_runVX {hh : List (Nat × Nat × Nat × Nat)} (S : CallFix p m c cc nL s args Ts own) (hM : vx_Met l y ws rm Pc Qc XC mc ms free) (cw : vx_CVW R s args own C index y bytes maxL ret hh ws rm mc ms n) (hp : PreV s H C b Pc As)
    (hg : g.method = m) (hn : As.length = n) (hsize : g.locals.size = nL) (hstack : g.stack = As.reverse ++ .ref b :: rest) (hW : 2 * g.monitorRoom + (rest.map fun v => v.category).sum ≤ 8) (hdg : decode cc g.pc = .ok (.invokevirtual index, 3)) (hf : cells + mc ≤ R.cells ∧ slots + ms ≤ R.slots) :
    vx_Run p l e R s m args below meth c H locs cells slots mc ms g rest (Qc (Value.ref b :: As).toArray) XC free := by
  obtain ⟨⟨hrc, hrs, hfr, hlo, hws, hcw⟩, hcode, hini, hy, hlen, hl, hin, hse⟩ := cw
  have hK : vx_Back l R p e below s args y 3 8 (PreOf R mc ms Pc) (PostOf Qc mc ms free) (vx_Post XC mc ms free) := vx_backW (hh := hh) (bytes := bytes) (maxL := maxL) (ret := ret) hM hp.1 hrc hrs hfr hlo hws hcw (fun a' U hW => word_at hW (Or.inl (by first | rfl | simp [Cond.onTables, Cond.keeps, Cond.steady])) hini)
  obtain ⟨hx, hb, hml, ho, -⟩ := S
  obtain ⟨-, ⟨cellB, hcB, hoB, hclB⟩, hPc⟩ := hp
  intro T hT X
  rcases vx_callVX X hx (C := C) (hh := hh) (bytes := bytes) (maxL := maxL) (ret := ret) ho hl hin hse hcode hy hK (by rw [hT]; exact hcB) hoB hclB hg (hsize.trans hml.symm) (argsL := As) (rest := rest) (fun sig h => hn.trans (hlen sig h)) hstack hW (by rw [hb]; exact hdg)
    (fun vm₁ hW₁ => ⟨hf.1, hf.2, hPc (T.setVm vm₁) hT hW₁⟩) with ⟨v, vm₁, ⟨U', l2, c2, s2⟩, hW₁, X', ⟨g', mk, t, L, e1, e2, hq, h1, hL, h2, h3⟩, st⟩ | ⟨q, vm₁, ⟨U', l2, c2, s2⟩, hW₁, X', ⟨g', mk, t, L, E, ce, e1, e2, hq, hce, hcv, hcl, h1, hL, h2, h3⟩, st⟩
  · dsimp only [Pt.U, Pt.locs, Pt.cells, Pt.slots] at X' e1 e2 h1 h2 h3 st
    subst h1; subst h2; subst h3
    exact Or.inl ⟨v, (T.setVm vm₁).calling g' mk (Value.ref b :: As).toArray, t, U', L, hT, X', hL, e1, e2, hq, st⟩
  · dsimp only [Pt.U, Pt.locs, Pt.cells, Pt.slots] at X' e1 e2 h1 h2 h3 st hcl
    subst h1; subst h2; subst h3
    exact Or.inr ⟨q, (T.setVm vm₁).calling g' mk (Value.ref b :: As).toArray, t, U', L, E, ce, hT, X', hL, e1, e2, hq, hce, hcv, vx_cls hW₁ hcl, st⟩
theorem vx_runSX {hh : List (Nat × Nat × Nat × Nat)} (S : CallFix p m c cc nL s args Ts own) (hM : vx_Met l y ws rm Pc Qc XC mc ms free) (cw : vx_CSW R s args own index y bytes maxL ret hh ws rm mc ms n) (hp : PreS s H Pc As)
    (hg : g.method = m) (hn : As.length = n) (hsize : g.locals.size = nL) (hstack : g.stack = As.reverse ++ rest) (hW : 2 * g.monitorRoom + (rest.map fun v => v.category).sum ≤ 8) (hdg : decode cc g.pc = .ok (.invokestatic index, 3)) (hf : cells + mc ≤ R.cells ∧ slots + ms ≤ R.slots) :
    vx_Run p l e R s m args below meth c H locs cells slots mc ms g rest (Qc As.toArray) XC free := by
  obtain ⟨⟨hrc, hrs, hfr, hlo, hws, hcw⟩, hcode, hini, hy, hlen, hl, hstt⟩ := cw
  have hK : vx_Back l R p e below s args y 3 8 (PreOf R mc ms Pc) (PostOf Qc mc ms free) (vx_Post XC mc ms free) := vx_backW (hh := hh) (bytes := bytes) (maxL := maxL) (ret := ret) hM hp.1 hrc hrs hfr hlo hws hcw (fun a' U hW => word_at hW (Or.inl (by first | rfl | simp [Cond.onTables, Cond.keeps, Cond.steady])) hini)
  obtain ⟨hx, hb, hml, ho, -⟩ := S
  intro T hT X
  rcases vx_callSX X hx (hh := hh) (bytes := bytes) (maxL := maxL) (ret := ret) ho hl hstt hini hcode hy hK hg (hsize.trans hml.symm) (argsL := As) (rest := rest) (fun sig h => hn.trans (hlen sig h)) hstack hW (by rw [hb]; exact hdg)
    (fun vm₁ hW₁ => ⟨hf.1, hf.2, hp.2 (T.setVm vm₁) hT hW₁⟩) with ⟨v, vm₁, ⟨U', l2, c2, s2⟩, hW₁, X', ⟨g', mk, t, L, e1, e2, hq, h1, hL, h2, h3⟩, st⟩ | ⟨q, vm₁, ⟨U', l2, c2, s2⟩, hW₁, X', ⟨g', mk, t, L, E, ce, e1, e2, hq, hce, hcv, hcl, h1, hL, h2, h3⟩, st⟩
  · dsimp only [Pt.U, Pt.locs, Pt.cells, Pt.slots] at X' e1 e2 h1 h2 h3 st
    subst h1; subst h2; subst h3
    exact Or.inl ⟨v, (T.setVm vm₁).calling g' mk As.toArray, t, U', L, hT, X', hL, e1, e2, hq, st⟩
  · dsimp only [Pt.U, Pt.locs, Pt.cells, Pt.slots] at X' e1 e2 h1 h2 h3 st hcl
    subst h1; subst h2; subst h3
    exact Or.inr ⟨q, (T.setVm vm₁).calling g' mk As.toArray, t, U', L, E, ce, hT, X', hL, e1, e2, hq, hce, hcv, vx_cls hW₁ hcl, st⟩
end
end VXH
theorem vx_ofWH {l : Launch} {y : MethodName} {ws ws' : List Cond} {rm : Room} {Pc : Array Value → State → Prop} {Qc : Array Value → State → Outcome → State → Prop} {XC : String → State → State → Prop} {mc ms : Nat} {free : Addr → Prop} {cc : ByteArray} {maxL : Nat} {ret : Option FieldType} {hh : List (Nat × Nat × Nat × Nat)}
    (hy : plainName y.cls = true) (hw : ws = Cond.codeWith y cc maxL ret hh :: ws')
    (body : ∀ p e s m args below meth c s₁, BodyLoose p l y (headSpec ws rm) cc maxL ret e s m args below meth c s₁ → c.maxLocals = maxL → Pc args s →
      W p l e (headSpec ws rm).room s m args below meth c s.heap [] 0 0 (vx_MQ below Qc XC args s mc ms free) (entryFrame m args maxL)) : vx_Met l y ws rm Pc Qc XC mc ms free := by
  refine MetFree.of_bodyS (code := cc) (maxLocals := maxL) (ret := ret) hy ?_ ?_
  · intro args s m h hn
    obtain ⟨m9, meth, c, hn9, h1, h2, h3, h4, -, h5, h6, -⟩ := Cond.codeWith_spec (atoms_spec (ws := ws) h _ (by rw [hw]; exact List.mem_cons_self))
    cases hn.symm.trans hn9
    exact ⟨meth, c, h1, h2, h3, h4, h5, h6⟩
  · intro p e s m args below meth c s₁ B hml hP _
    have hh0 : s₁.heap = s.heap := by rw [B.state]; rfl
    obtain ⟨t, a1, o, b1, b2, b3⟩ := body p e s m args below meth c s₁ B hml hP s₁ hh0 (Stand.of_body B)
    exact ⟨t, o, a1, b1, b2, b3⟩
/-! ===== END ===== -/
end
section
/-! ===== BEGIN printed: names, fields, word lists, decode rows ===== -/
def RX0 : String := "PaintedDie$Board"
def TX0 : u_T := fun k => match k with
  | 0 => ("PaintedDie$Board", "isWalled", "[Z", true)
  | 1 => ("PaintedDie$Board", "printed", "[I", true)
  | 2 => ("PaintedDie$Board", "width", "I", false)
  | _ => ("PaintedDie$Board", "height", "I", false)
def tyX0 : Nat → FieldType := fun k => match k with
  | 0 => .array .boolean
  | 1 => .array .int
  | 2 => .int
  | _ => .int
abbrev wsX00 : List Cond := u_ws RX0 TX0 4
theorem nmX0 : ∀ a, a < 4 → ∀ b, b < 4 → a ≠ b → (TX0 a).2.1 ≠ (TX0 b).2.1 := by decide +kernel
theorem tyX0_ok : ∀ k, k < 4 → parseFieldDescriptor (TX0 k).2.2.1 = some (tyX0 k) := by decide +kernel
abbrev cX0_init : ByteArray := prog_2_method_1_code
def yX0_init : MethodName := ⟨RX0, "<init>", "()V"⟩
abbrev cX0_cellAt : ByteArray := prog_2_method_2_code
def yX0_cellAt : MethodName := ⟨RX0, "cellAt", "(II)I"⟩
abbrev cX0_columnOf : ByteArray := prog_2_method_3_code
def yX0_columnOf : MethodName := ⟨RX0, "columnOf", "(I)I"⟩
abbrev cX0_rowOf : ByteArray := prog_2_method_4_code
def yX0_rowOf : MethodName := ⟨RX0, "rowOf", "(I)I"⟩
abbrev cX0_layOut : ByteArray := prog_2_method_5_code
def yX0_layOut : MethodName := ⟨RX0, "layOut", "(II)V"⟩
abbrev cX0_has : ByteArray := prog_2_method_6_code
def yX0_has : MethodName := ⟨RX0, "has", "(II)Z"⟩
abbrev cX0_isFree : ByteArray := prog_2_method_7_code
def yX0_isFree : MethodName := ⟨RX0, "isFree", "(II)Z"⟩
abbrev cX0_isFreeCell : ByteArray := prog_2_method_8_code
def yX0_isFreeCell : MethodName := ⟨RX0, "isFreeCell", "(I)Z"⟩
abbrev cX0_printOn : ByteArray := prog_2_method_9_code
def yX0_printOn : MethodName := ⟨RX0, "printOn", "(II)I"⟩
abbrev cX0_printOnto : ByteArray := prog_2_method_10_code
def yX0_printOnto : MethodName := ⟨RX0, "printOnto", "(II)V"⟩
abbrev cX0_turnOver : ByteArray := prog_2_method_11_code
def yX0_turnOver : MethodName := ⟨RX0, "turnOver", "(I)Z"⟩
abbrev cX0_nextCell : ByteArray := prog_2_method_12_code
def yX0_nextCell : MethodName := ⟨RX0, "nextCell", "(II)I"⟩
abbrev cX0_countWalls : ByteArray := prog_2_method_13_code
def yX0_countWalls : MethodName := ⟨RX0, "countWalls", "()I"⟩
abbrev cX0_countPrints : ByteArray := prog_2_method_14_code
def yX0_countPrints : MethodName := ⟨RX0, "countPrints", "(I)I"⟩
def RX1 : String := "PaintedDie$Search"
def TX1 : u_T := fun k => match k with
  | 0 => ("PaintedDie$Search", "fewest", "[I", true)
  | 1 => ("PaintedDie$Search", "queue", "[I", true)
  | _ => ("PaintedDie$Search", "found", "I", false)
def tyX1 : Nat → FieldType := fun k => match k with
  | 0 => .array .int
  | 1 => .array .int
  | _ => .int
abbrev wsX10 : List Cond := u_ws RX1 TX1 3
theorem nmX1 : ∀ a, a < 3 → ∀ b, b < 3 → a ≠ b → (TX1 a).2.1 ≠ (TX1 b).2.1 := by decide +kernel
theorem tyX1_ok : ∀ k, k < 3 → parseFieldDescriptor (TX1 k).2.2.1 = some (tyX1 k) := by decide +kernel
abbrev cX1_init : ByteArray := prog_3_method_1_code
def yX1_init : MethodName := ⟨RX1, "<init>", "()V"⟩
abbrev cX1_forget : ByteArray := prog_3_method_2_code
def yX1_forget : MethodName := ⟨RX1, "forget", "()V"⟩
abbrev cX1_reach : ByteArray := prog_3_method_3_code
def yX1_reach : MethodName := ⟨RX1, "reach", "(III)V"⟩
abbrev cX1_spread : ByteArray := prog_3_method_4_code
def yX1_spread : MethodName := ⟨RX1, "spread", "(LPaintedDie$Board;)V"⟩
abbrev cX1_rollsAt : ByteArray := prog_3_method_5_code
def yX1_rollsAt : MethodName := ⟨RX1, "rollsAt", "(II)I"⟩
abbrev cX1_fewestWithTop : ByteArray := prog_3_method_6_code
def yX1_fewestWithTop : MethodName := ⟨RX1, "fewestWithTop", "(II)I"⟩
abbrev cX1_fewestTo : ByteArray := prog_3_method_7_code
def yX1_fewestTo : MethodName := ⟨RX1, "fewestTo", "(I)I"⟩
abbrev cX1_countTops : ByteArray := prog_3_method_8_code
def yX1_countTops : MethodName := ⟨RX1, "countTops", "(I)I"⟩
abbrev cX1_fewerOf : ByteArray := prog_3_method_9_code
def yX1_fewerOf : MethodName := ⟨RX1, "fewerOf", "(II)I"⟩
def RX2 : String := "PaintedDie$Turn"
def TX2 : u_T := fun k => match k with
  | _ => ("", "", "", false)
def tyX2 : Nat → FieldType := fun k => match k with
  | _ => .int
abbrev wsX20 : List Cond := u_ws RX2 TX2 0
theorem nmX2 : ∀ a, a < 0 → ∀ b, b < 0 → a ≠ b → (TX2 a).2.1 ≠ (TX2 b).2.1 := by decide +kernel
theorem tyX2_ok : ∀ k, k < 0 → parseFieldDescriptor (TX2 k).2.2.1 = some (tyX2 k) := by decide +kernel
abbrev cX2_with : ByteArray := prog_4_method_2_code
def yX2_with : MethodName := ⟨RX2, "with", "(II)I"⟩
abbrev cX2_topOf : ByteArray := prog_4_method_3_code
def yX2_topOf : MethodName := ⟨RX2, "topOf", "(I)I"⟩
abbrev cX2_northOf : ByteArray := prog_4_method_4_code
def yX2_northOf : MethodName := ⟨RX2, "northOf", "(I)I"⟩
abbrev cX2_eastOf : ByteArray := prog_4_method_5_code
def yX2_eastOf : MethodName := ⟨RX2, "eastOf", "(I)I"⟩
abbrev cX2_axisOf : ByteArray := prog_4_method_6_code
def yX2_axisOf : MethodName := ⟨RX2, "axisOf", "(I)I"⟩
abbrev cX2_faceOn : ByteArray := prog_4_method_7_code
def yX2_faceOn : MethodName := ⟨RX2, "faceOn", "(II)I"⟩
abbrev cX2_behindRoll : ByteArray := prog_4_method_8_code
def yX2_behindRoll : MethodName := ⟨RX2, "behindRoll", "(II)I"⟩
def RX3 : String := "PaintedDie"
def TX3 : u_T := fun k => match k with
  | 0 => ("PaintedDie", "board", "LPaintedDie$Board;", true)
  | 1 => ("PaintedDie", "search", "LPaintedDie$Search;", true)
  | 2 => ("PaintedDie", "colours", "[I", true)
  | 3 => ("PaintedDie", "paints", "[I", true)
  | 4 => ("PaintedDie", "cell", "I", false)
  | 5 => ("PaintedDie", "turn", "I", false)
  | 6 => ("PaintedDie", "rollsMade", "I", false)
  | _ => ("PaintedDie", "printsMade", "I", false)
def tyX3 : Nat → FieldType := fun k => match k with
  | 0 => .object "PaintedDie$Board"
  | 1 => .object "PaintedDie$Search"
  | 2 => .array .int
  | 3 => .array .int
  | 4 => .int
  | 5 => .int
  | 6 => .int
  | _ => .int
abbrev wsX30 : List Cond := u_ws RX3 TX3 8
theorem nmX3 : ∀ a, a < 8 → ∀ b, b < 8 → a ≠ b → (TX3 a).2.1 ≠ (TX3 b).2.1 := by decide +kernel
theorem tyX3_ok : ∀ k, k < 8 → parseFieldDescriptor (TX3 k).2.2.1 = some (tyX3 k) := by decide +kernel
abbrev cX3_init : ByteArray := prog_1_method_1_code
def yX3_init : MethodName := ⟨RX3, "<init>", "()V"⟩
abbrev cX3_newBoard : ByteArray := prog_1_method_2_code
def yX3_newBoard : MethodName := ⟨RX3, "newBoard", "(II)I"⟩
abbrev cX3_turnWall : ByteArray := prog_1_method_3_code
def yX3_turnWall : MethodName := ⟨RX3, "turnWall", "(II)Z"⟩
abbrev cX3_setColour : ByteArray := prog_1_method_4_code
def yX3_setColour : MethodName := ⟨RX3, "setColour", "(II)I"⟩
abbrev cX3_addPaint : ByteArray := prog_1_method_5_code
def yX3_addPaint : MethodName := ⟨RX3, "addPaint", "(II)I"⟩
abbrev cX3_put : ByteArray := prog_1_method_6_code
def yX3_put : MethodName := ⟨RX3, "put", "(II)I"⟩
abbrev cX3_roll : ByteArray := prog_1_method_7_code
def yX3_roll : MethodName := ⟨RX3, "roll", "(I)I"⟩
abbrev cX3_rollOn : ByteArray := prog_1_method_8_code
def yX3_rollOn : MethodName := ⟨RX3, "rollOn", "(II)I"⟩
abbrev cX3_column : ByteArray := prog_1_method_9_code
def yX3_column : MethodName := ⟨RX3, "column", "()I"⟩
abbrev cX3_row : ByteArray := prog_1_method_10_code
def yX3_row : MethodName := ⟨RX3, "row", "()I"⟩
abbrev cX3_top : ByteArray := prog_1_method_11_code
def yX3_top : MethodName := ⟨RX3, "top", "()I"⟩
abbrev cX3_bottom : ByteArray := prog_1_method_12_code
def yX3_bottom : MethodName := ⟨RX3, "bottom", "()I"⟩
abbrev cX3_faceTo : ByteArray := prog_1_method_13_code
def yX3_faceTo : MethodName := ⟨RX3, "faceTo", "(I)I"⟩
abbrev cX3_isAsAtFirst : ByteArray := prog_1_method_14_code
def yX3_isAsAtFirst : MethodName := ⟨RX3, "isAsAtFirst", "()Z"⟩
abbrev cX3_colourOf : ByteArray := prog_1_method_15_code
def yX3_colourOf : MethodName := ⟨RX3, "colourOf", "(I)I"⟩
abbrev cX3_paintOf : ByteArray := prog_1_method_16_code
def yX3_paintOf : MethodName := ⟨RX3, "paintOf", "(I)I"⟩
abbrev cX3_isWall : ByteArray := prog_1_method_17_code
def yX3_isWall : MethodName := ⟨RX3, "isWall", "(II)Z"⟩
abbrev cX3_printAt : ByteArray := prog_1_method_18_code
def yX3_printAt : MethodName := ⟨RX3, "printAt", "(II)I"⟩
abbrev cX3_canRoll : ByteArray := prog_1_method_19_code
def yX3_canRoll : MethodName := ⟨RX3, "canRoll", "(I)Z"⟩
abbrev cX3_width : ByteArray := prog_1_method_20_code
def yX3_width : MethodName := ⟨RX3, "width", "()I"⟩
abbrev cX3_height : ByteArray := prog_1_method_21_code
def yX3_height : MethodName := ⟨RX3, "height", "()I"⟩
abbrev cX3_walls : ByteArray := prog_1_method_22_code
def yX3_walls : MethodName := ⟨RX3, "walls", "()I"⟩
abbrev cX3_rolls : ByteArray := prog_1_method_23_code
def yX3_rolls : MethodName := ⟨RX3, "rolls", "()I"⟩
abbrev cX3_prints : ByteArray := prog_1_method_24_code
def yX3_prints : MethodName := ⟨RX3, "prints", "()I"⟩
abbrev cX3_cellsWith : ByteArray := prog_1_method_25_code
def yX3_cellsWith : MethodName := ⟨RX3, "cellsWith", "(I)I"⟩
abbrev cX3_fewestRolls : ByteArray := prog_1_method_26_code
def yX3_fewestRolls : MethodName := ⟨RX3, "fewestRolls", "(II)I"⟩
abbrev cX3_fewestRollsWithTop : ByteArray := prog_1_method_27_code
def yX3_fewestRollsWithTop : MethodName := ⟨RX3, "fewestRollsWithTop", "(III)I"⟩
abbrev cX3_firstRoll : ByteArray := prog_1_method_28_code
def yX3_firstRoll : MethodName := ⟨RX3, "firstRoll", "(III)I"⟩
abbrev cX3_topsAt : ByteArray := prog_1_method_29_code
def yX3_topsAt : MethodName := ⟨RX3, "topsAt", "(II)I"⟩
abbrev cX3_cellsWithinReach : ByteArray := prog_1_method_30_code
def yX3_cellsWithinReach : MethodName := ⟨RX3, "cellsWithinReach", "()I"⟩
abbrev cX3_waysToLie : ByteArray := prog_1_method_31_code
def yX3_waysToLie : MethodName := ⟨RX3, "waysToLie", "()I"⟩
abbrev cX3_cellsBehind : ByteArray := prog_1_method_32_code
def yX3_cellsBehind : MethodName := ⟨RX3, "cellsBehind", "(I)I"⟩
abbrev cX3_meanPaint : ByteArray := prog_1_method_34_code
def yX3_meanPaint : MethodName := ⟨RX3, "meanPaint", "()D"⟩
abbrev cX3_digest : ByteArray := prog_1_method_35_code
def yX3_digest : MethodName := ⟨RX3, "digest", "()J"⟩
abbrev cX3_joinedWithCells : ByteArray := prog_1_method_36_code
def yX3_joinedWithCells : MethodName := ⟨RX3, "joinedWithCells", "(J)J"⟩
abbrev cX3_joined : ByteArray := prog_1_method_37_code
def yX3_joined : MethodName := ⟨RX3, "joined", "(JI)J"⟩
abbrev cX3_startOn : ByteArray := prog_1_method_38_code
def yX3_startOn : MethodName := ⟨RX3, "startOn", "(II)V"⟩
abbrev cX3_rollOnce : ByteArray := prog_1_method_39_code
def yX3_rollOnce : MethodName := ⟨RX3, "rollOnce", "(I)Z"⟩
abbrev cX3_printHere : ByteArray := prog_1_method_40_code
def yX3_printHere : MethodName := ⟨RX3, "printHere", "()V"⟩
abbrev cX3_isShutIn : ByteArray := prog_1_method_41_code
def yX3_isShutIn : MethodName := ⟨RX3, "isShutIn", "()Z"⟩
abbrev cX3_searchFromHere : ByteArray := prog_1_method_42_code
def yX3_searchFromHere : MethodName := ⟨RX3, "searchFromHere", "()V"⟩
abbrev cX3_searchBackFrom : ByteArray := prog_1_method_43_code
def yX3_searchBackFrom : MethodName := ⟨RX3, "searchBackFrom", "(II)V"⟩
abbrev cX3_checkCell : ByteArray := prog_1_method_44_code
def yX3_checkCell : MethodName := ⟨RX3, "checkCell", "(II)V"⟩
abbrev cX3_checkFace : ByteArray := prog_1_method_45_code
def yX3_checkFace : MethodName := ⟨RX3, "checkFace", "(I)V"⟩
abbrev cX3_checkDirection : ByteArray := prog_1_method_46_code
def yX3_checkDirection : MethodName := ⟨RX3, "checkDirection", "(I)V"⟩
abbrev cX3_isFace : ByteArray := prog_1_method_47_code
def yX3_isFace : MethodName := ⟨RX3, "isFace", "(I)Z"⟩
abbrev cX3_isSide : ByteArray := prog_1_method_48_code
def yX3_isSide : MethodName := ⟨RX3, "isSide", "(I)Z"⟩
def RX4 : String := "PaintedDieLaw$Sim"
def TX4 : u_T := fun k => match k with
  | 0 => ("PaintedDieLaw$Sim", "w", "I", false)
  | 1 => ("PaintedDieLaw$Sim", "h", "I", false)
  | 2 => ("PaintedDieLaw$Sim", "wall", "[[Z", false)
  | 3 => ("PaintedDieLaw$Sim", "print", "[[I", false)
  | 4 => ("PaintedDieLaw$Sim", "colour", "[I", false)
  | 5 => ("PaintedDieLaw$Sim", "paint", "[I", false)
  | 6 => ("PaintedDieLaw$Sim", "rolls", "I", false)
  | 7 => ("PaintedDieLaw$Sim", "prints", "I", false)
  | 8 => ("PaintedDieLaw$Sim", "x", "I", false)
  | 9 => ("PaintedDieLaw$Sim", "y", "I", false)
  | _ => ("PaintedDieLaw$Sim", "die", "[I", false)
def tyX4 : Nat → FieldType := fun k => match k with
  | 0 => .int
  | 1 => .int
  | 2 => .array (.array .boolean)
  | 3 => .array (.array .int)
  | 4 => .array .int
  | 5 => .array .int
  | 6 => .int
  | 7 => .int
  | 8 => .int
  | 9 => .int
  | _ => .array .int
abbrev wsX40 : List Cond := u_ws RX4 TX4 11
theorem nmX4 : ∀ a, a < 11 → ∀ b, b < 11 → a ≠ b → (TX4 a).2.1 ≠ (TX4 b).2.1 := by decide +kernel
theorem tyX4_ok : ∀ k, k < 11 → parseFieldDescriptor (TX4 k).2.2.1 = some (tyX4 k) := by decide +kernel
abbrev cX4_init : ByteArray := prog_6_method_1_code
def yX4_init : MethodName := ⟨RX4, "<init>", "()V"⟩
abbrev cX4_board : ByteArray := prog_6_method_2_code
def yX4_board : MethodName := ⟨RX4, "board", "(II)V"⟩
abbrev cX4_put : ByteArray := prog_6_method_3_code
def yX4_put : MethodName := ⟨RX4, "put", "(II)V"⟩
abbrev cX4_isFree : ByteArray := prog_6_method_4_code
def yX4_isFree : MethodName := ⟨RX4, "isFree", "(II)Z"⟩
abbrev cX4_can : ByteArray := prog_6_method_5_code
def yX4_can : MethodName := ⟨RX4, "can", "(I)Z"⟩
abbrev cX4_tipped : ByteArray := prog_6_method_6_code
def yX4_tipped : MethodName := ⟨RX4, "tipped", "([II)[I"⟩
abbrev cX4_roll : ByteArray := prog_6_method_7_code
def yX4_roll : MethodName := ⟨RX4, "roll", "(I)Z"⟩
abbrev cX4_isSame : ByteArray := prog_6_method_10_code
def yX4_isSame : MethodName := ⟨RX4, "isSame", "(LPaintedDie;)Z"⟩
def RX5 : String := "PaintedDieModel"
def TX5 : u_T := fun k => match k with
  | _ => ("", "", "", false)
def tyX5 : Nat → FieldType := fun k => match k with
  | _ => .int
abbrev wsX50 : List Cond := u_ws RX5 TX5 0
theorem nmX5 : ∀ a, a < 0 → ∀ b, b < 0 → a ≠ b → (TX5 a).2.1 ≠ (TX5 b).2.1 := by decide +kernel
theorem tyX5_ok : ∀ k, k < 0 → parseFieldDescriptor (TX5 k).2.2.1 = some (tyX5 k) := by decide +kernel
def RJx145de : String := "java/io/Serializable"
def TJx145de : u_T := fun k => match k with
  | _ => ("", "", "", false)
def tyJx145de : Nat → FieldType := fun k => match k with
  | _ => .int
abbrev wsJx145de0 : List Cond := u_ws RJx145de TJx145de 0
theorem nmJx145de : ∀ a, a < 0 → ∀ b, b < 0 → a ≠ b → (TJx145de a).2.1 ≠ (TJx145de b).2.1 := by decide +kernel
theorem tyJx145de_ok : ∀ k, k < 0 → parseFieldDescriptor (TJx145de k).2.2.1 = some (tyJx145de k) := by decide +kernel
def RJx8e188 : String := "java/lang/Cloneable"
def TJx8e188 : u_T := fun k => match k with
  | _ => ("", "", "", false)
def tyJx8e188 : Nat → FieldType := fun k => match k with
  | _ => .int
abbrev wsJx8e1880 : List Cond := u_ws RJx8e188 TJx8e188 0
theorem nmJx8e188 : ∀ a, a < 0 → ∀ b, b < 0 → a ≠ b → (TJx8e188 a).2.1 ≠ (TJx8e188 b).2.1 := by decide +kernel
theorem tyJx8e188_ok : ∀ k, k < 0 → parseFieldDescriptor (TJx8e188 k).2.2.1 = some (tyJx8e188 k) := by decide +kernel
def RJ9 : String := "java/lang/Math"
def TJ9 : u_T := fun k => match k with
  | _ => ("", "", "", false)
def tyJ9 : Nat → FieldType := fun k => match k with
  | _ => .int
abbrev wsJ90 : List Cond := u_ws RJ9 TJ9 0
theorem nmJ9 : ∀ a, a < 0 → ∀ b, b < 0 → a ≠ b → (TJ9 a).2.1 ≠ (TJ9 b).2.1 := by decide +kernel
theorem tyJ9_ok : ∀ k, k < 0 → parseFieldDescriptor (TJ9 k).2.2.1 = some (tyJ9 k) := by decide +kernel
abbrev cJ9_abs_0f7a4 : ByteArray := prog_13_method_59_code
def yJ9_abs_0f7a4 : MethodName := ⟨RJ9, "abs", "(I)I"⟩
abbrev cJ9_min_7cf53 : ByteArray := prog_13_method_69_code
def yJ9_min_7cf53 : MethodName := ⟨RJ9, "min", "(II)I"⟩
def RJ0 : String := "java/lang/String"
def TJ0 : u_T := fun k => match k with
  | _ => ("", "", "", false)
def tyJ0 : Nat → FieldType := fun k => match k with
  | _ => .int
abbrev wsJ00 : List Cond := u_ws RJ0 TJ0 0
theorem nmJ0 : ∀ a, a < 0 → ∀ b, b < 0 → a ≠ b → (TJ0 a).2.1 ≠ (TJ0 b).2.1 := by decide +kernel
theorem tyJ0_ok : ∀ k, k < 0 → parseFieldDescriptor (TJ0 k).2.2.1 = some (tyJ0 k) := by decide +kernel
def RJ7 : String := "java/util/Arrays"
def TJ7 : u_T := fun k => match k with
  | _ => ("", "", "", false)
def tyJ7 : Nat → FieldType := fun k => match k with
  | _ => .int
abbrev wsJ70 : List Cond := u_ws RJ7 TJ7 0
theorem nmJ7 : ∀ a, a < 0 → ∀ b, b < 0 → a ≠ b → (TJ7 a).2.1 ≠ (TJ7 b).2.1 := by decide +kernel
theorem tyJ7_ok : ∀ k, k < 0 → parseFieldDescriptor (TJ7 k).2.2.1 = some (tyJ7 k) := by decide +kernel
abbrev cJ7_fill_53178 : ByteArray := prog_17_method_103_code
def yJ7_fill_53178 : MethodName := ⟨RJ7, "fill", "([II)V"⟩
def RL : String := "PaintedDieLaw"
abbrev cL_below : ByteArray := method_2_code
def yL_below : MethodName := ⟨RL, "below", "(II)I"⟩
abbrev cL_cell : ByteArray := method_3_code
def yL_cell : MethodName := ⟨RL, "cell", "([II)I"⟩
abbrev cL_act : ByteArray := method_4_code
def yL_act : MethodName := ⟨RL, "act", "(LPaintedDie;LPaintedDieLaw$Sim;I)Z"⟩
abbrev cL_build : ByteArray := method_5_code
def yL_build : MethodName := ⟨RL, "build", "(LPaintedDie;[I)LPaintedDieLaw$Sim;"⟩
abbrev cL_law : ByteArray := code
def yL_law : MethodName := ⟨RL, "law", "([I)Z"⟩
abbrev cL_goes : ByteArray := method_7_code
def yL_goes : MethodName := ⟨RL, "goes", "(LPaintedDie;LPaintedDieLaw$Sim;I)Z"⟩
def wsX0_init : List Cond := .code yX0_init cX0_init 1 none :: ([.methodLink RX0 3 objectInit, .instanceMethod objectInit, .code objectInit ⟨#[0xb1]⟩ 1 none, .arrayClass .boolean, .fieldLink RX0 9 "PaintedDie$Board" "isWalled" "[Z", .arrayClass .int, .fieldLink RX0 15 "PaintedDie$Board" "printed" "[I"] ++ wsX00)
def wsX0_cellAt : List Cond := .code yX0_cellAt cX0_cellAt 2 (some .int) :: ([])
def wsX0_columnOf : List Cond := .code yX0_columnOf cX0_columnOf 1 (some .int) :: ([])
def wsX0_rowOf : List Cond := .code yX0_rowOf cX0_rowOf 1 (some .int) :: ([])
def wsX0_layOut : List Cond := .code yX0_layOut cX0_layOut 4 none :: ([.fieldLink RX0 19 "PaintedDie$Board" "width" "I", .fieldLink RX0 23 "PaintedDie$Board" "height" "I", .fieldLink RX0 9 "PaintedDie$Board" "isWalled" "[Z", .fieldLink RX0 15 "PaintedDie$Board" "printed" "[I"] ++ wsX00)
def wsX0_has : List Cond := .code yX0_has cX0_has 3 (some .boolean) :: ([.fieldLink RX0 19 "PaintedDie$Board" "width" "I", .fieldLink RX0 23 "PaintedDie$Board" "height" "I"] ++ wsX00)
def wsX0_isFree : List Cond := .code yX0_isFree cX0_isFree 3 (some .boolean) :: ([.fieldLink RX0 9 "PaintedDie$Board" "isWalled" "[Z", .methodLink RX0 26 yX0_has, .instanceMethod yX0_has, .selects RX0 yX0_has yX0_has, .initialized RX0, .code yX0_has cX0_has 3 (some .boolean), .fieldLink RX0 19 "PaintedDie$Board" "width" "I", .fieldLink RX0 23 "PaintedDie$Board" "height" "I", .methodLink RX0 30 yX0_cellAt, .static yX0_cellAt, .code yX0_cellAt cX0_cellAt 2 (some .int)] ++ wsX00)
def wsX0_isFreeCell : List Cond := .code yX0_isFreeCell cX0_isFreeCell 2 (some .boolean) :: ([.methodLink RX0 34 yX0_columnOf, .static yX0_columnOf, .initialized RX0, .code yX0_columnOf cX0_columnOf 1 (some .int), .methodLink RX0 38 yX0_rowOf, .static yX0_rowOf, .code yX0_rowOf cX0_rowOf 1 (some .int), .methodLink RX0 41 yX0_isFree, .instanceMethod yX0_isFree, .selects RX0 yX0_isFree yX0_isFree, .code yX0_isFree cX0_isFree 3 (some .boolean), .fieldLink RX0 9 "PaintedDie$Board" "isWalled" "[Z", .methodLink RX0 26 yX0_has, .instanceMethod yX0_has, .selects RX0 yX0_has yX0_has, .code yX0_has cX0_has 3 (some .boolean), .fieldLink RX0 19 "PaintedDie$Board" "width" "I", .fieldLink RX0 23 "PaintedDie$Board" "height" "I", .methodLink RX0 30 yX0_cellAt, .static yX0_cellAt, .code yX0_cellAt cX0_cellAt 2 (some .int)] ++ wsX00)
def wsX0_printOn : List Cond := .code yX0_printOn cX0_printOn 3 (some .int) :: ([.fieldLink RX0 15 "PaintedDie$Board" "printed" "[I", .methodLink RX0 26 yX0_has, .instanceMethod yX0_has, .selects RX0 yX0_has yX0_has, .initialized RX0, .code yX0_has cX0_has 3 (some .boolean), .fieldLink RX0 19 "PaintedDie$Board" "width" "I", .fieldLink RX0 23 "PaintedDie$Board" "height" "I", .methodLink RX0 30 yX0_cellAt, .static yX0_cellAt, .code yX0_cellAt cX0_cellAt 2 (some .int)] ++ wsX00)
def wsX0_printOnto : List Cond := .code yX0_printOnto cX0_printOnto 3 none :: ([.fieldLink RX0 15 "PaintedDie$Board" "printed" "[I"] ++ wsX00)
def wsX0_turnOver : List Cond := .code yX0_turnOver cX0_turnOver 2 (some .boolean) :: ([.fieldLink RX0 9 "PaintedDie$Board" "isWalled" "[Z"] ++ wsX00)
def wsX0_nextCell : List Cond := .code yX0_nextCell cX0_nextCell 5 (some .int) :: ([.methodLink RX0 34 yX0_columnOf, .static yX0_columnOf, .initialized RX0, .code yX0_columnOf cX0_columnOf 1 (some .int), .methodLink RX0 38 yX0_rowOf, .static yX0_rowOf, .code yX0_rowOf cX0_rowOf 1 (some .int), .methodLink RX0 41 yX0_isFree, .instanceMethod yX0_isFree, .selects RX0 yX0_isFree yX0_isFree, .code yX0_isFree cX0_isFree 3 (some .boolean), .fieldLink RX0 9 "PaintedDie$Board" "isWalled" "[Z", .methodLink RX0 26 yX0_has, .instanceMethod yX0_has, .selects RX0 yX0_has yX0_has, .code yX0_has cX0_has 3 (some .boolean), .fieldLink RX0 19 "PaintedDie$Board" "width" "I", .fieldLink RX0 23 "PaintedDie$Board" "height" "I", .methodLink RX0 30 yX0_cellAt, .static yX0_cellAt, .code yX0_cellAt cX0_cellAt 2 (some .int)] ++ wsX00)
def wsX0_countWalls : List Cond := .code yX0_countWalls cX0_countWalls 3 (some .int) :: ([.fieldLink RX0 9 "PaintedDie$Board" "isWalled" "[Z"] ++ wsX00)
def wsX0_countPrints : List Cond := .code yX0_countPrints cX0_countPrints 5 (some .int) :: ([.fieldLink RX0 23 "PaintedDie$Board" "height" "I", .fieldLink RX0 19 "PaintedDie$Board" "width" "I", .methodLink RX0 44 yX0_printOn, .instanceMethod yX0_printOn, .selects RX0 yX0_printOn yX0_printOn, .initialized RX0, .code yX0_printOn cX0_printOn 3 (some .int), .fieldLink RX0 15 "PaintedDie$Board" "printed" "[I", .methodLink RX0 26 yX0_has, .instanceMethod yX0_has, .selects RX0 yX0_has yX0_has, .code yX0_has cX0_has 3 (some .boolean), .methodLink RX0 30 yX0_cellAt, .static yX0_cellAt, .code yX0_cellAt cX0_cellAt 2 (some .int)] ++ wsX00)
def wsX1_init : List Cond := .code yX1_init cX1_init 1 none :: ([.methodLink RX1 3 objectInit, .instanceMethod objectInit, .code objectInit ⟨#[0xb1]⟩ 1 none, .arrayClass .int, .fieldLink RX1 11 "PaintedDie$Search" "fewest" "[I", .fieldLink RX1 17 "PaintedDie$Search" "queue" "[I"] ++ wsX10)
def wsJ7_fill_53178 : List Cond := .code yJ7_fill_53178 cJ7_fill_53178 4 none :: ([])
def wsX1_forget : List Cond := .code yX1_forget cX1_forget 1 none :: ([.fieldLink RX1 11 "PaintedDie$Search" "fewest" "[I", .fieldLink RX1 26 "PaintedDie$Search" "found" "I", .methodLink RX1 20 yJ7_fill_53178, .static yJ7_fill_53178, .initialized RJ7, .code yJ7_fill_53178 cJ7_fill_53178 4 none] ++ wsX10)
def wsX1_reach : List Cond := .code yX1_reach cX1_reach 5 none :: ([.fieldLink RX1 11 "PaintedDie$Search" "fewest" "[I", .fieldLink RX1 26 "PaintedDie$Search" "found" "I", .fieldLink RX1 17 "PaintedDie$Search" "queue" "[I"] ++ wsX10)
def wsX1_rollsAt : List Cond := .code yX1_rollsAt cX1_rollsAt 4 (some .int) :: ([.fieldLink RX1 11 "PaintedDie$Search" "fewest" "[I"] ++ wsX10)
def wsX2_topOf : List Cond := .code yX2_topOf cX2_topOf 1 (some .int) :: ([])
def wsX2_northOf : List Cond := .code yX2_northOf cX2_northOf 1 (some .int) :: ([])
def wsX2_with : List Cond := .code yX2_with cX2_with 2 (some .int) :: ([])
def wsX2_axisOf : List Cond := .code yX2_axisOf cX2_axisOf 1 (some .int) :: ([])
def wsX2_eastOf : List Cond := .code yX2_eastOf cX2_eastOf 5 (some .int) :: ([.methodLink RX2 9 yX2_topOf, .static yX2_topOf, .initialized RX2, .code yX2_topOf cX2_topOf 1 (some .int), .methodLink RX2 15 yX2_northOf, .static yX2_northOf, .code yX2_northOf cX2_northOf 1 (some .int), .methodLink RX2 18 yX2_axisOf, .static yX2_axisOf, .code yX2_axisOf cX2_axisOf 1 (some .int)])
def wsX2_behindRoll : List Cond := .code yX2_behindRoll cX2_behindRoll 4 (some .int) :: ([.methodLink RX2 9 yX2_topOf, .static yX2_topOf, .initialized RX2, .code yX2_topOf cX2_topOf 1 (some .int), .methodLink RX2 15 yX2_northOf, .static yX2_northOf, .code yX2_northOf cX2_northOf 1 (some .int), .methodLink RX2 24 yX2_with, .static yX2_with, .code yX2_with cX2_with 2 (some .int), .methodLink RX2 21 yX2_eastOf, .static yX2_eastOf, .code yX2_eastOf cX2_eastOf 5 (some .int), .methodLink RX2 18 yX2_axisOf, .static yX2_axisOf, .code yX2_axisOf cX2_axisOf 1 (some .int)])
def wsX1_spread_r1 : List Cond := [Cond.fieldLink RX1 26 "PaintedDie$Search" "found" "I", Cond.fieldLink RX1 17 "PaintedDie$Search" "queue" "[I", Cond.methodLink RX1 30 yX1_rollsAt, Cond.instanceMethod yX1_rollsAt, Cond.selects RX1 yX1_rollsAt yX1_rollsAt, Cond.initialized RX1, Cond.code yX1_rollsAt cX1_rollsAt 4 (some .int), Cond.fieldLink RX1 11 "PaintedDie$Search" "fewest" "[I", Cond.instanceMethod yX0_nextCell, Cond.initialized RX0, Cond.selects RX0 yX0_nextCell yX0_nextCell, Cond.code yX0_nextCell cX0_nextCell 5 (some .int), Cond.methodLink RX0 34 yX0_columnOf, Cond.static yX0_columnOf, Cond.code yX0_columnOf cX0_columnOf 1 (some .int), Cond.methodLink RX0 38 yX0_rowOf, Cond.static yX0_rowOf, Cond.code yX0_rowOf cX0_rowOf 1 (some .int), Cond.methodLink RX0 41 yX0_isFree, Cond.instanceMethod yX0_isFree, Cond.selects RX0 yX0_isFree yX0_isFree, Cond.code yX0_isFree cX0_isFree 3 (some .boolean), Cond.fieldLink RX0 9 "PaintedDie$Board" "isWalled" "[Z", Cond.methodLink RX0 26 yX0_has]
def wsX1_spread_r2 : List Cond := [Cond.instanceMethod yX0_has, Cond.selects RX0 yX0_has yX0_has, Cond.code yX0_has cX0_has 3 (some .boolean), Cond.fieldLink RX0 19 "PaintedDie$Board" "width" "I", Cond.fieldLink RX0 23 "PaintedDie$Board" "height" "I", Cond.methodLink RX0 30 yX0_cellAt, Cond.static yX0_cellAt, Cond.code yX0_cellAt cX0_cellAt 2 (some .int), Cond.static yX2_behindRoll, Cond.initialized RX2, Cond.code yX2_behindRoll cX2_behindRoll 4 (some .int), Cond.methodLink RX2 9 yX2_topOf, Cond.static yX2_topOf, Cond.code yX2_topOf cX2_topOf 1 (some .int), Cond.methodLink RX2 15 yX2_northOf, Cond.static yX2_northOf, Cond.code yX2_northOf cX2_northOf 1 (some .int), Cond.methodLink RX2 24 yX2_with, Cond.static yX2_with, Cond.code yX2_with cX2_with 2 (some .int), Cond.methodLink RX2 21 yX2_eastOf, Cond.static yX2_eastOf, Cond.code yX2_eastOf cX2_eastOf 5 (some .int), Cond.methodLink RX2 18 yX2_axisOf]
def wsX1_spread_r3 : List Cond := [Cond.static yX2_axisOf, Cond.code yX2_axisOf cX2_axisOf 1 (some .int), Cond.methodLink RX1 42 yX1_reach, Cond.instanceMethod yX1_reach, Cond.selects RX1 yX1_reach yX1_reach, Cond.code yX1_reach cX1_reach 5 none]
def wsX1_spread : List Cond := .code yX1_spread cX1_spread 8 none :: ((wsX1_spread_r1 ++ (wsX1_spread_r2 ++ wsX1_spread_r3)) ++ wsX10 ++ wsX00)
def wsX1_fewerOf : List Cond := .code yX1_fewerOf cX1_fewerOf 2 (some .int) :: ([.methodLink RX1 55 Lib.Math.min.name, .static Lib.Math.min.name, .initialized "java/lang/Math", .code Lib.Math.min.name Lib.Math.min.code 2 (some .int)])
def wsX1_fewestWithTop : List Cond := .code yX1_fewestWithTop cX1_fewestWithTop 5 (some .int) :: ([.static yX2_with, .initialized RX2, .code yX2_with cX2_with 2 (some .int), .methodLink RX1 30 yX1_rollsAt, .instanceMethod yX1_rollsAt, .selects RX1 yX1_rollsAt yX1_rollsAt, .initialized RX1, .code yX1_rollsAt cX1_rollsAt 4 (some .int), .fieldLink RX1 11 "PaintedDie$Search" "fewest" "[I", .methodLink RX1 49 yX1_fewerOf, .static yX1_fewerOf, .code yX1_fewerOf cX1_fewerOf 2 (some .int), .methodLink RX1 55 Lib.Math.min.name, .static Lib.Math.min.name, .initialized "java/lang/Math", .code Lib.Math.min.name Lib.Math.min.code 2 (some .int)] ++ wsX10)
def wsX1_fewestTo : List Cond := .code yX1_fewestTo cX1_fewestTo 4 (some .int) :: ([.methodLink RX1 52 yX1_fewestWithTop, .instanceMethod yX1_fewestWithTop, .selects RX1 yX1_fewestWithTop yX1_fewestWithTop, .initialized RX1, .code yX1_fewestWithTop cX1_fewestWithTop 5 (some .int), .static yX2_with, .initialized RX2, .code yX2_with cX2_with 2 (some .int), .methodLink RX1 30 yX1_rollsAt, .instanceMethod yX1_rollsAt, .selects RX1 yX1_rollsAt yX1_rollsAt, .code yX1_rollsAt cX1_rollsAt 4 (some .int), .fieldLink RX1 11 "PaintedDie$Search" "fewest" "[I", .methodLink RX1 49 yX1_fewerOf, .static yX1_fewerOf, .code yX1_fewerOf cX1_fewerOf 2 (some .int), .methodLink RX1 55 Lib.Math.min.name, .static Lib.Math.min.name, .initialized "java/lang/Math", .code Lib.Math.min.name Lib.Math.min.code 2 (some .int)] ++ wsX10)
def wsX1_countTops : List Cond := .code yX1_countTops cX1_countTops 4 (some .int) :: ([.methodLink RX1 52 yX1_fewestWithTop, .instanceMethod yX1_fewestWithTop, .selects RX1 yX1_fewestWithTop yX1_fewestWithTop, .initialized RX1, .code yX1_fewestWithTop cX1_fewestWithTop 5 (some .int), .static yX2_with, .initialized RX2, .code yX2_with cX2_with 2 (some .int), .methodLink RX1 30 yX1_rollsAt, .instanceMethod yX1_rollsAt, .selects RX1 yX1_rollsAt yX1_rollsAt, .code yX1_rollsAt cX1_rollsAt 4 (some .int), .fieldLink RX1 11 "PaintedDie$Search" "fewest" "[I", .methodLink RX1 49 yX1_fewerOf, .static yX1_fewerOf, .code yX1_fewerOf cX1_fewerOf 2 (some .int), .methodLink RX1 55 Lib.Math.min.name, .static Lib.Math.min.name, .initialized "java/lang/Math", .code Lib.Math.min.name Lib.Math.min.code 2 (some .int)] ++ wsX10)
def wsX2_faceOn : List Cond := .code yX2_faceOn cX2_faceOn 2 (some .int) :: ([.methodLink RX2 15 yX2_northOf, .static yX2_northOf, .initialized RX2, .code yX2_northOf cX2_northOf 1 (some .int), .methodLink RX2 21 yX2_eastOf, .static yX2_eastOf, .code yX2_eastOf cX2_eastOf 5 (some .int), .methodLink RX2 9 yX2_topOf, .static yX2_topOf, .code yX2_topOf cX2_topOf 1 (some .int), .methodLink RX2 18 yX2_axisOf, .static yX2_axisOf, .code yX2_axisOf cX2_axisOf 1 (some .int)])
def wsX3_startOn : List Cond := .code yX3_startOn cX3_startOn 3 none :: ([.fieldLink RX3 12 "PaintedDie" "board" "LPaintedDie$Board;", .fieldLink RX3 52 "PaintedDie" "cell" "I", .fieldLink RX3 96 "PaintedDie" "turn" "I", .fieldLink RX3 142 "PaintedDie" "rollsMade" "I", .fieldLink RX3 145 "PaintedDie" "printsMade" "I", .instanceMethod yX0_layOut, .initialized RX0, .selects RX0 yX0_layOut yX0_layOut, .code yX0_layOut cX0_layOut 4 none, .fieldLink RX0 19 "PaintedDie$Board" "width" "I", .fieldLink RX0 23 "PaintedDie$Board" "height" "I", .fieldLink RX0 9 "PaintedDie$Board" "isWalled" "[Z", .fieldLink RX0 15 "PaintedDie$Board" "printed" "[I"] ++ wsX30 ++ wsX00)
def wsX3_init_r1 : List Cond := [Cond.methodLink RX3 3 objectInit, Cond.instanceMethod objectInit, Cond.code objectInit ⟨#[0xb1]⟩ 1 none, Cond.classLink RX3 9 RX0, Cond.instantiable RX0 4, Cond.initialized RX0, Cond.fieldLink RX3 12 "PaintedDie" "board" "LPaintedDie$Board;", Cond.classLink RX3 16 RX1, Cond.instantiable RX1 3, Cond.initialized RX1, Cond.fieldLink RX3 19 "PaintedDie" "search" "LPaintedDie$Search;", Cond.arrayClass .int, Cond.fieldLink RX3 23 "PaintedDie" "colours" "[I", Cond.fieldLink RX3 27 "PaintedDie" "paints" "[I", Cond.instanceMethod yX0_init, Cond.code yX0_init cX0_init 1 none, Cond.methodLink RX0 3 objectInit, Cond.arrayClass .boolean, Cond.fieldLink RX0 9 "PaintedDie$Board" "isWalled" "[Z", Cond.fieldLink RX0 15 "PaintedDie$Board" "printed" "[I", Cond.instanceMethod yX1_init, Cond.code yX1_init cX1_init 1 none, Cond.methodLink RX1 3 objectInit, Cond.fieldLink RX1 11 "PaintedDie$Search" "fewest" "[I"]
def wsX3_init_r2 : List Cond := [Cond.fieldLink RX1 17 "PaintedDie$Search" "queue" "[I", Cond.methodLink RX3 30 yX3_startOn, Cond.instanceMethod yX3_startOn, Cond.selects RX3 yX3_startOn yX3_startOn, Cond.initialized RX3, Cond.code yX3_startOn cX3_startOn 3 none, Cond.fieldLink RX3 52 "PaintedDie" "cell" "I", Cond.fieldLink RX3 96 "PaintedDie" "turn" "I", Cond.fieldLink RX3 142 "PaintedDie" "rollsMade" "I", Cond.fieldLink RX3 145 "PaintedDie" "printsMade" "I", Cond.instanceMethod yX0_layOut, Cond.selects RX0 yX0_layOut yX0_layOut, Cond.code yX0_layOut cX0_layOut 4 none, Cond.fieldLink RX0 19 "PaintedDie$Board" "width" "I", Cond.fieldLink RX0 23 "PaintedDie$Board" "height" "I"]
def wsX3_init : List Cond := .code yX3_init cX3_init 2 none :: ((wsX3_init_r1 ++ wsX3_init_r2) ++ wsX00 ++ wsX30 ++ wsX10)
def wsX3_isSide : List Cond := .code yX3_isSide cX3_isSide 1 (some .boolean) :: ([])
def wsX3_newBoard : List Cond := .code yX3_newBoard cX3_newBoard 3 (some .int) :: ([.classLink RX3 38 "java/lang/IllegalArgumentException", .initialized "java/lang/IllegalArgumentException", .methodLink RX3 34 yX3_isSide, .static yX3_isSide, .initialized RX3, .code yX3_isSide cX3_isSide 1 (some .boolean), .methodLink RX3 30 yX3_startOn, .instanceMethod yX3_startOn, .selects RX3 yX3_startOn yX3_startOn, .code yX3_startOn cX3_startOn 3 none, .fieldLink RX3 12 "PaintedDie" "board" "LPaintedDie$Board;", .fieldLink RX3 52 "PaintedDie" "cell" "I", .fieldLink RX3 96 "PaintedDie" "turn" "I", .fieldLink RX3 142 "PaintedDie" "rollsMade" "I", .fieldLink RX3 145 "PaintedDie" "printsMade" "I", .instanceMethod yX0_layOut, .initialized RX0, .selects RX0 yX0_layOut yX0_layOut, .code yX0_layOut cX0_layOut 4 none, .fieldLink RX0 19 "PaintedDie$Board" "width" "I", .fieldLink RX0 23 "PaintedDie$Board" "height" "I", .fieldLink RX0 9 "PaintedDie$Board" "isWalled" "[Z", .fieldLink RX0 15 "PaintedDie$Board" "printed" "[I"] ++ wsX30 ++ wsX00 ++ (vx_atS RX3 42 "java/lang/IllegalArgumentException" ["java/lang/RuntimeException", "java/lang/Exception"]).filter goodWord)
def wsX3_checkCell : List Cond := .code yX3_checkCell cX3_checkCell 3 none :: ([.classLink RX3 148 "java/lang/IndexOutOfBoundsException", .initialized "java/lang/IndexOutOfBoundsException", .fieldLink RX3 12 "PaintedDie" "board" "LPaintedDie$Board;", .instanceMethod yX0_has, .initialized RX0, .selects RX0 yX0_has yX0_has, .code yX0_has cX0_has 3 (some .boolean), .fieldLink RX0 19 "PaintedDie$Board" "width" "I", .fieldLink RX0 23 "PaintedDie$Board" "height" "I"] ++ wsX30 ++ wsX00 ++ (vx_atS RX3 152 "java/lang/IndexOutOfBoundsException" ["java/lang/RuntimeException", "java/lang/Exception"]).filter goodWord)
def wsX3_turnWall : List Cond := .code yX3_turnWall cX3_turnWall 4 (some .boolean) :: ([.classLink RX3 56 "java/lang/IllegalStateException", .initialized "java/lang/IllegalStateException", .fieldLink RX3 52 "PaintedDie" "cell" "I", .fieldLink RX3 12 "PaintedDie" "board" "LPaintedDie$Board;", .methodLink RX3 45 yX3_checkCell, .instanceMethod yX3_checkCell, .selects RX3 yX3_checkCell yX3_checkCell, .initialized RX3, .code yX3_checkCell cX3_checkCell 3 none, .classLink RX3 148 "java/lang/IndexOutOfBoundsException", .initialized "java/lang/IndexOutOfBoundsException", .instanceMethod yX0_has, .initialized RX0, .selects RX0 yX0_has yX0_has, .code yX0_has cX0_has 3 (some .boolean), .fieldLink RX0 19 "PaintedDie$Board" "width" "I", .fieldLink RX0 23 "PaintedDie$Board" "height" "I", .static yX0_cellAt, .code yX0_cellAt cX0_cellAt 2 (some .int), .instanceMethod yX0_turnOver, .selects RX0 yX0_turnOver yX0_turnOver, .code yX0_turnOver cX0_turnOver 2 (some .boolean), .fieldLink RX0 9 "PaintedDie$Board" "isWalled" "[Z"] ++ wsX30 ++ wsX00 ++ (vx_atS RX3 60 "java/lang/IllegalStateException" ["java/lang/RuntimeException", "java/lang/Exception"]).filter goodWord ++ (vx_atS RX3 152 "java/lang/IndexOutOfBoundsException" ["java/lang/RuntimeException", "java/lang/Exception"]).filter goodWord)
def wsX3_isFace : List Cond := .code yX3_isFace cX3_isFace 1 (some .boolean) :: ([])
def wsX3_checkFace : List Cond := .code yX3_checkFace cX3_checkFace 1 none :: ([.classLink RX3 148 "java/lang/IndexOutOfBoundsException", .initialized "java/lang/IndexOutOfBoundsException", .methodLink RX3 219 yX3_isFace, .static yX3_isFace, .initialized RX3, .code yX3_isFace cX3_isFace 1 (some .boolean)] ++ (vx_atS RX3 152 "java/lang/IndexOutOfBoundsException" ["java/lang/RuntimeException", "java/lang/Exception"]).filter goodWord)
def wsX3_setColour : List Cond := .code yX3_setColour cX3_setColour 4 (some .int) :: ([.classLink RX3 38 "java/lang/IllegalArgumentException", .initialized "java/lang/IllegalArgumentException", .fieldLink RX3 23 "PaintedDie" "colours" "[I", .methodLink RX3 64 yX3_checkFace, .static yX3_checkFace, .initialized RX3, .code yX3_checkFace cX3_checkFace 1 none, .classLink RX3 148 "java/lang/IndexOutOfBoundsException", .initialized "java/lang/IndexOutOfBoundsException", .methodLink RX3 219 yX3_isFace, .static yX3_isFace, .code yX3_isFace cX3_isFace 1 (some .boolean)] ++ wsX30 ++ (vx_atS RX3 42 "java/lang/IllegalArgumentException" ["java/lang/RuntimeException", "java/lang/Exception"]).filter goodWord ++ (vx_atS RX3 152 "java/lang/IndexOutOfBoundsException" ["java/lang/RuntimeException", "java/lang/Exception"]).filter goodWord)
def wsX3_addPaint : List Cond := .code yX3_addPaint cX3_addPaint 3 (some .int) :: ([.classLink RX3 38 "java/lang/IllegalArgumentException", .initialized "java/lang/IllegalArgumentException", .fieldLink RX3 27 "PaintedDie" "paints" "[I", .methodLink RX3 72 Lib.Math.min.name, .static Lib.Math.min.name, .initialized "java/lang/Math", .code Lib.Math.min.name Lib.Math.min.code 2 (some .int), .methodLink RX3 64 yX3_checkFace, .static yX3_checkFace, .initialized RX3, .code yX3_checkFace cX3_checkFace 1 none, .classLink RX3 148 "java/lang/IndexOutOfBoundsException", .initialized "java/lang/IndexOutOfBoundsException", .methodLink RX3 219 yX3_isFace, .static yX3_isFace, .code yX3_isFace cX3_isFace 1 (some .boolean)] ++ wsX30 ++ (vx_atS RX3 42 "java/lang/IllegalArgumentException" ["java/lang/RuntimeException", "java/lang/Exception"]).filter goodWord ++ (vx_atS RX3 152 "java/lang/IndexOutOfBoundsException" ["java/lang/RuntimeException", "java/lang/Exception"]).filter goodWord)
def wsX3_column : List Cond := .code yX3_column cX3_column 1 (some .int) :: ([.fieldLink RX3 52 "PaintedDie" "cell" "I", .static yX0_columnOf, .initialized RX0, .code yX0_columnOf cX0_columnOf 1 (some .int)] ++ wsX30)
def wsX3_row : List Cond := .code yX3_row cX3_row 1 (some .int) :: ([.fieldLink RX3 52 "PaintedDie" "cell" "I", .static yX0_rowOf, .initialized RX0, .code yX0_rowOf cX0_rowOf 1 (some .int)] ++ wsX30)
def wsX3_put_r1 : List Cond := [Cond.classLink RX3 56 "java/lang/IllegalStateException", Cond.initialized "java/lang/IllegalStateException", Cond.fieldLink RX3 12 "PaintedDie" "board" "LPaintedDie$Board;", Cond.methodLink RX3 87 Lib.Math.abs.name, Cond.static Lib.Math.abs.name, Cond.initialized "java/lang/Math", Cond.code Lib.Math.abs.name Lib.Math.abs.code 1 (some .int), Cond.fieldLink RX3 52 "PaintedDie" "cell" "I", Cond.fieldLink RX3 96 "PaintedDie" "turn" "I", Cond.methodLink RX3 45 yX3_checkCell, Cond.instanceMethod yX3_checkCell, Cond.selects RX3 yX3_checkCell yX3_checkCell, Cond.initialized RX3, Cond.code yX3_checkCell cX3_checkCell 3 none, Cond.classLink RX3 148 "java/lang/IndexOutOfBoundsException", Cond.initialized "java/lang/IndexOutOfBoundsException", Cond.instanceMethod yX0_has, Cond.initialized RX0, Cond.selects RX0 yX0_has yX0_has, Cond.code yX0_has cX0_has 3 (some .boolean), Cond.fieldLink RX0 19 "PaintedDie$Board" "width" "I", Cond.fieldLink RX0 23 "PaintedDie$Board" "height" "I", Cond.instanceMethod yX0_isFree, Cond.selects RX0 yX0_isFree yX0_isFree]
def wsX3_put_r2 : List Cond := [Cond.code yX0_isFree cX0_isFree 3 (some .boolean), Cond.fieldLink RX0 9 "PaintedDie$Board" "isWalled" "[Z", Cond.methodLink RX0 26 yX0_has, Cond.methodLink RX0 30 yX0_cellAt, Cond.static yX0_cellAt, Cond.code yX0_cellAt cX0_cellAt 2 (some .int), Cond.methodLink RX3 83 yX3_column, Cond.instanceMethod yX3_column, Cond.selects RX3 yX3_column yX3_column, Cond.code yX3_column cX3_column 1 (some .int), Cond.static yX0_columnOf, Cond.code yX0_columnOf cX0_columnOf 1 (some .int), Cond.methodLink RX3 91 yX3_row, Cond.instanceMethod yX3_row, Cond.selects RX3 yX3_row yX3_row, Cond.code yX3_row cX3_row 1 (some .int), Cond.static yX0_rowOf, Cond.code yX0_rowOf cX0_rowOf 1 (some .int)]
def wsX3_put : List Cond := .code yX3_put cX3_put 4 (some .int) :: ((wsX3_put_r1 ++ wsX3_put_r2) ++ wsX30 ++ wsX00 ++ (vx_atS RX3 60 "java/lang/IllegalStateException" ["java/lang/RuntimeException", "java/lang/Exception"]).filter goodWord ++ (vx_atS RX3 152 "java/lang/IndexOutOfBoundsException" ["java/lang/RuntimeException", "java/lang/Exception"]).filter goodWord)
def wsX3_checkDirection : List Cond := .code yX3_checkDirection cX3_checkDirection 1 none :: ([.classLink RX3 148 "java/lang/IndexOutOfBoundsException", .initialized "java/lang/IndexOutOfBoundsException"] ++ (vx_atS RX3 152 "java/lang/IndexOutOfBoundsException" ["java/lang/RuntimeException", "java/lang/Exception"]).filter goodWord)
def wsX3_top : List Cond := .code yX3_top cX3_top 1 (some .int) :: ([.fieldLink RX3 96 "PaintedDie" "turn" "I", .static yX2_topOf, .initialized RX2, .code yX2_topOf cX2_topOf 1 (some .int)] ++ wsX30)
def wsX3_bottom : List Cond := .code yX3_bottom cX3_bottom 1 (some .int) :: ([.methodLink RX3 121 yX3_top, .instanceMethod yX3_top, .selects RX3 yX3_top yX3_top, .initialized RX3, .code yX3_top cX3_top 1 (some .int), .fieldLink RX3 96 "PaintedDie" "turn" "I", .static yX2_topOf, .initialized RX2, .code yX2_topOf cX2_topOf 1 (some .int)] ++ wsX30)
def wsX3_printHere_r1 : List Cond := [Cond.fieldLink RX3 27 "PaintedDie" "paints" "[I", Cond.fieldLink RX3 12 "PaintedDie" "board" "LPaintedDie$Board;", Cond.fieldLink RX3 52 "PaintedDie" "cell" "I", Cond.fieldLink RX3 23 "PaintedDie" "colours" "[I", Cond.fieldLink RX3 145 "PaintedDie" "printsMade" "I", Cond.methodLink RX3 107 yX3_bottom, Cond.instanceMethod yX3_bottom, Cond.selects RX3 yX3_bottom yX3_bottom, Cond.initialized RX3, Cond.code yX3_bottom cX3_bottom 1 (some .int), Cond.methodLink RX3 121 yX3_top, Cond.instanceMethod yX3_top, Cond.selects RX3 yX3_top yX3_top, Cond.code yX3_top cX3_top 1 (some .int), Cond.fieldLink RX3 96 "PaintedDie" "turn" "I", Cond.static yX2_topOf, Cond.initialized RX2, Cond.code yX2_topOf cX2_topOf 1 (some .int), Cond.methodLink RX3 219 yX3_isFace, Cond.static yX3_isFace, Cond.code yX3_isFace cX3_isFace 1 (some .boolean), Cond.instanceMethod yX0_printOnto, Cond.initialized RX0, Cond.selects RX0 yX0_printOnto yX0_printOnto]
def wsX3_printHere_r2 : List Cond := [Cond.code yX0_printOnto cX0_printOnto 3 none, Cond.fieldLink RX0 15 "PaintedDie$Board" "printed" "[I"]
def wsX3_printHere : List Cond := .code yX3_printHere cX3_printHere 2 none :: ((wsX3_printHere_r1 ++ wsX3_printHere_r2) ++ wsX30 ++ wsX00)
def wsX3_rollOnce_r1 : List Cond := [Cond.fieldLink RX3 12 "PaintedDie" "board" "LPaintedDie$Board;", Cond.fieldLink RX3 52 "PaintedDie" "cell" "I", Cond.fieldLink RX3 96 "PaintedDie" "turn" "I", Cond.fieldLink RX3 142 "PaintedDie" "rollsMade" "I", Cond.instanceMethod yX0_nextCell, Cond.initialized RX0, Cond.selects RX0 yX0_nextCell yX0_nextCell, Cond.code yX0_nextCell cX0_nextCell 5 (some .int), Cond.methodLink RX0 34 yX0_columnOf, Cond.static yX0_columnOf, Cond.code yX0_columnOf cX0_columnOf 1 (some .int), Cond.methodLink RX0 38 yX0_rowOf, Cond.static yX0_rowOf, Cond.code yX0_rowOf cX0_rowOf 1 (some .int), Cond.methodLink RX0 41 yX0_isFree, Cond.instanceMethod yX0_isFree, Cond.selects RX0 yX0_isFree yX0_isFree, Cond.code yX0_isFree cX0_isFree 3 (some .boolean), Cond.fieldLink RX0 9 "PaintedDie$Board" "isWalled" "[Z", Cond.methodLink RX0 26 yX0_has, Cond.instanceMethod yX0_has, Cond.selects RX0 yX0_has yX0_has, Cond.code yX0_has cX0_has 3 (some .boolean), Cond.fieldLink RX0 19 "PaintedDie$Board" "width" "I"]
def wsX3_rollOnce_r2 : List Cond := [Cond.fieldLink RX0 23 "PaintedDie$Board" "height" "I", Cond.methodLink RX0 30 yX0_cellAt, Cond.static yX0_cellAt, Cond.code yX0_cellAt cX0_cellAt 2 (some .int), Cond.static yX2_behindRoll, Cond.initialized RX2, Cond.code yX2_behindRoll cX2_behindRoll 4 (some .int), Cond.methodLink RX2 9 yX2_topOf, Cond.static yX2_topOf, Cond.code yX2_topOf cX2_topOf 1 (some .int), Cond.methodLink RX2 15 yX2_northOf, Cond.static yX2_northOf, Cond.code yX2_northOf cX2_northOf 1 (some .int), Cond.methodLink RX2 24 yX2_with, Cond.static yX2_with, Cond.code yX2_with cX2_with 2 (some .int), Cond.methodLink RX2 21 yX2_eastOf, Cond.static yX2_eastOf, Cond.code yX2_eastOf cX2_eastOf 5 (some .int), Cond.methodLink RX2 18 yX2_axisOf, Cond.static yX2_axisOf, Cond.code yX2_axisOf cX2_axisOf 1 (some .int), Cond.methodLink RX3 216 yX3_printHere, Cond.instanceMethod yX3_printHere]
def wsX3_rollOnce_r3 : List Cond := [Cond.selects RX3 yX3_printHere yX3_printHere, Cond.initialized RX3, Cond.code yX3_printHere cX3_printHere 2 none, Cond.fieldLink RX3 27 "PaintedDie" "paints" "[I", Cond.fieldLink RX3 23 "PaintedDie" "colours" "[I", Cond.fieldLink RX3 145 "PaintedDie" "printsMade" "I", Cond.methodLink RX3 107 yX3_bottom, Cond.instanceMethod yX3_bottom, Cond.selects RX3 yX3_bottom yX3_bottom, Cond.code yX3_bottom cX3_bottom 1 (some .int), Cond.methodLink RX3 121 yX3_top, Cond.instanceMethod yX3_top, Cond.selects RX3 yX3_top yX3_top, Cond.code yX3_top cX3_top 1 (some .int), Cond.methodLink RX3 219 yX3_isFace, Cond.static yX3_isFace, Cond.code yX3_isFace cX3_isFace 1 (some .boolean), Cond.instanceMethod yX0_printOnto, Cond.selects RX0 yX0_printOnto yX0_printOnto, Cond.code yX0_printOnto cX0_printOnto 3 none, Cond.fieldLink RX0 15 "PaintedDie$Board" "printed" "[I"]
def wsX3_rollOnce : List Cond := .code yX3_rollOnce cX3_rollOnce 3 (some .boolean) :: ((wsX3_rollOnce_r1 ++ (wsX3_rollOnce_r2 ++ wsX3_rollOnce_r3)) ++ wsX30 ++ wsX00)
def wsX3_roll_r1 : List Cond := [Cond.classLink RX3 56 "java/lang/IllegalStateException", Cond.initialized "java/lang/IllegalStateException", Cond.methodLink RX3 99 yX3_checkDirection, Cond.static yX3_checkDirection, Cond.initialized RX3, Cond.code yX3_checkDirection cX3_checkDirection 1 none, Cond.classLink RX3 148 "java/lang/IndexOutOfBoundsException", Cond.initialized "java/lang/IndexOutOfBoundsException", Cond.methodLink RX3 102 yX3_rollOnce, Cond.instanceMethod yX3_rollOnce, Cond.selects RX3 yX3_rollOnce yX3_rollOnce, Cond.code yX3_rollOnce cX3_rollOnce 3 (some .boolean), Cond.fieldLink RX3 12 "PaintedDie" "board" "LPaintedDie$Board;", Cond.fieldLink RX3 52 "PaintedDie" "cell" "I", Cond.fieldLink RX3 96 "PaintedDie" "turn" "I", Cond.fieldLink RX3 142 "PaintedDie" "rollsMade" "I", Cond.instanceMethod yX0_nextCell, Cond.initialized RX0, Cond.selects RX0 yX0_nextCell yX0_nextCell, Cond.code yX0_nextCell cX0_nextCell 5 (some .int), Cond.methodLink RX0 34 yX0_columnOf, Cond.static yX0_columnOf, Cond.code yX0_columnOf cX0_columnOf 1 (some .int), Cond.methodLink RX0 38 yX0_rowOf]
def wsX3_roll_r2 : List Cond := [Cond.static yX0_rowOf, Cond.code yX0_rowOf cX0_rowOf 1 (some .int), Cond.methodLink RX0 41 yX0_isFree, Cond.instanceMethod yX0_isFree, Cond.selects RX0 yX0_isFree yX0_isFree, Cond.code yX0_isFree cX0_isFree 3 (some .boolean), Cond.fieldLink RX0 9 "PaintedDie$Board" "isWalled" "[Z", Cond.methodLink RX0 26 yX0_has, Cond.instanceMethod yX0_has, Cond.selects RX0 yX0_has yX0_has, Cond.code yX0_has cX0_has 3 (some .boolean), Cond.fieldLink RX0 19 "PaintedDie$Board" "width" "I", Cond.fieldLink RX0 23 "PaintedDie$Board" "height" "I", Cond.methodLink RX0 30 yX0_cellAt, Cond.static yX0_cellAt, Cond.code yX0_cellAt cX0_cellAt 2 (some .int), Cond.static yX2_behindRoll, Cond.initialized RX2, Cond.code yX2_behindRoll cX2_behindRoll 4 (some .int), Cond.methodLink RX2 9 yX2_topOf, Cond.static yX2_topOf, Cond.code yX2_topOf cX2_topOf 1 (some .int), Cond.methodLink RX2 15 yX2_northOf, Cond.static yX2_northOf]
def wsX3_roll_r3 : List Cond := [Cond.code yX2_northOf cX2_northOf 1 (some .int), Cond.methodLink RX2 24 yX2_with, Cond.static yX2_with, Cond.code yX2_with cX2_with 2 (some .int), Cond.methodLink RX2 21 yX2_eastOf, Cond.static yX2_eastOf, Cond.code yX2_eastOf cX2_eastOf 5 (some .int), Cond.methodLink RX2 18 yX2_axisOf, Cond.static yX2_axisOf, Cond.code yX2_axisOf cX2_axisOf 1 (some .int), Cond.methodLink RX3 216 yX3_printHere, Cond.instanceMethod yX3_printHere, Cond.selects RX3 yX3_printHere yX3_printHere, Cond.code yX3_printHere cX3_printHere 2 none, Cond.fieldLink RX3 27 "PaintedDie" "paints" "[I", Cond.fieldLink RX3 23 "PaintedDie" "colours" "[I", Cond.fieldLink RX3 145 "PaintedDie" "printsMade" "I", Cond.methodLink RX3 107 yX3_bottom, Cond.instanceMethod yX3_bottom, Cond.selects RX3 yX3_bottom yX3_bottom, Cond.code yX3_bottom cX3_bottom 1 (some .int), Cond.methodLink RX3 121 yX3_top, Cond.instanceMethod yX3_top, Cond.selects RX3 yX3_top yX3_top]
def wsX3_roll_r4 : List Cond := [Cond.code yX3_top cX3_top 1 (some .int), Cond.methodLink RX3 219 yX3_isFace, Cond.static yX3_isFace, Cond.code yX3_isFace cX3_isFace 1 (some .boolean), Cond.instanceMethod yX0_printOnto, Cond.selects RX0 yX0_printOnto yX0_printOnto, Cond.code yX0_printOnto cX0_printOnto 3 none, Cond.fieldLink RX0 15 "PaintedDie$Board" "printed" "[I"]
def wsX3_roll : List Cond := .code yX3_roll cX3_roll 2 (some .int) :: ((wsX3_roll_r1 ++ (wsX3_roll_r2 ++ (wsX3_roll_r3 ++ wsX3_roll_r4))) ++ wsX30 ++ wsX00 ++ (vx_atS RX3 60 "java/lang/IllegalStateException" ["java/lang/RuntimeException", "java/lang/Exception"]).filter goodWord ++ (vx_atS RX3 152 "java/lang/IndexOutOfBoundsException" ["java/lang/RuntimeException", "java/lang/Exception"]).filter goodWord)
def wsX3_rollOn_r1 : List Cond := [Cond.classLink RX3 38 "java/lang/IllegalArgumentException", Cond.initialized "java/lang/IllegalArgumentException", Cond.methodLink RX3 99 yX3_checkDirection, Cond.static yX3_checkDirection, Cond.initialized RX3, Cond.code yX3_checkDirection cX3_checkDirection 1 none, Cond.classLink RX3 148 "java/lang/IndexOutOfBoundsException", Cond.initialized "java/lang/IndexOutOfBoundsException", Cond.methodLink RX3 102 yX3_rollOnce, Cond.instanceMethod yX3_rollOnce, Cond.selects RX3 yX3_rollOnce yX3_rollOnce, Cond.code yX3_rollOnce cX3_rollOnce 3 (some .boolean), Cond.fieldLink RX3 12 "PaintedDie" "board" "LPaintedDie$Board;", Cond.fieldLink RX3 52 "PaintedDie" "cell" "I", Cond.fieldLink RX3 96 "PaintedDie" "turn" "I", Cond.fieldLink RX3 142 "PaintedDie" "rollsMade" "I", Cond.instanceMethod yX0_nextCell, Cond.initialized RX0, Cond.selects RX0 yX0_nextCell yX0_nextCell, Cond.code yX0_nextCell cX0_nextCell 5 (some .int), Cond.methodLink RX0 34 yX0_columnOf, Cond.static yX0_columnOf, Cond.code yX0_columnOf cX0_columnOf 1 (some .int), Cond.methodLink RX0 38 yX0_rowOf]
def wsX3_rollOn_r2 : List Cond := [Cond.static yX0_rowOf, Cond.code yX0_rowOf cX0_rowOf 1 (some .int), Cond.methodLink RX0 41 yX0_isFree, Cond.instanceMethod yX0_isFree, Cond.selects RX0 yX0_isFree yX0_isFree, Cond.code yX0_isFree cX0_isFree 3 (some .boolean), Cond.fieldLink RX0 9 "PaintedDie$Board" "isWalled" "[Z", Cond.methodLink RX0 26 yX0_has, Cond.instanceMethod yX0_has, Cond.selects RX0 yX0_has yX0_has, Cond.code yX0_has cX0_has 3 (some .boolean), Cond.fieldLink RX0 19 "PaintedDie$Board" "width" "I", Cond.fieldLink RX0 23 "PaintedDie$Board" "height" "I", Cond.methodLink RX0 30 yX0_cellAt, Cond.static yX0_cellAt, Cond.code yX0_cellAt cX0_cellAt 2 (some .int), Cond.static yX2_behindRoll, Cond.initialized RX2, Cond.code yX2_behindRoll cX2_behindRoll 4 (some .int), Cond.methodLink RX2 9 yX2_topOf, Cond.static yX2_topOf, Cond.code yX2_topOf cX2_topOf 1 (some .int), Cond.methodLink RX2 15 yX2_northOf, Cond.static yX2_northOf]
def wsX3_rollOn_r3 : List Cond := [Cond.code yX2_northOf cX2_northOf 1 (some .int), Cond.methodLink RX2 24 yX2_with, Cond.static yX2_with, Cond.code yX2_with cX2_with 2 (some .int), Cond.methodLink RX2 21 yX2_eastOf, Cond.static yX2_eastOf, Cond.code yX2_eastOf cX2_eastOf 5 (some .int), Cond.methodLink RX2 18 yX2_axisOf, Cond.static yX2_axisOf, Cond.code yX2_axisOf cX2_axisOf 1 (some .int), Cond.methodLink RX3 216 yX3_printHere, Cond.instanceMethod yX3_printHere, Cond.selects RX3 yX3_printHere yX3_printHere, Cond.code yX3_printHere cX3_printHere 2 none, Cond.fieldLink RX3 27 "PaintedDie" "paints" "[I", Cond.fieldLink RX3 23 "PaintedDie" "colours" "[I", Cond.fieldLink RX3 145 "PaintedDie" "printsMade" "I", Cond.methodLink RX3 107 yX3_bottom, Cond.instanceMethod yX3_bottom, Cond.selects RX3 yX3_bottom yX3_bottom, Cond.code yX3_bottom cX3_bottom 1 (some .int), Cond.methodLink RX3 121 yX3_top, Cond.instanceMethod yX3_top, Cond.selects RX3 yX3_top yX3_top]
def wsX3_rollOn_r4 : List Cond := [Cond.code yX3_top cX3_top 1 (some .int), Cond.methodLink RX3 219 yX3_isFace, Cond.static yX3_isFace, Cond.code yX3_isFace cX3_isFace 1 (some .boolean), Cond.instanceMethod yX0_printOnto, Cond.selects RX0 yX0_printOnto yX0_printOnto, Cond.code yX0_printOnto cX0_printOnto 3 none, Cond.fieldLink RX0 15 "PaintedDie$Board" "printed" "[I"]
def wsX3_rollOn : List Cond := .code yX3_rollOn cX3_rollOn 4 (some .int) :: ((wsX3_rollOn_r1 ++ (wsX3_rollOn_r2 ++ (wsX3_rollOn_r3 ++ wsX3_rollOn_r4))) ++ wsX30 ++ wsX00 ++ (vx_atS RX3 42 "java/lang/IllegalArgumentException" ["java/lang/RuntimeException", "java/lang/Exception"]).filter goodWord ++ (vx_atS RX3 152 "java/lang/IndexOutOfBoundsException" ["java/lang/RuntimeException", "java/lang/Exception"]).filter goodWord)
def wsX3_faceTo : List Cond := .code yX3_faceTo cX3_faceTo 2 (some .int) :: ([.fieldLink RX3 96 "PaintedDie" "turn" "I", .methodLink RX3 99 yX3_checkDirection, .static yX3_checkDirection, .initialized RX3, .code yX3_checkDirection cX3_checkDirection 1 none, .classLink RX3 148 "java/lang/IndexOutOfBoundsException", .initialized "java/lang/IndexOutOfBoundsException", .static yX2_faceOn, .initialized RX2, .code yX2_faceOn cX2_faceOn 2 (some .int), .methodLink RX2 15 yX2_northOf, .static yX2_northOf, .code yX2_northOf cX2_northOf 1 (some .int), .methodLink RX2 21 yX2_eastOf, .static yX2_eastOf, .code yX2_eastOf cX2_eastOf 5 (some .int), .methodLink RX2 9 yX2_topOf, .static yX2_topOf, .code yX2_topOf cX2_topOf 1 (some .int), .methodLink RX2 18 yX2_axisOf, .static yX2_axisOf, .code yX2_axisOf cX2_axisOf 1 (some .int)] ++ wsX30 ++ (vx_atS RX3 152 "java/lang/IndexOutOfBoundsException" ["java/lang/RuntimeException", "java/lang/Exception"]).filter goodWord)
def wsX3_isAsAtFirst : List Cond := .code yX3_isAsAtFirst cX3_isAsAtFirst 1 (some .boolean) :: ([.fieldLink RX3 96 "PaintedDie" "turn" "I"] ++ wsX30)
def wsX3_colourOf : List Cond := .code yX3_colourOf cX3_colourOf 2 (some .int) :: ([.fieldLink RX3 23 "PaintedDie" "colours" "[I", .methodLink RX3 64 yX3_checkFace, .static yX3_checkFace, .initialized RX3, .code yX3_checkFace cX3_checkFace 1 none, .classLink RX3 148 "java/lang/IndexOutOfBoundsException", .initialized "java/lang/IndexOutOfBoundsException", .methodLink RX3 219 yX3_isFace, .static yX3_isFace, .code yX3_isFace cX3_isFace 1 (some .boolean)] ++ wsX30 ++ (vx_atS RX3 152 "java/lang/IndexOutOfBoundsException" ["java/lang/RuntimeException", "java/lang/Exception"]).filter goodWord)
def wsX3_paintOf : List Cond := .code yX3_paintOf cX3_paintOf 2 (some .int) :: ([.fieldLink RX3 27 "PaintedDie" "paints" "[I", .methodLink RX3 64 yX3_checkFace, .static yX3_checkFace, .initialized RX3, .code yX3_checkFace cX3_checkFace 1 none, .classLink RX3 148 "java/lang/IndexOutOfBoundsException", .initialized "java/lang/IndexOutOfBoundsException", .methodLink RX3 219 yX3_isFace, .static yX3_isFace, .code yX3_isFace cX3_isFace 1 (some .boolean)] ++ wsX30 ++ (vx_atS RX3 152 "java/lang/IndexOutOfBoundsException" ["java/lang/RuntimeException", "java/lang/Exception"]).filter goodWord)
def wsX3_isWall : List Cond := .code yX3_isWall cX3_isWall 3 (some .boolean) :: ([.fieldLink RX3 12 "PaintedDie" "board" "LPaintedDie$Board;", .methodLink RX3 45 yX3_checkCell, .instanceMethod yX3_checkCell, .selects RX3 yX3_checkCell yX3_checkCell, .initialized RX3, .code yX3_checkCell cX3_checkCell 3 none, .classLink RX3 148 "java/lang/IndexOutOfBoundsException", .initialized "java/lang/IndexOutOfBoundsException", .instanceMethod yX0_has, .initialized RX0, .selects RX0 yX0_has yX0_has, .code yX0_has cX0_has 3 (some .boolean), .fieldLink RX0 19 "PaintedDie$Board" "width" "I", .fieldLink RX0 23 "PaintedDie$Board" "height" "I", .instanceMethod yX0_isFree, .selects RX0 yX0_isFree yX0_isFree, .code yX0_isFree cX0_isFree 3 (some .boolean), .fieldLink RX0 9 "PaintedDie$Board" "isWalled" "[Z", .methodLink RX0 26 yX0_has, .methodLink RX0 30 yX0_cellAt, .static yX0_cellAt, .code yX0_cellAt cX0_cellAt 2 (some .int)] ++ wsX30 ++ wsX00 ++ (vx_atS RX3 152 "java/lang/IndexOutOfBoundsException" ["java/lang/RuntimeException", "java/lang/Exception"]).filter goodWord)
def wsX3_printAt : List Cond := .code yX3_printAt cX3_printAt 3 (some .int) :: ([.fieldLink RX3 12 "PaintedDie" "board" "LPaintedDie$Board;", .methodLink RX3 45 yX3_checkCell, .instanceMethod yX3_checkCell, .selects RX3 yX3_checkCell yX3_checkCell, .initialized RX3, .code yX3_checkCell cX3_checkCell 3 none, .classLink RX3 148 "java/lang/IndexOutOfBoundsException", .initialized "java/lang/IndexOutOfBoundsException", .instanceMethod yX0_has, .initialized RX0, .selects RX0 yX0_has yX0_has, .code yX0_has cX0_has 3 (some .boolean), .fieldLink RX0 19 "PaintedDie$Board" "width" "I", .fieldLink RX0 23 "PaintedDie$Board" "height" "I", .instanceMethod yX0_printOn, .selects RX0 yX0_printOn yX0_printOn, .code yX0_printOn cX0_printOn 3 (some .int), .fieldLink RX0 15 "PaintedDie$Board" "printed" "[I", .methodLink RX0 26 yX0_has, .methodLink RX0 30 yX0_cellAt, .static yX0_cellAt, .code yX0_cellAt cX0_cellAt 2 (some .int)] ++ wsX30 ++ wsX00 ++ (vx_atS RX3 152 "java/lang/IndexOutOfBoundsException" ["java/lang/RuntimeException", "java/lang/Exception"]).filter goodWord)
def wsX3_canRoll_r1 : List Cond := [Cond.fieldLink RX3 12 "PaintedDie" "board" "LPaintedDie$Board;", Cond.fieldLink RX3 52 "PaintedDie" "cell" "I", Cond.methodLink RX3 99 yX3_checkDirection, Cond.static yX3_checkDirection, Cond.initialized RX3, Cond.code yX3_checkDirection cX3_checkDirection 1 none, Cond.classLink RX3 148 "java/lang/IndexOutOfBoundsException", Cond.initialized "java/lang/IndexOutOfBoundsException", Cond.instanceMethod yX0_nextCell, Cond.initialized RX0, Cond.selects RX0 yX0_nextCell yX0_nextCell, Cond.code yX0_nextCell cX0_nextCell 5 (some .int), Cond.methodLink RX0 34 yX0_columnOf, Cond.static yX0_columnOf, Cond.code yX0_columnOf cX0_columnOf 1 (some .int), Cond.methodLink RX0 38 yX0_rowOf, Cond.static yX0_rowOf, Cond.code yX0_rowOf cX0_rowOf 1 (some .int), Cond.methodLink RX0 41 yX0_isFree, Cond.instanceMethod yX0_isFree, Cond.selects RX0 yX0_isFree yX0_isFree, Cond.code yX0_isFree cX0_isFree 3 (some .boolean), Cond.fieldLink RX0 9 "PaintedDie$Board" "isWalled" "[Z", Cond.methodLink RX0 26 yX0_has]
def wsX3_canRoll_r2 : List Cond := [Cond.instanceMethod yX0_has, Cond.selects RX0 yX0_has yX0_has, Cond.code yX0_has cX0_has 3 (some .boolean), Cond.fieldLink RX0 19 "PaintedDie$Board" "width" "I", Cond.fieldLink RX0 23 "PaintedDie$Board" "height" "I", Cond.methodLink RX0 30 yX0_cellAt, Cond.static yX0_cellAt, Cond.code yX0_cellAt cX0_cellAt 2 (some .int)]
def wsX3_canRoll : List Cond := .code yX3_canRoll cX3_canRoll 2 (some .boolean) :: ((wsX3_canRoll_r1 ++ wsX3_canRoll_r2) ++ wsX30 ++ wsX00 ++ (vx_atS RX3 152 "java/lang/IndexOutOfBoundsException" ["java/lang/RuntimeException", "java/lang/Exception"]).filter goodWord)
def wsX3_width : List Cond := .code yX3_width cX3_width 1 (some .int) :: ([.fieldLink RX3 12 "PaintedDie" "board" "LPaintedDie$Board;"] ++ wsX30 ++ wsX00)
def wsX3_height : List Cond := .code yX3_height cX3_height 1 (some .int) :: ([.fieldLink RX3 12 "PaintedDie" "board" "LPaintedDie$Board;"] ++ wsX30 ++ wsX00)
def wsX3_walls : List Cond := .code yX3_walls cX3_walls 1 (some .int) :: ([.fieldLink RX3 12 "PaintedDie" "board" "LPaintedDie$Board;", .instanceMethod yX0_countWalls, .initialized RX0, .selects RX0 yX0_countWalls yX0_countWalls, .code yX0_countWalls cX0_countWalls 3 (some .int), .fieldLink RX0 9 "PaintedDie$Board" "isWalled" "[Z"] ++ wsX30 ++ wsX00)
def wsX3_rolls : List Cond := .code yX3_rolls cX3_rolls 1 (some .int) :: ([.fieldLink RX3 142 "PaintedDie" "rollsMade" "I"] ++ wsX30)
def wsX3_prints : List Cond := .code yX3_prints cX3_prints 1 (some .int) :: ([.fieldLink RX3 145 "PaintedDie" "printsMade" "I"] ++ wsX30)
def wsX3_cellsWith : List Cond := .code yX3_cellsWith cX3_cellsWith 2 (some .int) :: ([.classLink RX3 148 "java/lang/IndexOutOfBoundsException", .initialized "java/lang/IndexOutOfBoundsException", .fieldLink RX3 12 "PaintedDie" "board" "LPaintedDie$Board;", .instanceMethod yX0_countPrints, .initialized RX0, .selects RX0 yX0_countPrints yX0_countPrints, .code yX0_countPrints cX0_countPrints 5 (some .int), .fieldLink RX0 23 "PaintedDie$Board" "height" "I", .fieldLink RX0 19 "PaintedDie$Board" "width" "I", .methodLink RX0 44 yX0_printOn, .instanceMethod yX0_printOn, .selects RX0 yX0_printOn yX0_printOn, .code yX0_printOn cX0_printOn 3 (some .int), .fieldLink RX0 15 "PaintedDie$Board" "printed" "[I", .methodLink RX0 26 yX0_has, .instanceMethod yX0_has, .selects RX0 yX0_has yX0_has, .code yX0_has cX0_has 3 (some .boolean), .methodLink RX0 30 yX0_cellAt, .static yX0_cellAt, .code yX0_cellAt cX0_cellAt 2 (some .int)] ++ wsX30 ++ wsX00 ++ (vx_atS RX3 152 "java/lang/IndexOutOfBoundsException" ["java/lang/RuntimeException", "java/lang/Exception"]).filter goodWord)
def wsX3_searchFromHere_r1 : List Cond := [Cond.fieldLink RX3 19 "PaintedDie" "search" "LPaintedDie$Search;", Cond.fieldLink RX3 52 "PaintedDie" "cell" "I", Cond.fieldLink RX3 96 "PaintedDie" "turn" "I", Cond.fieldLink RX3 12 "PaintedDie" "board" "LPaintedDie$Board;", Cond.instanceMethod yX1_forget, Cond.initialized RX1, Cond.selects RX1 yX1_forget yX1_forget, Cond.code yX1_forget cX1_forget 1 none, Cond.fieldLink RX1 11 "PaintedDie$Search" "fewest" "[I", Cond.fieldLink RX1 26 "PaintedDie$Search" "found" "I", Cond.methodLink RX1 20 yJ7_fill_53178, Cond.static yJ7_fill_53178, Cond.initialized RJ7, Cond.code yJ7_fill_53178 cJ7_fill_53178 4 none, Cond.instanceMethod yX1_reach, Cond.selects RX1 yX1_reach yX1_reach, Cond.code yX1_reach cX1_reach 5 none, Cond.fieldLink RX1 17 "PaintedDie$Search" "queue" "[I", Cond.instanceMethod yX1_spread, Cond.selects RX1 yX1_spread yX1_spread, Cond.code yX1_spread cX1_spread 8 none, Cond.methodLink RX1 30 yX1_rollsAt, Cond.instanceMethod yX1_rollsAt, Cond.selects RX1 yX1_rollsAt yX1_rollsAt]
def wsX3_searchFromHere_r2 : List Cond := [Cond.code yX1_rollsAt cX1_rollsAt 4 (some .int), Cond.instanceMethod yX0_nextCell, Cond.initialized RX0, Cond.selects RX0 yX0_nextCell yX0_nextCell, Cond.code yX0_nextCell cX0_nextCell 5 (some .int), Cond.methodLink RX0 34 yX0_columnOf, Cond.static yX0_columnOf, Cond.code yX0_columnOf cX0_columnOf 1 (some .int), Cond.methodLink RX0 38 yX0_rowOf, Cond.static yX0_rowOf, Cond.code yX0_rowOf cX0_rowOf 1 (some .int), Cond.methodLink RX0 41 yX0_isFree, Cond.instanceMethod yX0_isFree, Cond.selects RX0 yX0_isFree yX0_isFree, Cond.code yX0_isFree cX0_isFree 3 (some .boolean), Cond.fieldLink RX0 9 "PaintedDie$Board" "isWalled" "[Z", Cond.methodLink RX0 26 yX0_has, Cond.instanceMethod yX0_has, Cond.selects RX0 yX0_has yX0_has, Cond.code yX0_has cX0_has 3 (some .boolean), Cond.fieldLink RX0 19 "PaintedDie$Board" "width" "I", Cond.fieldLink RX0 23 "PaintedDie$Board" "height" "I", Cond.methodLink RX0 30 yX0_cellAt, Cond.static yX0_cellAt]
def wsX3_searchFromHere_r3 : List Cond := [Cond.code yX0_cellAt cX0_cellAt 2 (some .int), Cond.static yX2_behindRoll, Cond.initialized RX2, Cond.code yX2_behindRoll cX2_behindRoll 4 (some .int), Cond.methodLink RX2 9 yX2_topOf, Cond.static yX2_topOf, Cond.code yX2_topOf cX2_topOf 1 (some .int), Cond.methodLink RX2 15 yX2_northOf, Cond.static yX2_northOf, Cond.code yX2_northOf cX2_northOf 1 (some .int), Cond.methodLink RX2 24 yX2_with, Cond.static yX2_with, Cond.code yX2_with cX2_with 2 (some .int), Cond.methodLink RX2 21 yX2_eastOf, Cond.static yX2_eastOf, Cond.code yX2_eastOf cX2_eastOf 5 (some .int), Cond.methodLink RX2 18 yX2_axisOf, Cond.static yX2_axisOf, Cond.code yX2_axisOf cX2_axisOf 1 (some .int), Cond.methodLink RX1 42 yX1_reach]
def wsX3_searchFromHere : List Cond := .code yX3_searchFromHere cX3_searchFromHere 1 none :: ((wsX3_searchFromHere_r1 ++ (wsX3_searchFromHere_r2 ++ wsX3_searchFromHere_r3)) ++ wsX30 ++ wsX10 ++ wsX00)
def wsX3_fewestRolls_r1 : List Cond := [Cond.fieldLink RX3 19 "PaintedDie" "search" "LPaintedDie$Search;", Cond.methodLink RX3 45 yX3_checkCell, Cond.instanceMethod yX3_checkCell, Cond.selects RX3 yX3_checkCell yX3_checkCell, Cond.initialized RX3, Cond.code yX3_checkCell cX3_checkCell 3 none, Cond.classLink RX3 148 "java/lang/IndexOutOfBoundsException", Cond.initialized "java/lang/IndexOutOfBoundsException", Cond.fieldLink RX3 12 "PaintedDie" "board" "LPaintedDie$Board;", Cond.instanceMethod yX0_has, Cond.initialized RX0, Cond.selects RX0 yX0_has yX0_has, Cond.code yX0_has cX0_has 3 (some .boolean), Cond.fieldLink RX0 19 "PaintedDie$Board" "width" "I", Cond.fieldLink RX0 23 "PaintedDie$Board" "height" "I", Cond.methodLink RX3 156 yX3_searchFromHere, Cond.instanceMethod yX3_searchFromHere, Cond.selects RX3 yX3_searchFromHere yX3_searchFromHere, Cond.code yX3_searchFromHere cX3_searchFromHere 1 none, Cond.fieldLink RX3 52 "PaintedDie" "cell" "I", Cond.fieldLink RX3 96 "PaintedDie" "turn" "I", Cond.instanceMethod yX1_forget, Cond.initialized RX1, Cond.selects RX1 yX1_forget yX1_forget]
def wsX3_fewestRolls_r2 : List Cond := [Cond.code yX1_forget cX1_forget 1 none, Cond.fieldLink RX1 11 "PaintedDie$Search" "fewest" "[I", Cond.fieldLink RX1 26 "PaintedDie$Search" "found" "I", Cond.methodLink RX1 20 yJ7_fill_53178, Cond.static yJ7_fill_53178, Cond.initialized RJ7, Cond.code yJ7_fill_53178 cJ7_fill_53178 4 none, Cond.instanceMethod yX1_reach, Cond.selects RX1 yX1_reach yX1_reach, Cond.code yX1_reach cX1_reach 5 none, Cond.fieldLink RX1 17 "PaintedDie$Search" "queue" "[I", Cond.instanceMethod yX1_spread, Cond.selects RX1 yX1_spread yX1_spread, Cond.code yX1_spread cX1_spread 8 none, Cond.methodLink RX1 30 yX1_rollsAt, Cond.instanceMethod yX1_rollsAt, Cond.selects RX1 yX1_rollsAt yX1_rollsAt, Cond.code yX1_rollsAt cX1_rollsAt 4 (some .int), Cond.instanceMethod yX0_nextCell, Cond.selects RX0 yX0_nextCell yX0_nextCell, Cond.code yX0_nextCell cX0_nextCell 5 (some .int), Cond.methodLink RX0 34 yX0_columnOf, Cond.static yX0_columnOf, Cond.code yX0_columnOf cX0_columnOf 1 (some .int)]
def wsX3_fewestRolls_r3 : List Cond := [Cond.methodLink RX0 38 yX0_rowOf, Cond.static yX0_rowOf, Cond.code yX0_rowOf cX0_rowOf 1 (some .int), Cond.methodLink RX0 41 yX0_isFree, Cond.instanceMethod yX0_isFree, Cond.selects RX0 yX0_isFree yX0_isFree, Cond.code yX0_isFree cX0_isFree 3 (some .boolean), Cond.fieldLink RX0 9 "PaintedDie$Board" "isWalled" "[Z", Cond.methodLink RX0 26 yX0_has, Cond.methodLink RX0 30 yX0_cellAt, Cond.static yX0_cellAt, Cond.code yX0_cellAt cX0_cellAt 2 (some .int), Cond.static yX2_behindRoll, Cond.initialized RX2, Cond.code yX2_behindRoll cX2_behindRoll 4 (some .int), Cond.methodLink RX2 9 yX2_topOf, Cond.static yX2_topOf, Cond.code yX2_topOf cX2_topOf 1 (some .int), Cond.methodLink RX2 15 yX2_northOf, Cond.static yX2_northOf, Cond.code yX2_northOf cX2_northOf 1 (some .int), Cond.methodLink RX2 24 yX2_with, Cond.static yX2_with, Cond.code yX2_with cX2_with 2 (some .int)]
def wsX3_fewestRolls_r4 : List Cond := [Cond.methodLink RX2 21 yX2_eastOf, Cond.static yX2_eastOf, Cond.code yX2_eastOf cX2_eastOf 5 (some .int), Cond.methodLink RX2 18 yX2_axisOf, Cond.static yX2_axisOf, Cond.code yX2_axisOf cX2_axisOf 1 (some .int), Cond.methodLink RX1 42 yX1_reach, Cond.instanceMethod yX1_fewestTo, Cond.selects RX1 yX1_fewestTo yX1_fewestTo, Cond.code yX1_fewestTo cX1_fewestTo 4 (some .int), Cond.methodLink RX1 52 yX1_fewestWithTop, Cond.instanceMethod yX1_fewestWithTop, Cond.selects RX1 yX1_fewestWithTop yX1_fewestWithTop, Cond.code yX1_fewestWithTop cX1_fewestWithTop 5 (some .int), Cond.methodLink RX1 49 yX1_fewerOf, Cond.static yX1_fewerOf, Cond.code yX1_fewerOf cX1_fewerOf 2 (some .int), Cond.methodLink RX1 55 Lib.Math.min.name, Cond.static Lib.Math.min.name, Cond.initialized "java/lang/Math", Cond.code Lib.Math.min.name Lib.Math.min.code 2 (some .int)]
def wsX3_fewestRolls : List Cond := .code yX3_fewestRolls cX3_fewestRolls 3 (some .int) :: ((wsX3_fewestRolls_r1 ++ (wsX3_fewestRolls_r2 ++ (wsX3_fewestRolls_r3 ++ wsX3_fewestRolls_r4))) ++ wsX30 ++ wsX00 ++ wsX10 ++ (vx_atS RX3 152 "java/lang/IndexOutOfBoundsException" ["java/lang/RuntimeException", "java/lang/Exception"]).filter goodWord)
def wsX3_fewestRollsWithTop_r1 : List Cond := [Cond.fieldLink RX3 19 "PaintedDie" "search" "LPaintedDie$Search;", Cond.methodLink RX3 45 yX3_checkCell, Cond.instanceMethod yX3_checkCell, Cond.selects RX3 yX3_checkCell yX3_checkCell, Cond.initialized RX3, Cond.code yX3_checkCell cX3_checkCell 3 none, Cond.classLink RX3 148 "java/lang/IndexOutOfBoundsException", Cond.initialized "java/lang/IndexOutOfBoundsException", Cond.fieldLink RX3 12 "PaintedDie" "board" "LPaintedDie$Board;", Cond.instanceMethod yX0_has, Cond.initialized RX0, Cond.selects RX0 yX0_has yX0_has, Cond.code yX0_has cX0_has 3 (some .boolean), Cond.fieldLink RX0 19 "PaintedDie$Board" "width" "I", Cond.fieldLink RX0 23 "PaintedDie$Board" "height" "I", Cond.methodLink RX3 64 yX3_checkFace, Cond.static yX3_checkFace, Cond.code yX3_checkFace cX3_checkFace 1 none, Cond.methodLink RX3 219 yX3_isFace, Cond.static yX3_isFace, Cond.code yX3_isFace cX3_isFace 1 (some .boolean), Cond.methodLink RX3 156 yX3_searchFromHere, Cond.instanceMethod yX3_searchFromHere, Cond.selects RX3 yX3_searchFromHere yX3_searchFromHere]
def wsX3_fewestRollsWithTop_r2 : List Cond := [Cond.code yX3_searchFromHere cX3_searchFromHere 1 none, Cond.fieldLink RX3 52 "PaintedDie" "cell" "I", Cond.fieldLink RX3 96 "PaintedDie" "turn" "I", Cond.instanceMethod yX1_forget, Cond.initialized RX1, Cond.selects RX1 yX1_forget yX1_forget, Cond.code yX1_forget cX1_forget 1 none, Cond.fieldLink RX1 11 "PaintedDie$Search" "fewest" "[I", Cond.fieldLink RX1 26 "PaintedDie$Search" "found" "I", Cond.methodLink RX1 20 yJ7_fill_53178, Cond.static yJ7_fill_53178, Cond.initialized RJ7, Cond.code yJ7_fill_53178 cJ7_fill_53178 4 none, Cond.instanceMethod yX1_reach, Cond.selects RX1 yX1_reach yX1_reach, Cond.code yX1_reach cX1_reach 5 none, Cond.fieldLink RX1 17 "PaintedDie$Search" "queue" "[I", Cond.instanceMethod yX1_spread, Cond.selects RX1 yX1_spread yX1_spread, Cond.code yX1_spread cX1_spread 8 none, Cond.methodLink RX1 30 yX1_rollsAt, Cond.instanceMethod yX1_rollsAt, Cond.selects RX1 yX1_rollsAt yX1_rollsAt, Cond.code yX1_rollsAt cX1_rollsAt 4 (some .int)]
def wsX3_fewestRollsWithTop_r3 : List Cond := [Cond.instanceMethod yX0_nextCell, Cond.selects RX0 yX0_nextCell yX0_nextCell, Cond.code yX0_nextCell cX0_nextCell 5 (some .int), Cond.methodLink RX0 34 yX0_columnOf, Cond.static yX0_columnOf, Cond.code yX0_columnOf cX0_columnOf 1 (some .int), Cond.methodLink RX0 38 yX0_rowOf, Cond.static yX0_rowOf, Cond.code yX0_rowOf cX0_rowOf 1 (some .int), Cond.methodLink RX0 41 yX0_isFree, Cond.instanceMethod yX0_isFree, Cond.selects RX0 yX0_isFree yX0_isFree, Cond.code yX0_isFree cX0_isFree 3 (some .boolean), Cond.fieldLink RX0 9 "PaintedDie$Board" "isWalled" "[Z", Cond.methodLink RX0 26 yX0_has, Cond.methodLink RX0 30 yX0_cellAt, Cond.static yX0_cellAt, Cond.code yX0_cellAt cX0_cellAt 2 (some .int), Cond.static yX2_behindRoll, Cond.initialized RX2, Cond.code yX2_behindRoll cX2_behindRoll 4 (some .int), Cond.methodLink RX2 9 yX2_topOf, Cond.static yX2_topOf, Cond.code yX2_topOf cX2_topOf 1 (some .int)]
def wsX3_fewestRollsWithTop_r4 : List Cond := [Cond.methodLink RX2 15 yX2_northOf, Cond.static yX2_northOf, Cond.code yX2_northOf cX2_northOf 1 (some .int), Cond.methodLink RX2 24 yX2_with, Cond.static yX2_with, Cond.code yX2_with cX2_with 2 (some .int), Cond.methodLink RX2 21 yX2_eastOf, Cond.static yX2_eastOf, Cond.code yX2_eastOf cX2_eastOf 5 (some .int), Cond.methodLink RX2 18 yX2_axisOf, Cond.static yX2_axisOf, Cond.code yX2_axisOf cX2_axisOf 1 (some .int), Cond.methodLink RX1 42 yX1_reach, Cond.instanceMethod yX1_fewestWithTop, Cond.selects RX1 yX1_fewestWithTop yX1_fewestWithTop, Cond.code yX1_fewestWithTop cX1_fewestWithTop 5 (some .int), Cond.methodLink RX1 49 yX1_fewerOf, Cond.static yX1_fewerOf, Cond.code yX1_fewerOf cX1_fewerOf 2 (some .int), Cond.methodLink RX1 55 Lib.Math.min.name, Cond.static Lib.Math.min.name, Cond.initialized "java/lang/Math", Cond.code Lib.Math.min.name Lib.Math.min.code 2 (some .int)]
def wsX3_fewestRollsWithTop : List Cond := .code yX3_fewestRollsWithTop cX3_fewestRollsWithTop 4 (some .int) :: ((wsX3_fewestRollsWithTop_r1 ++ (wsX3_fewestRollsWithTop_r2 ++ (wsX3_fewestRollsWithTop_r3 ++ wsX3_fewestRollsWithTop_r4))) ++ wsX30 ++ wsX00 ++ wsX10 ++ (vx_atS RX3 152 "java/lang/IndexOutOfBoundsException" ["java/lang/RuntimeException", "java/lang/Exception"]).filter goodWord)
def wsX3_searchBackFrom_r1 : List Cond := [Cond.fieldLink RX3 19 "PaintedDie" "search" "LPaintedDie$Search;", Cond.fieldLink RX3 12 "PaintedDie" "board" "LPaintedDie$Board;", Cond.instanceMethod yX1_forget, Cond.initialized RX1, Cond.selects RX1 yX1_forget yX1_forget, Cond.code yX1_forget cX1_forget 1 none, Cond.fieldLink RX1 11 "PaintedDie$Search" "fewest" "[I", Cond.fieldLink RX1 26 "PaintedDie$Search" "found" "I", Cond.methodLink RX1 20 yJ7_fill_53178, Cond.static yJ7_fill_53178, Cond.initialized RJ7, Cond.code yJ7_fill_53178 cJ7_fill_53178 4 none, Cond.instanceMethod yX0_isFreeCell, Cond.initialized RX0, Cond.selects RX0 yX0_isFreeCell yX0_isFreeCell, Cond.code yX0_isFreeCell cX0_isFreeCell 2 (some .boolean), Cond.methodLink RX0 34 yX0_columnOf, Cond.static yX0_columnOf, Cond.code yX0_columnOf cX0_columnOf 1 (some .int), Cond.methodLink RX0 38 yX0_rowOf, Cond.static yX0_rowOf, Cond.code yX0_rowOf cX0_rowOf 1 (some .int), Cond.methodLink RX0 41 yX0_isFree, Cond.instanceMethod yX0_isFree]
def wsX3_searchBackFrom_r2 : List Cond := [Cond.selects RX0 yX0_isFree yX0_isFree, Cond.code yX0_isFree cX0_isFree 3 (some .boolean), Cond.fieldLink RX0 9 "PaintedDie$Board" "isWalled" "[Z", Cond.methodLink RX0 26 yX0_has, Cond.instanceMethod yX0_has, Cond.selects RX0 yX0_has yX0_has, Cond.code yX0_has cX0_has 3 (some .boolean), Cond.fieldLink RX0 19 "PaintedDie$Board" "width" "I", Cond.fieldLink RX0 23 "PaintedDie$Board" "height" "I", Cond.methodLink RX0 30 yX0_cellAt, Cond.static yX0_cellAt, Cond.code yX0_cellAt cX0_cellAt 2 (some .int), Cond.static yX2_with, Cond.initialized RX2, Cond.code yX2_with cX2_with 2 (some .int), Cond.instanceMethod yX1_reach, Cond.selects RX1 yX1_reach yX1_reach, Cond.code yX1_reach cX1_reach 5 none, Cond.fieldLink RX1 17 "PaintedDie$Search" "queue" "[I", Cond.instanceMethod yX1_spread, Cond.selects RX1 yX1_spread yX1_spread, Cond.code yX1_spread cX1_spread 8 none, Cond.methodLink RX1 30 yX1_rollsAt, Cond.instanceMethod yX1_rollsAt]
def wsX3_searchBackFrom_r3 : List Cond := [Cond.selects RX1 yX1_rollsAt yX1_rollsAt, Cond.code yX1_rollsAt cX1_rollsAt 4 (some .int), Cond.instanceMethod yX0_nextCell, Cond.selects RX0 yX0_nextCell yX0_nextCell, Cond.code yX0_nextCell cX0_nextCell 5 (some .int), Cond.static yX2_behindRoll, Cond.code yX2_behindRoll cX2_behindRoll 4 (some .int), Cond.methodLink RX2 9 yX2_topOf, Cond.static yX2_topOf, Cond.code yX2_topOf cX2_topOf 1 (some .int), Cond.methodLink RX2 15 yX2_northOf, Cond.static yX2_northOf, Cond.code yX2_northOf cX2_northOf 1 (some .int), Cond.methodLink RX2 24 yX2_with, Cond.methodLink RX2 21 yX2_eastOf, Cond.static yX2_eastOf, Cond.code yX2_eastOf cX2_eastOf 5 (some .int), Cond.methodLink RX2 18 yX2_axisOf, Cond.static yX2_axisOf, Cond.code yX2_axisOf cX2_axisOf 1 (some .int), Cond.methodLink RX1 42 yX1_reach]
def wsX3_searchBackFrom : List Cond := .code yX3_searchBackFrom cX3_searchBackFrom 4 none :: ((wsX3_searchBackFrom_r1 ++ (wsX3_searchBackFrom_r2 ++ wsX3_searchBackFrom_r3)) ++ wsX30 ++ wsX10 ++ wsX00)
def wsX3_firstRoll_r1 : List Cond := [Cond.fieldLink RX3 19 "PaintedDie" "search" "LPaintedDie$Search;", Cond.fieldLink RX3 52 "PaintedDie" "cell" "I", Cond.fieldLink RX3 96 "PaintedDie" "turn" "I", Cond.fieldLink RX3 12 "PaintedDie" "board" "LPaintedDie$Board;", Cond.methodLink RX3 45 yX3_checkCell, Cond.instanceMethod yX3_checkCell, Cond.selects RX3 yX3_checkCell yX3_checkCell, Cond.initialized RX3, Cond.code yX3_checkCell cX3_checkCell 3 none, Cond.classLink RX3 148 "java/lang/IndexOutOfBoundsException", Cond.initialized "java/lang/IndexOutOfBoundsException", Cond.instanceMethod yX0_has, Cond.initialized RX0, Cond.selects RX0 yX0_has yX0_has, Cond.code yX0_has cX0_has 3 (some .boolean), Cond.fieldLink RX0 19 "PaintedDie$Board" "width" "I", Cond.fieldLink RX0 23 "PaintedDie$Board" "height" "I", Cond.methodLink RX3 64 yX3_checkFace, Cond.static yX3_checkFace, Cond.code yX3_checkFace cX3_checkFace 1 none, Cond.methodLink RX3 219 yX3_isFace, Cond.static yX3_isFace, Cond.code yX3_isFace cX3_isFace 1 (some .boolean), Cond.static yX0_cellAt]
def wsX3_firstRoll_r2 : List Cond := [Cond.code yX0_cellAt cX0_cellAt 2 (some .int), Cond.methodLink RX3 165 yX3_searchBackFrom, Cond.instanceMethod yX3_searchBackFrom, Cond.selects RX3 yX3_searchBackFrom yX3_searchBackFrom, Cond.code yX3_searchBackFrom cX3_searchBackFrom 4 none, Cond.instanceMethod yX1_forget, Cond.initialized RX1, Cond.selects RX1 yX1_forget yX1_forget, Cond.code yX1_forget cX1_forget 1 none, Cond.fieldLink RX1 11 "PaintedDie$Search" "fewest" "[I", Cond.fieldLink RX1 26 "PaintedDie$Search" "found" "I", Cond.methodLink RX1 20 yJ7_fill_53178, Cond.static yJ7_fill_53178, Cond.initialized RJ7, Cond.code yJ7_fill_53178 cJ7_fill_53178 4 none, Cond.instanceMethod yX0_isFreeCell, Cond.selects RX0 yX0_isFreeCell yX0_isFreeCell, Cond.code yX0_isFreeCell cX0_isFreeCell 2 (some .boolean), Cond.methodLink RX0 34 yX0_columnOf, Cond.static yX0_columnOf, Cond.code yX0_columnOf cX0_columnOf 1 (some .int), Cond.methodLink RX0 38 yX0_rowOf, Cond.static yX0_rowOf, Cond.code yX0_rowOf cX0_rowOf 1 (some .int)]
def wsX3_firstRoll_r3 : List Cond := [Cond.methodLink RX0 41 yX0_isFree, Cond.instanceMethod yX0_isFree, Cond.selects RX0 yX0_isFree yX0_isFree, Cond.code yX0_isFree cX0_isFree 3 (some .boolean), Cond.fieldLink RX0 9 "PaintedDie$Board" "isWalled" "[Z", Cond.methodLink RX0 26 yX0_has, Cond.methodLink RX0 30 yX0_cellAt, Cond.static yX2_with, Cond.initialized RX2, Cond.code yX2_with cX2_with 2 (some .int), Cond.instanceMethod yX1_reach, Cond.selects RX1 yX1_reach yX1_reach, Cond.code yX1_reach cX1_reach 5 none, Cond.fieldLink RX1 17 "PaintedDie$Search" "queue" "[I", Cond.instanceMethod yX1_spread, Cond.selects RX1 yX1_spread yX1_spread, Cond.code yX1_spread cX1_spread 8 none, Cond.methodLink RX1 30 yX1_rollsAt, Cond.instanceMethod yX1_rollsAt, Cond.selects RX1 yX1_rollsAt yX1_rollsAt, Cond.code yX1_rollsAt cX1_rollsAt 4 (some .int), Cond.instanceMethod yX0_nextCell, Cond.selects RX0 yX0_nextCell yX0_nextCell, Cond.code yX0_nextCell cX0_nextCell 5 (some .int)]
def wsX3_firstRoll_r4 : List Cond := [Cond.static yX2_behindRoll, Cond.code yX2_behindRoll cX2_behindRoll 4 (some .int), Cond.methodLink RX2 9 yX2_topOf, Cond.static yX2_topOf, Cond.code yX2_topOf cX2_topOf 1 (some .int), Cond.methodLink RX2 15 yX2_northOf, Cond.static yX2_northOf, Cond.code yX2_northOf cX2_northOf 1 (some .int), Cond.methodLink RX2 24 yX2_with, Cond.methodLink RX2 21 yX2_eastOf, Cond.static yX2_eastOf, Cond.code yX2_eastOf cX2_eastOf 5 (some .int), Cond.methodLink RX2 18 yX2_axisOf, Cond.static yX2_axisOf, Cond.code yX2_axisOf cX2_axisOf 1 (some .int), Cond.methodLink RX1 42 yX1_reach]
def wsX3_firstRoll : List Cond := .code yX3_firstRoll cX3_firstRoll 7 (some .int) :: ((wsX3_firstRoll_r1 ++ (wsX3_firstRoll_r2 ++ (wsX3_firstRoll_r3 ++ wsX3_firstRoll_r4))) ++ wsX30 ++ wsX00 ++ wsX10 ++ (vx_atS RX3 152 "java/lang/IndexOutOfBoundsException" ["java/lang/RuntimeException", "java/lang/Exception"]).filter goodWord)
def wsX3_topsAt_r1 : List Cond := [Cond.fieldLink RX3 19 "PaintedDie" "search" "LPaintedDie$Search;", Cond.methodLink RX3 45 yX3_checkCell, Cond.instanceMethod yX3_checkCell, Cond.selects RX3 yX3_checkCell yX3_checkCell, Cond.initialized RX3, Cond.code yX3_checkCell cX3_checkCell 3 none, Cond.classLink RX3 148 "java/lang/IndexOutOfBoundsException", Cond.initialized "java/lang/IndexOutOfBoundsException", Cond.fieldLink RX3 12 "PaintedDie" "board" "LPaintedDie$Board;", Cond.instanceMethod yX0_has, Cond.initialized RX0, Cond.selects RX0 yX0_has yX0_has, Cond.code yX0_has cX0_has 3 (some .boolean), Cond.fieldLink RX0 19 "PaintedDie$Board" "width" "I", Cond.fieldLink RX0 23 "PaintedDie$Board" "height" "I", Cond.methodLink RX3 156 yX3_searchFromHere, Cond.instanceMethod yX3_searchFromHere, Cond.selects RX3 yX3_searchFromHere yX3_searchFromHere, Cond.code yX3_searchFromHere cX3_searchFromHere 1 none, Cond.fieldLink RX3 52 "PaintedDie" "cell" "I", Cond.fieldLink RX3 96 "PaintedDie" "turn" "I", Cond.instanceMethod yX1_forget, Cond.initialized RX1, Cond.selects RX1 yX1_forget yX1_forget]
def wsX3_topsAt_r2 : List Cond := [Cond.code yX1_forget cX1_forget 1 none, Cond.fieldLink RX1 11 "PaintedDie$Search" "fewest" "[I", Cond.fieldLink RX1 26 "PaintedDie$Search" "found" "I", Cond.methodLink RX1 20 yJ7_fill_53178, Cond.static yJ7_fill_53178, Cond.initialized RJ7, Cond.code yJ7_fill_53178 cJ7_fill_53178 4 none, Cond.instanceMethod yX1_reach, Cond.selects RX1 yX1_reach yX1_reach, Cond.code yX1_reach cX1_reach 5 none, Cond.fieldLink RX1 17 "PaintedDie$Search" "queue" "[I", Cond.instanceMethod yX1_spread, Cond.selects RX1 yX1_spread yX1_spread, Cond.code yX1_spread cX1_spread 8 none, Cond.methodLink RX1 30 yX1_rollsAt, Cond.instanceMethod yX1_rollsAt, Cond.selects RX1 yX1_rollsAt yX1_rollsAt, Cond.code yX1_rollsAt cX1_rollsAt 4 (some .int), Cond.instanceMethod yX0_nextCell, Cond.selects RX0 yX0_nextCell yX0_nextCell, Cond.code yX0_nextCell cX0_nextCell 5 (some .int), Cond.methodLink RX0 34 yX0_columnOf, Cond.static yX0_columnOf, Cond.code yX0_columnOf cX0_columnOf 1 (some .int)]
def wsX3_topsAt_r3 : List Cond := [Cond.methodLink RX0 38 yX0_rowOf, Cond.static yX0_rowOf, Cond.code yX0_rowOf cX0_rowOf 1 (some .int), Cond.methodLink RX0 41 yX0_isFree, Cond.instanceMethod yX0_isFree, Cond.selects RX0 yX0_isFree yX0_isFree, Cond.code yX0_isFree cX0_isFree 3 (some .boolean), Cond.fieldLink RX0 9 "PaintedDie$Board" "isWalled" "[Z", Cond.methodLink RX0 26 yX0_has, Cond.methodLink RX0 30 yX0_cellAt, Cond.static yX0_cellAt, Cond.code yX0_cellAt cX0_cellAt 2 (some .int), Cond.static yX2_behindRoll, Cond.initialized RX2, Cond.code yX2_behindRoll cX2_behindRoll 4 (some .int), Cond.methodLink RX2 9 yX2_topOf, Cond.static yX2_topOf, Cond.code yX2_topOf cX2_topOf 1 (some .int), Cond.methodLink RX2 15 yX2_northOf, Cond.static yX2_northOf, Cond.code yX2_northOf cX2_northOf 1 (some .int), Cond.methodLink RX2 24 yX2_with, Cond.static yX2_with, Cond.code yX2_with cX2_with 2 (some .int)]
def wsX3_topsAt_r4 : List Cond := [Cond.methodLink RX2 21 yX2_eastOf, Cond.static yX2_eastOf, Cond.code yX2_eastOf cX2_eastOf 5 (some .int), Cond.methodLink RX2 18 yX2_axisOf, Cond.static yX2_axisOf, Cond.code yX2_axisOf cX2_axisOf 1 (some .int), Cond.methodLink RX1 42 yX1_reach, Cond.instanceMethod yX1_countTops, Cond.selects RX1 yX1_countTops yX1_countTops, Cond.code yX1_countTops cX1_countTops 4 (some .int), Cond.methodLink RX1 52 yX1_fewestWithTop, Cond.instanceMethod yX1_fewestWithTop, Cond.selects RX1 yX1_fewestWithTop yX1_fewestWithTop, Cond.code yX1_fewestWithTop cX1_fewestWithTop 5 (some .int), Cond.methodLink RX1 49 yX1_fewerOf, Cond.static yX1_fewerOf, Cond.code yX1_fewerOf cX1_fewerOf 2 (some .int), Cond.methodLink RX1 55 Lib.Math.min.name, Cond.static Lib.Math.min.name, Cond.initialized "java/lang/Math", Cond.code Lib.Math.min.name Lib.Math.min.code 2 (some .int)]
def wsX3_topsAt : List Cond := .code yX3_topsAt cX3_topsAt 3 (some .int) :: ((wsX3_topsAt_r1 ++ (wsX3_topsAt_r2 ++ (wsX3_topsAt_r3 ++ wsX3_topsAt_r4))) ++ wsX30 ++ wsX00 ++ wsX10 ++ (vx_atS RX3 152 "java/lang/IndexOutOfBoundsException" ["java/lang/RuntimeException", "java/lang/Exception"]).filter goodWord)
def wsX3_cellsWithinReach_r1 : List Cond := [Cond.fieldLink RX3 19 "PaintedDie" "search" "LPaintedDie$Search;", Cond.methodLink RX3 156 yX3_searchFromHere, Cond.instanceMethod yX3_searchFromHere, Cond.selects RX3 yX3_searchFromHere yX3_searchFromHere, Cond.initialized RX3, Cond.code yX3_searchFromHere cX3_searchFromHere 1 none, Cond.fieldLink RX3 52 "PaintedDie" "cell" "I", Cond.fieldLink RX3 96 "PaintedDie" "turn" "I", Cond.fieldLink RX3 12 "PaintedDie" "board" "LPaintedDie$Board;", Cond.instanceMethod yX1_forget, Cond.initialized RX1, Cond.selects RX1 yX1_forget yX1_forget, Cond.code yX1_forget cX1_forget 1 none, Cond.fieldLink RX1 11 "PaintedDie$Search" "fewest" "[I", Cond.fieldLink RX1 26 "PaintedDie$Search" "found" "I", Cond.methodLink RX1 20 yJ7_fill_53178, Cond.static yJ7_fill_53178, Cond.initialized RJ7, Cond.code yJ7_fill_53178 cJ7_fill_53178 4 none, Cond.instanceMethod yX1_reach, Cond.selects RX1 yX1_reach yX1_reach, Cond.code yX1_reach cX1_reach 5 none, Cond.fieldLink RX1 17 "PaintedDie$Search" "queue" "[I", Cond.instanceMethod yX1_spread]
def wsX3_cellsWithinReach_r2 : List Cond := [Cond.selects RX1 yX1_spread yX1_spread, Cond.code yX1_spread cX1_spread 8 none, Cond.methodLink RX1 30 yX1_rollsAt, Cond.instanceMethod yX1_rollsAt, Cond.selects RX1 yX1_rollsAt yX1_rollsAt, Cond.code yX1_rollsAt cX1_rollsAt 4 (some .int), Cond.instanceMethod yX0_nextCell, Cond.initialized RX0, Cond.selects RX0 yX0_nextCell yX0_nextCell, Cond.code yX0_nextCell cX0_nextCell 5 (some .int), Cond.methodLink RX0 34 yX0_columnOf, Cond.static yX0_columnOf, Cond.code yX0_columnOf cX0_columnOf 1 (some .int), Cond.methodLink RX0 38 yX0_rowOf, Cond.static yX0_rowOf, Cond.code yX0_rowOf cX0_rowOf 1 (some .int), Cond.methodLink RX0 41 yX0_isFree, Cond.instanceMethod yX0_isFree, Cond.selects RX0 yX0_isFree yX0_isFree, Cond.code yX0_isFree cX0_isFree 3 (some .boolean), Cond.fieldLink RX0 9 "PaintedDie$Board" "isWalled" "[Z", Cond.methodLink RX0 26 yX0_has, Cond.instanceMethod yX0_has, Cond.selects RX0 yX0_has yX0_has]
def wsX3_cellsWithinReach_r3 : List Cond := [Cond.code yX0_has cX0_has 3 (some .boolean), Cond.fieldLink RX0 19 "PaintedDie$Board" "width" "I", Cond.fieldLink RX0 23 "PaintedDie$Board" "height" "I", Cond.methodLink RX0 30 yX0_cellAt, Cond.static yX0_cellAt, Cond.code yX0_cellAt cX0_cellAt 2 (some .int), Cond.static yX2_behindRoll, Cond.initialized RX2, Cond.code yX2_behindRoll cX2_behindRoll 4 (some .int), Cond.methodLink RX2 9 yX2_topOf, Cond.static yX2_topOf, Cond.code yX2_topOf cX2_topOf 1 (some .int), Cond.methodLink RX2 15 yX2_northOf, Cond.static yX2_northOf, Cond.code yX2_northOf cX2_northOf 1 (some .int), Cond.methodLink RX2 24 yX2_with, Cond.static yX2_with, Cond.code yX2_with cX2_with 2 (some .int), Cond.methodLink RX2 21 yX2_eastOf, Cond.static yX2_eastOf, Cond.code yX2_eastOf cX2_eastOf 5 (some .int), Cond.methodLink RX2 18 yX2_axisOf, Cond.static yX2_axisOf, Cond.code yX2_axisOf cX2_axisOf 1 (some .int)]
def wsX3_cellsWithinReach_r4 : List Cond := [Cond.methodLink RX1 42 yX1_reach, Cond.instanceMethod yX1_fewestTo, Cond.selects RX1 yX1_fewestTo yX1_fewestTo, Cond.code yX1_fewestTo cX1_fewestTo 4 (some .int), Cond.methodLink RX1 52 yX1_fewestWithTop, Cond.instanceMethod yX1_fewestWithTop, Cond.selects RX1 yX1_fewestWithTop yX1_fewestWithTop, Cond.code yX1_fewestWithTop cX1_fewestWithTop 5 (some .int), Cond.methodLink RX1 49 yX1_fewerOf, Cond.static yX1_fewerOf, Cond.code yX1_fewerOf cX1_fewerOf 2 (some .int), Cond.methodLink RX1 55 Lib.Math.min.name, Cond.static Lib.Math.min.name, Cond.initialized "java/lang/Math", Cond.code Lib.Math.min.name Lib.Math.min.code 2 (some .int)]
def wsX3_cellsWithinReach : List Cond := .code yX3_cellsWithinReach cX3_cellsWithinReach 3 (some .int) :: ((wsX3_cellsWithinReach_r1 ++ (wsX3_cellsWithinReach_r2 ++ (wsX3_cellsWithinReach_r3 ++ wsX3_cellsWithinReach_r4))) ++ wsX30 ++ wsX10 ++ wsX00)
def wsX3_waysToLie_r1 : List Cond := [Cond.fieldLink RX3 19 "PaintedDie" "search" "LPaintedDie$Search;", Cond.methodLink RX3 156 yX3_searchFromHere, Cond.instanceMethod yX3_searchFromHere, Cond.selects RX3 yX3_searchFromHere yX3_searchFromHere, Cond.initialized RX3, Cond.code yX3_searchFromHere cX3_searchFromHere 1 none, Cond.fieldLink RX3 52 "PaintedDie" "cell" "I", Cond.fieldLink RX3 96 "PaintedDie" "turn" "I", Cond.fieldLink RX3 12 "PaintedDie" "board" "LPaintedDie$Board;", Cond.instanceMethod yX1_forget, Cond.initialized RX1, Cond.selects RX1 yX1_forget yX1_forget, Cond.code yX1_forget cX1_forget 1 none, Cond.fieldLink RX1 11 "PaintedDie$Search" "fewest" "[I", Cond.fieldLink RX1 26 "PaintedDie$Search" "found" "I", Cond.methodLink RX1 20 yJ7_fill_53178, Cond.static yJ7_fill_53178, Cond.initialized RJ7, Cond.code yJ7_fill_53178 cJ7_fill_53178 4 none, Cond.instanceMethod yX1_reach, Cond.selects RX1 yX1_reach yX1_reach, Cond.code yX1_reach cX1_reach 5 none, Cond.fieldLink RX1 17 "PaintedDie$Search" "queue" "[I", Cond.instanceMethod yX1_spread]
def wsX3_waysToLie_r2 : List Cond := [Cond.selects RX1 yX1_spread yX1_spread, Cond.code yX1_spread cX1_spread 8 none, Cond.methodLink RX1 30 yX1_rollsAt, Cond.instanceMethod yX1_rollsAt, Cond.selects RX1 yX1_rollsAt yX1_rollsAt, Cond.code yX1_rollsAt cX1_rollsAt 4 (some .int), Cond.instanceMethod yX0_nextCell, Cond.initialized RX0, Cond.selects RX0 yX0_nextCell yX0_nextCell, Cond.code yX0_nextCell cX0_nextCell 5 (some .int), Cond.methodLink RX0 34 yX0_columnOf, Cond.static yX0_columnOf, Cond.code yX0_columnOf cX0_columnOf 1 (some .int), Cond.methodLink RX0 38 yX0_rowOf, Cond.static yX0_rowOf, Cond.code yX0_rowOf cX0_rowOf 1 (some .int), Cond.methodLink RX0 41 yX0_isFree, Cond.instanceMethod yX0_isFree, Cond.selects RX0 yX0_isFree yX0_isFree, Cond.code yX0_isFree cX0_isFree 3 (some .boolean), Cond.fieldLink RX0 9 "PaintedDie$Board" "isWalled" "[Z", Cond.methodLink RX0 26 yX0_has, Cond.instanceMethod yX0_has, Cond.selects RX0 yX0_has yX0_has]
def wsX3_waysToLie_r3 : List Cond := [Cond.code yX0_has cX0_has 3 (some .boolean), Cond.fieldLink RX0 19 "PaintedDie$Board" "width" "I", Cond.fieldLink RX0 23 "PaintedDie$Board" "height" "I", Cond.methodLink RX0 30 yX0_cellAt, Cond.static yX0_cellAt, Cond.code yX0_cellAt cX0_cellAt 2 (some .int), Cond.static yX2_behindRoll, Cond.initialized RX2, Cond.code yX2_behindRoll cX2_behindRoll 4 (some .int), Cond.methodLink RX2 9 yX2_topOf, Cond.static yX2_topOf, Cond.code yX2_topOf cX2_topOf 1 (some .int), Cond.methodLink RX2 15 yX2_northOf, Cond.static yX2_northOf, Cond.code yX2_northOf cX2_northOf 1 (some .int), Cond.methodLink RX2 24 yX2_with, Cond.static yX2_with, Cond.code yX2_with cX2_with 2 (some .int), Cond.methodLink RX2 21 yX2_eastOf, Cond.static yX2_eastOf, Cond.code yX2_eastOf cX2_eastOf 5 (some .int), Cond.methodLink RX2 18 yX2_axisOf, Cond.static yX2_axisOf, Cond.code yX2_axisOf cX2_axisOf 1 (some .int)]
def wsX3_waysToLie_r4 : List Cond := [Cond.methodLink RX1 42 yX1_reach]
def wsX3_waysToLie : List Cond := .code yX3_waysToLie cX3_waysToLie 1 (some .int) :: ((wsX3_waysToLie_r1 ++ (wsX3_waysToLie_r2 ++ (wsX3_waysToLie_r3 ++ wsX3_waysToLie_r4))) ++ wsX30 ++ wsX10 ++ wsX00)
def wsX3_isShutIn_r1 : List Cond := [Cond.fieldLink RX3 12 "PaintedDie" "board" "LPaintedDie$Board;", Cond.fieldLink RX3 52 "PaintedDie" "cell" "I", Cond.instanceMethod yX0_nextCell, Cond.initialized RX0, Cond.selects RX0 yX0_nextCell yX0_nextCell, Cond.code yX0_nextCell cX0_nextCell 5 (some .int), Cond.methodLink RX0 34 yX0_columnOf, Cond.static yX0_columnOf, Cond.code yX0_columnOf cX0_columnOf 1 (some .int), Cond.methodLink RX0 38 yX0_rowOf, Cond.static yX0_rowOf, Cond.code yX0_rowOf cX0_rowOf 1 (some .int), Cond.methodLink RX0 41 yX0_isFree, Cond.instanceMethod yX0_isFree, Cond.selects RX0 yX0_isFree yX0_isFree, Cond.code yX0_isFree cX0_isFree 3 (some .boolean), Cond.fieldLink RX0 9 "PaintedDie$Board" "isWalled" "[Z", Cond.methodLink RX0 26 yX0_has, Cond.instanceMethod yX0_has, Cond.selects RX0 yX0_has yX0_has, Cond.code yX0_has cX0_has 3 (some .boolean), Cond.fieldLink RX0 19 "PaintedDie$Board" "width" "I", Cond.fieldLink RX0 23 "PaintedDie$Board" "height" "I", Cond.methodLink RX0 30 yX0_cellAt]
def wsX3_isShutIn_r2 : List Cond := [Cond.static yX0_cellAt, Cond.code yX0_cellAt cX0_cellAt 2 (some .int)]
def wsX3_isShutIn : List Cond := .code yX3_isShutIn cX3_isShutIn 2 (some .boolean) :: ((wsX3_isShutIn_r1 ++ wsX3_isShutIn_r2) ++ wsX30 ++ wsX00)
def wsX3_cellsBehind_r1 : List Cond := [Cond.classLink RX3 38 "java/lang/IllegalArgumentException", Cond.initialized "java/lang/IllegalArgumentException", Cond.fieldLink RX3 19 "PaintedDie" "search" "LPaintedDie$Search;", Cond.methodLink RX3 182 yX3_isShutIn, Cond.instanceMethod yX3_isShutIn, Cond.selects RX3 yX3_isShutIn yX3_isShutIn, Cond.initialized RX3, Cond.code yX3_isShutIn cX3_isShutIn 2 (some .boolean), Cond.fieldLink RX3 12 "PaintedDie" "board" "LPaintedDie$Board;", Cond.fieldLink RX3 52 "PaintedDie" "cell" "I", Cond.instanceMethod yX0_nextCell, Cond.initialized RX0, Cond.selects RX0 yX0_nextCell yX0_nextCell, Cond.code yX0_nextCell cX0_nextCell 5 (some .int), Cond.methodLink RX0 34 yX0_columnOf, Cond.static yX0_columnOf, Cond.code yX0_columnOf cX0_columnOf 1 (some .int), Cond.methodLink RX0 38 yX0_rowOf, Cond.static yX0_rowOf, Cond.code yX0_rowOf cX0_rowOf 1 (some .int), Cond.methodLink RX0 41 yX0_isFree, Cond.instanceMethod yX0_isFree, Cond.selects RX0 yX0_isFree yX0_isFree, Cond.code yX0_isFree cX0_isFree 3 (some .boolean)]
def wsX3_cellsBehind_r2 : List Cond := [Cond.fieldLink RX0 9 "PaintedDie$Board" "isWalled" "[Z", Cond.methodLink RX0 26 yX0_has, Cond.instanceMethod yX0_has, Cond.selects RX0 yX0_has yX0_has, Cond.code yX0_has cX0_has 3 (some .boolean), Cond.fieldLink RX0 19 "PaintedDie$Board" "width" "I", Cond.fieldLink RX0 23 "PaintedDie$Board" "height" "I", Cond.methodLink RX0 30 yX0_cellAt, Cond.static yX0_cellAt, Cond.code yX0_cellAt cX0_cellAt 2 (some .int), Cond.methodLink RX3 156 yX3_searchFromHere, Cond.instanceMethod yX3_searchFromHere, Cond.selects RX3 yX3_searchFromHere yX3_searchFromHere, Cond.code yX3_searchFromHere cX3_searchFromHere 1 none, Cond.fieldLink RX3 96 "PaintedDie" "turn" "I", Cond.instanceMethod yX1_forget, Cond.initialized RX1, Cond.selects RX1 yX1_forget yX1_forget, Cond.code yX1_forget cX1_forget 1 none, Cond.fieldLink RX1 11 "PaintedDie$Search" "fewest" "[I", Cond.fieldLink RX1 26 "PaintedDie$Search" "found" "I", Cond.methodLink RX1 20 yJ7_fill_53178, Cond.static yJ7_fill_53178, Cond.initialized RJ7]
def wsX3_cellsBehind_r3 : List Cond := [Cond.code yJ7_fill_53178 cJ7_fill_53178 4 none, Cond.instanceMethod yX1_reach, Cond.selects RX1 yX1_reach yX1_reach, Cond.code yX1_reach cX1_reach 5 none, Cond.fieldLink RX1 17 "PaintedDie$Search" "queue" "[I", Cond.instanceMethod yX1_spread, Cond.selects RX1 yX1_spread yX1_spread, Cond.code yX1_spread cX1_spread 8 none, Cond.methodLink RX1 30 yX1_rollsAt, Cond.instanceMethod yX1_rollsAt, Cond.selects RX1 yX1_rollsAt yX1_rollsAt, Cond.code yX1_rollsAt cX1_rollsAt 4 (some .int), Cond.static yX2_behindRoll, Cond.initialized RX2, Cond.code yX2_behindRoll cX2_behindRoll 4 (some .int), Cond.methodLink RX2 9 yX2_topOf, Cond.static yX2_topOf, Cond.code yX2_topOf cX2_topOf 1 (some .int), Cond.methodLink RX2 15 yX2_northOf, Cond.static yX2_northOf, Cond.code yX2_northOf cX2_northOf 1 (some .int), Cond.methodLink RX2 24 yX2_with, Cond.static yX2_with, Cond.code yX2_with cX2_with 2 (some .int)]
def wsX3_cellsBehind_r4 : List Cond := [Cond.methodLink RX2 21 yX2_eastOf, Cond.static yX2_eastOf, Cond.code yX2_eastOf cX2_eastOf 5 (some .int), Cond.methodLink RX2 18 yX2_axisOf, Cond.static yX2_axisOf, Cond.code yX2_axisOf cX2_axisOf 1 (some .int), Cond.methodLink RX1 42 yX1_reach, Cond.instanceMethod yX1_fewestTo, Cond.selects RX1 yX1_fewestTo yX1_fewestTo, Cond.code yX1_fewestTo cX1_fewestTo 4 (some .int), Cond.methodLink RX1 52 yX1_fewestWithTop, Cond.instanceMethod yX1_fewestWithTop, Cond.selects RX1 yX1_fewestWithTop yX1_fewestWithTop, Cond.code yX1_fewestWithTop cX1_fewestWithTop 5 (some .int), Cond.methodLink RX1 49 yX1_fewerOf, Cond.static yX1_fewerOf, Cond.code yX1_fewerOf cX1_fewerOf 2 (some .int), Cond.methodLink RX1 55 Lib.Math.min.name, Cond.static Lib.Math.min.name, Cond.initialized "java/lang/Math", Cond.code Lib.Math.min.name Lib.Math.min.code 2 (some .int)]
def wsX3_cellsBehind : List Cond := .code yX3_cellsBehind cX3_cellsBehind 5 (some .int) :: ((wsX3_cellsBehind_r1 ++ (wsX3_cellsBehind_r2 ++ (wsX3_cellsBehind_r3 ++ wsX3_cellsBehind_r4))) ++ wsX30 ++ wsX00 ++ wsX10 ++ (vx_atS RX3 42 "java/lang/IllegalArgumentException" ["java/lang/RuntimeException", "java/lang/Exception"]).filter goodWord)
def wsX3_meanPaint : List Cond := .code yX3_meanPaint cX3_meanPaint 3 (some .double) :: ([.fieldLink RX3 27 "PaintedDie" "paints" "[I", .constantDouble RX3 186 (4618441417868443648)] ++ wsX30)
def wsX3_joined : List Cond := .code yX3_joined cX3_joined 3 (some .long) :: ([.constantLong RX3 211 (31)])
def wsX3_joinedWithCells_r1 : List Cond := [Cond.fieldLink RX3 12 "PaintedDie" "board" "LPaintedDie$Board;", Cond.fieldLink RX3 19 "PaintedDie" "search" "LPaintedDie$Search;", Cond.methodLink RX3 156 yX3_searchFromHere, Cond.instanceMethod yX3_searchFromHere, Cond.selects RX3 yX3_searchFromHere yX3_searchFromHere, Cond.initialized RX3, Cond.code yX3_searchFromHere cX3_searchFromHere 1 none, Cond.fieldLink RX3 52 "PaintedDie" "cell" "I", Cond.fieldLink RX3 96 "PaintedDie" "turn" "I", Cond.instanceMethod yX1_forget, Cond.initialized RX1, Cond.selects RX1 yX1_forget yX1_forget, Cond.code yX1_forget cX1_forget 1 none, Cond.fieldLink RX1 11 "PaintedDie$Search" "fewest" "[I", Cond.fieldLink RX1 26 "PaintedDie$Search" "found" "I", Cond.methodLink RX1 20 yJ7_fill_53178, Cond.static yJ7_fill_53178, Cond.initialized RJ7, Cond.code yJ7_fill_53178 cJ7_fill_53178 4 none, Cond.instanceMethod yX1_reach, Cond.selects RX1 yX1_reach yX1_reach, Cond.code yX1_reach cX1_reach 5 none, Cond.fieldLink RX1 17 "PaintedDie$Search" "queue" "[I", Cond.instanceMethod yX1_spread]
def wsX3_joinedWithCells_r2 : List Cond := [Cond.selects RX1 yX1_spread yX1_spread, Cond.code yX1_spread cX1_spread 8 none, Cond.methodLink RX1 30 yX1_rollsAt, Cond.instanceMethod yX1_rollsAt, Cond.selects RX1 yX1_rollsAt yX1_rollsAt, Cond.code yX1_rollsAt cX1_rollsAt 4 (some .int), Cond.instanceMethod yX0_nextCell, Cond.initialized RX0, Cond.selects RX0 yX0_nextCell yX0_nextCell, Cond.code yX0_nextCell cX0_nextCell 5 (some .int), Cond.methodLink RX0 34 yX0_columnOf, Cond.static yX0_columnOf, Cond.code yX0_columnOf cX0_columnOf 1 (some .int), Cond.methodLink RX0 38 yX0_rowOf, Cond.static yX0_rowOf, Cond.code yX0_rowOf cX0_rowOf 1 (some .int), Cond.methodLink RX0 41 yX0_isFree, Cond.instanceMethod yX0_isFree, Cond.selects RX0 yX0_isFree yX0_isFree, Cond.code yX0_isFree cX0_isFree 3 (some .boolean), Cond.fieldLink RX0 9 "PaintedDie$Board" "isWalled" "[Z", Cond.methodLink RX0 26 yX0_has, Cond.instanceMethod yX0_has, Cond.selects RX0 yX0_has yX0_has]
def wsX3_joinedWithCells_r3 : List Cond := [Cond.code yX0_has cX0_has 3 (some .boolean), Cond.fieldLink RX0 19 "PaintedDie$Board" "width" "I", Cond.fieldLink RX0 23 "PaintedDie$Board" "height" "I", Cond.methodLink RX0 30 yX0_cellAt, Cond.static yX0_cellAt, Cond.code yX0_cellAt cX0_cellAt 2 (some .int), Cond.static yX2_behindRoll, Cond.initialized RX2, Cond.code yX2_behindRoll cX2_behindRoll 4 (some .int), Cond.methodLink RX2 9 yX2_topOf, Cond.static yX2_topOf, Cond.code yX2_topOf cX2_topOf 1 (some .int), Cond.methodLink RX2 15 yX2_northOf, Cond.static yX2_northOf, Cond.code yX2_northOf cX2_northOf 1 (some .int), Cond.methodLink RX2 24 yX2_with, Cond.static yX2_with, Cond.code yX2_with cX2_with 2 (some .int), Cond.methodLink RX2 21 yX2_eastOf, Cond.static yX2_eastOf, Cond.code yX2_eastOf cX2_eastOf 5 (some .int), Cond.methodLink RX2 18 yX2_axisOf, Cond.static yX2_axisOf, Cond.code yX2_axisOf cX2_axisOf 1 (some .int)]
def wsX3_joinedWithCells_r4 : List Cond := [Cond.methodLink RX1 42 yX1_reach, Cond.methodLink RX3 192 yX3_joined, Cond.static yX3_joined, Cond.code yX3_joined cX3_joined 3 (some .long), Cond.constantLong RX3 211 (31), Cond.instanceMethod yX0_printOn, Cond.selects RX0 yX0_printOn yX0_printOn, Cond.code yX0_printOn cX0_printOn 3 (some .int), Cond.fieldLink RX0 15 "PaintedDie$Board" "printed" "[I", Cond.instanceMethod yX1_fewestTo, Cond.selects RX1 yX1_fewestTo yX1_fewestTo, Cond.code yX1_fewestTo cX1_fewestTo 4 (some .int), Cond.methodLink RX1 52 yX1_fewestWithTop, Cond.instanceMethod yX1_fewestWithTop, Cond.selects RX1 yX1_fewestWithTop yX1_fewestWithTop, Cond.code yX1_fewestWithTop cX1_fewestWithTop 5 (some .int), Cond.methodLink RX1 49 yX1_fewerOf, Cond.static yX1_fewerOf, Cond.code yX1_fewerOf cX1_fewerOf 2 (some .int), Cond.methodLink RX1 55 Lib.Math.min.name, Cond.static Lib.Math.min.name, Cond.initialized "java/lang/Math", Cond.code Lib.Math.min.name Lib.Math.min.code 2 (some .int), Cond.instanceMethod yX1_countTops]
def wsX3_joinedWithCells_r5 : List Cond := [Cond.selects RX1 yX1_countTops yX1_countTops, Cond.code yX1_countTops cX1_countTops 4 (some .int)]
def wsX3_joinedWithCells : List Cond := .code yX3_joinedWithCells cX3_joinedWithCells 8 (some .long) :: ((wsX3_joinedWithCells_r1 ++ (wsX3_joinedWithCells_r2 ++ (wsX3_joinedWithCells_r3 ++ (wsX3_joinedWithCells_r4 ++ wsX3_joinedWithCells_r5)))) ++ wsX30 ++ wsX00 ++ wsX10)
def wsX3_digest_r1 : List Cond := [Cond.constantLong RX3 188 (1901), Cond.fieldLink RX3 96 "PaintedDie" "turn" "I", Cond.fieldLink RX3 23 "PaintedDie" "colours" "[I", Cond.fieldLink RX3 27 "PaintedDie" "paints" "[I", Cond.methodLink RX3 190 yX3_width, Cond.instanceMethod yX3_width, Cond.selects RX3 yX3_width yX3_width, Cond.initialized RX3, Cond.code yX3_width cX3_width 1 (some .int), Cond.fieldLink RX3 12 "PaintedDie" "board" "LPaintedDie$Board;", Cond.methodLink RX3 192 yX3_joined, Cond.static yX3_joined, Cond.code yX3_joined cX3_joined 3 (some .long), Cond.constantLong RX3 211 (31), Cond.methodLink RX3 196 yX3_height, Cond.instanceMethod yX3_height, Cond.selects RX3 yX3_height yX3_height, Cond.code yX3_height cX3_height 1 (some .int), Cond.methodLink RX3 198 yX3_walls, Cond.instanceMethod yX3_walls, Cond.selects RX3 yX3_walls yX3_walls, Cond.code yX3_walls cX3_walls 1 (some .int), Cond.instanceMethod yX0_countWalls, Cond.initialized RX0]
def wsX3_digest_r2 : List Cond := [Cond.selects RX0 yX0_countWalls yX0_countWalls, Cond.code yX0_countWalls cX0_countWalls 3 (some .int), Cond.fieldLink RX0 9 "PaintedDie$Board" "isWalled" "[Z", Cond.methodLink RX3 201 yX3_rolls, Cond.instanceMethod yX3_rolls, Cond.selects RX3 yX3_rolls yX3_rolls, Cond.code yX3_rolls cX3_rolls 1 (some .int), Cond.fieldLink RX3 142 "PaintedDie" "rollsMade" "I", Cond.methodLink RX3 204 yX3_prints, Cond.instanceMethod yX3_prints, Cond.selects RX3 yX3_prints yX3_prints, Cond.code yX3_prints cX3_prints 1 (some .int), Cond.fieldLink RX3 145 "PaintedDie" "printsMade" "I", Cond.methodLink RX3 83 yX3_column, Cond.instanceMethod yX3_column, Cond.selects RX3 yX3_column yX3_column, Cond.code yX3_column cX3_column 1 (some .int), Cond.fieldLink RX3 52 "PaintedDie" "cell" "I", Cond.static yX0_columnOf, Cond.code yX0_columnOf cX0_columnOf 1 (some .int), Cond.methodLink RX3 91 yX3_row, Cond.instanceMethod yX3_row, Cond.selects RX3 yX3_row yX3_row, Cond.code yX3_row cX3_row 1 (some .int)]
def wsX3_digest_r3 : List Cond := [Cond.static yX0_rowOf, Cond.code yX0_rowOf cX0_rowOf 1 (some .int), Cond.methodLink RX3 121 yX3_top, Cond.instanceMethod yX3_top, Cond.selects RX3 yX3_top yX3_top, Cond.code yX3_top cX3_top 1 (some .int), Cond.static yX2_topOf, Cond.initialized RX2, Cond.code yX2_topOf cX2_topOf 1 (some .int), Cond.methodLink RX3 107 yX3_bottom, Cond.instanceMethod yX3_bottom, Cond.selects RX3 yX3_bottom yX3_bottom, Cond.code yX3_bottom cX3_bottom 1 (some .int), Cond.static yX2_faceOn, Cond.code yX2_faceOn cX2_faceOn 2 (some .int), Cond.methodLink RX2 15 yX2_northOf, Cond.static yX2_northOf, Cond.code yX2_northOf cX2_northOf 1 (some .int), Cond.methodLink RX2 21 yX2_eastOf, Cond.static yX2_eastOf, Cond.code yX2_eastOf cX2_eastOf 5 (some .int), Cond.methodLink RX2 9 yX2_topOf, Cond.methodLink RX2 18 yX2_axisOf, Cond.static yX2_axisOf]
def wsX3_digest_r4 : List Cond := [Cond.code yX2_axisOf cX2_axisOf 1 (some .int), Cond.methodLink RX3 207 yX3_joinedWithCells, Cond.instanceMethod yX3_joinedWithCells, Cond.selects RX3 yX3_joinedWithCells yX3_joinedWithCells, Cond.code yX3_joinedWithCells cX3_joinedWithCells 8 (some .long), Cond.fieldLink RX3 19 "PaintedDie" "search" "LPaintedDie$Search;", Cond.methodLink RX3 156 yX3_searchFromHere, Cond.instanceMethod yX3_searchFromHere, Cond.selects RX3 yX3_searchFromHere yX3_searchFromHere, Cond.code yX3_searchFromHere cX3_searchFromHere 1 none, Cond.instanceMethod yX1_forget, Cond.initialized RX1, Cond.selects RX1 yX1_forget yX1_forget, Cond.code yX1_forget cX1_forget 1 none, Cond.fieldLink RX1 11 "PaintedDie$Search" "fewest" "[I", Cond.fieldLink RX1 26 "PaintedDie$Search" "found" "I", Cond.methodLink RX1 20 yJ7_fill_53178, Cond.static yJ7_fill_53178, Cond.initialized RJ7, Cond.code yJ7_fill_53178 cJ7_fill_53178 4 none, Cond.instanceMethod yX1_reach, Cond.selects RX1 yX1_reach yX1_reach, Cond.code yX1_reach cX1_reach 5 none, Cond.fieldLink RX1 17 "PaintedDie$Search" "queue" "[I"]
def wsX3_digest_r5 : List Cond := [Cond.instanceMethod yX1_spread, Cond.selects RX1 yX1_spread yX1_spread, Cond.code yX1_spread cX1_spread 8 none, Cond.methodLink RX1 30 yX1_rollsAt, Cond.instanceMethod yX1_rollsAt, Cond.selects RX1 yX1_rollsAt yX1_rollsAt, Cond.code yX1_rollsAt cX1_rollsAt 4 (some .int), Cond.instanceMethod yX0_nextCell, Cond.selects RX0 yX0_nextCell yX0_nextCell, Cond.code yX0_nextCell cX0_nextCell 5 (some .int), Cond.methodLink RX0 34 yX0_columnOf, Cond.methodLink RX0 38 yX0_rowOf, Cond.methodLink RX0 41 yX0_isFree, Cond.instanceMethod yX0_isFree, Cond.selects RX0 yX0_isFree yX0_isFree, Cond.code yX0_isFree cX0_isFree 3 (some .boolean), Cond.methodLink RX0 26 yX0_has, Cond.instanceMethod yX0_has, Cond.selects RX0 yX0_has yX0_has, Cond.code yX0_has cX0_has 3 (some .boolean), Cond.fieldLink RX0 19 "PaintedDie$Board" "width" "I", Cond.fieldLink RX0 23 "PaintedDie$Board" "height" "I", Cond.methodLink RX0 30 yX0_cellAt, Cond.static yX0_cellAt]
def wsX3_digest_r6 : List Cond := [Cond.code yX0_cellAt cX0_cellAt 2 (some .int), Cond.static yX2_behindRoll, Cond.code yX2_behindRoll cX2_behindRoll 4 (some .int), Cond.methodLink RX2 24 yX2_with, Cond.static yX2_with, Cond.code yX2_with cX2_with 2 (some .int), Cond.methodLink RX1 42 yX1_reach, Cond.instanceMethod yX0_printOn, Cond.selects RX0 yX0_printOn yX0_printOn, Cond.code yX0_printOn cX0_printOn 3 (some .int), Cond.fieldLink RX0 15 "PaintedDie$Board" "printed" "[I", Cond.instanceMethod yX1_fewestTo, Cond.selects RX1 yX1_fewestTo yX1_fewestTo, Cond.code yX1_fewestTo cX1_fewestTo 4 (some .int), Cond.methodLink RX1 52 yX1_fewestWithTop, Cond.instanceMethod yX1_fewestWithTop, Cond.selects RX1 yX1_fewestWithTop yX1_fewestWithTop, Cond.code yX1_fewestWithTop cX1_fewestWithTop 5 (some .int), Cond.methodLink RX1 49 yX1_fewerOf, Cond.static yX1_fewerOf, Cond.code yX1_fewerOf cX1_fewerOf 2 (some .int), Cond.methodLink RX1 55 Lib.Math.min.name, Cond.static Lib.Math.min.name, Cond.initialized "java/lang/Math"]
def wsX3_digest_r7 : List Cond := [Cond.code Lib.Math.min.name Lib.Math.min.code 2 (some .int), Cond.instanceMethod yX1_countTops, Cond.selects RX1 yX1_countTops yX1_countTops, Cond.code yX1_countTops cX1_countTops 4 (some .int)]
def wsX3_digest : List Cond := .code yX3_digest cX3_digest 4 (some .long) :: ((wsX3_digest_r1 ++ (wsX3_digest_r2 ++ (wsX3_digest_r3 ++ (wsX3_digest_r4 ++ (wsX3_digest_r5 ++ (wsX3_digest_r6 ++ wsX3_digest_r7)))))) ++ wsX30 ++ wsX00 ++ wsX10)
def wsX4_init : List Cond := .code yX4_init cX4_init 1 none :: ([.methodLink RX4 1 objectInit, .instanceMethod objectInit, .code objectInit ⟨#[0xb1]⟩ 1 none, .fieldLink RX4 7 "PaintedDieLaw$Sim" "w" "I", .fieldLink RX4 13 "PaintedDieLaw$Sim" "h" "I", .classLink RX4 16 "[[Z", .arrayClass .boolean, .fieldLink RX4 18 "PaintedDieLaw$Sim" "wall" "[[Z", .classLink RX4 21 "[[I", .arrayClass .int, .fieldLink RX4 23 "PaintedDieLaw$Sim" "print" "[[I", .fieldLink RX4 26 "PaintedDieLaw$Sim" "colour" "[I", .fieldLink RX4 30 "PaintedDieLaw$Sim" "paint" "[I", .fieldLink RX4 33 "PaintedDieLaw$Sim" "die" "[I"] ++ wsX40)
def wsX4_put : List Cond := .code yX4_put cX4_put 3 none :: ([.fieldLink RX4 46 "PaintedDieLaw$Sim" "x" "I", .fieldLink RX4 49 "PaintedDieLaw$Sim" "y" "I", .arrayClass .int, .fieldLink RX4 33 "PaintedDieLaw$Sim" "die" "[I"] ++ wsX40)
def wsX4_board : List Cond := .code yX4_board cX4_board 3 none :: ([.fieldLink RX4 7 "PaintedDieLaw$Sim" "w" "I", .fieldLink RX4 13 "PaintedDieLaw$Sim" "h" "I", .classLink RX4 16 "[[Z", .arrayClass .boolean, .fieldLink RX4 18 "PaintedDieLaw$Sim" "wall" "[[Z", .classLink RX4 21 "[[I", .arrayClass .int, .fieldLink RX4 23 "PaintedDieLaw$Sim" "print" "[[I", .fieldLink RX4 36 "PaintedDieLaw$Sim" "rolls" "I", .fieldLink RX4 39 "PaintedDieLaw$Sim" "prints" "I", .methodLink RX4 42 yX4_put, .instanceMethod yX4_put, .selects RX4 yX4_put yX4_put, .initialized RX4, .code yX4_put cX4_put 3 none, .fieldLink RX4 46 "PaintedDieLaw$Sim" "x" "I", .fieldLink RX4 49 "PaintedDieLaw$Sim" "y" "I", .fieldLink RX4 33 "PaintedDieLaw$Sim" "die" "[I"] ++ wsX40)
def wsX4_isFree : List Cond := .code yX4_isFree cX4_isFree 3 (some .boolean) :: ([.fieldLink RX4 7 "PaintedDieLaw$Sim" "w" "I", .fieldLink RX4 13 "PaintedDieLaw$Sim" "h" "I", .fieldLink RX4 18 "PaintedDieLaw$Sim" "wall" "[[Z"] ++ wsX40)
def wsX4_can : List Cond := .code yX4_can cX4_can 2 (some .boolean) :: ([.fieldLink RX4 46 "PaintedDieLaw$Sim" "x" "I", .fieldLink RX4 49 "PaintedDieLaw$Sim" "y" "I", .methodLink RX4 60 yX4_isFree, .instanceMethod yX4_isFree, .selects RX4 yX4_isFree yX4_isFree, .initialized RX4, .code yX4_isFree cX4_isFree 3 (some .boolean), .fieldLink RX4 7 "PaintedDieLaw$Sim" "w" "I", .fieldLink RX4 13 "PaintedDieLaw$Sim" "h" "I", .fieldLink RX4 18 "PaintedDieLaw$Sim" "wall" "[[Z"] ++ wsX40)
def wsX4_tipped : List Cond := .code yX4_tipped cX4_tipped 5 (some (.array .int)) :: ([.methodLink RX4 64 ⟨"[I", "clone", "()Ljava/lang/Object;"⟩, .sameMethod "[I" "java/lang/Object" "clone" "()Ljava/lang/Object;", .native ⟨"java/lang/Object", "clone", "()Ljava/lang/Object;"⟩, .instanceMethod ⟨"java/lang/Object", "clone", "()Ljava/lang/Object;"⟩, .selects "[I" ⟨"[I", "clone", "()Ljava/lang/Object;"⟩ ⟨"java/lang/Object", "clone", "()Ljava/lang/Object;"⟩, .classLink RX4 65 "[I"])
def wsX4_roll_r1 : List Cond := [Cond.fieldLink RX4 46 "PaintedDieLaw$Sim" "x" "I", Cond.fieldLink RX4 49 "PaintedDieLaw$Sim" "y" "I", Cond.fieldLink RX4 33 "PaintedDieLaw$Sim" "die" "[I", Cond.fieldLink RX4 36 "PaintedDieLaw$Sim" "rolls" "I", Cond.fieldLink RX4 30 "PaintedDieLaw$Sim" "paint" "[I", Cond.fieldLink RX4 23 "PaintedDieLaw$Sim" "print" "[[I", Cond.fieldLink RX4 26 "PaintedDieLaw$Sim" "colour" "[I", Cond.fieldLink RX4 39 "PaintedDieLaw$Sim" "prints" "I", Cond.methodLink RX4 69 yX4_can, Cond.instanceMethod yX4_can, Cond.selects RX4 yX4_can yX4_can, Cond.initialized RX4, Cond.code yX4_can cX4_can 2 (some .boolean), Cond.methodLink RX4 60 yX4_isFree, Cond.instanceMethod yX4_isFree, Cond.selects RX4 yX4_isFree yX4_isFree, Cond.code yX4_isFree cX4_isFree 3 (some .boolean), Cond.fieldLink RX4 7 "PaintedDieLaw$Sim" "w" "I", Cond.fieldLink RX4 13 "PaintedDieLaw$Sim" "h" "I", Cond.fieldLink RX4 18 "PaintedDieLaw$Sim" "wall" "[[Z", Cond.methodLink RX4 73 yX4_tipped, Cond.static yX4_tipped, Cond.code yX4_tipped cX4_tipped 5 (some (.array .int)), Cond.methodLink RX4 64 ⟨"[I", "clone", "()Ljava/lang/Object;"⟩]
def wsX4_roll_r2 : List Cond := [Cond.sameMethod "[I" "java/lang/Object" "clone" "()Ljava/lang/Object;", Cond.native ⟨"java/lang/Object", "clone", "()Ljava/lang/Object;"⟩, Cond.instanceMethod ⟨"java/lang/Object", "clone", "()Ljava/lang/Object;"⟩, Cond.selects "[I" ⟨"[I", "clone", "()Ljava/lang/Object;"⟩ ⟨"java/lang/Object", "clone", "()Ljava/lang/Object;"⟩, Cond.classLink RX4 65 "[I"]
def wsX4_roll : List Cond := .code yX4_roll cX4_roll 2 (some .boolean) :: ((wsX4_roll_r1 ++ wsX4_roll_r2) ++ wsX40)
def wsX4_isSame_r1 : List Cond := [Cond.arrayClass .int, Cond.fieldLink RX4 7 "PaintedDieLaw$Sim" "w" "I", Cond.fieldLink RX4 13 "PaintedDieLaw$Sim" "h" "I", Cond.fieldLink RX4 18 "PaintedDieLaw$Sim" "wall" "[[Z", Cond.fieldLink RX4 23 "PaintedDieLaw$Sim" "print" "[[I", Cond.fieldLink RX4 26 "PaintedDieLaw$Sim" "colour" "[I", Cond.fieldLink RX4 30 "PaintedDieLaw$Sim" "paint" "[I", Cond.fieldLink RX4 33 "PaintedDieLaw$Sim" "die" "[I", Cond.fieldLink RX4 36 "PaintedDieLaw$Sim" "rolls" "I", Cond.fieldLink RX4 39 "PaintedDieLaw$Sim" "prints" "I", Cond.fieldLink RX4 46 "PaintedDieLaw$Sim" "x" "I", Cond.fieldLink RX4 49 "PaintedDieLaw$Sim" "y" "I", Cond.constantDouble RX4 138 (4618441417868443648), Cond.methodLink RX4 79 yX3_isWall, Cond.instanceMethod yX3_isWall, Cond.selects RX3 yX3_isWall yX3_isWall, Cond.initialized RX3, Cond.code yX3_isWall cX3_isWall 3 (some .boolean), Cond.fieldLink RX3 12 "PaintedDie" "board" "LPaintedDie$Board;", Cond.methodLink RX3 45 yX3_checkCell, Cond.instanceMethod yX3_checkCell, Cond.selects RX3 yX3_checkCell yX3_checkCell, Cond.code yX3_checkCell cX3_checkCell 3 none, Cond.classLink RX3 148 "java/lang/IndexOutOfBoundsException"]
def wsX4_isSame_r2 : List Cond := [Cond.initialized "java/lang/IndexOutOfBoundsException", Cond.instanceMethod yX0_has, Cond.initialized RX0, Cond.selects RX0 yX0_has yX0_has, Cond.code yX0_has cX0_has 3 (some .boolean), Cond.fieldLink RX0 19 "PaintedDie$Board" "width" "I", Cond.fieldLink RX0 23 "PaintedDie$Board" "height" "I", Cond.instanceMethod yX0_isFree, Cond.selects RX0 yX0_isFree yX0_isFree, Cond.code yX0_isFree cX0_isFree 3 (some .boolean), Cond.fieldLink RX0 9 "PaintedDie$Board" "isWalled" "[Z", Cond.methodLink RX0 26 yX0_has, Cond.methodLink RX0 30 yX0_cellAt, Cond.static yX0_cellAt, Cond.code yX0_cellAt cX0_cellAt 2 (some .int), Cond.methodLink RX4 84 yX3_printAt, Cond.instanceMethod yX3_printAt, Cond.selects RX3 yX3_printAt yX3_printAt, Cond.code yX3_printAt cX3_printAt 3 (some .int), Cond.instanceMethod yX0_printOn, Cond.selects RX0 yX0_printOn yX0_printOn, Cond.code yX0_printOn cX0_printOn 3 (some .int), Cond.fieldLink RX0 15 "PaintedDie$Board" "printed" "[I", Cond.methodLink RX4 88 yX3_colourOf]
def wsX4_isSame_r3 : List Cond := [Cond.instanceMethod yX3_colourOf, Cond.selects RX3 yX3_colourOf yX3_colourOf, Cond.code yX3_colourOf cX3_colourOf 2 (some .int), Cond.fieldLink RX3 23 "PaintedDie" "colours" "[I", Cond.methodLink RX3 64 yX3_checkFace, Cond.static yX3_checkFace, Cond.code yX3_checkFace cX3_checkFace 1 none, Cond.methodLink RX3 219 yX3_isFace, Cond.static yX3_isFace, Cond.code yX3_isFace cX3_isFace 1 (some .boolean), Cond.methodLink RX4 92 yX3_paintOf, Cond.instanceMethod yX3_paintOf, Cond.selects RX3 yX3_paintOf yX3_paintOf, Cond.code yX3_paintOf cX3_paintOf 2 (some .int), Cond.fieldLink RX3 27 "PaintedDie" "paints" "[I", Cond.methodLink RX4 95 yX3_cellsWith, Cond.instanceMethod yX3_cellsWith, Cond.selects RX3 yX3_cellsWith yX3_cellsWith, Cond.code yX3_cellsWith cX3_cellsWith 2 (some .int), Cond.instanceMethod yX0_countPrints, Cond.selects RX0 yX0_countPrints yX0_countPrints, Cond.code yX0_countPrints cX0_countPrints 5 (some .int), Cond.methodLink RX0 44 yX0_printOn, Cond.methodLink RX4 98 yX3_faceTo]
def wsX4_isSame_r4 : List Cond := [Cond.instanceMethod yX3_faceTo, Cond.selects RX3 yX3_faceTo yX3_faceTo, Cond.code yX3_faceTo cX3_faceTo 2 (some .int), Cond.fieldLink RX3 96 "PaintedDie" "turn" "I", Cond.methodLink RX3 99 yX3_checkDirection, Cond.static yX3_checkDirection, Cond.code yX3_checkDirection cX3_checkDirection 1 none, Cond.static yX2_faceOn, Cond.initialized RX2, Cond.code yX2_faceOn cX2_faceOn 2 (some .int), Cond.methodLink RX2 15 yX2_northOf, Cond.static yX2_northOf, Cond.code yX2_northOf cX2_northOf 1 (some .int), Cond.methodLink RX2 21 yX2_eastOf, Cond.static yX2_eastOf, Cond.code yX2_eastOf cX2_eastOf 5 (some .int), Cond.methodLink RX2 9 yX2_topOf, Cond.static yX2_topOf, Cond.code yX2_topOf cX2_topOf 1 (some .int), Cond.methodLink RX2 18 yX2_axisOf, Cond.static yX2_axisOf, Cond.code yX2_axisOf cX2_axisOf 1 (some .int), Cond.methodLink RX4 101 yX3_canRoll, Cond.instanceMethod yX3_canRoll]
def wsX4_isSame_r5 : List Cond := [Cond.selects RX3 yX3_canRoll yX3_canRoll, Cond.code yX3_canRoll cX3_canRoll 2 (some .boolean), Cond.fieldLink RX3 52 "PaintedDie" "cell" "I", Cond.instanceMethod yX0_nextCell, Cond.selects RX0 yX0_nextCell yX0_nextCell, Cond.code yX0_nextCell cX0_nextCell 5 (some .int), Cond.methodLink RX0 34 yX0_columnOf, Cond.static yX0_columnOf, Cond.code yX0_columnOf cX0_columnOf 1 (some .int), Cond.methodLink RX0 38 yX0_rowOf, Cond.static yX0_rowOf, Cond.code yX0_rowOf cX0_rowOf 1 (some .int), Cond.methodLink RX0 41 yX0_isFree, Cond.methodLink RX4 69 yX4_can, Cond.instanceMethod yX4_can, Cond.selects RX4 yX4_can yX4_can, Cond.initialized RX4, Cond.code yX4_can cX4_can 2 (some .boolean), Cond.methodLink RX4 60 yX4_isFree, Cond.instanceMethod yX4_isFree, Cond.selects RX4 yX4_isFree yX4_isFree, Cond.code yX4_isFree cX4_isFree 3 (some .boolean), Cond.methodLink RX4 104 yX3_width, Cond.instanceMethod yX3_width]
def wsX4_isSame_r6 : List Cond := [Cond.selects RX3 yX3_width yX3_width, Cond.code yX3_width cX3_width 1 (some .int), Cond.methodLink RX4 108 yX3_height, Cond.instanceMethod yX3_height, Cond.selects RX3 yX3_height yX3_height, Cond.code yX3_height cX3_height 1 (some .int), Cond.methodLink RX4 111 yX3_walls, Cond.instanceMethod yX3_walls, Cond.selects RX3 yX3_walls yX3_walls, Cond.code yX3_walls cX3_walls 1 (some .int), Cond.instanceMethod yX0_countWalls, Cond.selects RX0 yX0_countWalls yX0_countWalls, Cond.code yX0_countWalls cX0_countWalls 3 (some .int), Cond.methodLink RX4 114 yX3_rolls, Cond.instanceMethod yX3_rolls, Cond.selects RX3 yX3_rolls yX3_rolls, Cond.code yX3_rolls cX3_rolls 1 (some .int), Cond.fieldLink RX3 142 "PaintedDie" "rollsMade" "I", Cond.methodLink RX4 116 yX3_prints, Cond.instanceMethod yX3_prints, Cond.selects RX3 yX3_prints yX3_prints, Cond.code yX3_prints cX3_prints 1 (some .int), Cond.fieldLink RX3 145 "PaintedDie" "printsMade" "I", Cond.methodLink RX4 118 yX3_column]
def wsX4_isSame_r7 : List Cond := [Cond.instanceMethod yX3_column, Cond.selects RX3 yX3_column yX3_column, Cond.code yX3_column cX3_column 1 (some .int), Cond.methodLink RX4 121 yX3_row, Cond.instanceMethod yX3_row, Cond.selects RX3 yX3_row yX3_row, Cond.code yX3_row cX3_row 1 (some .int), Cond.methodLink RX4 124 yX3_top, Cond.instanceMethod yX3_top, Cond.selects RX3 yX3_top yX3_top, Cond.code yX3_top cX3_top 1 (some .int), Cond.methodLink RX4 127 yX3_bottom, Cond.instanceMethod yX3_bottom, Cond.selects RX3 yX3_bottom yX3_bottom, Cond.code yX3_bottom cX3_bottom 1 (some .int), Cond.methodLink RX3 121 yX3_top, Cond.methodLink RX4 130 yX3_isAsAtFirst, Cond.instanceMethod yX3_isAsAtFirst, Cond.selects RX3 yX3_isAsAtFirst yX3_isAsAtFirst, Cond.code yX3_isAsAtFirst cX3_isAsAtFirst 1 (some .boolean), Cond.methodLink RX4 134 yX3_meanPaint, Cond.instanceMethod yX3_meanPaint, Cond.selects RX3 yX3_meanPaint yX3_meanPaint, Cond.code yX3_meanPaint cX3_meanPaint 3 (some .double)]
def wsX4_isSame_r8 : List Cond := [Cond.constantDouble RX3 186 (4618441417868443648)]
def wsX4_isSame : List Cond := .code yX4_isSame cX4_isSame 6 (some .boolean) :: ((wsX4_isSame_r1 ++ (wsX4_isSame_r2 ++ (wsX4_isSame_r3 ++ (wsX4_isSame_r4 ++ (wsX4_isSame_r5 ++ (wsX4_isSame_r6 ++ (wsX4_isSame_r7 ++ wsX4_isSame_r8))))))) ++ wsX40 ++ wsX30 ++ wsX00 ++ (vx_atS RX3 152 "java/lang/IndexOutOfBoundsException" ["java/lang/RuntimeException", "java/lang/Exception"]).filter goodWord)
def wsJ9_abs_0f7a4 : List Cond := .code yJ9_abs_0f7a4 cJ9_abs_0f7a4 1 (some .int) :: ([])
def wsJ9_min_7cf53 : List Cond := .code yJ9_min_7cf53 cJ9_min_7cf53 2 (some .int) :: ([])
def wsL_below : List Cond := .code yL_below cL_below 2 (some .int) :: ([.constant RL 7 (2147483647)])
def wsL_cell : List Cond := .code yL_cell cL_cell 2 (some .int) :: ([.constant RL 8 (790386105)])
def wsL_act_r1 : List Cond := [Cond.classLink RL 47 "java/lang/IllegalStateException", Cond.fieldLink RL 9 "PaintedDieLaw$Sim" "w" "I", Cond.fieldLink RL 21 "PaintedDieLaw$Sim" "h" "I", Cond.fieldLink RL 33 "PaintedDieLaw$Sim" "x" "I", Cond.fieldLink RL 36 "PaintedDieLaw$Sim" "y" "I", Cond.fieldLink RL 39 "PaintedDieLaw$Sim" "wall" "[[Z", Cond.fieldLink RL 49 "PaintedDieLaw$Sim" "colour" "[I", Cond.fieldLink RL 56 "PaintedDieLaw$Sim" "paint" "[I", Cond.methodLink RL 59 Lib.Math.min.name, Cond.static Lib.Math.min.name, Cond.initialized "java/lang/Math", Cond.code Lib.Math.min.name Lib.Math.min.code 2 (some .int), Cond.methodLink RL 67 Lib.Math.abs.name, Cond.static Lib.Math.abs.name, Cond.code Lib.Math.abs.name Lib.Math.abs.code 1 (some .int), Cond.fieldLink RL 85 "PaintedDieLaw$Sim" "die" "[I", Cond.methodLink RL 15 yL_below, Cond.static yL_below, Cond.initialized RL, Cond.code yL_below cL_below 2 (some .int), Cond.constant RL 7 (2147483647), Cond.methodLink RL 24 yX4_board, Cond.instanceMethod yX4_board, Cond.selects RX4 yX4_board yX4_board]
def wsL_act_r2 : List Cond := [Cond.initialized RX4, Cond.code yX4_board cX4_board 3 none, Cond.fieldLink RX4 7 "PaintedDieLaw$Sim" "w" "I", Cond.fieldLink RX4 13 "PaintedDieLaw$Sim" "h" "I", Cond.classLink RX4 16 "[[Z", Cond.arrayClass .boolean, Cond.fieldLink RX4 18 "PaintedDieLaw$Sim" "wall" "[[Z", Cond.classLink RX4 21 "[[I", Cond.arrayClass .int, Cond.fieldLink RX4 23 "PaintedDieLaw$Sim" "print" "[[I", Cond.fieldLink RX4 36 "PaintedDieLaw$Sim" "rolls" "I", Cond.fieldLink RX4 39 "PaintedDieLaw$Sim" "prints" "I", Cond.methodLink RX4 42 yX4_put, Cond.instanceMethod yX4_put, Cond.selects RX4 yX4_put yX4_put, Cond.code yX4_put cX4_put 3 none, Cond.fieldLink RX4 46 "PaintedDieLaw$Sim" "x" "I", Cond.fieldLink RX4 49 "PaintedDieLaw$Sim" "y" "I", Cond.fieldLink RX4 33 "PaintedDieLaw$Sim" "die" "[I", Cond.methodLink RL 28 yX3_newBoard, Cond.instanceMethod yX3_newBoard, Cond.selects RX3 yX3_newBoard yX3_newBoard, Cond.initialized RX3, Cond.code yX3_newBoard cX3_newBoard 3 (some .int)]
def wsL_act_r3 : List Cond := [Cond.classLink RX3 38 "java/lang/IllegalArgumentException", Cond.initialized "java/lang/IllegalArgumentException", Cond.methodLink RX3 34 yX3_isSide, Cond.static yX3_isSide, Cond.code yX3_isSide cX3_isSide 1 (some .boolean), Cond.methodLink RX3 30 yX3_startOn, Cond.instanceMethod yX3_startOn, Cond.selects RX3 yX3_startOn yX3_startOn, Cond.code yX3_startOn cX3_startOn 3 none, Cond.fieldLink RX3 12 "PaintedDie" "board" "LPaintedDie$Board;", Cond.fieldLink RX3 52 "PaintedDie" "cell" "I", Cond.fieldLink RX3 96 "PaintedDie" "turn" "I", Cond.fieldLink RX3 142 "PaintedDie" "rollsMade" "I", Cond.fieldLink RX3 145 "PaintedDie" "printsMade" "I", Cond.instanceMethod yX0_layOut, Cond.initialized RX0, Cond.selects RX0 yX0_layOut yX0_layOut, Cond.code yX0_layOut cX0_layOut 4 none, Cond.fieldLink RX0 19 "PaintedDie$Board" "width" "I", Cond.fieldLink RX0 23 "PaintedDie$Board" "height" "I", Cond.fieldLink RX0 9 "PaintedDie$Board" "isWalled" "[Z", Cond.fieldLink RX0 15 "PaintedDie$Board" "printed" "[I", Cond.methodLink RL 43 yX3_turnWall, Cond.instanceMethod yX3_turnWall]
def wsL_act_r4 : List Cond := [Cond.selects RX3 yX3_turnWall yX3_turnWall, Cond.code yX3_turnWall cX3_turnWall 4 (some .boolean), Cond.classLink RX3 56 "java/lang/IllegalStateException", Cond.initialized "java/lang/IllegalStateException", Cond.methodLink RX3 45 yX3_checkCell, Cond.instanceMethod yX3_checkCell, Cond.selects RX3 yX3_checkCell yX3_checkCell, Cond.code yX3_checkCell cX3_checkCell 3 none, Cond.classLink RX3 148 "java/lang/IndexOutOfBoundsException", Cond.initialized "java/lang/IndexOutOfBoundsException", Cond.instanceMethod yX0_has, Cond.selects RX0 yX0_has yX0_has, Cond.code yX0_has cX0_has 3 (some .boolean), Cond.static yX0_cellAt, Cond.code yX0_cellAt cX0_cellAt 2 (some .int), Cond.instanceMethod yX0_turnOver, Cond.selects RX0 yX0_turnOver yX0_turnOver, Cond.code yX0_turnOver cX0_turnOver 2 (some .boolean), Cond.methodLink RL 53 yX3_setColour, Cond.instanceMethod yX3_setColour, Cond.selects RX3 yX3_setColour yX3_setColour, Cond.code yX3_setColour cX3_setColour 4 (some .int), Cond.fieldLink RX3 23 "PaintedDie" "colours" "[I", Cond.methodLink RX3 64 yX3_checkFace]
def wsL_act_r5 : List Cond := [Cond.static yX3_checkFace, Cond.code yX3_checkFace cX3_checkFace 1 none, Cond.methodLink RX3 219 yX3_isFace, Cond.static yX3_isFace, Cond.code yX3_isFace cX3_isFace 1 (some .boolean), Cond.methodLink RL 64 yX3_addPaint, Cond.instanceMethod yX3_addPaint, Cond.selects RX3 yX3_addPaint yX3_addPaint, Cond.code yX3_addPaint cX3_addPaint 3 (some .int), Cond.fieldLink RX3 27 "PaintedDie" "paints" "[I", Cond.methodLink RX3 72 Lib.Math.min.name, Cond.methodLink RL 71 yX4_put, Cond.methodLink RL 74 yX3_put, Cond.instanceMethod yX3_put, Cond.selects RX3 yX3_put yX3_put, Cond.code yX3_put cX3_put 4 (some .int), Cond.methodLink RX3 87 Lib.Math.abs.name, Cond.instanceMethod yX0_isFree, Cond.selects RX0 yX0_isFree yX0_isFree, Cond.code yX0_isFree cX0_isFree 3 (some .boolean), Cond.methodLink RX0 26 yX0_has, Cond.methodLink RX0 30 yX0_cellAt, Cond.methodLink RX3 83 yX3_column, Cond.instanceMethod yX3_column]
def wsL_act_r6 : List Cond := [Cond.selects RX3 yX3_column yX3_column, Cond.code yX3_column cX3_column 1 (some .int), Cond.static yX0_columnOf, Cond.code yX0_columnOf cX0_columnOf 1 (some .int), Cond.methodLink RX3 91 yX3_row, Cond.instanceMethod yX3_row, Cond.selects RX3 yX3_row yX3_row, Cond.code yX3_row cX3_row 1 (some .int), Cond.static yX0_rowOf, Cond.code yX0_rowOf cX0_rowOf 1 (some .int), Cond.methodLink RL 76 yX4_roll, Cond.instanceMethod yX4_roll, Cond.selects RX4 yX4_roll yX4_roll, Cond.code yX4_roll cX4_roll 2 (some .boolean), Cond.fieldLink RX4 30 "PaintedDieLaw$Sim" "paint" "[I", Cond.fieldLink RX4 26 "PaintedDieLaw$Sim" "colour" "[I", Cond.methodLink RX4 69 yX4_can, Cond.instanceMethod yX4_can, Cond.selects RX4 yX4_can yX4_can, Cond.code yX4_can cX4_can 2 (some .boolean), Cond.methodLink RX4 60 yX4_isFree, Cond.instanceMethod yX4_isFree, Cond.selects RX4 yX4_isFree yX4_isFree, Cond.code yX4_isFree cX4_isFree 3 (some .boolean)]
def wsL_act_r7 : List Cond := [Cond.methodLink RX4 73 yX4_tipped, Cond.static yX4_tipped, Cond.code yX4_tipped cX4_tipped 5 (some (.array .int)), Cond.methodLink RX4 64 ⟨"[I", "clone", "()Ljava/lang/Object;"⟩, Cond.sameMethod "[I" "java/lang/Object" "clone" "()Ljava/lang/Object;", Cond.native ⟨"java/lang/Object", "clone", "()Ljava/lang/Object;"⟩, Cond.instanceMethod ⟨"java/lang/Object", "clone", "()Ljava/lang/Object;"⟩, Cond.selects "[I" ⟨"[I", "clone", "()Ljava/lang/Object;"⟩ ⟨"java/lang/Object", "clone", "()Ljava/lang/Object;"⟩, Cond.classLink RX4 65 "[I", Cond.methodLink RL 80 yX3_rollOn, Cond.instanceMethod yX3_rollOn, Cond.selects RX3 yX3_rollOn yX3_rollOn, Cond.code yX3_rollOn cX3_rollOn 4 (some .int), Cond.methodLink RX3 99 yX3_checkDirection, Cond.static yX3_checkDirection, Cond.code yX3_checkDirection cX3_checkDirection 1 none, Cond.methodLink RX3 102 yX3_rollOnce, Cond.instanceMethod yX3_rollOnce, Cond.selects RX3 yX3_rollOnce yX3_rollOnce, Cond.code yX3_rollOnce cX3_rollOnce 3 (some .boolean), Cond.instanceMethod yX0_nextCell, Cond.selects RX0 yX0_nextCell yX0_nextCell, Cond.code yX0_nextCell cX0_nextCell 5 (some .int), Cond.methodLink RX0 34 yX0_columnOf]
def wsL_act_r8 : List Cond := [Cond.methodLink RX0 38 yX0_rowOf, Cond.methodLink RX0 41 yX0_isFree, Cond.static yX2_behindRoll, Cond.initialized RX2, Cond.code yX2_behindRoll cX2_behindRoll 4 (some .int), Cond.methodLink RX2 9 yX2_topOf, Cond.static yX2_topOf, Cond.code yX2_topOf cX2_topOf 1 (some .int), Cond.methodLink RX2 15 yX2_northOf, Cond.static yX2_northOf, Cond.code yX2_northOf cX2_northOf 1 (some .int), Cond.methodLink RX2 24 yX2_with, Cond.static yX2_with, Cond.code yX2_with cX2_with 2 (some .int), Cond.methodLink RX2 21 yX2_eastOf, Cond.static yX2_eastOf, Cond.code yX2_eastOf cX2_eastOf 5 (some .int), Cond.methodLink RX2 18 yX2_axisOf, Cond.static yX2_axisOf, Cond.code yX2_axisOf cX2_axisOf 1 (some .int), Cond.methodLink RX3 216 yX3_printHere, Cond.instanceMethod yX3_printHere, Cond.selects RX3 yX3_printHere yX3_printHere, Cond.code yX3_printHere cX3_printHere 2 none]
def wsL_act_r9 : List Cond := [Cond.methodLink RX3 107 yX3_bottom, Cond.instanceMethod yX3_bottom, Cond.selects RX3 yX3_bottom yX3_bottom, Cond.code yX3_bottom cX3_bottom 1 (some .int), Cond.methodLink RX3 121 yX3_top, Cond.instanceMethod yX3_top, Cond.selects RX3 yX3_top yX3_top, Cond.code yX3_top cX3_top 1 (some .int), Cond.instanceMethod yX0_printOnto, Cond.selects RX0 yX0_printOnto yX0_printOnto, Cond.code yX0_printOnto cX0_printOnto 3 none, Cond.methodLink RL 83 yX3_roll, Cond.instanceMethod yX3_roll, Cond.selects RX3 yX3_roll yX3_roll, Cond.code yX3_roll cX3_roll 2 (some .int)]
def wsL_act : List Cond := .codeWith yL_act cL_act 9 (some .boolean) [(215, 244, 245, 47), (435, 457, 458, 47), (568, 593, 594, 47)] :: ((wsL_act_r1 ++ (wsL_act_r2 ++ (wsL_act_r3 ++ (wsL_act_r4 ++ (wsL_act_r5 ++ (wsL_act_r6 ++ (wsL_act_r7 ++ (wsL_act_r8 ++ wsL_act_r9)))))))) ++ wsX40 ++ wsX30 ++ wsX00 ++ (vx_atS RX3 42 "java/lang/IllegalArgumentException" ["java/lang/RuntimeException", "java/lang/Exception"]).filter goodWord ++ (vx_atS RX3 60 "java/lang/IllegalStateException" ["java/lang/RuntimeException", "java/lang/Exception"]).filter goodWord ++ (vx_atS RX3 152 "java/lang/IndexOutOfBoundsException" ["java/lang/RuntimeException", "java/lang/Exception"]).filter goodWord)
def wsL_build_r1 : List Cond := [Cond.classLink RL 10 RX4, Cond.instantiable RX4 11, Cond.initialized RX4, Cond.fieldLink RL 9 "PaintedDieLaw$Sim" "w" "I", Cond.fieldLink RL 21 "PaintedDieLaw$Sim" "h" "I", Cond.fieldLink RL 39 "PaintedDieLaw$Sim" "wall" "[[Z", Cond.fieldLink RL 56 "PaintedDieLaw$Sim" "paint" "[I", Cond.instanceMethod yX4_init, Cond.code yX4_init cX4_init 1 none, Cond.methodLink RX4 1 objectInit, Cond.instanceMethod objectInit, Cond.code objectInit ⟨#[0xb1]⟩ 1 none, Cond.fieldLink RX4 7 "PaintedDieLaw$Sim" "w" "I", Cond.fieldLink RX4 13 "PaintedDieLaw$Sim" "h" "I", Cond.classLink RX4 16 "[[Z", Cond.arrayClass .boolean, Cond.fieldLink RX4 18 "PaintedDieLaw$Sim" "wall" "[[Z", Cond.classLink RX4 21 "[[I", Cond.arrayClass .int, Cond.fieldLink RX4 23 "PaintedDieLaw$Sim" "print" "[[I", Cond.fieldLink RX4 26 "PaintedDieLaw$Sim" "colour" "[I", Cond.fieldLink RX4 30 "PaintedDieLaw$Sim" "paint" "[I", Cond.fieldLink RX4 33 "PaintedDieLaw$Sim" "die" "[I", Cond.methodLink RL 89 yL_cell]
def wsL_build_r2 : List Cond := [Cond.static yL_cell, Cond.initialized RL, Cond.code yL_cell cL_cell 2 (some .int), Cond.constant RL 8 (790386105), Cond.methodLink RL 15 yL_below, Cond.static yL_below, Cond.code yL_below cL_below 2 (some .int), Cond.constant RL 7 (2147483647), Cond.methodLink RL 24 yX4_board, Cond.instanceMethod yX4_board, Cond.selects RX4 yX4_board yX4_board, Cond.code yX4_board cX4_board 3 none, Cond.fieldLink RX4 36 "PaintedDieLaw$Sim" "rolls" "I", Cond.fieldLink RX4 39 "PaintedDieLaw$Sim" "prints" "I", Cond.methodLink RX4 42 yX4_put, Cond.instanceMethod yX4_put, Cond.selects RX4 yX4_put yX4_put, Cond.code yX4_put cX4_put 3 none, Cond.fieldLink RX4 46 "PaintedDieLaw$Sim" "x" "I", Cond.fieldLink RX4 49 "PaintedDieLaw$Sim" "y" "I", Cond.methodLink RL 28 yX3_newBoard, Cond.instanceMethod yX3_newBoard, Cond.selects RX3 yX3_newBoard yX3_newBoard, Cond.initialized RX3]
def wsL_build_r3 : List Cond := [Cond.code yX3_newBoard cX3_newBoard 3 (some .int), Cond.classLink RX3 38 "java/lang/IllegalArgumentException", Cond.initialized "java/lang/IllegalArgumentException", Cond.methodLink RX3 34 yX3_isSide, Cond.static yX3_isSide, Cond.code yX3_isSide cX3_isSide 1 (some .boolean), Cond.methodLink RX3 30 yX3_startOn, Cond.instanceMethod yX3_startOn, Cond.selects RX3 yX3_startOn yX3_startOn, Cond.code yX3_startOn cX3_startOn 3 none, Cond.fieldLink RX3 12 "PaintedDie" "board" "LPaintedDie$Board;", Cond.fieldLink RX3 52 "PaintedDie" "cell" "I", Cond.fieldLink RX3 96 "PaintedDie" "turn" "I", Cond.fieldLink RX3 142 "PaintedDie" "rollsMade" "I", Cond.fieldLink RX3 145 "PaintedDie" "printsMade" "I", Cond.instanceMethod yX0_layOut, Cond.initialized RX0, Cond.selects RX0 yX0_layOut yX0_layOut, Cond.code yX0_layOut cX0_layOut 4 none, Cond.fieldLink RX0 19 "PaintedDie$Board" "width" "I", Cond.fieldLink RX0 23 "PaintedDie$Board" "height" "I", Cond.fieldLink RX0 9 "PaintedDie$Board" "isWalled" "[Z", Cond.fieldLink RX0 15 "PaintedDie$Board" "printed" "[I", Cond.methodLink RL 43 yX3_turnWall]
def wsL_build_r4 : List Cond := [Cond.instanceMethod yX3_turnWall, Cond.selects RX3 yX3_turnWall yX3_turnWall, Cond.code yX3_turnWall cX3_turnWall 4 (some .boolean), Cond.classLink RX3 56 "java/lang/IllegalStateException", Cond.initialized "java/lang/IllegalStateException", Cond.methodLink RX3 45 yX3_checkCell, Cond.instanceMethod yX3_checkCell, Cond.selects RX3 yX3_checkCell yX3_checkCell, Cond.code yX3_checkCell cX3_checkCell 3 none, Cond.classLink RX3 148 "java/lang/IndexOutOfBoundsException", Cond.initialized "java/lang/IndexOutOfBoundsException", Cond.instanceMethod yX0_has, Cond.selects RX0 yX0_has yX0_has, Cond.code yX0_has cX0_has 3 (some .boolean), Cond.static yX0_cellAt, Cond.code yX0_cellAt cX0_cellAt 2 (some .int), Cond.instanceMethod yX0_turnOver, Cond.selects RX0 yX0_turnOver yX0_turnOver, Cond.code yX0_turnOver cX0_turnOver 2 (some .boolean), Cond.methodLink RL 64 yX3_addPaint, Cond.instanceMethod yX3_addPaint, Cond.selects RX3 yX3_addPaint yX3_addPaint, Cond.code yX3_addPaint cX3_addPaint 3 (some .int), Cond.fieldLink RX3 27 "PaintedDie" "paints" "[I"]
def wsL_build_r5 : List Cond := [Cond.methodLink RX3 72 Lib.Math.min.name, Cond.static Lib.Math.min.name, Cond.initialized "java/lang/Math", Cond.code Lib.Math.min.name Lib.Math.min.code 2 (some .int), Cond.methodLink RX3 64 yX3_checkFace, Cond.static yX3_checkFace, Cond.code yX3_checkFace cX3_checkFace 1 none, Cond.methodLink RX3 219 yX3_isFace, Cond.static yX3_isFace, Cond.code yX3_isFace cX3_isFace 1 (some .boolean)]
def wsL_build : List Cond := .code yL_build cL_build 7 (some (.object "PaintedDieLaw$Sim")) :: ((wsL_build_r1 ++ (wsL_build_r2 ++ (wsL_build_r3 ++ (wsL_build_r4 ++ wsL_build_r5)))) ++ wsX40 ++ wsX30 ++ wsX00 ++ (vx_atS RX3 42 "java/lang/IllegalArgumentException" ["java/lang/RuntimeException", "java/lang/Exception"]).filter goodWord ++ (vx_atS RX3 60 "java/lang/IllegalStateException" ["java/lang/RuntimeException", "java/lang/Exception"]).filter goodWord ++ (vx_atS RX3 152 "java/lang/IndexOutOfBoundsException" ["java/lang/RuntimeException", "java/lang/Exception"]).filter goodWord)
def wsL_goes_r1 : List Cond := [Cond.fieldLink RL 161 "PaintedDieLaw" "ACROSS" "[I", Cond.fieldLink RL 164 "PaintedDieLaw" "DOWN" "[I", Cond.methodLink RL 113 yX3_column, Cond.instanceMethod yX3_column, Cond.selects RX3 yX3_column yX3_column, Cond.initialized RX3, Cond.code yX3_column cX3_column 1 (some .int), Cond.fieldLink RX3 52 "PaintedDie" "cell" "I", Cond.static yX0_columnOf, Cond.initialized RX0, Cond.code yX0_columnOf cX0_columnOf 1 (some .int), Cond.methodLink RL 116 yX3_row, Cond.instanceMethod yX3_row, Cond.selects RX3 yX3_row yX3_row, Cond.code yX3_row cX3_row 1 (some .int), Cond.static yX0_rowOf, Cond.code yX0_rowOf cX0_rowOf 1 (some .int), Cond.methodLink RL 128 yX3_faceTo, Cond.instanceMethod yX3_faceTo, Cond.selects RX3 yX3_faceTo yX3_faceTo, Cond.code yX3_faceTo cX3_faceTo 2 (some .int), Cond.fieldLink RX3 96 "PaintedDie" "turn" "I", Cond.methodLink RX3 99 yX3_checkDirection, Cond.static yX3_checkDirection]
def wsL_goes_r2 : List Cond := [Cond.code yX3_checkDirection cX3_checkDirection 1 none, Cond.classLink RX3 148 "java/lang/IndexOutOfBoundsException", Cond.initialized "java/lang/IndexOutOfBoundsException", Cond.static yX2_faceOn, Cond.initialized RX2, Cond.code yX2_faceOn cX2_faceOn 2 (some .int), Cond.methodLink RX2 15 yX2_northOf, Cond.static yX2_northOf, Cond.code yX2_northOf cX2_northOf 1 (some .int), Cond.methodLink RX2 21 yX2_eastOf, Cond.static yX2_eastOf, Cond.code yX2_eastOf cX2_eastOf 5 (some .int), Cond.methodLink RX2 9 yX2_topOf, Cond.static yX2_topOf, Cond.code yX2_topOf cX2_topOf 1 (some .int), Cond.methodLink RX2 18 yX2_axisOf, Cond.static yX2_axisOf, Cond.code yX2_axisOf cX2_axisOf 1 (some .int), Cond.methodLink RL 122 yX3_top, Cond.instanceMethod yX3_top, Cond.selects RX3 yX3_top yX3_top, Cond.code yX3_top cX3_top 1 (some .int), Cond.methodLink RL 184 yX3_colourOf, Cond.instanceMethod yX3_colourOf]
def wsL_goes_r3 : List Cond := [Cond.selects RX3 yX3_colourOf yX3_colourOf, Cond.code yX3_colourOf cX3_colourOf 2 (some .int), Cond.fieldLink RX3 23 "PaintedDie" "colours" "[I", Cond.methodLink RX3 64 yX3_checkFace, Cond.static yX3_checkFace, Cond.code yX3_checkFace cX3_checkFace 1 none, Cond.methodLink RX3 219 yX3_isFace, Cond.static yX3_isFace, Cond.code yX3_isFace cX3_isFace 1 (some .boolean), Cond.methodLink RL 177 yX3_paintOf, Cond.instanceMethod yX3_paintOf, Cond.selects RX3 yX3_paintOf yX3_paintOf, Cond.code yX3_paintOf cX3_paintOf 2 (some .int), Cond.fieldLink RX3 27 "PaintedDie" "paints" "[I", Cond.methodLink RL 83 yX3_roll, Cond.instanceMethod yX3_roll, Cond.selects RX3 yX3_roll yX3_roll, Cond.code yX3_roll cX3_roll 2 (some .int), Cond.classLink RX3 56 "java/lang/IllegalStateException", Cond.initialized "java/lang/IllegalStateException", Cond.methodLink RX3 102 yX3_rollOnce, Cond.instanceMethod yX3_rollOnce, Cond.selects RX3 yX3_rollOnce yX3_rollOnce, Cond.code yX3_rollOnce cX3_rollOnce 3 (some .boolean)]
def wsL_goes_r4 : List Cond := [Cond.fieldLink RX3 12 "PaintedDie" "board" "LPaintedDie$Board;", Cond.fieldLink RX3 142 "PaintedDie" "rollsMade" "I", Cond.instanceMethod yX0_nextCell, Cond.selects RX0 yX0_nextCell yX0_nextCell, Cond.code yX0_nextCell cX0_nextCell 5 (some .int), Cond.methodLink RX0 34 yX0_columnOf, Cond.methodLink RX0 38 yX0_rowOf, Cond.methodLink RX0 41 yX0_isFree, Cond.instanceMethod yX0_isFree, Cond.selects RX0 yX0_isFree yX0_isFree, Cond.code yX0_isFree cX0_isFree 3 (some .boolean), Cond.fieldLink RX0 9 "PaintedDie$Board" "isWalled" "[Z", Cond.methodLink RX0 26 yX0_has, Cond.instanceMethod yX0_has, Cond.selects RX0 yX0_has yX0_has, Cond.code yX0_has cX0_has 3 (some .boolean), Cond.fieldLink RX0 19 "PaintedDie$Board" "width" "I", Cond.fieldLink RX0 23 "PaintedDie$Board" "height" "I", Cond.methodLink RX0 30 yX0_cellAt, Cond.static yX0_cellAt, Cond.code yX0_cellAt cX0_cellAt 2 (some .int), Cond.static yX2_behindRoll, Cond.code yX2_behindRoll cX2_behindRoll 4 (some .int), Cond.methodLink RX2 24 yX2_with]
def wsL_goes_r5 : List Cond := [Cond.static yX2_with, Cond.code yX2_with cX2_with 2 (some .int), Cond.methodLink RX3 216 yX3_printHere, Cond.instanceMethod yX3_printHere, Cond.selects RX3 yX3_printHere yX3_printHere, Cond.code yX3_printHere cX3_printHere 2 none, Cond.fieldLink RX3 145 "PaintedDie" "printsMade" "I", Cond.methodLink RX3 107 yX3_bottom, Cond.instanceMethod yX3_bottom, Cond.selects RX3 yX3_bottom yX3_bottom, Cond.code yX3_bottom cX3_bottom 1 (some .int), Cond.methodLink RX3 121 yX3_top, Cond.instanceMethod yX0_printOnto, Cond.selects RX0 yX0_printOnto yX0_printOnto, Cond.code yX0_printOnto cX0_printOnto 3 none, Cond.fieldLink RX0 15 "PaintedDie$Board" "printed" "[I", Cond.methodLink RL 76 yX4_roll, Cond.instanceMethod yX4_roll, Cond.selects RX4 yX4_roll yX4_roll, Cond.initialized RX4, Cond.code yX4_roll cX4_roll 2 (some .boolean), Cond.fieldLink RX4 46 "PaintedDieLaw$Sim" "x" "I", Cond.fieldLink RX4 49 "PaintedDieLaw$Sim" "y" "I", Cond.fieldLink RX4 33 "PaintedDieLaw$Sim" "die" "[I"]
def wsL_goes_r6 : List Cond := [Cond.fieldLink RX4 36 "PaintedDieLaw$Sim" "rolls" "I", Cond.fieldLink RX4 30 "PaintedDieLaw$Sim" "paint" "[I", Cond.fieldLink RX4 23 "PaintedDieLaw$Sim" "print" "[[I", Cond.fieldLink RX4 26 "PaintedDieLaw$Sim" "colour" "[I", Cond.fieldLink RX4 39 "PaintedDieLaw$Sim" "prints" "I", Cond.methodLink RX4 69 yX4_can, Cond.instanceMethod yX4_can, Cond.selects RX4 yX4_can yX4_can, Cond.code yX4_can cX4_can 2 (some .boolean), Cond.methodLink RX4 60 yX4_isFree, Cond.instanceMethod yX4_isFree, Cond.selects RX4 yX4_isFree yX4_isFree, Cond.code yX4_isFree cX4_isFree 3 (some .boolean), Cond.fieldLink RX4 7 "PaintedDieLaw$Sim" "w" "I", Cond.fieldLink RX4 13 "PaintedDieLaw$Sim" "h" "I", Cond.fieldLink RX4 18 "PaintedDieLaw$Sim" "wall" "[[Z", Cond.methodLink RX4 73 yX4_tipped, Cond.static yX4_tipped, Cond.code yX4_tipped cX4_tipped 5 (some (.array .int)), Cond.methodLink RX4 64 ⟨"[I", "clone", "()Ljava/lang/Object;"⟩, Cond.sameMethod "[I" "java/lang/Object" "clone" "()Ljava/lang/Object;", Cond.native ⟨"java/lang/Object", "clone", "()Ljava/lang/Object;"⟩, Cond.instanceMethod ⟨"java/lang/Object", "clone", "()Ljava/lang/Object;"⟩, Cond.selects "[I" ⟨"[I", "clone", "()Ljava/lang/Object;"⟩ ⟨"java/lang/Object", "clone", "()Ljava/lang/Object;"⟩]
def wsL_goes_r7 : List Cond := [Cond.classLink RX4 65 "[I", Cond.methodLink RL 125 yX3_bottom, Cond.methodLink RL 187 yX3_printAt, Cond.instanceMethod yX3_printAt, Cond.selects RX3 yX3_printAt yX3_printAt, Cond.code yX3_printAt cX3_printAt 3 (some .int), Cond.methodLink RX3 45 yX3_checkCell, Cond.instanceMethod yX3_checkCell, Cond.selects RX3 yX3_checkCell yX3_checkCell, Cond.code yX3_checkCell cX3_checkCell 3 none, Cond.instanceMethod yX0_printOn, Cond.selects RX0 yX0_printOn yX0_printOn, Cond.code yX0_printOn cX0_printOn 3 (some .int)]
def wsL_goes : List Cond := .code yL_goes cL_goes 9 (some .boolean) :: ((wsL_goes_r1 ++ (wsL_goes_r2 ++ (wsL_goes_r3 ++ (wsL_goes_r4 ++ (wsL_goes_r5 ++ (wsL_goes_r6 ++ wsL_goes_r7)))))) ++ wsX30 ++ wsX00 ++ wsX40 ++ (vx_atS RX3 152 "java/lang/IndexOutOfBoundsException" ["java/lang/RuntimeException", "java/lang/Exception"]).filter goodWord ++ (vx_atS RX3 60 "java/lang/IllegalStateException" ["java/lang/RuntimeException", "java/lang/Exception"]).filter goodWord)
def wsL_law0_r1 : List Cond := [Cond.classLink RL 29 RX3, Cond.instantiable RX3 8, Cond.initialized RX3, Cond.methodLink RL 67 Lib.Math.abs.name, Cond.static Lib.Math.abs.name, Cond.initialized "java/lang/Math", Cond.code Lib.Math.abs.name Lib.Math.abs.code 1 (some .int), Cond.fieldLink RL 161 "PaintedDieLaw" "ACROSS" "[I", Cond.fieldLink RL 164 "PaintedDieLaw" "DOWN" "[I", Cond.methodLink RL 93 yX3_init, Cond.instanceMethod yX3_init, Cond.code yX3_init cX3_init 2 none, Cond.methodLink RX3 3 objectInit, Cond.instanceMethod objectInit, Cond.code objectInit ⟨#[0xb1]⟩ 1 none, Cond.classLink RX3 9 RX0, Cond.instantiable RX0 4, Cond.initialized RX0, Cond.fieldLink RX3 12 "PaintedDie" "board" "LPaintedDie$Board;", Cond.classLink RX3 16 RX1, Cond.instantiable RX1 3, Cond.initialized RX1, Cond.fieldLink RX3 19 "PaintedDie" "search" "LPaintedDie$Search;", Cond.arrayClass .int]
def wsL_law0_r2 : List Cond := [Cond.fieldLink RX3 23 "PaintedDie" "colours" "[I", Cond.fieldLink RX3 27 "PaintedDie" "paints" "[I", Cond.instanceMethod yX0_init, Cond.code yX0_init cX0_init 1 none, Cond.methodLink RX0 3 objectInit, Cond.arrayClass .boolean, Cond.fieldLink RX0 9 "PaintedDie$Board" "isWalled" "[Z", Cond.fieldLink RX0 15 "PaintedDie$Board" "printed" "[I", Cond.instanceMethod yX1_init, Cond.code yX1_init cX1_init 1 none, Cond.methodLink RX1 3 objectInit, Cond.fieldLink RX1 11 "PaintedDie$Search" "fewest" "[I", Cond.fieldLink RX1 17 "PaintedDie$Search" "queue" "[I", Cond.methodLink RX3 30 yX3_startOn, Cond.instanceMethod yX3_startOn, Cond.selects RX3 yX3_startOn yX3_startOn, Cond.code yX3_startOn cX3_startOn 3 none, Cond.fieldLink RX3 52 "PaintedDie" "cell" "I", Cond.fieldLink RX3 96 "PaintedDie" "turn" "I", Cond.fieldLink RX3 142 "PaintedDie" "rollsMade" "I", Cond.fieldLink RX3 145 "PaintedDie" "printsMade" "I", Cond.instanceMethod yX0_layOut, Cond.selects RX0 yX0_layOut yX0_layOut, Cond.code yX0_layOut cX0_layOut 4 none]
def wsL_law0_r3 : List Cond := [Cond.fieldLink RX0 19 "PaintedDie$Board" "width" "I", Cond.fieldLink RX0 23 "PaintedDie$Board" "height" "I", Cond.methodLink RL 94 yL_build, Cond.static yL_build, Cond.initialized RL, Cond.code yL_build cL_build 7 (some (.object "PaintedDieLaw$Sim")), Cond.classLink RL 10 RX4, Cond.instantiable RX4 11, Cond.initialized RX4, Cond.fieldLink RL 9 "PaintedDieLaw$Sim" "w" "I", Cond.fieldLink RL 21 "PaintedDieLaw$Sim" "h" "I", Cond.fieldLink RL 39 "PaintedDieLaw$Sim" "wall" "[[Z", Cond.fieldLink RL 56 "PaintedDieLaw$Sim" "paint" "[I", Cond.instanceMethod yX4_init, Cond.code yX4_init cX4_init 1 none, Cond.methodLink RX4 1 objectInit, Cond.fieldLink RX4 7 "PaintedDieLaw$Sim" "w" "I", Cond.fieldLink RX4 13 "PaintedDieLaw$Sim" "h" "I", Cond.classLink RX4 16 "[[Z", Cond.fieldLink RX4 18 "PaintedDieLaw$Sim" "wall" "[[Z", Cond.classLink RX4 21 "[[I", Cond.fieldLink RX4 23 "PaintedDieLaw$Sim" "print" "[[I", Cond.fieldLink RX4 26 "PaintedDieLaw$Sim" "colour" "[I", Cond.fieldLink RX4 30 "PaintedDieLaw$Sim" "paint" "[I"]
def wsL_law0_r4 : List Cond := [Cond.fieldLink RX4 33 "PaintedDieLaw$Sim" "die" "[I", Cond.methodLink RL 89 yL_cell, Cond.static yL_cell, Cond.code yL_cell cL_cell 2 (some .int), Cond.constant RL 8 (790386105), Cond.methodLink RL 15 yL_below, Cond.static yL_below, Cond.code yL_below cL_below 2 (some .int), Cond.constant RL 7 (2147483647), Cond.methodLink RL 24 yX4_board, Cond.instanceMethod yX4_board, Cond.selects RX4 yX4_board yX4_board, Cond.code yX4_board cX4_board 3 none, Cond.fieldLink RX4 36 "PaintedDieLaw$Sim" "rolls" "I", Cond.fieldLink RX4 39 "PaintedDieLaw$Sim" "prints" "I", Cond.methodLink RX4 42 yX4_put, Cond.instanceMethod yX4_put, Cond.selects RX4 yX4_put yX4_put, Cond.code yX4_put cX4_put 3 none, Cond.fieldLink RX4 46 "PaintedDieLaw$Sim" "x" "I", Cond.fieldLink RX4 49 "PaintedDieLaw$Sim" "y" "I", Cond.methodLink RL 28 yX3_newBoard, Cond.instanceMethod yX3_newBoard, Cond.selects RX3 yX3_newBoard yX3_newBoard]
def wsL_law0_r5 : List Cond := [Cond.code yX3_newBoard cX3_newBoard 3 (some .int), Cond.classLink RX3 38 "java/lang/IllegalArgumentException", Cond.initialized "java/lang/IllegalArgumentException", Cond.methodLink RX3 34 yX3_isSide, Cond.static yX3_isSide, Cond.code yX3_isSide cX3_isSide 1 (some .boolean), Cond.methodLink RL 43 yX3_turnWall, Cond.instanceMethod yX3_turnWall, Cond.selects RX3 yX3_turnWall yX3_turnWall, Cond.code yX3_turnWall cX3_turnWall 4 (some .boolean), Cond.classLink RX3 56 "java/lang/IllegalStateException", Cond.initialized "java/lang/IllegalStateException", Cond.methodLink RX3 45 yX3_checkCell, Cond.instanceMethod yX3_checkCell, Cond.selects RX3 yX3_checkCell yX3_checkCell, Cond.code yX3_checkCell cX3_checkCell 3 none, Cond.classLink RX3 148 "java/lang/IndexOutOfBoundsException", Cond.initialized "java/lang/IndexOutOfBoundsException", Cond.instanceMethod yX0_has, Cond.selects RX0 yX0_has yX0_has, Cond.code yX0_has cX0_has 3 (some .boolean), Cond.static yX0_cellAt, Cond.code yX0_cellAt cX0_cellAt 2 (some .int), Cond.instanceMethod yX0_turnOver]
def wsL_law0_r6 : List Cond := [Cond.selects RX0 yX0_turnOver yX0_turnOver, Cond.code yX0_turnOver cX0_turnOver 2 (some .boolean), Cond.methodLink RL 64 yX3_addPaint, Cond.instanceMethod yX3_addPaint, Cond.selects RX3 yX3_addPaint yX3_addPaint, Cond.code yX3_addPaint cX3_addPaint 3 (some .int), Cond.methodLink RX3 72 Lib.Math.min.name, Cond.static Lib.Math.min.name, Cond.code Lib.Math.min.name Lib.Math.min.code 2 (some .int), Cond.methodLink RX3 64 yX3_checkFace, Cond.static yX3_checkFace, Cond.code yX3_checkFace cX3_checkFace 1 none, Cond.methodLink RX3 219 yX3_isFace, Cond.static yX3_isFace, Cond.code yX3_isFace cX3_isFace 1 (some .boolean), Cond.methodLink RL 98 yL_act, Cond.static yL_act, Cond.codeWith yL_act cL_act 9 (some .boolean) [(215, 244, 245, 47), (435, 457, 458, 47), (568, 593, 594, 47)], Cond.classLink RL 47 "java/lang/IllegalStateException", Cond.fieldLink RL 33 "PaintedDieLaw$Sim" "x" "I", Cond.fieldLink RL 36 "PaintedDieLaw$Sim" "y" "I", Cond.fieldLink RL 49 "PaintedDieLaw$Sim" "colour" "[I", Cond.methodLink RL 59 Lib.Math.min.name, Cond.fieldLink RL 85 "PaintedDieLaw$Sim" "die" "[I"]
def wsL_law0_r7 : List Cond := [Cond.methodLink RL 53 yX3_setColour, Cond.instanceMethod yX3_setColour, Cond.selects RX3 yX3_setColour yX3_setColour, Cond.code yX3_setColour cX3_setColour 4 (some .int), Cond.methodLink RL 71 yX4_put, Cond.methodLink RL 74 yX3_put, Cond.instanceMethod yX3_put, Cond.selects RX3 yX3_put yX3_put, Cond.code yX3_put cX3_put 4 (some .int), Cond.methodLink RX3 87 Lib.Math.abs.name, Cond.instanceMethod yX0_isFree, Cond.selects RX0 yX0_isFree yX0_isFree, Cond.code yX0_isFree cX0_isFree 3 (some .boolean), Cond.methodLink RX0 26 yX0_has, Cond.methodLink RX0 30 yX0_cellAt, Cond.methodLink RX3 83 yX3_column, Cond.instanceMethod yX3_column, Cond.selects RX3 yX3_column yX3_column, Cond.code yX3_column cX3_column 1 (some .int), Cond.static yX0_columnOf, Cond.code yX0_columnOf cX0_columnOf 1 (some .int), Cond.methodLink RX3 91 yX3_row, Cond.instanceMethod yX3_row, Cond.selects RX3 yX3_row yX3_row]
def wsL_law0_r8 : List Cond := [Cond.code yX3_row cX3_row 1 (some .int), Cond.static yX0_rowOf, Cond.code yX0_rowOf cX0_rowOf 1 (some .int), Cond.methodLink RL 76 yX4_roll, Cond.instanceMethod yX4_roll, Cond.selects RX4 yX4_roll yX4_roll, Cond.code yX4_roll cX4_roll 2 (some .boolean), Cond.methodLink RX4 69 yX4_can, Cond.instanceMethod yX4_can, Cond.selects RX4 yX4_can yX4_can, Cond.code yX4_can cX4_can 2 (some .boolean), Cond.methodLink RX4 60 yX4_isFree, Cond.instanceMethod yX4_isFree, Cond.selects RX4 yX4_isFree yX4_isFree, Cond.code yX4_isFree cX4_isFree 3 (some .boolean), Cond.methodLink RX4 73 yX4_tipped, Cond.static yX4_tipped, Cond.code yX4_tipped cX4_tipped 5 (some (.array .int)), Cond.methodLink RX4 64 ⟨"[I", "clone", "()Ljava/lang/Object;"⟩, Cond.sameMethod "[I" "java/lang/Object" "clone" "()Ljava/lang/Object;", Cond.native ⟨"java/lang/Object", "clone", "()Ljava/lang/Object;"⟩, Cond.instanceMethod ⟨"java/lang/Object", "clone", "()Ljava/lang/Object;"⟩, Cond.selects "[I" ⟨"[I", "clone", "()Ljava/lang/Object;"⟩ ⟨"java/lang/Object", "clone", "()Ljava/lang/Object;"⟩, Cond.classLink RX4 65 "[I"]
def wsL_law0_r9 : List Cond := [Cond.methodLink RL 80 yX3_rollOn, Cond.instanceMethod yX3_rollOn, Cond.selects RX3 yX3_rollOn yX3_rollOn, Cond.code yX3_rollOn cX3_rollOn 4 (some .int), Cond.methodLink RX3 99 yX3_checkDirection, Cond.static yX3_checkDirection, Cond.code yX3_checkDirection cX3_checkDirection 1 none, Cond.methodLink RX3 102 yX3_rollOnce, Cond.instanceMethod yX3_rollOnce, Cond.selects RX3 yX3_rollOnce yX3_rollOnce, Cond.code yX3_rollOnce cX3_rollOnce 3 (some .boolean), Cond.instanceMethod yX0_nextCell, Cond.selects RX0 yX0_nextCell yX0_nextCell, Cond.code yX0_nextCell cX0_nextCell 5 (some .int), Cond.methodLink RX0 34 yX0_columnOf, Cond.methodLink RX0 38 yX0_rowOf, Cond.methodLink RX0 41 yX0_isFree, Cond.static yX2_behindRoll, Cond.initialized RX2, Cond.code yX2_behindRoll cX2_behindRoll 4 (some .int), Cond.methodLink RX2 9 yX2_topOf, Cond.static yX2_topOf, Cond.code yX2_topOf cX2_topOf 1 (some .int), Cond.methodLink RX2 15 yX2_northOf]
def wsL_law0_r10 : List Cond := [Cond.static yX2_northOf, Cond.code yX2_northOf cX2_northOf 1 (some .int), Cond.methodLink RX2 24 yX2_with, Cond.static yX2_with, Cond.code yX2_with cX2_with 2 (some .int), Cond.methodLink RX2 21 yX2_eastOf, Cond.static yX2_eastOf, Cond.code yX2_eastOf cX2_eastOf 5 (some .int), Cond.methodLink RX2 18 yX2_axisOf, Cond.static yX2_axisOf, Cond.code yX2_axisOf cX2_axisOf 1 (some .int), Cond.methodLink RX3 216 yX3_printHere, Cond.instanceMethod yX3_printHere, Cond.selects RX3 yX3_printHere yX3_printHere, Cond.code yX3_printHere cX3_printHere 2 none, Cond.methodLink RX3 107 yX3_bottom, Cond.instanceMethod yX3_bottom, Cond.selects RX3 yX3_bottom yX3_bottom, Cond.code yX3_bottom cX3_bottom 1 (some .int), Cond.methodLink RX3 121 yX3_top, Cond.instanceMethod yX3_top, Cond.selects RX3 yX3_top yX3_top, Cond.code yX3_top cX3_top 1 (some .int), Cond.instanceMethod yX0_printOnto]
def wsL_law0_r11 : List Cond := [Cond.selects RX0 yX0_printOnto yX0_printOnto, Cond.code yX0_printOnto cX0_printOnto 3 none, Cond.methodLink RL 83 yX3_roll, Cond.instanceMethod yX3_roll, Cond.selects RX3 yX3_roll yX3_roll, Cond.code yX3_roll cX3_roll 2 (some .int), Cond.methodLink RL 102 yX3_digest, Cond.instanceMethod yX3_digest, Cond.selects RX3 yX3_digest yX3_digest, Cond.code yX3_digest cX3_digest 4 (some .long), Cond.constantLong RX3 188 (1901), Cond.methodLink RX3 190 yX3_width, Cond.instanceMethod yX3_width, Cond.selects RX3 yX3_width yX3_width, Cond.code yX3_width cX3_width 1 (some .int), Cond.methodLink RX3 192 yX3_joined, Cond.static yX3_joined, Cond.code yX3_joined cX3_joined 3 (some .long), Cond.constantLong RX3 211 (31), Cond.methodLink RX3 196 yX3_height, Cond.instanceMethod yX3_height, Cond.selects RX3 yX3_height yX3_height, Cond.code yX3_height cX3_height 1 (some .int), Cond.methodLink RX3 198 yX3_walls]
def wsL_law0_r12 : List Cond := [Cond.instanceMethod yX3_walls, Cond.selects RX3 yX3_walls yX3_walls, Cond.code yX3_walls cX3_walls 1 (some .int), Cond.instanceMethod yX0_countWalls, Cond.selects RX0 yX0_countWalls yX0_countWalls, Cond.code yX0_countWalls cX0_countWalls 3 (some .int), Cond.methodLink RX3 201 yX3_rolls, Cond.instanceMethod yX3_rolls, Cond.selects RX3 yX3_rolls yX3_rolls, Cond.code yX3_rolls cX3_rolls 1 (some .int), Cond.methodLink RX3 204 yX3_prints, Cond.instanceMethod yX3_prints, Cond.selects RX3 yX3_prints yX3_prints, Cond.code yX3_prints cX3_prints 1 (some .int), Cond.static yX2_faceOn, Cond.code yX2_faceOn cX2_faceOn 2 (some .int), Cond.methodLink RX3 207 yX3_joinedWithCells, Cond.instanceMethod yX3_joinedWithCells, Cond.selects RX3 yX3_joinedWithCells yX3_joinedWithCells, Cond.code yX3_joinedWithCells cX3_joinedWithCells 8 (some .long), Cond.methodLink RX3 156 yX3_searchFromHere, Cond.instanceMethod yX3_searchFromHere, Cond.selects RX3 yX3_searchFromHere yX3_searchFromHere, Cond.code yX3_searchFromHere cX3_searchFromHere 1 none]
def wsL_law0_r13 : List Cond := [Cond.instanceMethod yX1_forget, Cond.selects RX1 yX1_forget yX1_forget, Cond.code yX1_forget cX1_forget 1 none, Cond.fieldLink RX1 26 "PaintedDie$Search" "found" "I", Cond.methodLink RX1 20 yJ7_fill_53178, Cond.static yJ7_fill_53178, Cond.initialized RJ7, Cond.code yJ7_fill_53178 cJ7_fill_53178 4 none, Cond.instanceMethod yX1_reach, Cond.selects RX1 yX1_reach yX1_reach, Cond.code yX1_reach cX1_reach 5 none, Cond.instanceMethod yX1_spread, Cond.selects RX1 yX1_spread yX1_spread, Cond.code yX1_spread cX1_spread 8 none, Cond.methodLink RX1 30 yX1_rollsAt, Cond.instanceMethod yX1_rollsAt, Cond.selects RX1 yX1_rollsAt yX1_rollsAt, Cond.code yX1_rollsAt cX1_rollsAt 4 (some .int), Cond.methodLink RX1 42 yX1_reach, Cond.instanceMethod yX0_printOn, Cond.selects RX0 yX0_printOn yX0_printOn, Cond.code yX0_printOn cX0_printOn 3 (some .int), Cond.instanceMethod yX1_fewestTo, Cond.selects RX1 yX1_fewestTo yX1_fewestTo]
def wsL_law0_r14 : List Cond := [Cond.code yX1_fewestTo cX1_fewestTo 4 (some .int), Cond.methodLink RX1 52 yX1_fewestWithTop, Cond.instanceMethod yX1_fewestWithTop, Cond.selects RX1 yX1_fewestWithTop yX1_fewestWithTop, Cond.code yX1_fewestWithTop cX1_fewestWithTop 5 (some .int), Cond.methodLink RX1 49 yX1_fewerOf, Cond.static yX1_fewerOf, Cond.code yX1_fewerOf cX1_fewerOf 2 (some .int), Cond.methodLink RX1 55 Lib.Math.min.name, Cond.instanceMethod yX1_countTops, Cond.selects RX1 yX1_countTops yX1_countTops, Cond.code yX1_countTops cX1_countTops 4 (some .int), Cond.methodLink RL 106 yX3_width, Cond.methodLink RL 110 yX3_height, Cond.methodLink RL 113 yX3_column, Cond.methodLink RL 116 yX3_row, Cond.methodLink RL 119 yX3_isWall, Cond.instanceMethod yX3_isWall, Cond.selects RX3 yX3_isWall yX3_isWall, Cond.code yX3_isWall cX3_isWall 3 (some .boolean), Cond.methodLink RL 122 yX3_top, Cond.methodLink RL 125 yX3_bottom, Cond.methodLink RL 128 yX3_faceTo, Cond.instanceMethod yX3_faceTo]
def wsL_law0_r15 : List Cond := [Cond.selects RX3 yX3_faceTo yX3_faceTo, Cond.code yX3_faceTo cX3_faceTo 2 (some .int), Cond.methodLink RL 131 yX3_cellsWith, Cond.instanceMethod yX3_cellsWith, Cond.selects RX3 yX3_cellsWith yX3_cellsWith, Cond.code yX3_cellsWith cX3_cellsWith 2 (some .int), Cond.instanceMethod yX0_countPrints, Cond.selects RX0 yX0_countPrints yX0_countPrints, Cond.code yX0_countPrints cX0_countPrints 5 (some .int), Cond.methodLink RX0 44 yX0_printOn, Cond.methodLink RL 134 yX3_walls, Cond.methodLink RL 137 yX3_prints, Cond.methodLink RL 140 yX3_rolls, Cond.methodLink RL 143 yX3_fewestRolls, Cond.instanceMethod yX3_fewestRolls, Cond.selects RX3 yX3_fewestRolls yX3_fewestRolls, Cond.code yX3_fewestRolls cX3_fewestRolls 3 (some .int), Cond.methodLink RL 146 yX3_cellsBehind, Cond.instanceMethod yX3_cellsBehind, Cond.selects RX3 yX3_cellsBehind yX3_cellsBehind, Cond.code yX3_cellsBehind cX3_cellsBehind 5 (some .int), Cond.methodLink RX3 182 yX3_isShutIn, Cond.instanceMethod yX3_isShutIn, Cond.selects RX3 yX3_isShutIn yX3_isShutIn]
def wsL_law0_r16 : List Cond := [Cond.code yX3_isShutIn cX3_isShutIn 2 (some .boolean), Cond.methodLink RL 149 yX3_waysToLie, Cond.instanceMethod yX3_waysToLie, Cond.selects RX3 yX3_waysToLie yX3_waysToLie, Cond.code yX3_waysToLie cX3_waysToLie 1 (some .int), Cond.methodLink RL 152 yX3_topsAt, Cond.instanceMethod yX3_topsAt, Cond.selects RX3 yX3_topsAt yX3_topsAt, Cond.code yX3_topsAt cX3_topsAt 3 (some .int), Cond.methodLink RL 155 yX3_cellsWithinReach, Cond.instanceMethod yX3_cellsWithinReach, Cond.selects RX3 yX3_cellsWithinReach yX3_cellsWithinReach, Cond.code yX3_cellsWithinReach cX3_cellsWithinReach 3 (some .int), Cond.methodLink RL 158 yX3_canRoll, Cond.instanceMethod yX3_canRoll, Cond.selects RX3 yX3_canRoll yX3_canRoll, Cond.code yX3_canRoll cX3_canRoll 2 (some .boolean), Cond.methodLink RL 167 yX3_fewestRollsWithTop, Cond.instanceMethod yX3_fewestRollsWithTop, Cond.selects RX3 yX3_fewestRollsWithTop yX3_fewestRollsWithTop, Cond.code yX3_fewestRollsWithTop cX3_fewestRollsWithTop 4 (some .int), Cond.methodLink RL 171 yX3_firstRoll, Cond.instanceMethod yX3_firstRoll, Cond.selects RX3 yX3_firstRoll yX3_firstRoll]
def wsL_law0_r17 : List Cond := [Cond.code yX3_firstRoll cX3_firstRoll 7 (some .int), Cond.methodLink RX3 165 yX3_searchBackFrom, Cond.instanceMethod yX3_searchBackFrom, Cond.selects RX3 yX3_searchBackFrom yX3_searchBackFrom, Cond.code yX3_searchBackFrom cX3_searchBackFrom 4 none, Cond.instanceMethod yX0_isFreeCell, Cond.selects RX0 yX0_isFreeCell yX0_isFreeCell, Cond.code yX0_isFreeCell cX0_isFreeCell 2 (some .boolean), Cond.methodLink RL 174 yL_goes, Cond.static yL_goes, Cond.code yL_goes cL_goes 9 (some .boolean), Cond.methodLink RL 184 yX3_colourOf, Cond.instanceMethod yX3_colourOf, Cond.selects RX3 yX3_colourOf yX3_colourOf, Cond.code yX3_colourOf cX3_colourOf 2 (some .int), Cond.methodLink RL 177 yX3_paintOf, Cond.instanceMethod yX3_paintOf, Cond.selects RX3 yX3_paintOf yX3_paintOf, Cond.code yX3_paintOf cX3_paintOf 2 (some .int), Cond.methodLink RL 187 yX3_printAt, Cond.instanceMethod yX3_printAt, Cond.selects RX3 yX3_printAt yX3_printAt, Cond.code yX3_printAt cX3_printAt 3 (some .int), Cond.methodLink RL 180 yX4_isSame]
def wsL_law0_r18 : List Cond := [Cond.instanceMethod yX4_isSame, Cond.selects RX4 yX4_isSame yX4_isSame, Cond.code yX4_isSame cX4_isSame 6 (some .boolean), Cond.constantDouble RX4 138 (4618441417868443648), Cond.methodLink RX4 79 yX3_isWall, Cond.methodLink RX4 84 yX3_printAt, Cond.methodLink RX4 88 yX3_colourOf, Cond.methodLink RX4 92 yX3_paintOf, Cond.methodLink RX4 95 yX3_cellsWith, Cond.methodLink RX4 98 yX3_faceTo, Cond.methodLink RX4 101 yX3_canRoll, Cond.methodLink RX4 104 yX3_width, Cond.methodLink RX4 108 yX3_height, Cond.methodLink RX4 111 yX3_walls, Cond.methodLink RX4 114 yX3_rolls, Cond.methodLink RX4 116 yX3_prints, Cond.methodLink RX4 118 yX3_column, Cond.methodLink RX4 121 yX3_row, Cond.methodLink RX4 124 yX3_top, Cond.methodLink RX4 127 yX3_bottom, Cond.methodLink RX4 130 yX3_isAsAtFirst, Cond.instanceMethod yX3_isAsAtFirst, Cond.selects RX3 yX3_isAsAtFirst yX3_isAsAtFirst, Cond.code yX3_isAsAtFirst cX3_isAsAtFirst 1 (some .boolean)]
def wsL_law0_r19 : List Cond := [Cond.methodLink RX4 134 yX3_meanPaint, Cond.instanceMethod yX3_meanPaint, Cond.selects RX3 yX3_meanPaint yX3_meanPaint, Cond.code yX3_meanPaint cX3_meanPaint 3 (some .double), Cond.constantDouble RX3 186 (4618441417868443648)]
def wsL_law0 : List Cond := (wsL_law0_r1 ++ (wsL_law0_r2 ++ (wsL_law0_r3 ++ (wsL_law0_r4 ++ (wsL_law0_r5 ++ (wsL_law0_r6 ++ (wsL_law0_r7 ++ (wsL_law0_r8 ++ (wsL_law0_r9 ++ (wsL_law0_r10 ++ (wsL_law0_r11 ++ (wsL_law0_r12 ++ (wsL_law0_r13 ++ (wsL_law0_r14 ++ (wsL_law0_r15 ++ (wsL_law0_r16 ++ (wsL_law0_r17 ++ (wsL_law0_r18 ++ wsL_law0_r19)))))))))))))))))) ++ wsX30 ++ wsX00 ++ wsX10 ++ wsX40 ++ ([] : List Cond)
def wsL_law : List Cond := wsL_law0 ++ (vx_atS RX3 42 "java/lang/IllegalArgumentException" ["java/lang/RuntimeException", "java/lang/Exception"]).filter goodWord ++ (vx_atS RX3 60 "java/lang/IllegalStateException" ["java/lang/RuntimeException", "java/lang/Exception"]).filter goodWord ++ (vx_atS RX3 152 "java/lang/IndexOutOfBoundsException" ["java/lang/RuntimeException", "java/lang/Exception"]).filter goodWord
abbrev vwCl : List vw_C := [(RX0, TX0, 4), (RX1, TX1, 3), (RX3, TX3, 8), (RX4, TX4, 11)]
end
section
theorem dX0_init_0 : decode cX0_init 0 = .ok (.aload_n 0, 1) := by decide +kernel
theorem dX0_init_1 : decode cX0_init 1 = .ok (.invokespecial 3, 3) := by decide +kernel
theorem dX0_init_4 : decode cX0_init 4 = .ok (.aload_n 0, 1) := by decide +kernel
theorem dX0_init_5 : decode cX0_init 5 = .ok (.bipush 49, 2) := by decide +kernel
theorem dX0_init_7 : decode cX0_init 7 = .ok (.newarray .boolean, 2) := by decide +kernel
theorem dX0_init_9 : decode cX0_init 9 = .ok (.putfield 9, 3) := by decide +kernel
theorem dX0_init_12 : decode cX0_init 12 = .ok (.aload_n 0, 1) := by decide +kernel
theorem dX0_init_13 : decode cX0_init 13 = .ok (.bipush 49, 2) := by decide +kernel
theorem dX0_init_15 : decode cX0_init 15 = .ok (.newarray .int, 2) := by decide +kernel
theorem dX0_init_17 : decode cX0_init 17 = .ok (.putfield 15, 3) := by decide +kernel
theorem dX0_init_20 : decode cX0_init 20 = .ok (.return_, 1) := by decide +kernel
theorem dX0_cellAt_0 : decode cX0_cellAt 0 = .ok (.iload_n 1, 1) := by decide +kernel
theorem dX0_cellAt_1 : decode cX0_cellAt 1 = .ok (.bipush 7, 2) := by decide +kernel
theorem dX0_cellAt_3 : decode cX0_cellAt 3 = .ok (.imul, 1) := by decide +kernel
theorem dX0_cellAt_4 : decode cX0_cellAt 4 = .ok (.iload_n 0, 1) := by decide +kernel
theorem dX0_cellAt_5 : decode cX0_cellAt 5 = .ok (.iadd, 1) := by decide +kernel
theorem dX0_cellAt_6 : decode cX0_cellAt 6 = .ok (.ireturn, 1) := by decide +kernel
theorem dX0_columnOf_0 : decode cX0_columnOf 0 = .ok (.iload_n 0, 1) := by decide +kernel
theorem dX0_columnOf_1 : decode cX0_columnOf 1 = .ok (.bipush 7, 2) := by decide +kernel
theorem dX0_columnOf_3 : decode cX0_columnOf 3 = .ok (.irem, 1) := by decide +kernel
theorem dX0_columnOf_4 : decode cX0_columnOf 4 = .ok (.ireturn, 1) := by decide +kernel
theorem dX0_rowOf_0 : decode cX0_rowOf 0 = .ok (.iload_n 0, 1) := by decide +kernel
theorem dX0_rowOf_1 : decode cX0_rowOf 1 = .ok (.bipush 7, 2) := by decide +kernel
theorem dX0_rowOf_3 : decode cX0_rowOf 3 = .ok (.idiv, 1) := by decide +kernel
theorem dX0_rowOf_4 : decode cX0_rowOf 4 = .ok (.ireturn, 1) := by decide +kernel
theorem dX0_layOut_0 : decode cX0_layOut 0 = .ok (.aload_n 0, 1) := by decide +kernel
theorem dX0_layOut_1 : decode cX0_layOut 1 = .ok (.iload_n 1, 1) := by decide +kernel
theorem dX0_layOut_2 : decode cX0_layOut 2 = .ok (.putfield 19, 3) := by decide +kernel
theorem dX0_layOut_5 : decode cX0_layOut 5 = .ok (.aload_n 0, 1) := by decide +kernel
theorem dX0_layOut_6 : decode cX0_layOut 6 = .ok (.iload_n 2, 1) := by decide +kernel
theorem dX0_layOut_7 : decode cX0_layOut 7 = .ok (.putfield 23, 3) := by decide +kernel
theorem dX0_layOut_10 : decode cX0_layOut 10 = .ok (.iconst 0, 1) := by decide +kernel
theorem dX0_layOut_11 : decode cX0_layOut 11 = .ok (.istore_n 3, 1) := by decide +kernel
theorem dX0_layOut_12 : decode cX0_layOut 12 = .ok (.iload_n 3, 1) := by decide +kernel
theorem dX0_layOut_13 : decode cX0_layOut 13 = .ok (.bipush 49, 2) := by decide +kernel
theorem dX0_layOut_15 : decode cX0_layOut 15 = .ok (.if_icmp .ge 23, 3) := by decide +kernel
theorem dX0_layOut_18 : decode cX0_layOut 18 = .ok (.aload_n 0, 1) := by decide +kernel
theorem dX0_layOut_19 : decode cX0_layOut 19 = .ok (.getfield 9, 3) := by decide +kernel
theorem dX0_layOut_22 : decode cX0_layOut 22 = .ok (.iload_n 3, 1) := by decide +kernel
theorem dX0_layOut_23 : decode cX0_layOut 23 = .ok (.iconst 0, 1) := by decide +kernel
theorem dX0_layOut_24 : decode cX0_layOut 24 = .ok (.bastore, 1) := by decide +kernel
theorem dX0_layOut_25 : decode cX0_layOut 25 = .ok (.aload_n 0, 1) := by decide +kernel
theorem dX0_layOut_26 : decode cX0_layOut 26 = .ok (.getfield 15, 3) := by decide +kernel
theorem dX0_layOut_29 : decode cX0_layOut 29 = .ok (.iload_n 3, 1) := by decide +kernel
theorem dX0_layOut_30 : decode cX0_layOut 30 = .ok (.iconst 0, 1) := by decide +kernel
theorem dX0_layOut_31 : decode cX0_layOut 31 = .ok (.iastore, 1) := by decide +kernel
theorem dX0_layOut_32 : decode cX0_layOut 32 = .ok (.iinc 3 1, 3) := by decide +kernel
theorem dX0_layOut_35 : decode cX0_layOut 35 = .ok (.goto (-23), 3) := by decide +kernel
theorem dX0_layOut_38 : decode cX0_layOut 38 = .ok (.return_, 1) := by decide +kernel
theorem dX0_has_0 : decode cX0_has 0 = .ok (.iload_n 1, 1) := by decide +kernel
theorem dX0_has_1 : decode cX0_has 1 = .ok (.ifCond .lt 27, 3) := by decide +kernel
theorem dX0_has_4 : decode cX0_has 4 = .ok (.iload_n 1, 1) := by decide +kernel
theorem dX0_has_5 : decode cX0_has 5 = .ok (.aload_n 0, 1) := by decide +kernel
theorem dX0_has_6 : decode cX0_has 6 = .ok (.getfield 19, 3) := by decide +kernel
theorem dX0_has_9 : decode cX0_has 9 = .ok (.if_icmp .ge 19, 3) := by decide +kernel
theorem dX0_has_12 : decode cX0_has 12 = .ok (.iload_n 2, 1) := by decide +kernel
theorem dX0_has_13 : decode cX0_has 13 = .ok (.ifCond .lt 15, 3) := by decide +kernel
theorem dX0_has_16 : decode cX0_has 16 = .ok (.iload_n 2, 1) := by decide +kernel
theorem dX0_has_17 : decode cX0_has 17 = .ok (.aload_n 0, 1) := by decide +kernel
theorem dX0_has_18 : decode cX0_has 18 = .ok (.getfield 23, 3) := by decide +kernel
theorem dX0_has_21 : decode cX0_has 21 = .ok (.if_icmp .ge 7, 3) := by decide +kernel
theorem dX0_has_24 : decode cX0_has 24 = .ok (.iconst 1, 1) := by decide +kernel
theorem dX0_has_25 : decode cX0_has 25 = .ok (.goto 4, 3) := by decide +kernel
theorem dX0_has_28 : decode cX0_has 28 = .ok (.iconst 0, 1) := by decide +kernel
theorem dX0_has_29 : decode cX0_has 29 = .ok (.ireturn, 1) := by decide +kernel
set_option maxRecDepth 20000 in
theorem ggX0_isFree_X0_has : GoodIn wsX0_isFree wsX0_has := goodIn_r _ [6, 7, 8, 12, 13, 14, 15] (by decide +kernel) (by decide +kernel)
set_option maxRecDepth 20000 in
theorem gX0_isFree_X0_has : GoodIn wsX0_isFree (wsV RX0 26 RX0 yX0_has wsX0_has) := goodIn_app (goodIn_of _ (by decide +kernel)) ggX0_isFree_X0_has
set_option maxRecDepth 20000 in
theorem ggX0_isFree_X0_cellAt : GoodIn wsX0_isFree wsX0_cellAt := goodIn_r _ [11] (by decide +kernel) (by decide +kernel)
set_option maxRecDepth 20000 in
theorem gX0_isFree_X0_cellAt : GoodIn wsX0_isFree (va_wsS RX0 30 yX0_cellAt wsX0_cellAt) := goodIn_app (goodIn_of _ (by decide +kernel)) ggX0_isFree_X0_cellAt
theorem dX0_isFree_0 : decode cX0_isFree 0 = .ok (.aload_n 0, 1) := by decide +kernel
theorem dX0_isFree_1 : decode cX0_isFree 1 = .ok (.iload_n 1, 1) := by decide +kernel
theorem dX0_isFree_2 : decode cX0_isFree 2 = .ok (.iload_n 2, 1) := by decide +kernel
theorem dX0_isFree_3 : decode cX0_isFree 3 = .ok (.invokevirtual 26, 3) := by decide +kernel
theorem dX0_isFree_6 : decode cX0_isFree 6 = .ok (.ifCond .eq 20, 3) := by decide +kernel
theorem dX0_isFree_9 : decode cX0_isFree 9 = .ok (.aload_n 0, 1) := by decide +kernel
theorem dX0_isFree_10 : decode cX0_isFree 10 = .ok (.getfield 9, 3) := by decide +kernel
theorem dX0_isFree_13 : decode cX0_isFree 13 = .ok (.iload_n 1, 1) := by decide +kernel
theorem dX0_isFree_14 : decode cX0_isFree 14 = .ok (.iload_n 2, 1) := by decide +kernel
theorem dX0_isFree_15 : decode cX0_isFree 15 = .ok (.invokestatic 30, 3) := by decide +kernel
theorem dX0_isFree_18 : decode cX0_isFree 18 = .ok (.baload, 1) := by decide +kernel
theorem dX0_isFree_19 : decode cX0_isFree 19 = .ok (.ifCond .ne 7, 3) := by decide +kernel
theorem dX0_isFree_22 : decode cX0_isFree 22 = .ok (.iconst 1, 1) := by decide +kernel
theorem dX0_isFree_23 : decode cX0_isFree 23 = .ok (.goto 4, 3) := by decide +kernel
theorem dX0_isFree_26 : decode cX0_isFree 26 = .ok (.iconst 0, 1) := by decide +kernel
theorem dX0_isFree_27 : decode cX0_isFree 27 = .ok (.ireturn, 1) := by decide +kernel
set_option maxRecDepth 20000 in
theorem ggX0_isFreeCell_X0_columnOf : GoodIn wsX0_isFreeCell wsX0_columnOf := goodIn_r _ [4] (by decide +kernel) (by decide +kernel)
set_option maxRecDepth 20000 in
theorem gX0_isFreeCell_X0_columnOf : GoodIn wsX0_isFreeCell (va_wsS RX0 34 yX0_columnOf wsX0_columnOf) := goodIn_app (goodIn_of _ (by decide +kernel)) ggX0_isFreeCell_X0_columnOf
set_option maxRecDepth 20000 in
theorem ggX0_isFreeCell_X0_rowOf : GoodIn wsX0_isFreeCell wsX0_rowOf := goodIn_r _ [7] (by decide +kernel) (by decide +kernel)
set_option maxRecDepth 20000 in
theorem gX0_isFreeCell_X0_rowOf : GoodIn wsX0_isFreeCell (va_wsS RX0 38 yX0_rowOf wsX0_rowOf) := goodIn_app (goodIn_of _ (by decide +kernel)) ggX0_isFreeCell_X0_rowOf
set_option maxRecDepth 20000 in
theorem ggX0_isFreeCell_X0_isFree : GoodIn wsX0_isFreeCell wsX0_isFree := goodIn_r _ [11, 12, 13, 14, 15, 3, 16, 17, 18, 19, 20, 21, 22, 23, 24, 25] (by decide +kernel) (by decide +kernel)
set_option maxRecDepth 20000 in
theorem gX0_isFreeCell_X0_isFree : GoodIn wsX0_isFreeCell (wsV RX0 41 RX0 yX0_isFree wsX0_isFree) := goodIn_app (goodIn_of _ (by decide +kernel)) ggX0_isFreeCell_X0_isFree
theorem dX0_isFreeCell_0 : decode cX0_isFreeCell 0 = .ok (.iload_n 1, 1) := by decide +kernel
theorem dX0_isFreeCell_1 : decode cX0_isFreeCell 1 = .ok (.ifCond .lt 22, 3) := by decide +kernel
theorem dX0_isFreeCell_4 : decode cX0_isFreeCell 4 = .ok (.aload_n 0, 1) := by decide +kernel
theorem dX0_isFreeCell_5 : decode cX0_isFreeCell 5 = .ok (.iload_n 1, 1) := by decide +kernel
theorem dX0_isFreeCell_6 : decode cX0_isFreeCell 6 = .ok (.invokestatic 34, 3) := by decide +kernel
theorem dX0_isFreeCell_9 : decode cX0_isFreeCell 9 = .ok (.iload_n 1, 1) := by decide +kernel
theorem dX0_isFreeCell_10 : decode cX0_isFreeCell 10 = .ok (.invokestatic 38, 3) := by decide +kernel
theorem dX0_isFreeCell_13 : decode cX0_isFreeCell 13 = .ok (.invokevirtual 41, 3) := by decide +kernel
theorem dX0_isFreeCell_16 : decode cX0_isFreeCell 16 = .ok (.ifCond .eq 7, 3) := by decide +kernel
theorem dX0_isFreeCell_19 : decode cX0_isFreeCell 19 = .ok (.iconst 1, 1) := by decide +kernel
theorem dX0_isFreeCell_20 : decode cX0_isFreeCell 20 = .ok (.goto 4, 3) := by decide +kernel
theorem dX0_isFreeCell_23 : decode cX0_isFreeCell 23 = .ok (.iconst 0, 1) := by decide +kernel
theorem dX0_isFreeCell_24 : decode cX0_isFreeCell 24 = .ok (.ireturn, 1) := by decide +kernel
set_option maxRecDepth 20000 in
theorem ggX0_printOn_X0_has : GoodIn wsX0_printOn wsX0_has := goodIn_r _ [6, 7, 8, 12, 13, 14, 15] (by decide +kernel) (by decide +kernel)
set_option maxRecDepth 20000 in
theorem gX0_printOn_X0_has : GoodIn wsX0_printOn (wsV RX0 26 RX0 yX0_has wsX0_has) := goodIn_app (goodIn_of _ (by decide +kernel)) ggX0_printOn_X0_has
set_option maxRecDepth 20000 in
theorem ggX0_printOn_X0_cellAt : GoodIn wsX0_printOn wsX0_cellAt := goodIn_r _ [11] (by decide +kernel) (by decide +kernel)
set_option maxRecDepth 20000 in
theorem gX0_printOn_X0_cellAt : GoodIn wsX0_printOn (va_wsS RX0 30 yX0_cellAt wsX0_cellAt) := goodIn_app (goodIn_of _ (by decide +kernel)) ggX0_printOn_X0_cellAt
theorem dX0_printOn_0 : decode cX0_printOn 0 = .ok (.aload_n 0, 1) := by decide +kernel
theorem dX0_printOn_1 : decode cX0_printOn 1 = .ok (.iload_n 1, 1) := by decide +kernel
theorem dX0_printOn_2 : decode cX0_printOn 2 = .ok (.iload_n 2, 1) := by decide +kernel
theorem dX0_printOn_3 : decode cX0_printOn 3 = .ok (.invokevirtual 26, 3) := by decide +kernel
theorem dX0_printOn_6 : decode cX0_printOn 6 = .ok (.ifCond .eq 16, 3) := by decide +kernel
theorem dX0_printOn_9 : decode cX0_printOn 9 = .ok (.aload_n 0, 1) := by decide +kernel
theorem dX0_printOn_10 : decode cX0_printOn 10 = .ok (.getfield 15, 3) := by decide +kernel
theorem dX0_printOn_13 : decode cX0_printOn 13 = .ok (.iload_n 1, 1) := by decide +kernel
theorem dX0_printOn_14 : decode cX0_printOn 14 = .ok (.iload_n 2, 1) := by decide +kernel
theorem dX0_printOn_15 : decode cX0_printOn 15 = .ok (.invokestatic 30, 3) := by decide +kernel
theorem dX0_printOn_18 : decode cX0_printOn 18 = .ok (.iaload, 1) := by decide +kernel
theorem dX0_printOn_19 : decode cX0_printOn 19 = .ok (.goto 4, 3) := by decide +kernel
theorem dX0_printOn_22 : decode cX0_printOn 22 = .ok (.iconst 0, 1) := by decide +kernel
theorem dX0_printOn_23 : decode cX0_printOn 23 = .ok (.ireturn, 1) := by decide +kernel
theorem dX0_printOnto_0 : decode cX0_printOnto 0 = .ok (.iload_n 1, 1) := by decide +kernel
theorem dX0_printOnto_1 : decode cX0_printOnto 1 = .ok (.ifCond .lt 16, 3) := by decide +kernel
theorem dX0_printOnto_4 : decode cX0_printOnto 4 = .ok (.iload_n 1, 1) := by decide +kernel
theorem dX0_printOnto_5 : decode cX0_printOnto 5 = .ok (.bipush 49, 2) := by decide +kernel
theorem dX0_printOnto_7 : decode cX0_printOnto 7 = .ok (.if_icmp .ge 10, 3) := by decide +kernel
theorem dX0_printOnto_10 : decode cX0_printOnto 10 = .ok (.aload_n 0, 1) := by decide +kernel
theorem dX0_printOnto_11 : decode cX0_printOnto 11 = .ok (.getfield 15, 3) := by decide +kernel
theorem dX0_printOnto_14 : decode cX0_printOnto 14 = .ok (.iload_n 1, 1) := by decide +kernel
theorem dX0_printOnto_15 : decode cX0_printOnto 15 = .ok (.iload_n 2, 1) := by decide +kernel
theorem dX0_printOnto_16 : decode cX0_printOnto 16 = .ok (.iastore, 1) := by decide +kernel
theorem dX0_printOnto_17 : decode cX0_printOnto 17 = .ok (.return_, 1) := by decide +kernel
theorem dX0_turnOver_0 : decode cX0_turnOver 0 = .ok (.iload_n 1, 1) := by decide +kernel
theorem dX0_turnOver_1 : decode cX0_turnOver 1 = .ok (.ifCond .lt 9, 3) := by decide +kernel
theorem dX0_turnOver_4 : decode cX0_turnOver 4 = .ok (.iload_n 1, 1) := by decide +kernel
theorem dX0_turnOver_5 : decode cX0_turnOver 5 = .ok (.bipush 49, 2) := by decide +kernel
theorem dX0_turnOver_7 : decode cX0_turnOver 7 = .ok (.if_icmp .lt 5, 3) := by decide +kernel
theorem dX0_turnOver_10 : decode cX0_turnOver 10 = .ok (.iconst 0, 1) := by decide +kernel
theorem dX0_turnOver_11 : decode cX0_turnOver 11 = .ok (.ireturn, 1) := by decide +kernel
theorem dX0_turnOver_12 : decode cX0_turnOver 12 = .ok (.aload_n 0, 1) := by decide +kernel
theorem dX0_turnOver_13 : decode cX0_turnOver 13 = .ok (.getfield 9, 3) := by decide +kernel
theorem dX0_turnOver_16 : decode cX0_turnOver 16 = .ok (.iload_n 1, 1) := by decide +kernel
theorem dX0_turnOver_17 : decode cX0_turnOver 17 = .ok (.aload_n 0, 1) := by decide +kernel
theorem dX0_turnOver_18 : decode cX0_turnOver 18 = .ok (.getfield 9, 3) := by decide +kernel
theorem dX0_turnOver_21 : decode cX0_turnOver 21 = .ok (.iload_n 1, 1) := by decide +kernel
theorem dX0_turnOver_22 : decode cX0_turnOver 22 = .ok (.baload, 1) := by decide +kernel
theorem dX0_turnOver_23 : decode cX0_turnOver 23 = .ok (.ifCond .ne 7, 3) := by decide +kernel
theorem dX0_turnOver_26 : decode cX0_turnOver 26 = .ok (.iconst 1, 1) := by decide +kernel
theorem dX0_turnOver_27 : decode cX0_turnOver 27 = .ok (.goto 4, 3) := by decide +kernel
theorem dX0_turnOver_30 : decode cX0_turnOver 30 = .ok (.iconst 0, 1) := by decide +kernel
theorem dX0_turnOver_31 : decode cX0_turnOver 31 = .ok (.bastore, 1) := by decide +kernel
theorem dX0_turnOver_32 : decode cX0_turnOver 32 = .ok (.aload_n 0, 1) := by decide +kernel
theorem dX0_turnOver_33 : decode cX0_turnOver 33 = .ok (.getfield 9, 3) := by decide +kernel
theorem dX0_turnOver_36 : decode cX0_turnOver 36 = .ok (.iload_n 1, 1) := by decide +kernel
theorem dX0_turnOver_37 : decode cX0_turnOver 37 = .ok (.baload, 1) := by decide +kernel
theorem dX0_turnOver_38 : decode cX0_turnOver 38 = .ok (.ireturn, 1) := by decide +kernel
set_option maxRecDepth 20000 in
theorem ggX0_nextCell_X0_columnOf : GoodIn wsX0_nextCell wsX0_columnOf := goodIn_r _ [4] (by decide +kernel) (by decide +kernel)
set_option maxRecDepth 20000 in
theorem gX0_nextCell_X0_columnOf : GoodIn wsX0_nextCell (va_wsS RX0 34 yX0_columnOf wsX0_columnOf) := goodIn_app (goodIn_of _ (by decide +kernel)) ggX0_nextCell_X0_columnOf
set_option maxRecDepth 20000 in
theorem ggX0_nextCell_X0_rowOf : GoodIn wsX0_nextCell wsX0_rowOf := goodIn_r _ [7] (by decide +kernel) (by decide +kernel)
set_option maxRecDepth 20000 in
theorem gX0_nextCell_X0_rowOf : GoodIn wsX0_nextCell (va_wsS RX0 38 yX0_rowOf wsX0_rowOf) := goodIn_app (goodIn_of _ (by decide +kernel)) ggX0_nextCell_X0_rowOf
set_option maxRecDepth 20000 in
theorem ggX0_nextCell_X0_isFree : GoodIn wsX0_nextCell wsX0_isFree := goodIn_r _ [11, 12, 13, 14, 15, 3, 16, 17, 18, 19, 20, 21, 22, 23, 24, 25] (by decide +kernel) (by decide +kernel)
set_option maxRecDepth 20000 in
theorem gX0_nextCell_X0_isFree : GoodIn wsX0_nextCell (wsV RX0 41 RX0 yX0_isFree wsX0_isFree) := goodIn_app (goodIn_of _ (by decide +kernel)) ggX0_nextCell_X0_isFree
set_option maxRecDepth 20000 in
theorem ggX0_nextCell_X0_cellAt : GoodIn wsX0_nextCell wsX0_cellAt := goodIn_r _ [21] (by decide +kernel) (by decide +kernel)
set_option maxRecDepth 20000 in
theorem gX0_nextCell_X0_cellAt : GoodIn wsX0_nextCell (va_wsS RX0 30 yX0_cellAt wsX0_cellAt) := goodIn_app (goodIn_of _ (by decide +kernel)) ggX0_nextCell_X0_cellAt
theorem dX0_nextCell_0 : decode cX0_nextCell 0 = .ok (.iload_n 1, 1) := by decide +kernel
theorem dX0_nextCell_1 : decode cX0_nextCell 1 = .ok (.invokestatic 34, 3) := by decide +kernel
theorem dX0_nextCell_4 : decode cX0_nextCell 4 = .ok (.istore_n 3, 1) := by decide +kernel
theorem dX0_nextCell_5 : decode cX0_nextCell 5 = .ok (.iload_n 1, 1) := by decide +kernel
theorem dX0_nextCell_6 : decode cX0_nextCell 6 = .ok (.invokestatic 38, 3) := by decide +kernel
theorem dX0_nextCell_9 : decode cX0_nextCell 9 = .ok (.istore 4, 2) := by decide +kernel
theorem dX0_nextCell_11 : decode cX0_nextCell 11 = .ok (.iload_n 2, 1) := by decide +kernel
theorem dX0_nextCell_12 : decode cX0_nextCell 12 = .ok (.tableswitch 56 0 3 #[32, 38, 44, 50], 32) := by decide +kernel
theorem dX0_nextCell_44 : decode cX0_nextCell 44 = .ok (.iinc 4 (-1), 3) := by decide +kernel
theorem dX0_nextCell_47 : decode cX0_nextCell 47 = .ok (.goto 23, 3) := by decide +kernel
theorem dX0_nextCell_50 : decode cX0_nextCell 50 = .ok (.iinc 3 1, 3) := by decide +kernel
theorem dX0_nextCell_53 : decode cX0_nextCell 53 = .ok (.goto 17, 3) := by decide +kernel
theorem dX0_nextCell_56 : decode cX0_nextCell 56 = .ok (.iinc 4 1, 3) := by decide +kernel
theorem dX0_nextCell_59 : decode cX0_nextCell 59 = .ok (.goto 11, 3) := by decide +kernel
theorem dX0_nextCell_62 : decode cX0_nextCell 62 = .ok (.iinc 3 (-1), 3) := by decide +kernel
theorem dX0_nextCell_65 : decode cX0_nextCell 65 = .ok (.goto 5, 3) := by decide +kernel
theorem dX0_nextCell_68 : decode cX0_nextCell 68 = .ok (.iconst (-1), 1) := by decide +kernel
theorem dX0_nextCell_69 : decode cX0_nextCell 69 = .ok (.ireturn, 1) := by decide +kernel
theorem dX0_nextCell_70 : decode cX0_nextCell 70 = .ok (.aload_n 0, 1) := by decide +kernel
theorem dX0_nextCell_71 : decode cX0_nextCell 71 = .ok (.iload_n 3, 1) := by decide +kernel
theorem dX0_nextCell_72 : decode cX0_nextCell 72 = .ok (.iload 4, 2) := by decide +kernel
theorem dX0_nextCell_74 : decode cX0_nextCell 74 = .ok (.invokevirtual 41, 3) := by decide +kernel
theorem dX0_nextCell_77 : decode cX0_nextCell 77 = .ok (.ifCond .eq 12, 3) := by decide +kernel
theorem dX0_nextCell_80 : decode cX0_nextCell 80 = .ok (.iload_n 3, 1) := by decide +kernel
theorem dX0_nextCell_81 : decode cX0_nextCell 81 = .ok (.iload 4, 2) := by decide +kernel
theorem dX0_nextCell_83 : decode cX0_nextCell 83 = .ok (.invokestatic 30, 3) := by decide +kernel
theorem dX0_nextCell_86 : decode cX0_nextCell 86 = .ok (.goto 4, 3) := by decide +kernel
theorem dX0_nextCell_89 : decode cX0_nextCell 89 = .ok (.iconst (-1), 1) := by decide +kernel
theorem dX0_nextCell_90 : decode cX0_nextCell 90 = .ok (.ireturn, 1) := by decide +kernel
theorem dX0_countWalls_0 : decode cX0_countWalls 0 = .ok (.iconst 0, 1) := by decide +kernel
theorem dX0_countWalls_1 : decode cX0_countWalls 1 = .ok (.istore_n 1, 1) := by decide +kernel
theorem dX0_countWalls_2 : decode cX0_countWalls 2 = .ok (.iconst 0, 1) := by decide +kernel
theorem dX0_countWalls_3 : decode cX0_countWalls 3 = .ok (.istore_n 2, 1) := by decide +kernel
theorem dX0_countWalls_4 : decode cX0_countWalls 4 = .ok (.iload_n 2, 1) := by decide +kernel
theorem dX0_countWalls_5 : decode cX0_countWalls 5 = .ok (.bipush 49, 2) := by decide +kernel
theorem dX0_countWalls_7 : decode cX0_countWalls 7 = .ok (.if_icmp .ge 21, 3) := by decide +kernel
theorem dX0_countWalls_10 : decode cX0_countWalls 10 = .ok (.aload_n 0, 1) := by decide +kernel
theorem dX0_countWalls_11 : decode cX0_countWalls 11 = .ok (.getfield 9, 3) := by decide +kernel
theorem dX0_countWalls_14 : decode cX0_countWalls 14 = .ok (.iload_n 2, 1) := by decide +kernel
theorem dX0_countWalls_15 : decode cX0_countWalls 15 = .ok (.baload, 1) := by decide +kernel
theorem dX0_countWalls_16 : decode cX0_countWalls 16 = .ok (.ifCond .eq 6, 3) := by decide +kernel
theorem dX0_countWalls_19 : decode cX0_countWalls 19 = .ok (.iinc 1 1, 3) := by decide +kernel
theorem dX0_countWalls_22 : decode cX0_countWalls 22 = .ok (.iinc 2 1, 3) := by decide +kernel
theorem dX0_countWalls_25 : decode cX0_countWalls 25 = .ok (.goto (-21), 3) := by decide +kernel
theorem dX0_countWalls_28 : decode cX0_countWalls 28 = .ok (.iload_n 1, 1) := by decide +kernel
theorem dX0_countWalls_29 : decode cX0_countWalls 29 = .ok (.ireturn, 1) := by decide +kernel
set_option maxRecDepth 20000 in
theorem ggX0_countPrints_X0_printOn : GoodIn wsX0_countPrints wsX0_printOn := goodIn_r _ [7, 8, 9, 10, 11, 6, 12, 2, 1, 13, 14, 15, 16, 17, 18, 19] (by decide +kernel) (by decide +kernel)
set_option maxRecDepth 20000 in
theorem gX0_countPrints_X0_printOn : GoodIn wsX0_countPrints (wsV RX0 44 RX0 yX0_printOn wsX0_printOn) := goodIn_app (goodIn_of _ (by decide +kernel)) ggX0_countPrints_X0_printOn
theorem dX0_countPrints_0 : decode cX0_countPrints 0 = .ok (.iconst 0, 1) := by decide +kernel
theorem dX0_countPrints_1 : decode cX0_countPrints 1 = .ok (.istore_n 2, 1) := by decide +kernel
theorem dX0_countPrints_2 : decode cX0_countPrints 2 = .ok (.iconst 0, 1) := by decide +kernel
theorem dX0_countPrints_3 : decode cX0_countPrints 3 = .ok (.istore_n 3, 1) := by decide +kernel
theorem dX0_countPrints_4 : decode cX0_countPrints 4 = .ok (.iload_n 3, 1) := by decide +kernel
theorem dX0_countPrints_5 : decode cX0_countPrints 5 = .ok (.aload_n 0, 1) := by decide +kernel
theorem dX0_countPrints_6 : decode cX0_countPrints 6 = .ok (.getfield 23, 3) := by decide +kernel
theorem dX0_countPrints_9 : decode cX0_countPrints 9 = .ok (.if_icmp .ge 41, 3) := by decide +kernel
theorem dX0_countPrints_12 : decode cX0_countPrints 12 = .ok (.iconst 0, 1) := by decide +kernel
theorem dX0_countPrints_13 : decode cX0_countPrints 13 = .ok (.istore 4, 2) := by decide +kernel
theorem dX0_countPrints_15 : decode cX0_countPrints 15 = .ok (.iload 4, 2) := by decide +kernel
theorem dX0_countPrints_17 : decode cX0_countPrints 17 = .ok (.aload_n 0, 1) := by decide +kernel
theorem dX0_countPrints_18 : decode cX0_countPrints 18 = .ok (.getfield 19, 3) := by decide +kernel
theorem dX0_countPrints_21 : decode cX0_countPrints 21 = .ok (.if_icmp .ge 23, 3) := by decide +kernel
theorem dX0_countPrints_24 : decode cX0_countPrints 24 = .ok (.aload_n 0, 1) := by decide +kernel
theorem dX0_countPrints_25 : decode cX0_countPrints 25 = .ok (.iload 4, 2) := by decide +kernel
theorem dX0_countPrints_27 : decode cX0_countPrints 27 = .ok (.iload_n 3, 1) := by decide +kernel
theorem dX0_countPrints_28 : decode cX0_countPrints 28 = .ok (.invokevirtual 44, 3) := by decide +kernel
theorem dX0_countPrints_31 : decode cX0_countPrints 31 = .ok (.iload_n 1, 1) := by decide +kernel
theorem dX0_countPrints_32 : decode cX0_countPrints 32 = .ok (.if_icmp .ne 6, 3) := by decide +kernel
theorem dX0_countPrints_35 : decode cX0_countPrints 35 = .ok (.iinc 2 1, 3) := by decide +kernel
theorem dX0_countPrints_38 : decode cX0_countPrints 38 = .ok (.iinc 4 1, 3) := by decide +kernel
theorem dX0_countPrints_41 : decode cX0_countPrints 41 = .ok (.goto (-26), 3) := by decide +kernel
theorem dX0_countPrints_44 : decode cX0_countPrints 44 = .ok (.iinc 3 1, 3) := by decide +kernel
theorem dX0_countPrints_47 : decode cX0_countPrints 47 = .ok (.goto (-43), 3) := by decide +kernel
theorem dX0_countPrints_50 : decode cX0_countPrints 50 = .ok (.iload_n 2, 1) := by decide +kernel
theorem dX0_countPrints_51 : decode cX0_countPrints 51 = .ok (.ireturn, 1) := by decide +kernel
theorem dX1_init_0 : decode cX1_init 0 = .ok (.aload_n 0, 1) := by decide +kernel
theorem dX1_init_1 : decode cX1_init 1 = .ok (.invokespecial 3, 3) := by decide +kernel
theorem dX1_init_4 : decode cX1_init 4 = .ok (.aload_n 0, 1) := by decide +kernel
theorem dX1_init_5 : decode cX1_init 5 = .ok (.sipush 1764, 3) := by decide +kernel
theorem dX1_init_8 : decode cX1_init 8 = .ok (.newarray .int, 2) := by decide +kernel
theorem dX1_init_10 : decode cX1_init 10 = .ok (.putfield 11, 3) := by decide +kernel
theorem dX1_init_13 : decode cX1_init 13 = .ok (.aload_n 0, 1) := by decide +kernel
theorem dX1_init_14 : decode cX1_init 14 = .ok (.sipush 1764, 3) := by decide +kernel
theorem dX1_init_17 : decode cX1_init 17 = .ok (.newarray .int, 2) := by decide +kernel
theorem dX1_init_19 : decode cX1_init 19 = .ok (.putfield 17, 3) := by decide +kernel
theorem dX1_init_22 : decode cX1_init 22 = .ok (.return_, 1) := by decide +kernel
set_option maxRecDepth 20000 in
theorem ggX1_forget_J7_fill_53178 : GoodIn wsX1_forget wsJ7_fill_53178 := goodIn_r _ [6] (by decide +kernel) (by decide +kernel)
set_option maxRecDepth 20000 in
theorem gX1_forget_J7_fill_53178 : GoodIn wsX1_forget (va_wsS RX1 20 yJ7_fill_53178 wsJ7_fill_53178) := goodIn_app (goodIn_of _ (by decide +kernel)) ggX1_forget_J7_fill_53178
theorem dX1_forget_0 : decode cX1_forget 0 = .ok (.aload_n 0, 1) := by decide +kernel
theorem dX1_forget_1 : decode cX1_forget 1 = .ok (.getfield 11, 3) := by decide +kernel
theorem dX1_forget_4 : decode cX1_forget 4 = .ok (.iconst (-1), 1) := by decide +kernel
theorem dX1_forget_5 : decode cX1_forget 5 = .ok (.invokestatic 20, 3) := by decide +kernel
theorem dX1_forget_8 : decode cX1_forget 8 = .ok (.aload_n 0, 1) := by decide +kernel
theorem dX1_forget_9 : decode cX1_forget 9 = .ok (.iconst 0, 1) := by decide +kernel
theorem dX1_forget_10 : decode cX1_forget 10 = .ok (.putfield 26, 3) := by decide +kernel
theorem dX1_forget_13 : decode cX1_forget 13 = .ok (.return_, 1) := by decide +kernel
theorem dX1_reach_0 : decode cX1_reach 0 = .ok (.iload_n 1, 1) := by decide +kernel
theorem dX1_reach_1 : decode cX1_reach 1 = .ok (.bipush 36, 2) := by decide +kernel
theorem dX1_reach_3 : decode cX1_reach 3 = .ok (.imul, 1) := by decide +kernel
theorem dX1_reach_4 : decode cX1_reach 4 = .ok (.iload_n 2, 1) := by decide +kernel
theorem dX1_reach_5 : decode cX1_reach 5 = .ok (.iadd, 1) := by decide +kernel
theorem dX1_reach_6 : decode cX1_reach 6 = .ok (.istore 4, 2) := by decide +kernel
theorem dX1_reach_8 : decode cX1_reach 8 = .ok (.iload 4, 2) := by decide +kernel
theorem dX1_reach_10 : decode cX1_reach 10 = .ok (.ifCond .lt 36, 3) := by decide +kernel
theorem dX1_reach_13 : decode cX1_reach 13 = .ok (.iload 4, 2) := by decide +kernel
theorem dX1_reach_15 : decode cX1_reach 15 = .ok (.aload_n 0, 1) := by decide +kernel
theorem dX1_reach_16 : decode cX1_reach 16 = .ok (.getfield 11, 3) := by decide +kernel
theorem dX1_reach_19 : decode cX1_reach 19 = .ok (.arraylength, 1) := by decide +kernel
theorem dX1_reach_20 : decode cX1_reach 20 = .ok (.if_icmp .ge 26, 3) := by decide +kernel
theorem dX1_reach_23 : decode cX1_reach 23 = .ok (.aload_n 0, 1) := by decide +kernel
theorem dX1_reach_24 : decode cX1_reach 24 = .ok (.getfield 26, 3) := by decide +kernel
theorem dX1_reach_27 : decode cX1_reach 27 = .ok (.aload_n 0, 1) := by decide +kernel
theorem dX1_reach_28 : decode cX1_reach 28 = .ok (.getfield 17, 3) := by decide +kernel
theorem dX1_reach_31 : decode cX1_reach 31 = .ok (.arraylength, 1) := by decide +kernel
theorem dX1_reach_32 : decode cX1_reach 32 = .ok (.if_icmp .ge 14, 3) := by decide +kernel
theorem dX1_reach_35 : decode cX1_reach 35 = .ok (.aload_n 0, 1) := by decide +kernel
theorem dX1_reach_36 : decode cX1_reach 36 = .ok (.getfield 11, 3) := by decide +kernel
theorem dX1_reach_39 : decode cX1_reach 39 = .ok (.iload 4, 2) := by decide +kernel
theorem dX1_reach_41 : decode cX1_reach 41 = .ok (.iaload, 1) := by decide +kernel
theorem dX1_reach_42 : decode cX1_reach 42 = .ok (.iconst (-1), 1) := by decide +kernel
theorem dX1_reach_43 : decode cX1_reach 43 = .ok (.if_icmp .eq 4, 3) := by decide +kernel
theorem dX1_reach_46 : decode cX1_reach 46 = .ok (.return_, 1) := by decide +kernel
theorem dX1_reach_47 : decode cX1_reach 47 = .ok (.aload_n 0, 1) := by decide +kernel
theorem dX1_reach_48 : decode cX1_reach 48 = .ok (.getfield 11, 3) := by decide +kernel
theorem dX1_reach_51 : decode cX1_reach 51 = .ok (.iload 4, 2) := by decide +kernel
theorem dX1_reach_53 : decode cX1_reach 53 = .ok (.iload_n 3, 1) := by decide +kernel
theorem dX1_reach_54 : decode cX1_reach 54 = .ok (.iastore, 1) := by decide +kernel
theorem dX1_reach_55 : decode cX1_reach 55 = .ok (.aload_n 0, 1) := by decide +kernel
theorem dX1_reach_56 : decode cX1_reach 56 = .ok (.getfield 17, 3) := by decide +kernel
theorem dX1_reach_59 : decode cX1_reach 59 = .ok (.aload_n 0, 1) := by decide +kernel
theorem dX1_reach_60 : decode cX1_reach 60 = .ok (.getfield 26, 3) := by decide +kernel
theorem dX1_reach_63 : decode cX1_reach 63 = .ok (.iload 4, 2) := by decide +kernel
theorem dX1_reach_65 : decode cX1_reach 65 = .ok (.iastore, 1) := by decide +kernel
theorem dX1_reach_66 : decode cX1_reach 66 = .ok (.aload_n 0, 1) := by decide +kernel
theorem dX1_reach_67 : decode cX1_reach 67 = .ok (.dup, 1) := by decide +kernel
theorem dX1_reach_68 : decode cX1_reach 68 = .ok (.getfield 26, 3) := by decide +kernel
theorem dX1_reach_71 : decode cX1_reach 71 = .ok (.iconst 1, 1) := by decide +kernel
theorem dX1_reach_72 : decode cX1_reach 72 = .ok (.iadd, 1) := by decide +kernel
theorem dX1_reach_73 : decode cX1_reach 73 = .ok (.putfield 26, 3) := by decide +kernel
theorem dX1_reach_76 : decode cX1_reach 76 = .ok (.return_, 1) := by decide +kernel
set_option maxRecDepth 20000 in
theorem ggX1_spread_X1_rollsAt : GoodIn wsX1_spread wsX1_rollsAt := goodIn_r _ [7, 8, 55, 56, 57] (by decide +kernel) (by decide +kernel)
set_option maxRecDepth 20000 in
theorem gX1_spread_X1_rollsAt : GoodIn wsX1_spread (wsV RX1 30 RX1 yX1_rollsAt wsX1_rollsAt) := goodIn_app (goodIn_of _ (by decide +kernel)) ggX1_spread_X1_rollsAt
set_option maxRecDepth 20000 in
theorem ggX1_spread_X0_nextCell : GoodIn wsX1_spread wsX0_nextCell := goodIn_r _ [12, 13, 14, 10, 15, 16, 17, 18, 19, 20, 21, 22, 23, 24, 25, 26, 27, 28, 29, 30, 31, 32, 58, 59, 60, 61] (by decide +kernel) (by decide +kernel)
set_option maxRecDepth 20000 in
theorem gX1_spread_X0_nextCell_n34 : GoodIn wsX1_spread (wsX0_nextCell) := ggX1_spread_X0_nextCell
set_option maxRecDepth 20000 in
theorem ggX1_spread_X2_behindRoll : GoodIn wsX1_spread wsX2_behindRoll := goodIn_r _ [35, 36, 37, 34, 38, 39, 40, 41, 42, 43, 44, 45, 46, 47, 48, 49, 50] (by decide +kernel) (by decide +kernel)
set_option maxRecDepth 20000 in
theorem gX1_spread_X2_behindRoll_n39 : GoodIn wsX1_spread (wsX2_behindRoll) := ggX1_spread_X2_behindRoll
set_option maxRecDepth 20000 in
theorem ggX1_spread_X1_reach : GoodIn wsX1_spread wsX1_reach := goodIn_r _ [54, 8, 1, 2, 55, 56, 57] (by decide +kernel) (by decide +kernel)
set_option maxRecDepth 20000 in
theorem gX1_spread_X1_reach : GoodIn wsX1_spread (wsV RX1 42 RX1 yX1_reach wsX1_reach) := goodIn_app (goodIn_of _ (by decide +kernel)) ggX1_spread_X1_reach
theorem dX1_spread_0 : decode cX1_spread 0 = .ok (.iconst 0, 1) := by decide +kernel
theorem dX1_spread_1 : decode cX1_spread 1 = .ok (.istore_n 2, 1) := by decide +kernel
theorem dX1_spread_2 : decode cX1_spread 2 = .ok (.iload_n 2, 1) := by decide +kernel
theorem dX1_spread_3 : decode cX1_spread 3 = .ok (.aload_n 0, 1) := by decide +kernel
theorem dX1_spread_4 : decode cX1_spread 4 = .ok (.getfield 26, 3) := by decide +kernel
theorem dX1_spread_7 : decode cX1_spread 7 = .ok (.if_icmp .ge 95, 3) := by decide +kernel
theorem dX1_spread_10 : decode cX1_spread 10 = .ok (.iload_n 2, 1) := by decide +kernel
theorem dX1_spread_11 : decode cX1_spread 11 = .ok (.aload_n 0, 1) := by decide +kernel
theorem dX1_spread_12 : decode cX1_spread 12 = .ok (.getfield 17, 3) := by decide +kernel
theorem dX1_spread_15 : decode cX1_spread 15 = .ok (.arraylength, 1) := by decide +kernel
theorem dX1_spread_16 : decode cX1_spread 16 = .ok (.if_icmp .ge 86, 3) := by decide +kernel
theorem dX1_spread_19 : decode cX1_spread 19 = .ok (.aload_n 0, 1) := by decide +kernel
theorem dX1_spread_20 : decode cX1_spread 20 = .ok (.getfield 17, 3) := by decide +kernel
theorem dX1_spread_23 : decode cX1_spread 23 = .ok (.iload_n 2, 1) := by decide +kernel
theorem dX1_spread_24 : decode cX1_spread 24 = .ok (.iaload, 1) := by decide +kernel
theorem dX1_spread_25 : decode cX1_spread 25 = .ok (.bipush 36, 2) := by decide +kernel
theorem dX1_spread_27 : decode cX1_spread 27 = .ok (.idiv, 1) := by decide +kernel
theorem dX1_spread_28 : decode cX1_spread 28 = .ok (.istore_n 3, 1) := by decide +kernel
theorem dX1_spread_29 : decode cX1_spread 29 = .ok (.aload_n 0, 1) := by decide +kernel
theorem dX1_spread_30 : decode cX1_spread 30 = .ok (.getfield 17, 3) := by decide +kernel
theorem dX1_spread_33 : decode cX1_spread 33 = .ok (.iload_n 2, 1) := by decide +kernel
theorem dX1_spread_34 : decode cX1_spread 34 = .ok (.iaload, 1) := by decide +kernel
theorem dX1_spread_35 : decode cX1_spread 35 = .ok (.bipush 36, 2) := by decide +kernel
theorem dX1_spread_37 : decode cX1_spread 37 = .ok (.irem, 1) := by decide +kernel
theorem dX1_spread_38 : decode cX1_spread 38 = .ok (.istore 4, 2) := by decide +kernel
theorem dX1_spread_40 : decode cX1_spread 40 = .ok (.aload_n 0, 1) := by decide +kernel
theorem dX1_spread_41 : decode cX1_spread 41 = .ok (.iload_n 3, 1) := by decide +kernel
theorem dX1_spread_42 : decode cX1_spread 42 = .ok (.iload 4, 2) := by decide +kernel
theorem dX1_spread_44 : decode cX1_spread 44 = .ok (.invokevirtual 30, 3) := by decide +kernel
theorem dX1_spread_47 : decode cX1_spread 47 = .ok (.iconst 1, 1) := by decide +kernel
theorem dX1_spread_48 : decode cX1_spread 48 = .ok (.iadd, 1) := by decide +kernel
theorem dX1_spread_49 : decode cX1_spread 49 = .ok (.istore 5, 2) := by decide +kernel
theorem dX1_spread_51 : decode cX1_spread 51 = .ok (.iconst 0, 1) := by decide +kernel
theorem dX1_spread_52 : decode cX1_spread 52 = .ok (.istore 6, 2) := by decide +kernel
theorem dX1_spread_54 : decode cX1_spread 54 = .ok (.iload 6, 2) := by decide +kernel
theorem dX1_spread_56 : decode cX1_spread 56 = .ok (.iconst 4, 1) := by decide +kernel
theorem dX1_spread_57 : decode cX1_spread 57 = .ok (.if_icmp .ge 39, 3) := by decide +kernel
theorem dX1_spread_60 : decode cX1_spread 60 = .ok (.aload_n 1, 1) := by decide +kernel
theorem dX1_spread_61 : decode cX1_spread 61 = .ok (.iload_n 3, 1) := by decide +kernel
theorem dX1_spread_62 : decode cX1_spread 62 = .ok (.iload 6, 2) := by decide +kernel
theorem dX1_spread_64 : decode cX1_spread 64 = .ok (.invokevirtual 34, 3) := by decide +kernel
theorem dX1_spread_67 : decode cX1_spread 67 = .ok (.istore 7, 2) := by decide +kernel
theorem dX1_spread_69 : decode cX1_spread 69 = .ok (.iload 7, 2) := by decide +kernel
theorem dX1_spread_71 : decode cX1_spread 71 = .ok (.iconst (-1), 1) := by decide +kernel
theorem dX1_spread_72 : decode cX1_spread 72 = .ok (.if_icmp .eq 18, 3) := by decide +kernel
theorem dX1_spread_75 : decode cX1_spread 75 = .ok (.aload_n 0, 1) := by decide +kernel
theorem dX1_spread_76 : decode cX1_spread 76 = .ok (.iload 7, 2) := by decide +kernel
theorem dX1_spread_78 : decode cX1_spread 78 = .ok (.iload 4, 2) := by decide +kernel
theorem dX1_spread_80 : decode cX1_spread 80 = .ok (.iload 6, 2) := by decide +kernel
theorem dX1_spread_82 : decode cX1_spread 82 = .ok (.invokestatic 39, 3) := by decide +kernel
theorem dX1_spread_85 : decode cX1_spread 85 = .ok (.iload 5, 2) := by decide +kernel
theorem dX1_spread_87 : decode cX1_spread 87 = .ok (.invokevirtual 42, 3) := by decide +kernel
theorem dX1_spread_90 : decode cX1_spread 90 = .ok (.iinc 6 1, 3) := by decide +kernel
theorem dX1_spread_93 : decode cX1_spread 93 = .ok (.goto (-39), 3) := by decide +kernel
theorem dX1_spread_96 : decode cX1_spread 96 = .ok (.iinc 2 1, 3) := by decide +kernel
theorem dX1_spread_99 : decode cX1_spread 99 = .ok (.goto (-97), 3) := by decide +kernel
theorem dX1_spread_102 : decode cX1_spread 102 = .ok (.return_, 1) := by decide +kernel
theorem dX1_rollsAt_0 : decode cX1_rollsAt 0 = .ok (.iload_n 1, 1) := by decide +kernel
theorem dX1_rollsAt_1 : decode cX1_rollsAt 1 = .ok (.bipush 36, 2) := by decide +kernel
theorem dX1_rollsAt_3 : decode cX1_rollsAt 3 = .ok (.imul, 1) := by decide +kernel
theorem dX1_rollsAt_4 : decode cX1_rollsAt 4 = .ok (.iload_n 2, 1) := by decide +kernel
theorem dX1_rollsAt_5 : decode cX1_rollsAt 5 = .ok (.iadd, 1) := by decide +kernel
theorem dX1_rollsAt_6 : decode cX1_rollsAt 6 = .ok (.istore_n 3, 1) := by decide +kernel
theorem dX1_rollsAt_7 : decode cX1_rollsAt 7 = .ok (.iload_n 3, 1) := by decide +kernel
theorem dX1_rollsAt_8 : decode cX1_rollsAt 8 = .ok (.ifCond .lt 21, 3) := by decide +kernel
theorem dX1_rollsAt_11 : decode cX1_rollsAt 11 = .ok (.iload_n 3, 1) := by decide +kernel
theorem dX1_rollsAt_12 : decode cX1_rollsAt 12 = .ok (.aload_n 0, 1) := by decide +kernel
theorem dX1_rollsAt_13 : decode cX1_rollsAt 13 = .ok (.getfield 11, 3) := by decide +kernel
theorem dX1_rollsAt_16 : decode cX1_rollsAt 16 = .ok (.arraylength, 1) := by decide +kernel
theorem dX1_rollsAt_17 : decode cX1_rollsAt 17 = .ok (.if_icmp .ge 12, 3) := by decide +kernel
theorem dX1_rollsAt_20 : decode cX1_rollsAt 20 = .ok (.aload_n 0, 1) := by decide +kernel
theorem dX1_rollsAt_21 : decode cX1_rollsAt 21 = .ok (.getfield 11, 3) := by decide +kernel
theorem dX1_rollsAt_24 : decode cX1_rollsAt 24 = .ok (.iload_n 3, 1) := by decide +kernel
theorem dX1_rollsAt_25 : decode cX1_rollsAt 25 = .ok (.iaload, 1) := by decide +kernel
theorem dX1_rollsAt_26 : decode cX1_rollsAt 26 = .ok (.goto 4, 3) := by decide +kernel
theorem dX1_rollsAt_29 : decode cX1_rollsAt 29 = .ok (.iconst (-1), 1) := by decide +kernel
theorem dX1_rollsAt_30 : decode cX1_rollsAt 30 = .ok (.ireturn, 1) := by decide +kernel
set_option maxRecDepth 20000 in
theorem ggX1_fewestWithTop_X2_with : GoodIn wsX1_fewestWithTop wsX2_with := goodIn_r _ [3] (by decide +kernel) (by decide +kernel)
set_option maxRecDepth 20000 in
theorem gX1_fewestWithTop_X2_with_n46 : GoodIn wsX1_fewestWithTop (wsX2_with) := ggX1_fewestWithTop_X2_with
set_option maxRecDepth 20000 in
theorem ggX1_fewestWithTop_X1_rollsAt : GoodIn wsX1_fewestWithTop wsX1_rollsAt := goodIn_r _ [8, 9, 17, 18, 19] (by decide +kernel) (by decide +kernel)
set_option maxRecDepth 20000 in
theorem gX1_fewestWithTop_X1_rollsAt : GoodIn wsX1_fewestWithTop (wsV RX1 30 RX1 yX1_rollsAt wsX1_rollsAt) := goodIn_app (goodIn_of _ (by decide +kernel)) ggX1_fewestWithTop_X1_rollsAt
set_option maxRecDepth 20000 in
theorem ggX1_fewestWithTop_X1_fewerOf : GoodIn wsX1_fewestWithTop wsX1_fewerOf := goodIn_r _ [12, 13, 14, 15, 16] (by decide +kernel) (by decide +kernel)
set_option maxRecDepth 20000 in
theorem gX1_fewestWithTop_X1_fewerOf : GoodIn wsX1_fewestWithTop (va_wsS RX1 49 yX1_fewerOf wsX1_fewerOf) := goodIn_app (goodIn_of _ (by decide +kernel)) ggX1_fewestWithTop_X1_fewerOf
theorem dX1_fewestWithTop_0 : decode cX1_fewestWithTop 0 = .ok (.iconst (-1), 1) := by decide +kernel
theorem dX1_fewestWithTop_1 : decode cX1_fewestWithTop 1 = .ok (.istore_n 3, 1) := by decide +kernel
theorem dX1_fewestWithTop_2 : decode cX1_fewestWithTop 2 = .ok (.iconst 1, 1) := by decide +kernel
theorem dX1_fewestWithTop_3 : decode cX1_fewestWithTop 3 = .ok (.istore 4, 2) := by decide +kernel
theorem dX1_fewestWithTop_5 : decode cX1_fewestWithTop 5 = .ok (.iload 4, 2) := by decide +kernel
theorem dX1_fewestWithTop_7 : decode cX1_fewestWithTop 7 = .ok (.bipush 6, 2) := by decide +kernel
theorem dX1_fewestWithTop_9 : decode cX1_fewestWithTop 9 = .ok (.if_icmp .gt 25, 3) := by decide +kernel
theorem dX1_fewestWithTop_12 : decode cX1_fewestWithTop 12 = .ok (.iload_n 3, 1) := by decide +kernel
theorem dX1_fewestWithTop_13 : decode cX1_fewestWithTop 13 = .ok (.aload_n 0, 1) := by decide +kernel
theorem dX1_fewestWithTop_14 : decode cX1_fewestWithTop 14 = .ok (.iload_n 1, 1) := by decide +kernel
theorem dX1_fewestWithTop_15 : decode cX1_fewestWithTop 15 = .ok (.iload_n 2, 1) := by decide +kernel
theorem dX1_fewestWithTop_16 : decode cX1_fewestWithTop 16 = .ok (.iload 4, 2) := by decide +kernel
theorem dX1_fewestWithTop_18 : decode cX1_fewestWithTop 18 = .ok (.invokestatic 46, 3) := by decide +kernel
theorem dX1_fewestWithTop_21 : decode cX1_fewestWithTop 21 = .ok (.invokevirtual 30, 3) := by decide +kernel
theorem dX1_fewestWithTop_24 : decode cX1_fewestWithTop 24 = .ok (.invokestatic 49, 3) := by decide +kernel
theorem dX1_fewestWithTop_27 : decode cX1_fewestWithTop 27 = .ok (.istore_n 3, 1) := by decide +kernel
theorem dX1_fewestWithTop_28 : decode cX1_fewestWithTop 28 = .ok (.iinc 4 1, 3) := by decide +kernel
theorem dX1_fewestWithTop_31 : decode cX1_fewestWithTop 31 = .ok (.goto (-26), 3) := by decide +kernel
theorem dX1_fewestWithTop_34 : decode cX1_fewestWithTop 34 = .ok (.iload_n 3, 1) := by decide +kernel
theorem dX1_fewestWithTop_35 : decode cX1_fewestWithTop 35 = .ok (.ireturn, 1) := by decide +kernel
set_option maxRecDepth 20000 in
theorem ggX1_fewestTo_X1_fewestWithTop : GoodIn wsX1_fewestTo wsX1_fewestWithTop := goodIn_r _ [5, 6, 7, 8, 9, 10, 11, 4, 12, 13, 14, 15, 16, 17, 18, 19, 20, 21, 22, 23] (by decide +kernel) (by decide +kernel)
set_option maxRecDepth 20000 in
theorem gX1_fewestTo_X1_fewestWithTop : GoodIn wsX1_fewestTo (wsV RX1 52 RX1 yX1_fewestWithTop wsX1_fewestWithTop) := goodIn_app (goodIn_of _ (by decide +kernel)) ggX1_fewestTo_X1_fewestWithTop
set_option maxRecDepth 20000 in
theorem ggX1_fewestTo_X1_fewerOf : GoodIn wsX1_fewestTo wsX1_fewerOf := goodIn_r _ [16, 17, 18, 19, 20] (by decide +kernel) (by decide +kernel)
set_option maxRecDepth 20000 in
theorem gX1_fewestTo_X1_fewerOf : GoodIn wsX1_fewestTo (va_wsS RX1 49 yX1_fewerOf wsX1_fewerOf) := goodIn_app (goodIn_of _ (by decide +kernel)) ggX1_fewestTo_X1_fewerOf
theorem dX1_fewestTo_0 : decode cX1_fewestTo 0 = .ok (.iconst (-1), 1) := by decide +kernel
theorem dX1_fewestTo_1 : decode cX1_fewestTo 1 = .ok (.istore_n 2, 1) := by decide +kernel
theorem dX1_fewestTo_2 : decode cX1_fewestTo 2 = .ok (.iconst 1, 1) := by decide +kernel
theorem dX1_fewestTo_3 : decode cX1_fewestTo 3 = .ok (.istore_n 3, 1) := by decide +kernel
theorem dX1_fewestTo_4 : decode cX1_fewestTo 4 = .ok (.iload_n 3, 1) := by decide +kernel
theorem dX1_fewestTo_5 : decode cX1_fewestTo 5 = .ok (.bipush 6, 2) := by decide +kernel
theorem dX1_fewestTo_7 : decode cX1_fewestTo 7 = .ok (.if_icmp .gt 20, 3) := by decide +kernel
theorem dX1_fewestTo_10 : decode cX1_fewestTo 10 = .ok (.iload_n 2, 1) := by decide +kernel
theorem dX1_fewestTo_11 : decode cX1_fewestTo 11 = .ok (.aload_n 0, 1) := by decide +kernel
theorem dX1_fewestTo_12 : decode cX1_fewestTo 12 = .ok (.iload_n 1, 1) := by decide +kernel
theorem dX1_fewestTo_13 : decode cX1_fewestTo 13 = .ok (.iload_n 3, 1) := by decide +kernel
theorem dX1_fewestTo_14 : decode cX1_fewestTo 14 = .ok (.invokevirtual 52, 3) := by decide +kernel
theorem dX1_fewestTo_17 : decode cX1_fewestTo 17 = .ok (.invokestatic 49, 3) := by decide +kernel
theorem dX1_fewestTo_20 : decode cX1_fewestTo 20 = .ok (.istore_n 2, 1) := by decide +kernel
theorem dX1_fewestTo_21 : decode cX1_fewestTo 21 = .ok (.iinc 3 1, 3) := by decide +kernel
theorem dX1_fewestTo_24 : decode cX1_fewestTo 24 = .ok (.goto (-20), 3) := by decide +kernel
theorem dX1_fewestTo_27 : decode cX1_fewestTo 27 = .ok (.iload_n 2, 1) := by decide +kernel
theorem dX1_fewestTo_28 : decode cX1_fewestTo 28 = .ok (.ireturn, 1) := by decide +kernel
set_option maxRecDepth 20000 in
theorem ggX1_countTops_X1_fewestWithTop : GoodIn wsX1_countTops wsX1_fewestWithTop := goodIn_r _ [5, 6, 7, 8, 9, 10, 11, 4, 12, 13, 14, 15, 16, 17, 18, 19, 20, 21, 22, 23] (by decide +kernel) (by decide +kernel)
set_option maxRecDepth 20000 in
theorem gX1_countTops_X1_fewestWithTop : GoodIn wsX1_countTops (wsV RX1 52 RX1 yX1_fewestWithTop wsX1_fewestWithTop) := goodIn_app (goodIn_of _ (by decide +kernel)) ggX1_countTops_X1_fewestWithTop
theorem dX1_countTops_0 : decode cX1_countTops 0 = .ok (.iconst 0, 1) := by decide +kernel
theorem dX1_countTops_1 : decode cX1_countTops 1 = .ok (.istore_n 2, 1) := by decide +kernel
theorem dX1_countTops_2 : decode cX1_countTops 2 = .ok (.iconst 1, 1) := by decide +kernel
theorem dX1_countTops_3 : decode cX1_countTops 3 = .ok (.istore_n 3, 1) := by decide +kernel
theorem dX1_countTops_4 : decode cX1_countTops 4 = .ok (.iload_n 3, 1) := by decide +kernel
theorem dX1_countTops_5 : decode cX1_countTops 5 = .ok (.bipush 6, 2) := by decide +kernel
theorem dX1_countTops_7 : decode cX1_countTops 7 = .ok (.if_icmp .gt 22, 3) := by decide +kernel
theorem dX1_countTops_10 : decode cX1_countTops 10 = .ok (.aload_n 0, 1) := by decide +kernel
theorem dX1_countTops_11 : decode cX1_countTops 11 = .ok (.iload_n 1, 1) := by decide +kernel
theorem dX1_countTops_12 : decode cX1_countTops 12 = .ok (.iload_n 3, 1) := by decide +kernel
theorem dX1_countTops_13 : decode cX1_countTops 13 = .ok (.invokevirtual 52, 3) := by decide +kernel
theorem dX1_countTops_16 : decode cX1_countTops 16 = .ok (.iconst (-1), 1) := by decide +kernel
theorem dX1_countTops_17 : decode cX1_countTops 17 = .ok (.if_icmp .eq 6, 3) := by decide +kernel
theorem dX1_countTops_20 : decode cX1_countTops 20 = .ok (.iinc 2 1, 3) := by decide +kernel
theorem dX1_countTops_23 : decode cX1_countTops 23 = .ok (.iinc 3 1, 3) := by decide +kernel
theorem dX1_countTops_26 : decode cX1_countTops 26 = .ok (.goto (-22), 3) := by decide +kernel
theorem dX1_countTops_29 : decode cX1_countTops 29 = .ok (.iload_n 2, 1) := by decide +kernel
theorem dX1_countTops_30 : decode cX1_countTops 30 = .ok (.ireturn, 1) := by decide +kernel
theorem dX1_fewerOf_0 : decode cX1_fewerOf 0 = .ok (.iload_n 0, 1) := by decide +kernel
theorem dX1_fewerOf_1 : decode cX1_fewerOf 1 = .ok (.iconst (-1), 1) := by decide +kernel
theorem dX1_fewerOf_2 : decode cX1_fewerOf 2 = .ok (.if_icmp .ne 5, 3) := by decide +kernel
theorem dX1_fewerOf_5 : decode cX1_fewerOf 5 = .ok (.iload_n 1, 1) := by decide +kernel
theorem dX1_fewerOf_6 : decode cX1_fewerOf 6 = .ok (.ireturn, 1) := by decide +kernel
theorem dX1_fewerOf_7 : decode cX1_fewerOf 7 = .ok (.iload_n 1, 1) := by decide +kernel
theorem dX1_fewerOf_8 : decode cX1_fewerOf 8 = .ok (.iconst (-1), 1) := by decide +kernel
theorem dX1_fewerOf_9 : decode cX1_fewerOf 9 = .ok (.if_icmp .ne 7, 3) := by decide +kernel
theorem dX1_fewerOf_12 : decode cX1_fewerOf 12 = .ok (.iload_n 0, 1) := by decide +kernel
theorem dX1_fewerOf_13 : decode cX1_fewerOf 13 = .ok (.goto 8, 3) := by decide +kernel
theorem dX1_fewerOf_16 : decode cX1_fewerOf 16 = .ok (.iload_n 0, 1) := by decide +kernel
theorem dX1_fewerOf_17 : decode cX1_fewerOf 17 = .ok (.iload_n 1, 1) := by decide +kernel
theorem dX1_fewerOf_18 : decode cX1_fewerOf 18 = .ok (.invokestatic 55, 3) := by decide +kernel
theorem dX1_fewerOf_21 : decode cX1_fewerOf 21 = .ok (.ireturn, 1) := by decide +kernel
theorem dX2_with_0 : decode cX2_with 0 = .ok (.iload_n 0, 1) := by decide +kernel
theorem dX2_with_1 : decode cX2_with 1 = .ok (.iconst 1, 1) := by decide +kernel
theorem dX2_with_2 : decode cX2_with 2 = .ok (.isub, 1) := by decide +kernel
theorem dX2_with_3 : decode cX2_with 3 = .ok (.bipush 6, 2) := by decide +kernel
theorem dX2_with_5 : decode cX2_with 5 = .ok (.imul, 1) := by decide +kernel
theorem dX2_with_6 : decode cX2_with 6 = .ok (.iload_n 1, 1) := by decide +kernel
theorem dX2_with_7 : decode cX2_with 7 = .ok (.iconst 1, 1) := by decide +kernel
theorem dX2_with_8 : decode cX2_with 8 = .ok (.isub, 1) := by decide +kernel
theorem dX2_with_9 : decode cX2_with 9 = .ok (.iadd, 1) := by decide +kernel
theorem dX2_with_10 : decode cX2_with 10 = .ok (.ireturn, 1) := by decide +kernel
theorem dX2_topOf_0 : decode cX2_topOf 0 = .ok (.iload_n 0, 1) := by decide +kernel
theorem dX2_topOf_1 : decode cX2_topOf 1 = .ok (.bipush 6, 2) := by decide +kernel
theorem dX2_topOf_3 : decode cX2_topOf 3 = .ok (.idiv, 1) := by decide +kernel
theorem dX2_topOf_4 : decode cX2_topOf 4 = .ok (.iconst 1, 1) := by decide +kernel
theorem dX2_topOf_5 : decode cX2_topOf 5 = .ok (.iadd, 1) := by decide +kernel
theorem dX2_topOf_6 : decode cX2_topOf 6 = .ok (.ireturn, 1) := by decide +kernel
theorem dX2_northOf_0 : decode cX2_northOf 0 = .ok (.iload_n 0, 1) := by decide +kernel
theorem dX2_northOf_1 : decode cX2_northOf 1 = .ok (.bipush 6, 2) := by decide +kernel
theorem dX2_northOf_3 : decode cX2_northOf 3 = .ok (.irem, 1) := by decide +kernel
theorem dX2_northOf_4 : decode cX2_northOf 4 = .ok (.iconst 1, 1) := by decide +kernel
theorem dX2_northOf_5 : decode cX2_northOf 5 = .ok (.iadd, 1) := by decide +kernel
theorem dX2_northOf_6 : decode cX2_northOf 6 = .ok (.ireturn, 1) := by decide +kernel
set_option maxRecDepth 20000 in
theorem ggX2_eastOf_X2_topOf : GoodIn wsX2_eastOf wsX2_topOf := goodIn_r _ [4] (by decide +kernel) (by decide +kernel)
set_option maxRecDepth 20000 in
theorem gX2_eastOf_X2_topOf : GoodIn wsX2_eastOf (va_wsS RX2 9 yX2_topOf wsX2_topOf) := goodIn_app (goodIn_of _ (by decide +kernel)) ggX2_eastOf_X2_topOf
set_option maxRecDepth 20000 in
theorem ggX2_eastOf_X2_northOf : GoodIn wsX2_eastOf wsX2_northOf := goodIn_r _ [7] (by decide +kernel) (by decide +kernel)
set_option maxRecDepth 20000 in
theorem gX2_eastOf_X2_northOf : GoodIn wsX2_eastOf (va_wsS RX2 15 yX2_northOf wsX2_northOf) := goodIn_app (goodIn_of _ (by decide +kernel)) ggX2_eastOf_X2_northOf
set_option maxRecDepth 20000 in
theorem ggX2_eastOf_X2_axisOf : GoodIn wsX2_eastOf wsX2_axisOf := goodIn_r _ [10] (by decide +kernel) (by decide +kernel)
set_option maxRecDepth 20000 in
theorem gX2_eastOf_X2_axisOf : GoodIn wsX2_eastOf (va_wsS RX2 18 yX2_axisOf wsX2_axisOf) := goodIn_app (goodIn_of _ (by decide +kernel)) ggX2_eastOf_X2_axisOf
theorem dX2_eastOf_0 : decode cX2_eastOf 0 = .ok (.iload_n 0, 1) := by decide +kernel
theorem dX2_eastOf_1 : decode cX2_eastOf 1 = .ok (.invokestatic 9, 3) := by decide +kernel
theorem dX2_eastOf_4 : decode cX2_eastOf 4 = .ok (.istore_n 1, 1) := by decide +kernel
theorem dX2_eastOf_5 : decode cX2_eastOf 5 = .ok (.iload_n 0, 1) := by decide +kernel
theorem dX2_eastOf_6 : decode cX2_eastOf 6 = .ok (.invokestatic 15, 3) := by decide +kernel
theorem dX2_eastOf_9 : decode cX2_eastOf 9 = .ok (.istore_n 2, 1) := by decide +kernel
theorem dX2_eastOf_10 : decode cX2_eastOf 10 = .ok (.bipush 6, 2) := by decide +kernel
theorem dX2_eastOf_12 : decode cX2_eastOf 12 = .ok (.iload_n 1, 1) := by decide +kernel
theorem dX2_eastOf_13 : decode cX2_eastOf 13 = .ok (.invokestatic 18, 3) := by decide +kernel
theorem dX2_eastOf_16 : decode cX2_eastOf 16 = .ok (.isub, 1) := by decide +kernel
theorem dX2_eastOf_17 : decode cX2_eastOf 17 = .ok (.iload_n 2, 1) := by decide +kernel
theorem dX2_eastOf_18 : decode cX2_eastOf 18 = .ok (.invokestatic 18, 3) := by decide +kernel
theorem dX2_eastOf_21 : decode cX2_eastOf 21 = .ok (.isub, 1) := by decide +kernel
theorem dX2_eastOf_22 : decode cX2_eastOf 22 = .ok (.istore_n 3, 1) := by decide +kernel
theorem dX2_eastOf_23 : decode cX2_eastOf 23 = .ok (.iload_n 2, 1) := by decide +kernel
theorem dX2_eastOf_24 : decode cX2_eastOf 24 = .ok (.invokestatic 18, 3) := by decide +kernel
theorem dX2_eastOf_27 : decode cX2_eastOf 27 = .ok (.iload_n 1, 1) := by decide +kernel
theorem dX2_eastOf_28 : decode cX2_eastOf 28 = .ok (.invokestatic 18, 3) := by decide +kernel
theorem dX2_eastOf_31 : decode cX2_eastOf 31 = .ok (.isub, 1) := by decide +kernel
theorem dX2_eastOf_32 : decode cX2_eastOf 32 = .ok (.iconst 3, 1) := by decide +kernel
theorem dX2_eastOf_33 : decode cX2_eastOf 33 = .ok (.iadd, 1) := by decide +kernel
theorem dX2_eastOf_34 : decode cX2_eastOf 34 = .ok (.iconst 3, 1) := by decide +kernel
theorem dX2_eastOf_35 : decode cX2_eastOf 35 = .ok (.irem, 1) := by decide +kernel
theorem dX2_eastOf_36 : decode cX2_eastOf 36 = .ok (.iconst 1, 1) := by decide +kernel
theorem dX2_eastOf_37 : decode cX2_eastOf 37 = .ok (.if_icmp .ne 7, 3) := by decide +kernel
theorem dX2_eastOf_40 : decode cX2_eastOf 40 = .ok (.iconst 1, 1) := by decide +kernel
theorem dX2_eastOf_41 : decode cX2_eastOf 41 = .ok (.goto 4, 3) := by decide +kernel
theorem dX2_eastOf_44 : decode cX2_eastOf 44 = .ok (.iconst 0, 1) := by decide +kernel
theorem dX2_eastOf_45 : decode cX2_eastOf 45 = .ok (.istore 4, 2) := by decide +kernel
theorem dX2_eastOf_47 : decode cX2_eastOf 47 = .ok (.iload_n 1, 1) := by decide +kernel
theorem dX2_eastOf_48 : decode cX2_eastOf 48 = .ok (.iconst 3, 1) := by decide +kernel
theorem dX2_eastOf_49 : decode cX2_eastOf 49 = .ok (.if_icmp .le 15, 3) := by decide +kernel
theorem dX2_eastOf_52 : decode cX2_eastOf 52 = .ok (.iload 4, 2) := by decide +kernel
theorem dX2_eastOf_54 : decode cX2_eastOf 54 = .ok (.ifCond .ne 7, 3) := by decide +kernel
theorem dX2_eastOf_57 : decode cX2_eastOf 57 = .ok (.iconst 1, 1) := by decide +kernel
theorem dX2_eastOf_58 : decode cX2_eastOf 58 = .ok (.goto 4, 3) := by decide +kernel
theorem dX2_eastOf_61 : decode cX2_eastOf 61 = .ok (.iconst 0, 1) := by decide +kernel
theorem dX2_eastOf_62 : decode cX2_eastOf 62 = .ok (.istore 4, 2) := by decide +kernel
theorem dX2_eastOf_64 : decode cX2_eastOf 64 = .ok (.iload_n 2, 1) := by decide +kernel
theorem dX2_eastOf_65 : decode cX2_eastOf 65 = .ok (.iconst 3, 1) := by decide +kernel
theorem dX2_eastOf_66 : decode cX2_eastOf 66 = .ok (.if_icmp .le 15, 3) := by decide +kernel
theorem dX2_eastOf_69 : decode cX2_eastOf 69 = .ok (.iload 4, 2) := by decide +kernel
theorem dX2_eastOf_71 : decode cX2_eastOf 71 = .ok (.ifCond .ne 7, 3) := by decide +kernel
theorem dX2_eastOf_74 : decode cX2_eastOf 74 = .ok (.iconst 1, 1) := by decide +kernel
theorem dX2_eastOf_75 : decode cX2_eastOf 75 = .ok (.goto 4, 3) := by decide +kernel
theorem dX2_eastOf_78 : decode cX2_eastOf 78 = .ok (.iconst 0, 1) := by decide +kernel
theorem dX2_eastOf_79 : decode cX2_eastOf 79 = .ok (.istore 4, 2) := by decide +kernel
theorem dX2_eastOf_81 : decode cX2_eastOf 81 = .ok (.iload 4, 2) := by decide +kernel
theorem dX2_eastOf_83 : decode cX2_eastOf 83 = .ok (.ifCond .eq 7, 3) := by decide +kernel
theorem dX2_eastOf_86 : decode cX2_eastOf 86 = .ok (.iload_n 3, 1) := by decide +kernel
theorem dX2_eastOf_87 : decode cX2_eastOf 87 = .ok (.goto 7, 3) := by decide +kernel
theorem dX2_eastOf_90 : decode cX2_eastOf 90 = .ok (.bipush 7, 2) := by decide +kernel
theorem dX2_eastOf_92 : decode cX2_eastOf 92 = .ok (.iload_n 3, 1) := by decide +kernel
theorem dX2_eastOf_93 : decode cX2_eastOf 93 = .ok (.isub, 1) := by decide +kernel
theorem dX2_eastOf_94 : decode cX2_eastOf 94 = .ok (.ireturn, 1) := by decide +kernel
theorem dX2_axisOf_0 : decode cX2_axisOf 0 = .ok (.iload_n 0, 1) := by decide +kernel
theorem dX2_axisOf_1 : decode cX2_axisOf 1 = .ok (.iconst 3, 1) := by decide +kernel
theorem dX2_axisOf_2 : decode cX2_axisOf 2 = .ok (.if_icmp .gt 7, 3) := by decide +kernel
theorem dX2_axisOf_5 : decode cX2_axisOf 5 = .ok (.iload_n 0, 1) := by decide +kernel
theorem dX2_axisOf_6 : decode cX2_axisOf 6 = .ok (.goto 7, 3) := by decide +kernel
theorem dX2_axisOf_9 : decode cX2_axisOf 9 = .ok (.bipush 7, 2) := by decide +kernel
theorem dX2_axisOf_11 : decode cX2_axisOf 11 = .ok (.iload_n 0, 1) := by decide +kernel
theorem dX2_axisOf_12 : decode cX2_axisOf 12 = .ok (.isub, 1) := by decide +kernel
theorem dX2_axisOf_13 : decode cX2_axisOf 13 = .ok (.ireturn, 1) := by decide +kernel
set_option maxRecDepth 20000 in
theorem ggX2_faceOn_X2_northOf : GoodIn wsX2_faceOn wsX2_northOf := goodIn_r _ [4] (by decide +kernel) (by decide +kernel)
set_option maxRecDepth 20000 in
theorem gX2_faceOn_X2_northOf : GoodIn wsX2_faceOn (va_wsS RX2 15 yX2_northOf wsX2_northOf) := goodIn_app (goodIn_of _ (by decide +kernel)) ggX2_faceOn_X2_northOf
set_option maxRecDepth 20000 in
theorem ggX2_faceOn_X2_eastOf : GoodIn wsX2_faceOn wsX2_eastOf := goodIn_r _ [7, 8, 9, 3, 10, 1, 2, 4, 11, 12, 13] (by decide +kernel) (by decide +kernel)
set_option maxRecDepth 20000 in
theorem gX2_faceOn_X2_eastOf : GoodIn wsX2_faceOn (va_wsS RX2 21 yX2_eastOf wsX2_eastOf) := goodIn_app (goodIn_of _ (by decide +kernel)) ggX2_faceOn_X2_eastOf
theorem dX2_faceOn_0 : decode cX2_faceOn 0 = .ok (.iload_n 1, 1) := by decide +kernel
theorem dX2_faceOn_1 : decode cX2_faceOn 1 = .ok (.tableswitch 45 0 2 #[27, 32, 37], 27) := by decide +kernel
theorem dX2_faceOn_28 : decode cX2_faceOn 28 = .ok (.iload_n 0, 1) := by decide +kernel
theorem dX2_faceOn_29 : decode cX2_faceOn 29 = .ok (.invokestatic 15, 3) := by decide +kernel
theorem dX2_faceOn_32 : decode cX2_faceOn 32 = .ok (.ireturn, 1) := by decide +kernel
theorem dX2_faceOn_33 : decode cX2_faceOn 33 = .ok (.iload_n 0, 1) := by decide +kernel
theorem dX2_faceOn_34 : decode cX2_faceOn 34 = .ok (.invokestatic 21, 3) := by decide +kernel
theorem dX2_faceOn_37 : decode cX2_faceOn 37 = .ok (.ireturn, 1) := by decide +kernel
theorem dX2_faceOn_38 : decode cX2_faceOn 38 = .ok (.bipush 7, 2) := by decide +kernel
theorem dX2_faceOn_40 : decode cX2_faceOn 40 = .ok (.iload_n 0, 1) := by decide +kernel
theorem dX2_faceOn_41 : decode cX2_faceOn 41 = .ok (.invokestatic 15, 3) := by decide +kernel
theorem dX2_faceOn_44 : decode cX2_faceOn 44 = .ok (.isub, 1) := by decide +kernel
theorem dX2_faceOn_45 : decode cX2_faceOn 45 = .ok (.ireturn, 1) := by decide +kernel
theorem dX2_faceOn_46 : decode cX2_faceOn 46 = .ok (.bipush 7, 2) := by decide +kernel
theorem dX2_faceOn_48 : decode cX2_faceOn 48 = .ok (.iload_n 0, 1) := by decide +kernel
theorem dX2_faceOn_49 : decode cX2_faceOn 49 = .ok (.invokestatic 21, 3) := by decide +kernel
theorem dX2_faceOn_52 : decode cX2_faceOn 52 = .ok (.isub, 1) := by decide +kernel
theorem dX2_faceOn_53 : decode cX2_faceOn 53 = .ok (.ireturn, 1) := by decide +kernel
set_option maxRecDepth 20000 in
theorem ggX2_behindRoll_X2_topOf : GoodIn wsX2_behindRoll wsX2_topOf := goodIn_r _ [4] (by decide +kernel) (by decide +kernel)
set_option maxRecDepth 20000 in
theorem gX2_behindRoll_X2_topOf : GoodIn wsX2_behindRoll (va_wsS RX2 9 yX2_topOf wsX2_topOf) := goodIn_app (goodIn_of _ (by decide +kernel)) ggX2_behindRoll_X2_topOf
set_option maxRecDepth 20000 in
theorem ggX2_behindRoll_X2_northOf : GoodIn wsX2_behindRoll wsX2_northOf := goodIn_r _ [7] (by decide +kernel) (by decide +kernel)
set_option maxRecDepth 20000 in
theorem gX2_behindRoll_X2_northOf : GoodIn wsX2_behindRoll (va_wsS RX2 15 yX2_northOf wsX2_northOf) := goodIn_app (goodIn_of _ (by decide +kernel)) ggX2_behindRoll_X2_northOf
set_option maxRecDepth 20000 in
theorem ggX2_behindRoll_X2_with : GoodIn wsX2_behindRoll wsX2_with := goodIn_r _ [10] (by decide +kernel) (by decide +kernel)
set_option maxRecDepth 20000 in
theorem gX2_behindRoll_X2_with : GoodIn wsX2_behindRoll (va_wsS RX2 24 yX2_with wsX2_with) := goodIn_app (goodIn_of _ (by decide +kernel)) ggX2_behindRoll_X2_with
set_option maxRecDepth 20000 in
theorem ggX2_behindRoll_X2_eastOf : GoodIn wsX2_behindRoll wsX2_eastOf := goodIn_r _ [13, 1, 2, 3, 4, 5, 6, 7, 14, 15, 16] (by decide +kernel) (by decide +kernel)
set_option maxRecDepth 20000 in
theorem gX2_behindRoll_X2_eastOf : GoodIn wsX2_behindRoll (va_wsS RX2 21 yX2_eastOf wsX2_eastOf) := goodIn_app (goodIn_of _ (by decide +kernel)) ggX2_behindRoll_X2_eastOf
theorem dX2_behindRoll_0 : decode cX2_behindRoll 0 = .ok (.iload_n 0, 1) := by decide +kernel
theorem dX2_behindRoll_1 : decode cX2_behindRoll 1 = .ok (.invokestatic 9, 3) := by decide +kernel
theorem dX2_behindRoll_4 : decode cX2_behindRoll 4 = .ok (.istore_n 2, 1) := by decide +kernel
theorem dX2_behindRoll_5 : decode cX2_behindRoll 5 = .ok (.iload_n 0, 1) := by decide +kernel
theorem dX2_behindRoll_6 : decode cX2_behindRoll 6 = .ok (.invokestatic 15, 3) := by decide +kernel
theorem dX2_behindRoll_9 : decode cX2_behindRoll 9 = .ok (.istore_n 3, 1) := by decide +kernel
theorem dX2_behindRoll_10 : decode cX2_behindRoll 10 = .ok (.iload_n 1, 1) := by decide +kernel
theorem dX2_behindRoll_11 : decode cX2_behindRoll 11 = .ok (.tableswitch 55 0 2 #[25, 34, 46], 25) := by decide +kernel
theorem dX2_behindRoll_36 : decode cX2_behindRoll 36 = .ok (.bipush 7, 2) := by decide +kernel
theorem dX2_behindRoll_38 : decode cX2_behindRoll 38 = .ok (.iload_n 3, 1) := by decide +kernel
theorem dX2_behindRoll_39 : decode cX2_behindRoll 39 = .ok (.isub, 1) := by decide +kernel
theorem dX2_behindRoll_40 : decode cX2_behindRoll 40 = .ok (.iload_n 2, 1) := by decide +kernel
theorem dX2_behindRoll_41 : decode cX2_behindRoll 41 = .ok (.invokestatic 24, 3) := by decide +kernel
theorem dX2_behindRoll_44 : decode cX2_behindRoll 44 = .ok (.ireturn, 1) := by decide +kernel
theorem dX2_behindRoll_45 : decode cX2_behindRoll 45 = .ok (.bipush 7, 2) := by decide +kernel
theorem dX2_behindRoll_47 : decode cX2_behindRoll 47 = .ok (.iload_n 0, 1) := by decide +kernel
theorem dX2_behindRoll_48 : decode cX2_behindRoll 48 = .ok (.invokestatic 21, 3) := by decide +kernel
theorem dX2_behindRoll_51 : decode cX2_behindRoll 51 = .ok (.isub, 1) := by decide +kernel
theorem dX2_behindRoll_52 : decode cX2_behindRoll 52 = .ok (.iload_n 3, 1) := by decide +kernel
theorem dX2_behindRoll_53 : decode cX2_behindRoll 53 = .ok (.invokestatic 24, 3) := by decide +kernel
theorem dX2_behindRoll_56 : decode cX2_behindRoll 56 = .ok (.ireturn, 1) := by decide +kernel
theorem dX2_behindRoll_57 : decode cX2_behindRoll 57 = .ok (.iload_n 3, 1) := by decide +kernel
theorem dX2_behindRoll_58 : decode cX2_behindRoll 58 = .ok (.bipush 7, 2) := by decide +kernel
theorem dX2_behindRoll_60 : decode cX2_behindRoll 60 = .ok (.iload_n 2, 1) := by decide +kernel
theorem dX2_behindRoll_61 : decode cX2_behindRoll 61 = .ok (.isub, 1) := by decide +kernel
theorem dX2_behindRoll_62 : decode cX2_behindRoll 62 = .ok (.invokestatic 24, 3) := by decide +kernel
theorem dX2_behindRoll_65 : decode cX2_behindRoll 65 = .ok (.ireturn, 1) := by decide +kernel
theorem dX2_behindRoll_66 : decode cX2_behindRoll 66 = .ok (.iload_n 0, 1) := by decide +kernel
theorem dX2_behindRoll_67 : decode cX2_behindRoll 67 = .ok (.invokestatic 21, 3) := by decide +kernel
theorem dX2_behindRoll_70 : decode cX2_behindRoll 70 = .ok (.iload_n 3, 1) := by decide +kernel
theorem dX2_behindRoll_71 : decode cX2_behindRoll 71 = .ok (.invokestatic 24, 3) := by decide +kernel
theorem dX2_behindRoll_74 : decode cX2_behindRoll 74 = .ok (.ireturn, 1) := by decide +kernel
end
section
set_option maxRecDepth 20000 in
theorem ggX3_init_X0_init : GoodIn wsX3_init wsX0_init := goodIn_r _ [16, 17, 2, 3, 18, 19, 12, 20, 40, 41, 42, 43] (by decide +kernel) (by decide +kernel)
set_option maxRecDepth 20000 in
theorem gX3_init_X0_init_n11 : GoodIn wsX3_init (wsX0_init) := ggX3_init_X0_init
set_option maxRecDepth 20000 in
theorem ggX3_init_X1_init : GoodIn wsX3_init wsX1_init := goodIn_r _ [22, 23, 2, 3, 12, 24, 25, 52, 53, 54] (by decide +kernel) (by decide +kernel)
set_option maxRecDepth 20000 in
theorem gX3_init_X1_init_n18 : GoodIn wsX3_init (wsX1_init) := ggX3_init_X1_init
set_option maxRecDepth 20000 in
theorem ggX3_init_X3_startOn : GoodIn wsX3_init wsX3_startOn := goodIn_r _ [30, 7, 31, 32, 33, 34, 35, 6, 36, 37, 38, 39, 19, 20, 44, 45, 46, 47, 48, 49, 50, 51, 40, 41, 42, 43] (by decide +kernel) (by decide +kernel)
set_option maxRecDepth 20000 in
theorem gX3_init_X3_startOn : GoodIn wsX3_init (wsV RX3 30 RX3 yX3_startOn wsX3_startOn) := goodIn_app (goodIn_of _ (by decide +kernel)) ggX3_init_X3_startOn
theorem dX3_init_0 : decode cX3_init 0 = .ok (.aload_n 0, 1) := by decide +kernel
theorem dX3_init_1 : decode cX3_init 1 = .ok (.invokespecial 3, 3) := by decide +kernel
theorem dX3_init_4 : decode cX3_init 4 = .ok (.aload_n 0, 1) := by decide +kernel
theorem dX3_init_5 : decode cX3_init 5 = .ok (.new 9, 3) := by decide +kernel
theorem dX3_init_8 : decode cX3_init 8 = .ok (.dup, 1) := by decide +kernel
theorem dX3_init_9 : decode cX3_init 9 = .ok (.invokespecial 11, 3) := by decide +kernel
theorem dX3_init_12 : decode cX3_init 12 = .ok (.putfield 12, 3) := by decide +kernel
theorem dX3_init_15 : decode cX3_init 15 = .ok (.aload_n 0, 1) := by decide +kernel
theorem dX3_init_16 : decode cX3_init 16 = .ok (.new 16, 3) := by decide +kernel
theorem dX3_init_19 : decode cX3_init 19 = .ok (.dup, 1) := by decide +kernel
theorem dX3_init_20 : decode cX3_init 20 = .ok (.invokespecial 18, 3) := by decide +kernel
theorem dX3_init_23 : decode cX3_init 23 = .ok (.putfield 19, 3) := by decide +kernel
theorem dX3_init_26 : decode cX3_init 26 = .ok (.aload_n 0, 1) := by decide +kernel
theorem dX3_init_27 : decode cX3_init 27 = .ok (.bipush 7, 2) := by decide +kernel
theorem dX3_init_29 : decode cX3_init 29 = .ok (.newarray .int, 2) := by decide +kernel
theorem dX3_init_31 : decode cX3_init 31 = .ok (.putfield 23, 3) := by decide +kernel
theorem dX3_init_34 : decode cX3_init 34 = .ok (.aload_n 0, 1) := by decide +kernel
theorem dX3_init_35 : decode cX3_init 35 = .ok (.bipush 7, 2) := by decide +kernel
theorem dX3_init_37 : decode cX3_init 37 = .ok (.newarray .int, 2) := by decide +kernel
theorem dX3_init_39 : decode cX3_init 39 = .ok (.putfield 27, 3) := by decide +kernel
theorem dX3_init_42 : decode cX3_init 42 = .ok (.iconst 1, 1) := by decide +kernel
theorem dX3_init_43 : decode cX3_init 43 = .ok (.istore_n 1, 1) := by decide +kernel
theorem dX3_init_44 : decode cX3_init 44 = .ok (.iload_n 1, 1) := by decide +kernel
theorem dX3_init_45 : decode cX3_init 45 = .ok (.bipush 6, 2) := by decide +kernel
theorem dX3_init_47 : decode cX3_init 47 = .ok (.if_icmp .gt 16, 3) := by decide +kernel
theorem dX3_init_50 : decode cX3_init 50 = .ok (.aload_n 0, 1) := by decide +kernel
theorem dX3_init_51 : decode cX3_init 51 = .ok (.getfield 23, 3) := by decide +kernel
theorem dX3_init_54 : decode cX3_init 54 = .ok (.iload_n 1, 1) := by decide +kernel
theorem dX3_init_55 : decode cX3_init 55 = .ok (.iload_n 1, 1) := by decide +kernel
theorem dX3_init_56 : decode cX3_init 56 = .ok (.iastore, 1) := by decide +kernel
theorem dX3_init_57 : decode cX3_init 57 = .ok (.iinc 1 1, 3) := by decide +kernel
theorem dX3_init_60 : decode cX3_init 60 = .ok (.goto (-16), 3) := by decide +kernel
theorem dX3_init_63 : decode cX3_init 63 = .ok (.aload_n 0, 1) := by decide +kernel
theorem dX3_init_64 : decode cX3_init 64 = .ok (.iconst 5, 1) := by decide +kernel
theorem dX3_init_65 : decode cX3_init 65 = .ok (.iconst 5, 1) := by decide +kernel
theorem dX3_init_66 : decode cX3_init 66 = .ok (.invokevirtual 30, 3) := by decide +kernel
theorem dX3_init_69 : decode cX3_init 69 = .ok (.return_, 1) := by decide +kernel
set_option maxRecDepth 20000 in
theorem ggX3_newBoard_X3_isSide : GoodIn wsX3_newBoard wsX3_isSide := goodIn_r _ [6] (by decide +kernel) (by decide +kernel)
set_option maxRecDepth 20000 in
theorem gX3_newBoard_X3_isSide : GoodIn wsX3_newBoard (va_wsS RX3 34 yX3_isSide wsX3_isSide) := goodIn_app (goodIn_of _ (by decide +kernel)) ggX3_newBoard_X3_isSide
set_option maxRecDepth 20000 in
theorem ggX3_newBoard_X3_startOn : GoodIn wsX3_newBoard wsX3_startOn := goodIn_r _ [10, 11, 12, 13, 14, 15, 16, 17, 18, 19, 20, 21, 22, 23, 24, 25, 26, 27, 28, 29, 30, 31, 32, 33, 34, 35] (by decide +kernel) (by decide +kernel)
set_option maxRecDepth 20000 in
theorem gX3_newBoard_X3_startOn : GoodIn wsX3_newBoard (wsV RX3 30 RX3 yX3_startOn wsX3_startOn) := goodIn_app (goodIn_of _ (by decide +kernel)) ggX3_newBoard_X3_startOn
theorem dX3_newBoard_0 : decode cX3_newBoard 0 = .ok (.iload_n 1, 1) := by decide +kernel
theorem dX3_newBoard_1 : decode cX3_newBoard 1 = .ok (.invokestatic 34, 3) := by decide +kernel
theorem dX3_newBoard_4 : decode cX3_newBoard 4 = .ok (.ifCond .eq 10, 3) := by decide +kernel
theorem dX3_newBoard_7 : decode cX3_newBoard 7 = .ok (.iload_n 2, 1) := by decide +kernel
theorem dX3_newBoard_8 : decode cX3_newBoard 8 = .ok (.invokestatic 34, 3) := by decide +kernel
theorem dX3_newBoard_11 : decode cX3_newBoard 11 = .ok (.ifCond .ne 13, 3) := by decide +kernel
theorem dX3_newBoard_14 : decode cX3_newBoard 14 = .ok (.new 38, 3) := by decide +kernel
theorem dX3_newBoard_17 : decode cX3_newBoard 17 = .ok (.dup, 1) := by decide +kernel
theorem dX3_newBoard_18 : decode cX3_newBoard 18 = .ok (.ldc 40, 2) := by decide +kernel
theorem dX3_newBoard_20 : decode cX3_newBoard 20 = .ok (.invokespecial 42, 3) := by decide +kernel
theorem dX3_newBoard_23 : decode cX3_newBoard 23 = .ok (.athrow, 1) := by decide +kernel
theorem dX3_newBoard_24 : decode cX3_newBoard 24 = .ok (.aload_n 0, 1) := by decide +kernel
theorem dX3_newBoard_25 : decode cX3_newBoard 25 = .ok (.iload_n 1, 1) := by decide +kernel
theorem dX3_newBoard_26 : decode cX3_newBoard 26 = .ok (.iload_n 2, 1) := by decide +kernel
theorem dX3_newBoard_27 : decode cX3_newBoard 27 = .ok (.invokevirtual 30, 3) := by decide +kernel
theorem dX3_newBoard_30 : decode cX3_newBoard 30 = .ok (.iload_n 1, 1) := by decide +kernel
theorem dX3_newBoard_31 : decode cX3_newBoard 31 = .ok (.iload_n 2, 1) := by decide +kernel
theorem dX3_newBoard_32 : decode cX3_newBoard 32 = .ok (.imul, 1) := by decide +kernel
theorem dX3_newBoard_33 : decode cX3_newBoard 33 = .ok (.ireturn, 1) := by decide +kernel
set_option maxRecDepth 20000 in
theorem ggX3_turnWall_X3_checkCell : GoodIn wsX3_turnWall wsX3_checkCell := goodIn_ca (goodIn_r _ [9, 10, 11, 4, 12, 13, 14, 15, 16, 17, 24, 25, 26, 27, 28, 29, 30, 31, 32, 33, 34, 35] (by decide +kernel) (by decide +kernel)) (goodIn_sub (fun _ h => List.mem_cons_of_mem _ (List.mem_append_right _ h)) (by decide +kernel))
set_option maxRecDepth 20000 in
theorem gX3_turnWall_X3_checkCell : GoodIn wsX3_turnWall (wsV RX3 45 RX3 yX3_checkCell wsX3_checkCell) := goodIn_app (goodIn_of _ (by decide +kernel)) ggX3_turnWall_X3_checkCell
set_option maxRecDepth 20000 in
theorem ggX3_turnWall_X0_cellAt : GoodIn wsX3_turnWall wsX0_cellAt := goodIn_r _ [19] (by decide +kernel) (by decide +kernel)
set_option maxRecDepth 20000 in
theorem gX3_turnWall_X0_cellAt_n48 : GoodIn wsX3_turnWall (wsX0_cellAt) := ggX3_turnWall_X0_cellAt
set_option maxRecDepth 20000 in
theorem ggX3_turnWall_X0_turnOver : GoodIn wsX3_turnWall wsX0_turnOver := goodIn_r _ [22, 23, 32, 33, 34, 35] (by decide +kernel) (by decide +kernel)
set_option maxRecDepth 20000 in
theorem gX3_turnWall_X0_turnOver_n61 : GoodIn wsX3_turnWall (wsX0_turnOver) := ggX3_turnWall_X0_turnOver
theorem dX3_turnWall_0 : decode cX3_turnWall 0 = .ok (.aload_n 0, 1) := by decide +kernel
theorem dX3_turnWall_1 : decode cX3_turnWall 1 = .ok (.iload_n 1, 1) := by decide +kernel
theorem dX3_turnWall_2 : decode cX3_turnWall 2 = .ok (.iload_n 2, 1) := by decide +kernel
theorem dX3_turnWall_3 : decode cX3_turnWall 3 = .ok (.invokevirtual 45, 3) := by decide +kernel
theorem dX3_turnWall_6 : decode cX3_turnWall 6 = .ok (.iload_n 1, 1) := by decide +kernel
theorem dX3_turnWall_7 : decode cX3_turnWall 7 = .ok (.iload_n 2, 1) := by decide +kernel
theorem dX3_turnWall_8 : decode cX3_turnWall 8 = .ok (.invokestatic 48, 3) := by decide +kernel
theorem dX3_turnWall_11 : decode cX3_turnWall 11 = .ok (.istore_n 3, 1) := by decide +kernel
theorem dX3_turnWall_12 : decode cX3_turnWall 12 = .ok (.iload_n 3, 1) := by decide +kernel
theorem dX3_turnWall_13 : decode cX3_turnWall 13 = .ok (.aload_n 0, 1) := by decide +kernel
theorem dX3_turnWall_14 : decode cX3_turnWall 14 = .ok (.getfield 52, 3) := by decide +kernel
theorem dX3_turnWall_17 : decode cX3_turnWall 17 = .ok (.if_icmp .ne 13, 3) := by decide +kernel
theorem dX3_turnWall_20 : decode cX3_turnWall 20 = .ok (.new 56, 3) := by decide +kernel
theorem dX3_turnWall_23 : decode cX3_turnWall 23 = .ok (.dup, 1) := by decide +kernel
theorem dX3_turnWall_24 : decode cX3_turnWall 24 = .ok (.ldc 58, 2) := by decide +kernel
theorem dX3_turnWall_26 : decode cX3_turnWall 26 = .ok (.invokespecial 60, 3) := by decide +kernel
theorem dX3_turnWall_29 : decode cX3_turnWall 29 = .ok (.athrow, 1) := by decide +kernel
theorem dX3_turnWall_30 : decode cX3_turnWall 30 = .ok (.aload_n 0, 1) := by decide +kernel
theorem dX3_turnWall_31 : decode cX3_turnWall 31 = .ok (.getfield 12, 3) := by decide +kernel
theorem dX3_turnWall_34 : decode cX3_turnWall 34 = .ok (.iload_n 3, 1) := by decide +kernel
theorem dX3_turnWall_35 : decode cX3_turnWall 35 = .ok (.invokevirtual 61, 3) := by decide +kernel
theorem dX3_turnWall_38 : decode cX3_turnWall 38 = .ok (.ireturn, 1) := by decide +kernel
set_option maxRecDepth 20000 in
theorem ggX3_setColour_X3_checkFace : GoodIn wsX3_setColour wsX3_checkFace := goodIn_ca (goodIn_r _ [7, 8, 9, 10, 11, 6, 12] (by decide +kernel) (by decide +kernel)) (goodIn_sub (fun _ h => List.mem_cons_of_mem _ (List.mem_append_right _ h)) (by decide +kernel))
set_option maxRecDepth 20000 in
theorem gX3_setColour_X3_checkFace : GoodIn wsX3_setColour (va_wsS RX3 64 yX3_checkFace wsX3_checkFace) := goodIn_app (goodIn_of _ (by decide +kernel)) ggX3_setColour_X3_checkFace
theorem dX3_setColour_0 : decode cX3_setColour 0 = .ok (.iload_n 1, 1) := by decide +kernel
theorem dX3_setColour_1 : decode cX3_setColour 1 = .ok (.invokestatic 64, 3) := by decide +kernel
theorem dX3_setColour_4 : decode cX3_setColour 4 = .ok (.iload_n 2, 1) := by decide +kernel
theorem dX3_setColour_5 : decode cX3_setColour 5 = .ok (.iconst 1, 1) := by decide +kernel
theorem dX3_setColour_6 : decode cX3_setColour 6 = .ok (.if_icmp .lt 9, 3) := by decide +kernel
theorem dX3_setColour_9 : decode cX3_setColour 9 = .ok (.iload_n 2, 1) := by decide +kernel
theorem dX3_setColour_10 : decode cX3_setColour 10 = .ok (.bipush 9, 2) := by decide +kernel
theorem dX3_setColour_12 : decode cX3_setColour 12 = .ok (.if_icmp .le 13, 3) := by decide +kernel
theorem dX3_setColour_15 : decode cX3_setColour 15 = .ok (.new 38, 3) := by decide +kernel
theorem dX3_setColour_18 : decode cX3_setColour 18 = .ok (.dup, 1) := by decide +kernel
theorem dX3_setColour_19 : decode cX3_setColour 19 = .ok (.ldc 68, 2) := by decide +kernel
theorem dX3_setColour_21 : decode cX3_setColour 21 = .ok (.invokespecial 42, 3) := by decide +kernel
theorem dX3_setColour_24 : decode cX3_setColour 24 = .ok (.athrow, 1) := by decide +kernel
theorem dX3_setColour_25 : decode cX3_setColour 25 = .ok (.aload_n 0, 1) := by decide +kernel
theorem dX3_setColour_26 : decode cX3_setColour 26 = .ok (.getfield 23, 3) := by decide +kernel
theorem dX3_setColour_29 : decode cX3_setColour 29 = .ok (.iload_n 1, 1) := by decide +kernel
theorem dX3_setColour_30 : decode cX3_setColour 30 = .ok (.iaload, 1) := by decide +kernel
theorem dX3_setColour_31 : decode cX3_setColour 31 = .ok (.istore_n 3, 1) := by decide +kernel
theorem dX3_setColour_32 : decode cX3_setColour 32 = .ok (.aload_n 0, 1) := by decide +kernel
theorem dX3_setColour_33 : decode cX3_setColour 33 = .ok (.getfield 23, 3) := by decide +kernel
theorem dX3_setColour_36 : decode cX3_setColour 36 = .ok (.iload_n 1, 1) := by decide +kernel
theorem dX3_setColour_37 : decode cX3_setColour 37 = .ok (.iload_n 2, 1) := by decide +kernel
theorem dX3_setColour_38 : decode cX3_setColour 38 = .ok (.iastore, 1) := by decide +kernel
theorem dX3_setColour_39 : decode cX3_setColour 39 = .ok (.iload_n 3, 1) := by decide +kernel
theorem dX3_setColour_40 : decode cX3_setColour 40 = .ok (.ireturn, 1) := by decide +kernel
set_option maxRecDepth 20000 in
theorem ggX3_addPaint_X3_checkFace : GoodIn wsX3_addPaint wsX3_checkFace := goodIn_ca (goodIn_r _ [11, 12, 13, 14, 15, 10, 16] (by decide +kernel) (by decide +kernel)) (goodIn_sub (fun _ h => List.mem_cons_of_mem _ (List.mem_append_right _ h)) (by decide +kernel))
set_option maxRecDepth 20000 in
theorem gX3_addPaint_X3_checkFace : GoodIn wsX3_addPaint (va_wsS RX3 64 yX3_checkFace wsX3_checkFace) := goodIn_app (goodIn_of _ (by decide +kernel)) ggX3_addPaint_X3_checkFace
theorem dX3_addPaint_0 : decode cX3_addPaint 0 = .ok (.iload_n 1, 1) := by decide +kernel
theorem dX3_addPaint_1 : decode cX3_addPaint 1 = .ok (.invokestatic 64, 3) := by decide +kernel
theorem dX3_addPaint_4 : decode cX3_addPaint 4 = .ok (.iload_n 2, 1) := by decide +kernel
theorem dX3_addPaint_5 : decode cX3_addPaint 5 = .ok (.iconst 1, 1) := by decide +kernel
theorem dX3_addPaint_6 : decode cX3_addPaint 6 = .ok (.if_icmp .lt 9, 3) := by decide +kernel
theorem dX3_addPaint_9 : decode cX3_addPaint 9 = .ok (.iload_n 2, 1) := by decide +kernel
theorem dX3_addPaint_10 : decode cX3_addPaint 10 = .ok (.bipush 20, 2) := by decide +kernel
theorem dX3_addPaint_12 : decode cX3_addPaint 12 = .ok (.if_icmp .le 13, 3) := by decide +kernel
theorem dX3_addPaint_15 : decode cX3_addPaint 15 = .ok (.new 38, 3) := by decide +kernel
theorem dX3_addPaint_18 : decode cX3_addPaint 18 = .ok (.dup, 1) := by decide +kernel
theorem dX3_addPaint_19 : decode cX3_addPaint 19 = .ok (.ldc 70, 2) := by decide +kernel
theorem dX3_addPaint_21 : decode cX3_addPaint 21 = .ok (.invokespecial 42, 3) := by decide +kernel
theorem dX3_addPaint_24 : decode cX3_addPaint 24 = .ok (.athrow, 1) := by decide +kernel
theorem dX3_addPaint_25 : decode cX3_addPaint 25 = .ok (.aload_n 0, 1) := by decide +kernel
theorem dX3_addPaint_26 : decode cX3_addPaint 26 = .ok (.getfield 27, 3) := by decide +kernel
theorem dX3_addPaint_29 : decode cX3_addPaint 29 = .ok (.iload_n 1, 1) := by decide +kernel
theorem dX3_addPaint_30 : decode cX3_addPaint 30 = .ok (.bipush 20, 2) := by decide +kernel
theorem dX3_addPaint_32 : decode cX3_addPaint 32 = .ok (.aload_n 0, 1) := by decide +kernel
theorem dX3_addPaint_33 : decode cX3_addPaint 33 = .ok (.getfield 27, 3) := by decide +kernel
theorem dX3_addPaint_36 : decode cX3_addPaint 36 = .ok (.iload_n 1, 1) := by decide +kernel
theorem dX3_addPaint_37 : decode cX3_addPaint 37 = .ok (.iaload, 1) := by decide +kernel
theorem dX3_addPaint_38 : decode cX3_addPaint 38 = .ok (.iload_n 2, 1) := by decide +kernel
theorem dX3_addPaint_39 : decode cX3_addPaint 39 = .ok (.iadd, 1) := by decide +kernel
theorem dX3_addPaint_40 : decode cX3_addPaint 40 = .ok (.invokestatic 72, 3) := by decide +kernel
theorem dX3_addPaint_43 : decode cX3_addPaint 43 = .ok (.iastore, 1) := by decide +kernel
theorem dX3_addPaint_44 : decode cX3_addPaint 44 = .ok (.aload_n 0, 1) := by decide +kernel
theorem dX3_addPaint_45 : decode cX3_addPaint 45 = .ok (.getfield 27, 3) := by decide +kernel
theorem dX3_addPaint_48 : decode cX3_addPaint 48 = .ok (.iload_n 1, 1) := by decide +kernel
theorem dX3_addPaint_49 : decode cX3_addPaint 49 = .ok (.iaload, 1) := by decide +kernel
theorem dX3_addPaint_50 : decode cX3_addPaint 50 = .ok (.ireturn, 1) := by decide +kernel
set_option maxRecDepth 20000 in
theorem ggX3_put_X3_checkCell : GoodIn wsX3_put wsX3_checkCell := goodIn_ca (goodIn_r _ [14, 15, 16, 3, 17, 18, 19, 20, 21, 22, 43, 44, 45, 46, 47, 48, 49, 50, 51, 52, 53, 54] (by decide +kernel) (by decide +kernel)) (goodIn_sub (fun _ h => List.mem_cons_of_mem _ (List.mem_append_right _ h)) (by decide +kernel))
set_option maxRecDepth 20000 in
theorem gX3_put_X3_checkCell : GoodIn wsX3_put (wsV RX3 45 RX3 yX3_checkCell wsX3_checkCell) := goodIn_app (goodIn_of _ (by decide +kernel)) ggX3_put_X3_checkCell
set_option maxRecDepth 20000 in
theorem ggX3_put_X0_isFree : GoodIn wsX3_put wsX0_isFree := goodIn_r _ [25, 26, 27, 17, 19, 18, 20, 21, 22, 28, 29, 30, 51, 52, 53, 54] (by decide +kernel) (by decide +kernel)
set_option maxRecDepth 20000 in
theorem gX3_put_X0_isFree_n77 : GoodIn wsX3_put (wsX0_isFree) := ggX3_put_X0_isFree
set_option maxRecDepth 20000 in
theorem ggX3_put_X3_column : GoodIn wsX3_put wsX3_column := goodIn_r _ [34, 8, 35, 18, 36, 43, 44, 45, 46, 47, 48, 49, 50] (by decide +kernel) (by decide +kernel)
set_option maxRecDepth 20000 in
theorem gX3_put_X3_column : GoodIn wsX3_put (wsV RX3 83 RX3 yX3_column wsX3_column) := goodIn_app (goodIn_of _ (by decide +kernel)) ggX3_put_X3_column
set_option maxRecDepth 20000 in
theorem ggX3_put_X3_row : GoodIn wsX3_put wsX3_row := goodIn_r _ [40, 8, 41, 18, 42, 43, 44, 45, 46, 47, 48, 49, 50] (by decide +kernel) (by decide +kernel)
set_option maxRecDepth 20000 in
theorem gX3_put_X3_row : GoodIn wsX3_put (wsV RX3 91 RX3 yX3_row wsX3_row) := goodIn_app (goodIn_of _ (by decide +kernel)) ggX3_put_X3_row
set_option maxRecDepth 20000 in
theorem ggX3_put_X0_cellAt : GoodIn wsX3_put wsX0_cellAt := goodIn_r _ [30] (by decide +kernel) (by decide +kernel)
set_option maxRecDepth 20000 in
theorem gX3_put_X0_cellAt_n48 : GoodIn wsX3_put (wsX0_cellAt) := ggX3_put_X0_cellAt
theorem dX3_put_0 : decode cX3_put 0 = .ok (.aload_n 0, 1) := by decide +kernel
theorem dX3_put_1 : decode cX3_put 1 = .ok (.iload_n 1, 1) := by decide +kernel
theorem dX3_put_2 : decode cX3_put 2 = .ok (.iload_n 2, 1) := by decide +kernel
theorem dX3_put_3 : decode cX3_put 3 = .ok (.invokevirtual 45, 3) := by decide +kernel
theorem dX3_put_6 : decode cX3_put 6 = .ok (.aload_n 0, 1) := by decide +kernel
theorem dX3_put_7 : decode cX3_put 7 = .ok (.getfield 12, 3) := by decide +kernel
theorem dX3_put_10 : decode cX3_put 10 = .ok (.iload_n 1, 1) := by decide +kernel
theorem dX3_put_11 : decode cX3_put 11 = .ok (.iload_n 2, 1) := by decide +kernel
theorem dX3_put_12 : decode cX3_put 12 = .ok (.invokevirtual 77, 3) := by decide +kernel
theorem dX3_put_15 : decode cX3_put 15 = .ok (.ifCond .ne 13, 3) := by decide +kernel
theorem dX3_put_18 : decode cX3_put 18 = .ok (.new 56, 3) := by decide +kernel
theorem dX3_put_21 : decode cX3_put 21 = .ok (.dup, 1) := by decide +kernel
theorem dX3_put_22 : decode cX3_put 22 = .ok (.ldc 81, 2) := by decide +kernel
theorem dX3_put_24 : decode cX3_put 24 = .ok (.invokespecial 60, 3) := by decide +kernel
theorem dX3_put_27 : decode cX3_put 27 = .ok (.athrow, 1) := by decide +kernel
theorem dX3_put_28 : decode cX3_put 28 = .ok (.iload_n 1, 1) := by decide +kernel
theorem dX3_put_29 : decode cX3_put 29 = .ok (.aload_n 0, 1) := by decide +kernel
theorem dX3_put_30 : decode cX3_put 30 = .ok (.invokevirtual 83, 3) := by decide +kernel
theorem dX3_put_33 : decode cX3_put 33 = .ok (.isub, 1) := by decide +kernel
theorem dX3_put_34 : decode cX3_put 34 = .ok (.invokestatic 87, 3) := by decide +kernel
theorem dX3_put_37 : decode cX3_put 37 = .ok (.iload_n 2, 1) := by decide +kernel
theorem dX3_put_38 : decode cX3_put 38 = .ok (.aload_n 0, 1) := by decide +kernel
theorem dX3_put_39 : decode cX3_put 39 = .ok (.invokevirtual 91, 3) := by decide +kernel
theorem dX3_put_42 : decode cX3_put 42 = .ok (.isub, 1) := by decide +kernel
theorem dX3_put_43 : decode cX3_put 43 = .ok (.invokestatic 87, 3) := by decide +kernel
theorem dX3_put_46 : decode cX3_put 46 = .ok (.iadd, 1) := by decide +kernel
theorem dX3_put_47 : decode cX3_put 47 = .ok (.istore_n 3, 1) := by decide +kernel
theorem dX3_put_48 : decode cX3_put 48 = .ok (.aload_n 0, 1) := by decide +kernel
theorem dX3_put_49 : decode cX3_put 49 = .ok (.iload_n 1, 1) := by decide +kernel
theorem dX3_put_50 : decode cX3_put 50 = .ok (.iload_n 2, 1) := by decide +kernel
theorem dX3_put_51 : decode cX3_put 51 = .ok (.invokestatic 48, 3) := by decide +kernel
theorem dX3_put_54 : decode cX3_put 54 = .ok (.putfield 52, 3) := by decide +kernel
theorem dX3_put_57 : decode cX3_put 57 = .ok (.aload_n 0, 1) := by decide +kernel
theorem dX3_put_58 : decode cX3_put 58 = .ok (.iconst 1, 1) := by decide +kernel
theorem dX3_put_59 : decode cX3_put 59 = .ok (.putfield 96, 3) := by decide +kernel
theorem dX3_put_62 : decode cX3_put 62 = .ok (.iload_n 3, 1) := by decide +kernel
theorem dX3_put_63 : decode cX3_put 63 = .ok (.ireturn, 1) := by decide +kernel
set_option maxRecDepth 20000 in
theorem ggX3_roll_X3_checkDirection : GoodIn wsX3_roll wsX3_checkDirection := goodIn_ca (goodIn_r _ [6, 7, 8] (by decide +kernel) (by decide +kernel)) (goodIn_sub (fun _ h => List.mem_cons_of_mem _ (List.mem_append_right _ h)) (by decide +kernel))
set_option maxRecDepth 20000 in
theorem gX3_roll_X3_checkDirection : GoodIn wsX3_roll (va_wsS RX3 99 yX3_checkDirection wsX3_checkDirection) := goodIn_app (goodIn_of _ (by decide +kernel)) ggX3_roll_X3_checkDirection
set_option maxRecDepth 20000 in
theorem ggX3_roll_X3_rollOnce : GoodIn wsX3_roll wsX3_rollOnce := goodIn_r _ [12, 13, 14, 15, 16, 17, 18, 19, 20, 21, 22, 23, 24, 25, 26, 27, 28, 29, 30, 31, 32, 33, 34, 35, 36, 37, 38, 39, 40, 41, 42, 43, 44, 45, 46, 47, 48, 49, 50, 51, 52, 53, 54, 55, 56, 57, 58, 59, 60, 61, 5, 62, 63, 64, 65, 66, 67, 68, 69, 70, 71, 72, 73, 74, 75, 76, 77, 78, 79, 80, 81, 82, 83, 84, 85, 86, 87, 88, 89, 90, 91, 92] (by decide +kernel) (by decide +kernel)
set_option maxRecDepth 20000 in
theorem gX3_roll_X3_rollOnce : GoodIn wsX3_roll (wsV RX3 102 RX3 yX3_rollOnce wsX3_rollOnce) := goodIn_app (goodIn_of _ (by decide +kernel)) ggX3_roll_X3_rollOnce
set_option maxRecDepth 20000 in
theorem ggX3_roll_X3_bottom : GoodIn wsX3_roll wsX3_bottom := goodIn_r _ [69, 70, 71, 72, 5, 73, 15, 45, 42, 46, 81, 82, 83, 84, 85, 86, 87, 88] (by decide +kernel) (by decide +kernel)
set_option maxRecDepth 20000 in
theorem gX3_roll_X3_bottom : GoodIn wsX3_roll (wsV RX3 107 RX3 yX3_bottom wsX3_bottom) := goodIn_app (goodIn_of _ (by decide +kernel)) ggX3_roll_X3_bottom
theorem dX3_roll_0 : decode cX3_roll 0 = .ok (.iload_n 1, 1) := by decide +kernel
theorem dX3_roll_1 : decode cX3_roll 1 = .ok (.invokestatic 99, 3) := by decide +kernel
theorem dX3_roll_4 : decode cX3_roll 4 = .ok (.aload_n 0, 1) := by decide +kernel
theorem dX3_roll_5 : decode cX3_roll 5 = .ok (.iload_n 1, 1) := by decide +kernel
theorem dX3_roll_6 : decode cX3_roll 6 = .ok (.invokevirtual 102, 3) := by decide +kernel
theorem dX3_roll_9 : decode cX3_roll 9 = .ok (.ifCond .ne 13, 3) := by decide +kernel
theorem dX3_roll_12 : decode cX3_roll 12 = .ok (.new 56, 3) := by decide +kernel
theorem dX3_roll_15 : decode cX3_roll 15 = .ok (.dup, 1) := by decide +kernel
theorem dX3_roll_16 : decode cX3_roll 16 = .ok (.ldc 105, 2) := by decide +kernel
theorem dX3_roll_18 : decode cX3_roll 18 = .ok (.invokespecial 60, 3) := by decide +kernel
theorem dX3_roll_21 : decode cX3_roll 21 = .ok (.athrow, 1) := by decide +kernel
theorem dX3_roll_22 : decode cX3_roll 22 = .ok (.aload_n 0, 1) := by decide +kernel
theorem dX3_roll_23 : decode cX3_roll 23 = .ok (.invokevirtual 107, 3) := by decide +kernel
theorem dX3_roll_26 : decode cX3_roll 26 = .ok (.ireturn, 1) := by decide +kernel
set_option maxRecDepth 20000 in
theorem ggX3_rollOn_X3_checkDirection : GoodIn wsX3_rollOn wsX3_checkDirection := goodIn_ca (goodIn_r _ [6, 7, 8] (by decide +kernel) (by decide +kernel)) (goodIn_sub (fun _ h => List.mem_cons_of_mem _ (List.mem_append_right _ h)) (by decide +kernel))
set_option maxRecDepth 20000 in
theorem gX3_rollOn_X3_checkDirection : GoodIn wsX3_rollOn (va_wsS RX3 99 yX3_checkDirection wsX3_checkDirection) := goodIn_app (goodIn_of _ (by decide +kernel)) ggX3_rollOn_X3_checkDirection
set_option maxRecDepth 20000 in
theorem ggX3_rollOn_X3_rollOnce : GoodIn wsX3_rollOn wsX3_rollOnce := goodIn_r _ [12, 13, 14, 15, 16, 17, 18, 19, 20, 21, 22, 23, 24, 25, 26, 27, 28, 29, 30, 31, 32, 33, 34, 35, 36, 37, 38, 39, 40, 41, 42, 43, 44, 45, 46, 47, 48, 49, 50, 51, 52, 53, 54, 55, 56, 57, 58, 59, 60, 61, 5, 62, 63, 64, 65, 66, 67, 68, 69, 70, 71, 72, 73, 74, 75, 76, 77, 78, 79, 80, 81, 82, 83, 84, 85, 86, 87, 88, 89, 90, 91, 92] (by decide +kernel) (by decide +kernel)
set_option maxRecDepth 20000 in
theorem gX3_rollOn_X3_rollOnce : GoodIn wsX3_rollOn (wsV RX3 102 RX3 yX3_rollOnce wsX3_rollOnce) := goodIn_app (goodIn_of _ (by decide +kernel)) ggX3_rollOn_X3_rollOnce
theorem dX3_rollOn_0 : decode cX3_rollOn 0 = .ok (.iload_n 1, 1) := by decide +kernel
theorem dX3_rollOn_1 : decode cX3_rollOn 1 = .ok (.invokestatic 99, 3) := by decide +kernel
theorem dX3_rollOn_4 : decode cX3_rollOn 4 = .ok (.iload_n 2, 1) := by decide +kernel
theorem dX3_rollOn_5 : decode cX3_rollOn 5 = .ok (.iconst 1, 1) := by decide +kernel
theorem dX3_rollOn_6 : decode cX3_rollOn 6 = .ok (.if_icmp .lt 9, 3) := by decide +kernel
theorem dX3_rollOn_9 : decode cX3_rollOn 9 = .ok (.iload_n 2, 1) := by decide +kernel
theorem dX3_rollOn_10 : decode cX3_rollOn 10 = .ok (.bipush 50, 2) := by decide +kernel
theorem dX3_rollOn_12 : decode cX3_rollOn 12 = .ok (.if_icmp .le 13, 3) := by decide +kernel
theorem dX3_rollOn_15 : decode cX3_rollOn 15 = .ok (.new 38, 3) := by decide +kernel
theorem dX3_rollOn_18 : decode cX3_rollOn 18 = .ok (.dup, 1) := by decide +kernel
theorem dX3_rollOn_19 : decode cX3_rollOn 19 = .ok (.ldc 110, 2) := by decide +kernel
theorem dX3_rollOn_21 : decode cX3_rollOn 21 = .ok (.invokespecial 42, 3) := by decide +kernel
theorem dX3_rollOn_24 : decode cX3_rollOn 24 = .ok (.athrow, 1) := by decide +kernel
theorem dX3_rollOn_25 : decode cX3_rollOn 25 = .ok (.iconst 0, 1) := by decide +kernel
theorem dX3_rollOn_26 : decode cX3_rollOn 26 = .ok (.istore_n 3, 1) := by decide +kernel
theorem dX3_rollOn_27 : decode cX3_rollOn 27 = .ok (.iload_n 3, 1) := by decide +kernel
theorem dX3_rollOn_28 : decode cX3_rollOn 28 = .ok (.iload_n 2, 1) := by decide +kernel
theorem dX3_rollOn_29 : decode cX3_rollOn 29 = .ok (.if_icmp .ge 17, 3) := by decide +kernel
theorem dX3_rollOn_32 : decode cX3_rollOn 32 = .ok (.aload_n 0, 1) := by decide +kernel
theorem dX3_rollOn_33 : decode cX3_rollOn 33 = .ok (.iload_n 1, 1) := by decide +kernel
theorem dX3_rollOn_34 : decode cX3_rollOn 34 = .ok (.invokevirtual 102, 3) := by decide +kernel
theorem dX3_rollOn_37 : decode cX3_rollOn 37 = .ok (.ifCond .eq 9, 3) := by decide +kernel
theorem dX3_rollOn_40 : decode cX3_rollOn 40 = .ok (.iinc 3 1, 3) := by decide +kernel
theorem dX3_rollOn_43 : decode cX3_rollOn 43 = .ok (.goto (-16), 3) := by decide +kernel
theorem dX3_rollOn_46 : decode cX3_rollOn 46 = .ok (.iload_n 3, 1) := by decide +kernel
theorem dX3_rollOn_47 : decode cX3_rollOn 47 = .ok (.ireturn, 1) := by decide +kernel
set_option maxRecDepth 20000 in
theorem ggX3_column_X0_columnOf : GoodIn wsX3_column wsX0_columnOf := goodIn_r _ [4] (by decide +kernel) (by decide +kernel)
set_option maxRecDepth 20000 in
theorem gX3_column_X0_columnOf_n112 : GoodIn wsX3_column (wsX0_columnOf) := ggX3_column_X0_columnOf
theorem dX3_column_0 : decode cX3_column 0 = .ok (.aload_n 0, 1) := by decide +kernel
theorem dX3_column_1 : decode cX3_column 1 = .ok (.getfield 52, 3) := by decide +kernel
theorem dX3_column_4 : decode cX3_column 4 = .ok (.invokestatic 112, 3) := by decide +kernel
theorem dX3_column_7 : decode cX3_column 7 = .ok (.ireturn, 1) := by decide +kernel
set_option maxRecDepth 20000 in
theorem ggX3_row_X0_rowOf : GoodIn wsX3_row wsX0_rowOf := goodIn_r _ [4] (by decide +kernel) (by decide +kernel)
set_option maxRecDepth 20000 in
theorem gX3_row_X0_rowOf_n115 : GoodIn wsX3_row (wsX0_rowOf) := ggX3_row_X0_rowOf
theorem dX3_row_0 : decode cX3_row 0 = .ok (.aload_n 0, 1) := by decide +kernel
theorem dX3_row_1 : decode cX3_row 1 = .ok (.getfield 52, 3) := by decide +kernel
theorem dX3_row_4 : decode cX3_row 4 = .ok (.invokestatic 115, 3) := by decide +kernel
theorem dX3_row_7 : decode cX3_row 7 = .ok (.ireturn, 1) := by decide +kernel
set_option maxRecDepth 20000 in
theorem ggX3_top_X2_topOf : GoodIn wsX3_top wsX2_topOf := goodIn_r _ [4] (by decide +kernel) (by decide +kernel)
set_option maxRecDepth 20000 in
theorem gX3_top_X2_topOf_n118 : GoodIn wsX3_top (wsX2_topOf) := ggX3_top_X2_topOf
theorem dX3_top_0 : decode cX3_top 0 = .ok (.aload_n 0, 1) := by decide +kernel
theorem dX3_top_1 : decode cX3_top 1 = .ok (.getfield 96, 3) := by decide +kernel
theorem dX3_top_4 : decode cX3_top 4 = .ok (.invokestatic 118, 3) := by decide +kernel
theorem dX3_top_7 : decode cX3_top 7 = .ok (.ireturn, 1) := by decide +kernel
set_option maxRecDepth 20000 in
theorem ggX3_bottom_X3_top : GoodIn wsX3_bottom wsX3_top := goodIn_r _ [5, 6, 7, 8, 9, 10, 11, 12, 13, 14, 15, 16, 17] (by decide +kernel) (by decide +kernel)
set_option maxRecDepth 20000 in
theorem gX3_bottom_X3_top : GoodIn wsX3_bottom (wsV RX3 121 RX3 yX3_top wsX3_top) := goodIn_app (goodIn_of _ (by decide +kernel)) ggX3_bottom_X3_top
theorem dX3_bottom_0 : decode cX3_bottom 0 = .ok (.bipush 7, 2) := by decide +kernel
theorem dX3_bottom_2 : decode cX3_bottom 2 = .ok (.aload_n 0, 1) := by decide +kernel
theorem dX3_bottom_3 : decode cX3_bottom 3 = .ok (.invokevirtual 121, 3) := by decide +kernel
theorem dX3_bottom_6 : decode cX3_bottom 6 = .ok (.isub, 1) := by decide +kernel
theorem dX3_bottom_7 : decode cX3_bottom 7 = .ok (.ireturn, 1) := by decide +kernel
set_option maxRecDepth 20000 in
theorem ggX3_faceTo_X3_checkDirection : GoodIn wsX3_faceTo wsX3_checkDirection := goodIn_ca (goodIn_r _ [5, 6, 7] (by decide +kernel) (by decide +kernel)) (goodIn_sub (fun _ h => List.mem_cons_of_mem _ (List.mem_append_right _ h)) (by decide +kernel))
set_option maxRecDepth 20000 in
theorem gX3_faceTo_X3_checkDirection : GoodIn wsX3_faceTo (va_wsS RX3 99 yX3_checkDirection wsX3_checkDirection) := goodIn_app (goodIn_of _ (by decide +kernel)) ggX3_faceTo_X3_checkDirection
set_option maxRecDepth 20000 in
theorem ggX3_faceTo_X2_faceOn : GoodIn wsX3_faceTo wsX2_faceOn := goodIn_r _ [10, 11, 12, 9, 13, 14, 15, 16, 17, 18, 19, 20, 21, 22] (by decide +kernel) (by decide +kernel)
set_option maxRecDepth 20000 in
theorem gX3_faceTo_X2_faceOn_n124 : GoodIn wsX3_faceTo (wsX2_faceOn) := ggX3_faceTo_X2_faceOn
theorem dX3_faceTo_0 : decode cX3_faceTo 0 = .ok (.iload_n 1, 1) := by decide +kernel
theorem dX3_faceTo_1 : decode cX3_faceTo 1 = .ok (.invokestatic 99, 3) := by decide +kernel
theorem dX3_faceTo_4 : decode cX3_faceTo 4 = .ok (.aload_n 0, 1) := by decide +kernel
theorem dX3_faceTo_5 : decode cX3_faceTo 5 = .ok (.getfield 96, 3) := by decide +kernel
theorem dX3_faceTo_8 : decode cX3_faceTo 8 = .ok (.iload_n 1, 1) := by decide +kernel
theorem dX3_faceTo_9 : decode cX3_faceTo 9 = .ok (.invokestatic 124, 3) := by decide +kernel
theorem dX3_faceTo_12 : decode cX3_faceTo 12 = .ok (.ireturn, 1) := by decide +kernel
theorem dX3_isAsAtFirst_0 : decode cX3_isAsAtFirst 0 = .ok (.aload_n 0, 1) := by decide +kernel
theorem dX3_isAsAtFirst_1 : decode cX3_isAsAtFirst 1 = .ok (.getfield 96, 3) := by decide +kernel
theorem dX3_isAsAtFirst_4 : decode cX3_isAsAtFirst 4 = .ok (.iconst 1, 1) := by decide +kernel
theorem dX3_isAsAtFirst_5 : decode cX3_isAsAtFirst 5 = .ok (.if_icmp .ne 7, 3) := by decide +kernel
theorem dX3_isAsAtFirst_8 : decode cX3_isAsAtFirst 8 = .ok (.iconst 1, 1) := by decide +kernel
theorem dX3_isAsAtFirst_9 : decode cX3_isAsAtFirst 9 = .ok (.goto 4, 3) := by decide +kernel
theorem dX3_isAsAtFirst_12 : decode cX3_isAsAtFirst 12 = .ok (.iconst 0, 1) := by decide +kernel
theorem dX3_isAsAtFirst_13 : decode cX3_isAsAtFirst 13 = .ok (.ireturn, 1) := by decide +kernel
set_option maxRecDepth 20000 in
theorem ggX3_colourOf_X3_checkFace : GoodIn wsX3_colourOf wsX3_checkFace := goodIn_ca (goodIn_r _ [5, 6, 7, 8, 9, 4, 10] (by decide +kernel) (by decide +kernel)) (goodIn_sub (fun _ h => List.mem_cons_of_mem _ (List.mem_append_right _ h)) (by decide +kernel))
set_option maxRecDepth 20000 in
theorem gX3_colourOf_X3_checkFace : GoodIn wsX3_colourOf (va_wsS RX3 64 yX3_checkFace wsX3_checkFace) := goodIn_app (goodIn_of _ (by decide +kernel)) ggX3_colourOf_X3_checkFace
theorem dX3_colourOf_0 : decode cX3_colourOf 0 = .ok (.iload_n 1, 1) := by decide +kernel
theorem dX3_colourOf_1 : decode cX3_colourOf 1 = .ok (.invokestatic 64, 3) := by decide +kernel
theorem dX3_colourOf_4 : decode cX3_colourOf 4 = .ok (.aload_n 0, 1) := by decide +kernel
theorem dX3_colourOf_5 : decode cX3_colourOf 5 = .ok (.getfield 23, 3) := by decide +kernel
theorem dX3_colourOf_8 : decode cX3_colourOf 8 = .ok (.iload_n 1, 1) := by decide +kernel
theorem dX3_colourOf_9 : decode cX3_colourOf 9 = .ok (.iaload, 1) := by decide +kernel
theorem dX3_colourOf_10 : decode cX3_colourOf 10 = .ok (.ireturn, 1) := by decide +kernel
set_option maxRecDepth 20000 in
theorem ggX3_paintOf_X3_checkFace : GoodIn wsX3_paintOf wsX3_checkFace := goodIn_ca (goodIn_r _ [5, 6, 7, 8, 9, 4, 10] (by decide +kernel) (by decide +kernel)) (goodIn_sub (fun _ h => List.mem_cons_of_mem _ (List.mem_append_right _ h)) (by decide +kernel))
set_option maxRecDepth 20000 in
theorem gX3_paintOf_X3_checkFace : GoodIn wsX3_paintOf (va_wsS RX3 64 yX3_checkFace wsX3_checkFace) := goodIn_app (goodIn_of _ (by decide +kernel)) ggX3_paintOf_X3_checkFace
theorem dX3_paintOf_0 : decode cX3_paintOf 0 = .ok (.iload_n 1, 1) := by decide +kernel
theorem dX3_paintOf_1 : decode cX3_paintOf 1 = .ok (.invokestatic 64, 3) := by decide +kernel
theorem dX3_paintOf_4 : decode cX3_paintOf 4 = .ok (.aload_n 0, 1) := by decide +kernel
theorem dX3_paintOf_5 : decode cX3_paintOf 5 = .ok (.getfield 27, 3) := by decide +kernel
theorem dX3_paintOf_8 : decode cX3_paintOf 8 = .ok (.iload_n 1, 1) := by decide +kernel
theorem dX3_paintOf_9 : decode cX3_paintOf 9 = .ok (.iaload, 1) := by decide +kernel
theorem dX3_paintOf_10 : decode cX3_paintOf 10 = .ok (.ireturn, 1) := by decide +kernel
set_option maxRecDepth 20000 in
theorem ggX3_isWall_X3_checkCell : GoodIn wsX3_isWall wsX3_checkCell := goodIn_ca (goodIn_r _ [6, 7, 8, 1, 9, 10, 11, 12, 13, 14, 23, 24, 25, 26, 27, 28, 29, 30, 31, 32, 33, 34] (by decide +kernel) (by decide +kernel)) (goodIn_sub (fun _ h => List.mem_cons_of_mem _ (List.mem_append_right _ h)) (by decide +kernel))
set_option maxRecDepth 20000 in
theorem gX3_isWall_X3_checkCell : GoodIn wsX3_isWall (wsV RX3 45 RX3 yX3_checkCell wsX3_checkCell) := goodIn_app (goodIn_of _ (by decide +kernel)) ggX3_isWall_X3_checkCell
set_option maxRecDepth 20000 in
theorem ggX3_isWall_X0_isFree : GoodIn wsX3_isWall wsX0_isFree := goodIn_r _ [17, 18, 19, 9, 11, 10, 12, 13, 14, 20, 21, 22, 31, 32, 33, 34] (by decide +kernel) (by decide +kernel)
set_option maxRecDepth 20000 in
theorem gX3_isWall_X0_isFree_n77 : GoodIn wsX3_isWall (wsX0_isFree) := ggX3_isWall_X0_isFree
theorem dX3_isWall_0 : decode cX3_isWall 0 = .ok (.aload_n 0, 1) := by decide +kernel
theorem dX3_isWall_1 : decode cX3_isWall 1 = .ok (.iload_n 1, 1) := by decide +kernel
theorem dX3_isWall_2 : decode cX3_isWall 2 = .ok (.iload_n 2, 1) := by decide +kernel
theorem dX3_isWall_3 : decode cX3_isWall 3 = .ok (.invokevirtual 45, 3) := by decide +kernel
theorem dX3_isWall_6 : decode cX3_isWall 6 = .ok (.aload_n 0, 1) := by decide +kernel
theorem dX3_isWall_7 : decode cX3_isWall 7 = .ok (.getfield 12, 3) := by decide +kernel
theorem dX3_isWall_10 : decode cX3_isWall 10 = .ok (.iload_n 1, 1) := by decide +kernel
theorem dX3_isWall_11 : decode cX3_isWall 11 = .ok (.iload_n 2, 1) := by decide +kernel
theorem dX3_isWall_12 : decode cX3_isWall 12 = .ok (.invokevirtual 77, 3) := by decide +kernel
theorem dX3_isWall_15 : decode cX3_isWall 15 = .ok (.ifCond .ne 7, 3) := by decide +kernel
theorem dX3_isWall_18 : decode cX3_isWall 18 = .ok (.iconst 1, 1) := by decide +kernel
theorem dX3_isWall_19 : decode cX3_isWall 19 = .ok (.goto 4, 3) := by decide +kernel
theorem dX3_isWall_22 : decode cX3_isWall 22 = .ok (.iconst 0, 1) := by decide +kernel
theorem dX3_isWall_23 : decode cX3_isWall 23 = .ok (.ireturn, 1) := by decide +kernel
set_option maxRecDepth 20000 in
theorem ggX3_printAt_X3_checkCell : GoodIn wsX3_printAt wsX3_checkCell := goodIn_ca (goodIn_r _ [6, 7, 8, 1, 9, 10, 11, 12, 13, 14, 23, 24, 25, 26, 27, 28, 29, 30, 31, 32, 33, 34] (by decide +kernel) (by decide +kernel)) (goodIn_sub (fun _ h => List.mem_cons_of_mem _ (List.mem_append_right _ h)) (by decide +kernel))
set_option maxRecDepth 20000 in
theorem gX3_printAt_X3_checkCell : GoodIn wsX3_printAt (wsV RX3 45 RX3 yX3_checkCell wsX3_checkCell) := goodIn_app (goodIn_of _ (by decide +kernel)) ggX3_printAt_X3_checkCell
set_option maxRecDepth 20000 in
theorem ggX3_printAt_X0_printOn : GoodIn wsX3_printAt wsX0_printOn := goodIn_r _ [17, 18, 19, 9, 11, 10, 12, 13, 14, 20, 21, 22, 31, 32, 33, 34] (by decide +kernel) (by decide +kernel)
set_option maxRecDepth 20000 in
theorem gX3_printAt_X0_printOn_n127 : GoodIn wsX3_printAt (wsX0_printOn) := ggX3_printAt_X0_printOn
theorem dX3_printAt_0 : decode cX3_printAt 0 = .ok (.aload_n 0, 1) := by decide +kernel
theorem dX3_printAt_1 : decode cX3_printAt 1 = .ok (.iload_n 1, 1) := by decide +kernel
theorem dX3_printAt_2 : decode cX3_printAt 2 = .ok (.iload_n 2, 1) := by decide +kernel
theorem dX3_printAt_3 : decode cX3_printAt 3 = .ok (.invokevirtual 45, 3) := by decide +kernel
theorem dX3_printAt_6 : decode cX3_printAt 6 = .ok (.aload_n 0, 1) := by decide +kernel
theorem dX3_printAt_7 : decode cX3_printAt 7 = .ok (.getfield 12, 3) := by decide +kernel
theorem dX3_printAt_10 : decode cX3_printAt 10 = .ok (.iload_n 1, 1) := by decide +kernel
theorem dX3_printAt_11 : decode cX3_printAt 11 = .ok (.iload_n 2, 1) := by decide +kernel
theorem dX3_printAt_12 : decode cX3_printAt 12 = .ok (.invokevirtual 127, 3) := by decide +kernel
theorem dX3_printAt_15 : decode cX3_printAt 15 = .ok (.ireturn, 1) := by decide +kernel
set_option maxRecDepth 20000 in
theorem ggX3_canRoll_X3_checkDirection : GoodIn wsX3_canRoll wsX3_checkDirection := goodIn_ca (goodIn_r _ [6, 7, 8] (by decide +kernel) (by decide +kernel)) (goodIn_sub (fun _ h => List.mem_cons_of_mem _ (List.mem_append_right _ h)) (by decide +kernel))
set_option maxRecDepth 20000 in
theorem gX3_canRoll_X3_checkDirection : GoodIn wsX3_canRoll (va_wsS RX3 99 yX3_checkDirection wsX3_checkDirection) := goodIn_app (goodIn_of _ (by decide +kernel)) ggX3_canRoll_X3_checkDirection
set_option maxRecDepth 20000 in
theorem ggX3_canRoll_X0_nextCell : GoodIn wsX3_canRoll wsX0_nextCell := goodIn_r _ [12, 13, 14, 10, 15, 16, 17, 18, 19, 20, 21, 22, 23, 24, 25, 26, 27, 28, 29, 30, 31, 32, 41, 42, 43, 44] (by decide +kernel) (by decide +kernel)
set_option maxRecDepth 20000 in
theorem gX3_canRoll_X0_nextCell_n130 : GoodIn wsX3_canRoll (wsX0_nextCell) := ggX3_canRoll_X0_nextCell
theorem dX3_canRoll_0 : decode cX3_canRoll 0 = .ok (.iload_n 1, 1) := by decide +kernel
theorem dX3_canRoll_1 : decode cX3_canRoll 1 = .ok (.invokestatic 99, 3) := by decide +kernel
theorem dX3_canRoll_4 : decode cX3_canRoll 4 = .ok (.aload_n 0, 1) := by decide +kernel
theorem dX3_canRoll_5 : decode cX3_canRoll 5 = .ok (.getfield 12, 3) := by decide +kernel
theorem dX3_canRoll_8 : decode cX3_canRoll 8 = .ok (.aload_n 0, 1) := by decide +kernel
theorem dX3_canRoll_9 : decode cX3_canRoll 9 = .ok (.getfield 52, 3) := by decide +kernel
theorem dX3_canRoll_12 : decode cX3_canRoll 12 = .ok (.iload_n 1, 1) := by decide +kernel
theorem dX3_canRoll_13 : decode cX3_canRoll 13 = .ok (.invokevirtual 130, 3) := by decide +kernel
theorem dX3_canRoll_16 : decode cX3_canRoll 16 = .ok (.iconst (-1), 1) := by decide +kernel
theorem dX3_canRoll_17 : decode cX3_canRoll 17 = .ok (.if_icmp .eq 7, 3) := by decide +kernel
theorem dX3_canRoll_20 : decode cX3_canRoll 20 = .ok (.iconst 1, 1) := by decide +kernel
theorem dX3_canRoll_21 : decode cX3_canRoll 21 = .ok (.goto 4, 3) := by decide +kernel
theorem dX3_canRoll_24 : decode cX3_canRoll 24 = .ok (.iconst 0, 1) := by decide +kernel
theorem dX3_canRoll_25 : decode cX3_canRoll 25 = .ok (.ireturn, 1) := by decide +kernel
theorem dX3_width_0 : decode cX3_width 0 = .ok (.aload_n 0, 1) := by decide +kernel
theorem dX3_width_1 : decode cX3_width 1 = .ok (.getfield 12, 3) := by decide +kernel
theorem dX3_width_4 : decode cX3_width 4 = .ok (.getfield 133, 3) := by decide +kernel
theorem dX3_width_7 : decode cX3_width 7 = .ok (.ireturn, 1) := by decide +kernel
theorem dX3_height_0 : decode cX3_height 0 = .ok (.aload_n 0, 1) := by decide +kernel
theorem dX3_height_1 : decode cX3_height 1 = .ok (.getfield 12, 3) := by decide +kernel
theorem dX3_height_4 : decode cX3_height 4 = .ok (.getfield 136, 3) := by decide +kernel
theorem dX3_height_7 : decode cX3_height 7 = .ok (.ireturn, 1) := by decide +kernel
set_option maxRecDepth 20000 in
theorem ggX3_walls_X0_countWalls : GoodIn wsX3_walls wsX0_countWalls := goodIn_r _ [5, 6, 15, 16, 17, 18] (by decide +kernel) (by decide +kernel)
set_option maxRecDepth 20000 in
theorem gX3_walls_X0_countWalls_n139 : GoodIn wsX3_walls (wsX0_countWalls) := ggX3_walls_X0_countWalls
theorem dX3_walls_0 : decode cX3_walls 0 = .ok (.aload_n 0, 1) := by decide +kernel
theorem dX3_walls_1 : decode cX3_walls 1 = .ok (.getfield 12, 3) := by decide +kernel
theorem dX3_walls_4 : decode cX3_walls 4 = .ok (.invokevirtual 139, 3) := by decide +kernel
theorem dX3_walls_7 : decode cX3_walls 7 = .ok (.ireturn, 1) := by decide +kernel
theorem dX3_rolls_0 : decode cX3_rolls 0 = .ok (.aload_n 0, 1) := by decide +kernel
theorem dX3_rolls_1 : decode cX3_rolls 1 = .ok (.getfield 142, 3) := by decide +kernel
theorem dX3_rolls_4 : decode cX3_rolls 4 = .ok (.ireturn, 1) := by decide +kernel
theorem dX3_prints_0 : decode cX3_prints 0 = .ok (.aload_n 0, 1) := by decide +kernel
theorem dX3_prints_1 : decode cX3_prints 1 = .ok (.getfield 145, 3) := by decide +kernel
theorem dX3_prints_4 : decode cX3_prints 4 = .ok (.ireturn, 1) := by decide +kernel
set_option maxRecDepth 20000 in
theorem ggX3_cellsWith_X0_countPrints : GoodIn wsX3_cellsWith wsX0_countPrints := goodIn_r _ [7, 8, 9, 10, 11, 12, 5, 13, 14, 15, 16, 17, 18, 19, 20, 21, 30, 31, 32, 33] (by decide +kernel) (by decide +kernel)
set_option maxRecDepth 20000 in
theorem gX3_cellsWith_X0_countPrints_n153 : GoodIn wsX3_cellsWith (wsX0_countPrints) := ggX3_cellsWith_X0_countPrints
theorem dX3_cellsWith_0 : decode cX3_cellsWith 0 = .ok (.iload_n 1, 1) := by decide +kernel
theorem dX3_cellsWith_1 : decode cX3_cellsWith 1 = .ok (.ifCond .lt 9, 3) := by decide +kernel
theorem dX3_cellsWith_4 : decode cX3_cellsWith 4 = .ok (.iload_n 1, 1) := by decide +kernel
theorem dX3_cellsWith_5 : decode cX3_cellsWith 5 = .ok (.bipush 9, 2) := by decide +kernel
theorem dX3_cellsWith_7 : decode cX3_cellsWith 7 = .ok (.if_icmp .le 13, 3) := by decide +kernel
theorem dX3_cellsWith_10 : decode cX3_cellsWith 10 = .ok (.new 148, 3) := by decide +kernel
theorem dX3_cellsWith_13 : decode cX3_cellsWith 13 = .ok (.dup, 1) := by decide +kernel
theorem dX3_cellsWith_14 : decode cX3_cellsWith 14 = .ok (.ldc 150, 2) := by decide +kernel
theorem dX3_cellsWith_16 : decode cX3_cellsWith 16 = .ok (.invokespecial 152, 3) := by decide +kernel
theorem dX3_cellsWith_19 : decode cX3_cellsWith 19 = .ok (.athrow, 1) := by decide +kernel
theorem dX3_cellsWith_20 : decode cX3_cellsWith 20 = .ok (.aload_n 0, 1) := by decide +kernel
theorem dX3_cellsWith_21 : decode cX3_cellsWith 21 = .ok (.getfield 12, 3) := by decide +kernel
theorem dX3_cellsWith_24 : decode cX3_cellsWith 24 = .ok (.iload_n 1, 1) := by decide +kernel
theorem dX3_cellsWith_25 : decode cX3_cellsWith 25 = .ok (.invokevirtual 153, 3) := by decide +kernel
theorem dX3_cellsWith_28 : decode cX3_cellsWith 28 = .ok (.ireturn, 1) := by decide +kernel
set_option maxRecDepth 20000 in
theorem ggX3_fewestRolls_X3_checkCell : GoodIn wsX3_fewestRolls wsX3_checkCell := goodIn_ca (goodIn_r _ [6, 7, 8, 9, 10, 11, 12, 13, 14, 15, 94, 95, 96, 97, 98, 99, 100, 101, 102, 103, 104, 105] (by decide +kernel) (by decide +kernel)) (goodIn_sub (fun _ h => List.mem_cons_of_mem _ (List.mem_append_right _ h)) (by decide +kernel))
set_option maxRecDepth 20000 in
theorem gX3_fewestRolls_X3_checkCell : GoodIn wsX3_fewestRolls (wsV RX3 45 RX3 yX3_checkCell wsX3_checkCell) := goodIn_app (goodIn_of _ (by decide +kernel)) ggX3_fewestRolls_X3_checkCell
set_option maxRecDepth 20000 in
theorem ggX3_fewestRolls_X3_searchFromHere : GoodIn wsX3_fewestRolls wsX3_searchFromHere := goodIn_r _ [19, 1, 20, 21, 9, 22, 23, 24, 25, 26, 27, 28, 29, 30, 31, 32, 33, 34, 35, 36, 37, 38, 39, 40, 41, 42, 43, 11, 44, 45, 46, 47, 48, 49, 50, 51, 52, 53, 54, 55, 56, 57, 10, 12, 13, 14, 15, 58, 59, 60, 61, 62, 63, 64, 65, 66, 67, 68, 69, 70, 71, 72, 73, 74, 75, 76, 77, 78, 79, 94, 95, 96, 97, 98, 99, 100, 101, 106, 107, 108, 102, 103, 104, 105] (by decide +kernel) (by decide +kernel)
set_option maxRecDepth 20000 in
theorem gX3_fewestRolls_X3_searchFromHere : GoodIn wsX3_fewestRolls (wsV RX3 156 RX3 yX3_searchFromHere wsX3_searchFromHere) := goodIn_app (goodIn_of _ (by decide +kernel)) ggX3_fewestRolls_X3_searchFromHere
set_option maxRecDepth 20000 in
theorem ggX3_fewestRolls_X0_cellAt : GoodIn wsX3_fewestRolls wsX0_cellAt := goodIn_r _ [60] (by decide +kernel) (by decide +kernel)
set_option maxRecDepth 20000 in
theorem gX3_fewestRolls_X0_cellAt_n48 : GoodIn wsX3_fewestRolls (wsX0_cellAt) := ggX3_fewestRolls_X0_cellAt
set_option maxRecDepth 20000 in
theorem ggX3_fewestRolls_X1_fewestTo : GoodIn wsX3_fewestRolls wsX1_fewestTo := goodIn_r _ [82, 83, 84, 85, 23, 86, 71, 62, 72, 39, 40, 41, 42, 26, 87, 88, 89, 90, 91, 92, 93, 106, 107, 108] (by decide +kernel) (by decide +kernel)
set_option maxRecDepth 20000 in
theorem gX3_fewestRolls_X1_fewestTo_n159 : GoodIn wsX3_fewestRolls (wsX1_fewestTo) := ggX3_fewestRolls_X1_fewestTo
theorem dX3_fewestRolls_0 : decode cX3_fewestRolls 0 = .ok (.aload_n 0, 1) := by decide +kernel
theorem dX3_fewestRolls_1 : decode cX3_fewestRolls 1 = .ok (.iload_n 1, 1) := by decide +kernel
theorem dX3_fewestRolls_2 : decode cX3_fewestRolls 2 = .ok (.iload_n 2, 1) := by decide +kernel
theorem dX3_fewestRolls_3 : decode cX3_fewestRolls 3 = .ok (.invokevirtual 45, 3) := by decide +kernel
theorem dX3_fewestRolls_6 : decode cX3_fewestRolls 6 = .ok (.aload_n 0, 1) := by decide +kernel
theorem dX3_fewestRolls_7 : decode cX3_fewestRolls 7 = .ok (.invokevirtual 156, 3) := by decide +kernel
theorem dX3_fewestRolls_10 : decode cX3_fewestRolls 10 = .ok (.aload_n 0, 1) := by decide +kernel
theorem dX3_fewestRolls_11 : decode cX3_fewestRolls 11 = .ok (.getfield 19, 3) := by decide +kernel
theorem dX3_fewestRolls_14 : decode cX3_fewestRolls 14 = .ok (.iload_n 1, 1) := by decide +kernel
theorem dX3_fewestRolls_15 : decode cX3_fewestRolls 15 = .ok (.iload_n 2, 1) := by decide +kernel
theorem dX3_fewestRolls_16 : decode cX3_fewestRolls 16 = .ok (.invokestatic 48, 3) := by decide +kernel
theorem dX3_fewestRolls_19 : decode cX3_fewestRolls 19 = .ok (.invokevirtual 159, 3) := by decide +kernel
theorem dX3_fewestRolls_22 : decode cX3_fewestRolls 22 = .ok (.ireturn, 1) := by decide +kernel
set_option maxRecDepth 20000 in
theorem ggX3_fewestRollsWithTop_X3_checkCell : GoodIn wsX3_fewestRollsWithTop wsX3_checkCell := goodIn_ca (goodIn_r _ [6, 7, 8, 9, 10, 11, 12, 13, 14, 15, 96, 97, 98, 99, 100, 101, 102, 103, 104, 105, 106, 107] (by decide +kernel) (by decide +kernel)) (goodIn_sub (fun _ h => List.mem_cons_of_mem _ (List.mem_append_right _ h)) (by decide +kernel))
set_option maxRecDepth 20000 in
theorem gX3_fewestRollsWithTop_X3_checkCell : GoodIn wsX3_fewestRollsWithTop (wsV RX3 45 RX3 yX3_checkCell wsX3_checkCell) := goodIn_app (goodIn_of _ (by decide +kernel)) ggX3_fewestRollsWithTop_X3_checkCell
set_option maxRecDepth 20000 in
theorem ggX3_fewestRollsWithTop_X3_checkFace : GoodIn wsX3_fewestRollsWithTop wsX3_checkFace := goodIn_ca (goodIn_r _ [18, 7, 8, 19, 20, 5, 21] (by decide +kernel) (by decide +kernel)) (goodIn_sub (fun _ h => List.mem_cons_of_mem _ (List.mem_append_right _ h)) (by decide +kernel))
set_option maxRecDepth 20000 in
theorem gX3_fewestRollsWithTop_X3_checkFace : GoodIn wsX3_fewestRollsWithTop (va_wsS RX3 64 yX3_checkFace wsX3_checkFace) := goodIn_app (goodIn_of _ (by decide +kernel)) ggX3_fewestRollsWithTop_X3_checkFace
set_option maxRecDepth 20000 in
theorem ggX3_fewestRollsWithTop_X3_searchFromHere : GoodIn wsX3_fewestRollsWithTop wsX3_searchFromHere := goodIn_r _ [25, 1, 26, 27, 9, 28, 29, 30, 31, 32, 33, 34, 35, 36, 37, 38, 39, 40, 41, 42, 43, 44, 45, 46, 47, 48, 49, 11, 50, 51, 52, 53, 54, 55, 56, 57, 58, 59, 60, 61, 62, 63, 10, 12, 13, 14, 15, 64, 65, 66, 67, 68, 69, 70, 71, 72, 73, 74, 75, 76, 77, 78, 79, 80, 81, 82, 83, 84, 85, 96, 97, 98, 99, 100, 101, 102, 103, 108, 109, 110, 104, 105, 106, 107] (by decide +kernel) (by decide +kernel)
set_option maxRecDepth 20000 in
theorem gX3_fewestRollsWithTop_X3_searchFromHere : GoodIn wsX3_fewestRollsWithTop (wsV RX3 156 RX3 yX3_searchFromHere wsX3_searchFromHere) := goodIn_app (goodIn_of _ (by decide +kernel)) ggX3_fewestRollsWithTop_X3_searchFromHere
set_option maxRecDepth 20000 in
theorem ggX3_fewestRollsWithTop_X0_cellAt : GoodIn wsX3_fewestRollsWithTop wsX0_cellAt := goodIn_r _ [66] (by decide +kernel) (by decide +kernel)
set_option maxRecDepth 20000 in
theorem gX3_fewestRollsWithTop_X0_cellAt_n48 : GoodIn wsX3_fewestRollsWithTop (wsX0_cellAt) := ggX3_fewestRollsWithTop_X0_cellAt
set_option maxRecDepth 20000 in
theorem ggX3_fewestRollsWithTop_X1_fewestWithTop : GoodIn wsX3_fewestRollsWithTop wsX1_fewestWithTop := goodIn_r _ [88, 77, 68, 78, 45, 46, 47, 29, 48, 32, 89, 90, 91, 92, 93, 94, 95, 108, 109, 110] (by decide +kernel) (by decide +kernel)
set_option maxRecDepth 20000 in
theorem gX3_fewestRollsWithTop_X1_fewestWithTop_n162 : GoodIn wsX3_fewestRollsWithTop (wsX1_fewestWithTop) := ggX3_fewestRollsWithTop_X1_fewestWithTop
theorem dX3_fewestRollsWithTop_0 : decode cX3_fewestRollsWithTop 0 = .ok (.aload_n 0, 1) := by decide +kernel
theorem dX3_fewestRollsWithTop_1 : decode cX3_fewestRollsWithTop 1 = .ok (.iload_n 1, 1) := by decide +kernel
theorem dX3_fewestRollsWithTop_2 : decode cX3_fewestRollsWithTop 2 = .ok (.iload_n 2, 1) := by decide +kernel
theorem dX3_fewestRollsWithTop_3 : decode cX3_fewestRollsWithTop 3 = .ok (.invokevirtual 45, 3) := by decide +kernel
theorem dX3_fewestRollsWithTop_6 : decode cX3_fewestRollsWithTop 6 = .ok (.iload_n 3, 1) := by decide +kernel
theorem dX3_fewestRollsWithTop_7 : decode cX3_fewestRollsWithTop 7 = .ok (.invokestatic 64, 3) := by decide +kernel
theorem dX3_fewestRollsWithTop_10 : decode cX3_fewestRollsWithTop 10 = .ok (.aload_n 0, 1) := by decide +kernel
theorem dX3_fewestRollsWithTop_11 : decode cX3_fewestRollsWithTop 11 = .ok (.invokevirtual 156, 3) := by decide +kernel
theorem dX3_fewestRollsWithTop_14 : decode cX3_fewestRollsWithTop 14 = .ok (.aload_n 0, 1) := by decide +kernel
theorem dX3_fewestRollsWithTop_15 : decode cX3_fewestRollsWithTop 15 = .ok (.getfield 19, 3) := by decide +kernel
theorem dX3_fewestRollsWithTop_18 : decode cX3_fewestRollsWithTop 18 = .ok (.iload_n 1, 1) := by decide +kernel
theorem dX3_fewestRollsWithTop_19 : decode cX3_fewestRollsWithTop 19 = .ok (.iload_n 2, 1) := by decide +kernel
theorem dX3_fewestRollsWithTop_20 : decode cX3_fewestRollsWithTop 20 = .ok (.invokestatic 48, 3) := by decide +kernel
theorem dX3_fewestRollsWithTop_23 : decode cX3_fewestRollsWithTop 23 = .ok (.iload_n 3, 1) := by decide +kernel
theorem dX3_fewestRollsWithTop_24 : decode cX3_fewestRollsWithTop 24 = .ok (.invokevirtual 162, 3) := by decide +kernel
theorem dX3_fewestRollsWithTop_27 : decode cX3_fewestRollsWithTop 27 = .ok (.ireturn, 1) := by decide +kernel
set_option maxRecDepth 20000 in
theorem ggX3_firstRoll_X3_checkCell : GoodIn wsX3_firstRoll wsX3_checkCell := goodIn_ca (goodIn_r _ [9, 10, 11, 4, 12, 13, 14, 15, 16, 17, 89, 90, 91, 92, 93, 94, 95, 96, 97, 98, 99, 100] (by decide +kernel) (by decide +kernel)) (goodIn_sub (fun _ h => List.mem_cons_of_mem _ (List.mem_append_right _ h)) (by decide +kernel))
set_option maxRecDepth 20000 in
theorem gX3_firstRoll_X3_checkCell : GoodIn wsX3_firstRoll (wsV RX3 45 RX3 yX3_checkCell wsX3_checkCell) := goodIn_app (goodIn_of _ (by decide +kernel)) ggX3_firstRoll_X3_checkCell
set_option maxRecDepth 20000 in
theorem ggX3_firstRoll_X3_checkFace : GoodIn wsX3_firstRoll wsX3_checkFace := goodIn_ca (goodIn_r _ [20, 10, 11, 21, 22, 8, 23] (by decide +kernel) (by decide +kernel)) (goodIn_sub (fun _ h => List.mem_cons_of_mem _ (List.mem_append_right _ h)) (by decide +kernel))
set_option maxRecDepth 20000 in
theorem gX3_firstRoll_X3_checkFace : GoodIn wsX3_firstRoll (va_wsS RX3 64 yX3_checkFace wsX3_checkFace) := goodIn_app (goodIn_of _ (by decide +kernel)) ggX3_firstRoll_X3_checkFace
set_option maxRecDepth 20000 in
theorem ggX3_firstRoll_X0_cellAt : GoodIn wsX3_firstRoll wsX0_cellAt := goodIn_r _ [25] (by decide +kernel) (by decide +kernel)
set_option maxRecDepth 20000 in
theorem gX3_firstRoll_X0_cellAt_n48 : GoodIn wsX3_firstRoll (wsX0_cellAt) := ggX3_firstRoll_X0_cellAt
set_option maxRecDepth 20000 in
theorem ggX3_firstRoll_X3_searchBackFrom : GoodIn wsX3_firstRoll wsX3_searchBackFrom := goodIn_r _ [29, 1, 4, 30, 31, 32, 33, 34, 35, 36, 37, 38, 39, 40, 13, 41, 42, 43, 44, 45, 46, 47, 48, 49, 50, 51, 52, 53, 54, 12, 14, 15, 16, 17, 55, 24, 25, 56, 57, 58, 59, 60, 61, 62, 63, 64, 65, 66, 67, 68, 69, 70, 71, 72, 73, 74, 75, 76, 77, 78, 79, 80, 81, 82, 83, 84, 85, 86, 87, 88, 89, 90, 91, 92, 93, 94, 95, 96, 101, 102, 103, 97, 98, 99, 100] (by decide +kernel) (by decide +kernel)
set_option maxRecDepth 20000 in
theorem gX3_firstRoll_X3_searchBackFrom : GoodIn wsX3_firstRoll (wsV RX3 165 RX3 yX3_searchBackFrom wsX3_searchBackFrom) := goodIn_app (goodIn_of _ (by decide +kernel)) ggX3_firstRoll_X3_searchBackFrom
set_option maxRecDepth 20000 in
theorem ggX3_firstRoll_X1_rollsAt : GoodIn wsX3_firstRoll wsX1_rollsAt := goodIn_r _ [69, 34, 101, 102, 103] (by decide +kernel) (by decide +kernel)
set_option maxRecDepth 20000 in
theorem gX3_firstRoll_X1_rollsAt_n168 : GoodIn wsX3_firstRoll (wsX1_rollsAt) := ggX3_firstRoll_X1_rollsAt
set_option maxRecDepth 20000 in
theorem ggX3_firstRoll_X0_nextCell : GoodIn wsX3_firstRoll wsX0_nextCell := goodIn_r _ [72, 43, 44, 13, 45, 46, 47, 48, 49, 50, 51, 52, 53, 54, 12, 14, 15, 16, 17, 55, 24, 25, 97, 98, 99, 100] (by decide +kernel) (by decide +kernel)
set_option maxRecDepth 20000 in
theorem gX3_firstRoll_X0_nextCell_n130 : GoodIn wsX3_firstRoll (wsX0_nextCell) := ggX3_firstRoll_X0_nextCell
set_option maxRecDepth 20000 in
theorem ggX3_firstRoll_X2_behindRoll : GoodIn wsX3_firstRoll wsX2_behindRoll := goodIn_r _ [74, 75, 76, 57, 77, 78, 79, 80, 81, 56, 58, 82, 83, 84, 85, 86, 87] (by decide +kernel) (by decide +kernel)
set_option maxRecDepth 20000 in
theorem gX3_firstRoll_X2_behindRoll_n171 : GoodIn wsX3_firstRoll (wsX2_behindRoll) := ggX3_firstRoll_X2_behindRoll
theorem dX3_firstRoll_0 : decode cX3_firstRoll 0 = .ok (.aload_n 0, 1) := by decide +kernel
theorem dX3_firstRoll_1 : decode cX3_firstRoll 1 = .ok (.iload_n 1, 1) := by decide +kernel
theorem dX3_firstRoll_2 : decode cX3_firstRoll 2 = .ok (.iload_n 2, 1) := by decide +kernel
theorem dX3_firstRoll_3 : decode cX3_firstRoll 3 = .ok (.invokevirtual 45, 3) := by decide +kernel
theorem dX3_firstRoll_6 : decode cX3_firstRoll 6 = .ok (.iload_n 3, 1) := by decide +kernel
theorem dX3_firstRoll_7 : decode cX3_firstRoll 7 = .ok (.invokestatic 64, 3) := by decide +kernel
theorem dX3_firstRoll_10 : decode cX3_firstRoll 10 = .ok (.aload_n 0, 1) := by decide +kernel
theorem dX3_firstRoll_11 : decode cX3_firstRoll 11 = .ok (.iload_n 1, 1) := by decide +kernel
theorem dX3_firstRoll_12 : decode cX3_firstRoll 12 = .ok (.iload_n 2, 1) := by decide +kernel
theorem dX3_firstRoll_13 : decode cX3_firstRoll 13 = .ok (.invokestatic 48, 3) := by decide +kernel
theorem dX3_firstRoll_16 : decode cX3_firstRoll 16 = .ok (.iload_n 3, 1) := by decide +kernel
theorem dX3_firstRoll_17 : decode cX3_firstRoll 17 = .ok (.invokevirtual 165, 3) := by decide +kernel
theorem dX3_firstRoll_20 : decode cX3_firstRoll 20 = .ok (.aload_n 0, 1) := by decide +kernel
theorem dX3_firstRoll_21 : decode cX3_firstRoll 21 = .ok (.getfield 19, 3) := by decide +kernel
theorem dX3_firstRoll_24 : decode cX3_firstRoll 24 = .ok (.aload_n 0, 1) := by decide +kernel
theorem dX3_firstRoll_25 : decode cX3_firstRoll 25 = .ok (.getfield 52, 3) := by decide +kernel
theorem dX3_firstRoll_28 : decode cX3_firstRoll 28 = .ok (.aload_n 0, 1) := by decide +kernel
theorem dX3_firstRoll_29 : decode cX3_firstRoll 29 = .ok (.getfield 96, 3) := by decide +kernel
theorem dX3_firstRoll_32 : decode cX3_firstRoll 32 = .ok (.invokevirtual 168, 3) := by decide +kernel
theorem dX3_firstRoll_35 : decode cX3_firstRoll 35 = .ok (.istore 4, 2) := by decide +kernel
theorem dX3_firstRoll_37 : decode cX3_firstRoll 37 = .ok (.iload 4, 2) := by decide +kernel
theorem dX3_firstRoll_39 : decode cX3_firstRoll 39 = .ok (.iconst (-1), 1) := by decide +kernel
theorem dX3_firstRoll_40 : decode cX3_firstRoll 40 = .ok (.if_icmp .eq 8, 3) := by decide +kernel
theorem dX3_firstRoll_43 : decode cX3_firstRoll 43 = .ok (.iload 4, 2) := by decide +kernel
theorem dX3_firstRoll_45 : decode cX3_firstRoll 45 = .ok (.ifCond .ne 5, 3) := by decide +kernel
theorem dX3_firstRoll_48 : decode cX3_firstRoll 48 = .ok (.iconst (-1), 1) := by decide +kernel
theorem dX3_firstRoll_49 : decode cX3_firstRoll 49 = .ok (.ireturn, 1) := by decide +kernel
theorem dX3_firstRoll_50 : decode cX3_firstRoll 50 = .ok (.iconst 0, 1) := by decide +kernel
theorem dX3_firstRoll_51 : decode cX3_firstRoll 51 = .ok (.istore 5, 2) := by decide +kernel
theorem dX3_firstRoll_53 : decode cX3_firstRoll 53 = .ok (.iload 5, 2) := by decide +kernel
theorem dX3_firstRoll_55 : decode cX3_firstRoll 55 = .ok (.iconst 4, 1) := by decide +kernel
theorem dX3_firstRoll_56 : decode cX3_firstRoll 56 = .ok (.if_icmp .ge 58, 3) := by decide +kernel
theorem dX3_firstRoll_59 : decode cX3_firstRoll 59 = .ok (.aload_n 0, 1) := by decide +kernel
theorem dX3_firstRoll_60 : decode cX3_firstRoll 60 = .ok (.getfield 12, 3) := by decide +kernel
theorem dX3_firstRoll_63 : decode cX3_firstRoll 63 = .ok (.aload_n 0, 1) := by decide +kernel
theorem dX3_firstRoll_64 : decode cX3_firstRoll 64 = .ok (.getfield 52, 3) := by decide +kernel
theorem dX3_firstRoll_67 : decode cX3_firstRoll 67 = .ok (.iload 5, 2) := by decide +kernel
theorem dX3_firstRoll_69 : decode cX3_firstRoll 69 = .ok (.invokevirtual 130, 3) := by decide +kernel
theorem dX3_firstRoll_72 : decode cX3_firstRoll 72 = .ok (.istore 6, 2) := by decide +kernel
theorem dX3_firstRoll_74 : decode cX3_firstRoll 74 = .ok (.iload 6, 2) := by decide +kernel
theorem dX3_firstRoll_76 : decode cX3_firstRoll 76 = .ok (.iconst (-1), 1) := by decide +kernel
theorem dX3_firstRoll_77 : decode cX3_firstRoll 77 = .ok (.if_icmp .eq 31, 3) := by decide +kernel
theorem dX3_firstRoll_80 : decode cX3_firstRoll 80 = .ok (.aload_n 0, 1) := by decide +kernel
theorem dX3_firstRoll_81 : decode cX3_firstRoll 81 = .ok (.getfield 19, 3) := by decide +kernel
theorem dX3_firstRoll_84 : decode cX3_firstRoll 84 = .ok (.iload 6, 2) := by decide +kernel
theorem dX3_firstRoll_86 : decode cX3_firstRoll 86 = .ok (.aload_n 0, 1) := by decide +kernel
theorem dX3_firstRoll_87 : decode cX3_firstRoll 87 = .ok (.getfield 96, 3) := by decide +kernel
theorem dX3_firstRoll_90 : decode cX3_firstRoll 90 = .ok (.iload 5, 2) := by decide +kernel
theorem dX3_firstRoll_92 : decode cX3_firstRoll 92 = .ok (.invokestatic 171, 3) := by decide +kernel
theorem dX3_firstRoll_95 : decode cX3_firstRoll 95 = .ok (.invokevirtual 168, 3) := by decide +kernel
theorem dX3_firstRoll_98 : decode cX3_firstRoll 98 = .ok (.iload 4, 2) := by decide +kernel
theorem dX3_firstRoll_100 : decode cX3_firstRoll 100 = .ok (.iconst 1, 1) := by decide +kernel
theorem dX3_firstRoll_101 : decode cX3_firstRoll 101 = .ok (.isub, 1) := by decide +kernel
theorem dX3_firstRoll_102 : decode cX3_firstRoll 102 = .ok (.if_icmp .ne 6, 3) := by decide +kernel
theorem dX3_firstRoll_105 : decode cX3_firstRoll 105 = .ok (.iload 5, 2) := by decide +kernel
theorem dX3_firstRoll_107 : decode cX3_firstRoll 107 = .ok (.ireturn, 1) := by decide +kernel
theorem dX3_firstRoll_108 : decode cX3_firstRoll 108 = .ok (.iinc 5 1, 3) := by decide +kernel
theorem dX3_firstRoll_111 : decode cX3_firstRoll 111 = .ok (.goto (-58), 3) := by decide +kernel
theorem dX3_firstRoll_114 : decode cX3_firstRoll 114 = .ok (.iconst (-1), 1) := by decide +kernel
theorem dX3_firstRoll_115 : decode cX3_firstRoll 115 = .ok (.ireturn, 1) := by decide +kernel
set_option maxRecDepth 20000 in
theorem ggX3_topsAt_X3_checkCell : GoodIn wsX3_topsAt wsX3_checkCell := goodIn_ca (goodIn_r _ [6, 7, 8, 9, 10, 11, 12, 13, 14, 15, 94, 95, 96, 97, 98, 99, 100, 101, 102, 103, 104, 105] (by decide +kernel) (by decide +kernel)) (goodIn_sub (fun _ h => List.mem_cons_of_mem _ (List.mem_append_right _ h)) (by decide +kernel))
set_option maxRecDepth 20000 in
theorem gX3_topsAt_X3_checkCell : GoodIn wsX3_topsAt (wsV RX3 45 RX3 yX3_checkCell wsX3_checkCell) := goodIn_app (goodIn_of _ (by decide +kernel)) ggX3_topsAt_X3_checkCell
set_option maxRecDepth 20000 in
theorem ggX3_topsAt_X3_searchFromHere : GoodIn wsX3_topsAt wsX3_searchFromHere := goodIn_r _ [19, 1, 20, 21, 9, 22, 23, 24, 25, 26, 27, 28, 29, 30, 31, 32, 33, 34, 35, 36, 37, 38, 39, 40, 41, 42, 43, 11, 44, 45, 46, 47, 48, 49, 50, 51, 52, 53, 54, 55, 56, 57, 10, 12, 13, 14, 15, 58, 59, 60, 61, 62, 63, 64, 65, 66, 67, 68, 69, 70, 71, 72, 73, 74, 75, 76, 77, 78, 79, 94, 95, 96, 97, 98, 99, 100, 101, 106, 107, 108, 102, 103, 104, 105] (by decide +kernel) (by decide +kernel)
set_option maxRecDepth 20000 in
theorem gX3_topsAt_X3_searchFromHere : GoodIn wsX3_topsAt (wsV RX3 156 RX3 yX3_searchFromHere wsX3_searchFromHere) := goodIn_app (goodIn_of _ (by decide +kernel)) ggX3_topsAt_X3_searchFromHere
set_option maxRecDepth 20000 in
theorem ggX3_topsAt_X0_cellAt : GoodIn wsX3_topsAt wsX0_cellAt := goodIn_r _ [60] (by decide +kernel) (by decide +kernel)
set_option maxRecDepth 20000 in
theorem gX3_topsAt_X0_cellAt_n48 : GoodIn wsX3_topsAt (wsX0_cellAt) := ggX3_topsAt_X0_cellAt
set_option maxRecDepth 20000 in
theorem ggX3_topsAt_X1_countTops : GoodIn wsX3_topsAt wsX1_countTops := goodIn_r _ [82, 83, 84, 85, 23, 86, 71, 62, 72, 39, 40, 41, 42, 26, 87, 88, 89, 90, 91, 92, 93, 106, 107, 108] (by decide +kernel) (by decide +kernel)
set_option maxRecDepth 20000 in
theorem gX3_topsAt_X1_countTops_n174 : GoodIn wsX3_topsAt (wsX1_countTops) := ggX3_topsAt_X1_countTops
theorem dX3_topsAt_0 : decode cX3_topsAt 0 = .ok (.aload_n 0, 1) := by decide +kernel
theorem dX3_topsAt_1 : decode cX3_topsAt 1 = .ok (.iload_n 1, 1) := by decide +kernel
theorem dX3_topsAt_2 : decode cX3_topsAt 2 = .ok (.iload_n 2, 1) := by decide +kernel
theorem dX3_topsAt_3 : decode cX3_topsAt 3 = .ok (.invokevirtual 45, 3) := by decide +kernel
theorem dX3_topsAt_6 : decode cX3_topsAt 6 = .ok (.aload_n 0, 1) := by decide +kernel
theorem dX3_topsAt_7 : decode cX3_topsAt 7 = .ok (.invokevirtual 156, 3) := by decide +kernel
theorem dX3_topsAt_10 : decode cX3_topsAt 10 = .ok (.aload_n 0, 1) := by decide +kernel
theorem dX3_topsAt_11 : decode cX3_topsAt 11 = .ok (.getfield 19, 3) := by decide +kernel
theorem dX3_topsAt_14 : decode cX3_topsAt 14 = .ok (.iload_n 1, 1) := by decide +kernel
theorem dX3_topsAt_15 : decode cX3_topsAt 15 = .ok (.iload_n 2, 1) := by decide +kernel
theorem dX3_topsAt_16 : decode cX3_topsAt 16 = .ok (.invokestatic 48, 3) := by decide +kernel
theorem dX3_topsAt_19 : decode cX3_topsAt 19 = .ok (.invokevirtual 174, 3) := by decide +kernel
theorem dX3_topsAt_22 : decode cX3_topsAt 22 = .ok (.ireturn, 1) := by decide +kernel
set_option maxRecDepth 20000 in
theorem ggX3_cellsWithinReach_X3_searchFromHere : GoodIn wsX3_cellsWithinReach wsX3_searchFromHere := goodIn_r _ [6, 1, 7, 8, 9, 10, 11, 12, 13, 14, 15, 16, 17, 18, 19, 20, 21, 22, 23, 24, 25, 26, 27, 28, 29, 30, 31, 32, 33, 34, 35, 36, 37, 38, 39, 40, 41, 42, 43, 44, 45, 46, 47, 48, 49, 50, 51, 52, 53, 54, 55, 56, 57, 58, 59, 60, 61, 62, 63, 64, 65, 66, 67, 68, 69, 70, 71, 72, 73, 88, 89, 90, 91, 92, 93, 94, 95, 96, 97, 98, 99, 100, 101, 102] (by decide +kernel) (by decide +kernel)
set_option maxRecDepth 20000 in
theorem gX3_cellsWithinReach_X3_searchFromHere : GoodIn wsX3_cellsWithinReach (wsV RX3 156 RX3 yX3_searchFromHere wsX3_searchFromHere) := goodIn_app (goodIn_of _ (by decide +kernel)) ggX3_cellsWithinReach_X3_searchFromHere
set_option maxRecDepth 20000 in
theorem ggX3_cellsWithinReach_X1_fewestTo : GoodIn wsX3_cellsWithinReach wsX1_fewestTo := goodIn_r _ [76, 77, 78, 79, 11, 80, 65, 56, 66, 27, 28, 29, 30, 14, 81, 82, 83, 84, 85, 86, 87, 96, 97, 98] (by decide +kernel) (by decide +kernel)
set_option maxRecDepth 20000 in
theorem gX3_cellsWithinReach_X1_fewestTo_n159 : GoodIn wsX3_cellsWithinReach (wsX1_fewestTo) := ggX3_cellsWithinReach_X1_fewestTo
theorem dX3_cellsWithinReach_0 : decode cX3_cellsWithinReach 0 = .ok (.aload_n 0, 1) := by decide +kernel
theorem dX3_cellsWithinReach_1 : decode cX3_cellsWithinReach 1 = .ok (.invokevirtual 156, 3) := by decide +kernel
theorem dX3_cellsWithinReach_4 : decode cX3_cellsWithinReach 4 = .ok (.iconst 0, 1) := by decide +kernel
theorem dX3_cellsWithinReach_5 : decode cX3_cellsWithinReach 5 = .ok (.istore_n 1, 1) := by decide +kernel
theorem dX3_cellsWithinReach_6 : decode cX3_cellsWithinReach 6 = .ok (.iconst 0, 1) := by decide +kernel
theorem dX3_cellsWithinReach_7 : decode cX3_cellsWithinReach 7 = .ok (.istore_n 2, 1) := by decide +kernel
theorem dX3_cellsWithinReach_8 : decode cX3_cellsWithinReach 8 = .ok (.iload_n 2, 1) := by decide +kernel
theorem dX3_cellsWithinReach_9 : decode cX3_cellsWithinReach 9 = .ok (.bipush 49, 2) := by decide +kernel
theorem dX3_cellsWithinReach_11 : decode cX3_cellsWithinReach 11 = .ok (.if_icmp .ge 24, 3) := by decide +kernel
theorem dX3_cellsWithinReach_14 : decode cX3_cellsWithinReach 14 = .ok (.aload_n 0, 1) := by decide +kernel
theorem dX3_cellsWithinReach_15 : decode cX3_cellsWithinReach 15 = .ok (.getfield 19, 3) := by decide +kernel
theorem dX3_cellsWithinReach_18 : decode cX3_cellsWithinReach 18 = .ok (.iload_n 2, 1) := by decide +kernel
theorem dX3_cellsWithinReach_19 : decode cX3_cellsWithinReach 19 = .ok (.invokevirtual 159, 3) := by decide +kernel
theorem dX3_cellsWithinReach_22 : decode cX3_cellsWithinReach 22 = .ok (.iconst (-1), 1) := by decide +kernel
theorem dX3_cellsWithinReach_23 : decode cX3_cellsWithinReach 23 = .ok (.if_icmp .eq 6, 3) := by decide +kernel
theorem dX3_cellsWithinReach_26 : decode cX3_cellsWithinReach 26 = .ok (.iinc 1 1, 3) := by decide +kernel
theorem dX3_cellsWithinReach_29 : decode cX3_cellsWithinReach 29 = .ok (.iinc 2 1, 3) := by decide +kernel
theorem dX3_cellsWithinReach_32 : decode cX3_cellsWithinReach 32 = .ok (.goto (-24), 3) := by decide +kernel
theorem dX3_cellsWithinReach_35 : decode cX3_cellsWithinReach 35 = .ok (.iload_n 1, 1) := by decide +kernel
theorem dX3_cellsWithinReach_36 : decode cX3_cellsWithinReach 36 = .ok (.ireturn, 1) := by decide +kernel
set_option maxRecDepth 20000 in
theorem ggX3_waysToLie_X3_searchFromHere : GoodIn wsX3_waysToLie wsX3_searchFromHere := goodIn_r _ [6, 1, 7, 8, 9, 10, 11, 12, 13, 14, 15, 16, 17, 18, 19, 20, 21, 22, 23, 24, 25, 26, 27, 28, 29, 30, 31, 32, 33, 34, 35, 36, 37, 38, 39, 40, 41, 42, 43, 44, 45, 46, 47, 48, 49, 50, 51, 52, 53, 54, 55, 56, 57, 58, 59, 60, 61, 62, 63, 64, 65, 66, 67, 68, 69, 70, 71, 72, 73, 74, 75, 76, 77, 78, 79, 80, 81, 82, 83, 84, 85, 86, 87, 88] (by decide +kernel) (by decide +kernel)
set_option maxRecDepth 20000 in
theorem gX3_waysToLie_X3_searchFromHere : GoodIn wsX3_waysToLie (wsV RX3 156 RX3 yX3_searchFromHere wsX3_searchFromHere) := goodIn_app (goodIn_of _ (by decide +kernel)) ggX3_waysToLie_X3_searchFromHere
theorem dX3_waysToLie_0 : decode cX3_waysToLie 0 = .ok (.aload_n 0, 1) := by decide +kernel
theorem dX3_waysToLie_1 : decode cX3_waysToLie 1 = .ok (.invokevirtual 156, 3) := by decide +kernel
theorem dX3_waysToLie_4 : decode cX3_waysToLie 4 = .ok (.aload_n 0, 1) := by decide +kernel
theorem dX3_waysToLie_5 : decode cX3_waysToLie 5 = .ok (.getfield 19, 3) := by decide +kernel
theorem dX3_waysToLie_8 : decode cX3_waysToLie 8 = .ok (.getfield 177, 3) := by decide +kernel
theorem dX3_waysToLie_11 : decode cX3_waysToLie 11 = .ok (.ireturn, 1) := by decide +kernel
set_option maxRecDepth 20000 in
theorem ggX3_cellsBehind_X3_isShutIn : GoodIn wsX3_cellsBehind wsX3_isShutIn := goodIn_r _ [8, 9, 10, 11, 12, 13, 14, 15, 16, 17, 18, 19, 20, 21, 22, 23, 24, 25, 26, 27, 28, 29, 30, 31, 32, 33, 34, 94, 95, 96, 97, 98, 99, 100, 101, 102, 103, 104, 105] (by decide +kernel) (by decide +kernel)
set_option maxRecDepth 20000 in
theorem gX3_cellsBehind_X3_isShutIn : GoodIn wsX3_cellsBehind (wsV RX3 182 RX3 yX3_isShutIn wsX3_isShutIn) := goodIn_app (goodIn_of _ (by decide +kernel)) ggX3_cellsBehind_X3_isShutIn
set_option maxRecDepth 20000 in
theorem ggX3_cellsBehind_X3_searchFromHere : GoodIn wsX3_cellsBehind wsX3_searchFromHere := goodIn_r _ [38, 3, 10, 39, 9, 40, 41, 42, 43, 44, 45, 46, 47, 48, 49, 50, 51, 52, 53, 54, 55, 56, 57, 58, 59, 60, 11, 12, 13, 14, 15, 16, 17, 18, 19, 20, 21, 22, 23, 24, 25, 26, 27, 28, 29, 30, 31, 32, 33, 34, 61, 62, 63, 64, 65, 66, 67, 68, 69, 70, 71, 72, 73, 74, 75, 76, 77, 78, 79, 94, 95, 96, 97, 98, 99, 100, 101, 106, 107, 108, 102, 103, 104, 105] (by decide +kernel) (by decide +kernel)
set_option maxRecDepth 20000 in
theorem gX3_cellsBehind_X3_searchFromHere : GoodIn wsX3_cellsBehind (wsV RX3 156 RX3 yX3_searchFromHere wsX3_searchFromHere) := goodIn_app (goodIn_of _ (by decide +kernel)) ggX3_cellsBehind_X3_searchFromHere
set_option maxRecDepth 20000 in
theorem ggX3_cellsBehind_X1_fewestTo : GoodIn wsX3_cellsBehind wsX1_fewestTo := goodIn_r _ [82, 83, 84, 85, 41, 86, 71, 62, 72, 57, 58, 59, 60, 44, 87, 88, 89, 90, 91, 92, 93, 106, 107, 108] (by decide +kernel) (by decide +kernel)
set_option maxRecDepth 20000 in
theorem gX3_cellsBehind_X1_fewestTo_n159 : GoodIn wsX3_cellsBehind (wsX1_fewestTo) := ggX3_cellsBehind_X1_fewestTo
theorem dX3_cellsBehind_0 : decode cX3_cellsBehind 0 = .ok (.iload_n 1, 1) := by decide +kernel
theorem dX3_cellsBehind_1 : decode cX3_cellsBehind 1 = .ok (.ifCond .lt 9, 3) := by decide +kernel
theorem dX3_cellsBehind_4 : decode cX3_cellsBehind 4 = .ok (.iload_n 1, 1) := by decide +kernel
theorem dX3_cellsBehind_5 : decode cX3_cellsBehind 5 = .ok (.bipush 20, 2) := by decide +kernel
theorem dX3_cellsBehind_7 : decode cX3_cellsBehind 7 = .ok (.if_icmp .le 13, 3) := by decide +kernel
theorem dX3_cellsBehind_10 : decode cX3_cellsBehind 10 = .ok (.new 38, 3) := by decide +kernel
theorem dX3_cellsBehind_13 : decode cX3_cellsBehind 13 = .ok (.dup, 1) := by decide +kernel
theorem dX3_cellsBehind_14 : decode cX3_cellsBehind 14 = .ok (.ldc 180, 2) := by decide +kernel
theorem dX3_cellsBehind_16 : decode cX3_cellsBehind 16 = .ok (.invokespecial 42, 3) := by decide +kernel
theorem dX3_cellsBehind_19 : decode cX3_cellsBehind 19 = .ok (.athrow, 1) := by decide +kernel
theorem dX3_cellsBehind_20 : decode cX3_cellsBehind 20 = .ok (.iload_n 1, 1) := by decide +kernel
theorem dX3_cellsBehind_21 : decode cX3_cellsBehind 21 = .ok (.ifCond .le 12, 3) := by decide +kernel
theorem dX3_cellsBehind_24 : decode cX3_cellsBehind 24 = .ok (.aload_n 0, 1) := by decide +kernel
theorem dX3_cellsBehind_25 : decode cX3_cellsBehind 25 = .ok (.invokevirtual 182, 3) := by decide +kernel
theorem dX3_cellsBehind_28 : decode cX3_cellsBehind 28 = .ok (.ifCond .eq 5, 3) := by decide +kernel
theorem dX3_cellsBehind_31 : decode cX3_cellsBehind 31 = .ok (.iconst 0, 1) := by decide +kernel
theorem dX3_cellsBehind_32 : decode cX3_cellsBehind 32 = .ok (.ireturn, 1) := by decide +kernel
theorem dX3_cellsBehind_33 : decode cX3_cellsBehind 33 = .ok (.aload_n 0, 1) := by decide +kernel
theorem dX3_cellsBehind_34 : decode cX3_cellsBehind 34 = .ok (.invokevirtual 156, 3) := by decide +kernel
theorem dX3_cellsBehind_37 : decode cX3_cellsBehind 37 = .ok (.iconst 0, 1) := by decide +kernel
theorem dX3_cellsBehind_38 : decode cX3_cellsBehind 38 = .ok (.istore_n 2, 1) := by decide +kernel
theorem dX3_cellsBehind_39 : decode cX3_cellsBehind 39 = .ok (.iconst 0, 1) := by decide +kernel
theorem dX3_cellsBehind_40 : decode cX3_cellsBehind 40 = .ok (.istore_n 3, 1) := by decide +kernel
theorem dX3_cellsBehind_41 : decode cX3_cellsBehind 41 = .ok (.iload_n 3, 1) := by decide +kernel
theorem dX3_cellsBehind_42 : decode cX3_cellsBehind 42 = .ok (.bipush 49, 2) := by decide +kernel
theorem dX3_cellsBehind_44 : decode cX3_cellsBehind 44 = .ok (.if_icmp .ge 43, 3) := by decide +kernel
theorem dX3_cellsBehind_47 : decode cX3_cellsBehind 47 = .ok (.aload_n 0, 1) := by decide +kernel
theorem dX3_cellsBehind_48 : decode cX3_cellsBehind 48 = .ok (.getfield 19, 3) := by decide +kernel
theorem dX3_cellsBehind_51 : decode cX3_cellsBehind 51 = .ok (.iload_n 3, 1) := by decide +kernel
theorem dX3_cellsBehind_52 : decode cX3_cellsBehind 52 = .ok (.invokevirtual 159, 3) := by decide +kernel
theorem dX3_cellsBehind_55 : decode cX3_cellsBehind 55 = .ok (.istore 4, 2) := by decide +kernel
theorem dX3_cellsBehind_57 : decode cX3_cellsBehind 57 = .ok (.iload 4, 2) := by decide +kernel
theorem dX3_cellsBehind_59 : decode cX3_cellsBehind 59 = .ok (.iconst (-1), 1) := by decide +kernel
theorem dX3_cellsBehind_60 : decode cX3_cellsBehind 60 = .ok (.if_icmp .eq 21, 3) := by decide +kernel
theorem dX3_cellsBehind_63 : decode cX3_cellsBehind 63 = .ok (.iload 4, 2) := by decide +kernel
theorem dX3_cellsBehind_65 : decode cX3_cellsBehind 65 = .ok (.iload_n 1, 1) := by decide +kernel
theorem dX3_cellsBehind_66 : decode cX3_cellsBehind 66 = .ok (.if_icmp .gt 15, 3) := by decide +kernel
theorem dX3_cellsBehind_69 : decode cX3_cellsBehind 69 = .ok (.iload_n 1, 1) := by decide +kernel
theorem dX3_cellsBehind_70 : decode cX3_cellsBehind 70 = .ok (.iload 4, 2) := by decide +kernel
theorem dX3_cellsBehind_72 : decode cX3_cellsBehind 72 = .ok (.isub, 1) := by decide +kernel
theorem dX3_cellsBehind_73 : decode cX3_cellsBehind 73 = .ok (.iconst 2, 1) := by decide +kernel
theorem dX3_cellsBehind_74 : decode cX3_cellsBehind 74 = .ok (.irem, 1) := by decide +kernel
theorem dX3_cellsBehind_75 : decode cX3_cellsBehind 75 = .ok (.ifCond .ne 6, 3) := by decide +kernel
theorem dX3_cellsBehind_78 : decode cX3_cellsBehind 78 = .ok (.iinc 2 1, 3) := by decide +kernel
theorem dX3_cellsBehind_81 : decode cX3_cellsBehind 81 = .ok (.iinc 3 1, 3) := by decide +kernel
theorem dX3_cellsBehind_84 : decode cX3_cellsBehind 84 = .ok (.goto (-43), 3) := by decide +kernel
theorem dX3_cellsBehind_87 : decode cX3_cellsBehind 87 = .ok (.iload_n 2, 1) := by decide +kernel
theorem dX3_cellsBehind_88 : decode cX3_cellsBehind 88 = .ok (.ireturn, 1) := by decide +kernel
theorem dX3_meanPaint_0 : decode cX3_meanPaint 0 = .ok (.iconst 0, 1) := by decide +kernel
theorem dX3_meanPaint_1 : decode cX3_meanPaint 1 = .ok (.istore_n 1, 1) := by decide +kernel
theorem dX3_meanPaint_2 : decode cX3_meanPaint 2 = .ok (.iconst 1, 1) := by decide +kernel
theorem dX3_meanPaint_3 : decode cX3_meanPaint 3 = .ok (.istore_n 2, 1) := by decide +kernel
theorem dX3_meanPaint_4 : decode cX3_meanPaint 4 = .ok (.iload_n 2, 1) := by decide +kernel
theorem dX3_meanPaint_5 : decode cX3_meanPaint 5 = .ok (.bipush 6, 2) := by decide +kernel
theorem dX3_meanPaint_7 : decode cX3_meanPaint 7 = .ok (.if_icmp .gt 18, 3) := by decide +kernel
theorem dX3_meanPaint_10 : decode cX3_meanPaint 10 = .ok (.iload_n 1, 1) := by decide +kernel
theorem dX3_meanPaint_11 : decode cX3_meanPaint 11 = .ok (.aload_n 0, 1) := by decide +kernel
theorem dX3_meanPaint_12 : decode cX3_meanPaint 12 = .ok (.getfield 27, 3) := by decide +kernel
theorem dX3_meanPaint_15 : decode cX3_meanPaint 15 = .ok (.iload_n 2, 1) := by decide +kernel
theorem dX3_meanPaint_16 : decode cX3_meanPaint 16 = .ok (.iaload, 1) := by decide +kernel
theorem dX3_meanPaint_17 : decode cX3_meanPaint 17 = .ok (.iadd, 1) := by decide +kernel
theorem dX3_meanPaint_18 : decode cX3_meanPaint 18 = .ok (.istore_n 1, 1) := by decide +kernel
theorem dX3_meanPaint_19 : decode cX3_meanPaint 19 = .ok (.iinc 2 1, 3) := by decide +kernel
theorem dX3_meanPaint_22 : decode cX3_meanPaint 22 = .ok (.goto (-18), 3) := by decide +kernel
theorem dX3_meanPaint_25 : decode cX3_meanPaint 25 = .ok (.iload_n 1, 1) := by decide +kernel
theorem dX3_meanPaint_26 : decode cX3_meanPaint 26 = .ok (.i2d, 1) := by decide +kernel
theorem dX3_meanPaint_27 : decode cX3_meanPaint 27 = .ok (.ldc2_w 186, 3) := by decide +kernel
theorem dX3_meanPaint_30 : decode cX3_meanPaint 30 = .ok (.ddiv, 1) := by decide +kernel
theorem dX3_meanPaint_31 : decode cX3_meanPaint 31 = .ok (.dreturn, 1) := by decide +kernel
set_option maxRecDepth 20000 in
theorem ggX3_digest_X3_width : GoodIn wsX3_digest wsX3_width := goodIn_r _ [9, 10, 149, 150, 151, 152, 153, 154, 155, 156, 157, 158, 159, 160] (by decide +kernel) (by decide +kernel)
set_option maxRecDepth 20000 in
theorem gX3_digest_X3_width : GoodIn wsX3_digest (wsV RX3 190 RX3 yX3_width wsX3_width) := goodIn_app (goodIn_of _ (by decide +kernel)) ggX3_digest_X3_width
set_option maxRecDepth 20000 in
theorem ggX3_digest_X3_joined : GoodIn wsX3_digest wsX3_joined := goodIn_r _ [13, 14] (by decide +kernel) (by decide +kernel)
set_option maxRecDepth 20000 in
theorem gX3_digest_X3_joined : GoodIn wsX3_digest (va_wsS RX3 192 yX3_joined wsX3_joined) := goodIn_app (goodIn_of _ (by decide +kernel)) ggX3_digest_X3_joined
set_option maxRecDepth 20000 in
theorem ggX3_digest_X3_height : GoodIn wsX3_digest wsX3_height := goodIn_r _ [18, 10, 149, 150, 151, 152, 153, 154, 155, 156, 157, 158, 159, 160] (by decide +kernel) (by decide +kernel)
set_option maxRecDepth 20000 in
theorem gX3_digest_X3_height : GoodIn wsX3_digest (wsV RX3 196 RX3 yX3_height wsX3_height) := goodIn_app (goodIn_of _ (by decide +kernel)) ggX3_digest_X3_height
set_option maxRecDepth 20000 in
theorem ggX3_digest_X3_walls : GoodIn wsX3_digest wsX3_walls := goodIn_r _ [22, 10, 23, 24, 25, 26, 27, 149, 150, 151, 152, 153, 154, 155, 156, 157, 158, 159, 160] (by decide +kernel) (by decide +kernel)
set_option maxRecDepth 20000 in
theorem gX3_digest_X3_walls : GoodIn wsX3_digest (wsV RX3 198 RX3 yX3_walls wsX3_walls) := goodIn_app (goodIn_of _ (by decide +kernel)) ggX3_digest_X3_walls
set_option maxRecDepth 20000 in
theorem ggX3_digest_X3_rolls : GoodIn wsX3_digest wsX3_rolls := goodIn_r _ [31, 32, 149, 150, 151, 152, 153, 154, 155, 156] (by decide +kernel) (by decide +kernel)
set_option maxRecDepth 20000 in
theorem gX3_digest_X3_rolls : GoodIn wsX3_digest (wsV RX3 201 RX3 yX3_rolls wsX3_rolls) := goodIn_app (goodIn_of _ (by decide +kernel)) ggX3_digest_X3_rolls
set_option maxRecDepth 20000 in
theorem ggX3_digest_X3_prints : GoodIn wsX3_digest wsX3_prints := goodIn_r _ [36, 37, 149, 150, 151, 152, 153, 154, 155, 156] (by decide +kernel) (by decide +kernel)
set_option maxRecDepth 20000 in
theorem gX3_digest_X3_prints : GoodIn wsX3_digest (wsV RX3 204 RX3 yX3_prints wsX3_prints) := goodIn_app (goodIn_of _ (by decide +kernel)) ggX3_digest_X3_prints
set_option maxRecDepth 20000 in
theorem ggX3_digest_X3_column : GoodIn wsX3_digest wsX3_column := goodIn_r _ [41, 42, 43, 24, 44, 149, 150, 151, 152, 153, 154, 155, 156] (by decide +kernel) (by decide +kernel)
set_option maxRecDepth 20000 in
theorem gX3_digest_X3_column : GoodIn wsX3_digest (wsV RX3 83 RX3 yX3_column wsX3_column) := goodIn_app (goodIn_of _ (by decide +kernel)) ggX3_digest_X3_column
set_option maxRecDepth 20000 in
theorem ggX3_digest_X3_row : GoodIn wsX3_digest wsX3_row := goodIn_r _ [48, 42, 49, 24, 50, 149, 150, 151, 152, 153, 154, 155, 156] (by decide +kernel) (by decide +kernel)
set_option maxRecDepth 20000 in
theorem gX3_digest_X3_row : GoodIn wsX3_digest (wsV RX3 91 RX3 yX3_row wsX3_row) := goodIn_app (goodIn_of _ (by decide +kernel)) ggX3_digest_X3_row
set_option maxRecDepth 20000 in
theorem ggX3_digest_X3_top : GoodIn wsX3_digest wsX3_top := goodIn_r _ [54, 2, 55, 56, 57, 149, 150, 151, 152, 153, 154, 155, 156] (by decide +kernel) (by decide +kernel)
set_option maxRecDepth 20000 in
theorem gX3_digest_X3_top : GoodIn wsX3_digest (wsV RX3 121 RX3 yX3_top wsX3_top) := goodIn_app (goodIn_of _ (by decide +kernel)) ggX3_digest_X3_top
set_option maxRecDepth 20000 in
theorem ggX3_digest_X3_bottom : GoodIn wsX3_digest wsX3_bottom := goodIn_r _ [61, 51, 52, 53, 8, 54, 2, 55, 56, 57, 149, 150, 151, 152, 153, 154, 155, 156] (by decide +kernel) (by decide +kernel)
set_option maxRecDepth 20000 in
theorem gX3_digest_X3_bottom : GoodIn wsX3_digest (wsV RX3 107 RX3 yX3_bottom wsX3_bottom) := goodIn_app (goodIn_of _ (by decide +kernel)) ggX3_digest_X3_bottom
set_option maxRecDepth 20000 in
theorem ggX3_digest_X2_faceOn : GoodIn wsX3_digest wsX2_faceOn := goodIn_r _ [63, 64, 65, 56, 66, 67, 68, 69, 70, 55, 57, 71, 72, 73] (by decide +kernel) (by decide +kernel)
set_option maxRecDepth 20000 in
theorem gX3_digest_X2_faceOn_n124 : GoodIn wsX3_digest (wsX2_faceOn) := ggX3_digest_X2_faceOn
set_option maxRecDepth 20000 in
theorem ggX3_digest_X3_joinedWithCells : GoodIn wsX3_digest wsX3_joinedWithCells := goodIn_r _ [77, 10, 78, 79, 80, 81, 8, 82, 42, 2, 83, 84, 85, 86, 87, 88, 89, 90, 91, 92, 93, 94, 95, 96, 97, 98, 99, 100, 101, 102, 103, 104, 24, 105, 106, 107, 43, 44, 108, 49, 50, 109, 110, 111, 112, 27, 113, 114, 115, 116, 117, 118, 119, 120, 121, 122, 56, 123, 70, 55, 57, 64, 65, 66, 124, 125, 126, 67, 68, 69, 71, 72, 73, 127, 11, 12, 13, 14, 128, 129, 130, 131, 132, 133, 134, 135, 136, 137, 138, 139, 140, 141, 142, 143, 144, 145, 146, 147, 148, 149, 150, 151, 152, 153, 154, 155, 156, 157, 158, 159, 160, 161, 162, 163] (by decide +kernel) (by decide +kernel)
set_option maxRecDepth 20000 in
theorem gX3_digest_X3_joinedWithCells : GoodIn wsX3_digest (wsV RX3 207 RX3 yX3_joinedWithCells wsX3_joinedWithCells) := goodIn_app (goodIn_of _ (by decide +kernel)) ggX3_digest_X3_joinedWithCells
theorem dX3_digest_0 : decode cX3_digest 0 = .ok (.ldc2_w 188, 3) := by decide +kernel
theorem dX3_digest_3 : decode cX3_digest 3 = .ok (.lstore_n 1, 1) := by decide +kernel
theorem dX3_digest_4 : decode cX3_digest 4 = .ok (.lload_n 1, 1) := by decide +kernel
theorem dX3_digest_5 : decode cX3_digest 5 = .ok (.aload_n 0, 1) := by decide +kernel
theorem dX3_digest_6 : decode cX3_digest 6 = .ok (.invokevirtual 190, 3) := by decide +kernel
theorem dX3_digest_9 : decode cX3_digest 9 = .ok (.invokestatic 192, 3) := by decide +kernel
theorem dX3_digest_12 : decode cX3_digest 12 = .ok (.lstore_n 1, 1) := by decide +kernel
theorem dX3_digest_13 : decode cX3_digest 13 = .ok (.lload_n 1, 1) := by decide +kernel
theorem dX3_digest_14 : decode cX3_digest 14 = .ok (.aload_n 0, 1) := by decide +kernel
theorem dX3_digest_15 : decode cX3_digest 15 = .ok (.invokevirtual 196, 3) := by decide +kernel
theorem dX3_digest_18 : decode cX3_digest 18 = .ok (.invokestatic 192, 3) := by decide +kernel
theorem dX3_digest_21 : decode cX3_digest 21 = .ok (.lstore_n 1, 1) := by decide +kernel
theorem dX3_digest_22 : decode cX3_digest 22 = .ok (.lload_n 1, 1) := by decide +kernel
theorem dX3_digest_23 : decode cX3_digest 23 = .ok (.aload_n 0, 1) := by decide +kernel
theorem dX3_digest_24 : decode cX3_digest 24 = .ok (.invokevirtual 198, 3) := by decide +kernel
theorem dX3_digest_27 : decode cX3_digest 27 = .ok (.invokestatic 192, 3) := by decide +kernel
theorem dX3_digest_30 : decode cX3_digest 30 = .ok (.lstore_n 1, 1) := by decide +kernel
theorem dX3_digest_31 : decode cX3_digest 31 = .ok (.lload_n 1, 1) := by decide +kernel
theorem dX3_digest_32 : decode cX3_digest 32 = .ok (.aload_n 0, 1) := by decide +kernel
theorem dX3_digest_33 : decode cX3_digest 33 = .ok (.invokevirtual 201, 3) := by decide +kernel
theorem dX3_digest_36 : decode cX3_digest 36 = .ok (.invokestatic 192, 3) := by decide +kernel
theorem dX3_digest_39 : decode cX3_digest 39 = .ok (.lstore_n 1, 1) := by decide +kernel
theorem dX3_digest_40 : decode cX3_digest 40 = .ok (.lload_n 1, 1) := by decide +kernel
theorem dX3_digest_41 : decode cX3_digest 41 = .ok (.aload_n 0, 1) := by decide +kernel
theorem dX3_digest_42 : decode cX3_digest 42 = .ok (.invokevirtual 204, 3) := by decide +kernel
theorem dX3_digest_45 : decode cX3_digest 45 = .ok (.invokestatic 192, 3) := by decide +kernel
theorem dX3_digest_48 : decode cX3_digest 48 = .ok (.lstore_n 1, 1) := by decide +kernel
theorem dX3_digest_49 : decode cX3_digest 49 = .ok (.lload_n 1, 1) := by decide +kernel
theorem dX3_digest_50 : decode cX3_digest 50 = .ok (.aload_n 0, 1) := by decide +kernel
theorem dX3_digest_51 : decode cX3_digest 51 = .ok (.invokevirtual 83, 3) := by decide +kernel
theorem dX3_digest_54 : decode cX3_digest 54 = .ok (.invokestatic 192, 3) := by decide +kernel
theorem dX3_digest_57 : decode cX3_digest 57 = .ok (.lstore_n 1, 1) := by decide +kernel
theorem dX3_digest_58 : decode cX3_digest 58 = .ok (.lload_n 1, 1) := by decide +kernel
theorem dX3_digest_59 : decode cX3_digest 59 = .ok (.aload_n 0, 1) := by decide +kernel
theorem dX3_digest_60 : decode cX3_digest 60 = .ok (.invokevirtual 91, 3) := by decide +kernel
theorem dX3_digest_63 : decode cX3_digest 63 = .ok (.invokestatic 192, 3) := by decide +kernel
theorem dX3_digest_66 : decode cX3_digest 66 = .ok (.lstore_n 1, 1) := by decide +kernel
theorem dX3_digest_67 : decode cX3_digest 67 = .ok (.lload_n 1, 1) := by decide +kernel
theorem dX3_digest_68 : decode cX3_digest 68 = .ok (.aload_n 0, 1) := by decide +kernel
theorem dX3_digest_69 : decode cX3_digest 69 = .ok (.invokevirtual 121, 3) := by decide +kernel
theorem dX3_digest_72 : decode cX3_digest 72 = .ok (.invokestatic 192, 3) := by decide +kernel
theorem dX3_digest_75 : decode cX3_digest 75 = .ok (.lstore_n 1, 1) := by decide +kernel
theorem dX3_digest_76 : decode cX3_digest 76 = .ok (.lload_n 1, 1) := by decide +kernel
theorem dX3_digest_77 : decode cX3_digest 77 = .ok (.aload_n 0, 1) := by decide +kernel
theorem dX3_digest_78 : decode cX3_digest 78 = .ok (.invokevirtual 107, 3) := by decide +kernel
theorem dX3_digest_81 : decode cX3_digest 81 = .ok (.invokestatic 192, 3) := by decide +kernel
theorem dX3_digest_84 : decode cX3_digest 84 = .ok (.lstore_n 1, 1) := by decide +kernel
theorem dX3_digest_85 : decode cX3_digest 85 = .ok (.iconst 0, 1) := by decide +kernel
theorem dX3_digest_86 : decode cX3_digest 86 = .ok (.istore_n 3, 1) := by decide +kernel
theorem dX3_digest_87 : decode cX3_digest 87 = .ok (.iload_n 3, 1) := by decide +kernel
theorem dX3_digest_88 : decode cX3_digest 88 = .ok (.iconst 4, 1) := by decide +kernel
theorem dX3_digest_89 : decode cX3_digest 89 = .ok (.if_icmp .ge 22, 3) := by decide +kernel
theorem dX3_digest_92 : decode cX3_digest 92 = .ok (.lload_n 1, 1) := by decide +kernel
theorem dX3_digest_93 : decode cX3_digest 93 = .ok (.aload_n 0, 1) := by decide +kernel
theorem dX3_digest_94 : decode cX3_digest 94 = .ok (.getfield 96, 3) := by decide +kernel
theorem dX3_digest_97 : decode cX3_digest 97 = .ok (.iload_n 3, 1) := by decide +kernel
theorem dX3_digest_98 : decode cX3_digest 98 = .ok (.invokestatic 124, 3) := by decide +kernel
theorem dX3_digest_101 : decode cX3_digest 101 = .ok (.invokestatic 192, 3) := by decide +kernel
theorem dX3_digest_104 : decode cX3_digest 104 = .ok (.lstore_n 1, 1) := by decide +kernel
theorem dX3_digest_105 : decode cX3_digest 105 = .ok (.iinc 3 1, 3) := by decide +kernel
theorem dX3_digest_108 : decode cX3_digest 108 = .ok (.goto (-21), 3) := by decide +kernel
theorem dX3_digest_111 : decode cX3_digest 111 = .ok (.iconst 1, 1) := by decide +kernel
theorem dX3_digest_112 : decode cX3_digest 112 = .ok (.istore_n 3, 1) := by decide +kernel
theorem dX3_digest_113 : decode cX3_digest 113 = .ok (.iload_n 3, 1) := by decide +kernel
theorem dX3_digest_114 : decode cX3_digest 114 = .ok (.bipush 6, 2) := by decide +kernel
theorem dX3_digest_116 : decode cX3_digest 116 = .ok (.if_icmp .gt 31, 3) := by decide +kernel
theorem dX3_digest_119 : decode cX3_digest 119 = .ok (.lload_n 1, 1) := by decide +kernel
theorem dX3_digest_120 : decode cX3_digest 120 = .ok (.aload_n 0, 1) := by decide +kernel
theorem dX3_digest_121 : decode cX3_digest 121 = .ok (.getfield 23, 3) := by decide +kernel
theorem dX3_digest_124 : decode cX3_digest 124 = .ok (.iload_n 3, 1) := by decide +kernel
theorem dX3_digest_125 : decode cX3_digest 125 = .ok (.iaload, 1) := by decide +kernel
theorem dX3_digest_126 : decode cX3_digest 126 = .ok (.invokestatic 192, 3) := by decide +kernel
theorem dX3_digest_129 : decode cX3_digest 129 = .ok (.lstore_n 1, 1) := by decide +kernel
theorem dX3_digest_130 : decode cX3_digest 130 = .ok (.lload_n 1, 1) := by decide +kernel
theorem dX3_digest_131 : decode cX3_digest 131 = .ok (.aload_n 0, 1) := by decide +kernel
theorem dX3_digest_132 : decode cX3_digest 132 = .ok (.getfield 27, 3) := by decide +kernel
theorem dX3_digest_135 : decode cX3_digest 135 = .ok (.iload_n 3, 1) := by decide +kernel
theorem dX3_digest_136 : decode cX3_digest 136 = .ok (.iaload, 1) := by decide +kernel
theorem dX3_digest_137 : decode cX3_digest 137 = .ok (.invokestatic 192, 3) := by decide +kernel
theorem dX3_digest_140 : decode cX3_digest 140 = .ok (.lstore_n 1, 1) := by decide +kernel
theorem dX3_digest_141 : decode cX3_digest 141 = .ok (.iinc 3 1, 3) := by decide +kernel
theorem dX3_digest_144 : decode cX3_digest 144 = .ok (.goto (-31), 3) := by decide +kernel
theorem dX3_digest_147 : decode cX3_digest 147 = .ok (.aload_n 0, 1) := by decide +kernel
theorem dX3_digest_148 : decode cX3_digest 148 = .ok (.lload_n 1, 1) := by decide +kernel
theorem dX3_digest_149 : decode cX3_digest 149 = .ok (.invokevirtual 207, 3) := by decide +kernel
theorem dX3_digest_152 : decode cX3_digest 152 = .ok (.lreturn, 1) := by decide +kernel
set_option maxRecDepth 20000 in
theorem ggX3_joinedWithCells_X3_searchFromHere : GoodIn wsX3_joinedWithCells wsX3_searchFromHere := goodIn_r _ [7, 2, 8, 9, 1, 10, 11, 12, 13, 14, 15, 16, 17, 18, 19, 20, 21, 22, 23, 24, 25, 26, 27, 28, 29, 30, 31, 32, 33, 34, 35, 36, 37, 38, 39, 40, 41, 42, 43, 44, 45, 46, 47, 48, 49, 50, 51, 52, 53, 54, 55, 56, 57, 58, 59, 60, 61, 62, 63, 64, 65, 66, 67, 68, 69, 70, 71, 72, 73, 99, 100, 101, 102, 103, 104, 105, 106, 111, 112, 113, 107, 108, 109, 110] (by decide +kernel) (by decide +kernel)
set_option maxRecDepth 20000 in
theorem gX3_joinedWithCells_X3_searchFromHere : GoodIn wsX3_joinedWithCells (wsV RX3 156 RX3 yX3_searchFromHere wsX3_searchFromHere) := goodIn_app (goodIn_of _ (by decide +kernel)) ggX3_joinedWithCells_X3_searchFromHere
set_option maxRecDepth 20000 in
theorem ggX3_joinedWithCells_X0_cellAt : GoodIn wsX3_joinedWithCells wsX0_cellAt := goodIn_r _ [54] (by decide +kernel) (by decide +kernel)
set_option maxRecDepth 20000 in
theorem gX3_joinedWithCells_X0_cellAt_n48 : GoodIn wsX3_joinedWithCells (wsX0_cellAt) := ggX3_joinedWithCells_X0_cellAt
set_option maxRecDepth 20000 in
theorem ggX3_joinedWithCells_X0_isFree : GoodIn wsX3_joinedWithCells wsX0_isFree := goodIn_r _ [44, 45, 46, 47, 48, 32, 49, 50, 51, 52, 53, 54, 107, 108, 109, 110] (by decide +kernel) (by decide +kernel)
set_option maxRecDepth 20000 in
theorem gX3_joinedWithCells_X0_isFree_n77 : GoodIn wsX3_joinedWithCells (wsX0_isFree) := ggX3_joinedWithCells_X0_isFree
set_option maxRecDepth 20000 in
theorem ggX3_joinedWithCells_X3_joined : GoodIn wsX3_joinedWithCells wsX3_joined := goodIn_r _ [76, 77] (by decide +kernel) (by decide +kernel)
set_option maxRecDepth 20000 in
theorem gX3_joinedWithCells_X3_joined : GoodIn wsX3_joinedWithCells (va_wsS RX3 192 yX3_joined wsX3_joined) := goodIn_app (goodIn_of _ (by decide +kernel)) ggX3_joinedWithCells_X3_joined
set_option maxRecDepth 20000 in
theorem ggX3_joinedWithCells_X0_printOn : GoodIn wsX3_joinedWithCells wsX0_printOn := goodIn_r _ [80, 81, 46, 47, 48, 32, 49, 50, 51, 52, 53, 54, 107, 108, 109, 110] (by decide +kernel) (by decide +kernel)
set_option maxRecDepth 20000 in
theorem gX3_joinedWithCells_X0_printOn_n127 : GoodIn wsX3_joinedWithCells (wsX0_printOn) := ggX3_joinedWithCells_X0_printOn
set_option maxRecDepth 20000 in
theorem ggX3_joinedWithCells_X1_fewestTo : GoodIn wsX3_joinedWithCells wsX1_fewestTo := goodIn_r _ [84, 85, 86, 87, 11, 88, 65, 56, 66, 27, 28, 29, 30, 14, 89, 90, 91, 92, 93, 94, 95, 111, 112, 113] (by decide +kernel) (by decide +kernel)
set_option maxRecDepth 20000 in
theorem gX3_joinedWithCells_X1_fewestTo_n159 : GoodIn wsX3_joinedWithCells (wsX1_fewestTo) := ggX3_joinedWithCells_X1_fewestTo
set_option maxRecDepth 20000 in
theorem ggX3_joinedWithCells_X1_countTops : GoodIn wsX3_joinedWithCells wsX1_countTops := goodIn_r _ [98, 85, 86, 87, 11, 88, 65, 56, 66, 27, 28, 29, 30, 14, 89, 90, 91, 92, 93, 94, 95, 111, 112, 113] (by decide +kernel) (by decide +kernel)
set_option maxRecDepth 20000 in
theorem gX3_joinedWithCells_X1_countTops_n174 : GoodIn wsX3_joinedWithCells (wsX1_countTops) := ggX3_joinedWithCells_X1_countTops
theorem dX3_joinedWithCells_0 : decode cX3_joinedWithCells 0 = .ok (.aload_n 0, 1) := by decide +kernel
theorem dX3_joinedWithCells_1 : decode cX3_joinedWithCells 1 = .ok (.invokevirtual 156, 3) := by decide +kernel
theorem dX3_joinedWithCells_4 : decode cX3_joinedWithCells 4 = .ok (.lload_n 1, 1) := by decide +kernel
theorem dX3_joinedWithCells_5 : decode cX3_joinedWithCells 5 = .ok (.lstore_n 3, 1) := by decide +kernel
theorem dX3_joinedWithCells_6 : decode cX3_joinedWithCells 6 = .ok (.iconst 0, 1) := by decide +kernel
theorem dX3_joinedWithCells_7 : decode cX3_joinedWithCells 7 = .ok (.istore 5, 2) := by decide +kernel
theorem dX3_joinedWithCells_9 : decode cX3_joinedWithCells 9 = .ok (.iload 5, 2) := by decide +kernel
theorem dX3_joinedWithCells_11 : decode cX3_joinedWithCells 11 = .ok (.aload_n 0, 1) := by decide +kernel
theorem dX3_joinedWithCells_12 : decode cX3_joinedWithCells 12 = .ok (.getfield 12, 3) := by decide +kernel
theorem dX3_joinedWithCells_15 : decode cX3_joinedWithCells 15 = .ok (.getfield 136, 3) := by decide +kernel
theorem dX3_joinedWithCells_18 : decode cX3_joinedWithCells 18 = .ok (.if_icmp .ge 107, 3) := by decide +kernel
theorem dX3_joinedWithCells_21 : decode cX3_joinedWithCells 21 = .ok (.iconst 0, 1) := by decide +kernel
theorem dX3_joinedWithCells_22 : decode cX3_joinedWithCells 22 = .ok (.istore 6, 2) := by decide +kernel
theorem dX3_joinedWithCells_24 : decode cX3_joinedWithCells 24 = .ok (.iload 6, 2) := by decide +kernel
theorem dX3_joinedWithCells_26 : decode cX3_joinedWithCells 26 = .ok (.aload_n 0, 1) := by decide +kernel
theorem dX3_joinedWithCells_27 : decode cX3_joinedWithCells 27 = .ok (.getfield 12, 3) := by decide +kernel
theorem dX3_joinedWithCells_30 : decode cX3_joinedWithCells 30 = .ok (.getfield 133, 3) := by decide +kernel
theorem dX3_joinedWithCells_33 : decode cX3_joinedWithCells 33 = .ok (.if_icmp .ge 86, 3) := by decide +kernel
theorem dX3_joinedWithCells_36 : decode cX3_joinedWithCells 36 = .ok (.iload 6, 2) := by decide +kernel
theorem dX3_joinedWithCells_38 : decode cX3_joinedWithCells 38 = .ok (.iload 5, 2) := by decide +kernel
theorem dX3_joinedWithCells_40 : decode cX3_joinedWithCells 40 = .ok (.invokestatic 48, 3) := by decide +kernel
theorem dX3_joinedWithCells_43 : decode cX3_joinedWithCells 43 = .ok (.istore 7, 2) := by decide +kernel
theorem dX3_joinedWithCells_45 : decode cX3_joinedWithCells 45 = .ok (.lload_n 3, 1) := by decide +kernel
theorem dX3_joinedWithCells_46 : decode cX3_joinedWithCells 46 = .ok (.aload_n 0, 1) := by decide +kernel
theorem dX3_joinedWithCells_47 : decode cX3_joinedWithCells 47 = .ok (.getfield 12, 3) := by decide +kernel
theorem dX3_joinedWithCells_50 : decode cX3_joinedWithCells 50 = .ok (.iload 6, 2) := by decide +kernel
theorem dX3_joinedWithCells_52 : decode cX3_joinedWithCells 52 = .ok (.iload 5, 2) := by decide +kernel
theorem dX3_joinedWithCells_54 : decode cX3_joinedWithCells 54 = .ok (.invokevirtual 77, 3) := by decide +kernel
theorem dX3_joinedWithCells_57 : decode cX3_joinedWithCells 57 = .ok (.ifCond .eq 7, 3) := by decide +kernel
theorem dX3_joinedWithCells_60 : decode cX3_joinedWithCells 60 = .ok (.iconst 0, 1) := by decide +kernel
theorem dX3_joinedWithCells_61 : decode cX3_joinedWithCells 61 = .ok (.goto 4, 3) := by decide +kernel
theorem dX3_joinedWithCells_64 : decode cX3_joinedWithCells 64 = .ok (.iconst 1, 1) := by decide +kernel
theorem dX3_joinedWithCells_65 : decode cX3_joinedWithCells 65 = .ok (.invokestatic 192, 3) := by decide +kernel
theorem dX3_joinedWithCells_68 : decode cX3_joinedWithCells 68 = .ok (.lstore_n 3, 1) := by decide +kernel
theorem dX3_joinedWithCells_69 : decode cX3_joinedWithCells 69 = .ok (.lload_n 3, 1) := by decide +kernel
theorem dX3_joinedWithCells_70 : decode cX3_joinedWithCells 70 = .ok (.aload_n 0, 1) := by decide +kernel
theorem dX3_joinedWithCells_71 : decode cX3_joinedWithCells 71 = .ok (.getfield 12, 3) := by decide +kernel
theorem dX3_joinedWithCells_74 : decode cX3_joinedWithCells 74 = .ok (.iload 6, 2) := by decide +kernel
theorem dX3_joinedWithCells_76 : decode cX3_joinedWithCells 76 = .ok (.iload 5, 2) := by decide +kernel
theorem dX3_joinedWithCells_78 : decode cX3_joinedWithCells 78 = .ok (.invokevirtual 127, 3) := by decide +kernel
theorem dX3_joinedWithCells_81 : decode cX3_joinedWithCells 81 = .ok (.invokestatic 192, 3) := by decide +kernel
theorem dX3_joinedWithCells_84 : decode cX3_joinedWithCells 84 = .ok (.lstore_n 3, 1) := by decide +kernel
theorem dX3_joinedWithCells_85 : decode cX3_joinedWithCells 85 = .ok (.lload_n 3, 1) := by decide +kernel
theorem dX3_joinedWithCells_86 : decode cX3_joinedWithCells 86 = .ok (.aload_n 0, 1) := by decide +kernel
theorem dX3_joinedWithCells_87 : decode cX3_joinedWithCells 87 = .ok (.getfield 19, 3) := by decide +kernel
theorem dX3_joinedWithCells_90 : decode cX3_joinedWithCells 90 = .ok (.iload 7, 2) := by decide +kernel
theorem dX3_joinedWithCells_92 : decode cX3_joinedWithCells 92 = .ok (.invokevirtual 159, 3) := by decide +kernel
theorem dX3_joinedWithCells_95 : decode cX3_joinedWithCells 95 = .ok (.invokestatic 192, 3) := by decide +kernel
theorem dX3_joinedWithCells_98 : decode cX3_joinedWithCells 98 = .ok (.lstore_n 3, 1) := by decide +kernel
theorem dX3_joinedWithCells_99 : decode cX3_joinedWithCells 99 = .ok (.lload_n 3, 1) := by decide +kernel
theorem dX3_joinedWithCells_100 : decode cX3_joinedWithCells 100 = .ok (.aload_n 0, 1) := by decide +kernel
theorem dX3_joinedWithCells_101 : decode cX3_joinedWithCells 101 = .ok (.getfield 19, 3) := by decide +kernel
theorem dX3_joinedWithCells_104 : decode cX3_joinedWithCells 104 = .ok (.iload 7, 2) := by decide +kernel
theorem dX3_joinedWithCells_106 : decode cX3_joinedWithCells 106 = .ok (.invokevirtual 174, 3) := by decide +kernel
theorem dX3_joinedWithCells_109 : decode cX3_joinedWithCells 109 = .ok (.invokestatic 192, 3) := by decide +kernel
theorem dX3_joinedWithCells_112 : decode cX3_joinedWithCells 112 = .ok (.lstore_n 3, 1) := by decide +kernel
theorem dX3_joinedWithCells_113 : decode cX3_joinedWithCells 113 = .ok (.iinc 6 1, 3) := by decide +kernel
theorem dX3_joinedWithCells_116 : decode cX3_joinedWithCells 116 = .ok (.goto (-92), 3) := by decide +kernel
theorem dX3_joinedWithCells_119 : decode cX3_joinedWithCells 119 = .ok (.iinc 5 1, 3) := by decide +kernel
theorem dX3_joinedWithCells_122 : decode cX3_joinedWithCells 122 = .ok (.goto (-113), 3) := by decide +kernel
theorem dX3_joinedWithCells_125 : decode cX3_joinedWithCells 125 = .ok (.lload_n 3, 1) := by decide +kernel
theorem dX3_joinedWithCells_126 : decode cX3_joinedWithCells 126 = .ok (.lreturn, 1) := by decide +kernel
theorem dX3_joined_0 : decode cX3_joined 0 = .ok (.lload_n 0, 1) := by decide +kernel
theorem dX3_joined_1 : decode cX3_joined 1 = .ok (.ldc2_w 211, 3) := by decide +kernel
theorem dX3_joined_4 : decode cX3_joined 4 = .ok (.lmul, 1) := by decide +kernel
theorem dX3_joined_5 : decode cX3_joined 5 = .ok (.iload_n 2, 1) := by decide +kernel
theorem dX3_joined_6 : decode cX3_joined 6 = .ok (.i2l, 1) := by decide +kernel
theorem dX3_joined_7 : decode cX3_joined 7 = .ok (.ladd, 1) := by decide +kernel
theorem dX3_joined_8 : decode cX3_joined 8 = .ok (.lreturn, 1) := by decide +kernel
set_option maxRecDepth 20000 in
theorem ggX3_startOn_X0_layOut : GoodIn wsX3_startOn wsX0_layOut := goodIn_r _ [9, 10, 11, 12, 13, 22, 23, 24, 25] (by decide +kernel) (by decide +kernel)
set_option maxRecDepth 20000 in
theorem gX3_startOn_X0_layOut_n213 : GoodIn wsX3_startOn (wsX0_layOut) := ggX3_startOn_X0_layOut
theorem dX3_startOn_0 : decode cX3_startOn 0 = .ok (.aload_n 0, 1) := by decide +kernel
theorem dX3_startOn_1 : decode cX3_startOn 1 = .ok (.getfield 12, 3) := by decide +kernel
theorem dX3_startOn_4 : decode cX3_startOn 4 = .ok (.iload_n 1, 1) := by decide +kernel
theorem dX3_startOn_5 : decode cX3_startOn 5 = .ok (.iload_n 2, 1) := by decide +kernel
theorem dX3_startOn_6 : decode cX3_startOn 6 = .ok (.invokevirtual 213, 3) := by decide +kernel
theorem dX3_startOn_9 : decode cX3_startOn 9 = .ok (.aload_n 0, 1) := by decide +kernel
theorem dX3_startOn_10 : decode cX3_startOn 10 = .ok (.iconst 0, 1) := by decide +kernel
theorem dX3_startOn_11 : decode cX3_startOn 11 = .ok (.putfield 52, 3) := by decide +kernel
theorem dX3_startOn_14 : decode cX3_startOn 14 = .ok (.aload_n 0, 1) := by decide +kernel
theorem dX3_startOn_15 : decode cX3_startOn 15 = .ok (.iconst 1, 1) := by decide +kernel
theorem dX3_startOn_16 : decode cX3_startOn 16 = .ok (.putfield 96, 3) := by decide +kernel
theorem dX3_startOn_19 : decode cX3_startOn 19 = .ok (.aload_n 0, 1) := by decide +kernel
theorem dX3_startOn_20 : decode cX3_startOn 20 = .ok (.iconst 0, 1) := by decide +kernel
theorem dX3_startOn_21 : decode cX3_startOn 21 = .ok (.putfield 142, 3) := by decide +kernel
theorem dX3_startOn_24 : decode cX3_startOn 24 = .ok (.aload_n 0, 1) := by decide +kernel
theorem dX3_startOn_25 : decode cX3_startOn 25 = .ok (.iconst 0, 1) := by decide +kernel
theorem dX3_startOn_26 : decode cX3_startOn 26 = .ok (.putfield 145, 3) := by decide +kernel
theorem dX3_startOn_29 : decode cX3_startOn 29 = .ok (.return_, 1) := by decide +kernel
set_option maxRecDepth 20000 in
theorem ggX3_rollOnce_X0_nextCell : GoodIn wsX3_rollOnce wsX0_nextCell := goodIn_r _ [8, 9, 10, 6, 11, 12, 13, 14, 15, 16, 17, 18, 19, 20, 21, 22, 23, 24, 25, 26, 27, 28, 78, 79, 80, 81] (by decide +kernel) (by decide +kernel)
set_option maxRecDepth 20000 in
theorem gX3_rollOnce_X0_nextCell_n130 : GoodIn wsX3_rollOnce (wsX0_nextCell) := ggX3_rollOnce_X0_nextCell
set_option maxRecDepth 20000 in
theorem ggX3_rollOnce_X2_behindRoll : GoodIn wsX3_rollOnce wsX2_behindRoll := goodIn_r _ [31, 32, 33, 30, 34, 35, 36, 37, 38, 39, 40, 41, 42, 43, 44, 45, 46] (by decide +kernel) (by decide +kernel)
set_option maxRecDepth 20000 in
theorem gX3_rollOnce_X2_behindRoll_n171 : GoodIn wsX3_rollOnce (wsX2_behindRoll) := ggX3_rollOnce_X2_behindRoll
set_option maxRecDepth 20000 in
theorem ggX3_rollOnce_X3_printHere : GoodIn wsX3_rollOnce wsX3_printHere := goodIn_r _ [51, 52, 1, 2, 53, 54, 55, 56, 57, 50, 58, 59, 60, 61, 62, 3, 33, 30, 34, 63, 64, 65, 66, 6, 67, 68, 69, 70, 71, 72, 73, 74, 75, 76, 77, 78, 79, 80, 81] (by decide +kernel) (by decide +kernel)
set_option maxRecDepth 20000 in
theorem gX3_rollOnce_X3_printHere : GoodIn wsX3_rollOnce (wsV RX3 216 RX3 yX3_printHere wsX3_printHere) := goodIn_app (goodIn_of _ (by decide +kernel)) ggX3_rollOnce_X3_printHere
theorem dX3_rollOnce_0 : decode cX3_rollOnce 0 = .ok (.aload_n 0, 1) := by decide +kernel
theorem dX3_rollOnce_1 : decode cX3_rollOnce 1 = .ok (.getfield 12, 3) := by decide +kernel
theorem dX3_rollOnce_4 : decode cX3_rollOnce 4 = .ok (.aload_n 0, 1) := by decide +kernel
theorem dX3_rollOnce_5 : decode cX3_rollOnce 5 = .ok (.getfield 52, 3) := by decide +kernel
theorem dX3_rollOnce_8 : decode cX3_rollOnce 8 = .ok (.iload_n 1, 1) := by decide +kernel
theorem dX3_rollOnce_9 : decode cX3_rollOnce 9 = .ok (.invokevirtual 130, 3) := by decide +kernel
theorem dX3_rollOnce_12 : decode cX3_rollOnce 12 = .ok (.istore_n 2, 1) := by decide +kernel
theorem dX3_rollOnce_13 : decode cX3_rollOnce 13 = .ok (.iload_n 2, 1) := by decide +kernel
theorem dX3_rollOnce_14 : decode cX3_rollOnce 14 = .ok (.iconst (-1), 1) := by decide +kernel
theorem dX3_rollOnce_15 : decode cX3_rollOnce 15 = .ok (.if_icmp .ne 5, 3) := by decide +kernel
theorem dX3_rollOnce_18 : decode cX3_rollOnce 18 = .ok (.iconst 0, 1) := by decide +kernel
theorem dX3_rollOnce_19 : decode cX3_rollOnce 19 = .ok (.ireturn, 1) := by decide +kernel
theorem dX3_rollOnce_20 : decode cX3_rollOnce 20 = .ok (.aload_n 0, 1) := by decide +kernel
theorem dX3_rollOnce_21 : decode cX3_rollOnce 21 = .ok (.iload_n 2, 1) := by decide +kernel
theorem dX3_rollOnce_22 : decode cX3_rollOnce 22 = .ok (.putfield 52, 3) := by decide +kernel
theorem dX3_rollOnce_25 : decode cX3_rollOnce 25 = .ok (.aload_n 0, 1) := by decide +kernel
theorem dX3_rollOnce_26 : decode cX3_rollOnce 26 = .ok (.aload_n 0, 1) := by decide +kernel
theorem dX3_rollOnce_27 : decode cX3_rollOnce 27 = .ok (.getfield 96, 3) := by decide +kernel
theorem dX3_rollOnce_30 : decode cX3_rollOnce 30 = .ok (.iload_n 1, 1) := by decide +kernel
theorem dX3_rollOnce_31 : decode cX3_rollOnce 31 = .ok (.invokestatic 171, 3) := by decide +kernel
theorem dX3_rollOnce_34 : decode cX3_rollOnce 34 = .ok (.putfield 96, 3) := by decide +kernel
theorem dX3_rollOnce_37 : decode cX3_rollOnce 37 = .ok (.aload_n 0, 1) := by decide +kernel
theorem dX3_rollOnce_38 : decode cX3_rollOnce 38 = .ok (.dup, 1) := by decide +kernel
theorem dX3_rollOnce_39 : decode cX3_rollOnce 39 = .ok (.getfield 142, 3) := by decide +kernel
theorem dX3_rollOnce_42 : decode cX3_rollOnce 42 = .ok (.iconst 1, 1) := by decide +kernel
theorem dX3_rollOnce_43 : decode cX3_rollOnce 43 = .ok (.iadd, 1) := by decide +kernel
theorem dX3_rollOnce_44 : decode cX3_rollOnce 44 = .ok (.putfield 142, 3) := by decide +kernel
theorem dX3_rollOnce_47 : decode cX3_rollOnce 47 = .ok (.aload_n 0, 1) := by decide +kernel
theorem dX3_rollOnce_48 : decode cX3_rollOnce 48 = .ok (.invokevirtual 216, 3) := by decide +kernel
theorem dX3_rollOnce_51 : decode cX3_rollOnce 51 = .ok (.iconst 1, 1) := by decide +kernel
theorem dX3_rollOnce_52 : decode cX3_rollOnce 52 = .ok (.ireturn, 1) := by decide +kernel
set_option maxRecDepth 20000 in
theorem ggX3_printHere_X3_bottom : GoodIn wsX3_printHere wsX3_bottom := goodIn_r _ [10, 11, 12, 13, 9, 14, 15, 16, 17, 18, 27, 28, 29, 30, 31, 32, 33, 34] (by decide +kernel) (by decide +kernel)
set_option maxRecDepth 20000 in
theorem gX3_printHere_X3_bottom : GoodIn wsX3_printHere (wsV RX3 107 RX3 yX3_bottom wsX3_bottom) := goodIn_app (goodIn_of _ (by decide +kernel)) ggX3_printHere_X3_bottom
set_option maxRecDepth 20000 in
theorem ggX3_printHere_X3_isFace : GoodIn wsX3_printHere wsX3_isFace := goodIn_r _ [21] (by decide +kernel) (by decide +kernel)
set_option maxRecDepth 20000 in
theorem gX3_printHere_X3_isFace : GoodIn wsX3_printHere (va_wsS RX3 219 yX3_isFace wsX3_isFace) := goodIn_app (goodIn_of _ (by decide +kernel)) ggX3_printHere_X3_isFace
set_option maxRecDepth 20000 in
theorem ggX3_printHere_X0_printOnto : GoodIn wsX3_printHere wsX0_printOnto := goodIn_r _ [25, 26, 35, 36, 37, 38] (by decide +kernel) (by decide +kernel)
set_option maxRecDepth 20000 in
theorem gX3_printHere_X0_printOnto_n222 : GoodIn wsX3_printHere (wsX0_printOnto) := ggX3_printHere_X0_printOnto
theorem dX3_printHere_0 : decode cX3_printHere 0 = .ok (.aload_n 0, 1) := by decide +kernel
theorem dX3_printHere_1 : decode cX3_printHere 1 = .ok (.invokevirtual 107, 3) := by decide +kernel
theorem dX3_printHere_4 : decode cX3_printHere 4 = .ok (.istore_n 1, 1) := by decide +kernel
theorem dX3_printHere_5 : decode cX3_printHere 5 = .ok (.iload_n 1, 1) := by decide +kernel
theorem dX3_printHere_6 : decode cX3_printHere 6 = .ok (.invokestatic 219, 3) := by decide +kernel
theorem dX3_printHere_9 : decode cX3_printHere 9 = .ok (.ifCond .eq 49, 3) := by decide +kernel
theorem dX3_printHere_12 : decode cX3_printHere 12 = .ok (.aload_n 0, 1) := by decide +kernel
theorem dX3_printHere_13 : decode cX3_printHere 13 = .ok (.getfield 27, 3) := by decide +kernel
theorem dX3_printHere_16 : decode cX3_printHere 16 = .ok (.iload_n 1, 1) := by decide +kernel
theorem dX3_printHere_17 : decode cX3_printHere 17 = .ok (.iaload, 1) := by decide +kernel
theorem dX3_printHere_18 : decode cX3_printHere 18 = .ok (.ifCond .le 40, 3) := by decide +kernel
theorem dX3_printHere_21 : decode cX3_printHere 21 = .ok (.aload_n 0, 1) := by decide +kernel
theorem dX3_printHere_22 : decode cX3_printHere 22 = .ok (.getfield 12, 3) := by decide +kernel
theorem dX3_printHere_25 : decode cX3_printHere 25 = .ok (.aload_n 0, 1) := by decide +kernel
theorem dX3_printHere_26 : decode cX3_printHere 26 = .ok (.getfield 52, 3) := by decide +kernel
theorem dX3_printHere_29 : decode cX3_printHere 29 = .ok (.aload_n 0, 1) := by decide +kernel
theorem dX3_printHere_30 : decode cX3_printHere 30 = .ok (.getfield 23, 3) := by decide +kernel
theorem dX3_printHere_33 : decode cX3_printHere 33 = .ok (.iload_n 1, 1) := by decide +kernel
theorem dX3_printHere_34 : decode cX3_printHere 34 = .ok (.iaload, 1) := by decide +kernel
theorem dX3_printHere_35 : decode cX3_printHere 35 = .ok (.invokevirtual 222, 3) := by decide +kernel
theorem dX3_printHere_38 : decode cX3_printHere 38 = .ok (.aload_n 0, 1) := by decide +kernel
theorem dX3_printHere_39 : decode cX3_printHere 39 = .ok (.getfield 27, 3) := by decide +kernel
theorem dX3_printHere_42 : decode cX3_printHere 42 = .ok (.iload_n 1, 1) := by decide +kernel
theorem dX3_printHere_43 : decode cX3_printHere 43 = .ok (.dup2, 1) := by decide +kernel
theorem dX3_printHere_44 : decode cX3_printHere 44 = .ok (.iaload, 1) := by decide +kernel
theorem dX3_printHere_45 : decode cX3_printHere 45 = .ok (.iconst 1, 1) := by decide +kernel
theorem dX3_printHere_46 : decode cX3_printHere 46 = .ok (.isub, 1) := by decide +kernel
theorem dX3_printHere_47 : decode cX3_printHere 47 = .ok (.iastore, 1) := by decide +kernel
theorem dX3_printHere_48 : decode cX3_printHere 48 = .ok (.aload_n 0, 1) := by decide +kernel
theorem dX3_printHere_49 : decode cX3_printHere 49 = .ok (.dup, 1) := by decide +kernel
theorem dX3_printHere_50 : decode cX3_printHere 50 = .ok (.getfield 145, 3) := by decide +kernel
theorem dX3_printHere_53 : decode cX3_printHere 53 = .ok (.iconst 1, 1) := by decide +kernel
theorem dX3_printHere_54 : decode cX3_printHere 54 = .ok (.iadd, 1) := by decide +kernel
theorem dX3_printHere_55 : decode cX3_printHere 55 = .ok (.putfield 145, 3) := by decide +kernel
theorem dX3_printHere_58 : decode cX3_printHere 58 = .ok (.return_, 1) := by decide +kernel
set_option maxRecDepth 20000 in
theorem ggX3_isShutIn_X0_nextCell : GoodIn wsX3_isShutIn wsX0_nextCell := goodIn_r _ [6, 7, 8, 4, 9, 10, 11, 12, 13, 14, 15, 16, 17, 18, 19, 20, 21, 22, 23, 24, 25, 26, 35, 36, 37, 38] (by decide +kernel) (by decide +kernel)
set_option maxRecDepth 20000 in
theorem gX3_isShutIn_X0_nextCell_n130 : GoodIn wsX3_isShutIn (wsX0_nextCell) := ggX3_isShutIn_X0_nextCell
theorem dX3_isShutIn_0 : decode cX3_isShutIn 0 = .ok (.iconst 0, 1) := by decide +kernel
theorem dX3_isShutIn_1 : decode cX3_isShutIn 1 = .ok (.istore_n 1, 1) := by decide +kernel
theorem dX3_isShutIn_2 : decode cX3_isShutIn 2 = .ok (.iload_n 1, 1) := by decide +kernel
theorem dX3_isShutIn_3 : decode cX3_isShutIn 3 = .ok (.iconst 4, 1) := by decide +kernel
theorem dX3_isShutIn_4 : decode cX3_isShutIn 4 = .ok (.if_icmp .ge 27, 3) := by decide +kernel
theorem dX3_isShutIn_7 : decode cX3_isShutIn 7 = .ok (.aload_n 0, 1) := by decide +kernel
theorem dX3_isShutIn_8 : decode cX3_isShutIn 8 = .ok (.getfield 12, 3) := by decide +kernel
theorem dX3_isShutIn_11 : decode cX3_isShutIn 11 = .ok (.aload_n 0, 1) := by decide +kernel
theorem dX3_isShutIn_12 : decode cX3_isShutIn 12 = .ok (.getfield 52, 3) := by decide +kernel
theorem dX3_isShutIn_15 : decode cX3_isShutIn 15 = .ok (.iload_n 1, 1) := by decide +kernel
theorem dX3_isShutIn_16 : decode cX3_isShutIn 16 = .ok (.invokevirtual 130, 3) := by decide +kernel
theorem dX3_isShutIn_19 : decode cX3_isShutIn 19 = .ok (.iconst (-1), 1) := by decide +kernel
theorem dX3_isShutIn_20 : decode cX3_isShutIn 20 = .ok (.if_icmp .eq 5, 3) := by decide +kernel
theorem dX3_isShutIn_23 : decode cX3_isShutIn 23 = .ok (.iconst 0, 1) := by decide +kernel
theorem dX3_isShutIn_24 : decode cX3_isShutIn 24 = .ok (.ireturn, 1) := by decide +kernel
theorem dX3_isShutIn_25 : decode cX3_isShutIn 25 = .ok (.iinc 1 1, 3) := by decide +kernel
theorem dX3_isShutIn_28 : decode cX3_isShutIn 28 = .ok (.goto (-26), 3) := by decide +kernel
theorem dX3_isShutIn_31 : decode cX3_isShutIn 31 = .ok (.iconst 1, 1) := by decide +kernel
theorem dX3_isShutIn_32 : decode cX3_isShutIn 32 = .ok (.ireturn, 1) := by decide +kernel
set_option maxRecDepth 20000 in
theorem ggX3_searchFromHere_X1_forget : GoodIn wsX3_searchFromHere wsX1_forget := goodIn_r _ [8, 9, 10, 11, 12, 13, 14, 77, 78, 79] (by decide +kernel) (by decide +kernel)
set_option maxRecDepth 20000 in
theorem gX3_searchFromHere_X1_forget_n225 : GoodIn wsX3_searchFromHere (wsX1_forget) := ggX3_searchFromHere_X1_forget
set_option maxRecDepth 20000 in
theorem ggX3_searchFromHere_X1_reach : GoodIn wsX3_searchFromHere wsX1_reach := goodIn_r _ [17, 9, 10, 18, 77, 78, 79] (by decide +kernel) (by decide +kernel)
set_option maxRecDepth 20000 in
theorem gX3_searchFromHere_X1_reach_n228 : GoodIn wsX3_searchFromHere (wsX1_reach) := ggX3_searchFromHere_X1_reach
set_option maxRecDepth 20000 in
theorem ggX3_searchFromHere_X1_spread : GoodIn wsX3_searchFromHere wsX1_spread := goodIn_r _ [21, 10, 18, 22, 23, 24, 6, 25, 9, 26, 27, 28, 29, 30, 31, 32, 33, 34, 35, 36, 37, 38, 39, 40, 41, 42, 43, 44, 45, 46, 47, 48, 49, 50, 51, 52, 53, 54, 55, 56, 57, 58, 59, 60, 61, 62, 63, 64, 65, 66, 67, 68, 15, 16, 17, 77, 78, 79, 80, 81, 82, 83] (by decide +kernel) (by decide +kernel)
set_option maxRecDepth 20000 in
theorem gX3_searchFromHere_X1_spread_n232 : GoodIn wsX3_searchFromHere (wsX1_spread) := ggX3_searchFromHere_X1_spread
theorem dX3_searchFromHere_0 : decode cX3_searchFromHere 0 = .ok (.aload_n 0, 1) := by decide +kernel
theorem dX3_searchFromHere_1 : decode cX3_searchFromHere 1 = .ok (.getfield 19, 3) := by decide +kernel
theorem dX3_searchFromHere_4 : decode cX3_searchFromHere 4 = .ok (.invokevirtual 225, 3) := by decide +kernel
theorem dX3_searchFromHere_7 : decode cX3_searchFromHere 7 = .ok (.aload_n 0, 1) := by decide +kernel
theorem dX3_searchFromHere_8 : decode cX3_searchFromHere 8 = .ok (.getfield 19, 3) := by decide +kernel
theorem dX3_searchFromHere_11 : decode cX3_searchFromHere 11 = .ok (.aload_n 0, 1) := by decide +kernel
theorem dX3_searchFromHere_12 : decode cX3_searchFromHere 12 = .ok (.getfield 52, 3) := by decide +kernel
theorem dX3_searchFromHere_15 : decode cX3_searchFromHere 15 = .ok (.aload_n 0, 1) := by decide +kernel
theorem dX3_searchFromHere_16 : decode cX3_searchFromHere 16 = .ok (.getfield 96, 3) := by decide +kernel
theorem dX3_searchFromHere_19 : decode cX3_searchFromHere 19 = .ok (.iconst 0, 1) := by decide +kernel
theorem dX3_searchFromHere_20 : decode cX3_searchFromHere 20 = .ok (.invokevirtual 228, 3) := by decide +kernel
theorem dX3_searchFromHere_23 : decode cX3_searchFromHere 23 = .ok (.aload_n 0, 1) := by decide +kernel
theorem dX3_searchFromHere_24 : decode cX3_searchFromHere 24 = .ok (.getfield 19, 3) := by decide +kernel
theorem dX3_searchFromHere_27 : decode cX3_searchFromHere 27 = .ok (.aload_n 0, 1) := by decide +kernel
theorem dX3_searchFromHere_28 : decode cX3_searchFromHere 28 = .ok (.getfield 12, 3) := by decide +kernel
theorem dX3_searchFromHere_31 : decode cX3_searchFromHere 31 = .ok (.invokevirtual 232, 3) := by decide +kernel
theorem dX3_searchFromHere_34 : decode cX3_searchFromHere 34 = .ok (.return_, 1) := by decide +kernel
set_option maxRecDepth 20000 in
theorem ggX3_searchBackFrom_X1_forget : GoodIn wsX3_searchBackFrom wsX1_forget := goodIn_r _ [6, 7, 8, 9, 10, 11, 12, 78, 79, 80] (by decide +kernel) (by decide +kernel)
set_option maxRecDepth 20000 in
theorem gX3_searchBackFrom_X1_forget_n225 : GoodIn wsX3_searchBackFrom (wsX1_forget) := ggX3_searchBackFrom_X1_forget
set_option maxRecDepth 20000 in
theorem ggX3_searchBackFrom_X0_isFreeCell : GoodIn wsX3_searchBackFrom wsX0_isFreeCell := goodIn_r _ [16, 17, 18, 14, 19, 20, 21, 22, 23, 24, 25, 26, 27, 28, 29, 30, 31, 32, 33, 34, 35, 36, 81, 82, 83, 84] (by decide +kernel) (by decide +kernel)
set_option maxRecDepth 20000 in
theorem gX3_searchBackFrom_X0_isFreeCell_n236 : GoodIn wsX3_searchBackFrom (wsX0_isFreeCell) := ggX3_searchBackFrom_X0_isFreeCell
set_option maxRecDepth 20000 in
theorem ggX3_searchBackFrom_X2_with : GoodIn wsX3_searchBackFrom wsX2_with := goodIn_r _ [39] (by decide +kernel) (by decide +kernel)
set_option maxRecDepth 20000 in
theorem gX3_searchBackFrom_X2_with_n239 : GoodIn wsX3_searchBackFrom (wsX2_with) := ggX3_searchBackFrom_X2_with
set_option maxRecDepth 20000 in
theorem ggX3_searchBackFrom_X1_reach : GoodIn wsX3_searchBackFrom wsX1_reach := goodIn_r _ [42, 7, 8, 43, 78, 79, 80] (by decide +kernel) (by decide +kernel)
set_option maxRecDepth 20000 in
theorem gX3_searchBackFrom_X1_reach_n228 : GoodIn wsX3_searchBackFrom (wsX1_reach) := ggX3_searchBackFrom_X1_reach
set_option maxRecDepth 20000 in
theorem ggX3_searchBackFrom_X1_spread : GoodIn wsX3_searchBackFrom wsX1_spread := goodIn_r _ [46, 8, 43, 47, 48, 49, 4, 50, 7, 51, 14, 52, 53, 17, 18, 19, 20, 21, 22, 23, 24, 25, 26, 27, 28, 29, 30, 31, 32, 33, 34, 35, 36, 54, 38, 55, 56, 57, 58, 59, 60, 61, 62, 37, 39, 63, 64, 65, 66, 67, 68, 69, 40, 41, 42, 78, 79, 80, 81, 82, 83, 84] (by decide +kernel) (by decide +kernel)
set_option maxRecDepth 20000 in
theorem gX3_searchBackFrom_X1_spread_n232 : GoodIn wsX3_searchBackFrom (wsX1_spread) := ggX3_searchBackFrom_X1_spread
theorem dX3_searchBackFrom_0 : decode cX3_searchBackFrom 0 = .ok (.aload_n 0, 1) := by decide +kernel
theorem dX3_searchBackFrom_1 : decode cX3_searchBackFrom 1 = .ok (.getfield 19, 3) := by decide +kernel
theorem dX3_searchBackFrom_4 : decode cX3_searchBackFrom 4 = .ok (.invokevirtual 225, 3) := by decide +kernel
theorem dX3_searchBackFrom_7 : decode cX3_searchBackFrom 7 = .ok (.aload_n 0, 1) := by decide +kernel
theorem dX3_searchBackFrom_8 : decode cX3_searchBackFrom 8 = .ok (.getfield 12, 3) := by decide +kernel
theorem dX3_searchBackFrom_11 : decode cX3_searchBackFrom 11 = .ok (.iload_n 1, 1) := by decide +kernel
theorem dX3_searchBackFrom_12 : decode cX3_searchBackFrom 12 = .ok (.invokevirtual 236, 3) := by decide +kernel
theorem dX3_searchBackFrom_15 : decode cX3_searchBackFrom 15 = .ok (.ifCond .ne 4, 3) := by decide +kernel
theorem dX3_searchBackFrom_18 : decode cX3_searchBackFrom 18 = .ok (.return_, 1) := by decide +kernel
theorem dX3_searchBackFrom_19 : decode cX3_searchBackFrom 19 = .ok (.iconst 1, 1) := by decide +kernel
theorem dX3_searchBackFrom_20 : decode cX3_searchBackFrom 20 = .ok (.istore_n 3, 1) := by decide +kernel
theorem dX3_searchBackFrom_21 : decode cX3_searchBackFrom 21 = .ok (.iload_n 3, 1) := by decide +kernel
theorem dX3_searchBackFrom_22 : decode cX3_searchBackFrom 22 = .ok (.bipush 6, 2) := by decide +kernel
theorem dX3_searchBackFrom_24 : decode cX3_searchBackFrom 24 = .ok (.if_icmp .gt 36, 3) := by decide +kernel
theorem dX3_searchBackFrom_27 : decode cX3_searchBackFrom 27 = .ok (.iload_n 3, 1) := by decide +kernel
theorem dX3_searchBackFrom_28 : decode cX3_searchBackFrom 28 = .ok (.iload_n 2, 1) := by decide +kernel
theorem dX3_searchBackFrom_29 : decode cX3_searchBackFrom 29 = .ok (.if_icmp .eq 25, 3) := by decide +kernel
theorem dX3_searchBackFrom_32 : decode cX3_searchBackFrom 32 = .ok (.iload_n 3, 1) := by decide +kernel
theorem dX3_searchBackFrom_33 : decode cX3_searchBackFrom 33 = .ok (.bipush 7, 2) := by decide +kernel
theorem dX3_searchBackFrom_35 : decode cX3_searchBackFrom 35 = .ok (.iload_n 2, 1) := by decide +kernel
theorem dX3_searchBackFrom_36 : decode cX3_searchBackFrom 36 = .ok (.isub, 1) := by decide +kernel
theorem dX3_searchBackFrom_37 : decode cX3_searchBackFrom 37 = .ok (.if_icmp .eq 17, 3) := by decide +kernel
theorem dX3_searchBackFrom_40 : decode cX3_searchBackFrom 40 = .ok (.aload_n 0, 1) := by decide +kernel
theorem dX3_searchBackFrom_41 : decode cX3_searchBackFrom 41 = .ok (.getfield 19, 3) := by decide +kernel
theorem dX3_searchBackFrom_44 : decode cX3_searchBackFrom 44 = .ok (.iload_n 1, 1) := by decide +kernel
theorem dX3_searchBackFrom_45 : decode cX3_searchBackFrom 45 = .ok (.iload_n 2, 1) := by decide +kernel
theorem dX3_searchBackFrom_46 : decode cX3_searchBackFrom 46 = .ok (.iload_n 3, 1) := by decide +kernel
theorem dX3_searchBackFrom_47 : decode cX3_searchBackFrom 47 = .ok (.invokestatic 239, 3) := by decide +kernel
theorem dX3_searchBackFrom_50 : decode cX3_searchBackFrom 50 = .ok (.iconst 0, 1) := by decide +kernel
theorem dX3_searchBackFrom_51 : decode cX3_searchBackFrom 51 = .ok (.invokevirtual 228, 3) := by decide +kernel
theorem dX3_searchBackFrom_54 : decode cX3_searchBackFrom 54 = .ok (.iinc 3 1, 3) := by decide +kernel
theorem dX3_searchBackFrom_57 : decode cX3_searchBackFrom 57 = .ok (.goto (-36), 3) := by decide +kernel
theorem dX3_searchBackFrom_60 : decode cX3_searchBackFrom 60 = .ok (.aload_n 0, 1) := by decide +kernel
theorem dX3_searchBackFrom_61 : decode cX3_searchBackFrom 61 = .ok (.getfield 19, 3) := by decide +kernel
theorem dX3_searchBackFrom_64 : decode cX3_searchBackFrom 64 = .ok (.aload_n 0, 1) := by decide +kernel
theorem dX3_searchBackFrom_65 : decode cX3_searchBackFrom 65 = .ok (.getfield 12, 3) := by decide +kernel
theorem dX3_searchBackFrom_68 : decode cX3_searchBackFrom 68 = .ok (.invokevirtual 232, 3) := by decide +kernel
theorem dX3_searchBackFrom_71 : decode cX3_searchBackFrom 71 = .ok (.return_, 1) := by decide +kernel
set_option maxRecDepth 20000 in
theorem ggX3_checkCell_X0_has : GoodIn wsX3_checkCell wsX0_has := goodIn_r _ [7, 8, 9, 18, 19, 20, 21] (by decide +kernel) (by decide +kernel)
set_option maxRecDepth 20000 in
theorem gX3_checkCell_X0_has_n242 : GoodIn wsX3_checkCell (wsX0_has) := ggX3_checkCell_X0_has
theorem dX3_checkCell_0 : decode cX3_checkCell 0 = .ok (.aload_n 0, 1) := by decide +kernel
theorem dX3_checkCell_1 : decode cX3_checkCell 1 = .ok (.getfield 12, 3) := by decide +kernel
theorem dX3_checkCell_4 : decode cX3_checkCell 4 = .ok (.iload_n 1, 1) := by decide +kernel
theorem dX3_checkCell_5 : decode cX3_checkCell 5 = .ok (.iload_n 2, 1) := by decide +kernel
theorem dX3_checkCell_6 : decode cX3_checkCell 6 = .ok (.invokevirtual 242, 3) := by decide +kernel
theorem dX3_checkCell_9 : decode cX3_checkCell 9 = .ok (.ifCond .ne 13, 3) := by decide +kernel
theorem dX3_checkCell_12 : decode cX3_checkCell 12 = .ok (.new 148, 3) := by decide +kernel
theorem dX3_checkCell_15 : decode cX3_checkCell 15 = .ok (.dup, 1) := by decide +kernel
theorem dX3_checkCell_16 : decode cX3_checkCell 16 = .ok (.ldc 245, 2) := by decide +kernel
theorem dX3_checkCell_18 : decode cX3_checkCell 18 = .ok (.invokespecial 152, 3) := by decide +kernel
theorem dX3_checkCell_21 : decode cX3_checkCell 21 = .ok (.athrow, 1) := by decide +kernel
theorem dX3_checkCell_22 : decode cX3_checkCell 22 = .ok (.return_, 1) := by decide +kernel
set_option maxRecDepth 20000 in
theorem ggX3_checkFace_X3_isFace : GoodIn wsX3_checkFace wsX3_isFace := goodIn_r _ [6] (by decide +kernel) (by decide +kernel)
set_option maxRecDepth 20000 in
theorem gX3_checkFace_X3_isFace : GoodIn wsX3_checkFace (va_wsS RX3 219 yX3_isFace wsX3_isFace) := goodIn_app (goodIn_of _ (by decide +kernel)) ggX3_checkFace_X3_isFace
theorem dX3_checkFace_0 : decode cX3_checkFace 0 = .ok (.iload_n 0, 1) := by decide +kernel
theorem dX3_checkFace_1 : decode cX3_checkFace 1 = .ok (.invokestatic 219, 3) := by decide +kernel
theorem dX3_checkFace_4 : decode cX3_checkFace 4 = .ok (.ifCond .ne 13, 3) := by decide +kernel
theorem dX3_checkFace_7 : decode cX3_checkFace 7 = .ok (.new 148, 3) := by decide +kernel
theorem dX3_checkFace_10 : decode cX3_checkFace 10 = .ok (.dup, 1) := by decide +kernel
theorem dX3_checkFace_11 : decode cX3_checkFace 11 = .ok (.ldc 247, 2) := by decide +kernel
theorem dX3_checkFace_13 : decode cX3_checkFace 13 = .ok (.invokespecial 152, 3) := by decide +kernel
theorem dX3_checkFace_16 : decode cX3_checkFace 16 = .ok (.athrow, 1) := by decide +kernel
theorem dX3_checkFace_17 : decode cX3_checkFace 17 = .ok (.return_, 1) := by decide +kernel
theorem dX3_checkDirection_0 : decode cX3_checkDirection 0 = .ok (.iload_n 0, 1) := by decide +kernel
theorem dX3_checkDirection_1 : decode cX3_checkDirection 1 = .ok (.ifCond .lt 8, 3) := by decide +kernel
theorem dX3_checkDirection_4 : decode cX3_checkDirection 4 = .ok (.iload_n 0, 1) := by decide +kernel
theorem dX3_checkDirection_5 : decode cX3_checkDirection 5 = .ok (.iconst 4, 1) := by decide +kernel
theorem dX3_checkDirection_6 : decode cX3_checkDirection 6 = .ok (.if_icmp .lt 13, 3) := by decide +kernel
theorem dX3_checkDirection_9 : decode cX3_checkDirection 9 = .ok (.new 148, 3) := by decide +kernel
theorem dX3_checkDirection_12 : decode cX3_checkDirection 12 = .ok (.dup, 1) := by decide +kernel
theorem dX3_checkDirection_13 : decode cX3_checkDirection 13 = .ok (.ldc 249, 2) := by decide +kernel
theorem dX3_checkDirection_15 : decode cX3_checkDirection 15 = .ok (.invokespecial 152, 3) := by decide +kernel
theorem dX3_checkDirection_18 : decode cX3_checkDirection 18 = .ok (.athrow, 1) := by decide +kernel
theorem dX3_checkDirection_19 : decode cX3_checkDirection 19 = .ok (.return_, 1) := by decide +kernel
theorem dX3_isFace_0 : decode cX3_isFace 0 = .ok (.iload_n 0, 1) := by decide +kernel
theorem dX3_isFace_1 : decode cX3_isFace 1 = .ok (.iconst 1, 1) := by decide +kernel
theorem dX3_isFace_2 : decode cX3_isFace 2 = .ok (.if_icmp .lt 13, 3) := by decide +kernel
theorem dX3_isFace_5 : decode cX3_isFace 5 = .ok (.iload_n 0, 1) := by decide +kernel
theorem dX3_isFace_6 : decode cX3_isFace 6 = .ok (.bipush 6, 2) := by decide +kernel
theorem dX3_isFace_8 : decode cX3_isFace 8 = .ok (.if_icmp .gt 7, 3) := by decide +kernel
theorem dX3_isFace_11 : decode cX3_isFace 11 = .ok (.iconst 1, 1) := by decide +kernel
theorem dX3_isFace_12 : decode cX3_isFace 12 = .ok (.goto 4, 3) := by decide +kernel
theorem dX3_isFace_15 : decode cX3_isFace 15 = .ok (.iconst 0, 1) := by decide +kernel
theorem dX3_isFace_16 : decode cX3_isFace 16 = .ok (.ireturn, 1) := by decide +kernel
theorem dX3_isSide_0 : decode cX3_isSide 0 = .ok (.iload_n 0, 1) := by decide +kernel
theorem dX3_isSide_1 : decode cX3_isSide 1 = .ok (.iconst 2, 1) := by decide +kernel
theorem dX3_isSide_2 : decode cX3_isSide 2 = .ok (.if_icmp .lt 13, 3) := by decide +kernel
theorem dX3_isSide_5 : decode cX3_isSide 5 = .ok (.iload_n 0, 1) := by decide +kernel
theorem dX3_isSide_6 : decode cX3_isSide 6 = .ok (.bipush 7, 2) := by decide +kernel
theorem dX3_isSide_8 : decode cX3_isSide 8 = .ok (.if_icmp .gt 7, 3) := by decide +kernel
theorem dX3_isSide_11 : decode cX3_isSide 11 = .ok (.iconst 1, 1) := by decide +kernel
theorem dX3_isSide_12 : decode cX3_isSide 12 = .ok (.goto 4, 3) := by decide +kernel
theorem dX3_isSide_15 : decode cX3_isSide 15 = .ok (.iconst 0, 1) := by decide +kernel
theorem dX3_isSide_16 : decode cX3_isSide 16 = .ok (.ireturn, 1) := by decide +kernel
end
section
theorem dX4_init_0 : decode cX4_init 0 = .ok (.aload_n 0, 1) := by decide +kernel
theorem dX4_init_1 : decode cX4_init 1 = .ok (.invokespecial 1, 3) := by decide +kernel
theorem dX4_init_4 : decode cX4_init 4 = .ok (.aload_n 0, 1) := by decide +kernel
theorem dX4_init_5 : decode cX4_init 5 = .ok (.iconst 5, 1) := by decide +kernel
theorem dX4_init_6 : decode cX4_init 6 = .ok (.putfield 7, 3) := by decide +kernel
theorem dX4_init_9 : decode cX4_init 9 = .ok (.aload_n 0, 1) := by decide +kernel
theorem dX4_init_10 : decode cX4_init 10 = .ok (.iconst 5, 1) := by decide +kernel
theorem dX4_init_11 : decode cX4_init 11 = .ok (.putfield 13, 3) := by decide +kernel
theorem dX4_init_14 : decode cX4_init 14 = .ok (.aload_n 0, 1) := by decide +kernel
theorem dX4_init_15 : decode cX4_init 15 = .ok (.iconst 5, 1) := by decide +kernel
theorem dX4_init_16 : decode cX4_init 16 = .ok (.iconst 5, 1) := by decide +kernel
theorem dX4_init_17 : decode cX4_init 17 = .ok (.multianewarray 16 2, 4) := by decide +kernel
theorem dX4_init_21 : decode cX4_init 21 = .ok (.putfield 18, 3) := by decide +kernel
theorem dX4_init_24 : decode cX4_init 24 = .ok (.aload_n 0, 1) := by decide +kernel
theorem dX4_init_25 : decode cX4_init 25 = .ok (.iconst 5, 1) := by decide +kernel
theorem dX4_init_26 : decode cX4_init 26 = .ok (.iconst 5, 1) := by decide +kernel
theorem dX4_init_27 : decode cX4_init 27 = .ok (.multianewarray 21 2, 4) := by decide +kernel
theorem dX4_init_31 : decode cX4_init 31 = .ok (.putfield 23, 3) := by decide +kernel
theorem dX4_init_34 : decode cX4_init 34 = .ok (.aload_n 0, 1) := by decide +kernel
theorem dX4_init_35 : decode cX4_init 35 = .ok (.bipush 7, 2) := by decide +kernel
theorem dX4_init_37 : decode cX4_init 37 = .ok (.newarray .int, 2) := by decide +kernel
theorem dX4_init_39 : decode cX4_init 39 = .ok (.dup, 1) := by decide +kernel
theorem dX4_init_40 : decode cX4_init 40 = .ok (.iconst 0, 1) := by decide +kernel
theorem dX4_init_41 : decode cX4_init 41 = .ok (.iconst 0, 1) := by decide +kernel
theorem dX4_init_42 : decode cX4_init 42 = .ok (.iastore, 1) := by decide +kernel
theorem dX4_init_43 : decode cX4_init 43 = .ok (.dup, 1) := by decide +kernel
theorem dX4_init_44 : decode cX4_init 44 = .ok (.iconst 1, 1) := by decide +kernel
theorem dX4_init_45 : decode cX4_init 45 = .ok (.iconst 1, 1) := by decide +kernel
theorem dX4_init_46 : decode cX4_init 46 = .ok (.iastore, 1) := by decide +kernel
theorem dX4_init_47 : decode cX4_init 47 = .ok (.dup, 1) := by decide +kernel
theorem dX4_init_48 : decode cX4_init 48 = .ok (.iconst 2, 1) := by decide +kernel
theorem dX4_init_49 : decode cX4_init 49 = .ok (.iconst 2, 1) := by decide +kernel
theorem dX4_init_50 : decode cX4_init 50 = .ok (.iastore, 1) := by decide +kernel
theorem dX4_init_51 : decode cX4_init 51 = .ok (.dup, 1) := by decide +kernel
theorem dX4_init_52 : decode cX4_init 52 = .ok (.iconst 3, 1) := by decide +kernel
theorem dX4_init_53 : decode cX4_init 53 = .ok (.iconst 3, 1) := by decide +kernel
theorem dX4_init_54 : decode cX4_init 54 = .ok (.iastore, 1) := by decide +kernel
theorem dX4_init_55 : decode cX4_init 55 = .ok (.dup, 1) := by decide +kernel
theorem dX4_init_56 : decode cX4_init 56 = .ok (.iconst 4, 1) := by decide +kernel
theorem dX4_init_57 : decode cX4_init 57 = .ok (.iconst 4, 1) := by decide +kernel
theorem dX4_init_58 : decode cX4_init 58 = .ok (.iastore, 1) := by decide +kernel
theorem dX4_init_59 : decode cX4_init 59 = .ok (.dup, 1) := by decide +kernel
theorem dX4_init_60 : decode cX4_init 60 = .ok (.iconst 5, 1) := by decide +kernel
theorem dX4_init_61 : decode cX4_init 61 = .ok (.iconst 5, 1) := by decide +kernel
theorem dX4_init_62 : decode cX4_init 62 = .ok (.iastore, 1) := by decide +kernel
theorem dX4_init_63 : decode cX4_init 63 = .ok (.dup, 1) := by decide +kernel
theorem dX4_init_64 : decode cX4_init 64 = .ok (.bipush 6, 2) := by decide +kernel
theorem dX4_init_66 : decode cX4_init 66 = .ok (.bipush 6, 2) := by decide +kernel
theorem dX4_init_68 : decode cX4_init 68 = .ok (.iastore, 1) := by decide +kernel
theorem dX4_init_69 : decode cX4_init 69 = .ok (.putfield 26, 3) := by decide +kernel
theorem dX4_init_72 : decode cX4_init 72 = .ok (.aload_n 0, 1) := by decide +kernel
theorem dX4_init_73 : decode cX4_init 73 = .ok (.bipush 7, 2) := by decide +kernel
theorem dX4_init_75 : decode cX4_init 75 = .ok (.newarray .int, 2) := by decide +kernel
theorem dX4_init_77 : decode cX4_init 77 = .ok (.putfield 30, 3) := by decide +kernel
theorem dX4_init_80 : decode cX4_init 80 = .ok (.aload_n 0, 1) := by decide +kernel
theorem dX4_init_81 : decode cX4_init 81 = .ok (.bipush 6, 2) := by decide +kernel
theorem dX4_init_83 : decode cX4_init 83 = .ok (.newarray .int, 2) := by decide +kernel
theorem dX4_init_85 : decode cX4_init 85 = .ok (.dup, 1) := by decide +kernel
theorem dX4_init_86 : decode cX4_init 86 = .ok (.iconst 0, 1) := by decide +kernel
theorem dX4_init_87 : decode cX4_init 87 = .ok (.iconst 1, 1) := by decide +kernel
theorem dX4_init_88 : decode cX4_init 88 = .ok (.iastore, 1) := by decide +kernel
theorem dX4_init_89 : decode cX4_init 89 = .ok (.dup, 1) := by decide +kernel
theorem dX4_init_90 : decode cX4_init 90 = .ok (.iconst 1, 1) := by decide +kernel
theorem dX4_init_91 : decode cX4_init 91 = .ok (.bipush 6, 2) := by decide +kernel
theorem dX4_init_93 : decode cX4_init 93 = .ok (.iastore, 1) := by decide +kernel
theorem dX4_init_94 : decode cX4_init 94 = .ok (.dup, 1) := by decide +kernel
theorem dX4_init_95 : decode cX4_init 95 = .ok (.iconst 2, 1) := by decide +kernel
theorem dX4_init_96 : decode cX4_init 96 = .ok (.iconst 2, 1) := by decide +kernel
theorem dX4_init_97 : decode cX4_init 97 = .ok (.iastore, 1) := by decide +kernel
theorem dX4_init_98 : decode cX4_init 98 = .ok (.dup, 1) := by decide +kernel
theorem dX4_init_99 : decode cX4_init 99 = .ok (.iconst 3, 1) := by decide +kernel
theorem dX4_init_100 : decode cX4_init 100 = .ok (.iconst 3, 1) := by decide +kernel
theorem dX4_init_101 : decode cX4_init 101 = .ok (.iastore, 1) := by decide +kernel
theorem dX4_init_102 : decode cX4_init 102 = .ok (.dup, 1) := by decide +kernel
theorem dX4_init_103 : decode cX4_init 103 = .ok (.iconst 4, 1) := by decide +kernel
theorem dX4_init_104 : decode cX4_init 104 = .ok (.iconst 5, 1) := by decide +kernel
theorem dX4_init_105 : decode cX4_init 105 = .ok (.iastore, 1) := by decide +kernel
theorem dX4_init_106 : decode cX4_init 106 = .ok (.dup, 1) := by decide +kernel
theorem dX4_init_107 : decode cX4_init 107 = .ok (.iconst 5, 1) := by decide +kernel
theorem dX4_init_108 : decode cX4_init 108 = .ok (.iconst 4, 1) := by decide +kernel
theorem dX4_init_109 : decode cX4_init 109 = .ok (.iastore, 1) := by decide +kernel
theorem dX4_init_110 : decode cX4_init 110 = .ok (.putfield 33, 3) := by decide +kernel
theorem dX4_init_113 : decode cX4_init 113 = .ok (.return_, 1) := by decide +kernel
set_option maxRecDepth 20000 in
theorem ggX4_board_X4_put : GoodIn wsX4_board wsX4_put := goodIn_r _ [15, 16, 17, 7, 18, 19, 20, 21, 22, 23, 24, 25, 26, 27, 28, 29] (by decide +kernel) (by decide +kernel)
set_option maxRecDepth 20000 in
theorem gX4_board_X4_put : GoodIn wsX4_board (wsV RX4 42 RX4 yX4_put wsX4_put) := goodIn_app (goodIn_of _ (by decide +kernel)) ggX4_board_X4_put
theorem dX4_board_0 : decode cX4_board 0 = .ok (.aload_n 0, 1) := by decide +kernel
theorem dX4_board_1 : decode cX4_board 1 = .ok (.iload_n 1, 1) := by decide +kernel
theorem dX4_board_2 : decode cX4_board 2 = .ok (.putfield 7, 3) := by decide +kernel
theorem dX4_board_5 : decode cX4_board 5 = .ok (.aload_n 0, 1) := by decide +kernel
theorem dX4_board_6 : decode cX4_board 6 = .ok (.iload_n 2, 1) := by decide +kernel
theorem dX4_board_7 : decode cX4_board 7 = .ok (.putfield 13, 3) := by decide +kernel
theorem dX4_board_10 : decode cX4_board 10 = .ok (.aload_n 0, 1) := by decide +kernel
theorem dX4_board_11 : decode cX4_board 11 = .ok (.aload_n 0, 1) := by decide +kernel
theorem dX4_board_12 : decode cX4_board 12 = .ok (.getfield 7, 3) := by decide +kernel
theorem dX4_board_15 : decode cX4_board 15 = .ok (.aload_n 0, 1) := by decide +kernel
theorem dX4_board_16 : decode cX4_board 16 = .ok (.getfield 13, 3) := by decide +kernel
theorem dX4_board_19 : decode cX4_board 19 = .ok (.multianewarray 16 2, 4) := by decide +kernel
theorem dX4_board_23 : decode cX4_board 23 = .ok (.putfield 18, 3) := by decide +kernel
theorem dX4_board_26 : decode cX4_board 26 = .ok (.aload_n 0, 1) := by decide +kernel
theorem dX4_board_27 : decode cX4_board 27 = .ok (.aload_n 0, 1) := by decide +kernel
theorem dX4_board_28 : decode cX4_board 28 = .ok (.getfield 7, 3) := by decide +kernel
theorem dX4_board_31 : decode cX4_board 31 = .ok (.aload_n 0, 1) := by decide +kernel
theorem dX4_board_32 : decode cX4_board 32 = .ok (.getfield 13, 3) := by decide +kernel
theorem dX4_board_35 : decode cX4_board 35 = .ok (.multianewarray 21 2, 4) := by decide +kernel
theorem dX4_board_39 : decode cX4_board 39 = .ok (.putfield 23, 3) := by decide +kernel
theorem dX4_board_42 : decode cX4_board 42 = .ok (.aload_n 0, 1) := by decide +kernel
theorem dX4_board_43 : decode cX4_board 43 = .ok (.iconst 0, 1) := by decide +kernel
theorem dX4_board_44 : decode cX4_board 44 = .ok (.putfield 36, 3) := by decide +kernel
theorem dX4_board_47 : decode cX4_board 47 = .ok (.aload_n 0, 1) := by decide +kernel
theorem dX4_board_48 : decode cX4_board 48 = .ok (.iconst 0, 1) := by decide +kernel
theorem dX4_board_49 : decode cX4_board 49 = .ok (.putfield 39, 3) := by decide +kernel
theorem dX4_board_52 : decode cX4_board 52 = .ok (.aload_n 0, 1) := by decide +kernel
theorem dX4_board_53 : decode cX4_board 53 = .ok (.iconst 0, 1) := by decide +kernel
theorem dX4_board_54 : decode cX4_board 54 = .ok (.iconst 0, 1) := by decide +kernel
theorem dX4_board_55 : decode cX4_board 55 = .ok (.invokevirtual 42, 3) := by decide +kernel
theorem dX4_board_58 : decode cX4_board 58 = .ok (.return_, 1) := by decide +kernel
theorem dX4_put_0 : decode cX4_put 0 = .ok (.aload_n 0, 1) := by decide +kernel
theorem dX4_put_1 : decode cX4_put 1 = .ok (.iload_n 1, 1) := by decide +kernel
theorem dX4_put_2 : decode cX4_put 2 = .ok (.putfield 46, 3) := by decide +kernel
theorem dX4_put_5 : decode cX4_put 5 = .ok (.aload_n 0, 1) := by decide +kernel
theorem dX4_put_6 : decode cX4_put 6 = .ok (.iload_n 2, 1) := by decide +kernel
theorem dX4_put_7 : decode cX4_put 7 = .ok (.putfield 49, 3) := by decide +kernel
theorem dX4_put_10 : decode cX4_put 10 = .ok (.aload_n 0, 1) := by decide +kernel
theorem dX4_put_11 : decode cX4_put 11 = .ok (.bipush 6, 2) := by decide +kernel
theorem dX4_put_13 : decode cX4_put 13 = .ok (.newarray .int, 2) := by decide +kernel
theorem dX4_put_15 : decode cX4_put 15 = .ok (.dup, 1) := by decide +kernel
theorem dX4_put_16 : decode cX4_put 16 = .ok (.iconst 0, 1) := by decide +kernel
theorem dX4_put_17 : decode cX4_put 17 = .ok (.iconst 1, 1) := by decide +kernel
theorem dX4_put_18 : decode cX4_put 18 = .ok (.iastore, 1) := by decide +kernel
theorem dX4_put_19 : decode cX4_put 19 = .ok (.dup, 1) := by decide +kernel
theorem dX4_put_20 : decode cX4_put 20 = .ok (.iconst 1, 1) := by decide +kernel
theorem dX4_put_21 : decode cX4_put 21 = .ok (.bipush 6, 2) := by decide +kernel
theorem dX4_put_23 : decode cX4_put 23 = .ok (.iastore, 1) := by decide +kernel
theorem dX4_put_24 : decode cX4_put 24 = .ok (.dup, 1) := by decide +kernel
theorem dX4_put_25 : decode cX4_put 25 = .ok (.iconst 2, 1) := by decide +kernel
theorem dX4_put_26 : decode cX4_put 26 = .ok (.iconst 2, 1) := by decide +kernel
theorem dX4_put_27 : decode cX4_put 27 = .ok (.iastore, 1) := by decide +kernel
theorem dX4_put_28 : decode cX4_put 28 = .ok (.dup, 1) := by decide +kernel
theorem dX4_put_29 : decode cX4_put 29 = .ok (.iconst 3, 1) := by decide +kernel
theorem dX4_put_30 : decode cX4_put 30 = .ok (.iconst 3, 1) := by decide +kernel
theorem dX4_put_31 : decode cX4_put 31 = .ok (.iastore, 1) := by decide +kernel
theorem dX4_put_32 : decode cX4_put 32 = .ok (.dup, 1) := by decide +kernel
theorem dX4_put_33 : decode cX4_put 33 = .ok (.iconst 4, 1) := by decide +kernel
theorem dX4_put_34 : decode cX4_put 34 = .ok (.iconst 5, 1) := by decide +kernel
theorem dX4_put_35 : decode cX4_put 35 = .ok (.iastore, 1) := by decide +kernel
theorem dX4_put_36 : decode cX4_put 36 = .ok (.dup, 1) := by decide +kernel
theorem dX4_put_37 : decode cX4_put 37 = .ok (.iconst 5, 1) := by decide +kernel
theorem dX4_put_38 : decode cX4_put 38 = .ok (.iconst 4, 1) := by decide +kernel
theorem dX4_put_39 : decode cX4_put 39 = .ok (.iastore, 1) := by decide +kernel
theorem dX4_put_40 : decode cX4_put 40 = .ok (.putfield 33, 3) := by decide +kernel
theorem dX4_put_43 : decode cX4_put 43 = .ok (.return_, 1) := by decide +kernel
theorem dX4_isFree_0 : decode cX4_isFree 0 = .ok (.iload_n 1, 1) := by decide +kernel
theorem dX4_isFree_1 : decode cX4_isFree 1 = .ok (.ifCond .lt 38, 3) := by decide +kernel
theorem dX4_isFree_4 : decode cX4_isFree 4 = .ok (.iload_n 2, 1) := by decide +kernel
theorem dX4_isFree_5 : decode cX4_isFree 5 = .ok (.ifCond .lt 34, 3) := by decide +kernel
theorem dX4_isFree_8 : decode cX4_isFree 8 = .ok (.iload_n 1, 1) := by decide +kernel
theorem dX4_isFree_9 : decode cX4_isFree 9 = .ok (.aload_n 0, 1) := by decide +kernel
theorem dX4_isFree_10 : decode cX4_isFree 10 = .ok (.getfield 7, 3) := by decide +kernel
theorem dX4_isFree_13 : decode cX4_isFree 13 = .ok (.if_icmp .ge 26, 3) := by decide +kernel
theorem dX4_isFree_16 : decode cX4_isFree 16 = .ok (.iload_n 2, 1) := by decide +kernel
theorem dX4_isFree_17 : decode cX4_isFree 17 = .ok (.aload_n 0, 1) := by decide +kernel
theorem dX4_isFree_18 : decode cX4_isFree 18 = .ok (.getfield 13, 3) := by decide +kernel
theorem dX4_isFree_21 : decode cX4_isFree 21 = .ok (.if_icmp .ge 18, 3) := by decide +kernel
theorem dX4_isFree_24 : decode cX4_isFree 24 = .ok (.aload_n 0, 1) := by decide +kernel
theorem dX4_isFree_25 : decode cX4_isFree 25 = .ok (.getfield 18, 3) := by decide +kernel
theorem dX4_isFree_28 : decode cX4_isFree 28 = .ok (.iload_n 1, 1) := by decide +kernel
theorem dX4_isFree_29 : decode cX4_isFree 29 = .ok (.aaload, 1) := by decide +kernel
theorem dX4_isFree_30 : decode cX4_isFree 30 = .ok (.iload_n 2, 1) := by decide +kernel
theorem dX4_isFree_31 : decode cX4_isFree 31 = .ok (.baload, 1) := by decide +kernel
theorem dX4_isFree_32 : decode cX4_isFree 32 = .ok (.ifCond .ne 7, 3) := by decide +kernel
theorem dX4_isFree_35 : decode cX4_isFree 35 = .ok (.iconst 1, 1) := by decide +kernel
theorem dX4_isFree_36 : decode cX4_isFree 36 = .ok (.goto 4, 3) := by decide +kernel
theorem dX4_isFree_39 : decode cX4_isFree 39 = .ok (.iconst 0, 1) := by decide +kernel
theorem dX4_isFree_40 : decode cX4_isFree 40 = .ok (.ireturn, 1) := by decide +kernel
set_option maxRecDepth 20000 in
theorem ggX4_can_X4_isFree : GoodIn wsX4_can wsX4_isFree := goodIn_r _ [7, 8, 9, 10, 11, 12, 13, 14, 15, 16, 17, 18, 19, 20, 21] (by decide +kernel) (by decide +kernel)
set_option maxRecDepth 20000 in
theorem gX4_can_X4_isFree : GoodIn wsX4_can (wsV RX4 60 RX4 yX4_isFree wsX4_isFree) := goodIn_app (goodIn_of _ (by decide +kernel)) ggX4_can_X4_isFree
theorem dX4_can_0 : decode cX4_can 0 = .ok (.aload_n 0, 1) := by decide +kernel
theorem dX4_can_1 : decode cX4_can 1 = .ok (.aload_n 0, 1) := by decide +kernel
theorem dX4_can_2 : decode cX4_can 2 = .ok (.getfield 46, 3) := by decide +kernel
theorem dX4_can_5 : decode cX4_can 5 = .ok (.getstatic 52, 3) := by decide +kernel
theorem dX4_can_8 : decode cX4_can 8 = .ok (.iload_n 1, 1) := by decide +kernel
theorem dX4_can_9 : decode cX4_can 9 = .ok (.iaload, 1) := by decide +kernel
theorem dX4_can_10 : decode cX4_can 10 = .ok (.iadd, 1) := by decide +kernel
theorem dX4_can_11 : decode cX4_can 11 = .ok (.aload_n 0, 1) := by decide +kernel
theorem dX4_can_12 : decode cX4_can 12 = .ok (.getfield 49, 3) := by decide +kernel
theorem dX4_can_15 : decode cX4_can 15 = .ok (.getstatic 57, 3) := by decide +kernel
theorem dX4_can_18 : decode cX4_can 18 = .ok (.iload_n 1, 1) := by decide +kernel
theorem dX4_can_19 : decode cX4_can 19 = .ok (.iaload, 1) := by decide +kernel
theorem dX4_can_20 : decode cX4_can 20 = .ok (.iadd, 1) := by decide +kernel
theorem dX4_can_21 : decode cX4_can 21 = .ok (.invokevirtual 60, 3) := by decide +kernel
theorem dX4_can_24 : decode cX4_can 24 = .ok (.ireturn, 1) := by decide +kernel
theorem dX4_tipped_0 : decode cX4_tipped 0 = .ok (.aload_n 0, 1) := by decide +kernel
theorem dX4_tipped_1 : decode cX4_tipped 1 = .ok (.invokevirtual 64, 3) := by decide +kernel
theorem dX4_tipped_4 : decode cX4_tipped 4 = .ok (.checkcast 65, 3) := by decide +kernel
theorem dX4_tipped_7 : decode cX4_tipped 7 = .ok (.astore_n 2, 1) := by decide +kernel
theorem dX4_tipped_8 : decode cX4_tipped 8 = .ok (.iconst 2, 1) := by decide +kernel
theorem dX4_tipped_9 : decode cX4_tipped 9 = .ok (.iload_n 1, 1) := by decide +kernel
theorem dX4_tipped_10 : decode cX4_tipped 10 = .ok (.iadd, 1) := by decide +kernel
theorem dX4_tipped_11 : decode cX4_tipped 11 = .ok (.istore_n 3, 1) := by decide +kernel
theorem dX4_tipped_12 : decode cX4_tipped 12 = .ok (.iconst 2, 1) := by decide +kernel
theorem dX4_tipped_13 : decode cX4_tipped 13 = .ok (.iload_n 1, 1) := by decide +kernel
theorem dX4_tipped_14 : decode cX4_tipped 14 = .ok (.iconst 2, 1) := by decide +kernel
theorem dX4_tipped_15 : decode cX4_tipped 15 = .ok (.iadd, 1) := by decide +kernel
theorem dX4_tipped_16 : decode cX4_tipped 16 = .ok (.iconst 4, 1) := by decide +kernel
theorem dX4_tipped_17 : decode cX4_tipped 17 = .ok (.irem, 1) := by decide +kernel
theorem dX4_tipped_18 : decode cX4_tipped 18 = .ok (.iadd, 1) := by decide +kernel
theorem dX4_tipped_19 : decode cX4_tipped 19 = .ok (.istore 4, 2) := by decide +kernel
theorem dX4_tipped_21 : decode cX4_tipped 21 = .ok (.aload_n 2, 1) := by decide +kernel
theorem dX4_tipped_22 : decode cX4_tipped 22 = .ok (.iconst 1, 1) := by decide +kernel
theorem dX4_tipped_23 : decode cX4_tipped 23 = .ok (.aload_n 0, 1) := by decide +kernel
theorem dX4_tipped_24 : decode cX4_tipped 24 = .ok (.iload_n 3, 1) := by decide +kernel
theorem dX4_tipped_25 : decode cX4_tipped 25 = .ok (.iaload, 1) := by decide +kernel
theorem dX4_tipped_26 : decode cX4_tipped 26 = .ok (.iastore, 1) := by decide +kernel
theorem dX4_tipped_27 : decode cX4_tipped 27 = .ok (.aload_n 2, 1) := by decide +kernel
theorem dX4_tipped_28 : decode cX4_tipped 28 = .ok (.iload_n 3, 1) := by decide +kernel
theorem dX4_tipped_29 : decode cX4_tipped 29 = .ok (.aload_n 0, 1) := by decide +kernel
theorem dX4_tipped_30 : decode cX4_tipped 30 = .ok (.iconst 0, 1) := by decide +kernel
theorem dX4_tipped_31 : decode cX4_tipped 31 = .ok (.iaload, 1) := by decide +kernel
theorem dX4_tipped_32 : decode cX4_tipped 32 = .ok (.iastore, 1) := by decide +kernel
theorem dX4_tipped_33 : decode cX4_tipped 33 = .ok (.aload_n 2, 1) := by decide +kernel
theorem dX4_tipped_34 : decode cX4_tipped 34 = .ok (.iload 4, 2) := by decide +kernel
theorem dX4_tipped_36 : decode cX4_tipped 36 = .ok (.aload_n 0, 1) := by decide +kernel
theorem dX4_tipped_37 : decode cX4_tipped 37 = .ok (.iconst 1, 1) := by decide +kernel
theorem dX4_tipped_38 : decode cX4_tipped 38 = .ok (.iaload, 1) := by decide +kernel
theorem dX4_tipped_39 : decode cX4_tipped 39 = .ok (.iastore, 1) := by decide +kernel
theorem dX4_tipped_40 : decode cX4_tipped 40 = .ok (.aload_n 2, 1) := by decide +kernel
theorem dX4_tipped_41 : decode cX4_tipped 41 = .ok (.iconst 0, 1) := by decide +kernel
theorem dX4_tipped_42 : decode cX4_tipped 42 = .ok (.aload_n 0, 1) := by decide +kernel
theorem dX4_tipped_43 : decode cX4_tipped 43 = .ok (.iload 4, 2) := by decide +kernel
theorem dX4_tipped_45 : decode cX4_tipped 45 = .ok (.iaload, 1) := by decide +kernel
theorem dX4_tipped_46 : decode cX4_tipped 46 = .ok (.iastore, 1) := by decide +kernel
theorem dX4_tipped_47 : decode cX4_tipped 47 = .ok (.aload_n 2, 1) := by decide +kernel
theorem dX4_tipped_48 : decode cX4_tipped 48 = .ok (.areturn, 1) := by decide +kernel
set_option maxRecDepth 20000 in
theorem ggX4_roll_X4_can : GoodIn wsX4_roll wsX4_can := goodIn_r _ [13, 1, 2, 14, 15, 16, 12, 17, 18, 19, 20, 30, 31, 32, 33, 34, 35, 36, 37, 38, 39, 40] (by decide +kernel) (by decide +kernel)
set_option maxRecDepth 20000 in
theorem gX4_roll_X4_can : GoodIn wsX4_roll (wsV RX4 69 RX4 yX4_can wsX4_can) := goodIn_app (goodIn_of _ (by decide +kernel)) ggX4_roll_X4_can
set_option maxRecDepth 20000 in
theorem ggX4_roll_X4_tipped : GoodIn wsX4_roll wsX4_tipped := goodIn_r _ [23, 24, 25, 26, 27, 28, 29] (by decide +kernel) (by decide +kernel)
set_option maxRecDepth 20000 in
theorem gX4_roll_X4_tipped : GoodIn wsX4_roll (va_wsS RX4 73 yX4_tipped wsX4_tipped) := goodIn_app (goodIn_of _ (by decide +kernel)) ggX4_roll_X4_tipped
theorem dX4_roll_0 : decode cX4_roll 0 = .ok (.aload_n 0, 1) := by decide +kernel
theorem dX4_roll_1 : decode cX4_roll 1 = .ok (.iload_n 1, 1) := by decide +kernel
theorem dX4_roll_2 : decode cX4_roll 2 = .ok (.invokevirtual 69, 3) := by decide +kernel
theorem dX4_roll_5 : decode cX4_roll 5 = .ok (.ifCond .ne 5, 3) := by decide +kernel
theorem dX4_roll_8 : decode cX4_roll 8 = .ok (.iconst 0, 1) := by decide +kernel
theorem dX4_roll_9 : decode cX4_roll 9 = .ok (.ireturn, 1) := by decide +kernel
theorem dX4_roll_10 : decode cX4_roll 10 = .ok (.aload_n 0, 1) := by decide +kernel
theorem dX4_roll_11 : decode cX4_roll 11 = .ok (.dup, 1) := by decide +kernel
theorem dX4_roll_12 : decode cX4_roll 12 = .ok (.getfield 46, 3) := by decide +kernel
theorem dX4_roll_15 : decode cX4_roll 15 = .ok (.getstatic 52, 3) := by decide +kernel
theorem dX4_roll_18 : decode cX4_roll 18 = .ok (.iload_n 1, 1) := by decide +kernel
theorem dX4_roll_19 : decode cX4_roll 19 = .ok (.iaload, 1) := by decide +kernel
theorem dX4_roll_20 : decode cX4_roll 20 = .ok (.iadd, 1) := by decide +kernel
theorem dX4_roll_21 : decode cX4_roll 21 = .ok (.putfield 46, 3) := by decide +kernel
theorem dX4_roll_24 : decode cX4_roll 24 = .ok (.aload_n 0, 1) := by decide +kernel
theorem dX4_roll_25 : decode cX4_roll 25 = .ok (.dup, 1) := by decide +kernel
theorem dX4_roll_26 : decode cX4_roll 26 = .ok (.getfield 49, 3) := by decide +kernel
theorem dX4_roll_29 : decode cX4_roll 29 = .ok (.getstatic 57, 3) := by decide +kernel
theorem dX4_roll_32 : decode cX4_roll 32 = .ok (.iload_n 1, 1) := by decide +kernel
theorem dX4_roll_33 : decode cX4_roll 33 = .ok (.iaload, 1) := by decide +kernel
theorem dX4_roll_34 : decode cX4_roll 34 = .ok (.iadd, 1) := by decide +kernel
theorem dX4_roll_35 : decode cX4_roll 35 = .ok (.putfield 49, 3) := by decide +kernel
theorem dX4_roll_38 : decode cX4_roll 38 = .ok (.aload_n 0, 1) := by decide +kernel
theorem dX4_roll_39 : decode cX4_roll 39 = .ok (.aload_n 0, 1) := by decide +kernel
theorem dX4_roll_40 : decode cX4_roll 40 = .ok (.getfield 33, 3) := by decide +kernel
theorem dX4_roll_43 : decode cX4_roll 43 = .ok (.iload_n 1, 1) := by decide +kernel
theorem dX4_roll_44 : decode cX4_roll 44 = .ok (.invokestatic 73, 3) := by decide +kernel
theorem dX4_roll_47 : decode cX4_roll 47 = .ok (.putfield 33, 3) := by decide +kernel
theorem dX4_roll_50 : decode cX4_roll 50 = .ok (.aload_n 0, 1) := by decide +kernel
theorem dX4_roll_51 : decode cX4_roll 51 = .ok (.dup, 1) := by decide +kernel
theorem dX4_roll_52 : decode cX4_roll 52 = .ok (.getfield 36, 3) := by decide +kernel
theorem dX4_roll_55 : decode cX4_roll 55 = .ok (.iconst 1, 1) := by decide +kernel
theorem dX4_roll_56 : decode cX4_roll 56 = .ok (.iadd, 1) := by decide +kernel
theorem dX4_roll_57 : decode cX4_roll 57 = .ok (.putfield 36, 3) := by decide +kernel
theorem dX4_roll_60 : decode cX4_roll 60 = .ok (.aload_n 0, 1) := by decide +kernel
theorem dX4_roll_61 : decode cX4_roll 61 = .ok (.getfield 30, 3) := by decide +kernel
theorem dX4_roll_64 : decode cX4_roll 64 = .ok (.aload_n 0, 1) := by decide +kernel
theorem dX4_roll_65 : decode cX4_roll 65 = .ok (.getfield 33, 3) := by decide +kernel
theorem dX4_roll_68 : decode cX4_roll 68 = .ok (.iconst 1, 1) := by decide +kernel
theorem dX4_roll_69 : decode cX4_roll 69 = .ok (.iaload, 1) := by decide +kernel
theorem dX4_roll_70 : decode cX4_roll 70 = .ok (.iaload, 1) := by decide +kernel
theorem dX4_roll_71 : decode cX4_roll 71 = .ok (.ifCond .le 53, 3) := by decide +kernel
theorem dX4_roll_74 : decode cX4_roll 74 = .ok (.aload_n 0, 1) := by decide +kernel
theorem dX4_roll_75 : decode cX4_roll 75 = .ok (.getfield 30, 3) := by decide +kernel
theorem dX4_roll_78 : decode cX4_roll 78 = .ok (.aload_n 0, 1) := by decide +kernel
theorem dX4_roll_79 : decode cX4_roll 79 = .ok (.getfield 33, 3) := by decide +kernel
theorem dX4_roll_82 : decode cX4_roll 82 = .ok (.iconst 1, 1) := by decide +kernel
theorem dX4_roll_83 : decode cX4_roll 83 = .ok (.iaload, 1) := by decide +kernel
theorem dX4_roll_84 : decode cX4_roll 84 = .ok (.dup2, 1) := by decide +kernel
theorem dX4_roll_85 : decode cX4_roll 85 = .ok (.iaload, 1) := by decide +kernel
theorem dX4_roll_86 : decode cX4_roll 86 = .ok (.iconst 1, 1) := by decide +kernel
theorem dX4_roll_87 : decode cX4_roll 87 = .ok (.isub, 1) := by decide +kernel
theorem dX4_roll_88 : decode cX4_roll 88 = .ok (.iastore, 1) := by decide +kernel
theorem dX4_roll_89 : decode cX4_roll 89 = .ok (.aload_n 0, 1) := by decide +kernel
theorem dX4_roll_90 : decode cX4_roll 90 = .ok (.getfield 23, 3) := by decide +kernel
theorem dX4_roll_93 : decode cX4_roll 93 = .ok (.aload_n 0, 1) := by decide +kernel
theorem dX4_roll_94 : decode cX4_roll 94 = .ok (.getfield 46, 3) := by decide +kernel
theorem dX4_roll_97 : decode cX4_roll 97 = .ok (.aaload, 1) := by decide +kernel
theorem dX4_roll_98 : decode cX4_roll 98 = .ok (.aload_n 0, 1) := by decide +kernel
theorem dX4_roll_99 : decode cX4_roll 99 = .ok (.getfield 49, 3) := by decide +kernel
theorem dX4_roll_102 : decode cX4_roll 102 = .ok (.aload_n 0, 1) := by decide +kernel
theorem dX4_roll_103 : decode cX4_roll 103 = .ok (.getfield 26, 3) := by decide +kernel
theorem dX4_roll_106 : decode cX4_roll 106 = .ok (.aload_n 0, 1) := by decide +kernel
theorem dX4_roll_107 : decode cX4_roll 107 = .ok (.getfield 33, 3) := by decide +kernel
theorem dX4_roll_110 : decode cX4_roll 110 = .ok (.iconst 1, 1) := by decide +kernel
theorem dX4_roll_111 : decode cX4_roll 111 = .ok (.iaload, 1) := by decide +kernel
theorem dX4_roll_112 : decode cX4_roll 112 = .ok (.iaload, 1) := by decide +kernel
theorem dX4_roll_113 : decode cX4_roll 113 = .ok (.iastore, 1) := by decide +kernel
theorem dX4_roll_114 : decode cX4_roll 114 = .ok (.aload_n 0, 1) := by decide +kernel
theorem dX4_roll_115 : decode cX4_roll 115 = .ok (.dup, 1) := by decide +kernel
theorem dX4_roll_116 : decode cX4_roll 116 = .ok (.getfield 39, 3) := by decide +kernel
theorem dX4_roll_119 : decode cX4_roll 119 = .ok (.iconst 1, 1) := by decide +kernel
theorem dX4_roll_120 : decode cX4_roll 120 = .ok (.iadd, 1) := by decide +kernel
theorem dX4_roll_121 : decode cX4_roll 121 = .ok (.putfield 39, 3) := by decide +kernel
theorem dX4_roll_124 : decode cX4_roll 124 = .ok (.iconst 1, 1) := by decide +kernel
theorem dX4_roll_125 : decode cX4_roll 125 = .ok (.ireturn, 1) := by decide +kernel
set_option maxRecDepth 20000 in
theorem ggX4_isSame_X3_isWall : GoodIn wsX4_isSame wsX3_isWall := goodIn_ca (goodIn_r _ [18, 19, 20, 21, 22, 17, 23, 24, 25, 26, 27, 28, 29, 30, 31, 32, 33, 34, 35, 36, 37, 38, 39, 181, 182, 183, 184, 185, 186, 187, 188, 189, 190, 191, 192] (by decide +kernel) (by decide +kernel)) (goodIn_sub (fun _ h => List.mem_cons_of_mem _ (List.mem_append_right _ h)) (by decide +kernel))
set_option maxRecDepth 20000 in
theorem gX4_isSame_X3_isWall : GoodIn wsX4_isSame (wsV RX4 79 RX3 yX3_isWall wsX3_isWall) := goodIn_app (goodIn_of _ (by decide +kernel)) ggX4_isSame_X3_isWall
set_option maxRecDepth 20000 in
theorem ggX4_isSame_X3_printAt : GoodIn wsX4_isSame wsX3_printAt := goodIn_ca (goodIn_r _ [43, 19, 20, 21, 22, 17, 23, 24, 25, 26, 27, 28, 29, 30, 31, 44, 45, 46, 47, 36, 37, 38, 39, 181, 182, 183, 184, 185, 186, 187, 188, 189, 190, 191, 192] (by decide +kernel) (by decide +kernel)) (goodIn_sub (fun _ h => List.mem_cons_of_mem _ (List.mem_append_right _ h)) (by decide +kernel))
set_option maxRecDepth 20000 in
theorem gX4_isSame_X3_printAt : GoodIn wsX4_isSame (wsV RX4 84 RX3 yX3_printAt wsX3_printAt) := goodIn_app (goodIn_of _ (by decide +kernel)) ggX4_isSame_X3_printAt
set_option maxRecDepth 20000 in
theorem ggX4_isSame_X3_colourOf : GoodIn wsX4_isSame wsX3_colourOf := goodIn_ca (goodIn_r _ [51, 52, 53, 54, 17, 55, 24, 25, 56, 57, 58, 181, 182, 183, 184, 185, 186, 187, 188] (by decide +kernel) (by decide +kernel)) (goodIn_sub (fun _ h => List.mem_cons_of_mem _ (List.mem_append_right _ h)) (by decide +kernel))
set_option maxRecDepth 20000 in
theorem gX4_isSame_X3_colourOf : GoodIn wsX4_isSame (wsV RX4 88 RX3 yX3_colourOf wsX3_colourOf) := goodIn_app (goodIn_of _ (by decide +kernel)) ggX4_isSame_X3_colourOf
set_option maxRecDepth 20000 in
theorem ggX4_isSame_X3_paintOf : GoodIn wsX4_isSame wsX3_paintOf := goodIn_ca (goodIn_r _ [62, 63, 53, 54, 17, 55, 24, 25, 56, 57, 58, 181, 182, 183, 184, 185, 186, 187, 188] (by decide +kernel) (by decide +kernel)) (goodIn_sub (fun _ h => List.mem_cons_of_mem _ (List.mem_append_right _ h)) (by decide +kernel))
set_option maxRecDepth 20000 in
theorem gX4_isSame_X3_paintOf : GoodIn wsX4_isSame (wsV RX4 92 RX3 yX3_paintOf wsX3_paintOf) := goodIn_app (goodIn_of _ (by decide +kernel)) ggX4_isSame_X3_paintOf
set_option maxRecDepth 20000 in
theorem ggX4_isSame_X3_cellsWith : GoodIn wsX4_isSame wsX3_cellsWith := goodIn_ca (goodIn_r _ [67, 24, 25, 19, 68, 27, 69, 70, 31, 30, 71, 44, 45, 46, 47, 36, 26, 28, 29, 37, 38, 39, 181, 182, 183, 184, 185, 186, 187, 188, 189, 190, 191, 192] (by decide +kernel) (by decide +kernel)) (goodIn_sub (fun _ h => List.mem_cons_of_mem _ (List.mem_append_right _ h)) (by decide +kernel))
set_option maxRecDepth 20000 in
theorem gX4_isSame_X3_cellsWith : GoodIn wsX4_isSame (wsV RX4 95 RX3 yX3_cellsWith wsX3_cellsWith) := goodIn_app (goodIn_of _ (by decide +kernel)) ggX4_isSame_X3_cellsWith
set_option maxRecDepth 20000 in
theorem ggX4_isSame_X3_faceTo : GoodIn wsX4_isSame wsX3_faceTo := goodIn_ca (goodIn_r _ [75, 76, 77, 78, 17, 79, 24, 25, 80, 81, 82, 83, 84, 85, 86, 87, 88, 89, 90, 91, 92, 93, 94, 181, 182, 183, 184, 185, 186, 187, 188] (by decide +kernel) (by decide +kernel)) (goodIn_sub (fun _ h => List.mem_cons_of_mem _ (List.mem_append_right _ h)) (by decide +kernel))
set_option maxRecDepth 20000 in
theorem gX4_isSame_X3_faceTo : GoodIn wsX4_isSame (wsV RX4 98 RX3 yX3_faceTo wsX3_faceTo) := goodIn_app (goodIn_of _ (by decide +kernel)) ggX4_isSame_X3_faceTo
set_option maxRecDepth 20000 in
theorem ggX4_isSame_X3_canRoll : GoodIn wsX4_isSame wsX3_canRoll := goodIn_ca (goodIn_r _ [98, 19, 99, 77, 78, 17, 79, 24, 25, 100, 27, 101, 102, 103, 104, 105, 106, 107, 108, 109, 32, 33, 34, 35, 36, 26, 28, 29, 30, 31, 37, 38, 39, 181, 182, 183, 184, 185, 186, 187, 188, 189, 190, 191, 192] (by decide +kernel) (by decide +kernel)) (goodIn_sub (fun _ h => List.mem_cons_of_mem _ (List.mem_append_right _ h)) (by decide +kernel))
set_option maxRecDepth 20000 in
theorem gX4_isSame_X3_canRoll : GoodIn wsX4_isSame (wsV RX4 101 RX3 yX3_canRoll wsX3_canRoll) := goodIn_app (goodIn_of _ (by decide +kernel)) ggX4_isSame_X3_canRoll
set_option maxRecDepth 20000 in
theorem ggX4_isSame_X4_can : GoodIn wsX4_isSame wsX4_can := goodIn_r _ [114, 11, 12, 115, 116, 117, 113, 118, 2, 3, 4, 170, 171, 172, 173, 174, 175, 176, 177, 178, 179, 180] (by decide +kernel) (by decide +kernel)
set_option maxRecDepth 20000 in
theorem gX4_isSame_X4_can : GoodIn wsX4_isSame (wsV RX4 69 RX4 yX4_can wsX4_can) := goodIn_app (goodIn_of _ (by decide +kernel)) ggX4_isSame_X4_can
set_option maxRecDepth 20000 in
theorem ggX4_isSame_X3_width : GoodIn wsX4_isSame wsX3_width := goodIn_r _ [122, 19, 181, 182, 183, 184, 185, 186, 187, 188, 189, 190, 191, 192] (by decide +kernel) (by decide +kernel)
set_option maxRecDepth 20000 in
theorem gX4_isSame_X3_width : GoodIn wsX4_isSame (wsV RX4 104 RX3 yX3_width wsX3_width) := goodIn_app (goodIn_of _ (by decide +kernel)) ggX4_isSame_X3_width
set_option maxRecDepth 20000 in
theorem ggX4_isSame_X3_height : GoodIn wsX4_isSame wsX3_height := goodIn_r _ [126, 19, 181, 182, 183, 184, 185, 186, 187, 188, 189, 190, 191, 192] (by decide +kernel) (by decide +kernel)
set_option maxRecDepth 20000 in
theorem gX4_isSame_X3_height : GoodIn wsX4_isSame (wsV RX4 108 RX3 yX3_height wsX3_height) := goodIn_app (goodIn_of _ (by decide +kernel)) ggX4_isSame_X3_height
set_option maxRecDepth 20000 in
theorem ggX4_isSame_X3_walls : GoodIn wsX4_isSame wsX3_walls := goodIn_r _ [130, 19, 131, 27, 132, 133, 35, 181, 182, 183, 184, 185, 186, 187, 188, 189, 190, 191, 192] (by decide +kernel) (by decide +kernel)
set_option maxRecDepth 20000 in
theorem gX4_isSame_X3_walls : GoodIn wsX4_isSame (wsV RX4 111 RX3 yX3_walls wsX3_walls) := goodIn_app (goodIn_of _ (by decide +kernel)) ggX4_isSame_X3_walls
set_option maxRecDepth 20000 in
theorem ggX4_isSame_X3_rolls : GoodIn wsX4_isSame wsX3_rolls := goodIn_r _ [137, 138, 181, 182, 183, 184, 185, 186, 187, 188] (by decide +kernel) (by decide +kernel)
set_option maxRecDepth 20000 in
theorem gX4_isSame_X3_rolls : GoodIn wsX4_isSame (wsV RX4 114 RX3 yX3_rolls wsX3_rolls) := goodIn_app (goodIn_of _ (by decide +kernel)) ggX4_isSame_X3_rolls
set_option maxRecDepth 20000 in
theorem ggX4_isSame_X3_prints : GoodIn wsX4_isSame wsX3_prints := goodIn_r _ [142, 143, 181, 182, 183, 184, 185, 186, 187, 188] (by decide +kernel) (by decide +kernel)
set_option maxRecDepth 20000 in
theorem gX4_isSame_X3_prints : GoodIn wsX4_isSame (wsV RX4 116 RX3 yX3_prints wsX3_prints) := goodIn_app (goodIn_of _ (by decide +kernel)) ggX4_isSame_X3_prints
set_option maxRecDepth 20000 in
theorem ggX4_isSame_X3_column : GoodIn wsX4_isSame wsX3_column := goodIn_r _ [147, 99, 104, 27, 105, 181, 182, 183, 184, 185, 186, 187, 188] (by decide +kernel) (by decide +kernel)
set_option maxRecDepth 20000 in
theorem gX4_isSame_X3_column : GoodIn wsX4_isSame (wsV RX4 118 RX3 yX3_column wsX3_column) := goodIn_app (goodIn_of _ (by decide +kernel)) ggX4_isSame_X3_column
set_option maxRecDepth 20000 in
theorem ggX4_isSame_X3_row : GoodIn wsX4_isSame wsX3_row := goodIn_r _ [151, 99, 107, 27, 108, 181, 182, 183, 184, 185, 186, 187, 188] (by decide +kernel) (by decide +kernel)
set_option maxRecDepth 20000 in
theorem gX4_isSame_X3_row : GoodIn wsX4_isSame (wsV RX4 121 RX3 yX3_row wsX3_row) := goodIn_app (goodIn_of _ (by decide +kernel)) ggX4_isSame_X3_row
set_option maxRecDepth 20000 in
theorem ggX4_isSame_X3_top : GoodIn wsX4_isSame wsX3_top := goodIn_r _ [155, 76, 90, 81, 91, 181, 182, 183, 184, 185, 186, 187, 188] (by decide +kernel) (by decide +kernel)
set_option maxRecDepth 20000 in
theorem gX4_isSame_X3_top : GoodIn wsX4_isSame (wsV RX4 124 RX3 yX3_top wsX3_top) := goodIn_app (goodIn_of _ (by decide +kernel)) ggX4_isSame_X3_top
set_option maxRecDepth 20000 in
theorem ggX4_isSame_X3_bottom : GoodIn wsX4_isSame wsX3_bottom := goodIn_r _ [159, 160, 153, 154, 17, 155, 76, 90, 81, 91, 181, 182, 183, 184, 185, 186, 187, 188] (by decide +kernel) (by decide +kernel)
set_option maxRecDepth 20000 in
theorem gX4_isSame_X3_bottom : GoodIn wsX4_isSame (wsV RX4 127 RX3 yX3_bottom wsX3_bottom) := goodIn_app (goodIn_of _ (by decide +kernel)) ggX4_isSame_X3_bottom
set_option maxRecDepth 20000 in
theorem ggX4_isSame_X3_isAsAtFirst : GoodIn wsX4_isSame wsX3_isAsAtFirst := goodIn_r _ [164, 76, 181, 182, 183, 184, 185, 186, 187, 188] (by decide +kernel) (by decide +kernel)
set_option maxRecDepth 20000 in
theorem gX4_isSame_X3_isAsAtFirst : GoodIn wsX4_isSame (wsV RX4 130 RX3 yX3_isAsAtFirst wsX3_isAsAtFirst) := goodIn_app (goodIn_of _ (by decide +kernel)) ggX4_isSame_X3_isAsAtFirst
set_option maxRecDepth 20000 in
theorem ggX4_isSame_X3_meanPaint : GoodIn wsX4_isSame wsX3_meanPaint := goodIn_r _ [168, 63, 169, 181, 182, 183, 184, 185, 186, 187, 188] (by decide +kernel) (by decide +kernel)
set_option maxRecDepth 20000 in
theorem gX4_isSame_X3_meanPaint : GoodIn wsX4_isSame (wsV RX4 134 RX3 yX3_meanPaint wsX3_meanPaint) := goodIn_app (goodIn_of _ (by decide +kernel)) ggX4_isSame_X3_meanPaint
theorem dX4_isSame_0 : decode cX4_isSame 0 = .ok (.iconst 0, 1) := by decide +kernel
theorem dX4_isSame_1 : decode cX4_isSame 1 = .ok (.istore_n 2, 1) := by decide +kernel
theorem dX4_isSame_2 : decode cX4_isSame 2 = .ok (.bipush 10, 2) := by decide +kernel
theorem dX4_isSame_4 : decode cX4_isSame 4 = .ok (.newarray .int, 2) := by decide +kernel
theorem dX4_isSame_6 : decode cX4_isSame 6 = .ok (.astore_n 3, 1) := by decide +kernel
theorem dX4_isSame_7 : decode cX4_isSame 7 = .ok (.iconst 0, 1) := by decide +kernel
theorem dX4_isSame_8 : decode cX4_isSame 8 = .ok (.istore 4, 2) := by decide +kernel
theorem dX4_isSame_10 : decode cX4_isSame 10 = .ok (.iload 4, 2) := by decide +kernel
theorem dX4_isSame_12 : decode cX4_isSame 12 = .ok (.aload_n 0, 1) := by decide +kernel
theorem dX4_isSame_13 : decode cX4_isSame 13 = .ok (.getfield 7, 3) := by decide +kernel
theorem dX4_isSame_16 : decode cX4_isSame 16 = .ok (.if_icmp .ge 108, 3) := by decide +kernel
theorem dX4_isSame_19 : decode cX4_isSame 19 = .ok (.iconst 0, 1) := by decide +kernel
theorem dX4_isSame_20 : decode cX4_isSame 20 = .ok (.istore 5, 2) := by decide +kernel
theorem dX4_isSame_22 : decode cX4_isSame 22 = .ok (.iload 5, 2) := by decide +kernel
theorem dX4_isSame_24 : decode cX4_isSame 24 = .ok (.aload_n 0, 1) := by decide +kernel
theorem dX4_isSame_25 : decode cX4_isSame 25 = .ok (.getfield 13, 3) := by decide +kernel
theorem dX4_isSame_28 : decode cX4_isSame 28 = .ok (.if_icmp .ge 90, 3) := by decide +kernel
theorem dX4_isSame_31 : decode cX4_isSame 31 = .ok (.aload_n 1, 1) := by decide +kernel
theorem dX4_isSame_32 : decode cX4_isSame 32 = .ok (.iload 4, 2) := by decide +kernel
theorem dX4_isSame_34 : decode cX4_isSame 34 = .ok (.iload 5, 2) := by decide +kernel
theorem dX4_isSame_36 : decode cX4_isSame 36 = .ok (.invokevirtual 79, 3) := by decide +kernel
theorem dX4_isSame_39 : decode cX4_isSame 39 = .ok (.aload_n 0, 1) := by decide +kernel
theorem dX4_isSame_40 : decode cX4_isSame 40 = .ok (.getfield 18, 3) := by decide +kernel
theorem dX4_isSame_43 : decode cX4_isSame 43 = .ok (.iload 4, 2) := by decide +kernel
theorem dX4_isSame_45 : decode cX4_isSame 45 = .ok (.aaload, 1) := by decide +kernel
theorem dX4_isSame_46 : decode cX4_isSame 46 = .ok (.iload 5, 2) := by decide +kernel
theorem dX4_isSame_48 : decode cX4_isSame 48 = .ok (.baload, 1) := by decide +kernel
theorem dX4_isSame_49 : decode cX4_isSame 49 = .ok (.if_icmp .ne 24, 3) := by decide +kernel
theorem dX4_isSame_52 : decode cX4_isSame 52 = .ok (.aload_n 1, 1) := by decide +kernel
theorem dX4_isSame_53 : decode cX4_isSame 53 = .ok (.iload 4, 2) := by decide +kernel
theorem dX4_isSame_55 : decode cX4_isSame 55 = .ok (.iload 5, 2) := by decide +kernel
theorem dX4_isSame_57 : decode cX4_isSame 57 = .ok (.invokevirtual 84, 3) := by decide +kernel
theorem dX4_isSame_60 : decode cX4_isSame 60 = .ok (.aload_n 0, 1) := by decide +kernel
theorem dX4_isSame_61 : decode cX4_isSame 61 = .ok (.getfield 23, 3) := by decide +kernel
theorem dX4_isSame_64 : decode cX4_isSame 64 = .ok (.iload 4, 2) := by decide +kernel
theorem dX4_isSame_66 : decode cX4_isSame 66 = .ok (.aaload, 1) := by decide +kernel
theorem dX4_isSame_67 : decode cX4_isSame 67 = .ok (.iload 5, 2) := by decide +kernel
theorem dX4_isSame_69 : decode cX4_isSame 69 = .ok (.iaload, 1) := by decide +kernel
theorem dX4_isSame_70 : decode cX4_isSame 70 = .ok (.if_icmp .eq 5, 3) := by decide +kernel
theorem dX4_isSame_73 : decode cX4_isSame 73 = .ok (.iconst 0, 1) := by decide +kernel
theorem dX4_isSame_74 : decode cX4_isSame 74 = .ok (.ireturn, 1) := by decide +kernel
theorem dX4_isSame_75 : decode cX4_isSame 75 = .ok (.iload_n 2, 1) := by decide +kernel
theorem dX4_isSame_76 : decode cX4_isSame 76 = .ok (.aload_n 0, 1) := by decide +kernel
theorem dX4_isSame_77 : decode cX4_isSame 77 = .ok (.getfield 18, 3) := by decide +kernel
theorem dX4_isSame_80 : decode cX4_isSame 80 = .ok (.iload 4, 2) := by decide +kernel
theorem dX4_isSame_82 : decode cX4_isSame 82 = .ok (.aaload, 1) := by decide +kernel
theorem dX4_isSame_83 : decode cX4_isSame 83 = .ok (.iload 5, 2) := by decide +kernel
theorem dX4_isSame_85 : decode cX4_isSame 85 = .ok (.baload, 1) := by decide +kernel
theorem dX4_isSame_86 : decode cX4_isSame 86 = .ok (.ifCond .eq 7, 3) := by decide +kernel
theorem dX4_isSame_89 : decode cX4_isSame 89 = .ok (.iconst 1, 1) := by decide +kernel
theorem dX4_isSame_90 : decode cX4_isSame 90 = .ok (.goto 4, 3) := by decide +kernel
theorem dX4_isSame_93 : decode cX4_isSame 93 = .ok (.iconst 0, 1) := by decide +kernel
theorem dX4_isSame_94 : decode cX4_isSame 94 = .ok (.iadd, 1) := by decide +kernel
theorem dX4_isSame_95 : decode cX4_isSame 95 = .ok (.istore_n 2, 1) := by decide +kernel
theorem dX4_isSame_96 : decode cX4_isSame 96 = .ok (.aload_n 3, 1) := by decide +kernel
theorem dX4_isSame_97 : decode cX4_isSame 97 = .ok (.aload_n 0, 1) := by decide +kernel
theorem dX4_isSame_98 : decode cX4_isSame 98 = .ok (.getfield 23, 3) := by decide +kernel
theorem dX4_isSame_101 : decode cX4_isSame 101 = .ok (.iload 4, 2) := by decide +kernel
theorem dX4_isSame_103 : decode cX4_isSame 103 = .ok (.aaload, 1) := by decide +kernel
theorem dX4_isSame_104 : decode cX4_isSame 104 = .ok (.iload 5, 2) := by decide +kernel
theorem dX4_isSame_106 : decode cX4_isSame 106 = .ok (.iaload, 1) := by decide +kernel
theorem dX4_isSame_107 : decode cX4_isSame 107 = .ok (.dup2, 1) := by decide +kernel
theorem dX4_isSame_108 : decode cX4_isSame 108 = .ok (.iaload, 1) := by decide +kernel
theorem dX4_isSame_109 : decode cX4_isSame 109 = .ok (.iconst 1, 1) := by decide +kernel
theorem dX4_isSame_110 : decode cX4_isSame 110 = .ok (.iadd, 1) := by decide +kernel
theorem dX4_isSame_111 : decode cX4_isSame 111 = .ok (.iastore, 1) := by decide +kernel
theorem dX4_isSame_112 : decode cX4_isSame 112 = .ok (.iinc 5 1, 3) := by decide +kernel
theorem dX4_isSame_115 : decode cX4_isSame 115 = .ok (.goto (-93), 3) := by decide +kernel
theorem dX4_isSame_118 : decode cX4_isSame 118 = .ok (.iinc 4 1, 3) := by decide +kernel
theorem dX4_isSame_121 : decode cX4_isSame 121 = .ok (.goto (-111), 3) := by decide +kernel
theorem dX4_isSame_124 : decode cX4_isSame 124 = .ok (.iconst 0, 1) := by decide +kernel
theorem dX4_isSame_125 : decode cX4_isSame 125 = .ok (.istore 4, 2) := by decide +kernel
theorem dX4_isSame_127 : decode cX4_isSame 127 = .ok (.iconst 1, 1) := by decide +kernel
theorem dX4_isSame_128 : decode cX4_isSame 128 = .ok (.istore 5, 2) := by decide +kernel
theorem dX4_isSame_130 : decode cX4_isSame 130 = .ok (.iload 5, 2) := by decide +kernel
theorem dX4_isSame_132 : decode cX4_isSame 132 = .ok (.bipush 7, 2) := by decide +kernel
theorem dX4_isSame_134 : decode cX4_isSame 134 = .ok (.if_icmp .ge 55, 3) := by decide +kernel
theorem dX4_isSame_137 : decode cX4_isSame 137 = .ok (.aload_n 1, 1) := by decide +kernel
theorem dX4_isSame_138 : decode cX4_isSame 138 = .ok (.iload 5, 2) := by decide +kernel
theorem dX4_isSame_140 : decode cX4_isSame 140 = .ok (.invokevirtual 88, 3) := by decide +kernel
theorem dX4_isSame_143 : decode cX4_isSame 143 = .ok (.aload_n 0, 1) := by decide +kernel
theorem dX4_isSame_144 : decode cX4_isSame 144 = .ok (.getfield 26, 3) := by decide +kernel
theorem dX4_isSame_147 : decode cX4_isSame 147 = .ok (.iload 5, 2) := by decide +kernel
theorem dX4_isSame_149 : decode cX4_isSame 149 = .ok (.iaload, 1) := by decide +kernel
theorem dX4_isSame_150 : decode cX4_isSame 150 = .ok (.if_icmp .ne 19, 3) := by decide +kernel
theorem dX4_isSame_153 : decode cX4_isSame 153 = .ok (.aload_n 1, 1) := by decide +kernel
theorem dX4_isSame_154 : decode cX4_isSame 154 = .ok (.iload 5, 2) := by decide +kernel
theorem dX4_isSame_156 : decode cX4_isSame 156 = .ok (.invokevirtual 92, 3) := by decide +kernel
theorem dX4_isSame_159 : decode cX4_isSame 159 = .ok (.aload_n 0, 1) := by decide +kernel
theorem dX4_isSame_160 : decode cX4_isSame 160 = .ok (.getfield 30, 3) := by decide +kernel
theorem dX4_isSame_163 : decode cX4_isSame 163 = .ok (.iload 5, 2) := by decide +kernel
theorem dX4_isSame_165 : decode cX4_isSame 165 = .ok (.iaload, 1) := by decide +kernel
theorem dX4_isSame_166 : decode cX4_isSame 166 = .ok (.if_icmp .eq 5, 3) := by decide +kernel
theorem dX4_isSame_169 : decode cX4_isSame 169 = .ok (.iconst 0, 1) := by decide +kernel
theorem dX4_isSame_170 : decode cX4_isSame 170 = .ok (.ireturn, 1) := by decide +kernel
theorem dX4_isSame_171 : decode cX4_isSame 171 = .ok (.iload 4, 2) := by decide +kernel
theorem dX4_isSame_173 : decode cX4_isSame 173 = .ok (.aload_n 0, 1) := by decide +kernel
theorem dX4_isSame_174 : decode cX4_isSame 174 = .ok (.getfield 30, 3) := by decide +kernel
theorem dX4_isSame_177 : decode cX4_isSame 177 = .ok (.iload 5, 2) := by decide +kernel
theorem dX4_isSame_179 : decode cX4_isSame 179 = .ok (.iaload, 1) := by decide +kernel
theorem dX4_isSame_180 : decode cX4_isSame 180 = .ok (.iadd, 1) := by decide +kernel
theorem dX4_isSame_181 : decode cX4_isSame 181 = .ok (.istore 4, 2) := by decide +kernel
theorem dX4_isSame_183 : decode cX4_isSame 183 = .ok (.iinc 5 1, 3) := by decide +kernel
theorem dX4_isSame_186 : decode cX4_isSame 186 = .ok (.goto (-56), 3) := by decide +kernel
theorem dX4_isSame_189 : decode cX4_isSame 189 = .ok (.iconst 0, 1) := by decide +kernel
theorem dX4_isSame_190 : decode cX4_isSame 190 = .ok (.istore 5, 2) := by decide +kernel
theorem dX4_isSame_192 : decode cX4_isSame 192 = .ok (.iload 5, 2) := by decide +kernel
theorem dX4_isSame_194 : decode cX4_isSame 194 = .ok (.bipush 10, 2) := by decide +kernel
theorem dX4_isSame_196 : decode cX4_isSame 196 = .ok (.if_icmp .ge 24, 3) := by decide +kernel
theorem dX4_isSame_199 : decode cX4_isSame 199 = .ok (.aload_n 1, 1) := by decide +kernel
theorem dX4_isSame_200 : decode cX4_isSame 200 = .ok (.iload 5, 2) := by decide +kernel
theorem dX4_isSame_202 : decode cX4_isSame 202 = .ok (.invokevirtual 95, 3) := by decide +kernel
theorem dX4_isSame_205 : decode cX4_isSame 205 = .ok (.aload_n 3, 1) := by decide +kernel
theorem dX4_isSame_206 : decode cX4_isSame 206 = .ok (.iload 5, 2) := by decide +kernel
theorem dX4_isSame_208 : decode cX4_isSame 208 = .ok (.iaload, 1) := by decide +kernel
theorem dX4_isSame_209 : decode cX4_isSame 209 = .ok (.if_icmp .eq 5, 3) := by decide +kernel
theorem dX4_isSame_212 : decode cX4_isSame 212 = .ok (.iconst 0, 1) := by decide +kernel
theorem dX4_isSame_213 : decode cX4_isSame 213 = .ok (.ireturn, 1) := by decide +kernel
theorem dX4_isSame_214 : decode cX4_isSame 214 = .ok (.iinc 5 1, 3) := by decide +kernel
theorem dX4_isSame_217 : decode cX4_isSame 217 = .ok (.goto (-25), 3) := by decide +kernel
theorem dX4_isSame_220 : decode cX4_isSame 220 = .ok (.iconst 0, 1) := by decide +kernel
theorem dX4_isSame_221 : decode cX4_isSame 221 = .ok (.istore 5, 2) := by decide +kernel
theorem dX4_isSame_223 : decode cX4_isSame 223 = .ok (.iload 5, 2) := by decide +kernel
theorem dX4_isSame_225 : decode cX4_isSame 225 = .ok (.iconst 4, 1) := by decide +kernel
theorem dX4_isSame_226 : decode cX4_isSame 226 = .ok (.if_icmp .ge 44, 3) := by decide +kernel
theorem dX4_isSame_229 : decode cX4_isSame 229 = .ok (.aload_n 1, 1) := by decide +kernel
theorem dX4_isSame_230 : decode cX4_isSame 230 = .ok (.iload 5, 2) := by decide +kernel
theorem dX4_isSame_232 : decode cX4_isSame 232 = .ok (.invokevirtual 98, 3) := by decide +kernel
theorem dX4_isSame_235 : decode cX4_isSame 235 = .ok (.aload_n 0, 1) := by decide +kernel
theorem dX4_isSame_236 : decode cX4_isSame 236 = .ok (.getfield 33, 3) := by decide +kernel
theorem dX4_isSame_239 : decode cX4_isSame 239 = .ok (.iconst 2, 1) := by decide +kernel
theorem dX4_isSame_240 : decode cX4_isSame 240 = .ok (.iload 5, 2) := by decide +kernel
theorem dX4_isSame_242 : decode cX4_isSame 242 = .ok (.iadd, 1) := by decide +kernel
theorem dX4_isSame_243 : decode cX4_isSame 243 = .ok (.iaload, 1) := by decide +kernel
theorem dX4_isSame_244 : decode cX4_isSame 244 = .ok (.if_icmp .ne 18, 3) := by decide +kernel
theorem dX4_isSame_247 : decode cX4_isSame 247 = .ok (.aload_n 1, 1) := by decide +kernel
theorem dX4_isSame_248 : decode cX4_isSame 248 = .ok (.iload 5, 2) := by decide +kernel
theorem dX4_isSame_250 : decode cX4_isSame 250 = .ok (.invokevirtual 101, 3) := by decide +kernel
theorem dX4_isSame_253 : decode cX4_isSame 253 = .ok (.aload_n 0, 1) := by decide +kernel
theorem dX4_isSame_254 : decode cX4_isSame 254 = .ok (.iload 5, 2) := by decide +kernel
theorem dX4_isSame_256 : decode cX4_isSame 256 = .ok (.invokevirtual 69, 3) := by decide +kernel
theorem dX4_isSame_259 : decode cX4_isSame 259 = .ok (.if_icmp .eq 5, 3) := by decide +kernel
theorem dX4_isSame_262 : decode cX4_isSame 262 = .ok (.iconst 0, 1) := by decide +kernel
theorem dX4_isSame_263 : decode cX4_isSame 263 = .ok (.ireturn, 1) := by decide +kernel
theorem dX4_isSame_264 : decode cX4_isSame 264 = .ok (.iinc 5 1, 3) := by decide +kernel
theorem dX4_isSame_267 : decode cX4_isSame 267 = .ok (.goto (-44), 3) := by decide +kernel
theorem dX4_isSame_270 : decode cX4_isSame 270 = .ok (.aload_n 1, 1) := by decide +kernel
theorem dX4_isSame_271 : decode cX4_isSame 271 = .ok (.invokevirtual 104, 3) := by decide +kernel
theorem dX4_isSame_274 : decode cX4_isSame 274 = .ok (.aload_n 0, 1) := by decide +kernel
theorem dX4_isSame_275 : decode cX4_isSame 275 = .ok (.getfield 7, 3) := by decide +kernel
theorem dX4_isSame_278 : decode cX4_isSame 278 = .ok (.if_icmp .ne 143, 3) := by decide +kernel
theorem dX4_isSame_281 : decode cX4_isSame 281 = .ok (.aload_n 1, 1) := by decide +kernel
theorem dX4_isSame_282 : decode cX4_isSame 282 = .ok (.invokevirtual 108, 3) := by decide +kernel
theorem dX4_isSame_285 : decode cX4_isSame 285 = .ok (.aload_n 0, 1) := by decide +kernel
theorem dX4_isSame_286 : decode cX4_isSame 286 = .ok (.getfield 13, 3) := by decide +kernel
theorem dX4_isSame_289 : decode cX4_isSame 289 = .ok (.if_icmp .ne 132, 3) := by decide +kernel
theorem dX4_isSame_292 : decode cX4_isSame 292 = .ok (.aload_n 1, 1) := by decide +kernel
theorem dX4_isSame_293 : decode cX4_isSame 293 = .ok (.invokevirtual 111, 3) := by decide +kernel
theorem dX4_isSame_296 : decode cX4_isSame 296 = .ok (.iload_n 2, 1) := by decide +kernel
theorem dX4_isSame_297 : decode cX4_isSame 297 = .ok (.if_icmp .ne 124, 3) := by decide +kernel
theorem dX4_isSame_300 : decode cX4_isSame 300 = .ok (.aload_n 1, 1) := by decide +kernel
theorem dX4_isSame_301 : decode cX4_isSame 301 = .ok (.invokevirtual 114, 3) := by decide +kernel
theorem dX4_isSame_304 : decode cX4_isSame 304 = .ok (.aload_n 0, 1) := by decide +kernel
theorem dX4_isSame_305 : decode cX4_isSame 305 = .ok (.getfield 36, 3) := by decide +kernel
theorem dX4_isSame_308 : decode cX4_isSame 308 = .ok (.if_icmp .ne 113, 3) := by decide +kernel
theorem dX4_isSame_311 : decode cX4_isSame 311 = .ok (.aload_n 1, 1) := by decide +kernel
theorem dX4_isSame_312 : decode cX4_isSame 312 = .ok (.invokevirtual 116, 3) := by decide +kernel
theorem dX4_isSame_315 : decode cX4_isSame 315 = .ok (.aload_n 0, 1) := by decide +kernel
theorem dX4_isSame_316 : decode cX4_isSame 316 = .ok (.getfield 39, 3) := by decide +kernel
theorem dX4_isSame_319 : decode cX4_isSame 319 = .ok (.if_icmp .ne 102, 3) := by decide +kernel
theorem dX4_isSame_322 : decode cX4_isSame 322 = .ok (.aload_n 1, 1) := by decide +kernel
theorem dX4_isSame_323 : decode cX4_isSame 323 = .ok (.invokevirtual 118, 3) := by decide +kernel
theorem dX4_isSame_326 : decode cX4_isSame 326 = .ok (.aload_n 0, 1) := by decide +kernel
theorem dX4_isSame_327 : decode cX4_isSame 327 = .ok (.getfield 46, 3) := by decide +kernel
theorem dX4_isSame_330 : decode cX4_isSame 330 = .ok (.if_icmp .ne 91, 3) := by decide +kernel
theorem dX4_isSame_333 : decode cX4_isSame 333 = .ok (.aload_n 1, 1) := by decide +kernel
theorem dX4_isSame_334 : decode cX4_isSame 334 = .ok (.invokevirtual 121, 3) := by decide +kernel
theorem dX4_isSame_337 : decode cX4_isSame 337 = .ok (.aload_n 0, 1) := by decide +kernel
theorem dX4_isSame_338 : decode cX4_isSame 338 = .ok (.getfield 49, 3) := by decide +kernel
theorem dX4_isSame_341 : decode cX4_isSame 341 = .ok (.if_icmp .ne 80, 3) := by decide +kernel
theorem dX4_isSame_344 : decode cX4_isSame 344 = .ok (.aload_n 1, 1) := by decide +kernel
theorem dX4_isSame_345 : decode cX4_isSame 345 = .ok (.invokevirtual 124, 3) := by decide +kernel
theorem dX4_isSame_348 : decode cX4_isSame 348 = .ok (.aload_n 0, 1) := by decide +kernel
theorem dX4_isSame_349 : decode cX4_isSame 349 = .ok (.getfield 33, 3) := by decide +kernel
theorem dX4_isSame_352 : decode cX4_isSame 352 = .ok (.iconst 0, 1) := by decide +kernel
theorem dX4_isSame_353 : decode cX4_isSame 353 = .ok (.iaload, 1) := by decide +kernel
theorem dX4_isSame_354 : decode cX4_isSame 354 = .ok (.if_icmp .ne 67, 3) := by decide +kernel
theorem dX4_isSame_357 : decode cX4_isSame 357 = .ok (.aload_n 1, 1) := by decide +kernel
theorem dX4_isSame_358 : decode cX4_isSame 358 = .ok (.invokevirtual 127, 3) := by decide +kernel
theorem dX4_isSame_361 : decode cX4_isSame 361 = .ok (.aload_n 0, 1) := by decide +kernel
theorem dX4_isSame_362 : decode cX4_isSame 362 = .ok (.getfield 33, 3) := by decide +kernel
theorem dX4_isSame_365 : decode cX4_isSame 365 = .ok (.iconst 1, 1) := by decide +kernel
theorem dX4_isSame_366 : decode cX4_isSame 366 = .ok (.iaload, 1) := by decide +kernel
theorem dX4_isSame_367 : decode cX4_isSame 367 = .ok (.if_icmp .ne 54, 3) := by decide +kernel
theorem dX4_isSame_370 : decode cX4_isSame 370 = .ok (.aload_n 1, 1) := by decide +kernel
theorem dX4_isSame_371 : decode cX4_isSame 371 = .ok (.invokevirtual 130, 3) := by decide +kernel
theorem dX4_isSame_374 : decode cX4_isSame 374 = .ok (.aload_n 0, 1) := by decide +kernel
theorem dX4_isSame_375 : decode cX4_isSame 375 = .ok (.getfield 33, 3) := by decide +kernel
theorem dX4_isSame_378 : decode cX4_isSame 378 = .ok (.iconst 0, 1) := by decide +kernel
theorem dX4_isSame_379 : decode cX4_isSame 379 = .ok (.iaload, 1) := by decide +kernel
theorem dX4_isSame_380 : decode cX4_isSame 380 = .ok (.iconst 1, 1) := by decide +kernel
theorem dX4_isSame_381 : decode cX4_isSame 381 = .ok (.if_icmp .ne 17, 3) := by decide +kernel
theorem dX4_isSame_384 : decode cX4_isSame 384 = .ok (.aload_n 0, 1) := by decide +kernel
theorem dX4_isSame_385 : decode cX4_isSame 385 = .ok (.getfield 33, 3) := by decide +kernel
theorem dX4_isSame_388 : decode cX4_isSame 388 = .ok (.iconst 2, 1) := by decide +kernel
theorem dX4_isSame_389 : decode cX4_isSame 389 = .ok (.iaload, 1) := by decide +kernel
theorem dX4_isSame_390 : decode cX4_isSame 390 = .ok (.iconst 2, 1) := by decide +kernel
theorem dX4_isSame_391 : decode cX4_isSame 391 = .ok (.if_icmp .ne 7, 3) := by decide +kernel
theorem dX4_isSame_394 : decode cX4_isSame 394 = .ok (.iconst 1, 1) := by decide +kernel
theorem dX4_isSame_395 : decode cX4_isSame 395 = .ok (.goto 4, 3) := by decide +kernel
theorem dX4_isSame_398 : decode cX4_isSame 398 = .ok (.iconst 0, 1) := by decide +kernel
theorem dX4_isSame_399 : decode cX4_isSame 399 = .ok (.if_icmp .ne 22, 3) := by decide +kernel
theorem dX4_isSame_402 : decode cX4_isSame 402 = .ok (.aload_n 1, 1) := by decide +kernel
theorem dX4_isSame_403 : decode cX4_isSame 403 = .ok (.invokevirtual 134, 3) := by decide +kernel
theorem dX4_isSame_406 : decode cX4_isSame 406 = .ok (.iload 4, 2) := by decide +kernel
theorem dX4_isSame_408 : decode cX4_isSame 408 = .ok (.i2d, 1) := by decide +kernel
theorem dX4_isSame_409 : decode cX4_isSame 409 = .ok (.ldc2_w 138, 3) := by decide +kernel
theorem dX4_isSame_412 : decode cX4_isSame 412 = .ok (.ddiv, 1) := by decide +kernel
theorem dX4_isSame_413 : decode cX4_isSame 413 = .ok (.dcmp .l, 1) := by decide +kernel
theorem dX4_isSame_414 : decode cX4_isSame 414 = .ok (.ifCond .ne 7, 3) := by decide +kernel
theorem dX4_isSame_417 : decode cX4_isSame 417 = .ok (.iconst 1, 1) := by decide +kernel
theorem dX4_isSame_418 : decode cX4_isSame 418 = .ok (.goto 4, 3) := by decide +kernel
theorem dX4_isSame_421 : decode cX4_isSame 421 = .ok (.iconst 0, 1) := by decide +kernel
theorem dX4_isSame_422 : decode cX4_isSame 422 = .ok (.ireturn, 1) := by decide +kernel
end
section
theorem dJ9_abs_0f7a4_0 : decode cJ9_abs_0f7a4 0 = .ok (.iload_n 0, 1) := by decide +kernel
theorem dJ9_abs_0f7a4_1 : decode cJ9_abs_0f7a4 1 = .ok (.ifCond .ge 8, 3) := by decide +kernel
theorem dJ9_abs_0f7a4_4 : decode cJ9_abs_0f7a4 4 = .ok (.iload_n 0, 1) := by decide +kernel
theorem dJ9_abs_0f7a4_5 : decode cJ9_abs_0f7a4 5 = .ok (.ineg, 1) := by decide +kernel
theorem dJ9_abs_0f7a4_6 : decode cJ9_abs_0f7a4 6 = .ok (.goto 4, 3) := by decide +kernel
theorem dJ9_abs_0f7a4_9 : decode cJ9_abs_0f7a4 9 = .ok (.iload_n 0, 1) := by decide +kernel
theorem dJ9_abs_0f7a4_10 : decode cJ9_abs_0f7a4 10 = .ok (.ireturn, 1) := by decide +kernel
theorem dJ9_min_7cf53_0 : decode cJ9_min_7cf53 0 = .ok (.iload_n 0, 1) := by decide +kernel
theorem dJ9_min_7cf53_1 : decode cJ9_min_7cf53 1 = .ok (.iload_n 1, 1) := by decide +kernel
theorem dJ9_min_7cf53_2 : decode cJ9_min_7cf53 2 = .ok (.if_icmp .gt 7, 3) := by decide +kernel
theorem dJ9_min_7cf53_5 : decode cJ9_min_7cf53 5 = .ok (.iload_n 0, 1) := by decide +kernel
theorem dJ9_min_7cf53_6 : decode cJ9_min_7cf53 6 = .ok (.goto 4, 3) := by decide +kernel
theorem dJ9_min_7cf53_9 : decode cJ9_min_7cf53 9 = .ok (.iload_n 1, 1) := by decide +kernel
theorem dJ9_min_7cf53_10 : decode cJ9_min_7cf53 10 = .ok (.ireturn, 1) := by decide +kernel
theorem dJ7_fill_53178_0 : decode cJ7_fill_53178 0 = .ok (.iconst 0, 1) := by decide +kernel
theorem dJ7_fill_53178_1 : decode cJ7_fill_53178 1 = .ok (.istore_n 2, 1) := by decide +kernel
theorem dJ7_fill_53178_2 : decode cJ7_fill_53178 2 = .ok (.aload_n 0, 1) := by decide +kernel
theorem dJ7_fill_53178_3 : decode cJ7_fill_53178 3 = .ok (.arraylength, 1) := by decide +kernel
theorem dJ7_fill_53178_4 : decode cJ7_fill_53178 4 = .ok (.istore_n 3, 1) := by decide +kernel
theorem dJ7_fill_53178_5 : decode cJ7_fill_53178 5 = .ok (.iload_n 2, 1) := by decide +kernel
theorem dJ7_fill_53178_6 : decode cJ7_fill_53178 6 = .ok (.iload_n 3, 1) := by decide +kernel
theorem dJ7_fill_53178_7 : decode cJ7_fill_53178 7 = .ok (.if_icmp .ge 13, 3) := by decide +kernel
theorem dJ7_fill_53178_10 : decode cJ7_fill_53178 10 = .ok (.aload_n 0, 1) := by decide +kernel
theorem dJ7_fill_53178_11 : decode cJ7_fill_53178 11 = .ok (.iload_n 2, 1) := by decide +kernel
theorem dJ7_fill_53178_12 : decode cJ7_fill_53178 12 = .ok (.iload_n 1, 1) := by decide +kernel
theorem dJ7_fill_53178_13 : decode cJ7_fill_53178 13 = .ok (.iastore, 1) := by decide +kernel
theorem dJ7_fill_53178_14 : decode cJ7_fill_53178 14 = .ok (.iinc 2 1, 3) := by decide +kernel
theorem dJ7_fill_53178_17 : decode cJ7_fill_53178 17 = .ok (.goto (-12), 3) := by decide +kernel
theorem dJ7_fill_53178_20 : decode cJ7_fill_53178 20 = .ok (.return_, 1) := by decide +kernel
end
section
set_option maxRecDepth 20000 in
theorem lin_wsL_law0_r1 : ∀ w ∈ wsL_law0_r1, w ∈ lw_tbl := fun w h => (goodIn_p wsL_law0_r1 [566, 44, 47] (by decide +kernel) (by decide +kernel) w h).1
set_option maxRecDepth 20000 in
theorem lin_wsL_law0_r2 : ∀ w ∈ wsL_law0_r2, w ∈ lw_tbl := fun w h => (goodIn_p wsL_law0_r2 [52, 75, 91, 95] (by decide +kernel) (by decide +kernel) w h).1
set_option maxRecDepth 20000 in
theorem lin_wsL_law0_r3 : ∀ w ∈ wsL_law0_r3, w ∈ lw_tbl := fun w h => (goodIn_p wsL_law0_r3 [612, 617] (by decide +kernel) (by decide +kernel) w h).1
set_option maxRecDepth 20000 in
theorem lin_wsL_law0_r4 : ∀ w ∈ wsL_law0_r4, w ∈ lw_tbl := fun w h => (goodIn_p wsL_law0_r4 [502, 498, 511, 519] (by decide +kernel) (by decide +kernel) w h).1
set_option maxRecDepth 20000 in
theorem lin_wsL_law0_r5 : ∀ w ∈ wsL_law0_r5, w ∈ lw_tbl := fun w h => (goodIn_p wsL_law0_r5 [523, 526, 531, 253, 257, 266] (by decide +kernel) (by decide +kernel) w h).1
set_option maxRecDepth 20000 in
theorem lin_wsL_law0_r6 : ∀ w ∈ wsL_law0_r6, w ∈ lw_tbl := fun w h => (goodIn_p wsL_law0_r6 [551, 561, 365, 241, 244] (by decide +kernel) (by decide +kernel) w h).1
set_option maxRecDepth 20000 in
theorem lin_wsL_law0_r7 : ∀ w ∈ wsL_law0_r7, w ∈ lw_tbl := fun w h => (goodIn_p wsL_law0_r7 [555, 571, 262, 124, 127] (by decide +kernel) (by decide +kernel) w h).1
set_option maxRecDepth 20000 in
theorem lin_wsL_law0_r8 : ∀ w ∈ wsL_law0_r8, w ∈ lw_tbl := fun w h => (goodIn_p wsL_law0_r8 [131, 134, 577, 468, 476, 580] (by decide +kernel) (by decide +kernel) w h).1
set_option maxRecDepth 20000 in
theorem lin_wsL_law0_r9 : ∀ w ∈ wsL_law0_r9, w ∈ lw_tbl := fun w h => (goodIn_p wsL_law0_r9 [591, 153, 596, 274, 345, 141] (by decide +kernel) (by decide +kernel) w h).1
set_option maxRecDepth 20000 in
theorem lin_wsL_law0_r10 : ∀ w ∈ wsL_law0_r10, w ∈ lw_tbl := fun w h => (goodIn_p wsL_law0_r10 [227, 348, 230, 234, 600, 145, 138] (by decide +kernel) (by decide +kernel) w h).1
set_option maxRecDepth 20000 in
theorem lin_wsL_law0_r11 : ∀ w ∈ wsL_law0_r11, w ∈ lw_tbl := fun w h => (goodIn_p wsL_law0_r11 [604, 608, 429, 281, 434, 285] (by decide +kernel) (by decide +kernel) w h).1
set_option maxRecDepth 20000 in
theorem lin_wsL_law0_r12 : ∀ w ∈ wsL_law0_r12, w ∈ lw_tbl := fun w h => (goodIn_p wsL_law0_r12 [289, 293, 297, 301, 224, 446, 322] (by decide +kernel) (by decide +kernel) w h).1
set_option maxRecDepth 20000 in
theorem lin_wsL_law0_r13 : ∀ w ∈ wsL_law0_r13, w ∈ lw_tbl := fun w h => (goodIn_p wsL_law0_r13 [326, 329, 333, 337, 341, 314] (by decide +kernel) (by decide +kernel) w h).1
set_option maxRecDepth 20000 in
theorem lin_wsL_law0_r14 : ∀ w ∈ wsL_law0_r14, w ∈ lw_tbl := fun w h => (goodIn_p wsL_law0_r14 [354, 358, 362, 393, 249] (by decide +kernel) (by decide +kernel) w h).1
set_option maxRecDepth 20000 in
theorem lin_wsL_law0_r15 : ∀ w ∈ wsL_law0_r15, w ∈ lw_tbl := fun w h => (goodIn_p wsL_law0_r15 [150, 305, 310, 318, 405] (by decide +kernel) (by decide +kernel) w h).1
set_option maxRecDepth 20000 in
theorem lin_wsL_law0_r16 : ∀ w ∈ wsL_law0_r16, w ∈ lw_tbl := fun w h => (goodIn_p wsL_law0_r16 [425, 401, 389, 397, 270, 369] (by decide +kernel) (by decide +kernel) w h).1
set_option maxRecDepth 20000 in
theorem lin_wsL_law0_r17 : ∀ w ∈ wsL_law0_r17, w ∈ lw_tbl := fun w h => (goodIn_p wsL_law0_r17 [374, 378, 382, 663, 460, 238, 456] (by decide +kernel) (by decide +kernel) w h).1
set_option maxRecDepth 20000 in
theorem lin_wsL_law0_r18 : ∀ w ∈ wsL_law0_r18, w ∈ lw_tbl := fun w h => (goodIn_p wsL_law0_r18 [451, 489] (by decide +kernel) (by decide +kernel) w h).1
set_option maxRecDepth 20000 in
theorem lin_wsL_law0_r19 : ∀ w ∈ wsL_law0_r19, w ∈ lw_tbl := fun w h => (goodIn_p wsL_law0_r19 [493] (by decide +kernel) (by decide +kernel) w h).1
theorem lin_wsX30 : ∀ w ∈ wsX30, w ∈ lw_tbl := by decide +kernel
theorem lin_wsX00 : ∀ w ∈ wsX00, w ∈ lw_tbl := by decide +kernel
theorem lin_wsX10 : ∀ w ∈ wsX10, w ∈ lw_tbl := by decide +kernel
theorem lin_wsX40 : ∀ w ∈ wsX40, w ∈ lw_tbl := by decide +kernel
theorem wsL_law_in0 : ∀ w ∈ wsL_law0, w ∈ lw_tbl := fun w h => (List.mem_append.mp h).elim (fun h => (List.mem_append.mp h).elim (fun h => (List.mem_append.mp h).elim (fun h => (List.mem_append.mp h).elim (fun h => (List.mem_append.mp h).elim (fun h => (List.mem_append.mp h).elim (fun h => lin_wsL_law0_r1 w h) (fun h => (List.mem_append.mp h).elim (fun h => lin_wsL_law0_r2 w h) (fun h => (List.mem_append.mp h).elim (fun h => lin_wsL_law0_r3 w h) (fun h => (List.mem_append.mp h).elim (fun h => lin_wsL_law0_r4 w h) (fun h => (List.mem_append.mp h).elim (fun h => lin_wsL_law0_r5 w h) (fun h => (List.mem_append.mp h).elim (fun h => lin_wsL_law0_r6 w h) (fun h => (List.mem_append.mp h).elim (fun h => lin_wsL_law0_r7 w h) (fun h => (List.mem_append.mp h).elim (fun h => lin_wsL_law0_r8 w h) (fun h => (List.mem_append.mp h).elim (fun h => lin_wsL_law0_r9 w h) (fun h => (List.mem_append.mp h).elim (fun h => lin_wsL_law0_r10 w h) (fun h => (List.mem_append.mp h).elim (fun h => lin_wsL_law0_r11 w h) (fun h => (List.mem_append.mp h).elim (fun h => lin_wsL_law0_r12 w h) (fun h => (List.mem_append.mp h).elim (fun h => lin_wsL_law0_r13 w h) (fun h => (List.mem_append.mp h).elim (fun h => lin_wsL_law0_r14 w h) (fun h => (List.mem_append.mp h).elim (fun h => lin_wsL_law0_r15 w h) (fun h => (List.mem_append.mp h).elim (fun h => lin_wsL_law0_r16 w h) (fun h => (List.mem_append.mp h).elim (fun h => lin_wsL_law0_r17 w h) (fun h => (List.mem_append.mp h).elim (fun h => lin_wsL_law0_r18 w h) (fun h => lin_wsL_law0_r19 w h))))))))))))))))))) (fun h => lin_wsX30 w h)) (fun h => lin_wsX00 w h)) (fun h => lin_wsX10 w h)) (fun h => lin_wsX40 w h)) (fun h => nomatch h)
theorem wsL_law_x0 : ∀ w ∈ (vx_atS RX3 42 "java/lang/IllegalArgumentException" ["java/lang/RuntimeException", "java/lang/Exception"]).filter goodWord, w ∈ lw_tbl := by decide +kernel
theorem wsL_law_x1 : ∀ w ∈ (vx_atS RX3 60 "java/lang/IllegalStateException" ["java/lang/RuntimeException", "java/lang/Exception"]).filter goodWord, w ∈ lw_tbl := by decide +kernel
theorem wsL_law_x2 : ∀ w ∈ (vx_atS RX3 152 "java/lang/IndexOutOfBoundsException" ["java/lang/RuntimeException", "java/lang/Exception"]).filter goodWord, w ∈ lw_tbl := by decide +kernel
theorem wsL_law_in : ∀ w ∈ wsL_law, w ∈ lw_tbl := fun w h => (List.mem_append.mp h).elim (fun h => (List.mem_append.mp h).elim (fun h => (List.mem_append.mp h).elim (fun h => wsL_law_in0 w h) (fun h => wsL_law_x0 w h)) (fun h => wsL_law_x1 w h)) (fun h => wsL_law_x2 w h)
theorem inlX0 : ∀ w ∈ wsX00, w ∈ wsL_law := fun _ h => List.mem_append_left _ (List.mem_append_left _ (List.mem_append_left _ (List.mem_append_left _ (List.mem_append_left _ (List.mem_append_left _ (List.mem_append_right _ h))))))
theorem inX0 : ∀ w ∈ wsX00, w ∈ lw_tbl := fun w h => wsL_law_in w (inlX0 w h)
theorem inlX1 : ∀ w ∈ wsX10, w ∈ wsL_law := fun _ h => List.mem_append_left _ (List.mem_append_left _ (List.mem_append_left _ (List.mem_append_left _ (List.mem_append_left _ (List.mem_append_right _ h)))))
theorem inX1 : ∀ w ∈ wsX10, w ∈ lw_tbl := fun w h => wsL_law_in w (inlX1 w h)
theorem inX2 : ∀ w ∈ wsX20, w ∈ lw_tbl := by decide +kernel
theorem inlX3 : ∀ w ∈ wsX30, w ∈ wsL_law := fun _ h => List.mem_append_left _ (List.mem_append_left _ (List.mem_append_left _ (List.mem_append_left _ (List.mem_append_left _ (List.mem_append_left _ (List.mem_append_left _ (List.mem_append_right _ h)))))))
theorem inX3 : ∀ w ∈ wsX30, w ∈ lw_tbl := fun w h => wsL_law_in w (inlX3 w h)
theorem inlX4 : ∀ w ∈ wsX40, w ∈ wsL_law := fun _ h => List.mem_append_left _ (List.mem_append_left _ (List.mem_append_left _ (List.mem_append_left _ (List.mem_append_right _ h))))
theorem inX4 : ∀ w ∈ wsX40, w ∈ lw_tbl := fun w h => wsL_law_in w (inlX4 w h)
theorem inX5 : ∀ w ∈ wsX50, w ∈ lw_tbl := by decide +kernel
theorem inJx145de : ∀ w ∈ wsJx145de0, w ∈ lw_tbl := by decide +kernel
theorem inJx8e188 : ∀ w ∈ wsJx8e1880, w ∈ lw_tbl := by decide +kernel
theorem inJ9 : ∀ w ∈ wsJ90, w ∈ lw_tbl := by decide +kernel
theorem inJ0 : ∀ w ∈ wsJ00, w ∈ lw_tbl := by decide +kernel
theorem inJ7 : ∀ w ∈ wsJ70, w ∈ lw_tbl := by decide +kernel
end
section
/-! ===== the abstract machine: a method's frame and world as lists whose references are places of the world's list ===== -/
abbrev aE : Type := (Bool × Nat × (Nat → Int32)) ⊕ ((Nat × List Value) ⊕ (Bool × Nat × (Nat → Nat)))
abbrev aG : Type := va_G × ClassId × ClassId × ClassId × ClassId
/-- the rows of an array of arrays -/
abbrev rwF (ad : Nat → Nat) (n : Nat) (g : Nat → Nat) : Nat → Option Nat := fun i => if i < n then some (ad (g i)) else none
def aV (ad : Nat → Nat) : Value → Value
  | .ref a => .ref (ad a)
  | v => v
def aC (K : aG) (ad : Nat → Nat) : aE → va_E
  | .inl (true, n, f) => .inl (K.2.2.1, n, .inl f)
  | .inl (false, n, f) => .inl (K.2.1, n, .inl f)
  | .inr (.inl o) => .inr (o.1, o.2.map (aV ad))
  | .inr (.inr (true, n, g)) => .inl (K.2.2.2.2, n, .inr (.inr (.inr (.inr (rwF ad n g)))))
  | .inr (.inr (false, n, g)) => .inl (K.2.2.2.1, n, .inr (.inr (.inr (.inr (rwF ad n g)))))
def aX (K : aG) (ad : Nat → Nat) : Nat → List aE → va_W
  | _, [] => []
  | i, e :: t => (ad i, aC K ad e) :: aX K ad (i + 1) t
abbrev aT (K : aG) : List (ClassId × FieldType) := [(K.2.1, .int), (K.2.2.1, .boolean), (K.2.2.2.1, .array .int), (K.2.2.2.2, .array .boolean)]
def aL (ad : Nat → Nat) (ls : List (Nat × Value)) : List (Nat × Value) := ls.map (fun q => (q.1, aV ad q.2))
theorem aX_get (K : aG) (ad : Nat → Nat) : ∀ (X : List aE) (i k : Nat) (e : aE), X[k]? = some e → (aX K ad i X)[k]? = some (ad (i + k), aC K ad e)
  | [], i, k, e, h => by simp at h
  | x :: t, i, 0, e, h => by
    simp only [List.getElem?_cons_zero, Option.some.injEq] at h
    subst h
    simp [aX]
  | x :: t, i, k + 1, e, h => by
    simp only [List.getElem?_cons_succ] at h
    have := aX_get K ad t (i + 1) k e h
    simp only [aX, List.getElem?_cons_succ]
    rw [this, show i + 1 + k = i + (k + 1) by omega]
theorem aX_set (K : aG) (ad : Nat → Nat) : ∀ (X : List aE) (i k : Nat) (e : aE), (aX K ad i X).set k (ad (i + k), aC K ad e) = aX K ad i (X.set k e)
  | [], i, k, e => by simp [aX]
  | x :: t, i, 0, e => by simp [aX]
  | x :: t, i, k + 1, e => by
    have := aX_set K ad t (i + 1) k e
    simp only [aX, List.set_cons_succ]
    rw [← this, show i + 1 + k = i + (k + 1) by omega]
theorem aV_cat (ad : Nat → Nat) (v : Value) : (aV ad v).category = v.category := by cases v <;> rfl
theorem aL_get (ad : Nat → Nat) {ls : List (Nat × Value)} {j i : Nat} {v : Value} (h : ls[j]? = some (i, v)) : (aL ad ls)[j]? = some (i, aV ad v) := by
  unfold aL
  rw [List.getElem?_map, h]
  rfl
theorem aS_get (ad : Nat → Nat) {fs : List Value} {j : Nat} {v : Value} (h : fs[j]? = some v) : (fs.map (aV ad))[j]? = some (aV ad v) := by
  rw [List.getElem?_map, h]
  rfl
/-! the context of a body -/
abbrev aΓ : Type := Program × Launch × Env × Room × State × MethodId × Array Value × List Frame × Method × Code × (State → Prop) × aG × (Nat → Prop) × Nat
def FG (Γ : aΓ) (pc : Nat) (ad : Nat → Nat) (k n : Nat) (ls : List (Nat × Value)) (st : List Value) (X : List aE) : Prop :=
  match Γ with
  | (p, l, e, R, s, m, args, below, meth, c, Q, K, A, nL) => ∀ (H : Heap) (locs : List Loc) (la : Array Slot), va_P K.1 vwCl (aX K ad 0 X) H → va_D A (aX K ad 0 X) → va_S A s.heap H locs → lv_has la nL (aL ad ls) →
    W p l e R s m args below meth c H locs k n Q (F0 m pc la (st.map (aV ad)))
def aNf : List (Nat × String × String) := [(133, "PaintedDie$Board", "width"), (136, "PaintedDie$Board", "height"), (177, "PaintedDie$Search", "found")]
/-- what the tables say beside the words of a method's list: nest mates' members -/
def aNst (N : List (String × Nat × MethodName)) (U : State) : Prop := (∀ q ∈ aNf, va_Nw (.fieldLinkNest "PaintedDie" q.1 q.2.1 q.2.2 "I" "PaintedDie") U) ∧ ∀ q ∈ N, va_Nw (.methodLinkNest q.1 q.2.1 q.2.2 "PaintedDie") U
theorem aNst.warm {N : List (String × Nat × MethodName)} {s U : State} (hW : s.WarmedH U.vm) (h : aNst N s) : aNst N U := ⟨fun q hq => (h.1 q hq).warmF hW, fun q hq => (h.2 q hq).warmM hW⟩
theorem aNst.same {N : List (String × Nat × MethodName)} {s U : State} (hv : s.vm = U.vm) (h : aNst N s) : aNst N U := ⟨fun q hq => (h.1 q hq).same rfl hv, fun q hq => (h.2 q hq).same rfl hv⟩
def aStr (S : List (String × Nat × String)) (U : State) : Prop := ∀ q ∈ S, ∃ a, vk_R q.1 q.2.1 q.2.2 a U
theorem aStr.warm {S : List (String × Nat × String)} {s U : State} (hW : s.WarmedH U.vm) (h : aStr S s) : aStr S U := fun q hq => by
  obtain ⟨a, h⟩ := h q hq
  exact ⟨a, h.warm hW⟩
theorem aStr.same {S : List (String × Nat × String)} {s U : State} (hv : s.vm = U.vm) (h : aStr S s) : aStr S U := fun q hq => by
  obtain ⟨a, h⟩ := h q hq
  exact ⟨a, vk_R.same hv.symm h⟩
def aNm : List (String × Nat × MethodName) := [("PaintedDie", 11, yX0_init), ("PaintedDie", 112, yX0_columnOf), ("PaintedDie", 115, yX0_rowOf), ("PaintedDie", 118, yX2_topOf), ("PaintedDie", 124, yX2_faceOn), ("PaintedDie", 127, yX0_printOn), ("PaintedDie", 130, yX0_nextCell), ("PaintedDie", 139, yX0_countWalls), ("PaintedDie", 153, yX0_countPrints), ("PaintedDie", 159, yX1_fewestTo), ("PaintedDie", 162, yX1_fewestWithTop), ("PaintedDie", 168, yX1_rollsAt), ("PaintedDie", 171, yX2_behindRoll), ("PaintedDie", 174, yX1_countTops), ("PaintedDie", 18, yX1_init), ("PaintedDie", 213, yX0_layOut), ("PaintedDie", 222, yX0_printOnto), ("PaintedDie", 225, yX1_forget), ("PaintedDie", 228, yX1_reach), ("PaintedDie", 232, yX1_spread), ("PaintedDie", 236, yX0_isFreeCell), ("PaintedDie", 239, yX2_with), ("PaintedDie", 242, yX0_has), ("PaintedDie", 48, yX0_cellAt), ("PaintedDie", 61, yX0_turnOver), ("PaintedDie", 77, yX0_isFree), ("PaintedDie$Search", 34, yX0_nextCell), ("PaintedDie$Search", 39, yX2_behindRoll), ("PaintedDie$Search", 46, yX2_with)]
def aSt : List (String × Nat × String) := [("PaintedDie", 105, "this roll cannot be made"), ("PaintedDie", 110, "rolls are 1 to 50"), ("PaintedDie", 150, "a print is 0 to 9"), ("PaintedDie", 180, "rolls are 0 to 20"), ("PaintedDie", 245, "there is no such cell"), ("PaintedDie", 247, "a face is 1 to 6"), ("PaintedDie", 249, "a direction is 0 to 3"), ("PaintedDie", 40, "a board is 2 to 7 cells wide and high"), ("PaintedDie", 58, "the die lies there"), ("PaintedDie", 68, "a colour is 1 to 9"), ("PaintedDie", 70, "paint is given from 1 to 20"), ("PaintedDie", 81, "a wall is there")]
/-- what a throw asks of the tables beside the good words -/
def aCs : List String := ["java/lang/IndexOutOfBoundsException", "java/lang/IllegalArgumentException", "java/lang/IllegalStateException"]
def aDc : List MethodName := [⟨"java/lang/RuntimeException", "<init>", "(Ljava/lang/String;)V"⟩, ⟨"java/lang/Exception", "<init>", "(Ljava/lang/String;)V"⟩, ⟨"java/lang/Throwable", "<init>", "(Ljava/lang/String;)V"⟩, ⟨"java/lang/Object", "<init>", "()V"⟩]
def aEx (U : State) : Prop := (∀ E ∈ aCs, (Cond.castable E E).before #[] U = true) ∧ ∀ y ∈ aDc, (Cond.declares y).before #[] U = true
theorem aEx_tr {u U : State} {c : Cond} (hc : c.onTables = true) (h : c.before #[] (u.setVm U.vm) = true) : c.before #[] U = true := by
  have e := Cond.onTables_vm (A := #[]) (A' := #[]) (U := u) (U' := U) U.vm c hc
  have hU : U.setVm U.vm = U := rfl
  rw [hU] at e
  rw [← e]
  exact h
theorem aEx.warm {s U : State} (hW : s.WarmedH U.vm) (h : aEx s) : aEx U :=
  ⟨fun E hE => aEx_tr rfl (by rw [Cond.castable_setVm hW.alike]; exact h.1 E hE), fun y hy => aEx_tr rfl (by rw [Cond.declares_setVm hW.alike]; exact h.2 y hy)⟩
theorem aEx.same {s U : State} (hv : s.vm = U.vm) (h : aEx s) : aEx U := ⟨fun E hE => va_tabs rfl hv (h.1 E hE), fun y hy => va_tabs rfl hv (h.2 y hy)⟩
def aEl : List Cond := aCs.map (fun E => Cond.castable E E) ++ aDc.map Cond.declares
theorem aEx.use {s : State} {A : Array Value} (h : aEx s) : ∀ w ∈ aEl, w.before A s = true := by
  intro w hw
  rcases List.mem_append.mp hw with hw | hw
  · obtain ⟨E, hE, rfl⟩ := List.mem_map.mp hw
    exact va_tabs rfl rfl (h.1 E hE)
  · obtain ⟨y, hy, rfl⟩ := List.mem_map.mp hw
    exact va_tabs rfl rfl (h.2 y hy)
def aB (U : State) : Prop := aNst aNm U ∧ aStr aSt U ∧ aEx U
theorem aB.warm {s U : State} (hW : s.WarmedH U.vm) (h : aB s) : aB U := ⟨h.1.warm hW, h.2.1.warm hW, h.2.2.warm hW⟩
theorem aB.same {s U : State} (hv : s.vm = U.vm) (h : aB s) : aB U := ⟨h.1.same hv, h.2.1.same hv, h.2.2.same hv⟩
/-- the facts of a body -/
def FOK (Γ : aΓ) (cc : ByteArray) (Ts : List Cond) (own : String) (nL : Nat) (rm : Room) : Prop :=
  match Γ with
  | (p, _, _, R, s, m, args, _, _, c, _, K, A, nL') => p.tables.exec = Jvm.exec ∧ c.code = cc ∧ c.maxLocals = nL ∧ s.vm.findClass own = some m.cls ∧ (∀ w ∈ Ts, w.before args s = true) ∧ va_K K.1 vwCl (aT K) s ∧ (∀ q, s.heap.size ≤ q → A q) ∧ nL' = nL ∧ R = rm ∧ aB s
abbrev aK : Type := Nat → (Nat → Nat) → Nat → Nat → List (Nat × Value) → List Value → List aE → Prop
abbrev aO : Type := aK → (Nat → Nat) → Nat → Nat → List (Nat × Value) → List Value → List aE → Prop
def Snd (Γ : aΓ) (pc : Nat) (o : aO) : Prop := ∀ K : aK, (∀ pc ad k n ls st X, K pc ad k n ls st X → FG Γ pc ad k n ls st X) → ∀ ad k n ls st X, o K ad k n ls st X → FG Γ pc ad k n ls st X
def AllS (Γ : aΓ) (tb : List (Nat × aO)) : Prop := ∀ q ∈ tb, Snd Γ q.1 q.2
theorem al_0 {Γ : aΓ} : AllS Γ [] := fun _ h => by cases h
theorem al_c {Γ : aΓ} {pc : Nat} {o : aO} {t : List (Nat × aO)} (h : Snd Γ pc o) (ht : AllS Γ t) : AllS Γ ((pc, o) :: t) := fun q hq => by
  rcases List.mem_cons.mp hq with rfl | hq
  · exact h
  · exact ht q hq
def lku (pc : Nat) : List (Nat × aO) → aO
  | [] => fun _ _ _ _ _ _ _ => False
  | q :: t => match Nat.beq q.1 pc with
    | true => q.2
    | false => lku pc t
theorem lku_snd {Γ : aΓ} {tb : List (Nat × aO)} (h : AllS Γ tb) (pc : Nat) : Snd Γ pc (lku pc tb) := by
  induction tb with
  | nil => exact fun K hK ad k n ls st X hf => hf.elim
  | cons q t ih =>
    unfold lku
    cases e : Nat.beq q.1 pc with
    | true =>
      have := h q List.mem_cons_self
      rw [Nat.eq_of_beq_eq_true e] at this
      exact this
    | false => exact ih fun q hq => h q (List.mem_cons_of_mem _ hq)
def isIn (pc : Nat) : List Nat → Bool
  | [] => false
  | q :: t => match Nat.beq q pc with
    | true => true
    | false => isIn pc t
noncomputable def run (Γ : aΓ) (tb : List (Nat × aO)) (cuts : List Nat) (f : Nat) : aK :=
  Nat.rec (motive := fun _ => aK) (FG Γ) (fun _ ih pc ad k n ls st X => match isIn pc cuts with
    | true => FG Γ pc ad k n ls st X
    | false => lku pc tb ih ad k n ls st X) f
theorem run_snd {Γ : aΓ} {tb : List (Nat × aO)} (h : AllS Γ tb) (cuts : List Nat) : ∀ (f pc : Nat) (ad : Nat → Nat) (k n : Nat) (ls : List (Nat × Value)) (st : List Value) (X : List aE), run Γ tb cuts f pc ad k n ls st X → FG Γ pc ad k n ls st X
  | 0, _, _, _, _, _, _, _, hr => hr
  | f + 1, pc, ad, k, n, ls, st, X, hr => by
    have hr' : (match isIn pc cuts with
      | true => FG Γ pc ad k n ls st X
      | false => lku pc tb (run Γ tb cuts f) ad k n ls st X) := hr
    split at hr'
    · exact hr'
    · exact lku_snd h pc _ (run_snd h cuts f) ad k n ls st X hr'
/-- the instruction at pc, then at most f more, up to the cuts -/
theorem go {Γ : aΓ} {tb : List (Nat × aO)} (h : AllS Γ tb) (cuts : List Nat) (f : Nat) {pc : Nat} {ad : Nat → Nat} {k n : Nat} {ls : List (Nat × Value)} {st : List Value} {X : List aE} (hr : lku pc tb (run Γ tb cuts f) ad k n ls st X) : FG Γ pc ad k n ls st X :=
  lku_snd h pc _ (run_snd h cuts f) ad k n ls st X hr
/-! reading and writing the lists, the rest of the run behind it -/
def gl (i : Nat) (c : Value → Prop) : List (Nat × Value) → Prop
  | [] => False
  | q :: t => match Nat.beq q.1 i with
    | true => c q.2
    | false => gl i c t
theorem gl_spec {i : Nat} {c : Value → Prop} : ∀ {ls : List (Nat × Value)}, gl i c ls → ∃ (j : Nat) (v : Value), ls[j]? = some (i, v) ∧ c v
  | [], h => h.elim
  | q :: t, h => by
    unfold gl at h
    cases e : Nat.beq q.1 i with
    | true =>
      rw [e] at h
      have := Nat.eq_of_beq_eq_true e
      exact ⟨0, q.2, by rw [List.getElem?_cons_zero, ← this], h⟩
    | false =>
      rw [e] at h
      obtain ⟨j, v, h1, h2⟩ := gl_spec h
      exact ⟨j + 1, v, by rw [List.getElem?_cons_succ]; exact h1, h2⟩
def fl1 (i : Nat) (c : List (Nat × Value) → Prop) : List (Nat × Value) → Prop
  | [] => c []
  | q :: t => match Nat.beq q.1 i with
    | true => fl1 i c t
    | false => match Nat.beq (q.1 + 1) i with
      | true => match Nat.beq q.2.category 2 with
        | true => fl1 i c t
        | false => fl1 i (fun t' => c (q :: t')) t
      | false => fl1 i (fun t' => c (q :: t')) t
abbrev kf1 (i : Nat) : Nat × Value → Bool := fun q => !(q.1 == i) && !(q.1 + 1 == i && q.2.category == 2)
theorem beq_nat (a b : Nat) : (a == b) = Nat.beq a b := Bool.eq_iff_iff.mpr (by rw [beq_iff_eq]; exact ⟨fun h => by subst h; exact Nat.beq_refl a, Nat.eq_of_beq_eq_true⟩)
theorem fl1_spec {i : Nat} : ∀ {ls : List (Nat × Value)} {c : List (Nat × Value) → Prop}, fl1 i c ls → c (ls.filter (kf1 i))
  | [], c, h => h
  | q :: t, c, h => by
    unfold fl1 at h
    rw [List.filter_cons]
    simp only [kf1, beq_nat]
    cases e1 : Nat.beq q.1 i with
    | true =>
      rw [e1] at h
      simpa [kf1, beq_nat] using fl1_spec h
    | false =>
      rw [e1] at h
      cases e2 : Nat.beq (q.1 + 1) i with
      | true =>
        rw [e2] at h
        cases e3 : Nat.beq q.2.category 2 with
        | true =>
          rw [e3] at h
          simpa [kf1, beq_nat] using fl1_spec h
        | false =>
          rw [e3] at h
          simpa [kf1, beq_nat] using fl1_spec h
      | false =>
        rw [e2] at h
        simpa [kf1, beq_nat] using fl1_spec h
def fl2 (i : Nat) (c : List (Nat × Value) → Prop) : List (Nat × Value) → Prop
  | [] => c []
  | q :: t => match Nat.beq q.1 i with
    | true => fl2 i c t
    | false => match Nat.beq q.1 (i + 1) with
      | true => fl2 i c t
      | false => match Nat.beq (q.1 + 1) i with
        | true => match Nat.beq q.2.category 2 with
          | true => fl2 i c t
          | false => fl2 i (fun t' => c (q :: t')) t
        | false => fl2 i (fun t' => c (q :: t')) t
abbrev kf2 (i : Nat) : Nat × Value → Bool := fun q => !(q.1 == i) && (!(q.1 == i + 1) && !(q.1 + 1 == i && q.2.category == 2))
theorem fl2_spec {i : Nat} : ∀ {ls : List (Nat × Value)} {c : List (Nat × Value) → Prop}, fl2 i c ls → c (ls.filter (kf2 i))
  | [], c, h => h
  | q :: t, c, h => by
    unfold fl2 at h
    rw [List.filter_cons]
    simp only [kf2, beq_nat]
    cases e1 : Nat.beq q.1 i with
    | true =>
      rw [e1] at h
      simpa [kf2, beq_nat] using fl2_spec h
    | false =>
      rw [e1] at h
      cases e4 : Nat.beq q.1 (i + 1) with
      | true =>
        rw [e4] at h
        simpa [kf2, beq_nat] using fl2_spec h
      | false =>
        rw [e4] at h
        cases e2 : Nat.beq (q.1 + 1) i with
        | true =>
          rw [e2] at h
          cases e3 : Nat.beq q.2.category 2 with
          | true =>
            rw [e3] at h
            simpa [kf2, beq_nat] using fl2_spec h
          | false =>
            rw [e3] at h
            simpa [kf2, beq_nat] using fl2_spec h
        | false =>
          rw [e2] at h
          simpa [kf2, beq_nat] using fl2_spec h
theorem aL_f1 (ad : Nat → Nat) (i : Nat) (ls : List (Nat × Value)) : (aL ad ls).filter (kf1 i) = aL ad (ls.filter (kf1 i)) := by
  unfold aL
  rw [List.filter_map]
  congr 1
  refine List.filter_congr fun q _ => ?_
  simp [kf1, aV_cat]
theorem aL_f2 (ad : Nat → Nat) (i : Nat) (ls : List (Nat × Value)) : (aL ad ls).filter (kf2 i) = aL ad (ls.filter (kf2 i)) := by
  unfold aL
  rw [List.filter_map]
  congr 1
  refine List.filter_congr fun q _ => ?_
  simp [kf2, aV_cat]
/-- the thing at a place of a list -/
def gx {α : Type} : Nat → (α → Prop) → List α → Prop
  | _, _, [] => False
  | 0, c, e :: _ => c e
  | i + 1, c, _ :: t => gx i c t
theorem gx_spec {α : Type} : ∀ {i : Nat} {c : α → Prop} {X : List α}, gx i c X → ∃ e, X[i]? = some e ∧ c e
  | i, c, [], h => by
    cases i <;> exact h.elim
  | 0, c, e :: _, h => ⟨e, rfl, h⟩
  | i + 1, c, _ :: t, h => by
    obtain ⟨e, h1, h2⟩ := gx_spec (i := i) (c := c) (X := t) h
    exact ⟨e, by rw [List.getElem?_cons_succ]; exact h1, h2⟩
def sx {α : Type} : Nat → α → (List α → Prop) → List α → Prop
  | _, _, _, [] => False
  | 0, e, c, _ :: t => c (e :: t)
  | i + 1, e, c, h :: t => sx i e (fun t' => c (h :: t')) t
theorem sx_spec {α : Type} : ∀ {i : Nat} {e : α} {c : List α → Prop} {X : List α}, sx i e c X → i < X.length ∧ c (X.set i e)
  | i, e, c, [], h => by
    cases i <;> exact h.elim
  | 0, e, c, _ :: t, h => ⟨Nat.succ_pos _, h⟩
  | i + 1, e, c, a :: t, h => by
    obtain ⟨h1, h2⟩ := sx_spec (i := i) (e := e) (X := t) h
    exact ⟨Nat.succ_lt_succ h1, h2⟩
end
section
/-! what is on the stack -/
def pV (c : Value → List Value → Prop) : List Value → Prop
  | [] => False
  | v :: t => c v t
theorem pV_spec {c : Value → List Value → Prop} : ∀ {st : List Value}, pV c st → ∃ v t, st = v :: t ∧ c v t
  | [], h => h.elim
  | v :: t, h => ⟨v, t, rfl, h⟩
def vI (c : Int32 → Prop) : Value → Prop
  | .int x => c x
  | _ => False
theorem vI_spec {c : Int32 → Prop} : ∀ {v : Value}, vI c v → ∃ x, v = .int x ∧ c x
  | .int x, h => ⟨x, rfl, h⟩
  | .long _, h => h.elim
  | .float _, h => h.elim
  | .double _, h => h.elim
  | .null, h => h.elim
  | .ref _, h => h.elim
  | .retAddr _, h => h.elim
def vR (c : Nat → Prop) : Value → Prop
  | .ref x => c x
  | _ => False
theorem vR_spec {c : Nat → Prop} : ∀ {v : Value}, vR c v → ∃ x, v = .ref x ∧ c x
  | .ref x, h => ⟨x, rfl, h⟩
  | .long _, h => h.elim
  | .float _, h => h.elim
  | .double _, h => h.elim
  | .null, h => h.elim
  | .int _, h => h.elim
  | .retAddr _, h => h.elim
def vL (c : Int64 → Prop) : Value → Prop
  | .long x => c x
  | _ => False
theorem vL_spec {c : Int64 → Prop} : ∀ {v : Value}, vL c v → ∃ x, v = .long x ∧ c x
  | .long x, h => ⟨x, rfl, h⟩
  | .int _, h => h.elim
  | .float _, h => h.elim
  | .double _, h => h.elim
  | .null, h => h.elim
  | .ref _, h => h.elim
  | .retAddr _, h => h.elim
def vD (c : UInt64 → Prop) : Value → Prop
  | .double x => c x
  | _ => False
theorem vD_spec {c : UInt64 → Prop} : ∀ {v : Value}, vD c v → ∃ x, v = .double x ∧ c x
  | .double x, h => ⟨x, rfl, h⟩
  | .int _, h => h.elim
  | .float _, h => h.elim
  | .long _, h => h.elim
  | .null, h => h.elim
  | .ref _, h => h.elim
  | .retAddr _, h => h.elim
abbrev pI (c : Int32 → List Value → Prop) : List Value → Prop := pV fun v t => vI (fun x => c x t) v
abbrev pR (c : Nat → List Value → Prop) : List Value → Prop := pV fun v t => vR (fun x => c x t) v
abbrev pL (c : Int64 → List Value → Prop) : List Value → Prop := pV fun v t => vL (fun x => c x t) v
abbrev pD (c : UInt64 → List Value → Prop) : List Value → Prop := pV fun v t => vD (fun x => c x t) v
theorem pI_spec {c : Int32 → List Value → Prop} {st : List Value} (h : pI c st) : ∃ x t, st = .int x :: t ∧ c x t := by
  obtain ⟨v, t, rfl, h⟩ := pV_spec h
  obtain ⟨x, rfl, h⟩ := vI_spec h
  exact ⟨x, t, rfl, h⟩
theorem pR_spec {c : Nat → List Value → Prop} {st : List Value} (h : pR c st) : ∃ x t, st = .ref x :: t ∧ c x t := by
  obtain ⟨v, t, rfl, h⟩ := pV_spec h
  obtain ⟨x, rfl, h⟩ := vR_spec h
  exact ⟨x, t, rfl, h⟩
theorem pL_spec {c : Int64 → List Value → Prop} {st : List Value} (h : pL c st) : ∃ x t, st = .long x :: t ∧ c x t := by
  obtain ⟨v, t, rfl, h⟩ := pV_spec h
  obtain ⟨x, rfl, h⟩ := vL_spec h
  exact ⟨x, t, rfl, h⟩
theorem pD_spec {c : UInt64 → List Value → Prop} {st : List Value} (h : pD c st) : ∃ x t, st = .double x :: t ∧ c x t := by
  obtain ⟨v, t, rfl, h⟩ := pV_spec h
  obtain ⟨x, rfl, h⟩ := vD_spec h
  exact ⟨x, t, rfl, h⟩
/-! cells of the world -/
def eO (ci : Nat) (c : List Value → Prop) : aE → Prop
  | .inr (.inl o) => match Nat.beq o.1 ci with
    | true => c o.2
    | false => False
  | _ => False
theorem eO_spec {ci : Nat} {c : List Value → Prop} : ∀ {e : aE}, eO ci c e → ∃ fs, e = .inr (.inl (ci, fs)) ∧ c fs
  | .inr (.inl (a, fs)), h => by
    unfold eO at h
    cases e : Nat.beq a ci with
    | true =>
      simp only [e] at h
      have := Nat.eq_of_beq_eq_true e
      subst this
      exact ⟨fs, rfl, h⟩
    | false =>
      simp only [e] at h
  | .inl _, h => h.elim
  | .inr (.inr _), h => h.elim
def eI (c : Nat → (Nat → Int32) → Prop) : aE → Prop
  | .inl (false, n, f) => c n f
  | _ => False
theorem eI_spec {c : Nat → (Nat → Int32) → Prop} : ∀ {e : aE}, eI c e → ∃ n f, e = .inl (false, n, f) ∧ c n f
  | .inl (false, n, f), h => ⟨n, f, rfl, h⟩
  | .inl (true, n, f), h => h.elim
  | .inr _, h => h.elim
def eZ (c : Nat → (Nat → Int32) → Prop) : aE → Prop
  | .inl (true, n, f) => c n f
  | _ => False
theorem eZ_spec {c : Nat → (Nat → Int32) → Prop} : ∀ {e : aE}, eZ c e → ∃ n f, e = .inl (true, n, f) ∧ c n f
  | .inl (true, n, f), h => ⟨n, f, rfl, h⟩
  | .inl (false, n, f), h => h.elim
  | .inr _, h => h.elim
def eLen (c : Nat → Prop) : aE → Prop
  | .inl q => c q.2.1
  | .inr (.inr q) => c q.2.1
  | _ => False
def ck (b : Bool) (c : Prop) : Prop := match b with
  | true => c
  | false => False
theorem ck_spec {b : Bool} {c : Prop} (h : ck b c) : b = true ∧ c := by
  cases b
  · exact h.elim
  · exact ⟨rfl, h⟩
/-! the instructions -/
section OPS
variable {Γ : aΓ} {cc : ByteArray} {Ts : List Cond} {own : String} {nL : Nat} {rm : Room} {pc : Nat}
def oC (v : Int32) (nx : Nat) : aO := fun K ad k n ls st X => K nx ad k n ls (.int v :: st) X
theorem snd_iconst (C : FOK Γ cc Ts own nL rm) {z : Int} {v : Int32} (d : decode cc pc = .ok (.iconst z, 1)) (hv : Int32.ofInt z = v) : Snd Γ pc (oC v (pc + 1)) := by
  obtain ⟨p, l, e, R, s, m, args, below, meth, c, Q, G, A, nL'⟩ := Γ
  obtain ⟨hx, hb, hml, hown, hts, hK, hA, rfl, rfl, hB⟩ := C
  intro K hK' ad k n ls st X ho
  dsimp only [oC] at ho
  intro H locs la hP hD hS hl
  exact lv_iconst hx hb d hv (hK' _ _ _ _ _ _ _ ho H locs la hP hD hS hl)
theorem snd_bipush (C : FOK Γ cc Ts own nL rm) {z : Int} {v : Int32} (d : decode cc pc = .ok (.bipush z, 2)) (hv : (Int8.ofInt z).toInt32 = v) : Snd Γ pc (oC v (pc + 2)) := by
  obtain ⟨p, l, e, R, s, m, args, below, meth, c, Q, G, A, nL'⟩ := Γ
  obtain ⟨hx, hb, hml, hown, hts, hK, hA, rfl, rfl, hB⟩ := C
  intro K hK' ad k n ls st X ho
  dsimp only [oC] at ho
  intro H locs la hP hD hS hl
  exact lv_bipush hx hb d hv (hK' _ _ _ _ _ _ _ ho H locs la hP hD hS hl)
theorem snd_sipush (C : FOK Γ cc Ts own nL rm) {z : Int} {v : Int32} (d : decode cc pc = .ok (.sipush z, 3)) (hv : (Int16.ofInt z).toInt32 = v) : Snd Γ pc (oC v (pc + 3)) := by
  obtain ⟨p, l, e, R, s, m, args, below, meth, c, Q, G, A, nL'⟩ := Γ
  obtain ⟨hx, hb, hml, hown, hts, hK, hA, rfl, rfl, hB⟩ := C
  intro K hK' ad k n ls st X ho
  dsimp only [oC] at ho
  intro H locs la hP hD hS hl
  exact lv_sipush hx hb d hv (hK' _ _ _ _ _ _ _ ho H locs la hP hD hS hl)
def oCL (v : Int64) (nx : Nat) : aO := fun K ad k n ls st X => K nx ad k n ls (.long v :: st) X
theorem snd_lconst (C : FOK Γ cc Ts own nL rm) {z : Fin 2} {v : Int64} (d : decode cc pc = .ok (.lconst z, 1)) (hv : Int64.ofNat (z : Nat) = v) : Snd Γ pc (oCL v (pc + 1)) := by
  obtain ⟨p, l, e, R, s, m, args, below, meth, c, Q, G, A, nL'⟩ := Γ
  obtain ⟨hx, hb, hml, hown, hts, hK, hA, rfl, rfl, hB⟩ := C
  intro K hK' ad k n ls st X ho
  dsimp only [oCL] at ho
  intro H locs la hP hD hS hl
  exact lv_lconst hx hb d hv (hK' _ _ _ _ _ _ _ ho H locs la hP hD hS hl)
theorem snd_ldc2 (C : FOK Γ cc Ts own nL rm) {index : Nat} {v : Int64} (d : decode cc pc = .ok (.ldc2_w index, 3)) (hv : Cond.constantLong own index v ∈ Ts) : Snd Γ pc (oCL v (pc + 3)) := by
  obtain ⟨p, l, e, R, s, m, args, below, meth, c, Q, G, A, nL'⟩ := Γ
  obtain ⟨hx, hb, hml, hown, hts, hK, hA, rfl, rfl, hB⟩ := C
  intro K hK' ad k n ls st X ho
  dsimp only [oCL] at ho
  intro H locs la hP hD hS hl
  exact lv_ldc2 hx hb hown (hts _ hv) d (hK' _ _ _ _ _ _ _ ho H locs la hP hD hS hl)
def oCD (v : UInt64) (nx : Nat) : aO := fun K ad k n ls st X => K nx ad k n ls (.double v :: st) X
theorem snd_ldc2d (C : FOK Γ cc Ts own nL rm) {index : Nat} {v : UInt64} (d : decode cc pc = .ok (.ldc2_w index, 3)) (hv : Cond.constantDouble own index v ∈ Ts) : Snd Γ pc (oCD v (pc + 3)) := by
  obtain ⟨p, l, e, R, s, m, args, below, meth, c, Q, G, A, nL'⟩ := Γ
  obtain ⟨hx, hb, hml, hown, hts, hK, hA, rfl, rfl, hB⟩ := C
  intro K hK' ad k n ls st X ho
  dsimp only [oCD] at ho
  intro H locs la hP hD hS hl
  exact lv_ldc2d hx hb hown (hts _ hv) d (hK' _ _ _ _ _ _ _ ho H locs la hP hD hS hl)
def oIL (i nx : Nat) : aO := fun K ad k n ls st X => gl i (vI fun x => K nx ad k n ls (.int x :: st) X) ls
theorem snd_iload_n (C : FOK Γ cc Ts own nL rm) {i : Nat} {j : Fin 4} (d : decode cc pc = .ok (.iload_n j, 1)) (hi : (j : Nat) = i) : Snd Γ pc (oIL i (pc + 1)) := by
  obtain ⟨p, l, e, R, s, m, args, below, meth, c, Q, G, A, nL'⟩ := Γ
  obtain ⟨hx, hb, hml, hown, hts, hK, hA, rfl, rfl, hB⟩ := C
  intro K hK' ad k n ls st X ho
  dsimp only [oIL] at ho
  obtain ⟨q, v, h1, h2⟩ := gl_spec ho
  obtain ⟨x, rfl, h2⟩ := vI_spec h2
  intro H locs la hP hD hS hl
  exact lv_iload_n hx hb d hi (lv_at hl q (aL_get ad h1)) (hK' _ _ _ _ _ _ _ h2 H locs la hP hD hS hl)
theorem snd_iload (C : FOK Γ cc Ts own nL rm) {i : Nat} (d : decode cc pc = .ok (.iload i, 2)) : Snd Γ pc (oIL i (pc + 2)) := by
  obtain ⟨p, l, e, R, s, m, args, below, meth, c, Q, G, A, nL'⟩ := Γ
  obtain ⟨hx, hb, hml, hown, hts, hK, hA, rfl, rfl, hB⟩ := C
  intro K hK' ad k n ls st X ho
  dsimp only [oIL] at ho
  obtain ⟨q, v, h1, h2⟩ := gl_spec ho
  obtain ⟨x, rfl, h2⟩ := vI_spec h2
  intro H locs la hP hD hS hl
  exact lv_iload hx hb d (lv_at hl q (aL_get ad h1)) (hK' _ _ _ _ _ _ _ h2 H locs la hP hD hS hl)
def oAL (i nx : Nat) : aO := fun K ad k n ls st X => gl i (vR fun x => K nx ad k n ls (.ref x :: st) X) ls
theorem snd_aload_n (C : FOK Γ cc Ts own nL rm) {i : Nat} {j : Fin 4} (d : decode cc pc = .ok (.aload_n j, 1)) (hi : (j : Nat) = i) : Snd Γ pc (oAL i (pc + 1)) := by
  obtain ⟨p, l, e, R, s, m, args, below, meth, c, Q, G, A, nL'⟩ := Γ
  obtain ⟨hx, hb, hml, hown, hts, hK, hA, rfl, rfl, hB⟩ := C
  intro K hK' ad k n ls st X ho
  dsimp only [oAL] at ho
  obtain ⟨q, v, h1, h2⟩ := gl_spec ho
  obtain ⟨x, rfl, h2⟩ := vR_spec h2
  intro H locs la hP hD hS hl
  exact lv_aload_n hx hb d hi (lv_at hl q (aL_get ad h1)) (hK' _ _ _ _ _ _ _ h2 H locs la hP hD hS hl)
theorem snd_aload (C : FOK Γ cc Ts own nL rm) {i : Nat} (d : decode cc pc = .ok (.aload i, 2)) : Snd Γ pc (oAL i (pc + 2)) := by
  obtain ⟨p, l, e, R, s, m, args, below, meth, c, Q, G, A, nL'⟩ := Γ
  obtain ⟨hx, hb, hml, hown, hts, hK, hA, rfl, rfl, hB⟩ := C
  intro K hK' ad k n ls st X ho
  dsimp only [oAL] at ho
  obtain ⟨q, v, h1, h2⟩ := gl_spec ho
  obtain ⟨x, rfl, h2⟩ := vR_spec h2
  intro H locs la hP hD hS hl
  exact lv_aload hx hb d (lv_at hl q (aL_get ad h1)) (hK' _ _ _ _ _ _ _ h2 H locs la hP hD hS hl)
def oLL (i nx : Nat) : aO := fun K ad k n ls st X => gl i (vL fun x => K nx ad k n ls (.long x :: st) X) ls
theorem snd_lload_n (C : FOK Γ cc Ts own nL rm) {i : Nat} {j : Fin 4} (d : decode cc pc = .ok (.lload_n j, 1)) (hi : (j : Nat) = i) : Snd Γ pc (oLL i (pc + 1)) := by
  obtain ⟨p, l, e, R, s, m, args, below, meth, c, Q, G, A, nL'⟩ := Γ
  obtain ⟨hx, hb, hml, hown, hts, hK, hA, rfl, rfl, hB⟩ := C
  intro K hK' ad k n ls st X ho
  dsimp only [oLL] at ho
  obtain ⟨q, v, h1, h2⟩ := gl_spec ho
  obtain ⟨x, rfl, h2⟩ := vL_spec h2
  intro H locs la hP hD hS hl
  exact lv_lload_n hx hb d hi (lv_at hl q (aL_get ad h1)) (hK' _ _ _ _ _ _ _ h2 H locs la hP hD hS hl)
theorem snd_lload (C : FOK Γ cc Ts own nL rm) {i : Nat} (d : decode cc pc = .ok (.lload i, 2)) : Snd Γ pc (oLL i (pc + 2)) := by
  obtain ⟨p, l, e, R, s, m, args, below, meth, c, Q, G, A, nL'⟩ := Γ
  obtain ⟨hx, hb, hml, hown, hts, hK, hA, rfl, rfl, hB⟩ := C
  intro K hK' ad k n ls st X ho
  dsimp only [oLL] at ho
  obtain ⟨q, v, h1, h2⟩ := gl_spec ho
  obtain ⟨x, rfl, h2⟩ := vL_spec h2
  intro H locs la hP hD hS hl
  exact lv_lload hx hb d (lv_at hl q (aL_get ad h1)) (hK' _ _ _ _ _ _ _ h2 H locs la hP hD hS hl)
def oDL (i nx : Nat) : aO := fun K ad k n ls st X => gl i (vD fun x => K nx ad k n ls (.double x :: st) X) ls
theorem snd_dload_n (C : FOK Γ cc Ts own nL rm) {i : Nat} {j : Fin 4} (d : decode cc pc = .ok (.dload_n j, 1)) (hi : (j : Nat) = i) : Snd Γ pc (oDL i (pc + 1)) := by
  obtain ⟨p, l, e, R, s, m, args, below, meth, c, Q, G, A, nL'⟩ := Γ
  obtain ⟨hx, hb, hml, hown, hts, hK, hA, rfl, rfl, hB⟩ := C
  intro K hK' ad k n ls st X ho
  dsimp only [oDL] at ho
  obtain ⟨q, v, h1, h2⟩ := gl_spec ho
  obtain ⟨x, rfl, h2⟩ := vD_spec h2
  intro H locs la hP hD hS hl
  exact lv_dload_n hx hb d hi (lv_at hl q (aL_get ad h1)) (hK' _ _ _ _ _ _ _ h2 H locs la hP hD hS hl)
theorem snd_dload (C : FOK Γ cc Ts own nL rm) {i : Nat} (d : decode cc pc = .ok (.dload i, 2)) : Snd Γ pc (oDL i (pc + 2)) := by
  obtain ⟨p, l, e, R, s, m, args, below, meth, c, Q, G, A, nL'⟩ := Γ
  obtain ⟨hx, hb, hml, hown, hts, hK, hA, rfl, rfl, hB⟩ := C
  intro K hK' ad k n ls st X ho
  dsimp only [oDL] at ho
  obtain ⟨q, v, h1, h2⟩ := gl_spec ho
  obtain ⟨x, rfl, h2⟩ := vD_spec h2
  intro H locs la hP hD hS hl
  exact lv_dload hx hb d (lv_at hl q (aL_get ad h1)) (hK' _ _ _ _ _ _ _ h2 H locs la hP hD hS hl)
def oIS (i nx : Nat) : aO := fun K ad k n ls st X => pI (fun x t => fl1 i (fun ls2 => K nx ad k n ((i, .int x) :: ls2) t X) ls) st
theorem snd_istore_n (C : FOK Γ cc Ts own nL rm) {i : Nat} {j : Fin 4} (d : decode cc pc = .ok (.istore_n j, 1)) (hi : (j : Nat) = i) (hn : i < nL) : Snd Γ pc (oIS i (pc + 1)) := by
  obtain ⟨p, l, e, R, s, m, args, below, meth, c, Q, G, A, nL'⟩ := Γ
  obtain ⟨hx, hb, hml, hown, hts, hK, hA, rfl, rfl, hB⟩ := C
  intro K hK' ad k n ls st X ho
  dsimp only [oIS] at ho
  obtain ⟨x, t, rfl, h⟩ := pI_spec ho
  have h := fl1_spec h
  intro H locs la hP hD hS hl
  refine lv_istore_n (lv' := aL ad ((i, .int x) :: ls.filter (kf1 i))) hx hb d hi hl hn ?_ (fun la' hl' => hK' _ _ _ _ _ _ _ h H locs la' hP hD hS hl')
  show (i, Value.int x) :: (aL ad ls).filter (kf1 i) = _
  rw [aL_f1]
  rfl
theorem snd_istore (C : FOK Γ cc Ts own nL rm) {i : Nat} (d : decode cc pc = .ok (.istore i, 2)) (hn : i < nL) : Snd Γ pc (oIS i (pc + 2)) := by
  obtain ⟨p, l, e, R, s, m, args, below, meth, c, Q, G, A, nL'⟩ := Γ
  obtain ⟨hx, hb, hml, hown, hts, hK, hA, rfl, rfl, hB⟩ := C
  intro K hK' ad k n ls st X ho
  dsimp only [oIS] at ho
  obtain ⟨x, t, rfl, h⟩ := pI_spec ho
  have h := fl1_spec h
  intro H locs la hP hD hS hl
  refine lv_istore (lv' := aL ad ((i, .int x) :: ls.filter (kf1 i))) hx hb d hl hn ?_ (fun la' hl' => hK' _ _ _ _ _ _ _ h H locs la' hP hD hS hl')
  show (i, Value.int x) :: (aL ad ls).filter (kf1 i) = _
  rw [aL_f1]
  rfl
def oAS (i nx : Nat) : aO := fun K ad k n ls st X => pR (fun x t => fl1 i (fun ls2 => K nx ad k n ((i, .ref x) :: ls2) t X) ls) st
theorem snd_astore_n (C : FOK Γ cc Ts own nL rm) {i : Nat} {j : Fin 4} (d : decode cc pc = .ok (.astore_n j, 1)) (hi : (j : Nat) = i) (hn : i < nL) : Snd Γ pc (oAS i (pc + 1)) := by
  obtain ⟨p, l, e, R, s, m, args, below, meth, c, Q, G, A, nL'⟩ := Γ
  obtain ⟨hx, hb, hml, hown, hts, hK, hA, rfl, rfl, hB⟩ := C
  intro K hK' ad k n ls st X ho
  dsimp only [oAS] at ho
  obtain ⟨x, t, rfl, h⟩ := pR_spec ho
  have h := fl1_spec h
  intro H locs la hP hD hS hl
  refine lv_astore_n (lv' := aL ad ((i, .ref x) :: ls.filter (kf1 i))) hx hb d hi hl hn ?_ (fun la' hl' => hK' _ _ _ _ _ _ _ h H locs la' hP hD hS hl')
  show (i, Value.ref (ad x)) :: (aL ad ls).filter (kf1 i) = _
  rw [aL_f1]
  rfl
theorem snd_astore (C : FOK Γ cc Ts own nL rm) {i : Nat} (d : decode cc pc = .ok (.astore i, 2)) (hn : i < nL) : Snd Γ pc (oAS i (pc + 2)) := by
  obtain ⟨p, l, e, R, s, m, args, below, meth, c, Q, G, A, nL'⟩ := Γ
  obtain ⟨hx, hb, hml, hown, hts, hK, hA, rfl, rfl, hB⟩ := C
  intro K hK' ad k n ls st X ho
  dsimp only [oAS] at ho
  obtain ⟨x, t, rfl, h⟩ := pR_spec ho
  have h := fl1_spec h
  intro H locs la hP hD hS hl
  refine lv_astore (lv' := aL ad ((i, .ref x) :: ls.filter (kf1 i))) hx hb d hl hn ?_ (fun la' hl' => hK' _ _ _ _ _ _ _ h H locs la' hP hD hS hl')
  show (i, Value.ref (ad x)) :: (aL ad ls).filter (kf1 i) = _
  rw [aL_f1]
  rfl
def oLS (i nx : Nat) : aO := fun K ad k n ls st X => pL (fun x t => fl2 i (fun ls2 => K nx ad k n ((i, .long x) :: ls2) t X) ls) st
theorem snd_lstore_n (C : FOK Γ cc Ts own nL rm) {i : Nat} {j : Fin 4} (d : decode cc pc = .ok (.lstore_n j, 1)) (hi : (j : Nat) = i) (hn : i + 1 < nL) : Snd Γ pc (oLS i (pc + 1)) := by
  obtain ⟨p, l, e, R, s, m, args, below, meth, c, Q, G, A, nL'⟩ := Γ
  obtain ⟨hx, hb, hml, hown, hts, hK, hA, rfl, rfl, hB⟩ := C
  intro K hK' ad k n ls st X ho
  dsimp only [oLS] at ho
  obtain ⟨x, t, rfl, h⟩ := pL_spec ho
  have h := fl2_spec h
  intro H locs la hP hD hS hl
  refine lv_lstore_n (lv' := aL ad ((i, .long x) :: ls.filter (kf2 i))) hx hb d hi hl hn ?_ (fun la' hl' => hK' _ _ _ _ _ _ _ h H locs la' hP hD hS hl')
  show (i, Value.long x) :: (aL ad ls).filter (kf2 i) = _
  rw [aL_f2]
  rfl
theorem snd_lstore (C : FOK Γ cc Ts own nL rm) {i : Nat} (d : decode cc pc = .ok (.lstore i, 2)) (hn : i + 1 < nL) : Snd Γ pc (oLS i (pc + 2)) := by
  obtain ⟨p, l, e, R, s, m, args, below, meth, c, Q, G, A, nL'⟩ := Γ
  obtain ⟨hx, hb, hml, hown, hts, hK, hA, rfl, rfl, hB⟩ := C
  intro K hK' ad k n ls st X ho
  dsimp only [oLS] at ho
  obtain ⟨x, t, rfl, h⟩ := pL_spec ho
  have h := fl2_spec h
  intro H locs la hP hD hS hl
  refine lv_lstore (lv' := aL ad ((i, .long x) :: ls.filter (kf2 i))) hx hb d hl hn ?_ (fun la' hl' => hK' _ _ _ _ _ _ _ h H locs la' hP hD hS hl')
  show (i, Value.long x) :: (aL ad ls).filter (kf2 i) = _
  rw [aL_f2]
  rfl
def oDS (i nx : Nat) : aO := fun K ad k n ls st X => pD (fun x t => fl2 i (fun ls2 => K nx ad k n ((i, .double x) :: ls2) t X) ls) st
theorem snd_dstore_n (C : FOK Γ cc Ts own nL rm) {i : Nat} {j : Fin 4} (d : decode cc pc = .ok (.dstore_n j, 1)) (hi : (j : Nat) = i) (hn : i + 1 < nL) : Snd Γ pc (oDS i (pc + 1)) := by
  obtain ⟨p, l, e, R, s, m, args, below, meth, c, Q, G, A, nL'⟩ := Γ
  obtain ⟨hx, hb, hml, hown, hts, hK, hA, rfl, rfl, hB⟩ := C
  intro K hK' ad k n ls st X ho
  dsimp only [oDS] at ho
  obtain ⟨x, t, rfl, h⟩ := pD_spec ho
  have h := fl2_spec h
  intro H locs la hP hD hS hl
  refine lv_dstore_n (lv' := aL ad ((i, .double x) :: ls.filter (kf2 i))) hx hb d hi hl hn ?_ (fun la' hl' => hK' _ _ _ _ _ _ _ h H locs la' hP hD hS hl')
  show (i, Value.double x) :: (aL ad ls).filter (kf2 i) = _
  rw [aL_f2]
  rfl
theorem snd_dstore (C : FOK Γ cc Ts own nL rm) {i : Nat} (d : decode cc pc = .ok (.dstore i, 2)) (hn : i + 1 < nL) : Snd Γ pc (oDS i (pc + 2)) := by
  obtain ⟨p, l, e, R, s, m, args, below, meth, c, Q, G, A, nL'⟩ := Γ
  obtain ⟨hx, hb, hml, hown, hts, hK, hA, rfl, rfl, hB⟩ := C
  intro K hK' ad k n ls st X ho
  dsimp only [oDS] at ho
  obtain ⟨x, t, rfl, h⟩ := pD_spec ho
  have h := fl2_spec h
  intro H locs la hP hD hS hl
  refine lv_dstore (lv' := aL ad ((i, .double x) :: ls.filter (kf2 i))) hx hb d hl hn ?_ (fun la' hl' => hK' _ _ _ _ _ _ _ h H locs la' hP hD hS hl')
  show (i, Value.double x) :: (aL ad ls).filter (kf2 i) = _
  rw [aL_f2]
  rfl
def oInc (i : Nat) (z : Int32) (nx : Nat) : aO := fun K ad k n ls st X => gl i (vI fun x => fl1 i (fun ls2 => K nx ad k n ((i, .int (x + z)) :: ls2) st X) ls) ls
theorem snd_iinc (C : FOK Γ cc Ts own nL rm) {i : Nat} {z : Int} {w : Int32} (d : decode cc pc = .ok (.iinc i z, 3)) (hw : Int32.ofInt z = w) (hn : i < nL) : Snd Γ pc (oInc i w (pc + 3)) := by
  obtain ⟨p, l, e, R, s, m, args, below, meth, c, Q, G, A, nL'⟩ := Γ
  obtain ⟨hx, hb, hml, hown, hts, hK, hA, rfl, rfl, hB⟩ := C
  intro K hK' ad k n ls st X ho
  dsimp only [oInc] at ho
  subst hw
  obtain ⟨q, v, h1, h2⟩ := gl_spec ho
  obtain ⟨x, rfl, h2⟩ := vI_spec h2
  have h := fl1_spec h2
  intro H locs la hP hD hS hl
  refine lv_iinc (v := x + Int32.ofInt z) (lv' := aL ad ((i, .int (x + Int32.ofInt z)) :: ls.filter (kf1 i))) hx hb d hl (aL_get ad h1) rfl hn ?_ (fun la' hl' => hK' _ _ _ _ _ _ _ h H locs la' hP hD hS hl')
  show (i, Value.int (x + Int32.ofInt z)) :: (aL ad ls).filter (kf1 i) = _
  rw [aL_f1]
  rfl
def oIadd (nx : Nat) : aO := fun K ad k n ls st X => pI (fun b t => pI (fun a t2 => K nx ad k n ls (.int (a + b) :: t2) X) t) st
theorem snd_iadd (C : FOK Γ cc Ts own nL rm) (d : decode cc pc = .ok (.iadd, 1)) : Snd Γ pc (oIadd (pc + 1)) := by
  obtain ⟨p, l, e, R, s, m, args, below, meth, c, Q, G, A, nL'⟩ := Γ
  obtain ⟨hx, hb, hml, hown, hts, hK, hA, rfl, rfl, hB⟩ := C
  intro K hK' ad k n ls st X ho
  dsimp only [oIadd] at ho
  obtain ⟨b, t, rfl, h⟩ := pI_spec ho
  obtain ⟨a, t2, rfl, h⟩ := pI_spec h
  intro H locs la hP hD hS hl
  exact lv_iadd hx hb d (hK' _ _ _ _ _ _ _ h H locs la hP hD hS hl)
def oIsub (nx : Nat) : aO := fun K ad k n ls st X => pI (fun b t => pI (fun a t2 => K nx ad k n ls (.int (a - b) :: t2) X) t) st
theorem snd_isub (C : FOK Γ cc Ts own nL rm) (d : decode cc pc = .ok (.isub, 1)) : Snd Γ pc (oIsub (pc + 1)) := by
  obtain ⟨p, l, e, R, s, m, args, below, meth, c, Q, G, A, nL'⟩ := Γ
  obtain ⟨hx, hb, hml, hown, hts, hK, hA, rfl, rfl, hB⟩ := C
  intro K hK' ad k n ls st X ho
  dsimp only [oIsub] at ho
  obtain ⟨b, t, rfl, h⟩ := pI_spec ho
  obtain ⟨a, t2, rfl, h⟩ := pI_spec h
  intro H locs la hP hD hS hl
  exact lv_isub hx hb d (hK' _ _ _ _ _ _ _ h H locs la hP hD hS hl)
def oImul (nx : Nat) : aO := fun K ad k n ls st X => pI (fun b t => pI (fun a t2 => K nx ad k n ls (.int (a * b) :: t2) X) t) st
theorem snd_imul (C : FOK Γ cc Ts own nL rm) (d : decode cc pc = .ok (.imul, 1)) : Snd Γ pc (oImul (pc + 1)) := by
  obtain ⟨p, l, e, R, s, m, args, below, meth, c, Q, G, A, nL'⟩ := Γ
  obtain ⟨hx, hb, hml, hown, hts, hK, hA, rfl, rfl, hB⟩ := C
  intro K hK' ad k n ls st X ho
  dsimp only [oImul] at ho
  obtain ⟨b, t, rfl, h⟩ := pI_spec ho
  obtain ⟨a, t2, rfl, h⟩ := pI_spec h
  intro H locs la hP hD hS hl
  exact lv_imul hx hb d (hK' _ _ _ _ _ _ _ h H locs la hP hD hS hl)
def oIand (nx : Nat) : aO := fun K ad k n ls st X => pI (fun b t => pI (fun a t2 => K nx ad k n ls (.int (a &&& b) :: t2) X) t) st
theorem snd_iand (C : FOK Γ cc Ts own nL rm) (d : decode cc pc = .ok (.iand, 1)) : Snd Γ pc (oIand (pc + 1)) := by
  obtain ⟨p, l, e, R, s, m, args, below, meth, c, Q, G, A, nL'⟩ := Γ
  obtain ⟨hx, hb, hml, hown, hts, hK, hA, rfl, rfl, hB⟩ := C
  intro K hK' ad k n ls st X ho
  dsimp only [oIand] at ho
  obtain ⟨b, t, rfl, h⟩ := pI_spec ho
  obtain ⟨a, t2, rfl, h⟩ := pI_spec h
  intro H locs la hP hD hS hl
  exact lv_iand hx hb d (hK' _ _ _ _ _ _ _ h H locs la hP hD hS hl)
def oIdiv (nx : Nat) : aO := fun K ad k n ls st X => pI (fun b t => pI (fun a t2 => ¬ b = 0 ∧ K nx ad k n ls (.int (a / b) :: t2) X) t) st
theorem snd_idiv (C : FOK Γ cc Ts own nL rm) (d : decode cc pc = .ok (.idiv, 1)) : Snd Γ pc (oIdiv (pc + 1)) := by
  obtain ⟨p, l, e, R, s, m, args, below, meth, c, Q, G, A, nL'⟩ := Γ
  obtain ⟨hx, hb, hml, hown, hts, hK, hA, rfl, rfl, hB⟩ := C
  intro K hK' ad k n ls st X ho
  dsimp only [oIdiv] at ho
  obtain ⟨b, t, rfl, h⟩ := pI_spec ho
  obtain ⟨a, t2, rfl, hne, h⟩ := pI_spec h
  intro H locs la hP hD hS hl
  exact lv_idiv hx hb d hne (hK' _ _ _ _ _ _ _ h H locs la hP hD hS hl)
def oIrem (nx : Nat) : aO := fun K ad k n ls st X => pI (fun b t => pI (fun a t2 => ¬ b = 0 ∧ K nx ad k n ls (.int (a - a / b * b) :: t2) X) t) st
theorem snd_irem (C : FOK Γ cc Ts own nL rm) (d : decode cc pc = .ok (.irem, 1)) : Snd Γ pc (oIrem (pc + 1)) := by
  obtain ⟨p, l, e, R, s, m, args, below, meth, c, Q, G, A, nL'⟩ := Γ
  obtain ⟨hx, hb, hml, hown, hts, hK, hA, rfl, rfl, hB⟩ := C
  intro K hK' ad k n ls st X ho
  dsimp only [oIrem] at ho
  obtain ⟨b, t, rfl, h⟩ := pI_spec ho
  obtain ⟨a, t2, rfl, hne, h⟩ := pI_spec h
  intro H locs la hP hD hS hl
  exact lv_irem hx hb d hne (hK' _ _ _ _ _ _ _ h H locs la hP hD hS hl)
def oIneg (nx : Nat) : aO := fun K ad k n ls st X => pI (fun b t => K nx ad k n ls (.int (-b) :: t) X) st
theorem snd_ineg (C : FOK Γ cc Ts own nL rm) (d : decode cc pc = .ok (.ineg, 1)) : Snd Γ pc (oIneg (pc + 1)) := by
  obtain ⟨p, l, e, R, s, m, args, below, meth, c, Q, G, A, nL'⟩ := Γ
  obtain ⟨hx, hb, hml, hown, hts, hK, hA, rfl, rfl, hB⟩ := C
  intro K hK' ad k n ls st X ho
  dsimp only [oIneg] at ho
  obtain ⟨b, t, rfl, h⟩ := pI_spec ho
  intro H locs la hP hD hS hl
  exact lv_ineg hx hb d (hK' _ _ _ _ _ _ _ h H locs la hP hD hS hl)
def oI2l (nx : Nat) : aO := fun K ad k n ls st X => pI (fun b t => K nx ad k n ls (.long b.toInt64 :: t) X) st
theorem snd_i2l (C : FOK Γ cc Ts own nL rm) (d : decode cc pc = .ok (.i2l, 1)) : Snd Γ pc (oI2l (pc + 1)) := by
  obtain ⟨p, l, e, R, s, m, args, below, meth, c, Q, G, A, nL'⟩ := Γ
  obtain ⟨hx, hb, hml, hown, hts, hK, hA, rfl, rfl, hB⟩ := C
  intro K hK' ad k n ls st X ho
  dsimp only [oI2l] at ho
  obtain ⟨b, t, rfl, h⟩ := pI_spec ho
  intro H locs la hP hD hS hl
  exact lv_i2l hx hb d rfl (hK' _ _ _ _ _ _ _ h H locs la hP hD hS hl)
def oLadd (nx : Nat) : aO := fun K ad k n ls st X => pL (fun b t => pL (fun a t2 => K nx ad k n ls (.long (a + b) :: t2) X) t) st
theorem snd_ladd (C : FOK Γ cc Ts own nL rm) (d : decode cc pc = .ok (.ladd, 1)) : Snd Γ pc (oLadd (pc + 1)) := by
  obtain ⟨p, l, e, R, s, m, args, below, meth, c, Q, G, A, nL'⟩ := Γ
  obtain ⟨hx, hb, hml, hown, hts, hK, hA, rfl, rfl, hB⟩ := C
  intro K hK' ad k n ls st X ho
  dsimp only [oLadd] at ho
  obtain ⟨b, t, rfl, h⟩ := pL_spec ho
  obtain ⟨a, t2, rfl, h⟩ := pL_spec h
  intro H locs la hP hD hS hl
  exact lv_ladd hx hb d (hK' _ _ _ _ _ _ _ h H locs la hP hD hS hl)
def oLmul (nx : Nat) : aO := fun K ad k n ls st X => pL (fun b t => pL (fun a t2 => K nx ad k n ls (.long (a * b) :: t2) X) t) st
theorem snd_lmul (C : FOK Γ cc Ts own nL rm) (d : decode cc pc = .ok (.lmul, 1)) : Snd Γ pc (oLmul (pc + 1)) := by
  obtain ⟨p, l, e, R, s, m, args, below, meth, c, Q, G, A, nL'⟩ := Γ
  obtain ⟨hx, hb, hml, hown, hts, hK, hA, rfl, rfl, hB⟩ := C
  intro K hK' ad k n ls st X ho
  dsimp only [oLmul] at ho
  obtain ⟨b, t, rfl, h⟩ := pL_spec ho
  obtain ⟨a, t2, rfl, h⟩ := pL_spec h
  intro H locs la hP hD hS hl
  exact lv_lmul hx hb d (hK' _ _ _ _ _ _ _ h H locs la hP hD hS hl)
def oLcmp (nx : Nat) : aO := fun K ad k n ls st X => pL (fun b t => pL (fun a t2 => K nx ad k n ls (.int (lg_cmp a b) :: t2) X) t) st
theorem snd_lcmp (C : FOK Γ cc Ts own nL rm) (d : decode cc pc = .ok (.lcmp, 1)) : Snd Γ pc (oLcmp (pc + 1)) := by
  obtain ⟨p, l, e, R, s, m, args, below, meth, c, Q, G, A, nL'⟩ := Γ
  obtain ⟨hx, hb, hml, hown, hts, hK, hA, rfl, rfl, hB⟩ := C
  intro K hK' ad k n ls st X ho
  dsimp only [oLcmp] at ho
  obtain ⟨b, t, rfl, h⟩ := pL_spec ho
  obtain ⟨a, t2, rfl, h⟩ := pL_spec h
  intro H locs la hP hD hS hl
  exact W.lcmp hx hb d (hK' _ _ _ _ _ _ _ h H locs la hP hD hS hl)
def oI2d (nx : Nat) : aO := fun K ad k n ls st X => pI (fun b t => K nx ad k n ls (.double (FP.i2d b) :: t) X) st
theorem snd_i2d (C : FOK Γ cc Ts own nL rm) (d : decode cc pc = .ok (.i2d, 1)) : Snd Γ pc (oI2d (pc + 1)) := by
  obtain ⟨p, l, e, R, s, m, args, below, meth, c, Q, G, A, nL'⟩ := Γ
  obtain ⟨hx, hb, hml, hown, hts, hK, hA, rfl, rfl, hB⟩ := C
  intro K hK' ad k n ls st X ho
  dsimp only [oI2d] at ho
  obtain ⟨b, t, rfl, h⟩ := pI_spec ho
  intro H locs la hP hD hS hl
  exact lv_i2d hx hb d (hK' _ _ _ _ _ _ _ h H locs la hP hD hS hl)
def oDdiv (nx : Nat) : aO := fun K ad k n ls st X => pD (fun b t => pD (fun a t2 => vf_n64 (FP.ddiv a b) ∧ K nx ad k n ls (.double (FP.ddiv a b) :: t2) X) t) st
theorem snd_ddiv (C : FOK Γ cc Ts own nL rm) (d : decode cc pc = .ok (.ddiv, 1)) : Snd Γ pc (oDdiv (pc + 1)) := by
  obtain ⟨p, l, e, R, s, m, args, below, meth, c, Q, G, A, nL'⟩ := Γ
  obtain ⟨hx, hb, hml, hown, hts, hK, hA, rfl, rfl, hB⟩ := C
  intro K hK' ad k n ls st X ho
  dsimp only [oDdiv] at ho
  obtain ⟨b, t, rfl, h⟩ := pD_spec ho
  obtain ⟨a, t2, rfl, hn, h⟩ := pD_spec h
  intro H locs la hP hD hS hl
  exact lv_ddiv hx hb d hn (hK' _ _ _ _ _ _ _ h H locs la hP hD hS hl)
def oDcmp (o : CmpOp) (nx : Nat) : aO := fun K ad k n ls st X => pD (fun b t => pD (fun a t2 => K nx ad k n ls (.int (Op.cmpValue (FP.dcmp a b) o) :: t2) X) t) st
theorem snd_dcmp (C : FOK Γ cc Ts own nL rm) {o : CmpOp} (d : decode cc pc = .ok (.dcmp o, 1)) : Snd Γ pc (oDcmp o (pc + 1)) := by
  obtain ⟨p, l, e, R, s, m, args, below, meth, c, Q, G, A, nL'⟩ := Γ
  obtain ⟨hx, hb, hml, hown, hts, hK, hA, rfl, rfl, hB⟩ := C
  intro K hK' ad k n ls st X ho
  dsimp only [oDcmp] at ho
  obtain ⟨b, t, rfl, h⟩ := pD_spec ho
  obtain ⟨a, t2, rfl, h⟩ := pD_spec h
  intro H locs la hP hD hS hl
  exact lv_dcmp hx hb d (hK' _ _ _ _ _ _ _ h H locs la hP hD hS hl)
def oIf_eq (tg nx : Nat) : aO := fun K ad k n ls st X => pI (fun x t => (x = 0 → K tg ad k n ls t X) ∧ (¬ x = 0 → K nx ad k n ls t X)) st
theorem snd_if_eq (C : FOK Γ cc Ts own nL rm) {off : Int} {tg : Nat} (d : decode cc pc = .ok (.ifCond .eq off, 3)) (ht : (pc : Int) + off = (tg : Int)) : Snd Γ pc (oIf_eq tg (pc + 3)) := by
  obtain ⟨p, l, e, R, s, m, args, below, meth, c, Q, G, A, nL'⟩ := Γ
  obtain ⟨hx, hb, hml, hown, hts, hK, hA, rfl, rfl, hB⟩ := C
  intro K hK' ad k n ls st X ho
  dsimp only [oIf_eq] at ho
  obtain ⟨x, t, rfl, h1, h2⟩ := pI_spec ho
  intro H locs la hP hD hS hl
  exact lv_if_eq hx hb d ht (fun q => hK' _ _ _ _ _ _ _ (h1 q) H locs la hP hD hS hl) (fun q => hK' _ _ _ _ _ _ _ (h2 q) H locs la hP hD hS hl)
def oIf_ne (tg nx : Nat) : aO := fun K ad k n ls st X => pI (fun x t => (¬ x = 0 → K tg ad k n ls t X) ∧ (x = 0 → K nx ad k n ls t X)) st
theorem snd_if_ne (C : FOK Γ cc Ts own nL rm) {off : Int} {tg : Nat} (d : decode cc pc = .ok (.ifCond .ne off, 3)) (ht : (pc : Int) + off = (tg : Int)) : Snd Γ pc (oIf_ne tg (pc + 3)) := by
  obtain ⟨p, l, e, R, s, m, args, below, meth, c, Q, G, A, nL'⟩ := Γ
  obtain ⟨hx, hb, hml, hown, hts, hK, hA, rfl, rfl, hB⟩ := C
  intro K hK' ad k n ls st X ho
  dsimp only [oIf_ne] at ho
  obtain ⟨x, t, rfl, h1, h2⟩ := pI_spec ho
  intro H locs la hP hD hS hl
  exact lv_if_ne hx hb d ht (fun q => hK' _ _ _ _ _ _ _ (h1 q) H locs la hP hD hS hl) (fun q => hK' _ _ _ _ _ _ _ (h2 q) H locs la hP hD hS hl)
def oIf_lt (tg nx : Nat) : aO := fun K ad k n ls st X => pI (fun x t => (x < 0 → K tg ad k n ls t X) ∧ (¬ x < 0 → K nx ad k n ls t X)) st
theorem snd_if_lt (C : FOK Γ cc Ts own nL rm) {off : Int} {tg : Nat} (d : decode cc pc = .ok (.ifCond .lt off, 3)) (ht : (pc : Int) + off = (tg : Int)) : Snd Γ pc (oIf_lt tg (pc + 3)) := by
  obtain ⟨p, l, e, R, s, m, args, below, meth, c, Q, G, A, nL'⟩ := Γ
  obtain ⟨hx, hb, hml, hown, hts, hK, hA, rfl, rfl, hB⟩ := C
  intro K hK' ad k n ls st X ho
  dsimp only [oIf_lt] at ho
  obtain ⟨x, t, rfl, h1, h2⟩ := pI_spec ho
  intro H locs la hP hD hS hl
  exact lv_if_lt hx hb d ht (fun q => hK' _ _ _ _ _ _ _ (h1 q) H locs la hP hD hS hl) (fun q => hK' _ _ _ _ _ _ _ (h2 q) H locs la hP hD hS hl)
def oIf_ge (tg nx : Nat) : aO := fun K ad k n ls st X => pI (fun x t => (0 ≤ x → K tg ad k n ls t X) ∧ (¬ 0 ≤ x → K nx ad k n ls t X)) st
theorem snd_if_ge (C : FOK Γ cc Ts own nL rm) {off : Int} {tg : Nat} (d : decode cc pc = .ok (.ifCond .ge off, 3)) (ht : (pc : Int) + off = (tg : Int)) : Snd Γ pc (oIf_ge tg (pc + 3)) := by
  obtain ⟨p, l, e, R, s, m, args, below, meth, c, Q, G, A, nL'⟩ := Γ
  obtain ⟨hx, hb, hml, hown, hts, hK, hA, rfl, rfl, hB⟩ := C
  intro K hK' ad k n ls st X ho
  dsimp only [oIf_ge] at ho
  obtain ⟨x, t, rfl, h1, h2⟩ := pI_spec ho
  intro H locs la hP hD hS hl
  exact lv_if_ge hx hb d ht (fun q => hK' _ _ _ _ _ _ _ (h1 q) H locs la hP hD hS hl) (fun q => hK' _ _ _ _ _ _ _ (h2 q) H locs la hP hD hS hl)
def oIf_gt (tg nx : Nat) : aO := fun K ad k n ls st X => pI (fun x t => (0 < x → K tg ad k n ls t X) ∧ (¬ 0 < x → K nx ad k n ls t X)) st
theorem snd_if_gt (C : FOK Γ cc Ts own nL rm) {off : Int} {tg : Nat} (d : decode cc pc = .ok (.ifCond .gt off, 3)) (ht : (pc : Int) + off = (tg : Int)) : Snd Γ pc (oIf_gt tg (pc + 3)) := by
  obtain ⟨p, l, e, R, s, m, args, below, meth, c, Q, G, A, nL'⟩ := Γ
  obtain ⟨hx, hb, hml, hown, hts, hK, hA, rfl, rfl, hB⟩ := C
  intro K hK' ad k n ls st X ho
  dsimp only [oIf_gt] at ho
  obtain ⟨x, t, rfl, h1, h2⟩ := pI_spec ho
  intro H locs la hP hD hS hl
  exact lv_if_gt hx hb d ht (fun q => hK' _ _ _ _ _ _ _ (h1 q) H locs la hP hD hS hl) (fun q => hK' _ _ _ _ _ _ _ (h2 q) H locs la hP hD hS hl)
def oIf_le (tg nx : Nat) : aO := fun K ad k n ls st X => pI (fun x t => (x ≤ 0 → K tg ad k n ls t X) ∧ (¬ x ≤ 0 → K nx ad k n ls t X)) st
theorem snd_if_le (C : FOK Γ cc Ts own nL rm) {off : Int} {tg : Nat} (d : decode cc pc = .ok (.ifCond .le off, 3)) (ht : (pc : Int) + off = (tg : Int)) : Snd Γ pc (oIf_le tg (pc + 3)) := by
  obtain ⟨p, l, e, R, s, m, args, below, meth, c, Q, G, A, nL'⟩ := Γ
  obtain ⟨hx, hb, hml, hown, hts, hK, hA, rfl, rfl, hB⟩ := C
  intro K hK' ad k n ls st X ho
  dsimp only [oIf_le] at ho
  obtain ⟨x, t, rfl, h1, h2⟩ := pI_spec ho
  intro H locs la hP hD hS hl
  exact lv_if_le hx hb d ht (fun q => hK' _ _ _ _ _ _ _ (h1 q) H locs la hP hD hS hl) (fun q => hK' _ _ _ _ _ _ _ (h2 q) H locs la hP hD hS hl)
def oIc_eq (tg nx : Nat) : aO := fun K ad k n ls st X => pI (fun y t => pI (fun x t2 => (x = y → K tg ad k n ls t2 X) ∧ (¬ x = y → K nx ad k n ls t2 X)) t) st
theorem snd_icmp_eq (C : FOK Γ cc Ts own nL rm) {off : Int} {tg : Nat} (d : decode cc pc = .ok (.if_icmp .eq off, 3)) (ht : (pc : Int) + off = (tg : Int)) : Snd Γ pc (oIc_eq tg (pc + 3)) := by
  obtain ⟨p, l, e, R, s, m, args, below, meth, c, Q, G, A, nL'⟩ := Γ
  obtain ⟨hx, hb, hml, hown, hts, hK, hA, rfl, rfl, hB⟩ := C
  intro K hK' ad k n ls st X ho
  dsimp only [oIc_eq] at ho
  obtain ⟨y, t, rfl, h⟩ := pI_spec ho
  obtain ⟨x, t2, rfl, h1, h2⟩ := pI_spec h
  intro H locs la hP hD hS hl
  exact lv_icmp_eq hx hb d ht (fun q => hK' _ _ _ _ _ _ _ (h1 q) H locs la hP hD hS hl) (fun q => hK' _ _ _ _ _ _ _ (h2 q) H locs la hP hD hS hl)
def oIc_ne (tg nx : Nat) : aO := fun K ad k n ls st X => pI (fun y t => pI (fun x t2 => (¬ x = y → K tg ad k n ls t2 X) ∧ (x = y → K nx ad k n ls t2 X)) t) st
theorem snd_icmp_ne (C : FOK Γ cc Ts own nL rm) {off : Int} {tg : Nat} (d : decode cc pc = .ok (.if_icmp .ne off, 3)) (ht : (pc : Int) + off = (tg : Int)) : Snd Γ pc (oIc_ne tg (pc + 3)) := by
  obtain ⟨p, l, e, R, s, m, args, below, meth, c, Q, G, A, nL'⟩ := Γ
  obtain ⟨hx, hb, hml, hown, hts, hK, hA, rfl, rfl, hB⟩ := C
  intro K hK' ad k n ls st X ho
  dsimp only [oIc_ne] at ho
  obtain ⟨y, t, rfl, h⟩ := pI_spec ho
  obtain ⟨x, t2, rfl, h1, h2⟩ := pI_spec h
  intro H locs la hP hD hS hl
  exact lv_icmp_ne hx hb d ht (fun q => hK' _ _ _ _ _ _ _ (h1 q) H locs la hP hD hS hl) (fun q => hK' _ _ _ _ _ _ _ (h2 q) H locs la hP hD hS hl)
def oIc_lt (tg nx : Nat) : aO := fun K ad k n ls st X => pI (fun y t => pI (fun x t2 => (x < y → K tg ad k n ls t2 X) ∧ (¬ x < y → K nx ad k n ls t2 X)) t) st
theorem snd_icmp_lt (C : FOK Γ cc Ts own nL rm) {off : Int} {tg : Nat} (d : decode cc pc = .ok (.if_icmp .lt off, 3)) (ht : (pc : Int) + off = (tg : Int)) : Snd Γ pc (oIc_lt tg (pc + 3)) := by
  obtain ⟨p, l, e, R, s, m, args, below, meth, c, Q, G, A, nL'⟩ := Γ
  obtain ⟨hx, hb, hml, hown, hts, hK, hA, rfl, rfl, hB⟩ := C
  intro K hK' ad k n ls st X ho
  dsimp only [oIc_lt] at ho
  obtain ⟨y, t, rfl, h⟩ := pI_spec ho
  obtain ⟨x, t2, rfl, h1, h2⟩ := pI_spec h
  intro H locs la hP hD hS hl
  exact lv_icmp_lt hx hb d ht (fun q => hK' _ _ _ _ _ _ _ (h1 q) H locs la hP hD hS hl) (fun q => hK' _ _ _ _ _ _ _ (h2 q) H locs la hP hD hS hl)
def oIc_ge (tg nx : Nat) : aO := fun K ad k n ls st X => pI (fun y t => pI (fun x t2 => (y ≤ x → K tg ad k n ls t2 X) ∧ (¬ y ≤ x → K nx ad k n ls t2 X)) t) st
theorem snd_icmp_ge (C : FOK Γ cc Ts own nL rm) {off : Int} {tg : Nat} (d : decode cc pc = .ok (.if_icmp .ge off, 3)) (ht : (pc : Int) + off = (tg : Int)) : Snd Γ pc (oIc_ge tg (pc + 3)) := by
  obtain ⟨p, l, e, R, s, m, args, below, meth, c, Q, G, A, nL'⟩ := Γ
  obtain ⟨hx, hb, hml, hown, hts, hK, hA, rfl, rfl, hB⟩ := C
  intro K hK' ad k n ls st X ho
  dsimp only [oIc_ge] at ho
  obtain ⟨y, t, rfl, h⟩ := pI_spec ho
  obtain ⟨x, t2, rfl, h1, h2⟩ := pI_spec h
  intro H locs la hP hD hS hl
  exact lv_icmp_ge hx hb d ht (fun q => hK' _ _ _ _ _ _ _ (h1 q) H locs la hP hD hS hl) (fun q => hK' _ _ _ _ _ _ _ (h2 q) H locs la hP hD hS hl)
def oIc_gt (tg nx : Nat) : aO := fun K ad k n ls st X => pI (fun y t => pI (fun x t2 => (y < x → K tg ad k n ls t2 X) ∧ (¬ y < x → K nx ad k n ls t2 X)) t) st
theorem snd_icmp_gt (C : FOK Γ cc Ts own nL rm) {off : Int} {tg : Nat} (d : decode cc pc = .ok (.if_icmp .gt off, 3)) (ht : (pc : Int) + off = (tg : Int)) : Snd Γ pc (oIc_gt tg (pc + 3)) := by
  obtain ⟨p, l, e, R, s, m, args, below, meth, c, Q, G, A, nL'⟩ := Γ
  obtain ⟨hx, hb, hml, hown, hts, hK, hA, rfl, rfl, hB⟩ := C
  intro K hK' ad k n ls st X ho
  dsimp only [oIc_gt] at ho
  obtain ⟨y, t, rfl, h⟩ := pI_spec ho
  obtain ⟨x, t2, rfl, h1, h2⟩ := pI_spec h
  intro H locs la hP hD hS hl
  exact lv_icmp_gt hx hb d ht (fun q => hK' _ _ _ _ _ _ _ (h1 q) H locs la hP hD hS hl) (fun q => hK' _ _ _ _ _ _ _ (h2 q) H locs la hP hD hS hl)
def oIc_le (tg nx : Nat) : aO := fun K ad k n ls st X => pI (fun y t => pI (fun x t2 => (x ≤ y → K tg ad k n ls t2 X) ∧ (¬ x ≤ y → K nx ad k n ls t2 X)) t) st
theorem snd_icmp_le (C : FOK Γ cc Ts own nL rm) {off : Int} {tg : Nat} (d : decode cc pc = .ok (.if_icmp .le off, 3)) (ht : (pc : Int) + off = (tg : Int)) : Snd Γ pc (oIc_le tg (pc + 3)) := by
  obtain ⟨p, l, e, R, s, m, args, below, meth, c, Q, G, A, nL'⟩ := Γ
  obtain ⟨hx, hb, hml, hown, hts, hK, hA, rfl, rfl, hB⟩ := C
  intro K hK' ad k n ls st X ho
  dsimp only [oIc_le] at ho
  obtain ⟨y, t, rfl, h⟩ := pI_spec ho
  obtain ⟨x, t2, rfl, h1, h2⟩ := pI_spec h
  intro H locs la hP hD hS hl
  exact lv_icmp_le hx hb d ht (fun q => hK' _ _ _ _ _ _ _ (h1 q) H locs la hP hD hS hl) (fun q => hK' _ _ _ _ _ _ _ (h2 q) H locs la hP hD hS hl)
def oGo (tg : Nat) : aO := fun K ad k n ls st X => K tg ad k n ls st X
theorem snd_goto (C : FOK Γ cc Ts own nL rm) {off : Int} {tg : Nat} (d : decode cc pc = .ok (.goto off, 3)) (ht : (pc : Int) + off = (tg : Int)) : Snd Γ pc (oGo tg) := by
  obtain ⟨p, l, e, R, s, m, args, below, meth, c, Q, G, A, nL'⟩ := Γ
  obtain ⟨hx, hb, hml, hown, hts, hK, hA, rfl, rfl, hB⟩ := C
  intro K hK' ad k n ls st X ho
  dsimp only [oGo] at ho
  intro H locs la hP hD hS hl
  exact lv_goto hx hb d ht (hK' _ _ _ _ _ _ _ ho H locs la hP hD hS hl)
def oDup (nx : Nat) : aO := fun K ad k n ls st X => pV (fun v t => ck (Nat.beq v.category 1) (K nx ad k n ls (v :: v :: t) X)) st
theorem snd_dup (C : FOK Γ cc Ts own nL rm) (d : decode cc pc = .ok (.dup, 1)) : Snd Γ pc (oDup (pc + 1)) := by
  obtain ⟨p, l, e, R, s, m, args, below, meth, c, Q, G, A, nL'⟩ := Γ
  obtain ⟨hx, hb, hml, hown, hts, hK, hA, rfl, rfl, hB⟩ := C
  intro K hK' ad k n ls st X ho
  dsimp only [oDup] at ho
  obtain ⟨v, t, rfl, h⟩ := pV_spec ho
  obtain ⟨hc, h⟩ := ck_spec h
  intro H locs la hP hD hS hl
  exact lv_dup hx hb d ((aV_cat ad v).trans (Nat.eq_of_beq_eq_true hc)) (hK' _ _ _ _ _ _ _ h H locs la hP hD hS hl)
def oDup2 (nx : Nat) : aO := fun K ad k n ls st X => pV (fun v t => pV (fun w t2 => ck (Nat.beq v.category 1) (ck (Nat.beq w.category 1) (K nx ad k n ls (v :: w :: v :: w :: t2) X))) t) st
theorem snd_dup2 (C : FOK Γ cc Ts own nL rm) (d : decode cc pc = .ok (.dup2, 1)) : Snd Γ pc (oDup2 (pc + 1)) := by
  obtain ⟨p, l, e, R, s, m, args, below, meth, c, Q, G, A, nL'⟩ := Γ
  obtain ⟨hx, hb, hml, hown, hts, hK, hA, rfl, rfl, hB⟩ := C
  intro K hK' ad k n ls st X ho
  dsimp only [oDup2] at ho
  obtain ⟨v, t, rfl, h⟩ := pV_spec ho
  obtain ⟨w, t2, rfl, h⟩ := pV_spec h
  obtain ⟨hc, h⟩ := ck_spec h
  obtain ⟨hc2, h⟩ := ck_spec h
  intro H locs la hP hD hS hl
  exact lv_dup2_11 hx hb d ((aV_cat ad v).trans (Nat.eq_of_beq_eq_true hc)) ((aV_cat ad w).trans (Nat.eq_of_beq_eq_true hc2)) (hK' _ _ _ _ _ _ _ h H locs la hP hD hS hl)
def oGet (ci kf nx : Nat) : aO := fun K ad k n ls st X => pR (fun q t => gx q (eO ci fun fs => gx kf (fun v => K nx ad k n ls (v :: t) X) fs) X) st
theorem snd_get (C : FOK Γ cc Ts own nL rm) {ci kf index N : Nat} {ref Cn : String} {T : u_T} (d : decode cc pc = .ok (.getfield index, 3)) (hc : vwCl[ci]? = some (Cn, T, N)) (hk : kf < N) (hin : ∀ w ∈ u_ws Cn T N, w ∈ Ts) (href : ref = (T kf).1) (hw : Cond.fieldLink own index ref (T kf).2.1 (T kf).2.2.1 ∈ Ts) : Snd Γ pc (oGet ci kf (pc + 3)) := by
  obtain ⟨p, l, e, R, s, m, args, below, meth, c, Q, G, A, nL'⟩ := Γ
  obtain ⟨hx, hb, hml, hown, hts, hK, hA, rfl, rfl, hB⟩ := C
  intro K hK' ad k n ls st X ho
  dsimp only [oGet] at ho
  obtain ⟨q, t, rfl, h⟩ := pR_spec ho
  obtain ⟨e0, h1, h⟩ := gx_spec h
  obtain ⟨fs, he9, h9⟩ := eO_spec h
  subst he9
  clear h
  have h := h9
  obtain ⟨v, h2, h⟩ := gx_spec h
  subst href
  intro H locs la hP hD hS hl
  have hq := aX_get G ad X 0 q _ h1
  rw [Nat.zero_add] at hq
  exact va_get hx hb hts hin hown hK hP q hq hc kf hk (hts _ hw) (fun _ h9 => h9) (aS_get ad h2) d (hK' _ _ _ _ _ _ _ h H locs la hP hD hS hl)
theorem snd_getN (C : FOK Γ cc Ts own nL rm) {ci kf index N : Nat} {ref Cn : String} {T : u_T} (d : decode cc pc = .ok (.getfield index, 3)) (hc : vwCl[ci]? = some (Cn, T, N)) (hk : kf < N) (hin : ∀ w ∈ u_ws Cn T N, w ∈ Ts) (href : ref = (T kf).1) (hI : (T kf).2.2.1 = "I") (hown9 : own = "PaintedDie") (hw : (index, ref, (T kf).2.1) ∈ aNf) : Snd Γ pc (oGet ci kf (pc + 3)) := by
  obtain ⟨p, l, e, R, s, m, args, below, meth, c, Q, G, A, nL'⟩ := Γ
  obtain ⟨hx, hb, hml, hown, hts, hK, hA, rfl, rfl, hB⟩ := C
  intro K hK' ad k n ls st X ho
  dsimp only [oGet] at ho
  obtain ⟨q, t, rfl, h⟩ := pR_spec ho
  obtain ⟨e0, h1, h⟩ := gx_spec h
  obtain ⟨fs, he9, h9⟩ := eO_spec h
  subst he9
  clear h
  have h := h9
  obtain ⟨v, h2, h⟩ := gx_spec h
  subst href
  intro H locs la hP hD hS hl
  have hq := aX_get G ad X 0 q _ h1
  rw [Nat.zero_add] at hq
  have hN := (hB.1.1 _ hw).use (A := args) rfl
  dsimp only at hN
  rw [← hI, ← hown9] at hN
  exact va_getN hx hb hts hin hown hK hP q hq hc kf hk hN (fun _ h9 => h9) (aS_get ad h2) d (hK' _ _ _ _ _ _ _ h H locs la hP hD hS hl)
def oPut (ci kf nx : Nat) : aO := fun K ad k n ls st X => pI (fun x t => pR (fun q t2 => gx q (eO ci fun fs => sx kf (.int x) (fun fs2 => sx q (.inr (.inl (ci, fs2))) (fun X2 => K nx ad k n ls t2 X2) X) fs) X) t) st
theorem snd_put (C : FOK Γ cc Ts own nL rm) {ci kf index N : Nat} {ref Cn : String} {T : u_T} {ty0 : Nat → FieldType} (d : decode cc pc = .ok (.putfield index, 3)) (hc : vwCl[ci]? = some (Cn, T, N)) (hk : kf < N) (hin : ∀ w ∈ u_ws Cn T N, w ∈ Ts) (hty : ∀ k, k < N → parseFieldDescriptor (T k).2.2.1 = some (ty0 k)) (hnm : ∀ a, a < N → ∀ b, b < N → a ≠ b → (T a).2.1 ≠ (T b).2.1) (hfin : (T kf).2.2.2 = false) (hI : ty0 kf = .int) (href : ref = (T kf).1) (hw : Cond.fieldLink own index ref (T kf).2.1 (T kf).2.2.1 ∈ Ts) : Snd Γ pc (oPut ci kf (pc + 3)) := by
  obtain ⟨p, l, e, R, s, m, args, below, meth, c, Q, G, A, nL'⟩ := Γ
  obtain ⟨hx, hb, hml, hown, hts, hK, hA, rfl, rfl, hB⟩ := C
  intro K hK' ad k n ls st X ho
  dsimp only [oPut] at ho
  obtain ⟨x, t, rfl, h⟩ := pI_spec ho
  obtain ⟨q, t2, rfl, h⟩ := pR_spec h
  obtain ⟨e0, h1, h⟩ := gx_spec h
  obtain ⟨fs, he9, h9⟩ := eO_spec h
  subst he9
  clear h
  have h := h9
  obtain ⟨hlt, h⟩ := sx_spec h
  obtain ⟨-, h⟩ := sx_spec h
  subst href
  intro H locs la hP hD hS hl
  have hq := aX_get G ad X 0 q _ h1
  rw [Nat.zero_add] at hq
  have hset : (aX G ad 0 X).set q (ad q, aC G ad (.inr (.inl (ci, fs.set kf (.int x))))) = aX G ad 0 (X.set q (.inr (.inl (ci, fs.set kf (.int x))))) := by
    have h9 := aX_set G ad X 0 q (.inr (.inl (ci, fs.set kf (.int x))))
    rwa [Nat.zero_add] at h9
  have hmap : ((fs.map (aV ad)).set kf (.int x)) = (fs.set kf (.int x)).map (aV ad) := by rw [List.map_set]; rfl
  refine va_put hx hb hts hin ty0 hty hnm hown hK hP hD hS q hq hc kf hk (hts _ hw) (fun _ h9 => h9) hfin (ty := .int) (v := .int x) (by rw [hty kf hk, hI]) rfl rfl (by rw [List.length_map]; exact hlt) d (fun H1 locs1 hP1 hD1 hS1 => ?_)
  rw [hmap] at hP1 hD1
  have hP2 : va_P G.1 vwCl (aX G ad 0 (X.set q (.inr (.inl (ci, fs.set kf (.int x)))))) H1 := hset ▸ hP1
  have hD2 : va_D A (aX G ad 0 (X.set q (.inr (.inl (ci, fs.set kf (.int x)))))) := hset ▸ hD1
  exact hK' _ _ _ _ _ _ _ h H1 locs1 la hP2 hD2 hS1 hl
def oIald (nx : Nat) : aO := fun K ad k n ls st X => pI (fun i t => pR (fun q t2 => gx q (eI fun L f => vp_in i L ∧ K nx ad k n ls (.int (f i.toNatClampNeg) :: t2) X) X) t) st
theorem snd_iaload (C : FOK Γ cc Ts own nL rm) (d : decode cc pc = .ok (.iaload, 1)) : Snd Γ pc (oIald (pc + 1)) := by
  obtain ⟨p, l, e, R, s, m, args, below, meth, c, Q, G, A, nL'⟩ := Γ
  obtain ⟨hx, hb, hml, hown, hts, hK, hA, rfl, rfl, hB⟩ := C
  intro K hK' ad k n ls st X ho
  dsimp only [oIald] at ho
  obtain ⟨i, t, rfl, h⟩ := pI_spec ho
  obtain ⟨q, t2, rfl, h⟩ := pR_spec h
  obtain ⟨e0, h1, h⟩ := gx_spec h
  obtain ⟨L, f, rfl, hin, h⟩ := eI_spec h
  intro H locs la hP hD hS hl
  have hq := aX_get G ad X 0 q _ h1
  rw [Nat.zero_add] at hq
  exact va_iald hx hb hK hP q 0 hq rfl hin d (hK' _ _ _ _ _ _ _ h H locs la hP hD hS hl)
def oZald (nx : Nat) : aO := fun K ad k n ls st X => pI (fun i t => pR (fun q t2 => gx q (eZ fun L f => vp_in i L ∧ K nx ad k n ls (.int (f i.toNatClampNeg) :: t2) X) X) t) st
theorem snd_baload (C : FOK Γ cc Ts own nL rm) (d : decode cc pc = .ok (.baload, 1)) : Snd Γ pc (oZald (pc + 1)) := by
  obtain ⟨p, l, e, R, s, m, args, below, meth, c, Q, G, A, nL'⟩ := Γ
  obtain ⟨hx, hb, hml, hown, hts, hK, hA, rfl, rfl, hB⟩ := C
  intro K hK' ad k n ls st X ho
  dsimp only [oZald] at ho
  obtain ⟨i, t, rfl, h⟩ := pI_spec ho
  obtain ⟨q, t2, rfl, h⟩ := pR_spec h
  obtain ⟨e0, h1, h⟩ := gx_spec h
  obtain ⟨L, f, rfl, hin, h⟩ := eZ_spec h
  intro H locs la hP hD hS hl
  have hq := aX_get G ad X 0 q _ h1
  rw [Nat.zero_add] at hq
  exact va_zald hx hb hK hP q 1 hq rfl hin d (hK' _ _ _ _ _ _ _ h H locs la hP hD hS hl)
def oIast (nx : Nat) : aO := fun K ad k n ls st X => pI (fun x t => pI (fun i t2 => pR (fun q t3 => gx q (eI fun L f => vp_in i L ∧ sx q (.inl (false, L, upd f i.toNatClampNeg x)) (fun X2 => K nx ad k n ls t3 X2) X) X) t2) t) st
theorem snd_iastore (C : FOK Γ cc Ts own nL rm) (d : decode cc pc = .ok (.iastore, 1)) : Snd Γ pc (oIast (pc + 1)) := by
  obtain ⟨p, l, e, R, s, m, args, below, meth, c, Q, G, A, nL'⟩ := Γ
  obtain ⟨hx, hb, hml, hown, hts, hK, hA, rfl, rfl, hB⟩ := C
  intro K hK' ad k n ls st X ho
  dsimp only [oIast] at ho
  obtain ⟨x, t, rfl, h⟩ := pI_spec ho
  obtain ⟨i, t2, rfl, h⟩ := pI_spec h
  obtain ⟨q, t3, rfl, h⟩ := pR_spec h
  obtain ⟨e0, h1, h⟩ := gx_spec h
  obtain ⟨L, f, rfl, hin, h⟩ := eI_spec h
  obtain ⟨-, h⟩ := sx_spec h
  intro H locs la hP hD hS hl
  have hq := aX_get G ad X 0 q _ h1
  rw [Nat.zero_add] at hq
  have hset : (aX G ad 0 X).set q (ad q, aC G ad (.inl (false, L, upd f i.toNatClampNeg x))) = aX G ad 0 (X.set q (.inl (false, L, upd f i.toNatClampNeg x))) := by
    have h9 := aX_set G ad X 0 q (.inl (false, L, upd f i.toNatClampNeg x))
    rwa [Nat.zero_add] at h9
  refine va_iast hx hb hK hP hD hS q 0 hq rfl hin d (fun H1 locs1 hP1 hD1 hS1 => ?_)
  have hP2 : va_P G.1 vwCl (aX G ad 0 (X.set q (.inl (false, L, upd f i.toNatClampNeg x)))) H1 := hset ▸ hP1
  have hD2 : va_D A (aX G ad 0 (X.set q (.inl (false, L, upd f i.toNatClampNeg x)))) := hset ▸ hD1
  exact hK' _ _ _ _ _ _ _ h H1 locs1 la hP2 hD2 hS1 hl
def oZast (nx : Nat) : aO := fun K ad k n ls st X => pI (fun x t => pI (fun i t2 => pR (fun q t3 => gx q (eZ fun L f => vp_in i L ∧ (x = 0 ∨ x = 1) ∧ sx q (.inl (true, L, upd f i.toNatClampNeg x)) (fun X2 => K nx ad k n ls t3 X2) X) X) t2) t) st
theorem snd_bastore (C : FOK Γ cc Ts own nL rm) (d : decode cc pc = .ok (.bastore, 1)) : Snd Γ pc (oZast (pc + 1)) := by
  obtain ⟨p, l, e, R, s, m, args, below, meth, c, Q, G, A, nL'⟩ := Γ
  obtain ⟨hx, hb, hml, hown, hts, hK, hA, rfl, rfl, hB⟩ := C
  intro K hK' ad k n ls st X ho
  dsimp only [oZast] at ho
  obtain ⟨x, t, rfl, h⟩ := pI_spec ho
  obtain ⟨i, t2, rfl, h⟩ := pI_spec h
  obtain ⟨q, t3, rfl, h⟩ := pR_spec h
  obtain ⟨e0, h1, h⟩ := gx_spec h
  obtain ⟨L, f, rfl, hin, hz, h⟩ := eZ_spec h
  obtain ⟨-, h⟩ := sx_spec h
  intro H locs la hP hD hS hl
  have hq := aX_get G ad X 0 q _ h1
  rw [Nat.zero_add] at hq
  have hset : (aX G ad 0 X).set q (ad q, aC G ad (.inl (true, L, upd f i.toNatClampNeg x))) = aX G ad 0 (X.set q (.inl (true, L, upd f i.toNatClampNeg x))) := by
    have h9 := aX_set G ad X 0 q (.inl (true, L, upd f i.toNatClampNeg x))
    rwa [Nat.zero_add] at h9
  refine va_zast hx hb hK hP hD hS q 1 hq rfl hin d (fun H1 locs1 hP1 hD1 hS1 => ?_)
  have hz9 : vp_nar .boolean x = x := by rcases hz with rfl | rfl <;> decide
  rw [hz9] at hP1 hD1
  have hP2 : va_P G.1 vwCl (aX G ad 0 (X.set q (.inl (true, L, upd f i.toNatClampNeg x)))) H1 := hset ▸ hP1
  have hD2 : va_D A (aX G ad 0 (X.set q (.inl (true, L, upd f i.toNatClampNeg x)))) := hset ▸ hD1
  exact hK' _ _ _ _ _ _ _ h H1 locs1 la hP2 hD2 hS1 hl
def oAlen (nx : Nat) : aO := fun K ad k n ls st X => pR (fun q t => gx q (eLen fun L => K nx ad k n ls (.int (nI L) :: t) X) X) st
theorem snd_alen (C : FOK Γ cc Ts own nL rm) (d : decode cc pc = .ok (.arraylength, 1)) : Snd Γ pc (oAlen (pc + 1)) := by
  obtain ⟨p, l, e, R, s, m, args, below, meth, c, Q, G, A, nL'⟩ := Γ
  obtain ⟨hx, hb, hml, hown, hts, hK, hA, rfl, rfl, hB⟩ := C
  intro K hK' ad k n ls st X ho
  dsimp only [oAlen] at ho
  obtain ⟨q, t, rfl, h⟩ := pR_spec ho
  obtain ⟨e0, h1, h⟩ := gx_spec h
  intro H locs la hP hD hS hl
  have hq := aX_get G ad X 0 q _ h1
  rw [Nat.zero_add] at hq
  match e0, h1, h, hq with
  | .inl (true, L, f), h1, h, hq => exact va_alen hx hb hK hP q 1 hq (ty := .boolean) rfl rfl d (hK' _ _ _ _ _ _ _ h H locs la hP hD hS hl)
  | .inl (false, L, f), h1, h, hq => exact va_alen hx hb hK hP q 0 hq (ty := .int) rfl rfl d (hK' _ _ _ _ _ _ _ h H locs la hP hD hS hl)
  | .inr (.inr (true, L, f)), h1, h, hq => exact va_alen hx hb hK hP q 3 hq (ty := .array .boolean) rfl rfl d (hK' _ _ _ _ _ _ _ h H locs la hP hD hS hl)
  | .inr (.inr (false, L, f)), h1, h, hq => exact va_alen hx hb hK hP q 2 hq (ty := .array .int) rfl rfl d (hK' _ _ _ _ _ _ _ h H locs la hP hD hS hl)
  | .inr (.inl _), h1, h, hq => exact h.elim
end OPS
end
section
/-! ===== contracts over the abstract machine; calls; ends ===== -/
/-- the world's picture at the end -/
abbrev aP (K : aG) (ad : Nat → Nat) (X : List aE) (H : Heap) : Prop := va_P K.1 vwCl (aX K ad 0 X) H
def aPc (K : aG) (ad : Nat → Nat) (av : List Value) (X : List aE) (sz : Nat) : Array Value → State → Prop :=
  va_Pc (av.map (aV ad)) (fun U => U.heap.size = sz ∧ aP K ad X U.heap ∧ va_K K.1 vwCl (aT K) U ∧ va_D (fun _ => True) (aX K ad 0 X) ∧ aB U)
abbrev aA (K : aG) (ad : Nat → Nat) (X : List aE) (sz : Nat) : Nat → Prop := va_A (aX K ad 0 X) sz
def aBk (K : aG) (ad : Nat → Nat) (X : List aE) (sz : Nat) : List aE → State → Prop := fun X2 t => aP K ad X2 t.heap ∧ va_D (aA K ad X sz) (aX K ad 0 X2)
/-- predicate transformers of callees: by the kind of answer -/
abbrev aTi : Type := List Value → List aE → (Int32 → List aE → Prop) → Prop
abbrev aTl : Type := List Value → List aE → (Int64 → List aE → Prop) → Prop
abbrev aTd : Type := List Value → List aE → (UInt64 → List aE → Prop) → Prop
abbrev aTv : Type := List Value → List aE → (List aE → Prop) → Prop
def aMi (y : MethodName) (ws : List Cond) (rm : Room) (T : aTi) : Prop := ∀ (l : Launch) (K : aG) (ad : Nat → Nat) (sz : Nat) (av : List Value) (X : List aE) (post : Int32 → List aE → Prop), T av X post →
  Met l y ws rm (aPc K ad av X sz) (va_Qi post (aBk K ad X sz) (aA K ad X sz)) rm.cells rm.slots (aA K ad X sz)
def aMl (y : MethodName) (ws : List Cond) (rm : Room) (T : aTl) : Prop := ∀ (l : Launch) (K : aG) (ad : Nat → Nat) (sz : Nat) (av : List Value) (X : List aE) (post : Int64 → List aE → Prop), T av X post →
  Met l y ws rm (aPc K ad av X sz) (va_Ql post (aBk K ad X sz) (aA K ad X sz)) rm.cells rm.slots (aA K ad X sz)
def aMd (y : MethodName) (ws : List Cond) (rm : Room) (T : aTd) : Prop := ∀ (l : Launch) (K : aG) (ad : Nat → Nat) (sz : Nat) (av : List Value) (X : List aE) (post : UInt64 → List aE → Prop), T av X post →
  Met l y ws rm (aPc K ad av X sz) (va_Qd post (aBk K ad X sz) (aA K ad X sz)) rm.cells rm.slots (aA K ad X sz)
def aMv (y : MethodName) (ws : List Cond) (rm : Room) (T : aTv) : Prop := ∀ (l : Launch) (K : aG) (ad : Nat → Nat) (sz : Nat) (av : List Value) (X : List aE) (post : List aE → Prop), T av X post →
  Met l y ws rm (aPc K ad av X sz) (va_Qv post (aBk K ad X sz) (aA K ad X sz)) rm.cells rm.slots (aA K ad X sz)
theorem aPc_blind (K : aG) (ad : Nat → Nat) (av : List Value) (X : List aE) (sz : Nat) : FrameBlind (aPc K ad av X sz) := fun a U g mk q => by
  obtain ⟨q0, q1, q2, q3, q4, q5⟩ := q
  exact ⟨q0, q1, q2, va_K.moved (u := U) (U := U.calling g mk a) (Vm.Alike.refl U.vm) q3, q4, q5.same rfl⟩
theorem aPc_at {K : aG} {ad : Nat → Nat} {av : List Value} {X : List aE} {s U : State} {H : Heap} {A : Nat → Prop} (hP : aP K ad X H) (hK : va_K K.1 vwCl (aT K) s) (hD : va_D A (aX K ad 0 X)) (hB : aB s) (hU : U.heap = H) (hW : s.WarmedH U.vm) : aPc K ad av X H.size (av.map (aV ad)).toArray U :=
  ⟨rfl, by rw [hU], by rw [hU]; exact hP, va_K.moved hW.alike hK, hD.weaken (fun _ _ _ _ => trivial), hB.warm hW⟩
/-- a callee's cells are the caller's -/
theorem aA_free {K : aG} {ad : Nat → Nat} {X : List aE} {A : Nat → Prop} {H0 H : Heap} {locs : List Loc} (hD : va_D A (aX K ad 0 X)) (hS : va_S A H0 H locs) (hA : ∀ q, H0.size ≤ q → A q) : ∀ q, aA K ad X H.size q → A q := by
  intro q h
  rcases h with ⟨k, e, h⟩ | h
  · exact hD.2 k (q, e) h
  · exact hA q (Nat.le_trans hS.1 h)
/-- what a call site is: whatever runs it may rely on -/
def aSite (Γ : aΓ) (pc n : Nat) (ro : Option Nat) (mc ms : Nat) (y : MethodName) (ws : List Cond) (rm : Room) : Prop :=
  match Γ with
  | (p, l, e, R, s, m, args, below, meth, c, Q, K, A, nL) => ∀ (Pc : Array Value → State → Prop) (Qc : Array Value → State → Outcome → State → Prop) (free : Addr → Prop) (H : Heap) (locs : List Loc) (k sl : Nat) (la : Array Slot) (av rest : List Value),
    Met l y ws rm Pc Qc mc ms free → FrameBlind Pc → (∀ U : State, U.heap = H → s.WarmedH U.vm → Pc av.toArray U) → av.length = n → la.size = nL → (rest.map fun v => v.category).sum ≤ 8 → k + mc ≤ R.cells ∧ sl + ms ≤ R.slots →
    (∀ ci, ro = some ci → ∃ (b : Nat) (As : List Value) (cellB : Cell) (q : vw_C), av = .ref b :: As ∧ vwCl[ci]? = some q ∧ H[b]? = some cellB ∧ cellB.vm.isStatics = false ∧ s.vm.findClass q.1 = some cellB.cls) →
    va_Run p l e R s m args below meth c H locs k sl mc ms (F0 m pc la (av.reverse ++ rest)) rest (Qc av.toArray) free
section SITES
variable {Γ : aΓ} {cc : ByteArray} {Ts : List Cond} {own : String} {nL : Nat} {rm : Room} {pc : Nat}
variable {y : MethodName} {ws ws' : List Cond} {rm' : Room} {bytes : ByteArray} {maxL : Nat} {ret : Option FieldType} {index mc ms n : Nat}
/-- an ordinary call of a method of the class Cn on an object -/
theorem site_V (C : FOK Γ cc Ts own nL rm) {Cn : String} {ci : Nat} {T : u_T} {N : Nat} (hc : vwCl[ci]? = some (Cn, T, N)) (d : decode cc pc = .ok (.invokevirtual index, 3)) (hg : GoodIn Ts (wsV own index Cn y ws)) (hw : ws = Cond.code y bytes maxL ret :: ws') (hrc : rm'.cells = mc) (hrs : rm'.slots = ms)
    (hd : y.cls = Cn ∧ y.cls ≠ "java/lang/invoke/MethodHandle" ∧ y.cls ≠ "java/lang/invoke/VarHandle" ∧ (parseMethodDescriptor y.desc).map (fun d => d.parameters.length) = some n) (hR : rm'.frames + 1 ≤ rm.frames ∧ 8 + (maxL + 11) + rm'.locals ≤ rm.locals) : aSite Γ pc (n + 1) (some ci) mc ms y ws rm' := by
  obtain ⟨p, l, e, R, s, m, args, below, meth, c, Q, G, A, nL'⟩ := Γ
  obtain ⟨hx, hb, hml, hown, hts, hK, hA, rfl, rfl, hB⟩ := C
  intro Pc Qc free H locs k sl la av rest hM hbl hpc hn hsz hcat hf hro
  obtain ⟨b, As, cellB, q, rfl, hq, h1, h2, h3⟩ := hro ci rfl
  cases hc.symm.trans hq
  have hr := va_runV (As := As) (rest := rest) (g := F0 m pc la ((Value.ref b :: As).reverse ++ rest)) (e := e) (meth := meth) (below := below) (locs := locs) ⟨hx, hb, hml, hown, hts⟩ hM (cwV n hts hg hw hrc hrs hd hR) ⟨hbl, ⟨cellB, h1, h2, h3⟩, hpc⟩ rfl (by simpa using hn) hsz (by simp) (lv_room hcat) d hf
  exact hr
/-- of a private method of a nest mate -/
theorem site_VN (C : FOK Γ cc Ts own nL rm) {Cn : String} {ci : Nat} {T : u_T} {N : Nat} (hc : vwCl[ci]? = some (Cn, T, N)) (d : decode cc pc = .ok (.invokevirtual index, 3)) (hg : GoodIn Ts ws) (hw : ws = Cond.code y bytes maxL ret :: ws') (hrc : rm'.cells = mc) (hrs : rm'.slots = ms) (hN : (own, index, y) ∈ aNm) (hi : Cond.initialized y.cls ∈ Ts) (him : Cond.instanceMethod y ∈ Ts) (hse : Cond.selects Cn y y ∈ Ts)
    (hd : y.cls ≠ "java/lang/invoke/MethodHandle" ∧ y.cls ≠ "java/lang/invoke/VarHandle" ∧ (parseMethodDescriptor y.desc).map (fun d => d.parameters.length) = some n) (hR : rm'.frames + 1 ≤ rm.frames ∧ 8 + (maxL + 11) + rm'.locals ≤ rm.locals) : aSite Γ pc (n + 1) (some ci) mc ms y ws rm' := by
  obtain ⟨p, l, e, R, s, m, args, below, meth, c, Q, G, A, nL'⟩ := Γ
  obtain ⟨hx, hb, hml, hown, hts, hK, hA, rfl, rfl, hB⟩ := C
  intro Pc Qc free H locs k sl la av rest hM hbl hpc hn hsz hcat hf hro
  obtain ⟨b, As, cellB, q, rfl, hq, h1, h2, h3⟩ := hro ci rfl
  cases hc.symm.trans hq
  have hr := va_runVN (As := As) (rest := rest) (g := F0 m pc la ((Value.ref b :: As).reverse ++ rest)) (e := e) (meth := meth) (below := below) (locs := locs) (host := "PaintedDie") ⟨hx, hb, hml, hown, hts⟩ hM ⟨va_cnB n hts hg hw hrc hrs (hB.1.2 _ hN) (hts _ hi) hd hR, hts _ him, hts _ hse⟩ ⟨hbl, ⟨cellB, h1, h2, h3⟩, hpc⟩ rfl (by simpa using hn) hsz (by simp) (lv_room hcat) d hf
  exact hr
/-- a static one -/
theorem site_S (C : FOK Γ cc Ts own nL rm) (d : decode cc pc = .ok (.invokestatic index, 3)) (hg : GoodIn Ts (va_wsS own index y ws)) (hw : ws = Cond.code y bytes maxL ret :: ws') (hrc : rm'.cells = mc) (hrs : rm'.slots = ms)
    (hd : y.cls ≠ "java/lang/invoke/MethodHandle" ∧ y.cls ≠ "java/lang/invoke/VarHandle" ∧ (parseMethodDescriptor y.desc).map (fun d => d.parameters.length) = some n) (hR : rm'.frames + 1 ≤ rm.frames ∧ 8 + (maxL + 11) + rm'.locals ≤ rm.locals) : aSite Γ pc n none mc ms y ws rm' := by
  obtain ⟨p, l, e, R, s, m, args, below, meth, c, Q, G, A, nL'⟩ := Γ
  obtain ⟨hx, hb, hml, hown, hts, hK, hA, rfl, rfl, hB⟩ := C
  intro Pc Qc free H locs k sl la av rest hM hbl hpc hn hsz hcat hf hro
  exact va_runS (As := av) (rest := rest) ⟨hx, hb, hml, hown, hts⟩ hM (va_cwS n hts hg hw hrc hrs hd hR) ⟨hbl, hpc⟩ rfl hn hsz rfl (lv_room hcat) d hf
theorem site_SN (C : FOK Γ cc Ts own nL rm) (d : decode cc pc = .ok (.invokestatic index, 3)) (hg : GoodIn Ts ws) (hw : ws = Cond.code y bytes maxL ret :: ws') (hrc : rm'.cells = mc) (hrs : rm'.slots = ms) (hN : (own, index, y) ∈ aNm) (hi : Cond.initialized y.cls ∈ Ts) (hst : Cond.static y ∈ Ts)
    (hd : y.cls ≠ "java/lang/invoke/MethodHandle" ∧ y.cls ≠ "java/lang/invoke/VarHandle" ∧ (parseMethodDescriptor y.desc).map (fun d => d.parameters.length) = some n) (hR : rm'.frames + 1 ≤ rm.frames ∧ 8 + (maxL + 11) + rm'.locals ≤ rm.locals) : aSite Γ pc n none mc ms y ws rm' := by
  obtain ⟨p, l, e, R, s, m, args, below, meth, c, Q, G, A, nL'⟩ := Γ
  obtain ⟨hx, hb, hml, hown, hts, hK, hA, rfl, rfl, hB⟩ := C
  intro Pc Qc free H locs k sl la av rest hM hbl hpc hn hsz hcat hf hro
  exact va_runSN (As := av) (rest := rest) (host := "PaintedDie") ⟨hx, hb, hml, hown, hts⟩ hM ⟨va_cnB n hts hg hw hrc hrs (hB.1.2 _ hN) (hts _ hi) hd hR, hts _ hst, trivial⟩ ⟨hbl, hpc⟩ rfl hn hsz rfl (lv_room hcat) d hf
end SITES
/-- n values off the stack, the lowest first -/
def tk : Nat → List Value → (List Value → List Value → Prop) → List Value → Prop
  | 0, acc, c, st => c acc st
  | n + 1, acc, c, v :: t => tk n (v :: acc) c t
  | _ + 1, _, _, [] => False
theorem tk_spec : ∀ {n : Nat} {acc : List Value} {c : List Value → List Value → Prop} {st : List Value}, tk n acc c st → ∃ av t, st = av.reverse ++ t ∧ av.length = n ∧ c (av ++ acc) t
  | 0, acc, c, st, h => ⟨[], st, rfl, rfl, h⟩
  | n + 1, acc, c, v :: t, h => by
    obtain ⟨av, t2, rfl, hl, h2⟩ := tk_spec (n := n) (acc := v :: acc) (c := c) (st := t) h
    refine ⟨av ++ [v], t2, by simp, by simp [hl], by simpa using h2⟩
  | _ + 1, _, _, [], h => h.elim
def le4 : List Value → Bool
  | [] => true
  | [_] => true
  | [_, _] => true
  | [_, _, _] => true
  | [_, _, _, _] => true
  | _ => false
theorem cat_le (v : Value) : v.category ≤ 2 := by cases v <;> simp [Value.category]
theorem le4_spec (ad : Nat → Nat) {t : List Value} (h : le4 t = true) : ((t.map (aV ad)).map fun v => v.category).sum ≤ 8 := by
  unfold le4 at h
  split at h
  · simp
  · next a => have := cat_le (aV ad a); simp; omega
  · next a b => have := cat_le (aV ad a); have := cat_le (aV ad b); simp; omega
  · next a b c => have := cat_le (aV ad a); have := cat_le (aV ad b); have := cat_le (aV ad c); simp; omega
  · next a b c d => have := cat_le (aV ad a); have := cat_le (aV ad b); have := cat_le (aV ad c); have := cat_le (aV ad d); simp; omega
  · cases h
/-- the receiver is an object of the class -/
def rcv (ro : Option Nat) (X : List aE) (c : Prop) : List Value → Prop := fun av => match ro with
  | none => c
  | some ci => pR (fun q _ => gx q (eO ci fun _ => c) X) av
theorem rcv_spec {ro : Option Nat} {X : List aE} {c : Prop} {av : List Value} (h : rcv ro X c av) : c ∧ ∀ ci, ro = some ci → ∃ q As fs, av = .ref q :: As ∧ X[q]? = some (.inr (.inl (ci, fs))) := by
  cases ro with
  | none => exact ⟨h, fun ci hc => by cases hc⟩
  | some ci =>
    obtain ⟨q, As, rfl, h7⟩ := pR_spec h
    obtain ⟨e0, h1, h8⟩ := gx_spec h7
    obtain ⟨fs, rfl, h9⟩ := eO_spec h8
    exact ⟨h9, fun ci' hc => by cases hc; exact ⟨q, As, fs, rfl, h1⟩⟩
def oCi (T : aTi) (n : Nat) (ro : Option Nat) (mc ms RC RS nx : Nat) : aO := fun K ad k sl ls st X => tk n [] (fun av t => rcv ro X (ck (le4 t) (ck (Nat.ble (k + mc) RC) (ck (Nat.ble (sl + ms) RS) (T av X (fun r X2 => K nx ad (k + mc) (sl + ms) ls (.int r :: t) X2))))) av) st
def oCl (T : aTl) (n : Nat) (ro : Option Nat) (mc ms RC RS nx : Nat) : aO := fun K ad k sl ls st X => tk n [] (fun av t => rcv ro X (ck (le4 t) (ck (Nat.ble (k + mc) RC) (ck (Nat.ble (sl + ms) RS) (T av X (fun r X2 => K nx ad (k + mc) (sl + ms) ls (.long r :: t) X2))))) av) st
def oCd (T : aTd) (n : Nat) (ro : Option Nat) (mc ms RC RS nx : Nat) : aO := fun K ad k sl ls st X => tk n [] (fun av t => rcv ro X (ck (le4 t) (ck (Nat.ble (k + mc) RC) (ck (Nat.ble (sl + ms) RS) (T av X (fun r X2 => K nx ad (k + mc) (sl + ms) ls (.double r :: t) X2))))) av) st
def oCv (T : aTv) (n : Nat) (ro : Option Nat) (mc ms RC RS nx : Nat) : aO := fun K ad k sl ls st X => tk n [] (fun av t => rcv ro X (ck (le4 t) (ck (Nat.ble (k + mc) RC) (ck (Nat.ble (sl + ms) RS) (T av X (fun X2 => K nx ad (k + mc) (sl + ms) ls t X2))))) av) st
section CALLS
variable {Γ : aΓ} {cc : ByteArray} {Ts : List Cond} {own : String} {nL : Nat} {rm : Room} {pc : Nat} {y : MethodName} {ws : List Cond} {rm' : Room} {n : Nat} {ro : Option Nat}
theorem snd_Ci {T : aTi} (C : FOK Γ cc Ts own nL rm) (hs : aSite Γ pc n ro rm'.cells rm'.slots y ws rm') (hM : aMi y ws rm' T) : Snd Γ pc (oCi T n ro rm'.cells rm'.slots rm.cells rm.slots (pc + 3)) := by
  obtain ⟨p, l, e, R, s, m, args, below, meth, c, Q, G, A, nL'⟩ := Γ
  obtain ⟨hx, hb, hml, hown, hts, hK, hA, rfl, rfl, hB⟩ := C
  intro K hK' ad k sl ls st X ho
  dsimp only [oCi] at ho
  obtain ⟨av, t, rfl, hn, h⟩ := tk_spec ho
  rw [List.append_nil] at h
  obtain ⟨h, hro⟩ := rcv_spec h
  obtain ⟨h4, h⟩ := ck_spec h
  obtain ⟨hc, h⟩ := ck_spec h
  obtain ⟨hsl, h⟩ := ck_spec h
  intro H locs la hP hD hS hl
  have hF := aA_free hD hS hA
  have hrun := hs _ _ _ H locs k sl la (av.map (aV ad)) (t.map (aV ad)) (hM l G ad H.size av X _ h) (aPc_blind _ _ _ _ _) (fun U hU hW => aPc_at hP hK hD hB hU hW) (by rw [List.length_map]; exact hn) hl.1 (le4_spec ad h4) ⟨Nat.le_of_ble_eq_true hc, Nat.le_of_ble_eq_true hsl⟩ (fun ci hci => by
    obtain ⟨q, As, fs, rfl, hq⟩ := hro ci hci
    have hq2 := aX_get G ad X 0 q _ hq
    rw [Nat.zero_add] at hq2
    obtain ⟨qc, h1, -⟩ := hP q _ hq2
    obtain ⟨cellB, g1, g2, g3⟩ := va_recv hK hP h1 hq2
    exact ⟨ad q, As.map (aV ad), cellB, qc, rfl, h1, g1, g2, g3⟩)
  have hst : List.map (aV ad) (av.reverse ++ t) = (av.map (aV ad)).reverse ++ t.map (aV ad) := by rw [List.map_append, List.map_reverse]
  rw [hst]
  refine va_calli hrun hS (fun q _ h9 => hF q h9) hF (fun r u t1 H1 locs1 ht hvm hpost hBk hz hk hS1 => ?_)
  obtain ⟨hP1, hD1⟩ := hBk
  rw [ht] at hP1
  exact hK' _ _ _ _ _ _ _ hpost H1 locs1 la hP1 (hD1.weaken (fun _ _ _ h9 => hF _ h9)) hS1 hl
theorem snd_Cl {T : aTl} (C : FOK Γ cc Ts own nL rm) (hs : aSite Γ pc n ro rm'.cells rm'.slots y ws rm') (hM : aMl y ws rm' T) : Snd Γ pc (oCl T n ro rm'.cells rm'.slots rm.cells rm.slots (pc + 3)) := by
  obtain ⟨p, l, e, R, s, m, args, below, meth, c, Q, G, A, nL'⟩ := Γ
  obtain ⟨hx, hb, hml, hown, hts, hK, hA, rfl, rfl, hB⟩ := C
  intro K hK' ad k sl ls st X ho
  dsimp only [oCl] at ho
  obtain ⟨av, t, rfl, hn, h⟩ := tk_spec ho
  rw [List.append_nil] at h
  obtain ⟨h, hro⟩ := rcv_spec h
  obtain ⟨h4, h⟩ := ck_spec h
  obtain ⟨hc, h⟩ := ck_spec h
  obtain ⟨hsl, h⟩ := ck_spec h
  intro H locs la hP hD hS hl
  have hF := aA_free hD hS hA
  have hrun := hs _ _ _ H locs k sl la (av.map (aV ad)) (t.map (aV ad)) (hM l G ad H.size av X _ h) (aPc_blind _ _ _ _ _) (fun U hU hW => aPc_at hP hK hD hB hU hW) (by rw [List.length_map]; exact hn) hl.1 (le4_spec ad h4) ⟨Nat.le_of_ble_eq_true hc, Nat.le_of_ble_eq_true hsl⟩ (fun ci hci => by
    obtain ⟨q, As, fs, rfl, hq⟩ := hro ci hci
    have hq2 := aX_get G ad X 0 q _ hq
    rw [Nat.zero_add] at hq2
    obtain ⟨qc, h1, -⟩ := hP q _ hq2
    obtain ⟨cellB, g1, g2, g3⟩ := va_recv hK hP h1 hq2
    exact ⟨ad q, As.map (aV ad), cellB, qc, rfl, h1, g1, g2, g3⟩)
  have hst : List.map (aV ad) (av.reverse ++ t) = (av.map (aV ad)).reverse ++ t.map (aV ad) := by rw [List.map_append, List.map_reverse]
  rw [hst]
  refine va_calll hrun hS (fun q _ h9 => hF q h9) hF (fun r u t1 H1 locs1 ht hvm hpost hBk hz hk hS1 => ?_)
  obtain ⟨hP1, hD1⟩ := hBk
  rw [ht] at hP1
  exact hK' _ _ _ _ _ _ _ hpost H1 locs1 la hP1 (hD1.weaken (fun _ _ _ h9 => hF _ h9)) hS1 hl
theorem snd_Cd {T : aTd} (C : FOK Γ cc Ts own nL rm) (hs : aSite Γ pc n ro rm'.cells rm'.slots y ws rm') (hM : aMd y ws rm' T) : Snd Γ pc (oCd T n ro rm'.cells rm'.slots rm.cells rm.slots (pc + 3)) := by
  obtain ⟨p, l, e, R, s, m, args, below, meth, c, Q, G, A, nL'⟩ := Γ
  obtain ⟨hx, hb, hml, hown, hts, hK, hA, rfl, rfl, hB⟩ := C
  intro K hK' ad k sl ls st X ho
  dsimp only [oCd] at ho
  obtain ⟨av, t, rfl, hn, h⟩ := tk_spec ho
  rw [List.append_nil] at h
  obtain ⟨h, hro⟩ := rcv_spec h
  obtain ⟨h4, h⟩ := ck_spec h
  obtain ⟨hc, h⟩ := ck_spec h
  obtain ⟨hsl, h⟩ := ck_spec h
  intro H locs la hP hD hS hl
  have hF := aA_free hD hS hA
  have hrun := hs _ _ _ H locs k sl la (av.map (aV ad)) (t.map (aV ad)) (hM l G ad H.size av X _ h) (aPc_blind _ _ _ _ _) (fun U hU hW => aPc_at hP hK hD hB hU hW) (by rw [List.length_map]; exact hn) hl.1 (le4_spec ad h4) ⟨Nat.le_of_ble_eq_true hc, Nat.le_of_ble_eq_true hsl⟩ (fun ci hci => by
    obtain ⟨q, As, fs, rfl, hq⟩ := hro ci hci
    have hq2 := aX_get G ad X 0 q _ hq
    rw [Nat.zero_add] at hq2
    obtain ⟨qc, h1, -⟩ := hP q _ hq2
    obtain ⟨cellB, g1, g2, g3⟩ := va_recv hK hP h1 hq2
    exact ⟨ad q, As.map (aV ad), cellB, qc, rfl, h1, g1, g2, g3⟩)
  have hst : List.map (aV ad) (av.reverse ++ t) = (av.map (aV ad)).reverse ++ t.map (aV ad) := by rw [List.map_append, List.map_reverse]
  rw [hst]
  refine va_calld hrun hS (fun q _ h9 => hF q h9) hF (fun r u t1 H1 locs1 ht hvm hpost hBk hz hk hS1 => ?_)
  obtain ⟨hP1, hD1⟩ := hBk
  rw [ht] at hP1
  exact hK' _ _ _ _ _ _ _ hpost H1 locs1 la hP1 (hD1.weaken (fun _ _ _ h9 => hF _ h9)) hS1 hl
theorem snd_Cv {T : aTv} (C : FOK Γ cc Ts own nL rm) (hs : aSite Γ pc n ro rm'.cells rm'.slots y ws rm') (hM : aMv y ws rm' T) : Snd Γ pc (oCv T n ro rm'.cells rm'.slots rm.cells rm.slots (pc + 3)) := by
  obtain ⟨p, l, e, R, s, m, args, below, meth, c, Q, G, A, nL'⟩ := Γ
  obtain ⟨hx, hb, hml, hown, hts, hK, hA, rfl, rfl, hB⟩ := C
  intro K hK' ad k sl ls st X ho
  dsimp only [oCv] at ho
  obtain ⟨av, t, rfl, hn, h⟩ := tk_spec ho
  rw [List.append_nil] at h
  obtain ⟨h, hro⟩ := rcv_spec h
  obtain ⟨h4, h⟩ := ck_spec h
  obtain ⟨hc, h⟩ := ck_spec h
  obtain ⟨hsl, h⟩ := ck_spec h
  intro H locs la hP hD hS hl
  have hF := aA_free hD hS hA
  have hrun := hs _ _ _ H locs k sl la (av.map (aV ad)) (t.map (aV ad)) (hM l G ad H.size av X _ h) (aPc_blind _ _ _ _ _) (fun U hU hW => aPc_at hP hK hD hB hU hW) (by rw [List.length_map]; exact hn) hl.1 (le4_spec ad h4) ⟨Nat.le_of_ble_eq_true hc, Nat.le_of_ble_eq_true hsl⟩ (fun ci hci => by
    obtain ⟨q, As, fs, rfl, hq⟩ := hro ci hci
    have hq2 := aX_get G ad X 0 q _ hq
    rw [Nat.zero_add] at hq2
    obtain ⟨qc, h1, -⟩ := hP q _ hq2
    obtain ⟨cellB, g1, g2, g3⟩ := va_recv hK hP h1 hq2
    exact ⟨ad q, As.map (aV ad), cellB, qc, rfl, h1, g1, g2, g3⟩)
  have hst : List.map (aV ad) (av.reverse ++ t) = (av.map (aV ad)).reverse ++ t.map (aV ad) := by rw [List.map_append, List.map_reverse]
  rw [hst]
  refine va_callv hrun hS (fun q _ h9 => hF q h9) hF (fun u t1 H1 locs1 ht hvm hpost hBk hz hk hS1 => ?_)
  obtain ⟨hP1, hD1⟩ := hBk
  rw [ht] at hP1
  exact hK' _ _ _ _ _ _ _ hpost H1 locs1 la hP1 (hD1.weaken (fun _ _ _ h9 => hF _ h9)) hS1 hl
end CALLS
/-! ===== methods that return or throw ===== -/
def aZ (A : Nat → Prop) (U : State) (H : Heap) : Prop := vx_Zq Bundle.tN "UNASSIGNED_STACK" Bundle.steD A U H ∧ vx_Zq Bundle.tN "SUPPRESSED_SENTINEL" Bundle.listD A U H
def aPcX (K : aG) (ad : Nat → Nat) (av : List Value) (X : List aE) (sz : Nat) : Array Value → State → Prop := fun a U => aPc K ad av X sz a U ∧ aZ (aA K ad X sz) U U.heap
abbrev aXp : Type := String → List aE → Prop
def aXC (K : aG) (ad : Nat → Nat) (X : List aE) (sz : Nat) (ex : aXp) : String → State → State → Prop := vx_X (fun u : String × List aE => ex u.1 u.2) (fun E u t => u.1 = E ∧ aBk K ad X sz u.2 t) (aA K ad X sz)
abbrev xTi : Type := List Value → List aE → (Int32 → List aE → Prop) → aXp → Prop
def xMi (y : MethodName) (ws : List Cond) (rm : Room) (T : xTi) : Prop := ∀ (l : Launch) (_ : l.stackTraces = false) (K : aG) (ad : Nat → Nat) (sz : Nat) (av : List Value) (X : List aE) (post : Int32 → List aE → Prop) (ex : aXp), T av X post ex →
  vx_Met l y ws rm (aPcX K ad av X sz) (va_Qi post (aBk K ad X sz) (aA K ad X sz)) (aXC K ad X sz ex) rm.cells rm.slots (aA K ad X sz)
abbrev xTl : Type := List Value → List aE → (Int64 → List aE → Prop) → aXp → Prop
def xMl (y : MethodName) (ws : List Cond) (rm : Room) (T : xTl) : Prop := ∀ (l : Launch) (_ : l.stackTraces = false) (K : aG) (ad : Nat → Nat) (sz : Nat) (av : List Value) (X : List aE) (post : Int64 → List aE → Prop) (ex : aXp), T av X post ex →
  vx_Met l y ws rm (aPcX K ad av X sz) (va_Ql post (aBk K ad X sz) (aA K ad X sz)) (aXC K ad X sz ex) rm.cells rm.slots (aA K ad X sz)
abbrev xTd : Type := List Value → List aE → (UInt64 → List aE → Prop) → aXp → Prop
def xMd (y : MethodName) (ws : List Cond) (rm : Room) (T : xTd) : Prop := ∀ (l : Launch) (_ : l.stackTraces = false) (K : aG) (ad : Nat → Nat) (sz : Nat) (av : List Value) (X : List aE) (post : UInt64 → List aE → Prop) (ex : aXp), T av X post ex →
  vx_Met l y ws rm (aPcX K ad av X sz) (va_Qd post (aBk K ad X sz) (aA K ad X sz)) (aXC K ad X sz ex) rm.cells rm.slots (aA K ad X sz)
abbrev xTv : Type := List Value → List aE → (List aE → Prop) → aXp → Prop
def xMv (y : MethodName) (ws : List Cond) (rm : Room) (T : xTv) : Prop := ∀ (l : Launch) (_ : l.stackTraces = false) (K : aG) (ad : Nat → Nat) (sz : Nat) (av : List Value) (X : List aE) (post : List aE → Prop) (ex : aXp), T av X post ex →
  vx_Met l y ws rm (aPcX K ad av X sz) (va_Qv post (aBk K ad X sz) (aA K ad X sz)) (aXC K ad X sz ex) rm.cells rm.slots (aA K ad X sz)
theorem aPcX_blind (K : aG) (ad : Nat → Nat) (av : List Value) (X : List aE) (sz : Nat) : FrameBlind (aPcX K ad av X sz) := fun a U g mk q =>
  ⟨aPc_blind _ _ _ _ _ a U g mk q.1, q.2.1.moved (u := U) (U := U.calling g mk a) (Vm.Alike.refl U.vm), q.2.2.moved (u := U) (U := U.calling g mk a) (Vm.Alike.refl U.vm)⟩
theorem aZ_at {A B : Nat → Prop} {s U : State} {H : Heap} {locs : List Loc} (h : aZ A s s.heap) (hS : va_S A s.heap H locs) (hAB : ∀ q, B q → A q) (hU : U.heap = H) (hW : s.WarmedH U.vm) : aZ B U U.heap := by
  rw [hU]
  exact ⟨((h.1.kept fun a h1 h2 => hS.2.1 a h1 h2).narrow hAB).moved hW.alike, ((h.2.kept fun a h1 h2 => hS.2.1 a h1 h2).narrow hAB).moved hW.alike⟩
/-- facts of a body that may throw -/
def FOX (Γ : aΓ) : Prop :=
  match Γ with
  | (p, l, e, R, s, m, args, below, meth, c, Q, K, A, nL) => l.stackTraces = false ∧ aZ A s s.heap ∧ meth.locks = false
/-- q, of class E, thrown over this body's frame -/
def FX (Γ : aΓ) (pc : Nat) (E : String) (ad : Nat → Nat) (k n : Nat) (ls : List (Nat × Value)) (X : List aE) : Prop :=
  match Γ with
  | (p, l, e, R, s, m, args, below, meth, c, Q, K, A, nL) => ∀ (H : Heap) (locs : List Loc) (la : Array Slot) (rest : List Value) (ce : Cell) (q : Nat), aP K ad X H → va_D A (aX K ad 0 X) → va_S A s.heap H locs → lv_has la nL (aL ad ls) →
    H[q]? = some ce → ce.vm = .none → s.vm.findClass E = some ce.cls → vx_W p l e R s m args below meth c H locs k n Q (F0 m pc la rest) q
abbrev aXk : Type := String → (Nat → Nat) → Nat → Nat → List (Nat × Value) → List aE → Prop
def xSite (Γ : aΓ) (pc n : Nat) (ro : Option Nat) (mc ms : Nat) (y : MethodName) (ws : List Cond) (rm : Room) : Prop :=
  match Γ with
  | (p, l, e, R, s, m, args, below, meth, c, Q, K, A, nL) => ∀ (Pc : Array Value → State → Prop) (Qc : Array Value → State → Outcome → State → Prop) (XC : String → State → State → Prop) (free : Addr → Prop) (H : Heap) (locs : List Loc) (k sl : Nat) (la : Array Slot) (av rest : List Value),
    vx_Met l y ws rm Pc Qc XC mc ms free → FrameBlind Pc → (∀ U : State, U.heap = H → s.WarmedH U.vm → Pc av.toArray U) → av.length = n → la.size = nL → (rest.map fun v => v.category).sum ≤ 8 → k + mc ≤ R.cells ∧ sl + ms ≤ R.slots →
    (∀ ci, ro = some ci → ∃ (b : Nat) (As : List Value) (cellB : Cell) (q : vw_C), av = .ref b :: As ∧ vwCl[ci]? = some q ∧ H[b]? = some cellB ∧ cellB.vm.isStatics = false ∧ s.vm.findClass q.1 = some cellB.cls) →
    vx_Run p l e R s m args below meth c H locs k sl mc ms (F0 m pc la (av.reverse ++ rest)) rest (Qc av.toArray) XC free
section XSITES
variable {Γ : aΓ} {cc : ByteArray} {Ts : List Cond} {own : String} {nL : Nat} {rm : Room} {pc : Nat}
variable {y : MethodName} {ws ws' : List Cond} {rm' : Room} {bytes : ByteArray} {maxL : Nat} {ret : Option FieldType} {index mc ms n : Nat}
theorem xsite_V (C : FOK Γ cc Ts own nL rm) {Cn : String} {ci : Nat} {T : u_T} {N : Nat} (hc : vwCl[ci]? = some (Cn, T, N)) (d : decode cc pc = .ok (.invokevirtual index, 3)) (hg : GoodIn Ts (wsV own index Cn y ws)) (hw : ws = Cond.code y bytes maxL ret :: ws') (hrc : rm'.cells = mc) (hrs : rm'.slots = ms)
    (hd : y.cls = Cn ∧ y.cls ≠ "java/lang/invoke/MethodHandle" ∧ y.cls ≠ "java/lang/invoke/VarHandle" ∧ (parseMethodDescriptor y.desc).map (fun d => d.parameters.length) = some n) (hR : rm'.frames + 1 ≤ rm.frames ∧ 8 + (maxL + 11) + rm'.locals ≤ rm.locals) : xSite Γ pc (n + 1) (some ci) mc ms y ws rm' := by
  obtain ⟨p, l, e, R, s, m, args, below, meth, c, Q, G, A, nL'⟩ := Γ
  obtain ⟨hx, hb, hml, hown, hts, hK, hA, rfl, rfl, hB⟩ := C
  intro Pc Qc XC free H locs k sl la av rest hM hbl hpc hn hsz hcat hf hro
  obtain ⟨b, As, cellB, q, rfl, hq, h1, h2, h3⟩ := hro ci rfl
  cases hc.symm.trans hq
  have hr := vx_runV (As := As) (rest := rest) (g := F0 m pc la ((Value.ref b :: As).reverse ++ rest)) (e := e) (meth := meth) (below := below) (locs := locs) ⟨hx, hb, hml, hown, hts⟩ hM (cwV n hts hg hw hrc hrs hd hR) ⟨hbl, ⟨cellB, h1, h2, h3⟩, hpc⟩ rfl (by simpa using hn) hsz (by simp) (lv_room hcat) d hf
  exact hr
theorem xsite_S (C : FOK Γ cc Ts own nL rm) (d : decode cc pc = .ok (.invokestatic index, 3)) (hg : GoodIn Ts (va_wsS own index y ws)) (hw : ws = Cond.code y bytes maxL ret :: ws') (hrc : rm'.cells = mc) (hrs : rm'.slots = ms)
    (hd : y.cls ≠ "java/lang/invoke/MethodHandle" ∧ y.cls ≠ "java/lang/invoke/VarHandle" ∧ (parseMethodDescriptor y.desc).map (fun d => d.parameters.length) = some n) (hR : rm'.frames + 1 ≤ rm.frames ∧ 8 + (maxL + 11) + rm'.locals ≤ rm.locals) : xSite Γ pc n none mc ms y ws rm' := by
  obtain ⟨p, l, e, R, s, m, args, below, meth, c, Q, G, A, nL'⟩ := Γ
  obtain ⟨hx, hb, hml, hown, hts, hK, hA, rfl, rfl, hB⟩ := C
  intro Pc Qc XC free H locs k sl la av rest hM hbl hpc hn hsz hcat hf hro
  exact vx_runS (As := av) (rest := rest) ⟨hx, hb, hml, hown, hts⟩ hM (va_cwS n hts hg hw hrc hrs hd hR) ⟨hbl, hpc⟩ rfl hn hsz rfl (lv_room hcat) d hf
end XSITES
section XCALLS
variable {Γ : aΓ} {cc : ByteArray} {Ts : List Cond} {own : String} {nL : Nat} {rm : Room} {pc : Nat} {y : MethodName} {ws : List Cond} {rm' : Room} {n : Nat} {ro : Option Nat}
def oXi (T : xTi) (n : Nat) (ro : Option Nat) (mc ms RC RS nx : Nat) (ex : aXk) : aO := fun K ad k sl ls st X => tk n [] (fun av t => rcv ro X (ck (le4 t) (ck (Nat.ble (k + mc) RC) (ck (Nat.ble (sl + ms) RS) (T av X (fun r X2 => K nx ad (k + mc) (sl + ms) ls (.int r :: t) X2) (fun E X2 => ex E ad (k + mc) (sl + ms) ls X2))))) av) st
theorem snd_Xi {T : xTi} {ex : aXk} (C : FOK Γ cc Ts own nL rm) (CX : FOX Γ) (hs : xSite Γ pc n ro rm'.cells rm'.slots y ws rm') (hM : xMi y ws rm' T) (hex : ∀ E ad k sl ls X, ex E ad k sl ls X → FX Γ pc E ad k sl ls X) : Snd Γ pc (oXi T n ro rm'.cells rm'.slots rm.cells rm.slots (pc + 3) ex) := by
  obtain ⟨p, l, e, R, s, m, args, below, meth, c, Q, G, A, nL'⟩ := Γ
  obtain ⟨hx, hb, hml, hown, hts, hK, hA, rfl, rfl, hB⟩ := C
  intro K hK' ad k sl ls st X ho
  dsimp only [oXi] at ho
  obtain ⟨av, t, rfl, hn, h⟩ := tk_spec ho
  rw [List.append_nil] at h
  obtain ⟨h, hro⟩ := rcv_spec h
  obtain ⟨h4, h⟩ := ck_spec h
  obtain ⟨hc, h⟩ := ck_spec h
  obtain ⟨hsl, h⟩ := ck_spec h
  intro H locs la hP hD hS hl
  have hF := aA_free hD hS hA
  have hrun := hs _ _ _ _ H locs k sl la (av.map (aV ad)) (t.map (aV ad)) (hM l CX.1 G ad H.size av X _ _ h) (aPcX_blind _ _ _ _ _) (fun U hU hW => ⟨aPc_at hP hK hD hB hU hW, by
    have h8 := aZ_at CX.2.1 hS hF hU hW
    exact h8⟩) (by rw [List.length_map]; exact hn) hl.1 (le4_spec ad h4) ⟨Nat.le_of_ble_eq_true hc, Nat.le_of_ble_eq_true hsl⟩ (fun ci hci => by
    obtain ⟨q, As, fs, rfl, hq⟩ := hro ci hci
    have hq2 := aX_get G ad X 0 q _ hq
    rw [Nat.zero_add] at hq2
    obtain ⟨qc, h1, -⟩ := hP q _ hq2
    obtain ⟨cellB, g1, g2, g3⟩ := va_recv hK hP h1 hq2
    exact ⟨ad q, As.map (aV ad), cellB, qc, rfl, h1, g1, g2, g3⟩)
  have hst : List.map (aV ad) (av.reverse ++ t) = (av.map (aV ad)).reverse ++ t.map (aV ad) := by rw [List.map_append, List.map_reverse]
  rw [hst]
  refine vx_calli hrun hS (fun q _ h9 => hF q h9) hF (fun q _ h9 => hF q h9) (fun E ce q9 u t1 H1 locs1 ht hvm hpx hBx hz hk hS1 g1 g2 g3 => ?_) (fun r u t1 H1 locs1 ht hvm hpost hBk hz hk hS1 => ?_)
  · obtain ⟨hE, hP1, hD1⟩ := hBx
    subst hE
    rw [ht] at hP1
    exact hex _ _ _ _ _ _ hpx H1 locs1 la (t.map (aV ad)) ce q9 hP1 (hD1.weaken (fun _ _ _ h9 => hF _ h9)) hS1 hl g1 g2 g3
  · obtain ⟨hP1, hD1⟩ := hBk
    rw [ht] at hP1
    exact hK' _ _ _ _ _ _ _ hpost H1 locs1 la hP1 (hD1.weaken (fun _ _ _ h9 => hF _ h9)) hS1 hl
def oXl (T : xTl) (n : Nat) (ro : Option Nat) (mc ms RC RS nx : Nat) (ex : aXk) : aO := fun K ad k sl ls st X => tk n [] (fun av t => rcv ro X (ck (le4 t) (ck (Nat.ble (k + mc) RC) (ck (Nat.ble (sl + ms) RS) (T av X (fun r X2 => K nx ad (k + mc) (sl + ms) ls (.long r :: t) X2) (fun E X2 => ex E ad (k + mc) (sl + ms) ls X2))))) av) st
theorem snd_Xl {T : xTl} {ex : aXk} (C : FOK Γ cc Ts own nL rm) (CX : FOX Γ) (hs : xSite Γ pc n ro rm'.cells rm'.slots y ws rm') (hM : xMl y ws rm' T) (hex : ∀ E ad k sl ls X, ex E ad k sl ls X → FX Γ pc E ad k sl ls X) : Snd Γ pc (oXl T n ro rm'.cells rm'.slots rm.cells rm.slots (pc + 3) ex) := by
  obtain ⟨p, l, e, R, s, m, args, below, meth, c, Q, G, A, nL'⟩ := Γ
  obtain ⟨hx, hb, hml, hown, hts, hK, hA, rfl, rfl, hB⟩ := C
  intro K hK' ad k sl ls st X ho
  dsimp only [oXl] at ho
  obtain ⟨av, t, rfl, hn, h⟩ := tk_spec ho
  rw [List.append_nil] at h
  obtain ⟨h, hro⟩ := rcv_spec h
  obtain ⟨h4, h⟩ := ck_spec h
  obtain ⟨hc, h⟩ := ck_spec h
  obtain ⟨hsl, h⟩ := ck_spec h
  intro H locs la hP hD hS hl
  have hF := aA_free hD hS hA
  have hrun := hs _ _ _ _ H locs k sl la (av.map (aV ad)) (t.map (aV ad)) (hM l CX.1 G ad H.size av X _ _ h) (aPcX_blind _ _ _ _ _) (fun U hU hW => ⟨aPc_at hP hK hD hB hU hW, by
    have h8 := aZ_at CX.2.1 hS hF hU hW
    exact h8⟩) (by rw [List.length_map]; exact hn) hl.1 (le4_spec ad h4) ⟨Nat.le_of_ble_eq_true hc, Nat.le_of_ble_eq_true hsl⟩ (fun ci hci => by
    obtain ⟨q, As, fs, rfl, hq⟩ := hro ci hci
    have hq2 := aX_get G ad X 0 q _ hq
    rw [Nat.zero_add] at hq2
    obtain ⟨qc, h1, -⟩ := hP q _ hq2
    obtain ⟨cellB, g1, g2, g3⟩ := va_recv hK hP h1 hq2
    exact ⟨ad q, As.map (aV ad), cellB, qc, rfl, h1, g1, g2, g3⟩)
  have hst : List.map (aV ad) (av.reverse ++ t) = (av.map (aV ad)).reverse ++ t.map (aV ad) := by rw [List.map_append, List.map_reverse]
  rw [hst]
  refine vx_calll hrun hS (fun q _ h9 => hF q h9) hF (fun q _ h9 => hF q h9) (fun E ce q9 u t1 H1 locs1 ht hvm hpx hBx hz hk hS1 g1 g2 g3 => ?_) (fun r u t1 H1 locs1 ht hvm hpost hBk hz hk hS1 => ?_)
  · obtain ⟨hE, hP1, hD1⟩ := hBx
    subst hE
    rw [ht] at hP1
    exact hex _ _ _ _ _ _ hpx H1 locs1 la (t.map (aV ad)) ce q9 hP1 (hD1.weaken (fun _ _ _ h9 => hF _ h9)) hS1 hl g1 g2 g3
  · obtain ⟨hP1, hD1⟩ := hBk
    rw [ht] at hP1
    exact hK' _ _ _ _ _ _ _ hpost H1 locs1 la hP1 (hD1.weaken (fun _ _ _ h9 => hF _ h9)) hS1 hl
def oXd (T : xTd) (n : Nat) (ro : Option Nat) (mc ms RC RS nx : Nat) (ex : aXk) : aO := fun K ad k sl ls st X => tk n [] (fun av t => rcv ro X (ck (le4 t) (ck (Nat.ble (k + mc) RC) (ck (Nat.ble (sl + ms) RS) (T av X (fun r X2 => K nx ad (k + mc) (sl + ms) ls (.double r :: t) X2) (fun E X2 => ex E ad (k + mc) (sl + ms) ls X2))))) av) st
theorem snd_Xd {T : xTd} {ex : aXk} (C : FOK Γ cc Ts own nL rm) (CX : FOX Γ) (hs : xSite Γ pc n ro rm'.cells rm'.slots y ws rm') (hM : xMd y ws rm' T) (hex : ∀ E ad k sl ls X, ex E ad k sl ls X → FX Γ pc E ad k sl ls X) : Snd Γ pc (oXd T n ro rm'.cells rm'.slots rm.cells rm.slots (pc + 3) ex) := by
  obtain ⟨p, l, e, R, s, m, args, below, meth, c, Q, G, A, nL'⟩ := Γ
  obtain ⟨hx, hb, hml, hown, hts, hK, hA, rfl, rfl, hB⟩ := C
  intro K hK' ad k sl ls st X ho
  dsimp only [oXd] at ho
  obtain ⟨av, t, rfl, hn, h⟩ := tk_spec ho
  rw [List.append_nil] at h
  obtain ⟨h, hro⟩ := rcv_spec h
  obtain ⟨h4, h⟩ := ck_spec h
  obtain ⟨hc, h⟩ := ck_spec h
  obtain ⟨hsl, h⟩ := ck_spec h
  intro H locs la hP hD hS hl
  have hF := aA_free hD hS hA
  have hrun := hs _ _ _ _ H locs k sl la (av.map (aV ad)) (t.map (aV ad)) (hM l CX.1 G ad H.size av X _ _ h) (aPcX_blind _ _ _ _ _) (fun U hU hW => ⟨aPc_at hP hK hD hB hU hW, by
    have h8 := aZ_at CX.2.1 hS hF hU hW
    exact h8⟩) (by rw [List.length_map]; exact hn) hl.1 (le4_spec ad h4) ⟨Nat.le_of_ble_eq_true hc, Nat.le_of_ble_eq_true hsl⟩ (fun ci hci => by
    obtain ⟨q, As, fs, rfl, hq⟩ := hro ci hci
    have hq2 := aX_get G ad X 0 q _ hq
    rw [Nat.zero_add] at hq2
    obtain ⟨qc, h1, -⟩ := hP q _ hq2
    obtain ⟨cellB, g1, g2, g3⟩ := va_recv hK hP h1 hq2
    exact ⟨ad q, As.map (aV ad), cellB, qc, rfl, h1, g1, g2, g3⟩)
  have hst : List.map (aV ad) (av.reverse ++ t) = (av.map (aV ad)).reverse ++ t.map (aV ad) := by rw [List.map_append, List.map_reverse]
  rw [hst]
  refine vx_calld hrun hS (fun q _ h9 => hF q h9) hF (fun q _ h9 => hF q h9) (fun E ce q9 u t1 H1 locs1 ht hvm hpx hBx hz hk hS1 g1 g2 g3 => ?_) (fun r u t1 H1 locs1 ht hvm hpost hBk hz hk hS1 => ?_)
  · obtain ⟨hE, hP1, hD1⟩ := hBx
    subst hE
    rw [ht] at hP1
    exact hex _ _ _ _ _ _ hpx H1 locs1 la (t.map (aV ad)) ce q9 hP1 (hD1.weaken (fun _ _ _ h9 => hF _ h9)) hS1 hl g1 g2 g3
  · obtain ⟨hP1, hD1⟩ := hBk
    rw [ht] at hP1
    exact hK' _ _ _ _ _ _ _ hpost H1 locs1 la hP1 (hD1.weaken (fun _ _ _ h9 => hF _ h9)) hS1 hl
def oXv (T : xTv) (n : Nat) (ro : Option Nat) (mc ms RC RS nx : Nat) (ex : aXk) : aO := fun K ad k sl ls st X => tk n [] (fun av t => rcv ro X (ck (le4 t) (ck (Nat.ble (k + mc) RC) (ck (Nat.ble (sl + ms) RS) (T av X (fun X2 => K nx ad (k + mc) (sl + ms) ls t X2) (fun E X2 => ex E ad (k + mc) (sl + ms) ls X2))))) av) st
theorem snd_Xv {T : xTv} {ex : aXk} (C : FOK Γ cc Ts own nL rm) (CX : FOX Γ) (hs : xSite Γ pc n ro rm'.cells rm'.slots y ws rm') (hM : xMv y ws rm' T) (hex : ∀ E ad k sl ls X, ex E ad k sl ls X → FX Γ pc E ad k sl ls X) : Snd Γ pc (oXv T n ro rm'.cells rm'.slots rm.cells rm.slots (pc + 3) ex) := by
  obtain ⟨p, l, e, R, s, m, args, below, meth, c, Q, G, A, nL'⟩ := Γ
  obtain ⟨hx, hb, hml, hown, hts, hK, hA, rfl, rfl, hB⟩ := C
  intro K hK' ad k sl ls st X ho
  dsimp only [oXv] at ho
  obtain ⟨av, t, rfl, hn, h⟩ := tk_spec ho
  rw [List.append_nil] at h
  obtain ⟨h, hro⟩ := rcv_spec h
  obtain ⟨h4, h⟩ := ck_spec h
  obtain ⟨hc, h⟩ := ck_spec h
  obtain ⟨hsl, h⟩ := ck_spec h
  intro H locs la hP hD hS hl
  have hF := aA_free hD hS hA
  have hrun := hs _ _ _ _ H locs k sl la (av.map (aV ad)) (t.map (aV ad)) (hM l CX.1 G ad H.size av X _ _ h) (aPcX_blind _ _ _ _ _) (fun U hU hW => ⟨aPc_at hP hK hD hB hU hW, by
    have h8 := aZ_at CX.2.1 hS hF hU hW
    exact h8⟩) (by rw [List.length_map]; exact hn) hl.1 (le4_spec ad h4) ⟨Nat.le_of_ble_eq_true hc, Nat.le_of_ble_eq_true hsl⟩ (fun ci hci => by
    obtain ⟨q, As, fs, rfl, hq⟩ := hro ci hci
    have hq2 := aX_get G ad X 0 q _ hq
    rw [Nat.zero_add] at hq2
    obtain ⟨qc, h1, -⟩ := hP q _ hq2
    obtain ⟨cellB, g1, g2, g3⟩ := va_recv hK hP h1 hq2
    exact ⟨ad q, As.map (aV ad), cellB, qc, rfl, h1, g1, g2, g3⟩)
  have hst : List.map (aV ad) (av.reverse ++ t) = (av.map (aV ad)).reverse ++ t.map (aV ad) := by rw [List.map_append, List.map_reverse]
  rw [hst]
  refine vx_callv hrun hS (fun q _ h9 => hF q h9) hF (fun q _ h9 => hF q h9) (fun E ce q9 u t1 H1 locs1 ht hvm hpx hBx hz hk hS1 g1 g2 g3 => ?_) (fun u t1 H1 locs1 ht hvm hpost hBk hz hk hS1 => ?_)
  · obtain ⟨hE, hP1, hD1⟩ := hBx
    subst hE
    rw [ht] at hP1
    exact hex _ _ _ _ _ _ hpx H1 locs1 la (t.map (aV ad)) ce q9 hP1 (hD1.weaken (fun _ _ _ h9 => hF _ h9)) hS1 hl g1 g2 g3
  · obtain ⟨hP1, hD1⟩ := hBk
    rw [ht] at hP1
    exact hK' _ _ _ _ _ _ _ hpost H1 locs1 la hP1 (hD1.weaken (fun _ _ _ h9 => hF _ h9)) hS1 hl
end XCALLS
/-! ===== the ends of a body ===== -/
/-- what Q is: of a method that returns, or of one that may throw too -/
def isQ (Γ : aΓ) (Qc : Array Value → State → Outcome → State → Prop) (rm : Room) (ad0 : Nat → Nat) (X0 : List aE) : Prop :=
  match Γ with
  | (p, l, e, R, s, m, args, below, meth, c, Q, K, A, nL) => (Q = MQ below Qc args s rm.cells rm.slots (aA K ad0 X0 s.heap.size) ∨ ∃ XC, Q = vx_MQ below Qc XC args s rm.cells rm.slots (aA K ad0 X0 s.heap.size)) ∧ A = aA K ad0 X0 s.heap.size ∧ meth.locks = false
def hsz (Γ : aΓ) : Nat := match Γ with
  | (p, l, e, R, s, m, args, below, meth, c, Q, K, A, nL) => s.heap.size
def gK (Γ : aΓ) : aG := match Γ with
  | (p, l, e, R, s, m, args, below, meth, c, Q, K, A, nL) => K
def rTy (Γ : aΓ) : Option FieldType := match Γ with
  | (p, l, e, R, s, m, args, below, meth, c, Q, K, A, nL) => meth.sig.returnType
section ENDS
variable {Γ : aΓ} {cc : ByteArray} {Ts : List Cond} {own : String} {nL : Nat} {rm : Room} {pc : Nat} {ad0 : Nat → Nat} {X0 : List aE}
def oRi (post : Int32 → List aE → Prop) (ad0 : Nat → Nat) (mc ms : Nat) : aO := fun K ad k sl ls st X => pI (fun r t => ck (List.isEmpty t) (ck (Nat.ble k mc) (ck (Nat.ble sl ms) (ad = ad0 ∧ post r X)))) st
theorem snd_Ri {post : Int32 → List aE → Prop} (C : FOK Γ cc Ts own nL rm) (hQ : isQ Γ (va_Qi post (aBk (gK Γ) ad0 X0 (hsz Γ)) (aA (gK Γ) ad0 X0 (hsz Γ))) rm ad0 X0) (hr : rTy Γ = some .int) (d : decode cc pc = .ok (.ireturn, 1)) : Snd Γ pc (oRi post ad0 rm.cells rm.slots) := by
  obtain ⟨p, l, e, R, s, m, args, below, meth, c, Q, G, A, nL'⟩ := Γ
  obtain ⟨hx, hb, hml, hown, hts, hK, hA, rfl, rfl, hB⟩ := C
  intro K hK' ad k sl ls st X ho
  dsimp only [oRi] at ho
  obtain ⟨r, t, rfl, h6⟩ := pI_spec ho
  obtain ⟨h4, h7⟩ := ck_spec h6
  obtain ⟨hc, h8⟩ := ck_spec h7
  obtain ⟨hsl, h9⟩ := ck_spec h8
  obtain ⟨had, hpost⟩ := h9
  have h5 := List.isEmpty_iff.mp h4
  subst h5
  subst had
  obtain ⟨hQ, hAe, hlocks⟩ := hQ
  subst hAe
  intro H locs la hP hD hS hl
  have key : W p l e R s m args below meth c H locs k sl (MQ below (va_Qi post (aBk G ad X0 s.heap.size) (aA G ad X0 s.heap.size)) args s R.cells R.slots (aA G ad X0 s.heap.size)) (F0 m pc la (List.map (aV ad) [.int r])) := by
    refine W.widen (k := R.cells) (n := R.slots) (Nat.le_of_ble_eq_true hc) (Nat.le_of_ble_eq_true hsl) ?_
    exact W.iret hx hb hr (fun t ht hW => ⟨⟨r, X, rfl, hpost, by rw [ht]; exact hP, hD⟩, hS.F ht⟩) hS.2.2 d hlocks
  rcases hQ with hQ | ⟨XC, hQ⟩
  · exact hQ ▸ key
  · exact hQ ▸ vx_ret key
def oRl (post : Int64 → List aE → Prop) (ad0 : Nat → Nat) (mc ms : Nat) : aO := fun K ad k sl ls st X => pL (fun r t => ck (List.isEmpty t) (ck (Nat.ble k mc) (ck (Nat.ble sl ms) (ad = ad0 ∧ post r X)))) st
theorem snd_Rl {post : Int64 → List aE → Prop} (C : FOK Γ cc Ts own nL rm) (hQ : isQ Γ (va_Ql post (aBk (gK Γ) ad0 X0 (hsz Γ)) (aA (gK Γ) ad0 X0 (hsz Γ))) rm ad0 X0) (hr : rTy Γ = some .long) (d : decode cc pc = .ok (.lreturn, 1)) : Snd Γ pc (oRl post ad0 rm.cells rm.slots) := by
  obtain ⟨p, l, e, R, s, m, args, below, meth, c, Q, G, A, nL'⟩ := Γ
  obtain ⟨hx, hb, hml, hown, hts, hK, hA, rfl, rfl, hB⟩ := C
  intro K hK' ad k sl ls st X ho
  dsimp only [oRl] at ho
  obtain ⟨r, t, rfl, h6⟩ := pL_spec ho
  obtain ⟨h4, h7⟩ := ck_spec h6
  obtain ⟨hc, h8⟩ := ck_spec h7
  obtain ⟨hsl, h9⟩ := ck_spec h8
  obtain ⟨had, hpost⟩ := h9
  have h5 := List.isEmpty_iff.mp h4
  subst h5
  subst had
  obtain ⟨hQ, hAe, hlocks⟩ := hQ
  subst hAe
  intro H locs la hP hD hS hl
  have key : W p l e R s m args below meth c H locs k sl (MQ below (va_Ql post (aBk G ad X0 s.heap.size) (aA G ad X0 s.heap.size)) args s R.cells R.slots (aA G ad X0 s.heap.size)) (F0 m pc la (List.map (aV ad) [.long r])) := by
    refine W.widen (k := R.cells) (n := R.slots) (Nat.le_of_ble_eq_true hc) (Nat.le_of_ble_eq_true hsl) ?_
    exact W.lret hx hb hr (fun t ht hW => ⟨⟨r, X, rfl, hpost, by rw [ht]; exact hP, hD⟩, hS.F ht⟩) hS.2.2 d hlocks
  rcases hQ with hQ | ⟨XC, hQ⟩
  · exact hQ ▸ key
  · exact hQ ▸ vx_ret key
def oRd (post : UInt64 → List aE → Prop) (ad0 : Nat → Nat) (mc ms : Nat) : aO := fun K ad k sl ls st X => pD (fun r t => ck (List.isEmpty t) (ck (Nat.ble k mc) (ck (Nat.ble sl ms) (ad = ad0 ∧ post r X)))) st
theorem snd_Rd {post : UInt64 → List aE → Prop} (C : FOK Γ cc Ts own nL rm) (hQ : isQ Γ (va_Qd post (aBk (gK Γ) ad0 X0 (hsz Γ)) (aA (gK Γ) ad0 X0 (hsz Γ))) rm ad0 X0) (hr : rTy Γ = some .double) (d : decode cc pc = .ok (.dreturn, 1)) : Snd Γ pc (oRd post ad0 rm.cells rm.slots) := by
  obtain ⟨p, l, e, R, s, m, args, below, meth, c, Q, G, A, nL'⟩ := Γ
  obtain ⟨hx, hb, hml, hown, hts, hK, hA, rfl, rfl, hB⟩ := C
  intro K hK' ad k sl ls st X ho
  dsimp only [oRd] at ho
  obtain ⟨r, t, rfl, h6⟩ := pD_spec ho
  obtain ⟨h4, h7⟩ := ck_spec h6
  obtain ⟨hc, h8⟩ := ck_spec h7
  obtain ⟨hsl, h9⟩ := ck_spec h8
  obtain ⟨had, hpost⟩ := h9
  have h5 := List.isEmpty_iff.mp h4
  subst h5
  subst had
  obtain ⟨hQ, hAe, hlocks⟩ := hQ
  subst hAe
  intro H locs la hP hD hS hl
  have key : W p l e R s m args below meth c H locs k sl (MQ below (va_Qd post (aBk G ad X0 s.heap.size) (aA G ad X0 s.heap.size)) args s R.cells R.slots (aA G ad X0 s.heap.size)) (F0 m pc la (List.map (aV ad) [.double r])) := by
    refine W.widen (k := R.cells) (n := R.slots) (Nat.le_of_ble_eq_true hc) (Nat.le_of_ble_eq_true hsl) ?_
    exact W.dret hx hb hr (fun t ht hW => ⟨⟨r, X, rfl, hpost, by rw [ht]; exact hP, hD⟩, hS.F ht⟩) hS.2.2 d hlocks
  rcases hQ with hQ | ⟨XC, hQ⟩
  · exact hQ ▸ key
  · exact hQ ▸ vx_ret key
def oRz (post : Int32 → List aE → Prop) (ad0 : Nat → Nat) (mc ms : Nat) : aO := fun K ad k sl ls st X => pI (fun r t => ck (List.isEmpty t) (ck (Nat.ble k mc) (ck (Nat.ble sl ms) ((r = 0 ∨ r = 1) ∧ ad = ad0 ∧ post r X)))) st
theorem snd_Rz {post : Int32 → List aE → Prop} (C : FOK Γ cc Ts own nL rm) (hQ : isQ Γ (va_Qi post (aBk (gK Γ) ad0 X0 (hsz Γ)) (aA (gK Γ) ad0 X0 (hsz Γ))) rm ad0 X0) (hr : rTy Γ = some .boolean) (d : decode cc pc = .ok (.ireturn, 1)) : Snd Γ pc (oRz post ad0 rm.cells rm.slots) := by
  obtain ⟨p, l, e, R, s, m, args, below, meth, c, Q, G, A, nL'⟩ := Γ
  obtain ⟨hx, hb, hml, hown, hts, hK, hA, rfl, rfl, hB⟩ := C
  intro K hK' ad k sl ls st X ho
  dsimp only [oRz] at ho
  obtain ⟨r, t, rfl, h6⟩ := pI_spec ho
  obtain ⟨h4, h7⟩ := ck_spec h6
  obtain ⟨hc, h8⟩ := ck_spec h7
  obtain ⟨hsl, h9⟩ := ck_spec h8
  obtain ⟨hz, had, hpost⟩ := h9
  have h5 := List.isEmpty_iff.mp h4
  subst h5
  subst had
  obtain ⟨hQ, hAe, hlocks⟩ := hQ
  subst hAe
  intro H locs la hP hD hS hl
  have key : W p l e R s m args below meth c H locs k sl (MQ below (va_Qi post (aBk G ad X0 s.heap.size) (aA G ad X0 s.heap.size)) args s R.cells R.slots (aA G ad X0 s.heap.size)) (F0 m pc la (List.map (aV ad) [.int r])) := by
    refine W.widen (k := R.cells) (n := R.slots) (Nat.le_of_ble_eq_true hc) (Nat.le_of_ble_eq_true hsl) ?_
    exact W.zret hx hb hr (by rcases hz with rfl | rfl <;> decide) (fun t ht hW => ⟨⟨r, X, rfl, hpost, by rw [ht]; exact hP, hD⟩, hS.F ht⟩) hS.2.2 d hlocks
  rcases hQ with hQ | ⟨XC, hQ⟩
  · exact hQ ▸ key
  · exact hQ ▸ vx_ret key
def oRv (post : List aE → Prop) (ad0 : Nat → Nat) (mc ms : Nat) : aO := fun K ad k sl ls st X => ck (List.isEmpty st) (ck (Nat.ble k mc) (ck (Nat.ble sl ms) (ad = ad0 ∧ post X)))
theorem snd_Rv {post : List aE → Prop} (C : FOK Γ cc Ts own nL rm) (hQ : isQ Γ (va_Qv post (aBk (gK Γ) ad0 X0 (hsz Γ)) (aA (gK Γ) ad0 X0 (hsz Γ))) rm ad0 X0) (hr : rTy Γ = none) (d : decode cc pc = .ok (.return_, 1)) : Snd Γ pc (oRv post ad0 rm.cells rm.slots) := by
  obtain ⟨p, l, e, R, s, m, args, below, meth, c, Q, G, A, nL'⟩ := Γ
  obtain ⟨hx, hb, hml, hown, hts, hK, hA, rfl, rfl, hB⟩ := C
  intro K hK' ad k sl ls st X ho
  dsimp only [oRv] at ho
  obtain ⟨h4, h7⟩ := ck_spec ho
  obtain ⟨hc, h8⟩ := ck_spec h7
  obtain ⟨hsl, h9⟩ := ck_spec h8
  obtain ⟨had, hpost⟩ := h9
  have h5 := List.isEmpty_iff.mp h4
  subst h5
  subst had
  obtain ⟨hQ, hAe, hlocks⟩ := hQ
  subst hAe
  intro H locs la hP hD hS hl
  have key : W p l e R s m args below meth c H locs k sl (MQ below (va_Qv post (aBk G ad X0 s.heap.size) (aA G ad X0 s.heap.size)) args s R.cells R.slots (aA G ad X0 s.heap.size)) (F0 m pc la (List.map (aV ad) [])) := by
    refine W.widen (k := R.cells) (n := R.slots) (Nat.le_of_ble_eq_true hc) (Nat.le_of_ble_eq_true hsl) ?_
    exact W.vret hx hb hr (fun t ht hW => ⟨⟨X, rfl, hpost, by rw [ht]; exact hP, hD⟩, hS.F ht⟩) hS.2.2 d hlocks
  rcases hQ with hQ | ⟨XC, hQ⟩
  · exact hQ ▸ key
  · exact hQ ▸ vx_ret key
/-- a throw that leaves the body -/
def isX (Γ : aΓ) (ex : aXp) (rm : Room) (ad0 : Nat → Nat) (X0 : List aE) : Prop :=
  match Γ with
  | (p, l, e, R, s, m, args, below, meth, c, Q, K, A, nL) => (∃ Qc, Q = vx_MQ below Qc (aXC K ad0 X0 s.heap.size ex) args s rm.cells rm.slots (aA K ad0 X0 s.heap.size)) ∧ A = aA K ad0 X0 s.heap.size ∧ (∀ x ∈ c.exceptionTable.toList, False)
def exU (ex : aXp) (ad0 : Nat → Nat) (mc ms : Nat) : aXk := fun E ad k sl _ X => ck (Nat.ble k mc) (ck (Nat.ble sl ms) (ad = ad0 ∧ ex E X))
theorem exU_FX {ex : aXp} (C : FOK Γ cc Ts own nL rm) (CX : FOX Γ) (hQ : isX Γ ex rm ad0 X0) (E : String) (ad : Nat → Nat) (k sl : Nat) (ls : List (Nat × Value)) (X : List aE) (h : exU ex ad0 rm.cells rm.slots E ad k sl ls X) : FX Γ pc E ad k sl ls X := by
  obtain ⟨p, l, e, R, s, m, args, below, meth, c, Q, G, A, nL'⟩ := Γ
  obtain ⟨hx, hb, hml, hown, hts, hK, hA, rfl, rfl, hB⟩ := C
  obtain ⟨hc, h⟩ := ck_spec h
  obtain ⟨hsl, h⟩ := ck_spec h
  obtain ⟨rfl, hpost⟩ := h
  obtain ⟨⟨Qc, hQ⟩, hAe, hno⟩ := hQ
  subst hAe
  subst hQ
  intro H locs la rest ce q hP hD hS hl g1 g2 g3
  exact vx_out (fun x hx => (hno x hx).elim) CX.2.2 g1 g2 g3 (fun t ht hv => ⟨(E, X), hpost, ⟨rfl, by rw [ht]; exact hP, hD⟩, hS.F ht⟩) hS.2.2 (Nat.le_of_ble_eq_true hc) (Nat.le_of_ble_eq_true hsl)
/-- throw new E("text") -/
def oTh (E : String) (ex : aXp) (ad0 : Nat → Nat) (mc ms : Nat) : aO := fun K ad k sl ls st X => ck (le4 st) (ck (Nat.ble (k + 1) mc) (ck (Nat.ble (sl + 6) ms) (ad = ad0 ∧ ex E X)))
theorem snd_Th {ex : aXp} {E text : String} {names : List String} {ik is ic : Nat} (C : FOK Γ cc Ts own nL rm) (CX : FOX Γ) (hQ : isX Γ ex rm ad0 X0) (hcls : Bundle.fit E = true) (hnames : ∀ n ∈ names, Bundle.fit n = true)
    (hk : Cond.classLink own ik E ∈ Ts) (hini : Cond.initialized E ∈ Ts) (hstr : (own, is, text) ∈ aSt) (hat : ∀ w ∈ vx_atS own ic E names, w ∈ Ts ++ aEl) (hgood : ∀ w ∈ Cond.classLink own ik E :: Cond.initialized E :: vx_atS own ic E names, vx_ot w = true)
    (d0 : decode cc pc = .ok (.new ik, 3)) (d3 : decode cc (pc + 3) = .ok (.dup, 1)) (d4 : decode cc (pc + 4) = .ok (.ldc is, 2)) (d6 : decode cc (pc + 6) = .ok (.invokespecial ic, 3)) (d9 : decode cc (pc + 9) = .ok (.athrow, 1))
    (hRf : names.length + 3 < rm.frames) (hRl : 8 + (13 * (names.length + 1) + 43) ≤ rm.locals) : Snd Γ pc (oTh E ex ad0 rm.cells rm.slots) := by
  obtain ⟨p, l, e, R, s, m, args, below, meth, c, Q, G, A, nL'⟩ := Γ
  obtain ⟨hx, hb, hml, hown, hts, hK, hA, rfl, rfl, hB⟩ := C
  intro K hK' ad k sl ls st X ho
  dsimp only [oTh] at ho
  obtain ⟨h4, h⟩ := ck_spec ho
  obtain ⟨hc, h⟩ := ck_spec h
  obtain ⟨hsl, h⟩ := ck_spec h
  obtain ⟨rfl, hpost⟩ := h
  obtain ⟨⟨Qc, hQ⟩, hAe, hno⟩ := hQ
  subst hAe
  subst hQ
  obtain ⟨sa, hsa⟩ := hB.2.1 _ hstr
  intro H locs la hP hD hS hl
  have h5 := le4_spec ad h4
  exact vx_throwS hx hb CX.1 hown hcls hnames (hts _ hk) (hts _ hini) hsa (fun w hw => (List.mem_append.mp (hat w hw)).elim (hts w) (hB.2.2.use w)) hgood CX.2.1.1 CX.2.1.2 hS (hl.1.trans hml.symm) d0 d3 d4 d6 d9 (fun x hx => (hno x hx).elim) hRf (by omega) (Nat.le_of_ble_eq_true hc) (Nat.le_of_ble_eq_true hsl) CX.2.2
    (fun t hv hz hq => ⟨(E, X), hpost, ⟨rfl, hP.kept (fun k9 q9 h9 => hq q9.1 (hP k9 q9 h9).lt), hD⟩, ⟨Nat.le_trans hS.1 hz, fun q h1 h2 => (hq q (Nat.lt_of_lt_of_le h1 hS.1)).trans (hS.2.1 q h1 h2)⟩⟩) hS.2.2 (Nat.le_of_ble_eq_true hc) (Nat.le_of_ble_eq_true hsl)
end ENDS
end
section
/-! ===== a contract out of a body ===== -/
def al : List Value → Nat
  | [] => 0
  | v :: t => v.category + al t
theorem al_sl (ad : Nat → Nat) : ∀ av : List Value, (lg_sl (av.map (aV ad))).length = al av
  | [] => rfl
  | v :: t => by
    have h := al_sl ad t
    cases v <;> simp [lg_sl, al, aV, Value.category] at h ⊢ <;> omega
theorem aL_args (ad : Nat → Nat) : ∀ (i : Nat) (av : List Value), lv_args i (av.map (aV ad)) = aL ad (lv_args i av)
  | _, [] => rfl
  | i, v :: t => by
    have h := aL_args ad (if v.category = 2 then i + 2 else i + 1) t
    simp only [List.map_cons, lv_args, aL, aV_cat]
    rw [h]
    rfl
theorem aMi_of {y : MethodName} {cc : ByteArray} {maxL : Nat} {ws ws' : List Cond} {rm : Room} {own : String} {T : aTi} (hy : plainName y.cls = true) (hown : y.cls = own) (hw : ws = Cond.code y cc maxL (some .int) :: ws') (hlen : ∀ av X post, T av X post → al av ≤ maxL)
    (body : ∀ (Γ : aΓ) (ad : Nat → Nat) (av : List Value) (X : List aE) (post : Int32 → List aE → Prop), FOK Γ cc ws own maxL rm → isQ Γ (va_Qi post (aBk (gK Γ) ad X (hsz Γ)) (aA (gK Γ) ad X (hsz Γ))) rm ad X → rTy Γ = some .int → T av X post → FG Γ 0 ad 0 0 (lv_args 0 av) [] X) : aMi y ws rm T := by
  intro l K ad sz av X post hT
  refine Met.ofW (cc := cc) (maxL := maxL) (ret := some .int) hy hw ?_
  intro p e s m args below meth c s₁ B hml hv
  obtain ⟨hargs, hsz, hP, hK, hD0, hB⟩ := hv
  subst hargs
  subst hsz
  have hts := atoms_spec (ws := ws) B.pre
  have hown' : s.vm.findClass own = some m.cls := hown ▸ findClass_of_methodNamed B.named
  have hD := hD0.self (sz := s.heap.size)
  have hl := lv_entry (av.map (aV ad)) (n := maxL) (by rw [al_sl]; exact hlen av X post hT)
  rw [lg_entry_eq]
  rw [aL_args] at hl
  exact body (p, l, e, (headSpec ws rm).room, s, m, (av.map (aV ad)).toArray, below, meth, c, MQ below (va_Qi post (aBk K ad X s.heap.size) (aA K ad X s.heap.size)) (av.map (aV ad)).toArray s rm.cells rm.slots (aA K ad X s.heap.size), K, aA K ad X s.heap.size, maxL) ad av X post
    ⟨B.exec, B.bytes, hml, hown', hts, hK, fun q h => Or.inr h, rfl, rfl, hB⟩ ⟨Or.inl rfl, rfl, B.notSynchronized⟩ B.returns hT s.heap [] _ hP hD va_S.rf hl
theorem xMi_of {y : MethodName} {cc : ByteArray} {maxL : Nat} {ws ws' : List Cond} {rm : Room} {own : String} {T : xTi} (hy : plainName y.cls = true) (hown : y.cls = own) (hw : ws = Cond.code y cc maxL (some .int) :: ws') (hlen : ∀ av X post ex, T av X post ex → al av ≤ maxL)
    (body : ∀ (Γ : aΓ) (ad : Nat → Nat) (av : List Value) (X : List aE) (post : Int32 → List aE → Prop) (ex : aXp), FOK Γ cc ws own maxL rm → FOX Γ → isQ Γ (va_Qi post (aBk (gK Γ) ad X (hsz Γ)) (aA (gK Γ) ad X (hsz Γ))) rm ad X → isX Γ ex rm ad X → rTy Γ = some .int → T av X post ex → FG Γ 0 ad 0 0 (lv_args 0 av) [] X) : xMi y ws rm T := by
  intro l hst K ad sz av X post ex hT
  refine vx_ofW (cc := cc) (maxL := maxL) (ret := some .int) hy hw ?_
  intro p e s m args below meth c s₁ B hml hno hv
  obtain ⟨⟨hargs, hsz, hP, hK, hD0, hB⟩, hZ⟩ := hv
  subst hargs
  subst hsz
  have hts := atoms_spec (ws := ws) B.pre
  have hown' : s.vm.findClass own = some m.cls := hown ▸ findClass_of_methodNamed B.named
  have hD := hD0.self (sz := s.heap.size)
  have hl := lv_entry (av.map (aV ad)) (n := maxL) (by rw [al_sl]; exact hlen av X post ex hT)
  rw [lg_entry_eq]
  rw [aL_args] at hl
  exact body (p, l, e, (headSpec ws rm).room, s, m, (av.map (aV ad)).toArray, below, meth, c, vx_MQ below (va_Qi post (aBk K ad X s.heap.size) (aA K ad X s.heap.size)) (aXC K ad X s.heap.size ex) (av.map (aV ad)).toArray s rm.cells rm.slots (aA K ad X s.heap.size), K, aA K ad X s.heap.size, maxL) ad av X post ex
    ⟨B.exec, B.bytes, hml, hown', hts, hK, fun q h => Or.inr h, rfl, rfl, hB⟩ ⟨hst, hZ, B.notSynchronized⟩ ⟨Or.inr ⟨_, rfl⟩, rfl, B.notSynchronized⟩ ⟨⟨_, rfl⟩, rfl, hno⟩ B.returns hT s.heap [] _ hP hD va_S.rf hl
theorem aMz_of {y : MethodName} {cc : ByteArray} {maxL : Nat} {ws ws' : List Cond} {rm : Room} {own : String} {T : aTi} (hy : plainName y.cls = true) (hown : y.cls = own) (hw : ws = Cond.code y cc maxL (some .boolean) :: ws') (hlen : ∀ av X post, T av X post → al av ≤ maxL)
    (body : ∀ (Γ : aΓ) (ad : Nat → Nat) (av : List Value) (X : List aE) (post : Int32 → List aE → Prop), FOK Γ cc ws own maxL rm → isQ Γ (va_Qi post (aBk (gK Γ) ad X (hsz Γ)) (aA (gK Γ) ad X (hsz Γ))) rm ad X → rTy Γ = some .boolean → T av X post → FG Γ 0 ad 0 0 (lv_args 0 av) [] X) : aMi y ws rm T := by
  intro l K ad sz av X post hT
  refine Met.ofW (cc := cc) (maxL := maxL) (ret := some .boolean) hy hw ?_
  intro p e s m args below meth c s₁ B hml hv
  obtain ⟨hargs, hsz, hP, hK, hD0, hB⟩ := hv
  subst hargs
  subst hsz
  have hts := atoms_spec (ws := ws) B.pre
  have hown' : s.vm.findClass own = some m.cls := hown ▸ findClass_of_methodNamed B.named
  have hD := hD0.self (sz := s.heap.size)
  have hl := lv_entry (av.map (aV ad)) (n := maxL) (by rw [al_sl]; exact hlen av X post hT)
  rw [lg_entry_eq]
  rw [aL_args] at hl
  exact body (p, l, e, (headSpec ws rm).room, s, m, (av.map (aV ad)).toArray, below, meth, c, MQ below (va_Qi post (aBk K ad X s.heap.size) (aA K ad X s.heap.size)) (av.map (aV ad)).toArray s rm.cells rm.slots (aA K ad X s.heap.size), K, aA K ad X s.heap.size, maxL) ad av X post
    ⟨B.exec, B.bytes, hml, hown', hts, hK, fun q h => Or.inr h, rfl, rfl, hB⟩ ⟨Or.inl rfl, rfl, B.notSynchronized⟩ B.returns hT s.heap [] _ hP hD va_S.rf hl
theorem xMz_of {y : MethodName} {cc : ByteArray} {maxL : Nat} {ws ws' : List Cond} {rm : Room} {own : String} {T : xTi} (hy : plainName y.cls = true) (hown : y.cls = own) (hw : ws = Cond.code y cc maxL (some .boolean) :: ws') (hlen : ∀ av X post ex, T av X post ex → al av ≤ maxL)
    (body : ∀ (Γ : aΓ) (ad : Nat → Nat) (av : List Value) (X : List aE) (post : Int32 → List aE → Prop) (ex : aXp), FOK Γ cc ws own maxL rm → FOX Γ → isQ Γ (va_Qi post (aBk (gK Γ) ad X (hsz Γ)) (aA (gK Γ) ad X (hsz Γ))) rm ad X → isX Γ ex rm ad X → rTy Γ = some .boolean → T av X post ex → FG Γ 0 ad 0 0 (lv_args 0 av) [] X) : xMi y ws rm T := by
  intro l hst K ad sz av X post ex hT
  refine vx_ofW (cc := cc) (maxL := maxL) (ret := some .boolean) hy hw ?_
  intro p e s m args below meth c s₁ B hml hno hv
  obtain ⟨⟨hargs, hsz, hP, hK, hD0, hB⟩, hZ⟩ := hv
  subst hargs
  subst hsz
  have hts := atoms_spec (ws := ws) B.pre
  have hown' : s.vm.findClass own = some m.cls := hown ▸ findClass_of_methodNamed B.named
  have hD := hD0.self (sz := s.heap.size)
  have hl := lv_entry (av.map (aV ad)) (n := maxL) (by rw [al_sl]; exact hlen av X post ex hT)
  rw [lg_entry_eq]
  rw [aL_args] at hl
  exact body (p, l, e, (headSpec ws rm).room, s, m, (av.map (aV ad)).toArray, below, meth, c, vx_MQ below (va_Qi post (aBk K ad X s.heap.size) (aA K ad X s.heap.size)) (aXC K ad X s.heap.size ex) (av.map (aV ad)).toArray s rm.cells rm.slots (aA K ad X s.heap.size), K, aA K ad X s.heap.size, maxL) ad av X post ex
    ⟨B.exec, B.bytes, hml, hown', hts, hK, fun q h => Or.inr h, rfl, rfl, hB⟩ ⟨hst, hZ, B.notSynchronized⟩ ⟨Or.inr ⟨_, rfl⟩, rfl, B.notSynchronized⟩ ⟨⟨_, rfl⟩, rfl, hno⟩ B.returns hT s.heap [] _ hP hD va_S.rf hl
theorem aMl_of {y : MethodName} {cc : ByteArray} {maxL : Nat} {ws ws' : List Cond} {rm : Room} {own : String} {T : aTl} (hy : plainName y.cls = true) (hown : y.cls = own) (hw : ws = Cond.code y cc maxL (some .long) :: ws') (hlen : ∀ av X post, T av X post → al av ≤ maxL)
    (body : ∀ (Γ : aΓ) (ad : Nat → Nat) (av : List Value) (X : List aE) (post : Int64 → List aE → Prop), FOK Γ cc ws own maxL rm → isQ Γ (va_Ql post (aBk (gK Γ) ad X (hsz Γ)) (aA (gK Γ) ad X (hsz Γ))) rm ad X → rTy Γ = some .long → T av X post → FG Γ 0 ad 0 0 (lv_args 0 av) [] X) : aMl y ws rm T := by
  intro l K ad sz av X post hT
  refine Met.ofW (cc := cc) (maxL := maxL) (ret := some .long) hy hw ?_
  intro p e s m args below meth c s₁ B hml hv
  obtain ⟨hargs, hsz, hP, hK, hD0, hB⟩ := hv
  subst hargs
  subst hsz
  have hts := atoms_spec (ws := ws) B.pre
  have hown' : s.vm.findClass own = some m.cls := hown ▸ findClass_of_methodNamed B.named
  have hD := hD0.self (sz := s.heap.size)
  have hl := lv_entry (av.map (aV ad)) (n := maxL) (by rw [al_sl]; exact hlen av X post hT)
  rw [lg_entry_eq]
  rw [aL_args] at hl
  exact body (p, l, e, (headSpec ws rm).room, s, m, (av.map (aV ad)).toArray, below, meth, c, MQ below (va_Ql post (aBk K ad X s.heap.size) (aA K ad X s.heap.size)) (av.map (aV ad)).toArray s rm.cells rm.slots (aA K ad X s.heap.size), K, aA K ad X s.heap.size, maxL) ad av X post
    ⟨B.exec, B.bytes, hml, hown', hts, hK, fun q h => Or.inr h, rfl, rfl, hB⟩ ⟨Or.inl rfl, rfl, B.notSynchronized⟩ B.returns hT s.heap [] _ hP hD va_S.rf hl
theorem aMd_of {y : MethodName} {cc : ByteArray} {maxL : Nat} {ws ws' : List Cond} {rm : Room} {own : String} {T : aTd} (hy : plainName y.cls = true) (hown : y.cls = own) (hw : ws = Cond.code y cc maxL (some .double) :: ws') (hlen : ∀ av X post, T av X post → al av ≤ maxL)
    (body : ∀ (Γ : aΓ) (ad : Nat → Nat) (av : List Value) (X : List aE) (post : UInt64 → List aE → Prop), FOK Γ cc ws own maxL rm → isQ Γ (va_Qd post (aBk (gK Γ) ad X (hsz Γ)) (aA (gK Γ) ad X (hsz Γ))) rm ad X → rTy Γ = some .double → T av X post → FG Γ 0 ad 0 0 (lv_args 0 av) [] X) : aMd y ws rm T := by
  intro l K ad sz av X post hT
  refine Met.ofW (cc := cc) (maxL := maxL) (ret := some .double) hy hw ?_
  intro p e s m args below meth c s₁ B hml hv
  obtain ⟨hargs, hsz, hP, hK, hD0, hB⟩ := hv
  subst hargs
  subst hsz
  have hts := atoms_spec (ws := ws) B.pre
  have hown' : s.vm.findClass own = some m.cls := hown ▸ findClass_of_methodNamed B.named
  have hD := hD0.self (sz := s.heap.size)
  have hl := lv_entry (av.map (aV ad)) (n := maxL) (by rw [al_sl]; exact hlen av X post hT)
  rw [lg_entry_eq]
  rw [aL_args] at hl
  exact body (p, l, e, (headSpec ws rm).room, s, m, (av.map (aV ad)).toArray, below, meth, c, MQ below (va_Qd post (aBk K ad X s.heap.size) (aA K ad X s.heap.size)) (av.map (aV ad)).toArray s rm.cells rm.slots (aA K ad X s.heap.size), K, aA K ad X s.heap.size, maxL) ad av X post
    ⟨B.exec, B.bytes, hml, hown', hts, hK, fun q h => Or.inr h, rfl, rfl, hB⟩ ⟨Or.inl rfl, rfl, B.notSynchronized⟩ B.returns hT s.heap [] _ hP hD va_S.rf hl
theorem aMv_of {y : MethodName} {cc : ByteArray} {maxL : Nat} {ws ws' : List Cond} {rm : Room} {own : String} {T : aTv} (hy : plainName y.cls = true) (hown : y.cls = own) (hw : ws = Cond.code y cc maxL (none) :: ws') (hlen : ∀ av X post, T av X post → al av ≤ maxL)
    (body : ∀ (Γ : aΓ) (ad : Nat → Nat) (av : List Value) (X : List aE) (post : List aE → Prop), FOK Γ cc ws own maxL rm → isQ Γ (va_Qv post (aBk (gK Γ) ad X (hsz Γ)) (aA (gK Γ) ad X (hsz Γ))) rm ad X → rTy Γ = none → T av X post → FG Γ 0 ad 0 0 (lv_args 0 av) [] X) : aMv y ws rm T := by
  intro l K ad sz av X post hT
  refine Met.ofW (cc := cc) (maxL := maxL) (ret := none) hy hw ?_
  intro p e s m args below meth c s₁ B hml hv
  obtain ⟨hargs, hsz, hP, hK, hD0, hB⟩ := hv
  subst hargs
  subst hsz
  have hts := atoms_spec (ws := ws) B.pre
  have hown' : s.vm.findClass own = some m.cls := hown ▸ findClass_of_methodNamed B.named
  have hD := hD0.self (sz := s.heap.size)
  have hl := lv_entry (av.map (aV ad)) (n := maxL) (by rw [al_sl]; exact hlen av X post hT)
  rw [lg_entry_eq]
  rw [aL_args] at hl
  exact body (p, l, e, (headSpec ws rm).room, s, m, (av.map (aV ad)).toArray, below, meth, c, MQ below (va_Qv post (aBk K ad X s.heap.size) (aA K ad X s.heap.size)) (av.map (aV ad)).toArray s rm.cells rm.slots (aA K ad X s.heap.size), K, aA K ad X s.heap.size, maxL) ad av X post
    ⟨B.exec, B.bytes, hml, hown', hts, hK, fun q h => Or.inr h, rfl, rfl, hB⟩ ⟨Or.inl rfl, rfl, B.notSynchronized⟩ B.returns hT s.heap [] _ hP hD va_S.rf hl
theorem xMv_of {y : MethodName} {cc : ByteArray} {maxL : Nat} {ws ws' : List Cond} {rm : Room} {own : String} {T : xTv} (hy : plainName y.cls = true) (hown : y.cls = own) (hw : ws = Cond.code y cc maxL (none) :: ws') (hlen : ∀ av X post ex, T av X post ex → al av ≤ maxL)
    (body : ∀ (Γ : aΓ) (ad : Nat → Nat) (av : List Value) (X : List aE) (post : List aE → Prop) (ex : aXp), FOK Γ cc ws own maxL rm → FOX Γ → isQ Γ (va_Qv post (aBk (gK Γ) ad X (hsz Γ)) (aA (gK Γ) ad X (hsz Γ))) rm ad X → isX Γ ex rm ad X → rTy Γ = none → T av X post ex → FG Γ 0 ad 0 0 (lv_args 0 av) [] X) : xMv y ws rm T := by
  intro l hst K ad sz av X post ex hT
  refine vx_ofW (cc := cc) (maxL := maxL) (ret := none) hy hw ?_
  intro p e s m args below meth c s₁ B hml hno hv
  obtain ⟨⟨hargs, hsz, hP, hK, hD0, hB⟩, hZ⟩ := hv
  subst hargs
  subst hsz
  have hts := atoms_spec (ws := ws) B.pre
  have hown' : s.vm.findClass own = some m.cls := hown ▸ findClass_of_methodNamed B.named
  have hD := hD0.self (sz := s.heap.size)
  have hl := lv_entry (av.map (aV ad)) (n := maxL) (by rw [al_sl]; exact hlen av X post ex hT)
  rw [lg_entry_eq]
  rw [aL_args] at hl
  exact body (p, l, e, (headSpec ws rm).room, s, m, (av.map (aV ad)).toArray, below, meth, c, vx_MQ below (va_Qv post (aBk K ad X s.heap.size) (aA K ad X s.heap.size)) (aXC K ad X s.heap.size ex) (av.map (aV ad)).toArray s rm.cells rm.slots (aA K ad X s.heap.size), K, aA K ad X s.heap.size, maxL) ad av X post ex
    ⟨B.exec, B.bytes, hml, hown', hts, hK, fun q h => Or.inr h, rfl, rfl, hB⟩ ⟨hst, hZ, B.notSynchronized⟩ ⟨Or.inr ⟨_, rfl⟩, rfl, B.notSynchronized⟩ ⟨⟨_, rfl⟩, rfl, hno⟩ B.returns hT s.heap [] _ hP hD va_S.rf hl
/-! ===== switches, and the JDK's own ===== -/
def swc (x : Int32) (c : Nat → Prop) (dflt : Nat) : List (Int32 × Nat) → Prop
  | [] => c dflt
  | q :: t => (x = q.1 → c q.2) ∧ (¬ x = q.1 → swc x c dflt t)
theorem swc_hit {x : Int32} {c : Nat → Prop} {dflt : Nat} : ∀ {L : List (Int32 × Nat)}, swc x c dflt L → (∃ q ∈ L, x = q.1) → ∃ q ∈ L, x = q.1 ∧ c q.2
  | [], _, h => by obtain ⟨q, hq, -⟩ := h; cases hq
  | q :: t, hs, h => by
    by_cases e : x = q.1
    · exact ⟨q, List.mem_cons_self, e, hs.1 e⟩
    · obtain ⟨q2, h2, h3⟩ := h
      rcases List.mem_cons.mp h2 with rfl | h2
      · exact absurd h3 e
      · obtain ⟨q4, a, b, d⟩ := swc_hit (hs.2 e) ⟨q2, h2, h3⟩
        exact ⟨q4, List.mem_cons_of_mem _ a, b, d⟩
theorem swc_miss {x : Int32} {c : Nat → Prop} {dflt : Nat} : ∀ {L : List (Int32 × Nat)}, swc x c dflt L → (∀ q ∈ L, ¬ x = q.1) → c dflt
  | [], hs, _ => hs
  | q :: t, hs, h => swc_miss (hs.2 (h q List.mem_cons_self)) fun q2 h2 => h q2 (List.mem_cons_of_mem _ h2)
section MORE
variable {Γ : aΓ} {cc : ByteArray} {Ts : List Cond} {own : String} {nL : Nat} {rm : Room} {pc : Nat}
def oSw (L : List (Int32 × Nat)) (dflt : Nat) : aO := fun K ad k n ls st X => pI (fun x t => swc x (fun tg => K tg ad k n ls t X) dflt L) st
theorem snd_sw {L : List (Int32 × Nat)} {dflt lo hi : Int} {offs : Array Int} {len tg : Nat} (C : FOK Γ cc Ts own nL rm) (d : decode cc pc = .ok (.tableswitch dflt lo hi offs, len)) (hd : (pc : Int) + dflt = (tg : Int))
    (h1 : ∀ q ∈ L, lo ≤ q.1.toInt ∧ q.1.toInt ≤ hi ∧ (offs[(q.1.toInt - lo).toNat]?).map (fun o => (pc : Int) + o) = some (q.2 : Int)) (h2 : ∀ x : Int32, lo ≤ x.toInt → x.toInt ≤ hi → ∃ q ∈ L, x = q.1) : Snd Γ pc (oSw L tg) := by
  obtain ⟨p, l, e, R, s, m, args, below, meth, c, Q, G, A, nL'⟩ := Γ
  obtain ⟨hx, hb, hml, hown, hts, hK, hA, rfl, rfl, hB⟩ := C
  intro K hK' ad k n ls st X ho
  dsimp only [oSw] at ho
  obtain ⟨x, t, rfl, h⟩ := pI_spec ho
  intro H locs la hP hD hS hl
  by_cases hin : lo ≤ x.toInt ∧ x.toInt ≤ hi
  · obtain ⟨q, hq, rfl, hc⟩ := swc_hit h (h2 x hin.1 hin.2)
    obtain ⟨a1, a2, a3⟩ := h1 q hq
    obtain ⟨o, ho1, ho2⟩ := Option.map_eq_some_iff.mp a3
    exact lv_tableIn hx hb d (by omega) (by omega) ho1 ho2 (hK' _ _ _ _ _ _ _ hc H locs la hP hD hS hl)
  · have hc := swc_miss h (fun q hq e => hin (by rw [e]; exact ⟨(h1 q hq).1, (h1 q hq).2.1⟩))
    exact lv_tableOut hx hb d (by omega) hd (hK' _ _ _ _ _ _ _ hc H locs la hP hD hS hl)
def oMin (nx RC RS : Nat) : aO := fun K ad k n ls st X => pI (fun y t => pI (fun x t2 => ck (le4 t2) (ck (Nat.ble k RC) (ck (Nat.ble n RS) (K nx ad k n ls (.int (if y < x then y else x) :: t2) X)))) t) st
theorem snd_min {index : Nat} (C : FOK Γ cc Ts own nL rm) (d : decode cc pc = .ok (.invokestatic index, 3)) (h1 : Cond.methodLink own index Lib.Math.min.name ∈ Ts) (h2 : Cond.static Lib.Math.min.name ∈ Ts) (h3 : Cond.initialized "java/lang/Math" ∈ Ts) (h4 : Cond.code Lib.Math.min.name Lib.Math.min.code 2 (some .int) ∈ Ts) (h5 : 1 ≤ rm.frames) (h6 : 21 ≤ rm.locals) : Snd Γ pc (oMin (pc + 3) rm.cells rm.slots) := by
  obtain ⟨p, l, e, R, s, m, args, below, meth, c, Q, G, A, nL'⟩ := Γ
  obtain ⟨hx, hb, hml, hown, hts, hK, hA, rfl, rfl, hB⟩ := C
  intro K hK' ad k n ls st X ho
  dsimp only [oMin] at ho
  obtain ⟨y, t, rfl, g1⟩ := pI_spec ho
  obtain ⟨x, t2, rfl, g2⟩ := pI_spec g1
  obtain ⟨g3, g4⟩ := ck_spec g2
  obtain ⟨g5, g6⟩ := ck_spec g4
  obtain ⟨g7, g8⟩ := ck_spec g6
  intro H locs la hP hD hS hl
  have h9 := le4_spec ad g3
  exact va_mmin hx hb (hml.trans hl.1.symm) hown (hts _ h1) (hts _ h2) (hts _ h3) (hts _ h4) h5 (by omega) (Nat.le_of_ble_eq_true g5) (Nat.le_of_ble_eq_true g7) d (hK' _ _ _ _ _ _ _ g8 H locs la hP hD hS hl)
def oAbs (nx RC RS : Nat) : aO := fun K ad k n ls st X => pI (fun x t2 => ck (le4 t2) (ck (Nat.ble k RC) (ck (Nat.ble n RS) (K nx ad k n ls (.int (if 0 ≤ x then x else 0 - x) :: t2) X)))) st
theorem snd_abs {index : Nat} (C : FOK Γ cc Ts own nL rm) (d : decode cc pc = .ok (.invokestatic index, 3)) (h1 : Cond.methodLink own index Lib.Math.abs.name ∈ Ts) (h2 : Cond.static Lib.Math.abs.name ∈ Ts) (h3 : Cond.initialized "java/lang/Math" ∈ Ts) (h4 : Cond.code Lib.Math.abs.name Lib.Math.abs.code 1 (some .int) ∈ Ts) (h5 : 1 ≤ rm.frames) (h6 : 21 ≤ rm.locals) : Snd Γ pc (oAbs (pc + 3) rm.cells rm.slots) := by
  obtain ⟨p, l, e, R, s, m, args, below, meth, c, Q, G, A, nL'⟩ := Γ
  obtain ⟨hx, hb, hml, hown, hts, hK, hA, rfl, rfl, hB⟩ := C
  intro K hK' ad k n ls st X ho
  dsimp only [oAbs] at ho
  obtain ⟨x, t2, rfl, g2⟩ := pI_spec ho
  obtain ⟨g3, g4⟩ := ck_spec g2
  obtain ⟨g5, g6⟩ := ck_spec g4
  obtain ⟨g7, g8⟩ := ck_spec g6
  intro H locs la hP hD hS hl
  have h9 := le4_spec ad g3
  exact va_mabs hx hb (hml.trans hl.1.symm) hown (hts _ h1) (hts _ h2) (hts _ h3) (hts _ h4) h5 (by omega) (Nat.le_of_ble_eq_true g5) (Nat.le_of_ble_eq_true g7) d (hK' _ _ _ _ _ _ _ g8 H locs la hP hD hS hl)
end MORE
end
section
/-! ===== breadth-first search, as both programs do it ===== -/
abbrev qS : Type := List Nat × (Nat → Option Nat)
def vis (r : Nat) (S : qS) (v : Nat) : qS := match S.2 v with
  | some _ => S
  | none => (S.1 ++ [v], fun x => if x = v then some r else S.2 x)
def ex1 (nb : Nat → Nat → Option Nat) (n r : Nat) (S : qS) (d : Nat) : qS := match nb n d with
  | some v => vis r S v
  | none => S
def rk (S : qS) (n : Nat) : Nat := (S.2 n).getD 0
/-- the first d directions of the k-th of the queue -/
def exd (nb : Nat → Nat → Option Nat) (n r : Nat) (S : qS) : Nat → qS
  | 0 => S
  | d + 1 => ex1 nb n r (exd nb n r S d) d
def stp (nb : Nat → Nat → Option Nat) (k : Nat) (S : qS) : qS := match S.1[k]? with
  | some n => exd nb n (rk S n + 1) S 4
  | none => S
def SS (nb : Nat → Nat → Option Nat) (S0 : qS) : Nat → qS
  | 0 => S0
  | k + 1 => stp nb k (SS nb S0 k)
/-- a walk -/
def wk (nb : Nat → Nat → Option Nat) : Nat → Nat → Nat → Prop
  | 0, a, b => a = b
  | k + 1, a, c => ∃ b d, wk nb k a b ∧ d < 4 ∧ nb b d = some c
/-- the queue and the distances belong together; all of it is of the kind P -/
def okS (P : Nat → Prop) (S : qS) : Prop := (∀ v, (∃ r, S.2 v = some r) ↔ v ∈ S.1) ∧ S.1.Nodup ∧ ∀ v ∈ S.1, P v
theorem ok_vis {P : Nat → Prop} {S : qS} {r v : Nat} (h : okS P S) (hv : P v) : okS P (vis r S v) := by
  unfold vis
  cases e : S.2 v with
  | some x => exact h
  | none =>
    have hn : v ∉ S.1 := fun z => by
      obtain ⟨r, hr⟩ := (h.1 v).mpr z
      rw [e] at hr
      cases hr
    refine ⟨fun x => ?_, ?_, ?_⟩
    · show (∃ r_1, (if x = v then some r else S.2 x) = some r_1) ↔ x ∈ S.1 ++ [v]
      by_cases hx : x = v
      · subst hx
        simp
      · simp [hx, h.1 x]
    · show (S.1 ++ [v]).Nodup
      rw [List.nodup_append]
      refine ⟨h.2.1, by simp, fun a ha b hb => ?_⟩
      rw [List.mem_singleton.mp hb]
      exact fun z => hn (z ▸ ha)
    · intro x hx
      rcases List.mem_append.mp hx with z | z
      · exact h.2.2 x z
      · rw [List.mem_singleton.mp z]
        exact hv
theorem ok_exd {P : Nat → Prop} {nb : Nat → Nat → Option Nat} {n r : Nat} {S : qS} (h : okS P S) (hnb : ∀ d v, d < 4 → nb n d = some v → P v) : ∀ d, d ≤ 4 → okS P (exd nb n r S d)
  | 0, _ => h
  | d + 1, hd => by
    have ih := ok_exd (r := r) h hnb d (by omega)
    show okS P (ex1 nb n r (exd nb n r S d) d)
    unfold ex1
    cases e : nb n d with
    | none => exact ih
    | some v => exact ok_vis ih (hnb d v (by omega) e)
/-- the queue only grows; what is told stays -/
def leS (S T : qS) : Prop := (∃ l, T.1 = S.1 ++ l) ∧ ∀ v r, S.2 v = some r → T.2 v = some r
theorem leS.rf (S : qS) : leS S S := ⟨⟨[], by simp⟩, fun _ _ h => h⟩
theorem leS.tr {S T U : qS} (h : leS S T) (g : leS T U) : leS S U := by
  obtain ⟨⟨l, h1⟩, h2⟩ := h
  obtain ⟨⟨l2, g1⟩, g2⟩ := g
  exact ⟨⟨l ++ l2, by rw [g1, h1, List.append_assoc]⟩, fun v r z => g2 v r (h2 v r z)⟩
theorem le_vis (r : Nat) (S : qS) (v : Nat) : leS S (vis r S v) := by
  unfold vis
  cases e : S.2 v with
  | some x => exact leS.rf S
  | none =>
    refine ⟨⟨[v], rfl⟩, fun x r2 h => ?_⟩
    show (if x = v then some r else S.2 x) = some r2
    rw [if_neg (fun z => by rw [z, e] at h; cases h)]
    exact h
theorem le_ex1 (nb : Nat → Nat → Option Nat) (n r : Nat) (S : qS) (d : Nat) : leS S (ex1 nb n r S d) := by
  unfold ex1
  cases nb n d with
  | none => exact leS.rf S
  | some v => exact le_vis r S v
theorem le_exd (nb : Nat → Nat → Option Nat) (n r : Nat) (S : qS) : ∀ d, leS S (exd nb n r S d)
  | 0 => leS.rf S
  | d + 1 => (le_exd nb n r S d).tr (le_ex1 nb n r _ d)
theorem le_stp (nb : Nat → Nat → Option Nat) (k : Nat) (S : qS) : leS S (stp nb k S) := by
  unfold stp
  cases S.1[k]? with
  | none => exact leS.rf S
  | some n => exact le_exd nb n _ S 4
theorem le_SS (nb : Nat → Nat → Option Nat) (S0 : qS) : ∀ {j k : Nat}, j ≤ k → leS (SS nb S0 j) (SS nb S0 k)
  | j, 0, h => by
    have : j = 0 := by omega
    subst this
    exact leS.rf _
  | j, k + 1, h => by
    by_cases e : j = k + 1
    · subst e
      exact leS.rf _
    · exact (le_SS nb S0 (by omega : j ≤ k)).tr (le_stp nb k _)
theorem leS.get {S T : qS} (h : leS S T) {k n : Nat} (hk : S.1[k]? = some n) : T.1[k]? = some n := by
  obtain ⟨⟨l, e⟩, -⟩ := h
  rw [e, List.getElem?_append_left (List.getElem?_eq_some_iff.mp hk).1]
  exact hk
/-- behind its end nothing changes -/
theorem SS_stop {nb : Nat → Nat → Option Nat} {S0 : qS} {k : Nat} (h : (SS nb S0 k).1.length ≤ k) : ∀ j, k ≤ j → SS nb S0 j = SS nb S0 k
  | 0, hj => by
    have : k = 0 := by omega
    rw [this]
  | j + 1, hj => by
    by_cases e : k = j + 1
    · rw [e]
    · have ih := SS_stop h j (by omega)
      show stp nb j (SS nb S0 j) = _
      rw [ih]
      unfold stp
      rw [List.getElem?_eq_none (by omega)]
theorem nodup_len : ∀ (M : Nat) (l : List Nat), l.Nodup → (∀ v ∈ l, v < M) → l.length ≤ M
  | 0, l, _, h => by
    cases l with
    | nil => exact Nat.le_refl _
    | cons a t => exact absurd (h a List.mem_cons_self) (Nat.not_lt_zero a)
  | M + 1, l, hn, h => by
    have h1 := nodup_len M (l.erase M) (hn.erase M) (fun v hv => by
      have := h v (List.mem_of_mem_erase hv)
      have ne : v ≠ M := fun e => by
        subst e
        exact (List.Nodup.not_mem_erase hn) hv
      omega)
    have h2 : l.length ≤ (l.erase M).length + 1 := by
      rw [List.length_erase]
      split <;> omega
    omega
/-- the whole of what a search knows when it has looked at k of its queue -/
def inS2 (nb : Nat → Nat → Option Nat) (P : Nat → Prop) (src : List Nat) (k : Nat) (S : qS) : Prop :=
  okS P S ∧ (∀ s ∈ src, S.2 s = some 0) ∧ (∀ v r, S.2 v = some r → ∃ s ∈ src, wk nb r s v) ∧
  (∀ (i j a b : Nat), i ≤ j → S.1[i]? = some a → S.1[j]? = some b → rk S a ≤ rk S b) ∧
  (∀ (j a b : Nat), S.1[k]? = some a → S.1[j]? = some b → rk S b ≤ rk S a + 1) ∧
  (∀ (i a d v : Nat), i < k → S.1[i]? = some a → d < 4 → nb a d = some v → ∃ r, S.2 v = some r ∧ r ≤ rk S a + 1)
theorem rk_of {S : qS} {v r : Nat} (h : S.2 v = some r) : rk S v = r := by
  unfold rk
  rw [h]
  rfl
/-- one direction of the one that is looked at: q its number, n it, r one more than its distance -/
theorem in_ex1 {nb : Nat → Nat → Option Nat} {P : Nat → Prop} {src : List Nat} {k n : Nat} {S : qS} (d : Nat) (hd : d < 4) (hk : S.1[k]? = some n) (hP : ∀ a d v, P a → d < 4 → nb a d = some v → P v)
    (h : inS2 nb P src k S) : inS2 nb P src k (ex1 nb n (rk S n + 1) S d) ∧ rk (ex1 nb n (rk S n + 1) S d) n = rk S n := by
  obtain ⟨h1, h2, h3, h4, h5, h6⟩ := h
  have hn : n ∈ S.1 := List.mem_of_getElem? hk
  unfold ex1
  cases e : nb n d with
  | none => exact ⟨⟨h1, h2, h3, h4, h5, h6⟩, rfl⟩
  | some v =>
    show inS2 nb P src k (vis (rk S n + 1) S v) ∧ rk (vis (rk S n + 1) S v) n = rk S n
    have hok : okS P (vis (rk S n + 1) S v) := ok_vis h1 (hP n d v (h1.2.2 n hn) hd e)
    have hle := le_vis (rk S n + 1) S v
    cases e2 : S.2 v with
    | some x =>
      have : vis (rk S n + 1) S v = S := by unfold vis; rw [e2]
      rw [this]
      exact ⟨⟨h1, h2, h3, h4, h5, h6⟩, rfl⟩
    | none =>
      have eS : vis (rk S n + 1) S v = (S.1 ++ [v], fun x => if x = v then some (rk S n + 1) else S.2 x) := by unfold vis; rw [e2]
      have old : ∀ a, a ∈ S.1 → rk (vis (rk S n + 1) S v) a = rk S a := by
        intro a ha
        obtain ⟨r, hr⟩ := (h1.1 a).mpr ha
        rw [rk_of hr, rk_of (hle.2 a r hr)]
      have new : rk (vis (rk S n + 1) S v) v = rk S n + 1 := by
        rw [eS]
        unfold rk
        simp
      have get : ∀ i a, (vis (rk S n + 1) S v).1[i]? = some a → (S.1[i]? = some a ∧ a ∈ S.1) ∨ (a = v ∧ i = S.1.length) := by
        intro i a hi
        rw [eS] at hi
        by_cases hl : i < S.1.length
        · rw [List.getElem?_append_left hl] at hi
          exact Or.inl ⟨hi, List.mem_of_getElem? hi⟩
        · rw [List.getElem?_append_right (by omega)] at hi
          have hz : i - S.1.length < 1 := (List.getElem?_eq_some_iff.mp hi).1
          have : i = S.1.length := by omega
          subst this
          simp at hi
          exact Or.inr ⟨hi.symm, rfl⟩
      obtain ⟨rn, hrn⟩ := (h1.1 n).mpr hn
      refine ⟨⟨hok, fun s hs => hle.2 s 0 (h2 s hs), ?_, ?_, ?_, ?_⟩, old n hn⟩
      · intro x r hx
        rw [eS] at hx
        have hx' : (if x = v then some (rk S n + 1) else S.2 x) = some r := hx
        by_cases hxv : x = v
        · rw [if_pos hxv] at hx'
          cases hx'
          obtain ⟨s, hs, hw⟩ := h3 n rn hrn
          rw [rk_of hrn, hxv]
          exact ⟨s, hs, n, d, hw, hd, e⟩
        · rw [if_neg hxv] at hx'
          exact h3 x r hx'
      · intro i j a b hij ha hb
        rcases get i a ha with ⟨ha1, ha2⟩ | ⟨rfl, hi⟩
        · rcases get j b hb with ⟨hb1, hb2⟩ | ⟨rfl, hj⟩
          · rw [old a ha2, old b hb2]
            exact h4 i j a b hij ha1 hb1
          · rw [old a ha2, new]
            exact h5 i n a hk ha1
        · rcases get j b hb with ⟨hb1, hb2⟩ | ⟨rfl, hj⟩
          · have := (List.getElem?_eq_some_iff.mp hb1).1
            omega
          · exact Nat.le_refl _
      · intro j a b ha hb
        have ha' : a = n := by
          rcases get k a ha with ⟨ha1, -⟩ | ⟨-, hkk⟩
          · exact Option.some.inj (ha1.symm.trans hk)
          · have := (List.getElem?_eq_some_iff.mp hk).1
            omega
        subst ha'
        rw [old a hn]
        rcases get j b hb with ⟨hb1, hb2⟩ | ⟨rfl, hj⟩
        · rw [old b hb2]
          exact h5 j a b hk hb1
        · rw [new]
          exact Nat.le_refl _
      · intro i a d2 x hi ha hd2 hx
        rcases get i a ha with ⟨ha1, ha2⟩ | ⟨-, hii⟩
        · rw [old a ha2]
          obtain ⟨r, hr, hr2⟩ := h6 i a d2 x hi ha1 hd2 hx
          exact ⟨r, hle.2 x r hr, hr2⟩
        · have := (List.getElem?_eq_some_iff.mp hk).1
          omega
theorem in_exd {nb : Nat → Nat → Option Nat} {P : Nat → Prop} {src : List Nat} {k n : Nat} {S : qS} (hk : S.1[k]? = some n) (hP : ∀ a d v, P a → d < 4 → nb a d = some v → P v) (h : inS2 nb P src k S) :
    ∀ d, d ≤ 4 → inS2 nb P src k (exd nb n (rk S n + 1) S d) ∧ rk (exd nb n (rk S n + 1) S d) n = rk S n ∧ ∀ e v, e < d → nb n e = some v → ∃ r, (exd nb n (rk S n + 1) S d).2 v = some r ∧ r ≤ rk S n + 1
  | 0, _ => ⟨h, rfl, fun e v he => absurd he (Nat.not_lt_zero e)⟩
  | d + 1, hd => by
    obtain ⟨i1, i2, i3⟩ := in_exd hk hP h d (by omega)
    have hk2 := (le_exd nb n (rk S n + 1) S d).get hk
    have := in_ex1 d (by omega) hk2 hP i1
    rw [i2] at this
    refine ⟨this.1, this.2, fun e v he hv => ?_⟩
    have hle := le_ex1 nb n (rk S n + 1) (exd nb n (rk S n + 1) S d) d
    by_cases hed : e < d
    · obtain ⟨r, hr, hr2⟩ := i3 e v hed hv
      exact ⟨r, hle.2 v r hr, hr2⟩
    · have : e = d := by omega
      subst this
      show ∃ r, (ex1 nb n (rk S n + 1) (exd nb n (rk S n + 1) S e) e).2 v = some r ∧ r ≤ rk S n + 1
      unfold ex1
      rw [hv]
      show ∃ r, (vis (rk S n + 1) (exd nb n (rk S n + 1) S e) v).2 v = some r ∧ r ≤ rk S n + 1
      cases e2 : (exd nb n (rk S n + 1) S e).2 v with
      | some x =>
        have eS : vis (rk S n + 1) (exd nb n (rk S n + 1) S e) v = exd nb n (rk S n + 1) S e := by unfold vis; rw [e2]
        rw [eS]
        refine ⟨x, e2, ?_⟩
        obtain ⟨g1, -, -, -, g5, -⟩ := i1
        have hv2 : v ∈ (exd nb n (rk S n + 1) S e).1 := (g1.1 v).mp ⟨x, e2⟩
        obtain ⟨j, hj⟩ := List.getElem?_of_mem hv2
        have := g5 j n v hk2 hj
        rw [i2, rk_of e2] at this
        exact this
      | none =>
        have eS : vis (rk S n + 1) (exd nb n (rk S n + 1) S e) v = ((exd nb n (rk S n + 1) S e).1 ++ [v], fun x => if x = v then some (rk S n + 1) else (exd nb n (rk S n + 1) S e).2 x) := by unfold vis; rw [e2]
        rw [eS]
        exact ⟨rk S n + 1, by simp, Nat.le_refl _⟩
theorem in_stp {nb : Nat → Nat → Option Nat} {P : Nat → Prop} {src : List Nat} {k : Nat} {S : qS} (hP : ∀ a d v, P a → d < 4 → nb a d = some v → P v) (h : inS2 nb P src k S) : inS2 nb P src (k + 1) (stp nb k S) := by
  unfold stp
  cases hk : S.1[k]? with
  | none =>
    show inS2 nb P src (k + 1) S
    obtain ⟨h1, h2, h3, h4, h5, h6⟩ := h
    have hl := List.getElem?_eq_none_iff.mp hk
    refine ⟨h1, h2, h3, h4, fun j a b ha => ?_, fun i a d v hi ha => ?_⟩
    · have := (List.getElem?_eq_some_iff.mp ha).1
      omega
    · have := (List.getElem?_eq_some_iff.mp ha).1
      exact h6 i a d v (by omega) ha
  | some n =>
    show inS2 nb P src (k + 1) (exd nb n (rk S n + 1) S 4)
    obtain ⟨i1, i2, i3⟩ := in_exd hk hP h 4 (Nat.le_refl 4)
    have hk2 := (le_exd nb n (rk S n + 1) S 4).get hk
    obtain ⟨h1, h2, h3, h4, h5, h6⟩ := i1
    refine ⟨h1, h2, h3, h4, fun j a b ha hb => ?_, fun i a d v hi ha hd hv => ?_⟩
    · have g1 := h5 j n b hk2 hb
      have g2 := h4 k (k + 1) n a (by omega) hk2 ha
      omega
    · by_cases e : i < k
      · exact h6 i a d v e ha hd hv
      · have : i = k := by omega
        subst this
        have ea : a = n := Option.some.inj (ha.symm.trans hk2)
        subst ea
        rw [i2]
        exact i3 d v hd hv
theorem in_SS {nb : Nat → Nat → Option Nat} {P : Nat → Prop} {src : List Nat} {S0 : qS} (hP : ∀ a d v, P a → d < 4 → nb a d = some v → P v) (h : inS2 nb P src 0 S0) : ∀ k, inS2 nb P src k (SS nb S0 k)
  | 0 => h
  | k + 1 => in_stp hP (in_SS hP h k)
/-- the start: sources laid out at distance 0 -/
def src0 (src : List Nat) : qS := (src, fun v => if v ∈ src then some 0 else none)
theorem in_src0 {nb : Nat → Nat → Option Nat} {P : Nat → Prop} {src : List Nat} (hn : src.Nodup) (hP : ∀ s ∈ src, P s) : inS2 nb P src 0 (src0 src) := by
  have r0 : ∀ a ∈ src, rk (src0 src) a = 0 := fun a ha => by
    unfold rk src0
    simp [ha]
  refine ⟨⟨fun v => ?_, hn, hP⟩, fun s hs => by unfold src0; simp [hs], fun v r h => ?_, fun i j a b _ ha hb => ?_, fun j a b ha hb => ?_, fun i a d v hi => absurd hi (Nat.not_lt_zero i)⟩
  · unfold src0
    by_cases h : v ∈ src <;> simp [h]
  · unfold src0 at h
    by_cases hv : v ∈ src
    · simp [hv] at h
      subst h
      exact ⟨v, hv, rfl⟩
    · simp [hv] at h
  · rw [r0 a (List.mem_of_getElem? ha)]
    exact Nat.zero_le _
  · rw [r0 b (List.mem_of_getElem? hb)]
    exact Nat.zero_le _
/-- the search at its end -/
def fin (nb : Nat → Nat → Option Nat) (M : Nat) (src : List Nat) : qS := SS nb (src0 src) M
theorem fin_len {nb : Nat → Nat → Option Nat} {P : Nat → Prop} {src : List Nat} {M : Nat} (hP : ∀ a d v, P a → d < 4 → nb a d = some v → P v) (hM : ∀ v, P v → v < M) (hn : src.Nodup) (hs : ∀ s ∈ src, P s) (k : Nat) : (SS nb (src0 src) k).1.length ≤ M :=
  nodup_len M _ (in_SS hP (in_src0 hn hs) k).1.2.1 fun v hv => hM v ((in_SS hP (in_src0 hn hs) k).1.2.2 v hv)
theorem fin_at {nb : Nat → Nat → Option Nat} {P : Nat → Prop} {src : List Nat} {M : Nat} (hP : ∀ a d v, P a → d < 4 → nb a d = some v → P v) (hM : ∀ v, P v → v < M) (hn : src.Nodup) (hs : ∀ s ∈ src, P s) {k : Nat} (hk : (SS nb (src0 src) k).1.length ≤ k) : SS nb (src0 src) k = fin nb M src := by
  unfold fin
  rcases Nat.le_total k M with h | h
  · exact (SS_stop hk M h).symm
  · exact SS_stop (fin_len hP hM hn hs M) k h
theorem fin_in {nb : Nat → Nat → Option Nat} {P : Nat → Prop} {src : List Nat} {M : Nat} (hP : ∀ a d v, P a → d < 4 → nb a d = some v → P v) (hn : src.Nodup) (hs : ∀ s ∈ src, P s) : inS2 nb P src M (fin nb M src) := in_SS hP (in_src0 hn hs) M
/-- whatever a walk reaches is told, no farther than the walk is long -/
theorem fin_wk {nb : Nat → Nat → Option Nat} {P : Nat → Prop} {src : List Nat} {M : Nat} (hP : ∀ a d v, P a → d < 4 → nb a d = some v → P v) (hM : ∀ v, P v → v < M) (hn : src.Nodup) (hs : ∀ s ∈ src, P s) : ∀ (k s v : Nat), s ∈ src → wk nb k s v → ∃ r, (fin nb M src).2 v = some r ∧ r ≤ k
  | 0, s, v, hsrc, h => by
    obtain ⟨-, h2, -⟩ := fin_in (M := M) hP hn hs
    have : s = v := h
    subst this
    exact ⟨0, h2 s hsrc, Nat.le_refl _⟩
  | k + 1, s, v, hsrc, h => by
    obtain ⟨b, d, hw, hd, hb⟩ := h
    obtain ⟨r, hr, hrk⟩ := fin_wk hP hM hn hs k s b hsrc hw
    obtain ⟨h1, -, -, -, -, h6⟩ := fin_in (M := M) hP hn hs
    obtain ⟨i, hi⟩ := List.getElem?_of_mem ((h1.1 b).mp ⟨r, hr⟩)
    have hl := fin_len hP hM hn hs M
    have hi2 := (List.getElem?_eq_some_iff.mp hi).1
    have : (SS nb (src0 src) M).1.length = (fin nb M src).1.length := rfl
    obtain ⟨r2, g1, g2⟩ := h6 i b d v (by omega) hi hd hb
    rw [rk_of hr] at g2
    exact ⟨r2, g1, by omega⟩
/-- the distance told is that of a shortest walk -/
theorem fin_iff {nb : Nat → Nat → Option Nat} {P : Nat → Prop} {src : List Nat} {M : Nat} (hP : ∀ a d v, P a → d < 4 → nb a d = some v → P v) (hM : ∀ v, P v → v < M) (hn : src.Nodup) (hs : ∀ s ∈ src, P s) (v r : Nat) :
    (fin nb M src).2 v = some r ↔ (∃ s ∈ src, wk nb r s v) ∧ ∀ k, k < r → ¬ ∃ s ∈ src, wk nb k s v := by
  obtain ⟨-, -, h3, -⟩ := fin_in (M := M) hP hn hs
  constructor
  · intro h
    refine ⟨h3 v r h, fun k hk hw => ?_⟩
    obtain ⟨s, hs1, hw⟩ := hw
    obtain ⟨r2, g1, g2⟩ := fin_wk hP hM hn hs k s v hs1 hw
    rw [h] at g1
    cases g1
    omega
  · intro ⟨⟨s, hs1, hw⟩, hmin⟩
    obtain ⟨r2, g1, g2⟩ := fin_wk hP hM hn hs r s v hs1 hw
    by_cases e : r2 = r
    · rw [← e]; exact g1
    · exact absurd (h3 v r2 g1) (hmin r2 (by omega))
theorem fin_none {nb : Nat → Nat → Option Nat} {P : Nat → Prop} {src : List Nat} {M : Nat} (hP : ∀ a d v, P a → d < 4 → nb a d = some v → P v) (hM : ∀ v, P v → v < M) (hn : src.Nodup) (hs : ∀ s ∈ src, P s) (v : Nat) :
    (fin nb M src).2 v = none ↔ ∀ k, ¬ ∃ s ∈ src, wk nb k s v := by
  obtain ⟨-, -, h3, -⟩ := fin_in (M := M) hP hn hs
  constructor
  · intro h k ⟨s, hs1, hw⟩
    obtain ⟨r2, g1, -⟩ := fin_wk hP hM hn hs k s v hs1 hw
    rw [h] at g1
    cases g1
  · intro h
    cases e : (fin nb M src).2 v with
    | none => rfl
    | some r => exact absurd (h3 v r e) (h r)
/-- walks run both ways where every step does -/
theorem wk_app {nb : Nat → Nat → Option Nat} : ∀ {j k a b c : Nat}, wk nb k a b → wk nb j b c → wk nb (k + j) a c
  | 0, k, a, b, c, h, g => by
    have : b = c := g
    subst this
    exact h
  | j + 1, k, a, b, c, h, g => by
    obtain ⟨x, d, g1, g2, g3⟩ := g
    exact ⟨x, d, wk_app h g1, g2, g3⟩
theorem wk_one {nb : Nat → Nat → Option Nat} {a b d : Nat} (hd : d < 4) (h : nb a d = some b) : wk nb 1 a b := ⟨a, d, rfl, hd, h⟩
theorem wk_rev {nb : Nat → Nat → Option Nat} {P : Nat → Prop} (hP : ∀ a d v, P a → d < 4 → nb a d = some v → P v) (hrev : ∀ a d v, P a → d < 4 → nb a d = some v → ∃ e, e < 4 ∧ nb v e = some a) : ∀ {k a b : Nat}, P a → wk nb k a b → P b ∧ wk nb k b a
  | 0, a, b, ha, h => by
    have : a = b := h
    subst this
    exact ⟨ha, rfl⟩
  | k + 1, a, c, ha, h => by
    obtain ⟨b, d, h1, h2, h3⟩ := h
    obtain ⟨hb, hw⟩ := wk_rev hP hrev ha h1
    obtain ⟨e, he, hx⟩ := hrev b d c hb h2 h3
    refine ⟨hP b d c hb h2 h3, ?_⟩
    have := wk_app (wk_one he hx) hw
    rwa [Nat.add_comm] at this
end
section
/-! ===== how the die lies: a number t below 36, its top t / 6 + 1, its north t % 6 + 1 ===== -/
def axN (f : Nat) : Nat := if f ≤ 3 then f else 7 - f
/-- top and north are not of one axis -/
def vt (t : Nat) : Bool := decide (t < 36) && decide (axN (t / 6 + 1) ≠ axN (t % 6 + 1))
def eoN (t : Nat) : Nat :=
  let low := 6 - axN (t / 6 + 1) - axN (t % 6 + 1)
  let b1 := decide ((axN (t % 6 + 1) + 3 - axN (t / 6 + 1)) % 3 = 1)
  let b2 := if t / 6 + 1 > 3 then !b1 else b1
  let b3 := if t % 6 + 1 > 3 then !b2 else b2
  if b3 then low else 7 - low
def wiN (top north : Nat) : Nat := (top - 1) * 6 + (north - 1)
/-- behind a roll -/
def rlN (t d : Nat) : Nat := match d with
  | 0 => wiN (7 - (t % 6 + 1)) (t / 6 + 1)
  | 1 => wiN (7 - eoN t) (t % 6 + 1)
  | 2 => wiN (t % 6 + 1) (7 - (t / 6 + 1))
  | _ => wiN (eoN t) (t % 6 + 1)
/-- the face on a side -/
def faN (t d : Nat) : Nat := match d with
  | 0 => t % 6 + 1
  | 1 => eoN t
  | 2 => 7 - (t % 6 + 1)
  | _ => 7 - eoN t
theorem vt_lt {t : Nat} (h : vt t = true) : t < 36 := by
  unfold vt at h
  simp only [Bool.and_eq_true, decide_eq_true_eq] at h
  exact h.1
theorem eoN_in : ∀ t, t < 36 → vt t = true → 1 ≤ eoN t ∧ eoN t ≤ 6 := by decide +kernel
theorem rlN_ok0 : ∀ t, t < 36 → ∀ d, d < 4 → vt t = true → vt (rlN t d) = true ∧ rlN (rlN t d) ((d + 2) % 4) = t := by decide +kernel
theorem rlN_vt {t d : Nat} (h : vt t = true) (hd : d < 4) : vt (rlN t d) = true := (rlN_ok0 t (vt_lt h) d hd h).1
theorem rlN_rev {t d : Nat} (h : vt t = true) (hd : d < 4) : rlN (rlN t d) ((d + 2) % 4) = t := (rlN_ok0 t (vt_lt h) d hd h).2
theorem rlN_lt {t d : Nat} (h : vt t = true) (hd : d < 4) : rlN t d < 36 := vt_lt (rlN_vt h hd)
/-- top, north and east behind a roll -/
theorem tip0 : ∀ t, t < 36 → vt t = true → rlN t 0 / 6 + 1 = 7 - (t % 6 + 1) ∧ rlN t 0 % 6 + 1 = t / 6 + 1 ∧ eoN (rlN t 0) = eoN t := by decide +kernel
theorem tip1 : ∀ t, t < 36 → vt t = true → rlN t 1 / 6 + 1 = 7 - eoN t ∧ rlN t 1 % 6 + 1 = t % 6 + 1 ∧ eoN (rlN t 1) = t / 6 + 1 := by decide +kernel
theorem tip2 : ∀ t, t < 36 → vt t = true → rlN t 2 / 6 + 1 = t % 6 + 1 ∧ rlN t 2 % 6 + 1 = 7 - (t / 6 + 1) ∧ eoN (rlN t 2) = eoN t := by decide +kernel
theorem tip3 : ∀ t, t < 36 → vt t = true → rlN t 3 / 6 + 1 = eoN t ∧ rlN t 3 % 6 + 1 = t % 6 + 1 ∧ eoN (rlN t 3) = 7 - (t / 6 + 1) := by decide +kernel
/-! ===== the board: a cell k = 7 * row + column, whatever the width ===== -/
def frN (w h : Nat) (wl : Nat → Int32) (k : Nat) : Prop := k % 7 < w ∧ k / 7 < h ∧ wl k = 0
def frb (w h : Nat) (wl : Nat → Int32) (k : Nat) : Bool := decide (k % 7 < w) && (decide (k / 7 < h) && decide (wl k = 0))
theorem frb_iff {w h : Nat} {wl : Nat → Int32} {k : Nat} : frb w h wl k = true ↔ frN w h wl k := by
  unfold frb frN
  simp only [Bool.and_eq_true, decide_eq_true_eq]
/-- the next cell in a direction -/
def nxt (w h : Nat) (wl : Nat → Int32) (k d : Nat) : Option Nat := match d with
  | 0 => if decide (7 ≤ k) && frb w h wl (k - 7) then some (k - 7) else none
  | 1 => if decide (k % 7 + 1 < w) && frb w h wl (k + 1) then some (k + 1) else none
  | 2 => if frb w h wl (k + 7) then some (k + 7) else none
  | _ => if decide (1 ≤ k % 7) && frb w h wl (k - 1) then some (k - 1) else none
def nbF (w h : Nat) (wl : Nat → Int32) (v d : Nat) : Option Nat := match nxt w h wl (v / 36) d with
  | some k => some (k * 36 + rlN (v % 36) d)
  | none => none
/-- a way to lie: on a free cell, turned in one of the 24 ways -/
def okN (w h : Nat) (wl : Nat → Int32) (v : Nat) : Prop := vt (v % 36) = true ∧ frN w h wl (v / 36)
theorem okN_lt {w h : Nat} {wl : Nat → Int32} {v : Nat} (hw : w ≤ 7) (hh : h ≤ 7) (hv : okN w h wl v) : v < 1764 := by
  obtain ⟨h1, h2, h3, -⟩ := hv
  omega
theorem nxt_fr {w h : Nat} {wl : Nat → Int32} {k d j : Nat} (hj : nxt w h wl k d = some j) : frN w h wl j := by
  unfold nxt at hj
  split at hj
  all_goals
    split at hj
    · next q =>
      cases hj
      try rw [Bool.and_eq_true] at q
      first | exact frb_iff.mp q.2 | exact frb_iff.mp q
    · cases hj
theorem nb_ok {w h : Nat} {wl : Nat → Int32} : ∀ a d v, okN w h wl a → d < 4 → nbF w h wl a d = some v → okN w h wl v := by
  intro a d v ha hd hv
  unfold nbF at hv
  cases e : nxt w h wl (a / 36) d with
  | none => rw [e] at hv; cases hv
  | some k =>
    rw [e] at hv
    have hv : k * 36 + rlN (a % 36) d = v := Option.some.inj hv
    have hl := rlN_lt ha.1 hd
    subst hv
    refine ⟨?_, ?_⟩
    · rw [show (k * 36 + rlN (a % 36) d) % 36 = rlN (a % 36) d by omega]
      exact rlN_vt ha.1 hd
    · rw [show (k * 36 + rlN (a % 36) d) / 36 = k by omega]
      exact nxt_fr e
/-- a step back -/
theorem nxt_rev {w h : Nat} {wl : Nat → Int32} {k d j : Nat} (hw : w ≤ 7) (hk : frN w h wl k) (hd : d < 4) (hj : nxt w h wl k d = some j) : nxt w h wl j ((d + 2) % 4) = some k := by
  have hk2 := frb_iff.mpr hk
  obtain ⟨k1, k2, k3⟩ := hk
  have hd4 : d = 0 ∨ d = 1 ∨ d = 2 ∨ d = 3 := by omega
  rcases hd4 with rfl | rfl | rfl | rfl
  · simp only [nxt] at hj ⊢
    split at hj
    · next q =>
      cases hj
      rw [Bool.and_eq_true, decide_eq_true_eq] at q
      rw [show k - 7 + 7 = k by omega, hk2]
      rfl
    · cases hj
  · simp only [nxt] at hj ⊢
    split at hj
    · next q =>
      cases hj
      rw [Bool.and_eq_true, decide_eq_true_eq] at q
      have : 1 ≤ (k + 1) % 7 := by omega
      rw [show k + 1 - 1 = k by omega, hk2, decide_eq_true this]
      rfl
    · cases hj
  · simp only [nxt] at hj ⊢
    split at hj
    · next q =>
      cases hj
      rw [show k + 7 - 7 = k by omega, hk2, decide_eq_true (show 7 ≤ k + 7 by omega)]
      rfl
    · cases hj
  · simp only [nxt] at hj ⊢
    split at hj
    · next q =>
      cases hj
      rw [Bool.and_eq_true, decide_eq_true_eq] at q
      have h1 : k - 1 + 1 = k := by omega
      have h2 : (k - 1) % 7 + 1 = k % 7 := by omega
      rw [h1, hk2, h2, decide_eq_true k1]
      rfl
    · cases hj
theorem nb_rev {w h : Nat} {wl : Nat → Int32} (hw : w ≤ 7) : ∀ a d v, okN w h wl a → d < 4 → nbF w h wl a d = some v → nbF w h wl v ((d + 2) % 4) = some a := by
  intro a d v ha hd hv
  unfold nbF at hv
  cases e : nxt w h wl (a / 36) d with
  | none => rw [e] at hv; cases hv
  | some k =>
    rw [e] at hv
    have hv : k * 36 + rlN (a % 36) d = v := Option.some.inj hv
    have hl := rlN_lt ha.1 hd
    subst hv
    unfold nbF
    rw [show (k * 36 + rlN (a % 36) d) / 36 = k by omega, nxt_rev hw ha.2 hd e]
    show some (a / 36 * 36 + rlN ((k * 36 + rlN (a % 36) d) % 36) ((d + 2) % 4)) = some a
    rw [show (k * 36 + rlN (a % 36) d) % 36 = rlN (a % 36) d by omega, rlN_rev ha.1 hd]
    congr 1
    omega
end
section
/-! ===== the class's world, and the model's ===== -/
theorem sw_in3 (x : Int32) (h1 : (0 : Int) ≤ x.toInt) (h2 : x.toInt ≤ 2) {a b c : Nat} : ∃ q ∈ [((0 : Int32), a), (1, b), (2, c)], x = q.1 := by
  have h : x.toInt = 0 ∨ x.toInt = 1 ∨ x.toInt = 2 := by omega
  rcases h with h | h | h
  · exact ⟨_, List.mem_cons_self, Int32.toInt_inj.mp h⟩
  · exact ⟨_, List.mem_cons_of_mem _ List.mem_cons_self, Int32.toInt_inj.mp h⟩
  · exact ⟨_, List.mem_cons_of_mem _ (List.mem_cons_of_mem _ List.mem_cons_self), Int32.toInt_inj.mp h⟩
theorem sw_in4 (x : Int32) (h1 : (0 : Int) ≤ x.toInt) (h2 : x.toInt ≤ 3) {a b c d : Nat} : ∃ q ∈ [((0 : Int32), a), (1, b), (2, c), (3, d)], x = q.1 := by
  have h : x.toInt = 0 ∨ x.toInt = 1 ∨ x.toInt = 2 ∨ x.toInt = 3 := by omega
  rcases h with h | h | h | h
  · exact ⟨_, List.mem_cons_self, Int32.toInt_inj.mp h⟩
  · exact ⟨_, List.mem_cons_of_mem _ List.mem_cons_self, Int32.toInt_inj.mp h⟩
  · exact ⟨_, List.mem_cons_of_mem _ (List.mem_cons_of_mem _ List.mem_cons_self), Int32.toInt_inj.mp h⟩
  · exact ⟨_, List.mem_cons_of_mem _ (List.mem_cons_of_mem _ (List.mem_cons_of_mem _ List.mem_cons_self)), Int32.toInt_inj.mp h⟩
/-- PaintedDie 0, Board 1 (walls 2, prints 3), Search 4 (fewest 5, queue 6), colours 7, paints 8 -/
def CW (c t rm pm w h fd : Int32) (wl pr fe qu co pa : Nat → Int32) : List aE :=
  [.inr (.inl (2, [.ref 1, .ref 4, .ref 7, .ref 8, .int c, .int t, .int rm, .int pm])), .inr (.inl (0, [.ref 2, .ref 3, .int w, .int h])), .inl (true, 49, wl), .inl (false, 49, pr),
    .inr (.inl (1, [.ref 5, .ref 6, .int fd])), .inl (false, 1764, fe), .inl (false, 1764, qu), .inl (false, 7, co), .inl (false, 7, pa)]
/-- a pair of ints is a cell of a board of w by h -/
def inB (a b : Int32) (w h : Nat) : Prop := ∃ i j : Nat, a = nI i ∧ b = nI j ∧ i < w ∧ j < h
def frB (a b : Int32) (w h : Nat) (wl : Nat → Int32) : Prop := ∃ i j : Nat, a = nI i ∧ b = nI j ∧ i < w ∧ j < h ∧ wl (j * 7 + i) = 0
theorem nI_clampS {n : Nat} (h : n < 10000) : (nI n).toNatClampNeg = n := nI_clamp (by omega)
theorem inS {n N : Nat} (h : n < N) (hN : N < 10000) : vp_in (nI n) N := vp_in_nI h (by omega)
end
