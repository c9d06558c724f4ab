/-! ===== what the tables and the start say, for the law's walk ===== -/
theorem fw_nm : ∀ q ∈ aNm, Cond.methodLinkNest q.1 q.2.1 q.2.2 "PaintedDie" ∈ tables_1 := List.forall_mem_cons.mpr ⟨List.mem_of_getElem? (i := 24) (by decide +kernel), List.forall_mem_cons.mpr ⟨List.mem_of_getElem? (i := 99) (by decide +kernel), List.forall_mem_cons.mpr ⟨List.mem_of_getElem? (i := 106) (by decide +kernel), List.forall_mem_cons.mpr ⟨List.mem_of_getElem? (i := 113) (by decide +kernel), List.forall_mem_cons.mpr ⟨List.mem_of_getElem? (i := 196) (by decide +kernel), List.forall_mem_cons.mpr ⟨List.mem_of_getElem? (i := 421) (by decide +kernel), List.forall_mem_cons.mpr ⟨List.mem_of_getElem? (i := 245) (by decide +kernel), List.forall_mem_cons.mpr ⟨List.mem_of_getElem? (i := 264) (by decide +kernel), List.forall_mem_cons.mpr ⟨List.mem_of_getElem? (i := 281) (by decide +kernel), List.forall_mem_cons.mpr ⟨List.mem_of_getElem? (i := 325) (by decide +kernel), List.forall_mem_cons.mpr ⟨List.mem_of_getElem? (i := 344) (by decide +kernel), List.forall_mem_cons.mpr ⟨List.mem_of_getElem? (i := 358) (by decide +kernel), List.forall_mem_cons.mpr ⟨List.mem_of_getElem? (i := 359) (by decide +kernel), List.forall_mem_cons.mpr ⟨List.mem_of_getElem? (i := 364) (by decide +kernel), List.forall_mem_cons.mpr ⟨List.mem_of_getElem? (i := 47) (by decide +kernel), List.forall_mem_cons.mpr ⟨List.mem_of_getElem? (i := 66) (by decide +kernel), List.forall_mem_cons.mpr ⟨List.mem_of_getElem? (i := 575) (by decide +kernel), List.forall_mem_cons.mpr ⟨List.mem_of_getElem? (i := 297) (by decide +kernel), List.forall_mem_cons.mpr ⟨List.mem_of_getElem? (i := 304) (by decide +kernel), List.forall_mem_cons.mpr ⟨List.mem_of_getElem? (i := 308) (by decide +kernel), List.forall_mem_cons.mpr ⟨List.mem_of_getElem? (i := 353) (by decide +kernel), List.forall_mem_cons.mpr ⟨List.mem_of_getElem? (i := 357) (by decide +kernel), List.forall_mem_cons.mpr ⟨List.mem_of_getElem? (i := 228) (by decide +kernel), List.forall_mem_cons.mpr ⟨List.mem_of_getElem? (i := 324) (by decide +kernel), List.forall_mem_cons.mpr ⟨List.mem_of_getElem? (i := 522) (by decide +kernel), List.forall_mem_cons.mpr ⟨List.mem_of_getElem? (i := 233) (by decide +kernel), List.forall_mem_cons.mpr ⟨List.mem_of_getElem? (i := 316) (by decide +kernel), List.forall_mem_cons.mpr ⟨List.mem_of_getElem? (i := 317) (by decide +kernel), List.forall_mem_cons.mpr ⟨List.mem_of_getElem? (i := 333) (by decide +kernel), fun _ h => absurd h List.not_mem_nil⟩⟩⟩⟩⟩⟩⟩⟩⟩⟩⟩⟩⟩⟩⟩⟩⟩⟩⟩⟩⟩⟩⟩⟩⟩⟩⟩⟩⟩
theorem fw_nf : ∀ q ∈ aNf, Cond.fieldLinkNest "PaintedDie" q.1 q.2.1 q.2.2 "I" "PaintedDie" ∈ tables_1 := List.forall_mem_cons.mpr ⟨List.mem_of_getElem? (i := 31) (by decide +kernel), List.forall_mem_cons.mpr ⟨List.mem_of_getElem? (i := 33) (by decide +kernel), List.forall_mem_cons.mpr ⟨List.mem_of_getElem? (i := 54) (by decide +kernel), fun _ h => absurd h List.not_mem_nil⟩⟩⟩
theorem fw_st : ∀ q ∈ aSt, Cond.stringRef q.1 q.2.1 q.2.2 ∈ tables_1 := List.forall_mem_cons.mpr ⟨List.mem_of_getElem? (i := 583) (by decide +kernel), List.forall_mem_cons.mpr ⟨List.mem_of_getElem? (i := 566) (by decide +kernel), List.forall_mem_cons.mpr ⟨List.mem_of_getElem? (i := 280) (by decide +kernel), List.forall_mem_cons.mpr ⟨List.mem_of_getElem? (i := 389) (by decide +kernel), List.forall_mem_cons.mpr ⟨List.mem_of_getElem? (i := 232) (by decide +kernel), List.forall_mem_cons.mpr ⟨List.mem_of_getElem? (i := 219) (by decide +kernel), List.forall_mem_cons.mpr ⟨List.mem_of_getElem? (i := 169) (by decide +kernel), List.forall_mem_cons.mpr ⟨List.mem_of_getElem? (i := 501) (by decide +kernel), List.forall_mem_cons.mpr ⟨List.mem_of_getElem? (i := 515) (by decide +kernel), List.forall_mem_cons.mpr ⟨List.mem_of_getElem? (i := 530) (by decide +kernel), List.forall_mem_cons.mpr ⟨List.mem_of_getElem? (i := 536) (by decide +kernel), List.forall_mem_cons.mpr ⟨List.mem_of_getElem? (i := 546) (by decide +kernel), fun _ h => absurd h List.not_mem_nil⟩⟩⟩⟩⟩⟩⟩⟩⟩⟩⟩⟩
theorem fw_ex : ∀ q ∈ aSt, Cond.exactly (.string q.1 q.2.1) "java/lang/String" ∈ flatC (Jvm.Cond.and given_1 narrow_1) := by decide +kernel
theorem fw_cs : ∀ E ∈ aCs, Cond.castable E E ∈ tables_1 := List.forall_mem_cons.mpr ⟨List.mem_of_getElem? (i := 130) (by decide +kernel), List.forall_mem_cons.mpr ⟨List.mem_of_getElem? (i := 382) (by decide +kernel), List.forall_mem_cons.mpr ⟨List.mem_of_getElem? (i := 508) (by decide +kernel), fun _ h => absurd h List.not_mem_nil⟩⟩⟩
theorem fw_d1 : Cond.declares ⟨"java/lang/RuntimeException", "<init>", "(Ljava/lang/String;)V"⟩ ∈ tables_1 := List.mem_of_getElem? (i := 132) (by decide +kernel)
theorem fw_d2 : Cond.declares ⟨"java/lang/Exception", "<init>", "(Ljava/lang/String;)V"⟩ ∈ tables_1 := List.mem_of_getElem? (i := 134) (by decide +kernel)
theorem fw_d3 : Cond.declares ⟨"java/lang/Throwable", "<init>", "(Ljava/lang/String;)V"⟩ ∈ tables_1 := List.mem_of_getElem? (i := 136) (by decide +kernel)
theorem fw_o1 : Cond.instanceMethod ⟨"java/lang/Object", "<init>", "()V"⟩ ∈ tables_1 := List.mem_of_getElem? (i := 20) (by decide +kernel)
theorem fw_o2 : Cond.code ⟨"java/lang/Object", "<init>", "()V"⟩ object_method_1_code 1 none ∈ tables_1 := List.mem_of_getElem? (i := 21) (by decide +kernel)
theorem fw_aI : Cond.arrayClass .int ∈ tables_1 := List.mem_of_getElem? (i := 44) (by decide +kernel)
theorem fw_aZ : Cond.arrayClass .boolean ∈ tables_1 := List.mem_of_getElem? (i := 43) (by decide +kernel)
theorem fw_i0 : Cond.instantiable RX0 4 ∈ tables_1 := List.mem_of_getElem? (i := 23) (by decide +kernel)
theorem fw_i1 : Cond.instantiable RX1 3 ∈ tables_1 := List.mem_of_getElem? (i := 46) (by decide +kernel)
theorem fw_i3 : Cond.instantiable RX3 8 ∈ tables_1 := List.mem_of_getElem? (i := 15) (by decide +kernel)
theorem fw_i4 : Cond.instantiable RX4 11 ∈ tables_1 := List.mem_of_getElem? (i := 588) (by decide +kernel)
theorem fw_s1 : Cond.laysStatic Bundle.tN "UNASSIGNED_STACK" Bundle.steD ∈ tables_1 := List.mem_of_getElem? (i := 155) (by decide +kernel)
theorem fw_s2 : Cond.laysStatic Bundle.tN "SUPPRESSED_SENTINEL" Bundle.listD ∈ tables_1 := List.mem_of_getElem? (i := 157) (by decide +kernel)
theorem fw_s3 : Cond.initialized Bundle.tN ∈ tables_1 := List.mem_of_getElem? (i := 5) (by decide +kernel)
theorem fw_m1 : Cond.arrayOver (.array .boolean) ∈ tables_1 := List.mem_of_getElem? (i := 487) (by decide +kernel)
theorem fw_m2 : Cond.arrayOver (.array .int) ∈ tables_1 := List.mem_of_getElem? (i := 489) (by decide +kernel)
theorem fw_c9 : Cond.castable "[I" "java/lang/Cloneable" ∈ tables_1 := List.mem_of_getElem? (i := 560) (by decide +kernel)
theorem fw_f1 : Cond.fieldLinkNest "PaintedDieLaw$Sim" 52 "PaintedDieLaw" "ACROSS" "[I" "PaintedDieLaw" ∈ tables_1 := List.mem_of_getElem? (i := 443) (by decide +kernel)
theorem fw_f2 : Cond.fieldLinkNest "PaintedDieLaw$Sim" 57 "PaintedDieLaw" "DOWN" "[I" "PaintedDieLaw" ∈ tables_1 := List.mem_of_getElem? (i := 445) (by decide +kernel)
theorem fw_g1 : Cond.methodLinkNest "PaintedDieLaw" 88 yX4_init "PaintedDieLaw" ∈ tables_1 := List.mem_of_getElem? (i := 589) (by decide +kernel)
theorem fw_l0 : Cond.initialized "PaintedDieLaw" ∈ tables_1 := List.mem_of_getElem? (i := 0) (by decide +kernel)
theorem fw_l1 : Cond.laysStatic "PaintedDieLaw" "ACROSS" "[I" ∈ tables_1 := List.mem_of_getElem? (i := 444) (by decide +kernel)
theorem fw_l2 : Cond.laysStatic "PaintedDieLaw" "DOWN" "[I" ∈ tables_1 := List.mem_of_getElem? (i := 446) (by decide +kernel)
theorem fw_r1 : Cond.isRef (.static Bundle.tN "UNASSIGNED_STACK" Bundle.steD) ∈ flatC (Jvm.Cond.and given_1 narrow_1) := by decide +kernel
theorem fw_r2 : Cond.isRef (.static Bundle.tN "SUPPRESSED_SENTINEL" Bundle.listD) ∈ flatC (Jvm.Cond.and given_1 narrow_1) := by decide +kernel
theorem fw_Ar : Cond.arrayOf (.static "PaintedDieLaw" "ACROSS" "[I") .int ∈ flatC (Jvm.Cond.and given_1 narrow_1) := by decide +kernel
theorem fw_Al : Cond.eq (.length (.static "PaintedDieLaw" "ACROSS" "[I")) (.int 4) ∈ flatC (Jvm.Cond.and given_1 narrow_1) := by decide +kernel
theorem fw_A0 : Cond.eq (.elem (.static "PaintedDieLaw" "ACROSS" "[I") (.int 0)) (.int 0) ∈ flatC (Jvm.Cond.and given_1 narrow_1) := by decide +kernel
theorem fw_A1 : Cond.eq (.elem (.static "PaintedDieLaw" "ACROSS" "[I") (.int 1)) (.int 1) ∈ flatC (Jvm.Cond.and given_1 narrow_1) := by decide +kernel
theorem fw_A2 : Cond.eq (.elem (.static "PaintedDieLaw" "ACROSS" "[I") (.int 2)) (.int 0) ∈ flatC (Jvm.Cond.and given_1 narrow_1) := by decide +kernel
theorem fw_A3 : Cond.eq (.elem (.static "PaintedDieLaw" "ACROSS" "[I") (.int 3)) (.int (-1)) ∈ flatC (Jvm.Cond.and given_1 narrow_1) := by decide +kernel
theorem fw_Br : Cond.arrayOf (.static "PaintedDieLaw" "DOWN" "[I") .int ∈ flatC (Jvm.Cond.and given_1 narrow_1) := by decide +kernel
theorem fw_Bl : Cond.eq (.length (.static "PaintedDieLaw" "DOWN" "[I")) (.int 4) ∈ flatC (Jvm.Cond.and given_1 narrow_1) := by decide +kernel
theorem fw_B0 : Cond.eq (.elem (.static "PaintedDieLaw" "DOWN" "[I") (.int 0)) (.int (-1)) ∈ flatC (Jvm.Cond.and given_1 narrow_1) := by decide +kernel
theorem fw_B1 : Cond.eq (.elem (.static "PaintedDieLaw" "DOWN" "[I") (.int 1)) (.int 0) ∈ flatC (Jvm.Cond.and given_1 narrow_1) := by decide +kernel
theorem fw_B2 : Cond.eq (.elem (.static "PaintedDieLaw" "DOWN" "[I") (.int 2)) (.int 1) ∈ flatC (Jvm.Cond.and given_1 narrow_1) := by decide +kernel
theorem fw_B3 : Cond.eq (.elem (.static "PaintedDieLaw" "DOWN" "[I") (.int 3)) (.int 0) ∈ flatC (Jvm.Cond.and given_1 narrow_1) := by decide +kernel
theorem st_decl {y : MethodName} {s : State} {args : Array Value} {bytes : ByteArray} {ml : Nat} {rt : Option FieldType} (h1 : (Cond.instanceMethod y).before args s = true) (h2 : (Cond.code y bytes ml rt).before args s = true) : (Cond.declares y).before #[] s = true := by
  obtain ⟨m, meth, a1, a2, a3, -⟩ := Cond.instanceMethod_spec h1
  obtain ⟨meth2, c, b1, -, -, -, -, -, -, b8⟩ := Cond.code_spec a1 h2
  cases Option.some.inj (a2.symm.trans b1)
  simp [Cond.before, Cond.holds, Cond.value, a1, a2, a3, b8]
theorem st_arr {s : State} {args : Array Value} {ty : FieldType} (h : (Cond.arrayClass ty).before args s = true) : ∃ cA, ArrOfT s cA ty ∧ s.vm.findClass ("[" ++ ty.toString) = some cA := by
  obtain ⟨cA, kA, comp, h1, h2, h3⟩ := Cond.arrayClass_spec h
  exact ⟨cA, fun n z => ⟨fun k h => (by cases h), kA, h2, comp, h3⟩, h1⟩
theorem st_str {own tx : String} {k : Nat} {s : State} {args : Array Value} (h1 : (Cond.stringRef own k tx).before args s = true) (h2 : (Cond.exactly (.string own k) "java/lang/String").before args s = true) : ∃ a, vk_R own k tx a s := by
  obtain ⟨a, c, cA, kA, q1, -⟩ := Cond.exactly_spec (args := args) (first := s) (o := none) (s := s) (idx := []) (t := .string own k) (cls := "java/lang/String") h2
  exact ⟨a, vk_R.of (A := args) h1 q1⟩
theorem st_tab {b : Nat} {s : State} (h : ∀ w ∈ lw_tbl, w.before #[Value.ref b] s = true) : ∀ w ∈ tables_1, w.before #[Value.ref b] s = true := fun w hw => h w (List.mem_append_right _ hw)
theorem st_aB {b : Nat} {s : State} (h : ∀ w ∈ tables_1, w.before #[Value.ref b] s = true) (hg : (Jvm.Cond.and given_1 narrow_1).before #[Value.ref b] s = true) : aB s := by
  have hf := flat_of_before _ hg
  refine ⟨⟨fun q hq => va_Nw.of rfl (h _ (fw_nf q hq)), fun q hq => va_Nw.of rfl (h _ (fw_nm q hq))⟩, fun q hq => st_str (h _ (fw_st q hq)) (hf _ (fw_ex q hq)), fun E hE => va_tabs rfl rfl (h _ (fw_cs E hE)), ?_⟩
  intro y hy
  have hy2 : y = ⟨"java/lang/RuntimeException", "<init>", "(Ljava/lang/String;)V"⟩ ∨ y = ⟨"java/lang/Exception", "<init>", "(Ljava/lang/String;)V"⟩ ∨ y = ⟨"java/lang/Throwable", "<init>", "(Ljava/lang/String;)V"⟩ ∨ y = ⟨"java/lang/Object", "<init>", "()V"⟩ := by
    simpa [aDc] using hy
  rcases hy2 with rfl | rfl | rfl | rfl
  · exact va_tabs rfl rfl (h _ fw_d1)
  · exact va_tabs rfl rfl (h _ fw_d2)
  · exact va_tabs rfl rfl (h _ fw_d3)
  · exact st_decl (h _ fw_o1) (h _ fw_o2)
theorem st_aZ {b : Nat} {s : State} (h : ∀ w ∈ tables_1, w.before #[Value.ref b] s = true) (hg : (Jvm.Cond.and given_1 narrow_1).before #[Value.ref b] s = true) : aZ (fun q => s.heap.size ≤ q) s s.heap := by
  have hf := flat_of_before _ hg
  exact ⟨vx_Zqof (h _ fw_s1) (h _ fw_s3) (hf _ fw_r1) (fun a ha => Nat.not_le.mpr ha), vx_Zqof (h _ fw_s2) (h _ fw_s3) (hf _ fw_r2) (fun a ha => Nat.not_le.mpr ha)⟩
theorem st_aoa {s : State} {args : Array Value} {t : FieldType} (h : (Cond.arrayOver (.array t)).before args s = true) : ∃ cA, ArrOfT s cA (.array t) ∧ s.vm.findClass ("[" ++ (FieldType.array t).toString) = some cA := by
  have h : (Cond.arrayOver (.array t)).holds args s none s [] = true := h
  simp only [Cond.holds, Cond.value, beq_iff_eq] at h
  cases hc : s.vm.findClass (FieldType.array t).toString with
  | none => simp [hc] at h
  | some comp =>
    simp only [hc, Option.bind_some, Option.bind_eq_some_iff, Option.map_eq_some_iff] at h
    obtain ⟨c, hi, k, hk, hb⟩ := h
    cases hkind : k.kind with
    | array component ty =>
      rw [hkind] at hb
      simp at hb
      exact ⟨c, fun n z => ⟨fun k9 h9 => (by cases h9), k, hk, component, by rw [hkind, hb.1]⟩, hb.2⟩
    | _ => rw [hkind] at hb; simp at hb
theorem st_aNk {b : Nat} {s : State} (h : ∀ w ∈ tables_1, w.before #[Value.ref b] s = true) : aNk s :=
  ⟨h _ fw_m1, h _ fw_m2, va_Nw.of rfl (h _ fw_c9), va_Nw.of rfl (h _ fw_f1), va_Nw.of rfl (h _ fw_f2), va_Nw.of rfl (h _ fw_g1)⟩
theorem st_row {b : Nat} {s : State} (h : ∀ w ∈ tables_1, w.before #[Value.ref b] s = true) (hg : (Jvm.Cond.and given_1 narrow_1).before #[Value.ref b] s = true) :
    (∃ t : Nat, va_Z "PaintedDieLaw" "ACROSS" "[I" (.ref t) (fun q => s.heap.size ≤ q) s s.heap ∧ va_T .int t 4 (fun j => .int (acr j)) (fun q => s.heap.size ≤ q) s s.heap) ∧ ∃ t : Nat, va_Z "PaintedDieLaw" "DOWN" "[I" (.ref t) (fun q => s.heap.size ≤ q) s s.heap ∧ va_T .int t 4 (fun j => .int (dwn j)) (fun q => s.heap.size ≤ q) s s.heap := by
  have hf := flat_of_before _ hg
  constructor
  · obtain ⟨t, e, hT⟩ := va_Tof (args := #[Value.ref b]) (s := s) (tm := .static "PaintedDieLaw" "ACROSS" "[I") (ty := .int) (N := 4) (f := fun j => .int (acr j)) (A := fun q => s.heap.size ≤ q) (by decide) (hf _ fw_Ar) (va_eqt (hf _ fw_Al)) (fun j hj => by
      match j, hj with
      | 0, _ => exact va_eqt (hf _ fw_A0)
      | 1, _ => exact va_eqt (hf _ fw_A1)
      | 2, _ => exact va_eqt (hf _ fw_A2)
      | 3, _ => exact va_eqt (hf _ fw_A3)
      | j + 4, h => exact absurd h (by omega)) (fun a ha => Nat.not_le.mpr ha)
    exact ⟨t, va_Zof (h _ fw_l1) (h _ fw_l0) e (fun a ha => Nat.not_le.mpr ha), hT⟩
  · obtain ⟨t, e, hT⟩ := va_Tof (args := #[Value.ref b]) (s := s) (tm := .static "PaintedDieLaw" "DOWN" "[I") (ty := .int) (N := 4) (f := fun j => .int (dwn j)) (A := fun q => s.heap.size ≤ q) (by decide) (hf _ fw_Br) (va_eqt (hf _ fw_Bl)) (fun j hj => by
      match j, hj with
      | 0, _ => exact va_eqt (hf _ fw_B0)
      | 1, _ => exact va_eqt (hf _ fw_B1)
      | 2, _ => exact va_eqt (hf _ fw_B2)
      | 3, _ => exact va_eqt (hf _ fw_B3)
      | j + 4, h => exact absurd h (by omega)) (fun a ha => Nat.not_le.mpr ha)
    exact ⟨t, va_Zof (h _ fw_l2) (h _ fw_l0) e (fun a ha => Nat.not_le.mpr ha), hT⟩
theorem st_scr {b L : Nat} {xs : Nat → Int32} {s : State} (h : va_X b L xs s s.heap) (hb : b < s.heap.size) : va_T .int b L (fun j => .int (xs j)) (fun q => s.heap.size ≤ q) s s.heap := by
  obtain ⟨scr, hcb, hof, hkn, hsz, hval⟩ := h
  exact ⟨scr, hcb, hof, hkn, Nat.le_of_eq hsz.symm, by rw [hsz], hval, Nat.not_le.mpr hb⟩
theorem st_K {b : Nat} {s : State} (h : ∀ w ∈ lw_tbl, w.before #[Value.ref b] s = true) : ∃ K : aG, va_K K.1 vwCl (aT K) s := by
  have ht := st_tab h
  obtain ⟨c0, i0, k0⟩ := u_known (C := RX0) (T := TX0) (N := 4) (n := 4) h lin_wsX00 (ht _ fw_i0)
  obtain ⟨c1, i1, k1⟩ := u_known (C := RX1) (T := TX1) (N := 3) (n := 3) h (fun w hw => wsL_law_in w (inlX1 w hw)) (ht _ fw_i1)
  obtain ⟨c3, i3, k3⟩ := u_known (C := RX3) (T := TX3) (N := 8) (n := 8) h lin_wsX30 (ht _ fw_i3)
  obtain ⟨c4, i4, k4⟩ := u_known (C := RX4) (T := TX4) (N := 11) (n := 11) h lin_wsX40 (ht _ fw_i4)
  obtain ⟨cI, aI, nI9⟩ := st_arr (ht _ fw_aI)
  obtain ⟨cZ, aZ9, nZ9⟩ := st_arr (ht _ fw_aZ)
  obtain ⟨cJ, aJ, nJ9⟩ := st_aoa (ht _ fw_m2)
  obtain ⟨cY, aY, nY9⟩ := st_aoa (ht _ fw_m1)
  refine ⟨((fun k => if k = 0 then c0 else if k = 1 then c1 else if k = 2 then c3 else c4, fun k => if k = 0 then i0 else if k = 1 then i1 else if k = 2 then i3 else i4), cI, cZ, cJ, cY), fun k q hq => ?_, fun k q hq => ?_⟩
  · match k, hq with
    | 0, hq => cases hq; exact k0
    | 1, hq => cases hq; exact k1
    | 2, hq => cases hq; exact k3
    | 3, hq => cases hq; exact k4
    | k + 4, hq => simp at hq
  · match k, hq with
    | 0, hq => cases hq; exact ⟨aI, nI9⟩
    | 1, hq => cases hq; exact ⟨aZ9, nZ9⟩
    | 2, hq => cases hq; exact ⟨aJ, nJ9⟩
    | 3, hq => cases hq; exact ⟨aY, nY9⟩
    | k + 4, hq => simp at hq
