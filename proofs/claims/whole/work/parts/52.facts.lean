/-! ===== what the tables and the start say, for the law's walk ===== -/
theorem fw_nm : ∀ q ∈ aNm, Cond.methodLinkNest q.1 q.2.1 q.2.2 "PaintedDie" ∈ tables_1 := List.forall_mem_cons.mpr ⟨List.mem_of_getElem? (i := 25) (by decide +kernel), List.forall_mem_cons.mpr ⟨List.mem_of_getElem? (i := 100) (by decide +kernel), List.forall_mem_cons.mpr ⟨List.mem_of_getElem? (i := 107) (by decide +kernel), List.forall_mem_cons.mpr ⟨List.mem_of_getElem? (i := 114) (by decide +kernel), List.forall_mem_cons.mpr ⟨List.mem_of_getElem? (i := 252) (by decide +kernel), List.forall_mem_cons.mpr ⟨List.mem_of_getElem? (i := 261) (by decide +kernel), List.forall_mem_cons.mpr ⟨List.mem_of_getElem? (i := 448) (by decide +kernel), List.forall_mem_cons.mpr ⟨List.mem_of_getElem? (i := 138) (by decide +kernel), List.forall_mem_cons.mpr ⟨List.mem_of_getElem? (i := 517) (by decide +kernel), List.forall_mem_cons.mpr ⟨List.mem_of_getElem? (i := 211) (by decide +kernel), List.forall_mem_cons.mpr ⟨List.mem_of_getElem? (i := 536) (by decide +kernel), List.forall_mem_cons.mpr ⟨List.mem_of_getElem? (i := 553) (by decide +kernel), List.forall_mem_cons.mpr ⟨List.mem_of_getElem? (i := 449) (by decide +kernel), List.forall_mem_cons.mpr ⟨List.mem_of_getElem? (i := 265) (by decide +kernel), List.forall_mem_cons.mpr ⟨List.mem_of_getElem? (i := 48) (by decide +kernel), List.forall_mem_cons.mpr ⟨List.mem_of_getElem? (i := 67) (by decide +kernel), List.forall_mem_cons.mpr ⟨List.mem_of_getElem? (i := 454) (by decide +kernel), List.forall_mem_cons.mpr ⟨List.mem_of_getElem? (i := 158) (by decide +kernel), List.forall_mem_cons.mpr ⟨List.mem_of_getElem? (i := 165) (by decide +kernel), List.forall_mem_cons.mpr ⟨List.mem_of_getElem? (i := 169) (by decide +kernel), List.forall_mem_cons.mpr ⟨List.mem_of_getElem? (i := 548) (by decide +kernel), List.forall_mem_cons.mpr ⟨List.mem_of_getElem? (i := 552) (by decide +kernel), List.forall_mem_cons.mpr ⟨List.mem_of_getElem? (i := 361) (by decide +kernel), List.forall_mem_cons.mpr ⟨List.mem_of_getElem? (i := 259) (by decide +kernel), List.forall_mem_cons.mpr ⟨List.mem_of_getElem? (i := 394) (by decide +kernel), List.forall_mem_cons.mpr ⟨List.mem_of_getElem? (i := 260) (by decide +kernel), List.forall_mem_cons.mpr ⟨List.mem_of_getElem? (i := 177) (by decide +kernel), List.forall_mem_cons.mpr ⟨List.mem_of_getElem? (i := 194) (by decide +kernel), List.forall_mem_cons.mpr ⟨List.mem_of_getElem? (i := 219) (by decide +kernel), fun _ h => absurd h List.not_mem_nil⟩⟩⟩⟩⟩⟩⟩⟩⟩⟩⟩⟩⟩⟩⟩⟩⟩⟩⟩⟩⟩⟩⟩⟩⟩⟩⟩⟩⟩
theorem fw_nf : ∀ q ∈ aNf, Cond.fieldLinkNest "PaintedDie" q.1 q.2.1 q.2.2 "I" "PaintedDie" ∈ tables_1 := List.forall_mem_cons.mpr ⟨List.mem_of_getElem? (i := 32) (by decide +kernel), List.forall_mem_cons.mpr ⟨List.mem_of_getElem? (i := 34) (by decide +kernel), List.forall_mem_cons.mpr ⟨List.mem_of_getElem? (i := 55) (by decide +kernel), fun _ h => absurd h List.not_mem_nil⟩⟩⟩
theorem fw_st : ∀ q ∈ aSt, Cond.stringRef q.1 q.2.1 q.2.2 ∈ tables_1 := List.forall_mem_cons.mpr ⟨List.mem_of_getElem? (i := 458) (by decide +kernel), List.forall_mem_cons.mpr ⟨List.mem_of_getElem? (i := 466) (by decide +kernel), List.forall_mem_cons.mpr ⟨List.mem_of_getElem? (i := 516) (by decide +kernel), List.forall_mem_cons.mpr ⟨List.mem_of_getElem? (i := 568) (by decide +kernel), List.forall_mem_cons.mpr ⟨List.mem_of_getElem? (i := 371) (by decide +kernel), List.forall_mem_cons.mpr ⟨List.mem_of_getElem? (i := 411) (by decide +kernel), List.forall_mem_cons.mpr ⟨List.mem_of_getElem? (i := 443) (by decide +kernel), List.forall_mem_cons.mpr ⟨List.mem_of_getElem? (i := 321) (by decide +kernel), List.forall_mem_cons.mpr ⟨List.mem_of_getElem? (i := 387) (by decide +kernel), List.forall_mem_cons.mpr ⟨List.mem_of_getElem? (i := 412) (by decide +kernel), List.forall_mem_cons.mpr ⟨List.mem_of_getElem? (i := 420) (by decide +kernel), List.forall_mem_cons.mpr ⟨List.mem_of_getElem? (i := 429) (by decide +kernel), fun _ h => absurd h List.not_mem_nil⟩⟩⟩⟩⟩⟩⟩⟩⟩⟩⟩⟩
theorem fw_ex : ∀ q ∈ aSt, Cond.exactly (.string q.1 q.2.1) "java/lang/String" ∈ flatC (Jvm.Cond.and given_1 narrow_1) := by decide +kernel
theorem fw_cs : ∀ E ∈ aCs, Cond.castable E E ∈ tables_1 := List.forall_mem_cons.mpr ⟨List.mem_of_getElem? (i := 364) (by decide +kernel), List.forall_mem_cons.mpr ⟨List.mem_of_getElem? (i := 282) (by decide +kernel), List.forall_mem_cons.mpr ⟨List.mem_of_getElem? (i := 380) (by decide +kernel), fun _ h => absurd h List.not_mem_nil⟩⟩⟩
theorem fw_d1 : Cond.declares ⟨"java/lang/RuntimeException", "<init>", "(Ljava/lang/String;)V"⟩ ∈ tables_1 := List.mem_of_getElem? (i := 284) (by decide +kernel)
theorem fw_d2 : Cond.declares ⟨"java/lang/Exception", "<init>", "(Ljava/lang/String;)V"⟩ ∈ tables_1 := List.mem_of_getElem? (i := 286) (by decide +kernel)
theorem fw_d3 : Cond.declares ⟨"java/lang/Throwable", "<init>", "(Ljava/lang/String;)V"⟩ ∈ tables_1 := List.mem_of_getElem? (i := 288) (by decide +kernel)
theorem fw_o1 : Cond.instanceMethod ⟨"java/lang/Object", "<init>", "()V"⟩ ∈ tables_1 := List.mem_of_getElem? (i := 21) (by decide +kernel)
theorem fw_o2 : Cond.code ⟨"java/lang/Object", "<init>", "()V"⟩ object_method_1_code 1 none ∈ tables_1 := List.mem_of_getElem? (i := 22) (by decide +kernel)
theorem fw_aI : Cond.arrayClass .int ∈ tables_1 := List.mem_of_getElem? (i := 45) (by decide +kernel)
theorem fw_aZ : Cond.arrayClass .boolean ∈ tables_1 := List.mem_of_getElem? (i := 44) (by decide +kernel)
theorem fw_aJ : Cond.arrayClass .long ∈ tables_1 := List.mem_of_getElem? (i := 919) (by decide +kernel)
theorem fw_i0 : Cond.instantiable RX0 4 ∈ tables_1 := List.mem_of_getElem? (i := 24) (by decide +kernel)
theorem fw_i1 : Cond.instantiable RX1 3 ∈ tables_1 := List.mem_of_getElem? (i := 47) (by decide +kernel)
theorem fw_i3 : Cond.instantiable RX3 8 ∈ tables_1 := List.mem_of_getElem? (i := 16) (by decide +kernel)
theorem fw_i4 : Cond.instantiable RX4 25 ∈ tables_1 := List.mem_of_getElem? (i := 581) (by decide +kernel)
theorem fw_s1 : Cond.laysStatic Bundle.tN "UNASSIGNED_STACK" Bundle.steD ∈ tables_1 := List.mem_of_getElem? (i := 307) (by decide +kernel)
theorem fw_s2 : Cond.laysStatic Bundle.tN "SUPPRESSED_SENTINEL" Bundle.listD ∈ tables_1 := List.mem_of_getElem? (i := 309) (by decide +kernel)
theorem fw_s3 : Cond.initialized Bundle.tN ∈ tables_1 := List.mem_of_getElem? (i := 5) (by decide +kernel)
theorem fw_r1 : Cond.isRef (.static Bundle.tN "UNASSIGNED_STACK" Bundle.steD) ∈ flatC (Jvm.Cond.and given_1 narrow_1) := by decide +kernel
theorem fw_r2 : Cond.isRef (.static Bundle.tN "SUPPRESSED_SENTINEL" Bundle.listD) ∈ flatC (Jvm.Cond.and given_1 narrow_1) := by decide +kernel
theorem fw_n1 : Cond.not (.castable "java/lang/IllegalStateException" "java/lang/IndexOutOfBoundsException") ∈ flatC (Jvm.Cond.and given_1 narrow_1) := by decide +kernel
theorem fw_n2 : Cond.not (.castable "java/lang/IllegalArgumentException" "java/lang/IndexOutOfBoundsException") ∈ flatC (Jvm.Cond.and given_1 narrow_1) := by decide +kernel
theorem st_decl {y : MethodName} {s : State} {args : Array Value} {bytes : ByteArray} {ml : Nat} {rt : Option FieldType} (h1 : (Cond.instanceMethod y).before args s = true) (h2 : (Cond.code y bytes ml rt).before args s = true) : (Cond.declares y).before #[] s = true := by
  obtain ⟨m, meth, a1, a2, a3, -⟩ := Cond.instanceMethod_spec h1
  obtain ⟨meth2, c, b1, -, -, -, -, -, -, b8⟩ := Cond.code_spec a1 h2
  cases Option.some.inj (a2.symm.trans b1)
  simp [Cond.before, Cond.holds, Cond.value, a1, a2, a3, b8]
theorem st_arr {s : State} {args : Array Value} {ty : FieldType} (h : (Cond.arrayClass ty).before args s = true) : ∃ cA, ArrOfT s cA ty ∧ s.vm.findClass ("[" ++ ty.toString) = some cA := by
  obtain ⟨cA, kA, comp, h1, h2, h3⟩ := Cond.arrayClass_spec h
  exact ⟨cA, fun n z => ⟨fun k h => (by cases h), kA, h2, comp, h3⟩, h1⟩
theorem st_str {own tx : String} {k : Nat} {s : State} {args : Array Value} (h1 : (Cond.stringRef own k tx).before args s = true) (h2 : (Cond.exactly (.string own k) "java/lang/String").before args s = true) : ∃ a, vk_R own k tx a s := by
  obtain ⟨a, c, cA, kA, q1, -⟩ := Cond.exactly_spec (args := args) (first := s) (o := none) (s := s) (idx := []) (t := .string own k) (cls := "java/lang/String") h2
  exact ⟨a, vk_R.of (A := args) h1 q1⟩
theorem st_tab {b : Nat} {s : State} (h : ∀ w ∈ lw_tbl, w.before #[Value.ref b] s = true) : ∀ w ∈ tables_1, w.before #[Value.ref b] s = true := fun w hw => h w (List.mem_append_right _ hw)
theorem st_aB {b : Nat} {s : State} (h : ∀ w ∈ tables_1, w.before #[Value.ref b] s = true) (hg : (Jvm.Cond.and given_1 narrow_1).before #[Value.ref b] s = true) : aB s := by
  have hf := flat_of_before _ hg
  refine ⟨⟨fun q hq => va_Nw.of rfl (h _ (fw_nf q hq)), fun q hq => va_Nw.of rfl (h _ (fw_nm q hq))⟩, fun q hq => st_str (h _ (fw_st q hq)) (hf _ (fw_ex q hq)), fun E hE => va_tabs rfl rfl (h _ (fw_cs E hE)), ?_⟩
  intro y hy
  have hy2 : y = ⟨"java/lang/RuntimeException", "<init>", "(Ljava/lang/String;)V"⟩ ∨ y = ⟨"java/lang/Exception", "<init>", "(Ljava/lang/String;)V"⟩ ∨ y = ⟨"java/lang/Throwable", "<init>", "(Ljava/lang/String;)V"⟩ ∨ y = ⟨"java/lang/Object", "<init>", "()V"⟩ := by
    simpa [aDc] using hy
  rcases hy2 with rfl | rfl | rfl | rfl
  · exact va_tabs rfl rfl (h _ fw_d1)
  · exact va_tabs rfl rfl (h _ fw_d2)
  · exact va_tabs rfl rfl (h _ fw_d3)
  · exact st_decl (h _ fw_o1) (h _ fw_o2)
theorem st_aZ {b : Nat} {s : State} (h : ∀ w ∈ tables_1, w.before #[Value.ref b] s = true) (hg : (Jvm.Cond.and given_1 narrow_1).before #[Value.ref b] s = true) : aZ (fun q => s.heap.size ≤ q) s s.heap := by
  have hf := flat_of_before _ hg
  exact ⟨vx_Zqof (h _ fw_s1) (h _ fw_s3) (hf _ fw_r1) (fun a ha => Nat.not_le.mpr ha), vx_Zqof (h _ fw_s2) (h _ fw_s3) (hf _ fw_r2) (fun a ha => Nat.not_le.mpr ha)⟩
theorem st_aN {b : Nat} {s : State} (hg : (Jvm.Cond.and given_1 narrow_1).before #[Value.ref b] s = true) : aNcs s := by
  have hf := flat_of_before _ hg
  exact ⟨va_Nc.of (hf _ fw_n1), va_Nc.of (hf _ fw_n2)⟩
theorem st_K {b : Nat} {s : State} (h : ∀ w ∈ lw_tbl, w.before #[Value.ref b] s = true) : ∃ K : aG, va_K K.1 vwCl (aT K) s := by
  have ht := st_tab h
  obtain ⟨c0, i0, k0⟩ := u_known (C := RX0) (T := TX0) (N := 4) (n := 4) h lin_wsX00 (ht _ fw_i0)
  obtain ⟨c1, i1, k1⟩ := u_known (C := RX1) (T := TX1) (N := 3) (n := 3) h lin_wsX10 (ht _ fw_i1)
  obtain ⟨c3, i3, k3⟩ := u_known (C := RX3) (T := TX3) (N := 8) (n := 8) h lin_wsX30 (ht _ fw_i3)
  obtain ⟨c4, i4, k4⟩ := u_known (C := RX4) (T := TX4) (N := 25) (n := 25) h lin_wsX40 (ht _ fw_i4)
  obtain ⟨cI, aI, nI9⟩ := st_arr (ht _ fw_aI)
  obtain ⟨cZ, aZ9, nZ9⟩ := st_arr (ht _ fw_aZ)
  obtain ⟨cJ, aJ, nJ9⟩ := st_arr (ht _ fw_aJ)
  refine ⟨((fun k => if k = 0 then c0 else if k = 1 then c1 else if k = 2 then c3 else c4, fun k => if k = 0 then i0 else if k = 1 then i1 else if k = 2 then i3 else i4), cI, cZ, cJ), fun k q hq => ?_, fun k q hq => ?_⟩
  · match k, hq with
    | 0, hq => cases hq; exact k0
    | 1, hq => cases hq; exact k1
    | 2, hq => cases hq; exact k3
    | 3, hq => cases hq; exact k4
    | k + 4, hq => simp at hq
  · match k, hq with
    | 0, hq => cases hq; exact ⟨aI, nI9⟩
    | 1, hq => cases hq; exact ⟨aZ9, nZ9⟩
    | 2, hq => cases hq; exact ⟨aJ, nJ9⟩
    | k + 3, hq => simp at hq
