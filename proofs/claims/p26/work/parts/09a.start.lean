theorem iw_0 : Cond.instantiable RJx4a65c 3 ∈ lw_tbl := by decide +kernel
theorem iw_1 : Cond.instantiable RX0 10 ∈ lw_tbl := by decide +kernel
theorem iw_2 : Cond.instantiable RX1 3 ∈ lw_tbl := by decide +kernel
theorem iw_3 : Cond.instantiable RX2 8 ∈ lw_tbl := by decide +kernel
theorem iw_4 : Cond.instantiable RX3 8 ∈ lw_tbl := by decide +kernel
theorem iw_int : Cond.arrayClass .int ∈ lw_tbl := by decide +kernel
theorem iw_long : Cond.arrayClass .long ∈ lw_tbl := by decide +kernel
theorem iw_bool : Cond.arrayClass .boolean ∈ lw_tbl := by decide +kernel
theorem iw_over : Cond.arrayOver (.object "java/lang/Object") ∈ lw_tbl := by decide +kernel
theorem iw_dc : Cond.declares ⟨"java/lang/Object", "getClass", "()Ljava/lang/Class;"⟩ ∈ lw_tbl := by decide +kernel
theorem iw_nest : ∀ q ∈ nestQ, Cond.fieldLinkNest q.1 q.2.1 q.2.2.1 q.2.2.2.1 q.2.2.2.2 "RefusePlanner" ∈ lw_tbl := by decide +kernel
theorem iw_cast : ∀ q ∈ castQ, Cond.castable q.1 q.2 ∈ lw_tbl := by decide +kernel
theorem iw_dec : ∀ q ∈ decQ, Cond.declares q ∈ lw_tbl := by decide +kernel
theorem iw_str : ∀ q ∈ SL3, Cond.stringRef RX3 q.1 q.2 ∈ lw_tbl := by decide +kernel
theorem iw_st1 : Cond.laysStatic "java/util/ArrayList" "DEFAULTCAPACITY_EMPTY_ELEMENTDATA" "[Ljava/lang/Object;" ∈ lw_tbl := by decide +kernel
theorem iw_st2 : Cond.laysStatic Bundle.tN "UNASSIGNED_STACK" Bundle.steD ∈ lw_tbl := by decide +kernel
theorem iw_st3 : Cond.laysStatic Bundle.tN "SUPPRESSED_SENTINEL" Bundle.listD ∈ lw_tbl := by decide +kernel
theorem iw_in1 : Cond.initialized "java/util/ArrayList" ∈ lw_tbl := by decide +kernel
theorem iw_in2 : Cond.initialized Bundle.tN ∈ lw_tbl := by decide +kernel
abbrev gvF : Cond := Jvm.Cond.and given_1 narrow_1
theorem gv_nc {s : State} {b : Nat} (hs : gvF.before #[Value.ref b] s = true) : ∀ q ∈ ncQ, (Cond.not (.castable q.1 q.2)).before #[Value.ref b] s = true := fun q hq => by
  exact absurd hq List.not_mem_nil
theorem gv_str {s : State} {b : Nat} (hs : gvF.before #[Value.ref b] s = true) : ∀ q ∈ SL3, (Cond.exactly (.string RX3 q.1) "java/lang/String").before #[Value.ref b] s = true := fun q hq => by
  have hf := flat_of_before _ hs
  simp only [SL3, List.mem_cons, List.not_mem_nil, or_false] at hq
  rcases hq with rfl | rfl | rfl | rfl | rfl | rfl | rfl | rfl | rfl | rfl | rfl | rfl | rfl | rfl
  all_goals exact hf _ (by decide +kernel)
theorem gv_mi {s : State} {b : Nat} (hs : gvF.before #[Value.ref b] s = true) : (Cond.isRef (.mirror "[Ljava/lang/Object;")).before #[Value.ref b] s = true := flat_of_before _ hs _ (by decide +kernel)
theorem gv_ar {s : State} {b : Nat} (hs : gvF.before #[Value.ref b] s = true) : (Cond.arrayOf (.static "java/util/ArrayList" "DEFAULTCAPACITY_EMPTY_ELEMENTDATA" "[Ljava/lang/Object;") (.object "java/lang/Object")).before #[Value.ref b] s = true := flat_of_before _ hs _ (by decide +kernel)
theorem gv_ln {s : State} {b : Nat} (hs : gvF.before #[Value.ref b] s = true) : (Cond.eq (.length (.static "java/util/ArrayList" "DEFAULTCAPACITY_EMPTY_ELEMENTDATA" "[Ljava/lang/Object;")) (.int 0)).before #[Value.ref b] s = true := flat_of_before _ hs _ (by decide +kernel)
theorem gv_z1 {s : State} {b : Nat} (hs : gvF.before #[Value.ref b] s = true) : (Cond.isRef (.static Bundle.tN "UNASSIGNED_STACK" Bundle.steD)).before #[Value.ref b] s = true := flat_of_before _ hs _ (by decide +kernel)
theorem gv_z2 {s : State} {b : Nat} (hs : gvF.before #[Value.ref b] s = true) : (Cond.isRef (.static Bundle.tN "SUPPRESSED_SENTINEL" Bundle.listD)).before #[Value.ref b] s = true := flat_of_before _ hs _ (by decide +kernel)
theorem eqi_of {args : Array Value} {s : State} {t : Term} {z : Int32} (h : (Cond.eq t (.int z)).before args s = true) : t.eval args s none [] s = some (.int z) := by
  cases hv : t.eval args s none [] s with
  | none => simp [Cond.before, Cond.holds, Cond.value, hv] at h
  | some w =>
    have hz : (Term.int z).eval args s none [] s = some (.int z) := rfl
    simp only [Cond.before, Cond.holds, Cond.value, hv, hz] at h
    cases w <;> simp_all
theorem str_of {args : Array Value} {s : State} {own tx : String} {k : Nat} (h1 : (Cond.stringRef own k tx).before args s = true) (h2 : (Cond.exactly (.string own k) "java/lang/String").before args s = true) : ∃ a, vk_R own k tx a s := by
  obtain ⟨a, -, -, -, hv, -⟩ := Cond.exactly_spec h2
  exact ⟨a, vk_R.of h1 hv⟩
theorem ty_prim {s : State} {ty : FieldType} {cA : ClassId} {kA : Class} {comp : ClassId} (h1 : s.vm.findClass ("[" ++ ty.toString) = some cA) (h2 : s.vm.classes[cA]? = some kA) (h3 : kA.kind = .array comp ty) : ArrOfT s cA ty := fun n z => ⟨fun k h => (by cases h), kA, h2, comp, h3⟩
/-- all that the contracts ask of the tables and of the launch, at the start -/
theorem st_words {s : State} {b : Nat} (hts : ∀ w ∈ lw_tbl, w.before #[Value.ref b] s = true) (hgv : gvF.before #[Value.ref b] s = true) : ∃ g : Gx, KX g s ∧ TH g SL3 (fun q => s.heap.size ≤ q) s s.heap := by
  have hA : ∀ q : Nat, q < s.heap.size → ¬ (fun q : Nat => s.heap.size ≤ q) q := fun q h => Nat.not_le.mpr h
  obtain ⟨cc0, ii0, kn0⟩ := u_known (C := RJx4a65c) (T := TJx4a65c) (N := 3) (n := 3) hts inJx4a65c (hts (.instantiable RJx4a65c 3) iw_0)
  obtain ⟨cc1, ii1, kn1⟩ := u_known (C := RX0) (T := TX0) (N := 10) (n := 10) hts inX0 (hts (.instantiable RX0 10) iw_1)
  obtain ⟨cc2, ii2, kn2⟩ := u_known (C := RX1) (T := TX1) (N := 3) (n := 3) hts inX1 (hts (.instantiable RX1 3) iw_2)
  obtain ⟨cc3, ii3, kn3⟩ := u_known (C := RX2) (T := TX2) (N := 8) (n := 8) hts inX2 (hts (.instantiable RX2 8) iw_3)
  obtain ⟨cc4, ii4, kn4⟩ := u_known (C := RX3) (T := TX3) (N := 8) (n := 8) hts inX3 (hts (.instantiable RX3 8) iw_4)
  obtain ⟨cI, kI, pI, aI1, aI2, aI3⟩ := Cond.arrayClass_spec (hts _ iw_int)
  obtain ⟨cJ, kJ, pJ, aJ1, aJ2, aJ3⟩ := Cond.arrayClass_spec (hts _ iw_long)
  obtain ⟨cZ, kZ, pZ, aZ1, aZ2, aZ3⟩ := Cond.arrayClass_spec (hts _ iw_bool)
  obtain ⟨pO, cO, kO, o1, -, o2, o3, o4⟩ := Cond.arrayOver_spec (hts _ iw_over)
  obtain ⟨mi, hmi⟩ := va_Mi.of (gv_mi hgv)
  obtain ⟨e0, he0, hT0⟩ := va_Tof (args := #[Value.ref b]) (s := s) (tm := .static "java/util/ArrayList" "DEFAULTCAPACITY_EMPTY_ELEMENTDATA" "[Ljava/lang/Object;") (ty := .object "java/lang/Object") (N := 0) (f := fun _ => .null) (A := fun q => s.heap.size ≤ q) (by decide) (gv_ar hgv) (eqi_of (gv_ln hgv)) (fun j hj => absurd hj (Nat.not_lt_zero j)) hA
  have hZ0 := va_Zof (hts _ iw_st1) (hts _ iw_in1) he0 hA
  refine ⟨((fun k => if k = 0 then cc0 else if k = 1 then cc1 else if k = 2 then cc2 else if k = 3 then cc3 else cc4, fun k => if k = 0 then ii0 else if k = 1 then ii1 else if k = 2 then ii2 else if k = 3 then ii3 else ii4), cI, cJ, cZ, cO, e0, mi), ⟨⟨?_, ?_⟩, ?_⟩, ⟨?_, ?_⟩, ?_, hZ0, hT0⟩
  · intro k q hq
    match k, hq with
    | 0, hq => cases hq; exact kn0
    | 1, hq => cases hq; exact kn1
    | 2, hq => cases hq; exact kn2
    | 3, hq => cases hq; exact kn3
    | 4, hq => cases hq; exact kn4
    | k + 5, hq => simp [vwCl] at hq
  · intro k q hq
    match k, hq with
    | 0, hq => cases hq; exact ⟨ty_prim aI1 aI2 aI3, aI1⟩
    | 1, hq => cases hq; exact ⟨ty_prim aJ1 aJ2 aJ3, aJ1⟩
    | 2, hq => cases hq; exact ⟨ty_prim aZ1 aZ2 aZ3, aZ1⟩
    | 3, hq => cases hq; exact ⟨ty_prim o4 o2 o3, kO, pO, o2, o3, o1, o4⟩
    | k + 4, hq => simp [tyL] at hq
  · exact ⟨fun q hq => va_Nw.of rfl (hts _ (iw_nest q hq)), fun q hq => va_Nw.of rfl (hts _ (iw_cast q hq)), fun q hq => va_Nc.of (gv_nc hgv q hq), fun q hq => va_Nw.of rfl (hts _ (iw_dec q hq)), hmi, va_Dc.of (hts _ iw_dc), va_AO.of (hts _ iw_over)⟩
  · exact vx_Zqof (hts _ iw_st2) (hts _ iw_in2) (gv_z1 hgv) hA
  · exact vx_Zqof (hts _ iw_st3) (hts _ iw_in2) (gv_z2 hgv) hA
  · exact fun q hq => str_of (hts _ (iw_str q hq)) (gv_str hgv q hq)


