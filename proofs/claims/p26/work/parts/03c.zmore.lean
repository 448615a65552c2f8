theorem EDZ.to {g : Gx} {A B : Nat → Prop} {s U : State} {H0 H : Heap} {locs : List Loc} (h : EDZ g A s H0) (hW : s.WarmedH U.vm) (hS : va_S A H0 H locs) (hBA : ∀ q, B q → A q) : EDZ g B U H :=
  ⟨va_Z.moved hW.alike ((h.1.kept hS.2.1).narrow hBA), va_T.moved hW.alike ((h.2.kept hS.2.1).narrow hBA)⟩
def PE (g : Gx) (av : List Value) (sz : Nat) (wW wR : va_W) : Array Value → State → Prop := va_Pc av (fun U => U.heap.size = sz ∧ va_P g.1 vwCl (wW ++ wR) U.heap ∧ KX g U ∧ va_D (fun _ => True) (wW ++ wR) ∧ EDZ g (va_A wW sz) U U.heap)
theorem pe_blind {g : Gx} {av : List Value} {sz : Nat} {wW wR : va_W} : FrameBlind (PE g av sz wW wR) := fun a U gg mk q => ⟨q.1, q.2.1, q.2.2.1, ⟨va_K.moved (u := U) (U := U.calling gg mk a) (Vm.Alike.refl U.vm) q.2.2.2.1.1, q.2.2.2.1.2.same rfl⟩, q.2.2.2.2.1, va_Z.moved (u := U) (U := U.calling gg mk a) (Vm.Alike.refl U.vm) q.2.2.2.2.2.1, va_T.moved (u := U) (U := U.calling gg mk a) (Vm.Alike.refl U.vm) q.2.2.2.2.2.2⟩
/-- a cell at the front goes to the end -/
theorem WD.rotE {A : Nat → Prop} {g : Gx} {H0 H : Heap} {wW : va_W} {x : Nat × va_E} {locs : List Loc} (hw : WD A g H0 (x :: wW) [] H locs) : WD A g H0 (wW ++ [x]) [] H locs := by
  obtain ⟨hP, hD, hAw, hS⟩ := hw
  rw [List.append_nil] at hP hD
  have hg : ∀ (k : Nat) (q : Nat × va_E), (wW ++ [x])[k]? = some q → (x :: wW)[if k < wW.length then k + 1 else 0]? = some q ∧ k ≤ wW.length := by
    intro k q hk
    have hl := (List.getElem?_eq_some_iff.mp hk).1
    rw [List.length_append] at hl
    have hl' : k < wW.length + 1 := hl
    by_cases h1 : k < wW.length
    · rw [if_pos h1]
      rw [List.getElem?_append_left h1] at hk
      exact ⟨hk, by omega⟩
    · rw [if_neg h1]
      rw [List.getElem?_append_right (by omega), show k - wW.length = 0 by omega] at hk
      exact ⟨hk, by omega⟩
  refine ⟨by rw [List.append_nil]; exact hP.by _ (fun k q hk => (hg k q hk).1), ?_, fun k q hk => hAw _ q (hg k q hk).1, hS⟩
  rw [List.append_nil]
  refine hD.by _ (fun k q hk => (hg k q hk).1) (fun i j hi hj e => ?_)
  have hi' : i < wW.length + 1 := by simpa using hi
  have hj' : j < wW.length + 1 := by simpa using hj
  by_cases h1 : i < wW.length <;> by_cases h2 : j < wW.length
  · rw [if_pos h1, if_pos h2] at e; omega
  · rw [if_pos h1, if_neg h2] at e; omega
  · rw [if_neg h1, if_pos h2] at e; omega
  · omega
/-- the new row at the front takes the place of the old one -/
theorem WD.row {A : Nat → Prop} {g : Gx} {H0 H : Heap} {X bs : va_W} {r1 r0 : Nat × va_E} {locs : List Loc} (hw : WD A g H0 (r1 :: (X ++ r0 :: bs)) [] H locs) : WD A g H0 (X ++ r1 :: bs) [] H locs := by
  obtain ⟨hP, hD, hAw, hS⟩ := hw
  rw [List.append_nil] at hP hD
  have hg : ∀ (k : Nat) (q : Nat × va_E), (X ++ r1 :: bs)[k]? = some q → (r1 :: (X ++ r0 :: bs))[if k = X.length then 0 else k + 1]? = some q := by
    intro k q hk
    by_cases h1 : k = X.length
    · rw [if_pos h1]
      rw [List.getElem?_append_right (by omega), show k - X.length = 0 by omega] at hk
      exact hk
    · rw [if_neg h1, List.getElem?_cons_succ]
      by_cases h2 : k < X.length
      · rw [List.getElem?_append_left h2] at hk ⊢
        exact hk
      · rw [List.getElem?_append_right (by omega)] at hk ⊢
        rw [show k - X.length = (k - X.length - 1) + 1 by omega, List.getElem?_cons_succ] at hk ⊢
        exact hk
  refine ⟨by rw [List.append_nil]; exact hP.by _ hg, ?_, fun k q hk => hAw _ q (hg k q hk), hS⟩
  rw [List.append_nil]
  refine hD.by _ hg (fun i j _ _ e => ?_)
  by_cases h1 : i = X.length <;> by_cases h2 : j = X.length
  · omega
  · rw [if_pos h1, if_neg h2] at e; omega
  · rw [if_neg h1, if_pos h2] at e; omega
  · rw [if_neg h1, if_neg h2] at e; omega
theorem bp_pos {g : Gx} {n ed cap : Nat} {ad : Nat → Nat} {B : Nat → Nat → Int32} (hn : 0 < n) : bp g n ed cap ad B = (ed, .inl (g.2.2.2.2.1, cap, .inr (.inr (.inr (.inr (elf n ad)))))) :: bins n ad B := by
  cases n with
  | zero => omega
  | succ n => rfl
def ins {α : Type} (f : Nat → α) (n : Nat) (x : α) : Nat → α := fun i => if i = n then x else f i
theorem elf_ins {n bn : Nat} {ad : Nat → Nat} : va_up (elf n ad) n (some bn) = elf (n + 1) (ins ad n bn) := by
  funext i
  unfold va_up elf ins
  by_cases h1 : i = n
  · subst h1
    simp
  · by_cases h2 : i < n
    · simp [h1, h2, show i < n + 1 by omega]
    · simp [h1, h2, show ¬ i < n + 1 by omega]
theorem bins_ins {n bn : Nat} {ad : Nat → Nat} {B : Nat → Nat → Int32} {b : Nat → Int32} : bins (n + 1) (ins ad n bn) (ins B n b) = bins n ad B ++ [(bn, bE b)] := by
  unfold bins
  rw [List.range_succ, List.map_append]
  congr 1
  · refine List.map_congr_left fun i hi => ?_
    have h1 : ¬ i = n := by have := List.mem_range.mp hi; omega
    unfold ins
    rw [if_neg h1, if_neg h1]
  · unfold ins
    simp
/-- the bin at the front goes into the list, whose row holds it already -/
theorem WD.join {A : Nat → Prop} {g : Gx} {H0 H : Heap} {X : va_W} {n ed cap bn : Nat} {ad : Nat → Nat} {B : Nat → Nat → Int32} {b : Nat → Int32} {locs : List Loc} (hw : WD A g H0 ((bn, bE b) :: (X ++ (ed, .inl (g.2.2.2.2.1, cap, .inr (.inr (.inr (.inr (va_up (elf n ad) n (some bn))))))) :: bins n ad B)) [] H locs) : WD A g H0 (X ++ bp g (n + 1) ed cap (ins ad n bn) (ins B n b)) [] H locs := by
  have h1 := hw.rotE
  rw [elf_ins, List.append_assoc, List.cons_append, ← bins_ins] at h1
  exact h1
theorem cpy_elf {n : Nat} {ad : Nat → Nat} {k : Nat} (hk : n ≤ k) : va_cpy (elf n ad) (fun _ => none) 0 0 k = elf n ad := by
  funext i
  unfold va_cpy elf
  by_cases h1 : i < n
  · simp [h1, show i < k by omega]
  · by_cases h2 : i < k
    · simp [h1, h2]
    · simp [h1, h2]
section ZM
variable {p : Program} {l : Launch} {e : Env} {R : Room} {s : State} {m : MethodId} {args : Array Value} {below : List Frame} {meth : Method} {c : Code} {Q : State → Prop} {A : Nat → Prop} {g : Gx} {nL : Nat} {cc : ByteArray} {Ts : List Cond} {own : String} {pc : Nat} {lv : List (Nat × Value)} {st : List Value} {wW wR : va_W} {kc ks : Nat}
theorem z_rotE {x : Nat × va_E} (k : Z p l e R s m args below meth c Q A g nL pc lv st (wW ++ [x]) [] kc ks) : Z p l e R s m args below meth c Q A g nL pc lv st (x :: wW) [] kc ks := fun H locs ls hw hl => k H locs ls hw.rotE hl
theorem z_row {X bs : va_W} {r1 r0 : Nat × va_E} (k : Z p l e R s m args below meth c Q A g nL pc lv st (X ++ r1 :: bs) [] kc ks) : Z p l e R s m args below meth c Q A g nL pc lv st (r1 :: (X ++ r0 :: bs)) [] kc ks := fun H locs ls hw hl => k H locs ls hw.row hl
theorem z_join {X : va_W} {n ed cap bn : Nat} {ad : Nat → Nat} {B : Nat → Nat → Int32} {b : Nat → Int32} (k : Z p l e R s m args below meth c Q A g nL pc lv st (X ++ bp g (n + 1) ed cap (ins ad n bn) (ins B n b)) [] kc ks) : Z p l e R s m args below meth c Q A g nL pc lv st ((bn, bE b) :: (X ++ (ed, .inl (g.2.2.2.2.1, cap, .inr (.inr (.inr (.inr (va_up (elf n ad) n (some bn))))))) :: bins n ad B)) [] kc ks := fun H locs ls hw hl => k H locs ls hw.join hl
theorem z_gets (h : CX p s m args meth c A g nL cc Ts own) (hE : EDZ g A s s.heap) {index : Nat} (hlink : Cond.fieldLink own index "java/util/ArrayList" "DEFAULTCAPACITY_EMPTY_ELEMENTDATA" "[Ljava/lang/Object;" ∈ Ts) (hdg : decode cc pc = .ok (.getstatic index, 3)) (k : Z p l e R s m args below meth c Q A g nL (pc + 3) lv (.ref g.2.2.2.2.2.1 :: st) wW wR kc ks) : Z p l e R s m args below meth c Q A g nL pc lv st wW wR kc ks := fun H locs ls hw hl => va_gets h.1 h.2.1 hE.1 hw.2.2.2 h.2.2.2.1 (h.ts _ hlink) (fun _ q => q) hdg (k H locs ls hw hl)
theorem z_len0 (h : CX p s m args meth c A g nL cc Ts own) (hE : EDZ g A s s.heap) (hdg : decode cc pc = .ok (.arraylength, 1)) (k : Z p l e R s m args below meth c Q A g nL (pc + 1) lv (.int 0 :: st) wW wR kc ks) : Z p l e R s m args below meth c Q A g nL pc lv (.ref g.2.2.2.2.2.1 :: st) wW wR kc ks := fun H locs ls hw hl => va_tlen h.1 h.2.1 hE.2 hw.2.2.2 rfl hdg (k H locs ls hw hl)
theorem z_acmp_eq (h : CX p s m args meth c A g nL cc Ts own) {rx ry : Nat} {off : Int} {tgt : Nat} (hdg : decode cc pc = .ok (.if_acmp .eq off, 3)) (ht : (pc : Int) + off = (tgt : Int)) (kt : rx = ry → Z p l e R s m args below meth c Q A g nL tgt lv st wW wR kc ks) (kf : ¬ rx = ry → Z p l e R s m args below meth c Q A g nL (pc + 3) lv st wW wR kc ks) : Z p l e R s m args below meth c Q A g nL pc lv (.ref ry :: .ref rx :: st) wW wR kc ks := fun H locs ls hw hl => lv_acmp_eq h.1 h.2.1 (rx := some rx) (ry := some ry) hdg ht (fun q => kt (by simpa using q) H locs ls hw hl) (fun q => kf (by simpa using q) H locs ls hw hl)
theorem z_acmp_ne (h : CX p s m args meth c A g nL cc Ts own) {rx ry : Nat} {off : Int} {tgt : Nat} (hdg : decode cc pc = .ok (.if_acmp .ne off, 3)) (ht : (pc : Int) + off = (tgt : Int)) (kt : ¬ rx = ry → Z p l e R s m args below meth c Q A g nL tgt lv st wW wR kc ks) (kf : rx = ry → Z p l e R s m args below meth c Q A g nL (pc + 3) lv st wW wR kc ks) : Z p l e R s m args below meth c Q A g nL pc lv (.ref ry :: .ref rx :: st) wW wR kc ks := fun H locs ls hw hl => lv_acmp_ne h.1 h.2.1 (rx := some rx) (ry := some ry) hdg ht (fun q => kt (by simpa using q) H locs ls hw hl) (fun q => kf (by simpa using q) H locs ls hw hl)
theorem z_dup_x1 (h : CX p s m args meth c A g nL cc Ts own) {va vb : Value} (hdg : decode cc pc = .ok (.dup_x1, 1)) (hva : va.category = 1) (hvb : vb.category = 1) (k : Z p l e R s m args below meth c Q A g nL (pc + 1) lv (va :: vb :: va :: st) wW wR kc ks) : Z p l e R s m args below meth c Q A g nL pc lv (va :: vb :: st) wW wR kc ks := fun H locs ls hw hl => lv_dup_x1 h.1 h.2.1 hdg hva hvb (k H locs ls hw hl)
theorem z_newq (h : CX p s m args meth c A g nL cc Ts own) {index : Nat} (hclink : Cond.classLink own index "java/lang/Object" ∈ Ts) {n : Int32} {N' : Nat} (hn : ¬ n < 0) (hN : n.toNatClampNeg = N') (hbytes : N' * 4 ≤ 536870912) (hcells : kc + 1 ≤ R.cells) (hslots : ks + N' ≤ R.slots) (hdg : decode cc pc = .ok (.anewarray index, 3))
    (k : ∀ q : Nat, Z p l e R s m args below meth c Q A g nL (pc + 3) lv (.ref q :: st) (wW ++ [(q, .inl (g.2.2.2.2.1, N', .inr (.inr (.inr (.inr (fun _ => none))))))]) wR (kc + 1) (ks + N')) : Z p l e R s m args below meth c Q A g nL pc lv (.int n :: st) wW wR kc ks := by
  intro H locs ls hw hl
  subst hN
  refine W.anew h.1 h.2.1 h.2.2.2.1 (h.ts _ hclink) (va_AO.use h.KN.2.2.2.2.2.2.2) rfl hdg rfl hn hbytes hcells hslots fun cA kA comp f1 f2 f3 f4 => ?_
  have hcA : cA = g.2.2.2.2.1 := by
    obtain ⟨-, -, -, -, -, h4⟩ := (h.K.2 3 (g.2.2.2.2.1, .object "java/lang/Object") rfl).2
    exact Option.some.inj (f1.symm.trans h4)
  subst hcA
  generalize hH1 : H.push ({ cls := g.2.2.2.2.1, slots := Array.replicate n.toNatClampNeg .null, vm := .none } : Cell) = H1
  have z1 : H1.size = H.size + 1 := by rw [← hH1, Array.size_push]
  have e1 : H1[H.size]? = some (arrV g.2.2.2.2.1 n.toNatClampNeg (fun _ => .null)) := by rw [← hH1, Array.getElem?_push_size, ← arrV_new]
  have o1 : ∀ q : Nat, q < H.size → H1[q]? = H[q]? := fun q hq => by rw [← hH1, Array.getElem?_push, if_neg (Nat.ne_of_lt hq)]
  refine k H.size H1 locs ls (WD.push hw h.2.2.2.2.2.2.1 z1 o1 ?_) hl
  show H1[H.size]? = some (vp_cell _ _)
  rw [vp_cell_q]
  exact e1
theorem z_getC (h : CX p s m args meth c A g nL cc Ts own) {index a cap : Nat} {f : Nat → Option Nat} (q0 : Nat) (ha : (wW ++ wR)[q0]? = some (a, .inl (g.2.2.2.2.1, cap, .inr (.inr (.inr (.inr f)))))) (hlink : Cond.methodLink own index ⟨"java/lang/Object", "getClass", "()Ljava/lang/Class;"⟩ ∈ Ts) (hsel : Cond.selects "[Ljava/lang/Object;" ⟨"java/lang/Object", "getClass", "()Ljava/lang/Class;"⟩ ⟨"java/lang/Object", "getClass", "()Ljava/lang/Class;"⟩ ∈ Ts) (hinst : Cond.instanceMethod ⟨"java/lang/Object", "getClass", "()Ljava/lang/Class;"⟩ ∈ Ts) (hnat : Cond.native ⟨"java/lang/Object", "getClass", "()Ljava/lang/Class;"⟩ ∈ Ts) (hframes : 1 ≤ R.frames) (hlocals : (st.map fun v => v.category).sum + 14 ≤ R.locals) (hdg : decode cc pc = .ok (.invokevirtual index, 3))
    (k : Z p l e R s m args below meth c Q A g nL (pc + 3) lv (.ref g.2.2.2.2.2.2 :: st) wW wR kc ks) : Z p l e R s m args below meth c Q A g nL pc lv (.ref a :: st) wW wR kc ks := fun H locs ls hw hl => by
  refine va_getC (C := "[Ljava/lang/Object;") h.1 h.2.1 (h.2.2.1.trans hl.1.symm) h.2.2.2.1 (h.ts _ hlink) (va_Dc.use h.KN.2.2.2.2.2.2.1) (h.ts _ hsel) (h.ts _ hinst) (h.ts _ hnat) h.KN.2.2.2.2.2.1 ?_ hframes hlocals hdg (k H locs ls hw hl)
  obtain ⟨-, -, -, -, -, h4⟩ := (h.K.2 3 (g.2.2.2.2.1, .object "java/lang/Object") rfl).2
  exact ⟨_, hw.1 q0 _ ha, rfl, h4⟩
theorem z_ldcM (h : CX p s m args meth c A g nL cc Ts own) {index : Nat} (hlink : Cond.classLink own index "[Ljava/lang/Object;" ∈ Ts) (hdg : decode cc pc = .ok (.ldc index, 2)) (k : Z p l e R s m args below meth c Q A g nL (pc + 2) lv (.ref g.2.2.2.2.2.2 :: st) wW wR kc ks) : Z p l e R s m args below meth c Q A g nL pc lv st wW wR kc ks := fun H locs ls hw hl => va_ldcM h.1 h.2.1 h.2.2.2.1 (h.ts _ hlink) h.KN.2.2.2.2.2.1 hdg (k H locs ls hw hl)
theorem z_copyq (h : CX p s m args meth c A g nL cc Ts own) {index a0 a n1 n cap : Nat} {ad : Nat → Nat} {B : Nat → Nat → Int32} {X : va_W} (hlink : Cond.methodLink own index arraycopyName ∈ Ts) (hnat : Cond.native arraycopyName ∈ Ts) (hstat : Cond.static arraycopyName ∈ Ts) (hini : Cond.initialized "java/lang/System" ∈ Ts)
    (hW : wW = X ++ (a0, .inl (g.2.2.2.2.1, cap, .inr (.inr (.inr (.inr (elf n ad)))))) :: bins n ad B) (q1 : Nat) (ha1 : wW[q1]? = some (a, .inl (g.2.2.2.2.1, n1, .inr (.inr (.inr (.inr (fun _ => none))))))) {k9 : Nat} {n9 : Int32} (hn9 : n9 = nI k9) (hk9 : k9 < 2 ^ 31) (h0 : n ≤ k9) (h1 : k9 ≤ cap) (h2 : k9 ≤ n1) {wW' : va_W} (hws : wW.set q1 (a, .inl (g.2.2.2.2.1, n1, .inr (.inr (.inr (.inr (elf n ad)))))) = wW')
    (hframes : 1 ≤ R.frames) (hlocals : (st.map fun v => v.category).sum + (nativeFrameWords "java/lang/System" "arraycopy" 5 + 11) ≤ R.locals) (hdg : decode cc pc = .ok (.invokestatic index, 3))
    (k : Z p l e R s m args below meth c Q A g nL (pc + 3) lv st wW' [] kc ks) : Z p l e R s m args below meth c Q A g nL pc lv (.int n9 :: .int 0 :: .ref a :: .int 0 :: .ref a0 :: st) wW [] kc ks := by
  intro H locs ls hw hl
  subst hn9
  subst hws
  obtain ⟨hP, hD, hAw, hS⟩ := hw
  rw [List.append_nil] at hP hD
  have hDA : va_D A wW := ⟨hD.1, hAw⟩
  have hc9 : (nI k9).toNatClampNeg = k9 := nI_clamp hk9
  have h00 : ((0 : Int32)).toNatClampNeg = 0 := rfl
  have ha0 : wW[X.length]? = some (a0, .inl (g.2.2.2.2.1, cap, .inr (.inr (.inr (.inr (elf n ad)))))) := by rw [hW, List.getElem?_append_right (Nat.le_refl _), Nat.sub_self]; rfl
  refine va_copyq (C := "RefusePlanner$Bin") h.1 h.2.1 (h.2.2.1.trans hl.1.symm) h.2.2.2.1 (h.ts _ hlink) (h.ts _ hnat) (h.ts _ hstat) (h.ts _ hini) h.K hP hDA hS X.length q1 3 3 ha0 ha1 rfl rfl (by decide) (by decide) (nI_pos hk9) (by rw [h00, hc9]; omega) (by rw [h00, hc9]; omega) (fun i hi y hy => ?_) (fun comp c0 => vb_asgC (h.KN.2.2.1 ("RefusePlanner$Bin", "java/lang/Object") (by decide)) comp c0) hframes hlocals hdg fun H1 locs1 p1 d1 s1 => ?_
  · rw [h00, Nat.zero_add] at hy
    unfold elf at hy
    by_cases hin : i < n
    · rw [if_pos hin] at hy
      have hy' : ad i = y := Option.some.inj hy
      subst hy'
      have he : wW[X.length + (i + 1)]? = some (ad i, bE (B i)) := by
        rw [hW, List.getElem?_append_right (Nat.le_add_right _ _), Nat.add_sub_cancel_left, List.getElem?_cons_succ]
        unfold bins
        rw [List.getElem?_map, List.getElem?_range hin]
        rfl
      exact va_recv (ci := 1) h.K hP rfl he
    · rw [if_neg hin] at hy
      cases hy
  · rw [h00, hc9, cpy_elf h0] at p1 d1
    exact k H1 locs1 ls ⟨by rw [List.append_nil]; exact p1, by rw [List.append_nil]; exact d1.weaken (fun _ _ _ _ => trivial), fun j q hq => d1.2 j q hq, s1⟩ hl
theorem z_YiE (h : CX p s m args meth c A g nL cc Ts own) (hE : EDZ g A s s.heap) {y : MethodName} {C : String} {bytes : ByteArray} {maxL : Nat} {ret : Option FieldType} {ws : List Cond} {rm : Room} {mc ms n index : Nat} {Y cW : va_W} {b : Nat} {As : List Value} {S : Type} {w1 wN : S → va_W} {post : Int32 → S → Prop} (hM : ∀ sz, Met l y ws rm (PE g (.ref b :: As) sz cW []) (va_Qi post (BZ g cW sz w1) (va_A cW sz)) mc ms (va_A cW sz)) (cw : CallW R s args own C index y bytes maxL ret ws rm mc ms n) (hn : As.length = n) (hY : wW = Y ++ cW) (q0 : Nat) {ci : Nat} {fs : List Value} {qC : vw_C} (he : (wW ++ [])[q0]? = some (b, .inr (ci, fs))) (hc : vwCl[ci]? = some qC) (hqC : qC.1 = C) {st0 : List Value} (hst : st0 = As.reverse ++ .ref b :: st) (hcat : (st.map fun v => v.category).sum ≤ 8) (hroom : kc + mc ≤ R.cells ∧ ks + ms ≤ R.slots) (hN : ∀ u, Y ++ w1 u = wN u) (hdg : decode cc pc = .ok (.invokevirtual index, 3))
    (kk : ∀ (r : Int32) (u : S), post r u → Z p l e R s m args below meth c Q A g nL (pc + 3) lv (.int r :: st) (wN u) [] (kc + mc) (ks + ms)) : Z p l e R s m args below meth c Q A g nL pc lv st0 wW [] kc ks := by
  intro H locs ls hw hl
  subst hst
  subst hY
  have hsub := hw.suf
  have hA1 := hw.sufA h.2.2.2.2.2.2.1
  refine va_calli (A1 := va_A cW H.size) (va_runV (As := As) (rest := st) ⟨h.1, h.2.1, h.2.2.1, h.2.2.2.1, h.ts⟩ (hM H.size) cw ⟨pe_blind, by rw [← hqC]; exact va_recv h.K hw.1 hc he, fun U hU hW => ⟨rfl, by rw [hU], by rw [hU]; exact hsub.1, h.KN.warm hW, hsub.2, by rw [hU]; exact hE.to hW hw.2.2.2 hA1⟩⟩ rfl hn hl.1 rfl (lv_room hcat) hdg hroom) hw.2.2.2 (fun q _ hq => hA1 q hq) hA1 (fun r u t H1 locs1 ht hvm hp hB hz hk hS => ?_)
  obtain ⟨hP1, hD1⟩ := hB
  rw [ht] at hP1
  exact kk r u hp H1 locs1 ls (hN u ▸ hw.sufBack h.2.2.2.2.2.2.1 hk hP1 hD1 hS) hl
theorem z_YvE (h : CX p s m args meth c A g nL cc Ts own) (hE : EDZ g A s s.heap) {y : MethodName} {C : String} {bytes : ByteArray} {maxL : Nat} {ret : Option FieldType} {ws : List Cond} {rm : Room} {mc ms n index : Nat} {Y cW : va_W} {b : Nat} {As : List Value} {S : Type} {w1 wN : S → va_W} {post : S → Prop} (hM : ∀ sz, Met l y ws rm (PE g (.ref b :: As) sz cW []) (va_Qv post (BZ g cW sz w1) (va_A cW sz)) mc ms (va_A cW sz)) (cw : CallW R s args own C index y bytes maxL ret ws rm mc ms n) (hn : As.length = n) (hY : wW = Y ++ cW) (q0 : Nat) {ci : Nat} {fs : List Value} {qC : vw_C} (he : (wW ++ [])[q0]? = some (b, .inr (ci, fs))) (hc : vwCl[ci]? = some qC) (hqC : qC.1 = C) {st0 : List Value} (hst : st0 = As.reverse ++ .ref b :: st) (hcat : (st.map fun v => v.category).sum ≤ 8) (hroom : kc + mc ≤ R.cells ∧ ks + ms ≤ R.slots) (hN : ∀ u, Y ++ w1 u = wN u) (hdg : decode cc pc = .ok (.invokevirtual index, 3))
    (kk : ∀ (u : S), post u → Z p l e R s m args below meth c Q A g nL (pc + 3) lv st (wN u) [] (kc + mc) (ks + ms)) : Z p l e R s m args below meth c Q A g nL pc lv st0 wW [] kc ks := by
  intro H locs ls hw hl
  subst hst
  subst hY
  have hsub := hw.suf
  have hA1 := hw.sufA h.2.2.2.2.2.2.1
  refine va_callv (A1 := va_A cW H.size) (va_runV (As := As) (rest := st) ⟨h.1, h.2.1, h.2.2.1, h.2.2.2.1, h.ts⟩ (hM H.size) cw ⟨pe_blind, by rw [← hqC]; exact va_recv h.K hw.1 hc he, fun U hU hW => ⟨rfl, by rw [hU], by rw [hU]; exact hsub.1, h.KN.warm hW, hsub.2, by rw [hU]; exact hE.to hW hw.2.2.2 hA1⟩⟩ rfl hn hl.1 rfl (lv_room hcat) hdg hroom) hw.2.2.2 (fun q _ hq => hA1 q hq) hA1 (fun u t H1 locs1 ht hvm hp hB hz hk hS => ?_)
  obtain ⟨hP1, hD1⟩ := hB
  rw [ht] at hP1
  exact kk u hp H1 locs1 ls (hN u ▸ hw.sufBack h.2.2.2.2.2.2.1 hk hP1 hD1 hS) hl
theorem z_YrE (h : CX p s m args meth c A g nL cc Ts own) (hE : EDZ g A s s.heap) {y : MethodName} {C : String} {bytes : ByteArray} {maxL : Nat} {ret : Option FieldType} {ws : List Cond} {rm : Room} {mc ms n index : Nat} {Y cW : va_W} {b : Nat} {As : List Value} {S : Type} {w1 wN : S → va_W} {post : S → Prop} {ad : S → Nat} (hM : ∀ sz, Met l y ws rm (PE g (.ref b :: As) sz cW []) (va_Qr post (BZr g cW sz w1 ad) (va_A cW sz)) mc ms (va_A cW sz)) (cw : CallW R s args own C index y bytes maxL ret ws rm mc ms n) (hn : As.length = n) (hY : wW = Y ++ cW) (q0 : Nat) {ci : Nat} {fs : List Value} {qC : vw_C} (he : (wW ++ [])[q0]? = some (b, .inr (ci, fs))) (hc : vwCl[ci]? = some qC) (hqC : qC.1 = C) {st0 : List Value} (hst : st0 = As.reverse ++ .ref b :: st) (hcat : (st.map fun v => v.category).sum ≤ 8) (hroom : kc + mc ≤ R.cells ∧ ks + ms ≤ R.slots) (hN : ∀ u, Y ++ w1 u = wN u) (hdg : decode cc pc = .ok (.invokevirtual index, 3))
    (kk : ∀ (u : S), post u → Z p l e R s m args below meth c Q A g nL (pc + 3) lv (.ref (ad u) :: st) (wN u) [] (kc + mc) (ks + ms)) : Z p l e R s m args below meth c Q A g nL pc lv st0 wW [] kc ks := by
  intro H locs ls hw hl
  subst hst
  subst hY
  have hsub := hw.suf
  have hA1 := hw.sufA h.2.2.2.2.2.2.1
  refine va_callr (A1 := va_A cW H.size) (va_runV (As := As) (rest := st) ⟨h.1, h.2.1, h.2.2.1, h.2.2.2.1, h.ts⟩ (hM H.size) cw ⟨pe_blind, by rw [← hqC]; exact va_recv h.K hw.1 hc he, fun U hU hW => ⟨rfl, by rw [hU], by rw [hU]; exact hsub.1, h.KN.warm hW, hsub.2, by rw [hU]; exact hE.to hW hw.2.2.2 hA1⟩⟩ rfl hn hl.1 rfl (lv_room hcat) hdg hroom) hw.2.2.2 (fun q _ hq => hA1 q hq) hA1 (fun u aq t H1 locs1 ht hvm hp hB hz hk hS => ?_)
  obtain ⟨ha, hP1, hD1⟩ := hB
  subst ha
  rw [ht] at hP1
  exact kk u hp H1 locs1 ls (hN u ▸ hw.sufBack h.2.2.2.2.2.2.1 hk hP1 hD1 hS) hl
theorem z_Yr (h : CX p s m args meth c A g nL cc Ts own)  {y : MethodName} {C : String} {bytes : ByteArray} {maxL : Nat} {ret : Option FieldType} {ws : List Cond} {rm : Room} {mc ms n index : Nat} {Y cW : va_W} {b : Nat} {As : List Value} {S : Type} {w1 wN : S → va_W} {post : S → Prop} {ad : S → Nat} (hM : ∀ sz, Met l y ws rm (PZ g (.ref b :: As) sz cW []) (va_Qr post (BZr g cW sz w1 ad) (va_A cW sz)) mc ms (va_A cW sz)) (cw : CallW R s args own C index y bytes maxL ret ws rm mc ms n) (hn : As.length = n) (hY : wW = Y ++ cW) (q0 : Nat) {ci : Nat} {fs : List Value} {qC : vw_C} (he : (wW ++ [])[q0]? = some (b, .inr (ci, fs))) (hc : vwCl[ci]? = some qC) (hqC : qC.1 = C) {st0 : List Value} (hst : st0 = As.reverse ++ .ref b :: st) (hcat : (st.map fun v => v.category).sum ≤ 8) (hroom : kc + mc ≤ R.cells ∧ ks + ms ≤ R.slots) (hN : ∀ u, Y ++ w1 u = wN u) (hdg : decode cc pc = .ok (.invokevirtual index, 3))
    (kk : ∀ (u : S), post u → Z p l e R s m args below meth c Q A g nL (pc + 3) lv (.ref (ad u) :: st) (wN u) [] (kc + mc) (ks + ms)) : Z p l e R s m args below meth c Q A g nL pc lv st0 wW [] kc ks := by
  intro H locs ls hw hl
  subst hst
  subst hY
  have hsub := hw.suf
  have hA1 := hw.sufA h.2.2.2.2.2.2.1
  refine va_callr (A1 := va_A cW H.size) (va_runV (As := As) (rest := st) ⟨h.1, h.2.1, h.2.2.1, h.2.2.2.1, h.ts⟩ (hM H.size) cw ⟨pz_blind, by rw [← hqC]; exact va_recv h.K hw.1 hc he, fun U hU hW => ⟨rfl, by rw [hU], by rw [hU]; exact hsub.1, h.KN.warm hW, hsub.2⟩⟩ rfl hn hl.1 rfl (lv_room hcat) hdg hroom) hw.2.2.2 (fun q _ hq => hA1 q hq) hA1 (fun u aq t H1 locs1 ht hvm hp hB hz hk hS => ?_)
  obtain ⟨ha, hP1, hD1⟩ := hB
  subst ha
  rw [ht] at hP1
  exact kk u hp H1 locs1 ls (hN u ▸ hw.sufBack h.2.2.2.2.2.2.1 hk hP1 hD1 hS) hl
theorem z_SYr (h : CX p s m args meth c A g nL cc Ts own)  {y : MethodName} {C : String} {bytes : ByteArray} {maxL : Nat} {ret : Option FieldType} {ws : List Cond} {rm : Room} {mc ms n index : Nat} {Y cW : va_W} {b : Nat} {As : List Value} {S : Type} {w1 wN : S → va_W} {post : S → Prop} {ad : S → Nat} (hM : ∀ sz, Met l y ws rm (PZ g As sz cW []) (va_Qr post (BZr g cW sz w1 ad) (va_A cW sz)) mc ms (va_A cW sz)) (cw : (CallB R s args own index y bytes maxL ret ws rm mc ms n ∧ (Cond.static y).before args s = true)) (hn : As.length = n) (hY : wW = Y ++ cW)  {st0 : List Value} (hst : st0 = As.reverse ++ st) (hcat : (st.map fun v => v.category).sum ≤ 8) (hroom : kc + mc ≤ R.cells ∧ ks + ms ≤ R.slots) (hN : ∀ u, Y ++ w1 u = wN u) (hdg : decode cc pc = .ok (.invokestatic index, 3))
    (kk : ∀ (u : S), post u → Z p l e R s m args below meth c Q A g nL (pc + 3) lv (.ref (ad u) :: st) (wN u) [] (kc + mc) (ks + ms)) : Z p l e R s m args below meth c Q A g nL pc lv st0 wW [] kc ks := by
  intro H locs ls hw hl
  subst hst
  subst hY
  have hsub := hw.suf
  have hA1 := hw.sufA h.2.2.2.2.2.2.1
  refine va_callr (A1 := va_A cW H.size) (va_runS (As := As) (rest := st) ⟨h.1, h.2.1, h.2.2.1, h.2.2.2.1, h.ts⟩ (hM H.size) cw ⟨pz_blind, fun U hU hW => ⟨rfl, by rw [hU], by rw [hU]; exact hsub.1, h.KN.warm hW, hsub.2⟩⟩ rfl hn hl.1 rfl (lv_room hcat) hdg hroom) hw.2.2.2 (fun q _ hq => hA1 q hq) hA1 (fun u aq t H1 locs1 ht hvm hp hB hz hk hS => ?_)
  obtain ⟨ha, hP1, hD1⟩ := hB
  subst ha
  rw [ht] at hP1
  exact kk u hp H1 locs1 ls (hN u ▸ hw.sufBack h.2.2.2.2.2.2.1 hk hP1 hD1 hS) hl
theorem z_IvE (h : CX p s m args meth c A g nL cc Ts own) (hE : EDZ g A s s.heap) {y : MethodName} {bytes : ByteArray} {maxL : Nat} {ws : List Cond} {rm : Room} {mc ms n index : Nat} {cW cR : va_W} {b : Nat} {As : List Value} {S : Type} {w1 wN : S → va_W} {post : S → Prop} (hM : ∀ sz, Met l y ws rm (PE g (.ref b :: As) sz cW cR) (va_Qv post (BZ g cW sz w1) (va_A cW sz)) mc ms (va_A cW sz)) (cw : (CallB R s args own index y bytes maxL none ws rm mc ms n ∧ y.name = "<init>" ∧ (Cond.instanceMethod y).before args s = true)) (hn : As.length = n) (js jr : List Nat) (hs : (js ++ jr).map (fun i => (wW ++ wR)[i]?) = (cW ++ cR).map some) (hjs : js.map (fun i => wW[i]?) = cW.map some) (hnd : va_nd (js ++ jr) = true) (hndj : va_nd js = true) {st0 : List Value} (hst : st0 = As.reverse ++ .ref b :: st) (hcat : (st.map fun v => v.category).sum ≤ 8) (hroom : kc + mc ≤ R.cells ∧ ks + ms ≤ R.slots) (hlen : ∀ u, js.length ≤ (w1 u).length) (hN : ∀ u, putL wW js (w1 u) = wN u) (hdg : decode cc pc = .ok (.invokespecial index, 3))
    (kk : ∀ (u : S), post u → Z p l e R s m args below meth c Q A g nL (pc + 3) lv st (wN u) wR (kc + mc) (ks + ms)) : Z p l e R s m args below meth c Q A g nL pc lv st0 wW wR kc ks := by
  intro H locs ls hw hl
  subst hst
  have hsub := hw.sub (js ++ jr) hs hnd
  have hA1 := hw.cA h.2.2.2.2.2.2.1 hjs
  refine va_callv (A1 := va_A cW H.size) (va_runI (As := As) (rest := st) ⟨h.1, h.2.1, h.2.2.1, h.2.2.2.1, h.ts⟩ (hM H.size) cw ⟨pe_blind, fun U hU hW => ⟨rfl, by rw [hU], by rw [hU]; exact hsub.1, h.KN.warm hW, hsub.2, by rw [hU]; exact hE.to hW hw.2.2.2 hA1⟩⟩ rfl hn hl.1 rfl (lv_room hcat) hdg hroom) hw.2.2.2 (fun q _ hq => hA1 q hq) hA1 (fun u t H1 locs1 ht hvm hp hB hz hk hS => ?_)
  obtain ⟨hP1, hD1⟩ := hB
  rw [ht] at hP1
  exact kk u hp H1 locs1 ls (hN u ▸ hw.back h.2.2.2.2.2.2.1 hjs hndj (hlen u) hk hP1 hD1 hS) hl
end ZM
theorem z_openE_i {l : Launch} {y : MethodName} {ws ws' : List Cond} {rm : Room} {cc : ByteArray} {maxL : Nat} {ret : FieldType} {av : List Value} {sz : Nat} {wW wR : va_W} {g : Gx} {S : Type} {post : Int32 → S → Prop} {w1 : S → va_W} {mc ms : Nat} {own : String}  (hy : plainName y.cls = true) (hw : ws = Cond.code y cc maxL (some ret) :: ws') (hown : y.cls = own) (hlen : (lg_sl av).length ≤ maxL)
    (body : ∀ (p : Program) (e : Env) (s : State) (m : MethodId) (args : Array Value) (below : List Frame) (meth : Method) (c : Code) (Q : State → Prop), CX p s m args meth c (va_A wW s.heap.size) g maxL cc ws own → EDZ g (va_A wW s.heap.size) s s.heap → meth.name = y.name → (∀ (pc : Nat) (lv : List (Nat × Value)) (v : Int32) (u : S) (vW vR : va_W) (kc ks : Nat), decode cc pc = .ok (.ireturn, 1) → narrow ret (.int v) = .int v → post v u → w1 u = vW → kc ≤ mc → ks ≤ ms → Z p l e rm s m args below meth c Q (va_A wW s.heap.size) g maxL pc lv [.int v] vW vR kc ks) → Z p l e rm s m args below meth c Q (va_A wW s.heap.size) g maxL 0 (lv_args 0 av) [] wW wR 0 0) :
    Met l y ws rm (PE g av sz wW wR) (va_Qi post (BZ g wW sz w1) (va_A wW sz)) mc ms (va_A wW sz) := by
  refine Met.ofW (cc := cc) (maxL := maxL) (ret := (some ret)) hy hw ?_
  intro p e s m args below meth c s₁ B hml hv
  obtain ⟨rfl, hsz, hP, hK, hD, hE⟩ := hv
  subst hsz
  have hC : CX p s m av.toArray meth c (va_A wW s.heap.size) g maxL cc ws own := ⟨B.exec, B.bytes, hml, by rw [← hown]; exact findClass_of_methodNamed B.named, atoms_spec (ws := ws) B.pre, hK, fun q h => Or.inr h, B.notSynchronized⟩
  have hl := lv_entry av (n := maxL) hlen
  rw [lg_entry_eq]
  refine body p e s m _ below meth c _ hC hE (name_of_methodNamed B.named B.method).1 ?_ s.heap [] _ ⟨hP, hD, fun k q hk => va_A.in hk, va_S.rf⟩ hl
  · intro pc lv v u vW vR kc ks hdg hnr hp hu hk1 hk2 H locs ls hw9 hl9
    subst hu
    have hPw : va_P g.1 vwCl (w1 u) H := fun k q hq => hw9.1 k q (by rw [List.getElem?_append_left (List.getElem?_eq_some_iff.mp hq).1]; exact hq)
    have hDw : va_D (va_A wW s.heap.size) (w1 u) := ⟨fun i j x y hi hj => hw9.2.1.1 i j x y (by rw [List.getElem?_append_left (List.getElem?_eq_some_iff.mp hi).1]; exact hi) (by rw [List.getElem?_append_left (List.getElem?_eq_some_iff.mp hj).1]; exact hj), hw9.2.2.1⟩
    refine W.widen hk1 hk2 ?_
    exact W.zret hC.1 hC.2.1 B.returns hnr (fun t ht hW => ⟨⟨v, u, rfl, hp, by rw [ht]; exact hPw, hDw⟩, hw9.2.2.2.F ht⟩) hw9.2.2.2.2.2 hdg B.notSynchronized
theorem z_openE_v {l : Launch} {y : MethodName} {ws ws' : List Cond} {rm : Room} {cc : ByteArray} {maxL : Nat}  {av : List Value} {sz : Nat} {wW wR : va_W} {g : Gx} {S : Type} {post : S → Prop} {w1 : S → va_W} {mc ms : Nat} {own : String}  (hy : plainName y.cls = true) (hw : ws = Cond.code y cc maxL none :: ws') (hown : y.cls = own) (hlen : (lg_sl av).length ≤ maxL)
    (body : ∀ (p : Program) (e : Env) (s : State) (m : MethodId) (args : Array Value) (below : List Frame) (meth : Method) (c : Code) (Q : State → Prop), CX p s m args meth c (va_A wW s.heap.size) g maxL cc ws own → EDZ g (va_A wW s.heap.size) s s.heap → meth.name = y.name → (∀ (pc : Nat) (lv : List (Nat × Value)) (u : S) (vW vR : va_W) (kc ks : Nat), decode cc pc = .ok (.return_, 1) → post u → w1 u = vW → kc ≤ mc → ks ≤ ms → Z p l e rm s m args below meth c Q (va_A wW s.heap.size) g maxL pc lv [] vW vR kc ks) → Z p l e rm s m args below meth c Q (va_A wW s.heap.size) g maxL 0 (lv_args 0 av) [] wW wR 0 0) :
    Met l y ws rm (PE g av sz wW wR) (va_Qv post (BZ g wW sz w1) (va_A wW sz)) mc ms (va_A wW sz) := by
  refine Met.ofW (cc := cc) (maxL := maxL) (ret := none) hy hw ?_
  intro p e s m args below meth c s₁ B hml hv
  obtain ⟨rfl, hsz, hP, hK, hD, hE⟩ := hv
  subst hsz
  have hC : CX p s m av.toArray meth c (va_A wW s.heap.size) g maxL cc ws own := ⟨B.exec, B.bytes, hml, by rw [← hown]; exact findClass_of_methodNamed B.named, atoms_spec (ws := ws) B.pre, hK, fun q h => Or.inr h, B.notSynchronized⟩
  have hl := lv_entry av (n := maxL) hlen
  rw [lg_entry_eq]
  refine body p e s m _ below meth c _ hC hE (name_of_methodNamed B.named B.method).1 ?_ s.heap [] _ ⟨hP, hD, fun k q hk => va_A.in hk, va_S.rf⟩ hl
  · intro pc lv u vW vR kc ks hdg hp hu hk1 hk2 H locs ls hw9 hl9
    subst hu
    have hPw : va_P g.1 vwCl (w1 u) H := fun k q hq => hw9.1 k q (by rw [List.getElem?_append_left (List.getElem?_eq_some_iff.mp hq).1]; exact hq)
    have hDw : va_D (va_A wW s.heap.size) (w1 u) := ⟨fun i j x y hi hj => hw9.2.1.1 i j x y (by rw [List.getElem?_append_left (List.getElem?_eq_some_iff.mp hi).1]; exact hi) (by rw [List.getElem?_append_left (List.getElem?_eq_some_iff.mp hj).1]; exact hj), hw9.2.2.1⟩
    refine W.widen hk1 hk2 ?_
    exact W.vret hC.1 hC.2.1 B.returns (fun t ht hW => ⟨⟨u, rfl, hp, by rw [ht]; exact hPw, hDw⟩, hw9.2.2.2.F ht⟩) hw9.2.2.2.2.2 hdg B.notSynchronized
theorem z_openE_r {l : Launch} {y : MethodName} {ws ws' : List Cond} {rm : Room} {cc : ByteArray} {maxL : Nat} {ret : FieldType} {av : List Value} {sz : Nat} {wW wR : va_W} {g : Gx} {S : Type} {post : S → Prop} {ad : S → Nat} {w1 : S → va_W} {mc ms : Nat} {own : String} (hrt : (∃ n, ret = .object n) ∨ ∃ t, ret = .array t) (hy : plainName y.cls = true) (hw : ws = Cond.code y cc maxL (some ret) :: ws') (hown : y.cls = own) (hlen : (lg_sl av).length ≤ maxL)
    (body : ∀ (p : Program) (e : Env) (s : State) (m : MethodId) (args : Array Value) (below : List Frame) (meth : Method) (c : Code) (Q : State → Prop), CX p s m args meth c (va_A wW s.heap.size) g maxL cc ws own → EDZ g (va_A wW s.heap.size) s s.heap → meth.name = y.name → (∀ (pc : Nat) (lv : List (Nat × Value)) (u : S) (vW vR : va_W) (kc ks : Nat), decode cc pc = .ok (.areturn, 1) → post u → w1 u = vW → kc ≤ mc → ks ≤ ms → Z p l e rm s m args below meth c Q (va_A wW s.heap.size) g maxL pc lv [.ref (ad u)] vW vR kc ks) → Z p l e rm s m args below meth c Q (va_A wW s.heap.size) g maxL 0 (lv_args 0 av) [] wW wR 0 0) :
    Met l y ws rm (PE g av sz wW wR) (va_Qr post (BZr g wW sz w1 ad) (va_A wW sz)) mc ms (va_A wW sz) := by
  refine Met.ofW (cc := cc) (maxL := maxL) (ret := (some ret)) hy hw ?_
  intro p e s m args below meth c s₁ B hml hv
  obtain ⟨rfl, hsz, hP, hK, hD, hE⟩ := hv
  subst hsz
  have hC : CX p s m av.toArray meth c (va_A wW s.heap.size) g maxL cc ws own := ⟨B.exec, B.bytes, hml, by rw [← hown]; exact findClass_of_methodNamed B.named, atoms_spec (ws := ws) B.pre, hK, fun q h => Or.inr h, B.notSynchronized⟩
  have hl := lv_entry av (n := maxL) hlen
  rw [lg_entry_eq]
  refine body p e s m _ below meth c _ hC hE (name_of_methodNamed B.named B.method).1 ?_ s.heap [] _ ⟨hP, hD, fun k q hk => va_A.in hk, va_S.rf⟩ hl
  · intro pc lv u vW vR kc ks hdg hp hu hk1 hk2 H locs ls hw9 hl9
    subst hu
    have hPw : va_P g.1 vwCl (w1 u) H := fun k q hq => hw9.1 k q (by rw [List.getElem?_append_left (List.getElem?_eq_some_iff.mp hq).1]; exact hq)
    have hDw : va_D (va_A wW s.heap.size) (w1 u) := ⟨fun i j x y hi hj => hw9.2.1.1 i j x y (by rw [List.getElem?_append_left (List.getElem?_eq_some_iff.mp hi).1]; exact hi) (by rw [List.getElem?_append_left (List.getElem?_eq_some_iff.mp hj).1]; exact hj), hw9.2.2.1⟩
    refine W.widen hk1 hk2 ?_
    exact W.aret hC.1 hC.2.1 B.returns hrt (Or.inr ⟨_, rfl⟩) (fun t ht hW => ⟨⟨u, ad u, rfl, hp, rfl, by rw [ht]; exact hPw, hDw⟩, hw9.2.2.2.F ht⟩) hw9.2.2.2.2.2 hdg B.notSynchronized
