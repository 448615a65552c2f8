/-! Z: a walk's state as plain terms: locals and operand stack as lists, the world as two lists of cells (wW: may be written; wR: only read). Heap, frame and locals array are bound inside. -/
abbrev Gx : Type := va_G × ClassId × ClassId × ClassId × ClassId × Nat × Nat
abbrev tyL (g : Gx) : List (ClassId × FieldType) := [(g.2.1, .int), (g.2.2.1, .long), (g.2.2.2.1, .boolean), (g.2.2.2.2.1, .object "java/lang/Object")]
/-- links of private members of nest mates: the class that links, the place in its pool, the member's class, name and type -/
def nestQ : List (String × Nat × String × String × String) := [("RefusePlanner", 131, "RefusePlanner$Bin", "dirty", "Z"), ("RefusePlanner", 158, "RefusePlanner$Bin", "kind", "I"), ("RefusePlanner", 173, "RefusePlanner$Tour", "minutes", "I"), ("RefusePlanner", 226, "RefusePlanner$Bin", "place", "I"), ("RefusePlanner", 233, "RefusePlanner$Tour", "litres", "I"), ("RefusePlanner", 236, "RefusePlanner$Tour", "tipVisits", "I"), ("RefusePlanner", 45, "RefusePlanner$Region", "places", "I"), ("RefusePlanner$Tour", 37, "RefusePlanner$Bin", "place", "I"), ("RefusePlanner$Tour", 46, "RefusePlanner$Bin", "dirty", "Z"), ("RefusePlanner$Tour", 50, "RefusePlanner$Bin", "content", "I")]
def castQ : List (String × String) := [("RefusePlanner$Bin", "java/lang/Object"), ("java/lang/IndexOutOfBoundsException", "java/lang/IndexOutOfBoundsException"), ("java/lang/IllegalArgumentException", "java/lang/IllegalArgumentException"), ("java/lang/IllegalStateException", "java/lang/IllegalStateException")]
def ncQ : List (String × String) := []
/-- the constructors that a throw goes through -/
def decQ : List MethodName := [⟨"java/lang/RuntimeException", "<init>", "(Ljava/lang/String;)V"⟩, ⟨"java/lang/Exception", "<init>", "(Ljava/lang/String;)V"⟩, ⟨"java/lang/Throwable", "<init>", "(Ljava/lang/String;)V"⟩]
/-- what the methods need of the tables beside their word lists -/
def NX (g : Gx) (U : State) : Prop := (∀ q ∈ nestQ, va_Nw (.fieldLinkNest q.1 q.2.1 q.2.2.1 q.2.2.2.1 q.2.2.2.2 "RefusePlanner") U) ∧ (∀ q ∈ castQ, va_Nw (.castable q.1 q.2) U) ∧ (∀ q ∈ ncQ, va_Nc q.1 q.2 U) ∧ (∀ q ∈ decQ, va_Nw (.declares q) U) ∧ va_Mi "[Ljava/lang/Object;" g.2.2.2.2.2.2 U ∧ va_Dc U ∧ va_AO "java/lang/Object" U
theorem nw_cast {C T : String} {u U : State} (hvm : u.vm.Alike U.vm) (h : va_Nw (.castable C T) u) : va_Nw (.castable C T) U := by
  simp only [va_Nw, Cond.before, Cond.holds, Cond.value] at h ⊢
  simpa only [hvm.findClass, hvm.assignable] using h
theorem NX.warm {g : Gx} {s U : State} (hW : s.WarmedH U.vm) (h : NX g s) : NX g U := ⟨fun q hq => va_Nw.warmF hW (h.1 q hq), fun q hq => nw_cast hW.alike (h.2.1 q hq), fun q hq => (h.2.2.1 q hq).moved hW.alike, fun q hq => va_Nw.warmD hW (h.2.2.2.1 q hq), h.2.2.2.2.1.moved hW.alike, h.2.2.2.2.2.1.moved hW.alike, h.2.2.2.2.2.2.moved hW.alike⟩
theorem NX.same {g : Gx} {s U : State} (hv : s.vm = U.vm) (h : NX g s) : NX g U := ⟨fun q hq => va_Nw.same rfl hv (h.1 q hq), fun q hq => va_Nw.same rfl hv (h.2.1 q hq), fun q hq => (h.2.2.1 q hq).moved (by rw [← hv]; exact Vm.Alike.refl _), fun q hq => va_Nw.same rfl hv (h.2.2.2.1 q hq), h.2.2.2.2.1.moved (by rw [← hv]; exact Vm.Alike.refl _), h.2.2.2.2.2.1.moved (by rw [← hv]; exact Vm.Alike.refl _), h.2.2.2.2.2.2.moved (by rw [← hv]; exact Vm.Alike.refl _)⟩
def KX (g : Gx) (U : State) : Prop := va_K g.1 vwCl (tyL g) U ∧ NX g U
theorem KX.warm {g : Gx} {s U : State} (hW : s.WarmedH U.vm) (h : KX g s) : KX g U := ⟨va_K.moved hW.alike h.1, h.2.warm hW⟩
def CX (p : Program) (s : State) (m : MethodId) (args : Array Value) (meth : Method) (c : Code) (A : Nat → Prop) (g : Gx) (nL : Nat) (cc : ByteArray) (Ts : List Cond) (own : String) : Prop :=
  p.tables.exec = Jvm.exec ∧ c.code = cc ∧ c.maxLocals = nL ∧ s.vm.findClass own = some m.cls ∧ (∀ w ∈ Ts, w.before args s = true) ∧ KX g s ∧ (∀ q, s.heap.size ≤ q → A q) ∧ meth.locks = false
/-- the world at a heap: the cells, all apart, those of wW in A, nothing outside A changed since the start -/
def WD (A : Nat → Prop) (g : Gx) (H0 : Heap) (wW wR : va_W) (H : Heap) (locs : List Loc) : Prop :=
  va_P g.1 vwCl (wW ++ wR) H ∧ va_D (fun _ => True) (wW ++ wR) ∧ (∀ (k : Nat) (q : Nat × va_E), wW[k]? = some q → A q.1) ∧ va_S A H0 H locs
def Z (p : Program) (l : Launch) (e : Env) (R : Room) (s : State) (m : MethodId) (args : Array Value) (below : List Frame) (meth : Method) (c : Code) (Q : State → Prop) (A : Nat → Prop) (g : Gx) (nL pc : Nat) (lv : List (Nat × Value)) (st : List Value) (wW wR : va_W) (kc ks : Nat) : Prop :=
  ∀ (H : Heap) (locs : List Loc) (ls : Array Slot), WD A g s.heap wW wR H locs → lv_has ls nL lv → W p l e R s m args below meth c H locs kc ks Q (F0 m pc ls st)
section ZL
variable {p : Program} {l : Launch} {e : Env} {R : Room} {s : State} {m : MethodId} {args : Array Value} {below : List Frame} {meth : Method} {c : Code} {Q : State → Prop} {A : Nat → Prop} {g : Gx} {nL : Nat} {cc : ByteArray} {Ts : List Cond} {own : String} {pc : Nat} {lv : List (Nat × Value)} {st : List Value} {wW wR : va_W} {kc ks : Nat}
theorem z_iconst (h : CX p s m args meth c A g nL cc Ts own) {n : Int} {v : Int32} (hdg : decode cc pc = .ok (.iconst n, 1)) (hv : Int32.ofInt n = v) (k : Z p l e R s m args below meth c Q A g nL (pc + 1) lv (.int v :: st) wW wR kc ks) : Z p l e R s m args below meth c Q A g nL pc lv st wW wR kc ks := fun H locs ls hw hl => lv_iconst h.1 h.2.1 hdg hv (k H locs ls hw hl)
theorem z_bipush (h : CX p s m args meth c A g nL cc Ts own) {n : Int} {v : Int32} (hdg : decode cc pc = .ok (.bipush n, 2)) (hv : (Int8.ofInt n).toInt32 = v) (k : Z p l e R s m args below meth c Q A g nL (pc + 2) lv (.int v :: st) wW wR kc ks) : Z p l e R s m args below meth c Q A g nL pc lv st wW wR kc ks := fun H locs ls hw hl => lv_bipush h.1 h.2.1 hdg hv (k H locs ls hw hl)
theorem z_sipush (h : CX p s m args meth c A g nL cc Ts own) {n : Int} {v : Int32} (hdg : decode cc pc = .ok (.sipush n, 3)) (hv : (Int16.ofInt n).toInt32 = v) (k : Z p l e R s m args below meth c Q A g nL (pc + 3) lv (.int v :: st) wW wR kc ks) : Z p l e R s m args below meth c Q A g nL pc lv st wW wR kc ks := fun H locs ls hw hl => lv_sipush h.1 h.2.1 hdg hv (k H locs ls hw hl)
theorem z_lconst (h : CX p s m args meth c A g nL cc Ts own) {n : Fin 2} {v : Int64} (hdg : decode cc pc = .ok (.lconst n, 1)) (hv : Int64.ofNat (n : Nat) = v) (k : Z p l e R s m args below meth c Q A g nL (pc + 1) lv (.long v :: st) wW wR kc ks) : Z p l e R s m args below meth c Q A g nL pc lv st wW wR kc ks := fun H locs ls hw hl => lv_lconst h.1 h.2.1 hdg hv (k H locs ls hw hl)
theorem z_ldc (h : CX p s m args meth c A g nL cc Ts own) {index : Nat} {v : Int32} (hconst : Jvm.Cond.constant own index v ∈ Ts) (hdg : decode cc pc = .ok (.ldc index, 2)) (k : Z p l e R s m args below meth c Q A g nL (pc + 2) lv (.int v :: st) wW wR kc ks) : Z p l e R s m args below meth c Q A g nL pc lv st wW wR kc ks := fun H locs ls hw hl => lv_ldc h.1 h.2.1 h.2.2.2.1 (h.2.2.2.2.1 _ hconst) hdg (k H locs ls hw hl)
theorem z_ldc2 (h : CX p s m args meth c A g nL cc Ts own) {index : Nat} {v : Int64} (hconst : Jvm.Cond.constantLong own index v ∈ Ts) (hdg : decode cc pc = .ok (.ldc2_w index, 3)) (k : Z p l e R s m args below meth c Q A g nL (pc + 3) lv (.long v :: st) wW wR kc ks) : Z p l e R s m args below meth c Q A g nL pc lv st wW wR kc ks := fun H locs ls hw hl => lv_ldc2 h.1 h.2.1 h.2.2.2.1 (h.2.2.2.2.1 _ hconst) hdg (k H locs ls hw hl)
theorem z_null (h : CX p s m args meth c A g nL cc Ts own) (hdg : decode cc pc = .ok (.aconst_null, 1)) (k : Z p l e R s m args below meth c Q A g nL (pc + 1) lv (.null :: st) wW wR kc ks) : Z p l e R s m args below meth c Q A g nL pc lv st wW wR kc ks := fun H locs ls hw hl => lv_null h.1 h.2.1 hdg (k H locs ls hw hl)
theorem z_iload_n (h : CX p s m args meth c A g nL cc Ts own) {k4 : Fin 4} {i : Nat} {x : Int32} (hdg : decode cc pc = .ok (.iload_n k4, 1)) (hi : (k4 : Nat) = i) (j : Nat) (hj : lv[j]? = some (i, .int x)) (k : Z p l e R s m args below meth c Q A g nL (pc + 1) lv (.int x :: st) wW wR kc ks) : Z p l e R s m args below meth c Q A g nL pc lv st wW wR kc ks := fun H locs ls hw hl => lv_iload_n h.1 h.2.1 hdg hi (lv_at hl j hj) (k H locs ls hw hl)
theorem z_iload (h : CX p s m args meth c A g nL cc Ts own) {i : Nat} {x : Int32} (hdg : decode cc pc = .ok (.iload i, 2)) (j : Nat) (hj : lv[j]? = some (i, .int x)) (k : Z p l e R s m args below meth c Q A g nL (pc + 2) lv (.int x :: st) wW wR kc ks) : Z p l e R s m args below meth c Q A g nL pc lv st wW wR kc ks := fun H locs ls hw hl => lv_iload h.1 h.2.1 hdg (lv_at hl j hj) (k H locs ls hw hl)
theorem z_istore_n (h : CX p s m args meth c A g nL cc Ts own) {k4 : Fin 4} {i : Nat} {x : Int32} (hdg : decode cc pc = .ok (.istore_n k4, 1)) (hi : (k4 : Nat) = i) (hn : i < nL) {lv' : List (Nat × Value)} (js : List Nat) (hjs : lv_pick ((i, Value.int x) :: lv.filter (fun q => !(q.1 == i) && !(q.1 + 1 == i && q.2.category == 2))) js = lv') (k : Z p l e R s m args below meth c Q A g nL (pc + 1) lv' st wW wR kc ks) : Z p l e R s m args below meth c Q A g nL pc lv (.int x :: st) wW wR kc ks := fun H locs ls hw hl => lv_istore_n h.1 h.2.1 hdg hi hl hn rfl (fun ls' hl' => k H locs ls' hw (lv_sub hl' js hjs))
theorem z_istore (h : CX p s m args meth c A g nL cc Ts own) {i : Nat} {x : Int32} (hdg : decode cc pc = .ok (.istore i, 2)) (hn : i < nL) {lv' : List (Nat × Value)} (js : List Nat) (hjs : lv_pick ((i, Value.int x) :: lv.filter (fun q => !(q.1 == i) && !(q.1 + 1 == i && q.2.category == 2))) js = lv') (k : Z p l e R s m args below meth c Q A g nL (pc + 2) lv' st wW wR kc ks) : Z p l e R s m args below meth c Q A g nL pc lv (.int x :: st) wW wR kc ks := fun H locs ls hw hl => lv_istore h.1 h.2.1 hdg hl hn rfl (fun ls' hl' => k H locs ls' hw (lv_sub hl' js hjs))
theorem z_lload_n (h : CX p s m args meth c A g nL cc Ts own) {k4 : Fin 4} {i : Nat} {x : Int64} (hdg : decode cc pc = .ok (.lload_n k4, 1)) (hi : (k4 : Nat) = i) (j : Nat) (hj : lv[j]? = some (i, .long x)) (k : Z p l e R s m args below meth c Q A g nL (pc + 1) lv (.long x :: st) wW wR kc ks) : Z p l e R s m args below meth c Q A g nL pc lv st wW wR kc ks := fun H locs ls hw hl => lv_lload_n h.1 h.2.1 hdg hi (lv_at hl j hj) (k H locs ls hw hl)
theorem z_lload (h : CX p s m args meth c A g nL cc Ts own) {i : Nat} {x : Int64} (hdg : decode cc pc = .ok (.lload i, 2)) (j : Nat) (hj : lv[j]? = some (i, .long x)) (k : Z p l e R s m args below meth c Q A g nL (pc + 2) lv (.long x :: st) wW wR kc ks) : Z p l e R s m args below meth c Q A g nL pc lv st wW wR kc ks := fun H locs ls hw hl => lv_lload h.1 h.2.1 hdg (lv_at hl j hj) (k H locs ls hw hl)
theorem z_lstore_n (h : CX p s m args meth c A g nL cc Ts own) {k4 : Fin 4} {i : Nat} {x : Int64} (hdg : decode cc pc = .ok (.lstore_n k4, 1)) (hi : (k4 : Nat) = i) (hn : i + 1 < nL) {lv' : List (Nat × Value)} (js : List Nat) (hjs : lv_pick ((i, Value.long x) :: lv.filter (fun q => !(q.1 == i) && (!(q.1 == i + 1) && !(q.1 + 1 == i && q.2.category == 2)))) js = lv') (k : Z p l e R s m args below meth c Q A g nL (pc + 1) lv' st wW wR kc ks) : Z p l e R s m args below meth c Q A g nL pc lv (.long x :: st) wW wR kc ks := fun H locs ls hw hl => lv_lstore_n h.1 h.2.1 hdg hi hl hn rfl (fun ls' hl' => k H locs ls' hw (lv_sub hl' js hjs))
theorem z_lstore (h : CX p s m args meth c A g nL cc Ts own) {i : Nat} {x : Int64} (hdg : decode cc pc = .ok (.lstore i, 2)) (hn : i + 1 < nL) {lv' : List (Nat × Value)} (js : List Nat) (hjs : lv_pick ((i, Value.long x) :: lv.filter (fun q => !(q.1 == i) && (!(q.1 == i + 1) && !(q.1 + 1 == i && q.2.category == 2)))) js = lv') (k : Z p l e R s m args below meth c Q A g nL (pc + 2) lv' st wW wR kc ks) : Z p l e R s m args below meth c Q A g nL pc lv (.long x :: st) wW wR kc ks := fun H locs ls hw hl => lv_lstore h.1 h.2.1 hdg hl hn rfl (fun ls' hl' => k H locs ls' hw (lv_sub hl' js hjs))
theorem z_aload_n (h : CX p s m args meth c A g nL cc Ts own) {k4 : Fin 4} {i : Nat} {x : Nat} (hdg : decode cc pc = .ok (.aload_n k4, 1)) (hi : (k4 : Nat) = i) (j : Nat) (hj : lv[j]? = some (i, .ref x)) (k : Z p l e R s m args below meth c Q A g nL (pc + 1) lv (.ref x :: st) wW wR kc ks) : Z p l e R s m args below meth c Q A g nL pc lv st wW wR kc ks := fun H locs ls hw hl => lv_aload_n h.1 h.2.1 hdg hi (lv_at hl j hj) (k H locs ls hw hl)
theorem z_aload (h : CX p s m args meth c A g nL cc Ts own) {i : Nat} {x : Nat} (hdg : decode cc pc = .ok (.aload i, 2)) (j : Nat) (hj : lv[j]? = some (i, .ref x)) (k : Z p l e R s m args below meth c Q A g nL (pc + 2) lv (.ref x :: st) wW wR kc ks) : Z p l e R s m args below meth c Q A g nL pc lv st wW wR kc ks := fun H locs ls hw hl => lv_aload h.1 h.2.1 hdg (lv_at hl j hj) (k H locs ls hw hl)
theorem z_astore_n (h : CX p s m args meth c A g nL cc Ts own) {k4 : Fin 4} {i : Nat} {x : Nat} (hdg : decode cc pc = .ok (.astore_n k4, 1)) (hi : (k4 : Nat) = i) (hn : i < nL) {lv' : List (Nat × Value)} (js : List Nat) (hjs : lv_pick ((i, Value.ref x) :: lv.filter (fun q => !(q.1 == i) && !(q.1 + 1 == i && q.2.category == 2))) js = lv') (k : Z p l e R s m args below meth c Q A g nL (pc + 1) lv' st wW wR kc ks) : Z p l e R s m args below meth c Q A g nL pc lv (.ref x :: st) wW wR kc ks := fun H locs ls hw hl => lv_astore_n h.1 h.2.1 hdg hi hl hn rfl (fun ls' hl' => k H locs ls' hw (lv_sub hl' js hjs))
theorem z_astore (h : CX p s m args meth c A g nL cc Ts own) {i : Nat} {x : Nat} (hdg : decode cc pc = .ok (.astore i, 2)) (hn : i < nL) {lv' : List (Nat × Value)} (js : List Nat) (hjs : lv_pick ((i, Value.ref x) :: lv.filter (fun q => !(q.1 == i) && !(q.1 + 1 == i && q.2.category == 2))) js = lv') (k : Z p l e R s m args below meth c Q A g nL (pc + 2) lv' st wW wR kc ks) : Z p l e R s m args below meth c Q A g nL pc lv (.ref x :: st) wW wR kc ks := fun H locs ls hw hl => lv_astore h.1 h.2.1 hdg hl hn rfl (fun ls' hl' => k H locs ls' hw (lv_sub hl' js hjs))
theorem z_dload_n (h : CX p s m args meth c A g nL cc Ts own) {k4 : Fin 4} {i : Nat} {x : UInt64} (hdg : decode cc pc = .ok (.dload_n k4, 1)) (hi : (k4 : Nat) = i) (j : Nat) (hj : lv[j]? = some (i, .double x)) (k : Z p l e R s m args below meth c Q A g nL (pc + 1) lv (.double x :: st) wW wR kc ks) : Z p l e R s m args below meth c Q A g nL pc lv st wW wR kc ks := fun H locs ls hw hl => lv_dload_n h.1 h.2.1 hdg hi (lv_at hl j hj) (k H locs ls hw hl)
theorem z_dload (h : CX p s m args meth c A g nL cc Ts own) {i : Nat} {x : UInt64} (hdg : decode cc pc = .ok (.dload i, 2)) (j : Nat) (hj : lv[j]? = some (i, .double x)) (k : Z p l e R s m args below meth c Q A g nL (pc + 2) lv (.double x :: st) wW wR kc ks) : Z p l e R s m args below meth c Q A g nL pc lv st wW wR kc ks := fun H locs ls hw hl => lv_dload h.1 h.2.1 hdg (lv_at hl j hj) (k H locs ls hw hl)
theorem z_dstore_n (h : CX p s m args meth c A g nL cc Ts own) {k4 : Fin 4} {i : Nat} {x : UInt64} (hdg : decode cc pc = .ok (.dstore_n k4, 1)) (hi : (k4 : Nat) = i) (hn : i + 1 < nL) {lv' : List (Nat × Value)} (js : List Nat) (hjs : lv_pick ((i, Value.double x) :: lv.filter (fun q => !(q.1 == i) && (!(q.1 == i + 1) && !(q.1 + 1 == i && q.2.category == 2)))) js = lv') (k : Z p l e R s m args below meth c Q A g nL (pc + 1) lv' st wW wR kc ks) : Z p l e R s m args below meth c Q A g nL pc lv (.double x :: st) wW wR kc ks := fun H locs ls hw hl => lv_dstore_n h.1 h.2.1 hdg hi hl hn rfl (fun ls' hl' => k H locs ls' hw (lv_sub hl' js hjs))
theorem z_dstore (h : CX p s m args meth c A g nL cc Ts own) {i : Nat} {x : UInt64} (hdg : decode cc pc = .ok (.dstore i, 2)) (hn : i + 1 < nL) {lv' : List (Nat × Value)} (js : List Nat) (hjs : lv_pick ((i, Value.double x) :: lv.filter (fun q => !(q.1 == i) && (!(q.1 == i + 1) && !(q.1 + 1 == i && q.2.category == 2)))) js = lv') (k : Z p l e R s m args below meth c Q A g nL (pc + 2) lv' st wW wR kc ks) : Z p l e R s m args below meth c Q A g nL pc lv (.double x :: st) wW wR kc ks := fun H locs ls hw hl => lv_dstore h.1 h.2.1 hdg hl hn rfl (fun ls' hl' => k H locs ls' hw (lv_sub hl' js hjs))
theorem z_iinc (h : CX p s m args meth c A g nL cc Ts own) {i : Nat} {n : Int} {x v : Int32} (hdg : decode cc pc = .ok (.iinc i n, 3)) (hn : i < nL) (j : Nat) (hj : lv[j]? = some (i, .int x)) (hv : x + Int32.ofInt n = v) {lv' : List (Nat × Value)} (js : List Nat) (hjs : lv_pick ((i, Value.int v) :: lv.filter (fun q => !(q.1 == i) && !(q.1 + 1 == i && q.2.category == 2))) js = lv') (k : Z p l e R s m args below meth c Q A g nL (pc + 3) lv' st wW wR kc ks) : Z p l e R s m args below meth c Q A g nL pc lv st wW wR kc ks := fun H locs ls hw hl => lv_iinc h.1 h.2.1 hdg hl hj hv hn rfl (fun ls' hl' => k H locs ls' hw (lv_sub hl' js hjs))
theorem z_iadd (h : CX p s m args meth c A g nL cc Ts own) {x y : Int32} (hdg : decode cc pc = .ok (.iadd, 1)) (k : Z p l e R s m args below meth c Q A g nL (pc + 1) lv (.int (x + y) :: st) wW wR kc ks) : Z p l e R s m args below meth c Q A g nL pc lv (.int y :: .int x :: st) wW wR kc ks := fun H locs ls hw hl => lv_iadd h.1 h.2.1 hdg (k H locs ls hw hl)
theorem z_isub (h : CX p s m args meth c A g nL cc Ts own) {x y : Int32} (hdg : decode cc pc = .ok (.isub, 1)) (k : Z p l e R s m args below meth c Q A g nL (pc + 1) lv (.int (x - y) :: st) wW wR kc ks) : Z p l e R s m args below meth c Q A g nL pc lv (.int y :: .int x :: st) wW wR kc ks := fun H locs ls hw hl => lv_isub h.1 h.2.1 hdg (k H locs ls hw hl)
theorem z_imul (h : CX p s m args meth c A g nL cc Ts own) {x y : Int32} (hdg : decode cc pc = .ok (.imul, 1)) (k : Z p l e R s m args below meth c Q A g nL (pc + 1) lv (.int (x * y) :: st) wW wR kc ks) : Z p l e R s m args below meth c Q A g nL pc lv (.int y :: .int x :: st) wW wR kc ks := fun H locs ls hw hl => lv_imul h.1 h.2.1 hdg (k H locs ls hw hl)
theorem z_iand (h : CX p s m args meth c A g nL cc Ts own) {x y : Int32} (hdg : decode cc pc = .ok (.iand, 1)) (k : Z p l e R s m args below meth c Q A g nL (pc + 1) lv (.int (x &&& y) :: st) wW wR kc ks) : Z p l e R s m args below meth c Q A g nL pc lv (.int y :: .int x :: st) wW wR kc ks := fun H locs ls hw hl => lv_iand h.1 h.2.1 hdg (k H locs ls hw hl)
theorem z_ior (h : CX p s m args meth c A g nL cc Ts own) {x y : Int32} (hdg : decode cc pc = .ok (.ior, 1)) (k : Z p l e R s m args below meth c Q A g nL (pc + 1) lv (.int (x ||| y) :: st) wW wR kc ks) : Z p l e R s m args below meth c Q A g nL pc lv (.int y :: .int x :: st) wW wR kc ks := fun H locs ls hw hl => lv_ior h.1 h.2.1 hdg (k H locs ls hw hl)
theorem z_ixor (h : CX p s m args meth c A g nL cc Ts own) {x y : Int32} (hdg : decode cc pc = .ok (.ixor, 1)) (k : Z p l e R s m args below meth c Q A g nL (pc + 1) lv (.int (x ^^^ y) :: st) wW wR kc ks) : Z p l e R s m args below meth c Q A g nL pc lv (.int y :: .int x :: st) wW wR kc ks := fun H locs ls hw hl => lv_ixor h.1 h.2.1 hdg (k H locs ls hw hl)
theorem z_ladd (h : CX p s m args meth c A g nL cc Ts own) {x y : Int64} (hdg : decode cc pc = .ok (.ladd, 1)) (k : Z p l e R s m args below meth c Q A g nL (pc + 1) lv (.long (x + y) :: st) wW wR kc ks) : Z p l e R s m args below meth c Q A g nL pc lv (.long y :: .long x :: st) wW wR kc ks := fun H locs ls hw hl => lv_ladd h.1 h.2.1 hdg (k H locs ls hw hl)
theorem z_lsub (h : CX p s m args meth c A g nL cc Ts own) {x y : Int64} (hdg : decode cc pc = .ok (.lsub, 1)) (k : Z p l e R s m args below meth c Q A g nL (pc + 1) lv (.long (x - y) :: st) wW wR kc ks) : Z p l e R s m args below meth c Q A g nL pc lv (.long y :: .long x :: st) wW wR kc ks := fun H locs ls hw hl => lv_lsub h.1 h.2.1 hdg (k H locs ls hw hl)
theorem z_lmul (h : CX p s m args meth c A g nL cc Ts own) {x y : Int64} (hdg : decode cc pc = .ok (.lmul, 1)) (k : Z p l e R s m args below meth c Q A g nL (pc + 1) lv (.long (x * y) :: st) wW wR kc ks) : Z p l e R s m args below meth c Q A g nL pc lv (.long y :: .long x :: st) wW wR kc ks := fun H locs ls hw hl => lv_lmul h.1 h.2.1 hdg (k H locs ls hw hl)
theorem z_idiv (h : CX p s m args meth c A g nL cc Ts own) {x y : Int32} (hdg : decode cc pc = .ok (.idiv, 1)) (hne : ¬ y = 0) (k : Z p l e R s m args below meth c Q A g nL (pc + 1) lv (.int (x / y) :: st) wW wR kc ks) : Z p l e R s m args below meth c Q A g nL pc lv (.int y :: .int x :: st) wW wR kc ks := fun H locs ls hw hl => lv_idiv h.1 h.2.1 hdg hne (k H locs ls hw hl)
theorem z_irem (h : CX p s m args meth c A g nL cc Ts own) {x y : Int32} (hdg : decode cc pc = .ok (.irem, 1)) (hne : ¬ y = 0) (k : Z p l e R s m args below meth c Q A g nL (pc + 1) lv (.int (x - x / y * y) :: st) wW wR kc ks) : Z p l e R s m args below meth c Q A g nL pc lv (.int y :: .int x :: st) wW wR kc ks := fun H locs ls hw hl => lv_irem h.1 h.2.1 hdg hne (k H locs ls hw hl)
theorem z_ineg (h : CX p s m args meth c A g nL cc Ts own) {x : Int32} (hdg : decode cc pc = .ok (.ineg, 1)) (k : Z p l e R s m args below meth c Q A g nL (pc + 1) lv (.int (0 - x) :: st) wW wR kc ks) : Z p l e R s m args below meth c Q A g nL pc lv (.int x :: st) wW wR kc ks := fun H locs ls hw hl => lv_ineg h.1 h.2.1 hdg (k H locs ls hw hl)
theorem z_ishl (h : CX p s m args meth c A g nL cc Ts own) {x y : Int32} (hdg : decode cc pc = .ok (.ishl, 1)) (k : Z p l e R s m args below meth c Q A g nL (pc + 1) lv (.int (x <<< (y &&& 31)) :: st) wW wR kc ks) : Z p l e R s m args below meth c Q A g nL pc lv (.int y :: .int x :: st) wW wR kc ks := fun H locs ls hw hl => lv_ishl h.1 h.2.1 hdg (k H locs ls hw hl)
theorem z_ishr (h : CX p s m args meth c A g nL cc Ts own) {x y : Int32} (hdg : decode cc pc = .ok (.ishr, 1)) (k : Z p l e R s m args below meth c Q A g nL (pc + 1) lv (.int (x >>> (y &&& 31)) :: st) wW wR kc ks) : Z p l e R s m args below meth c Q A g nL pc lv (.int y :: .int x :: st) wW wR kc ks := fun H locs ls hw hl => lv_ishr h.1 h.2.1 hdg (k H locs ls hw hl)
theorem z_i2l (h : CX p s m args meth c A g nL cc Ts own) {x : Int32} (hdg : decode cc pc = .ok (.i2l, 1)) (k : Z p l e R s m args below meth c Q A g nL (pc + 1) lv (.long x.toInt64 :: st) wW wR kc ks) : Z p l e R s m args below meth c Q A g nL pc lv (.int x :: st) wW wR kc ks := fun H locs ls hw hl => lv_i2l h.1 h.2.1 hdg rfl (k H locs ls hw hl)
theorem z_i2d (h : CX p s m args meth c A g nL cc Ts own) {x : Int32} (hdg : decode cc pc = .ok (.i2d, 1)) (k : Z p l e R s m args below meth c Q A g nL (pc + 1) lv (.double (FP.i2d x) :: st) wW wR kc ks) : Z p l e R s m args below meth c Q A g nL pc lv (.int x :: st) wW wR kc ks := fun H locs ls hw hl => lv_i2d h.1 h.2.1 hdg (k H locs ls hw hl)
theorem z_lcmp (h : CX p s m args meth c A g nL cc Ts own) {x y : Int64} (hdg : decode cc pc = .ok (.lcmp, 1)) (k : Z p l e R s m args below meth c Q A g nL (pc + 1) lv (.int (lg_cmp x y) :: st) wW wR kc ks) : Z p l e R s m args below meth c Q A g nL pc lv (.long y :: .long x :: st) wW wR kc ks := fun H locs ls hw hl => W.lcmp h.1 h.2.1 hdg (k H locs ls hw hl)
theorem z_dcmp (h : CX p s m args meth c A g nL cc Ts own) {x y : UInt64} {op : CmpOp} (hdg : decode cc pc = .ok (.dcmp op, 1)) (k : Z p l e R s m args below meth c Q A g nL (pc + 1) lv (.int (Op.cmpValue (FP.dcmp x y) op) :: st) wW wR kc ks) : Z p l e R s m args below meth c Q A g nL pc lv (.double y :: .double x :: st) wW wR kc ks := fun H locs ls hw hl => lv_dcmp h.1 h.2.1 hdg (k H locs ls hw hl)
theorem z_dup (h : CX p s m args meth c A g nL cc Ts own) {va : Value} (hdg : decode cc pc = .ok (.dup, 1)) (hva : va.category = 1) (k : Z p l e R s m args below meth c Q A g nL (pc + 1) lv (va :: va :: st) wW wR kc ks) : Z p l e R s m args below meth c Q A g nL pc lv (va :: st) wW wR kc ks := fun H locs ls hw hl => lv_dup h.1 h.2.1 hdg hva (k H locs ls hw hl)
theorem z_pop (h : CX p s m args meth c A g nL cc Ts own) {va : Value} (hdg : decode cc pc = .ok (.pop, 1)) (hva : va.category = 1) (k : Z p l e R s m args below meth c Q A g nL (pc + 1) lv st wW wR kc ks) : Z p l e R s m args below meth c Q A g nL pc lv (va :: st) wW wR kc ks := fun H locs ls hw hl => lv_pop h.1 h.2.1 hdg hva (k H locs ls hw hl)
theorem z_dup2 (h : CX p s m args meth c A g nL cc Ts own) {va vb : Value} (hdg : decode cc pc = .ok (.dup2, 1)) (hva : va.category = 1) (hvb : vb.category = 1) (k : Z p l e R s m args below meth c Q A g nL (pc + 1) lv (va :: vb :: va :: vb :: st) wW wR kc ks) : Z p l e R s m args below meth c Q A g nL pc lv (va :: vb :: st) wW wR kc ks := fun H locs ls hw hl => lv_dup2_11 h.1 h.2.1 hdg hva hvb (k H locs ls hw hl)
theorem z_goto (h : CX p s m args meth c A g nL cc Ts own) {off : Int} {tgt : Nat} (hdg : decode cc pc = .ok (.goto off, 3)) (ht : (pc : Int) + off = (tgt : Int)) (k : Z p l e R s m args below meth c Q A g nL tgt lv st wW wR kc ks) : Z p l e R s m args below meth c Q A g nL pc lv st wW wR kc ks := fun H locs ls hw hl => lv_goto h.1 h.2.1 hdg ht (k H locs ls hw hl)
theorem z_if_eq (h : CX p s m args meth c A g nL cc Ts own) {x : Int32} {off : Int} {tgt : Nat} (hdg : decode cc pc = .ok (.ifCond .eq off, 3)) (ht : (pc : Int) + off = (tgt : Int)) (kt : x = 0 → Z p l e R s m args below meth c Q A g nL tgt lv st wW wR kc ks) (kf : ¬ (x = 0) → Z p l e R s m args below meth c Q A g nL (pc + 3) lv st wW wR kc ks) : Z p l e R s m args below meth c Q A g nL pc lv (.int x :: st) wW wR kc ks := fun H locs ls hw hl => lv_if_eq h.1 h.2.1 hdg ht (fun q => kt q H locs ls hw hl) (fun q => kf q H locs ls hw hl)
theorem z_if_ne (h : CX p s m args meth c A g nL cc Ts own) {x : Int32} {off : Int} {tgt : Nat} (hdg : decode cc pc = .ok (.ifCond .ne off, 3)) (ht : (pc : Int) + off = (tgt : Int)) (kt : ¬ x = 0 → Z p l e R s m args below meth c Q A g nL tgt lv st wW wR kc ks) (kf : x = 0 → Z p l e R s m args below meth c Q A g nL (pc + 3) lv st wW wR kc ks) : Z p l e R s m args below meth c Q A g nL pc lv (.int x :: st) wW wR kc ks := fun H locs ls hw hl => lv_if_ne h.1 h.2.1 hdg ht (fun q => kt q H locs ls hw hl) (fun q => kf q H locs ls hw hl)
theorem z_if_lt (h : CX p s m args meth c A g nL cc Ts own) {x : Int32} {off : Int} {tgt : Nat} (hdg : decode cc pc = .ok (.ifCond .lt off, 3)) (ht : (pc : Int) + off = (tgt : Int)) (kt : x < 0 → Z p l e R s m args below meth c Q A g nL tgt lv st wW wR kc ks) (kf : ¬ (x < 0) → Z p l e R s m args below meth c Q A g nL (pc + 3) lv st wW wR kc ks) : Z p l e R s m args below meth c Q A g nL pc lv (.int x :: st) wW wR kc ks := fun H locs ls hw hl => lv_if_lt h.1 h.2.1 hdg ht (fun q => kt q H locs ls hw hl) (fun q => kf q H locs ls hw hl)
theorem z_if_ge (h : CX p s m args meth c A g nL cc Ts own) {x : Int32} {off : Int} {tgt : Nat} (hdg : decode cc pc = .ok (.ifCond .ge off, 3)) (ht : (pc : Int) + off = (tgt : Int)) (kt : 0 ≤ x → Z p l e R s m args below meth c Q A g nL tgt lv st wW wR kc ks) (kf : ¬ (0 ≤ x) → Z p l e R s m args below meth c Q A g nL (pc + 3) lv st wW wR kc ks) : Z p l e R s m args below meth c Q A g nL pc lv (.int x :: st) wW wR kc ks := fun H locs ls hw hl => lv_if_ge h.1 h.2.1 hdg ht (fun q => kt q H locs ls hw hl) (fun q => kf q H locs ls hw hl)
theorem z_if_gt (h : CX p s m args meth c A g nL cc Ts own) {x : Int32} {off : Int} {tgt : Nat} (hdg : decode cc pc = .ok (.ifCond .gt off, 3)) (ht : (pc : Int) + off = (tgt : Int)) (kt : 0 < x → Z p l e R s m args below meth c Q A g nL tgt lv st wW wR kc ks) (kf : ¬ (0 < x) → Z p l e R s m args below meth c Q A g nL (pc + 3) lv st wW wR kc ks) : Z p l e R s m args below meth c Q A g nL pc lv (.int x :: st) wW wR kc ks := fun H locs ls hw hl => lv_if_gt h.1 h.2.1 hdg ht (fun q => kt q H locs ls hw hl) (fun q => kf q H locs ls hw hl)
theorem z_if_le (h : CX p s m args meth c A g nL cc Ts own) {x : Int32} {off : Int} {tgt : Nat} (hdg : decode cc pc = .ok (.ifCond .le off, 3)) (ht : (pc : Int) + off = (tgt : Int)) (kt : x ≤ 0 → Z p l e R s m args below meth c Q A g nL tgt lv st wW wR kc ks) (kf : ¬ (x ≤ 0) → Z p l e R s m args below meth c Q A g nL (pc + 3) lv st wW wR kc ks) : Z p l e R s m args below meth c Q A g nL pc lv (.int x :: st) wW wR kc ks := fun H locs ls hw hl => lv_if_le h.1 h.2.1 hdg ht (fun q => kt q H locs ls hw hl) (fun q => kf q H locs ls hw hl)
theorem z_icmp_eq (h : CX p s m args meth c A g nL cc Ts own) {x y : Int32} {off : Int} {tgt : Nat} (hdg : decode cc pc = .ok (.if_icmp .eq off, 3)) (ht : (pc : Int) + off = (tgt : Int)) (kt : x = y → Z p l e R s m args below meth c Q A g nL tgt lv st wW wR kc ks) (kf : ¬ (x = y) → Z p l e R s m args below meth c Q A g nL (pc + 3) lv st wW wR kc ks) : Z p l e R s m args below meth c Q A g nL pc lv (.int y :: .int x :: st) wW wR kc ks := fun H locs ls hw hl => lv_icmp_eq h.1 h.2.1 hdg ht (fun q => kt q H locs ls hw hl) (fun q => kf q H locs ls hw hl)
theorem z_icmp_ne (h : CX p s m args meth c A g nL cc Ts own) {x y : Int32} {off : Int} {tgt : Nat} (hdg : decode cc pc = .ok (.if_icmp .ne off, 3)) (ht : (pc : Int) + off = (tgt : Int)) (kt : ¬ x = y → Z p l e R s m args below meth c Q A g nL tgt lv st wW wR kc ks) (kf : x = y → Z p l e R s m args below meth c Q A g nL (pc + 3) lv st wW wR kc ks) : Z p l e R s m args below meth c Q A g nL pc lv (.int y :: .int x :: st) wW wR kc ks := fun H locs ls hw hl => lv_icmp_ne h.1 h.2.1 hdg ht (fun q => kt q H locs ls hw hl) (fun q => kf q H locs ls hw hl)
theorem z_icmp_lt (h : CX p s m args meth c A g nL cc Ts own) {x y : Int32} {off : Int} {tgt : Nat} (hdg : decode cc pc = .ok (.if_icmp .lt off, 3)) (ht : (pc : Int) + off = (tgt : Int)) (kt : x < y → Z p l e R s m args below meth c Q A g nL tgt lv st wW wR kc ks) (kf : ¬ (x < y) → Z p l e R s m args below meth c Q A g nL (pc + 3) lv st wW wR kc ks) : Z p l e R s m args below meth c Q A g nL pc lv (.int y :: .int x :: st) wW wR kc ks := fun H locs ls hw hl => lv_icmp_lt h.1 h.2.1 hdg ht (fun q => kt q H locs ls hw hl) (fun q => kf q H locs ls hw hl)
theorem z_icmp_ge (h : CX p s m args meth c A g nL cc Ts own) {x y : Int32} {off : Int} {tgt : Nat} (hdg : decode cc pc = .ok (.if_icmp .ge off, 3)) (ht : (pc : Int) + off = (tgt : Int)) (kt : y ≤ x → Z p l e R s m args below meth c Q A g nL tgt lv st wW wR kc ks) (kf : ¬ (y ≤ x) → Z p l e R s m args below meth c Q A g nL (pc + 3) lv st wW wR kc ks) : Z p l e R s m args below meth c Q A g nL pc lv (.int y :: .int x :: st) wW wR kc ks := fun H locs ls hw hl => lv_icmp_ge h.1 h.2.1 hdg ht (fun q => kt q H locs ls hw hl) (fun q => kf q H locs ls hw hl)
theorem z_icmp_gt (h : CX p s m args meth c A g nL cc Ts own) {x y : Int32} {off : Int} {tgt : Nat} (hdg : decode cc pc = .ok (.if_icmp .gt off, 3)) (ht : (pc : Int) + off = (tgt : Int)) (kt : y < x → Z p l e R s m args below meth c Q A g nL tgt lv st wW wR kc ks) (kf : ¬ (y < x) → Z p l e R s m args below meth c Q A g nL (pc + 3) lv st wW wR kc ks) : Z p l e R s m args below meth c Q A g nL pc lv (.int y :: .int x :: st) wW wR kc ks := fun H locs ls hw hl => lv_icmp_gt h.1 h.2.1 hdg ht (fun q => kt q H locs ls hw hl) (fun q => kf q H locs ls hw hl)
theorem z_icmp_le (h : CX p s m args meth c A g nL cc Ts own) {x y : Int32} {off : Int} {tgt : Nat} (hdg : decode cc pc = .ok (.if_icmp .le off, 3)) (ht : (pc : Int) + off = (tgt : Int)) (kt : x ≤ y → Z p l e R s m args below meth c Q A g nL tgt lv st wW wR kc ks) (kf : ¬ (x ≤ y) → Z p l e R s m args below meth c Q A g nL (pc + 3) lv st wW wR kc ks) : Z p l e R s m args below meth c Q A g nL pc lv (.int y :: .int x :: st) wW wR kc ks := fun H locs ls hw hl => lv_icmp_le h.1 h.2.1 hdg ht (fun q => kt q H locs ls hw hl) (fun q => kf q H locs ls hw hl)
theorem z_tableOut (h : CX p s m args meth c A g nL cc Ts own) {dflt lo hi : Int} {offs : Array Int} {len : Nat} {x : Int32} {tgt : Nat} (hdg : decode cc pc = .ok (.tableswitch dflt lo hi offs, len)) (hx : x.toInt < lo ∨ hi < x.toInt) (ht : (pc : Int) + dflt = (tgt : Int)) (k : Z p l e R s m args below meth c Q A g nL tgt lv st wW wR kc ks) : Z p l e R s m args below meth c Q A g nL pc lv (.int x :: st) wW wR kc ks := fun H locs ls hw hl => lv_tableOut h.1 h.2.1 hdg hx ht (k H locs ls hw hl)
theorem z_tableIn (h : CX p s m args meth c A g nL cc Ts own) {dflt lo hi : Int} {offs : Array Int} {len : Nat} {x : Int32} {off : Int} {tgt : Nat} (hdg : decode cc pc = .ok (.tableswitch dflt lo hi offs, len)) (h1 : ¬ x.toInt < lo) (h2 : ¬ hi < x.toInt) (ho : offs[(x.toInt - lo).toNat]? = some off) (ht : (pc : Int) + off = (tgt : Int)) (k : Z p l e R s m args below meth c Q A g nL tgt lv st wW wR kc ks) : Z p l e R s m args below meth c Q A g nL pc lv (.int x :: st) wW wR kc ks := fun H locs ls hw hl => lv_tableIn h.1 h.2.1 hdg h1 h2 ho ht (k H locs ls hw hl)
theorem z_topi {x y : Int32} (e9 : x = y) (k : Z p l e R s m args below meth c Q A g nL pc lv (.int y :: st) wW wR kc ks) : Z p l e R s m args below meth c Q A g nL pc lv (.int x :: st) wW wR kc ks := e9 ▸ k
theorem z_topl {x y : Int64} (e9 : x = y) (k : Z p l e R s m args below meth c Q A g nL pc lv (.long y :: st) wW wR kc ks) : Z p l e R s m args below meth c Q A g nL pc lv (.long x :: st) wW wR kc ks := e9 ▸ k
theorem z_lv {lv' : List (Nat × Value)} (js : List Nat) (hjs : lv_pick lv js = lv') (k : Z p l e R s m args below meth c Q A g nL pc lv' st wW wR kc ks) : Z p l e R s m args below meth c Q A g nL pc lv st wW wR kc ks := fun H locs ls hw hl => k H locs ls hw (lv_sub hl js hjs)
theorem z_st {st' : List Value} (e9 : st = st') (k : Z p l e R s m args below meth c Q A g nL pc lv st' wW wR kc ks) : Z p l e R s m args below meth c Q A g nL pc lv st wW wR kc ks := e9 ▸ k
theorem z_ws {wW' wR' : va_W} (e9 : wW = wW') (e8 : wR = wR') (k : Z p l e R s m args below meth c Q A g nL pc lv st wW' wR' kc ks) : Z p l e R s m args below meth c Q A g nL pc lv st wW wR kc ks := e9 ▸ e8 ▸ k
theorem z_widen {kc' ks' : Nat} (h1 : kc ≤ kc') (h2 : ks ≤ ks') (k : Z p l e R s m args below meth c Q A g nL pc lv st wW wR kc' ks') : Z p l e R s m args below meth c Q A g nL pc lv st wW wR kc ks := fun H locs ls hw hl => W.widen h1 h2 (k H locs ls hw hl)
theorem z_getG (h : CX p s m args meth c A g nL cc Ts own) {ref C : String} {T : u_T} {N ci index a : Nat} (hin : ∀ w ∈ u_ws C T N, w ∈ Ts) (q0 : Nat) {fs : List Value} (he : (wW ++ wR)[q0]? = some (a, .inr (ci, fs))) (hc : vwCl[ci]? = some (C, T, N)) (k9 : Nat) (hk : k9 < N) (hlink : Cond.fieldLink own index ref (T k9).2.1 (T k9).2.2.1 ∈ Ts) (hsame : ∀ x, s.fieldFound? (T k9).1 (T k9).2.1 (T k9).2.2.1 = some x → s.fieldFound? ref (T k9).2.1 (T k9).2.2.1 = some x) {v : Value} (hv : fs[k9]? = some v) (hdg : decode cc pc = .ok (.getfield index, 3)) (k : Z p l e R s m args below meth c Q A g nL (pc + 3) lv (v :: st) wW wR kc ks) : Z p l e R s m args below meth c Q A g nL pc lv (.ref a :: st) wW wR kc ks :=
  fun H locs ls hw hl => va_get h.1 h.2.1 h.2.2.2.2.1 hin h.2.2.2.1 h.2.2.2.2.2.1.1 hw.1 q0 he hc k9 hk (h.2.2.2.2.1 _ hlink) hsame hv hdg (k H locs ls hw hl)
theorem z_get (h : CX p s m args meth c A g nL cc Ts own) {C : String} {T : u_T} {N ci index a : Nat} (hin : ∀ w ∈ u_ws C T N, w ∈ Ts) (q0 : Nat) {fs : List Value} (he : (wW ++ wR)[q0]? = some (a, .inr (ci, fs))) (hc : vwCl[ci]? = some (C, T, N)) (k9 : Nat) (hk : k9 < N) (hlink : Cond.fieldLink own index (T k9).1 (T k9).2.1 (T k9).2.2.1 ∈ Ts) {v : Value} (hv : fs[k9]? = some v) (hdg : decode cc pc = .ok (.getfield index, 3)) (k : Z p l e R s m args below meth c Q A g nL (pc + 3) lv (v :: st) wW wR kc ks) : Z p l e R s m args below meth c Q A g nL pc lv (.ref a :: st) wW wR kc ks := z_getG h hin q0 he hc k9 hk hlink (fun _ h9 => h9) hv hdg k
theorem WD.setW {A : Nat → Prop} {g : Gx} {H0 H H1 : Heap} {wW wR : va_W} {locs : List Loc} {q0 a j : Nat} {e0 e1 : va_E} (hw : WD A g H0 wW wR H locs) (he : wW[q0]? = some (a, e0)) (hat : va_at g.1 vwCl (a, e1) H1) (hz : H1.size = H.size) (oq : ∀ q : Nat, q ≠ a → H1[q]? = H[q]?) : WD A g H0 (wW.set q0 (a, e1)) wR H1 (locs ++ [⟨a, j⟩]) := by
  obtain ⟨hP, hD, hA, hS⟩ := hw
  have hl : q0 < wW.length := (List.getElem?_eq_some_iff.mp he).1
  have he' : (wW ++ wR)[q0]? = some (a, e0) := by rw [List.getElem?_append_left hl]; exact he
  have hset : wW.set q0 (a, e1) ++ wR = (wW ++ wR).set q0 (a, e1) := (List.set_append_left _ _ hl).symm
  refine ⟨by rw [hset]; exact hP.set hD he' hat oq, by rw [hset]; exact hD.set he', fun k q hk => ?_, hS.put hz oq (hA q0 _ he)⟩
  by_cases hkq : k = q0
  · subst hkq
    rw [List.getElem?_set_self hl] at hk
    cases hk
    exact hA _ (a, e0) he
  · rw [List.getElem?_set_ne (Ne.symm hkq)] at hk
    exact hA k q hk
theorem z_putG (h : CX p s m args meth c A g nL cc Ts own) {ref C : String} {T : u_T} {N ci index a : Nat} (hin : ∀ w ∈ u_ws C T N, w ∈ Ts) (q0 : Nat) {fs : List Value} (ty0 : Nat → FieldType) (hty : ∀ k, k < N → parseFieldDescriptor (T k).2.2.1 = some (ty0 k)) (hnm : ∀ a, a < N → ∀ b, b < N → a ≠ b → (T a).2.1 ≠ (T b).2.1) (he : wW[q0]? = some (a, .inr (ci, fs))) (hc : vwCl[ci]? = some (C, T, N)) (k9 : Nat) (hk : k9 < N) (hlink : Cond.fieldLink own index ref (T k9).2.1 (T k9).2.2.1 ∈ Ts) (hsame : ∀ x, s.fieldFound? (T k9).1 (T k9).2.1 (T k9).2.2.1 = some x → s.fieldFound? ref (T k9).2.1 (T k9).2.2.1 = some x) (hfin : (T k9).2.2.2 = false) {ty : FieldType} {v : Value} (hd : parseFieldDescriptor (T k9).2.2.1 = some ty) (hn : narrow ty v = v) (hfit : fits ty v = true) (hl9 : k9 < fs.length) (hdg : decode cc pc = .ok (.putfield index, 3))
    {wW' : va_W} (hws : wW.set q0 (a, .inr (ci, fs.set k9 v)) = wW') (k : Z p l e R s m args below meth c Q A g nL (pc + 3) lv st wW' wR kc ks) : Z p l e R s m args below meth c Q A g nL pc lv (v :: .ref a :: st) wW wR kc ks := by
  intro H locs ls hw hl
  have he' : (wW ++ wR)[q0]? = some (a, .inr (ci, fs)) := by rw [List.getElem?_append_left (List.getElem?_eq_some_iff.mp he).1]; exact he
  have hK := h.2.2.2.2.2.1.1
  have hts := h.2.2.2.2.1
  have hap := va_apart (own := own) hts hin ty0 hty hnm hK hc
  obtain ⟨r, h1, cell, q1, q2, q3, q4⟩ := hw.1 q0 _ he'
  have hr : r = (C, T, N) := Option.some.inj (h1.symm.trans hc)
  subst hr
  obtain ⟨hSl, hfc, kC, hkC, hkind⟩ := hK.1 ci _ hc
  obtain ⟨cf, kf, fi, f, hi, hsl⟩ := hSl k9 hk
  have hlay := hts _ (hin _ (u_in_lay hk))
  unfold u_lay at hlay
  rw [if_neg (by rw [hfin]; decide)] at hlay
  have hst := (u_facts hfc hkC (u_lays hts hin hk) hi).1
  have h6 := u_store hfc hkC hkind hlay hi hd hn hfit
  refine W.putK h.1 h.2.1 (f := f) ⟨h.2.2.2.1, hts _ hlink, ⟨_, _, _, hsame _ hi⟩, hst⟩ (by rw [q2]; exact h6) q1 q3 (by rw [hsl]; exact k2_hasslot (q4 k9 hk)) rfl rfl hdg fun H' e1 e2 e3 => ?_
  rw [hsl] at e1 ⊢
  subst hws
  exact k H' _ ls (hw.setW he ⟨_, hc, t_OB.to (V := updV (vp_V fs) k9 v) ⟨_, e1, q2, q3, t_set q4 hap hk v⟩ (fun j _ => vp_updV_set hl9 v j)⟩ e2 e3) hl
theorem z_put (h : CX p s m args meth c A g nL cc Ts own) {C : String} {T : u_T} {N ci index a : Nat} (hin : ∀ w ∈ u_ws C T N, w ∈ Ts) (q0 : Nat) {fs : List Value} (ty0 : Nat → FieldType) (hty : ∀ k, k < N → parseFieldDescriptor (T k).2.2.1 = some (ty0 k)) (hnm : ∀ a, a < N → ∀ b, b < N → a ≠ b → (T a).2.1 ≠ (T b).2.1) (he : wW[q0]? = some (a, .inr (ci, fs))) (hc : vwCl[ci]? = some (C, T, N)) (k9 : Nat) (hk : k9 < N) (hlink : Cond.fieldLink own index (T k9).1 (T k9).2.1 (T k9).2.2.1 ∈ Ts) (hfin : (T k9).2.2.2 = false) {v : Value} (hn : narrow (ty0 k9) v = v) (hfit : fits (ty0 k9) v = true) (hl9 : k9 < fs.length) (hdg : decode cc pc = .ok (.putfield index, 3))
    {wW' : va_W} (hws : wW.set q0 (a, .inr (ci, fs.set k9 v)) = wW') (k : Z p l e R s m args below meth c Q A g nL (pc + 3) lv st wW' wR kc ks) : Z p l e R s m args below meth c Q A g nL pc lv (v :: .ref a :: st) wW wR kc ks := z_putG h hin q0 ty0 hty hnm he hc k9 hk hlink (fun _ h9 => h9) hfin (hty k9 hk) hn hfit hl9 hdg hws k
theorem z_putF (h : CX p s m args meth c A g nL cc Ts own) {C : String} {T : u_T} {N ci index a : Nat} (hin : ∀ w ∈ u_ws C T N, w ∈ Ts) (q0 : Nat) {fs : List Value} (ty0 : Nat → FieldType) (hty : ∀ k, k < N → parseFieldDescriptor (T k).2.2.1 = some (ty0 k)) (hnm : ∀ a, a < N → ∀ b, b < N → a ≠ b → (T a).2.1 ≠ (T b).2.1) (he : wW[q0]? = some (a, .inr (ci, fs))) (hc : vwCl[ci]? = some (C, T, N)) (k9 : Nat) (hk : k9 < N) (hlink : Cond.fieldLink own index (T k9).1 (T k9).2.1 (T k9).2.2.1 ∈ Ts) (hfin : (T k9).2.2.2 = true) (hin2 : meth.name = "<init>") (hdecl : (T k9).1 = own) {v : Value} (hn : narrow (ty0 k9) v = v) (hfit : fits (ty0 k9) v = true) (hl9 : k9 < fs.length) (hdg : decode cc pc = .ok (.putfield index, 3))
    {wW' : va_W} (hws : wW.set q0 (a, .inr (ci, fs.set k9 v)) = wW') (k : Z p l e R s m args below meth c Q A g nL (pc + 3) lv st wW' wR kc ks) : Z p l e R s m args below meth c Q A g nL pc lv (v :: .ref a :: st) wW wR kc ks := by
  intro H locs ls hw hl
  have he' : (wW ++ wR)[q0]? = some (a, .inr (ci, fs)) := by rw [List.getElem?_append_left (List.getElem?_eq_some_iff.mp he).1]; exact he
  have hK := h.2.2.2.2.2.1.1
  have hts := h.2.2.2.2.1
  have hd := hty k9 hk
  have hap := va_apart (own := own) hts hin ty0 hty hnm hK hc
  obtain ⟨r, h1, cell, q1, q2, q3, q4⟩ := hw.1 q0 _ he'
  have hr : r = (C, T, N) := Option.some.inj (h1.symm.trans hc)
  subst hr
  obtain ⟨hSl, hfc, kC, hkC, hkind⟩ := hK.1 ci _ hc
  obtain ⟨cf, kf, fi, f, hi, hsl⟩ := hSl k9 hk
  have hlay := hts _ (hin _ (u_in_lay hk))
  unfold u_lay at hlay
  rw [if_pos hfin] at hlay
  have hst := (u_facts hfc hkC (u_lays hts hin hk) hi).1
  have hcf : m.cls = cf := by
    obtain ⟨_, _, c', _, _, _, -, -, hf', -, -, -, hown2, -⟩ := Cond.laysFinal_spec hlay
    have e1 : c' = cf := by have := hi.symm.trans hf'; simp at this; exact this.1.symm
    rw [hdecl] at hown2
    rw [← e1]; exact Option.some.inj (h.2.2.2.1.symm.trans hown2)
  have h6 := u_fits hfc hkC hkind (Or.inr hlay) hi hd hn hfit
  refine W.putFinK h.1 h.2.1 h.2.2.2.1 (hts _ hlink) hi hst hcf hin2 (by rw [q2]; exact h6) q1 q3 (by rw [hsl]; exact k2_hasslot (q4 k9 hk)) rfl rfl hdg fun H' e1 e2 e3 => ?_
  rw [hsl] at e1 ⊢
  subst hws
  exact k H' _ ls (hw.setW he ⟨_, hc, t_OB.to (V := updV (vp_V fs) k9 v) ⟨_, e1, q2, q3, t_set q4 hap hk v⟩ (fun j _ => vp_updV_set hl9 v j)⟩ e2 e3) hl
theorem z_getN (h : CX p s m args meth c A g nL cc Ts own) {C : String} {T : u_T} {N ci index a : Nat} (hin : ∀ w ∈ u_ws C T N, w ∈ Ts) (q0 : Nat) {fs : List Value} (he : (wW ++ wR)[q0]? = some (a, .inr (ci, fs))) (hc : vwCl[ci]? = some (C, T, N)) (k9 : Nat) (hk : k9 < N) (hq : (own, index, (T k9).1, (T k9).2.1, (T k9).2.2.1) ∈ nestQ) {v : Value} (hv : fs[k9]? = some v) (hdg : decode cc pc = .ok (.getfield index, 3)) (k : Z p l e R s m args below meth c Q A g nL (pc + 3) lv (v :: st) wW wR kc ks) : Z p l e R s m args below meth c Q A g nL pc lv (.ref a :: st) wW wR kc ks :=
  fun H locs ls hw hl => va_getN h.1 h.2.1 h.2.2.2.2.1 hin h.2.2.2.1 h.2.2.2.2.2.1.1 hw.1 q0 he hc k9 hk (va_Nw.use rfl (h.2.2.2.2.2.1.2.1 _ hq)) (fun _ h9 => h9) hv hdg (k H locs ls hw hl)
theorem z_putN (h : CX p s m args meth c A g nL cc Ts own) {C : String} {T : u_T} {N ci index a : Nat} (hin : ∀ w ∈ u_ws C T N, w ∈ Ts) (q0 : Nat) {fs : List Value} (ty0 : Nat → FieldType) (hty : ∀ k, k < N → parseFieldDescriptor (T k).2.2.1 = some (ty0 k)) (hnm : ∀ a, a < N → ∀ b, b < N → a ≠ b → (T a).2.1 ≠ (T b).2.1) (he : wW[q0]? = some (a, .inr (ci, fs))) (hc : vwCl[ci]? = some (C, T, N)) (k9 : Nat) (hk : k9 < N) (hq : (own, index, (T k9).1, (T k9).2.1, (T k9).2.2.1) ∈ nestQ) (hfin : (T k9).2.2.2 = false) {v : Value} (hn : narrow (ty0 k9) v = v) (hfit : fits (ty0 k9) v = true) (hl9 : k9 < fs.length) (hdg : decode cc pc = .ok (.putfield index, 3))
    {wW' : va_W} (hws : wW.set q0 (a, .inr (ci, fs.set k9 v)) = wW') (k : Z p l e R s m args below meth c Q A g nL (pc + 3) lv st wW' wR kc ks) : Z p l e R s m args below meth c Q A g nL pc lv (v :: .ref a :: st) wW wR kc ks := by
  intro H locs ls hw hl
  have he' : (wW ++ wR)[q0]? = some (a, .inr (ci, fs)) := by rw [List.getElem?_append_left (List.getElem?_eq_some_iff.mp he).1]; exact he
  have hK := h.2.2.2.2.2.1.1
  have hts := h.2.2.2.2.1
  have hd := hty k9 hk
  have hap := va_apart (own := own) hts hin ty0 hty hnm hK hc
  obtain ⟨r, h1, cell, q1, q2, q3, q4⟩ := hw.1 q0 _ he'
  have hr : r = (C, T, N) := Option.some.inj (h1.symm.trans hc)
  subst hr
  obtain ⟨hSl, hfc, kC, hkC, hkind⟩ := hK.1 ci _ hc
  obtain ⟨cf, kf, fi, f, hi, hsl⟩ := hSl k9 hk
  have hlay := hts _ (hin _ (u_in_lay hk))
  unfold u_lay at hlay
  rw [if_neg (by rw [hfin]; decide)] at hlay
  have hst := (u_facts hfc hkC (u_lays hts hin hk) hi).1
  have h6 := u_store hfc hkC hkind hlay hi hd hn hfit
  refine va_WputK h.1 h.2.1 (f := f) h.2.2.2.1 (va_Nw.use rfl (h.2.2.2.2.2.1.2.1 _ hq)) hi hst (by rw [q2]; exact h6) q1 q3 (by rw [hsl]; exact k2_hasslot (q4 k9 hk)) rfl rfl hdg fun H' e1 e2 e3 => ?_
  rw [hsl] at e1 ⊢
  subst hws
  exact k H' _ ls (hw.setW he ⟨_, hc, t_OB.to (V := updV (vp_V fs) k9 v) ⟨_, e1, q2, q3, t_set q4 hap hk v⟩ (fun j _ => vp_updV_set hl9 v j)⟩ e2 e3) hl
theorem z_cast (h : CX p s m args meth c A g nL cc Ts own) {C : String} {T : u_T} {N ci index a : Nat} (hlink : Cond.classLink own index C ∈ Ts) (q0 : Nat) {fs : List Value} (he : (wW ++ wR)[q0]? = some (a, .inr (ci, fs))) (hc : vwCl[ci]? = some (C, T, N)) (hdg : decode cc pc = .ok (.checkcast index, 3)) (k : Z p l e R s m args below meth c Q A g nL (pc + 3) lv (.ref a :: st) wW wR kc ks) : Z p l e R s m args below meth c Q A g nL pc lv (.ref a :: st) wW wR kc ks :=
  fun H locs ls hw hl => va_castS h.1 h.2.1 h.2.2.2.1 (h.2.2.2.2.1 _ hlink) (h.2.2.2.2.2.1.1.1 ci _ hc).2 (va_recv h.2.2.2.2.2.1.1 hw.1 hc he) hdg (k H locs ls hw hl)
theorem z_iald (h : CX p s m args meth c A g nL cc Ts own) {a n : Nat} {f : Nat → Int32} (q0 : Nat) (ha : (wW ++ wR)[q0]? = some (a, .inl (g.2.1, n, .inl f))) {i : Int32} (hin : vp_in i n) (hdg : decode cc pc = .ok (.iaload, 1)) {v : Int32} (hv : f i.toNatClampNeg = v) (k : Z p l e R s m args below meth c Q A g nL (pc + 1) lv (.int v :: st) wW wR kc ks) : Z p l e R s m args below meth c Q A g nL pc lv (.int i :: .ref a :: st) wW wR kc ks := by
  subst hv
  exact fun H locs ls hw hl => va_iald h.1 h.2.1 h.2.2.2.2.2.1.1 hw.1 q0 0 ha rfl hin hdg (k H locs ls hw hl)
theorem z_lald (h : CX p s m args meth c A g nL cc Ts own) {a n : Nat} {f : Nat → Int64} (q0 : Nat) (ha : (wW ++ wR)[q0]? = some (a, .inl (g.2.2.1, n, .inr (.inl f)))) {i : Int32} (hin : vp_in i n) (hdg : decode cc pc = .ok (.laload, 1)) {v : Int64} (hv : f i.toNatClampNeg = v) (k : Z p l e R s m args below meth c Q A g nL (pc + 1) lv (.long v :: st) wW wR kc ks) : Z p l e R s m args below meth c Q A g nL pc lv (.int i :: .ref a :: st) wW wR kc ks := by
  subst hv
  exact fun H locs ls hw hl => va_lald h.1 h.2.1 h.2.2.2.2.2.1.1 hw.1 q0 1 ha rfl hin hdg (k H locs ls hw hl)
theorem z_zald (h : CX p s m args meth c A g nL cc Ts own) {a n : Nat} {f : Nat → Int32} (q0 : Nat) (ha : (wW ++ wR)[q0]? = some (a, .inl (g.2.2.2.1, n, .inl f))) {i : Int32} (hin : vp_in i n) (hdg : decode cc pc = .ok (.baload, 1)) {v : Int32} (hv : f i.toNatClampNeg = v) (k : Z p l e R s m args below meth c Q A g nL (pc + 1) lv (.int v :: st) wW wR kc ks) : Z p l e R s m args below meth c Q A g nL pc lv (.int i :: .ref a :: st) wW wR kc ks := by
  subst hv
  exact fun H locs ls hw hl => va_zald h.1 h.2.1 h.2.2.2.2.2.1.1 hw.1 q0 2 ha rfl hin hdg (k H locs ls hw hl)
theorem z_aldq (h : CX p s m args meth c A g nL cc Ts own) {a n : Nat} {f : Nat → Option Nat} (q0 : Nat) (ha : (wW ++ wR)[q0]? = some (a, .inl (g.2.2.2.2.1, n, .inr (.inr (.inr (.inr f)))))) {i : Int32} (hin : vp_in i n) (hdg : decode cc pc = .ok (.aaload, 1)) {b : Nat} (hv : f i.toNatClampNeg = some b) (k : Z p l e R s m args below meth c Q A g nL (pc + 1) lv (.ref b :: st) wW wR kc ks) : Z p l e R s m args below meth c Q A g nL pc lv (.int i :: .ref a :: st) wW wR kc ks :=
  fun H locs ls hw hl => va_aldq h.1 h.2.1 h.2.2.2.2.2.1.1 hw.1 q0 3 ha rfl hin hdg (by rw [hv]; exact k H locs ls hw hl)
theorem z_alen (h : CX p s m args meth c A g nL cc Ts own) {a : Nat} {cA : ClassId} {x : vp_A} {ty : FieldType} (q0 t0 : Nat) (ha : (wW ++ wR)[q0]? = some (a, .inl (cA, x))) (ht : (tyL g)[t0]? = some (cA, ty)) {v : Int32} (hv : Int32.ofNat x.1 = v) (hdg : decode cc pc = .ok (.arraylength, 1)) (k : Z p l e R s m args below meth c Q A g nL (pc + 1) lv (.int v :: st) wW wR kc ks) : Z p l e R s m args below meth c Q A g nL pc lv (.ref a :: st) wW wR kc ks :=
  fun H locs ls hw hl => va_alen h.1 h.2.1 h.2.2.2.2.2.1.1 hw.1 q0 t0 ha ht hv hdg (k H locs ls hw hl)
theorem z_iast (h : CX p s m args meth c A g nL cc Ts own) {a n j : Nat} {f : Nat → Int32} (q0 : Nat) (ha : wW[q0]? = some (a, .inl (g.2.1, n, .inl f))) {i : Int32} {x : Int32} (hin : vp_in i n) (hj : i.toNatClampNeg = j) (hdg : decode cc pc = .ok (.iastore, 1)) {wW' : va_W} (hws : wW.set q0 (a, .inl (g.2.1, n, .inl (upd f j x))) = wW') (k : Z p l e R s m args below meth c Q A g nL (pc + 1) lv st wW' wR kc ks) : Z p l e R s m args below meth c Q A g nL pc lv (.int x :: .int i :: .ref a :: st) wW wR kc ks := by
  intro H locs ls hw hl
  subst hj
  have ha' : (wW ++ wR)[q0]? = some (a, .inl (g.2.1, n, .inl f)) := by rw [List.getElem?_append_left (List.getElem?_eq_some_iff.mp ha).1]; exact ha
  refine W.iast h.1 h.2.1 (hw.1 q0 _ ha') ((h.2.2.2.2.2.1.1.2 0 _ rfl).1 n (fun j => .int (f j))) (fun q => by cases q) (by show ¬ (i < 0 ∨ (arrV _ _ _).slots.size ≤ _); rw [arrV_size]; exact hin) rfl rfl hdg fun H1 e z oq => ?_
  subst hws
  refine k H1 _ ls (hw.setW ha ?_ z oq) hl
  show H1[a]? = some (vp_cell _ _)
  rw [e, vp_cell_i, vp_cell_i, arrV_store]
  congr 2
  funext q
  by_cases hq : q = i.toNatClampNeg
  · subst hq
    simp [updV, upd]
    try rfl
  · simp [updV, upd, hq]
theorem z_zast (h : CX p s m args meth c A g nL cc Ts own) {a n j : Nat} {f : Nat → Int32} (q0 : Nat) (ha : wW[q0]? = some (a, .inl (g.2.2.2.1, n, .inl f))) {i : Int32} {x : Int32} (hin : vp_in i n) (hj : i.toNatClampNeg = j) (hdg : decode cc pc = .ok (.bastore, 1)) {wW' : va_W} (hws : wW.set q0 (a, .inl (g.2.2.2.1, n, .inl (upd f j (vp_nar .boolean x)))) = wW') (k : Z p l e R s m args below meth c Q A g nL (pc + 1) lv st wW' wR kc ks) : Z p l e R s m args below meth c Q A g nL pc lv (.int x :: .int i :: .ref a :: st) wW wR kc ks := by
  intro H locs ls hw hl
  subst hj
  have ha' : (wW ++ wR)[q0]? = some (a, .inl (g.2.2.2.1, n, .inl f)) := by rw [List.getElem?_append_left (List.getElem?_eq_some_iff.mp ha).1]; exact ha
  refine W.zast h.1 h.2.1 (hw.1 q0 _ ha') ((h.2.2.2.2.2.1.1.2 2 _ rfl).1 n (fun j => .int (f j))) (fun q => by cases q) (by show ¬ (i < 0 ∨ (arrV _ _ _).slots.size ≤ _); rw [arrV_size]; exact hin) rfl rfl hdg fun H1 e z oq => ?_
  subst hws
  refine k H1 _ ls (hw.setW ha ?_ z oq) hl
  show H1[a]? = some (vp_cell _ _)
  rw [e, vp_cell_i, vp_cell_i, arrV_store]
  congr 2
  funext q
  by_cases hq : q = i.toNatClampNeg
  · subst hq
    simp [updV, upd, vp_nar]
    try rfl
  · simp [updV, upd, vp_nar, hq]
theorem z_last (h : CX p s m args meth c A g nL cc Ts own) {a n j : Nat} {f : Nat → Int64} (q0 : Nat) (ha : wW[q0]? = some (a, .inl (g.2.2.1, n, .inr (.inl f)))) {i : Int32} {x : Int64} (hin : vp_in i n) (hj : i.toNatClampNeg = j) (hdg : decode cc pc = .ok (.lastore, 1)) {wW' : va_W} (hws : wW.set q0 (a, .inl (g.2.2.1, n, .inr (.inl (vp_updL f j x)))) = wW') (k : Z p l e R s m args below meth c Q A g nL (pc + 1) lv st wW' wR kc ks) : Z p l e R s m args below meth c Q A g nL pc lv (.long x :: .int i :: .ref a :: st) wW wR kc ks := by
  intro H locs ls hw hl
  subst hj
  have ha' : (wW ++ wR)[q0]? = some (a, .inl (g.2.2.1, n, .inr (.inl f))) := by rw [List.getElem?_append_left (List.getElem?_eq_some_iff.mp ha).1]; exact ha
  refine W.last h.1 h.2.1 (hw.1 q0 _ ha') ((h.2.2.2.2.2.1.1.2 1 _ rfl).1 n (fun j => .long (f j))) (fun q => by cases q) (by show ¬ (i < 0 ∨ (arrV _ _ _).slots.size ≤ _); rw [arrV_size]; exact hin) rfl rfl hdg fun H1 e z oq => ?_
  subst hws
  refine k H1 _ ls (hw.setW ha ?_ z oq) hl
  show H1[a]? = some (vp_cell _ _)
  rw [e, vp_cell_l, vp_cell_l, arrV_store]
  congr 2
  funext q
  by_cases hq : q = i.toNatClampNeg
  · subst hq
    simp [updV, vp_updL]
    try rfl
  · simp [updV, vp_updL, hq]
theorem z_astq (h : CX p s m args meth c A g nL cc Ts own) {a n j v ci : Nat} {f : Nat → Option Nat} {vs : List Value} {r : vw_C} (q0 qk : Nat) (ha : wW[q0]? = some (a, .inl (g.2.2.2.2.1, n, .inr (.inr (.inr (.inr f)))))) (hca : (r.1, "java/lang/Object") ∈ castQ) (hv : (wW ++ wR)[qk]? = some (v, .inr (ci, vs))) (hc : vwCl[ci]? = some r) {i : Int32} (hin : vp_in i n) (hj : i.toNatClampNeg = j) (hdg : decode cc pc = .ok (.aastore, 1)) {wW' : va_W} (hws : wW.set q0 (a, .inl (g.2.2.2.2.1, n, .inr (.inr (.inr (.inr (va_up f j (some v))))))) = wW') (k : Z p l e R s m args below meth c Q A g nL (pc + 1) lv st wW' wR kc ks) : Z p l e R s m args below meth c Q A g nL pc lv (.ref v :: .int i :: .ref a :: st) wW wR kc ks := by
  intro H locs ls hw hl
  subst hj
  have ha' : (wW ++ wR)[q0]? = some (a, .inl (g.2.2.2.2.1, n, .inr (.inr (.inr (.inr f))))) := by rw [List.getElem?_append_left (List.getElem?_eq_some_iff.mp ha).1]; exact ha
  have hK := h.2.2.2.2.2.1.1
  have hlt : i.toNatClampNeg < n := Nat.not_le.mp fun q => hin (Or.inr q)
  have h0 : ¬ i < 0 := fun q => hin (Or.inl q)
  obtain ⟨r', hr', cellV, g1, g2, g3, -⟩ := hw.1 qk _ hv
  have hcls := (hK.1 ci r hc).2
  obtain ⟨kA, comp, k1, k2, k3, -⟩ := (hK.2 3 _ rfl).2
  obtain ⟨kE, hkE, -⟩ := Vm.findClass_spec k3
  obtain ⟨c0, t1, f1, f2, f3⟩ := Cond.castable_spec (va_Nw.use (A := args) rfl (h.2.2.2.2.2.1.2.2.1 _ hca))
  cases hcls.1.symm.trans f1
  cases k3.symm.trans f2
  obtain ⟨kC, hkC, -⟩ := hcls.2
  refine W.aast h.1 h.2.1 (hw.1 q0 _ ha') (fun q h => by cases h) (fun h => by cases h) k1 k2 rfl hkE ⟨h0, by show _ < (arrV _ _ _).slots.size; rw [arrV_size]; exact hlt⟩ g1 (fun q h => by rw [g3] at h; cases h) (by rw [g2]; exact hkC) (by rw [g2]; exact f3) rfl rfl hdg fun H1 e z oq => ?_
  subst hws
  refine k H1 _ ls (hw.setW ha ?_ z oq) hl
  show H1[a]? = some (vp_cell _ _)
  rw [e, vp_cell_q, vp_cell_q, arrV_store]
  congr 2
  funext q
  by_cases hq : q = i.toNatClampNeg
  · subst hq
    simp [updV, va_up, va_rf]
  · simp [updV, va_up, hq]
/-- a new cell at the end of those that may be written -/
theorem WD.push {A : Nat → Prop} {g : Gx} {H0 H H1 : Heap} {wW wR : va_W} {locs : List Loc} {e : va_E} (hw : WD A g H0 wW wR H locs) (hA : ∀ q, H0.size ≤ q → A q) (z1 : H1.size = H.size + 1) (o1 : ∀ q, q < H.size → H1[q]? = H[q]?) (he : va_at g.1 vwCl (H.size, e) H1) : WD A g H0 (wW ++ [(H.size, e)]) wR H1 locs := by
  obtain ⟨hP, hD, hAw, hS⟩ := hw
  have key : ∀ (k : Nat) (q : Nat × va_E), ((wW ++ [(H.size, e)]) ++ wR)[k]? = some q → (∃ k0, (wW ++ wR)[k0]? = some q ∧ k = (if k0 < wW.length then k0 else k0 + 1)) ∨ (q = (H.size, e) ∧ k = wW.length) := by
    intro k q hq
    by_cases h1 : k < wW.length
    · rw [List.getElem?_append_left (by rw [List.length_append]; omega), List.getElem?_append_left h1] at hq
      exact Or.inl ⟨k, by rw [List.getElem?_append_left h1]; exact hq, by rw [if_pos h1]⟩
    · by_cases h2 : k = wW.length
      · subst h2
        rw [List.getElem?_append_left (by simp), List.getElem?_append_right (Nat.le_refl _), Nat.sub_self] at hq
        exact Or.inr ⟨(Option.some.inj hq).symm, rfl⟩
      · rw [List.getElem?_append_right (by simp; omega)] at hq
        refine Or.inl ⟨k - 1, ?_, by rw [if_neg (by omega)]; omega⟩
        rw [List.getElem?_append_right (by omega)]
        rw [show k - (wW ++ [(H.size, e)]).length = k - 1 - wW.length by simp; omega] at hq
        exact hq
  refine ⟨fun k q hq => ?_, ⟨fun i j x y hx hy hxy => ?_, fun _ _ _ => trivial⟩, fun k q hq => ?_, ⟨Nat.le_trans hS.1 (by omega), fun q h1 h2 => (o1 q (Nat.lt_of_lt_of_le h1 hS.1)).trans (hS.2.1 q h1 h2), hS.2.2⟩⟩
  · rcases key k q hq with ⟨k0, h1, -⟩ | ⟨rfl, -⟩
    · exact (hP k0 q h1).kept (o1 q.1 (hP k0 q h1).lt)
    · exact he
  · rcases key i x hx with ⟨a, a1, a2⟩ | ⟨rfl, a2⟩ <;> rcases key j y hy with ⟨b, b1, b2⟩ | ⟨rfl, b2⟩
    · have hab := hD.1 a b x y a1 b1 hxy
      rw [a2, b2, hab]
    · have := (hP a x a1).lt
      have : x.1 = H.size := hxy
      omega
    · have := (hP b y b1).lt
      have : H.size = y.1 := hxy
      omega
    · rw [a2, b2]
  · by_cases h1 : k < wW.length
    · rw [List.getElem?_append_left h1] at hq
      exact hAw k q hq
    · rw [List.getElem?_append_right (by omega)] at hq
      have hz : k - wW.length < 1 := (List.getElem?_eq_some_iff.mp hq).1
      rw [show k - wW.length = 0 by omega] at hq
      cases hq
      exact hA _ hS.1
theorem z_lve {lv' : List (Nat × Value)} (e9 : lv = lv') (k : Z p l e R s m args below meth c Q A g nL pc lv' st wW wR kc ks) : Z p l e R s m args below meth c Q A g nL pc lv st wW wR kc ks := e9 ▸ k
theorem z_mmax (h : CX p s m args meth c A g nL cc Ts own) {index : Nat} {x y : Int32} (hlink : Cond.methodLink own index Lib.Math.max.name ∈ Ts) (hstat : Cond.static Lib.Math.max.name ∈ Ts) (hini : Cond.initialized "java/lang/Math" ∈ Ts) (hcode : Cond.code Lib.Math.max.name Lib.Math.max.code 2 (some .int) ∈ Ts) (hframes : 1 ≤ R.frames) (hlocals : (st.map fun v => v.category).sum + 13 ≤ R.locals) (hc : kc ≤ R.cells) (hs : ks ≤ R.slots) (hdg : decode cc pc = .ok (.invokestatic index, 3)) (k : Z p l e R s m args below meth c Q A g nL (pc + 3) lv (.int (if x < y then y else x) :: st) wW wR kc ks) : Z p l e R s m args below meth c Q A g nL pc lv (.int y :: .int x :: st) wW wR kc ks := fun H locs ls hw hl => va_mmax h.1 h.2.1 (h.2.2.1.trans hl.1.symm) h.2.2.2.1 (h.2.2.2.2.1 _ hlink) (h.2.2.2.2.1 _ hstat) (h.2.2.2.2.1 _ hini) (h.2.2.2.2.1 _ hcode) hframes hlocals hc hs hdg (k H locs ls hw hl)
theorem z_mmin (h : CX p s m args meth c A g nL cc Ts own) {index : Nat} {x y : Int32} (hlink : Cond.methodLink own index Lib.Math.min.name ∈ Ts) (hstat : Cond.static Lib.Math.min.name ∈ Ts) (hini : Cond.initialized "java/lang/Math" ∈ Ts) (hcode : Cond.code Lib.Math.min.name Lib.Math.min.code 2 (some .int) ∈ Ts) (hframes : 1 ≤ R.frames) (hlocals : (st.map fun v => v.category).sum + 13 ≤ R.locals) (hc : kc ≤ R.cells) (hs : ks ≤ R.slots) (hdg : decode cc pc = .ok (.invokestatic index, 3)) (k : Z p l e R s m args below meth c Q A g nL (pc + 3) lv (.int (if y < x then y else x) :: st) wW wR kc ks) : Z p l e R s m args below meth c Q A g nL pc lv (.int y :: .int x :: st) wW wR kc ks := fun H locs ls hw hl => va_mmin h.1 h.2.1 (h.2.2.1.trans hl.1.symm) h.2.2.2.1 (h.2.2.2.2.1 _ hlink) (h.2.2.2.2.1 _ hstat) (h.2.2.2.2.1 _ hini) (h.2.2.2.2.1 _ hcode) hframes hlocals hc hs hdg (k H locs ls hw hl)
theorem z_mabs (h : CX p s m args meth c A g nL cc Ts own) {index : Nat} {x : Int32} (hlink : Cond.methodLink own index Lib.Math.abs.name ∈ Ts) (hstat : Cond.static Lib.Math.abs.name ∈ Ts) (hini : Cond.initialized "java/lang/Math" ∈ Ts) (hcode : Cond.code Lib.Math.abs.name Lib.Math.abs.code 1 (some .int) ∈ Ts) (hframes : 1 ≤ R.frames) (hlocals : (st.map fun v => v.category).sum + 13 ≤ R.locals) (hc : kc ≤ R.cells) (hs : ks ≤ R.slots) (hdg : decode cc pc = .ok (.invokestatic index, 3)) (k : Z p l e R s m args below meth c Q A g nL (pc + 3) lv (.int (if 0 ≤ x then x else 0 - x) :: st) wW wR kc ks) : Z p l e R s m args below meth c Q A g nL pc lv (.int x :: st) wW wR kc ks := fun H locs ls hw hl => va_mabs h.1 h.2.1 (h.2.2.1.trans hl.1.symm) h.2.2.2.1 (h.2.2.2.2.1 _ hlink) (h.2.2.2.2.1 _ hstat) (h.2.2.2.2.1 _ hini) (h.2.2.2.2.1 _ hcode) hframes hlocals hc hs hdg (k H locs ls hw hl)
theorem z_objInit (h : CX p s m args meth c A g nL cc Ts own) {idx a : Nat} (hlink : Cond.methodLink own idx Lib.objectInit ∈ Ts) (hinst : Cond.instanceMethod Lib.objectInit ∈ Ts) (hcode : Cond.code Lib.objectInit ⟨#[0xb1]⟩ 1 none ∈ Ts) (hdg : decode cc pc = .ok (.invokespecial idx, 3)) (hframes : 1 ≤ R.frames) (hlocals : (st.map fun v => v.category).sum + 12 ≤ R.locals) (k : Z p l e R s m args below meth c Q A g nL (pc + 3) lv st wW wR kc ks) : Z p l e R s m args below meth c Q A g nL pc lv (.ref a :: st) wW wR kc ks := fun H locs ls hw hl =>
  W.objInit h.1 h.2.1 h.2.2.2.1 (h.2.2.2.2.1 _ hlink) (h.2.2.2.2.1 _ hinst) (h.2.2.2.2.1 _ hcode) rfl (hl.1.trans h.2.2.1.symm) rfl hdg hframes (by show 2 * 0 + _ + 12 ≤ _; omega) (k H locs ls hw hl)
theorem z_new (h : CX p s m args meth c A g nL cc Ts own) {C : String} {T : u_T} {N ci index : Nat} (hin : ∀ w ∈ u_ws C T N, w ∈ Ts) (ty : Nat → FieldType) (hty : ∀ k, k < N → parseFieldDescriptor (T k).2.2.1 = some (ty k)) (hcl : Cond.classLink own index C ∈ Ts) (hinst : Cond.instantiable C N ∈ Ts) (hini : Cond.initialized C ∈ Ts) (hc : vwCl[ci]? = some (C, T, N)) {fs : List Value} (hfs : ∀ j, j < N → defaultValue (ty j) = vp_V fs j) (hcells : kc + 1 ≤ R.cells) (hslots : ks + N ≤ R.slots) (hdg : decode cc pc = .ok (.new index, 3))
    (k : ∀ q : Nat, Z p l e R s m args below meth c Q A g nL (pc + 3) lv (.ref q :: st) (wW ++ [(q, .inr (ci, fs))]) wR (kc + 1) (ks + N)) : Z p l e R s m args below meth c Q A g nL pc lv st wW wR kc ks := by
  intro H locs ls hw hl
  obtain ⟨hP, hD, hA, hS⟩ := hw
  have hKn := h.2.2.2.2.2.1.1.1 ci _ hc
  refine W.newcK h.1 h.2.1 h.2.2.2.1 (h.2.2.2.2.1 _ hcl) (h.2.2.2.2.1 _ hinst) (h.2.2.2.2.1 _ hini) rfl hdg hcells hslots hKn.2.1 rfl fun H1 kC hkC e1 z1 o1 => ?_
  refine k H.size H1 locs ls (WD.push ⟨hP, hD, hA, hS⟩ h.2.2.2.2.2.2.1 z1 o1 ⟨_, hc, (u_born ty h.2.2.2.2.1 hin hKn hkC e1 hty).to hfs⟩) hl
theorem z_newa (h : CX p s m args meth c A g nL cc Ts own) {atype : ArrayType} {ty : FieldType} {n : Int32} {N' t0 : Nat} {a0 : vp_A} {cA : ClassId} (harr : Cond.arrayClass (newarray.typeOf atype) ∈ Ts) (hty : newarray.typeOf atype = ty) (ht : (tyL g)[t0]? = some (cA, ty)) (hpr : ∀ C, ty ≠ .object C) (ha : ∀ cA : ClassId, vp_cell cA a0 = arrV cA N' (fun _ => defaultValue ty)) (hn : ¬ n < 0) (hN : n.toNatClampNeg = N') (hbytes : N' * componentBytes ty ≤ 536870912) (hcells : kc + 1 ≤ R.cells) (hslots : ks + N' ≤ R.slots) (hdg : decode cc pc = .ok (.newarray atype, 2))
    (k : ∀ q : Nat, Z p l e R s m args below meth c Q A g nL (pc + 2) lv (.ref q :: st) (wW ++ [(q, .inl (cA, a0))]) wR (kc + 1) (ks + N')) : Z p l e R s m args below meth c Q A g nL pc lv (.int n :: st) wW wR kc ks := by
  intro H locs ls hw hl
  obtain ⟨hP, hD, hA, hS⟩ := hw
  subst hty
  refine va_newaK h.1 h.2.1 (h.2.2.2.2.1 _ harr) rfl hdg rfl hn hN hbytes hcells hslots rfl fun H1 cB e1 z1 o1 hAr hNm => ?_
  have hcB : cB = cA := by
    have h2 := (h.2.2.2.2.2.1.1.2 t0 _ ht).2
    have h3 : s.vm.findClass ("[" ++ (newarray.typeOf atype).toString) = some cA := by
      cases atype <;> exact h2
    exact Option.some.inj (hNm.symm.trans h3)
  subst hcB
  refine k H.size H1 locs ls (WD.push ⟨hP, hD, hA, hS⟩ h.2.2.2.2.2.2.1 z1 o1 ?_) hl
  show H1[H.size]? = some (vp_cell _ _)
  rw [ha]
  exact e1
end ZL
