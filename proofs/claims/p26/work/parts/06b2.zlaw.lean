section ZD
variable {p : Program} {l : Launch} {e : Env} {R : Room} {s : State} {m : MethodId} {args : Array Value} {below : List Frame} {meth : Method} {c : Code} {Q : State → Prop} {A : Nat → Prop} {g : Gx} {nL : Nat} {cc : ByteArray} {Ts : List Cond} {own : String} {pc : Nat} {lv : List (Nat × Value)} {st : List Value} {wW wR : va_W} {kc ks : Nat}
theorem z_dconst0 (h : CX p s m args meth c A g nL cc Ts own) (hdg : decode cc pc = .ok (.dconst 0, 1)) (k : Z p l e R s m args below meth c Q A g nL (pc + 1) lv (.double FP.dconst0 :: st) wW wR kc ks) : Z p l e R s m args below meth c Q A g nL pc lv st wW wR kc ks := fun H locs ls hw hl => lv_dconst0 h.1 h.2.1 hdg (k H locs ls hw hl)
theorem z_ddiv (h : CX p s m args meth c A g nL cc Ts own) {x y : UInt64} (hdg : decode cc pc = .ok (.ddiv, 1)) (hne : vf_n64 (FP.ddiv x y)) (k : Z p l e R s m args below meth c Q A g nL (pc + 1) lv (.double (FP.ddiv x y) :: st) wW wR kc ks) : Z p l e R s m args below meth c Q A g nL pc lv (.double y :: .double x :: st) wW wR kc ks := fun H locs ls hw hl => lv_ddiv h.1 h.2.1 hdg hne (k H locs ls hw hl)
theorem z_topd {x y : UInt64} (e9 : x = y) (k : Z p l e R s m args below meth c Q A g nL pc lv (.double y :: st) wW wR kc ks) : Z p l e R s m args below meth c Q A g nL pc lv (.double x :: st) wW wR kc ks := e9 ▸ k
theorem z_sld (h : CX p s m args meth c A g nL cc Ts own) {b L : Nat} {xs : Nat → Int32} (hX : va_X b L xs s s.heap) (hbl : b < s.heap.size) (hbA : ¬ A b) {i : Int32} (hin : vp_in i L) (hdg : decode cc pc = .ok (.iaload, 1)) {v : Int32} (hv : xs i.toNatClampNeg = v) (k : Z p l e R s m args below meth c Q A g nL (pc + 1) lv (.int v :: st) wW wR kc ks) : Z p l e R s m args below meth c Q A g nL pc lv (.int i :: .ref b :: st) wW wR kc ks := by
  subst hv
  exact fun H locs ls hw hl => va_sld h.1 h.2.1 hX hbl hbA hw.2.2.2 hin hdg (k H locs ls hw hl)
theorem z_slen (h : CX p s m args meth c A g nL cc Ts own) {b L : Nat} {xs : Nat → Int32} (hX : va_X b L xs s s.heap) (hbl : b < s.heap.size) (hbA : ¬ A b) (hdg : decode cc pc = .ok (.arraylength, 1)) (k : Z p l e R s m args below meth c Q A g nL (pc + 1) lv (.int (nI L) :: st) wW wR kc ks) : Z p l e R s m args below meth c Q A g nL pc lv (.ref b :: st) wW wR kc ks := fun H locs ls hw hl => va_slen h.1 h.2.1 hX hbl hbA hw.2.2.2 hdg (k H locs ls hw hl)
theorem z_Vd (h : CX p s m args meth c A g nL cc Ts own) {y : MethodName} {C : String} {bytes : ByteArray} {maxL : Nat} {ret : Option FieldType} {ws : List Cond} {rm : Room} {mc ms n index : Nat} {cW cR : va_W} {b : Nat} {As : List Value} {S : Type} {w1 wN : S → va_W} {post : UInt64 → S → Prop} (hM : ∀ sz, Met l y ws rm (PZ g (.ref b :: As) sz cW cR) (va_Qd post (BZ g cW sz w1) (va_A cW sz)) mc ms (va_A cW sz)) (cw : CallW R s args own C index y bytes maxL ret ws rm mc ms n) (hn : As.length = n) (js jr : List Nat) (hs : (js ++ jr).map (fun i => (wW ++ wR)[i]?) = (cW ++ cR).map some) (hjs : js.map (fun i => wW[i]?) = cW.map some) (hnd : va_nd (js ++ jr) = true) (hndj : va_nd js = true) (q0 : Nat) {ci : Nat} {fs : List Value} {qC : vw_C} (he : (wW ++ wR)[q0]? = some (b, .inr (ci, fs))) (hc : vwCl[ci]? = some qC) (hqC : qC.1 = C) {st0 : List Value} (hst : st0 = As.reverse ++ .ref b :: st) (hcat : (st.map fun v => v.category).sum ≤ 8) (hroom : kc + mc ≤ R.cells ∧ ks + ms ≤ R.slots) (hlen : ∀ u, js.length ≤ (w1 u).length) (hN : ∀ u, putL wW js (w1 u) = wN u) (hdg : decode cc pc = .ok (.invokevirtual index, 3))
    (kk : ∀ (r : UInt64) (u : S), post r u → Z p l e R s m args below meth c Q A g nL (pc + 3) lv (.double r :: st) (wN u) wR (kc + mc) (ks + ms)) : Z p l e R s m args below meth c Q A g nL pc lv st0 wW wR kc ks := by
  intro H locs ls hw hl
  subst hst
  have hsub := hw.sub (js ++ jr) hs hnd
  have hA1 := hw.cA h.2.2.2.2.2.2.1 hjs
  refine va_calld (A1 := va_A cW H.size) (va_runV (As := As) (rest := st) ⟨h.1, h.2.1, h.2.2.1, h.2.2.2.1, h.ts⟩ (hM H.size) cw ⟨pz_blind, by rw [← hqC]; exact va_recv h.K hw.1 hc he, fun U hU hW => ⟨rfl, by rw [hU], by rw [hU]; exact hsub.1, h.KN.warm hW, hsub.2⟩⟩ rfl hn hl.1 rfl (lv_room hcat) hdg hroom) hw.2.2.2 (fun q _ hq => hA1 q hq) hA1 (fun r u t H1 locs1 ht hvm hp hB hz hk hS => ?_)
  obtain ⟨hP1, hD1⟩ := hB
  rw [ht] at hP1
  have hB : _ ∧ _ := ⟨hP1, hD1⟩
  exact kk r u hp H1 locs1 ls (hN u ▸ hw.back h.2.2.2.2.2.2.1 hjs hndj (hlen u) hk hB.1 hB.2 hS) hl
theorem z_Yd (h : CX p s m args meth c A g nL cc Ts own) {y : MethodName} {C : String} {bytes : ByteArray} {maxL : Nat} {ret : Option FieldType} {ws : List Cond} {rm : Room} {mc ms n index : Nat} {Y cW : va_W} {b : Nat} {As : List Value} {S : Type} {w1 wN : S → va_W} {post : UInt64 → S → Prop}  (hM : ∀ sz, Met l y ws rm (PZ g (.ref b :: As) sz cW []) (va_Qd post (BZ g cW sz w1) (va_A cW sz)) mc ms (va_A cW sz)) (cw : CallW R s args own C index y bytes maxL ret ws rm mc ms n) (hn : As.length = n) (hY : wW = Y ++ cW) (q0 : Nat) {ci : Nat} {fs : List Value} {qC : vw_C} (he : (wW ++ [])[q0]? = some (b, .inr (ci, fs))) (hc : vwCl[ci]? = some qC) (hqC : qC.1 = C) {st0 : List Value} (hst : st0 = As.reverse ++ .ref b :: st) (hcat : (st.map fun v => v.category).sum ≤ 8) (hroom : kc + mc ≤ R.cells ∧ ks + ms ≤ R.slots) (hN : ∀ u, Y ++ w1 u = wN u) (hdg : decode cc pc = .ok (.invokevirtual index, 3)) 
    (kk : ∀ (r : UInt64) (u : S), post r u → Z p l e R s m args below meth c Q A g nL (pc + 3) lv (.double r :: st) (wN u) [] (kc + mc) (ks + ms)) : Z p l e R s m args below meth c Q A g nL pc lv st0 wW [] kc ks := by
  intro H locs ls hw hl
  subst hst
  subst hY
  have hsub := hw.suf
  have hA1 := hw.sufA h.2.2.2.2.2.2.1
  refine va_calld (A1 := va_A cW H.size) (va_runV (As := As) (rest := st) ⟨h.1, h.2.1, h.2.2.1, h.2.2.2.1, h.ts⟩ (hM H.size) cw ⟨pz_blind, by rw [← hqC]; exact va_recv h.K hw.1 hc he, fun U hU hW => ⟨rfl, by rw [hU], by rw [hU]; exact hsub.1, h.KN.warm hW, hsub.2⟩⟩ rfl hn hl.1 rfl (lv_room hcat) hdg hroom) hw.2.2.2 (fun q _ hq => hA1 q hq) hA1  (fun r u t H1 locs1 ht hvm hp hB hz hk hS => ?_)
  obtain ⟨hP1, hD1⟩ := hB
  rw [ht] at hP1
  exact kk r u hp H1 locs1 ls (hN u ▸ hw.sufBack h.2.2.2.2.2.2.1 hk hP1 hD1 hS) hl
theorem z_SWi (h : CX p s m args meth c A g nL cc Ts own) {y : MethodName} {bytes : ByteArray} {maxL : Nat} {hh : List (Nat × Nat × Nat × Nat)} {ws : List Cond} {rm : Room} {mc ms n index : Nat} {Y cW : va_W} {As : List Value} {S : Type} {w1 wN : S → va_W} {post : Int32 → S → Prop} {sl sl0 : List (Nat × String)} (hT : TH g sl0 A s s.heap) (hsl : ∀ q ∈ sl, q ∈ sl0) (hM : ∀ sz, Met l y ws rm (PX sl g As sz cW []) (va_Qi post (BZ g cW sz w1) (va_A cW sz)) mc ms (va_A cW sz)) (cw : vx_CSW R s args own index y bytes maxL (some .int) hh ws rm mc ms n) (hn : As.length = n) (hY : wW = Y ++ cW) {st0 : List Value} (hst : st0 = As.reverse ++ st) (hcat : (st.map fun v => v.category).sum ≤ 8) (hroom : kc + mc ≤ R.cells ∧ ks + ms ≤ R.slots) (hN : ∀ u, Y ++ w1 u = wN u) (hdg : decode cc pc = .ok (.invokestatic index, 3))
    (kk : ∀ (r : Int32) (u : S), post r u → Z p l e R s m args below meth c Q A g nL (pc + 3) lv (.int r :: st) (wN u) [] (kc + mc) (ks + ms)) : Z p l e R s m args below meth c Q A g nL pc lv st0 wW [] kc ks := by
  intro H locs ls hw hl
  subst hst
  subst hY
  have hsub := hw.suf
  have hA1 := hw.sufA h.2.2.2.2.2.2.1
  refine va_calli (A1 := va_A cW H.size) (vx_runSW (As := As) (rest := st) ⟨h.1, h.2.1, h.2.2.1, h.2.2.2.1, h.ts⟩ (hM H.size) cw ⟨px_blind, fun U hU hW => ⟨rfl, by rw [hU], by rw [hU]; exact hsub.1, h.KN.warm hW, hsub.2, by rw [hU]; exact hT.to hW hw.2.2.2 hA1 sl hsl⟩⟩ rfl hn hl.1 rfl (lv_room hcat) hdg hroom) hw.2.2.2 (fun q _ hq => hA1 q hq) hA1 (fun r u t H1 locs1 ht hvm hp hB hz hk hS => ?_)
  obtain ⟨hP1, hD1⟩ := hB
  rw [ht] at hP1
  exact kk r u hp H1 locs1 ls (hN u ▸ hw.sufBack h.2.2.2.2.2.2.1 hk hP1 hD1 hS) hl
end ZD
theorem z_open_d {l : Launch} {y : MethodName} {ws ws' : List Cond} {rm : Room} {cc : ByteArray} {maxL : Nat}  {av : List Value} {sz : Nat} {wW wR : va_W} {g : Gx} {S : Type} {post : UInt64 → S → Prop} {w1 : S → va_W} {mc ms : Nat} {own : String}  (hy : plainName y.cls = true) (hw : ws = Cond.code y cc maxL (some .double) :: ws') (hown : y.cls = own) (hlen : (lg_sl av).length ≤ maxL)
    (body : ∀ (p : Program) (e : Env) (s : State) (m : MethodId) (args : Array Value) (below : List Frame) (meth : Method) (c : Code) (Q : State → Prop), CX p s m args meth c (va_A wW s.heap.size) g maxL cc ws own → meth.name = y.name → (∀ (pc : Nat) (lv : List (Nat × Value)) (v : UInt64) (u : S) (vW vR : va_W) (kc ks : Nat), decode cc pc = .ok (.dreturn, 1) → post v u → w1 u = vW → kc ≤ mc → ks ≤ ms → Z p l e rm s m args below meth c Q (va_A wW s.heap.size) g maxL pc lv [.double v] vW vR kc ks) → Z p l e rm s m args below meth c Q (va_A wW s.heap.size) g maxL 0 (lv_args 0 av) [] wW wR 0 0) :
    Met l y ws rm (PZ g av sz wW wR) (va_Qd post (BZ g wW sz w1) (va_A wW sz)) mc ms (va_A wW sz) := by
  refine Met.ofW (cc := cc) (maxL := maxL) (ret := (some .double)) hy hw ?_
  intro p e s m args below meth c s₁ B hml hv
  obtain ⟨rfl, hsz, hP, hK, hD⟩ := hv
  subst hsz
  have hC : CX p s m av.toArray meth c (va_A wW s.heap.size) g maxL cc ws own := ⟨B.exec, B.bytes, hml, by rw [← hown]; exact findClass_of_methodNamed B.named, atoms_spec (ws := ws) B.pre, hK, fun q h => Or.inr h, B.notSynchronized⟩
  have hl := lv_entry av (n := maxL) hlen
  rw [lg_entry_eq]
  refine body p e s m _ below meth c _ hC (name_of_methodNamed B.named B.method).1 ?_ s.heap [] _ ⟨hP, hD, fun k q hk => va_A.in hk, va_S.rf⟩ hl
  · intro pc lv v u vW vR kc ks hdg hp hu hk1 hk2 H locs ls hw9 hl9
    subst hu
    have hPw : va_P g.1 vwCl (w1 u) H := fun k q hq => hw9.1 k q (by rw [List.getElem?_append_left (List.getElem?_eq_some_iff.mp hq).1]; exact hq)
    have hDw : va_D (va_A wW s.heap.size) (w1 u) := ⟨fun i j x y hi hj => hw9.2.1.1 i j x y (by rw [List.getElem?_append_left (List.getElem?_eq_some_iff.mp hi).1]; exact hi) (by rw [List.getElem?_append_left (List.getElem?_eq_some_iff.mp hj).1]; exact hj), hw9.2.2.1⟩
    refine W.widen hk1 hk2 ?_
    exact W.dret hC.1 hC.2.1 B.returns (fun t ht hW => ⟨⟨v, u, rfl, hp, by rw [ht]; exact hPw, hDw⟩, hw9.2.2.2.F ht⟩) hw9.2.2.2.2.2 hdg B.notSynchronized
/-- a method with an exception table of its own, that catches all -/
theorem y_open_i {l : Launch} {y : MethodName} {ws ws' : List Cond} {rm : Room} {cc : ByteArray} {maxL : Nat} {hh : List (Nat × Nat × Nat × Nat)} {av : List Value} {sz : Nat} {wW : va_W} {g : Gx} {S : Type} {post : Int32 → S → Prop} {w1 : S → va_W} {mc ms : Nat} {own : String} {sl : List (Nat × String)} (hy : plainName y.cls = true) (hw : ws = Cond.codeWith y cc maxL (some .int) hh :: ws') (hown : y.cls = own) (hlen : (lg_sl av).length ≤ maxL)
    (body : ∀ (p : Program) (e : Env) (s : State) (m : MethodId) (args : Array Value) (below : List Frame) (meth : Method) (c : Code) (Q : State → Prop), CX p s m args meth c (va_A wW s.heap.size) g maxL cc ws own → TH g sl (va_A wW s.heap.size) s s.heap → c.exceptionTable.toList = tableOf hh → (∀ (pc : Nat) (lv : List (Nat × Value)) (v : Int32) (u : S) (vW vR : va_W) (kc ks : Nat), decode cc pc = .ok (.ireturn, 1) → post v u → w1 u = vW → kc ≤ mc → ks ≤ ms → Z p l e rm s m args below meth c Q (va_A wW s.heap.size) g maxL pc lv [.int v] vW vR kc ks) → Z p l e rm s m args below meth c Q (va_A wW s.heap.size) g maxL 0 (lv_args 0 av) [] wW [] 0 0) :
    Met l y ws rm (PX sl g av sz wW []) (va_Qi post (BZ g wW sz w1) (va_A wW sz)) mc ms (va_A wW sz) := by
  refine va_MetW (cc := cc) (maxL := maxL) (ret := some .int) (hh := hh) hy hw ?_
  intro p e s m args below meth c s₁ B hml hv
  obtain ⟨rfl, hsz, hP, hK, hD, hT⟩ := hv
  subst hsz
  have hC : CX p s m av.toArray meth c (va_A wW s.heap.size) g maxL cc ws own := ⟨B.exec, B.bytes, hml, by rw [← hown]; exact findClass_of_methodNamed B.named, atoms_spec (ws := ws) B.pre, hK, fun q h => Or.inr h, B.notSynchronized⟩
  have htb := vx_table (x := y) B (atoms_spec (ws := ws) B.pre _ (by rw [hw]; exact List.mem_cons_self))
  have hl := lv_entry av (n := maxL) hlen
  rw [lg_entry_eq]
  refine body p e s m _ below meth c _ hC hT htb ?_ s.heap [] _ ⟨hP, hD, fun k q hk => va_A.in hk, va_S.rf⟩ hl
  intro pc lv v u vW vR kc ks hdg hp hu hk1 hk2 H locs ls hw9 hl9
  subst hu
  have hPw : va_P g.1 vwCl (w1 u) H := fun k q hq => hw9.1 k q (by rw [List.getElem?_append_left (List.getElem?_eq_some_iff.mp hq).1]; exact hq)
  have hDw : va_D (va_A wW s.heap.size) (w1 u) := ⟨fun i j x y hi hj => hw9.2.1.1 i j x y (by rw [List.getElem?_append_left (List.getElem?_eq_some_iff.mp hi).1]; exact hi) (by rw [List.getElem?_append_left (List.getElem?_eq_some_iff.mp hj).1]; exact hj), hw9.2.2.1⟩
  refine W.widen hk1 hk2 ?_
  exact W.zret hC.1 hC.2.1 B.returns rfl (fun t ht hW => ⟨⟨v, u, rfl, hp, by rw [ht]; exact hPw, hDw⟩, hw9.2.2.2.F ht⟩) hw9.2.2.2.2.2 hdg B.notSynchronized
