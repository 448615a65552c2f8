/-- the law's script: where it lies, and that it is none of the cells that may be written -/
def SX (b L : Nat) (xs : Nat → Int32) (A : Nat → Prop) (U : State) (H : Heap) : Prop := va_X b L xs U H ∧ b < H.size ∧ ¬ A b
theorem SX.to {b L : Nat} {xs : Nat → Int32} {A B : Nat → Prop} {s U : State} {H0 H : Heap} {locs : List Loc} (h : SX b L xs A s H0) (hW : s.WarmedH U.vm) (hS : va_S A H0 H locs) (hBA : ∀ q, B q → A q) : SX b L xs B U H :=
  ⟨(h.1.kept (hS.2.1 b h.2.1 h.2.2)).moved hW.alike, Nat.lt_of_lt_of_le h.2.1 hS.1, fun q => h.2.2 (hBA b q)⟩
def PS (sl : List (Nat × String)) (g : Gx) (av : List Value) (sz : Nat) (wW wR : va_W) (b L : Nat) (xs : Nat → Int32) : Array Value → State → Prop := va_Pc av (fun U => U.heap.size = sz ∧ va_P g.1 vwCl (wW ++ wR) U.heap ∧ KX g U ∧ va_D (fun _ => True) (wW ++ wR) ∧ TH g sl (va_A wW sz) U U.heap ∧ SX b L xs (va_A wW sz) U U.heap)
theorem ps_blind {sl : List (Nat × String)} {g : Gx} {av : List Value} {sz : Nat} {wW wR : va_W} {b L : Nat} {xs : Nat → Int32} : FrameBlind (PS sl g av sz wW wR b L xs) := fun a U gg mk q => ⟨q.1, q.2.1, q.2.2.1, ⟨va_K.moved (u := U) (U := U.calling gg mk a) (Vm.Alike.refl U.vm) q.2.2.2.1.1, q.2.2.2.1.2.same rfl⟩, q.2.2.2.2.1, ⟨⟨vx_Zq.moved (u := U) (U := U.calling gg mk a) (Vm.Alike.refl U.vm) q.2.2.2.2.2.1.1.1, vx_Zq.moved (u := U) (U := U.calling gg mk a) (Vm.Alike.refl U.vm) q.2.2.2.2.2.1.1.2⟩, fun x hx => by obtain ⟨y, hy⟩ := q.2.2.2.2.2.1.2.1 x hx; exact ⟨y, hy.same (u := U) (U := U.calling gg mk a) rfl⟩, va_Z.moved (u := U) (U := U.calling gg mk a) (Vm.Alike.refl U.vm) q.2.2.2.2.2.1.2.2.1, va_T.moved (u := U) (U := U.calling gg mk a) (Vm.Alike.refl U.vm) q.2.2.2.2.2.1.2.2.2⟩, ⟨va_X.moved (u := U) (U := U.calling gg mk a) (Vm.Alike.refl U.vm) q.2.2.2.2.2.2.1, q.2.2.2.2.2.2.2.1, q.2.2.2.2.2.2.2.2⟩⟩
theorem s_open_i {l : Launch} {y : MethodName} {ws ws' : List Cond} {rm : Room} {cc : ByteArray} {maxL : Nat} {ret : FieldType} {av : List Value} {sz : Nat} {wW wR : va_W} {g : Gx} {S : Type} {post : Int32 → S → Prop} {w1 : S → va_W} {mc ms : Nat} {own : String} {sl : List (Nat × String)} {b L : Nat} {xs : Nat → Int32}  (hy : plainName y.cls = true) (hw : ws = Cond.code y cc maxL (some ret) :: ws') (hown : y.cls = own) (hlen : (lg_sl av).length ≤ maxL)
    (body : ∀ (p : Program) (e : Env) (s : State) (m : MethodId) (args : Array Value) (below : List Frame) (meth : Method) (c : Code) (Q : State → Prop), CX p s m args meth c (va_A wW s.heap.size) g maxL cc ws own → TH g sl (va_A wW s.heap.size) s s.heap → SX b L xs (va_A wW s.heap.size) s s.heap → (∀ (pc : Nat) (lv : List (Nat × Value)) (v : Int32) (u : S) (vW vR : va_W) (kc ks : Nat), decode cc pc = .ok (.ireturn, 1) → narrow ret (.int v) = .int v → post v u → w1 u = vW → kc ≤ mc → ks ≤ ms → Z p l e rm s m args below meth c Q (va_A wW s.heap.size) g maxL pc lv [.int v] vW vR kc ks) → Z p l e rm s m args below meth c Q (va_A wW s.heap.size) g maxL 0 (lv_args 0 av) [] wW wR 0 0) :
    Met l y ws rm (PS sl g av sz wW wR b L xs) (va_Qi post (BZ g wW sz w1) (va_A wW sz)) mc ms (va_A wW sz) := by
  refine Met.ofW (cc := cc) (maxL := maxL) (ret := (some ret)) hy hw ?_
  intro p e s m args below meth c s₁ B hml hv
  obtain ⟨rfl, hsz, hP, hK, hD, hT, hSx⟩ := hv
  subst hsz
  have hC : CX p s m av.toArray meth c (va_A wW s.heap.size) g maxL cc ws own := ⟨B.exec, B.bytes, hml, by rw [← hown]; exact findClass_of_methodNamed B.named, atoms_spec (ws := ws) B.pre, hK, fun q h => Or.inr h, B.notSynchronized⟩
  have hl := lv_entry av (n := maxL) hlen
  rw [lg_entry_eq]
  refine body p e s m _ below meth c _ hC hT hSx ?_ s.heap [] _ ⟨hP, hD, fun k q hk => va_A.in hk, va_S.rf⟩ hl
  · intro pc lv v u vW vR kc ks hdg hnr hp hu hk1 hk2 H locs ls hw9 hl9
    subst hu
    have hPw : va_P g.1 vwCl (w1 u) H := fun k q hq => hw9.1 k q (by rw [List.getElem?_append_left (List.getElem?_eq_some_iff.mp hq).1]; exact hq)
    have hDw : va_D (va_A wW s.heap.size) (w1 u) := ⟨fun i j x y hi hj => hw9.2.1.1 i j x y (by rw [List.getElem?_append_left (List.getElem?_eq_some_iff.mp hi).1]; exact hi) (by rw [List.getElem?_append_left (List.getElem?_eq_some_iff.mp hj).1]; exact hj), hw9.2.2.1⟩
    refine W.widen hk1 hk2 ?_
    exact W.zret hC.1 hC.2.1 B.returns hnr (fun t ht hW => ⟨⟨v, u, rfl, hp, by rw [ht]; exact hPw, hDw⟩, hw9.2.2.2.F ht⟩) hw9.2.2.2.2.2 hdg B.notSynchronized
theorem s_open_r {l : Launch} {y : MethodName} {ws ws' : List Cond} {rm : Room} {cc : ByteArray} {maxL : Nat} {ret : FieldType} {av : List Value} {sz : Nat} {wW wR : va_W} {g : Gx} {S : Type} {post : S → Prop} {ad : S → Nat} {w1 : S → va_W} {mc ms : Nat} {own : String} {sl : List (Nat × String)} {b L : Nat} {xs : Nat → Int32} (hrt : (∃ n, ret = .object n) ∨ ∃ t, ret = .array t) (hy : plainName y.cls = true) (hw : ws = Cond.code y cc maxL (some ret) :: ws') (hown : y.cls = own) (hlen : (lg_sl av).length ≤ maxL)
    (body : ∀ (p : Program) (e : Env) (s : State) (m : MethodId) (args : Array Value) (below : List Frame) (meth : Method) (c : Code) (Q : State → Prop), CX p s m args meth c (va_A wW s.heap.size) g maxL cc ws own → TH g sl (va_A wW s.heap.size) s s.heap → SX b L xs (va_A wW s.heap.size) s s.heap → (∀ (pc : Nat) (lv : List (Nat × Value)) (u : S) (vW vR : va_W) (kc ks : Nat), decode cc pc = .ok (.areturn, 1) → post u → w1 u = vW → kc ≤ mc → ks ≤ ms → Z p l e rm s m args below meth c Q (va_A wW s.heap.size) g maxL pc lv [.ref (ad u)] vW vR kc ks) → Z p l e rm s m args below meth c Q (va_A wW s.heap.size) g maxL 0 (lv_args 0 av) [] wW wR 0 0) :
    Met l y ws rm (PS sl g av sz wW wR b L xs) (va_Qr post (BZr g wW sz w1 ad) (va_A wW sz)) mc ms (va_A wW sz) := by
  refine Met.ofW (cc := cc) (maxL := maxL) (ret := (some ret)) hy hw ?_
  intro p e s m args below meth c s₁ B hml hv
  obtain ⟨rfl, hsz, hP, hK, hD, hT, hSx⟩ := hv
  subst hsz
  have hC : CX p s m av.toArray meth c (va_A wW s.heap.size) g maxL cc ws own := ⟨B.exec, B.bytes, hml, by rw [← hown]; exact findClass_of_methodNamed B.named, atoms_spec (ws := ws) B.pre, hK, fun q h => Or.inr h, B.notSynchronized⟩
  have hl := lv_entry av (n := maxL) hlen
  rw [lg_entry_eq]
  refine body p e s m _ below meth c _ hC hT hSx ?_ s.heap [] _ ⟨hP, hD, fun k q hk => va_A.in hk, va_S.rf⟩ hl
  · intro pc lv u vW vR kc ks hdg hp hu hk1 hk2 H locs ls hw9 hl9
    subst hu
    have hPw : va_P g.1 vwCl (w1 u) H := fun k q hq => hw9.1 k q (by rw [List.getElem?_append_left (List.getElem?_eq_some_iff.mp hq).1]; exact hq)
    have hDw : va_D (va_A wW s.heap.size) (w1 u) := ⟨fun i j x y hi hj => hw9.2.1.1 i j x y (by rw [List.getElem?_append_left (List.getElem?_eq_some_iff.mp hi).1]; exact hi) (by rw [List.getElem?_append_left (List.getElem?_eq_some_iff.mp hj).1]; exact hj), hw9.2.2.1⟩
    refine W.widen hk1 hk2 ?_
    exact W.aret hC.1 hC.2.1 B.returns hrt (Or.inr ⟨_, rfl⟩) (fun t ht hW => ⟨⟨u, ad u, rfl, hp, rfl, by rw [ht]; exact hPw, hDw⟩, hw9.2.2.2.F ht⟩) hw9.2.2.2.2.2 hdg B.notSynchronized
section ZS
variable {p : Program} {l : Launch} {e : Env} {R : Room} {s : State} {m : MethodId} {args : Array Value} {below : List Frame} {meth : Method} {c : Code} {Q : State → Prop} {A : Nat → Prop} {g : Gx} {nL : Nat} {cc : ByteArray} {Ts : List Cond} {own : String} {pc : Nat} {lv : List (Nat × Value)} {st : List Value} {wW wR : va_W} {kc ks : Nat}
theorem s_Si (h : CX p s m args meth c A g nL cc Ts own) {y : MethodName} {bytes : ByteArray} {maxL : Nat} {ret : Option FieldType} {ws : List Cond} {rm : Room} {mc ms n index : Nat} {Y cW : va_W} {As : List Value} {S : Type} {w1 wN : S → va_W} {post : Int32 → S → Prop} {sl sl0 : List (Nat × String)} {b L : Nat} {xs : Nat → Int32} (hT : TH g sl0 A s s.heap) (hSx : SX b L xs A s s.heap) (hsl : ∀ q ∈ sl, q ∈ sl0) (hM : ∀ sz, Met l y ws rm (PS sl g As sz cW [] b L xs) (va_Qi post (BZ g cW sz w1) (va_A cW sz)) mc ms (va_A cW sz)) (cw : (CallB R s args own index y bytes maxL ret ws rm mc ms n ∧ (Cond.static y).before args s = true)) (hn : As.length = n) (hY : wW = Y ++ cW) {st0 : List Value} (hst : st0 = As.reverse ++ st) (hcat : (st.map fun v => v.category).sum ≤ 8) (hroom : kc + mc ≤ R.cells ∧ ks + ms ≤ R.slots) (hN : ∀ u, Y ++ w1 u = wN u) (hdg : decode cc pc = .ok (.invokestatic index, 3))
    (kk : ∀ (r : Int32) (u : S), post r u → Z p l e R s m args below meth c Q A g nL (pc + 3) lv (.int r :: st) (wN u) [] (kc + mc) (ks + ms)) : Z p l e R s m args below meth c Q A g nL pc lv st0 wW [] kc ks := by
  intro H locs ls hw hl
  subst hst
  subst hY
  have hsub := hw.suf
  have hA1 := hw.sufA h.2.2.2.2.2.2.1
  refine va_calli (A1 := va_A cW H.size) (va_runS (As := As) (rest := st) ⟨h.1, h.2.1, h.2.2.1, h.2.2.2.1, h.ts⟩ (hM H.size) cw ⟨ps_blind, fun U hU hW => ⟨rfl, by rw [hU], by rw [hU]; exact hsub.1, h.KN.warm hW, hsub.2, by rw [hU]; exact hT.to hW hw.2.2.2 hA1 sl hsl, by rw [hU]; exact hSx.to hW hw.2.2.2 hA1⟩⟩ rfl hn hl.1 rfl (lv_room hcat) hdg hroom) hw.2.2.2 (fun q _ hq => hA1 q hq) hA1 (fun r u t H1 locs1 ht hvm hp hB hz hk hS => ?_)
  obtain ⟨hP1, hD1⟩ := hB
  rw [ht] at hP1
  exact kk r u hp H1 locs1 ls (hN u ▸ hw.sufBack h.2.2.2.2.2.2.1 hk hP1 hD1 hS) hl
theorem s_Sr (h : CX p s m args meth c A g nL cc Ts own) {y : MethodName} {bytes : ByteArray} {maxL : Nat} {ret : Option FieldType} {ws : List Cond} {rm : Room} {mc ms n index : Nat} {Y cW : va_W} {As : List Value} {S : Type} {w1 wN : S → va_W} {post : S → Prop} {ad : S → Nat} {sl sl0 : List (Nat × String)} {b L : Nat} {xs : Nat → Int32} (hT : TH g sl0 A s s.heap) (hSx : SX b L xs A s s.heap) (hsl : ∀ q ∈ sl, q ∈ sl0) (hM : ∀ sz, Met l y ws rm (PS sl g As sz cW [] b L xs) (va_Qr post (BZr g cW sz w1 ad) (va_A cW sz)) mc ms (va_A cW sz)) (cw : (CallB R s args own index y bytes maxL ret ws rm mc ms n ∧ (Cond.static y).before args s = true)) (hn : As.length = n) (hY : wW = Y ++ cW) {st0 : List Value} (hst : st0 = As.reverse ++ st) (hcat : (st.map fun v => v.category).sum ≤ 8) (hroom : kc + mc ≤ R.cells ∧ ks + ms ≤ R.slots) (hN : ∀ u, Y ++ w1 u = wN u) (hdg : decode cc pc = .ok (.invokestatic index, 3))
    (kk : ∀ (u : S), post u → Z p l e R s m args below meth c Q A g nL (pc + 3) lv (.ref (ad u) :: st) (wN u) [] (kc + mc) (ks + ms)) : Z p l e R s m args below meth c Q A g nL pc lv st0 wW [] kc ks := by
  intro H locs ls hw hl
  subst hst
  subst hY
  have hsub := hw.suf
  have hA1 := hw.sufA h.2.2.2.2.2.2.1
  refine va_callr (A1 := va_A cW H.size) (va_runS (As := As) (rest := st) ⟨h.1, h.2.1, h.2.2.1, h.2.2.2.1, h.ts⟩ (hM H.size) cw ⟨ps_blind, fun U hU hW => ⟨rfl, by rw [hU], by rw [hU]; exact hsub.1, h.KN.warm hW, hsub.2, by rw [hU]; exact hT.to hW hw.2.2.2 hA1 sl hsl, by rw [hU]; exact hSx.to hW hw.2.2.2 hA1⟩⟩ rfl hn hl.1 rfl (lv_room hcat) hdg hroom) hw.2.2.2 (fun q _ hq => hA1 q hq) hA1 (fun u aq t H1 locs1 ht hvm hp hB hz hk hS => ?_)
  obtain ⟨ha, hP1, hD1⟩ := hB
  subst ha
  rw [ht] at hP1
  exact kk u hp H1 locs1 ls (hN u ▸ hw.sufBack h.2.2.2.2.2.2.1 hk hP1 hD1 hS) hl
theorem z_ifnonnull (h : CX p s m args meth c A g nL cc Ts own) {x : Nat} {off : Int} {tgt : Nat} (hdg : decode cc pc = .ok (.ifnonnull off, 3)) (ht : (pc : Int) + off = (tgt : Int)) (k : Z p l e R s m args below meth c Q A g nL tgt lv st wW wR kc ks) : Z p l e R s m args below meth c Q A g nL pc lv (.ref x :: st) wW wR kc ks := fun H locs ls hw hl => lv_ifnonnull h.1 h.2.1 hdg ht (k H locs ls hw hl)
end ZS
