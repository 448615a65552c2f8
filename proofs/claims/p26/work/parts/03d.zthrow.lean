/-- what is thrown, and the world then -/
def XW {S : Type} (pe : String → S → Prop) (g : Gx) (wW : va_W) (sz : Nat) (w1 : S → va_W) : String → State → State → Prop := vx_X (S := S) (fun _ => True) (fun E u t => pe E u ∧ va_P g.1 vwCl (w1 u) t.heap ∧ va_D (va_A wW sz) (w1 u)) (va_A wW sz)
theorem w_open_i {l : Launch} {y : MethodName} {ws ws' : List Cond} {rm : Room} {cc : ByteArray} {maxL : Nat} {ret : FieldType} {av : List Value} {sz : Nat} {wW : va_W} {g : Gx} {S : Type} {post : Int32 → S → Prop} {w1 : S → va_W} {mc ms : Nat} {own : String} {sl : List (Nat × String)} {pe : String → S → Prop} (hy : plainName y.cls = true) (hw : ws = Cond.code y cc maxL (some ret) :: ws') (hown : y.cls = own) (hlen : (lg_sl av).length ≤ maxL) (hlf : l.stackTraces = false) (hsown : RX3 = own)
    (body : ∀ (p : Program) (e : Env) (s : State) (m : MethodId) (args : Array Value) (below : List Frame) (meth : Method) (c : Code) (Q : State → Prop), CX p s m args meth c (va_A wW s.heap.size) g maxL cc ws own → TH g sl (va_A wW s.heap.size) s s.heap → (∀ (pc : Nat) (lv : List (Nat × Value)) (v : Int32) (u : S) (vW vR : va_W) (kc ks : Nat), decode cc pc = .ok (.ireturn, 1) → narrow ret (.int v) = .int v → post v u → w1 u = vW → kc ≤ mc → ks ≤ ms → Z p l e rm s m args below meth c Q (va_A wW s.heap.size) g maxL pc lv [.int v] vW vR kc ks) →
      (∀ (E : String) (pc : Nat) (lv : List (Nat × Value)) (st : List Value) (u : S) (vW vR : va_W) (kc ks : Nat), pe E u → w1 u = vW → kc ≤ mc → ks ≤ ms → ZX p l e rm s m args below meth c Q (va_A wW s.heap.size) g maxL E pc lv st vW vR kc ks) →
      (∀ (pc : Nat) (lv : List (Nat × Value)) (st : List Value) (u : S) (vW vR : va_W) (kc ks : Nat) (cls text : String) (names : List String) (ik is ic : Nat), Bundle.fit cls = true → (∀ n ∈ names, Bundle.fit n = true) → Cond.classLink own ik cls ∈ ws → Cond.initialized cls ∈ ws → (is, text) ∈ sl → (∀ w ∈ (vx_atS own ic cls names).filter goodWord, w ∈ ws) → (vx_atS own ic cls names).filter (fun w => !goodWord w) = decQ.map .declares ++ [.castable cls cls] → (cls, cls) ∈ castQ → (∀ w ∈ Cond.classLink own ik cls :: Cond.initialized cls :: vx_atS own ic cls names, vx_ot w = true) →
        decode cc pc = .ok (.new ik, 3) → decode cc (pc + 3) = .ok (.dup, 1) → decode cc (pc + 4) = .ok (.ldc is, 2) → decode cc (pc + 6) = .ok (.invokespecial ic, 3) → decode cc (pc + 9) = .ok (.athrow, 1) → names.length + 3 < rm.frames → (st.map fun v => v.category).sum + (13 * (names.length + 1) + 43) ≤ rm.locals → kc + 1 ≤ rm.cells → ks + 6 ≤ rm.slots → pe cls u → w1 u = vW → kc + 1 ≤ mc → ks + 6 ≤ ms → Z p l e rm s m args below meth c Q (va_A wW s.heap.size) g maxL pc lv st vW vR kc ks) →
      Z p l e rm s m args below meth c Q (va_A wW s.heap.size) g maxL 0 (lv_args 0 av) [] wW [] 0 0) :
    vx_Met l y ws rm (PX sl g av sz wW []) (va_Qi post (BZ g wW sz w1) (va_A wW sz)) (XW pe g wW sz w1) mc ms (va_A wW sz) := by
  refine vx_ofW (cc := cc) (maxL := maxL) (ret := (some ret)) hy hw ?_
  intro p e s m args below meth c s₁ B hml hnt hv
  obtain ⟨rfl, hsz, hP, hK, hD, hT⟩ := hv
  subst hsz
  have hC : CX p s m av.toArray meth c (va_A wW s.heap.size) g maxL cc ws own := ⟨B.exec, B.bytes, hml, by rw [← hown]; exact findClass_of_methodNamed B.named, atoms_spec (ws := ws) B.pre, hK, fun q h => Or.inr h, B.notSynchronized⟩
  have hl := lv_entry av (n := maxL) hlen
  rw [lg_entry_eq]
  refine body p e s m _ below meth c _ hC hT ?_ ?_ ?_ s.heap [] _ ⟨hP, hD, fun k q hk => va_A.in hk, va_S.rf⟩ hl
  · intro pc lv v u vW vR kc ks hdg hnr hp hu hk1 hk2 H locs ls hw9 hl9
    subst hu
    have hPw : va_P g.1 vwCl (w1 u) H := fun k q hq => hw9.1 k q (by rw [List.getElem?_append_left (List.getElem?_eq_some_iff.mp hq).1]; exact hq)
    have hDw : va_D (va_A wW s.heap.size) (w1 u) := ⟨fun i j x y hi hj => hw9.2.1.1 i j x y (by rw [List.getElem?_append_left (List.getElem?_eq_some_iff.mp hi).1]; exact hi) (by rw [List.getElem?_append_left (List.getElem?_eq_some_iff.mp hj).1]; exact hj), hw9.2.2.1⟩
    refine W.widen hk1 hk2 ?_
    exact vx_ret (W.zret hC.1 hC.2.1 B.returns hnr (fun t ht hW => ⟨⟨v, u, rfl, hp, by rw [ht]; exact hPw, hDw⟩, hw9.2.2.2.F ht⟩) hw9.2.2.2.2.2 hdg B.notSynchronized)
  · intro E pc lv st u vW vR kc ks hpe hu hk1 hk2 H locs ls q ce hw9 hl9 hce hcv hcl
    subst hu
    have hPw : va_P g.1 vwCl (w1 u) H := fun k q hq => hw9.1 k q (by rw [List.getElem?_append_left (List.getElem?_eq_some_iff.mp hq).1]; exact hq)
    have hDw : va_D (va_A wW s.heap.size) (w1 u) := ⟨fun i j x y hi hj => hw9.2.1.1 i j x y (by rw [List.getElem?_append_left (List.getElem?_eq_some_iff.mp hi).1]; exact hi) (by rw [List.getElem?_append_left (List.getElem?_eq_some_iff.mp hj).1]; exact hj), hw9.2.2.1⟩
    exact vx_out (fun x hx => (hnt x hx).elim) B.notSynchronized hce hcv hcl (fun t ht hvm => ⟨u, trivial, ⟨hpe, by rw [ht]; exact hPw, hDw⟩, hw9.2.2.2.F ht⟩) (fun z hz => hw9.2.2.2.2.2 z hz) hk1 hk2
  · intro pc lv st u vW vR kc ks cls text names ik is ic hfc hfn hk hini hsl hat hng hcq hgood d0 d3 d4 d6 d9 hRf hRl hRc hRs hpe hu hk1 hk2 H locs ls hw9 hl9
    subst hu
    have hPw : va_P g.1 vwCl (w1 u) H := fun k q hq => hw9.1 k q (by rw [List.getElem?_append_left (List.getElem?_eq_some_iff.mp hq).1]; exact hq)
    have hDw : va_D (va_A wW s.heap.size) (w1 u) := ⟨fun i j x y hi hj => hw9.2.1.1 i j x y (by rw [List.getElem?_append_left (List.getElem?_eq_some_iff.mp hi).1]; exact hi) (by rw [List.getElem?_append_left (List.getElem?_eq_some_iff.mp hj).1]; exact hj), hw9.2.2.1⟩
    obtain ⟨sa, hsa⟩ := hT.2.1 (is, text) hsl
    exact vx_throwS (A := (va_A wW s.heap.size)) hC.1 hC.2.1 hlf hC.2.2.2.1 hfc hfn (hC.ts _ hk) (hC.ts _ hini) (by rw [show RX3 = own from hsown] at hsa; exact hsa) (vx_hat (B := decQ.map .declares ++ [.castable cls cls]) (fun w hw => hC.ts w (hat w hw)) (fun w hw => by rw [hng] at hw; exact hw) (fun w hw => (List.mem_append.mp hw).elim (fun q => by obtain ⟨y, hy, rfl⟩ := List.mem_map.mp q; exact va_Nw.use (A := av.toArray) rfl (hC.KN.2.2.2.2.1 _ hy)) (fun q => by rw [List.mem_singleton.mp q]; exact va_Nw.use (A := av.toArray) rfl (hC.KN.2.2.1 _ hcq)))) hgood hT.1.1 hT.1.2 hw9.2.2.2 (hl9.1.trans hml.symm) d0 d3 d4 d6 d9 (fun x hx => (hnt x hx).elim) hRf hRl hRc hRs B.notSynchronized (fun t hvm hz hq => ⟨u, trivial, ⟨hpe, hPw.kept (fun k x hx => hq x.1 ((hPw k x hx).lt)), hDw⟩, ⟨Nat.le_trans hw9.2.2.2.1 hz, fun q h1 h2 => (hq q (Nat.lt_of_lt_of_le h1 hw9.2.2.2.1)).trans (hw9.2.2.2.2.1 q h1 h2)⟩⟩) (fun z hz => hw9.2.2.2.2.2 z hz) hk1 hk2
section ZW
variable {p : Program} {l : Launch} {e : Env} {R : Room} {s : State} {m : MethodId} {args : Array Value} {below : List Frame} {meth : Method} {c : Code} {Q : State → Prop} {A : Nat → Prop} {g : Gx} {nL : Nat} {cc : ByteArray} {Ts : List Cond} {own : String} {pc : Nat} {lv : List (Nat × Value)} {st : List Value} {wW wR : va_W} {kc ks : Nat}
theorem w_Yi (h : CX p s m args meth c A g nL cc Ts own) {y : MethodName} {C : String} {bytes : ByteArray} {maxL : Nat} {ret : Option FieldType} {ws : List Cond} {rm : Room} {mc ms n index : Nat} {Y cW : va_W} {b : Nat} {As : List Value} {S : Type} {w1 wN : S → va_W} {post : Int32 → S → Prop} {pe : String → S → Prop} {sl sl0 : List (Nat × String)} (hT : TH g sl0 A s s.heap) (hsl : ∀ q ∈ sl, q ∈ sl0) (hM : ∀ sz, vx_Met l y ws rm (PX sl g (.ref b :: As) sz cW []) (va_Qi post (BZ g cW sz w1) (va_A cW sz)) (XW pe g cW sz w1) mc ms (va_A cW sz)) (cw : CallW R s args own C index y bytes maxL ret ws rm mc ms n) (hn : As.length = n) (hY : wW = Y ++ cW) (q0 : Nat) {ci : Nat} {fs : List Value} {qC : vw_C} (he : (wW ++ [])[q0]? = some (b, .inr (ci, fs))) (hc : vwCl[ci]? = some qC) (hqC : qC.1 = C) {st0 : List Value} (hst : st0 = As.reverse ++ .ref b :: st) (hcat : (st.map fun v => v.category).sum ≤ 8) (hroom : kc + mc ≤ R.cells ∧ ks + ms ≤ R.slots) (hN : ∀ u, Y ++ w1 u = wN u) (hdg : decode cc pc = .ok (.invokevirtual index, 3)) (kx : ∀ E u, pe E u → ZX p l e R s m args below meth c Q A g nL E pc lv st (wN u) [] (kc + mc) (ks + ms))
    (kk : ∀ (r : Int32) (u : S), post r u → Z p l e R s m args below meth c Q A g nL (pc + 3) lv (.int r :: st) (wN u) [] (kc + mc) (ks + ms)) : Z p l e R s m args below meth c Q A g nL pc lv st0 wW [] kc ks := by
  intro H locs ls hw hl
  subst hst
  subst hY
  have hsub := hw.suf
  have hA1 := hw.sufA h.2.2.2.2.2.2.1
  refine vx_calli (A1 := va_A cW H.size) (vx_runV (As := As) (rest := st) ⟨h.1, h.2.1, h.2.2.1, h.2.2.2.1, h.ts⟩ (hM H.size) cw ⟨px_blind, by rw [← hqC]; exact va_recv h.K hw.1 hc he, fun U hU hW => ⟨rfl, by rw [hU], by rw [hU]; exact hsub.1, h.KN.warm hW, hsub.2, by rw [hU]; exact hT.to hW hw.2.2.2 hA1 sl hsl⟩⟩ rfl hn hl.1 rfl (lv_room hcat) hdg hroom) hw.2.2.2 (fun q _ hq => hA1 q hq) hA1 (fun q _ hq => hA1 q hq) (fun E ce q9 u t H1 locs1 ht hvm hp hB hz hk hS hce hcv hcl => ?_) (fun r u t H1 locs1 ht hvm hp hB hz hk hS => ?_)
  · obtain ⟨hpe, hP1, hD1⟩ := hB
    rw [ht] at hP1
    exact kx E u hpe H1 locs1 ls q9 ce (hN u ▸ hw.sufBack h.2.2.2.2.2.2.1 hk hP1 hD1 hS) hl hce hcv hcl
  · obtain ⟨hP1, hD1⟩ := hB
    rw [ht] at hP1
    exact kk r u hp H1 locs1 ls (hN u ▸ hw.sufBack h.2.2.2.2.2.2.1 hk hP1 hD1 hS) hl
end ZW
