theorem BOK.set {n i : Nat} {B : Nat → Nat → Int32} {b : Nat → Int32} (h : BOK n B) (h0 : b 0 = B i 0) (h1 : b 1 = B i 1) : BOK n (updB B i b) := fun j hj => by
  have hz := h j hj
  by_cases e : j = i
  · subst e
    unfold plc knd at *
    rw [show updB B j b j = b from if_pos rfl, h0, h1]
    exact hz
  · unfold plc knd at *
    rw [show updB B i b j = B j from if_neg e]
    exact hz
theorem endB_0 (b : Nat → Int32) (x y : Int32) : endB b x y 0 = b 0 := by unfold endB; split <;> rfl
theorem endB_1 (b : Nat → Int32) (x y : Int32) : endB b x y 1 = b 1 := by unfold endB; split <;> rfl
theorem visT_1 (fm ft : Nat → Int32) (k cp : Int32) (pl : Nat) (b : Nat → Int32) (pb : Nat) (t : TS) : (visT fm ft k cp pl b pb t).1 = pb := by
  unfold visT mun unl drv
  split
  · split
    · rfl
    · split <;> rfl
  · rfl
theorem nI_z {a : Nat} (h : nI a = 0) (ha : a < 2 ^ 31) : a = 0 := by
  have h1 : (nI a).toInt = (0 : Int32).toInt := by rw [h]
  rw [nI_toInt ha] at h1
  have h2 : (0 : Int32).toInt = 0 := rfl
  omega
/-- a tour through the first i places of the route, done: the lorry and the bins -/
def mkF (fm ft : Nat → Int32) (k cp : Int32) (pl dy : Nat) (rf : Nat → Int32) (B : Nat → Nat → Int32) : Nat → TS × (Nat → Nat → Int32)
  | 0 => ((0, 0, 0, 0, 0), B)
  | i + 1 => (visT fm ft k cp pl ((mkF fm ft k cp pl dy rf B i).2 (rq rf i)) (plc (mkF fm ft k cp pl dy rf B i).2 (rq rf i)) (mkF fm ft k cp pl dy rf B i).1,
      updB (mkF fm ft k cp pl dy rf B i).2 (rq rf i) (endB ((mkF fm ft k cp pl dy rf B i).2 (rq rf i)) (visK fm ft k cp pl ((mkF fm ft k cp pl dy rf B i).2 (rq rf i)) (plc (mkF fm ft k cp pl dy rf B i).2 (rq rf i)) (mkF fm ft k cp pl dy rf B i).1) (nI dy)))
/-- a tour that is only reckoned -/
def wkF (fm ft : Nat → Int32) (k cp : Int32) (pl : Nat) (rf : Nat → Int32) (B : Nat → Nat → Int32) : Nat → TS
  | 0 => (0, 0, 0, 0, 0)
  | i + 1 => visT fm ft k cp pl (B (rq rf i)) (plc B (rq rf i)) (wkF fm ft k cp pl rf B i)
def addL (f : Nat → Int64) (i : Nat) (x : Int64) : Nat → Int64 := vp_updL f i (f i + x)
def tot4 (tf : Nat → Int64) (kd : Nat) (t : TS) : Nat → Int64 := addL (addL (addL (addL tf (kd * 4 + 0) t.2.2.2.2.toInt64) (kd * 4 + 1) t.2.2.2.1.toInt64) (kd * 4 + 2) t.2.2.1.toInt64) (kd * 4 + 3) 1
theorem add4 (a b : Nat) : nI (a * 4) + nI b = nI (a * 4 + b) := by rw [nI_add]
theorem mul4 (a : Nat) : nI a * 4 = nI (a * 4) := by rw [show (4 : Int32) = nI 4 from rfl, pk_mul]

theorem flR_ok {n : Nat} {B : Nat → Nat → Int32} {dy nw : Nat} {k : Int32} {rf : Nat → Int32} (hn : n ≤ 16) : ∀ i, i ≤ n → (flR B dy nw k rf i).2 ≤ i ∧ ROK (flR B dy nw k rf i).1 (flR B dy nw k rf i).2 n
  | 0, _ => ⟨Nat.le_refl _, fun j hj => absurd hj (Nat.not_lt_zero j)⟩
  | i + 1, hi => by
    have h := flR_ok (B := B) (dy := dy) (nw := nw) (k := k) (rf := rf) hn i (by omega)
    rw [flR]
    split
    · exact ⟨by have := h.1; show _ + 1 ≤ _; omega, h.2.push (by omega) hn⟩
    · exact ⟨by omega, h.2⟩
theorem ifz {α : Type} {a : Nat} {x y : α} (h : a = 0) : (if a = 0 then x else y) = x := if_pos h
theorem ifn {α : Type} {a : Nat} {x y : α} (h : ¬ a = 0) : (if a = 0 then x else y) = y := if_neg h
theorem in_X3_makeTour_X2 : ∀ w ∈ wsX20, w ∈ wsX3_makeTour := by decide +kernel
theorem in_X3_makeTour_X3 : ∀ w ∈ wsX30, w ∈ wsX3_makeTour := by decide +kernel
theorem lk_X3_makeTour_cl113 : Cond.classLink RX3 113 "RefusePlanner$Bin" ∈ wsX3_makeTour := by decide +kernel
theorem lk_X3_makeTour_cl161 : Cond.classLink RX3 161 RX2 ∈ wsX3_makeTour := by decide +kernel
theorem lk_X3_makeTour_f12 : Cond.fieldLink RX3 12 (TX3 0).1 (TX3 0).2.1 (TX3 0).2.2.1 ∈ wsX3_makeTour := by decide +kernel
theorem lk_X3_makeTour_f19 : Cond.fieldLink RX3 19 (TX3 1).1 (TX3 1).2.1 (TX3 1).2.2.1 ∈ wsX3_makeTour := by decide +kernel
theorem lk_X3_makeTour_f27 : Cond.fieldLink RX3 27 (TX3 3).1 (TX3 3).2.1 (TX3 3).2.2.1 ∈ wsX3_makeTour := by decide +kernel
theorem lk_X3_makeTour_f34 : Cond.fieldLink RX3 34 (TX3 5).1 (TX3 5).2.1 (TX3 5).2.2.1 ∈ wsX3_makeTour := by decide +kernel
theorem lk_X3_makeTour_f38 : Cond.fieldLink RX3 38 (TX3 6).1 (TX3 6).2.1 (TX3 6).2.2.1 ∈ wsX3_makeTour := by decide +kernel
theorem lk_X3_makeTour_f42 : Cond.fieldLink RX3 42 (TX3 7).1 (TX3 7).2.1 (TX3 7).2.2.1 ∈ wsX3_makeTour := by decide +kernel
theorem lk_X3_makeTour_imX2_init : Cond.instanceMethod yX2_init ∈ wsX3_makeTour := by decide +kernel
theorem lk_X3_makeTour_iniX2 : Cond.initialized RX2 ∈ wsX3_makeTour := by decide +kernel
theorem lk_X3_makeTour_iniX2_init : Cond.initialized RX2 ∈ wsX3_makeTour := by decide +kernel
theorem lk_X3_makeTour_isX2 : Cond.instantiable RX2 8 ∈ wsX3_makeTour := by decide +kernel
theorem lk_X3_makeTour_m163 : Cond.methodLink RX3 163 yX2_init ∈ wsX3_makeTour := by decide +kernel
theorem in_X3_planSize_X3 : ∀ w ∈ wsX30, w ∈ wsX3_planSize := by decide +kernel
theorem lk_X3_planSize_f38 : Cond.fieldLink RX3 38 (TX3 6).1 (TX3 6).2.1 (TX3 6).2.2.1 ∈ wsX3_planSize := by decide +kernel
theorem at_X3_total_100 : ∀ w ∈ (vx_atS RX3 100 "java/lang/IndexOutOfBoundsException" ["java/lang/RuntimeException", "java/lang/Exception"]).filter goodWord, w ∈ wsX3_total := by decide +kernel
theorem in_X3_total_X3 : ∀ w ∈ wsX30, w ∈ wsX3_total := by decide +kernel
theorem lk_X3_total_cl96 : Cond.classLink RX3 96 "java/lang/IndexOutOfBoundsException" ∈ wsX3_total := by decide +kernel
theorem lk_X3_total_f27 : Cond.fieldLink RX3 27 (TX3 3).1 (TX3 3).2.1 (TX3 3).2.2.1 ∈ wsX3_total := by decide +kernel
theorem lk_X3_total_in96 : Cond.initialized "java/lang/IndexOutOfBoundsException" ∈ wsX3_total := by decide +kernel
theorem in_X3_collect_X3 : ∀ w ∈ wsX30, w ∈ wsX3_collect := by decide +kernel
theorem lk_X3_collect_f38 : Cond.fieldLink RX3 38 (TX3 6).1 (TX3 6).2.1 (TX3 6).2.2.1 ∈ wsX3_collect := by decide +kernel
abbrev rmX3_makeTour : Room := { frames := 4, cells := 1, slots := 8, locals := 92 }
set_option maxHeartbeats 4000000 in
set_option maxRecDepth 100000 in
theorem m_X3_makeTour (l : Launch) (g : Gx) (a : Nat → Nat) (ft : Nat → Int32) (tf : Nat → Int64) (fm : Nat → Int32) (pl : Nat) (hf : Nat → Int32) (rf : Nat → Int32) (wf : Nat → Int64) (sn : Nat) (dy : Nat) (mc : Int32) (ed : Nat) (n : Nat) (cap : Nat) (ad : Nat → Nat) (B : Nat → Nat → Int32) (kd : Nat) (cp : Int32) (hpl : pl ≤ 10) (hn : n ≤ 16) (hc : n ≤ cap) (hcap : cap ≤ 26) (hdy : dy ≤ 399) (hb : BOK n B) (hr : ROK rf sn n) (hs : sn ≤ 16) (hk : kd < 3) (sz : Nat) : Met l yX3_makeTour wsX3_makeTour rmX3_makeTour (PZ g [.ref (a 0), .int (nI kd), .int cp] sz ([(a 3, .inl (g.2.1, 10, .inl ft)), (a 6, .inl (g.2.2.1, 12, .inr (.inl tf))), (a 2, .inl (g.2.1, 100, .inl fm)), (a 1, .inr (2, [.ref (a 2), .ref (a 3), .int (nI pl)])), (a 5, .inl (g.2.2.2.1, 400, .inl hf)), (a 8, .inl (g.2.1, 16, .inl rf)), (a 7, .inl (g.2.2.1, 3, .inr (.inl wf))), (a 0, .inr (4, [.ref (a 1), .ref (a 4), .ref (a 5), .ref (a 6), .ref (a 7), .ref (a 8), .int (nI sn), .int (nI dy)])), (a 4, .inr (0, [.int mc, .ref ed, .int (nI n)]))] ++ bp g n ed cap ad B) []) (va_Qi (fun (r : Int32) (_ : Unit) => r = (endT fm ft (nI kd) pl (mkF fm ft (nI kd) cp pl dy rf B sn).1).2.2.1) (BZ g ([(a 3, .inl (g.2.1, 10, .inl ft)), (a 6, .inl (g.2.2.1, 12, .inr (.inl tf))), (a 2, .inl (g.2.1, 100, .inl fm)), (a 1, .inr (2, [.ref (a 2), .ref (a 3), .int (nI pl)])), (a 5, .inl (g.2.2.2.1, 400, .inl hf)), (a 8, .inl (g.2.1, 16, .inl rf)), (a 7, .inl (g.2.2.1, 3, .inr (.inl wf))), (a 0, .inr (4, [.ref (a 1), .ref (a 4), .ref (a 5), .ref (a 6), .ref (a 7), .ref (a 8), .int (nI sn), .int (nI dy)])), (a 4, .inr (0, [.int mc, .ref ed, .int (nI n)]))] ++ bp g n ed cap ad B) sz (fun (u : Unit) => ([(a 3, .inl (g.2.1, 10, .inl ft)), (a 6, .inl (g.2.2.1, 12, .inr (.inl (tot4 tf kd (endT fm ft (nI kd) pl (mkF fm ft (nI kd) cp pl dy rf B sn).1))))), (a 2, .inl (g.2.1, 100, .inl fm)), (a 1, .inr (2, [.ref (a 2), .ref (a 3), .int (nI pl)])), (a 5, .inl (g.2.2.2.1, 400, .inl hf)), (a 8, .inl (g.2.1, 16, .inl rf)), (a 7, .inl (g.2.2.1, 3, .inr (.inl wf))), (a 0, .inr (4, [.ref (a 1), .ref (a 4), .ref (a 5), .ref (a 6), .ref (a 7), .ref (a 8), .int (nI sn), .int (nI dy)])), (a 4, .inr (0, [.int mc, .ref ed, .int (nI n)]))] ++ bp g n ed cap ad ((mkF fm ft (nI kd) cp pl dy rf B sn).2)))) (va_A ([(a 3, .inl (g.2.1, 10, .inl ft)), (a 6, .inl (g.2.2.1, 12, .inr (.inl tf))), (a 2, .inl (g.2.1, 100, .inl fm)), (a 1, .inr (2, [.ref (a 2), .ref (a 3), .int (nI pl)])), (a 5, .inl (g.2.2.2.1, 400, .inl hf)), (a 8, .inl (g.2.1, 16, .inl rf)), (a 7, .inl (g.2.2.1, 3, .inr (.inl wf))), (a 0, .inr (4, [.ref (a 1), .ref (a 4), .ref (a 5), .ref (a 6), .ref (a 7), .ref (a 8), .int (nI sn), .int (nI dy)])), (a 4, .inr (0, [.int mc, .ref ed, .int (nI n)]))] ++ bp g n ed cap ad B) sz)) 1 8 (va_A ([(a 3, .inl (g.2.1, 10, .inl ft)), (a 6, .inl (g.2.2.1, 12, .inr (.inl tf))), (a 2, .inl (g.2.1, 100, .inl fm)), (a 1, .inr (2, [.ref (a 2), .ref (a 3), .int (nI pl)])), (a 5, .inl (g.2.2.2.1, 400, .inl hf)), (a 8, .inl (g.2.1, 16, .inl rf)), (a 7, .inl (g.2.2.1, 3, .inr (.inl wf))), (a 0, .inr (4, [.ref (a 1), .ref (a 4), .ref (a 5), .ref (a 6), .ref (a 7), .ref (a 8), .int (nI sn), .int (nI dy)])), (a 4, .inr (0, [.int mc, .ref ed, .int (nI n)]))] ++ bp g n ed cap ad B) sz) := by
  refine z_open_i (cc := cX3_makeTour) (maxL := 7) (ret := .int) (own := RX3) (by decide) rfl rfl (Nat.le_of_ble_eq_true rfl) ?_
  intro p e s m args below meth c Q h hnm fin
  generalize hAe : va_A ([(a 3, .inl (g.2.1, 10, .inl ft)), (a 6, .inl (g.2.2.1, 12, .inr (.inl tf))), (a 2, .inl (g.2.1, 100, .inl fm)), (a 1, .inr (2, [.ref (a 2), .ref (a 3), .int (nI pl)])), (a 5, .inl (g.2.2.2.1, 400, .inl hf)), (a 8, .inl (g.2.1, 16, .inl rf)), (a 7, .inl (g.2.2.1, 3, .inr (.inl wf))), (a 0, .inr (4, [.ref (a 1), .ref (a 4), .ref (a 5), .ref (a 6), .ref (a 7), .ref (a 8), .int (nI sn), .int (nI dy)])), (a 4, .inr (0, [.int mc, .ref ed, .int (nI n)]))] ++ bp g n ed cap ad B) s.heap.size = A at h fin ⊢
  refine z_lve (lv' := [(0, .ref (a 0)), (1, .int (nI kd)), (2, .int cp)]) rfl ?_
  refine z_new (ci := 3) h in_X3_makeTour_X2 tyX2 tyX2_ok lk_X3_makeTour_cl161 lk_X3_makeTour_isX2 lk_X3_makeTour_iniX2 rfl (fs := [.null, .int 0, .int 0, .int 0, .int 0, .int 0, .int 0, .int 0]) (by decide +kernel) (Nat.le_of_ble_eq_true rfl) (Nat.le_of_ble_eq_true rfl) dX3_makeTour_0 (fun to => ?_)
  refine z_rot ?_
  refine z_ws (wW' := ([(to, .inr (3, [.null, .int 0, .int 0, .int 0, .int 0, .int 0, .int 0, .int 0])), (a 3, .inl (g.2.1, 10, .inl ft)), (a 6, .inl (g.2.2.1, 12, .inr (.inl tf))), (a 2, .inl (g.2.1, 100, .inl fm)), (a 1, .inr (2, [.ref (a 2), .ref (a 3), .int (nI pl)])), (a 5, .inl (g.2.2.2.1, 400, .inl hf)), (a 8, .inl (g.2.1, 16, .inl rf)), (a 7, .inl (g.2.2.1, 3, .inr (.inl wf))), (a 0, .inr (4, [.ref (a 1), .ref (a 4), .ref (a 5), .ref (a 6), .ref (a 7), .ref (a 8), .int (nI sn), .int (nI dy)])), (a 4, .inr (0, [.int mc, .ref ed, .int (nI n)]))] ++ bp g n ed cap ad B)) rfl rfl ?_
  refine z_dup h dX3_makeTour_3 rfl ?_
  refine z_aload_n h dX3_makeTour_4 rfl 0 rfl ?_
  refine z_get h in_X3_makeTour_X3 8 rfl rfl 0 (by decide) lk_X3_makeTour_f12 rfl dX3_makeTour_5 ?_
  refine z_iload_n h dX3_makeTour_8 rfl 1 rfl ?_
  refine z_iload_n h dX3_makeTour_9 rfl 2 rfl ?_
  refine z_Iv h (C := "") (ret := none) (As := [.ref (a 1), .int (nI kd), .int cp]) (st := [.ref to]) (fun sz => m_X2_init l g to (a 1) (nI kd) cp  sz) (cwI 3 h.ts gX3_makeTour_X2_init rfl rfl rfl (h.ts _ lk_X3_makeTour_iniX2_init) (h.ts _ lk_X3_makeTour_m163) (h.ts _ lk_X3_makeTour_imX2_init) rfl (by decide +kernel) ⟨Nat.le_of_ble_eq_true rfl, Nat.le_of_ble_eq_true rfl⟩) rfl [0] [] rfl rfl rfl rfl rfl (Nat.le_of_ble_eq_true rfl) ⟨(Nat.le_of_ble_eq_true rfl), (Nat.le_of_ble_eq_true rfl)⟩ (fun _ => (Nat.le_of_ble_eq_true rfl)) (wN := fun u => ([(to, .inr (3, [.ref (a 1), .int (nI kd), .int cp, .int 0, .int 0, .int 0, .int 0, .int 0])), (a 3, .inl (g.2.1, 10, .inl ft)), (a 6, .inl (g.2.2.1, 12, .inr (.inl tf))), (a 2, .inl (g.2.1, 100, .inl fm)), (a 1, .inr (2, [.ref (a 2), .ref (a 3), .int (nI pl)])), (a 5, .inl (g.2.2.2.1, 400, .inl hf)), (a 8, .inl (g.2.1, 16, .inl rf)), (a 7, .inl (g.2.2.1, 3, .inr (.inl wf))), (a 0, .inr (4, [.ref (a 1), .ref (a 4), .ref (a 5), .ref (a 6), .ref (a 7), .ref (a 8), .int (nI sn), .int (nI dy)])), (a 4, .inr (0, [.int mc, .ref ed, .int (nI n)]))] ++ bp g n ed cap ad B)) (fun _ => List.append_nil _) dX3_makeTour_10 (fun u_10 h_10 => ?_)
  refine z_astore_n h dX3_makeTour_13 rfl (by decide) (lv' := [(0, .ref (a 0)), (1, .int (nI kd)), (2, .int cp), (3, .ref to)]) [1, 2, 3, 0] rfl ?_
  refine z_iconst h (v := 0) dX3_makeTour_14 (by decide) ?_
  refine z_istore h dX3_makeTour_15 (by decide) (lv' := [(0, .ref (a 0)), (1, .int (nI kd)), (2, .int cp), (3, .ref to), (4, .int 0)]) [1, 2, 3, 4, 0] rfl ?_
  have L17 : ∀ (L17n i : Nat) (tr : TS) (Bi : Nat → Nat → Int32), i ≤ sn → sn < L17n + i → mkF fm ft (nI kd) cp pl dy rf B i = (tr, Bi) → tr.1 < 10 → BOK n Bi → Z p l e rmX3_makeTour s m args below meth c Q A g 7 17 [(0, .ref (a 0)), (1, .int (nI kd)), (2, .int cp), (3, .ref to), (4, .int (nI i))] [] ([(to, .inr (3, [.ref (a 1), .int (nI kd), .int cp, .int (nI tr.1), .int tr.2.1, .int tr.2.2.1, .int tr.2.2.2.1, .int tr.2.2.2.2])), (a 3, .inl (g.2.1, 10, .inl ft)), (a 6, .inl (g.2.2.1, 12, .inr (.inl tf))), (a 2, .inl (g.2.1, 100, .inl fm)), (a 1, .inr (2, [.ref (a 2), .ref (a 3), .int (nI pl)])), (a 5, .inl (g.2.2.2.1, 400, .inl hf)), (a 8, .inl (g.2.1, 16, .inl rf)), (a 7, .inl (g.2.2.1, 3, .inr (.inl wf))), (a 0, .inr (4, [.ref (a 1), .ref (a 4), .ref (a 5), .ref (a 6), .ref (a 7), .ref (a 8), .int (nI sn), .int (nI dy)])), (a 4, .inr (0, [.int mc, .ref ed, .int (nI n)]))] ++ bp g n ed cap ad Bi) [] 1 8 := by
    intro L17n
    induction L17n with
    | zero => intro i tr Bi hi hL17 e1 ht hbi; exact absurd hL17 (by omega)
    | succ L17n ihL17 =>
      intro i tr Bi hi hL17 e1 ht hbi
      refine z_iload h dX3_makeTour_17 4 rfl ?_
      refine z_aload_n h dX3_makeTour_19 rfl 0 rfl ?_
      refine z_get h in_X3_makeTour_X3 8 rfl rfl 6 (by decide) lk_X3_makeTour_f38 rfl dX3_makeTour_20 ?_
      refine z_icmp_ge h (tgt := 70) dX3_makeTour_23 (by decide) (fun c_23 => ?_) (fun c_23 => ?_)
      · have his : i = sn := by have := ge_t (a := i) (b := sn) c_23 (by omega) (by omega); omega
        subst his
        refine z_aload_n h dX3_makeTour_70 rfl 3 rfl ?_
        refine z_Vv h (As := []) (st := []) (fun sz => m_X2_end l g to (a 1) (a 2) (a 3) pl (nI kd) cp tr fm ft hpl ht sz) (cwV 0 h.ts gX3_makeTour_X2_end rfl rfl rfl (by decide +kernel) ⟨Nat.le_of_ble_eq_true rfl, Nat.le_of_ble_eq_true rfl⟩) rfl [0] [4, 3, 1] rfl rfl rfl rfl 0 rfl rfl rfl rfl (Nat.le_of_ble_eq_true rfl) ⟨(Nat.le_of_ble_eq_true rfl), (Nat.le_of_ble_eq_true rfl)⟩ (fun _ => (Nat.le_of_ble_eq_true rfl)) (wN := fun u => ([(to, .inr (3, [.ref (a 1), .int (nI kd), .int cp, .int (nI (endT fm ft (nI kd) pl tr).1), .int ((endT fm ft (nI kd) pl tr).2.1), .int ((endT fm ft (nI kd) pl tr).2.2.1), .int ((endT fm ft (nI kd) pl tr).2.2.2.1), .int ((endT fm ft (nI kd) pl tr).2.2.2.2)])), (a 3, .inl (g.2.1, 10, .inl ft)), (a 6, .inl (g.2.2.1, 12, .inr (.inl tf))), (a 2, .inl (g.2.1, 100, .inl fm)), (a 1, .inr (2, [.ref (a 2), .ref (a 3), .int (nI pl)])), (a 5, .inl (g.2.2.2.1, 400, .inl hf)), (a 8, .inl (g.2.1, 16, .inl rf)), (a 7, .inl (g.2.2.1, 3, .inr (.inl wf))), (a 0, .inr (4, [.ref (a 1), .ref (a 4), .ref (a 5), .ref (a 6), .ref (a 7), .ref (a 8), .int (nI i), .int (nI dy)])), (a 4, .inr (0, [.int mc, .ref ed, .int (nI n)]))] ++ bp g n ed cap ad Bi)) (fun _ => List.append_nil _) dX3_makeTour_71 (fun u_71 h_71 => ?_)
        refine z_iload_n h dX3_makeTour_74 rfl 1 rfl ?_
        refine z_iconst h (v := 4) dX3_makeTour_75 (by decide) ?_
        refine z_imul h dX3_makeTour_76 ?_
        refine z_topi (y := nI (kd * 4)) (mul4 kd) ?_
        refine z_istore h dX3_makeTour_77 (by decide) (lv' := [(0, .ref (a 0)), (1, .int (nI kd)), (2, .int cp), (3, .ref to), (4, .int (nI (kd * 4)))]) [1, 2, 3, 4, 0] rfl ?_
        refine z_aload_n h dX3_makeTour_79 rfl 0 rfl ?_
        refine z_get h in_X3_makeTour_X3 8 rfl rfl 3 (by decide) lk_X3_makeTour_f27 rfl dX3_makeTour_80 ?_
        refine z_iload h dX3_makeTour_83 4 rfl ?_
        refine z_iconst h (v := 0) dX3_makeTour_85 (by decide) ?_
        refine z_iadd h dX3_makeTour_86 ?_
        refine z_topi (y := nI (kd * 4 + 0)) (add4 kd 0) ?_
        refine z_dup2 h dX3_makeTour_87 rfl rfl ?_
        refine z_lald h 2 rfl (vp_in_nI (by omega) (by omega)) dX3_makeTour_88 (v := tf (kd * 4 + 0)) (by rw [nI_clamp (by omega)]) ?_
        refine z_aload_n h dX3_makeTour_89 rfl 3 rfl ?_
        refine z_getN h in_X3_makeTour_X2 0 rfl rfl 7 (by decide) (by decide) rfl dX3_makeTour_90 ?_
        refine z_i2l h dX3_makeTour_93 ?_
        refine z_ladd h dX3_makeTour_94 ?_
        refine z_last h (j := kd * 4 + 0) 2 rfl (vp_in_nI (by omega) (by omega)) (by rw [nI_clamp (by omega)]) dX3_makeTour_95 (wW' := ([(to, .inr (3, [.ref (a 1), .int (nI kd), .int cp, .int (nI (endT fm ft (nI kd) pl tr).1), .int ((endT fm ft (nI kd) pl tr).2.1), .int ((endT fm ft (nI kd) pl tr).2.2.1), .int ((endT fm ft (nI kd) pl tr).2.2.2.1), .int ((endT fm ft (nI kd) pl tr).2.2.2.2)])), (a 3, .inl (g.2.1, 10, .inl ft)), (a 6, .inl (g.2.2.1, 12, .inr (.inl (vp_updL tf (kd * 4 + 0) ((tf (kd * 4 + 0)) + (Int32.toInt64 ((endT fm ft (nI kd) pl tr).2.2.2.2))))))), (a 2, .inl (g.2.1, 100, .inl fm)), (a 1, .inr (2, [.ref (a 2), .ref (a 3), .int (nI pl)])), (a 5, .inl (g.2.2.2.1, 400, .inl hf)), (a 8, .inl (g.2.1, 16, .inl rf)), (a 7, .inl (g.2.2.1, 3, .inr (.inl wf))), (a 0, .inr (4, [.ref (a 1), .ref (a 4), .ref (a 5), .ref (a 6), .ref (a 7), .ref (a 8), .int (nI i), .int (nI dy)])), (a 4, .inr (0, [.int mc, .ref ed, .int (nI n)]))] ++ bp g n ed cap ad Bi)) rfl ?_
        refine z_aload_n h dX3_makeTour_96 rfl 0 rfl ?_
        refine z_get h in_X3_makeTour_X3 8 rfl rfl 3 (by decide) lk_X3_makeTour_f27 rfl dX3_makeTour_97 ?_
        refine z_iload h dX3_makeTour_100 4 rfl ?_
        refine z_iconst h (v := 1) dX3_makeTour_102 (by decide) ?_
        refine z_iadd h dX3_makeTour_103 ?_
        refine z_topi (y := nI (kd * 4 + 1)) (add4 kd 1) ?_
        refine z_dup2 h dX3_makeTour_104 rfl rfl ?_
        refine z_lald h 2 rfl (vp_in_nI (by omega) (by omega)) dX3_makeTour_105 (v := (vp_updL tf (kd * 4 + 0) ((tf (kd * 4 + 0)) + (Int32.toInt64 ((endT fm ft (nI kd) pl tr).2.2.2.2)))) (kd * 4 + 1)) (by rw [nI_clamp (by omega)]) ?_
        refine z_aload_n h dX3_makeTour_106 rfl 3 rfl ?_
        refine z_getN h in_X3_makeTour_X2 0 rfl rfl 6 (by decide) (by decide) rfl dX3_makeTour_107 ?_
        refine z_i2l h dX3_makeTour_110 ?_
        refine z_ladd h dX3_makeTour_111 ?_
        refine z_last h (j := kd * 4 + 1) 2 rfl (vp_in_nI (by omega) (by omega)) (by rw [nI_clamp (by omega)]) dX3_makeTour_112 (wW' := ([(to, .inr (3, [.ref (a 1), .int (nI kd), .int cp, .int (nI (endT fm ft (nI kd) pl tr).1), .int ((endT fm ft (nI kd) pl tr).2.1), .int ((endT fm ft (nI kd) pl tr).2.2.1), .int ((endT fm ft (nI kd) pl tr).2.2.2.1), .int ((endT fm ft (nI kd) pl tr).2.2.2.2)])), (a 3, .inl (g.2.1, 10, .inl ft)), (a 6, .inl (g.2.2.1, 12, .inr (.inl (vp_updL (vp_updL tf (kd * 4 + 0) ((tf (kd * 4 + 0)) + (Int32.toInt64 ((endT fm ft (nI kd) pl tr).2.2.2.2)))) (kd * 4 + 1) (((vp_updL tf (kd * 4 + 0) ((tf (kd * 4 + 0)) + (Int32.toInt64 ((endT fm ft (nI kd) pl tr).2.2.2.2)))) (kd * 4 + 1)) + (Int32.toInt64 ((endT fm ft (nI kd) pl tr).2.2.2.1))))))), (a 2, .inl (g.2.1, 100, .inl fm)), (a 1, .inr (2, [.ref (a 2), .ref (a 3), .int (nI pl)])), (a 5, .inl (g.2.2.2.1, 400, .inl hf)), (a 8, .inl (g.2.1, 16, .inl rf)), (a 7, .inl (g.2.2.1, 3, .inr (.inl wf))), (a 0, .inr (4, [.ref (a 1), .ref (a 4), .ref (a 5), .ref (a 6), .ref (a 7), .ref (a 8), .int (nI i), .int (nI dy)])), (a 4, .inr (0, [.int mc, .ref ed, .int (nI n)]))] ++ bp g n ed cap ad Bi)) rfl ?_
        refine z_aload_n h dX3_makeTour_113 rfl 0 rfl ?_
        refine z_get h in_X3_makeTour_X3 8 rfl rfl 3 (by decide) lk_X3_makeTour_f27 rfl dX3_makeTour_114 ?_
        refine z_iload h dX3_makeTour_117 4 rfl ?_
        refine z_iconst h (v := 2) dX3_makeTour_119 (by decide) ?_
        refine z_iadd h dX3_makeTour_120 ?_
        refine z_topi (y := nI (kd * 4 + 2)) (add4 kd 2) ?_
        refine z_dup2 h dX3_makeTour_121 rfl rfl ?_
        refine z_lald h 2 rfl (vp_in_nI (by omega) (by omega)) dX3_makeTour_122 (v := (vp_updL (vp_updL tf (kd * 4 + 0) ((tf (kd * 4 + 0)) + (Int32.toInt64 ((endT fm ft (nI kd) pl tr).2.2.2.2)))) (kd * 4 + 1) (((vp_updL tf (kd * 4 + 0) ((tf (kd * 4 + 0)) + (Int32.toInt64 ((endT fm ft (nI kd) pl tr).2.2.2.2)))) (kd * 4 + 1)) + (Int32.toInt64 ((endT fm ft (nI kd) pl tr).2.2.2.1)))) (kd * 4 + 2)) (by rw [nI_clamp (by omega)]) ?_
        refine z_aload_n h dX3_makeTour_123 rfl 3 rfl ?_
        refine z_getN h in_X3_makeTour_X2 0 rfl rfl 5 (by decide) (by decide) rfl dX3_makeTour_124 ?_
        refine z_i2l h dX3_makeTour_127 ?_
        refine z_ladd h dX3_makeTour_128 ?_
        refine z_last h (j := kd * 4 + 2) 2 rfl (vp_in_nI (by omega) (by omega)) (by rw [nI_clamp (by omega)]) dX3_makeTour_129 (wW' := ([(to, .inr (3, [.ref (a 1), .int (nI kd), .int cp, .int (nI (endT fm ft (nI kd) pl tr).1), .int ((endT fm ft (nI kd) pl tr).2.1), .int ((endT fm ft (nI kd) pl tr).2.2.1), .int ((endT fm ft (nI kd) pl tr).2.2.2.1), .int ((endT fm ft (nI kd) pl tr).2.2.2.2)])), (a 3, .inl (g.2.1, 10, .inl ft)), (a 6, .inl (g.2.2.1, 12, .inr (.inl (vp_updL (vp_updL (vp_updL tf (kd * 4 + 0) ((tf (kd * 4 + 0)) + (Int32.toInt64 ((endT fm ft (nI kd) pl tr).2.2.2.2)))) (kd * 4 + 1) (((vp_updL tf (kd * 4 + 0) ((tf (kd * 4 + 0)) + (Int32.toInt64 ((endT fm ft (nI kd) pl tr).2.2.2.2)))) (kd * 4 + 1)) + (Int32.toInt64 ((endT fm ft (nI kd) pl tr).2.2.2.1)))) (kd * 4 + 2) (((vp_updL (vp_updL tf (kd * 4 + 0) ((tf (kd * 4 + 0)) + (Int32.toInt64 ((endT fm ft (nI kd) pl tr).2.2.2.2)))) (kd * 4 + 1) (((vp_updL tf (kd * 4 + 0) ((tf (kd * 4 + 0)) + (Int32.toInt64 ((endT fm ft (nI kd) pl tr).2.2.2.2)))) (kd * 4 + 1)) + (Int32.toInt64 ((endT fm ft (nI kd) pl tr).2.2.2.1)))) (kd * 4 + 2)) + (Int32.toInt64 ((endT fm ft (nI kd) pl tr).2.2.1))))))), (a 2, .inl (g.2.1, 100, .inl fm)), (a 1, .inr (2, [.ref (a 2), .ref (a 3), .int (nI pl)])), (a 5, .inl (g.2.2.2.1, 400, .inl hf)), (a 8, .inl (g.2.1, 16, .inl rf)), (a 7, .inl (g.2.2.1, 3, .inr (.inl wf))), (a 0, .inr (4, [.ref (a 1), .ref (a 4), .ref (a 5), .ref (a 6), .ref (a 7), .ref (a 8), .int (nI i), .int (nI dy)])), (a 4, .inr (0, [.int mc, .ref ed, .int (nI n)]))] ++ bp g n ed cap ad Bi)) rfl ?_
        refine z_aload_n h dX3_makeTour_130 rfl 0 rfl ?_
        refine z_get h in_X3_makeTour_X3 8 rfl rfl 3 (by decide) lk_X3_makeTour_f27 rfl dX3_makeTour_131 ?_
        refine z_iload h dX3_makeTour_134 4 rfl ?_
        refine z_iconst h (v := 3) dX3_makeTour_136 (by decide) ?_
        refine z_iadd h dX3_makeTour_137 ?_
        refine z_topi (y := nI (kd * 4 + 3)) (add4 kd 3) ?_
        refine z_dup2 h dX3_makeTour_138 rfl rfl ?_
        refine z_lald h 2 rfl (vp_in_nI (by omega) (by omega)) dX3_makeTour_139 (v := (vp_updL (vp_updL (vp_updL tf (kd * 4 + 0) ((tf (kd * 4 + 0)) + (Int32.toInt64 ((endT fm ft (nI kd) pl tr).2.2.2.2)))) (kd * 4 + 1) (((vp_updL tf (kd * 4 + 0) ((tf (kd * 4 + 0)) + (Int32.toInt64 ((endT fm ft (nI kd) pl tr).2.2.2.2)))) (kd * 4 + 1)) + (Int32.toInt64 ((endT fm ft (nI kd) pl tr).2.2.2.1)))) (kd * 4 + 2) (((vp_updL (vp_updL tf (kd * 4 + 0) ((tf (kd * 4 + 0)) + (Int32.toInt64 ((endT fm ft (nI kd) pl tr).2.2.2.2)))) (kd * 4 + 1) (((vp_updL tf (kd * 4 + 0) ((tf (kd * 4 + 0)) + (Int32.toInt64 ((endT fm ft (nI kd) pl tr).2.2.2.2)))) (kd * 4 + 1)) + (Int32.toInt64 ((endT fm ft (nI kd) pl tr).2.2.2.1)))) (kd * 4 + 2)) + (Int32.toInt64 ((endT fm ft (nI kd) pl tr).2.2.1)))) (kd * 4 + 3)) (by rw [nI_clamp (by omega)]) ?_
        refine z_lconst h (v := 1) dX3_makeTour_140 (by decide) ?_
        refine z_ladd h dX3_makeTour_141 ?_
        refine z_last h (j := kd * 4 + 3) 2 rfl (vp_in_nI (by omega) (by omega)) (by rw [nI_clamp (by omega)]) dX3_makeTour_142 (wW' := ([(to, .inr (3, [.ref (a 1), .int (nI kd), .int cp, .int (nI (endT fm ft (nI kd) pl tr).1), .int ((endT fm ft (nI kd) pl tr).2.1), .int ((endT fm ft (nI kd) pl tr).2.2.1), .int ((endT fm ft (nI kd) pl tr).2.2.2.1), .int ((endT fm ft (nI kd) pl tr).2.2.2.2)])), (a 3, .inl (g.2.1, 10, .inl ft)), (a 6, .inl (g.2.2.1, 12, .inr (.inl (vp_updL (vp_updL (vp_updL (vp_updL tf (kd * 4 + 0) ((tf (kd * 4 + 0)) + (Int32.toInt64 ((endT fm ft (nI kd) pl tr).2.2.2.2)))) (kd * 4 + 1) (((vp_updL tf (kd * 4 + 0) ((tf (kd * 4 + 0)) + (Int32.toInt64 ((endT fm ft (nI kd) pl tr).2.2.2.2)))) (kd * 4 + 1)) + (Int32.toInt64 ((endT fm ft (nI kd) pl tr).2.2.2.1)))) (kd * 4 + 2) (((vp_updL (vp_updL tf (kd * 4 + 0) ((tf (kd * 4 + 0)) + (Int32.toInt64 ((endT fm ft (nI kd) pl tr).2.2.2.2)))) (kd * 4 + 1) (((vp_updL tf (kd * 4 + 0) ((tf (kd * 4 + 0)) + (Int32.toInt64 ((endT fm ft (nI kd) pl tr).2.2.2.2)))) (kd * 4 + 1)) + (Int32.toInt64 ((endT fm ft (nI kd) pl tr).2.2.2.1)))) (kd * 4 + 2)) + (Int32.toInt64 ((endT fm ft (nI kd) pl tr).2.2.1)))) (kd * 4 + 3) (((vp_updL (vp_updL (vp_updL tf (kd * 4 + 0) ((tf (kd * 4 + 0)) + (Int32.toInt64 ((endT fm ft (nI kd) pl tr).2.2.2.2)))) (kd * 4 + 1) (((vp_updL tf (kd * 4 + 0) ((tf (kd * 4 + 0)) + (Int32.toInt64 ((endT fm ft (nI kd) pl tr).2.2.2.2)))) (kd * 4 + 1)) + (Int32.toInt64 ((endT fm ft (nI kd) pl tr).2.2.2.1)))) (kd * 4 + 2) (((vp_updL (vp_updL tf (kd * 4 + 0) ((tf (kd * 4 + 0)) + (Int32.toInt64 ((endT fm ft (nI kd) pl tr).2.2.2.2)))) (kd * 4 + 1) (((vp_updL tf (kd * 4 + 0) ((tf (kd * 4 + 0)) + (Int32.toInt64 ((endT fm ft (nI kd) pl tr).2.2.2.2)))) (kd * 4 + 1)) + (Int32.toInt64 ((endT fm ft (nI kd) pl tr).2.2.2.1)))) (kd * 4 + 2)) + (Int32.toInt64 ((endT fm ft (nI kd) pl tr).2.2.1)))) (kd * 4 + 3)) + 1))))), (a 2, .inl (g.2.1, 100, .inl fm)), (a 1, .inr (2, [.ref (a 2), .ref (a 3), .int (nI pl)])), (a 5, .inl (g.2.2.2.1, 400, .inl hf)), (a 8, .inl (g.2.1, 16, .inl rf)), (a 7, .inl (g.2.2.1, 3, .inr (.inl wf))), (a 0, .inr (4, [.ref (a 1), .ref (a 4), .ref (a 5), .ref (a 6), .ref (a 7), .ref (a 8), .int (nI i), .int (nI dy)])), (a 4, .inr (0, [.int mc, .ref ed, .int (nI n)]))] ++ bp g n ed cap ad Bi)) rfl ?_
        refine z_aload_n h dX3_makeTour_143 rfl 3 rfl ?_
        refine z_getN h in_X3_makeTour_X2 0 rfl rfl 5 (by decide) (by decide) rfl dX3_makeTour_144 ?_
        refine z_tail ?_
        exact fin _ _ _ () _ _ _ _ dX3_makeTour_147 rfl (by rw [e1]) (by rw [e1]; rfl) (Nat.le_of_ble_eq_true rfl) (Nat.le_of_ble_eq_true rfl)
      · have hi : i < sn := ge_f (a := i) (b := sn) c_23 (by omega) (by omega)
        have hq := hr i hi
        have hbq := hbi _ hq.2
        refine z_aload_n h dX3_makeTour_26 rfl 0 rfl ?_
        refine z_get h in_X3_makeTour_X3 8 rfl rfl 1 (by decide) lk_X3_makeTour_f19 rfl dX3_makeTour_27 ?_
        refine z_aload_n h dX3_makeTour_30 rfl 0 rfl ?_
        refine z_get h in_X3_makeTour_X3 8 rfl rfl 5 (by decide) lk_X3_makeTour_f34 rfl dX3_makeTour_31 ?_
        refine z_iload h dX3_makeTour_34 4 rfl ?_
        refine z_iald h 6 rfl (vp_in_nI (by omega) (by omega)) dX3_makeTour_36 (v := rf i) (by rw [nI_clamp (by omega)]) ?_
        refine z_topi (y := nI (rq rf i)) hq.1 ?_
        refine z_Vr h (As := [.int (nI (rq rf i))]) (st := []) (fun sz => m_Jx4a65c_get_915e3 l g (a 4) mc ed n cap ad (rq rf i) hq.2 hc (by omega) sz) (cwV 1 h.ts gX3_makeTour_Jx4a65c_get_915e3 rfl rfl rfl (by decide +kernel) ⟨Nat.le_of_ble_eq_true rfl, Nat.le_of_ble_eq_true rfl⟩) rfl [] [9, 10] (lc rfl (lc (bp_elW (by omega)) rfl)) rfl rfl rfl 9 rfl rfl rfl rfl (Nat.le_of_ble_eq_true rfl) ⟨(Nat.le_of_ble_eq_true rfl), (Nat.le_of_ble_eq_true rfl)⟩ (fun _ => (Nat.le_of_ble_eq_true rfl)) (wN := fun u => ([(to, .inr (3, [.ref (a 1), .int (nI kd), .int cp, .int (nI tr.1), .int tr.2.1, .int tr.2.2.1, .int tr.2.2.2.1, .int tr.2.2.2.2])), (a 3, .inl (g.2.1, 10, .inl ft)), (a 6, .inl (g.2.2.1, 12, .inr (.inl tf))), (a 2, .inl (g.2.1, 100, .inl fm)), (a 1, .inr (2, [.ref (a 2), .ref (a 3), .int (nI pl)])), (a 5, .inl (g.2.2.2.1, 400, .inl hf)), (a 8, .inl (g.2.1, 16, .inl rf)), (a 7, .inl (g.2.2.1, 3, .inr (.inl wf))), (a 0, .inr (4, [.ref (a 1), .ref (a 4), .ref (a 5), .ref (a 6), .ref (a 7), .ref (a 8), .int (nI sn), .int (nI dy)])), (a 4, .inr (0, [.int mc, .ref ed, .int (nI n)]))] ++ bp g n ed cap ad Bi)) (fun _ => List.append_nil _) dX3_makeTour_37 (fun u_37 h_37 => ?_)
        refine z_cast h lk_X3_makeTour_cl113 (10 + (rq rf i + 1)) (bp_atW (by omega)) rfl dX3_makeTour_40 ?_
        refine z_astore h dX3_makeTour_43 (by decide) (lv' := [(0, .ref (a 0)), (1, .int (nI kd)), (2, .int cp), (3, .ref to), (4, .int (nI i)), (5, .ref (ad (rq rf i)))]) [1, 2, 3, 4, 5, 0] rfl ?_
        refine z_aload_n h dX3_makeTour_45 rfl 3 rfl ?_
        refine z_aload h dX3_makeTour_46 5 rfl ?_
        refine z_Vi h (As := [.ref (ad (rq rf i))]) (st := []) (fun sz => m_X2_visit l g to (a 1) (a 2) (a 3) pl (nI kd) cp tr fm ft (ad (rq rf i)) (Bi (rq rf i)) (plc Bi (rq rf i)) hpl ht hbq.1 hbq.2.1 sz) (cwV 1 h.ts gX3_makeTour_X2_visit rfl rfl rfl (by decide +kernel) ⟨Nat.le_of_ble_eq_true rfl, Nat.le_of_ble_eq_true rfl⟩) rfl [0] [(10 + (rq rf i + 1)), 4, 3, 1] (lc rfl (lc (bp_atW (by omega)) (lc rfl (lc rfl (lc rfl rfl))))) rfl (by simp [va_nd]; try omega) (by simp [va_nd]) 0 rfl rfl rfl rfl (Nat.le_of_ble_eq_true rfl) ⟨(Nat.le_of_ble_eq_true rfl), (Nat.le_of_ble_eq_true rfl)⟩ (fun _ => (Nat.le_of_ble_eq_true rfl)) (wN := fun u => ([(to, .inr (3, [.ref (a 1), .int (nI kd), .int cp, .int (nI (visT fm ft (nI kd) cp pl (Bi (rq rf i)) (plc Bi (rq rf i)) tr).1), .int ((visT fm ft (nI kd) cp pl (Bi (rq rf i)) (plc Bi (rq rf i)) tr).2.1), .int ((visT fm ft (nI kd) cp pl (Bi (rq rf i)) (plc Bi (rq rf i)) tr).2.2.1), .int ((visT fm ft (nI kd) cp pl (Bi (rq rf i)) (plc Bi (rq rf i)) tr).2.2.2.1), .int ((visT fm ft (nI kd) cp pl (Bi (rq rf i)) (plc Bi (rq rf i)) tr).2.2.2.2)])), (a 3, .inl (g.2.1, 10, .inl ft)), (a 6, .inl (g.2.2.1, 12, .inr (.inl tf))), (a 2, .inl (g.2.1, 100, .inl fm)), (a 1, .inr (2, [.ref (a 2), .ref (a 3), .int (nI pl)])), (a 5, .inl (g.2.2.2.1, 400, .inl hf)), (a 8, .inl (g.2.1, 16, .inl rf)), (a 7, .inl (g.2.2.1, 3, .inr (.inl wf))), (a 0, .inr (4, [.ref (a 1), .ref (a 4), .ref (a 5), .ref (a 6), .ref (a 7), .ref (a 8), .int (nI sn), .int (nI dy)])), (a 4, .inr (0, [.int mc, .ref ed, .int (nI n)]))] ++ bp g n ed cap ad Bi)) (fun _ => List.append_nil _) dX3_makeTour_48 (fun r_48 u_48 h_48 => ?_)
        refine z_topi (y := visK fm ft (nI kd) cp pl (Bi (rq rf i)) (plc Bi (rq rf i)) tr) h_48 ?_
        refine z_istore h dX3_makeTour_51 (by decide) (lv' := [(0, .ref (a 0)), (1, .int (nI kd)), (2, .int cp), (3, .ref to), (4, .int (nI i)), (5, .ref (ad (rq rf i))), (6, .int (visK fm ft (nI kd) cp pl (Bi (rq rf i)) (plc Bi (rq rf i)) tr))]) [1, 2, 3, 4, 5, 6, 0] rfl ?_
        refine z_aload h dX3_makeTour_53 5 rfl ?_
        refine z_iload h dX3_makeTour_55 6 rfl ?_
        refine z_aload_n h dX3_makeTour_57 rfl 0 rfl ?_
        refine z_get h in_X3_makeTour_X3 8 rfl rfl 7 (by decide) lk_X3_makeTour_f42 rfl dX3_makeTour_58 ?_
        refine z_Vv h (As := [.int (visK fm ft (nI kd) cp pl (Bi (rq rf i)) (plc Bi (rq rf i)) tr), .int (nI dy)]) (st := []) (fun sz => m_X0_endVisit l g (ad (rq rf i)) (Bi (rq rf i)) (visK fm ft (nI kd) cp pl (Bi (rq rf i)) (plc Bi (rq rf i)) tr) (nI dy)  sz) (cwV 2 h.ts gX3_makeTour_X0_endVisit rfl rfl rfl (by decide +kernel) ⟨Nat.le_of_ble_eq_true rfl, Nat.le_of_ble_eq_true rfl⟩) rfl [(10 + (rq rf i + 1))] [] (lc (bp_atW (by omega)) rfl) (lc (bp_at (by omega)) rfl) (by simp [va_nd]; try omega) (by simp [va_nd]) (10 + (rq rf i + 1)) (bp_atW (by omega)) rfl rfl rfl (Nat.le_of_ble_eq_true rfl) ⟨(Nat.le_of_ble_eq_true rfl), (Nat.le_of_ble_eq_true rfl)⟩ (fun _ => (Nat.le_of_ble_eq_true rfl)) (wN := fun u => ([(to, .inr (3, [.ref (a 1), .int (nI kd), .int cp, .int (nI (visT fm ft (nI kd) cp pl (Bi (rq rf i)) (plc Bi (rq rf i)) tr).1), .int ((visT fm ft (nI kd) cp pl (Bi (rq rf i)) (plc Bi (rq rf i)) tr).2.1), .int ((visT fm ft (nI kd) cp pl (Bi (rq rf i)) (plc Bi (rq rf i)) tr).2.2.1), .int ((visT fm ft (nI kd) cp pl (Bi (rq rf i)) (plc Bi (rq rf i)) tr).2.2.2.1), .int ((visT fm ft (nI kd) cp pl (Bi (rq rf i)) (plc Bi (rq rf i)) tr).2.2.2.2)])), (a 3, .inl (g.2.1, 10, .inl ft)), (a 6, .inl (g.2.2.1, 12, .inr (.inl tf))), (a 2, .inl (g.2.1, 100, .inl fm)), (a 1, .inr (2, [.ref (a 2), .ref (a 3), .int (nI pl)])), (a 5, .inl (g.2.2.2.1, 400, .inl hf)), (a 8, .inl (g.2.1, 16, .inl rf)), (a 7, .inl (g.2.2.1, 3, .inr (.inl wf))), (a 0, .inr (4, [.ref (a 1), .ref (a 4), .ref (a 5), .ref (a 6), .ref (a 7), .ref (a 8), .int (nI sn), .int (nI dy)])), (a 4, .inr (0, [.int mc, .ref ed, .int (nI n)]))] ++ bp g n ed cap ad (updB Bi (rq rf i) (endB (Bi (rq rf i)) (visK fm ft (nI kd) cp pl (Bi (rq rf i)) (plc Bi (rq rf i)) tr) (nI dy))))) (fun _ => bp_put (by omega)) dX3_makeTour_61 (fun u_61 h_61 => ?_)
        refine z_iinc h (v := nI (i + 1)) dX3_makeTour_64 (by decide) 4 rfl (by rw [show Int32.ofInt 1 = nI 1 from rfl, nI_add]) (lv' := [(0, .ref (a 0)), (1, .int (nI kd)), (2, .int cp), (3, .ref to), (4, .int (nI (i + 1))), (5, .ref (ad (rq rf i))), (6, .int (visK fm ft (nI kd) cp pl (Bi (rq rf i)) (plc Bi (rq rf i)) tr))]) [1, 2, 3, 4, 0, 5, 6] rfl ?_
        refine z_goto h (tgt := 17) dX3_makeTour_67 (by decide) ?_
        refine z_lv [0, 1, 2, 3, 4] (lv' := [(0, .ref (a 0)), (1, .int (nI kd)), (2, .int cp), (3, .ref to), (4, .int (nI (i + 1)))]) rfl ?_
        exact ihL17 (i + 1) (visT fm ft (nI kd) cp pl (Bi (rq rf i)) (plc Bi (rq rf i)) tr) (updB Bi (rq rf i) (endB (Bi (rq rf i)) (visK fm ft (nI kd) cp pl (Bi (rq rf i)) (plc Bi (rq rf i)) tr) (nI dy))) (by omega) (by omega) (by rw [mkF, e1]) (by rw [visT_1]; exact hbq.2.1) (hbi.set (endB_0 _ _ _) (endB_1 _ _ _))
  exact L17 (sn + 1 - 0) 0 (0, 0, 0, 0, 0) B (by omega) (by omega) rfl (by decide) hb
abbrev rmX3_planSize : Room := { frames := 7, cells := 1, slots := 6, locals := 116 }
set_option maxHeartbeats 4000000 in
set_option maxRecDepth 100000 in
theorem m_X3_planSize (l : Launch) (hlf : l.stackTraces = false) (g : Gx) (a : Nat → Nat) (fm : Nat → Int32) (pl : Nat) (hf : Nat → Int32) (rf : Nat → Int32) (wf : Nat → Int64) (sn : Nat) (dy : Nat) (mc : Int32) (ed : Nat) (n : Nat) (cap : Nat) (ad : Nat → Nat) (B : Nat → Nat → Int32) (x : Int32) (hpl : pl ≤ 10) (hn : n ≤ 16) (hc : n ≤ cap) (hcap : cap ≤ 26) (hdy : dy ≤ 399) (hb : BOK n B) (sz : Nat) : vx_Met l yX3_planSize wsX3_planSize rmX3_planSize (PX SL3 g [.ref (a 0), .int x] sz ([(a 2, .inl (g.2.1, 100, .inl fm)), (a 1, .inr (2, [.ref (a 2), .ref (a 3), .int (nI pl)])), (a 5, .inl (g.2.2.2.1, 400, .inl hf)), (a 8, .inl (g.2.1, 16, .inl rf)), (a 7, .inl (g.2.2.1, 3, .inr (.inl wf))), (a 0, .inr (4, [.ref (a 1), .ref (a 4), .ref (a 5), .ref (a 6), .ref (a 7), .ref (a 8), .int (nI sn), .int (nI dy)])), (a 4, .inr (0, [.int mc, .ref ed, .int (nI n)]))] ++ bp g n ed cap ad B) []) (va_Qi (fun (r : Int32) (_ : Unit) => okI 3 x = true ∧ r = nI (plS B dy (nwd hf dy) x rf n)) (BZ g ([(a 2, .inl (g.2.1, 100, .inl fm)), (a 1, .inr (2, [.ref (a 2), .ref (a 3), .int (nI pl)])), (a 5, .inl (g.2.2.2.1, 400, .inl hf)), (a 8, .inl (g.2.1, 16, .inl rf)), (a 7, .inl (g.2.2.1, 3, .inr (.inl wf))), (a 0, .inr (4, [.ref (a 1), .ref (a 4), .ref (a 5), .ref (a 6), .ref (a 7), .ref (a 8), .int (nI sn), .int (nI dy)])), (a 4, .inr (0, [.int mc, .ref ed, .int (nI n)]))] ++ bp g n ed cap ad B) sz (fun (u : Unit) => ([(a 2, .inl (g.2.1, 100, .inl fm)), (a 1, .inr (2, [.ref (a 2), .ref (a 3), .int (nI pl)])), (a 5, .inl (g.2.2.2.1, 400, .inl hf)), (a 8, .inl (g.2.1, 16, .inl (plR fm B dy (nwd hf dy) x rf n))), (a 7, .inl (g.2.2.1, 3, .inr (.inl wf))), (a 0, .inr (4, [.ref (a 1), .ref (a 4), .ref (a 5), .ref (a 6), .ref (a 7), .ref (a 8), .int (nI (plS B dy (nwd hf dy) x rf n)), .int (nI dy)])), (a 4, .inr (0, [.int mc, .ref ed, .int (nI n)]))] ++ bp g n ed cap ad B))) (va_A ([(a 2, .inl (g.2.1, 100, .inl fm)), (a 1, .inr (2, [.ref (a 2), .ref (a 3), .int (nI pl)])), (a 5, .inl (g.2.2.2.1, 400, .inl hf)), (a 8, .inl (g.2.1, 16, .inl rf)), (a 7, .inl (g.2.2.1, 3, .inr (.inl wf))), (a 0, .inr (4, [.ref (a 1), .ref (a 4), .ref (a 5), .ref (a 6), .ref (a 7), .ref (a 8), .int (nI sn), .int (nI dy)])), (a 4, .inr (0, [.int mc, .ref ed, .int (nI n)]))] ++ bp g n ed cap ad B) sz)) (XZ (pe3 eI eI eI (if okI 3 x = true then 0 else 1)) sz) 1 6 (va_A ([(a 2, .inl (g.2.1, 100, .inl fm)), (a 1, .inr (2, [.ref (a 2), .ref (a 3), .int (nI pl)])), (a 5, .inl (g.2.2.2.1, 400, .inl hf)), (a 8, .inl (g.2.1, 16, .inl rf)), (a 7, .inl (g.2.2.1, 3, .inr (.inl wf))), (a 0, .inr (4, [.ref (a 1), .ref (a 4), .ref (a 5), .ref (a 6), .ref (a 7), .ref (a 8), .int (nI sn), .int (nI dy)])), (a 4, .inr (0, [.int mc, .ref ed, .int (nI n)]))] ++ bp g n ed cap ad B) sz) := by
  refine x_open0_i (cc := cX3_planSize) (maxL := 2) (ret := .int) (own := RX3) (by decide) rfl rfl (Nat.le_of_ble_eq_true rfl) hlf rfl ?_
  intro p e s m args below meth c Q h hT hE fin thr thw
  refine z_lve (lv' := [(0, .ref (a 0)), (1, .int x)]) rfl ?_
  refine z_aload_n h dX3_planSize_0 rfl 0 rfl ?_
  refine z_iload_n h dX3_planSize_1 rfl 1 rfl ?_
  refine x_Vv h (As := [.int x]) (st := []) hT (fun q hq => hq) (fun sz => m_X3_checkKind l hlf g a x  sz) (cwV 1 h.ts gX3_planSize_X3_checkKind rfl rfl rfl (by decide +kernel) ⟨Nat.le_of_ble_eq_true rfl, Nat.le_of_ble_eq_true rfl⟩) rfl [] [] rfl rfl rfl rfl 5 rfl rfl rfl rfl (Nat.le_of_ble_eq_true rfl) ⟨(Nat.le_of_ble_eq_true rfl), (Nat.le_of_ble_eq_true rfl)⟩ (fun _ => (Nat.le_of_ble_eq_true rfl)) (wN := fun u => []) (fun _ => rfl) dX3_planSize_2 (fun E hE => thr E _ _ _ _ _ (by rw [hE.2]; exact pe3_1 (k1_1 hE.1)) (Nat.le_of_ble_eq_true rfl) (Nat.le_of_ble_eq_true rfl)) (fun u_2 h_2 => ?_)
  refine z_arm0 ?_
  have h2 := h.arm (B := va_A ([(a 2, .inl (g.2.1, 100, .inl fm)), (a 1, .inr (2, [.ref (a 2), .ref (a 3), .int (nI pl)])), (a 5, .inl (g.2.2.2.1, 400, .inl hf)), (a 8, .inl (g.2.1, 16, .inl rf)), (a 7, .inl (g.2.2.1, 3, .inr (.inl wf))), (a 0, .inr (4, [.ref (a 1), .ref (a 4), .ref (a 5), .ref (a 6), .ref (a 7), .ref (a 8), .int (nI sn), .int (nI dy)])), (a 4, .inr (0, [.int mc, .ref ed, .int (nI n)]))] ++ bp g n ed cap ad B) s.heap.size) (fun q hq => Or.inr hq)
  generalize hAe : va_A ([(a 2, .inl (g.2.1, 100, .inl fm)), (a 1, .inr (2, [.ref (a 2), .ref (a 3), .int (nI pl)])), (a 5, .inl (g.2.2.2.1, 400, .inl hf)), (a 8, .inl (g.2.1, 16, .inl rf)), (a 7, .inl (g.2.2.1, 3, .inr (.inl wf))), (a 0, .inr (4, [.ref (a 1), .ref (a 4), .ref (a 5), .ref (a 6), .ref (a 7), .ref (a 8), .int (nI sn), .int (nI dy)])), (a 4, .inr (0, [.int mc, .ref ed, .int (nI n)]))] ++ bp g n ed cap ad B) s.heap.size = A at h2 hE fin ⊢
  refine z_aload_n h2 dX3_planSize_5 rfl 0 rfl ?_
  refine z_iload_n h2 dX3_planSize_6 rfl 1 rfl ?_
  refine z_Yv h2 (As := [.int x]) (st := []) (Y := []) (fun sz => m_X3_planRoute l g a fm pl hf rf wf sn dy mc ed n cap ad B x hpl hn hc hcap hdy hb sz) (cwV 1 h2.ts gX3_planSize_X3_planRoute rfl rfl rfl (by decide +kernel) ⟨Nat.le_of_ble_eq_true rfl, Nat.le_of_ble_eq_true rfl⟩) rfl rfl 5 rfl rfl rfl rfl (Nat.le_of_ble_eq_true rfl) ⟨(Nat.le_of_ble_eq_true rfl), (Nat.le_of_ble_eq_true rfl)⟩ (wN := fun u => ([(a 2, .inl (g.2.1, 100, .inl fm)), (a 1, .inr (2, [.ref (a 2), .ref (a 3), .int (nI pl)])), (a 5, .inl (g.2.2.2.1, 400, .inl hf)), (a 8, .inl (g.2.1, 16, .inl (plR fm B dy (nwd hf dy) x rf n))), (a 7, .inl (g.2.2.1, 3, .inr (.inl wf))), (a 0, .inr (4, [.ref (a 1), .ref (a 4), .ref (a 5), .ref (a 6), .ref (a 7), .ref (a 8), .int (nI (plS B dy (nwd hf dy) x rf n)), .int (nI dy)])), (a 4, .inr (0, [.int mc, .ref ed, .int (nI n)]))] ++ bp g n ed cap ad B)) (fun _ => rfl) dX3_planSize_7 (fun u_7 h_7 => ?_)
  refine z_aload_n h2 dX3_planSize_10 rfl 0 rfl ?_
  refine z_get h2 in_X3_planSize_X3 5 rfl rfl 6 (by decide) lk_X3_planSize_f38 rfl dX3_planSize_11 ?_
  exact fin _ _ _ () _ _ _ _ dX3_planSize_14 rfl ⟨h_2, rfl⟩ rfl (Nat.le_of_ble_eq_true rfl) (Nat.le_of_ble_eq_true rfl)
abbrev rmX3_total : Room := { frames := 7, cells := 2, slots := 12, locals := 111 }
set_option maxHeartbeats 4000000 in
set_option maxRecDepth 100000 in
theorem m_X3_total (l : Launch) (hlf : l.stackTraces = false) (g : Gx) (a : Nat → Nat) (sn : Nat) (dy : Nat) (tf : Nat → Int64) (x : Int32) (v : Int32)  (sz : Nat) : vx_Met l yX3_total wsX3_total rmX3_total (PX SL3 g [.ref (a 0), .int x, .int v] sz [] [(a 0, .inr (4, [.ref (a 1), .ref (a 4), .ref (a 5), .ref (a 6), .ref (a 7), .ref (a 8), .int (nI sn), .int (nI dy)])), (a 6, .inl (g.2.2.1, 12, .inr (.inl tf)))]) (va_Ql (fun (r : Int64) (_ : Unit) => (okI 3 x && okI 4 v) = true ∧ r = tf (x.toNatClampNeg * 4 + v.toNatClampNeg)) (BZ g [] sz (fun (u : Unit) => [])) (va_A [] sz)) (XZ (pe3 eI eI eI (if (okI 3 x && okI 4 v) = true then 0 else 1)) sz) 2 12 (va_A [] sz) := by
  refine x_open_l (cc := cX3_total) (maxL := 3) (own := RX3) (by decide) rfl rfl (Nat.le_of_ble_eq_true rfl) hlf rfl ?_
  intro p e s m args below meth c Q h hT hE fin thr thw
  refine z_lve (lv' := [(0, .ref (a 0)), (1, .int x), (2, .int v)]) rfl ?_
  refine z_aload_n h dX3_total_0 rfl 0 rfl ?_
  refine z_iload_n h dX3_total_1 rfl 1 rfl ?_
  refine x_Vv h (As := [.int x]) (st := []) hT (fun q hq => hq) (fun sz => m_X3_checkKind l hlf g a x  sz) (cwV 1 h.ts gX3_total_X3_checkKind rfl rfl rfl (by decide +kernel) ⟨Nat.le_of_ble_eq_true rfl, Nat.le_of_ble_eq_true rfl⟩) rfl [] [] rfl rfl rfl rfl 0 rfl rfl rfl rfl (Nat.le_of_ble_eq_true rfl) ⟨(Nat.le_of_ble_eq_true rfl), (Nat.le_of_ble_eq_true rfl)⟩ (fun _ => (Nat.le_of_ble_eq_true rfl)) (wN := fun u => []) (fun _ => rfl) dX3_total_2 (fun E hE => thr E _ _ _ _ _ (by rw [hE.2]; exact pe3_1 (k1_1 (and_f1 hE.1))) (Nat.le_of_ble_eq_true rfl) (Nat.le_of_ble_eq_true rfl)) (fun u_2 h_2 => ?_)
  refine z_iload_n h dX3_total_5 rfl 2 rfl ?_
  refine z_if_lt h (tgt := 14) dX3_total_6 (by decide) (fun c_6 => ?_) (fun c_6 => ?_)
  · exact thw 14 _ _ _ _ "java/lang/IndexOutOfBoundsException" "what is not 0 to 3" ["java/lang/RuntimeException", "java/lang/Exception"] 96 176 100 (by decide +kernel) fi_exn lk_X3_total_cl96 lk_X3_total_in96 (by decide) at_X3_total_100 ng_100 (by decide) og_100_96 dX3_total_14 dX3_total_17 dX3_total_18 dX3_total_20 dX3_total_23 (Nat.le_of_ble_eq_true rfl) (Nat.le_of_ble_eq_true rfl) (Nat.le_of_ble_eq_true rfl) (Nat.le_of_ble_eq_true rfl) (pe3_1 (k1_1 (and_f2 (by first | exact okI_neg c_6 | exact okI_ge (n := 4) (i32_nlt c_11) (by omega))))) (Nat.le_of_ble_eq_true rfl) (Nat.le_of_ble_eq_true rfl)
  · refine z_iload_n h dX3_total_9 rfl 2 rfl ?_
    refine z_iconst h (v := 4) dX3_total_10 (by decide) ?_
    refine z_icmp_lt h (tgt := 24) dX3_total_11 (by decide) (fun c_11 => ?_) (fun c_11 => ?_)
    · have hv := okI_in (n := 4) c_6 (i32_nle c_11) (by omega)
      obtain ⟨w, hw, rfl⟩ := okI_of hv (by omega)
      have hcw : (nI w).toNatClampNeg = w := nI_clamp (by omega)
      have hx := h_2
      obtain ⟨kd, hk, rfl⟩ := okI_of h_2 (by omega)
      have hcl : (nI kd).toNatClampNeg = kd := nI_clamp (by omega)
      refine z_aload_n h dX3_total_24 rfl 0 rfl ?_
      refine z_get h in_X3_total_X3 0 rfl rfl 3 (by decide) lk_X3_total_f27 rfl dX3_total_25 ?_
      refine z_iload_n h dX3_total_28 rfl 1 rfl ?_
      refine z_iconst h (v := 4) dX3_total_29 (by decide) ?_
      refine z_imul h dX3_total_30 ?_
      refine z_topi (y := nI (kd * 4)) (mul4 kd) ?_
      refine z_iload_n h dX3_total_31 rfl 2 rfl ?_
      refine z_iadd h dX3_total_32 ?_
      refine z_topi (y := nI (kd * 4 + w)) (add4 kd w) ?_
      refine z_lald h 1 rfl (vp_in_nI (by omega) (by omega)) dX3_total_33 (v := tf (kd * 4 + w)) (by rw [nI_clamp (by omega)]) ?_
      refine z_arm (wW := []) (wR := [(a 0, .inr (4, [.ref (a 1), .ref (a 4), .ref (a 5), .ref (a 6), .ref (a 7), .ref (a 8), .int (nI sn), .int (nI dy)])), (a 6, .inl (g.2.2.1, 12, .inr (.inl tf)))]) ?_
      exact fin _ _ _ () _ _ _ _ dX3_total_34 ⟨and_t hx hv, by rw [hcl, hcw]⟩ rfl (Nat.le_of_ble_eq_true rfl) (Nat.le_of_ble_eq_true rfl)
    · exact thw 14 _ _ _ _ "java/lang/IndexOutOfBoundsException" "what is not 0 to 3" ["java/lang/RuntimeException", "java/lang/Exception"] 96 176 100 (by decide +kernel) fi_exn lk_X3_total_cl96 lk_X3_total_in96 (by decide) at_X3_total_100 ng_100 (by decide) og_100_96 dX3_total_14 dX3_total_17 dX3_total_18 dX3_total_20 dX3_total_23 (Nat.le_of_ble_eq_true rfl) (Nat.le_of_ble_eq_true rfl) (Nat.le_of_ble_eq_true rfl) (Nat.le_of_ble_eq_true rfl) (pe3_1 (k1_1 (and_f2 (by first | exact okI_neg c_6 | exact okI_ge (n := 4) (i32_nlt c_11) (by omega))))) (Nat.le_of_ble_eq_true rfl) (Nat.le_of_ble_eq_true rfl)
abbrev rmX3_collect : Room := { frames := 7, cells := 6, slots := 40, locals := 118 }
set_option maxHeartbeats 4000000 in
set_option maxRecDepth 100000 in
theorem m_X3_collect (l : Launch) (hlf : l.stackTraces = false) (g : Gx) (a : Nat → Nat) (ft : Nat → Int32) (tf : Nat → Int64) (fm : Nat → Int32) (pl : Nat) (hf : Nat → Int32) (rf : Nat → Int32) (wf : Nat → Int64) (sn : Nat) (dy : Nat) (mc : Int32) (ed : Nat) (n : Nat) (cap : Nat) (ad : Nat → Nat) (B : Nat → Nat → Int32) (x : Int32) (cp : Int32) (hpl : pl ≤ 10) (hn : n ≤ 16) (hc : n ≤ cap) (hcap : cap ≤ 26) (hdy : dy ≤ 399) (hb : BOK n B) (sz : Nat) : vx_Met l yX3_collect wsX3_collect rmX3_collect (PX SL3 g [.ref (a 0), .int x, .int cp] sz ([(a 3, .inl (g.2.1, 10, .inl ft)), (a 6, .inl (g.2.2.1, 12, .inr (.inl tf))), (a 2, .inl (g.2.1, 100, .inl fm)), (a 1, .inr (2, [.ref (a 2), .ref (a 3), .int (nI pl)])), (a 5, .inl (g.2.2.2.1, 400, .inl hf)), (a 8, .inl (g.2.1, 16, .inl rf)), (a 7, .inl (g.2.2.1, 3, .inr (.inl wf))), (a 0, .inr (4, [.ref (a 1), .ref (a 4), .ref (a 5), .ref (a 6), .ref (a 7), .ref (a 8), .int (nI sn), .int (nI dy)])), (a 4, .inr (0, [.int mc, .ref ed, .int (nI n)]))] ++ bp g n ed cap ad B) []) (va_Qi (fun (r : Int32) (_ : Unit) => k3 (okI 3 x) (okR 50 5000 cp) (decide (hf dy = 0)) = 0 ∧ r = if plS B dy (nwd hf dy) x rf n = 0 then 0 else (endT fm ft x pl (mkF fm ft x cp pl dy (plR fm B dy (nwd hf dy) x rf n) B (plS B dy (nwd hf dy) x rf n)).1).2.2.1) (BZ g ([(a 3, .inl (g.2.1, 10, .inl ft)), (a 6, .inl (g.2.2.1, 12, .inr (.inl tf))), (a 2, .inl (g.2.1, 100, .inl fm)), (a 1, .inr (2, [.ref (a 2), .ref (a 3), .int (nI pl)])), (a 5, .inl (g.2.2.2.1, 400, .inl hf)), (a 8, .inl (g.2.1, 16, .inl rf)), (a 7, .inl (g.2.2.1, 3, .inr (.inl wf))), (a 0, .inr (4, [.ref (a 1), .ref (a 4), .ref (a 5), .ref (a 6), .ref (a 7), .ref (a 8), .int (nI sn), .int (nI dy)])), (a 4, .inr (0, [.int mc, .ref ed, .int (nI n)]))] ++ bp g n ed cap ad B) sz (fun (u : Unit) => ([(a 3, .inl (g.2.1, 10, .inl ft)), (a 6, .inl (g.2.2.1, 12, .inr (.inl (if plS B dy (nwd hf dy) x rf n = 0 then tf else tot4 tf x.toNatClampNeg (endT fm ft x pl (mkF fm ft x cp pl dy (plR fm B dy (nwd hf dy) x rf n) B (plS B dy (nwd hf dy) x rf n)).1))))), (a 2, .inl (g.2.1, 100, .inl fm)), (a 1, .inr (2, [.ref (a 2), .ref (a 3), .int (nI pl)])), (a 5, .inl (g.2.2.2.1, 400, .inl hf)), (a 8, .inl (g.2.1, 16, .inl (plR fm B dy (nwd hf dy) x rf n))), (a 7, .inl (g.2.2.1, 3, .inr (.inl wf))), (a 0, .inr (4, [.ref (a 1), .ref (a 4), .ref (a 5), .ref (a 6), .ref (a 7), .ref (a 8), .int (nI (plS B dy (nwd hf dy) x rf n)), .int (nI dy)])), (a 4, .inr (0, [.int mc, .ref ed, .int (nI n)]))] ++ bp g n ed cap ad (if plS B dy (nwd hf dy) x rf n = 0 then B else (mkF fm ft x cp pl dy (plR fm B dy (nwd hf dy) x rf n) B (plS B dy (nwd hf dy) x rf n)).2)))) (va_A ([(a 3, .inl (g.2.1, 10, .inl ft)), (a 6, .inl (g.2.2.1, 12, .inr (.inl tf))), (a 2, .inl (g.2.1, 100, .inl fm)), (a 1, .inr (2, [.ref (a 2), .ref (a 3), .int (nI pl)])), (a 5, .inl (g.2.2.2.1, 400, .inl hf)), (a 8, .inl (g.2.1, 16, .inl rf)), (a 7, .inl (g.2.2.1, 3, .inr (.inl wf))), (a 0, .inr (4, [.ref (a 1), .ref (a 4), .ref (a 5), .ref (a 6), .ref (a 7), .ref (a 8), .int (nI sn), .int (nI dy)])), (a 4, .inr (0, [.int mc, .ref ed, .int (nI n)]))] ++ bp g n ed cap ad B) sz)) (XZ (pe3 eI eA eS (k3 (okI 3 x) (okR 50 5000 cp) (decide (hf dy = 0)))) sz) 6 40 (va_A ([(a 3, .inl (g.2.1, 10, .inl ft)), (a 6, .inl (g.2.2.1, 12, .inr (.inl tf))), (a 2, .inl (g.2.1, 100, .inl fm)), (a 1, .inr (2, [.ref (a 2), .ref (a 3), .int (nI pl)])), (a 5, .inl (g.2.2.2.1, 400, .inl hf)), (a 8, .inl (g.2.1, 16, .inl rf)), (a 7, .inl (g.2.2.1, 3, .inr (.inl wf))), (a 0, .inr (4, [.ref (a 1), .ref (a 4), .ref (a 5), .ref (a 6), .ref (a 7), .ref (a 8), .int (nI sn), .int (nI dy)])), (a 4, .inr (0, [.int mc, .ref ed, .int (nI n)]))] ++ bp g n ed cap ad B) sz) := by
  refine x_open0_i (cc := cX3_collect) (maxL := 3) (ret := .int) (own := RX3) (by decide) rfl rfl (Nat.le_of_ble_eq_true rfl) hlf rfl ?_
  intro p e s m args below meth c Q h hT hE fin thr thw
  refine z_lve (lv' := [(0, .ref (a 0)), (1, .int x), (2, .int cp)]) rfl ?_
  refine z_aload_n h dX3_collect_0 rfl 0 rfl ?_
  refine z_iload_n h dX3_collect_1 rfl 1 rfl ?_
  refine x_Vv h (As := [.int x]) (st := []) hT (fun q hq => hq) (fun sz => m_X3_checkKind l hlf g a x  sz) (cwV 1 h.ts gX3_collect_X3_checkKind rfl rfl rfl (by decide +kernel) ⟨Nat.le_of_ble_eq_true rfl, Nat.le_of_ble_eq_true rfl⟩) rfl [] [] rfl rfl rfl rfl 7 rfl rfl rfl rfl (Nat.le_of_ble_eq_true rfl) ⟨(Nat.le_of_ble_eq_true rfl), (Nat.le_of_ble_eq_true rfl)⟩ (fun _ => (Nat.le_of_ble_eq_true rfl)) (wN := fun u => []) (fun _ => rfl) dX3_collect_2 (fun E hE => thr E _ _ _ _ _ (by rw [hE.2]; exact pe3_1 (k3_1 hE.1)) (Nat.le_of_ble_eq_true rfl) (Nat.le_of_ble_eq_true rfl)) (fun u_2 h_2 => ?_)
  have hx := h_2
  obtain ⟨kd, hk, rfl⟩ := okI_of h_2 (by omega)
  have hcl : (nI kd).toNatClampNeg = kd := nI_clamp (by omega)
  refine z_aload_n h dX3_collect_5 rfl 0 rfl ?_
  refine z_iload_n h dX3_collect_6 rfl 2 rfl ?_
  refine z_bipush h (v := 50) dX3_collect_7 (by decide) ?_
  refine z_sipush h (v := 5000) dX3_collect_9 (by decide) ?_
  refine x_Vv h (As := [.int cp, .int 50, .int 5000]) (st := []) hT (fun q hq => hq) (fun sz => m_X3_checkRange l hlf g a cp 50 5000  sz) (cwV 3 h.ts gX3_collect_X3_checkRange rfl rfl rfl (by decide +kernel) ⟨Nat.le_of_ble_eq_true rfl, Nat.le_of_ble_eq_true rfl⟩) rfl [] [] rfl rfl rfl rfl 7 rfl rfl rfl rfl (Nat.le_of_ble_eq_true rfl) ⟨(Nat.le_of_ble_eq_true rfl), (Nat.le_of_ble_eq_true rfl)⟩ (fun _ => (Nat.le_of_ble_eq_true rfl)) (wN := fun u => []) (fun _ => rfl) dX3_collect_12 (fun E hE => thr E _ _ _ _ _ (by rw [hE.2]; exact pe3_2 (k3_2 hx hE.1)) (Nat.le_of_ble_eq_true rfl) (Nat.le_of_ble_eq_true rfl)) (fun u_12 h_12 => ?_)
  refine z_aload_n h dX3_collect_15 rfl 0 rfl ?_
  refine x_Vv h (As := []) (st := []) hT (fun q hq => hq) (fun sz => m_X3_checkWorkday l hlf g a sn dy hf (by omega) sz) (cwV 0 h.ts gX3_collect_X3_checkWorkday rfl rfl rfl (by decide +kernel) ⟨Nat.le_of_ble_eq_true rfl, Nat.le_of_ble_eq_true rfl⟩) rfl [] [7, 4] rfl rfl rfl rfl 7 rfl rfl rfl rfl (Nat.le_of_ble_eq_true rfl) ⟨(Nat.le_of_ble_eq_true rfl), (Nat.le_of_ble_eq_true rfl)⟩ (fun _ => (Nat.le_of_ble_eq_true rfl)) (wN := fun u => []) (fun _ => rfl) dX3_collect_16 (fun E hE => thr E _ _ _ _ _ (by rw [hE.2]; exact pe3_3 (k3_3 hx h_12 (decide_eq_false hE.1))) (Nat.le_of_ble_eq_true rfl) (Nat.le_of_ble_eq_true rfl)) (fun u_16 h_16 => ?_)
  refine z_arm0 ?_
  have h2 := h.arm (B := va_A ([(a 3, .inl (g.2.1, 10, .inl ft)), (a 6, .inl (g.2.2.1, 12, .inr (.inl tf))), (a 2, .inl (g.2.1, 100, .inl fm)), (a 1, .inr (2, [.ref (a 2), .ref (a 3), .int (nI pl)])), (a 5, .inl (g.2.2.2.1, 400, .inl hf)), (a 8, .inl (g.2.1, 16, .inl rf)), (a 7, .inl (g.2.2.1, 3, .inr (.inl wf))), (a 0, .inr (4, [.ref (a 1), .ref (a 4), .ref (a 5), .ref (a 6), .ref (a 7), .ref (a 8), .int (nI sn), .int (nI dy)])), (a 4, .inr (0, [.int mc, .ref ed, .int (nI n)]))] ++ bp g n ed cap ad B) s.heap.size) (fun q hq => Or.inr hq)
  generalize hAe : va_A ([(a 3, .inl (g.2.1, 10, .inl ft)), (a 6, .inl (g.2.2.1, 12, .inr (.inl tf))), (a 2, .inl (g.2.1, 100, .inl fm)), (a 1, .inr (2, [.ref (a 2), .ref (a 3), .int (nI pl)])), (a 5, .inl (g.2.2.2.1, 400, .inl hf)), (a 8, .inl (g.2.1, 16, .inl rf)), (a 7, .inl (g.2.2.1, 3, .inr (.inl wf))), (a 0, .inr (4, [.ref (a 1), .ref (a 4), .ref (a 5), .ref (a 6), .ref (a 7), .ref (a 8), .int (nI sn), .int (nI dy)])), (a 4, .inr (0, [.int mc, .ref ed, .int (nI n)]))] ++ bp g n ed cap ad B) s.heap.size = A at h2 hE fin ⊢
  refine z_aload_n h2 dX3_collect_19 rfl 0 rfl ?_
  refine z_iload_n h2 dX3_collect_20 rfl 1 rfl ?_
  refine z_Yv h2 (As := [.int (nI kd)]) (st := []) (Y := [(a 3, .inl (g.2.1, 10, .inl ft)), (a 6, .inl (g.2.2.1, 12, .inr (.inl tf)))]) (fun sz => m_X3_planRoute l g a fm pl hf rf wf sn dy mc ed n cap ad B (nI kd) hpl hn hc hcap hdy hb sz) (cwV 1 h2.ts gX3_collect_X3_planRoute rfl rfl rfl (by decide +kernel) ⟨Nat.le_of_ble_eq_true rfl, Nat.le_of_ble_eq_true rfl⟩) rfl rfl 7 rfl rfl rfl rfl (Nat.le_of_ble_eq_true rfl) ⟨(Nat.le_of_ble_eq_true rfl), (Nat.le_of_ble_eq_true rfl)⟩ (wN := fun u => ([(a 3, .inl (g.2.1, 10, .inl ft)), (a 6, .inl (g.2.2.1, 12, .inr (.inl tf))), (a 2, .inl (g.2.1, 100, .inl fm)), (a 1, .inr (2, [.ref (a 2), .ref (a 3), .int (nI pl)])), (a 5, .inl (g.2.2.2.1, 400, .inl hf)), (a 8, .inl (g.2.1, 16, .inl (plR fm B dy (nwd hf dy) (nI kd) rf n))), (a 7, .inl (g.2.2.1, 3, .inr (.inl wf))), (a 0, .inr (4, [.ref (a 1), .ref (a 4), .ref (a 5), .ref (a 6), .ref (a 7), .ref (a 8), .int (nI (plS B dy (nwd hf dy) (nI kd) rf n)), .int (nI dy)])), (a 4, .inr (0, [.int mc, .ref ed, .int (nI n)]))] ++ bp g n ed cap ad B)) (fun _ => rfl) dX3_collect_21 (fun u_21 h_21 => ?_)
  have hr := h_21.1
  have hs := h_21.2
  have hk0 := k3_0 hx h_12 (decide_eq_true h_16)
  refine z_aload_n h2 dX3_collect_24 rfl 0 rfl ?_
  refine z_get h2 in_X3_collect_X3 7 rfl rfl 6 (by decide) lk_X3_collect_f38 rfl dX3_collect_25 ?_
  refine z_if_ne h2 (tgt := 35) dX3_collect_28 (by decide) (fun c_28 => ?_) (fun c_28 => ?_)
  · have hz : ¬ plS B dy (nwd hf dy) (nI kd) rf n = 0 := fun q => c_28 (by rw [q]; rfl)
    refine z_aload_n h2 dX3_collect_35 rfl 0 rfl ?_
    refine z_iload_n h2 dX3_collect_36 rfl 1 rfl ?_
    refine z_iload_n h2 dX3_collect_37 rfl 2 rfl ?_
    refine z_Yi h2 (As := [.int (nI kd), .int cp]) (st := []) (Y := []) (fun sz => m_X3_makeTour l g a ft tf fm pl hf (plR fm B dy (nwd hf dy) (nI kd) rf n) wf (plS B dy (nwd hf dy) (nI kd) rf n) dy mc ed n cap ad B kd cp hpl hn hc hcap hdy hb hr (by omega) hk sz) (cwV 2 h2.ts gX3_collect_X3_makeTour rfl rfl rfl (by decide +kernel) ⟨Nat.le_of_ble_eq_true rfl, Nat.le_of_ble_eq_true rfl⟩) rfl rfl 7 rfl rfl rfl rfl (Nat.le_of_ble_eq_true rfl) ⟨(Nat.le_of_ble_eq_true rfl), (Nat.le_of_ble_eq_true rfl)⟩ (wN := fun u => ([(a 3, .inl (g.2.1, 10, .inl ft)), (a 6, .inl (g.2.2.1, 12, .inr (.inl (tot4 tf kd (endT fm ft (nI kd) pl (mkF fm ft (nI kd) cp pl dy (plR fm B dy (nwd hf dy) (nI kd) rf n) B (plS B dy (nwd hf dy) (nI kd) rf n)).1))))), (a 2, .inl (g.2.1, 100, .inl fm)), (a 1, .inr (2, [.ref (a 2), .ref (a 3), .int (nI pl)])), (a 5, .inl (g.2.2.2.1, 400, .inl hf)), (a 8, .inl (g.2.1, 16, .inl (plR fm B dy (nwd hf dy) (nI kd) rf n))), (a 7, .inl (g.2.2.1, 3, .inr (.inl wf))), (a 0, .inr (4, [.ref (a 1), .ref (a 4), .ref (a 5), .ref (a 6), .ref (a 7), .ref (a 8), .int (nI (plS B dy (nwd hf dy) (nI kd) rf n)), .int (nI dy)])), (a 4, .inr (0, [.int mc, .ref ed, .int (nI n)]))] ++ bp g n ed cap ad ((mkF fm ft (nI kd) cp pl dy (plR fm B dy (nwd hf dy) (nI kd) rf n) B (plS B dy (nwd hf dy) (nI kd) rf n)).2))) (fun _ => rfl) dX3_collect_38 (fun r_38 u_38 h_38 => ?_)
    exact fin _ _ _ () _ _ _ _ dX3_collect_41 rfl (by first | exact ⟨hk0, (ifz hz).symm⟩ | exact ⟨hk0, h_38.trans (ifn hz).symm⟩) (by first | (rw [ifz hz, ifz hz]) | (rw [ifn hz, ifn hz, hcl])) (Nat.le_of_ble_eq_true rfl) (Nat.le_of_ble_eq_true rfl)
  · have hz : plS B dy (nwd hf dy) (nI kd) rf n = 0 := nI_z c_28 (by omega)
    refine z_iconst h2 (v := 0) dX3_collect_31 (by decide) ?_
    refine z_goto h2 (tgt := 41) dX3_collect_32 (by decide) ?_
    exact fin _ _ _ () _ _ _ _ dX3_collect_41 rfl (by first | exact ⟨hk0, (ifz hz).symm⟩ | exact ⟨hk0, h_38.trans (ifn hz).symm⟩) (by first | (rw [ifz hz, ifz hz]) | (rw [ifn hz, ifn hz, hcl])) (Nat.le_of_ble_eq_true rfl) (Nat.le_of_ble_eq_true rfl)
