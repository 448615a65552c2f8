theorem nar_ite (c : Prop) [Decidable c] : narrow .boolean (.int (if c then 1 else 0)) = .int (if c then 1 else 0) := by split <;> rfl
theorem nar_ite' (c : Prop) [Decidable c] : narrow .boolean (.int (if c then 0 else 1)) = .int (if c then 0 else 1) := by split <;> rfl
theorem ge_t {a b : Nat} (h : nI b ≤ nI a) (ha : a < 2 ^ 31) (hb : b < 2 ^ 31) : b ≤ a := (nI_leI hb ha).mp h
theorem ge_f {a b : Nat} (h : ¬ nI b ≤ nI a) (ha : a < 2 ^ 31) (hb : b < 2 ^ 31) : a < b := Nat.lt_of_not_le fun q => h ((nI_leI hb ha).mpr q)
theorem ix10 (a b : Nat) : nI a * 10 + nI b = nI (a * 10 + b) := by rw [show (10 : Int32) = nI 10 from rfl, pk_mul, nI_add]
def hasT (x k : Int32) : Int32 := if (x >>> (k &&& 31)) &&& 1 = 1 then 1 else 0
def putT (x k b : Int32) : Int32 := if b = 0 then x &&& ((1 <<< (k &&& 31)) ^^^ (-1)) else x ||| (1 <<< (k &&& 31))
def cntT (f : Nat → Int32) (k : Int32) : Nat → Int32
  | 0 => 0
  | n + 1 => cntT f k n + (if hasT (f n) k = 0 then 0 else 1)
def ovT (fm ft : Nat → Int32) (k : Int32) (a b : Nat) : Nat → Int32
  | 0 => 240
  | n + 1 => if hasT (ft n) k = 0 then ovT fm ft k a b n else if fm (a * 10 + n) + fm (n * 10 + b) < ovT fm ft k a b n then fm (a * 10 + n) + fm (n * 10 + b) else ovT fm ft k a b n
theorem ovT_t {fm ft : Nat → Int32} {k : Int32} {a b n : Nat} (h : hasT (ft n) k = 0) : ovT fm ft k a b (n + 1) = ovT fm ft k a b n := by rw [ovT, if_pos h]
theorem ovT_f {fm ft : Nat → Int32} {k : Int32} {a b n : Nat} (h : ¬ hasT (ft n) k = 0) : ovT fm ft k a b (n + 1) = if fm (a * 10 + n) + fm (n * 10 + b) < ovT fm ft k a b n then fm (a * 10 + n) + fm (n * 10 + b) else ovT fm ft k a b n := by rw [ovT, if_neg h]
theorem in_X1_between_X1 : ∀ w ∈ wsX10, w ∈ wsX1_between := by decide +kernel
theorem lk_X1_between_f9 : Cond.fieldLink RX1 9 (TX1 0).1 (TX1 0).2.1 (TX1 0).2.2.1 ∈ wsX1_between := by decide +kernel
theorem in_X1_hasTip_X1 : ∀ w ∈ wsX10, w ∈ wsX1_hasTip := by decide +kernel
theorem lk_X1_hasTip_f15 : Cond.fieldLink RX1 15 (TX1 1).1 (TX1 1).2.1 (TX1 1).2.2.1 ∈ wsX1_hasTip := by decide +kernel
theorem in_X1_putTip_X1 : ∀ w ∈ wsX10, w ∈ wsX1_putTip := by decide +kernel
theorem lk_X1_putTip_f15 : Cond.fieldLink RX1 15 (TX1 1).1 (TX1 1).2.1 (TX1 1).2.2.1 ∈ wsX1_putTip := by decide +kernel
theorem in_X1_add_X1 : ∀ w ∈ wsX10, w ∈ wsX1_add := by decide +kernel
theorem lk_X1_add_f18 : Cond.fieldLink RX1 18 (TX1 2).1 (TX1 2).2.1 (TX1 2).2.2.1 ∈ wsX1_add := by decide +kernel
theorem in_X1_join_X1 : ∀ w ∈ wsX10, w ∈ wsX1_join := by decide +kernel
theorem lk_X1_join_f9 : Cond.fieldLink RX1 9 (TX1 0).1 (TX1 0).2.1 (TX1 0).2.2.1 ∈ wsX1_join := by decide +kernel
theorem in_X1_countTips_X1 : ∀ w ∈ wsX10, w ∈ wsX1_countTips := by decide +kernel
theorem lk_X1_countTips_f18 : Cond.fieldLink RX1 18 (TX1 2).1 (TX1 2).2.1 (TX1 2).2.2.1 ∈ wsX1_countTips := by decide +kernel
theorem in_X1_overTip_X1 : ∀ w ∈ wsX10, w ∈ wsX1_overTip := by decide +kernel
theorem lk_X1_overTip_f18 : Cond.fieldLink RX1 18 (TX1 2).1 (TX1 2).2.1 (TX1 2).2.2.1 ∈ wsX1_overTip := by decide +kernel
theorem lk_X1_overTip_imin : Cond.initialized "java/lang/Math" ∈ wsX1_overTip := by decide +kernel
theorem lk_X1_overTip_kmin : Cond.code Lib.Math.min.name Lib.Math.min.code 2 (some .int) ∈ wsX1_overTip := by decide +kernel
theorem lk_X1_overTip_m30 : Cond.methodLink RX1 30 Lib.Math.min.name ∈ wsX1_overTip := by decide +kernel
theorem lk_X1_overTip_smin : Cond.static Lib.Math.min.name ∈ wsX1_overTip := by decide +kernel
abbrev rmX1_between : Room := { frames := 0, cells := 0, slots := 0, locals := 0 }
set_option maxHeartbeats 4000000 in
set_option maxRecDepth 100000 in
/-- Region.between(a, b) -/
theorem m_X1_between (l : Launch) (g : Gx) (rg : Nat) (mi : Nat) (ti : Nat) (pl : Nat) (fm : Nat → Int32) (a : Nat) (b : Nat) (ha : a < 10) (hb : b < 10) (sz : Nat) : Met l yX1_between wsX1_between rmX1_between (PZ g [.ref rg, .int (nI a), .int (nI b)] sz [] [(rg, .inr (2, [.ref mi, .ref ti, .int (nI pl)])), (mi, .inl (g.2.1, 100, .inl fm))]) (va_Qi (fun (r : Int32) (_ : Unit) => r = fm (a * 10 + b)) (BZ g [] sz (fun (u : Unit) => [])) (va_A [] sz)) 0 0 (va_A [] sz) := by
  refine z_open_i (cc := cX1_between) (maxL := 3) (ret := .int) (own := RX1) (by decide) rfl rfl (Nat.le_of_ble_eq_true rfl) ?_
  intro p e s m args below meth c Q h hnm fin
  generalize hAe : va_A [] s.heap.size = A at h fin ⊢
  refine z_lve (lv' := [(0, .ref rg), (1, .int (nI a)), (2, .int (nI b))]) rfl ?_
  refine z_aload_n h dX1_between_0 rfl 0 rfl ?_
  refine z_get h in_X1_between_X1 0 rfl rfl 0 (by decide) lk_X1_between_f9 rfl dX1_between_1 ?_
  refine z_iload_n h dX1_between_4 rfl 1 rfl ?_
  refine z_bipush h (v := 10) dX1_between_5 (by decide) ?_
  refine z_imul h dX1_between_7 ?_
  refine z_iload_n h dX1_between_8 rfl 2 rfl ?_
  refine z_iadd h dX1_between_9 ?_
  refine z_topi (y := nI (a * 10 + b)) (ix10 a b) ?_
  refine z_iald h 1 rfl (vp_in_nI (by omega) (by omega)) dX1_between_10 (v := fm (a * 10 + b)) (by rw [nI_clamp (by omega)]) ?_
  exact fin _ _ _ () _ _ _ _ dX1_between_11 rfl rfl rfl (Nat.le_of_ble_eq_true rfl) (Nat.le_of_ble_eq_true rfl)
abbrev rmX1_hasTip : Room := { frames := 0, cells := 0, slots := 0, locals := 0 }
set_option maxHeartbeats 4000000 in
set_option maxRecDepth 100000 in
theorem m_X1_hasTip (l : Launch) (g : Gx) (rg : Nat) (mi : Nat) (ti : Nat) (pl : Nat) (ft : Nat → Int32) (q : Nat) (k : Int32) (hq : q < 10) (sz : Nat) : Met l yX1_hasTip wsX1_hasTip rmX1_hasTip (PZ g [.ref rg, .int (nI q), .int k] sz [] [(rg, .inr (2, [.ref mi, .ref ti, .int (nI pl)])), (ti, .inl (g.2.1, 10, .inl ft))]) (va_Qi (fun (r : Int32) (_ : Unit) => r = hasT (ft q) k) (BZ g [] sz (fun (u : Unit) => [])) (va_A [] sz)) 0 0 (va_A [] sz) := by
  refine z_open_i (cc := cX1_hasTip) (maxL := 3) (ret := .boolean) (own := RX1) (by decide) rfl rfl (Nat.le_of_ble_eq_true rfl) ?_
  intro p e s m args below meth c Q h hnm fin
  generalize hAe : va_A [] s.heap.size = A at h fin ⊢
  refine z_lve (lv' := [(0, .ref rg), (1, .int (nI q)), (2, .int k)]) rfl ?_
  refine z_aload_n h dX1_hasTip_0 rfl 0 rfl ?_
  refine z_get h in_X1_hasTip_X1 0 rfl rfl 1 (by decide) lk_X1_hasTip_f15 rfl dX1_hasTip_1 ?_
  refine z_iload_n h dX1_hasTip_4 rfl 1 rfl ?_
  refine z_iald h 1 rfl (vp_in_nI (by omega) (by omega)) dX1_hasTip_5 (v := ft q) (by rw [nI_clamp (by omega)]) ?_
  refine z_iload_n h dX1_hasTip_6 rfl 2 rfl ?_
  refine z_ishr h dX1_hasTip_7 ?_
  refine z_iconst h (v := 1) dX1_hasTip_8 (by decide) ?_
  refine z_iand h dX1_hasTip_9 ?_
  refine z_iconst h (v := 1) dX1_hasTip_10 (by decide) ?_
  have K_11 : Z p l e rmX1_hasTip s m args below meth c Q A g 3 19 [(0, .ref rg), (1, .int (nI q)), (2, .int k)] [.int (if (((ft q) >>> (k &&& 31)) &&& 1) = 1 then 1 else 0)] [] [(rg, .inr (2, [.ref mi, .ref ti, .int (nI pl)])), (ti, .inl (g.2.1, 10, .inl ft))] 0 0 := by
    exact fin _ _ _ () _ _ _ _ dX1_hasTip_19 (nar_ite _) rfl rfl (Nat.le_of_ble_eq_true rfl) (Nat.le_of_ble_eq_true rfl)
  refine z_icmp_ne h (tgt := 18) dX1_hasTip_11 (by decide) (fun c_11 => ?_) (fun c_11 => ?_)
  · refine z_iconst h (v := 0) dX1_hasTip_18 (by decide) ?_
    exact z_topi (if_neg c_11).symm K_11
  · refine z_iconst h (v := 1) dX1_hasTip_14 (by decide) ?_
    refine z_goto h (tgt := 19) dX1_hasTip_15 (by decide) ?_
    exact z_topi (if_pos c_11).symm K_11
abbrev rmX1_putTip : Room := { frames := 0, cells := 0, slots := 0, locals := 0 }
set_option maxHeartbeats 4000000 in
set_option maxRecDepth 100000 in
theorem m_X1_putTip (l : Launch) (g : Gx) (rg : Nat) (mi : Nat) (ti : Nat) (pl : Nat) (ft : Nat → Int32) (q : Nat) (k : Int32) (z : Int32) (hq : q < 10) (sz : Nat) : Met l yX1_putTip wsX1_putTip rmX1_putTip (PZ g [.ref rg, .int (nI q), .int k, .int z] sz [(ti, .inl (g.2.1, 10, .inl ft))] [(rg, .inr (2, [.ref mi, .ref ti, .int (nI pl)]))]) (va_Qv (fun (_ : Unit) => True) (BZ g [(ti, .inl (g.2.1, 10, .inl ft))] sz (fun (u : Unit) => [(ti, .inl (g.2.1, 10, .inl (upd ft q (putT (ft q) k z))))])) (va_A [(ti, .inl (g.2.1, 10, .inl ft))] sz)) 0 0 (va_A [(ti, .inl (g.2.1, 10, .inl ft))] sz) := by
  refine z_open_v (cc := cX1_putTip) (maxL := 5) (own := RX1) (by decide) rfl rfl (Nat.le_of_ble_eq_true rfl) ?_
  intro p e s m args below meth c Q h hnm fin
  generalize hAe : va_A [(ti, .inl (g.2.1, 10, .inl ft))] s.heap.size = A at h fin ⊢
  refine z_lve (lv' := [(0, .ref rg), (1, .int (nI q)), (2, .int k), (3, .int z)]) rfl ?_
  refine z_iconst h (v := 1) dX1_putTip_0 (by decide) ?_
  refine z_iload_n h dX1_putTip_1 rfl 2 rfl ?_
  refine z_ishl h dX1_putTip_2 ?_
  refine z_istore h dX1_putTip_3 (by decide) (lv' := [(0, .ref rg), (1, .int (nI q)), (2, .int k), (3, .int z), (4, .int (1 <<< (k &&& 31)))]) [1, 2, 3, 4, 0] rfl ?_
  refine z_aload_n h dX1_putTip_5 rfl 0 rfl ?_
  refine z_get h in_X1_putTip_X1 1 rfl rfl 1 (by decide) lk_X1_putTip_f15 rfl dX1_putTip_6 ?_
  refine z_iload_n h dX1_putTip_9 rfl 1 rfl ?_
  refine z_iload_n h dX1_putTip_10 rfl 3 rfl ?_
  refine z_if_eq h (tgt := 26) dX1_putTip_11 (by decide) (fun c_11 => ?_) (fun c_11 => ?_)
  · refine z_aload_n h dX1_putTip_26 rfl 0 rfl ?_
    refine z_get h in_X1_putTip_X1 1 rfl rfl 1 (by decide) lk_X1_putTip_f15 rfl dX1_putTip_27 ?_
    refine z_iload_n h dX1_putTip_30 rfl 1 rfl ?_
    refine z_iald h 0 rfl (vp_in_nI (by omega) (by omega)) dX1_putTip_31 (v := ft q) (by rw [nI_clamp (by omega)]) ?_
    refine z_iload h dX1_putTip_32 4 rfl ?_
    refine z_iconst h (v := (-1)) dX1_putTip_34 (by decide) ?_
    refine z_ixor h dX1_putTip_35 ?_
    refine z_iand h dX1_putTip_36 ?_
    refine z_iast h (j := q) 0 rfl (vp_in_nI (by omega) (by omega)) (by rw [nI_clamp (by omega)]) dX1_putTip_37 (wW' := [(ti, .inl (g.2.1, 10, .inl (upd ft q ((ft q) &&& ((1 <<< (k &&& 31)) ^^^ (-1))))))]) rfl ?_
    exact fin _ _ () _ _ _ _ dX1_putTip_38 trivial (by first | rw [putT, if_pos c_11] | rw [putT, if_neg c_11]) (Nat.le_of_ble_eq_true rfl) (Nat.le_of_ble_eq_true rfl)
  · refine z_aload_n h dX1_putTip_14 rfl 0 rfl ?_
    refine z_get h in_X1_putTip_X1 1 rfl rfl 1 (by decide) lk_X1_putTip_f15 rfl dX1_putTip_15 ?_
    refine z_iload_n h dX1_putTip_18 rfl 1 rfl ?_
    refine z_iald h 0 rfl (vp_in_nI (by omega) (by omega)) dX1_putTip_19 (v := ft q) (by rw [nI_clamp (by omega)]) ?_
    refine z_iload h dX1_putTip_20 4 rfl ?_
    refine z_ior h dX1_putTip_22 ?_
    refine z_goto h (tgt := 37) dX1_putTip_23 (by decide) ?_
    refine z_iast h (j := q) 0 rfl (vp_in_nI (by omega) (by omega)) (by rw [nI_clamp (by omega)]) dX1_putTip_37 (wW' := [(ti, .inl (g.2.1, 10, .inl (upd ft q ((ft q) ||| (1 <<< (k &&& 31))))))]) rfl ?_
    exact fin _ _ () _ _ _ _ dX1_putTip_38 trivial (by first | rw [putT, if_pos c_11] | rw [putT, if_neg c_11]) (Nat.le_of_ble_eq_true rfl) (Nat.le_of_ble_eq_true rfl)
abbrev rmX1_add : Room := { frames := 0, cells := 0, slots := 0, locals := 0 }
set_option maxHeartbeats 4000000 in
set_option maxRecDepth 100000 in
theorem m_X1_add (l : Launch) (g : Gx) (rg : Nat) (mi : Nat) (ti : Nat) (pl : Nat)  (sz : Nat) : Met l yX1_add wsX1_add rmX1_add (PZ g [.ref rg] sz [(rg, .inr (2, [.ref mi, .ref ti, .int (nI pl)]))] []) (va_Qi (fun (r : Int32) (_ : Unit) => r = nI pl) (BZ g [(rg, .inr (2, [.ref mi, .ref ti, .int (nI pl)]))] sz (fun (u : Unit) => [(rg, .inr (2, [.ref mi, .ref ti, .int (nI (pl + 1))]))])) (va_A [(rg, .inr (2, [.ref mi, .ref ti, .int (nI pl)]))] sz)) 0 0 (va_A [(rg, .inr (2, [.ref mi, .ref ti, .int (nI pl)]))] sz) := by
  refine z_open_i (cc := cX1_add) (maxL := 2) (ret := .int) (own := RX1) (by decide) rfl rfl (Nat.le_of_ble_eq_true rfl) ?_
  intro p e s m args below meth c Q h hnm fin
  generalize hAe : va_A [(rg, .inr (2, [.ref mi, .ref ti, .int (nI pl)]))] s.heap.size = A at h fin ⊢
  refine z_lve (lv' := [(0, .ref rg)]) rfl ?_
  refine z_aload_n h dX1_add_0 rfl 0 rfl ?_
  refine z_get h in_X1_add_X1 0 rfl rfl 2 (by decide) lk_X1_add_f18 rfl dX1_add_1 ?_
  refine z_istore_n h dX1_add_4 rfl (by decide) (lv' := [(0, .ref rg), (1, .int (nI pl))]) [1, 0] rfl ?_
  refine z_aload_n h dX1_add_5 rfl 0 rfl ?_
  refine z_dup h dX1_add_6 rfl ?_
  refine z_get h in_X1_add_X1 0 rfl rfl 2 (by decide) lk_X1_add_f18 rfl dX1_add_7 ?_
  refine z_iconst h (v := 1) dX1_add_10 (by decide) ?_
  refine z_iadd h dX1_add_11 ?_
  refine z_topi (y := nI (pl + 1)) (nI_1 pl) ?_
  refine z_put h in_X1_add_X1 0 tyX1 tyX1_ok nmX1 rfl rfl 2 (by decide) lk_X1_add_f18 rfl rfl rfl (Nat.le_of_ble_eq_true rfl) dX1_add_12 (wW' := [(rg, .inr (2, [.ref mi, .ref ti, .int (nI (pl + 1))]))]) rfl ?_
  refine z_iload_n h dX1_add_15 rfl 1 rfl ?_
  exact fin _ _ _ () _ _ _ _ dX1_add_16 rfl rfl rfl (Nat.le_of_ble_eq_true rfl) (Nat.le_of_ble_eq_true rfl)
abbrev rmX1_join : Room := { frames := 0, cells := 0, slots := 0, locals := 0 }
set_option maxHeartbeats 4000000 in
set_option maxRecDepth 100000 in
theorem m_X1_join (l : Launch) (g : Gx) (rg : Nat) (mi : Nat) (ti : Nat) (pl : Nat) (fm : Nat → Int32) (a : Nat) (b : Nat) (v : Int32) (ha : a < 10) (hb : b < 10) (sz : Nat) : Met l yX1_join wsX1_join rmX1_join (PZ g [.ref rg, .int (nI a), .int (nI b), .int v] sz [(mi, .inl (g.2.1, 100, .inl fm))] [(rg, .inr (2, [.ref mi, .ref ti, .int (nI pl)]))]) (va_Qv (fun (_ : Unit) => True) (BZ g [(mi, .inl (g.2.1, 100, .inl fm))] sz (fun (u : Unit) => [(mi, .inl (g.2.1, 100, .inl (upd (upd fm (a * 10 + b) v) (b * 10 + a) v)))])) (va_A [(mi, .inl (g.2.1, 100, .inl fm))] sz)) 0 0 (va_A [(mi, .inl (g.2.1, 100, .inl fm))] sz) := by
  refine z_open_v (cc := cX1_join) (maxL := 4) (own := RX1) (by decide) rfl rfl (Nat.le_of_ble_eq_true rfl) ?_
  intro p e s m args below meth c Q h hnm fin
  generalize hAe : va_A [(mi, .inl (g.2.1, 100, .inl fm))] s.heap.size = A at h fin ⊢
  refine z_lve (lv' := [(0, .ref rg), (1, .int (nI a)), (2, .int (nI b)), (3, .int v)]) rfl ?_
  refine z_aload_n h dX1_join_0 rfl 0 rfl ?_
  refine z_get h in_X1_join_X1 1 rfl rfl 0 (by decide) lk_X1_join_f9 rfl dX1_join_1 ?_
  refine z_iload_n h dX1_join_4 rfl 1 rfl ?_
  refine z_bipush h (v := 10) dX1_join_5 (by decide) ?_
  refine z_imul h dX1_join_7 ?_
  refine z_iload_n h dX1_join_8 rfl 2 rfl ?_
  refine z_iadd h dX1_join_9 ?_
  refine z_topi (y := nI (a * 10 + b)) (ix10 a b) ?_
  refine z_iload_n h dX1_join_10 rfl 3 rfl ?_
  refine z_iast h (j := a * 10 + b) 0 rfl (vp_in_nI (by omega) (by omega)) (by rw [nI_clamp (by omega)]) dX1_join_11 (wW' := [(mi, .inl (g.2.1, 100, .inl (upd fm (a * 10 + b) v)))]) rfl ?_
  refine z_aload_n h dX1_join_12 rfl 0 rfl ?_
  refine z_get h in_X1_join_X1 1 rfl rfl 0 (by decide) lk_X1_join_f9 rfl dX1_join_13 ?_
  refine z_iload_n h dX1_join_16 rfl 2 rfl ?_
  refine z_bipush h (v := 10) dX1_join_17 (by decide) ?_
  refine z_imul h dX1_join_19 ?_
  refine z_iload_n h dX1_join_20 rfl 1 rfl ?_
  refine z_iadd h dX1_join_21 ?_
  refine z_topi (y := nI (b * 10 + a)) (ix10 b a) ?_
  refine z_iload_n h dX1_join_22 rfl 3 rfl ?_
  refine z_iast h (j := b * 10 + a) 0 rfl (vp_in_nI (by omega) (by omega)) (by rw [nI_clamp (by omega)]) dX1_join_23 (wW' := [(mi, .inl (g.2.1, 100, .inl (upd (upd fm (a * 10 + b) v) (b * 10 + a) v)))]) rfl ?_
  exact fin _ _ () _ _ _ _ dX1_join_24 trivial rfl (Nat.le_of_ble_eq_true rfl) (Nat.le_of_ble_eq_true rfl)
abbrev rmX1_countTips : Room := { frames := 1, cells := 0, slots := 0, locals := 22 }
set_option maxHeartbeats 4000000 in
set_option maxRecDepth 100000 in
theorem m_X1_countTips (l : Launch) (g : Gx) (rg : Nat) (mi : Nat) (ti : Nat) (pl : Nat) (ft : Nat → Int32) (k : Int32) (hpl : pl ≤ 10) (sz : Nat) : Met l yX1_countTips wsX1_countTips rmX1_countTips (PZ g [.ref rg, .int k] sz [] [(rg, .inr (2, [.ref mi, .ref ti, .int (nI pl)])), (ti, .inl (g.2.1, 10, .inl ft))]) (va_Qi (fun (r : Int32) (_ : Unit) => r = cntT ft k pl) (BZ g [] sz (fun (u : Unit) => [])) (va_A [] sz)) 0 0 (va_A [] sz) := by
  refine z_open_i (cc := cX1_countTips) (maxL := 4) (ret := .int) (own := RX1) (by decide) rfl rfl (Nat.le_of_ble_eq_true rfl) ?_
  intro p e s m args below meth c Q h hnm fin
  generalize hAe : va_A [] s.heap.size = A at h fin ⊢
  refine z_lve (lv' := [(0, .ref rg), (1, .int k)]) rfl ?_
  refine z_iconst h (v := 0) dX1_countTips_0 (by decide) ?_
  refine z_istore_n h dX1_countTips_1 rfl (by decide) (lv' := [(0, .ref rg), (1, .int k), (2, .int 0)]) [1, 2, 0] rfl ?_
  refine z_iconst h (v := 0) dX1_countTips_2 (by decide) ?_
  refine z_istore_n h dX1_countTips_3 rfl (by decide) (lv' := [(0, .ref rg), (1, .int k), (2, .int 0), (3, .int 0)]) [1, 2, 3, 0] rfl ?_
  have L4 : ∀ (L4n i : Nat) , i ≤ pl → pl < L4n + i → Z p l e rmX1_countTips s m args below meth c Q A g 4 4 [(0, .ref rg), (1, .int k), (2, .int (cntT ft k i)), (3, .int (nI i))] [] [] [(rg, .inr (2, [.ref mi, .ref ti, .int (nI pl)])), (ti, .inl (g.2.1, 10, .inl ft))] 0 0 := by
    intro L4n
    induction L4n with
    | zero => intro i  hi hL4 ; exact absurd hL4 (by omega)
    | succ L4n ihL4 =>
      intro i  hi hL4 
      refine z_iload_n h dX1_countTips_4 rfl 3 rfl ?_
      refine z_aload_n h dX1_countTips_5 rfl 0 rfl ?_
      refine z_get h in_X1_countTips_X1 0 rfl rfl 2 (by decide) lk_X1_countTips_f18 rfl dX1_countTips_6 ?_
      refine z_icmp_ge h (tgt := 35) dX1_countTips_9 (by decide) (fun c_9 => ?_) (fun c_9 => ?_)
      · have hipl : i = pl := by have := ge_t c_9 (by omega) (by omega); omega
        subst hipl
        refine z_iload_n h dX1_countTips_35 rfl 2 rfl ?_
        exact fin _ _ _ () _ _ _ _ dX1_countTips_36 rfl rfl rfl (Nat.le_of_ble_eq_true rfl) (Nat.le_of_ble_eq_true rfl)
      · have hlt : i < pl := ge_f c_9 (by omega) (by omega)
        refine z_iload_n h dX1_countTips_12 rfl 2 rfl ?_
        refine z_aload_n h dX1_countTips_13 rfl 0 rfl ?_
        refine z_iload_n h dX1_countTips_14 rfl 3 rfl ?_
        refine z_iload_n h dX1_countTips_15 rfl 1 rfl ?_
        refine z_Vi h (As := [.int (nI i), .int k]) (st := [.int (cntT ft k i)]) (fun sz => m_X1_hasTip l g rg mi ti pl ft i k (by omega) sz) (cwV 2 h.ts gX1_countTips_X1_hasTip rfl rfl rfl (by decide +kernel) ⟨Nat.le_of_ble_eq_true rfl, Nat.le_of_ble_eq_true rfl⟩) rfl [] [0, 1] rfl rfl rfl rfl 0 rfl rfl rfl rfl (Nat.le_of_ble_eq_true rfl) ⟨(Nat.le_of_ble_eq_true rfl), (Nat.le_of_ble_eq_true rfl)⟩ (fun _ => (Nat.le_of_ble_eq_true rfl)) (wN := fun u => []) (fun _ => rfl) dX1_countTips_16 (fun r_16 u_16 h_16 => ?_)
        have K_19 : Z p l e rmX1_countTips s m args below meth c Q A g 4 27 [(0, .ref rg), (1, .int k), (2, .int (cntT ft k i)), (3, .int (nI i))] [.int (if r_16 = 0 then 0 else 1), .int (cntT ft k i)] [] [(rg, .inr (2, [.ref mi, .ref ti, .int (nI pl)])), (ti, .inl (g.2.1, 10, .inl ft))] 0 0 := by
          refine z_iadd h dX1_countTips_27 ?_
          refine z_topi (y := cntT ft k (i + 1)) (by rw [h_16]; rfl) ?_
          refine z_istore_n h dX1_countTips_28 rfl (by decide) (lv' := [(0, .ref rg), (1, .int k), (2, .int (cntT ft k (i + 1))), (3, .int (nI i))]) [1, 2, 0, 3] rfl ?_
          refine z_iinc h (v := nI (i + 1)) dX1_countTips_29 (by decide) 3 rfl (by rw [show Int32.ofInt 1 = nI 1 from rfl, nI_add]) (lv' := [(0, .ref rg), (1, .int k), (2, .int (cntT ft k (i + 1))), (3, .int (nI (i + 1)))]) [1, 2, 3, 0] rfl ?_
          refine z_goto h (tgt := 4) dX1_countTips_32 (by decide) ?_
          exact ihL4 (i + 1)  (by omega) (by omega) 
        refine z_if_eq h (tgt := 26) dX1_countTips_19 (by decide) (fun c_19 => ?_) (fun c_19 => ?_)
        · refine z_iconst h (v := 0) dX1_countTips_26 (by decide) ?_
          exact z_topi (if_pos c_19).symm K_19
        · refine z_iconst h (v := 1) dX1_countTips_22 (by decide) ?_
          refine z_goto h (tgt := 27) dX1_countTips_23 (by decide) ?_
          exact z_topi (if_neg c_19).symm K_19
  exact L4 (pl + 1 - 0) 0  (by omega) (by omega) 
abbrev rmX1_overTip : Room := { frames := 1, cells := 0, slots := 0, locals := 23 }
set_option maxHeartbeats 4000000 in
set_option maxRecDepth 100000 in
theorem m_X1_overTip (l : Launch) (g : Gx) (rg : Nat) (mi : Nat) (ti : Nat) (pl : Nat) (fm : Nat → Int32) (ft : Nat → Int32) (k : Int32) (a : Nat) (b : Nat) (hpl : pl ≤ 10) (ha : a < 10) (hb : b < 10) (sz : Nat) : Met l yX1_overTip wsX1_overTip rmX1_overTip (PZ g [.ref rg, .int k, .int (nI a), .int (nI b)] sz [] [(rg, .inr (2, [.ref mi, .ref ti, .int (nI pl)])), (mi, .inl (g.2.1, 100, .inl fm)), (ti, .inl (g.2.1, 10, .inl ft))]) (va_Qi (fun (r : Int32) (_ : Unit) => r = ovT fm ft k a b pl) (BZ g [] sz (fun (u : Unit) => [])) (va_A [] sz)) 0 0 (va_A [] sz) := by
  refine z_open_i (cc := cX1_overTip) (maxL := 6) (ret := .int) (own := RX1) (by decide) rfl rfl (Nat.le_of_ble_eq_true rfl) ?_
  intro p e s m args below meth c Q h hnm fin
  generalize hAe : va_A [] s.heap.size = A at h fin ⊢
  refine z_lve (lv' := [(0, .ref rg), (1, .int k), (2, .int (nI a)), (3, .int (nI b))]) rfl ?_
  refine z_sipush h (v := 240) dX1_overTip_0 (by decide) ?_
  refine z_istore h dX1_overTip_3 (by decide) (lv' := [(0, .ref rg), (1, .int k), (2, .int (nI a)), (3, .int (nI b)), (4, .int 240)]) [1, 2, 3, 4, 0] rfl ?_
  refine z_iconst h (v := 0) dX1_overTip_5 (by decide) ?_
  refine z_istore h dX1_overTip_6 (by decide) (lv' := [(0, .ref rg), (1, .int k), (2, .int (nI a)), (3, .int (nI b)), (4, .int 240), (5, .int 0)]) [1, 2, 3, 4, 5, 0] rfl ?_
  have L8 : ∀ (L8n i : Nat) (x4 : Int32), i ≤ pl → pl < L8n + i → x4 = ovT fm ft k a b i → Z p l e rmX1_overTip s m args below meth c Q A g 6 8 [(0, .ref rg), (1, .int k), (2, .int (nI a)), (3, .int (nI b)), (4, .int x4), (5, .int (nI i))] [] [] [(rg, .inr (2, [.ref mi, .ref ti, .int (nI pl)])), (mi, .inl (g.2.1, 100, .inl fm)), (ti, .inl (g.2.1, 10, .inl ft))] 0 0 := by
    intro L8n
    induction L8n with
    | zero => intro i x4 hi hL8 e4; exact absurd hL8 (by omega)
    | succ L8n ihL8 =>
      intro i x4 hi hL8 e4
      refine z_iload h dX1_overTip_8 5 rfl ?_
      refine z_aload_n h dX1_overTip_10 rfl 0 rfl ?_
      refine z_get h in_X1_overTip_X1 0 rfl rfl 2 (by decide) lk_X1_overTip_f18 rfl dX1_overTip_11 ?_
      refine z_icmp_ge h (tgt := 55) dX1_overTip_14 (by decide) (fun c_14 => ?_) (fun c_14 => ?_)
      · have hipl : i = pl := by have := ge_t c_14 (by omega) (by omega); omega
        subst hipl
        refine z_iload h dX1_overTip_55 4 rfl ?_
        exact fin _ _ _ () _ _ _ _ dX1_overTip_57 rfl e4 rfl (Nat.le_of_ble_eq_true rfl) (Nat.le_of_ble_eq_true rfl)
      · have hlt : i < pl := ge_f c_14 (by omega) (by omega)
        refine z_aload_n h dX1_overTip_17 rfl 0 rfl ?_
        refine z_iload h dX1_overTip_18 5 rfl ?_
        refine z_iload_n h dX1_overTip_20 rfl 1 rfl ?_
        refine z_Vi h (As := [.int (nI i), .int k]) (st := []) (fun sz => m_X1_hasTip l g rg mi ti pl ft i k (by omega) sz) (cwV 2 h.ts gX1_overTip_X1_hasTip rfl rfl rfl (by decide +kernel) ⟨Nat.le_of_ble_eq_true rfl, Nat.le_of_ble_eq_true rfl⟩) rfl [] [0, 2] rfl rfl rfl rfl 0 rfl rfl rfl rfl (Nat.le_of_ble_eq_true rfl) ⟨(Nat.le_of_ble_eq_true rfl), (Nat.le_of_ble_eq_true rfl)⟩ (fun _ => (Nat.le_of_ble_eq_true rfl)) (wN := fun u => []) (fun _ => rfl) dX1_overTip_21 (fun r_21 u_21 h_21 => ?_)
        refine z_if_eq h (tgt := 49) dX1_overTip_24 (by decide) (fun c_24 => ?_) (fun c_24 => ?_)
        · refine z_iinc h (v := nI (i + 1)) dX1_overTip_49 (by decide) 5 rfl (by rw [show Int32.ofInt 1 = nI 1 from rfl, nI_add]) (lv' := [(0, .ref rg), (1, .int k), (2, .int (nI a)), (3, .int (nI b)), (4, .int x4), (5, .int (nI (i + 1)))]) [1, 2, 3, 4, 5, 0] rfl ?_
          refine z_goto h (tgt := 8) dX1_overTip_52 (by decide) ?_
          exact ihL8 (i + 1) x4 (by omega) (by omega) (by first | exact e4.trans (ovT_t (by rw [← h_21]; exact c_24)).symm | (rw [ovT_f (by rw [← h_21]; exact c_24), e4, h_33, h_40]))
        · refine z_iload h dX1_overTip_27 4 rfl ?_
          refine z_aload_n h dX1_overTip_29 rfl 0 rfl ?_
          refine z_iload_n h dX1_overTip_30 rfl 2 rfl ?_
          refine z_iload h dX1_overTip_31 5 rfl ?_
          refine z_Vi h (As := [.int (nI a), .int (nI i)]) (st := [.int x4]) (fun sz => m_X1_between l g rg mi ti pl fm a i (by omega) (by omega) sz) (cwV 2 h.ts gX1_overTip_X1_between rfl rfl rfl (by decide +kernel) ⟨Nat.le_of_ble_eq_true rfl, Nat.le_of_ble_eq_true rfl⟩) rfl [] [0, 1] rfl rfl rfl rfl 0 rfl rfl rfl rfl (Nat.le_of_ble_eq_true rfl) ⟨(Nat.le_of_ble_eq_true rfl), (Nat.le_of_ble_eq_true rfl)⟩ (fun _ => (Nat.le_of_ble_eq_true rfl)) (wN := fun u => []) (fun _ => rfl) dX1_overTip_33 (fun r_33 u_33 h_33 => ?_)
          refine z_aload_n h dX1_overTip_36 rfl 0 rfl ?_
          refine z_iload h dX1_overTip_37 5 rfl ?_
          refine z_iload_n h dX1_overTip_39 rfl 3 rfl ?_
          refine z_Vi h (As := [.int (nI i), .int (nI b)]) (st := [.int r_33, .int x4]) (fun sz => m_X1_between l g rg mi ti pl fm i b (by omega) (by omega) sz) (cwV 2 h.ts gX1_overTip_X1_between rfl rfl rfl (by decide +kernel) ⟨Nat.le_of_ble_eq_true rfl, Nat.le_of_ble_eq_true rfl⟩) rfl [] [0, 1] rfl rfl rfl rfl 0 rfl rfl rfl rfl (Nat.le_of_ble_eq_true rfl) ⟨(Nat.le_of_ble_eq_true rfl), (Nat.le_of_ble_eq_true rfl)⟩ (fun _ => (Nat.le_of_ble_eq_true rfl)) (wN := fun u => []) (fun _ => rfl) dX1_overTip_40 (fun r_40 u_40 h_40 => ?_)
          refine z_iadd h dX1_overTip_43 ?_
          refine z_mmin h lk_X1_overTip_m30 lk_X1_overTip_smin lk_X1_overTip_imin lk_X1_overTip_kmin (Nat.le_of_ble_eq_true rfl) (Nat.le_of_ble_eq_true rfl) (Nat.le_of_ble_eq_true rfl) (Nat.le_of_ble_eq_true rfl) dX1_overTip_44 ?_
          refine z_istore h dX1_overTip_47 (by decide) (lv' := [(0, .ref rg), (1, .int k), (2, .int (nI a)), (3, .int (nI b)), (4, .int (if (r_33 + r_40) < x4 then (r_33 + r_40) else x4)), (5, .int (nI i))]) [1, 2, 3, 4, 0, 5] rfl ?_
          refine z_iinc h (v := nI (i + 1)) dX1_overTip_49 (by decide) 5 rfl (by rw [show Int32.ofInt 1 = nI 1 from rfl, nI_add]) (lv' := [(0, .ref rg), (1, .int k), (2, .int (nI a)), (3, .int (nI b)), (4, .int (if (r_33 + r_40) < x4 then (r_33 + r_40) else x4)), (5, .int (nI (i + 1)))]) [1, 2, 3, 4, 5, 0] rfl ?_
          refine z_goto h (tgt := 8) dX1_overTip_52 (by decide) ?_
          exact ihL8 (i + 1) (if (r_33 + r_40) < x4 then (r_33 + r_40) else x4) (by omega) (by omega) (by first | exact e4.trans (ovT_t (by rw [← h_21]; exact c_24)).symm | (rw [ovT_f (by rw [← h_21]; exact c_24), e4, h_33, h_40]))
  exact L8 (pl + 1 - 0) 0 240 (by omega) (by omega) rfl
