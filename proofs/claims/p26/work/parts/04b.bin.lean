def fct (b : Nat → Int32) (j : Nat) : Int32 := if j = 0 then b 0 else if j = 1 then b 1 else if j = 2 then b 4 else if j = 3 then b 5 else if j = 4 then b 6 else if j = 5 then b 7 else if j = 6 then b 8 else if b 9 = 0 then 0 else 1
def fcst (z r em d : Int32) : Int32 := if r * (d - em) / 10 < z then r * (d - em) / 10 else z
def fulB (b : Nat → Int32) (d : Int32) : Int32 := if fcst (b 2) (b 5) (b 6) d = b 2 then 1 else 0
def dueB (b : Nat → Int32) (d w : Int32) : Int32 := if 3 * b 2 ≤ 4 * fcst (b 2) (b 5) (b 6) d then 1 else fulB b w
def wstB (b : Nat → Int32) : Int32 := if 0 < b 4 + b 3 - b 2 then b 4 + b 3 - b 2 else 0
def filB (b : Nat → Int32) : Nat → Int32 := upd (upd b 4 (b 4 + b 3 - wstB b)) 7 (b 7 + (if wstB b ≤ 0 then 0 else 1))
def ratB (b : Nat → Int32) (d : Int32) : Int32 := if d - b 6 ≤ 0 then b 5 else (b 5 * 3 + 10 * b 4 / (d - b 6)) / 4
def endB (b : Nat → Int32) (tk d : Int32) : Nat → Int32 := if b 9 = 0 then upd (upd (upd b 5 (ratB b d)) 6 d) 4 (b 4 - tk) else upd (upd b 9 0) 8 (b 8 + 1)
theorem fulB_01 (b : Nat → Int32) (d : Int32) : fulB b d = 0 ∨ fulB b d = 1 := by unfold fulB; split <;> simp
theorem in_X0_init_X0 : ∀ w ∈ wsX00, w ∈ wsX0_init := by decide +kernel
theorem lk_X0_init_f13 : Cond.fieldLink RX0 13 (TX0 1).1 (TX0 1).2.1 (TX0 1).2.2.1 ∈ wsX0_init := by decide +kernel
theorem lk_X0_init_f16 : Cond.fieldLink RX0 16 (TX0 2).1 (TX0 2).2.1 (TX0 2).2.2.1 ∈ wsX0_init := by decide +kernel
theorem lk_X0_init_f19 : Cond.fieldLink RX0 19 (TX0 3).1 (TX0 3).2.1 (TX0 3).2.2.1 ∈ wsX0_init := by decide +kernel
theorem lk_X0_init_f22 : Cond.fieldLink RX0 22 (TX0 4).1 (TX0 4).2.1 (TX0 4).2.2.1 ∈ wsX0_init := by decide +kernel
theorem lk_X0_init_f25 : Cond.fieldLink RX0 25 (TX0 5).1 (TX0 5).2.1 (TX0 5).2.2.1 ∈ wsX0_init := by decide +kernel
theorem lk_X0_init_f28 : Cond.fieldLink RX0 28 (TX0 6).1 (TX0 6).2.1 (TX0 6).2.2.1 ∈ wsX0_init := by decide +kernel
theorem lk_X0_init_f31 : Cond.fieldLink RX0 31 (TX0 7).1 (TX0 7).2.1 (TX0 7).2.2.1 ∈ wsX0_init := by decide +kernel
theorem lk_X0_init_f34 : Cond.fieldLink RX0 34 (TX0 8).1 (TX0 8).2.1 (TX0 8).2.2.1 ∈ wsX0_init := by decide +kernel
theorem lk_X0_init_f37 : Cond.fieldLink RX0 37 (TX0 9).1 (TX0 9).2.1 (TX0 9).2.2.1 ∈ wsX0_init := by decide +kernel
theorem lk_X0_init_f7 : Cond.fieldLink RX0 7 (TX0 0).1 (TX0 0).2.1 (TX0 0).2.2.1 ∈ wsX0_init := by decide +kernel
theorem lk_X0_init_m1 : Cond.methodLink RX0 1 objectInit ∈ wsX0_init := by decide +kernel
theorem lk_X0_init_oc : Cond.code objectInit ⟨#[0xb1]⟩ 1 none ∈ wsX0_init := by decide +kernel
theorem lk_X0_init_oi : Cond.instanceMethod objectInit ∈ wsX0_init := by decide +kernel
theorem in_X0_fact_X0 : ∀ w ∈ wsX00, w ∈ wsX0_fact := by decide +kernel
theorem lk_X0_fact_f13 : Cond.fieldLink RX0 13 (TX0 1).1 (TX0 1).2.1 (TX0 1).2.2.1 ∈ wsX0_fact := by decide +kernel
theorem lk_X0_fact_f22 : Cond.fieldLink RX0 22 (TX0 4).1 (TX0 4).2.1 (TX0 4).2.2.1 ∈ wsX0_fact := by decide +kernel
theorem lk_X0_fact_f25 : Cond.fieldLink RX0 25 (TX0 5).1 (TX0 5).2.1 (TX0 5).2.2.1 ∈ wsX0_fact := by decide +kernel
theorem lk_X0_fact_f28 : Cond.fieldLink RX0 28 (TX0 6).1 (TX0 6).2.1 (TX0 6).2.2.1 ∈ wsX0_fact := by decide +kernel
theorem lk_X0_fact_f31 : Cond.fieldLink RX0 31 (TX0 7).1 (TX0 7).2.1 (TX0 7).2.2.1 ∈ wsX0_fact := by decide +kernel
theorem lk_X0_fact_f34 : Cond.fieldLink RX0 34 (TX0 8).1 (TX0 8).2.1 (TX0 8).2.2.1 ∈ wsX0_fact := by decide +kernel
theorem lk_X0_fact_f37 : Cond.fieldLink RX0 37 (TX0 9).1 (TX0 9).2.1 (TX0 9).2.2.1 ∈ wsX0_fact := by decide +kernel
theorem lk_X0_fact_f7 : Cond.fieldLink RX0 7 (TX0 0).1 (TX0 0).2.1 (TX0 0).2.2.1 ∈ wsX0_fact := by decide +kernel
theorem in_X0_forecast_X0 : ∀ w ∈ wsX00, w ∈ wsX0_forecast := by decide +kernel
theorem lk_X0_forecast_f16 : Cond.fieldLink RX0 16 (TX0 2).1 (TX0 2).2.1 (TX0 2).2.2.1 ∈ wsX0_forecast := by decide +kernel
theorem lk_X0_forecast_f25 : Cond.fieldLink RX0 25 (TX0 5).1 (TX0 5).2.1 (TX0 5).2.2.1 ∈ wsX0_forecast := by decide +kernel
theorem lk_X0_forecast_f28 : Cond.fieldLink RX0 28 (TX0 6).1 (TX0 6).2.1 (TX0 6).2.2.1 ∈ wsX0_forecast := by decide +kernel
theorem lk_X0_forecast_imin : Cond.initialized "java/lang/Math" ∈ wsX0_forecast := by decide +kernel
theorem lk_X0_forecast_kmin : Cond.code Lib.Math.min.name Lib.Math.min.code 2 (some .int) ∈ wsX0_forecast := by decide +kernel
theorem lk_X0_forecast_m41 : Cond.methodLink RX0 41 Lib.Math.min.name ∈ wsX0_forecast := by decide +kernel
theorem lk_X0_forecast_smin : Cond.static Lib.Math.min.name ∈ wsX0_forecast := by decide +kernel
theorem in_X0_isFullOn_X0 : ∀ w ∈ wsX00, w ∈ wsX0_isFullOn := by decide +kernel
theorem lk_X0_isFullOn_f16 : Cond.fieldLink RX0 16 (TX0 2).1 (TX0 2).2.1 (TX0 2).2.2.1 ∈ wsX0_isFullOn := by decide +kernel
theorem in_X0_isDue_X0 : ∀ w ∈ wsX00, w ∈ wsX0_isDue := by decide +kernel
theorem lk_X0_isDue_f16 : Cond.fieldLink RX0 16 (TX0 2).1 (TX0 2).2.1 (TX0 2).2.2.1 ∈ wsX0_isDue := by decide +kernel
theorem in_X0_fill_X0 : ∀ w ∈ wsX00, w ∈ wsX0_fill := by decide +kernel
theorem lk_X0_fill_f16 : Cond.fieldLink RX0 16 (TX0 2).1 (TX0 2).2.1 (TX0 2).2.2.1 ∈ wsX0_fill := by decide +kernel
theorem lk_X0_fill_f19 : Cond.fieldLink RX0 19 (TX0 3).1 (TX0 3).2.1 (TX0 3).2.2.1 ∈ wsX0_fill := by decide +kernel
theorem lk_X0_fill_f22 : Cond.fieldLink RX0 22 (TX0 4).1 (TX0 4).2.1 (TX0 4).2.2.1 ∈ wsX0_fill := by decide +kernel
theorem lk_X0_fill_f31 : Cond.fieldLink RX0 31 (TX0 7).1 (TX0 7).2.1 (TX0 7).2.2.1 ∈ wsX0_fill := by decide +kernel
theorem lk_X0_fill_imax : Cond.initialized "java/lang/Math" ∈ wsX0_fill := by decide +kernel
theorem lk_X0_fill_kmax : Cond.code Lib.Math.max.name Lib.Math.max.code 2 (some .int) ∈ wsX0_fill := by decide +kernel
theorem lk_X0_fill_m55 : Cond.methodLink RX0 55 Lib.Math.max.name ∈ wsX0_fill := by decide +kernel
theorem lk_X0_fill_smax : Cond.static Lib.Math.max.name ∈ wsX0_fill := by decide +kernel
theorem in_X0_endVisit_X0 : ∀ w ∈ wsX00, w ∈ wsX0_endVisit := by decide +kernel
theorem lk_X0_endVisit_f22 : Cond.fieldLink RX0 22 (TX0 4).1 (TX0 4).2.1 (TX0 4).2.2.1 ∈ wsX0_endVisit := by decide +kernel
theorem lk_X0_endVisit_f25 : Cond.fieldLink RX0 25 (TX0 5).1 (TX0 5).2.1 (TX0 5).2.2.1 ∈ wsX0_endVisit := by decide +kernel
theorem lk_X0_endVisit_f28 : Cond.fieldLink RX0 28 (TX0 6).1 (TX0 6).2.1 (TX0 6).2.2.1 ∈ wsX0_endVisit := by decide +kernel
theorem lk_X0_endVisit_f34 : Cond.fieldLink RX0 34 (TX0 8).1 (TX0 8).2.1 (TX0 8).2.2.1 ∈ wsX0_endVisit := by decide +kernel
theorem lk_X0_endVisit_f37 : Cond.fieldLink RX0 37 (TX0 9).1 (TX0 9).2.1 (TX0 9).2.2.1 ∈ wsX0_endVisit := by decide +kernel
abbrev rmX0_init : Room := { frames := 1, cells := 0, slots := 0, locals := 12 }
set_option maxHeartbeats 4000000 in
set_option maxRecDepth 100000 in
theorem m_X0_init (l : Launch) (g : Gx) (bn : Nat) (p1 : Int32) (k1 : Int32) (z1 : Int32) (g1 : Int32) (d1 : Int32)  (sz : Nat) : Met l yX0_init wsX0_init rmX0_init (PZ g [.ref bn, .int p1, .int k1, .int z1, .int g1, .int d1] sz [(bn, .inr (1, [.int 0, .int 0, .int 0, .int 0, .int 0, .int 0, .int 0, .int 0, .int 0, .int 0]))] []) (va_Qv (fun (_ : Unit) => True) (BZ g [(bn, .inr (1, [.int 0, .int 0, .int 0, .int 0, .int 0, .int 0, .int 0, .int 0, .int 0, .int 0]))] sz (fun (u : Unit) => [(bn, .inr (1, [.int p1, .int k1, .int z1, .int g1, .int 0, .int (z1 / 2), .int d1, .int 0, .int 0, .int 0]))])) (va_A [(bn, .inr (1, [.int 0, .int 0, .int 0, .int 0, .int 0, .int 0, .int 0, .int 0, .int 0, .int 0]))] sz)) 0 0 (va_A [(bn, .inr (1, [.int 0, .int 0, .int 0, .int 0, .int 0, .int 0, .int 0, .int 0, .int 0, .int 0]))] sz) := by
  refine z_open_v (cc := cX0_init) (maxL := 6) (own := RX0) (by decide) rfl rfl (Nat.le_of_ble_eq_true rfl) ?_
  intro p e s m args below meth c Q h hnm fin
  generalize hAe : va_A [(bn, .inr (1, [.int 0, .int 0, .int 0, .int 0, .int 0, .int 0, .int 0, .int 0, .int 0, .int 0]))] s.heap.size = A at h fin ⊢
  refine z_lve (lv' := [(0, .ref bn), (1, .int p1), (2, .int k1), (3, .int z1), (4, .int g1), (5, .int d1)]) rfl ?_
  refine z_aload_n h dX0_init_0 rfl 0 rfl ?_
  refine z_objInit h lk_X0_init_m1 lk_X0_init_oi lk_X0_init_oc dX0_init_1 (Nat.le_of_ble_eq_true rfl) (Nat.le_of_ble_eq_true rfl) ?_
  refine z_aload_n h dX0_init_4 rfl 0 rfl ?_
  refine z_iload_n h dX0_init_5 rfl 1 rfl ?_
  refine z_putF h in_X0_init_X0 0 tyX0 tyX0_ok nmX0 rfl rfl 0 (by decide) lk_X0_init_f7 rfl hnm rfl rfl rfl (Nat.le_of_ble_eq_true rfl) dX0_init_6 (wW' := [(bn, .inr (1, [.int p1, .int 0, .int 0, .int 0, .int 0, .int 0, .int 0, .int 0, .int 0, .int 0]))]) rfl ?_
  refine z_aload_n h dX0_init_9 rfl 0 rfl ?_
  refine z_iload_n h dX0_init_10 rfl 2 rfl ?_
  refine z_putF h in_X0_init_X0 0 tyX0 tyX0_ok nmX0 rfl rfl 1 (by decide) lk_X0_init_f13 rfl hnm rfl rfl rfl (Nat.le_of_ble_eq_true rfl) dX0_init_11 (wW' := [(bn, .inr (1, [.int p1, .int k1, .int 0, .int 0, .int 0, .int 0, .int 0, .int 0, .int 0, .int 0]))]) rfl ?_
  refine z_aload_n h dX0_init_14 rfl 0 rfl ?_
  refine z_iload_n h dX0_init_15 rfl 3 rfl ?_
  refine z_putF h in_X0_init_X0 0 tyX0 tyX0_ok nmX0 rfl rfl 2 (by decide) lk_X0_init_f16 rfl hnm rfl rfl rfl (Nat.le_of_ble_eq_true rfl) dX0_init_16 (wW' := [(bn, .inr (1, [.int p1, .int k1, .int z1, .int 0, .int 0, .int 0, .int 0, .int 0, .int 0, .int 0]))]) rfl ?_
  refine z_aload_n h dX0_init_19 rfl 0 rfl ?_
  refine z_iload h dX0_init_20 4 rfl ?_
  refine z_put h in_X0_init_X0 0 tyX0 tyX0_ok nmX0 rfl rfl 3 (by decide) lk_X0_init_f19 rfl rfl rfl (Nat.le_of_ble_eq_true rfl) dX0_init_22 (wW' := [(bn, .inr (1, [.int p1, .int k1, .int z1, .int g1, .int 0, .int 0, .int 0, .int 0, .int 0, .int 0]))]) rfl ?_
  refine z_aload_n h dX0_init_25 rfl 0 rfl ?_
  refine z_iconst h (v := 0) dX0_init_26 (by decide) ?_
  refine z_put h in_X0_init_X0 0 tyX0 tyX0_ok nmX0 rfl rfl 4 (by decide) lk_X0_init_f22 rfl rfl rfl (Nat.le_of_ble_eq_true rfl) dX0_init_27 (wW' := [(bn, .inr (1, [.int p1, .int k1, .int z1, .int g1, .int 0, .int 0, .int 0, .int 0, .int 0, .int 0]))]) rfl ?_
  refine z_aload_n h dX0_init_30 rfl 0 rfl ?_
  refine z_iload_n h dX0_init_31 rfl 3 rfl ?_
  refine z_iconst h (v := 2) dX0_init_32 (by decide) ?_
  refine z_idiv h dX0_init_33 (by decide) ?_
  refine z_put h in_X0_init_X0 0 tyX0 tyX0_ok nmX0 rfl rfl 5 (by decide) lk_X0_init_f25 rfl rfl rfl (Nat.le_of_ble_eq_true rfl) dX0_init_34 (wW' := [(bn, .inr (1, [.int p1, .int k1, .int z1, .int g1, .int 0, .int (z1 / 2), .int 0, .int 0, .int 0, .int 0]))]) rfl ?_
  refine z_aload_n h dX0_init_37 rfl 0 rfl ?_
  refine z_iload h dX0_init_38 5 rfl ?_
  refine z_put h in_X0_init_X0 0 tyX0 tyX0_ok nmX0 rfl rfl 6 (by decide) lk_X0_init_f28 rfl rfl rfl (Nat.le_of_ble_eq_true rfl) dX0_init_40 (wW' := [(bn, .inr (1, [.int p1, .int k1, .int z1, .int g1, .int 0, .int (z1 / 2), .int d1, .int 0, .int 0, .int 0]))]) rfl ?_
  refine z_aload_n h dX0_init_43 rfl 0 rfl ?_
  refine z_iconst h (v := 0) dX0_init_44 (by decide) ?_
  refine z_put h in_X0_init_X0 0 tyX0 tyX0_ok nmX0 rfl rfl 7 (by decide) lk_X0_init_f31 rfl rfl rfl (Nat.le_of_ble_eq_true rfl) dX0_init_45 (wW' := [(bn, .inr (1, [.int p1, .int k1, .int z1, .int g1, .int 0, .int (z1 / 2), .int d1, .int 0, .int 0, .int 0]))]) rfl ?_
  refine z_aload_n h dX0_init_48 rfl 0 rfl ?_
  refine z_iconst h (v := 0) dX0_init_49 (by decide) ?_
  refine z_put h in_X0_init_X0 0 tyX0 tyX0_ok nmX0 rfl rfl 8 (by decide) lk_X0_init_f34 rfl rfl rfl (Nat.le_of_ble_eq_true rfl) dX0_init_50 (wW' := [(bn, .inr (1, [.int p1, .int k1, .int z1, .int g1, .int 0, .int (z1 / 2), .int d1, .int 0, .int 0, .int 0]))]) rfl ?_
  refine z_aload_n h dX0_init_53 rfl 0 rfl ?_
  refine z_iconst h (v := 0) dX0_init_54 (by decide) ?_
  refine z_put h in_X0_init_X0 0 tyX0 tyX0_ok nmX0 rfl rfl 9 (by decide) lk_X0_init_f37 rfl rfl rfl (Nat.le_of_ble_eq_true rfl) dX0_init_55 (wW' := [(bn, .inr (1, [.int p1, .int k1, .int z1, .int g1, .int 0, .int (z1 / 2), .int d1, .int 0, .int 0, .int 0]))]) rfl ?_
  exact fin _ _ () _ _ _ _ dX0_init_58 trivial rfl (Nat.le_of_ble_eq_true rfl) (Nat.le_of_ble_eq_true rfl)
abbrev rmX0_fact : Room := { frames := 0, cells := 0, slots := 0, locals := 0 }
set_option maxHeartbeats 4000000 in
set_option maxRecDepth 100000 in
theorem m_X0_fact (l : Launch) (g : Gx) (bn : Nat) (b : Nat → Int32) (j : Nat) (hj : j < 8) (sz : Nat) : Met l yX0_fact wsX0_fact rmX0_fact (PZ g [.ref bn, .int (nI j)] sz [] [(bn, .inr (1, [.int (b 0), .int (b 1), .int (b 2), .int (b 3), .int (b 4), .int (b 5), .int (b 6), .int (b 7), .int (b 8), .int (b 9)]))]) (va_Qi (fun (r : Int32) (_ : Unit) => r = fct b j) (BZ g [] sz (fun (u : Unit) => [])) (va_A [] sz)) 0 0 (va_A [] sz) := by
  refine z_open_i (cc := cX0_fact) (maxL := 2) (ret := .int) (own := RX0) (by decide) rfl rfl (Nat.le_of_ble_eq_true rfl) ?_
  intro p e s m args below meth c Q h hnm fin
  generalize hAe : va_A [] s.heap.size = A at h fin ⊢
  refine z_lve (lv' := [(0, .ref bn), (1, .int (nI j))]) rfl ?_
  refine z_iload_n h dX0_fact_0 rfl 1 rfl ?_
  rcases (show j = 0 ∨ j = 1 ∨ j = 2 ∨ j = 3 ∨ j = 4 ∨ j = 5 ∨ j = 6 ∨ j = 7 by omega) with rfl | rfl | rfl | rfl | rfl | rfl | rfl | rfl
  · refine z_tableIn h (tgt := 44) dX0_fact_1 (by decide) (by decide) (off := 43) (by decide) (by decide) ?_
    refine z_aload_n h dX0_fact_44 rfl 0 rfl ?_
    refine z_get h in_X0_fact_X0 0 rfl rfl 0 (by decide) lk_X0_fact_f7 rfl dX0_fact_45 ?_
    exact fin _ _ _ () _ _ _ _ dX0_fact_48 rfl rfl rfl (Nat.le_of_ble_eq_true rfl) (Nat.le_of_ble_eq_true rfl)
  · refine z_tableIn h (tgt := 49) dX0_fact_1 (by decide) (by decide) (off := 48) (by decide) (by decide) ?_
    refine z_aload_n h dX0_fact_49 rfl 0 rfl ?_
    refine z_get h in_X0_fact_X0 0 rfl rfl 1 (by decide) lk_X0_fact_f13 rfl dX0_fact_50 ?_
    exact fin _ _ _ () _ _ _ _ dX0_fact_53 rfl rfl rfl (Nat.le_of_ble_eq_true rfl) (Nat.le_of_ble_eq_true rfl)
  · refine z_tableIn h (tgt := 54) dX0_fact_1 (by decide) (by decide) (off := 53) (by decide) (by decide) ?_
    refine z_aload_n h dX0_fact_54 rfl 0 rfl ?_
    refine z_get h in_X0_fact_X0 0 rfl rfl 4 (by decide) lk_X0_fact_f22 rfl dX0_fact_55 ?_
    exact fin _ _ _ () _ _ _ _ dX0_fact_58 rfl rfl rfl (Nat.le_of_ble_eq_true rfl) (Nat.le_of_ble_eq_true rfl)
  · refine z_tableIn h (tgt := 59) dX0_fact_1 (by decide) (by decide) (off := 58) (by decide) (by decide) ?_
    refine z_aload_n h dX0_fact_59 rfl 0 rfl ?_
    refine z_get h in_X0_fact_X0 0 rfl rfl 5 (by decide) lk_X0_fact_f25 rfl dX0_fact_60 ?_
    exact fin _ _ _ () _ _ _ _ dX0_fact_63 rfl rfl rfl (Nat.le_of_ble_eq_true rfl) (Nat.le_of_ble_eq_true rfl)
  · refine z_tableIn h (tgt := 64) dX0_fact_1 (by decide) (by decide) (off := 63) (by decide) (by decide) ?_
    refine z_aload_n h dX0_fact_64 rfl 0 rfl ?_
    refine z_get h in_X0_fact_X0 0 rfl rfl 6 (by decide) lk_X0_fact_f28 rfl dX0_fact_65 ?_
    exact fin _ _ _ () _ _ _ _ dX0_fact_68 rfl rfl rfl (Nat.le_of_ble_eq_true rfl) (Nat.le_of_ble_eq_true rfl)
  · refine z_tableIn h (tgt := 69) dX0_fact_1 (by decide) (by decide) (off := 68) (by decide) (by decide) ?_
    refine z_aload_n h dX0_fact_69 rfl 0 rfl ?_
    refine z_get h in_X0_fact_X0 0 rfl rfl 7 (by decide) lk_X0_fact_f31 rfl dX0_fact_70 ?_
    exact fin _ _ _ () _ _ _ _ dX0_fact_73 rfl rfl rfl (Nat.le_of_ble_eq_true rfl) (Nat.le_of_ble_eq_true rfl)
  · refine z_tableIn h (tgt := 74) dX0_fact_1 (by decide) (by decide) (off := 73) (by decide) (by decide) ?_
    refine z_aload_n h dX0_fact_74 rfl 0 rfl ?_
    refine z_get h in_X0_fact_X0 0 rfl rfl 8 (by decide) lk_X0_fact_f34 rfl dX0_fact_75 ?_
    exact fin _ _ _ () _ _ _ _ dX0_fact_78 rfl rfl rfl (Nat.le_of_ble_eq_true rfl) (Nat.le_of_ble_eq_true rfl)
  · refine z_tableOut h (tgt := 79) dX0_fact_1 (by decide) (by decide) ?_
    refine z_aload_n h dX0_fact_79 rfl 0 rfl ?_
    refine z_get h in_X0_fact_X0 0 rfl rfl 9 (by decide) lk_X0_fact_f37 rfl dX0_fact_80 ?_
    have K_83 : Z p l e rmX0_fact s m args below meth c Q A g 2 91 [(0, .ref bn), (1, .int (nI 7))] [.int (if (b 9) = 0 then 0 else 1)] [] [(bn, .inr (1, [.int (b 0), .int (b 1), .int (b 2), .int (b 3), .int (b 4), .int (b 5), .int (b 6), .int (b 7), .int (b 8), .int (b 9)]))] 0 0 := by
      exact fin _ _ _ () _ _ _ _ dX0_fact_91 rfl rfl rfl (Nat.le_of_ble_eq_true rfl) (Nat.le_of_ble_eq_true rfl)
    refine z_if_eq h (tgt := 90) dX0_fact_83 (by decide) (fun c_83 => ?_) (fun c_83 => ?_)
    · refine z_iconst h (v := 0) dX0_fact_90 (by decide) ?_
      exact z_topi (if_pos c_83).symm K_83
    · refine z_iconst h (v := 1) dX0_fact_86 (by decide) ?_
      refine z_goto h (tgt := 91) dX0_fact_87 (by decide) ?_
      exact z_topi (if_neg c_83).symm K_83
abbrev rmX0_forecast : Room := { frames := 1, cells := 0, slots := 0, locals := 13 }
set_option maxHeartbeats 4000000 in
set_option maxRecDepth 100000 in
theorem m_X0_forecast (l : Launch) (g : Gx) (bn : Nat) (b : Nat → Int32) (d : Int32)  (sz : Nat) : Met l yX0_forecast wsX0_forecast rmX0_forecast (PZ g [.ref bn, .int d] sz [] [(bn, .inr (1, [.int (b 0), .int (b 1), .int (b 2), .int (b 3), .int (b 4), .int (b 5), .int (b 6), .int (b 7), .int (b 8), .int (b 9)]))]) (va_Qi (fun (r : Int32) (_ : Unit) => r = fcst (b 2) (b 5) (b 6) d) (BZ g [] sz (fun (u : Unit) => [])) (va_A [] sz)) 0 0 (va_A [] sz) := by
  refine z_open_i (cc := cX0_forecast) (maxL := 2) (ret := .int) (own := RX0) (by decide) rfl rfl (Nat.le_of_ble_eq_true rfl) ?_
  intro p e s m args below meth c Q h hnm fin
  generalize hAe : va_A [] s.heap.size = A at h fin ⊢
  refine z_lve (lv' := [(0, .ref bn), (1, .int d)]) rfl ?_
  refine z_aload_n h dX0_forecast_0 rfl 0 rfl ?_
  refine z_get h in_X0_forecast_X0 0 rfl rfl 2 (by decide) lk_X0_forecast_f16 rfl dX0_forecast_1 ?_
  refine z_aload_n h dX0_forecast_4 rfl 0 rfl ?_
  refine z_get h in_X0_forecast_X0 0 rfl rfl 5 (by decide) lk_X0_forecast_f25 rfl dX0_forecast_5 ?_
  refine z_iload_n h dX0_forecast_8 rfl 1 rfl ?_
  refine z_aload_n h dX0_forecast_9 rfl 0 rfl ?_
  refine z_get h in_X0_forecast_X0 0 rfl rfl 6 (by decide) lk_X0_forecast_f28 rfl dX0_forecast_10 ?_
  refine z_isub h dX0_forecast_13 ?_
  refine z_imul h dX0_forecast_14 ?_
  refine z_bipush h (v := 10) dX0_forecast_15 (by decide) ?_
  refine z_idiv h dX0_forecast_17 (by decide) ?_
  refine z_mmin h lk_X0_forecast_m41 lk_X0_forecast_smin lk_X0_forecast_imin lk_X0_forecast_kmin (Nat.le_of_ble_eq_true rfl) (Nat.le_of_ble_eq_true rfl) (Nat.le_of_ble_eq_true rfl) (Nat.le_of_ble_eq_true rfl) dX0_forecast_18 ?_
  exact fin _ _ _ () _ _ _ _ dX0_forecast_21 rfl rfl rfl (Nat.le_of_ble_eq_true rfl) (Nat.le_of_ble_eq_true rfl)
abbrev rmX0_isFullOn : Room := { frames := 2, cells := 0, slots := 0, locals := 34 }
set_option maxHeartbeats 4000000 in
set_option maxRecDepth 100000 in
theorem m_X0_isFullOn (l : Launch) (g : Gx) (bn : Nat) (b : Nat → Int32) (d : Int32)  (sz : Nat) : Met l yX0_isFullOn wsX0_isFullOn rmX0_isFullOn (PZ g [.ref bn, .int d] sz [] [(bn, .inr (1, [.int (b 0), .int (b 1), .int (b 2), .int (b 3), .int (b 4), .int (b 5), .int (b 6), .int (b 7), .int (b 8), .int (b 9)]))]) (va_Qi (fun (r : Int32) (_ : Unit) => r = fulB b d) (BZ g [] sz (fun (u : Unit) => [])) (va_A [] sz)) 0 0 (va_A [] sz) := by
  refine z_open_i (cc := cX0_isFullOn) (maxL := 2) (ret := .boolean) (own := RX0) (by decide) rfl rfl (Nat.le_of_ble_eq_true rfl) ?_
  intro p e s m args below meth c Q h hnm fin
  generalize hAe : va_A [] s.heap.size = A at h fin ⊢
  refine z_lve (lv' := [(0, .ref bn), (1, .int d)]) rfl ?_
  refine z_aload_n h dX0_isFullOn_0 rfl 0 rfl ?_
  refine z_iload_n h dX0_isFullOn_1 rfl 1 rfl ?_
  refine z_Vi h (As := [.int d]) (st := []) (fun sz => m_X0_forecast l g bn b d  sz) (cwV 1 h.ts gX0_isFullOn_X0_forecast rfl rfl rfl (by decide +kernel) ⟨Nat.le_of_ble_eq_true rfl, Nat.le_of_ble_eq_true rfl⟩) rfl [] [0] rfl rfl rfl rfl 0 rfl rfl rfl rfl (Nat.le_of_ble_eq_true rfl) ⟨(Nat.le_of_ble_eq_true rfl), (Nat.le_of_ble_eq_true rfl)⟩ (fun _ => (Nat.le_of_ble_eq_true rfl)) (wN := fun u => []) (fun _ => rfl) dX0_isFullOn_2 (fun r_2 u_2 h_2 => ?_)
  refine z_aload_n h dX0_isFullOn_5 rfl 0 rfl ?_
  refine z_get h in_X0_isFullOn_X0 0 rfl rfl 2 (by decide) lk_X0_isFullOn_f16 rfl dX0_isFullOn_6 ?_
  have K_9 : Z p l e rmX0_isFullOn s m args below meth c Q A g 2 17 [(0, .ref bn), (1, .int d)] [.int (if r_2 = (b 2) then 1 else 0)] [] [(bn, .inr (1, [.int (b 0), .int (b 1), .int (b 2), .int (b 3), .int (b 4), .int (b 5), .int (b 6), .int (b 7), .int (b 8), .int (b 9)]))] 0 0 := by
    exact fin _ _ _ () _ _ _ _ dX0_isFullOn_17 (nar_ite _) (by rw [h_2]; rfl) rfl (Nat.le_of_ble_eq_true rfl) (Nat.le_of_ble_eq_true rfl)
  refine z_icmp_ne h (tgt := 16) dX0_isFullOn_9 (by decide) (fun c_9 => ?_) (fun c_9 => ?_)
  · refine z_iconst h (v := 0) dX0_isFullOn_16 (by decide) ?_
    exact z_topi (if_neg c_9).symm K_9
  · refine z_iconst h (v := 1) dX0_isFullOn_12 (by decide) ?_
    refine z_goto h (tgt := 17) dX0_isFullOn_13 (by decide) ?_
    exact z_topi (if_pos c_9).symm K_9
abbrev rmX0_isDue : Room := { frames := 3, cells := 0, slots := 0, locals := 55 }
set_option maxHeartbeats 4000000 in
set_option maxRecDepth 100000 in
theorem m_X0_isDue (l : Launch) (g : Gx) (bn : Nat) (b : Nat → Int32) (d : Int32) (w : Int32)  (sz : Nat) : Met l yX0_isDue wsX0_isDue rmX0_isDue (PZ g [.ref bn, .int d, .int w] sz [] [(bn, .inr (1, [.int (b 0), .int (b 1), .int (b 2), .int (b 3), .int (b 4), .int (b 5), .int (b 6), .int (b 7), .int (b 8), .int (b 9)]))]) (va_Qi (fun (r : Int32) (_ : Unit) => r = dueB b d w) (BZ g [] sz (fun (u : Unit) => [])) (va_A [] sz)) 0 0 (va_A [] sz) := by
  refine z_open_i (cc := cX0_isDue) (maxL := 3) (ret := .boolean) (own := RX0) (by decide) rfl rfl (Nat.le_of_ble_eq_true rfl) ?_
  intro p e s m args below meth c Q h hnm fin
  generalize hAe : va_A [] s.heap.size = A at h fin ⊢
  refine z_lve (lv' := [(0, .ref bn), (1, .int d), (2, .int w)]) rfl ?_
  refine z_iconst h (v := 4) dX0_isDue_0 (by decide) ?_
  refine z_aload_n h dX0_isDue_1 rfl 0 rfl ?_
  refine z_iload_n h dX0_isDue_2 rfl 1 rfl ?_
  refine z_Vi h (As := [.int d]) (st := [.int 4]) (fun sz => m_X0_forecast l g bn b d  sz) (cwV 1 h.ts gX0_isDue_X0_forecast rfl rfl rfl (by decide +kernel) ⟨Nat.le_of_ble_eq_true rfl, Nat.le_of_ble_eq_true rfl⟩) rfl [] [0] rfl rfl rfl rfl 0 rfl rfl rfl rfl (Nat.le_of_ble_eq_true rfl) ⟨(Nat.le_of_ble_eq_true rfl), (Nat.le_of_ble_eq_true rfl)⟩ (fun _ => (Nat.le_of_ble_eq_true rfl)) (wN := fun u => []) (fun _ => rfl) dX0_isDue_3 (fun r_3 u_3 h_3 => ?_)
  refine z_imul h dX0_isDue_6 ?_
  refine z_iconst h (v := 3) dX0_isDue_7 (by decide) ?_
  refine z_aload_n h dX0_isDue_8 rfl 0 rfl ?_
  refine z_get h in_X0_isDue_X0 0 rfl rfl 2 (by decide) lk_X0_isDue_f16 rfl dX0_isDue_9 ?_
  refine z_imul h dX0_isDue_12 ?_
  rw [h_3]
  refine z_icmp_ge h (tgt := 24) dX0_isDue_13 (by decide) (fun c_13 => ?_) (fun c_13 => ?_)
  · refine z_iconst h (v := 1) dX0_isDue_24 (by decide) ?_
    refine z_goto h (tgt := 29) dX0_isDue_25 (by decide) ?_
    exact fin _ _ _ () _ _ _ _ dX0_isDue_29 (by first | rfl | exact nar_ite' _) (by first | exact (if_pos c_13).symm | (rw [dueB, if_neg c_13, h_18]; rcases fulB_01 b w with q | q <;> rw [q] <;> rfl)) rfl (Nat.le_of_ble_eq_true rfl) (Nat.le_of_ble_eq_true rfl)
  · refine z_aload_n h dX0_isDue_16 rfl 0 rfl ?_
    refine z_iload_n h dX0_isDue_17 rfl 2 rfl ?_
    refine z_Vi h (As := [.int w]) (st := []) (fun sz => m_X0_isFullOn l g bn b w  sz) (cwV 1 h.ts gX0_isDue_X0_isFullOn rfl rfl rfl (by decide +kernel) ⟨Nat.le_of_ble_eq_true rfl, Nat.le_of_ble_eq_true rfl⟩) rfl [] [0] rfl rfl rfl rfl 0 rfl rfl rfl rfl (Nat.le_of_ble_eq_true rfl) ⟨(Nat.le_of_ble_eq_true rfl), (Nat.le_of_ble_eq_true rfl)⟩ (fun _ => (Nat.le_of_ble_eq_true rfl)) (wN := fun u => []) (fun _ => rfl) dX0_isDue_18 (fun r_18 u_18 h_18 => ?_)
    have K_21 : Z p l e rmX0_isDue s m args below meth c Q A g 3 29 [(0, .ref bn), (1, .int d), (2, .int w)] [.int (if r_18 = 0 then 0 else 1)] [] [(bn, .inr (1, [.int (b 0), .int (b 1), .int (b 2), .int (b 3), .int (b 4), .int (b 5), .int (b 6), .int (b 7), .int (b 8), .int (b 9)]))] 0 0 := by
      exact fin _ _ _ () _ _ _ _ dX0_isDue_29 (by first | rfl | exact nar_ite' _) (by first | exact (if_pos c_13).symm | (rw [dueB, if_neg c_13, h_18]; rcases fulB_01 b w with q | q <;> rw [q] <;> rfl)) rfl (Nat.le_of_ble_eq_true rfl) (Nat.le_of_ble_eq_true rfl)
    refine z_if_eq h (tgt := 28) dX0_isDue_21 (by decide) (fun c_21 => ?_) (fun c_21 => ?_)
    · refine z_iconst h (v := 0) dX0_isDue_28 (by decide) ?_
      exact z_topi (if_pos c_21).symm K_21
    · refine z_iconst h (v := 1) dX0_isDue_24 (by decide) ?_
      refine z_goto h (tgt := 29) dX0_isDue_25 (by decide) ?_
      exact z_topi (if_neg c_21).symm K_21
abbrev rmX0_fill : Room := { frames := 1, cells := 0, slots := 0, locals := 13 }
set_option maxHeartbeats 4000000 in
set_option maxRecDepth 100000 in
theorem m_X0_fill (l : Launch) (g : Gx) (bn : Nat) (b : Nat → Int32)  (sz : Nat) : Met l yX0_fill wsX0_fill rmX0_fill (PZ g [.ref bn] sz [(bn, .inr (1, [.int (b 0), .int (b 1), .int (b 2), .int (b 3), .int (b 4), .int (b 5), .int (b 6), .int (b 7), .int (b 8), .int (b 9)]))] []) (va_Qi (fun (r : Int32) (_ : Unit) => r = wstB b) (BZ g [(bn, .inr (1, [.int (b 0), .int (b 1), .int (b 2), .int (b 3), .int (b 4), .int (b 5), .int (b 6), .int (b 7), .int (b 8), .int (b 9)]))] sz (fun (u : Unit) => [(bn, .inr (1, [.int (filB b 0), .int (filB b 1), .int (filB b 2), .int (filB b 3), .int (filB b 4), .int (filB b 5), .int (filB b 6), .int (filB b 7), .int (filB b 8), .int (filB b 9)]))])) (va_A [(bn, .inr (1, [.int (b 0), .int (b 1), .int (b 2), .int (b 3), .int (b 4), .int (b 5), .int (b 6), .int (b 7), .int (b 8), .int (b 9)]))] sz)) 0 0 (va_A [(bn, .inr (1, [.int (b 0), .int (b 1), .int (b 2), .int (b 3), .int (b 4), .int (b 5), .int (b 6), .int (b 7), .int (b 8), .int (b 9)]))] sz) := by
  refine z_open_i (cc := cX0_fill) (maxL := 2) (ret := .int) (own := RX0) (by decide) rfl rfl (Nat.le_of_ble_eq_true rfl) ?_
  intro p e s m args below meth c Q h hnm fin
  generalize hAe : va_A [(bn, .inr (1, [.int (b 0), .int (b 1), .int (b 2), .int (b 3), .int (b 4), .int (b 5), .int (b 6), .int (b 7), .int (b 8), .int (b 9)]))] s.heap.size = A at h fin ⊢
  refine z_lve (lv' := [(0, .ref bn)]) rfl ?_
  refine z_iconst h (v := 0) dX0_fill_0 (by decide) ?_
  refine z_aload_n h dX0_fill_1 rfl 0 rfl ?_
  refine z_get h in_X0_fill_X0 0 rfl rfl 4 (by decide) lk_X0_fill_f22 rfl dX0_fill_2 ?_
  refine z_aload_n h dX0_fill_5 rfl 0 rfl ?_
  refine z_get h in_X0_fill_X0 0 rfl rfl 3 (by decide) lk_X0_fill_f19 rfl dX0_fill_6 ?_
  refine z_iadd h dX0_fill_9 ?_
  refine z_aload_n h dX0_fill_10 rfl 0 rfl ?_
  refine z_get h in_X0_fill_X0 0 rfl rfl 2 (by decide) lk_X0_fill_f16 rfl dX0_fill_11 ?_
  refine z_isub h dX0_fill_14 ?_
  refine z_mmax h lk_X0_fill_m55 lk_X0_fill_smax lk_X0_fill_imax lk_X0_fill_kmax (Nat.le_of_ble_eq_true rfl) (Nat.le_of_ble_eq_true rfl) (Nat.le_of_ble_eq_true rfl) (Nat.le_of_ble_eq_true rfl) dX0_fill_15 ?_
  refine z_istore_n h dX0_fill_18 rfl (by decide) (lv' := [(0, .ref bn), (1, .int (if 0 < (((b 4) + (b 3)) - (b 2)) then (((b 4) + (b 3)) - (b 2)) else 0))]) [1, 0] rfl ?_
  refine z_aload_n h dX0_fill_19 rfl 0 rfl ?_
  refine z_aload_n h dX0_fill_20 rfl 0 rfl ?_
  refine z_get h in_X0_fill_X0 0 rfl rfl 4 (by decide) lk_X0_fill_f22 rfl dX0_fill_21 ?_
  refine z_aload_n h dX0_fill_24 rfl 0 rfl ?_
  refine z_get h in_X0_fill_X0 0 rfl rfl 3 (by decide) lk_X0_fill_f19 rfl dX0_fill_25 ?_
  refine z_iadd h dX0_fill_28 ?_
  refine z_iload_n h dX0_fill_29 rfl 1 rfl ?_
  refine z_isub h dX0_fill_30 ?_
  refine z_put h in_X0_fill_X0 0 tyX0 tyX0_ok nmX0 rfl rfl 4 (by decide) lk_X0_fill_f22 rfl rfl rfl (Nat.le_of_ble_eq_true rfl) dX0_fill_31 (wW' := [(bn, .inr (1, [.int (b 0), .int (b 1), .int (b 2), .int (b 3), .int (((b 4) + (b 3)) - (if 0 < (((b 4) + (b 3)) - (b 2)) then (((b 4) + (b 3)) - (b 2)) else 0)), .int (b 5), .int (b 6), .int (b 7), .int (b 8), .int (b 9)]))]) rfl ?_
  refine z_aload_n h dX0_fill_34 rfl 0 rfl ?_
  refine z_dup h dX0_fill_35 rfl ?_
  refine z_get h in_X0_fill_X0 0 rfl rfl 7 (by decide) lk_X0_fill_f31 rfl dX0_fill_36 ?_
  refine z_iload_n h dX0_fill_39 rfl 1 rfl ?_
  have K_40 : Z p l e rmX0_fill s m args below meth c Q A g 2 48 [(0, .ref bn), (1, .int (if 0 < (((b 4) + (b 3)) - (b 2)) then (((b 4) + (b 3)) - (b 2)) else 0))] [.int (if (if 0 < (((b 4) + (b 3)) - (b 2)) then (((b 4) + (b 3)) - (b 2)) else 0) ≤ 0 then 0 else 1), .int (b 7), .ref bn] [(bn, .inr (1, [.int (b 0), .int (b 1), .int (b 2), .int (b 3), .int (((b 4) + (b 3)) - (if 0 < (((b 4) + (b 3)) - (b 2)) then (((b 4) + (b 3)) - (b 2)) else 0)), .int (b 5), .int (b 6), .int (b 7), .int (b 8), .int (b 9)]))] [] 0 0 := by
    refine z_iadd h dX0_fill_48 ?_
    refine z_put h in_X0_fill_X0 0 tyX0 tyX0_ok nmX0 rfl rfl 7 (by decide) lk_X0_fill_f31 rfl rfl rfl (Nat.le_of_ble_eq_true rfl) dX0_fill_49 (wW' := [(bn, .inr (1, [.int (b 0), .int (b 1), .int (b 2), .int (b 3), .int (((b 4) + (b 3)) - (if 0 < (((b 4) + (b 3)) - (b 2)) then (((b 4) + (b 3)) - (b 2)) else 0)), .int (b 5), .int (b 6), .int ((b 7) + (if (if 0 < (((b 4) + (b 3)) - (b 2)) then (((b 4) + (b 3)) - (b 2)) else 0) ≤ 0 then 0 else 1)), .int (b 8), .int (b 9)]))]) rfl ?_
    refine z_iload_n h dX0_fill_52 rfl 1 rfl ?_
    exact fin _ _ _ () _ _ _ _ dX0_fill_53 rfl rfl rfl (Nat.le_of_ble_eq_true rfl) (Nat.le_of_ble_eq_true rfl)
  refine z_if_le h (tgt := 47) dX0_fill_40 (by decide) (fun c_40 => ?_) (fun c_40 => ?_)
  · refine z_iconst h (v := 0) dX0_fill_47 (by decide) ?_
    exact z_topi (if_pos c_40).symm K_40
  · refine z_iconst h (v := 1) dX0_fill_43 (by decide) ?_
    refine z_goto h (tgt := 48) dX0_fill_44 (by decide) ?_
    exact z_topi (if_neg c_40).symm K_40
abbrev rmX0_endVisit : Room := { frames := 0, cells := 0, slots := 0, locals := 0 }
set_option maxHeartbeats 4000000 in
set_option maxRecDepth 100000 in
theorem m_X0_endVisit (l : Launch) (g : Gx) (bn : Nat) (b : Nat → Int32) (tk : Int32) (d : Int32)  (sz : Nat) : Met l yX0_endVisit wsX0_endVisit rmX0_endVisit (PZ g [.ref bn, .int tk, .int d] sz [(bn, .inr (1, [.int (b 0), .int (b 1), .int (b 2), .int (b 3), .int (b 4), .int (b 5), .int (b 6), .int (b 7), .int (b 8), .int (b 9)]))] []) (va_Qv (fun (_ : Unit) => True) (BZ g [(bn, .inr (1, [.int (b 0), .int (b 1), .int (b 2), .int (b 3), .int (b 4), .int (b 5), .int (b 6), .int (b 7), .int (b 8), .int (b 9)]))] sz (fun (u : Unit) => [(bn, .inr (1, [.int (endB b tk d 0), .int (endB b tk d 1), .int (endB b tk d 2), .int (endB b tk d 3), .int (endB b tk d 4), .int (endB b tk d 5), .int (endB b tk d 6), .int (endB b tk d 7), .int (endB b tk d 8), .int (endB b tk d 9)]))])) (va_A [(bn, .inr (1, [.int (b 0), .int (b 1), .int (b 2), .int (b 3), .int (b 4), .int (b 5), .int (b 6), .int (b 7), .int (b 8), .int (b 9)]))] sz)) 0 0 (va_A [(bn, .inr (1, [.int (b 0), .int (b 1), .int (b 2), .int (b 3), .int (b 4), .int (b 5), .int (b 6), .int (b 7), .int (b 8), .int (b 9)]))] sz) := by
  refine z_open_v (cc := cX0_endVisit) (maxL := 5) (own := RX0) (by decide) rfl rfl (Nat.le_of_ble_eq_true rfl) ?_
  intro p e s m args below meth c Q h hnm fin
  generalize hAe : va_A [(bn, .inr (1, [.int (b 0), .int (b 1), .int (b 2), .int (b 3), .int (b 4), .int (b 5), .int (b 6), .int (b 7), .int (b 8), .int (b 9)]))] s.heap.size = A at h fin ⊢
  refine z_lve (lv' := [(0, .ref bn), (1, .int tk), (2, .int d)]) rfl ?_
  refine z_aload_n h dX0_endVisit_0 rfl 0 rfl ?_
  refine z_get h in_X0_endVisit_X0 0 rfl rfl 9 (by decide) lk_X0_endVisit_f37 rfl dX0_endVisit_1 ?_
  refine z_if_eq h (tgt := 23) dX0_endVisit_4 (by decide) (fun c_4 => ?_) (fun c_4 => ?_)
  · refine z_iload_n h dX0_endVisit_23 rfl 2 rfl ?_
    refine z_aload_n h dX0_endVisit_24 rfl 0 rfl ?_
    refine z_get h in_X0_endVisit_X0 0 rfl rfl 6 (by decide) lk_X0_endVisit_f28 rfl dX0_endVisit_25 ?_
    refine z_isub h dX0_endVisit_28 ?_
    refine z_istore_n h dX0_endVisit_29 rfl (by decide) (lv' := [(0, .ref bn), (1, .int tk), (2, .int d), (3, .int (d - (b 6)))]) [1, 2, 3, 0] rfl ?_
    refine z_iload_n h dX0_endVisit_30 rfl 3 rfl ?_
    refine z_if_le h (tgt := 60) dX0_endVisit_31 (by decide) (fun c_31 => ?_) (fun c_31 => ?_)
    · refine z_aload_n h dX0_endVisit_60 rfl 0 rfl ?_
      refine z_iload_n h dX0_endVisit_61 rfl 2 rfl ?_
      refine z_put h in_X0_endVisit_X0 0 tyX0 tyX0_ok nmX0 rfl rfl 6 (by decide) lk_X0_endVisit_f28 rfl rfl rfl (Nat.le_of_ble_eq_true rfl) dX0_endVisit_62 (wW' := [(bn, .inr (1, [.int (b 0), .int (b 1), .int (b 2), .int (b 3), .int (b 4), .int (b 5), .int d, .int (b 7), .int (b 8), .int (b 9)]))]) rfl ?_
      refine z_aload_n h dX0_endVisit_65 rfl 0 rfl ?_
      refine z_dup h dX0_endVisit_66 rfl ?_
      refine z_get h in_X0_endVisit_X0 0 rfl rfl 4 (by decide) lk_X0_endVisit_f22 rfl dX0_endVisit_67 ?_
      refine z_iload_n h dX0_endVisit_70 rfl 1 rfl ?_
      refine z_isub h dX0_endVisit_71 ?_
      refine z_put h in_X0_endVisit_X0 0 tyX0 tyX0_ok nmX0 rfl rfl 4 (by decide) lk_X0_endVisit_f22 rfl rfl rfl (Nat.le_of_ble_eq_true rfl) dX0_endVisit_72 (wW' := [(bn, .inr (1, [.int (b 0), .int (b 1), .int (b 2), .int (b 3), .int ((b 4) - tk), .int (b 5), .int d, .int (b 7), .int (b 8), .int (b 9)]))]) rfl ?_
      exact fin _ _ () _ _ _ _ dX0_endVisit_75 trivial (by first | (rw [endB, if_pos c_4, ratB, if_pos c_31]; rfl) | (rw [endB, if_pos c_4, ratB, if_neg c_31]; rfl)) (Nat.le_of_ble_eq_true rfl) (Nat.le_of_ble_eq_true rfl)
    · refine z_bipush h (v := 10) dX0_endVisit_34 (by decide) ?_
      refine z_aload_n h dX0_endVisit_36 rfl 0 rfl ?_
      refine z_get h in_X0_endVisit_X0 0 rfl rfl 4 (by decide) lk_X0_endVisit_f22 rfl dX0_endVisit_37 ?_
      refine z_imul h dX0_endVisit_40 ?_
      refine z_iload_n h dX0_endVisit_41 rfl 3 rfl ?_
      refine z_idiv h dX0_endVisit_42 (fun q => c_31 (by rw [q]; decide)) ?_
      refine z_istore h dX0_endVisit_43 (by decide) (lv' := [(0, .ref bn), (1, .int tk), (2, .int d), (3, .int (d - (b 6))), (4, .int ((10 * (b 4)) / (d - (b 6))))]) [1, 2, 3, 4, 0] rfl ?_
      refine z_aload_n h dX0_endVisit_45 rfl 0 rfl ?_
      refine z_aload_n h dX0_endVisit_46 rfl 0 rfl ?_
      refine z_get h in_X0_endVisit_X0 0 rfl rfl 5 (by decide) lk_X0_endVisit_f25 rfl dX0_endVisit_47 ?_
      refine z_iconst h (v := 3) dX0_endVisit_50 (by decide) ?_
      refine z_imul h dX0_endVisit_51 ?_
      refine z_iload h dX0_endVisit_52 4 rfl ?_
      refine z_iadd h dX0_endVisit_54 ?_
      refine z_iconst h (v := 4) dX0_endVisit_55 (by decide) ?_
      refine z_idiv h dX0_endVisit_56 (by decide) ?_
      refine z_put h in_X0_endVisit_X0 0 tyX0 tyX0_ok nmX0 rfl rfl 5 (by decide) lk_X0_endVisit_f25 rfl rfl rfl (Nat.le_of_ble_eq_true rfl) dX0_endVisit_57 (wW' := [(bn, .inr (1, [.int (b 0), .int (b 1), .int (b 2), .int (b 3), .int (b 4), .int ((((b 5) * 3) + ((10 * (b 4)) / (d - (b 6)))) / 4), .int (b 6), .int (b 7), .int (b 8), .int (b 9)]))]) rfl ?_
      refine z_aload_n h dX0_endVisit_60 rfl 0 rfl ?_
      refine z_iload_n h dX0_endVisit_61 rfl 2 rfl ?_
      refine z_put h in_X0_endVisit_X0 0 tyX0 tyX0_ok nmX0 rfl rfl 6 (by decide) lk_X0_endVisit_f28 rfl rfl rfl (Nat.le_of_ble_eq_true rfl) dX0_endVisit_62 (wW' := [(bn, .inr (1, [.int (b 0), .int (b 1), .int (b 2), .int (b 3), .int (b 4), .int ((((b 5) * 3) + ((10 * (b 4)) / (d - (b 6)))) / 4), .int d, .int (b 7), .int (b 8), .int (b 9)]))]) rfl ?_
      refine z_aload_n h dX0_endVisit_65 rfl 0 rfl ?_
      refine z_dup h dX0_endVisit_66 rfl ?_
      refine z_get h in_X0_endVisit_X0 0 rfl rfl 4 (by decide) lk_X0_endVisit_f22 rfl dX0_endVisit_67 ?_
      refine z_iload_n h dX0_endVisit_70 rfl 1 rfl ?_
      refine z_isub h dX0_endVisit_71 ?_
      refine z_put h in_X0_endVisit_X0 0 tyX0 tyX0_ok nmX0 rfl rfl 4 (by decide) lk_X0_endVisit_f22 rfl rfl rfl (Nat.le_of_ble_eq_true rfl) dX0_endVisit_72 (wW' := [(bn, .inr (1, [.int (b 0), .int (b 1), .int (b 2), .int (b 3), .int ((b 4) - tk), .int ((((b 5) * 3) + ((10 * (b 4)) / (d - (b 6)))) / 4), .int d, .int (b 7), .int (b 8), .int (b 9)]))]) rfl ?_
      exact fin _ _ () _ _ _ _ dX0_endVisit_75 trivial (by first | (rw [endB, if_pos c_4, ratB, if_pos c_31]; rfl) | (rw [endB, if_pos c_4, ratB, if_neg c_31]; rfl)) (Nat.le_of_ble_eq_true rfl) (Nat.le_of_ble_eq_true rfl)
  · refine z_aload_n h dX0_endVisit_7 rfl 0 rfl ?_
    refine z_iconst h (v := 0) dX0_endVisit_8 (by decide) ?_
    refine z_put h in_X0_endVisit_X0 0 tyX0 tyX0_ok nmX0 rfl rfl 9 (by decide) lk_X0_endVisit_f37 rfl rfl rfl (Nat.le_of_ble_eq_true rfl) dX0_endVisit_9 (wW' := [(bn, .inr (1, [.int (b 0), .int (b 1), .int (b 2), .int (b 3), .int (b 4), .int (b 5), .int (b 6), .int (b 7), .int (b 8), .int 0]))]) rfl ?_
    refine z_aload_n h dX0_endVisit_12 rfl 0 rfl ?_
    refine z_dup h dX0_endVisit_13 rfl ?_
    refine z_get h in_X0_endVisit_X0 0 rfl rfl 8 (by decide) lk_X0_endVisit_f34 rfl dX0_endVisit_14 ?_
    refine z_iconst h (v := 1) dX0_endVisit_17 (by decide) ?_
    refine z_iadd h dX0_endVisit_18 ?_
    refine z_put h in_X0_endVisit_X0 0 tyX0 tyX0_ok nmX0 rfl rfl 8 (by decide) lk_X0_endVisit_f34 rfl rfl rfl (Nat.le_of_ble_eq_true rfl) dX0_endVisit_19 (wW' := [(bn, .inr (1, [.int (b 0), .int (b 1), .int (b 2), .int (b 3), .int (b 4), .int (b 5), .int (b 6), .int (b 7), .int ((b 8) + 1), .int 0]))]) rfl ?_
    exact fin _ _ () _ _ _ _ dX0_endVisit_22 trivial (by rw [endB, if_neg c_4]; rfl) (Nat.le_of_ble_eq_true rfl) (Nat.le_of_ble_eq_true rfl)
