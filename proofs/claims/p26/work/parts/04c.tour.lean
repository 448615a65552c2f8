/-- a lorry under way: where it is, its load, its minutes, its visits to tips, the litres brought there -/
abbrev TS : Type := Nat × Int32 × Int32 × Int32 × Int32
def drv (fm : Nat → Int32) (t : TS) (nx : Nat) : TS := (nx, t.2.1, t.2.2.1 + fm (t.1 * 10 + nx), t.2.2.2.1, t.2.2.2.2)
def unl (fm ft : Nat → Int32) (k : Int32) (pl : Nat) (t : TS) (nx : Nat) : TS := (nx, 0, t.2.2.1 + (ovT fm ft k t.1 nx pl + 10), t.2.2.2.1 + 1, t.2.2.2.2 + t.2.1)
def mun (fm ft : Nat → Int32) (k cap : Int32) (pl : Nat) (c : Int32) (t : TS) : TS := if t.2.1 ≤ 0 then t else if c ≤ cap - t.2.1 then t else unl fm ft k pl t t.1
def tak (cap c : Int32) (t : TS) : Int32 := if cap - t.2.1 < c then cap - t.2.1 else c
def visT (fm ft : Nat → Int32) (k cap : Int32) (pl : Nat) (b : Nat → Int32) (pb : Nat) (t : TS) : TS :=
  if b 9 = 0 then ((mun fm ft k cap pl (b 4) (drv fm t pb)).1, (mun fm ft k cap pl (b 4) (drv fm t pb)).2.1 + tak cap (b 4) (mun fm ft k cap pl (b 4) (drv fm t pb)), (mun fm ft k cap pl (b 4) (drv fm t pb)).2.2.1 + 5, (mun fm ft k cap pl (b 4) (drv fm t pb)).2.2.2.1, (mun fm ft k cap pl (b 4) (drv fm t pb)).2.2.2.2)
  else (pb, t.2.1, (drv fm t pb).2.2.1 + 2, t.2.2.2.1, t.2.2.2.2)
def visK (fm ft : Nat → Int32) (k cap : Int32) (pl : Nat) (b : Nat → Int32) (pb : Nat) (t : TS) : Int32 :=
  if b 9 = 0 then tak cap (b 4) (mun fm ft k cap pl (b 4) (drv fm t pb)) else 0
def endT (fm ft : Nat → Int32) (k : Int32) (pl : Nat) (t : TS) : TS := drv fm (if t.2.1 ≤ 0 then t else unl fm ft k pl t 0) 0
theorem in_X2_init_X2 : ∀ w ∈ wsX20, w ∈ wsX2_init := by decide +kernel
theorem lk_X2_init_f15 : Cond.fieldLink RX2 15 (TX2 1).1 (TX2 1).2.1 (TX2 1).2.2.1 ∈ wsX2_init := by decide +kernel
theorem lk_X2_init_f19 : Cond.fieldLink RX2 19 (TX2 2).1 (TX2 2).2.1 (TX2 2).2.2.1 ∈ wsX2_init := by decide +kernel
theorem lk_X2_init_f22 : Cond.fieldLink RX2 22 (TX2 3).1 (TX2 3).2.1 (TX2 3).2.2.1 ∈ wsX2_init := by decide +kernel
theorem lk_X2_init_f25 : Cond.fieldLink RX2 25 (TX2 4).1 (TX2 4).2.1 (TX2 4).2.2.1 ∈ wsX2_init := by decide +kernel
theorem lk_X2_init_f28 : Cond.fieldLink RX2 28 (TX2 5).1 (TX2 5).2.1 (TX2 5).2.2.1 ∈ wsX2_init := by decide +kernel
theorem lk_X2_init_f31 : Cond.fieldLink RX2 31 (TX2 6).1 (TX2 6).2.1 (TX2 6).2.2.1 ∈ wsX2_init := by decide +kernel
theorem lk_X2_init_f34 : Cond.fieldLink RX2 34 (TX2 7).1 (TX2 7).2.1 (TX2 7).2.2.1 ∈ wsX2_init := by decide +kernel
theorem lk_X2_init_f9 : Cond.fieldLink RX2 9 (TX2 0).1 (TX2 0).2.1 (TX2 0).2.2.1 ∈ wsX2_init := by decide +kernel
theorem lk_X2_init_m3 : Cond.methodLink RX2 3 objectInit ∈ wsX2_init := by decide +kernel
theorem lk_X2_init_oc : Cond.code objectInit ⟨#[0xb1]⟩ 1 none ∈ wsX2_init := by decide +kernel
theorem lk_X2_init_oi : Cond.instanceMethod objectInit ∈ wsX2_init := by decide +kernel
theorem in_X2_driveTo_X2 : ∀ w ∈ wsX20, w ∈ wsX2_driveTo := by decide +kernel
theorem lk_X2_driveTo_f22 : Cond.fieldLink RX2 22 (TX2 3).1 (TX2 3).2.1 (TX2 3).2.2.1 ∈ wsX2_driveTo := by decide +kernel
theorem lk_X2_driveTo_f28 : Cond.fieldLink RX2 28 (TX2 5).1 (TX2 5).2.1 (TX2 5).2.2.1 ∈ wsX2_driveTo := by decide +kernel
theorem lk_X2_driveTo_f9 : Cond.fieldLink RX2 9 (TX2 0).1 (TX2 0).2.1 (TX2 0).2.2.1 ∈ wsX2_driveTo := by decide +kernel
theorem in_X2_unloadOnTheWayTo_X2 : ∀ w ∈ wsX20, w ∈ wsX2_unloadOnTheWayTo := by decide +kernel
theorem lk_X2_unloadOnTheWayTo_f15 : Cond.fieldLink RX2 15 (TX2 1).1 (TX2 1).2.1 (TX2 1).2.2.1 ∈ wsX2_unloadOnTheWayTo := by decide +kernel
theorem lk_X2_unloadOnTheWayTo_f22 : Cond.fieldLink RX2 22 (TX2 3).1 (TX2 3).2.1 (TX2 3).2.2.1 ∈ wsX2_unloadOnTheWayTo := by decide +kernel
theorem lk_X2_unloadOnTheWayTo_f25 : Cond.fieldLink RX2 25 (TX2 4).1 (TX2 4).2.1 (TX2 4).2.2.1 ∈ wsX2_unloadOnTheWayTo := by decide +kernel
theorem lk_X2_unloadOnTheWayTo_f28 : Cond.fieldLink RX2 28 (TX2 5).1 (TX2 5).2.1 (TX2 5).2.2.1 ∈ wsX2_unloadOnTheWayTo := by decide +kernel
theorem lk_X2_unloadOnTheWayTo_f31 : Cond.fieldLink RX2 31 (TX2 6).1 (TX2 6).2.1 (TX2 6).2.2.1 ∈ wsX2_unloadOnTheWayTo := by decide +kernel
theorem lk_X2_unloadOnTheWayTo_f34 : Cond.fieldLink RX2 34 (TX2 7).1 (TX2 7).2.1 (TX2 7).2.2.1 ∈ wsX2_unloadOnTheWayTo := by decide +kernel
theorem lk_X2_unloadOnTheWayTo_f9 : Cond.fieldLink RX2 9 (TX2 0).1 (TX2 0).2.1 (TX2 0).2.2.1 ∈ wsX2_unloadOnTheWayTo := by decide +kernel
theorem in_X2_visit_X0 : ∀ w ∈ wsX00, w ∈ wsX2_visit := by decide +kernel
theorem in_X2_visit_X2 : ∀ w ∈ wsX20, w ∈ wsX2_visit := by decide +kernel
theorem lk_X2_visit_f19 : Cond.fieldLink RX2 19 (TX2 2).1 (TX2 2).2.1 (TX2 2).2.2.1 ∈ wsX2_visit := by decide +kernel
theorem lk_X2_visit_f22 : Cond.fieldLink RX2 22 (TX2 3).1 (TX2 3).2.1 (TX2 3).2.2.1 ∈ wsX2_visit := by decide +kernel
theorem lk_X2_visit_f25 : Cond.fieldLink RX2 25 (TX2 4).1 (TX2 4).2.1 (TX2 4).2.2.1 ∈ wsX2_visit := by decide +kernel
theorem lk_X2_visit_f28 : Cond.fieldLink RX2 28 (TX2 5).1 (TX2 5).2.1 (TX2 5).2.2.1 ∈ wsX2_visit := by decide +kernel
theorem lk_X2_visit_imin : Cond.initialized "java/lang/Math" ∈ wsX2_visit := by decide +kernel
theorem lk_X2_visit_kmin : Cond.code Lib.Math.min.name Lib.Math.min.code 2 (some .int) ∈ wsX2_visit := by decide +kernel
theorem lk_X2_visit_m56 : Cond.methodLink RX2 56 Lib.Math.min.name ∈ wsX2_visit := by decide +kernel
theorem lk_X2_visit_smin : Cond.static Lib.Math.min.name ∈ wsX2_visit := by decide +kernel
theorem in_X2_end_X2 : ∀ w ∈ wsX20, w ∈ wsX2_end := by decide +kernel
theorem lk_X2_end_f25 : Cond.fieldLink RX2 25 (TX2 4).1 (TX2 4).2.1 (TX2 4).2.2.1 ∈ wsX2_end := by decide +kernel
abbrev rmX2_init : Room := { frames := 1, cells := 0, slots := 0, locals := 12 }
set_option maxHeartbeats 4000000 in
set_option maxRecDepth 100000 in
theorem m_X2_init (l : Launch) (g : Gx) (to : Nat) (rg : Nat) (k : Int32) (cap : Int32)  (sz : Nat) : Met l yX2_init wsX2_init rmX2_init (PZ g [.ref to, .ref rg, .int k, .int cap] sz [(to, .inr (3, [.null, .int 0, .int 0, .int 0, .int 0, .int 0, .int 0, .int 0]))] []) (va_Qv (fun (_ : Unit) => True) (BZ g [(to, .inr (3, [.null, .int 0, .int 0, .int 0, .int 0, .int 0, .int 0, .int 0]))] sz (fun (u : Unit) => [(to, .inr (3, [.ref rg, .int k, .int cap, .int 0, .int 0, .int 0, .int 0, .int 0]))])) (va_A [(to, .inr (3, [.null, .int 0, .int 0, .int 0, .int 0, .int 0, .int 0, .int 0]))] sz)) 0 0 (va_A [(to, .inr (3, [.null, .int 0, .int 0, .int 0, .int 0, .int 0, .int 0, .int 0]))] sz) := by
  refine z_open_v (cc := cX2_init) (maxL := 4) (own := RX2) (by decide) rfl rfl (Nat.le_of_ble_eq_true rfl) ?_
  intro p e s m args below meth c Q h hnm fin
  generalize hAe : va_A [(to, .inr (3, [.null, .int 0, .int 0, .int 0, .int 0, .int 0, .int 0, .int 0]))] s.heap.size = A at h fin ⊢
  refine z_lve (lv' := [(0, .ref to), (1, .ref rg), (2, .int k), (3, .int cap)]) rfl ?_
  refine z_aload_n h dX2_init_0 rfl 0 rfl ?_
  refine z_objInit h lk_X2_init_m3 lk_X2_init_oi lk_X2_init_oc dX2_init_1 (Nat.le_of_ble_eq_true rfl) (Nat.le_of_ble_eq_true rfl) ?_
  refine z_aload_n h dX2_init_4 rfl 0 rfl ?_
  refine z_aload_n h dX2_init_5 rfl 1 rfl ?_
  refine z_putF h in_X2_init_X2 0 tyX2 tyX2_ok nmX2 rfl rfl 0 (by decide) lk_X2_init_f9 rfl hnm rfl rfl rfl (Nat.le_of_ble_eq_true rfl) dX2_init_6 (wW' := [(to, .inr (3, [.ref rg, .int 0, .int 0, .int 0, .int 0, .int 0, .int 0, .int 0]))]) rfl ?_
  refine z_aload_n h dX2_init_9 rfl 0 rfl ?_
  refine z_iload_n h dX2_init_10 rfl 2 rfl ?_
  refine z_putF h in_X2_init_X2 0 tyX2 tyX2_ok nmX2 rfl rfl 1 (by decide) lk_X2_init_f15 rfl hnm rfl rfl rfl (Nat.le_of_ble_eq_true rfl) dX2_init_11 (wW' := [(to, .inr (3, [.ref rg, .int k, .int 0, .int 0, .int 0, .int 0, .int 0, .int 0]))]) rfl ?_
  refine z_aload_n h dX2_init_14 rfl 0 rfl ?_
  refine z_iload_n h dX2_init_15 rfl 3 rfl ?_
  refine z_putF h in_X2_init_X2 0 tyX2 tyX2_ok nmX2 rfl rfl 2 (by decide) lk_X2_init_f19 rfl hnm rfl rfl rfl (Nat.le_of_ble_eq_true rfl) dX2_init_16 (wW' := [(to, .inr (3, [.ref rg, .int k, .int cap, .int 0, .int 0, .int 0, .int 0, .int 0]))]) rfl ?_
  refine z_aload_n h dX2_init_19 rfl 0 rfl ?_
  refine z_iconst h (v := 0) dX2_init_20 (by decide) ?_
  refine z_put h in_X2_init_X2 0 tyX2 tyX2_ok nmX2 rfl rfl 3 (by decide) lk_X2_init_f22 rfl rfl rfl (Nat.le_of_ble_eq_true rfl) dX2_init_21 (wW' := [(to, .inr (3, [.ref rg, .int k, .int cap, .int 0, .int 0, .int 0, .int 0, .int 0]))]) rfl ?_
  refine z_aload_n h dX2_init_24 rfl 0 rfl ?_
  refine z_iconst h (v := 0) dX2_init_25 (by decide) ?_
  refine z_put h in_X2_init_X2 0 tyX2 tyX2_ok nmX2 rfl rfl 4 (by decide) lk_X2_init_f25 rfl rfl rfl (Nat.le_of_ble_eq_true rfl) dX2_init_26 (wW' := [(to, .inr (3, [.ref rg, .int k, .int cap, .int 0, .int 0, .int 0, .int 0, .int 0]))]) rfl ?_
  refine z_aload_n h dX2_init_29 rfl 0 rfl ?_
  refine z_iconst h (v := 0) dX2_init_30 (by decide) ?_
  refine z_put h in_X2_init_X2 0 tyX2 tyX2_ok nmX2 rfl rfl 5 (by decide) lk_X2_init_f28 rfl rfl rfl (Nat.le_of_ble_eq_true rfl) dX2_init_31 (wW' := [(to, .inr (3, [.ref rg, .int k, .int cap, .int 0, .int 0, .int 0, .int 0, .int 0]))]) rfl ?_
  refine z_aload_n h dX2_init_34 rfl 0 rfl ?_
  refine z_iconst h (v := 0) dX2_init_35 (by decide) ?_
  refine z_put h in_X2_init_X2 0 tyX2 tyX2_ok nmX2 rfl rfl 6 (by decide) lk_X2_init_f31 rfl rfl rfl (Nat.le_of_ble_eq_true rfl) dX2_init_36 (wW' := [(to, .inr (3, [.ref rg, .int k, .int cap, .int 0, .int 0, .int 0, .int 0, .int 0]))]) rfl ?_
  refine z_aload_n h dX2_init_39 rfl 0 rfl ?_
  refine z_iconst h (v := 0) dX2_init_40 (by decide) ?_
  refine z_put h in_X2_init_X2 0 tyX2 tyX2_ok nmX2 rfl rfl 7 (by decide) lk_X2_init_f34 rfl rfl rfl (Nat.le_of_ble_eq_true rfl) dX2_init_41 (wW' := [(to, .inr (3, [.ref rg, .int k, .int cap, .int 0, .int 0, .int 0, .int 0, .int 0]))]) rfl ?_
  exact fin _ _ () _ _ _ _ dX2_init_44 trivial rfl (Nat.le_of_ble_eq_true rfl) (Nat.le_of_ble_eq_true rfl)
abbrev rmX2_driveTo : Room := { frames := 1, cells := 0, slots := 0, locals := 22 }
set_option maxHeartbeats 4000000 in
set_option maxRecDepth 100000 in
theorem m_X2_driveTo (l : Launch) (g : Gx) (to : Nat) (rg : Nat) (mi : Nat) (ti : Nat) (pl : Nat) (k : Int32) (cap : Int32) (t : TS) (fm : Nat → Int32) (nx : Nat) (ht : t.1 < 10) (hn : nx < 10) (sz : Nat) : Met l yX2_driveTo wsX2_driveTo rmX2_driveTo (PZ g [.ref to, .int (nI nx)] sz [(to, .inr (3, [.ref rg, .int k, .int cap, .int (nI t.1), .int t.2.1, .int t.2.2.1, .int t.2.2.2.1, .int t.2.2.2.2]))] [(rg, .inr (2, [.ref mi, .ref ti, .int (nI pl)])), (mi, .inl (g.2.1, 100, .inl fm))]) (va_Qv (fun (_ : Unit) => True) (BZ g [(to, .inr (3, [.ref rg, .int k, .int cap, .int (nI t.1), .int t.2.1, .int t.2.2.1, .int t.2.2.2.1, .int t.2.2.2.2]))] sz (fun (u : Unit) => [(to, .inr (3, [.ref rg, .int k, .int cap, .int (nI (drv fm t nx).1), .int ((drv fm t nx).2.1), .int ((drv fm t nx).2.2.1), .int ((drv fm t nx).2.2.2.1), .int ((drv fm t nx).2.2.2.2)]))])) (va_A [(to, .inr (3, [.ref rg, .int k, .int cap, .int (nI t.1), .int t.2.1, .int t.2.2.1, .int t.2.2.2.1, .int t.2.2.2.2]))] sz)) 0 0 (va_A [(to, .inr (3, [.ref rg, .int k, .int cap, .int (nI t.1), .int t.2.1, .int t.2.2.1, .int t.2.2.2.1, .int t.2.2.2.2]))] sz) := by
  refine z_open_v (cc := cX2_driveTo) (maxL := 2) (own := RX2) (by decide) rfl rfl (Nat.le_of_ble_eq_true rfl) ?_
  intro p e s m args below meth c Q h hnm fin
  generalize hAe : va_A [(to, .inr (3, [.ref rg, .int k, .int cap, .int (nI t.1), .int t.2.1, .int t.2.2.1, .int t.2.2.2.1, .int t.2.2.2.2]))] s.heap.size = A at h fin ⊢
  refine z_lve (lv' := [(0, .ref to), (1, .int (nI nx))]) rfl ?_
  refine z_aload_n h dX2_driveTo_0 rfl 0 rfl ?_
  refine z_dup h dX2_driveTo_1 rfl ?_
  refine z_get h in_X2_driveTo_X2 0 rfl rfl 5 (by decide) lk_X2_driveTo_f28 rfl dX2_driveTo_2 ?_
  refine z_aload_n h dX2_driveTo_5 rfl 0 rfl ?_
  refine z_get h in_X2_driveTo_X2 0 rfl rfl 0 (by decide) lk_X2_driveTo_f9 rfl dX2_driveTo_6 ?_
  refine z_aload_n h dX2_driveTo_9 rfl 0 rfl ?_
  refine z_get h in_X2_driveTo_X2 0 rfl rfl 3 (by decide) lk_X2_driveTo_f22 rfl dX2_driveTo_10 ?_
  refine z_iload_n h dX2_driveTo_13 rfl 1 rfl ?_
  refine z_Vi h (As := [.int (nI t.1), .int (nI nx)]) (st := [.int t.2.2.1, .ref to]) (fun sz => m_X1_between l g rg mi ti pl fm t.1 nx (by omega) (by omega) sz) (cwV 2 h.ts gX2_driveTo_X1_between rfl rfl rfl (by decide +kernel) ⟨Nat.le_of_ble_eq_true rfl, Nat.le_of_ble_eq_true rfl⟩) rfl [] [1, 2] rfl rfl rfl rfl 1 rfl rfl rfl rfl (Nat.le_of_ble_eq_true rfl) ⟨(Nat.le_of_ble_eq_true rfl), (Nat.le_of_ble_eq_true rfl)⟩ (fun _ => (Nat.le_of_ble_eq_true rfl)) (wN := fun u => [(to, .inr (3, [.ref rg, .int k, .int cap, .int (nI t.1), .int t.2.1, .int t.2.2.1, .int t.2.2.2.1, .int t.2.2.2.2]))]) (fun _ => rfl) dX2_driveTo_14 (fun r_14 u_14 h_14 => ?_)
  refine z_topi (y := fm (t.1 * 10 + nx)) h_14 ?_
  refine z_iadd h dX2_driveTo_17 ?_
  refine z_put h in_X2_driveTo_X2 0 tyX2 tyX2_ok nmX2 rfl rfl 5 (by decide) lk_X2_driveTo_f28 rfl rfl rfl (Nat.le_of_ble_eq_true rfl) dX2_driveTo_18 (wW' := [(to, .inr (3, [.ref rg, .int k, .int cap, .int (nI t.1), .int t.2.1, .int (t.2.2.1 + (fm (t.1 * 10 + nx))), .int t.2.2.2.1, .int t.2.2.2.2]))]) rfl ?_
  refine z_aload_n h dX2_driveTo_21 rfl 0 rfl ?_
  refine z_iload_n h dX2_driveTo_22 rfl 1 rfl ?_
  refine z_put h in_X2_driveTo_X2 0 tyX2 tyX2_ok nmX2 rfl rfl 3 (by decide) lk_X2_driveTo_f22 rfl rfl rfl (Nat.le_of_ble_eq_true rfl) dX2_driveTo_23 (wW' := [(to, .inr (3, [.ref rg, .int k, .int cap, .int (nI nx), .int t.2.1, .int (t.2.2.1 + (fm (t.1 * 10 + nx))), .int t.2.2.2.1, .int t.2.2.2.2]))]) rfl ?_
  exact fin _ _ () _ _ _ _ dX2_driveTo_26 trivial rfl (Nat.le_of_ble_eq_true rfl) (Nat.le_of_ble_eq_true rfl)
abbrev rmX2_unloadOnTheWayTo : Room := { frames := 2, cells := 0, slots := 0, locals := 48 }
set_option maxHeartbeats 4000000 in
set_option maxRecDepth 100000 in
theorem m_X2_unloadOnTheWayTo (l : Launch) (g : Gx) (to : Nat) (rg : Nat) (mi : Nat) (ti : Nat) (pl : Nat) (k : Int32) (cap : Int32) (t : TS) (fm : Nat → Int32) (ft : Nat → Int32) (nx : Nat) (hpl : pl ≤ 10) (ht : t.1 < 10) (hn : nx < 10) (sz : Nat) : Met l yX2_unloadOnTheWayTo wsX2_unloadOnTheWayTo rmX2_unloadOnTheWayTo (PZ g [.ref to, .int (nI nx)] sz [(to, .inr (3, [.ref rg, .int k, .int cap, .int (nI t.1), .int t.2.1, .int t.2.2.1, .int t.2.2.2.1, .int t.2.2.2.2]))] [(rg, .inr (2, [.ref mi, .ref ti, .int (nI pl)])), (mi, .inl (g.2.1, 100, .inl fm)), (ti, .inl (g.2.1, 10, .inl ft))]) (va_Qv (fun (_ : Unit) => True) (BZ g [(to, .inr (3, [.ref rg, .int k, .int cap, .int (nI t.1), .int t.2.1, .int t.2.2.1, .int t.2.2.2.1, .int t.2.2.2.2]))] sz (fun (u : Unit) => [(to, .inr (3, [.ref rg, .int k, .int cap, .int (nI (unl fm ft k pl t nx).1), .int ((unl fm ft k pl t nx).2.1), .int ((unl fm ft k pl t nx).2.2.1), .int ((unl fm ft k pl t nx).2.2.2.1), .int ((unl fm ft k pl t nx).2.2.2.2)]))])) (va_A [(to, .inr (3, [.ref rg, .int k, .int cap, .int (nI t.1), .int t.2.1, .int t.2.2.1, .int t.2.2.2.1, .int t.2.2.2.2]))] sz)) 0 0 (va_A [(to, .inr (3, [.ref rg, .int k, .int cap, .int (nI t.1), .int t.2.1, .int t.2.2.1, .int t.2.2.2.1, .int t.2.2.2.2]))] sz) := by
  refine z_open_v (cc := cX2_unloadOnTheWayTo) (maxL := 2) (own := RX2) (by decide) rfl rfl (Nat.le_of_ble_eq_true rfl) ?_
  intro p e s m args below meth c Q h hnm fin
  generalize hAe : va_A [(to, .inr (3, [.ref rg, .int k, .int cap, .int (nI t.1), .int t.2.1, .int t.2.2.1, .int t.2.2.2.1, .int t.2.2.2.2]))] s.heap.size = A at h fin ⊢
  refine z_lve (lv' := [(0, .ref to), (1, .int (nI nx))]) rfl ?_
  refine z_aload_n h dX2_unloadOnTheWayTo_0 rfl 0 rfl ?_
  refine z_dup h dX2_unloadOnTheWayTo_1 rfl ?_
  refine z_get h in_X2_unloadOnTheWayTo_X2 0 rfl rfl 5 (by decide) lk_X2_unloadOnTheWayTo_f28 rfl dX2_unloadOnTheWayTo_2 ?_
  refine z_aload_n h dX2_unloadOnTheWayTo_5 rfl 0 rfl ?_
  refine z_get h in_X2_unloadOnTheWayTo_X2 0 rfl rfl 0 (by decide) lk_X2_unloadOnTheWayTo_f9 rfl dX2_unloadOnTheWayTo_6 ?_
  refine z_aload_n h dX2_unloadOnTheWayTo_9 rfl 0 rfl ?_
  refine z_get h in_X2_unloadOnTheWayTo_X2 0 rfl rfl 1 (by decide) lk_X2_unloadOnTheWayTo_f15 rfl dX2_unloadOnTheWayTo_10 ?_
  refine z_aload_n h dX2_unloadOnTheWayTo_13 rfl 0 rfl ?_
  refine z_get h in_X2_unloadOnTheWayTo_X2 0 rfl rfl 3 (by decide) lk_X2_unloadOnTheWayTo_f22 rfl dX2_unloadOnTheWayTo_14 ?_
  refine z_iload_n h dX2_unloadOnTheWayTo_17 rfl 1 rfl ?_
  refine z_Vi h (As := [.int k, .int (nI t.1), .int (nI nx)]) (st := [.int t.2.2.1, .ref to]) (fun sz => m_X1_overTip l g rg mi ti pl fm ft k t.1 nx (by omega) (by omega) (by omega) sz) (cwV 3 h.ts gX2_unloadOnTheWayTo_X1_overTip rfl rfl rfl (by decide +kernel) ⟨Nat.le_of_ble_eq_true rfl, Nat.le_of_ble_eq_true rfl⟩) rfl [] [1, 2, 3] rfl rfl rfl rfl 1 rfl rfl rfl rfl (Nat.le_of_ble_eq_true rfl) ⟨(Nat.le_of_ble_eq_true rfl), (Nat.le_of_ble_eq_true rfl)⟩ (fun _ => (Nat.le_of_ble_eq_true rfl)) (wN := fun u => [(to, .inr (3, [.ref rg, .int k, .int cap, .int (nI t.1), .int t.2.1, .int t.2.2.1, .int t.2.2.2.1, .int t.2.2.2.2]))]) (fun _ => rfl) dX2_unloadOnTheWayTo_18 (fun r_18 u_18 h_18 => ?_)
  refine z_topi (y := ovT fm ft k t.1 nx pl) h_18 ?_
  refine z_bipush h (v := 10) dX2_unloadOnTheWayTo_21 (by decide) ?_
  refine z_iadd h dX2_unloadOnTheWayTo_23 ?_
  refine z_iadd h dX2_unloadOnTheWayTo_24 ?_
  refine z_put h in_X2_unloadOnTheWayTo_X2 0 tyX2 tyX2_ok nmX2 rfl rfl 5 (by decide) lk_X2_unloadOnTheWayTo_f28 rfl rfl rfl (Nat.le_of_ble_eq_true rfl) dX2_unloadOnTheWayTo_25 (wW' := [(to, .inr (3, [.ref rg, .int k, .int cap, .int (nI t.1), .int t.2.1, .int (t.2.2.1 + ((ovT fm ft k t.1 nx pl) + 10)), .int t.2.2.2.1, .int t.2.2.2.2]))]) rfl ?_
  refine z_aload_n h dX2_unloadOnTheWayTo_28 rfl 0 rfl ?_
  refine z_dup h dX2_unloadOnTheWayTo_29 rfl ?_
  refine z_get h in_X2_unloadOnTheWayTo_X2 0 rfl rfl 6 (by decide) lk_X2_unloadOnTheWayTo_f31 rfl dX2_unloadOnTheWayTo_30 ?_
  refine z_iconst h (v := 1) dX2_unloadOnTheWayTo_33 (by decide) ?_
  refine z_iadd h dX2_unloadOnTheWayTo_34 ?_
  refine z_put h in_X2_unloadOnTheWayTo_X2 0 tyX2 tyX2_ok nmX2 rfl rfl 6 (by decide) lk_X2_unloadOnTheWayTo_f31 rfl rfl rfl (Nat.le_of_ble_eq_true rfl) dX2_unloadOnTheWayTo_35 (wW' := [(to, .inr (3, [.ref rg, .int k, .int cap, .int (nI t.1), .int t.2.1, .int (t.2.2.1 + ((ovT fm ft k t.1 nx pl) + 10)), .int (t.2.2.2.1 + 1), .int t.2.2.2.2]))]) rfl ?_
  refine z_aload_n h dX2_unloadOnTheWayTo_38 rfl 0 rfl ?_
  refine z_dup h dX2_unloadOnTheWayTo_39 rfl ?_
  refine z_get h in_X2_unloadOnTheWayTo_X2 0 rfl rfl 7 (by decide) lk_X2_unloadOnTheWayTo_f34 rfl dX2_unloadOnTheWayTo_40 ?_
  refine z_aload_n h dX2_unloadOnTheWayTo_43 rfl 0 rfl ?_
  refine z_get h in_X2_unloadOnTheWayTo_X2 0 rfl rfl 4 (by decide) lk_X2_unloadOnTheWayTo_f25 rfl dX2_unloadOnTheWayTo_44 ?_
  refine z_iadd h dX2_unloadOnTheWayTo_47 ?_
  refine z_put h in_X2_unloadOnTheWayTo_X2 0 tyX2 tyX2_ok nmX2 rfl rfl 7 (by decide) lk_X2_unloadOnTheWayTo_f34 rfl rfl rfl (Nat.le_of_ble_eq_true rfl) dX2_unloadOnTheWayTo_48 (wW' := [(to, .inr (3, [.ref rg, .int k, .int cap, .int (nI t.1), .int t.2.1, .int (t.2.2.1 + ((ovT fm ft k t.1 nx pl) + 10)), .int (t.2.2.2.1 + 1), .int (t.2.2.2.2 + t.2.1)]))]) rfl ?_
  refine z_aload_n h dX2_unloadOnTheWayTo_51 rfl 0 rfl ?_
  refine z_iconst h (v := 0) dX2_unloadOnTheWayTo_52 (by decide) ?_
  refine z_put h in_X2_unloadOnTheWayTo_X2 0 tyX2 tyX2_ok nmX2 rfl rfl 4 (by decide) lk_X2_unloadOnTheWayTo_f25 rfl rfl rfl (Nat.le_of_ble_eq_true rfl) dX2_unloadOnTheWayTo_53 (wW' := [(to, .inr (3, [.ref rg, .int k, .int cap, .int (nI t.1), .int 0, .int (t.2.2.1 + ((ovT fm ft k t.1 nx pl) + 10)), .int (t.2.2.2.1 + 1), .int (t.2.2.2.2 + t.2.1)]))]) rfl ?_
  refine z_aload_n h dX2_unloadOnTheWayTo_56 rfl 0 rfl ?_
  refine z_iload_n h dX2_unloadOnTheWayTo_57 rfl 1 rfl ?_
  refine z_put h in_X2_unloadOnTheWayTo_X2 0 tyX2 tyX2_ok nmX2 rfl rfl 3 (by decide) lk_X2_unloadOnTheWayTo_f22 rfl rfl rfl (Nat.le_of_ble_eq_true rfl) dX2_unloadOnTheWayTo_58 (wW' := [(to, .inr (3, [.ref rg, .int k, .int cap, .int (nI nx), .int 0, .int (t.2.2.1 + ((ovT fm ft k t.1 nx pl) + 10)), .int (t.2.2.2.1 + 1), .int (t.2.2.2.2 + t.2.1)]))]) rfl ?_
  exact fin _ _ () _ _ _ _ dX2_unloadOnTheWayTo_61 trivial rfl (Nat.le_of_ble_eq_true rfl) (Nat.le_of_ble_eq_true rfl)
abbrev rmX2_visit : Room := { frames := 3, cells := 0, slots := 0, locals := 70 }
set_option maxHeartbeats 4000000 in
set_option maxRecDepth 100000 in
theorem m_X2_visit (l : Launch) (g : Gx) (to : Nat) (rg : Nat) (mi : Nat) (ti : Nat) (pl : Nat) (k : Int32) (cap : Int32) (t : TS) (fm : Nat → Int32) (ft : Nat → Int32) (bn : Nat) (b : Nat → Int32) (pb : Nat) (hpl : pl ≤ 10) (ht : t.1 < 10) (hb : b 0 = nI pb) (hpb : pb < 10) (sz : Nat) : Met l yX2_visit wsX2_visit rmX2_visit (PZ g [.ref to, .ref bn] sz [(to, .inr (3, [.ref rg, .int k, .int cap, .int (nI t.1), .int t.2.1, .int t.2.2.1, .int t.2.2.2.1, .int t.2.2.2.2]))] [(bn, .inr (1, [.int (b 0), .int (b 1), .int (b 2), .int (b 3), .int (b 4), .int (b 5), .int (b 6), .int (b 7), .int (b 8), .int (b 9)])), (rg, .inr (2, [.ref mi, .ref ti, .int (nI pl)])), (mi, .inl (g.2.1, 100, .inl fm)), (ti, .inl (g.2.1, 10, .inl ft))]) (va_Qi (fun (r : Int32) (_ : Unit) => r = visK fm ft k cap pl b pb t) (BZ g [(to, .inr (3, [.ref rg, .int k, .int cap, .int (nI t.1), .int t.2.1, .int t.2.2.1, .int t.2.2.2.1, .int t.2.2.2.2]))] sz (fun (u : Unit) => [(to, .inr (3, [.ref rg, .int k, .int cap, .int (nI (visT fm ft k cap pl b pb t).1), .int ((visT fm ft k cap pl b pb t).2.1), .int ((visT fm ft k cap pl b pb t).2.2.1), .int ((visT fm ft k cap pl b pb t).2.2.2.1), .int ((visT fm ft k cap pl b pb t).2.2.2.2)]))])) (va_A [(to, .inr (3, [.ref rg, .int k, .int cap, .int (nI t.1), .int t.2.1, .int t.2.2.1, .int t.2.2.2.1, .int t.2.2.2.2]))] sz)) 0 0 (va_A [(to, .inr (3, [.ref rg, .int k, .int cap, .int (nI t.1), .int t.2.1, .int t.2.2.1, .int t.2.2.2.1, .int t.2.2.2.2]))] sz) := by
  refine z_open_i (cc := cX2_visit) (maxL := 3) (ret := .int) (own := RX2) (by decide) rfl rfl (Nat.le_of_ble_eq_true rfl) ?_
  intro p e s m args below meth c Q h hnm fin
  generalize hAe : va_A [(to, .inr (3, [.ref rg, .int k, .int cap, .int (nI t.1), .int t.2.1, .int t.2.2.1, .int t.2.2.2.1, .int t.2.2.2.2]))] s.heap.size = A at h fin ⊢
  refine z_lve (lv' := [(0, .ref to), (1, .ref bn)]) rfl ?_
  refine z_aload_n h dX2_visit_0 rfl 0 rfl ?_
  refine z_aload_n h dX2_visit_1 rfl 1 rfl ?_
  refine z_getN h in_X2_visit_X0 1 rfl rfl 0 (by decide) (by decide) rfl dX2_visit_2 ?_
  refine z_topi (y := nI pb) hb ?_
  refine z_Vv h (As := [.int (nI pb)]) (st := []) (fun sz => m_X2_driveTo l g to rg mi ti pl k cap t fm pb ht hpb sz) (cwV 1 h.ts gX2_visit_X2_driveTo rfl rfl rfl (by decide +kernel) ⟨Nat.le_of_ble_eq_true rfl, Nat.le_of_ble_eq_true rfl⟩) rfl [0] [2, 3] rfl rfl rfl rfl 0 rfl rfl rfl rfl (Nat.le_of_ble_eq_true rfl) ⟨(Nat.le_of_ble_eq_true rfl), (Nat.le_of_ble_eq_true rfl)⟩ (fun _ => (Nat.le_of_ble_eq_true rfl)) (wN := fun u => [(to, .inr (3, [.ref rg, .int k, .int cap, .int (nI (drv fm t pb).1), .int ((drv fm t pb).2.1), .int ((drv fm t pb).2.2.1), .int ((drv fm t pb).2.2.2.1), .int ((drv fm t pb).2.2.2.2)]))]) (fun _ => rfl) dX2_visit_5 (fun u_5 h_5 => ?_)
  refine z_aload_n h dX2_visit_8 rfl 1 rfl ?_
  refine z_getN h in_X2_visit_X0 1 rfl rfl 9 (by decide) (by decide) rfl dX2_visit_9 ?_
  refine z_if_eq h (tgt := 27) dX2_visit_12 (by decide) (fun c_12 => ?_) (fun c_12 => ?_)
  · refine z_aload_n h dX2_visit_27 rfl 0 rfl ?_
    refine z_get h in_X2_visit_X2 0 rfl rfl 4 (by decide) lk_X2_visit_f25 rfl dX2_visit_28 ?_
    refine z_if_le h (tgt := 58) dX2_visit_31 (by decide) (fun c_31 => ?_) (fun c_31 => ?_)
    · refine z_aload_n h dX2_visit_58 rfl 0 rfl ?_
      refine z_dup h dX2_visit_59 rfl ?_
      refine z_get h in_X2_visit_X2 0 rfl rfl 5 (by decide) lk_X2_visit_f28 rfl dX2_visit_60 ?_
      refine z_iconst h (v := 5) dX2_visit_63 (by decide) ?_
      refine z_iadd h dX2_visit_64 ?_
      refine z_put h in_X2_visit_X2 0 tyX2 tyX2_ok nmX2 rfl rfl 5 (by decide) lk_X2_visit_f28 rfl rfl rfl (Nat.le_of_ble_eq_true rfl) dX2_visit_65 (wW' := [(to, .inr (3, [.ref rg, .int k, .int cap, .int (nI (drv fm t pb).1), .int ((drv fm t pb).2.1), .int (((drv fm t pb).2.2.1) + 5), .int ((drv fm t pb).2.2.2.1), .int ((drv fm t pb).2.2.2.2)]))]) rfl ?_
      refine z_aload_n h dX2_visit_68 rfl 1 rfl ?_
      refine z_getN h in_X2_visit_X0 1 rfl rfl 4 (by decide) (by decide) rfl dX2_visit_69 ?_
      refine z_aload_n h dX2_visit_72 rfl 0 rfl ?_
      refine z_get h in_X2_visit_X2 0 rfl rfl 2 (by decide) lk_X2_visit_f19 rfl dX2_visit_73 ?_
      refine z_aload_n h dX2_visit_76 rfl 0 rfl ?_
      refine z_get h in_X2_visit_X2 0 rfl rfl 4 (by decide) lk_X2_visit_f25 rfl dX2_visit_77 ?_
      refine z_isub h dX2_visit_80 ?_
      refine z_mmin h lk_X2_visit_m56 lk_X2_visit_smin lk_X2_visit_imin lk_X2_visit_kmin (Nat.le_of_ble_eq_true rfl) (Nat.le_of_ble_eq_true rfl) (Nat.le_of_ble_eq_true rfl) (Nat.le_of_ble_eq_true rfl) dX2_visit_81 ?_
      refine z_istore_n h dX2_visit_84 rfl (by decide) (lv' := [(0, .ref to), (1, .ref bn), (2, .int (if (cap - ((drv fm t pb).2.1)) < (b 4) then (cap - ((drv fm t pb).2.1)) else (b 4)))]) [1, 2, 0] rfl ?_
      refine z_aload_n h dX2_visit_85 rfl 0 rfl ?_
      refine z_dup h dX2_visit_86 rfl ?_
      refine z_get h in_X2_visit_X2 0 rfl rfl 4 (by decide) lk_X2_visit_f25 rfl dX2_visit_87 ?_
      refine z_iload_n h dX2_visit_90 rfl 2 rfl ?_
      refine z_iadd h dX2_visit_91 ?_
      refine z_put h in_X2_visit_X2 0 tyX2 tyX2_ok nmX2 rfl rfl 4 (by decide) lk_X2_visit_f25 rfl rfl rfl (Nat.le_of_ble_eq_true rfl) dX2_visit_92 (wW' := [(to, .inr (3, [.ref rg, .int k, .int cap, .int (nI (drv fm t pb).1), .int (((drv fm t pb).2.1) + (if (cap - ((drv fm t pb).2.1)) < (b 4) then (cap - ((drv fm t pb).2.1)) else (b 4))), .int (((drv fm t pb).2.2.1) + 5), .int ((drv fm t pb).2.2.2.1), .int ((drv fm t pb).2.2.2.2)]))]) rfl ?_
      refine z_iload_n h dX2_visit_95 rfl 2 rfl ?_
      exact fin _ _ _ () _ _ _ _ dX2_visit_96 rfl (by first | (rw [visK, if_pos c_12, mun, if_pos c_31]; rfl) | (rw [visK, if_pos c_12, mun, if_neg c_31, if_pos c_47]; rfl) | (rw [visK, if_pos c_12, mun, if_neg c_31, if_neg c_47]; rfl)) (by first | (rw [visT, if_pos c_12, mun, if_pos c_31]; rfl) | (rw [visT, if_pos c_12, mun, if_neg c_31, if_pos c_47]; rfl) | (rw [visT, if_pos c_12, mun, if_neg c_31, if_neg c_47]; rfl)) (Nat.le_of_ble_eq_true rfl) (Nat.le_of_ble_eq_true rfl)
    · refine z_aload_n h dX2_visit_34 rfl 0 rfl ?_
      refine z_get h in_X2_visit_X2 0 rfl rfl 2 (by decide) lk_X2_visit_f19 rfl dX2_visit_35 ?_
      refine z_aload_n h dX2_visit_38 rfl 0 rfl ?_
      refine z_get h in_X2_visit_X2 0 rfl rfl 4 (by decide) lk_X2_visit_f25 rfl dX2_visit_39 ?_
      refine z_isub h dX2_visit_42 ?_
      refine z_aload_n h dX2_visit_43 rfl 1 rfl ?_
      refine z_getN h in_X2_visit_X0 1 rfl rfl 4 (by decide) (by decide) rfl dX2_visit_44 ?_
      refine z_icmp_ge h (tgt := 58) dX2_visit_47 (by decide) (fun c_47 => ?_) (fun c_47 => ?_)
      · refine z_aload_n h dX2_visit_58 rfl 0 rfl ?_
        refine z_dup h dX2_visit_59 rfl ?_
        refine z_get h in_X2_visit_X2 0 rfl rfl 5 (by decide) lk_X2_visit_f28 rfl dX2_visit_60 ?_
        refine z_iconst h (v := 5) dX2_visit_63 (by decide) ?_
        refine z_iadd h dX2_visit_64 ?_
        refine z_put h in_X2_visit_X2 0 tyX2 tyX2_ok nmX2 rfl rfl 5 (by decide) lk_X2_visit_f28 rfl rfl rfl (Nat.le_of_ble_eq_true rfl) dX2_visit_65 (wW' := [(to, .inr (3, [.ref rg, .int k, .int cap, .int (nI (drv fm t pb).1), .int ((drv fm t pb).2.1), .int (((drv fm t pb).2.2.1) + 5), .int ((drv fm t pb).2.2.2.1), .int ((drv fm t pb).2.2.2.2)]))]) rfl ?_
        refine z_aload_n h dX2_visit_68 rfl 1 rfl ?_
        refine z_getN h in_X2_visit_X0 1 rfl rfl 4 (by decide) (by decide) rfl dX2_visit_69 ?_
        refine z_aload_n h dX2_visit_72 rfl 0 rfl ?_
        refine z_get h in_X2_visit_X2 0 rfl rfl 2 (by decide) lk_X2_visit_f19 rfl dX2_visit_73 ?_
        refine z_aload_n h dX2_visit_76 rfl 0 rfl ?_
        refine z_get h in_X2_visit_X2 0 rfl rfl 4 (by decide) lk_X2_visit_f25 rfl dX2_visit_77 ?_
        refine z_isub h dX2_visit_80 ?_
        refine z_mmin h lk_X2_visit_m56 lk_X2_visit_smin lk_X2_visit_imin lk_X2_visit_kmin (Nat.le_of_ble_eq_true rfl) (Nat.le_of_ble_eq_true rfl) (Nat.le_of_ble_eq_true rfl) (Nat.le_of_ble_eq_true rfl) dX2_visit_81 ?_
        refine z_istore_n h dX2_visit_84 rfl (by decide) (lv' := [(0, .ref to), (1, .ref bn), (2, .int (if (cap - ((drv fm t pb).2.1)) < (b 4) then (cap - ((drv fm t pb).2.1)) else (b 4)))]) [1, 2, 0] rfl ?_
        refine z_aload_n h dX2_visit_85 rfl 0 rfl ?_
        refine z_dup h dX2_visit_86 rfl ?_
        refine z_get h in_X2_visit_X2 0 rfl rfl 4 (by decide) lk_X2_visit_f25 rfl dX2_visit_87 ?_
        refine z_iload_n h dX2_visit_90 rfl 2 rfl ?_
        refine z_iadd h dX2_visit_91 ?_
        refine z_put h in_X2_visit_X2 0 tyX2 tyX2_ok nmX2 rfl rfl 4 (by decide) lk_X2_visit_f25 rfl rfl rfl (Nat.le_of_ble_eq_true rfl) dX2_visit_92 (wW' := [(to, .inr (3, [.ref rg, .int k, .int cap, .int (nI (drv fm t pb).1), .int (((drv fm t pb).2.1) + (if (cap - ((drv fm t pb).2.1)) < (b 4) then (cap - ((drv fm t pb).2.1)) else (b 4))), .int (((drv fm t pb).2.2.1) + 5), .int ((drv fm t pb).2.2.2.1), .int ((drv fm t pb).2.2.2.2)]))]) rfl ?_
        refine z_iload_n h dX2_visit_95 rfl 2 rfl ?_
        exact fin _ _ _ () _ _ _ _ dX2_visit_96 rfl (by first | (rw [visK, if_pos c_12, mun, if_pos c_31]; rfl) | (rw [visK, if_pos c_12, mun, if_neg c_31, if_pos c_47]; rfl) | (rw [visK, if_pos c_12, mun, if_neg c_31, if_neg c_47]; rfl)) (by first | (rw [visT, if_pos c_12, mun, if_pos c_31]; rfl) | (rw [visT, if_pos c_12, mun, if_neg c_31, if_pos c_47]; rfl) | (rw [visT, if_pos c_12, mun, if_neg c_31, if_neg c_47]; rfl)) (Nat.le_of_ble_eq_true rfl) (Nat.le_of_ble_eq_true rfl)
      · refine z_aload_n h dX2_visit_50 rfl 0 rfl ?_
        refine z_aload_n h dX2_visit_51 rfl 0 rfl ?_
        refine z_get h in_X2_visit_X2 0 rfl rfl 3 (by decide) lk_X2_visit_f22 rfl dX2_visit_52 ?_
        refine z_Vv h (As := [.int (nI (drv fm t pb).1)]) (st := []) (fun sz => m_X2_unloadOnTheWayTo l g to rg mi ti pl k cap (drv fm t pb) fm ft ((drv fm t pb).1) hpl hpb hpb sz) (cwV 1 h.ts gX2_visit_X2_unloadOnTheWayTo rfl rfl rfl (by decide +kernel) ⟨Nat.le_of_ble_eq_true rfl, Nat.le_of_ble_eq_true rfl⟩) rfl [0] [2, 3, 4] rfl rfl rfl rfl 0 rfl rfl rfl rfl (Nat.le_of_ble_eq_true rfl) ⟨(Nat.le_of_ble_eq_true rfl), (Nat.le_of_ble_eq_true rfl)⟩ (fun _ => (Nat.le_of_ble_eq_true rfl)) (wN := fun u => [(to, .inr (3, [.ref rg, .int k, .int cap, .int (nI (unl fm ft k pl (drv fm t pb) ((drv fm t pb).1)).1), .int ((unl fm ft k pl (drv fm t pb) ((drv fm t pb).1)).2.1), .int ((unl fm ft k pl (drv fm t pb) ((drv fm t pb).1)).2.2.1), .int ((unl fm ft k pl (drv fm t pb) ((drv fm t pb).1)).2.2.2.1), .int ((unl fm ft k pl (drv fm t pb) ((drv fm t pb).1)).2.2.2.2)]))]) (fun _ => rfl) dX2_visit_55 (fun u_55 h_55 => ?_)
        refine z_aload_n h dX2_visit_58 rfl 0 rfl ?_
        refine z_dup h dX2_visit_59 rfl ?_
        refine z_get h in_X2_visit_X2 0 rfl rfl 5 (by decide) lk_X2_visit_f28 rfl dX2_visit_60 ?_
        refine z_iconst h (v := 5) dX2_visit_63 (by decide) ?_
        refine z_iadd h dX2_visit_64 ?_
        refine z_put h in_X2_visit_X2 0 tyX2 tyX2_ok nmX2 rfl rfl 5 (by decide) lk_X2_visit_f28 rfl rfl rfl (Nat.le_of_ble_eq_true rfl) dX2_visit_65 (wW' := [(to, .inr (3, [.ref rg, .int k, .int cap, .int (nI (unl fm ft k pl (drv fm t pb) ((drv fm t pb).1)).1), .int ((unl fm ft k pl (drv fm t pb) ((drv fm t pb).1)).2.1), .int (((unl fm ft k pl (drv fm t pb) ((drv fm t pb).1)).2.2.1) + 5), .int ((unl fm ft k pl (drv fm t pb) ((drv fm t pb).1)).2.2.2.1), .int ((unl fm ft k pl (drv fm t pb) ((drv fm t pb).1)).2.2.2.2)]))]) rfl ?_
        refine z_aload_n h dX2_visit_68 rfl 1 rfl ?_
        refine z_getN h in_X2_visit_X0 1 rfl rfl 4 (by decide) (by decide) rfl dX2_visit_69 ?_
        refine z_aload_n h dX2_visit_72 rfl 0 rfl ?_
        refine z_get h in_X2_visit_X2 0 rfl rfl 2 (by decide) lk_X2_visit_f19 rfl dX2_visit_73 ?_
        refine z_aload_n h dX2_visit_76 rfl 0 rfl ?_
        refine z_get h in_X2_visit_X2 0 rfl rfl 4 (by decide) lk_X2_visit_f25 rfl dX2_visit_77 ?_
        refine z_isub h dX2_visit_80 ?_
        refine z_mmin h lk_X2_visit_m56 lk_X2_visit_smin lk_X2_visit_imin lk_X2_visit_kmin (Nat.le_of_ble_eq_true rfl) (Nat.le_of_ble_eq_true rfl) (Nat.le_of_ble_eq_true rfl) (Nat.le_of_ble_eq_true rfl) dX2_visit_81 ?_
        refine z_istore_n h dX2_visit_84 rfl (by decide) (lv' := [(0, .ref to), (1, .ref bn), (2, .int (if (cap - ((unl fm ft k pl (drv fm t pb) ((drv fm t pb).1)).2.1)) < (b 4) then (cap - ((unl fm ft k pl (drv fm t pb) ((drv fm t pb).1)).2.1)) else (b 4)))]) [1, 2, 0] rfl ?_
        refine z_aload_n h dX2_visit_85 rfl 0 rfl ?_
        refine z_dup h dX2_visit_86 rfl ?_
        refine z_get h in_X2_visit_X2 0 rfl rfl 4 (by decide) lk_X2_visit_f25 rfl dX2_visit_87 ?_
        refine z_iload_n h dX2_visit_90 rfl 2 rfl ?_
        refine z_iadd h dX2_visit_91 ?_
        refine z_put h in_X2_visit_X2 0 tyX2 tyX2_ok nmX2 rfl rfl 4 (by decide) lk_X2_visit_f25 rfl rfl rfl (Nat.le_of_ble_eq_true rfl) dX2_visit_92 (wW' := [(to, .inr (3, [.ref rg, .int k, .int cap, .int (nI (unl fm ft k pl (drv fm t pb) ((drv fm t pb).1)).1), .int (((unl fm ft k pl (drv fm t pb) ((drv fm t pb).1)).2.1) + (if (cap - ((unl fm ft k pl (drv fm t pb) ((drv fm t pb).1)).2.1)) < (b 4) then (cap - ((unl fm ft k pl (drv fm t pb) ((drv fm t pb).1)).2.1)) else (b 4))), .int (((unl fm ft k pl (drv fm t pb) ((drv fm t pb).1)).2.2.1) + 5), .int ((unl fm ft k pl (drv fm t pb) ((drv fm t pb).1)).2.2.2.1), .int ((unl fm ft k pl (drv fm t pb) ((drv fm t pb).1)).2.2.2.2)]))]) rfl ?_
        refine z_iload_n h dX2_visit_95 rfl 2 rfl ?_
        exact fin _ _ _ () _ _ _ _ dX2_visit_96 rfl (by first | (rw [visK, if_pos c_12, mun, if_pos c_31]; rfl) | (rw [visK, if_pos c_12, mun, if_neg c_31, if_pos c_47]; rfl) | (rw [visK, if_pos c_12, mun, if_neg c_31, if_neg c_47]; rfl)) (by first | (rw [visT, if_pos c_12, mun, if_pos c_31]; rfl) | (rw [visT, if_pos c_12, mun, if_neg c_31, if_pos c_47]; rfl) | (rw [visT, if_pos c_12, mun, if_neg c_31, if_neg c_47]; rfl)) (Nat.le_of_ble_eq_true rfl) (Nat.le_of_ble_eq_true rfl)
  · refine z_aload_n h dX2_visit_15 rfl 0 rfl ?_
    refine z_dup h dX2_visit_16 rfl ?_
    refine z_get h in_X2_visit_X2 0 rfl rfl 5 (by decide) lk_X2_visit_f28 rfl dX2_visit_17 ?_
    refine z_iconst h (v := 2) dX2_visit_20 (by decide) ?_
    refine z_iadd h dX2_visit_21 ?_
    refine z_put h in_X2_visit_X2 0 tyX2 tyX2_ok nmX2 rfl rfl 5 (by decide) lk_X2_visit_f28 rfl rfl rfl (Nat.le_of_ble_eq_true rfl) dX2_visit_22 (wW' := [(to, .inr (3, [.ref rg, .int k, .int cap, .int (nI (drv fm t pb).1), .int ((drv fm t pb).2.1), .int (((drv fm t pb).2.2.1) + 2), .int ((drv fm t pb).2.2.2.1), .int ((drv fm t pb).2.2.2.2)]))]) rfl ?_
    refine z_iconst h (v := 0) dX2_visit_25 (by decide) ?_
    exact fin _ _ _ () _ _ _ _ dX2_visit_26 rfl (by rw [visK, if_neg c_12]) (by rw [visT, if_neg c_12]; rfl) (Nat.le_of_ble_eq_true rfl) (Nat.le_of_ble_eq_true rfl)
abbrev rmX2_end : Room := { frames := 3, cells := 0, slots := 0, locals := 70 }
set_option maxHeartbeats 4000000 in
set_option maxRecDepth 100000 in
theorem m_X2_end (l : Launch) (g : Gx) (to : Nat) (rg : Nat) (mi : Nat) (ti : Nat) (pl : Nat) (k : Int32) (cap : Int32) (t : TS) (fm : Nat → Int32) (ft : Nat → Int32) (hpl : pl ≤ 10) (ht : t.1 < 10) (sz : Nat) : Met l yX2_end wsX2_end rmX2_end (PZ g [.ref to] sz [(to, .inr (3, [.ref rg, .int k, .int cap, .int (nI t.1), .int t.2.1, .int t.2.2.1, .int t.2.2.2.1, .int t.2.2.2.2]))] [(rg, .inr (2, [.ref mi, .ref ti, .int (nI pl)])), (mi, .inl (g.2.1, 100, .inl fm)), (ti, .inl (g.2.1, 10, .inl ft))]) (va_Qv (fun (_ : Unit) => True) (BZ g [(to, .inr (3, [.ref rg, .int k, .int cap, .int (nI t.1), .int t.2.1, .int t.2.2.1, .int t.2.2.2.1, .int t.2.2.2.2]))] sz (fun (u : Unit) => [(to, .inr (3, [.ref rg, .int k, .int cap, .int (nI (endT fm ft k pl t).1), .int ((endT fm ft k pl t).2.1), .int ((endT fm ft k pl t).2.2.1), .int ((endT fm ft k pl t).2.2.2.1), .int ((endT fm ft k pl t).2.2.2.2)]))])) (va_A [(to, .inr (3, [.ref rg, .int k, .int cap, .int (nI t.1), .int t.2.1, .int t.2.2.1, .int t.2.2.2.1, .int t.2.2.2.2]))] sz)) 0 0 (va_A [(to, .inr (3, [.ref rg, .int k, .int cap, .int (nI t.1), .int t.2.1, .int t.2.2.1, .int t.2.2.2.1, .int t.2.2.2.2]))] sz) := by
  refine z_open_v (cc := cX2_end) (maxL := 1) (own := RX2) (by decide) rfl rfl (Nat.le_of_ble_eq_true rfl) ?_
  intro p e s m args below meth c Q h hnm fin
  generalize hAe : va_A [(to, .inr (3, [.ref rg, .int k, .int cap, .int (nI t.1), .int t.2.1, .int t.2.2.1, .int t.2.2.2.1, .int t.2.2.2.2]))] s.heap.size = A at h fin ⊢
  refine z_lve (lv' := [(0, .ref to)]) rfl ?_
  refine z_aload_n h dX2_end_0 rfl 0 rfl ?_
  refine z_get h in_X2_end_X2 0 rfl rfl 4 (by decide) lk_X2_end_f25 rfl dX2_end_1 ?_
  refine z_if_le h (tgt := 12) dX2_end_4 (by decide) (fun c_4 => ?_) (fun c_4 => ?_)
  · refine z_aload_n h dX2_end_12 rfl 0 rfl ?_
    refine z_iconst h (v := 0) dX2_end_13 (by decide) ?_
    refine z_Vv h (As := [.int 0]) (st := []) (fun sz => m_X2_driveTo l g to rg mi ti pl k cap t fm 0 (by first | exact ht | exact (show 0 < 10 by decide)) (by decide) sz) (cwV 1 h.ts gX2_end_X2_driveTo rfl rfl rfl (by decide +kernel) ⟨Nat.le_of_ble_eq_true rfl, Nat.le_of_ble_eq_true rfl⟩) rfl [0] [1, 2] rfl rfl rfl rfl 0 rfl rfl rfl rfl (Nat.le_of_ble_eq_true rfl) ⟨(Nat.le_of_ble_eq_true rfl), (Nat.le_of_ble_eq_true rfl)⟩ (fun _ => (Nat.le_of_ble_eq_true rfl)) (wN := fun u => [(to, .inr (3, [.ref rg, .int k, .int cap, .int (nI (drv fm t 0).1), .int ((drv fm t 0).2.1), .int ((drv fm t 0).2.2.1), .int ((drv fm t 0).2.2.2.1), .int ((drv fm t 0).2.2.2.2)]))]) (fun _ => rfl) dX2_end_14 (fun u_14 h_14 => ?_)
    exact fin _ _ () _ _ _ _ dX2_end_17 trivial (by first | (rw [endT, if_pos c_4]) | (rw [endT, if_neg c_4])) (Nat.le_of_ble_eq_true rfl) (Nat.le_of_ble_eq_true rfl)
  · refine z_aload_n h dX2_end_7 rfl 0 rfl ?_
    refine z_iconst h (v := 0) dX2_end_8 (by decide) ?_
    refine z_Vv h (As := [.int 0]) (st := []) (fun sz => m_X2_unloadOnTheWayTo l g to rg mi ti pl k cap t fm ft 0 hpl ht (by decide) sz) (cwV 1 h.ts gX2_end_X2_unloadOnTheWayTo rfl rfl rfl (by decide +kernel) ⟨Nat.le_of_ble_eq_true rfl, Nat.le_of_ble_eq_true rfl⟩) rfl [0] [1, 2, 3] rfl rfl rfl rfl 0 rfl rfl rfl rfl (Nat.le_of_ble_eq_true rfl) ⟨(Nat.le_of_ble_eq_true rfl), (Nat.le_of_ble_eq_true rfl)⟩ (fun _ => (Nat.le_of_ble_eq_true rfl)) (wN := fun u => [(to, .inr (3, [.ref rg, .int k, .int cap, .int (nI (unl fm ft k pl t 0).1), .int ((unl fm ft k pl t 0).2.1), .int ((unl fm ft k pl t 0).2.2.1), .int ((unl fm ft k pl t 0).2.2.2.1), .int ((unl fm ft k pl t 0).2.2.2.2)]))]) (fun _ => rfl) dX2_end_9 (fun u_9 h_9 => ?_)
    refine z_aload_n h dX2_end_12 rfl 0 rfl ?_
    refine z_iconst h (v := 0) dX2_end_13 (by decide) ?_
    refine z_Vv h (As := [.int 0]) (st := []) (fun sz => m_X2_driveTo l g to rg mi ti pl k cap (unl fm ft k pl t 0) fm 0 (by first | exact ht | exact (show 0 < 10 by decide)) (by decide) sz) (cwV 1 h.ts gX2_end_X2_driveTo rfl rfl rfl (by decide +kernel) ⟨Nat.le_of_ble_eq_true rfl, Nat.le_of_ble_eq_true rfl⟩) rfl [0] [1, 2] rfl rfl rfl rfl 0 rfl rfl rfl rfl (Nat.le_of_ble_eq_true rfl) ⟨(Nat.le_of_ble_eq_true rfl), (Nat.le_of_ble_eq_true rfl)⟩ (fun _ => (Nat.le_of_ble_eq_true rfl)) (wN := fun u => [(to, .inr (3, [.ref rg, .int k, .int cap, .int (nI (drv fm (unl fm ft k pl t 0) 0).1), .int ((drv fm (unl fm ft k pl t 0) 0).2.1), .int ((drv fm (unl fm ft k pl t 0) 0).2.2.1), .int ((drv fm (unl fm ft k pl t 0) 0).2.2.2.1), .int ((drv fm (unl fm ft k pl t 0) 0).2.2.2.2)]))]) (fun _ => rfl) dX2_end_14 (fun u_14 h_14 => ?_)
    exact fin _ _ () _ _ _ _ dX2_end_17 trivial (by first | (rw [endT, if_pos c_4]) | (rw [endT, if_neg c_4])) (Nat.le_of_ble_eq_true rfl) (Nat.le_of_ble_eq_true rfl)
