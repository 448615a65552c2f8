theorem mul4' (a : Nat) : 4 * nI a = nI (a * 4) := by rw [show (4 : Int32) = nI 4 from rfl, pk_mul, Nat.mul_comm]
theorem col_ne {B : Nat → Nat → Int32} {i j : Nat} {b : Nat → Int32} (h : b j = B i j) : col (updB B i b) j = col B j := by
  funext q
  unfold col updB
  by_cases e : q = i
  · subst e; simp [h]
  · simp [e]
theorem col_up {B : Nat → Nat → Int32} {i j : Nat} {b : Nat → Int32} {v : Int32} (h : b j = v) : col (updB B i b) j = upd (col B j) i v := by
  funext q
  unfold col updB upd
  by_cases e : q = i
  · subst e; simp [h]
  · simp [e]
theorem in_X4_setGrowth_X4 : ∀ w ∈ wsX40, w ∈ wsX4_setGrowth := by decide +kernel
theorem lk_X4_setGrowth_f33 : Cond.fieldLink RX4 33 (TX4 10).1 (TX4 10).2.1 (TX4 10).2.2.1 ∈ wsX4_setGrowth := by decide +kernel
theorem lk_X4_setGrowth_f64 : Cond.fieldLink RX4 64 (TX4 0).1 (TX4 0).2.1 (TX4 0).2.2.1 ∈ wsX4_setGrowth := by decide +kernel
theorem in_X4_soil_X4 : ∀ w ∈ wsX40, w ∈ wsX4_soil := by decide +kernel
theorem lk_X4_soil_f51 : Cond.fieldLink RX4 51 (TX4 16).1 (TX4 16).2.1 (TX4 16).2.2.1 ∈ wsX4_soil := by decide +kernel
theorem lk_X4_soil_f64 : Cond.fieldLink RX4 64 (TX4 0).1 (TX4 0).2.1 (TX4 0).2.2.1 ∈ wsX4_soil := by decide +kernel
theorem in_X4_told_X4 : ∀ w ∈ wsX40, w ∈ wsX4_told := by decide +kernel
theorem lk_X4_told_f24 : Cond.fieldLink RX4 24 (TX4 7).1 (TX4 7).2.1 (TX4 7).2.2.1 ∈ wsX4_told := by decide +kernel
theorem lk_X4_told_f27 : Cond.fieldLink RX4 27 (TX4 8).1 (TX4 8).2.1 (TX4 8).2.2.1 ∈ wsX4_told := by decide +kernel
theorem lk_X4_told_f36 : Cond.fieldLink RX4 36 (TX4 11).1 (TX4 11).2.1 (TX4 11).2.2.1 ∈ wsX4_told := by decide +kernel
theorem lk_X4_told_f39 : Cond.fieldLink RX4 39 (TX4 12).1 (TX4 12).2.1 (TX4 12).2.2.1 ∈ wsX4_told := by decide +kernel
theorem lk_X4_told_f42 : Cond.fieldLink RX4 42 (TX4 13).1 (TX4 13).2.1 (TX4 13).2.2.1 ∈ wsX4_told := by decide +kernel
theorem lk_X4_told_f45 : Cond.fieldLink RX4 45 (TX4 14).1 (TX4 14).2.1 (TX4 14).2.2.1 ∈ wsX4_told := by decide +kernel
theorem lk_X4_told_f48 : Cond.fieldLink RX4 48 (TX4 15).1 (TX4 15).2.1 (TX4 15).2.2.1 ∈ wsX4_told := by decide +kernel
theorem lk_X4_told_f51 : Cond.fieldLink RX4 51 (TX4 16).1 (TX4 16).2.1 (TX4 16).2.2.1 ∈ wsX4_told := by decide +kernel
theorem in_X4_bin_X4 : ∀ w ∈ wsX40, w ∈ wsX4_bin := by decide +kernel
theorem lk_X4_bin_f64 : Cond.fieldLink RX4 64 (TX4 0).1 (TX4 0).2.1 (TX4 0).2.2.1 ∈ wsX4_bin := by decide +kernel
theorem in_X4_expectedOn_X4 : ∀ w ∈ wsX40, w ∈ wsX4_expectedOn := by decide +kernel
theorem lk_X4_expectedOn_f30 : Cond.fieldLink RX4 30 (TX4 9).1 (TX4 9).2.1 (TX4 9).2.2.1 ∈ wsX4_expectedOn := by decide +kernel
theorem lk_X4_expectedOn_f39 : Cond.fieldLink RX4 39 (TX4 12).1 (TX4 12).2.1 (TX4 12).2.2.1 ∈ wsX4_expectedOn := by decide +kernel
theorem lk_X4_expectedOn_f42 : Cond.fieldLink RX4 42 (TX4 13).1 (TX4 13).2.1 (TX4 13).2.2.1 ∈ wsX4_expectedOn := by decide +kernel
theorem lk_X4_expectedOn_imin : Cond.initialized "java/lang/Math" ∈ wsX4_expectedOn := by decide +kernel
theorem lk_X4_expectedOn_kmin : Cond.code Lib.Math.min.name Lib.Math.min.code 2 (some .int) ∈ wsX4_expectedOn := by decide +kernel
theorem lk_X4_expectedOn_m111 : Cond.methodLink RX4 111 Lib.Math.min.name ∈ wsX4_expectedOn := by decide +kernel
theorem lk_X4_expectedOn_smin : Cond.static Lib.Math.min.name ∈ wsX4_expectedOn := by decide +kernel
theorem in_X4_expected_X4 : ∀ w ∈ wsX40, w ∈ wsX4_expected := by decide +kernel
theorem lk_X4_expected_f64 : Cond.fieldLink RX4 64 (TX4 0).1 (TX4 0).2.1 (TX4 0).2.2.1 ∈ wsX4_expected := by decide +kernel
theorem lk_X4_expected_f93 : Cond.fieldLink RX4 93 (TX4 5).1 (TX4 5).2.1 (TX4 5).2.2.1 ∈ wsX4_expected := by decide +kernel
theorem in_X4_fullOn_X4 : ∀ w ∈ wsX40, w ∈ wsX4_fullOn := by decide +kernel
theorem lk_X4_fullOn_f30 : Cond.fieldLink RX4 30 (TX4 9).1 (TX4 9).2.1 (TX4 9).2.2.1 ∈ wsX4_fullOn := by decide +kernel
theorem lk_X4_fullOn_f64 : Cond.fieldLink RX4 64 (TX4 0).1 (TX4 0).2.1 (TX4 0).2.2.1 ∈ wsX4_fullOn := by decide +kernel
theorem lk_X4_fullOn_f93 : Cond.fieldLink RX4 93 (TX4 5).1 (TX4 5).2.1 (TX4 5).2.2.1 ∈ wsX4_fullOn := by decide +kernel
theorem in_X4_isDue_X4 : ∀ w ∈ wsX40, w ∈ wsX4_isDue := by decide +kernel
theorem lk_X4_isDue_f30 : Cond.fieldLink RX4 30 (TX4 9).1 (TX4 9).2.1 (TX4 9).2.2.1 ∈ wsX4_isDue := by decide +kernel
theorem lk_X4_isDue_f93 : Cond.fieldLink RX4 93 (TX4 5).1 (TX4 5).2.1 (TX4 5).2.2.1 ∈ wsX4_isDue := by decide +kernel
theorem in_X4_total_X4 : ∀ w ∈ wsX40, w ∈ wsX4_total := by decide +kernel
theorem lk_X4_total_f54 : Cond.fieldLink RX4 54 (TX4 17).1 (TX4 17).2.1 (TX4 17).2.2.1 ∈ wsX4_total := by decide +kernel
theorem lk_X4_total_f64 : Cond.fieldLink RX4 64 (TX4 0).1 (TX4 0).2.1 (TX4 0).2.2.1 ∈ wsX4_total := by decide +kernel
theorem in_X4_wasted_X4 : ∀ w ∈ wsX40, w ∈ wsX4_wasted := by decide +kernel
theorem lk_X4_wasted_f58 : Cond.fieldLink RX4 58 (TX4 18).1 (TX4 18).2.1 (TX4 18).2.2.1 ∈ wsX4_wasted := by decide +kernel
theorem lk_X4_wasted_f64 : Cond.fieldLink RX4 64 (TX4 0).1 (TX4 0).2.1 (TX4 0).2.2.1 ∈ wsX4_wasted := by decide +kernel
theorem in_X4_setTip_X4 : ∀ w ∈ wsX40, w ∈ wsX4_setTip := by decide +kernel
theorem lk_X4_setTip_f17 : Cond.fieldLink RX4 17 (TX4 3).1 (TX4 3).2.1 (TX4 3).2.2.1 ∈ wsX4_setTip := by decide +kernel
theorem lk_X4_setTip_f64 : Cond.fieldLink RX4 64 (TX4 0).1 (TX4 0).2.1 (TX4 0).2.2.1 ∈ wsX4_setTip := by decide +kernel
theorem lk_X4_setTip_f7 : Cond.fieldLink RX4 7 (TX4 1).1 (TX4 1).2.1 (TX4 1).2.2.1 ∈ wsX4_setTip := by decide +kernel
abbrev rmX4_setGrowth : Room := { frames := 2, cells := 0, slots := 0, locals := 43 }
set_option maxHeartbeats 4000000 in
set_option maxRecDepth 100000 in
theorem m_X4_setGrowth (l : Launch) (g : Gx) (cm : Nat → Nat) (th : Int32) (pl : Nat) (dy : Nat) (n : Nat) (sn : Nat) (B : Nat → Nat → Int32) (x : Int32) (v : Int32) (hn : n ≤ 16) (sz : Nat) : Met l yX4_setGrowth wsX4_setGrowth rmX4_setGrowth (PZ g [.ref (cm 0), .int x, .int v] sz [(cm 0, .inr (5, [.int th, .int (nI pl), .ref (cm 1), .ref (cm 2), .ref (cm 3), .int (nI dy), .int (nI n), .ref (cm 4), .ref (cm 5), .ref (cm 6), .ref (cm 7), .ref (cm 8), .ref (cm 9), .ref (cm 10), .ref (cm 11), .ref (cm 12), .ref (cm 13), .ref (cm 14), .ref (cm 15), .int (nI sn), .ref (cm 16)])), (cm 7, .inl (g.2.1, 16, .inl (col B 3)))] []) (va_Qi (fun (r : Int32) (_ : Unit) => k2 (okI n x) (okR 0 200 v) = 0 → r = B x.toNatClampNeg 3) (BZ g [(cm 0, .inr (5, [.int th, .int (nI pl), .ref (cm 1), .ref (cm 2), .ref (cm 3), .int (nI dy), .int (nI n), .ref (cm 4), .ref (cm 5), .ref (cm 6), .ref (cm 7), .ref (cm 8), .ref (cm 9), .ref (cm 10), .ref (cm 11), .ref (cm 12), .ref (cm 13), .ref (cm 14), .ref (cm 15), .int (nI sn), .ref (cm 16)])), (cm 7, .inl (g.2.1, 16, .inl (col B 3)))] sz (fun (u : Unit) => [(cm 0, .inr (5, [.int (k2 (okI n x) (okR 0 200 v)), .int (nI pl), .ref (cm 1), .ref (cm 2), .ref (cm 3), .int (nI dy), .int (nI n), .ref (cm 4), .ref (cm 5), .ref (cm 6), .ref (cm 7), .ref (cm 8), .ref (cm 9), .ref (cm 10), .ref (cm 11), .ref (cm 12), .ref (cm 13), .ref (cm 14), .ref (cm 15), .int (nI sn), .ref (cm 16)])), (cm 7, .inl (g.2.1, 16, .inl (if k2 (okI n x) (okR 0 200 v) = 0 then upd (col B 3) x.toNatClampNeg v else col B 3)))])) (va_A [(cm 0, .inr (5, [.int th, .int (nI pl), .ref (cm 1), .ref (cm 2), .ref (cm 3), .int (nI dy), .int (nI n), .ref (cm 4), .ref (cm 5), .ref (cm 6), .ref (cm 7), .ref (cm 8), .ref (cm 9), .ref (cm 10), .ref (cm 11), .ref (cm 12), .ref (cm 13), .ref (cm 14), .ref (cm 15), .int (nI sn), .ref (cm 16)])), (cm 7, .inl (g.2.1, 16, .inl (col B 3)))] sz)) 0 0 (va_A [(cm 0, .inr (5, [.int th, .int (nI pl), .ref (cm 1), .ref (cm 2), .ref (cm 3), .int (nI dy), .int (nI n), .ref (cm 4), .ref (cm 5), .ref (cm 6), .ref (cm 7), .ref (cm 8), .ref (cm 9), .ref (cm 10), .ref (cm 11), .ref (cm 12), .ref (cm 13), .ref (cm 14), .ref (cm 15), .int (nI sn), .ref (cm 16)])), (cm 7, .inl (g.2.1, 16, .inl (col B 3)))] sz) := by
  refine z_open_i (cc := cX4_setGrowth) (maxL := 4) (ret := .int) (own := RX4) (by decide) rfl rfl (Nat.le_of_ble_eq_true rfl) ?_
  intro p e s m args below meth c Q h hnm fin
  generalize hAe : va_A [(cm 0, .inr (5, [.int th, .int (nI pl), .ref (cm 1), .ref (cm 2), .ref (cm 3), .int (nI dy), .int (nI n), .ref (cm 4), .ref (cm 5), .ref (cm 6), .ref (cm 7), .ref (cm 8), .ref (cm 9), .ref (cm 10), .ref (cm 11), .ref (cm 12), .ref (cm 13), .ref (cm 14), .ref (cm 15), .int (nI sn), .ref (cm 16)])), (cm 7, .inl (g.2.1, 16, .inl (col B 3)))] s.heap.size = A at h fin ⊢
  refine z_lve (lv' := [(0, .ref (cm 0)), (1, .int x), (2, .int v)]) rfl ?_
  refine z_aload_n h dX4_setGrowth_0 rfl 0 rfl ?_
  refine z_iconst h (v := 0) dX4_setGrowth_1 (by decide) ?_
  refine z_put h in_X4_setGrowth_X4 0 tyX4 tyX4_ok nmX4 rfl rfl 0 (by decide) lk_X4_setGrowth_f64 rfl rfl rfl (Nat.le_of_ble_eq_true rfl) dX4_setGrowth_2 (wW' := [(cm 0, .inr (5, [.int 0, .int (nI pl), .ref (cm 1), .ref (cm 2), .ref (cm 3), .int (nI dy), .int (nI n), .ref (cm 4), .ref (cm 5), .ref (cm 6), .ref (cm 7), .ref (cm 8), .ref (cm 9), .ref (cm 10), .ref (cm 11), .ref (cm 12), .ref (cm 13), .ref (cm 14), .ref (cm 15), .int (nI sn), .ref (cm 16)])), (cm 7, .inl (g.2.1, 16, .inl (col B 3)))]) rfl ?_
  refine z_aload_n h dX4_setGrowth_5 rfl 0 rfl ?_
  refine z_iload_n h dX4_setGrowth_6 rfl 1 rfl ?_
  refine z_Vi h (As := [.int x]) (st := []) (fun sz => m_X4_isBin l g cm 0 pl dy n sn x (by omega) sz) (cwV 1 h.ts gX4_setGrowth_X4_isBin rfl rfl rfl (by decide +kernel) ⟨Nat.le_of_ble_eq_true rfl, Nat.le_of_ble_eq_true rfl⟩) rfl [] [0] rfl rfl rfl rfl 0 rfl rfl rfl rfl (Nat.le_of_ble_eq_true rfl) ⟨(Nat.le_of_ble_eq_true rfl), (Nat.le_of_ble_eq_true rfl)⟩ (fun _ => (Nat.le_of_ble_eq_true rfl)) (wN := fun u => [(cm 0, .inr (5, [.int 0, .int (nI pl), .ref (cm 1), .ref (cm 2), .ref (cm 3), .int (nI dy), .int (nI n), .ref (cm 4), .ref (cm 5), .ref (cm 6), .ref (cm 7), .ref (cm 8), .ref (cm 9), .ref (cm 10), .ref (cm 11), .ref (cm 12), .ref (cm 13), .ref (cm 14), .ref (cm 15), .int (nI sn), .ref (cm 16)])), (cm 7, .inl (g.2.1, 16, .inl (col B 3)))]) (fun _ => rfl) dX4_setGrowth_7 (fun r_7 u_7 h_7 => ?_)
  refine z_if_ne h (tgt := 19) dX4_setGrowth_10 (by decide) (fun c_10 => ?_) (fun c_10 => ?_)
  · have hx : okI n x = true := b01_1 h_7 c_10
    refine z_iload_n h dX4_setGrowth_19 rfl 2 rfl ?_
    refine z_iconst h (v := 0) dX4_setGrowth_20 (by decide) ?_
    refine z_sipush h (v := 200) dX4_setGrowth_21 (by decide) ?_
    refine z_Si h (b := 0) (C := "") (As := [.int v, .int 0, .int 200]) (st := []) (fun sz => m_X4_isIn l g v 0 200  sz) (va_cwS 3 h.ts gX4_setGrowth_X4_isIn rfl rfl rfl (by decide +kernel) ⟨Nat.le_of_ble_eq_true rfl, Nat.le_of_ble_eq_true rfl⟩) rfl [] [] rfl rfl rfl rfl rfl (Nat.le_of_ble_eq_true rfl) ⟨(Nat.le_of_ble_eq_true rfl), (Nat.le_of_ble_eq_true rfl)⟩ (fun _ => (Nat.le_of_ble_eq_true rfl)) (wN := fun u => [(cm 0, .inr (5, [.int 0, .int (nI pl), .ref (cm 1), .ref (cm 2), .ref (cm 3), .int (nI dy), .int (nI n), .ref (cm 4), .ref (cm 5), .ref (cm 6), .ref (cm 7), .ref (cm 8), .ref (cm 9), .ref (cm 10), .ref (cm 11), .ref (cm 12), .ref (cm 13), .ref (cm 14), .ref (cm 15), .int (nI sn), .ref (cm 16)])), (cm 7, .inl (g.2.1, 16, .inl (col B 3)))]) (fun _ => rfl) dX4_setGrowth_24 (fun r_24 u_24 h_24 => ?_)
    refine z_if_ne h (tgt := 36) dX4_setGrowth_27 (by decide) (fun c_27 => ?_) (fun c_27 => ?_)
    · have hv : okR 0 200 v = true := b01_1 h_24 c_27
      have hk := k2_0 hx hv
      obtain ⟨j, hj, rfl⟩ := okI_of hx (by omega)
      have cj : (nI j).toNatClampNeg = j := nI_clamp (by omega)
      refine z_aload_n h dX4_setGrowth_36 rfl 0 rfl ?_
      refine z_get h in_X4_setGrowth_X4 0 rfl rfl 10 (by decide) lk_X4_setGrowth_f33 rfl dX4_setGrowth_37 ?_
      refine z_iload_n h dX4_setGrowth_40 rfl 1 rfl ?_
      refine z_iald h 1 rfl (vp_in_nI (by omega) (by omega)) dX4_setGrowth_41 (v := (col B 3) j) (by rw [nI_clamp (by omega)]) ?_
      refine z_istore_n h dX4_setGrowth_42 rfl (by decide) (lv' := [(0, .ref (cm 0)), (1, .int (nI j)), (2, .int v), (3, .int ((col B 3) j))]) [1, 2, 3, 0] rfl ?_
      refine z_aload_n h dX4_setGrowth_43 rfl 0 rfl ?_
      refine z_get h in_X4_setGrowth_X4 0 rfl rfl 10 (by decide) lk_X4_setGrowth_f33 rfl dX4_setGrowth_44 ?_
      refine z_iload_n h dX4_setGrowth_47 rfl 1 rfl ?_
      refine z_iload_n h dX4_setGrowth_48 rfl 2 rfl ?_
      refine z_iast h (j := j) 1 rfl (vp_in_nI (by omega) (by omega)) (by rw [nI_clamp (by omega)]) dX4_setGrowth_49 (wW' := [(cm 0, .inr (5, [.int 0, .int (nI pl), .ref (cm 1), .ref (cm 2), .ref (cm 3), .int (nI dy), .int (nI n), .ref (cm 4), .ref (cm 5), .ref (cm 6), .ref (cm 7), .ref (cm 8), .ref (cm 9), .ref (cm 10), .ref (cm 11), .ref (cm 12), .ref (cm 13), .ref (cm 14), .ref (cm 15), .int (nI sn), .ref (cm 16)])), (cm 7, .inl (g.2.1, 16, .inl (upd (col B 3) j v)))]) rfl ?_
      refine z_iload_n h dX4_setGrowth_50 rfl 3 rfl ?_
      exact fin _ _ _ () _ _ _ _ dX4_setGrowth_51 rfl (fun _ => by rw [cj]; rfl) (by rw [hk, cj]; rfl) (Nat.le_of_ble_eq_true rfl) (Nat.le_of_ble_eq_true rfl)
    · have fv : okR 0 200 v = false := b01_0 h_24 c_27
      have hk := k2_2 hx fv
      refine z_aload_n h dX4_setGrowth_30 rfl 0 rfl ?_
      refine z_iconst h (v := 2) dX4_setGrowth_31 (by decide) ?_
      refine z_Vi h (As := [.int 2]) (st := []) (fun sz => m_X4_fail l g cm 0 pl dy n sn 2  sz) (cwV 1 h.ts gX4_setGrowth_X4_fail rfl rfl rfl (by decide +kernel) ⟨Nat.le_of_ble_eq_true rfl, Nat.le_of_ble_eq_true rfl⟩) rfl [0] [] rfl rfl rfl rfl 0 rfl rfl rfl rfl (Nat.le_of_ble_eq_true rfl) ⟨(Nat.le_of_ble_eq_true rfl), (Nat.le_of_ble_eq_true rfl)⟩ (fun _ => (Nat.le_of_ble_eq_true rfl)) (wN := fun u => [(cm 0, .inr (5, [.int 2, .int (nI pl), .ref (cm 1), .ref (cm 2), .ref (cm 3), .int (nI dy), .int (nI n), .ref (cm 4), .ref (cm 5), .ref (cm 6), .ref (cm 7), .ref (cm 8), .ref (cm 9), .ref (cm 10), .ref (cm 11), .ref (cm 12), .ref (cm 13), .ref (cm 14), .ref (cm 15), .int (nI sn), .ref (cm 16)])), (cm 7, .inl (g.2.1, 16, .inl (col B 3)))]) (fun _ => rfl) dX4_setGrowth_32 (fun r_32 u_32 h_32 => ?_)
      exact fin _ _ _ () _ _ _ _ dX4_setGrowth_35 rfl (fun q => absurd (hk.symm.trans q) (by decide)) (by rw [hk]; rfl) (Nat.le_of_ble_eq_true rfl) (Nat.le_of_ble_eq_true rfl)
  · have fx : okI n x = false := b01_0 h_7 c_10
    have hk := k2_1 (b := okR 0 200 v) fx
    refine z_aload_n h dX4_setGrowth_13 rfl 0 rfl ?_
    refine z_iconst h (v := 1) dX4_setGrowth_14 (by decide) ?_
    refine z_Vi h (As := [.int 1]) (st := []) (fun sz => m_X4_fail l g cm 0 pl dy n sn 1  sz) (cwV 1 h.ts gX4_setGrowth_X4_fail rfl rfl rfl (by decide +kernel) ⟨Nat.le_of_ble_eq_true rfl, Nat.le_of_ble_eq_true rfl⟩) rfl [0] [] rfl rfl rfl rfl 0 rfl rfl rfl rfl (Nat.le_of_ble_eq_true rfl) ⟨(Nat.le_of_ble_eq_true rfl), (Nat.le_of_ble_eq_true rfl)⟩ (fun _ => (Nat.le_of_ble_eq_true rfl)) (wN := fun u => [(cm 0, .inr (5, [.int 1, .int (nI pl), .ref (cm 1), .ref (cm 2), .ref (cm 3), .int (nI dy), .int (nI n), .ref (cm 4), .ref (cm 5), .ref (cm 6), .ref (cm 7), .ref (cm 8), .ref (cm 9), .ref (cm 10), .ref (cm 11), .ref (cm 12), .ref (cm 13), .ref (cm 14), .ref (cm 15), .int (nI sn), .ref (cm 16)])), (cm 7, .inl (g.2.1, 16, .inl (col B 3)))]) (fun _ => rfl) dX4_setGrowth_15 (fun r_15 u_15 h_15 => ?_)
    exact fin _ _ _ () _ _ _ _ dX4_setGrowth_18 rfl (fun q => absurd (hk.symm.trans q) (by decide)) (by rw [hk]; rfl) (Nat.le_of_ble_eq_true rfl) (Nat.le_of_ble_eq_true rfl)
abbrev rmX4_soil : Room := { frames := 2, cells := 0, slots := 0, locals := 43 }
set_option maxHeartbeats 4000000 in
set_option maxRecDepth 100000 in
theorem m_X4_soil (l : Launch) (g : Gx) (cm : Nat → Nat) (th : Int32) (pl : Nat) (dy : Nat) (n : Nat) (sn : Nat) (B : Nat → Nat → Int32) (x : Int32) (hn : n ≤ 16) (sz : Nat) : Met l yX4_soil wsX4_soil rmX4_soil (PZ g [.ref (cm 0), .int x] sz [(cm 0, .inr (5, [.int th, .int (nI pl), .ref (cm 1), .ref (cm 2), .ref (cm 3), .int (nI dy), .int (nI n), .ref (cm 4), .ref (cm 5), .ref (cm 6), .ref (cm 7), .ref (cm 8), .ref (cm 9), .ref (cm 10), .ref (cm 11), .ref (cm 12), .ref (cm 13), .ref (cm 14), .ref (cm 15), .int (nI sn), .ref (cm 16)])), (cm 13, .inl (g.2.2.2.1, 16, .inl (col B 9)))] []) (va_Qi (fun (r : Int32) (_ : Unit) => okI n x = true → r = if B x.toNatClampNeg 9 = 0 then 1 else 0) (BZ g [(cm 0, .inr (5, [.int th, .int (nI pl), .ref (cm 1), .ref (cm 2), .ref (cm 3), .int (nI dy), .int (nI n), .ref (cm 4), .ref (cm 5), .ref (cm 6), .ref (cm 7), .ref (cm 8), .ref (cm 9), .ref (cm 10), .ref (cm 11), .ref (cm 12), .ref (cm 13), .ref (cm 14), .ref (cm 15), .int (nI sn), .ref (cm 16)])), (cm 13, .inl (g.2.2.2.1, 16, .inl (col B 9)))] sz (fun (u : Unit) => [(cm 0, .inr (5, [.int (if okI n x = true then 0 else 1), .int (nI pl), .ref (cm 1), .ref (cm 2), .ref (cm 3), .int (nI dy), .int (nI n), .ref (cm 4), .ref (cm 5), .ref (cm 6), .ref (cm 7), .ref (cm 8), .ref (cm 9), .ref (cm 10), .ref (cm 11), .ref (cm 12), .ref (cm 13), .ref (cm 14), .ref (cm 15), .int (nI sn), .ref (cm 16)])), (cm 13, .inl (g.2.2.2.1, 16, .inl (if okI n x = true then upd (col B 9) x.toNatClampNeg (vp_nar .boolean 1) else col B 9)))])) (va_A [(cm 0, .inr (5, [.int th, .int (nI pl), .ref (cm 1), .ref (cm 2), .ref (cm 3), .int (nI dy), .int (nI n), .ref (cm 4), .ref (cm 5), .ref (cm 6), .ref (cm 7), .ref (cm 8), .ref (cm 9), .ref (cm 10), .ref (cm 11), .ref (cm 12), .ref (cm 13), .ref (cm 14), .ref (cm 15), .int (nI sn), .ref (cm 16)])), (cm 13, .inl (g.2.2.2.1, 16, .inl (col B 9)))] sz)) 0 0 (va_A [(cm 0, .inr (5, [.int th, .int (nI pl), .ref (cm 1), .ref (cm 2), .ref (cm 3), .int (nI dy), .int (nI n), .ref (cm 4), .ref (cm 5), .ref (cm 6), .ref (cm 7), .ref (cm 8), .ref (cm 9), .ref (cm 10), .ref (cm 11), .ref (cm 12), .ref (cm 13), .ref (cm 14), .ref (cm 15), .int (nI sn), .ref (cm 16)])), (cm 13, .inl (g.2.2.2.1, 16, .inl (col B 9)))] sz) := by
  refine z_open_i (cc := cX4_soil) (maxL := 3) (ret := .boolean) (own := RX4) (by decide) rfl rfl (Nat.le_of_ble_eq_true rfl) ?_
  intro p e s m args below meth c Q h hnm fin
  generalize hAe : va_A [(cm 0, .inr (5, [.int th, .int (nI pl), .ref (cm 1), .ref (cm 2), .ref (cm 3), .int (nI dy), .int (nI n), .ref (cm 4), .ref (cm 5), .ref (cm 6), .ref (cm 7), .ref (cm 8), .ref (cm 9), .ref (cm 10), .ref (cm 11), .ref (cm 12), .ref (cm 13), .ref (cm 14), .ref (cm 15), .int (nI sn), .ref (cm 16)])), (cm 13, .inl (g.2.2.2.1, 16, .inl (col B 9)))] s.heap.size = A at h fin ⊢
  refine z_lve (lv' := [(0, .ref (cm 0)), (1, .int x)]) rfl ?_
  refine z_aload_n h dX4_soil_0 rfl 0 rfl ?_
  refine z_aload_n h dX4_soil_1 rfl 0 rfl ?_
  refine z_iload_n h dX4_soil_2 rfl 1 rfl ?_
  refine z_Vi h (As := [.int x]) (st := [.ref (cm 0)]) (fun sz => m_X4_isBin l g cm th pl dy n sn x (by omega) sz) (cwV 1 h.ts gX4_soil_X4_isBin rfl rfl rfl (by decide +kernel) ⟨Nat.le_of_ble_eq_true rfl, Nat.le_of_ble_eq_true rfl⟩) rfl [] [0] rfl rfl rfl rfl 0 rfl rfl rfl rfl (Nat.le_of_ble_eq_true rfl) ⟨(Nat.le_of_ble_eq_true rfl), (Nat.le_of_ble_eq_true rfl)⟩ (fun _ => (Nat.le_of_ble_eq_true rfl)) (wN := fun u => [(cm 0, .inr (5, [.int th, .int (nI pl), .ref (cm 1), .ref (cm 2), .ref (cm 3), .int (nI dy), .int (nI n), .ref (cm 4), .ref (cm 5), .ref (cm 6), .ref (cm 7), .ref (cm 8), .ref (cm 9), .ref (cm 10), .ref (cm 11), .ref (cm 12), .ref (cm 13), .ref (cm 14), .ref (cm 15), .int (nI sn), .ref (cm 16)])), (cm 13, .inl (g.2.2.2.1, 16, .inl (col B 9)))]) (fun _ => rfl) dX4_soil_3 (fun r_3 u_3 h_3 => ?_)
  refine z_if_eq h (tgt := 13) dX4_soil_6 (by decide) (fun c_6 => ?_) (fun c_6 => ?_)
  · have fx : okI n x = false := b01_0 h_3 c_6
    refine z_iconst h (v := 1) dX4_soil_13 (by decide) ?_
    refine z_put h in_X4_soil_X4 0 tyX4 tyX4_ok nmX4 rfl rfl 0 (by decide) lk_X4_soil_f64 rfl rfl rfl (Nat.le_of_ble_eq_true rfl) dX4_soil_14 (wW' := [(cm 0, .inr (5, [.int 1, .int (nI pl), .ref (cm 1), .ref (cm 2), .ref (cm 3), .int (nI dy), .int (nI n), .ref (cm 4), .ref (cm 5), .ref (cm 6), .ref (cm 7), .ref (cm 8), .ref (cm 9), .ref (cm 10), .ref (cm 11), .ref (cm 12), .ref (cm 13), .ref (cm 14), .ref (cm 15), .int (nI sn), .ref (cm 16)])), (cm 13, .inl (g.2.2.2.1, 16, .inl (col B 9)))]) rfl ?_
    refine z_aload_n h dX4_soil_17 rfl 0 rfl ?_
    refine z_get h in_X4_soil_X4 0 rfl rfl 0 (by decide) lk_X4_soil_f64 rfl dX4_soil_18 ?_
    refine z_if_eq h (tgt := 26) dX4_soil_21 (by decide) (fun c_21 => absurd c_21 (by decide)) (fun c_21 => ?_)
    refine z_iconst h (v := 0) dX4_soil_24 (by decide) ?_
    exact fin _ _ _ () _ _ _ _ dX4_soil_25 rfl (fun q => absurd (fx.symm.trans q) (by decide)) (by rw [fx]; rfl) (Nat.le_of_ble_eq_true rfl) (Nat.le_of_ble_eq_true rfl)
  · have hx : okI n x = true := b01_1 h_3 c_6
    refine z_iconst h (v := 0) dX4_soil_9 (by decide) ?_
    refine z_goto h (tgt := 14) dX4_soil_10 (by decide) ?_
    refine z_put h in_X4_soil_X4 0 tyX4 tyX4_ok nmX4 rfl rfl 0 (by decide) lk_X4_soil_f64 rfl rfl rfl (Nat.le_of_ble_eq_true rfl) dX4_soil_14 (wW' := [(cm 0, .inr (5, [.int 0, .int (nI pl), .ref (cm 1), .ref (cm 2), .ref (cm 3), .int (nI dy), .int (nI n), .ref (cm 4), .ref (cm 5), .ref (cm 6), .ref (cm 7), .ref (cm 8), .ref (cm 9), .ref (cm 10), .ref (cm 11), .ref (cm 12), .ref (cm 13), .ref (cm 14), .ref (cm 15), .int (nI sn), .ref (cm 16)])), (cm 13, .inl (g.2.2.2.1, 16, .inl (col B 9)))]) rfl ?_
    refine z_aload_n h dX4_soil_17 rfl 0 rfl ?_
    refine z_get h in_X4_soil_X4 0 rfl rfl 0 (by decide) lk_X4_soil_f64 rfl dX4_soil_18 ?_
    refine z_if_eq h (tgt := 26) dX4_soil_21 (by decide) (fun c_21 => ?_) (fun c_21 => absurd c_21 (by decide))
    have hk := hx
    obtain ⟨j, hj, rfl⟩ := okI_of hx (by omega)
    have cj : (nI j).toNatClampNeg = j := nI_clamp (by omega)
    refine z_aload_n h dX4_soil_26 rfl 0 rfl ?_
    refine z_get h in_X4_soil_X4 0 rfl rfl 16 (by decide) lk_X4_soil_f51 rfl dX4_soil_27 ?_
    refine z_iload_n h dX4_soil_30 rfl 1 rfl ?_
    refine z_zald h 1 rfl (vp_in_nI (by omega) (by omega)) dX4_soil_31 (v := (col B 9) j) (by rw [nI_clamp (by omega)]) ?_
    refine z_istore_n h dX4_soil_32 rfl (by decide) (lv' := [(0, .ref (cm 0)), (1, .int (nI j)), (2, .int ((col B 9) j))]) [1, 2, 0] rfl ?_
    refine z_aload_n h dX4_soil_33 rfl 0 rfl ?_
    refine z_get h in_X4_soil_X4 0 rfl rfl 16 (by decide) lk_X4_soil_f51 rfl dX4_soil_34 ?_
    refine z_iload_n h dX4_soil_37 rfl 1 rfl ?_
    refine z_iconst h (v := 1) dX4_soil_38 (by decide) ?_
    refine z_zast h (j := j) 1 rfl (vp_in_nI (by omega) (by omega)) (by rw [nI_clamp (by omega)]) dX4_soil_39 (wW' := [(cm 0, .inr (5, [.int 0, .int (nI pl), .ref (cm 1), .ref (cm 2), .ref (cm 3), .int (nI dy), .int (nI n), .ref (cm 4), .ref (cm 5), .ref (cm 6), .ref (cm 7), .ref (cm 8), .ref (cm 9), .ref (cm 10), .ref (cm 11), .ref (cm 12), .ref (cm 13), .ref (cm 14), .ref (cm 15), .int (nI sn), .ref (cm 16)])), (cm 13, .inl (g.2.2.2.1, 16, .inl (upd (col B 9) j (vp_nar .boolean 1))))]) rfl ?_
    refine z_iload_n h dX4_soil_40 rfl 2 rfl ?_
    have K_41 : Z p l e rmX4_soil s m args below meth c Q A g 3 49 [(0, .ref (cm 0)), (1, .int (nI j)), (2, .int ((col B 9) j))] [.int (if ((col B 9) j) = 0 then 1 else 0)] [(cm 0, .inr (5, [.int 0, .int (nI pl), .ref (cm 1), .ref (cm 2), .ref (cm 3), .int (nI dy), .int (nI n), .ref (cm 4), .ref (cm 5), .ref (cm 6), .ref (cm 7), .ref (cm 8), .ref (cm 9), .ref (cm 10), .ref (cm 11), .ref (cm 12), .ref (cm 13), .ref (cm 14), .ref (cm 15), .int (nI sn), .ref (cm 16)])), (cm 13, .inl (g.2.2.2.1, 16, .inl (upd (col B 9) j (vp_nar .boolean 1))))] [] 0 0 := by
      exact fin _ _ _ () _ _ _ _ dX4_soil_49 (nar_ite _) (fun _ => by rw [cj]; rfl) (by rw [hk, cj]; rfl) (Nat.le_of_ble_eq_true rfl) (Nat.le_of_ble_eq_true rfl)
    refine z_if_ne h (tgt := 48) dX4_soil_41 (by decide) (fun c_41 => ?_) (fun c_41 => ?_)
    · refine z_iconst h (v := 0) dX4_soil_48 (by decide) ?_
      exact z_topi (if_neg c_41).symm K_41
    · refine z_iconst h (v := 1) dX4_soil_44 (by decide) ?_
      refine z_goto h (tgt := 49) dX4_soil_45 (by decide) ?_
      exact z_topi (if_pos c_41).symm K_41
abbrev rmX4_told : Room := { frames := 0, cells := 0, slots := 0, locals := 0 }
set_option maxHeartbeats 4000000 in
set_option maxRecDepth 100000 in
theorem m_X4_told (l : Launch) (g : Gx) (cm : Nat → Nat) (th : Int32) (pl : Nat) (dy : Nat) (n : Nat) (sn : Nat) (B : Nat → Nat → Int32) (j : Nat) (w : Nat) (hj : j < 16) (hw : w < 8) (sz : Nat) : Met l yX4_told wsX4_told rmX4_told (PZ g [.ref (cm 0), .int (nI j), .int (nI w)] sz [] [(cm 0, .inr (5, [.int th, .int (nI pl), .ref (cm 1), .ref (cm 2), .ref (cm 3), .int (nI dy), .int (nI n), .ref (cm 4), .ref (cm 5), .ref (cm 6), .ref (cm 7), .ref (cm 8), .ref (cm 9), .ref (cm 10), .ref (cm 11), .ref (cm 12), .ref (cm 13), .ref (cm 14), .ref (cm 15), .int (nI sn), .ref (cm 16)])), (cm 4, .inl (g.2.1, 16, .inl (col B 0))), (cm 5, .inl (g.2.1, 16, .inl (col B 1))), (cm 8, .inl (g.2.1, 16, .inl (col B 4))), (cm 9, .inl (g.2.1, 16, .inl (col B 5))), (cm 10, .inl (g.2.1, 16, .inl (col B 6))), (cm 11, .inl (g.2.1, 16, .inl (col B 7))), (cm 12, .inl (g.2.1, 16, .inl (col B 8))), (cm 13, .inl (g.2.2.2.1, 16, .inl (col B 9)))]) (va_Qi (fun (r : Int32) (_ : Unit) => r = fct (B j) w) (BZ g [] sz (fun (u : Unit) => [])) (va_A [] sz)) 0 0 (va_A [] sz) := by
  refine z_open_i (cc := cX4_told) (maxL := 3) (ret := .int) (own := RX4) (by decide) rfl rfl (Nat.le_of_ble_eq_true rfl) ?_
  intro p e s m args below meth c Q h hnm fin
  generalize hAe : va_A [] s.heap.size = A at h fin ⊢
  refine z_lve (lv' := [(0, .ref (cm 0)), (1, .int (nI j)), (2, .int (nI w))]) rfl ?_
  refine z_iload_n h dX4_told_0 rfl 2 rfl ?_
  rcases (show w = 0 ∨ w = 1 ∨ w = 2 ∨ w = 3 ∨ w = 4 ∨ w = 5 ∨ w = 6 ∨ w = 7 by omega) with rfl | rfl | rfl | rfl | rfl | rfl | rfl | rfl
  · refine z_tableIn h (tgt := 44) dX4_told_1 (by decide) (by decide) (off := 43) (by decide) (by decide) ?_
    refine z_aload_n h dX4_told_44 rfl 0 rfl ?_
    refine z_get h in_X4_told_X4 0 rfl rfl 7 (by decide) lk_X4_told_f24 rfl dX4_told_45 ?_
    refine z_iload_n h dX4_told_48 rfl 1 rfl ?_
    refine z_iald h 1 rfl (vp_in_nI (by omega) (by omega)) dX4_told_49 (v := (col B 0) j) (by rw [nI_clamp (by omega)]) ?_
    exact fin _ _ _ () _ _ _ _ dX4_told_50 rfl rfl rfl (Nat.le_of_ble_eq_true rfl) (Nat.le_of_ble_eq_true rfl)
  · refine z_tableIn h (tgt := 51) dX4_told_1 (by decide) (by decide) (off := 50) (by decide) (by decide) ?_
    refine z_aload_n h dX4_told_51 rfl 0 rfl ?_
    refine z_get h in_X4_told_X4 0 rfl rfl 8 (by decide) lk_X4_told_f27 rfl dX4_told_52 ?_
    refine z_iload_n h dX4_told_55 rfl 1 rfl ?_
    refine z_iald h 2 rfl (vp_in_nI (by omega) (by omega)) dX4_told_56 (v := (col B 1) j) (by rw [nI_clamp (by omega)]) ?_
    exact fin _ _ _ () _ _ _ _ dX4_told_57 rfl rfl rfl (Nat.le_of_ble_eq_true rfl) (Nat.le_of_ble_eq_true rfl)
  · refine z_tableIn h (tgt := 58) dX4_told_1 (by decide) (by decide) (off := 57) (by decide) (by decide) ?_
    refine z_aload_n h dX4_told_58 rfl 0 rfl ?_
    refine z_get h in_X4_told_X4 0 rfl rfl 11 (by decide) lk_X4_told_f36 rfl dX4_told_59 ?_
    refine z_iload_n h dX4_told_62 rfl 1 rfl ?_
    refine z_iald h 3 rfl (vp_in_nI (by omega) (by omega)) dX4_told_63 (v := (col B 4) j) (by rw [nI_clamp (by omega)]) ?_
    exact fin _ _ _ () _ _ _ _ dX4_told_64 rfl rfl rfl (Nat.le_of_ble_eq_true rfl) (Nat.le_of_ble_eq_true rfl)
  · refine z_tableIn h (tgt := 65) dX4_told_1 (by decide) (by decide) (off := 64) (by decide) (by decide) ?_
    refine z_aload_n h dX4_told_65 rfl 0 rfl ?_
    refine z_get h in_X4_told_X4 0 rfl rfl 12 (by decide) lk_X4_told_f39 rfl dX4_told_66 ?_
    refine z_iload_n h dX4_told_69 rfl 1 rfl ?_
    refine z_iald h 4 rfl (vp_in_nI (by omega) (by omega)) dX4_told_70 (v := (col B 5) j) (by rw [nI_clamp (by omega)]) ?_
    exact fin _ _ _ () _ _ _ _ dX4_told_71 rfl rfl rfl (Nat.le_of_ble_eq_true rfl) (Nat.le_of_ble_eq_true rfl)
  · refine z_tableIn h (tgt := 72) dX4_told_1 (by decide) (by decide) (off := 71) (by decide) (by decide) ?_
    refine z_aload_n h dX4_told_72 rfl 0 rfl ?_
    refine z_get h in_X4_told_X4 0 rfl rfl 13 (by decide) lk_X4_told_f42 rfl dX4_told_73 ?_
    refine z_iload_n h dX4_told_76 rfl 1 rfl ?_
    refine z_iald h 5 rfl (vp_in_nI (by omega) (by omega)) dX4_told_77 (v := (col B 6) j) (by rw [nI_clamp (by omega)]) ?_
    exact fin _ _ _ () _ _ _ _ dX4_told_78 rfl rfl rfl (Nat.le_of_ble_eq_true rfl) (Nat.le_of_ble_eq_true rfl)
  · refine z_tableIn h (tgt := 79) dX4_told_1 (by decide) (by decide) (off := 78) (by decide) (by decide) ?_
    refine z_aload_n h dX4_told_79 rfl 0 rfl ?_
    refine z_get h in_X4_told_X4 0 rfl rfl 14 (by decide) lk_X4_told_f45 rfl dX4_told_80 ?_
    refine z_iload_n h dX4_told_83 rfl 1 rfl ?_
    refine z_iald h 6 rfl (vp_in_nI (by omega) (by omega)) dX4_told_84 (v := (col B 7) j) (by rw [nI_clamp (by omega)]) ?_
    exact fin _ _ _ () _ _ _ _ dX4_told_85 rfl rfl rfl (Nat.le_of_ble_eq_true rfl) (Nat.le_of_ble_eq_true rfl)
  · refine z_tableIn h (tgt := 86) dX4_told_1 (by decide) (by decide) (off := 85) (by decide) (by decide) ?_
    refine z_aload_n h dX4_told_86 rfl 0 rfl ?_
    refine z_get h in_X4_told_X4 0 rfl rfl 15 (by decide) lk_X4_told_f48 rfl dX4_told_87 ?_
    refine z_iload_n h dX4_told_90 rfl 1 rfl ?_
    refine z_iald h 7 rfl (vp_in_nI (by omega) (by omega)) dX4_told_91 (v := (col B 8) j) (by rw [nI_clamp (by omega)]) ?_
    exact fin _ _ _ () _ _ _ _ dX4_told_92 rfl rfl rfl (Nat.le_of_ble_eq_true rfl) (Nat.le_of_ble_eq_true rfl)
  · refine z_tableOut h (tgt := 93) dX4_told_1 (by decide) (by decide) ?_
    refine z_aload_n h dX4_told_93 rfl 0 rfl ?_
    refine z_get h in_X4_told_X4 0 rfl rfl 16 (by decide) lk_X4_told_f51 rfl dX4_told_94 ?_
    refine z_iload_n h dX4_told_97 rfl 1 rfl ?_
    refine z_zald h 8 rfl (vp_in_nI (by omega) (by omega)) dX4_told_98 (v := (col B 9) j) (by rw [nI_clamp (by omega)]) ?_
    have K_99 : Z p l e rmX4_told s m args below meth c Q A g 3 107 [(0, .ref (cm 0)), (1, .int (nI j)), (2, .int (nI 7))] [.int (if ((col B 9) j) = 0 then 0 else 1)] [] [(cm 0, .inr (5, [.int th, .int (nI pl), .ref (cm 1), .ref (cm 2), .ref (cm 3), .int (nI dy), .int (nI n), .ref (cm 4), .ref (cm 5), .ref (cm 6), .ref (cm 7), .ref (cm 8), .ref (cm 9), .ref (cm 10), .ref (cm 11), .ref (cm 12), .ref (cm 13), .ref (cm 14), .ref (cm 15), .int (nI sn), .ref (cm 16)])), (cm 4, .inl (g.2.1, 16, .inl (col B 0))), (cm 5, .inl (g.2.1, 16, .inl (col B 1))), (cm 8, .inl (g.2.1, 16, .inl (col B 4))), (cm 9, .inl (g.2.1, 16, .inl (col B 5))), (cm 10, .inl (g.2.1, 16, .inl (col B 6))), (cm 11, .inl (g.2.1, 16, .inl (col B 7))), (cm 12, .inl (g.2.1, 16, .inl (col B 8))), (cm 13, .inl (g.2.2.2.1, 16, .inl (col B 9)))] 0 0 := by
      exact fin _ _ _ () _ _ _ _ dX4_told_107 rfl rfl rfl (Nat.le_of_ble_eq_true rfl) (Nat.le_of_ble_eq_true rfl)
    refine z_if_eq h (tgt := 106) dX4_told_99 (by decide) (fun c_99 => ?_) (fun c_99 => ?_)
    · refine z_iconst h (v := 0) dX4_told_106 (by decide) ?_
      exact z_topi (if_pos c_99).symm K_99
    · refine z_iconst h (v := 1) dX4_told_102 (by decide) ?_
      refine z_goto h (tgt := 107) dX4_told_103 (by decide) ?_
      exact z_topi (if_neg c_99).symm K_99
abbrev rmX4_bin : Room := { frames := 2, cells := 0, slots := 0, locals := 43 }
set_option maxHeartbeats 4000000 in
set_option maxRecDepth 100000 in
theorem m_X4_bin (l : Launch) (g : Gx) (cm : Nat → Nat) (th : Int32) (pl : Nat) (dy : Nat) (n : Nat) (sn : Nat) (B : Nat → Nat → Int32) (x : Int32) (v : Int32) (hn : n ≤ 16) (sz : Nat) : Met l yX4_bin wsX4_bin rmX4_bin (PZ g [.ref (cm 0), .int x, .int v] sz [(cm 0, .inr (5, [.int th, .int (nI pl), .ref (cm 1), .ref (cm 2), .ref (cm 3), .int (nI dy), .int (nI n), .ref (cm 4), .ref (cm 5), .ref (cm 6), .ref (cm 7), .ref (cm 8), .ref (cm 9), .ref (cm 10), .ref (cm 11), .ref (cm 12), .ref (cm 13), .ref (cm 14), .ref (cm 15), .int (nI sn), .ref (cm 16)]))] [(cm 4, .inl (g.2.1, 16, .inl (col B 0))), (cm 5, .inl (g.2.1, 16, .inl (col B 1))), (cm 8, .inl (g.2.1, 16, .inl (col B 4))), (cm 9, .inl (g.2.1, 16, .inl (col B 5))), (cm 10, .inl (g.2.1, 16, .inl (col B 6))), (cm 11, .inl (g.2.1, 16, .inl (col B 7))), (cm 12, .inl (g.2.1, 16, .inl (col B 8))), (cm 13, .inl (g.2.2.2.1, 16, .inl (col B 9)))]) (va_Qi (fun (r : Int32) (_ : Unit) => (okI n x && okI 8 v) = true → r = fct (B x.toNatClampNeg) v.toNatClampNeg) (BZ g [(cm 0, .inr (5, [.int th, .int (nI pl), .ref (cm 1), .ref (cm 2), .ref (cm 3), .int (nI dy), .int (nI n), .ref (cm 4), .ref (cm 5), .ref (cm 6), .ref (cm 7), .ref (cm 8), .ref (cm 9), .ref (cm 10), .ref (cm 11), .ref (cm 12), .ref (cm 13), .ref (cm 14), .ref (cm 15), .int (nI sn), .ref (cm 16)]))] sz (fun (u : Unit) => [(cm 0, .inr (5, [.int (if (okI n x && okI 8 v) = true then 0 else 1), .int (nI pl), .ref (cm 1), .ref (cm 2), .ref (cm 3), .int (nI dy), .int (nI n), .ref (cm 4), .ref (cm 5), .ref (cm 6), .ref (cm 7), .ref (cm 8), .ref (cm 9), .ref (cm 10), .ref (cm 11), .ref (cm 12), .ref (cm 13), .ref (cm 14), .ref (cm 15), .int (nI sn), .ref (cm 16)]))])) (va_A [(cm 0, .inr (5, [.int th, .int (nI pl), .ref (cm 1), .ref (cm 2), .ref (cm 3), .int (nI dy), .int (nI n), .ref (cm 4), .ref (cm 5), .ref (cm 6), .ref (cm 7), .ref (cm 8), .ref (cm 9), .ref (cm 10), .ref (cm 11), .ref (cm 12), .ref (cm 13), .ref (cm 14), .ref (cm 15), .int (nI sn), .ref (cm 16)]))] sz)) 0 0 (va_A [(cm 0, .inr (5, [.int th, .int (nI pl), .ref (cm 1), .ref (cm 2), .ref (cm 3), .int (nI dy), .int (nI n), .ref (cm 4), .ref (cm 5), .ref (cm 6), .ref (cm 7), .ref (cm 8), .ref (cm 9), .ref (cm 10), .ref (cm 11), .ref (cm 12), .ref (cm 13), .ref (cm 14), .ref (cm 15), .int (nI sn), .ref (cm 16)]))] sz) := by
  refine z_open_i (cc := cX4_bin) (maxL := 3) (ret := .int) (own := RX4) (by decide) rfl rfl (Nat.le_of_ble_eq_true rfl) ?_
  intro p e s m args below meth c Q h hnm fin
  generalize hAe : va_A [(cm 0, .inr (5, [.int th, .int (nI pl), .ref (cm 1), .ref (cm 2), .ref (cm 3), .int (nI dy), .int (nI n), .ref (cm 4), .ref (cm 5), .ref (cm 6), .ref (cm 7), .ref (cm 8), .ref (cm 9), .ref (cm 10), .ref (cm 11), .ref (cm 12), .ref (cm 13), .ref (cm 14), .ref (cm 15), .int (nI sn), .ref (cm 16)]))] s.heap.size = A at h fin ⊢
  refine z_lve (lv' := [(0, .ref (cm 0)), (1, .int x), (2, .int v)]) rfl ?_
  refine z_aload_n h dX4_bin_0 rfl 0 rfl ?_
  refine z_iconst h (v := 0) dX4_bin_1 (by decide) ?_
  refine z_put h in_X4_bin_X4 0 tyX4 tyX4_ok nmX4 rfl rfl 0 (by decide) lk_X4_bin_f64 rfl rfl rfl (Nat.le_of_ble_eq_true rfl) dX4_bin_2 (wW' := [(cm 0, .inr (5, [.int 0, .int (nI pl), .ref (cm 1), .ref (cm 2), .ref (cm 3), .int (nI dy), .int (nI n), .ref (cm 4), .ref (cm 5), .ref (cm 6), .ref (cm 7), .ref (cm 8), .ref (cm 9), .ref (cm 10), .ref (cm 11), .ref (cm 12), .ref (cm 13), .ref (cm 14), .ref (cm 15), .int (nI sn), .ref (cm 16)]))]) rfl ?_
  refine z_aload_n h dX4_bin_5 rfl 0 rfl ?_
  refine z_iload_n h dX4_bin_6 rfl 1 rfl ?_
  refine z_Vi h (As := [.int x]) (st := []) (fun sz => m_X4_isBin l g cm 0 pl dy n sn x (by omega) sz) (cwV 1 h.ts gX4_bin_X4_isBin rfl rfl rfl (by decide +kernel) ⟨Nat.le_of_ble_eq_true rfl, Nat.le_of_ble_eq_true rfl⟩) rfl [] [0] rfl rfl rfl rfl 0 rfl rfl rfl rfl (Nat.le_of_ble_eq_true rfl) ⟨(Nat.le_of_ble_eq_true rfl), (Nat.le_of_ble_eq_true rfl)⟩ (fun _ => (Nat.le_of_ble_eq_true rfl)) (wN := fun u => [(cm 0, .inr (5, [.int 0, .int (nI pl), .ref (cm 1), .ref (cm 2), .ref (cm 3), .int (nI dy), .int (nI n), .ref (cm 4), .ref (cm 5), .ref (cm 6), .ref (cm 7), .ref (cm 8), .ref (cm 9), .ref (cm 10), .ref (cm 11), .ref (cm 12), .ref (cm 13), .ref (cm 14), .ref (cm 15), .int (nI sn), .ref (cm 16)]))]) (fun _ => rfl) dX4_bin_7 (fun r_7 u_7 h_7 => ?_)
  refine z_if_eq h (tgt := 32) dX4_bin_10 (by decide) (fun c_10 => ?_) (fun c_10 => ?_)
  · have fx : okI n x = false := b01_0 h_7 c_10
    have hk : (okI n x && okI 8 v) = false := by first | exact and_f1 fx | exact and_f2 fv
    refine z_aload_n h dX4_bin_32 rfl 0 rfl ?_
    refine z_iconst h (v := 1) dX4_bin_33 (by decide) ?_
    refine z_Vi h (As := [.int 1]) (st := []) (fun sz => m_X4_fail l g cm 0 pl dy n sn 1  sz) (cwV 1 h.ts gX4_bin_X4_fail rfl rfl rfl (by decide +kernel) ⟨Nat.le_of_ble_eq_true rfl, Nat.le_of_ble_eq_true rfl⟩) rfl [0] [] rfl rfl rfl rfl 0 rfl rfl rfl rfl (Nat.le_of_ble_eq_true rfl) ⟨(Nat.le_of_ble_eq_true rfl), (Nat.le_of_ble_eq_true rfl)⟩ (fun _ => (Nat.le_of_ble_eq_true rfl)) (wN := fun u => [(cm 0, .inr (5, [.int 1, .int (nI pl), .ref (cm 1), .ref (cm 2), .ref (cm 3), .int (nI dy), .int (nI n), .ref (cm 4), .ref (cm 5), .ref (cm 6), .ref (cm 7), .ref (cm 8), .ref (cm 9), .ref (cm 10), .ref (cm 11), .ref (cm 12), .ref (cm 13), .ref (cm 14), .ref (cm 15), .int (nI sn), .ref (cm 16)]))]) (fun _ => rfl) dX4_bin_34 (fun r_34 u_34 h_34 => ?_)
    exact fin _ _ _ () _ _ _ _ dX4_bin_37 rfl (by first | exact fun _ => by rw [cj, cq]; exact h_26 | exact fun q => absurd (hk.symm.trans q) (by decide)) (by rw [hk]; rfl) (Nat.le_of_ble_eq_true rfl) (Nat.le_of_ble_eq_true rfl)
  · have hx : okI n x = true := b01_1 h_7 c_10
    refine z_iload_n h dX4_bin_13 rfl 2 rfl ?_
    refine z_iconst h (v := 0) dX4_bin_14 (by decide) ?_
    refine z_bipush h (v := 7) dX4_bin_15 (by decide) ?_
    refine z_Si h (b := 0) (C := "") (As := [.int v, .int 0, .int 7]) (st := []) (fun sz => m_X4_isIn l g v 0 7  sz) (va_cwS 3 h.ts gX4_bin_X4_isIn rfl rfl rfl (by decide +kernel) ⟨Nat.le_of_ble_eq_true rfl, Nat.le_of_ble_eq_true rfl⟩) rfl [] [] rfl rfl rfl rfl rfl (Nat.le_of_ble_eq_true rfl) ⟨(Nat.le_of_ble_eq_true rfl), (Nat.le_of_ble_eq_true rfl)⟩ (fun _ => (Nat.le_of_ble_eq_true rfl)) (wN := fun u => [(cm 0, .inr (5, [.int 0, .int (nI pl), .ref (cm 1), .ref (cm 2), .ref (cm 3), .int (nI dy), .int (nI n), .ref (cm 4), .ref (cm 5), .ref (cm 6), .ref (cm 7), .ref (cm 8), .ref (cm 9), .ref (cm 10), .ref (cm 11), .ref (cm 12), .ref (cm 13), .ref (cm 14), .ref (cm 15), .int (nI sn), .ref (cm 16)]))]) (fun _ => rfl) dX4_bin_17 (fun r_17 u_17 h_17 => ?_)
    rw [okRI8] at h_17
    refine z_if_eq h (tgt := 32) dX4_bin_20 (by decide) (fun c_20 => ?_) (fun c_20 => ?_)
    · have fv : okI 8 v = false := b01_0 h_17 c_20
      have hk : (okI n x && okI 8 v) = false := by first | exact and_f1 fx | exact and_f2 fv
      refine z_aload_n h dX4_bin_32 rfl 0 rfl ?_
      refine z_iconst h (v := 1) dX4_bin_33 (by decide) ?_
      refine z_Vi h (As := [.int 1]) (st := []) (fun sz => m_X4_fail l g cm 0 pl dy n sn 1  sz) (cwV 1 h.ts gX4_bin_X4_fail rfl rfl rfl (by decide +kernel) ⟨Nat.le_of_ble_eq_true rfl, Nat.le_of_ble_eq_true rfl⟩) rfl [0] [] rfl rfl rfl rfl 0 rfl rfl rfl rfl (Nat.le_of_ble_eq_true rfl) ⟨(Nat.le_of_ble_eq_true rfl), (Nat.le_of_ble_eq_true rfl)⟩ (fun _ => (Nat.le_of_ble_eq_true rfl)) (wN := fun u => [(cm 0, .inr (5, [.int 1, .int (nI pl), .ref (cm 1), .ref (cm 2), .ref (cm 3), .int (nI dy), .int (nI n), .ref (cm 4), .ref (cm 5), .ref (cm 6), .ref (cm 7), .ref (cm 8), .ref (cm 9), .ref (cm 10), .ref (cm 11), .ref (cm 12), .ref (cm 13), .ref (cm 14), .ref (cm 15), .int (nI sn), .ref (cm 16)]))]) (fun _ => rfl) dX4_bin_34 (fun r_34 u_34 h_34 => ?_)
      exact fin _ _ _ () _ _ _ _ dX4_bin_37 rfl (by first | exact fun _ => by rw [cj, cq]; exact h_26 | exact fun q => absurd (hk.symm.trans q) (by decide)) (by rw [hk]; rfl) (Nat.le_of_ble_eq_true rfl) (Nat.le_of_ble_eq_true rfl)
    · have hv : okI 8 v = true := b01_1 h_17 c_20
      have hk := and_t hx hv
      obtain ⟨j, hj, rfl⟩ := okI_of hx (by omega)
      have cj : (nI j).toNatClampNeg = j := nI_clamp (by omega)
      obtain ⟨q, hq, rfl⟩ := okI_of hv (by omega)
      have cq : (nI q).toNatClampNeg = q := nI_clamp (by omega)
      refine z_aload_n h dX4_bin_23 rfl 0 rfl ?_
      refine z_iload_n h dX4_bin_24 rfl 1 rfl ?_
      refine z_iload_n h dX4_bin_25 rfl 2 rfl ?_
      refine z_Vi h (As := [.int (nI j), .int (nI q)]) (st := []) (fun sz => m_X4_told l g cm 0 pl dy n sn B j q (by omega) (by omega) sz) (cwV 2 h.ts gX4_bin_X4_told rfl rfl rfl (by decide +kernel) ⟨Nat.le_of_ble_eq_true rfl, Nat.le_of_ble_eq_true rfl⟩) rfl [] [0, 1, 2, 3, 4, 5, 6, 7, 8] rfl rfl rfl rfl 0 rfl rfl rfl rfl (Nat.le_of_ble_eq_true rfl) ⟨(Nat.le_of_ble_eq_true rfl), (Nat.le_of_ble_eq_true rfl)⟩ (fun _ => (Nat.le_of_ble_eq_true rfl)) (wN := fun u => [(cm 0, .inr (5, [.int 0, .int (nI pl), .ref (cm 1), .ref (cm 2), .ref (cm 3), .int (nI dy), .int (nI n), .ref (cm 4), .ref (cm 5), .ref (cm 6), .ref (cm 7), .ref (cm 8), .ref (cm 9), .ref (cm 10), .ref (cm 11), .ref (cm 12), .ref (cm 13), .ref (cm 14), .ref (cm 15), .int (nI sn), .ref (cm 16)]))]) (fun _ => rfl) dX4_bin_26 (fun r_26 u_26 h_26 => ?_)
      refine z_goto h (tgt := 37) dX4_bin_29 (by decide) ?_
      exact fin _ _ _ () _ _ _ _ dX4_bin_37 rfl (by first | exact fun _ => by rw [cj, cq]; exact h_26 | exact fun q => absurd (hk.symm.trans q) (by decide)) (by rw [hk]; rfl) (Nat.le_of_ble_eq_true rfl) (Nat.le_of_ble_eq_true rfl)
abbrev rmX4_expectedOn : Room := { frames := 1, cells := 0, slots := 0, locals := 21 }
set_option maxHeartbeats 4000000 in
set_option maxRecDepth 100000 in
theorem m_X4_expectedOn (l : Launch) (g : Gx) (cm : Nat → Nat) (th : Int32) (pl : Nat) (dy : Nat) (n : Nat) (sn : Nat) (B : Nat → Nat → Int32) (j : Nat) (d : Int32) (hj : j < 16) (sz : Nat) : Met l yX4_expectedOn wsX4_expectedOn rmX4_expectedOn (PZ g [.ref (cm 0), .int (nI j), .int d] sz [] [(cm 0, .inr (5, [.int th, .int (nI pl), .ref (cm 1), .ref (cm 2), .ref (cm 3), .int (nI dy), .int (nI n), .ref (cm 4), .ref (cm 5), .ref (cm 6), .ref (cm 7), .ref (cm 8), .ref (cm 9), .ref (cm 10), .ref (cm 11), .ref (cm 12), .ref (cm 13), .ref (cm 14), .ref (cm 15), .int (nI sn), .ref (cm 16)])), (cm 6, .inl (g.2.1, 16, .inl (col B 2))), (cm 9, .inl (g.2.1, 16, .inl (col B 5))), (cm 10, .inl (g.2.1, 16, .inl (col B 6)))]) (va_Qi (fun (r : Int32) (_ : Unit) => r = fcst (B j 2) (B j 5) (B j 6) d) (BZ g [] sz (fun (u : Unit) => [])) (va_A [] sz)) 0 0 (va_A [] sz) := by
  refine z_open_i (cc := cX4_expectedOn) (maxL := 3) (ret := .int) (own := RX4) (by decide) rfl rfl (Nat.le_of_ble_eq_true rfl) ?_
  intro p e s m args below meth c Q h hnm fin
  generalize hAe : va_A [] s.heap.size = A at h fin ⊢
  refine z_lve (lv' := [(0, .ref (cm 0)), (1, .int (nI j)), (2, .int d)]) rfl ?_
  refine z_aload_n h dX4_expectedOn_0 rfl 0 rfl ?_
  refine z_get h in_X4_expectedOn_X4 0 rfl rfl 9 (by decide) lk_X4_expectedOn_f30 rfl dX4_expectedOn_1 ?_
  refine z_iload_n h dX4_expectedOn_4 rfl 1 rfl ?_
  refine z_iald h 1 rfl (vp_in_nI (by omega) (by omega)) dX4_expectedOn_5 (v := (col B 2) j) (by rw [nI_clamp (by omega)]) ?_
  refine z_aload_n h dX4_expectedOn_6 rfl 0 rfl ?_
  refine z_get h in_X4_expectedOn_X4 0 rfl rfl 12 (by decide) lk_X4_expectedOn_f39 rfl dX4_expectedOn_7 ?_
  refine z_iload_n h dX4_expectedOn_10 rfl 1 rfl ?_
  refine z_iald h 2 rfl (vp_in_nI (by omega) (by omega)) dX4_expectedOn_11 (v := (col B 5) j) (by rw [nI_clamp (by omega)]) ?_
  refine z_iload_n h dX4_expectedOn_12 rfl 2 rfl ?_
  refine z_aload_n h dX4_expectedOn_13 rfl 0 rfl ?_
  refine z_get h in_X4_expectedOn_X4 0 rfl rfl 13 (by decide) lk_X4_expectedOn_f42 rfl dX4_expectedOn_14 ?_
  refine z_iload_n h dX4_expectedOn_17 rfl 1 rfl ?_
  refine z_iald h 3 rfl (vp_in_nI (by omega) (by omega)) dX4_expectedOn_18 (v := (col B 6) j) (by rw [nI_clamp (by omega)]) ?_
  refine z_isub h dX4_expectedOn_19 ?_
  refine z_imul h dX4_expectedOn_20 ?_
  refine z_bipush h (v := 10) dX4_expectedOn_21 (by decide) ?_
  refine z_idiv h dX4_expectedOn_23 (by decide) ?_
  refine z_mmin h lk_X4_expectedOn_m111 lk_X4_expectedOn_smin lk_X4_expectedOn_imin lk_X4_expectedOn_kmin (Nat.le_of_ble_eq_true rfl) (Nat.le_of_ble_eq_true rfl) (Nat.le_of_ble_eq_true rfl) (Nat.le_of_ble_eq_true rfl) dX4_expectedOn_24 ?_
  exact fin _ _ _ () _ _ _ _ dX4_expectedOn_27 rfl rfl rfl (Nat.le_of_ble_eq_true rfl) (Nat.le_of_ble_eq_true rfl)
abbrev rmX4_expected : Room := { frames := 2, cells := 0, slots := 0, locals := 43 }
set_option maxHeartbeats 4000000 in
set_option maxRecDepth 100000 in
theorem m_X4_expected (l : Launch) (g : Gx) (cm : Nat → Nat) (th : Int32) (pl : Nat) (dy : Nat) (n : Nat) (sn : Nat) (B : Nat → Nat → Int32) (x : Int32) (v : Int32) (hn : n ≤ 16) (sz : Nat) : Met l yX4_expected wsX4_expected rmX4_expected (PZ g [.ref (cm 0), .int x, .int v] sz [(cm 0, .inr (5, [.int th, .int (nI pl), .ref (cm 1), .ref (cm 2), .ref (cm 3), .int (nI dy), .int (nI n), .ref (cm 4), .ref (cm 5), .ref (cm 6), .ref (cm 7), .ref (cm 8), .ref (cm 9), .ref (cm 10), .ref (cm 11), .ref (cm 12), .ref (cm 13), .ref (cm 14), .ref (cm 15), .int (nI sn), .ref (cm 16)]))] [(cm 6, .inl (g.2.1, 16, .inl (col B 2))), (cm 9, .inl (g.2.1, 16, .inl (col B 5))), (cm 10, .inl (g.2.1, 16, .inl (col B 6)))]) (va_Qi (fun (r : Int32) (_ : Unit) => k2 (okI n x) (okR (nI dy).toInt 999 v) = 0 → r = fcst (B x.toNatClampNeg 2) (B x.toNatClampNeg 5) (B x.toNatClampNeg 6) v) (BZ g [(cm 0, .inr (5, [.int th, .int (nI pl), .ref (cm 1), .ref (cm 2), .ref (cm 3), .int (nI dy), .int (nI n), .ref (cm 4), .ref (cm 5), .ref (cm 6), .ref (cm 7), .ref (cm 8), .ref (cm 9), .ref (cm 10), .ref (cm 11), .ref (cm 12), .ref (cm 13), .ref (cm 14), .ref (cm 15), .int (nI sn), .ref (cm 16)]))] sz (fun (u : Unit) => [(cm 0, .inr (5, [.int (k2 (okI n x) (okR (nI dy).toInt 999 v)), .int (nI pl), .ref (cm 1), .ref (cm 2), .ref (cm 3), .int (nI dy), .int (nI n), .ref (cm 4), .ref (cm 5), .ref (cm 6), .ref (cm 7), .ref (cm 8), .ref (cm 9), .ref (cm 10), .ref (cm 11), .ref (cm 12), .ref (cm 13), .ref (cm 14), .ref (cm 15), .int (nI sn), .ref (cm 16)]))])) (va_A [(cm 0, .inr (5, [.int th, .int (nI pl), .ref (cm 1), .ref (cm 2), .ref (cm 3), .int (nI dy), .int (nI n), .ref (cm 4), .ref (cm 5), .ref (cm 6), .ref (cm 7), .ref (cm 8), .ref (cm 9), .ref (cm 10), .ref (cm 11), .ref (cm 12), .ref (cm 13), .ref (cm 14), .ref (cm 15), .int (nI sn), .ref (cm 16)]))] sz)) 0 0 (va_A [(cm 0, .inr (5, [.int th, .int (nI pl), .ref (cm 1), .ref (cm 2), .ref (cm 3), .int (nI dy), .int (nI n), .ref (cm 4), .ref (cm 5), .ref (cm 6), .ref (cm 7), .ref (cm 8), .ref (cm 9), .ref (cm 10), .ref (cm 11), .ref (cm 12), .ref (cm 13), .ref (cm 14), .ref (cm 15), .int (nI sn), .ref (cm 16)]))] sz) := by
  refine z_open_i (cc := cX4_expected) (maxL := 3) (ret := .int) (own := RX4) (by decide) rfl rfl (Nat.le_of_ble_eq_true rfl) ?_
  intro p e s m args below meth c Q h hnm fin
  generalize hAe : va_A [(cm 0, .inr (5, [.int th, .int (nI pl), .ref (cm 1), .ref (cm 2), .ref (cm 3), .int (nI dy), .int (nI n), .ref (cm 4), .ref (cm 5), .ref (cm 6), .ref (cm 7), .ref (cm 8), .ref (cm 9), .ref (cm 10), .ref (cm 11), .ref (cm 12), .ref (cm 13), .ref (cm 14), .ref (cm 15), .int (nI sn), .ref (cm 16)]))] s.heap.size = A at h fin ⊢
  refine z_lve (lv' := [(0, .ref (cm 0)), (1, .int x), (2, .int v)]) rfl ?_
  refine z_aload_n h dX4_expected_0 rfl 0 rfl ?_
  refine z_iconst h (v := 0) dX4_expected_1 (by decide) ?_
  refine z_put h in_X4_expected_X4 0 tyX4 tyX4_ok nmX4 rfl rfl 0 (by decide) lk_X4_expected_f64 rfl rfl rfl (Nat.le_of_ble_eq_true rfl) dX4_expected_2 (wW' := [(cm 0, .inr (5, [.int 0, .int (nI pl), .ref (cm 1), .ref (cm 2), .ref (cm 3), .int (nI dy), .int (nI n), .ref (cm 4), .ref (cm 5), .ref (cm 6), .ref (cm 7), .ref (cm 8), .ref (cm 9), .ref (cm 10), .ref (cm 11), .ref (cm 12), .ref (cm 13), .ref (cm 14), .ref (cm 15), .int (nI sn), .ref (cm 16)]))]) rfl ?_
  refine z_aload_n h dX4_expected_5 rfl 0 rfl ?_
  refine z_iload_n h dX4_expected_6 rfl 1 rfl ?_
  refine z_Vi h (As := [.int x]) (st := []) (fun sz => m_X4_isBin l g cm 0 pl dy n sn x (by omega) sz) (cwV 1 h.ts gX4_expected_X4_isBin rfl rfl rfl (by decide +kernel) ⟨Nat.le_of_ble_eq_true rfl, Nat.le_of_ble_eq_true rfl⟩) rfl [] [0] rfl rfl rfl rfl 0 rfl rfl rfl rfl (Nat.le_of_ble_eq_true rfl) ⟨(Nat.le_of_ble_eq_true rfl), (Nat.le_of_ble_eq_true rfl)⟩ (fun _ => (Nat.le_of_ble_eq_true rfl)) (wN := fun u => [(cm 0, .inr (5, [.int 0, .int (nI pl), .ref (cm 1), .ref (cm 2), .ref (cm 3), .int (nI dy), .int (nI n), .ref (cm 4), .ref (cm 5), .ref (cm 6), .ref (cm 7), .ref (cm 8), .ref (cm 9), .ref (cm 10), .ref (cm 11), .ref (cm 12), .ref (cm 13), .ref (cm 14), .ref (cm 15), .int (nI sn), .ref (cm 16)]))]) (fun _ => rfl) dX4_expected_7 (fun r_7 u_7 h_7 => ?_)
  refine z_if_ne h (tgt := 19) dX4_expected_10 (by decide) (fun c_10 => ?_) (fun c_10 => ?_)
  · have hx : okI n x = true := b01_1 h_7 c_10
    refine z_iload_n h dX4_expected_19 rfl 2 rfl ?_
    refine z_aload_n h dX4_expected_20 rfl 0 rfl ?_
    refine z_get h in_X4_expected_X4 0 rfl rfl 5 (by decide) lk_X4_expected_f93 rfl dX4_expected_21 ?_
    refine z_sipush h (v := 999) dX4_expected_24 (by decide) ?_
    refine z_Si h (b := 0) (C := "") (As := [.int v, .int (nI dy), .int 999]) (st := []) (fun sz => m_X4_isIn l g v (nI dy) 999  sz) (va_cwS 3 h.ts gX4_expected_X4_isIn rfl rfl rfl (by decide +kernel) ⟨Nat.le_of_ble_eq_true rfl, Nat.le_of_ble_eq_true rfl⟩) rfl [] [] rfl rfl rfl rfl rfl (Nat.le_of_ble_eq_true rfl) ⟨(Nat.le_of_ble_eq_true rfl), (Nat.le_of_ble_eq_true rfl)⟩ (fun _ => (Nat.le_of_ble_eq_true rfl)) (wN := fun u => [(cm 0, .inr (5, [.int 0, .int (nI pl), .ref (cm 1), .ref (cm 2), .ref (cm 3), .int (nI dy), .int (nI n), .ref (cm 4), .ref (cm 5), .ref (cm 6), .ref (cm 7), .ref (cm 8), .ref (cm 9), .ref (cm 10), .ref (cm 11), .ref (cm 12), .ref (cm 13), .ref (cm 14), .ref (cm 15), .int (nI sn), .ref (cm 16)]))]) (fun _ => rfl) dX4_expected_27 (fun r_27 u_27 h_27 => ?_)
    refine z_if_eq h (tgt := 42) dX4_expected_30 (by decide) (fun c_30 => ?_) (fun c_30 => ?_)
    · have fv : okR (nI dy).toInt 999 v = false := b01_0 h_27 c_30
      have hk := k2_2 hx fv
      refine z_aload_n h dX4_expected_42 rfl 0 rfl ?_
      refine z_iconst h (v := 2) dX4_expected_43 (by decide) ?_
      refine z_Vi h (As := [.int 2]) (st := []) (fun sz => m_X4_fail l g cm 0 pl dy n sn 2  sz) (cwV 1 h.ts gX4_expected_X4_fail rfl rfl rfl (by decide +kernel) ⟨Nat.le_of_ble_eq_true rfl, Nat.le_of_ble_eq_true rfl⟩) rfl [0] [] rfl rfl rfl rfl 0 rfl rfl rfl rfl (Nat.le_of_ble_eq_true rfl) ⟨(Nat.le_of_ble_eq_true rfl), (Nat.le_of_ble_eq_true rfl)⟩ (fun _ => (Nat.le_of_ble_eq_true rfl)) (wN := fun u => [(cm 0, .inr (5, [.int 2, .int (nI pl), .ref (cm 1), .ref (cm 2), .ref (cm 3), .int (nI dy), .int (nI n), .ref (cm 4), .ref (cm 5), .ref (cm 6), .ref (cm 7), .ref (cm 8), .ref (cm 9), .ref (cm 10), .ref (cm 11), .ref (cm 12), .ref (cm 13), .ref (cm 14), .ref (cm 15), .int (nI sn), .ref (cm 16)]))]) (fun _ => rfl) dX4_expected_44 (fun r_44 u_44 h_44 => ?_)
      exact fin _ _ _ () _ _ _ _ dX4_expected_47 rfl (by first | exact fun _ => by rw [cj]; exact h_36 | exact fun q => absurd (hk.symm.trans q) (by decide)) (by rw [hk]) (Nat.le_of_ble_eq_true rfl) (Nat.le_of_ble_eq_true rfl)
    · have hv : okR (nI dy).toInt 999 v = true := b01_1 h_27 c_30
      have hk := k2_0 hx hv
      obtain ⟨j, hj, rfl⟩ := okI_of hx (by omega)
      have cj : (nI j).toNatClampNeg = j := nI_clamp (by omega)
      refine z_aload_n h dX4_expected_33 rfl 0 rfl ?_
      refine z_iload_n h dX4_expected_34 rfl 1 rfl ?_
      refine z_iload_n h dX4_expected_35 rfl 2 rfl ?_
      refine z_Vi h (As := [.int (nI j), .int v]) (st := []) (fun sz => m_X4_expectedOn l g cm 0 pl dy n sn B j v (by omega) sz) (cwV 2 h.ts gX4_expected_X4_expectedOn rfl rfl rfl (by decide +kernel) ⟨Nat.le_of_ble_eq_true rfl, Nat.le_of_ble_eq_true rfl⟩) rfl [] [0, 1, 2, 3] rfl rfl rfl rfl 0 rfl rfl rfl rfl (Nat.le_of_ble_eq_true rfl) ⟨(Nat.le_of_ble_eq_true rfl), (Nat.le_of_ble_eq_true rfl)⟩ (fun _ => (Nat.le_of_ble_eq_true rfl)) (wN := fun u => [(cm 0, .inr (5, [.int 0, .int (nI pl), .ref (cm 1), .ref (cm 2), .ref (cm 3), .int (nI dy), .int (nI n), .ref (cm 4), .ref (cm 5), .ref (cm 6), .ref (cm 7), .ref (cm 8), .ref (cm 9), .ref (cm 10), .ref (cm 11), .ref (cm 12), .ref (cm 13), .ref (cm 14), .ref (cm 15), .int (nI sn), .ref (cm 16)]))]) (fun _ => rfl) dX4_expected_36 (fun r_36 u_36 h_36 => ?_)
      refine z_goto h (tgt := 47) dX4_expected_39 (by decide) ?_
      exact fin _ _ _ () _ _ _ _ dX4_expected_47 rfl (by first | exact fun _ => by rw [cj]; exact h_36 | exact fun q => absurd (hk.symm.trans q) (by decide)) (by rw [hk]) (Nat.le_of_ble_eq_true rfl) (Nat.le_of_ble_eq_true rfl)
  · have fx : okI n x = false := b01_0 h_7 c_10
    have hk := k2_1 (b := okR (nI dy).toInt 999 v) fx
    refine z_aload_n h dX4_expected_13 rfl 0 rfl ?_
    refine z_iconst h (v := 1) dX4_expected_14 (by decide) ?_
    refine z_Vi h (As := [.int 1]) (st := []) (fun sz => m_X4_fail l g cm 0 pl dy n sn 1  sz) (cwV 1 h.ts gX4_expected_X4_fail rfl rfl rfl (by decide +kernel) ⟨Nat.le_of_ble_eq_true rfl, Nat.le_of_ble_eq_true rfl⟩) rfl [0] [] rfl rfl rfl rfl 0 rfl rfl rfl rfl (Nat.le_of_ble_eq_true rfl) ⟨(Nat.le_of_ble_eq_true rfl), (Nat.le_of_ble_eq_true rfl)⟩ (fun _ => (Nat.le_of_ble_eq_true rfl)) (wN := fun u => [(cm 0, .inr (5, [.int 1, .int (nI pl), .ref (cm 1), .ref (cm 2), .ref (cm 3), .int (nI dy), .int (nI n), .ref (cm 4), .ref (cm 5), .ref (cm 6), .ref (cm 7), .ref (cm 8), .ref (cm 9), .ref (cm 10), .ref (cm 11), .ref (cm 12), .ref (cm 13), .ref (cm 14), .ref (cm 15), .int (nI sn), .ref (cm 16)]))]) (fun _ => rfl) dX4_expected_15 (fun r_15 u_15 h_15 => ?_)
    exact fin _ _ _ () _ _ _ _ dX4_expected_18 rfl (fun q => absurd (hk.symm.trans q) (by decide)) (by rw [hk]) (Nat.le_of_ble_eq_true rfl) (Nat.le_of_ble_eq_true rfl)
abbrev rmX4_fullOn : Room := { frames := 2, cells := 0, slots := 0, locals := 43 }
set_option maxHeartbeats 4000000 in
set_option maxRecDepth 100000 in
theorem m_X4_fullOn (l : Launch) (g : Gx) (cm : Nat → Nat) (th : Int32) (pl : Nat) (dy : Nat) (n : Nat) (sn : Nat) (B : Nat → Nat → Int32) (x : Int32) (hn : n ≤ 16) (hdy : dy ≤ 399) (sz : Nat) : Met l yX4_fullOn wsX4_fullOn rmX4_fullOn (PZ g [.ref (cm 0), .int x] sz [(cm 0, .inr (5, [.int th, .int (nI pl), .ref (cm 1), .ref (cm 2), .ref (cm 3), .int (nI dy), .int (nI n), .ref (cm 4), .ref (cm 5), .ref (cm 6), .ref (cm 7), .ref (cm 8), .ref (cm 9), .ref (cm 10), .ref (cm 11), .ref (cm 12), .ref (cm 13), .ref (cm 14), .ref (cm 15), .int (nI sn), .ref (cm 16)]))] [(cm 6, .inl (g.2.1, 16, .inl (col B 2))), (cm 9, .inl (g.2.1, 16, .inl (col B 5))), (cm 10, .inl (g.2.1, 16, .inl (col B 6)))]) (va_Qi (fun (r : Int32) (_ : Unit) => okI n x = true → r = flF (B x.toNatClampNeg) (1000 - dy) dy) (BZ g [(cm 0, .inr (5, [.int th, .int (nI pl), .ref (cm 1), .ref (cm 2), .ref (cm 3), .int (nI dy), .int (nI n), .ref (cm 4), .ref (cm 5), .ref (cm 6), .ref (cm 7), .ref (cm 8), .ref (cm 9), .ref (cm 10), .ref (cm 11), .ref (cm 12), .ref (cm 13), .ref (cm 14), .ref (cm 15), .int (nI sn), .ref (cm 16)]))] sz (fun (u : Unit) => [(cm 0, .inr (5, [.int (if okI n x = true then 0 else 1), .int (nI pl), .ref (cm 1), .ref (cm 2), .ref (cm 3), .int (nI dy), .int (nI n), .ref (cm 4), .ref (cm 5), .ref (cm 6), .ref (cm 7), .ref (cm 8), .ref (cm 9), .ref (cm 10), .ref (cm 11), .ref (cm 12), .ref (cm 13), .ref (cm 14), .ref (cm 15), .int (nI sn), .ref (cm 16)]))])) (va_A [(cm 0, .inr (5, [.int th, .int (nI pl), .ref (cm 1), .ref (cm 2), .ref (cm 3), .int (nI dy), .int (nI n), .ref (cm 4), .ref (cm 5), .ref (cm 6), .ref (cm 7), .ref (cm 8), .ref (cm 9), .ref (cm 10), .ref (cm 11), .ref (cm 12), .ref (cm 13), .ref (cm 14), .ref (cm 15), .int (nI sn), .ref (cm 16)]))] sz)) 0 0 (va_A [(cm 0, .inr (5, [.int th, .int (nI pl), .ref (cm 1), .ref (cm 2), .ref (cm 3), .int (nI dy), .int (nI n), .ref (cm 4), .ref (cm 5), .ref (cm 6), .ref (cm 7), .ref (cm 8), .ref (cm 9), .ref (cm 10), .ref (cm 11), .ref (cm 12), .ref (cm 13), .ref (cm 14), .ref (cm 15), .int (nI sn), .ref (cm 16)]))] sz) := by
  refine z_open_i (cc := cX4_fullOn) (maxL := 3) (ret := .int) (own := RX4) (by decide) rfl rfl (Nat.le_of_ble_eq_true rfl) ?_
  intro p e s m args below meth c Q h hnm fin
  generalize hAe : va_A [(cm 0, .inr (5, [.int th, .int (nI pl), .ref (cm 1), .ref (cm 2), .ref (cm 3), .int (nI dy), .int (nI n), .ref (cm 4), .ref (cm 5), .ref (cm 6), .ref (cm 7), .ref (cm 8), .ref (cm 9), .ref (cm 10), .ref (cm 11), .ref (cm 12), .ref (cm 13), .ref (cm 14), .ref (cm 15), .int (nI sn), .ref (cm 16)]))] s.heap.size = A at h fin ⊢
  refine z_lve (lv' := [(0, .ref (cm 0)), (1, .int x)]) rfl ?_
  refine z_aload_n h dX4_fullOn_0 rfl 0 rfl ?_
  refine z_iconst h (v := 0) dX4_fullOn_1 (by decide) ?_
  refine z_put h in_X4_fullOn_X4 0 tyX4 tyX4_ok nmX4 rfl rfl 0 (by decide) lk_X4_fullOn_f64 rfl rfl rfl (Nat.le_of_ble_eq_true rfl) dX4_fullOn_2 (wW' := [(cm 0, .inr (5, [.int 0, .int (nI pl), .ref (cm 1), .ref (cm 2), .ref (cm 3), .int (nI dy), .int (nI n), .ref (cm 4), .ref (cm 5), .ref (cm 6), .ref (cm 7), .ref (cm 8), .ref (cm 9), .ref (cm 10), .ref (cm 11), .ref (cm 12), .ref (cm 13), .ref (cm 14), .ref (cm 15), .int (nI sn), .ref (cm 16)]))]) rfl ?_
  refine z_aload_n h dX4_fullOn_5 rfl 0 rfl ?_
  refine z_iload_n h dX4_fullOn_6 rfl 1 rfl ?_
  refine z_Vi h (As := [.int x]) (st := []) (fun sz => m_X4_isBin l g cm 0 pl dy n sn x (by omega) sz) (cwV 1 h.ts gX4_fullOn_X4_isBin rfl rfl rfl (by decide +kernel) ⟨Nat.le_of_ble_eq_true rfl, Nat.le_of_ble_eq_true rfl⟩) rfl [] [0] rfl rfl rfl rfl 0 rfl rfl rfl rfl (Nat.le_of_ble_eq_true rfl) ⟨(Nat.le_of_ble_eq_true rfl), (Nat.le_of_ble_eq_true rfl)⟩ (fun _ => (Nat.le_of_ble_eq_true rfl)) (wN := fun u => [(cm 0, .inr (5, [.int 0, .int (nI pl), .ref (cm 1), .ref (cm 2), .ref (cm 3), .int (nI dy), .int (nI n), .ref (cm 4), .ref (cm 5), .ref (cm 6), .ref (cm 7), .ref (cm 8), .ref (cm 9), .ref (cm 10), .ref (cm 11), .ref (cm 12), .ref (cm 13), .ref (cm 14), .ref (cm 15), .int (nI sn), .ref (cm 16)]))]) (fun _ => rfl) dX4_fullOn_7 (fun r_7 u_7 h_7 => ?_)
  refine z_if_ne h (tgt := 19) dX4_fullOn_10 (by decide) (fun c_10 => ?_) (fun c_10 => ?_)
  · have hx : okI n x = true := b01_1 h_7 c_10
    have hk := hx
    obtain ⟨j, hj, rfl⟩ := okI_of hx (by omega)
    have cj : (nI j).toNatClampNeg = j := nI_clamp (by omega)
    refine z_aload_n h dX4_fullOn_19 rfl 0 rfl ?_
    refine z_get h in_X4_fullOn_X4 0 rfl rfl 5 (by decide) lk_X4_fullOn_f93 rfl dX4_fullOn_20 ?_
    refine z_istore_n h dX4_fullOn_23 rfl (by decide) (lv' := [(0, .ref (cm 0)), (1, .int (nI j)), (2, .int (nI dy))]) [1, 2, 0] rfl ?_
    have L24 : ∀ (L24n d : Nat) , d ≤ 1000 → 1000 < L24n + d → flF (B j) (1000 - dy) dy = flF (B j) (1000 - d) d → Z p l e rmX4_fullOn s m args below meth c Q A g 3 24 [(0, .ref (cm 0)), (1, .int (nI j)), (2, .int (nI d))] [] [(cm 0, .inr (5, [.int 0, .int (nI pl), .ref (cm 1), .ref (cm 2), .ref (cm 3), .int (nI dy), .int (nI n), .ref (cm 4), .ref (cm 5), .ref (cm 6), .ref (cm 7), .ref (cm 8), .ref (cm 9), .ref (cm 10), .ref (cm 11), .ref (cm 12), .ref (cm 13), .ref (cm 14), .ref (cm 15), .int (nI sn), .ref (cm 16)]))] [(cm 6, .inl (g.2.1, 16, .inl (col B 2))), (cm 9, .inl (g.2.1, 16, .inl (col B 5))), (cm 10, .inl (g.2.1, 16, .inl (col B 6)))] 0 0 := by
      intro L24n
      induction L24n with
      | zero => intro d  hd hL24 e1; exact absurd hL24 (by omega)
      | succ L24n ihL24 =>
        intro d  hd hL24 e1
        refine z_iload_n h dX4_fullOn_24 rfl 2 rfl ?_
        refine z_sipush h (v := 999) dX4_fullOn_25 (by decide) ?_
        refine z_icmp_gt h (tgt := 54) dX4_fullOn_28 (by decide) (fun c_28 => ?_) (fun c_28 => ?_)
        · have hd4 : d = 1000 := by have := (nI_ltI (a := 999) (by omega) (by omega)).mp c_28; omega
          subst hd4
          refine z_iconst h (v := (-1)) dX4_fullOn_54 (by decide) ?_
          exact fin _ _ _ () _ _ _ _ dX4_fullOn_55 rfl (fun _ => by rw [cj, e1]; rfl) (by rw [hk]; rfl) (Nat.le_of_ble_eq_true rfl) (Nat.le_of_ble_eq_true rfl)
        · have hlt : d < 1000 := by rcases Nat.lt_or_ge 999 d with q | q; exact absurd ((nI_ltI (a := 999) (by omega) (by omega)).mpr q) c_28; omega
          refine z_aload_n h dX4_fullOn_31 rfl 0 rfl ?_
          refine z_iload_n h dX4_fullOn_32 rfl 1 rfl ?_
          refine z_iload_n h dX4_fullOn_33 rfl 2 rfl ?_
          refine z_Vi h (As := [.int (nI j), .int (nI d)]) (st := []) (fun sz => m_X4_expectedOn l g cm 0 pl dy n sn B j (nI d) (by omega) sz) (cwV 2 h.ts gX4_fullOn_X4_expectedOn rfl rfl rfl (by decide +kernel) ⟨Nat.le_of_ble_eq_true rfl, Nat.le_of_ble_eq_true rfl⟩) rfl [] [0, 1, 2, 3] rfl rfl rfl rfl 0 rfl rfl rfl rfl (Nat.le_of_ble_eq_true rfl) ⟨(Nat.le_of_ble_eq_true rfl), (Nat.le_of_ble_eq_true rfl)⟩ (fun _ => (Nat.le_of_ble_eq_true rfl)) (wN := fun u => [(cm 0, .inr (5, [.int 0, .int (nI pl), .ref (cm 1), .ref (cm 2), .ref (cm 3), .int (nI dy), .int (nI n), .ref (cm 4), .ref (cm 5), .ref (cm 6), .ref (cm 7), .ref (cm 8), .ref (cm 9), .ref (cm 10), .ref (cm 11), .ref (cm 12), .ref (cm 13), .ref (cm 14), .ref (cm 15), .int (nI sn), .ref (cm 16)]))]) (fun _ => rfl) dX4_fullOn_34 (fun r_34 u_34 h_34 => ?_)
          refine z_aload_n h dX4_fullOn_37 rfl 0 rfl ?_
          refine z_get h in_X4_fullOn_X4 0 rfl rfl 9 (by decide) lk_X4_fullOn_f30 rfl dX4_fullOn_38 ?_
          refine z_iload_n h dX4_fullOn_41 rfl 1 rfl ?_
          refine z_iald h 1 rfl (vp_in_nI (by omega) (by omega)) dX4_fullOn_42 (v := (col B 2) j) (by rw [nI_clamp (by omega)]) ?_
          refine z_icmp_ne h (tgt := 48) dX4_fullOn_43 (by decide) (fun c_43 => ?_) (fun c_43 => ?_)
          · have hf0 : fulB (B j) (nI d) = 0 := if_neg (fun q => c_43 (h_34.trans q))
            refine z_iinc h (v := nI (d + 1)) dX4_fullOn_48 (by decide) 2 rfl (by rw [show Int32.ofInt 1 = nI 1 from rfl, nI_add]) (lv' := [(0, .ref (cm 0)), (1, .int (nI j)), (2, .int (nI (d + 1)))]) [1, 2, 0] rfl ?_
            refine z_goto h (tgt := 24) dX4_fullOn_51 (by decide) ?_
            exact ihL24 (d + 1)  (by omega) (by omega) (by rw [e1, flF_1 (by omega) hf0, show 1000 - d - 1 = 1000 - (d + 1) by omega])
          · have hf1 : ¬ fulB (B j) (nI d) = 0 := fun q => absurd ((show fulB (B j) (nI d) = 1 from if_pos (h_34.symm.trans c_43)).symm.trans q) (by decide)
            refine z_iload_n h dX4_fullOn_46 rfl 2 rfl ?_
            exact fin _ _ _ () _ _ _ _ dX4_fullOn_47 rfl (fun _ => by rw [cj, e1, flF_0 (by omega) hf1]) (by rw [hk]; rfl) (Nat.le_of_ble_eq_true rfl) (Nat.le_of_ble_eq_true rfl)
    exact L24 (1000 + 1 - dy) dy  (by omega) (by omega) rfl
  · have fx : okI n x = false := b01_0 h_7 c_10
    refine z_aload_n h dX4_fullOn_13 rfl 0 rfl ?_
    refine z_iconst h (v := 1) dX4_fullOn_14 (by decide) ?_
    refine z_Vi h (As := [.int 1]) (st := []) (fun sz => m_X4_fail l g cm 0 pl dy n sn 1  sz) (cwV 1 h.ts gX4_fullOn_X4_fail rfl rfl rfl (by decide +kernel) ⟨Nat.le_of_ble_eq_true rfl, Nat.le_of_ble_eq_true rfl⟩) rfl [0] [] rfl rfl rfl rfl 0 rfl rfl rfl rfl (Nat.le_of_ble_eq_true rfl) ⟨(Nat.le_of_ble_eq_true rfl), (Nat.le_of_ble_eq_true rfl)⟩ (fun _ => (Nat.le_of_ble_eq_true rfl)) (wN := fun u => [(cm 0, .inr (5, [.int 1, .int (nI pl), .ref (cm 1), .ref (cm 2), .ref (cm 3), .int (nI dy), .int (nI n), .ref (cm 4), .ref (cm 5), .ref (cm 6), .ref (cm 7), .ref (cm 8), .ref (cm 9), .ref (cm 10), .ref (cm 11), .ref (cm 12), .ref (cm 13), .ref (cm 14), .ref (cm 15), .int (nI sn), .ref (cm 16)]))]) (fun _ => rfl) dX4_fullOn_15 (fun r_15 u_15 h_15 => ?_)
    exact fin _ _ _ () _ _ _ _ dX4_fullOn_18 rfl (fun q => absurd (fx.symm.trans q) (by decide)) (by rw [fx]; rfl) (Nat.le_of_ble_eq_true rfl) (Nat.le_of_ble_eq_true rfl)
abbrev rmX4_isDue : Room := { frames := 2, cells := 0, slots := 0, locals := 43 }
set_option maxHeartbeats 4000000 in
set_option maxRecDepth 100000 in
theorem m_X4_isDue (l : Launch) (g : Gx) (cm : Nat → Nat) (th : Int32) (pl : Nat) (dy : Nat) (n : Nat) (sn : Nat) (hf : Nat → Int32) (B : Nat → Nat → Int32) (j : Nat) (hj : j < 16) (hdy : dy ≤ 399) (sz : Nat) : Met l yX4_isDue wsX4_isDue rmX4_isDue (PZ g [.ref (cm 0), .int (nI j)] sz [] [(cm 0, .inr (5, [.int th, .int (nI pl), .ref (cm 1), .ref (cm 2), .ref (cm 3), .int (nI dy), .int (nI n), .ref (cm 4), .ref (cm 5), .ref (cm 6), .ref (cm 7), .ref (cm 8), .ref (cm 9), .ref (cm 10), .ref (cm 11), .ref (cm 12), .ref (cm 13), .ref (cm 14), .ref (cm 15), .int (nI sn), .ref (cm 16)])), (cm 3, .inl (g.2.2.2.1, 400, .inl hf)), (cm 6, .inl (g.2.1, 16, .inl (col B 2))), (cm 9, .inl (g.2.1, 16, .inl (col B 5))), (cm 10, .inl (g.2.1, 16, .inl (col B 6)))]) (va_Qi (fun (r : Int32) (_ : Unit) => r = dueB (B j) (nI dy) (nI (nwd hf dy))) (BZ g [] sz (fun (u : Unit) => [])) (va_A [] sz)) 0 0 (va_A [] sz) := by
  refine z_open_i (cc := cX4_isDue) (maxL := 2) (ret := .boolean) (own := RX4) (by decide) rfl rfl (Nat.le_of_ble_eq_true rfl) ?_
  intro p e s m args below meth c Q h hnm fin
  generalize hAe : va_A [] s.heap.size = A at h fin ⊢
  refine z_lve (lv' := [(0, .ref (cm 0)), (1, .int (nI j))]) rfl ?_
  refine z_iconst h (v := 4) dX4_isDue_0 (by decide) ?_
  refine z_aload_n h dX4_isDue_1 rfl 0 rfl ?_
  refine z_iload_n h dX4_isDue_2 rfl 1 rfl ?_
  refine z_aload_n h dX4_isDue_3 rfl 0 rfl ?_
  refine z_get h in_X4_isDue_X4 0 rfl rfl 5 (by decide) lk_X4_isDue_f93 rfl dX4_isDue_4 ?_
  refine z_Vi h (As := [.int (nI j), .int (nI dy)]) (st := [.int 4]) (fun sz => m_X4_expectedOn l g cm th pl dy n sn B j (nI dy) (by omega) sz) (cwV 2 h.ts gX4_isDue_X4_expectedOn rfl rfl rfl (by decide +kernel) ⟨Nat.le_of_ble_eq_true rfl, Nat.le_of_ble_eq_true rfl⟩) rfl [] [0, 2, 3, 4] rfl rfl rfl rfl 0 rfl rfl rfl rfl (Nat.le_of_ble_eq_true rfl) ⟨(Nat.le_of_ble_eq_true rfl), (Nat.le_of_ble_eq_true rfl)⟩ (fun _ => (Nat.le_of_ble_eq_true rfl)) (wN := fun u => []) (fun _ => rfl) dX4_isDue_7 (fun r_7 u_7 h_7 => ?_)
  refine z_topi (y := fcst (B j 2) (B j 5) (B j 6) (nI dy)) h_7 ?_
  refine z_imul h dX4_isDue_10 ?_
  refine z_iconst h (v := 3) dX4_isDue_11 (by decide) ?_
  refine z_aload_n h dX4_isDue_12 rfl 0 rfl ?_
  refine z_get h in_X4_isDue_X4 0 rfl rfl 9 (by decide) lk_X4_isDue_f30 rfl dX4_isDue_13 ?_
  refine z_iload_n h dX4_isDue_16 rfl 1 rfl ?_
  refine z_iald h 2 rfl (vp_in_nI (by omega) (by omega)) dX4_isDue_17 (v := (col B 2) j) (by rw [nI_clamp (by omega)]) ?_
  refine z_imul h dX4_isDue_18 ?_
  refine z_icmp_ge h (tgt := 40) dX4_isDue_19 (by decide) (fun c_19 => ?_) (fun c_19 => ?_)
  · refine z_iconst h (v := 1) dX4_isDue_40 (by decide) ?_
    refine z_goto h (tgt := 45) dX4_isDue_41 (by decide) ?_
    exact fin _ _ _ () _ _ _ _ dX4_isDue_45 (by first | rfl | exact nar_ite _) (by first | exact (if_pos c_19).symm | exact (if_neg c_19).symm) rfl (Nat.le_of_ble_eq_true rfl) (Nat.le_of_ble_eq_true rfl)
  · refine z_aload_n h dX4_isDue_22 rfl 0 rfl ?_
    refine z_iload_n h dX4_isDue_23 rfl 1 rfl ?_
    refine z_aload_n h dX4_isDue_24 rfl 0 rfl ?_
    refine z_Vi h (As := []) (st := [.int (nI j), .ref (cm 0)]) (fun sz => m_X4_workday l g cm th pl dy n sn hf (by omega) sz) (cwV 0 h.ts gX4_isDue_X4_workday rfl rfl rfl (by decide +kernel) ⟨Nat.le_of_ble_eq_true rfl, Nat.le_of_ble_eq_true rfl⟩) rfl [] [0, 1] rfl rfl rfl rfl 0 rfl rfl rfl rfl (Nat.le_of_ble_eq_true rfl) ⟨(Nat.le_of_ble_eq_true rfl), (Nat.le_of_ble_eq_true rfl)⟩ (fun _ => (Nat.le_of_ble_eq_true rfl)) (wN := fun u => []) (fun _ => rfl) dX4_isDue_25 (fun r_25 u_25 h_25 => ?_)
    refine z_topi (y := nI (nwd hf dy)) h_25 ?_
    refine z_Vi h (As := [.int (nI j), .int (nI (nwd hf dy))]) (st := []) (fun sz => m_X4_expectedOn l g cm th pl dy n sn B j (nI (nwd hf dy)) (by omega) sz) (cwV 2 h.ts gX4_isDue_X4_expectedOn rfl rfl rfl (by decide +kernel) ⟨Nat.le_of_ble_eq_true rfl, Nat.le_of_ble_eq_true rfl⟩) rfl [] [0, 2, 3, 4] rfl rfl rfl rfl 0 rfl rfl rfl rfl (Nat.le_of_ble_eq_true rfl) ⟨(Nat.le_of_ble_eq_true rfl), (Nat.le_of_ble_eq_true rfl)⟩ (fun _ => (Nat.le_of_ble_eq_true rfl)) (wN := fun u => []) (fun _ => rfl) dX4_isDue_28 (fun r_28 u_28 h_28 => ?_)
    refine z_topi (y := fcst (B j 2) (B j 5) (B j 6) (nI (nwd hf dy))) h_28 ?_
    refine z_aload_n h dX4_isDue_31 rfl 0 rfl ?_
    refine z_get h in_X4_isDue_X4 0 rfl rfl 9 (by decide) lk_X4_isDue_f30 rfl dX4_isDue_32 ?_
    refine z_iload_n h dX4_isDue_35 rfl 1 rfl ?_
    refine z_iald h 2 rfl (vp_in_nI (by omega) (by omega)) dX4_isDue_36 (v := (col B 2) j) (by rw [nI_clamp (by omega)]) ?_
    have K_37 : Z p l e rmX4_isDue s m args below meth c Q A g 2 45 [(0, .ref (cm 0)), (1, .int (nI j))] [.int (if (fcst (B j 2) (B j 5) (B j 6) (nI (nwd hf dy))) = ((col B 2) j) then 1 else 0)] [] [(cm 0, .inr (5, [.int th, .int (nI pl), .ref (cm 1), .ref (cm 2), .ref (cm 3), .int (nI dy), .int (nI n), .ref (cm 4), .ref (cm 5), .ref (cm 6), .ref (cm 7), .ref (cm 8), .ref (cm 9), .ref (cm 10), .ref (cm 11), .ref (cm 12), .ref (cm 13), .ref (cm 14), .ref (cm 15), .int (nI sn), .ref (cm 16)])), (cm 3, .inl (g.2.2.2.1, 400, .inl hf)), (cm 6, .inl (g.2.1, 16, .inl (col B 2))), (cm 9, .inl (g.2.1, 16, .inl (col B 5))), (cm 10, .inl (g.2.1, 16, .inl (col B 6)))] 0 0 := by
      exact fin _ _ _ () _ _ _ _ dX4_isDue_45 (by first | rfl | exact nar_ite _) (by first | exact (if_pos c_19).symm | exact (if_neg c_19).symm) rfl (Nat.le_of_ble_eq_true rfl) (Nat.le_of_ble_eq_true rfl)
    refine z_icmp_ne h (tgt := 44) dX4_isDue_37 (by decide) (fun c_37 => ?_) (fun c_37 => ?_)
    · refine z_iconst h (v := 0) dX4_isDue_44 (by decide) ?_
      exact z_topi (if_neg c_37).symm K_37
    · refine z_iconst h (v := 1) dX4_isDue_40 (by decide) ?_
      refine z_goto h (tgt := 45) dX4_isDue_41 (by decide) ?_
      exact z_topi (if_pos c_37).symm K_37
abbrev rmX4_total : Room := { frames := 2, cells := 0, slots := 0, locals := 42 }
set_option maxHeartbeats 4000000 in
set_option maxRecDepth 100000 in
theorem m_X4_total (l : Launch) (g : Gx) (cm : Nat → Nat) (th : Int32) (pl : Nat) (dy : Nat) (n : Nat) (sn : Nat) (tf : Nat → Int64) (x : Int32) (v : Int32)  (sz : Nat) : Met l yX4_total wsX4_total rmX4_total (PZ g [.ref (cm 0), .int x, .int v] sz [(cm 0, .inr (5, [.int th, .int (nI pl), .ref (cm 1), .ref (cm 2), .ref (cm 3), .int (nI dy), .int (nI n), .ref (cm 4), .ref (cm 5), .ref (cm 6), .ref (cm 7), .ref (cm 8), .ref (cm 9), .ref (cm 10), .ref (cm 11), .ref (cm 12), .ref (cm 13), .ref (cm 14), .ref (cm 15), .int (nI sn), .ref (cm 16)]))] [(cm 14, .inl (g.2.2.1, 12, .inr (.inl tf)))]) (va_Ql (fun (r : Int64) (_ : Unit) => (okI 3 x && okI 4 v) = true → r = tf (x.toNatClampNeg * 4 + v.toNatClampNeg)) (BZ g [(cm 0, .inr (5, [.int th, .int (nI pl), .ref (cm 1), .ref (cm 2), .ref (cm 3), .int (nI dy), .int (nI n), .ref (cm 4), .ref (cm 5), .ref (cm 6), .ref (cm 7), .ref (cm 8), .ref (cm 9), .ref (cm 10), .ref (cm 11), .ref (cm 12), .ref (cm 13), .ref (cm 14), .ref (cm 15), .int (nI sn), .ref (cm 16)]))] sz (fun (u : Unit) => [(cm 0, .inr (5, [.int (if (okI 3 x && okI 4 v) = true then 0 else 1), .int (nI pl), .ref (cm 1), .ref (cm 2), .ref (cm 3), .int (nI dy), .int (nI n), .ref (cm 4), .ref (cm 5), .ref (cm 6), .ref (cm 7), .ref (cm 8), .ref (cm 9), .ref (cm 10), .ref (cm 11), .ref (cm 12), .ref (cm 13), .ref (cm 14), .ref (cm 15), .int (nI sn), .ref (cm 16)]))])) (va_A [(cm 0, .inr (5, [.int th, .int (nI pl), .ref (cm 1), .ref (cm 2), .ref (cm 3), .int (nI dy), .int (nI n), .ref (cm 4), .ref (cm 5), .ref (cm 6), .ref (cm 7), .ref (cm 8), .ref (cm 9), .ref (cm 10), .ref (cm 11), .ref (cm 12), .ref (cm 13), .ref (cm 14), .ref (cm 15), .int (nI sn), .ref (cm 16)]))] sz)) 0 0 (va_A [(cm 0, .inr (5, [.int th, .int (nI pl), .ref (cm 1), .ref (cm 2), .ref (cm 3), .int (nI dy), .int (nI n), .ref (cm 4), .ref (cm 5), .ref (cm 6), .ref (cm 7), .ref (cm 8), .ref (cm 9), .ref (cm 10), .ref (cm 11), .ref (cm 12), .ref (cm 13), .ref (cm 14), .ref (cm 15), .int (nI sn), .ref (cm 16)]))] sz) := by
  refine z_open_l (cc := cX4_total) (maxL := 3) (own := RX4) (by decide) rfl rfl (Nat.le_of_ble_eq_true rfl) ?_
  intro p e s m args below meth c Q h hnm fin
  generalize hAe : va_A [(cm 0, .inr (5, [.int th, .int (nI pl), .ref (cm 1), .ref (cm 2), .ref (cm 3), .int (nI dy), .int (nI n), .ref (cm 4), .ref (cm 5), .ref (cm 6), .ref (cm 7), .ref (cm 8), .ref (cm 9), .ref (cm 10), .ref (cm 11), .ref (cm 12), .ref (cm 13), .ref (cm 14), .ref (cm 15), .int (nI sn), .ref (cm 16)]))] s.heap.size = A at h fin ⊢
  refine z_lve (lv' := [(0, .ref (cm 0)), (1, .int x), (2, .int v)]) rfl ?_
  refine z_aload_n h dX4_total_0 rfl 0 rfl ?_
  refine z_iload_n h dX4_total_1 rfl 1 rfl ?_
  refine z_Si h (b := 0) (C := "") (As := [.int x]) (st := [.ref (cm 0)]) (fun sz => m_X4_isKind l g x  sz) (va_cwS 1 h.ts gX4_total_X4_isKind rfl rfl rfl (by decide +kernel) ⟨Nat.le_of_ble_eq_true rfl, Nat.le_of_ble_eq_true rfl⟩) rfl [] [] rfl rfl rfl rfl rfl (Nat.le_of_ble_eq_true rfl) ⟨(Nat.le_of_ble_eq_true rfl), (Nat.le_of_ble_eq_true rfl)⟩ (fun _ => (Nat.le_of_ble_eq_true rfl)) (wN := fun u => [(cm 0, .inr (5, [.int th, .int (nI pl), .ref (cm 1), .ref (cm 2), .ref (cm 3), .int (nI dy), .int (nI n), .ref (cm 4), .ref (cm 5), .ref (cm 6), .ref (cm 7), .ref (cm 8), .ref (cm 9), .ref (cm 10), .ref (cm 11), .ref (cm 12), .ref (cm 13), .ref (cm 14), .ref (cm 15), .int (nI sn), .ref (cm 16)]))]) (fun _ => rfl) dX4_total_2 (fun r_2 u_2 h_2 => ?_)
  refine z_if_eq h (tgt := 21) dX4_total_5 (by decide) (fun c_5 => ?_) (fun c_5 => ?_)
  · have fx : okI 3 x = false := b01_0 h_2 c_5
    refine z_iconst h (v := 1) dX4_total_21 (by decide) ?_
    refine z_put h in_X4_total_X4 0 tyX4 tyX4_ok nmX4 rfl rfl 0 (by decide) lk_X4_total_f64 rfl rfl rfl (Nat.le_of_ble_eq_true rfl) dX4_total_22 (wW' := [(cm 0, .inr (5, [.int 1, .int (nI pl), .ref (cm 1), .ref (cm 2), .ref (cm 3), .int (nI dy), .int (nI n), .ref (cm 4), .ref (cm 5), .ref (cm 6), .ref (cm 7), .ref (cm 8), .ref (cm 9), .ref (cm 10), .ref (cm 11), .ref (cm 12), .ref (cm 13), .ref (cm 14), .ref (cm 15), .int (nI sn), .ref (cm 16)]))]) rfl ?_
    refine z_aload_n h dX4_total_25 rfl 0 rfl ?_
    refine z_get h in_X4_total_X4 0 rfl rfl 0 (by decide) lk_X4_total_f64 rfl dX4_total_26 ?_
    refine z_if_ne h (tgt := 45) dX4_total_29 (by decide) (fun c_29 => ?_) (fun c_29 => absurd c_29 (by decide))
    have hk : (okI 3 x && okI 4 v) = false := by first | exact and_f1 fx | exact and_f2 fv
    refine z_lconst h (v := 0) dX4_total_45 (by decide) ?_
    exact fin _ _ _ () _ _ _ _ dX4_total_46 (by first | exact fun _ => by rw [ckd, cq] | exact fun q => absurd (hk.symm.trans q) (by decide)) (by rw [hk]; rfl) (Nat.le_of_ble_eq_true rfl) (Nat.le_of_ble_eq_true rfl)
  · have hx : okI 3 x = true := b01_1 h_2 c_5
    refine z_iload_n h dX4_total_8 rfl 2 rfl ?_
    refine z_iconst h (v := 0) dX4_total_9 (by decide) ?_
    refine z_iconst h (v := 3) dX4_total_10 (by decide) ?_
    refine z_Si h (b := 0) (C := "") (As := [.int v, .int 0, .int 3]) (st := [.ref (cm 0)]) (fun sz => m_X4_isIn l g v 0 3  sz) (va_cwS 3 h.ts gX4_total_X4_isIn rfl rfl rfl (by decide +kernel) ⟨Nat.le_of_ble_eq_true rfl, Nat.le_of_ble_eq_true rfl⟩) rfl [] [] rfl rfl rfl rfl rfl (Nat.le_of_ble_eq_true rfl) ⟨(Nat.le_of_ble_eq_true rfl), (Nat.le_of_ble_eq_true rfl)⟩ (fun _ => (Nat.le_of_ble_eq_true rfl)) (wN := fun u => [(cm 0, .inr (5, [.int th, .int (nI pl), .ref (cm 1), .ref (cm 2), .ref (cm 3), .int (nI dy), .int (nI n), .ref (cm 4), .ref (cm 5), .ref (cm 6), .ref (cm 7), .ref (cm 8), .ref (cm 9), .ref (cm 10), .ref (cm 11), .ref (cm 12), .ref (cm 13), .ref (cm 14), .ref (cm 15), .int (nI sn), .ref (cm 16)]))]) (fun _ => rfl) dX4_total_11 (fun r_11 u_11 h_11 => ?_)
    rw [okRI4] at h_11
    refine z_if_eq h (tgt := 21) dX4_total_14 (by decide) (fun c_14 => ?_) (fun c_14 => ?_)
    · have fv : okI 4 v = false := b01_0 h_11 c_14
      refine z_iconst h (v := 1) dX4_total_21 (by decide) ?_
      refine z_put h in_X4_total_X4 0 tyX4 tyX4_ok nmX4 rfl rfl 0 (by decide) lk_X4_total_f64 rfl rfl rfl (Nat.le_of_ble_eq_true rfl) dX4_total_22 (wW' := [(cm 0, .inr (5, [.int 1, .int (nI pl), .ref (cm 1), .ref (cm 2), .ref (cm 3), .int (nI dy), .int (nI n), .ref (cm 4), .ref (cm 5), .ref (cm 6), .ref (cm 7), .ref (cm 8), .ref (cm 9), .ref (cm 10), .ref (cm 11), .ref (cm 12), .ref (cm 13), .ref (cm 14), .ref (cm 15), .int (nI sn), .ref (cm 16)]))]) rfl ?_
      refine z_aload_n h dX4_total_25 rfl 0 rfl ?_
      refine z_get h in_X4_total_X4 0 rfl rfl 0 (by decide) lk_X4_total_f64 rfl dX4_total_26 ?_
      refine z_if_ne h (tgt := 45) dX4_total_29 (by decide) (fun c_29 => ?_) (fun c_29 => absurd c_29 (by decide))
      have hk : (okI 3 x && okI 4 v) = false := by first | exact and_f1 fx | exact and_f2 fv
      refine z_lconst h (v := 0) dX4_total_45 (by decide) ?_
      exact fin _ _ _ () _ _ _ _ dX4_total_46 (by first | exact fun _ => by rw [ckd, cq] | exact fun q => absurd (hk.symm.trans q) (by decide)) (by rw [hk]; rfl) (Nat.le_of_ble_eq_true rfl) (Nat.le_of_ble_eq_true rfl)
    · have hv : okI 4 v = true := b01_1 h_11 c_14
      refine z_iconst h (v := 0) dX4_total_17 (by decide) ?_
      refine z_goto h (tgt := 22) dX4_total_18 (by decide) ?_
      refine z_put h in_X4_total_X4 0 tyX4 tyX4_ok nmX4 rfl rfl 0 (by decide) lk_X4_total_f64 rfl rfl rfl (Nat.le_of_ble_eq_true rfl) dX4_total_22 (wW' := [(cm 0, .inr (5, [.int 0, .int (nI pl), .ref (cm 1), .ref (cm 2), .ref (cm 3), .int (nI dy), .int (nI n), .ref (cm 4), .ref (cm 5), .ref (cm 6), .ref (cm 7), .ref (cm 8), .ref (cm 9), .ref (cm 10), .ref (cm 11), .ref (cm 12), .ref (cm 13), .ref (cm 14), .ref (cm 15), .int (nI sn), .ref (cm 16)]))]) rfl ?_
      refine z_aload_n h dX4_total_25 rfl 0 rfl ?_
      refine z_get h in_X4_total_X4 0 rfl rfl 0 (by decide) lk_X4_total_f64 rfl dX4_total_26 ?_
      refine z_if_ne h (tgt := 45) dX4_total_29 (by decide) (fun c_29 => absurd c_29 (by decide)) (fun c_29 => ?_)
      have hk := and_t hx hv
      obtain ⟨kd, hkd, rfl⟩ := okI_of hx (by omega)
      have ckd : (nI kd).toNatClampNeg = kd := nI_clamp (by omega)
      obtain ⟨q, hq, rfl⟩ := okI_of hv (by omega)
      have cq : (nI q).toNatClampNeg = q := nI_clamp (by omega)
      refine z_aload_n h dX4_total_32 rfl 0 rfl ?_
      refine z_get h in_X4_total_X4 0 rfl rfl 17 (by decide) lk_X4_total_f54 rfl dX4_total_33 ?_
      refine z_iconst h (v := 4) dX4_total_36 (by decide) ?_
      refine z_iload_n h dX4_total_37 rfl 1 rfl ?_
      refine z_imul h dX4_total_38 ?_
      refine z_topi (y := nI (kd * 4)) (mul4' kd) ?_
      refine z_iload_n h dX4_total_39 rfl 2 rfl ?_
      refine z_iadd h dX4_total_40 ?_
      refine z_topi (y := nI (kd * 4 + q)) (add4 kd q) ?_
      refine z_lald h 1 rfl (vp_in_nI (by omega) (by omega)) dX4_total_41 (v := tf (kd * 4 + q)) (by rw [nI_clamp (by omega)]) ?_
      refine z_goto h (tgt := 46) dX4_total_42 (by decide) ?_
      exact fin _ _ _ () _ _ _ _ dX4_total_46 (by first | exact fun _ => by rw [ckd, cq] | exact fun q => absurd (hk.symm.trans q) (by decide)) (by rw [hk]; rfl) (Nat.le_of_ble_eq_true rfl) (Nat.le_of_ble_eq_true rfl)
abbrev rmX4_wasted : Room := { frames := 2, cells := 0, slots := 0, locals := 42 }
set_option maxHeartbeats 4000000 in
set_option maxRecDepth 100000 in
theorem m_X4_wasted (l : Launch) (g : Gx) (cm : Nat → Nat) (th : Int32) (pl : Nat) (dy : Nat) (n : Nat) (sn : Nat) (wf : Nat → Int64) (x : Int32)  (sz : Nat) : Met l yX4_wasted wsX4_wasted rmX4_wasted (PZ g [.ref (cm 0), .int x] sz [(cm 0, .inr (5, [.int th, .int (nI pl), .ref (cm 1), .ref (cm 2), .ref (cm 3), .int (nI dy), .int (nI n), .ref (cm 4), .ref (cm 5), .ref (cm 6), .ref (cm 7), .ref (cm 8), .ref (cm 9), .ref (cm 10), .ref (cm 11), .ref (cm 12), .ref (cm 13), .ref (cm 14), .ref (cm 15), .int (nI sn), .ref (cm 16)]))] [(cm 15, .inl (g.2.2.1, 3, .inr (.inl wf)))]) (va_Ql (fun (r : Int64) (_ : Unit) => okI 3 x = true → r = wf x.toNatClampNeg) (BZ g [(cm 0, .inr (5, [.int th, .int (nI pl), .ref (cm 1), .ref (cm 2), .ref (cm 3), .int (nI dy), .int (nI n), .ref (cm 4), .ref (cm 5), .ref (cm 6), .ref (cm 7), .ref (cm 8), .ref (cm 9), .ref (cm 10), .ref (cm 11), .ref (cm 12), .ref (cm 13), .ref (cm 14), .ref (cm 15), .int (nI sn), .ref (cm 16)]))] sz (fun (u : Unit) => [(cm 0, .inr (5, [.int (if okI 3 x = true then 0 else 1), .int (nI pl), .ref (cm 1), .ref (cm 2), .ref (cm 3), .int (nI dy), .int (nI n), .ref (cm 4), .ref (cm 5), .ref (cm 6), .ref (cm 7), .ref (cm 8), .ref (cm 9), .ref (cm 10), .ref (cm 11), .ref (cm 12), .ref (cm 13), .ref (cm 14), .ref (cm 15), .int (nI sn), .ref (cm 16)]))])) (va_A [(cm 0, .inr (5, [.int th, .int (nI pl), .ref (cm 1), .ref (cm 2), .ref (cm 3), .int (nI dy), .int (nI n), .ref (cm 4), .ref (cm 5), .ref (cm 6), .ref (cm 7), .ref (cm 8), .ref (cm 9), .ref (cm 10), .ref (cm 11), .ref (cm 12), .ref (cm 13), .ref (cm 14), .ref (cm 15), .int (nI sn), .ref (cm 16)]))] sz)) 0 0 (va_A [(cm 0, .inr (5, [.int th, .int (nI pl), .ref (cm 1), .ref (cm 2), .ref (cm 3), .int (nI dy), .int (nI n), .ref (cm 4), .ref (cm 5), .ref (cm 6), .ref (cm 7), .ref (cm 8), .ref (cm 9), .ref (cm 10), .ref (cm 11), .ref (cm 12), .ref (cm 13), .ref (cm 14), .ref (cm 15), .int (nI sn), .ref (cm 16)]))] sz) := by
  refine z_open_l (cc := cX4_wasted) (maxL := 2) (own := RX4) (by decide) rfl rfl (Nat.le_of_ble_eq_true rfl) ?_
  intro p e s m args below meth c Q h hnm fin
  generalize hAe : va_A [(cm 0, .inr (5, [.int th, .int (nI pl), .ref (cm 1), .ref (cm 2), .ref (cm 3), .int (nI dy), .int (nI n), .ref (cm 4), .ref (cm 5), .ref (cm 6), .ref (cm 7), .ref (cm 8), .ref (cm 9), .ref (cm 10), .ref (cm 11), .ref (cm 12), .ref (cm 13), .ref (cm 14), .ref (cm 15), .int (nI sn), .ref (cm 16)]))] s.heap.size = A at h fin ⊢
  refine z_lve (lv' := [(0, .ref (cm 0)), (1, .int x)]) rfl ?_
  refine z_aload_n h dX4_wasted_0 rfl 0 rfl ?_
  refine z_iload_n h dX4_wasted_1 rfl 1 rfl ?_
  refine z_Si h (b := 0) (C := "") (As := [.int x]) (st := [.ref (cm 0)]) (fun sz => m_X4_isKind l g x  sz) (va_cwS 1 h.ts gX4_wasted_X4_isKind rfl rfl rfl (by decide +kernel) ⟨Nat.le_of_ble_eq_true rfl, Nat.le_of_ble_eq_true rfl⟩) rfl [] [] rfl rfl rfl rfl rfl (Nat.le_of_ble_eq_true rfl) ⟨(Nat.le_of_ble_eq_true rfl), (Nat.le_of_ble_eq_true rfl)⟩ (fun _ => (Nat.le_of_ble_eq_true rfl)) (wN := fun u => [(cm 0, .inr (5, [.int th, .int (nI pl), .ref (cm 1), .ref (cm 2), .ref (cm 3), .int (nI dy), .int (nI n), .ref (cm 4), .ref (cm 5), .ref (cm 6), .ref (cm 7), .ref (cm 8), .ref (cm 9), .ref (cm 10), .ref (cm 11), .ref (cm 12), .ref (cm 13), .ref (cm 14), .ref (cm 15), .int (nI sn), .ref (cm 16)]))]) (fun _ => rfl) dX4_wasted_2 (fun r_2 u_2 h_2 => ?_)
  refine z_if_eq h (tgt := 12) dX4_wasted_5 (by decide) (fun c_5 => ?_) (fun c_5 => ?_)
  · have fx : okI 3 x = false := b01_0 h_2 c_5
    refine z_iconst h (v := 1) dX4_wasted_12 (by decide) ?_
    refine z_put h in_X4_wasted_X4 0 tyX4 tyX4_ok nmX4 rfl rfl 0 (by decide) lk_X4_wasted_f64 rfl rfl rfl (Nat.le_of_ble_eq_true rfl) dX4_wasted_13 (wW' := [(cm 0, .inr (5, [.int 1, .int (nI pl), .ref (cm 1), .ref (cm 2), .ref (cm 3), .int (nI dy), .int (nI n), .ref (cm 4), .ref (cm 5), .ref (cm 6), .ref (cm 7), .ref (cm 8), .ref (cm 9), .ref (cm 10), .ref (cm 11), .ref (cm 12), .ref (cm 13), .ref (cm 14), .ref (cm 15), .int (nI sn), .ref (cm 16)]))]) rfl ?_
    refine z_aload_n h dX4_wasted_16 rfl 0 rfl ?_
    refine z_get h in_X4_wasted_X4 0 rfl rfl 0 (by decide) lk_X4_wasted_f64 rfl dX4_wasted_17 ?_
    refine z_if_ne h (tgt := 32) dX4_wasted_20 (by decide) (fun c_20 => ?_) (fun c_20 => absurd c_20 (by decide))
    have hk := fx
    refine z_lconst h (v := 0) dX4_wasted_32 (by decide) ?_
    exact fin _ _ _ () _ _ _ _ dX4_wasted_33 (by first | exact fun _ => by rw [ckd] | exact fun q => absurd (hk.symm.trans q) (by decide)) (by rw [hk]; rfl) (Nat.le_of_ble_eq_true rfl) (Nat.le_of_ble_eq_true rfl)
  · have hx : okI 3 x = true := b01_1 h_2 c_5
    refine z_iconst h (v := 0) dX4_wasted_8 (by decide) ?_
    refine z_goto h (tgt := 13) dX4_wasted_9 (by decide) ?_
    refine z_put h in_X4_wasted_X4 0 tyX4 tyX4_ok nmX4 rfl rfl 0 (by decide) lk_X4_wasted_f64 rfl rfl rfl (Nat.le_of_ble_eq_true rfl) dX4_wasted_13 (wW' := [(cm 0, .inr (5, [.int 0, .int (nI pl), .ref (cm 1), .ref (cm 2), .ref (cm 3), .int (nI dy), .int (nI n), .ref (cm 4), .ref (cm 5), .ref (cm 6), .ref (cm 7), .ref (cm 8), .ref (cm 9), .ref (cm 10), .ref (cm 11), .ref (cm 12), .ref (cm 13), .ref (cm 14), .ref (cm 15), .int (nI sn), .ref (cm 16)]))]) rfl ?_
    refine z_aload_n h dX4_wasted_16 rfl 0 rfl ?_
    refine z_get h in_X4_wasted_X4 0 rfl rfl 0 (by decide) lk_X4_wasted_f64 rfl dX4_wasted_17 ?_
    refine z_if_ne h (tgt := 32) dX4_wasted_20 (by decide) (fun c_20 => absurd c_20 (by decide)) (fun c_20 => ?_)
    have hk := hx
    obtain ⟨kd, hkd, rfl⟩ := okI_of hx (by omega)
    have ckd : (nI kd).toNatClampNeg = kd := nI_clamp (by omega)
    refine z_aload_n h dX4_wasted_23 rfl 0 rfl ?_
    refine z_get h in_X4_wasted_X4 0 rfl rfl 18 (by decide) lk_X4_wasted_f58 rfl dX4_wasted_24 ?_
    refine z_iload_n h dX4_wasted_27 rfl 1 rfl ?_
    refine z_lald h 1 rfl (vp_in_nI (by omega) (by omega)) dX4_wasted_28 (v := wf kd) (by rw [nI_clamp (by omega)]) ?_
    refine z_goto h (tgt := 33) dX4_wasted_29 (by decide) ?_
    exact fin _ _ _ () _ _ _ _ dX4_wasted_33 (by first | exact fun _ => by rw [ckd] | exact fun q => absurd (hk.symm.trans q) (by decide)) (by rw [hk]; rfl) (Nat.le_of_ble_eq_true rfl) (Nat.le_of_ble_eq_true rfl)
abbrev rmX4_setTip : Room := { frames := 2, cells := 0, slots := 0, locals := 43 }
set_option maxHeartbeats 4000000 in
set_option maxRecDepth 100000 in
theorem m_X4_setTip (l : Launch) (g : Gx) (cm : Nat → Nat) (th : Int32) (pl : Nat) (dy : Nat) (n : Nat) (sn : Nat) (ft : Nat → Int32) (x : Int32) (k : Int32) (b : Int32) (hpl : pl ≤ 10) (sz : Nat) : Met l yX4_setTip wsX4_setTip rmX4_setTip (PZ g [.ref (cm 0), .int x, .int k, .int b] sz [(cm 0, .inr (5, [.int th, .int (nI pl), .ref (cm 1), .ref (cm 2), .ref (cm 3), .int (nI dy), .int (nI n), .ref (cm 4), .ref (cm 5), .ref (cm 6), .ref (cm 7), .ref (cm 8), .ref (cm 9), .ref (cm 10), .ref (cm 11), .ref (cm 12), .ref (cm 13), .ref (cm 14), .ref (cm 15), .int (nI sn), .ref (cm 16)])), (cm 2, .inl (g.2.1, 10, .inl ft))] []) (va_Qi (fun (r : Int32) (_ : Unit) => kSetTip pl ft x k b = 0 → r = hasT (ft x.toNatClampNeg) k) (BZ g [(cm 0, .inr (5, [.int th, .int (nI pl), .ref (cm 1), .ref (cm 2), .ref (cm 3), .int (nI dy), .int (nI n), .ref (cm 4), .ref (cm 5), .ref (cm 6), .ref (cm 7), .ref (cm 8), .ref (cm 9), .ref (cm 10), .ref (cm 11), .ref (cm 12), .ref (cm 13), .ref (cm 14), .ref (cm 15), .int (nI sn), .ref (cm 16)])), (cm 2, .inl (g.2.1, 10, .inl ft))] sz (fun (u : Unit) => [(cm 0, .inr (5, [.int (kSetTip pl ft x k b), .int (nI pl), .ref (cm 1), .ref (cm 2), .ref (cm 3), .int (nI dy), .int (nI n), .ref (cm 4), .ref (cm 5), .ref (cm 6), .ref (cm 7), .ref (cm 8), .ref (cm 9), .ref (cm 10), .ref (cm 11), .ref (cm 12), .ref (cm 13), .ref (cm 14), .ref (cm 15), .int (nI sn), .ref (cm 16)])), (cm 2, .inl (g.2.1, 10, .inl (if kSetTip pl ft x k b = 0 then upd ft x.toNatClampNeg (putT (ft x.toNatClampNeg) k b) else ft)))])) (va_A [(cm 0, .inr (5, [.int th, .int (nI pl), .ref (cm 1), .ref (cm 2), .ref (cm 3), .int (nI dy), .int (nI n), .ref (cm 4), .ref (cm 5), .ref (cm 6), .ref (cm 7), .ref (cm 8), .ref (cm 9), .ref (cm 10), .ref (cm 11), .ref (cm 12), .ref (cm 13), .ref (cm 14), .ref (cm 15), .int (nI sn), .ref (cm 16)])), (cm 2, .inl (g.2.1, 10, .inl ft))] sz)) 0 0 (va_A [(cm 0, .inr (5, [.int th, .int (nI pl), .ref (cm 1), .ref (cm 2), .ref (cm 3), .int (nI dy), .int (nI n), .ref (cm 4), .ref (cm 5), .ref (cm 6), .ref (cm 7), .ref (cm 8), .ref (cm 9), .ref (cm 10), .ref (cm 11), .ref (cm 12), .ref (cm 13), .ref (cm 14), .ref (cm 15), .int (nI sn), .ref (cm 16)])), (cm 2, .inl (g.2.1, 10, .inl ft))] sz) := by
  refine z_open_i (cc := cX4_setTip) (maxL := 7) (ret := .boolean) (own := RX4) (by decide) rfl rfl (Nat.le_of_ble_eq_true rfl) ?_
  intro p e s m args below meth c Q h hnm fin
  generalize hAe : va_A [(cm 0, .inr (5, [.int th, .int (nI pl), .ref (cm 1), .ref (cm 2), .ref (cm 3), .int (nI dy), .int (nI n), .ref (cm 4), .ref (cm 5), .ref (cm 6), .ref (cm 7), .ref (cm 8), .ref (cm 9), .ref (cm 10), .ref (cm 11), .ref (cm 12), .ref (cm 13), .ref (cm 14), .ref (cm 15), .int (nI sn), .ref (cm 16)])), (cm 2, .inl (g.2.1, 10, .inl ft))] s.heap.size = A at h fin ⊢
  refine z_lve (lv' := [(0, .ref (cm 0)), (1, .int x), (2, .int k), (3, .int b)]) rfl ?_
  refine z_aload_n h dX4_setTip_0 rfl 0 rfl ?_
  refine z_aload_n h dX4_setTip_1 rfl 0 rfl ?_
  refine z_iload_n h dX4_setTip_2 rfl 1 rfl ?_
  refine z_Vi h (As := [.int x]) (st := [.ref (cm 0)]) (fun sz => m_X4_isPlace l g cm th pl dy n sn x (by omega) sz) (cwV 1 h.ts gX4_setTip_X4_isPlace rfl rfl rfl (by decide +kernel) ⟨Nat.le_of_ble_eq_true rfl, Nat.le_of_ble_eq_true rfl⟩) rfl [] [0] rfl rfl rfl rfl 0 rfl rfl rfl rfl (Nat.le_of_ble_eq_true rfl) ⟨(Nat.le_of_ble_eq_true rfl), (Nat.le_of_ble_eq_true rfl)⟩ (fun _ => (Nat.le_of_ble_eq_true rfl)) (wN := fun u => [(cm 0, .inr (5, [.int th, .int (nI pl), .ref (cm 1), .ref (cm 2), .ref (cm 3), .int (nI dy), .int (nI n), .ref (cm 4), .ref (cm 5), .ref (cm 6), .ref (cm 7), .ref (cm 8), .ref (cm 9), .ref (cm 10), .ref (cm 11), .ref (cm 12), .ref (cm 13), .ref (cm 14), .ref (cm 15), .int (nI sn), .ref (cm 16)])), (cm 2, .inl (g.2.1, 10, .inl ft))]) (fun _ => rfl) dX4_setTip_3 (fun r_3 u_3 h_3 => ?_)
  refine z_if_eq h (tgt := 20) dX4_setTip_6 (by decide) (fun c_6 => ?_) (fun c_6 => ?_)
  · have fx : okI pl x = false := b01_0 h_3 c_6
    refine z_iconst h (v := 1) dX4_setTip_20 (by decide) ?_
    refine z_put h in_X4_setTip_X4 0 tyX4 tyX4_ok nmX4 rfl rfl 0 (by decide) lk_X4_setTip_f64 rfl rfl rfl (Nat.le_of_ble_eq_true rfl) dX4_setTip_21 (wW' := [(cm 0, .inr (5, [.int 1, .int (nI pl), .ref (cm 1), .ref (cm 2), .ref (cm 3), .int (nI dy), .int (nI n), .ref (cm 4), .ref (cm 5), .ref (cm 6), .ref (cm 7), .ref (cm 8), .ref (cm 9), .ref (cm 10), .ref (cm 11), .ref (cm 12), .ref (cm 13), .ref (cm 14), .ref (cm 15), .int (nI sn), .ref (cm 16)])), (cm 2, .inl (g.2.1, 10, .inl ft))]) rfl ?_
    refine z_aload_n h dX4_setTip_24 rfl 0 rfl ?_
    refine z_get h in_X4_setTip_X4 0 rfl rfl 0 (by decide) lk_X4_setTip_f64 rfl dX4_setTip_25 ?_
    refine z_if_eq h (tgt := 33) dX4_setTip_28 (by decide) (fun c_28 => absurd c_28 (by decide)) (fun c_28 => ?_)
    refine z_iconst h (v := 0) dX4_setTip_31 (by decide) ?_
    have hk : kSetTip pl ft x k b = 1 := by first | exact kst_1 fx | exact kst_1' fk
    exact fin _ _ _ () _ _ _ _ dX4_setTip_32 rfl (fun q => absurd (hk.symm.trans q) (by decide)) (by rw [hk]; rfl) (Nat.le_of_ble_eq_true rfl) (Nat.le_of_ble_eq_true rfl)
  · have hx : okI pl x = true := b01_1 h_3 c_6
    refine z_iload_n h dX4_setTip_9 rfl 2 rfl ?_
    refine z_Si h (b := 0) (C := "") (As := [.int k]) (st := [.ref (cm 0)]) (fun sz => m_X4_isKind l g k  sz) (va_cwS 1 h.ts gX4_setTip_X4_isKind rfl rfl rfl (by decide +kernel) ⟨Nat.le_of_ble_eq_true rfl, Nat.le_of_ble_eq_true rfl⟩) rfl [] [] rfl rfl rfl rfl rfl (Nat.le_of_ble_eq_true rfl) ⟨(Nat.le_of_ble_eq_true rfl), (Nat.le_of_ble_eq_true rfl)⟩ (fun _ => (Nat.le_of_ble_eq_true rfl)) (wN := fun u => [(cm 0, .inr (5, [.int th, .int (nI pl), .ref (cm 1), .ref (cm 2), .ref (cm 3), .int (nI dy), .int (nI n), .ref (cm 4), .ref (cm 5), .ref (cm 6), .ref (cm 7), .ref (cm 8), .ref (cm 9), .ref (cm 10), .ref (cm 11), .ref (cm 12), .ref (cm 13), .ref (cm 14), .ref (cm 15), .int (nI sn), .ref (cm 16)])), (cm 2, .inl (g.2.1, 10, .inl ft))]) (fun _ => rfl) dX4_setTip_10 (fun r_10 u_10 h_10 => ?_)
    refine z_if_eq h (tgt := 20) dX4_setTip_13 (by decide) (fun c_13 => ?_) (fun c_13 => ?_)
    · have fk : okI 3 k = false := b01_0 h_10 c_13
      refine z_iconst h (v := 1) dX4_setTip_20 (by decide) ?_
      refine z_put h in_X4_setTip_X4 0 tyX4 tyX4_ok nmX4 rfl rfl 0 (by decide) lk_X4_setTip_f64 rfl rfl rfl (Nat.le_of_ble_eq_true rfl) dX4_setTip_21 (wW' := [(cm 0, .inr (5, [.int 1, .int (nI pl), .ref (cm 1), .ref (cm 2), .ref (cm 3), .int (nI dy), .int (nI n), .ref (cm 4), .ref (cm 5), .ref (cm 6), .ref (cm 7), .ref (cm 8), .ref (cm 9), .ref (cm 10), .ref (cm 11), .ref (cm 12), .ref (cm 13), .ref (cm 14), .ref (cm 15), .int (nI sn), .ref (cm 16)])), (cm 2, .inl (g.2.1, 10, .inl ft))]) rfl ?_
      refine z_aload_n h dX4_setTip_24 rfl 0 rfl ?_
      refine z_get h in_X4_setTip_X4 0 rfl rfl 0 (by decide) lk_X4_setTip_f64 rfl dX4_setTip_25 ?_
      refine z_if_eq h (tgt := 33) dX4_setTip_28 (by decide) (fun c_28 => absurd c_28 (by decide)) (fun c_28 => ?_)
      refine z_iconst h (v := 0) dX4_setTip_31 (by decide) ?_
      have hk : kSetTip pl ft x k b = 1 := by first | exact kst_1 fx | exact kst_1' fk
      exact fin _ _ _ () _ _ _ _ dX4_setTip_32 rfl (fun q => absurd (hk.symm.trans q) (by decide)) (by rw [hk]; rfl) (Nat.le_of_ble_eq_true rfl) (Nat.le_of_ble_eq_true rfl)
    · have hk3 : okI 3 k = true := b01_1 h_10 c_13
      refine z_iconst h (v := 0) dX4_setTip_16 (by decide) ?_
      refine z_goto h (tgt := 21) dX4_setTip_17 (by decide) ?_
      refine z_put h in_X4_setTip_X4 0 tyX4 tyX4_ok nmX4 rfl rfl 0 (by decide) lk_X4_setTip_f64 rfl rfl rfl (Nat.le_of_ble_eq_true rfl) dX4_setTip_21 (wW' := [(cm 0, .inr (5, [.int 0, .int (nI pl), .ref (cm 1), .ref (cm 2), .ref (cm 3), .int (nI dy), .int (nI n), .ref (cm 4), .ref (cm 5), .ref (cm 6), .ref (cm 7), .ref (cm 8), .ref (cm 9), .ref (cm 10), .ref (cm 11), .ref (cm 12), .ref (cm 13), .ref (cm 14), .ref (cm 15), .int (nI sn), .ref (cm 16)])), (cm 2, .inl (g.2.1, 10, .inl ft))]) rfl ?_
      refine z_aload_n h dX4_setTip_24 rfl 0 rfl ?_
      refine z_get h in_X4_setTip_X4 0 rfl rfl 0 (by decide) lk_X4_setTip_f64 rfl dX4_setTip_25 ?_
      refine z_if_eq h (tgt := 33) dX4_setTip_28 (by decide) (fun c_28 => ?_) (fun c_28 => absurd c_28 (by decide))
      have hx1 := hx
      obtain ⟨j, hj, rfl⟩ := okI_of hx (by omega)
      have cj : (nI j).toNatClampNeg = j := nI_clamp (by omega)
      refine z_aload_n h dX4_setTip_33 rfl 0 rfl ?_
      refine z_get h in_X4_setTip_X4 0 rfl rfl 3 (by decide) lk_X4_setTip_f17 rfl dX4_setTip_34 ?_
      refine z_iload_n h dX4_setTip_37 rfl 1 rfl ?_
      refine z_iald h 1 rfl (vp_in_nI (by omega) (by omega)) dX4_setTip_38 (v := ft j) (by rw [nI_clamp (by omega)]) ?_
      refine z_iload_n h dX4_setTip_39 rfl 2 rfl ?_
      refine z_Si h (b := 0) (C := "") (As := [.int (ft j), .int k]) (st := []) (fun sz => m_X4_has l g (ft j) k  sz) (va_cwS 2 h.ts gX4_setTip_X4_has rfl rfl rfl (by decide +kernel) ⟨Nat.le_of_ble_eq_true rfl, Nat.le_of_ble_eq_true rfl⟩) rfl [] [] rfl rfl rfl rfl rfl (Nat.le_of_ble_eq_true rfl) ⟨(Nat.le_of_ble_eq_true rfl), (Nat.le_of_ble_eq_true rfl)⟩ (fun _ => (Nat.le_of_ble_eq_true rfl)) (wN := fun u => [(cm 0, .inr (5, [.int 0, .int (nI pl), .ref (cm 1), .ref (cm 2), .ref (cm 3), .int (nI dy), .int (nI n), .ref (cm 4), .ref (cm 5), .ref (cm 6), .ref (cm 7), .ref (cm 8), .ref (cm 9), .ref (cm 10), .ref (cm 11), .ref (cm 12), .ref (cm 13), .ref (cm 14), .ref (cm 15), .int (nI sn), .ref (cm 16)])), (cm 2, .inl (g.2.1, 10, .inl ft))]) (fun _ => rfl) dX4_setTip_40 (fun r_40 u_40 h_40 => ?_)
      refine z_topi (y := hasT (ft j) k) h_40 ?_
      refine z_istore h dX4_setTip_43 (by decide) (lv' := [(0, .ref (cm 0)), (1, .int (nI j)), (2, .int k), (3, .int b), (4, .int (hasT (ft j) k))]) [1, 2, 3, 4, 0] rfl ?_
      refine z_iconst h (v := 0) dX4_setTip_45 (by decide) ?_
      refine z_istore h dX4_setTip_46 (by decide) (lv' := [(0, .ref (cm 0)), (1, .int (nI j)), (2, .int k), (3, .int b), (4, .int (hasT (ft j) k)), (5, .int 0)]) [1, 2, 3, 4, 5, 0] rfl ?_
      refine z_iconst h (v := 0) dX4_setTip_48 (by decide) ?_
      refine z_istore h dX4_setTip_49 (by decide) (lv' := [(0, .ref (cm 0)), (1, .int (nI j)), (2, .int k), (3, .int b), (4, .int (hasT (ft j) k)), (5, .int 0), (6, .int 0)]) [1, 2, 3, 4, 5, 6, 0] rfl ?_
      have L51 : ∀ (L51n i : Nat) (co : Int32), i ≤ pl → pl < L51n + i → co = cntO ft k j i → Z p l e rmX4_setTip s m args below meth c Q A g 7 51 [(0, .ref (cm 0)), (1, .int (nI j)), (2, .int k), (3, .int b), (4, .int (hasT (ft j) k)), (5, .int co), (6, .int (nI i))] [] [(cm 0, .inr (5, [.int 0, .int (nI pl), .ref (cm 1), .ref (cm 2), .ref (cm 3), .int (nI dy), .int (nI n), .ref (cm 4), .ref (cm 5), .ref (cm 6), .ref (cm 7), .ref (cm 8), .ref (cm 9), .ref (cm 10), .ref (cm 11), .ref (cm 12), .ref (cm 13), .ref (cm 14), .ref (cm 15), .int (nI sn), .ref (cm 16)])), (cm 2, .inl (g.2.1, 10, .inl ft))] [] 0 0 := by
        intro L51n
        induction L51n with
        | zero => intro i co hi hL51 e1; exact absurd hL51 (by omega)
        | succ L51n ihL51 =>
          intro i co hi hL51 e1
          refine z_iload h dX4_setTip_51 6 rfl ?_
          refine z_aload_n h dX4_setTip_53 rfl 0 rfl ?_
          refine z_get h in_X4_setTip_X4 0 rfl rfl 1 (by decide) lk_X4_setTip_f7 rfl dX4_setTip_54 ?_
          refine z_icmp_ge h (tgt := 96) dX4_setTip_57 (by decide) (fun c_57 => ?_) (fun c_57 => ?_)
          · have hip : i = pl := by have := ge_t (a := i) (b := pl) c_57 (by omega) (by omega); omega
            refine z_iload h dX4_setTip_96 4 rfl ?_
            refine z_if_eq h (tgt := 115) dX4_setTip_98 (by decide) (fun c_98 => ?_) (fun c_98 => ?_)
            · refine z_aload_n h dX4_setTip_115 rfl 0 rfl ?_
              refine z_get h in_X4_setTip_X4 0 rfl rfl 0 (by decide) lk_X4_setTip_f64 rfl dX4_setTip_116 ?_
              refine z_if_eq h (tgt := 124) dX4_setTip_119 (by decide) (fun c_119 => ?_) (fun c_119 => absurd c_119 (by decide))
              have hk : kSetTip pl ft (nI j) k b = 0 := kst_0 hx1 hk3 (by rw [cj]; first | exact fun q => q.1 c_98 | exact fun q => c_102 q.2.1 | exact fun q => c_107 (by rw [e1, hip]; exact (cnt_iff ft k j pl c_98 hj).mp q.2.2))
              refine z_aload_n h dX4_setTip_124 rfl 0 rfl ?_
              refine z_get h in_X4_setTip_X4 0 rfl rfl 3 (by decide) lk_X4_setTip_f17 rfl dX4_setTip_125 ?_
              refine z_iload_n h dX4_setTip_128 rfl 1 rfl ?_
              refine z_iload_n h dX4_setTip_129 rfl 3 rfl ?_
              refine z_if_eq h (tgt := 146) dX4_setTip_130 (by decide) (fun c_130 => ?_) (fun c_130 => ?_)
              · refine z_aload_n h dX4_setTip_146 rfl 0 rfl ?_
                refine z_get h in_X4_setTip_X4 0 rfl rfl 3 (by decide) lk_X4_setTip_f17 rfl dX4_setTip_147 ?_
                refine z_iload_n h dX4_setTip_150 rfl 1 rfl ?_
                refine z_iald h 1 rfl (vp_in_nI (by omega) (by omega)) dX4_setTip_151 (v := ft j) (by rw [nI_clamp (by omega)]) ?_
                refine z_iconst h (v := 1) dX4_setTip_152 (by decide) ?_
                refine z_iload_n h dX4_setTip_153 rfl 2 rfl ?_
                refine z_ishl h dX4_setTip_154 ?_
                refine z_iconst h (v := (-1)) dX4_setTip_155 (by decide) ?_
                refine z_ixor h dX4_setTip_156 ?_
                refine z_iand h dX4_setTip_157 ?_
                refine z_iast h (j := j) 1 rfl (vp_in_nI (by omega) (by omega)) (by rw [nI_clamp (by omega)]) dX4_setTip_158 (wW' := [(cm 0, .inr (5, [.int 0, .int (nI pl), .ref (cm 1), .ref (cm 2), .ref (cm 3), .int (nI dy), .int (nI n), .ref (cm 4), .ref (cm 5), .ref (cm 6), .ref (cm 7), .ref (cm 8), .ref (cm 9), .ref (cm 10), .ref (cm 11), .ref (cm 12), .ref (cm 13), .ref (cm 14), .ref (cm 15), .int (nI sn), .ref (cm 16)])), (cm 2, .inl (g.2.1, 10, .inl (upd ft j ((ft j) &&& ((1 <<< (k &&& 31)) ^^^ (-1))))))]) rfl ?_
                refine z_iload h dX4_setTip_159 4 rfl ?_
                exact fin _ _ _ () _ _ _ _ dX4_setTip_161 (nar_has _ _) (fun _ => by rw [cj]) (by rw [hk, cj]; first | (rw [putT, if_pos c_130]; rfl) | (rw [putT, if_neg c_130]; rfl)) (Nat.le_of_ble_eq_true rfl) (Nat.le_of_ble_eq_true rfl)
              · refine z_aload_n h dX4_setTip_133 rfl 0 rfl ?_
                refine z_get h in_X4_setTip_X4 0 rfl rfl 3 (by decide) lk_X4_setTip_f17 rfl dX4_setTip_134 ?_
                refine z_iload_n h dX4_setTip_137 rfl 1 rfl ?_
                refine z_iald h 1 rfl (vp_in_nI (by omega) (by omega)) dX4_setTip_138 (v := ft j) (by rw [nI_clamp (by omega)]) ?_
                refine z_iconst h (v := 1) dX4_setTip_139 (by decide) ?_
                refine z_iload_n h dX4_setTip_140 rfl 2 rfl ?_
                refine z_ishl h dX4_setTip_141 ?_
                refine z_ior h dX4_setTip_142 ?_
                refine z_goto h (tgt := 158) dX4_setTip_143 (by decide) ?_
                refine z_iast h (j := j) 1 rfl (vp_in_nI (by omega) (by omega)) (by rw [nI_clamp (by omega)]) dX4_setTip_158 (wW' := [(cm 0, .inr (5, [.int 0, .int (nI pl), .ref (cm 1), .ref (cm 2), .ref (cm 3), .int (nI dy), .int (nI n), .ref (cm 4), .ref (cm 5), .ref (cm 6), .ref (cm 7), .ref (cm 8), .ref (cm 9), .ref (cm 10), .ref (cm 11), .ref (cm 12), .ref (cm 13), .ref (cm 14), .ref (cm 15), .int (nI sn), .ref (cm 16)])), (cm 2, .inl (g.2.1, 10, .inl (upd ft j ((ft j) ||| (1 <<< (k &&& 31))))))]) rfl ?_
                refine z_iload h dX4_setTip_159 4 rfl ?_
                exact fin _ _ _ () _ _ _ _ dX4_setTip_161 (nar_has _ _) (fun _ => by rw [cj]) (by rw [hk, cj]; first | (rw [putT, if_pos c_130]; rfl) | (rw [putT, if_neg c_130]; rfl)) (Nat.le_of_ble_eq_true rfl) (Nat.le_of_ble_eq_true rfl)
            · refine z_iload_n h dX4_setTip_101 rfl 3 rfl ?_
              refine z_if_ne h (tgt := 115) dX4_setTip_102 (by decide) (fun c_102 => ?_) (fun c_102 => ?_)
              · refine z_aload_n h dX4_setTip_115 rfl 0 rfl ?_
                refine z_get h in_X4_setTip_X4 0 rfl rfl 0 (by decide) lk_X4_setTip_f64 rfl dX4_setTip_116 ?_
                refine z_if_eq h (tgt := 124) dX4_setTip_119 (by decide) (fun c_119 => ?_) (fun c_119 => absurd c_119 (by decide))
                have hk : kSetTip pl ft (nI j) k b = 0 := kst_0 hx1 hk3 (by rw [cj]; first | exact fun q => q.1 c_98 | exact fun q => c_102 q.2.1 | exact fun q => c_107 (by rw [e1, hip]; exact (cnt_iff ft k j pl c_98 hj).mp q.2.2))
                refine z_aload_n h dX4_setTip_124 rfl 0 rfl ?_
                refine z_get h in_X4_setTip_X4 0 rfl rfl 3 (by decide) lk_X4_setTip_f17 rfl dX4_setTip_125 ?_
                refine z_iload_n h dX4_setTip_128 rfl 1 rfl ?_
                refine z_iload_n h dX4_setTip_129 rfl 3 rfl ?_
                refine z_if_eq h (tgt := 146) dX4_setTip_130 (by decide) (fun c_130 => ?_) (fun c_130 => ?_)
                · refine z_aload_n h dX4_setTip_146 rfl 0 rfl ?_
                  refine z_get h in_X4_setTip_X4 0 rfl rfl 3 (by decide) lk_X4_setTip_f17 rfl dX4_setTip_147 ?_
                  refine z_iload_n h dX4_setTip_150 rfl 1 rfl ?_
                  refine z_iald h 1 rfl (vp_in_nI (by omega) (by omega)) dX4_setTip_151 (v := ft j) (by rw [nI_clamp (by omega)]) ?_
                  refine z_iconst h (v := 1) dX4_setTip_152 (by decide) ?_
                  refine z_iload_n h dX4_setTip_153 rfl 2 rfl ?_
                  refine z_ishl h dX4_setTip_154 ?_
                  refine z_iconst h (v := (-1)) dX4_setTip_155 (by decide) ?_
                  refine z_ixor h dX4_setTip_156 ?_
                  refine z_iand h dX4_setTip_157 ?_
                  refine z_iast h (j := j) 1 rfl (vp_in_nI (by omega) (by omega)) (by rw [nI_clamp (by omega)]) dX4_setTip_158 (wW' := [(cm 0, .inr (5, [.int 0, .int (nI pl), .ref (cm 1), .ref (cm 2), .ref (cm 3), .int (nI dy), .int (nI n), .ref (cm 4), .ref (cm 5), .ref (cm 6), .ref (cm 7), .ref (cm 8), .ref (cm 9), .ref (cm 10), .ref (cm 11), .ref (cm 12), .ref (cm 13), .ref (cm 14), .ref (cm 15), .int (nI sn), .ref (cm 16)])), (cm 2, .inl (g.2.1, 10, .inl (upd ft j ((ft j) &&& ((1 <<< (k &&& 31)) ^^^ (-1))))))]) rfl ?_
                  refine z_iload h dX4_setTip_159 4 rfl ?_
                  exact fin _ _ _ () _ _ _ _ dX4_setTip_161 (nar_has _ _) (fun _ => by rw [cj]) (by rw [hk, cj]; first | (rw [putT, if_pos c_130]; rfl) | (rw [putT, if_neg c_130]; rfl)) (Nat.le_of_ble_eq_true rfl) (Nat.le_of_ble_eq_true rfl)
                · refine z_aload_n h dX4_setTip_133 rfl 0 rfl ?_
                  refine z_get h in_X4_setTip_X4 0 rfl rfl 3 (by decide) lk_X4_setTip_f17 rfl dX4_setTip_134 ?_
                  refine z_iload_n h dX4_setTip_137 rfl 1 rfl ?_
                  refine z_iald h 1 rfl (vp_in_nI (by omega) (by omega)) dX4_setTip_138 (v := ft j) (by rw [nI_clamp (by omega)]) ?_
                  refine z_iconst h (v := 1) dX4_setTip_139 (by decide) ?_
                  refine z_iload_n h dX4_setTip_140 rfl 2 rfl ?_
                  refine z_ishl h dX4_setTip_141 ?_
                  refine z_ior h dX4_setTip_142 ?_
                  refine z_goto h (tgt := 158) dX4_setTip_143 (by decide) ?_
                  refine z_iast h (j := j) 1 rfl (vp_in_nI (by omega) (by omega)) (by rw [nI_clamp (by omega)]) dX4_setTip_158 (wW' := [(cm 0, .inr (5, [.int 0, .int (nI pl), .ref (cm 1), .ref (cm 2), .ref (cm 3), .int (nI dy), .int (nI n), .ref (cm 4), .ref (cm 5), .ref (cm 6), .ref (cm 7), .ref (cm 8), .ref (cm 9), .ref (cm 10), .ref (cm 11), .ref (cm 12), .ref (cm 13), .ref (cm 14), .ref (cm 15), .int (nI sn), .ref (cm 16)])), (cm 2, .inl (g.2.1, 10, .inl (upd ft j ((ft j) ||| (1 <<< (k &&& 31))))))]) rfl ?_
                  refine z_iload h dX4_setTip_159 4 rfl ?_
                  exact fin _ _ _ () _ _ _ _ dX4_setTip_161 (nar_has _ _) (fun _ => by rw [cj]) (by rw [hk, cj]; first | (rw [putT, if_pos c_130]; rfl) | (rw [putT, if_neg c_130]; rfl)) (Nat.le_of_ble_eq_true rfl) (Nat.le_of_ble_eq_true rfl)
              · refine z_iload h dX4_setTip_105 5 rfl ?_
                refine z_if_ne h (tgt := 115) dX4_setTip_107 (by decide) (fun c_107 => ?_) (fun c_107 => ?_)
                · refine z_aload_n h dX4_setTip_115 rfl 0 rfl ?_
                  refine z_get h in_X4_setTip_X4 0 rfl rfl 0 (by decide) lk_X4_setTip_f64 rfl dX4_setTip_116 ?_
                  refine z_if_eq h (tgt := 124) dX4_setTip_119 (by decide) (fun c_119 => ?_) (fun c_119 => absurd c_119 (by decide))
                  have hk : kSetTip pl ft (nI j) k b = 0 := kst_0 hx1 hk3 (by rw [cj]; first | exact fun q => q.1 c_98 | exact fun q => c_102 q.2.1 | exact fun q => c_107 (by rw [e1, hip]; exact (cnt_iff ft k j pl c_98 hj).mp q.2.2))
                  refine z_aload_n h dX4_setTip_124 rfl 0 rfl ?_
                  refine z_get h in_X4_setTip_X4 0 rfl rfl 3 (by decide) lk_X4_setTip_f17 rfl dX4_setTip_125 ?_
                  refine z_iload_n h dX4_setTip_128 rfl 1 rfl ?_
                  refine z_iload_n h dX4_setTip_129 rfl 3 rfl ?_
                  refine z_if_eq h (tgt := 146) dX4_setTip_130 (by decide) (fun c_130 => ?_) (fun c_130 => ?_)
                  · refine z_aload_n h dX4_setTip_146 rfl 0 rfl ?_
                    refine z_get h in_X4_setTip_X4 0 rfl rfl 3 (by decide) lk_X4_setTip_f17 rfl dX4_setTip_147 ?_
                    refine z_iload_n h dX4_setTip_150 rfl 1 rfl ?_
                    refine z_iald h 1 rfl (vp_in_nI (by omega) (by omega)) dX4_setTip_151 (v := ft j) (by rw [nI_clamp (by omega)]) ?_
                    refine z_iconst h (v := 1) dX4_setTip_152 (by decide) ?_
                    refine z_iload_n h dX4_setTip_153 rfl 2 rfl ?_
                    refine z_ishl h dX4_setTip_154 ?_
                    refine z_iconst h (v := (-1)) dX4_setTip_155 (by decide) ?_
                    refine z_ixor h dX4_setTip_156 ?_
                    refine z_iand h dX4_setTip_157 ?_
                    refine z_iast h (j := j) 1 rfl (vp_in_nI (by omega) (by omega)) (by rw [nI_clamp (by omega)]) dX4_setTip_158 (wW' := [(cm 0, .inr (5, [.int 0, .int (nI pl), .ref (cm 1), .ref (cm 2), .ref (cm 3), .int (nI dy), .int (nI n), .ref (cm 4), .ref (cm 5), .ref (cm 6), .ref (cm 7), .ref (cm 8), .ref (cm 9), .ref (cm 10), .ref (cm 11), .ref (cm 12), .ref (cm 13), .ref (cm 14), .ref (cm 15), .int (nI sn), .ref (cm 16)])), (cm 2, .inl (g.2.1, 10, .inl (upd ft j ((ft j) &&& ((1 <<< (k &&& 31)) ^^^ (-1))))))]) rfl ?_
                    refine z_iload h dX4_setTip_159 4 rfl ?_
                    exact fin _ _ _ () _ _ _ _ dX4_setTip_161 (nar_has _ _) (fun _ => by rw [cj]) (by rw [hk, cj]; first | (rw [putT, if_pos c_130]; rfl) | (rw [putT, if_neg c_130]; rfl)) (Nat.le_of_ble_eq_true rfl) (Nat.le_of_ble_eq_true rfl)
                  · refine z_aload_n h dX4_setTip_133 rfl 0 rfl ?_
                    refine z_get h in_X4_setTip_X4 0 rfl rfl 3 (by decide) lk_X4_setTip_f17 rfl dX4_setTip_134 ?_
                    refine z_iload_n h dX4_setTip_137 rfl 1 rfl ?_
                    refine z_iald h 1 rfl (vp_in_nI (by omega) (by omega)) dX4_setTip_138 (v := ft j) (by rw [nI_clamp (by omega)]) ?_
                    refine z_iconst h (v := 1) dX4_setTip_139 (by decide) ?_
                    refine z_iload_n h dX4_setTip_140 rfl 2 rfl ?_
                    refine z_ishl h dX4_setTip_141 ?_
                    refine z_ior h dX4_setTip_142 ?_
                    refine z_goto h (tgt := 158) dX4_setTip_143 (by decide) ?_
                    refine z_iast h (j := j) 1 rfl (vp_in_nI (by omega) (by omega)) (by rw [nI_clamp (by omega)]) dX4_setTip_158 (wW' := [(cm 0, .inr (5, [.int 0, .int (nI pl), .ref (cm 1), .ref (cm 2), .ref (cm 3), .int (nI dy), .int (nI n), .ref (cm 4), .ref (cm 5), .ref (cm 6), .ref (cm 7), .ref (cm 8), .ref (cm 9), .ref (cm 10), .ref (cm 11), .ref (cm 12), .ref (cm 13), .ref (cm 14), .ref (cm 15), .int (nI sn), .ref (cm 16)])), (cm 2, .inl (g.2.1, 10, .inl (upd ft j ((ft j) ||| (1 <<< (k &&& 31))))))]) rfl ?_
                    refine z_iload h dX4_setTip_159 4 rfl ?_
                    exact fin _ _ _ () _ _ _ _ dX4_setTip_161 (nar_has _ _) (fun _ => by rw [cj]) (by rw [hk, cj]; first | (rw [putT, if_pos c_130]; rfl) | (rw [putT, if_neg c_130]; rfl)) (Nat.le_of_ble_eq_true rfl) (Nat.le_of_ble_eq_true rfl)
                · have hk : kSetTip pl ft (nI j) k b = 2 := kst_2 hx1 hk3 (by rw [cj]; exact ⟨c_98, c_102, (cnt_iff ft k j pl c_98 hj).mpr (by rw [← hip, ← e1]; exact c_107)⟩)
                  refine z_aload_n h dX4_setTip_110 rfl 0 rfl ?_
                  refine z_iconst h (v := 2) dX4_setTip_111 (by decide) ?_
                  refine z_put h in_X4_setTip_X4 0 tyX4 tyX4_ok nmX4 rfl rfl 0 (by decide) lk_X4_setTip_f64 rfl rfl rfl (Nat.le_of_ble_eq_true rfl) dX4_setTip_112 (wW' := [(cm 0, .inr (5, [.int 2, .int (nI pl), .ref (cm 1), .ref (cm 2), .ref (cm 3), .int (nI dy), .int (nI n), .ref (cm 4), .ref (cm 5), .ref (cm 6), .ref (cm 7), .ref (cm 8), .ref (cm 9), .ref (cm 10), .ref (cm 11), .ref (cm 12), .ref (cm 13), .ref (cm 14), .ref (cm 15), .int (nI sn), .ref (cm 16)])), (cm 2, .inl (g.2.1, 10, .inl ft))]) rfl ?_
                  refine z_aload_n h dX4_setTip_115 rfl 0 rfl ?_
                  refine z_get h in_X4_setTip_X4 0 rfl rfl 0 (by decide) lk_X4_setTip_f64 rfl dX4_setTip_116 ?_
                  refine z_if_eq h (tgt := 124) dX4_setTip_119 (by decide) (fun c_119 => absurd c_119 (by decide)) (fun c_119 => ?_)
                  refine z_iconst h (v := 0) dX4_setTip_122 (by decide) ?_
                  exact fin _ _ _ () _ _ _ _ dX4_setTip_123 rfl (fun q => absurd (hk.symm.trans q) (by decide)) (by rw [hk]; rfl) (Nat.le_of_ble_eq_true rfl) (Nat.le_of_ble_eq_true rfl)
          · have hlt : i < pl := ge_f (a := i) (b := pl) c_57 (by omega) (by omega)
            refine z_iload h dX4_setTip_60 5 rfl ?_
            refine z_iload h dX4_setTip_62 6 rfl ?_
            refine z_iload_n h dX4_setTip_64 rfl 1 rfl ?_
            refine z_icmp_eq h (tgt := 86) dX4_setTip_65 (by decide) (fun c_65 => ?_) (fun c_65 => ?_)
            · have hij : i = j := nI_injj c_65 (by omega) (by omega)
              refine z_iconst h (v := 0) dX4_setTip_86 (by decide) ?_
              refine z_iadd h dX4_setTip_87 ?_
              refine z_istore h dX4_setTip_88 (by decide) (lv' := [(0, .ref (cm 0)), (1, .int (nI j)), (2, .int k), (3, .int b), (4, .int (hasT (ft j) k)), (5, .int (co + 0)), (6, .int (nI i))]) [1, 2, 3, 4, 5, 0, 6] rfl ?_
              refine z_iinc h (v := nI (i + 1)) dX4_setTip_90 (by decide) 6 rfl (by rw [show Int32.ofInt 1 = nI 1 from rfl, nI_add]) (lv' := [(0, .ref (cm 0)), (1, .int (nI j)), (2, .int k), (3, .int b), (4, .int (hasT (ft j) k)), (5, .int (co + 0)), (6, .int (nI (i + 1)))]) [1, 2, 3, 4, 5, 6, 0] rfl ?_
              refine z_goto h (tgt := 51) dX4_setTip_93 (by decide) ?_
              exact ihL51 (i + 1) (co + 0) (by omega) (by omega) (by rw [cntO, ← e1]; first | (rw [if_pos hij]) | (rw [if_neg hij]))
            · have hij : ¬ i = j := fun q => c_65 (by rw [q])
              refine z_aload_n h dX4_setTip_68 rfl 0 rfl ?_
              refine z_get h in_X4_setTip_X4 0 rfl rfl 3 (by decide) lk_X4_setTip_f17 rfl dX4_setTip_69 ?_
              refine z_iload h dX4_setTip_72 6 rfl ?_
              refine z_iald h 1 rfl (vp_in_nI (by omega) (by omega)) dX4_setTip_74 (v := ft i) (by rw [nI_clamp (by omega)]) ?_
              refine z_iload_n h dX4_setTip_75 rfl 2 rfl ?_
              refine z_Si h (b := 0) (C := "") (As := [.int (ft i), .int k]) (st := [.int co]) (fun sz => m_X4_has l g (ft i) k  sz) (va_cwS 2 h.ts gX4_setTip_X4_has rfl rfl rfl (by decide +kernel) ⟨Nat.le_of_ble_eq_true rfl, Nat.le_of_ble_eq_true rfl⟩) rfl [] [] rfl rfl rfl rfl rfl (Nat.le_of_ble_eq_true rfl) ⟨(Nat.le_of_ble_eq_true rfl), (Nat.le_of_ble_eq_true rfl)⟩ (fun _ => (Nat.le_of_ble_eq_true rfl)) (wN := fun u => [(cm 0, .inr (5, [.int 0, .int (nI pl), .ref (cm 1), .ref (cm 2), .ref (cm 3), .int (nI dy), .int (nI n), .ref (cm 4), .ref (cm 5), .ref (cm 6), .ref (cm 7), .ref (cm 8), .ref (cm 9), .ref (cm 10), .ref (cm 11), .ref (cm 12), .ref (cm 13), .ref (cm 14), .ref (cm 15), .int (nI sn), .ref (cm 16)])), (cm 2, .inl (g.2.1, 10, .inl ft))]) (fun _ => rfl) dX4_setTip_76 (fun r_76 u_76 h_76 => ?_)
              refine z_topi (y := hasT (ft i) k) h_76 ?_
              have K_79 : Z p l e rmX4_setTip s m args below meth c Q A g 7 87 [(0, .ref (cm 0)), (1, .int (nI j)), (2, .int k), (3, .int b), (4, .int (hasT (ft j) k)), (5, .int co), (6, .int (nI i))] [.int (if (hasT (ft i) k) = 0 then 0 else 1), .int co] [(cm 0, .inr (5, [.int 0, .int (nI pl), .ref (cm 1), .ref (cm 2), .ref (cm 3), .int (nI dy), .int (nI n), .ref (cm 4), .ref (cm 5), .ref (cm 6), .ref (cm 7), .ref (cm 8), .ref (cm 9), .ref (cm 10), .ref (cm 11), .ref (cm 12), .ref (cm 13), .ref (cm 14), .ref (cm 15), .int (nI sn), .ref (cm 16)])), (cm 2, .inl (g.2.1, 10, .inl ft))] [] 0 0 := by
                refine z_iadd h dX4_setTip_87 ?_
                refine z_istore h dX4_setTip_88 (by decide) (lv' := [(0, .ref (cm 0)), (1, .int (nI j)), (2, .int k), (3, .int b), (4, .int (hasT (ft j) k)), (5, .int (co + (if (hasT (ft i) k) = 0 then 0 else 1))), (6, .int (nI i))]) [1, 2, 3, 4, 5, 0, 6] rfl ?_
                refine z_iinc h (v := nI (i + 1)) dX4_setTip_90 (by decide) 6 rfl (by rw [show Int32.ofInt 1 = nI 1 from rfl, nI_add]) (lv' := [(0, .ref (cm 0)), (1, .int (nI j)), (2, .int k), (3, .int b), (4, .int (hasT (ft j) k)), (5, .int (co + (if (hasT (ft i) k) = 0 then 0 else 1))), (6, .int (nI (i + 1)))]) [1, 2, 3, 4, 5, 6, 0] rfl ?_
                refine z_goto h (tgt := 51) dX4_setTip_93 (by decide) ?_
                exact ihL51 (i + 1) (co + (if (hasT (ft i) k) = 0 then 0 else 1)) (by omega) (by omega) (by rw [cntO, ← e1]; first | (rw [if_pos hij]) | (rw [if_neg hij]))
              refine z_if_eq h (tgt := 86) dX4_setTip_79 (by decide) (fun c_79 => ?_) (fun c_79 => ?_)
              · refine z_iconst h (v := 0) dX4_setTip_86 (by decide) ?_
                exact z_topi (if_pos c_79).symm K_79
              · refine z_iconst h (v := 1) dX4_setTip_82 (by decide) ?_
                refine z_goto h (tgt := 87) dX4_setTip_83 (by decide) ?_
                exact z_topi (if_neg c_79).symm K_79
      exact L51 (pl + 1 - 0) 0 0 (by omega) (by omega) rfl
