def col (B : Nat → Nat → Int32) (j : Nat) : Nat → Int32 := fun i => B i j
theorem isin_0 {lo hi v : Int32} (h : okR lo.toInt hi.toInt v = false) : (0 : Int32) = if okR lo.toInt hi.toInt v = true then 1 else 0 := by rw [h]; rfl
theorem isin_1 {lo hi v : Int32} (h : okR lo.toInt hi.toInt v = true) : (1 : Int32) = if okR lo.toInt hi.toInt v = true then 1 else 0 := by rw [h]; rfl
theorem nar_b (b : Bool) : narrow .boolean (.int (if b = true then 1 else 0)) = .int (if b = true then 1 else 0) := by cases b <;> rfl
theorem sub1t : ∀ n, n < 32 → (nI n - 1).toInt = (n : Int) - 1 := by decide +kernel
theorem suc1 : ∀ n, n < 32 → nI (n + 1) - 1 = nI n := by decide +kernel
theorem okRI {n : Nat} {x : Int32} (hn : n < 32) : okR (0 : Int32).toInt (nI n - 1).toInt x = okI n x := by
  unfold okR okI
  rw [sub1t n hn, show (0 : Int32).toInt = 0 from rfl]
  refine decide_eq_decide.mpr ⟨fun q => ⟨q.1, by omega⟩, fun q => ⟨q.1, by omega⟩⟩
theorem okRI3 {x : Int32} : okR (0 : Int32).toInt (2 : Int32).toInt x = okI 3 x := okRI (n := 3) (by decide)
theorem okRI4 {x : Int32} : okR (0 : Int32).toInt (3 : Int32).toInt x = okI 4 x := okRI (n := 4) (by decide)
theorem okRI8 {x : Int32} : okR (0 : Int32).toInt (7 : Int32).toInt x = okI 8 x := okRI (n := 8) (by decide)
theorem okRI400 {x : Int32} : okR (0 : Int32).toInt (399 : Int32).toInt x = okI 400 x := by
  unfold okR okI
  rw [show (399 : Int32).toInt = 399 from rfl, show (0 : Int32).toInt = 0 from rfl]
  refine decide_eq_decide.mpr ⟨fun q => ⟨q.1, by omega⟩, fun q => ⟨q.1, by omega⟩⟩
theorem b01_0 {b : Bool} {r : Int32} (h : r = if b = true then 1 else 0) (c : r = 0) : b = false := by
  cases b with
  | false => rfl
  | true => rw [if_pos rfl] at h; rw [h] at c; exact absurd c (by decide)
theorem b01_1 {b : Bool} {r : Int32} (h : r = if b = true then 1 else 0) (c : ¬ r = 0) : b = true := by
  cases b with
  | true => rfl
  | false => rw [if_neg (by decide)] at h; exact absurd h c
theorem ix10' (x y : Nat) : 10 * nI x + nI y = nI (x * 10 + y) := by rw [show (10 : Int32) = nI 10 from rfl, pk_mul, nI_add, Nat.mul_comm]
def cntO (f : Nat → Int32) (k : Int32) (x : Nat) : Nat → Int32
  | 0 => 0
  | n + 1 => cntO f k x n + (if n = x then 0 else if hasT (f n) k = 0 then 0 else 1)
theorem hasT_01 (x k : Int32) : hasT x k = 0 ∨ hasT x k = 1 := by unfold hasT; split <;> simp
theorem cnt_lt (f : Nat → Int32) (k : Int32) (x : Nat) : ∀ n, n ≤ x → cntO f k x n = cntT f k n
  | 0, _ => rfl
  | n + 1, h => by
    rw [cntO, cntT, cnt_lt f k x n (by omega), if_neg (by omega)]
theorem cnt_ge (f : Nat → Int32) (k : Int32) (x : Nat) (h1 : ¬ hasT (f x) k = 0) : ∀ n, x < n → cntT f k n = cntO f k x n + 1
  | 0, h => absurd h (by omega)
  | n + 1, h => by
    rw [cntO, cntT]
    by_cases e : n = x
    · subst e
      rw [if_pos rfl, cnt_lt f k n n (Nat.le_refl _), if_neg h1, Int32.add_zero]
    · rw [if_neg e, cnt_ge f k x h1 n (by omega), Int32.add_assoc, Int32.add_assoc, Int32.add_comm 1]
theorem cnt_iff (f : Nat → Int32) (k : Int32) (x n : Nat) (h1 : ¬ hasT (f x) k = 0) (h : x < n) : cntT f k n = 1 ↔ cntO f k x n = 0 := by
  rw [cnt_ge f k x h1 n h]
  constructor
  · intro q
    have h2 : cntO f k x n + 1 - 1 = 1 - 1 := by rw [q]
    rw [Int32.add_sub_cancel] at h2
    exact h2
  · intro q
    rw [q]; rfl
theorem in_X4_thrown_X4 : ∀ w ∈ wsX40, w ∈ wsX4_thrown := by decide +kernel
theorem lk_X4_thrown_f64 : Cond.fieldLink RX4 64 (TX4 0).1 (TX4 0).2.1 (TX4 0).2.2.1 ∈ wsX4_thrown := by decide +kernel
theorem in_X4_fail_X4 : ∀ w ∈ wsX40, w ∈ wsX4_fail := by decide +kernel
theorem lk_X4_fail_f64 : Cond.fieldLink RX4 64 (TX4 0).1 (TX4 0).2.1 (TX4 0).2.2.1 ∈ wsX4_fail := by decide +kernel
theorem in_X4_isPlace_X4 : ∀ w ∈ wsX40, w ∈ wsX4_isPlace := by decide +kernel
theorem lk_X4_isPlace_f7 : Cond.fieldLink RX4 7 (TX4 1).1 (TX4 1).2.1 (TX4 1).2.2.1 ∈ wsX4_isPlace := by decide +kernel
theorem in_X4_isBin_X4 : ∀ w ∈ wsX40, w ∈ wsX4_isBin := by decide +kernel
theorem lk_X4_isBin_f71 : Cond.fieldLink RX4 71 (TX4 6).1 (TX4 6).2.1 (TX4 6).2.2.1 ∈ wsX4_isBin := by decide +kernel
theorem in_X4_drive_X4 : ∀ w ∈ wsX40, w ∈ wsX4_drive := by decide +kernel
theorem lk_X4_drive_f13 : Cond.fieldLink RX4 13 (TX4 2).1 (TX4 2).2.1 (TX4 2).2.2.1 ∈ wsX4_drive := by decide +kernel
theorem in_X4_addPlace_X4 : ∀ w ∈ wsX40, w ∈ wsX4_addPlace := by decide +kernel
theorem lk_X4_addPlace_f64 : Cond.fieldLink RX4 64 (TX4 0).1 (TX4 0).2.1 (TX4 0).2.2.1 ∈ wsX4_addPlace := by decide +kernel
theorem lk_X4_addPlace_f7 : Cond.fieldLink RX4 7 (TX4 1).1 (TX4 1).2.1 (TX4 1).2.2.1 ∈ wsX4_addPlace := by decide +kernel
theorem in_X4_setMinutes_X4 : ∀ w ∈ wsX40, w ∈ wsX4_setMinutes := by decide +kernel
theorem lk_X4_setMinutes_f13 : Cond.fieldLink RX4 13 (TX4 2).1 (TX4 2).2.1 (TX4 2).2.2.1 ∈ wsX4_setMinutes := by decide +kernel
theorem lk_X4_setMinutes_f64 : Cond.fieldLink RX4 64 (TX4 0).1 (TX4 0).2.1 (TX4 0).2.2.1 ∈ wsX4_setMinutes := by decide +kernel
theorem in_X4_setHoliday_X4 : ∀ w ∈ wsX40, w ∈ wsX4_setHoliday := by decide +kernel
theorem lk_X4_setHoliday_f20 : Cond.fieldLink RX4 20 (TX4 4).1 (TX4 4).2.1 (TX4 4).2.2.1 ∈ wsX4_setHoliday := by decide +kernel
theorem lk_X4_setHoliday_f64 : Cond.fieldLink RX4 64 (TX4 0).1 (TX4 0).2.1 (TX4 0).2.2.1 ∈ wsX4_setHoliday := by decide +kernel
theorem in_X4_today_X4 : ∀ w ∈ wsX40, w ∈ wsX4_today := by decide +kernel
theorem lk_X4_today_f64 : Cond.fieldLink RX4 64 (TX4 0).1 (TX4 0).2.1 (TX4 0).2.2.1 ∈ wsX4_today := by decide +kernel
theorem lk_X4_today_f93 : Cond.fieldLink RX4 93 (TX4 5).1 (TX4 5).2.1 (TX4 5).2.2.1 ∈ wsX4_today := by decide +kernel
theorem in_X4_binCount_X4 : ∀ w ∈ wsX40, w ∈ wsX4_binCount := by decide +kernel
theorem lk_X4_binCount_f64 : Cond.fieldLink RX4 64 (TX4 0).1 (TX4 0).2.1 (TX4 0).2.2.1 ∈ wsX4_binCount := by decide +kernel
theorem lk_X4_binCount_f71 : Cond.fieldLink RX4 71 (TX4 6).1 (TX4 6).2.1 (TX4 6).2.2.1 ∈ wsX4_binCount := by decide +kernel
theorem in_X4_workday_X4 : ∀ w ∈ wsX40, w ∈ wsX4_workday := by decide +kernel
theorem lk_X4_workday_f20 : Cond.fieldLink RX4 20 (TX4 4).1 (TX4 4).2.1 (TX4 4).2.2.1 ∈ wsX4_workday := by decide +kernel
theorem lk_X4_workday_f93 : Cond.fieldLink RX4 93 (TX4 5).1 (TX4 5).2.1 (TX4 5).2.2.1 ∈ wsX4_workday := by decide +kernel
theorem in_X4_nextWorkday_X4 : ∀ w ∈ wsX40, w ∈ wsX4_nextWorkday := by decide +kernel
theorem lk_X4_nextWorkday_f64 : Cond.fieldLink RX4 64 (TX4 0).1 (TX4 0).2.1 (TX4 0).2.2.1 ∈ wsX4_nextWorkday := by decide +kernel
abbrev rmX4_thrown : Room := { frames := 0, cells := 0, slots := 0, locals := 0 }
set_option maxHeartbeats 4000000 in
set_option maxRecDepth 100000 in
theorem m_X4_thrown (l : Launch) (g : Gx) (cm : Nat → Nat) (th : Int32) (pl : Nat) (dy : Nat) (n : Nat) (sn : Nat)  (sz : Nat) : Met l yX4_thrown wsX4_thrown rmX4_thrown (PZ g [.ref (cm 0)] sz [] [(cm 0, .inr (5, [.int th, .int (nI pl), .ref (cm 1), .ref (cm 2), .ref (cm 3), .int (nI dy), .int (nI n), .ref (cm 4), .ref (cm 5), .ref (cm 6), .ref (cm 7), .ref (cm 8), .ref (cm 9), .ref (cm 10), .ref (cm 11), .ref (cm 12), .ref (cm 13), .ref (cm 14), .ref (cm 15), .int (nI sn), .ref (cm 16)]))]) (va_Qi (fun (r : Int32) (_ : Unit) => r = th) (BZ g [] sz (fun (u : Unit) => [])) (va_A [] sz)) 0 0 (va_A [] sz) := by
  refine z_open_i (cc := cX4_thrown) (maxL := 1) (ret := .int) (own := RX4) (by decide) rfl rfl (Nat.le_of_ble_eq_true rfl) ?_
  intro p e s m args below meth c Q h hnm fin
  generalize hAe : va_A [] s.heap.size = A at h fin ⊢
  refine z_lve (lv' := [(0, .ref (cm 0))]) rfl ?_
  refine z_aload_n h dX4_thrown_0 rfl 0 rfl ?_
  refine z_get h in_X4_thrown_X4 0 rfl rfl 0 (by decide) lk_X4_thrown_f64 rfl dX4_thrown_1 ?_
  exact fin _ _ _ () _ _ _ _ dX4_thrown_4 rfl rfl rfl (Nat.le_of_ble_eq_true rfl) (Nat.le_of_ble_eq_true rfl)
abbrev rmX4_fail : Room := { frames := 0, cells := 0, slots := 0, locals := 0 }
set_option maxHeartbeats 4000000 in
set_option maxRecDepth 100000 in
theorem m_X4_fail (l : Launch) (g : Gx) (cm : Nat → Nat) (th : Int32) (pl : Nat) (dy : Nat) (n : Nat) (sn : Nat) (x : Int32)  (sz : Nat) : Met l yX4_fail wsX4_fail rmX4_fail (PZ g [.ref (cm 0), .int x] sz [(cm 0, .inr (5, [.int th, .int (nI pl), .ref (cm 1), .ref (cm 2), .ref (cm 3), .int (nI dy), .int (nI n), .ref (cm 4), .ref (cm 5), .ref (cm 6), .ref (cm 7), .ref (cm 8), .ref (cm 9), .ref (cm 10), .ref (cm 11), .ref (cm 12), .ref (cm 13), .ref (cm 14), .ref (cm 15), .int (nI sn), .ref (cm 16)]))] []) (va_Qi (fun (r : Int32) (_ : Unit) => r = 0) (BZ g [(cm 0, .inr (5, [.int th, .int (nI pl), .ref (cm 1), .ref (cm 2), .ref (cm 3), .int (nI dy), .int (nI n), .ref (cm 4), .ref (cm 5), .ref (cm 6), .ref (cm 7), .ref (cm 8), .ref (cm 9), .ref (cm 10), .ref (cm 11), .ref (cm 12), .ref (cm 13), .ref (cm 14), .ref (cm 15), .int (nI sn), .ref (cm 16)]))] sz (fun (u : Unit) => [(cm 0, .inr (5, [.int x, .int (nI pl), .ref (cm 1), .ref (cm 2), .ref (cm 3), .int (nI dy), .int (nI n), .ref (cm 4), .ref (cm 5), .ref (cm 6), .ref (cm 7), .ref (cm 8), .ref (cm 9), .ref (cm 10), .ref (cm 11), .ref (cm 12), .ref (cm 13), .ref (cm 14), .ref (cm 15), .int (nI sn), .ref (cm 16)]))])) (va_A [(cm 0, .inr (5, [.int th, .int (nI pl), .ref (cm 1), .ref (cm 2), .ref (cm 3), .int (nI dy), .int (nI n), .ref (cm 4), .ref (cm 5), .ref (cm 6), .ref (cm 7), .ref (cm 8), .ref (cm 9), .ref (cm 10), .ref (cm 11), .ref (cm 12), .ref (cm 13), .ref (cm 14), .ref (cm 15), .int (nI sn), .ref (cm 16)]))] sz)) 0 0 (va_A [(cm 0, .inr (5, [.int th, .int (nI pl), .ref (cm 1), .ref (cm 2), .ref (cm 3), .int (nI dy), .int (nI n), .ref (cm 4), .ref (cm 5), .ref (cm 6), .ref (cm 7), .ref (cm 8), .ref (cm 9), .ref (cm 10), .ref (cm 11), .ref (cm 12), .ref (cm 13), .ref (cm 14), .ref (cm 15), .int (nI sn), .ref (cm 16)]))] sz) := by
  refine z_open_i (cc := cX4_fail) (maxL := 2) (ret := .int) (own := RX4) (by decide) rfl rfl (Nat.le_of_ble_eq_true rfl) ?_
  intro p e s m args below meth c Q h hnm fin
  generalize hAe : va_A [(cm 0, .inr (5, [.int th, .int (nI pl), .ref (cm 1), .ref (cm 2), .ref (cm 3), .int (nI dy), .int (nI n), .ref (cm 4), .ref (cm 5), .ref (cm 6), .ref (cm 7), .ref (cm 8), .ref (cm 9), .ref (cm 10), .ref (cm 11), .ref (cm 12), .ref (cm 13), .ref (cm 14), .ref (cm 15), .int (nI sn), .ref (cm 16)]))] s.heap.size = A at h fin ⊢
  refine z_lve (lv' := [(0, .ref (cm 0)), (1, .int x)]) rfl ?_
  refine z_aload_n h dX4_fail_0 rfl 0 rfl ?_
  refine z_iload_n h dX4_fail_1 rfl 1 rfl ?_
  refine z_put h in_X4_fail_X4 0 tyX4 tyX4_ok nmX4 rfl rfl 0 (by decide) lk_X4_fail_f64 rfl rfl rfl (Nat.le_of_ble_eq_true rfl) dX4_fail_2 (wW' := [(cm 0, .inr (5, [.int x, .int (nI pl), .ref (cm 1), .ref (cm 2), .ref (cm 3), .int (nI dy), .int (nI n), .ref (cm 4), .ref (cm 5), .ref (cm 6), .ref (cm 7), .ref (cm 8), .ref (cm 9), .ref (cm 10), .ref (cm 11), .ref (cm 12), .ref (cm 13), .ref (cm 14), .ref (cm 15), .int (nI sn), .ref (cm 16)]))]) rfl ?_
  refine z_iconst h (v := 0) dX4_fail_5 (by decide) ?_
  exact fin _ _ _ () _ _ _ _ dX4_fail_6 rfl rfl rfl (Nat.le_of_ble_eq_true rfl) (Nat.le_of_ble_eq_true rfl)
abbrev rmX4_isIn : Room := { frames := 0, cells := 0, slots := 0, locals := 0 }
set_option maxHeartbeats 4000000 in
set_option maxRecDepth 100000 in
theorem m_X4_isIn (l : Launch) (g : Gx) (v : Int32) (lo : Int32) (hi : Int32)  (sz : Nat) : Met l yX4_isIn wsX4_isIn rmX4_isIn (PZ g [.int v, .int lo, .int hi] sz [] []) (va_Qi (fun (r : Int32) (_ : Unit) => r = if okR lo.toInt hi.toInt v = true then 1 else 0) (BZ g [] sz (fun (u : Unit) => [])) (va_A [] sz)) 0 0 (va_A [] sz) := by
  refine z_open_i (cc := cX4_isIn) (maxL := 3) (ret := .boolean) (own := RX4) (by decide) rfl rfl (Nat.le_of_ble_eq_true rfl) ?_
  intro p e s m args below meth c Q h hnm fin
  generalize hAe : va_A [] s.heap.size = A at h fin ⊢
  refine z_lve (lv' := [(0, .int v), (1, .int lo), (2, .int hi)]) rfl ?_
  refine z_iload_n h dX4_isIn_0 rfl 0 rfl ?_
  refine z_iload_n h dX4_isIn_1 rfl 1 rfl ?_
  refine z_icmp_lt h (tgt := 14) dX4_isIn_2 (by decide) (fun c_2 => ?_) (fun c_2 => ?_)
  · refine z_iconst h (v := 0) dX4_isIn_14 (by decide) ?_
    exact fin _ _ _ () _ _ _ _ dX4_isIn_15 rfl (by first | exact isin_0 (okR_lo c_2) | exact isin_0 (okR_hi c_7) | exact isin_1 (okR_in c_2 c_7)) rfl (Nat.le_of_ble_eq_true rfl) (Nat.le_of_ble_eq_true rfl)
  · refine z_iload_n h dX4_isIn_5 rfl 0 rfl ?_
    refine z_iload_n h dX4_isIn_6 rfl 2 rfl ?_
    refine z_icmp_gt h (tgt := 14) dX4_isIn_7 (by decide) (fun c_7 => ?_) (fun c_7 => ?_)
    · refine z_iconst h (v := 0) dX4_isIn_14 (by decide) ?_
      exact fin _ _ _ () _ _ _ _ dX4_isIn_15 rfl (by first | exact isin_0 (okR_lo c_2) | exact isin_0 (okR_hi c_7) | exact isin_1 (okR_in c_2 c_7)) rfl (Nat.le_of_ble_eq_true rfl) (Nat.le_of_ble_eq_true rfl)
    · refine z_iconst h (v := 1) dX4_isIn_10 (by decide) ?_
      refine z_goto h (tgt := 15) dX4_isIn_11 (by decide) ?_
      exact fin _ _ _ () _ _ _ _ dX4_isIn_15 rfl (by first | exact isin_0 (okR_lo c_2) | exact isin_0 (okR_hi c_7) | exact isin_1 (okR_in c_2 c_7)) rfl (Nat.le_of_ble_eq_true rfl) (Nat.le_of_ble_eq_true rfl)
abbrev rmX4_isPlace : Room := { frames := 1, cells := 0, slots := 0, locals := 22 }
set_option maxHeartbeats 4000000 in
set_option maxRecDepth 100000 in
theorem m_X4_isPlace (l : Launch) (g : Gx) (cm : Nat → Nat) (th : Int32) (pl : Nat) (dy : Nat) (n : Nat) (sn : Nat) (x : Int32) (hpl : pl ≤ 10) (sz : Nat) : Met l yX4_isPlace wsX4_isPlace rmX4_isPlace (PZ g [.ref (cm 0), .int x] sz [] [(cm 0, .inr (5, [.int th, .int (nI pl), .ref (cm 1), .ref (cm 2), .ref (cm 3), .int (nI dy), .int (nI n), .ref (cm 4), .ref (cm 5), .ref (cm 6), .ref (cm 7), .ref (cm 8), .ref (cm 9), .ref (cm 10), .ref (cm 11), .ref (cm 12), .ref (cm 13), .ref (cm 14), .ref (cm 15), .int (nI sn), .ref (cm 16)]))]) (va_Qi (fun (r : Int32) (_ : Unit) => r = if okI pl x = true then 1 else 0) (BZ g [] sz (fun (u : Unit) => [])) (va_A [] sz)) 0 0 (va_A [] sz) := by
  refine z_open_i (cc := cX4_isPlace) (maxL := 2) (ret := .boolean) (own := RX4) (by decide) rfl rfl (Nat.le_of_ble_eq_true rfl) ?_
  intro p e s m args below meth c Q h hnm fin
  generalize hAe : va_A [] s.heap.size = A at h fin ⊢
  refine z_lve (lv' := [(0, .ref (cm 0)), (1, .int x)]) rfl ?_
  refine z_iload_n h dX4_isPlace_0 rfl 1 rfl ?_
  refine z_iconst h (v := 0) dX4_isPlace_1 (by decide) ?_
  refine z_aload_n h dX4_isPlace_2 rfl 0 rfl ?_
  refine z_get h in_X4_isPlace_X4 0 rfl rfl 1 (by decide) lk_X4_isPlace_f7 rfl dX4_isPlace_3 ?_
  refine z_iconst h (v := 1) dX4_isPlace_6 (by decide) ?_
  refine z_isub h dX4_isPlace_7 ?_
  refine z_Si h (b := 0) (C := "") (As := [.int x, .int 0, .int ((nI pl) - 1)]) (st := []) (fun sz => m_X4_isIn l g x 0 ((nI pl) - 1)  sz) (va_cwS 3 h.ts gX4_isPlace_X4_isIn rfl rfl rfl (by decide +kernel) ⟨Nat.le_of_ble_eq_true rfl, Nat.le_of_ble_eq_true rfl⟩) rfl [] [] rfl rfl rfl rfl rfl (Nat.le_of_ble_eq_true rfl) ⟨(Nat.le_of_ble_eq_true rfl), (Nat.le_of_ble_eq_true rfl)⟩ (fun _ => (Nat.le_of_ble_eq_true rfl)) (wN := fun u => []) (fun _ => rfl) dX4_isPlace_8 (fun r_8 u_8 h_8 => ?_)
  exact fin _ _ _ () _ _ _ _ dX4_isPlace_11 (by rw [h_8]; exact nar_b _) (by rw [h_8, okRI (by omega)]) rfl (Nat.le_of_ble_eq_true rfl) (Nat.le_of_ble_eq_true rfl)
abbrev rmX4_isBin : Room := { frames := 1, cells := 0, slots := 0, locals := 22 }
set_option maxHeartbeats 4000000 in
set_option maxRecDepth 100000 in
theorem m_X4_isBin (l : Launch) (g : Gx) (cm : Nat → Nat) (th : Int32) (pl : Nat) (dy : Nat) (n : Nat) (sn : Nat) (x : Int32) (hn : n ≤ 16) (sz : Nat) : Met l yX4_isBin wsX4_isBin rmX4_isBin (PZ g [.ref (cm 0), .int x] sz [] [(cm 0, .inr (5, [.int th, .int (nI pl), .ref (cm 1), .ref (cm 2), .ref (cm 3), .int (nI dy), .int (nI n), .ref (cm 4), .ref (cm 5), .ref (cm 6), .ref (cm 7), .ref (cm 8), .ref (cm 9), .ref (cm 10), .ref (cm 11), .ref (cm 12), .ref (cm 13), .ref (cm 14), .ref (cm 15), .int (nI sn), .ref (cm 16)]))]) (va_Qi (fun (r : Int32) (_ : Unit) => r = if okI n x = true then 1 else 0) (BZ g [] sz (fun (u : Unit) => [])) (va_A [] sz)) 0 0 (va_A [] sz) := by
  refine z_open_i (cc := cX4_isBin) (maxL := 2) (ret := .boolean) (own := RX4) (by decide) rfl rfl (Nat.le_of_ble_eq_true rfl) ?_
  intro p e s m args below meth c Q h hnm fin
  generalize hAe : va_A [] s.heap.size = A at h fin ⊢
  refine z_lve (lv' := [(0, .ref (cm 0)), (1, .int x)]) rfl ?_
  refine z_iload_n h dX4_isBin_0 rfl 1 rfl ?_
  refine z_iconst h (v := 0) dX4_isBin_1 (by decide) ?_
  refine z_aload_n h dX4_isBin_2 rfl 0 rfl ?_
  refine z_get h in_X4_isBin_X4 0 rfl rfl 6 (by decide) lk_X4_isBin_f71 rfl dX4_isBin_3 ?_
  refine z_iconst h (v := 1) dX4_isBin_6 (by decide) ?_
  refine z_isub h dX4_isBin_7 ?_
  refine z_Si h (b := 0) (C := "") (As := [.int x, .int 0, .int ((nI n) - 1)]) (st := []) (fun sz => m_X4_isIn l g x 0 ((nI n) - 1)  sz) (va_cwS 3 h.ts gX4_isBin_X4_isIn rfl rfl rfl (by decide +kernel) ⟨Nat.le_of_ble_eq_true rfl, Nat.le_of_ble_eq_true rfl⟩) rfl [] [] rfl rfl rfl rfl rfl (Nat.le_of_ble_eq_true rfl) ⟨(Nat.le_of_ble_eq_true rfl), (Nat.le_of_ble_eq_true rfl)⟩ (fun _ => (Nat.le_of_ble_eq_true rfl)) (wN := fun u => []) (fun _ => rfl) dX4_isBin_8 (fun r_8 u_8 h_8 => ?_)
  exact fin _ _ _ () _ _ _ _ dX4_isBin_11 (by rw [h_8]; exact nar_b _) (by rw [h_8, okRI (by omega)]) rfl (Nat.le_of_ble_eq_true rfl) (Nat.le_of_ble_eq_true rfl)
abbrev rmX4_isKind : Room := { frames := 1, cells := 0, slots := 0, locals := 22 }
set_option maxHeartbeats 4000000 in
set_option maxRecDepth 100000 in
theorem m_X4_isKind (l : Launch) (g : Gx) (x : Int32)  (sz : Nat) : Met l yX4_isKind wsX4_isKind rmX4_isKind (PZ g [.int x] sz [] []) (va_Qi (fun (r : Int32) (_ : Unit) => r = if okI 3 x = true then 1 else 0) (BZ g [] sz (fun (u : Unit) => [])) (va_A [] sz)) 0 0 (va_A [] sz) := by
  refine z_open_i (cc := cX4_isKind) (maxL := 1) (ret := .boolean) (own := RX4) (by decide) rfl rfl (Nat.le_of_ble_eq_true rfl) ?_
  intro p e s m args below meth c Q h hnm fin
  generalize hAe : va_A [] s.heap.size = A at h fin ⊢
  refine z_lve (lv' := [(0, .int x)]) rfl ?_
  refine z_iload_n h dX4_isKind_0 rfl 0 rfl ?_
  refine z_iconst h (v := 0) dX4_isKind_1 (by decide) ?_
  refine z_iconst h (v := 2) dX4_isKind_2 (by decide) ?_
  refine z_Si h (b := 0) (C := "") (As := [.int x, .int 0, .int 2]) (st := []) (fun sz => m_X4_isIn l g x 0 2  sz) (va_cwS 3 h.ts gX4_isKind_X4_isIn rfl rfl rfl (by decide +kernel) ⟨Nat.le_of_ble_eq_true rfl, Nat.le_of_ble_eq_true rfl⟩) rfl [] [] rfl rfl rfl rfl rfl (Nat.le_of_ble_eq_true rfl) ⟨(Nat.le_of_ble_eq_true rfl), (Nat.le_of_ble_eq_true rfl)⟩ (fun _ => (Nat.le_of_ble_eq_true rfl)) (wN := fun u => []) (fun _ => rfl) dX4_isKind_3 (fun r_3 u_3 h_3 => ?_)
  exact fin _ _ _ () _ _ _ _ dX4_isKind_6 (by rw [h_3]; exact nar_b _) (by rw [h_3, okRI3]) rfl (Nat.le_of_ble_eq_true rfl) (Nat.le_of_ble_eq_true rfl)
abbrev rmX4_isCapacity : Room := { frames := 1, cells := 0, slots := 0, locals := 22 }
set_option maxHeartbeats 4000000 in
set_option maxRecDepth 100000 in
theorem m_X4_isCapacity (l : Launch) (g : Gx) (x : Int32)  (sz : Nat) : Met l yX4_isCapacity wsX4_isCapacity rmX4_isCapacity (PZ g [.int x] sz [] []) (va_Qi (fun (r : Int32) (_ : Unit) => r = if okR 50 5000 x = true then 1 else 0) (BZ g [] sz (fun (u : Unit) => [])) (va_A [] sz)) 0 0 (va_A [] sz) := by
  refine z_open_i (cc := cX4_isCapacity) (maxL := 1) (ret := .boolean) (own := RX4) (by decide) rfl rfl (Nat.le_of_ble_eq_true rfl) ?_
  intro p e s m args below meth c Q h hnm fin
  generalize hAe : va_A [] s.heap.size = A at h fin ⊢
  refine z_lve (lv' := [(0, .int x)]) rfl ?_
  refine z_iload_n h dX4_isCapacity_0 rfl 0 rfl ?_
  refine z_bipush h (v := 50) dX4_isCapacity_1 (by decide) ?_
  refine z_sipush h (v := 5000) dX4_isCapacity_3 (by decide) ?_
  refine z_Si h (b := 0) (C := "") (As := [.int x, .int 50, .int 5000]) (st := []) (fun sz => m_X4_isIn l g x 50 5000  sz) (va_cwS 3 h.ts gX4_isCapacity_X4_isIn rfl rfl rfl (by decide +kernel) ⟨Nat.le_of_ble_eq_true rfl, Nat.le_of_ble_eq_true rfl⟩) rfl [] [] rfl rfl rfl rfl rfl (Nat.le_of_ble_eq_true rfl) ⟨(Nat.le_of_ble_eq_true rfl), (Nat.le_of_ble_eq_true rfl)⟩ (fun _ => (Nat.le_of_ble_eq_true rfl)) (wN := fun u => []) (fun _ => rfl) dX4_isCapacity_6 (fun r_6 u_6 h_6 => ?_)
  exact fin _ _ _ () _ _ _ _ dX4_isCapacity_9 (by rw [h_6]; exact nar_b _) h_6 rfl (Nat.le_of_ble_eq_true rfl) (Nat.le_of_ble_eq_true rfl)
abbrev rmX4_has : Room := { frames := 0, cells := 0, slots := 0, locals := 0 }
set_option maxHeartbeats 4000000 in
set_option maxRecDepth 100000 in
theorem m_X4_has (l : Launch) (g : Gx) (x : Int32) (k : Int32)  (sz : Nat) : Met l yX4_has wsX4_has rmX4_has (PZ g [.int x, .int k] sz [] []) (va_Qi (fun (r : Int32) (_ : Unit) => r = hasT x k) (BZ g [] sz (fun (u : Unit) => [])) (va_A [] sz)) 0 0 (va_A [] sz) := by
  refine z_open_i (cc := cX4_has) (maxL := 2) (ret := .boolean) (own := RX4) (by decide) rfl rfl (Nat.le_of_ble_eq_true rfl) ?_
  intro p e s m args below meth c Q h hnm fin
  generalize hAe : va_A [] s.heap.size = A at h fin ⊢
  refine z_lve (lv' := [(0, .int x), (1, .int k)]) rfl ?_
  refine z_iload_n h dX4_has_0 rfl 0 rfl ?_
  refine z_iload_n h dX4_has_1 rfl 1 rfl ?_
  refine z_ishr h dX4_has_2 ?_
  refine z_iconst h (v := 1) dX4_has_3 (by decide) ?_
  refine z_iand h dX4_has_4 ?_
  refine z_iconst h (v := 1) dX4_has_5 (by decide) ?_
  have K_6 : Z p l e rmX4_has s m args below meth c Q A g 2 14 [(0, .int x), (1, .int k)] [.int (if ((x >>> (k &&& 31)) &&& 1) = 1 then 1 else 0)] [] [] 0 0 := by
    exact fin _ _ _ () _ _ _ _ dX4_has_14 (nar_ite _) rfl rfl (Nat.le_of_ble_eq_true rfl) (Nat.le_of_ble_eq_true rfl)
  refine z_icmp_ne h (tgt := 13) dX4_has_6 (by decide) (fun c_6 => ?_) (fun c_6 => ?_)
  · refine z_iconst h (v := 0) dX4_has_13 (by decide) ?_
    exact z_topi (if_neg c_6).symm K_6
  · refine z_iconst h (v := 1) dX4_has_9 (by decide) ?_
    refine z_goto h (tgt := 14) dX4_has_10 (by decide) ?_
    exact z_topi (if_pos c_6).symm K_6
abbrev rmX4_drive : Room := { frames := 0, cells := 0, slots := 0, locals := 0 }
set_option maxHeartbeats 4000000 in
set_option maxRecDepth 100000 in
theorem m_X4_drive (l : Launch) (g : Gx) (cm : Nat → Nat) (th : Int32) (pl : Nat) (dy : Nat) (n : Nat) (sn : Nat) (fm : Nat → Int32) (x : Nat) (y : Nat) (hx : x < 10) (hy : y < 10) (sz : Nat) : Met l yX4_drive wsX4_drive rmX4_drive (PZ g [.ref (cm 0), .int (nI x), .int (nI y)] sz [] [(cm 0, .inr (5, [.int th, .int (nI pl), .ref (cm 1), .ref (cm 2), .ref (cm 3), .int (nI dy), .int (nI n), .ref (cm 4), .ref (cm 5), .ref (cm 6), .ref (cm 7), .ref (cm 8), .ref (cm 9), .ref (cm 10), .ref (cm 11), .ref (cm 12), .ref (cm 13), .ref (cm 14), .ref (cm 15), .int (nI sn), .ref (cm 16)])), (cm 1, .inl (g.2.1, 100, .inl fm))]) (va_Qi (fun (r : Int32) (_ : Unit) => r = fm (x * 10 + y)) (BZ g [] sz (fun (u : Unit) => [])) (va_A [] sz)) 0 0 (va_A [] sz) := by
  refine z_open_i (cc := cX4_drive) (maxL := 3) (ret := .int) (own := RX4) (by decide) rfl rfl (Nat.le_of_ble_eq_true rfl) ?_
  intro p e s m args below meth c Q h hnm fin
  generalize hAe : va_A [] s.heap.size = A at h fin ⊢
  refine z_lve (lv' := [(0, .ref (cm 0)), (1, .int (nI x)), (2, .int (nI y))]) rfl ?_
  refine z_aload_n h dX4_drive_0 rfl 0 rfl ?_
  refine z_get h in_X4_drive_X4 0 rfl rfl 2 (by decide) lk_X4_drive_f13 rfl dX4_drive_1 ?_
  refine z_bipush h (v := 10) dX4_drive_4 (by decide) ?_
  refine z_iload_n h dX4_drive_6 rfl 1 rfl ?_
  refine z_imul h dX4_drive_7 ?_
  refine z_iload_n h dX4_drive_8 rfl 2 rfl ?_
  refine z_iadd h dX4_drive_9 ?_
  refine z_topi (y := nI (x * 10 + y)) (ix10' x y) ?_
  refine z_iald h 1 rfl (vp_in_nI (by omega) (by omega)) dX4_drive_10 (v := fm (x * 10 + y)) (by rw [nI_clamp (by omega)]) ?_
  exact fin _ _ _ () _ _ _ _ dX4_drive_11 rfl rfl rfl (Nat.le_of_ble_eq_true rfl) (Nat.le_of_ble_eq_true rfl)
abbrev rmX4_addPlace : Room := { frames := 1, cells := 0, slots := 0, locals := 21 }
set_option maxHeartbeats 4000000 in
set_option maxRecDepth 100000 in
theorem m_X4_addPlace (l : Launch) (g : Gx) (cm : Nat → Nat) (th : Int32) (pl : Nat) (dy : Nat) (n : Nat) (sn : Nat) (hpl : pl ≤ 10) (sz : Nat) : Met l yX4_addPlace wsX4_addPlace rmX4_addPlace (PZ g [.ref (cm 0)] sz [(cm 0, .inr (5, [.int th, .int (nI pl), .ref (cm 1), .ref (cm 2), .ref (cm 3), .int (nI dy), .int (nI n), .ref (cm 4), .ref (cm 5), .ref (cm 6), .ref (cm 7), .ref (cm 8), .ref (cm 9), .ref (cm 10), .ref (cm 11), .ref (cm 12), .ref (cm 13), .ref (cm 14), .ref (cm 15), .int (nI sn), .ref (cm 16)]))] []) (va_Qi (fun (r : Int32) (_ : Unit) => pl < 10 → r = nI pl) (BZ g [(cm 0, .inr (5, [.int th, .int (nI pl), .ref (cm 1), .ref (cm 2), .ref (cm 3), .int (nI dy), .int (nI n), .ref (cm 4), .ref (cm 5), .ref (cm 6), .ref (cm 7), .ref (cm 8), .ref (cm 9), .ref (cm 10), .ref (cm 11), .ref (cm 12), .ref (cm 13), .ref (cm 14), .ref (cm 15), .int (nI sn), .ref (cm 16)]))] sz (fun (u : Unit) => [(cm 0, .inr (5, [.int (if pl < 10 then 0 else 1), .int (nI (if pl < 10 then pl + 1 else pl)), .ref (cm 1), .ref (cm 2), .ref (cm 3), .int (nI dy), .int (nI n), .ref (cm 4), .ref (cm 5), .ref (cm 6), .ref (cm 7), .ref (cm 8), .ref (cm 9), .ref (cm 10), .ref (cm 11), .ref (cm 12), .ref (cm 13), .ref (cm 14), .ref (cm 15), .int (nI sn), .ref (cm 16)]))])) (va_A [(cm 0, .inr (5, [.int th, .int (nI pl), .ref (cm 1), .ref (cm 2), .ref (cm 3), .int (nI dy), .int (nI n), .ref (cm 4), .ref (cm 5), .ref (cm 6), .ref (cm 7), .ref (cm 8), .ref (cm 9), .ref (cm 10), .ref (cm 11), .ref (cm 12), .ref (cm 13), .ref (cm 14), .ref (cm 15), .int (nI sn), .ref (cm 16)]))] sz)) 0 0 (va_A [(cm 0, .inr (5, [.int th, .int (nI pl), .ref (cm 1), .ref (cm 2), .ref (cm 3), .int (nI dy), .int (nI n), .ref (cm 4), .ref (cm 5), .ref (cm 6), .ref (cm 7), .ref (cm 8), .ref (cm 9), .ref (cm 10), .ref (cm 11), .ref (cm 12), .ref (cm 13), .ref (cm 14), .ref (cm 15), .int (nI sn), .ref (cm 16)]))] sz) := by
  refine z_open_i (cc := cX4_addPlace) (maxL := 1) (ret := .int) (own := RX4) (by decide) rfl rfl (Nat.le_of_ble_eq_true rfl) ?_
  intro p e s m args below meth c Q h hnm fin
  generalize hAe : va_A [(cm 0, .inr (5, [.int th, .int (nI pl), .ref (cm 1), .ref (cm 2), .ref (cm 3), .int (nI dy), .int (nI n), .ref (cm 4), .ref (cm 5), .ref (cm 6), .ref (cm 7), .ref (cm 8), .ref (cm 9), .ref (cm 10), .ref (cm 11), .ref (cm 12), .ref (cm 13), .ref (cm 14), .ref (cm 15), .int (nI sn), .ref (cm 16)]))] s.heap.size = A at h fin ⊢
  refine z_lve (lv' := [(0, .ref (cm 0))]) rfl ?_
  refine z_aload_n h dX4_addPlace_0 rfl 0 rfl ?_
  refine z_iconst h (v := 0) dX4_addPlace_1 (by decide) ?_
  refine z_put h in_X4_addPlace_X4 0 tyX4 tyX4_ok nmX4 rfl rfl 0 (by decide) lk_X4_addPlace_f64 rfl rfl rfl (Nat.le_of_ble_eq_true rfl) dX4_addPlace_2 (wW' := [(cm 0, .inr (5, [.int 0, .int (nI pl), .ref (cm 1), .ref (cm 2), .ref (cm 3), .int (nI dy), .int (nI n), .ref (cm 4), .ref (cm 5), .ref (cm 6), .ref (cm 7), .ref (cm 8), .ref (cm 9), .ref (cm 10), .ref (cm 11), .ref (cm 12), .ref (cm 13), .ref (cm 14), .ref (cm 15), .int (nI sn), .ref (cm 16)]))]) rfl ?_
  refine z_aload_n h dX4_addPlace_5 rfl 0 rfl ?_
  refine z_get h in_X4_addPlace_X4 0 rfl rfl 1 (by decide) lk_X4_addPlace_f7 rfl dX4_addPlace_6 ?_
  refine z_bipush h (v := 10) dX4_addPlace_9 (by decide) ?_
  refine z_icmp_ne h (tgt := 20) dX4_addPlace_11 (by decide) (fun c_11 => ?_) (fun c_11 => ?_)
  · have hlt : pl < 10 := by rcases Nat.lt_or_ge pl 10 with q | q; exact q; exact absurd (by rw [show pl = 10 by omega]; rfl) c_11
    refine z_aload_n h dX4_addPlace_20 rfl 0 rfl ?_
    refine z_dup h dX4_addPlace_21 rfl ?_
    refine z_get h in_X4_addPlace_X4 0 rfl rfl 1 (by decide) lk_X4_addPlace_f7 rfl dX4_addPlace_22 ?_
    refine z_iconst h (v := 1) dX4_addPlace_25 (by decide) ?_
    refine z_iadd h dX4_addPlace_26 ?_
    refine z_topi (y := nI (pl + 1)) (nI_1 pl) ?_
    refine z_put h in_X4_addPlace_X4 0 tyX4 tyX4_ok nmX4 rfl rfl 1 (by decide) lk_X4_addPlace_f7 rfl rfl rfl (Nat.le_of_ble_eq_true rfl) dX4_addPlace_27 (wW' := [(cm 0, .inr (5, [.int 0, .int (nI (pl + 1)), .ref (cm 1), .ref (cm 2), .ref (cm 3), .int (nI dy), .int (nI n), .ref (cm 4), .ref (cm 5), .ref (cm 6), .ref (cm 7), .ref (cm 8), .ref (cm 9), .ref (cm 10), .ref (cm 11), .ref (cm 12), .ref (cm 13), .ref (cm 14), .ref (cm 15), .int (nI sn), .ref (cm 16)]))]) rfl ?_
    refine z_aload_n h dX4_addPlace_30 rfl 0 rfl ?_
    refine z_get h in_X4_addPlace_X4 0 rfl rfl 1 (by decide) lk_X4_addPlace_f7 rfl dX4_addPlace_31 ?_
    refine z_iconst h (v := 1) dX4_addPlace_34 (by decide) ?_
    refine z_isub h dX4_addPlace_35 ?_
    refine z_topi (y := nI pl) (suc1 pl (by omega)) ?_
    exact fin _ _ _ () _ _ _ _ dX4_addPlace_36 rfl (fun _ => rfl) (by rw [if_pos hlt, if_pos hlt]) (Nat.le_of_ble_eq_true rfl) (Nat.le_of_ble_eq_true rfl)
  · have hge : ¬ pl < 10 := fun q => by have := (nI_ltI (b := 10) (by omega) (by omega)).mpr q; rw [c_11] at this; exact absurd this (by decide)
    refine z_aload_n h dX4_addPlace_14 rfl 0 rfl ?_
    refine z_iconst h (v := 1) dX4_addPlace_15 (by decide) ?_
    refine z_Vi h (As := [.int 1]) (st := []) (fun sz => m_X4_fail l g cm 0 pl dy n sn 1  sz) (cwV 1 h.ts gX4_addPlace_X4_fail rfl rfl rfl (by decide +kernel) ⟨Nat.le_of_ble_eq_true rfl, Nat.le_of_ble_eq_true rfl⟩) rfl [0] [] rfl rfl rfl rfl 0 rfl rfl rfl rfl (Nat.le_of_ble_eq_true rfl) ⟨(Nat.le_of_ble_eq_true rfl), (Nat.le_of_ble_eq_true rfl)⟩ (fun _ => (Nat.le_of_ble_eq_true rfl)) (wN := fun u => [(cm 0, .inr (5, [.int 1, .int (nI pl), .ref (cm 1), .ref (cm 2), .ref (cm 3), .int (nI dy), .int (nI n), .ref (cm 4), .ref (cm 5), .ref (cm 6), .ref (cm 7), .ref (cm 8), .ref (cm 9), .ref (cm 10), .ref (cm 11), .ref (cm 12), .ref (cm 13), .ref (cm 14), .ref (cm 15), .int (nI sn), .ref (cm 16)]))]) (fun _ => rfl) dX4_addPlace_16 (fun r_16 u_16 h_16 => ?_)
    exact fin _ _ _ () _ _ _ _ dX4_addPlace_19 rfl (fun q => absurd q hge) (by rw [if_neg hge, if_neg hge]) (Nat.le_of_ble_eq_true rfl) (Nat.le_of_ble_eq_true rfl)
abbrev rmX4_setMinutes : Room := { frames := 2, cells := 0, slots := 0, locals := 43 }
set_option maxHeartbeats 4000000 in
set_option maxRecDepth 100000 in
theorem m_X4_setMinutes (l : Launch) (g : Gx) (cm : Nat → Nat) (th : Int32) (pl : Nat) (dy : Nat) (n : Nat) (sn : Nat) (fm : Nat → Int32) (x : Int32) (y : Int32) (v : Int32) (hpl : pl ≤ 10) (sz : Nat) : Met l yX4_setMinutes wsX4_setMinutes rmX4_setMinutes (PZ g [.ref (cm 0), .int x, .int y, .int v] sz [(cm 0, .inr (5, [.int th, .int (nI pl), .ref (cm 1), .ref (cm 2), .ref (cm 3), .int (nI dy), .int (nI n), .ref (cm 4), .ref (cm 5), .ref (cm 6), .ref (cm 7), .ref (cm 8), .ref (cm 9), .ref (cm 10), .ref (cm 11), .ref (cm 12), .ref (cm 13), .ref (cm 14), .ref (cm 15), .int (nI sn), .ref (cm 16)])), (cm 1, .inl (g.2.1, 100, .inl fm))] []) (va_Qi (fun (r : Int32) (_ : Unit) => kSetMin pl x y v = 0 → r = fm (x.toNatClampNeg * 10 + y.toNatClampNeg)) (BZ g [(cm 0, .inr (5, [.int th, .int (nI pl), .ref (cm 1), .ref (cm 2), .ref (cm 3), .int (nI dy), .int (nI n), .ref (cm 4), .ref (cm 5), .ref (cm 6), .ref (cm 7), .ref (cm 8), .ref (cm 9), .ref (cm 10), .ref (cm 11), .ref (cm 12), .ref (cm 13), .ref (cm 14), .ref (cm 15), .int (nI sn), .ref (cm 16)])), (cm 1, .inl (g.2.1, 100, .inl fm))] sz (fun (u : Unit) => [(cm 0, .inr (5, [.int (kSetMin pl x y v), .int (nI pl), .ref (cm 1), .ref (cm 2), .ref (cm 3), .int (nI dy), .int (nI n), .ref (cm 4), .ref (cm 5), .ref (cm 6), .ref (cm 7), .ref (cm 8), .ref (cm 9), .ref (cm 10), .ref (cm 11), .ref (cm 12), .ref (cm 13), .ref (cm 14), .ref (cm 15), .int (nI sn), .ref (cm 16)])), (cm 1, .inl (g.2.1, 100, .inl (if kSetMin pl x y v = 0 then upd (upd fm (x.toNatClampNeg * 10 + y.toNatClampNeg) v) (y.toNatClampNeg * 10 + x.toNatClampNeg) v else fm)))])) (va_A [(cm 0, .inr (5, [.int th, .int (nI pl), .ref (cm 1), .ref (cm 2), .ref (cm 3), .int (nI dy), .int (nI n), .ref (cm 4), .ref (cm 5), .ref (cm 6), .ref (cm 7), .ref (cm 8), .ref (cm 9), .ref (cm 10), .ref (cm 11), .ref (cm 12), .ref (cm 13), .ref (cm 14), .ref (cm 15), .int (nI sn), .ref (cm 16)])), (cm 1, .inl (g.2.1, 100, .inl fm))] sz)) 0 0 (va_A [(cm 0, .inr (5, [.int th, .int (nI pl), .ref (cm 1), .ref (cm 2), .ref (cm 3), .int (nI dy), .int (nI n), .ref (cm 4), .ref (cm 5), .ref (cm 6), .ref (cm 7), .ref (cm 8), .ref (cm 9), .ref (cm 10), .ref (cm 11), .ref (cm 12), .ref (cm 13), .ref (cm 14), .ref (cm 15), .int (nI sn), .ref (cm 16)])), (cm 1, .inl (g.2.1, 100, .inl fm))] sz) := by
  refine z_open_i (cc := cX4_setMinutes) (maxL := 5) (ret := .int) (own := RX4) (by decide) rfl rfl (Nat.le_of_ble_eq_true rfl) ?_
  intro p e s m args below meth c Q h hnm fin
  generalize hAe : va_A [(cm 0, .inr (5, [.int th, .int (nI pl), .ref (cm 1), .ref (cm 2), .ref (cm 3), .int (nI dy), .int (nI n), .ref (cm 4), .ref (cm 5), .ref (cm 6), .ref (cm 7), .ref (cm 8), .ref (cm 9), .ref (cm 10), .ref (cm 11), .ref (cm 12), .ref (cm 13), .ref (cm 14), .ref (cm 15), .int (nI sn), .ref (cm 16)])), (cm 1, .inl (g.2.1, 100, .inl fm))] s.heap.size = A at h fin ⊢
  refine z_lve (lv' := [(0, .ref (cm 0)), (1, .int x), (2, .int y), (3, .int v)]) rfl ?_
  refine z_aload_n h dX4_setMinutes_0 rfl 0 rfl ?_
  refine z_iconst h (v := 0) dX4_setMinutes_1 (by decide) ?_
  refine z_put h in_X4_setMinutes_X4 0 tyX4 tyX4_ok nmX4 rfl rfl 0 (by decide) lk_X4_setMinutes_f64 rfl rfl rfl (Nat.le_of_ble_eq_true rfl) dX4_setMinutes_2 (wW' := [(cm 0, .inr (5, [.int 0, .int (nI pl), .ref (cm 1), .ref (cm 2), .ref (cm 3), .int (nI dy), .int (nI n), .ref (cm 4), .ref (cm 5), .ref (cm 6), .ref (cm 7), .ref (cm 8), .ref (cm 9), .ref (cm 10), .ref (cm 11), .ref (cm 12), .ref (cm 13), .ref (cm 14), .ref (cm 15), .int (nI sn), .ref (cm 16)])), (cm 1, .inl (g.2.1, 100, .inl fm))]) rfl ?_
  refine z_aload_n h dX4_setMinutes_5 rfl 0 rfl ?_
  refine z_iload_n h dX4_setMinutes_6 rfl 1 rfl ?_
  refine z_Vi h (As := [.int x]) (st := []) (fun sz => m_X4_isPlace l g cm 0 pl dy n sn x (by omega) sz) (cwV 1 h.ts gX4_setMinutes_X4_isPlace rfl rfl rfl (by decide +kernel) ⟨Nat.le_of_ble_eq_true rfl, Nat.le_of_ble_eq_true rfl⟩) rfl [] [0] rfl rfl rfl rfl 0 rfl rfl rfl rfl (Nat.le_of_ble_eq_true rfl) ⟨(Nat.le_of_ble_eq_true rfl), (Nat.le_of_ble_eq_true rfl)⟩ (fun _ => (Nat.le_of_ble_eq_true rfl)) (wN := fun u => [(cm 0, .inr (5, [.int 0, .int (nI pl), .ref (cm 1), .ref (cm 2), .ref (cm 3), .int (nI dy), .int (nI n), .ref (cm 4), .ref (cm 5), .ref (cm 6), .ref (cm 7), .ref (cm 8), .ref (cm 9), .ref (cm 10), .ref (cm 11), .ref (cm 12), .ref (cm 13), .ref (cm 14), .ref (cm 15), .int (nI sn), .ref (cm 16)])), (cm 1, .inl (g.2.1, 100, .inl fm))]) (fun _ => rfl) dX4_setMinutes_7 (fun r_7 u_7 h_7 => ?_)
  refine z_if_eq h (tgt := 21) dX4_setMinutes_10 (by decide) (fun c_10 => ?_) (fun c_10 => ?_)
  · have fx : okI pl x = false := b01_0 h_7 c_10
    have hk : kSetMin pl x y v = 1 := by first | exact ksm_1 fx | exact ksm_1' fy
    refine z_aload_n h dX4_setMinutes_21 rfl 0 rfl ?_
    refine z_iconst h (v := 1) dX4_setMinutes_22 (by decide) ?_
    refine z_Vi h (As := [.int 1]) (st := []) (fun sz => m_X4_fail l g cm 0 pl dy n sn 1  sz) (cwV 1 h.ts gX4_setMinutes_X4_fail rfl rfl rfl (by decide +kernel) ⟨Nat.le_of_ble_eq_true rfl, Nat.le_of_ble_eq_true rfl⟩) rfl [0] [] rfl rfl rfl rfl 0 rfl rfl rfl rfl (Nat.le_of_ble_eq_true rfl) ⟨(Nat.le_of_ble_eq_true rfl), (Nat.le_of_ble_eq_true rfl)⟩ (fun _ => (Nat.le_of_ble_eq_true rfl)) (wN := fun u => [(cm 0, .inr (5, [.int 1, .int (nI pl), .ref (cm 1), .ref (cm 2), .ref (cm 3), .int (nI dy), .int (nI n), .ref (cm 4), .ref (cm 5), .ref (cm 6), .ref (cm 7), .ref (cm 8), .ref (cm 9), .ref (cm 10), .ref (cm 11), .ref (cm 12), .ref (cm 13), .ref (cm 14), .ref (cm 15), .int (nI sn), .ref (cm 16)])), (cm 1, .inl (g.2.1, 100, .inl fm))]) (fun _ => rfl) dX4_setMinutes_23 (fun r_23 u_23 h_23 => ?_)
    exact fin _ _ _ () _ _ _ _ dX4_setMinutes_26 rfl (fun q => absurd (hk.symm.trans q) (by decide)) (by rw [hk]; rfl) (Nat.le_of_ble_eq_true rfl) (Nat.le_of_ble_eq_true rfl)
  · have hx : okI pl x = true := b01_1 h_7 c_10
    refine z_aload_n h dX4_setMinutes_13 rfl 0 rfl ?_
    refine z_iload_n h dX4_setMinutes_14 rfl 2 rfl ?_
    refine z_Vi h (As := [.int y]) (st := []) (fun sz => m_X4_isPlace l g cm 0 pl dy n sn y (by omega) sz) (cwV 1 h.ts gX4_setMinutes_X4_isPlace rfl rfl rfl (by decide +kernel) ⟨Nat.le_of_ble_eq_true rfl, Nat.le_of_ble_eq_true rfl⟩) rfl [] [0] rfl rfl rfl rfl 0 rfl rfl rfl rfl (Nat.le_of_ble_eq_true rfl) ⟨(Nat.le_of_ble_eq_true rfl), (Nat.le_of_ble_eq_true rfl)⟩ (fun _ => (Nat.le_of_ble_eq_true rfl)) (wN := fun u => [(cm 0, .inr (5, [.int 0, .int (nI pl), .ref (cm 1), .ref (cm 2), .ref (cm 3), .int (nI dy), .int (nI n), .ref (cm 4), .ref (cm 5), .ref (cm 6), .ref (cm 7), .ref (cm 8), .ref (cm 9), .ref (cm 10), .ref (cm 11), .ref (cm 12), .ref (cm 13), .ref (cm 14), .ref (cm 15), .int (nI sn), .ref (cm 16)])), (cm 1, .inl (g.2.1, 100, .inl fm))]) (fun _ => rfl) dX4_setMinutes_15 (fun r_15 u_15 h_15 => ?_)
    refine z_if_ne h (tgt := 27) dX4_setMinutes_18 (by decide) (fun c_18 => ?_) (fun c_18 => ?_)
    · have hy : okI pl y = true := b01_1 h_15 c_18
      refine z_iload_n h dX4_setMinutes_27 rfl 1 rfl ?_
      refine z_iload_n h dX4_setMinutes_28 rfl 2 rfl ?_
      refine z_icmp_eq h (tgt := 42) dX4_setMinutes_29 (by decide) (fun c_29 => ?_) (fun c_29 => ?_)
      · have hk : kSetMin pl x y v = 2 := by first | exact ksm_2 hx hy c_29 | exact ksm_2' hx hy fv
        refine z_aload_n h dX4_setMinutes_42 rfl 0 rfl ?_
        refine z_iconst h (v := 2) dX4_setMinutes_43 (by decide) ?_
        refine z_Vi h (As := [.int 2]) (st := []) (fun sz => m_X4_fail l g cm 0 pl dy n sn 2  sz) (cwV 1 h.ts gX4_setMinutes_X4_fail rfl rfl rfl (by decide +kernel) ⟨Nat.le_of_ble_eq_true rfl, Nat.le_of_ble_eq_true rfl⟩) rfl [0] [] rfl rfl rfl rfl 0 rfl rfl rfl rfl (Nat.le_of_ble_eq_true rfl) ⟨(Nat.le_of_ble_eq_true rfl), (Nat.le_of_ble_eq_true rfl)⟩ (fun _ => (Nat.le_of_ble_eq_true rfl)) (wN := fun u => [(cm 0, .inr (5, [.int 2, .int (nI pl), .ref (cm 1), .ref (cm 2), .ref (cm 3), .int (nI dy), .int (nI n), .ref (cm 4), .ref (cm 5), .ref (cm 6), .ref (cm 7), .ref (cm 8), .ref (cm 9), .ref (cm 10), .ref (cm 11), .ref (cm 12), .ref (cm 13), .ref (cm 14), .ref (cm 15), .int (nI sn), .ref (cm 16)])), (cm 1, .inl (g.2.1, 100, .inl fm))]) (fun _ => rfl) dX4_setMinutes_44 (fun r_44 u_44 h_44 => ?_)
        exact fin _ _ _ () _ _ _ _ dX4_setMinutes_47 rfl (fun q => absurd (hk.symm.trans q) (by decide)) (by rw [hk]; rfl) (Nat.le_of_ble_eq_true rfl) (Nat.le_of_ble_eq_true rfl)
      · refine z_iload_n h dX4_setMinutes_32 rfl 3 rfl ?_
        refine z_iconst h (v := 1) dX4_setMinutes_33 (by decide) ?_
        refine z_bipush h (v := 120) dX4_setMinutes_34 (by decide) ?_
        refine z_Si h (b := 0) (C := "") (As := [.int v, .int 1, .int 120]) (st := []) (fun sz => m_X4_isIn l g v 1 120  sz) (va_cwS 3 h.ts gX4_setMinutes_X4_isIn rfl rfl rfl (by decide +kernel) ⟨Nat.le_of_ble_eq_true rfl, Nat.le_of_ble_eq_true rfl⟩) rfl [] [] rfl rfl rfl rfl rfl (Nat.le_of_ble_eq_true rfl) ⟨(Nat.le_of_ble_eq_true rfl), (Nat.le_of_ble_eq_true rfl)⟩ (fun _ => (Nat.le_of_ble_eq_true rfl)) (wN := fun u => [(cm 0, .inr (5, [.int 0, .int (nI pl), .ref (cm 1), .ref (cm 2), .ref (cm 3), .int (nI dy), .int (nI n), .ref (cm 4), .ref (cm 5), .ref (cm 6), .ref (cm 7), .ref (cm 8), .ref (cm 9), .ref (cm 10), .ref (cm 11), .ref (cm 12), .ref (cm 13), .ref (cm 14), .ref (cm 15), .int (nI sn), .ref (cm 16)])), (cm 1, .inl (g.2.1, 100, .inl fm))]) (fun _ => rfl) dX4_setMinutes_36 (fun r_36 u_36 h_36 => ?_)
        refine z_if_ne h (tgt := 48) dX4_setMinutes_39 (by decide) (fun c_39 => ?_) (fun c_39 => ?_)
        · have hv : okR 1 120 v = true := b01_1 h_36 c_39
          have hk : kSetMin pl x y v = 0 := ksm_0 hx hy c_29 hv
          obtain ⟨j, hj, rfl⟩ := okI_of hx (by omega)
          have cj : (nI j).toNatClampNeg = j := nI_clamp (by omega)
          obtain ⟨q, hq, rfl⟩ := okI_of hy (by omega)
          have cq : (nI q).toNatClampNeg = q := nI_clamp (by omega)
          refine z_aload_n h dX4_setMinutes_48 rfl 0 rfl ?_
          refine z_iload_n h dX4_setMinutes_49 rfl 1 rfl ?_
          refine z_iload_n h dX4_setMinutes_50 rfl 2 rfl ?_
          refine z_Vi h (As := [.int (nI j), .int (nI q)]) (st := []) (fun sz => m_X4_drive l g cm 0 pl dy n sn fm j q (by omega) (by omega) sz) (cwV 2 h.ts gX4_setMinutes_X4_drive rfl rfl rfl (by decide +kernel) ⟨Nat.le_of_ble_eq_true rfl, Nat.le_of_ble_eq_true rfl⟩) rfl [] [0, 1] rfl rfl rfl rfl 0 rfl rfl rfl rfl (Nat.le_of_ble_eq_true rfl) ⟨(Nat.le_of_ble_eq_true rfl), (Nat.le_of_ble_eq_true rfl)⟩ (fun _ => (Nat.le_of_ble_eq_true rfl)) (wN := fun u => [(cm 0, .inr (5, [.int 0, .int (nI pl), .ref (cm 1), .ref (cm 2), .ref (cm 3), .int (nI dy), .int (nI n), .ref (cm 4), .ref (cm 5), .ref (cm 6), .ref (cm 7), .ref (cm 8), .ref (cm 9), .ref (cm 10), .ref (cm 11), .ref (cm 12), .ref (cm 13), .ref (cm 14), .ref (cm 15), .int (nI sn), .ref (cm 16)])), (cm 1, .inl (g.2.1, 100, .inl fm))]) (fun _ => rfl) dX4_setMinutes_51 (fun r_51 u_51 h_51 => ?_)
          refine z_istore h dX4_setMinutes_54 (by decide) (lv' := [(0, .ref (cm 0)), (1, .int (nI j)), (2, .int (nI q)), (3, .int v), (4, .int r_51)]) [1, 2, 3, 4, 0] rfl ?_
          refine z_aload_n h dX4_setMinutes_56 rfl 0 rfl ?_
          refine z_get h in_X4_setMinutes_X4 0 rfl rfl 2 (by decide) lk_X4_setMinutes_f13 rfl dX4_setMinutes_57 ?_
          refine z_bipush h (v := 10) dX4_setMinutes_60 (by decide) ?_
          refine z_iload_n h dX4_setMinutes_62 rfl 1 rfl ?_
          refine z_imul h dX4_setMinutes_63 ?_
          refine z_iload_n h dX4_setMinutes_64 rfl 2 rfl ?_
          refine z_iadd h dX4_setMinutes_65 ?_
          refine z_topi (y := nI (j * 10 + q)) (ix10' j q) ?_
          refine z_iload_n h dX4_setMinutes_66 rfl 3 rfl ?_
          refine z_iast h (j := j * 10 + q) 1 rfl (vp_in_nI (by omega) (by omega)) (by rw [nI_clamp (by omega)]) dX4_setMinutes_67 (wW' := [(cm 0, .inr (5, [.int 0, .int (nI pl), .ref (cm 1), .ref (cm 2), .ref (cm 3), .int (nI dy), .int (nI n), .ref (cm 4), .ref (cm 5), .ref (cm 6), .ref (cm 7), .ref (cm 8), .ref (cm 9), .ref (cm 10), .ref (cm 11), .ref (cm 12), .ref (cm 13), .ref (cm 14), .ref (cm 15), .int (nI sn), .ref (cm 16)])), (cm 1, .inl (g.2.1, 100, .inl (upd fm (j * 10 + q) v)))]) rfl ?_
          refine z_aload_n h dX4_setMinutes_68 rfl 0 rfl ?_
          refine z_get h in_X4_setMinutes_X4 0 rfl rfl 2 (by decide) lk_X4_setMinutes_f13 rfl dX4_setMinutes_69 ?_
          refine z_bipush h (v := 10) dX4_setMinutes_72 (by decide) ?_
          refine z_iload_n h dX4_setMinutes_74 rfl 2 rfl ?_
          refine z_imul h dX4_setMinutes_75 ?_
          refine z_iload_n h dX4_setMinutes_76 rfl 1 rfl ?_
          refine z_iadd h dX4_setMinutes_77 ?_
          refine z_topi (y := nI (q * 10 + j)) (ix10' q j) ?_
          refine z_iload_n h dX4_setMinutes_78 rfl 3 rfl ?_
          refine z_iast h (j := q * 10 + j) 1 rfl (vp_in_nI (by omega) (by omega)) (by rw [nI_clamp (by omega)]) dX4_setMinutes_79 (wW' := [(cm 0, .inr (5, [.int 0, .int (nI pl), .ref (cm 1), .ref (cm 2), .ref (cm 3), .int (nI dy), .int (nI n), .ref (cm 4), .ref (cm 5), .ref (cm 6), .ref (cm 7), .ref (cm 8), .ref (cm 9), .ref (cm 10), .ref (cm 11), .ref (cm 12), .ref (cm 13), .ref (cm 14), .ref (cm 15), .int (nI sn), .ref (cm 16)])), (cm 1, .inl (g.2.1, 100, .inl (upd (upd fm (j * 10 + q) v) (q * 10 + j) v)))]) rfl ?_
          refine z_iload h dX4_setMinutes_80 4 rfl ?_
          exact fin _ _ _ () _ _ _ _ dX4_setMinutes_82 rfl (fun _ => by rw [h_51, cj, cq]) (by rw [hk, cj, cq]; rfl) (Nat.le_of_ble_eq_true rfl) (Nat.le_of_ble_eq_true rfl)
        · have fv : okR 1 120 v = false := b01_0 h_36 c_39
          have hk : kSetMin pl x y v = 2 := by first | exact ksm_2 hx hy c_29 | exact ksm_2' hx hy fv
          refine z_aload_n h dX4_setMinutes_42 rfl 0 rfl ?_
          refine z_iconst h (v := 2) dX4_setMinutes_43 (by decide) ?_
          refine z_Vi h (As := [.int 2]) (st := []) (fun sz => m_X4_fail l g cm 0 pl dy n sn 2  sz) (cwV 1 h.ts gX4_setMinutes_X4_fail rfl rfl rfl (by decide +kernel) ⟨Nat.le_of_ble_eq_true rfl, Nat.le_of_ble_eq_true rfl⟩) rfl [0] [] rfl rfl rfl rfl 0 rfl rfl rfl rfl (Nat.le_of_ble_eq_true rfl) ⟨(Nat.le_of_ble_eq_true rfl), (Nat.le_of_ble_eq_true rfl)⟩ (fun _ => (Nat.le_of_ble_eq_true rfl)) (wN := fun u => [(cm 0, .inr (5, [.int 2, .int (nI pl), .ref (cm 1), .ref (cm 2), .ref (cm 3), .int (nI dy), .int (nI n), .ref (cm 4), .ref (cm 5), .ref (cm 6), .ref (cm 7), .ref (cm 8), .ref (cm 9), .ref (cm 10), .ref (cm 11), .ref (cm 12), .ref (cm 13), .ref (cm 14), .ref (cm 15), .int (nI sn), .ref (cm 16)])), (cm 1, .inl (g.2.1, 100, .inl fm))]) (fun _ => rfl) dX4_setMinutes_44 (fun r_44 u_44 h_44 => ?_)
          exact fin _ _ _ () _ _ _ _ dX4_setMinutes_47 rfl (fun q => absurd (hk.symm.trans q) (by decide)) (by rw [hk]; rfl) (Nat.le_of_ble_eq_true rfl) (Nat.le_of_ble_eq_true rfl)
    · have fy : okI pl y = false := b01_0 h_15 c_18
      have hk : kSetMin pl x y v = 1 := by first | exact ksm_1 fx | exact ksm_1' fy
      refine z_aload_n h dX4_setMinutes_21 rfl 0 rfl ?_
      refine z_iconst h (v := 1) dX4_setMinutes_22 (by decide) ?_
      refine z_Vi h (As := [.int 1]) (st := []) (fun sz => m_X4_fail l g cm 0 pl dy n sn 1  sz) (cwV 1 h.ts gX4_setMinutes_X4_fail rfl rfl rfl (by decide +kernel) ⟨Nat.le_of_ble_eq_true rfl, Nat.le_of_ble_eq_true rfl⟩) rfl [0] [] rfl rfl rfl rfl 0 rfl rfl rfl rfl (Nat.le_of_ble_eq_true rfl) ⟨(Nat.le_of_ble_eq_true rfl), (Nat.le_of_ble_eq_true rfl)⟩ (fun _ => (Nat.le_of_ble_eq_true rfl)) (wN := fun u => [(cm 0, .inr (5, [.int 1, .int (nI pl), .ref (cm 1), .ref (cm 2), .ref (cm 3), .int (nI dy), .int (nI n), .ref (cm 4), .ref (cm 5), .ref (cm 6), .ref (cm 7), .ref (cm 8), .ref (cm 9), .ref (cm 10), .ref (cm 11), .ref (cm 12), .ref (cm 13), .ref (cm 14), .ref (cm 15), .int (nI sn), .ref (cm 16)])), (cm 1, .inl (g.2.1, 100, .inl fm))]) (fun _ => rfl) dX4_setMinutes_23 (fun r_23 u_23 h_23 => ?_)
      exact fin _ _ _ () _ _ _ _ dX4_setMinutes_26 rfl (fun q => absurd (hk.symm.trans q) (by decide)) (by rw [hk]; rfl) (Nat.le_of_ble_eq_true rfl) (Nat.le_of_ble_eq_true rfl)
abbrev rmX4_setHoliday : Room := { frames := 1, cells := 0, slots := 0, locals := 22 }
set_option maxHeartbeats 4000000 in
set_option maxRecDepth 100000 in
theorem m_X4_setHoliday (l : Launch) (g : Gx) (cm : Nat → Nat) (th : Int32) (pl : Nat) (dy : Nat) (n : Nat) (sn : Nat) (hf : Nat → Int32) (x : Int32) (b : Int32) (hH : ∀ j, hf j = 0 ∨ hf j = 1) (sz : Nat) : Met l yX4_setHoliday wsX4_setHoliday rmX4_setHoliday (PZ g [.ref (cm 0), .int x, .int b] sz [(cm 0, .inr (5, [.int th, .int (nI pl), .ref (cm 1), .ref (cm 2), .ref (cm 3), .int (nI dy), .int (nI n), .ref (cm 4), .ref (cm 5), .ref (cm 6), .ref (cm 7), .ref (cm 8), .ref (cm 9), .ref (cm 10), .ref (cm 11), .ref (cm 12), .ref (cm 13), .ref (cm 14), .ref (cm 15), .int (nI sn), .ref (cm 16)])), (cm 3, .inl (g.2.2.2.1, 400, .inl hf))] []) (va_Qi (fun (r : Int32) (_ : Unit) => okI 400 x = true → r = hf x.toNatClampNeg) (BZ g [(cm 0, .inr (5, [.int th, .int (nI pl), .ref (cm 1), .ref (cm 2), .ref (cm 3), .int (nI dy), .int (nI n), .ref (cm 4), .ref (cm 5), .ref (cm 6), .ref (cm 7), .ref (cm 8), .ref (cm 9), .ref (cm 10), .ref (cm 11), .ref (cm 12), .ref (cm 13), .ref (cm 14), .ref (cm 15), .int (nI sn), .ref (cm 16)])), (cm 3, .inl (g.2.2.2.1, 400, .inl hf))] sz (fun (u : Unit) => [(cm 0, .inr (5, [.int (if okI 400 x = true then 0 else 1), .int (nI pl), .ref (cm 1), .ref (cm 2), .ref (cm 3), .int (nI dy), .int (nI n), .ref (cm 4), .ref (cm 5), .ref (cm 6), .ref (cm 7), .ref (cm 8), .ref (cm 9), .ref (cm 10), .ref (cm 11), .ref (cm 12), .ref (cm 13), .ref (cm 14), .ref (cm 15), .int (nI sn), .ref (cm 16)])), (cm 3, .inl (g.2.2.2.1, 400, .inl (if okI 400 x = true then upd hf x.toNatClampNeg (vp_nar .boolean b) else hf)))])) (va_A [(cm 0, .inr (5, [.int th, .int (nI pl), .ref (cm 1), .ref (cm 2), .ref (cm 3), .int (nI dy), .int (nI n), .ref (cm 4), .ref (cm 5), .ref (cm 6), .ref (cm 7), .ref (cm 8), .ref (cm 9), .ref (cm 10), .ref (cm 11), .ref (cm 12), .ref (cm 13), .ref (cm 14), .ref (cm 15), .int (nI sn), .ref (cm 16)])), (cm 3, .inl (g.2.2.2.1, 400, .inl hf))] sz)) 0 0 (va_A [(cm 0, .inr (5, [.int th, .int (nI pl), .ref (cm 1), .ref (cm 2), .ref (cm 3), .int (nI dy), .int (nI n), .ref (cm 4), .ref (cm 5), .ref (cm 6), .ref (cm 7), .ref (cm 8), .ref (cm 9), .ref (cm 10), .ref (cm 11), .ref (cm 12), .ref (cm 13), .ref (cm 14), .ref (cm 15), .int (nI sn), .ref (cm 16)])), (cm 3, .inl (g.2.2.2.1, 400, .inl hf))] sz) := by
  refine z_open_i (cc := cX4_setHoliday) (maxL := 4) (ret := .boolean) (own := RX4) (by decide) rfl rfl (Nat.le_of_ble_eq_true rfl) ?_
  intro p e s m args below meth c Q h hnm fin
  generalize hAe : va_A [(cm 0, .inr (5, [.int th, .int (nI pl), .ref (cm 1), .ref (cm 2), .ref (cm 3), .int (nI dy), .int (nI n), .ref (cm 4), .ref (cm 5), .ref (cm 6), .ref (cm 7), .ref (cm 8), .ref (cm 9), .ref (cm 10), .ref (cm 11), .ref (cm 12), .ref (cm 13), .ref (cm 14), .ref (cm 15), .int (nI sn), .ref (cm 16)])), (cm 3, .inl (g.2.2.2.1, 400, .inl hf))] s.heap.size = A at h fin ⊢
  refine z_lve (lv' := [(0, .ref (cm 0)), (1, .int x), (2, .int b)]) rfl ?_
  refine z_aload_n h dX4_setHoliday_0 rfl 0 rfl ?_
  refine z_iload_n h dX4_setHoliday_1 rfl 1 rfl ?_
  refine z_iconst h (v := 0) dX4_setHoliday_2 (by decide) ?_
  refine z_sipush h (v := 399) dX4_setHoliday_3 (by decide) ?_
  refine z_Si h (b := 0) (C := "") (As := [.int x, .int 0, .int 399]) (st := [.ref (cm 0)]) (fun sz => m_X4_isIn l g x 0 399  sz) (va_cwS 3 h.ts gX4_setHoliday_X4_isIn rfl rfl rfl (by decide +kernel) ⟨Nat.le_of_ble_eq_true rfl, Nat.le_of_ble_eq_true rfl⟩) rfl [] [] rfl rfl rfl rfl rfl (Nat.le_of_ble_eq_true rfl) ⟨(Nat.le_of_ble_eq_true rfl), (Nat.le_of_ble_eq_true rfl)⟩ (fun _ => (Nat.le_of_ble_eq_true rfl)) (wN := fun u => [(cm 0, .inr (5, [.int th, .int (nI pl), .ref (cm 1), .ref (cm 2), .ref (cm 3), .int (nI dy), .int (nI n), .ref (cm 4), .ref (cm 5), .ref (cm 6), .ref (cm 7), .ref (cm 8), .ref (cm 9), .ref (cm 10), .ref (cm 11), .ref (cm 12), .ref (cm 13), .ref (cm 14), .ref (cm 15), .int (nI sn), .ref (cm 16)])), (cm 3, .inl (g.2.2.2.1, 400, .inl hf))]) (fun _ => rfl) dX4_setHoliday_6 (fun r_6 u_6 h_6 => ?_)
  rw [okRI400] at h_6
  refine z_if_eq h (tgt := 16) dX4_setHoliday_9 (by decide) (fun c_9 => ?_) (fun c_9 => ?_)
  · have fx : okI 400 x = false := b01_0 h_6 c_9
    refine z_iconst h (v := 1) dX4_setHoliday_16 (by decide) ?_
    refine z_put h in_X4_setHoliday_X4 0 tyX4 tyX4_ok nmX4 rfl rfl 0 (by decide) lk_X4_setHoliday_f64 rfl rfl rfl (Nat.le_of_ble_eq_true rfl) dX4_setHoliday_17 (wW' := [(cm 0, .inr (5, [.int 1, .int (nI pl), .ref (cm 1), .ref (cm 2), .ref (cm 3), .int (nI dy), .int (nI n), .ref (cm 4), .ref (cm 5), .ref (cm 6), .ref (cm 7), .ref (cm 8), .ref (cm 9), .ref (cm 10), .ref (cm 11), .ref (cm 12), .ref (cm 13), .ref (cm 14), .ref (cm 15), .int (nI sn), .ref (cm 16)])), (cm 3, .inl (g.2.2.2.1, 400, .inl hf))]) rfl ?_
    refine z_aload_n h dX4_setHoliday_20 rfl 0 rfl ?_
    refine z_get h in_X4_setHoliday_X4 0 rfl rfl 0 (by decide) lk_X4_setHoliday_f64 rfl dX4_setHoliday_21 ?_
    refine z_if_eq h (tgt := 29) dX4_setHoliday_24 (by decide) (fun c_24 => absurd c_24 (by decide)) (fun c_24 => ?_)
    refine z_iconst h (v := 0) dX4_setHoliday_27 (by decide) ?_
    exact fin _ _ _ () _ _ _ _ dX4_setHoliday_28 rfl (fun q => absurd (fx.symm.trans q) (by decide)) (by rw [fx]; rfl) (Nat.le_of_ble_eq_true rfl) (Nat.le_of_ble_eq_true rfl)
  · have hx : okI 400 x = true := b01_1 h_6 c_9
    refine z_iconst h (v := 0) dX4_setHoliday_12 (by decide) ?_
    refine z_goto h (tgt := 17) dX4_setHoliday_13 (by decide) ?_
    refine z_put h in_X4_setHoliday_X4 0 tyX4 tyX4_ok nmX4 rfl rfl 0 (by decide) lk_X4_setHoliday_f64 rfl rfl rfl (Nat.le_of_ble_eq_true rfl) dX4_setHoliday_17 (wW' := [(cm 0, .inr (5, [.int 0, .int (nI pl), .ref (cm 1), .ref (cm 2), .ref (cm 3), .int (nI dy), .int (nI n), .ref (cm 4), .ref (cm 5), .ref (cm 6), .ref (cm 7), .ref (cm 8), .ref (cm 9), .ref (cm 10), .ref (cm 11), .ref (cm 12), .ref (cm 13), .ref (cm 14), .ref (cm 15), .int (nI sn), .ref (cm 16)])), (cm 3, .inl (g.2.2.2.1, 400, .inl hf))]) rfl ?_
    refine z_aload_n h dX4_setHoliday_20 rfl 0 rfl ?_
    refine z_get h in_X4_setHoliday_X4 0 rfl rfl 0 (by decide) lk_X4_setHoliday_f64 rfl dX4_setHoliday_21 ?_
    refine z_if_eq h (tgt := 29) dX4_setHoliday_24 (by decide) (fun c_24 => ?_) (fun c_24 => absurd c_24 (by decide))
    have hk := hx
    obtain ⟨j, hj, rfl⟩ := okI_of hx (by omega)
    have cj : (nI j).toNatClampNeg = j := nI_clamp (by omega)
    refine z_aload_n h dX4_setHoliday_29 rfl 0 rfl ?_
    refine z_get h in_X4_setHoliday_X4 0 rfl rfl 4 (by decide) lk_X4_setHoliday_f20 rfl dX4_setHoliday_30 ?_
    refine z_iload_n h dX4_setHoliday_33 rfl 1 rfl ?_
    refine z_zald h 1 rfl (vp_in_nI (by omega) (by omega)) dX4_setHoliday_34 (v := hf j) (by rw [nI_clamp (by omega)]) ?_
    refine z_istore_n h dX4_setHoliday_35 rfl (by decide) (lv' := [(0, .ref (cm 0)), (1, .int (nI j)), (2, .int b), (3, .int (hf j))]) [1, 2, 3, 0] rfl ?_
    refine z_aload_n h dX4_setHoliday_36 rfl 0 rfl ?_
    refine z_get h in_X4_setHoliday_X4 0 rfl rfl 4 (by decide) lk_X4_setHoliday_f20 rfl dX4_setHoliday_37 ?_
    refine z_iload_n h dX4_setHoliday_40 rfl 1 rfl ?_
    refine z_iload_n h dX4_setHoliday_41 rfl 2 rfl ?_
    refine z_zast h (j := j) 1 rfl (vp_in_nI (by omega) (by omega)) (by rw [nI_clamp (by omega)]) dX4_setHoliday_42 (wW' := [(cm 0, .inr (5, [.int 0, .int (nI pl), .ref (cm 1), .ref (cm 2), .ref (cm 3), .int (nI dy), .int (nI n), .ref (cm 4), .ref (cm 5), .ref (cm 6), .ref (cm 7), .ref (cm 8), .ref (cm 9), .ref (cm 10), .ref (cm 11), .ref (cm 12), .ref (cm 13), .ref (cm 14), .ref (cm 15), .int (nI sn), .ref (cm 16)])), (cm 3, .inl (g.2.2.2.1, 400, .inl (upd hf j (vp_nar .boolean b))))]) rfl ?_
    refine z_iload_n h dX4_setHoliday_43 rfl 3 rfl ?_
    exact fin _ _ _ () _ _ _ _ dX4_setHoliday_44 (by rcases hH j with q | q <;> rw [q] <;> rfl) (fun _ => by rw [cj]) (by rw [hk, cj]; rfl) (Nat.le_of_ble_eq_true rfl) (Nat.le_of_ble_eq_true rfl)
abbrev rmX4_today : Room := { frames := 0, cells := 0, slots := 0, locals := 0 }
set_option maxHeartbeats 4000000 in
set_option maxRecDepth 100000 in
theorem m_X4_today (l : Launch) (g : Gx) (cm : Nat → Nat) (th : Int32) (pl : Nat) (dy : Nat) (n : Nat) (sn : Nat)  (sz : Nat) : Met l yX4_today wsX4_today rmX4_today (PZ g [.ref (cm 0)] sz [(cm 0, .inr (5, [.int th, .int (nI pl), .ref (cm 1), .ref (cm 2), .ref (cm 3), .int (nI dy), .int (nI n), .ref (cm 4), .ref (cm 5), .ref (cm 6), .ref (cm 7), .ref (cm 8), .ref (cm 9), .ref (cm 10), .ref (cm 11), .ref (cm 12), .ref (cm 13), .ref (cm 14), .ref (cm 15), .int (nI sn), .ref (cm 16)]))] []) (va_Qi (fun (r : Int32) (_ : Unit) => r = nI dy) (BZ g [(cm 0, .inr (5, [.int th, .int (nI pl), .ref (cm 1), .ref (cm 2), .ref (cm 3), .int (nI dy), .int (nI n), .ref (cm 4), .ref (cm 5), .ref (cm 6), .ref (cm 7), .ref (cm 8), .ref (cm 9), .ref (cm 10), .ref (cm 11), .ref (cm 12), .ref (cm 13), .ref (cm 14), .ref (cm 15), .int (nI sn), .ref (cm 16)]))] sz (fun (u : Unit) => [(cm 0, .inr (5, [.int 0, .int (nI pl), .ref (cm 1), .ref (cm 2), .ref (cm 3), .int (nI dy), .int (nI n), .ref (cm 4), .ref (cm 5), .ref (cm 6), .ref (cm 7), .ref (cm 8), .ref (cm 9), .ref (cm 10), .ref (cm 11), .ref (cm 12), .ref (cm 13), .ref (cm 14), .ref (cm 15), .int (nI sn), .ref (cm 16)]))])) (va_A [(cm 0, .inr (5, [.int th, .int (nI pl), .ref (cm 1), .ref (cm 2), .ref (cm 3), .int (nI dy), .int (nI n), .ref (cm 4), .ref (cm 5), .ref (cm 6), .ref (cm 7), .ref (cm 8), .ref (cm 9), .ref (cm 10), .ref (cm 11), .ref (cm 12), .ref (cm 13), .ref (cm 14), .ref (cm 15), .int (nI sn), .ref (cm 16)]))] sz)) 0 0 (va_A [(cm 0, .inr (5, [.int th, .int (nI pl), .ref (cm 1), .ref (cm 2), .ref (cm 3), .int (nI dy), .int (nI n), .ref (cm 4), .ref (cm 5), .ref (cm 6), .ref (cm 7), .ref (cm 8), .ref (cm 9), .ref (cm 10), .ref (cm 11), .ref (cm 12), .ref (cm 13), .ref (cm 14), .ref (cm 15), .int (nI sn), .ref (cm 16)]))] sz) := by
  refine z_open_i (cc := cX4_today) (maxL := 1) (ret := .int) (own := RX4) (by decide) rfl rfl (Nat.le_of_ble_eq_true rfl) ?_
  intro p e s m args below meth c Q h hnm fin
  generalize hAe : va_A [(cm 0, .inr (5, [.int th, .int (nI pl), .ref (cm 1), .ref (cm 2), .ref (cm 3), .int (nI dy), .int (nI n), .ref (cm 4), .ref (cm 5), .ref (cm 6), .ref (cm 7), .ref (cm 8), .ref (cm 9), .ref (cm 10), .ref (cm 11), .ref (cm 12), .ref (cm 13), .ref (cm 14), .ref (cm 15), .int (nI sn), .ref (cm 16)]))] s.heap.size = A at h fin ⊢
  refine z_lve (lv' := [(0, .ref (cm 0))]) rfl ?_
  refine z_aload_n h dX4_today_0 rfl 0 rfl ?_
  refine z_iconst h (v := 0) dX4_today_1 (by decide) ?_
  refine z_put h in_X4_today_X4 0 tyX4 tyX4_ok nmX4 rfl rfl 0 (by decide) lk_X4_today_f64 rfl rfl rfl (Nat.le_of_ble_eq_true rfl) dX4_today_2 (wW' := [(cm 0, .inr (5, [.int 0, .int (nI pl), .ref (cm 1), .ref (cm 2), .ref (cm 3), .int (nI dy), .int (nI n), .ref (cm 4), .ref (cm 5), .ref (cm 6), .ref (cm 7), .ref (cm 8), .ref (cm 9), .ref (cm 10), .ref (cm 11), .ref (cm 12), .ref (cm 13), .ref (cm 14), .ref (cm 15), .int (nI sn), .ref (cm 16)]))]) rfl ?_
  refine z_aload_n h dX4_today_5 rfl 0 rfl ?_
  refine z_get h in_X4_today_X4 0 rfl rfl 5 (by decide) lk_X4_today_f93 rfl dX4_today_6 ?_
  exact fin _ _ _ () _ _ _ _ dX4_today_9 rfl rfl rfl (Nat.le_of_ble_eq_true rfl) (Nat.le_of_ble_eq_true rfl)
abbrev rmX4_binCount : Room := { frames := 0, cells := 0, slots := 0, locals := 0 }
set_option maxHeartbeats 4000000 in
set_option maxRecDepth 100000 in
theorem m_X4_binCount (l : Launch) (g : Gx) (cm : Nat → Nat) (th : Int32) (pl : Nat) (dy : Nat) (n : Nat) (sn : Nat)  (sz : Nat) : Met l yX4_binCount wsX4_binCount rmX4_binCount (PZ g [.ref (cm 0)] sz [(cm 0, .inr (5, [.int th, .int (nI pl), .ref (cm 1), .ref (cm 2), .ref (cm 3), .int (nI dy), .int (nI n), .ref (cm 4), .ref (cm 5), .ref (cm 6), .ref (cm 7), .ref (cm 8), .ref (cm 9), .ref (cm 10), .ref (cm 11), .ref (cm 12), .ref (cm 13), .ref (cm 14), .ref (cm 15), .int (nI sn), .ref (cm 16)]))] []) (va_Qi (fun (r : Int32) (_ : Unit) => r = nI n) (BZ g [(cm 0, .inr (5, [.int th, .int (nI pl), .ref (cm 1), .ref (cm 2), .ref (cm 3), .int (nI dy), .int (nI n), .ref (cm 4), .ref (cm 5), .ref (cm 6), .ref (cm 7), .ref (cm 8), .ref (cm 9), .ref (cm 10), .ref (cm 11), .ref (cm 12), .ref (cm 13), .ref (cm 14), .ref (cm 15), .int (nI sn), .ref (cm 16)]))] sz (fun (u : Unit) => [(cm 0, .inr (5, [.int 0, .int (nI pl), .ref (cm 1), .ref (cm 2), .ref (cm 3), .int (nI dy), .int (nI n), .ref (cm 4), .ref (cm 5), .ref (cm 6), .ref (cm 7), .ref (cm 8), .ref (cm 9), .ref (cm 10), .ref (cm 11), .ref (cm 12), .ref (cm 13), .ref (cm 14), .ref (cm 15), .int (nI sn), .ref (cm 16)]))])) (va_A [(cm 0, .inr (5, [.int th, .int (nI pl), .ref (cm 1), .ref (cm 2), .ref (cm 3), .int (nI dy), .int (nI n), .ref (cm 4), .ref (cm 5), .ref (cm 6), .ref (cm 7), .ref (cm 8), .ref (cm 9), .ref (cm 10), .ref (cm 11), .ref (cm 12), .ref (cm 13), .ref (cm 14), .ref (cm 15), .int (nI sn), .ref (cm 16)]))] sz)) 0 0 (va_A [(cm 0, .inr (5, [.int th, .int (nI pl), .ref (cm 1), .ref (cm 2), .ref (cm 3), .int (nI dy), .int (nI n), .ref (cm 4), .ref (cm 5), .ref (cm 6), .ref (cm 7), .ref (cm 8), .ref (cm 9), .ref (cm 10), .ref (cm 11), .ref (cm 12), .ref (cm 13), .ref (cm 14), .ref (cm 15), .int (nI sn), .ref (cm 16)]))] sz) := by
  refine z_open_i (cc := cX4_binCount) (maxL := 1) (ret := .int) (own := RX4) (by decide) rfl rfl (Nat.le_of_ble_eq_true rfl) ?_
  intro p e s m args below meth c Q h hnm fin
  generalize hAe : va_A [(cm 0, .inr (5, [.int th, .int (nI pl), .ref (cm 1), .ref (cm 2), .ref (cm 3), .int (nI dy), .int (nI n), .ref (cm 4), .ref (cm 5), .ref (cm 6), .ref (cm 7), .ref (cm 8), .ref (cm 9), .ref (cm 10), .ref (cm 11), .ref (cm 12), .ref (cm 13), .ref (cm 14), .ref (cm 15), .int (nI sn), .ref (cm 16)]))] s.heap.size = A at h fin ⊢
  refine z_lve (lv' := [(0, .ref (cm 0))]) rfl ?_
  refine z_aload_n h dX4_binCount_0 rfl 0 rfl ?_
  refine z_iconst h (v := 0) dX4_binCount_1 (by decide) ?_
  refine z_put h in_X4_binCount_X4 0 tyX4 tyX4_ok nmX4 rfl rfl 0 (by decide) lk_X4_binCount_f64 rfl rfl rfl (Nat.le_of_ble_eq_true rfl) dX4_binCount_2 (wW' := [(cm 0, .inr (5, [.int 0, .int (nI pl), .ref (cm 1), .ref (cm 2), .ref (cm 3), .int (nI dy), .int (nI n), .ref (cm 4), .ref (cm 5), .ref (cm 6), .ref (cm 7), .ref (cm 8), .ref (cm 9), .ref (cm 10), .ref (cm 11), .ref (cm 12), .ref (cm 13), .ref (cm 14), .ref (cm 15), .int (nI sn), .ref (cm 16)]))]) rfl ?_
  refine z_aload_n h dX4_binCount_5 rfl 0 rfl ?_
  refine z_get h in_X4_binCount_X4 0 rfl rfl 6 (by decide) lk_X4_binCount_f71 rfl dX4_binCount_6 ?_
  exact fin _ _ _ () _ _ _ _ dX4_binCount_9 rfl rfl rfl (Nat.le_of_ble_eq_true rfl) (Nat.le_of_ble_eq_true rfl)
abbrev rmX4_workday : Room := { frames := 0, cells := 0, slots := 0, locals := 0 }
set_option maxHeartbeats 4000000 in
set_option maxRecDepth 100000 in
theorem m_X4_workday (l : Launch) (g : Gx) (cm : Nat → Nat) (th : Int32) (pl : Nat) (dy : Nat) (n : Nat) (sn : Nat) (hf : Nat → Int32) (hdy : dy ≤ 399) (sz : Nat) : Met l yX4_workday wsX4_workday rmX4_workday (PZ g [.ref (cm 0)] sz [] [(cm 0, .inr (5, [.int th, .int (nI pl), .ref (cm 1), .ref (cm 2), .ref (cm 3), .int (nI dy), .int (nI n), .ref (cm 4), .ref (cm 5), .ref (cm 6), .ref (cm 7), .ref (cm 8), .ref (cm 9), .ref (cm 10), .ref (cm 11), .ref (cm 12), .ref (cm 13), .ref (cm 14), .ref (cm 15), .int (nI sn), .ref (cm 16)])), (cm 3, .inl (g.2.2.2.1, 400, .inl hf))]) (va_Qi (fun (r : Int32) (_ : Unit) => r = nI (nwd hf dy)) (BZ g [] sz (fun (u : Unit) => [])) (va_A [] sz)) 0 0 (va_A [] sz) := by
  refine z_open_i (cc := cX4_workday) (maxL := 2) (ret := .int) (own := RX4) (by decide) rfl rfl (Nat.le_of_ble_eq_true rfl) ?_
  intro p e s m args below meth c Q h hnm fin
  generalize hAe : va_A [] s.heap.size = A at h fin ⊢
  refine z_lve (lv' := [(0, .ref (cm 0))]) rfl ?_
  refine z_aload_n h dX4_workday_0 rfl 0 rfl ?_
  refine z_get h in_X4_workday_X4 0 rfl rfl 5 (by decide) lk_X4_workday_f93 rfl dX4_workday_1 ?_
  refine z_iconst h (v := 1) dX4_workday_4 (by decide) ?_
  refine z_iadd h dX4_workday_5 ?_
  refine z_topi (y := nI (dy + 1)) (nI_1 dy) ?_
  refine z_istore_n h dX4_workday_6 rfl (by decide) (lv' := [(0, .ref (cm 0)), (1, .int (nI (dy + 1)))]) [1, 0] rfl ?_
  have L7 : ∀ (L7n i : Nat) , i ≤ 400 → 400 < L7n + i → nwF hf (399 - dy) (dy + 1) = nwF hf (400 - i) i → Z p l e rmX4_workday s m args below meth c Q A g 2 7 [(0, .ref (cm 0)), (1, .int (nI i))] [] [] [(cm 0, .inr (5, [.int th, .int (nI pl), .ref (cm 1), .ref (cm 2), .ref (cm 3), .int (nI dy), .int (nI n), .ref (cm 4), .ref (cm 5), .ref (cm 6), .ref (cm 7), .ref (cm 8), .ref (cm 9), .ref (cm 10), .ref (cm 11), .ref (cm 12), .ref (cm 13), .ref (cm 14), .ref (cm 15), .int (nI sn), .ref (cm 16)])), (cm 3, .inl (g.2.2.2.1, 400, .inl hf))] 0 0 := by
    intro L7n
    induction L7n with
    | zero => intro i  hi hL7 e1; exact absurd hL7 (by omega)
    | succ L7n ihL7 =>
      intro i  hi hL7 e1
      refine z_iload_n h dX4_workday_7 rfl 1 rfl ?_
      refine z_sipush h (v := 399) dX4_workday_8 (by decide) ?_
      refine z_icmp_gt h (tgt := 29) dX4_workday_11 (by decide) (fun c_11 => ?_) (fun c_11 => ?_)
      · have hi4 : i = 400 := by have := (nI_ltI (a := 399) (by omega) (by omega)).mp c_11; omega
        subst hi4
        refine z_iload_n h dX4_workday_29 rfl 1 rfl ?_
        exact fin _ _ _ () _ _ _ _ dX4_workday_30 rfl (by first | rw [nwd, e1, nwF_0 (by omega) c_20] | (rw [nwd, e1]; rfl)) rfl (Nat.le_of_ble_eq_true rfl) (Nat.le_of_ble_eq_true rfl)
      · have hlt : i < 400 := by rcases Nat.lt_or_ge 399 i with q | q; exact absurd ((nI_ltI (a := 399) (by omega) (by omega)).mpr q) c_11; omega
        refine z_aload_n h dX4_workday_14 rfl 0 rfl ?_
        refine z_get h in_X4_workday_X4 0 rfl rfl 4 (by decide) lk_X4_workday_f20 rfl dX4_workday_15 ?_
        refine z_iload_n h dX4_workday_18 rfl 1 rfl ?_
        refine z_zald h 1 rfl (vp_in_nI (by omega) (by omega)) dX4_workday_19 (v := hf i) (by rw [nI_clamp (by omega)]) ?_
        refine z_if_eq h (tgt := 29) dX4_workday_20 (by decide) (fun c_20 => ?_) (fun c_20 => ?_)
        · refine z_iload_n h dX4_workday_29 rfl 1 rfl ?_
          exact fin _ _ _ () _ _ _ _ dX4_workday_30 rfl (by first | rw [nwd, e1, nwF_0 (by omega) c_20] | (rw [nwd, e1]; rfl)) rfl (Nat.le_of_ble_eq_true rfl) (Nat.le_of_ble_eq_true rfl)
        · refine z_iinc h (v := nI (i + 1)) dX4_workday_23 (by decide) 1 rfl (by rw [show Int32.ofInt 1 = nI 1 from rfl, nI_add]) (lv' := [(0, .ref (cm 0)), (1, .int (nI (i + 1)))]) [1, 0] rfl ?_
          refine z_goto h (tgt := 7) dX4_workday_26 (by decide) ?_
          exact ihL7 (i + 1)  (by omega) (by omega) (by rw [e1, nwF_1 (by omega) c_20, show 400 - i - 1 = 400 - (i + 1) by omega])
  exact L7 (400 + 1 - (dy + 1)) (dy + 1)  (by omega) (by omega) (by rw [show 400 - (dy + 1) = 399 - dy by omega])
abbrev rmX4_nextWorkday : Room := { frames := 1, cells := 0, slots := 0, locals := 21 }
set_option maxHeartbeats 4000000 in
set_option maxRecDepth 100000 in
theorem m_X4_nextWorkday (l : Launch) (g : Gx) (cm : Nat → Nat) (th : Int32) (pl : Nat) (dy : Nat) (n : Nat) (sn : Nat) (hf : Nat → Int32) (hdy : dy ≤ 399) (sz : Nat) : Met l yX4_nextWorkday wsX4_nextWorkday rmX4_nextWorkday (PZ g [.ref (cm 0)] sz [(cm 0, .inr (5, [.int th, .int (nI pl), .ref (cm 1), .ref (cm 2), .ref (cm 3), .int (nI dy), .int (nI n), .ref (cm 4), .ref (cm 5), .ref (cm 6), .ref (cm 7), .ref (cm 8), .ref (cm 9), .ref (cm 10), .ref (cm 11), .ref (cm 12), .ref (cm 13), .ref (cm 14), .ref (cm 15), .int (nI sn), .ref (cm 16)]))] [(cm 3, .inl (g.2.2.2.1, 400, .inl hf))]) (va_Qi (fun (r : Int32) (_ : Unit) => r = nI (nwd hf dy)) (BZ g [(cm 0, .inr (5, [.int th, .int (nI pl), .ref (cm 1), .ref (cm 2), .ref (cm 3), .int (nI dy), .int (nI n), .ref (cm 4), .ref (cm 5), .ref (cm 6), .ref (cm 7), .ref (cm 8), .ref (cm 9), .ref (cm 10), .ref (cm 11), .ref (cm 12), .ref (cm 13), .ref (cm 14), .ref (cm 15), .int (nI sn), .ref (cm 16)]))] sz (fun (u : Unit) => [(cm 0, .inr (5, [.int 0, .int (nI pl), .ref (cm 1), .ref (cm 2), .ref (cm 3), .int (nI dy), .int (nI n), .ref (cm 4), .ref (cm 5), .ref (cm 6), .ref (cm 7), .ref (cm 8), .ref (cm 9), .ref (cm 10), .ref (cm 11), .ref (cm 12), .ref (cm 13), .ref (cm 14), .ref (cm 15), .int (nI sn), .ref (cm 16)]))])) (va_A [(cm 0, .inr (5, [.int th, .int (nI pl), .ref (cm 1), .ref (cm 2), .ref (cm 3), .int (nI dy), .int (nI n), .ref (cm 4), .ref (cm 5), .ref (cm 6), .ref (cm 7), .ref (cm 8), .ref (cm 9), .ref (cm 10), .ref (cm 11), .ref (cm 12), .ref (cm 13), .ref (cm 14), .ref (cm 15), .int (nI sn), .ref (cm 16)]))] sz)) 0 0 (va_A [(cm 0, .inr (5, [.int th, .int (nI pl), .ref (cm 1), .ref (cm 2), .ref (cm 3), .int (nI dy), .int (nI n), .ref (cm 4), .ref (cm 5), .ref (cm 6), .ref (cm 7), .ref (cm 8), .ref (cm 9), .ref (cm 10), .ref (cm 11), .ref (cm 12), .ref (cm 13), .ref (cm 14), .ref (cm 15), .int (nI sn), .ref (cm 16)]))] sz) := by
  refine z_open_i (cc := cX4_nextWorkday) (maxL := 1) (ret := .int) (own := RX4) (by decide) rfl rfl (Nat.le_of_ble_eq_true rfl) ?_
  intro p e s m args below meth c Q h hnm fin
  generalize hAe : va_A [(cm 0, .inr (5, [.int th, .int (nI pl), .ref (cm 1), .ref (cm 2), .ref (cm 3), .int (nI dy), .int (nI n), .ref (cm 4), .ref (cm 5), .ref (cm 6), .ref (cm 7), .ref (cm 8), .ref (cm 9), .ref (cm 10), .ref (cm 11), .ref (cm 12), .ref (cm 13), .ref (cm 14), .ref (cm 15), .int (nI sn), .ref (cm 16)]))] s.heap.size = A at h fin ⊢
  refine z_lve (lv' := [(0, .ref (cm 0))]) rfl ?_
  refine z_aload_n h dX4_nextWorkday_0 rfl 0 rfl ?_
  refine z_iconst h (v := 0) dX4_nextWorkday_1 (by decide) ?_
  refine z_put h in_X4_nextWorkday_X4 0 tyX4 tyX4_ok nmX4 rfl rfl 0 (by decide) lk_X4_nextWorkday_f64 rfl rfl rfl (Nat.le_of_ble_eq_true rfl) dX4_nextWorkday_2 (wW' := [(cm 0, .inr (5, [.int 0, .int (nI pl), .ref (cm 1), .ref (cm 2), .ref (cm 3), .int (nI dy), .int (nI n), .ref (cm 4), .ref (cm 5), .ref (cm 6), .ref (cm 7), .ref (cm 8), .ref (cm 9), .ref (cm 10), .ref (cm 11), .ref (cm 12), .ref (cm 13), .ref (cm 14), .ref (cm 15), .int (nI sn), .ref (cm 16)]))]) rfl ?_
  refine z_aload_n h dX4_nextWorkday_5 rfl 0 rfl ?_
  refine z_Vi h (As := []) (st := []) (fun sz => m_X4_workday l g cm 0 pl dy n sn hf (by omega) sz) (cwV 0 h.ts gX4_nextWorkday_X4_workday rfl rfl rfl (by decide +kernel) ⟨Nat.le_of_ble_eq_true rfl, Nat.le_of_ble_eq_true rfl⟩) rfl [] [0, 1] rfl rfl rfl rfl 0 rfl rfl rfl rfl (Nat.le_of_ble_eq_true rfl) ⟨(Nat.le_of_ble_eq_true rfl), (Nat.le_of_ble_eq_true rfl)⟩ (fun _ => (Nat.le_of_ble_eq_true rfl)) (wN := fun u => [(cm 0, .inr (5, [.int 0, .int (nI pl), .ref (cm 1), .ref (cm 2), .ref (cm 3), .int (nI dy), .int (nI n), .ref (cm 4), .ref (cm 5), .ref (cm 6), .ref (cm 7), .ref (cm 8), .ref (cm 9), .ref (cm 10), .ref (cm 11), .ref (cm 12), .ref (cm 13), .ref (cm 14), .ref (cm 15), .int (nI sn), .ref (cm 16)]))]) (fun _ => rfl) dX4_nextWorkday_6 (fun r_6 u_6 h_6 => ?_)
  exact fin _ _ _ () _ _ _ _ dX4_nextWorkday_9 rfl h_6 rfl (Nat.le_of_ble_eq_true rfl) (Nat.le_of_ble_eq_true rfl)
