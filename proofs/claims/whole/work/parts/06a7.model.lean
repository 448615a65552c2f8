
theorem in_X4_tour_X4 : ∀ w ∈ wsX40, w ∈ wsX4_tour := by decide +kernel
theorem lk_X4_tour_f117 : Cond.fieldLink RX4 117 (TX4 19).1 (TX4 19).2.1 (TX4 19).2.2.1 ∈ wsX4_tour := by decide +kernel
theorem lk_X4_tour_f24 : Cond.fieldLink RX4 24 (TX4 7).1 (TX4 7).2.1 (TX4 7).2.2.1 ∈ wsX4_tour := by decide +kernel
theorem lk_X4_tour_f36 : Cond.fieldLink RX4 36 (TX4 11).1 (TX4 11).2.1 (TX4 11).2.2.1 ∈ wsX4_tour := by decide +kernel
theorem lk_X4_tour_f48 : Cond.fieldLink RX4 48 (TX4 15).1 (TX4 15).2.1 (TX4 15).2.2.1 ∈ wsX4_tour := by decide +kernel
theorem lk_X4_tour_f51 : Cond.fieldLink RX4 51 (TX4 16).1 (TX4 16).2.1 (TX4 16).2.2.1 ∈ wsX4_tour := by decide +kernel
theorem lk_X4_tour_f54 : Cond.fieldLink RX4 54 (TX4 17).1 (TX4 17).2.1 (TX4 17).2.2.1 ∈ wsX4_tour := by decide +kernel
theorem lk_X4_tour_f61 : Cond.fieldLink RX4 61 (TX4 20).1 (TX4 20).2.1 (TX4 20).2.2.1 ∈ wsX4_tour := by decide +kernel
theorem lk_X4_tour_imin : Cond.initialized "java/lang/Math" ∈ wsX4_tour := by decide +kernel
theorem lk_X4_tour_kmin : Cond.code Lib.Math.min.name Lib.Math.min.code 2 (some .int) ∈ wsX4_tour := by decide +kernel
theorem lk_X4_tour_m111 : Cond.methodLink RX4 111 Lib.Math.min.name ∈ wsX4_tour := by decide +kernel
theorem lk_X4_tour_smin : Cond.static Lib.Math.min.name ∈ wsX4_tour := by decide +kernel
abbrev rmtourD : Room := { frames := 6, cells := 0, slots := 0, locals := 170 }
set_option maxHeartbeats 4000000 in
set_option maxRecDepth 100000 in
theorem m_tourD (l : Launch) (g : Gx) (cm : Nat → Nat) (th : Int32) (pl : Nat) (dy : Nat) (n : Nat) (sn : Nat) (fm : Nat → Int32) (ft : Nat → Int32) (rf : Nat → Int32) (tf : Nat → Int64) (B : Nat → Nat → Int32) (kd : Nat) (cp : Int32) (hpl : pl ≤ 10) (hn : n ≤ 16) (hb : BOK n B) (hr : ROK rf sn n) (hs : sn ≤ 16) (hk : kd < 3) (hfm : FMOK fm) (htp : TIPS ft (nI kd) pl) (hcb : CBK n B) (hc0 : 0 ≤ cp.toInt) (hc1 : cp.toInt ≤ 5000) (hdg : ∀ x, x < 10 → fm (x * 10 + x) = 0) (sz : Nat) : Met l yX4_tour wsX4_tour rmtourD (PZ g [.ref (cm 0), .int (nI kd), .int cp, .int 1] sz [(cm 8, .inl (g.2.1, 16, .inl (col B 4))), (cm 9, .inl (g.2.1, 16, .inl (col B 5))), (cm 10, .inl (g.2.1, 16, .inl (col B 6))), (cm 12, .inl (g.2.1, 16, .inl (col B 8))), (cm 13, .inl (g.2.2.2.1, 16, .inl (col B 9))), (cm 14, .inl (g.2.2.1, 12, .inr (.inl tf)))] [(cm 0, .inr (5, [.int th, .int (nI pl), .ref (cm 1), .ref (cm 2), .ref (cm 3), .int (nI dy), .int (nI n), .ref (cm 4), .ref (cm 5), .ref (cm 6), .ref (cm 7), .ref (cm 8), .ref (cm 9), .ref (cm 10), .ref (cm 11), .ref (cm 12), .ref (cm 13), .ref (cm 14), .ref (cm 15), .int (nI sn), .ref (cm 16)])), (cm 1, .inl (g.2.1, 100, .inl fm)), (cm 2, .inl (g.2.1, 10, .inl ft)), (cm 4, .inl (g.2.1, 16, .inl (col B 0))), (cm 16, .inl (g.2.1, 16, .inl rf))]) (va_Qi (fun (r : Int32) (_ : Unit) => r = (endT fm ft (nI kd) pl (mkF fm ft (nI kd) cp pl dy rf B sn).1).2.2.1) (BZ g [(cm 8, .inl (g.2.1, 16, .inl (col B 4))), (cm 9, .inl (g.2.1, 16, .inl (col B 5))), (cm 10, .inl (g.2.1, 16, .inl (col B 6))), (cm 12, .inl (g.2.1, 16, .inl (col B 8))), (cm 13, .inl (g.2.2.2.1, 16, .inl (col B 9))), (cm 14, .inl (g.2.2.1, 12, .inr (.inl tf)))] sz (fun (u : Unit) => [(cm 8, .inl (g.2.1, 16, .inl (col (mkF fm ft (nI kd) cp pl dy rf B sn).2 4))), (cm 9, .inl (g.2.1, 16, .inl (col (mkF fm ft (nI kd) cp pl dy rf B sn).2 5))), (cm 10, .inl (g.2.1, 16, .inl (col (mkF fm ft (nI kd) cp pl dy rf B sn).2 6))), (cm 12, .inl (g.2.1, 16, .inl (col (mkF fm ft (nI kd) cp pl dy rf B sn).2 8))), (cm 13, .inl (g.2.2.2.1, 16, .inl (col (mkF fm ft (nI kd) cp pl dy rf B sn).2 9))), (cm 14, .inl (g.2.2.1, 12, .inr (.inl (tot4 tf kd (endT fm ft (nI kd) pl (mkF fm ft (nI kd) cp pl dy rf B sn).1)))))])) (va_A [(cm 8, .inl (g.2.1, 16, .inl (col B 4))), (cm 9, .inl (g.2.1, 16, .inl (col B 5))), (cm 10, .inl (g.2.1, 16, .inl (col B 6))), (cm 12, .inl (g.2.1, 16, .inl (col B 8))), (cm 13, .inl (g.2.2.2.1, 16, .inl (col B 9))), (cm 14, .inl (g.2.2.1, 12, .inr (.inl tf)))] sz)) 0 0 (va_A [(cm 8, .inl (g.2.1, 16, .inl (col B 4))), (cm 9, .inl (g.2.1, 16, .inl (col B 5))), (cm 10, .inl (g.2.1, 16, .inl (col B 6))), (cm 12, .inl (g.2.1, 16, .inl (col B 8))), (cm 13, .inl (g.2.2.2.1, 16, .inl (col B 9))), (cm 14, .inl (g.2.2.1, 12, .inr (.inl tf)))] sz) := by
  refine z_open_i (cc := cX4_tour) (maxL := 14) (ret := .int) (own := RX4) (by decide) rfl rfl (Nat.le_of_ble_eq_true rfl) ?_
  intro p e s m args below meth c Q h hnm fin
  generalize hAe : va_A [(cm 8, .inl (g.2.1, 16, .inl (col B 4))), (cm 9, .inl (g.2.1, 16, .inl (col B 5))), (cm 10, .inl (g.2.1, 16, .inl (col B 6))), (cm 12, .inl (g.2.1, 16, .inl (col B 8))), (cm 13, .inl (g.2.2.2.1, 16, .inl (col B 9))), (cm 14, .inl (g.2.2.1, 12, .inr (.inl tf)))] s.heap.size = A at h fin ⊢
  refine z_lve (lv' := [(0, .ref (cm 0)), (1, .int (nI kd)), (2, .int cp), (3, .int 1)]) rfl ?_
  refine z_iconst h (v := 0) dX4_tour_0 (by decide) ?_
  refine z_istore h dX4_tour_1 (by decide) (lv' := [(0, .ref (cm 0)), (1, .int (nI kd)), (2, .int cp), (3, .int 1), (4, .int 0)]) [1, 2, 3, 4, 0] rfl ?_
  refine z_iconst h (v := 0) dX4_tour_3 (by decide) ?_
  refine z_istore h dX4_tour_4 (by decide) (lv' := [(0, .ref (cm 0)), (1, .int (nI kd)), (2, .int cp), (3, .int 1), (4, .int 0), (5, .int 0)]) [1, 2, 3, 4, 5, 0] rfl ?_
  refine z_iconst h (v := 0) dX4_tour_6 (by decide) ?_
  refine z_istore h dX4_tour_7 (by decide) (lv' := [(0, .ref (cm 0)), (1, .int (nI kd)), (2, .int cp), (3, .int 1), (4, .int 0), (5, .int 0), (6, .int 0)]) [1, 2, 3, 4, 5, 6, 0] rfl ?_
  refine z_lconst h (v := 0) dX4_tour_9 (by decide) ?_
  refine z_lstore h dX4_tour_10 (by decide) (lv' := [(0, .ref (cm 0)), (1, .int (nI kd)), (2, .int cp), (3, .int 1), (4, .int 0), (5, .int 0), (6, .int 0), (7, .long 0)]) [1, 2, 3, 4, 5, 6, 7, 0] rfl ?_
  refine z_iconst h (v := 0) dX4_tour_12 (by decide) ?_
  refine z_istore h dX4_tour_13 (by decide) (lv' := [(0, .ref (cm 0)), (1, .int (nI kd)), (2, .int cp), (3, .int 1), (4, .int 0), (5, .int 0), (6, .int 0), (7, .long 0), (9, .int 0)]) [1, 2, 3, 4, 5, 6, 7, 8, 0] rfl ?_
  refine z_iconst h (v := 0) dX4_tour_15 (by decide) ?_
  refine z_istore h dX4_tour_16 (by decide) (lv' := [(0, .ref (cm 0)), (1, .int (nI kd)), (2, .int cp), (3, .int 1), (4, .int 0), (5, .int 0), (6, .int 0), (7, .long 0), (9, .int 0), (10, .int 0)]) [1, 2, 3, 4, 5, 6, 7, 8, 9, 0] rfl ?_
  have L18 : ∀ (L18n i : Nat) (tr : TS) (Bi : Nat → Nat → Int32), i ≤ sn → sn < L18n + i → mkF fm ft (nI kd) cp pl dy rf B i = (tr, Bi) → tr.1 < 10 → LB cp i tr → BOK n Bi → CBK n Bi → (∀ j, Bi j 0 = B j 0) → Z p l e rmtourD s m args below meth c Q A g 14 18 [(0, .ref (cm 0)), (1, .int (nI kd)), (2, .int cp), (3, .int 1), (4, .int tr.2.2.1), (5, .int (nI tr.1)), (6, .int tr.2.1), (7, .long (Int32.toInt64 tr.2.2.2.2)), (9, .int tr.2.2.2.1), (10, .int (nI i))] [] [(cm 8, .inl (g.2.1, 16, .inl (col Bi 4))), (cm 9, .inl (g.2.1, 16, .inl (col Bi 5))), (cm 10, .inl (g.2.1, 16, .inl (col Bi 6))), (cm 12, .inl (g.2.1, 16, .inl (col Bi 8))), (cm 13, .inl (g.2.2.2.1, 16, .inl (col Bi 9))), (cm 14, .inl (g.2.2.1, 12, .inr (.inl tf)))] [(cm 0, .inr (5, [.int th, .int (nI pl), .ref (cm 1), .ref (cm 2), .ref (cm 3), .int (nI dy), .int (nI n), .ref (cm 4), .ref (cm 5), .ref (cm 6), .ref (cm 7), .ref (cm 8), .ref (cm 9), .ref (cm 10), .ref (cm 11), .ref (cm 12), .ref (cm 13), .ref (cm 14), .ref (cm 15), .int (nI sn), .ref (cm 16)])), (cm 1, .inl (g.2.1, 100, .inl fm)), (cm 2, .inl (g.2.1, 10, .inl ft)), (cm 4, .inl (g.2.1, 16, .inl (col B 0))), (cm 16, .inl (g.2.1, 16, .inl rf))] 0 0 := by
    intro L18n
    induction L18n with
    | zero => intro i tr Bi hi hL18 e1 ht hl hbi hci hb0; exact absurd hL18 (by omega)
    | succ L18n ihL18 =>
      intro i tr Bi hi hL18 e1 ht hl hbi hci hb0
      refine z_iload h dX4_tour_18 9 rfl ?_
      refine z_aload_n h dX4_tour_20 rfl 0 rfl ?_
      refine z_get h in_X4_tour_X4 6 rfl rfl 19 (by decide) lk_X4_tour_f117 rfl dX4_tour_21 ?_
      refine z_icmp_ge h (tgt := 226) dX4_tour_24 (by decide) (fun c_24 => ?_) (fun c_24 => ?_)
      · have his : i = sn := by have := ge_t (a := i) (b := sn) c_24 (by omega) (by omega); omega
        subst his
        refine z_iload h dX4_tour_226 6 rfl ?_
        refine z_if_le h (tgt := 242) dX4_tour_228 (by decide) (fun c_228 => ?_) (fun c_228 => ?_)
        · have hz : tr.2.1 = 0 := Int32.toInt_inj.mp (by have := i32_le.mp c_228; have h8 : (0 : Int32).toInt = 0 := rfl; have := hl.1; omega)
          refine z_iload h dX4_tour_242 5 rfl ?_
          refine z_istore h dX4_tour_244 (by decide) (lv' := [(0, .ref (cm 0)), (1, .int (nI kd)), (2, .int cp), (3, .int 1), (4, .int tr.2.2.1), (5, .int (nI tr.1)), (6, .int tr.2.1), (7, .long (Int32.toInt64 tr.2.2.2.2)), (9, .int tr.2.2.2.1), (10, .int (nI tr.1))]) [1, 2, 3, 4, 5, 6, 7, 8, 9, 0] rfl ?_
          refine z_iload h dX4_tour_246 4 rfl ?_
          refine z_aload_n h dX4_tour_248 rfl 0 rfl ?_
          refine z_iload h dX4_tour_249 5 rfl ?_
          refine z_iload h dX4_tour_251 9 rfl ?_
          refine z_Vi h (As := [.int (nI tr.1), .int (nI tr.1)]) (st := [.int tr.2.2.1]) (fun sz => m_X4_drive l g cm th pl dy n i fm tr.1 tr.1 ht (by omega) sz) (cwV 2 h.ts gX4_tour_X4_drive rfl rfl rfl (by decide +kernel) ⟨Nat.le_of_ble_eq_true rfl, Nat.le_of_ble_eq_true rfl⟩) rfl [] [6, 7] rfl rfl rfl rfl 6 rfl rfl rfl rfl (Nat.le_of_ble_eq_true rfl) ⟨(Nat.le_of_ble_eq_true rfl), (Nat.le_of_ble_eq_true rfl)⟩ (fun _ => (Nat.le_of_ble_eq_true rfl)) (wN := fun u => [(cm 8, .inl (g.2.1, 16, .inl (col Bi 4))), (cm 9, .inl (g.2.1, 16, .inl (col Bi 5))), (cm 10, .inl (g.2.1, 16, .inl (col Bi 6))), (cm 12, .inl (g.2.1, 16, .inl (col Bi 8))), (cm 13, .inl (g.2.2.2.1, 16, .inl (col Bi 9))), (cm 14, .inl (g.2.2.1, 12, .inr (.inl tf)))]) (fun _ => rfl) dX4_tour_253 (fun r_253 u_253 h_253 => ?_)
          refine z_aload_n h dX4_tour_256 rfl 0 rfl ?_
          refine z_iload h dX4_tour_257 9 rfl ?_
          refine z_iconst h (v := 0) dX4_tour_259 (by decide) ?_
          refine z_Vi h (As := [.int (nI tr.1), .int 0]) (st := [.int r_253, .int tr.2.2.1]) (fun sz => m_X4_drive l g cm th pl dy n i fm tr.1 0 (by omega) (show 0 < 10 by decide) sz) (cwV 2 h.ts gX4_tour_X4_drive rfl rfl rfl (by decide +kernel) ⟨Nat.le_of_ble_eq_true rfl, Nat.le_of_ble_eq_true rfl⟩) rfl [] [6, 7] rfl rfl rfl rfl 6 rfl rfl rfl rfl (Nat.le_of_ble_eq_true rfl) ⟨(Nat.le_of_ble_eq_true rfl), (Nat.le_of_ble_eq_true rfl)⟩ (fun _ => (Nat.le_of_ble_eq_true rfl)) (wN := fun u => [(cm 8, .inl (g.2.1, 16, .inl (col Bi 4))), (cm 9, .inl (g.2.1, 16, .inl (col Bi 5))), (cm 10, .inl (g.2.1, 16, .inl (col Bi 6))), (cm 12, .inl (g.2.1, 16, .inl (col Bi 8))), (cm 13, .inl (g.2.2.2.1, 16, .inl (col Bi 9))), (cm 14, .inl (g.2.2.1, 12, .inr (.inl tf)))]) (fun _ => rfl) dX4_tour_260 (fun r_260 u_260 h_260 => ?_)
          refine z_iadd h dX4_tour_263 ?_
          refine z_iload h dX4_tour_264 6 rfl ?_
          refine z_if_le h (tgt := 274) dX4_tour_266 (by decide) (fun c_266 => ?_) (fun c_266 => absurd c_228 c_266)
          refine z_iconst h (v := 0) dX4_tour_274 (by decide) ?_
          refine z_iadd h dX4_tour_275 ?_
          refine z_iadd h dX4_tour_276 ?_
          refine z_topi (y := (endT fm ft (nI kd) pl tr).2.2.1) (by first | (rw [h_253, h_260, endT, if_pos c_228, hdg tr.1 ht]; show tr.2.2.1 + ((0 + fm (tr.1 * 10 + 0)) + 0) = tr.2.2.1 + fm (tr.1 * 10 + 0); rw [Int32.zero_add, Int32.add_zero]) | (rw [h_253, h_260, endT, if_neg c_228]; show tr.2.2.1 + (dv2 fm tr.1 0 q2 + 10) = tr.2.2.1 + (ovT fm ft (nI kd) tr.1 0 pl + 10) + fm (0 * 10 + 0); rw [hq3, hdg 0 (by decide), Int32.add_zero])) ?_
          refine z_istore h dX4_tour_277 (by decide) (lv' := [(0, .ref (cm 0)), (1, .int (nI kd)), (2, .int cp), (3, .int 1), (4, .int ((endT fm ft (nI kd) pl tr).2.2.1)), (5, .int (nI tr.1)), (6, .int tr.2.1), (7, .long (Int32.toInt64 tr.2.2.2.2)), (9, .int tr.2.2.2.1), (10, .int (nI tr.1))]) [1, 2, 3, 4, 0, 5, 6, 7, 8, 9] rfl ?_
          refine z_lload h dX4_tour_279 7 rfl ?_
          refine z_iload h dX4_tour_281 6 rfl ?_
          refine z_i2l h dX4_tour_283 ?_
          refine z_ladd h dX4_tour_284 ?_
          refine z_topl (y := Int32.toInt64 (endT fm ft (nI kd) pl tr).2.2.2.2) (by first | (rw [endT, if_pos c_228, hz]; show tr.2.2.2.2.toInt64 + Int32.toInt64 0 = tr.2.2.2.2.toInt64; exact Int64.add_zero _) | (rw [endT, if_neg c_228]; exact (i64_add (by obtain ⟨z1, z2, z3, z4⟩ := hl; omega) (by obtain ⟨z1, z2, z3, z4⟩ := hl; omega)).symm)) ?_
          refine z_lstore h dX4_tour_285 (by decide) (lv' := [(0, .ref (cm 0)), (1, .int (nI kd)), (2, .int cp), (3, .int 1), (4, .int ((endT fm ft (nI kd) pl tr).2.2.1)), (5, .int (nI tr.1)), (6, .int tr.2.1), (7, .long (Int32.toInt64 (endT fm ft (nI kd) pl tr).2.2.2.2)), (9, .int tr.2.2.2.1), (10, .int (nI tr.1))]) [1, 2, 3, 4, 5, 6, 7, 0, 8, 9] rfl ?_
          refine z_iload h dX4_tour_287 8 rfl ?_
          refine z_iload h dX4_tour_289 6 rfl ?_
          refine z_if_le h (tgt := 298) dX4_tour_291 (by decide) (fun c_291 => ?_) (fun c_291 => absurd c_228 c_291)
          refine z_iconst h (v := 0) dX4_tour_298 (by decide) ?_
          refine z_iadd h dX4_tour_299 ?_
          refine z_topi (y := (endT fm ft (nI kd) pl tr).2.2.2.1) (by first | (rw [endT, if_pos c_228, Int32.add_zero]; rfl) | (rw [endT, if_neg c_228]; rfl)) ?_
          refine z_istore h dX4_tour_300 (by decide) (lv' := [(0, .ref (cm 0)), (1, .int (nI kd)), (2, .int cp), (3, .int 1), (4, .int ((endT fm ft (nI kd) pl tr).2.2.1)), (5, .int (nI tr.1)), (6, .int tr.2.1), (7, .long (Int32.toInt64 (endT fm ft (nI kd) pl tr).2.2.2.2)), (9, .int ((endT fm ft (nI kd) pl tr).2.2.2.1)), (10, .int (nI tr.1))]) [1, 2, 3, 4, 5, 6, 7, 8, 0, 9] rfl ?_
          refine z_iload_n h dX4_tour_302 rfl 3 rfl ?_
          refine z_if_ne h (tgt := 309) dX4_tour_303 (by decide) (fun c_303 => ?_) (fun c_303 => absurd c_303 (by decide))
          refine z_aload_n h dX4_tour_309 rfl 0 rfl ?_
          refine z_get h in_X4_tour_X4 6 rfl rfl 17 (by decide) lk_X4_tour_f54 rfl dX4_tour_310 ?_
          refine z_iconst h (v := 4) dX4_tour_313 (by decide) ?_
          refine z_iload_n h dX4_tour_314 rfl 1 rfl ?_
          refine z_imul h dX4_tour_315 ?_
          refine z_topi (y := nI (kd * 4 + 0)) (mul4' kd) ?_
          refine z_dup2 h dX4_tour_316 rfl rfl ?_
          refine z_lald h 5 rfl (vp_in_nI (by omega) (by omega)) dX4_tour_317 (v := tf (kd * 4 + 0)) (by rw [nI_clamp (by omega)]) ?_
          refine z_lload h dX4_tour_318 7 rfl ?_
          refine z_ladd h dX4_tour_320 ?_
          refine z_last h (j := kd * 4 + 0) 5 rfl (vp_in_nI (by omega) (by omega)) (by rw [nI_clamp (by omega)]) dX4_tour_321 (wW' := [(cm 8, .inl (g.2.1, 16, .inl (col Bi 4))), (cm 9, .inl (g.2.1, 16, .inl (col Bi 5))), (cm 10, .inl (g.2.1, 16, .inl (col Bi 6))), (cm 12, .inl (g.2.1, 16, .inl (col Bi 8))), (cm 13, .inl (g.2.2.2.1, 16, .inl (col Bi 9))), (cm 14, .inl (g.2.2.1, 12, .inr (.inl (vp_updL tf (kd * 4 + 0) ((tf (kd * 4 + 0)) + (Int32.toInt64 (endT fm ft (nI kd) pl tr).2.2.2.2))))))]) rfl ?_
          refine z_aload_n h dX4_tour_322 rfl 0 rfl ?_
          refine z_get h in_X4_tour_X4 6 rfl rfl 17 (by decide) lk_X4_tour_f54 rfl dX4_tour_323 ?_
          refine z_iconst h (v := 4) dX4_tour_326 (by decide) ?_
          refine z_iload_n h dX4_tour_327 rfl 1 rfl ?_
          refine z_imul h dX4_tour_328 ?_
          refine z_topi (y := nI (kd * 4)) (mul4' kd) ?_
          refine z_iconst h (v := 1) dX4_tour_329 (by decide) ?_
          refine z_iadd h dX4_tour_330 ?_
          refine z_topi (y := nI (kd * 4 + 1)) (add4 kd 1) ?_
          refine z_dup2 h dX4_tour_331 rfl rfl ?_
          refine z_lald h 5 rfl (vp_in_nI (by omega) (by omega)) dX4_tour_332 (v := (vp_updL tf (kd * 4 + 0) ((tf (kd * 4 + 0)) + (Int32.toInt64 (endT fm ft (nI kd) pl tr).2.2.2.2))) (kd * 4 + 1)) (by rw [nI_clamp (by omega)]) ?_
          refine z_iload h dX4_tour_333 8 rfl ?_
          refine z_i2l h dX4_tour_335 ?_
          refine z_ladd h dX4_tour_336 ?_
          refine z_last h (j := kd * 4 + 1) 5 rfl (vp_in_nI (by omega) (by omega)) (by rw [nI_clamp (by omega)]) dX4_tour_337 (wW' := [(cm 8, .inl (g.2.1, 16, .inl (col Bi 4))), (cm 9, .inl (g.2.1, 16, .inl (col Bi 5))), (cm 10, .inl (g.2.1, 16, .inl (col Bi 6))), (cm 12, .inl (g.2.1, 16, .inl (col Bi 8))), (cm 13, .inl (g.2.2.2.1, 16, .inl (col Bi 9))), (cm 14, .inl (g.2.2.1, 12, .inr (.inl (vp_updL (vp_updL tf (kd * 4 + 0) ((tf (kd * 4 + 0)) + (Int32.toInt64 (endT fm ft (nI kd) pl tr).2.2.2.2))) (kd * 4 + 1) (((vp_updL tf (kd * 4 + 0) ((tf (kd * 4 + 0)) + (Int32.toInt64 (endT fm ft (nI kd) pl tr).2.2.2.2))) (kd * 4 + 1)) + (Int32.toInt64 ((endT fm ft (nI kd) pl tr).2.2.2.1)))))))]) rfl ?_
          refine z_aload_n h dX4_tour_338 rfl 0 rfl ?_
          refine z_get h in_X4_tour_X4 6 rfl rfl 17 (by decide) lk_X4_tour_f54 rfl dX4_tour_339 ?_
          refine z_iconst h (v := 4) dX4_tour_342 (by decide) ?_
          refine z_iload_n h dX4_tour_343 rfl 1 rfl ?_
          refine z_imul h dX4_tour_344 ?_
          refine z_topi (y := nI (kd * 4)) (mul4' kd) ?_
          refine z_iconst h (v := 2) dX4_tour_345 (by decide) ?_
          refine z_iadd h dX4_tour_346 ?_
          refine z_topi (y := nI (kd * 4 + 2)) (add4 kd 2) ?_
          refine z_dup2 h dX4_tour_347 rfl rfl ?_
          refine z_lald h 5 rfl (vp_in_nI (by omega) (by omega)) dX4_tour_348 (v := (vp_updL (vp_updL tf (kd * 4 + 0) ((tf (kd * 4 + 0)) + (Int32.toInt64 (endT fm ft (nI kd) pl tr).2.2.2.2))) (kd * 4 + 1) (((vp_updL tf (kd * 4 + 0) ((tf (kd * 4 + 0)) + (Int32.toInt64 (endT fm ft (nI kd) pl tr).2.2.2.2))) (kd * 4 + 1)) + (Int32.toInt64 ((endT fm ft (nI kd) pl tr).2.2.2.1)))) (kd * 4 + 2)) (by rw [nI_clamp (by omega)]) ?_
          refine z_iload h dX4_tour_349 4 rfl ?_
          refine z_i2l h dX4_tour_351 ?_
          refine z_ladd h dX4_tour_352 ?_
          refine z_last h (j := kd * 4 + 2) 5 rfl (vp_in_nI (by omega) (by omega)) (by rw [nI_clamp (by omega)]) dX4_tour_353 (wW' := [(cm 8, .inl (g.2.1, 16, .inl (col Bi 4))), (cm 9, .inl (g.2.1, 16, .inl (col Bi 5))), (cm 10, .inl (g.2.1, 16, .inl (col Bi 6))), (cm 12, .inl (g.2.1, 16, .inl (col Bi 8))), (cm 13, .inl (g.2.2.2.1, 16, .inl (col Bi 9))), (cm 14, .inl (g.2.2.1, 12, .inr (.inl (vp_updL (vp_updL (vp_updL tf (kd * 4 + 0) ((tf (kd * 4 + 0)) + (Int32.toInt64 (endT fm ft (nI kd) pl tr).2.2.2.2))) (kd * 4 + 1) (((vp_updL tf (kd * 4 + 0) ((tf (kd * 4 + 0)) + (Int32.toInt64 (endT fm ft (nI kd) pl tr).2.2.2.2))) (kd * 4 + 1)) + (Int32.toInt64 ((endT fm ft (nI kd) pl tr).2.2.2.1)))) (kd * 4 + 2) (((vp_updL (vp_updL tf (kd * 4 + 0) ((tf (kd * 4 + 0)) + (Int32.toInt64 (endT fm ft (nI kd) pl tr).2.2.2.2))) (kd * 4 + 1) (((vp_updL tf (kd * 4 + 0) ((tf (kd * 4 + 0)) + (Int32.toInt64 (endT fm ft (nI kd) pl tr).2.2.2.2))) (kd * 4 + 1)) + (Int32.toInt64 ((endT fm ft (nI kd) pl tr).2.2.2.1)))) (kd * 4 + 2)) + (Int32.toInt64 ((endT fm ft (nI kd) pl tr).2.2.1)))))))]) rfl ?_
          refine z_aload_n h dX4_tour_354 rfl 0 rfl ?_
          refine z_get h in_X4_tour_X4 6 rfl rfl 17 (by decide) lk_X4_tour_f54 rfl dX4_tour_355 ?_
          refine z_iconst h (v := 4) dX4_tour_358 (by decide) ?_
          refine z_iload_n h dX4_tour_359 rfl 1 rfl ?_
          refine z_imul h dX4_tour_360 ?_
          refine z_topi (y := nI (kd * 4)) (mul4' kd) ?_
          refine z_iconst h (v := 3) dX4_tour_361 (by decide) ?_
          refine z_iadd h dX4_tour_362 ?_
          refine z_topi (y := nI (kd * 4 + 3)) (add4 kd 3) ?_
          refine z_dup2 h dX4_tour_363 rfl rfl ?_
          refine z_lald h 5 rfl (vp_in_nI (by omega) (by omega)) dX4_tour_364 (v := (vp_updL (vp_updL (vp_updL tf (kd * 4 + 0) ((tf (kd * 4 + 0)) + (Int32.toInt64 (endT fm ft (nI kd) pl tr).2.2.2.2))) (kd * 4 + 1) (((vp_updL tf (kd * 4 + 0) ((tf (kd * 4 + 0)) + (Int32.toInt64 (endT fm ft (nI kd) pl tr).2.2.2.2))) (kd * 4 + 1)) + (Int32.toInt64 ((endT fm ft (nI kd) pl tr).2.2.2.1)))) (kd * 4 + 2) (((vp_updL (vp_updL tf (kd * 4 + 0) ((tf (kd * 4 + 0)) + (Int32.toInt64 (endT fm ft (nI kd) pl tr).2.2.2.2))) (kd * 4 + 1) (((vp_updL tf (kd * 4 + 0) ((tf (kd * 4 + 0)) + (Int32.toInt64 (endT fm ft (nI kd) pl tr).2.2.2.2))) (kd * 4 + 1)) + (Int32.toInt64 ((endT fm ft (nI kd) pl tr).2.2.2.1)))) (kd * 4 + 2)) + (Int32.toInt64 ((endT fm ft (nI kd) pl tr).2.2.1)))) (kd * 4 + 3)) (by rw [nI_clamp (by omega)]) ?_
          refine z_lconst h (v := 1) dX4_tour_365 (by decide) ?_
          refine z_ladd h dX4_tour_366 ?_
          refine z_last h (j := kd * 4 + 3) 5 rfl (vp_in_nI (by omega) (by omega)) (by rw [nI_clamp (by omega)]) dX4_tour_367 (wW' := [(cm 8, .inl (g.2.1, 16, .inl (col Bi 4))), (cm 9, .inl (g.2.1, 16, .inl (col Bi 5))), (cm 10, .inl (g.2.1, 16, .inl (col Bi 6))), (cm 12, .inl (g.2.1, 16, .inl (col Bi 8))), (cm 13, .inl (g.2.2.2.1, 16, .inl (col Bi 9))), (cm 14, .inl (g.2.2.1, 12, .inr (.inl (vp_updL (vp_updL (vp_updL (vp_updL tf (kd * 4 + 0) ((tf (kd * 4 + 0)) + (Int32.toInt64 (endT fm ft (nI kd) pl tr).2.2.2.2))) (kd * 4 + 1) (((vp_updL tf (kd * 4 + 0) ((tf (kd * 4 + 0)) + (Int32.toInt64 (endT fm ft (nI kd) pl tr).2.2.2.2))) (kd * 4 + 1)) + (Int32.toInt64 ((endT fm ft (nI kd) pl tr).2.2.2.1)))) (kd * 4 + 2) (((vp_updL (vp_updL tf (kd * 4 + 0) ((tf (kd * 4 + 0)) + (Int32.toInt64 (endT fm ft (nI kd) pl tr).2.2.2.2))) (kd * 4 + 1) (((vp_updL tf (kd * 4 + 0) ((tf (kd * 4 + 0)) + (Int32.toInt64 (endT fm ft (nI kd) pl tr).2.2.2.2))) (kd * 4 + 1)) + (Int32.toInt64 ((endT fm ft (nI kd) pl tr).2.2.2.1)))) (kd * 4 + 2)) + (Int32.toInt64 ((endT fm ft (nI kd) pl tr).2.2.1)))) (kd * 4 + 3) (((vp_updL (vp_updL (vp_updL tf (kd * 4 + 0) ((tf (kd * 4 + 0)) + (Int32.toInt64 (endT fm ft (nI kd) pl tr).2.2.2.2))) (kd * 4 + 1) (((vp_updL tf (kd * 4 + 0) ((tf (kd * 4 + 0)) + (Int32.toInt64 (endT fm ft (nI kd) pl tr).2.2.2.2))) (kd * 4 + 1)) + (Int32.toInt64 ((endT fm ft (nI kd) pl tr).2.2.2.1)))) (kd * 4 + 2) (((vp_updL (vp_updL tf (kd * 4 + 0) ((tf (kd * 4 + 0)) + (Int32.toInt64 (endT fm ft (nI kd) pl tr).2.2.2.2))) (kd * 4 + 1) (((vp_updL tf (kd * 4 + 0) ((tf (kd * 4 + 0)) + (Int32.toInt64 (endT fm ft (nI kd) pl tr).2.2.2.2))) (kd * 4 + 1)) + (Int32.toInt64 ((endT fm ft (nI kd) pl tr).2.2.2.1)))) (kd * 4 + 2)) + (Int32.toInt64 ((endT fm ft (nI kd) pl tr).2.2.1)))) (kd * 4 + 3)) + 1)))))]) rfl ?_
          refine z_iload h dX4_tour_368 4 rfl ?_
          exact fin _ _ _ () _ _ _ _ dX4_tour_370 rfl (by rw [e1]) (by rw [e1]; rfl) (Nat.le_of_ble_eq_true rfl) (Nat.le_of_ble_eq_true rfl)
        · refine z_aload_n h dX4_tour_231 rfl 0 rfl ?_
          refine z_iload_n h dX4_tour_232 rfl 1 rfl ?_
          refine z_iload h dX4_tour_233 5 rfl ?_
          refine z_iconst h (v := 0) dX4_tour_235 (by decide) ?_
          refine z_Vi h (As := [.int (nI kd), .int (nI tr.1), .int 0]) (st := []) (fun sz => m_X4_tipFor l g cm th pl dy n i fm ft (nI kd) tr.1 0 hpl ht (show 0 < 10 by decide) sz) (cwV 3 h.ts gX4_tour_X4_tipFor rfl rfl rfl (by decide +kernel) ⟨Nat.le_of_ble_eq_true rfl, Nat.le_of_ble_eq_true rfl⟩) rfl [] [6, 7, 8] rfl rfl rfl rfl 6 rfl rfl rfl rfl (Nat.le_of_ble_eq_true rfl) ⟨(Nat.le_of_ble_eq_true rfl), (Nat.le_of_ble_eq_true rfl)⟩ (fun _ => (Nat.le_of_ble_eq_true rfl)) (wN := fun u => [(cm 8, .inl (g.2.1, 16, .inl (col Bi 4))), (cm 9, .inl (g.2.1, 16, .inl (col Bi 5))), (cm 10, .inl (g.2.1, 16, .inl (col Bi 6))), (cm 12, .inl (g.2.1, 16, .inl (col Bi 8))), (cm 13, .inl (g.2.2.2.1, 16, .inl (col Bi 9))), (cm 14, .inl (g.2.2.1, 12, .inr (.inl tf)))]) (fun _ => rfl) dX4_tour_236 (fun r_236 u_236 h_236 => ?_)
          obtain ⟨q2, hq1, hq2, hq3⟩ := tip_is hfm ht (show 0 < 10 by decide) hpl htp h_236
          refine z_topi (y := nI q2) hq2 ?_
          refine z_goto h (tgt := 244) dX4_tour_239 (by decide) ?_
          refine z_istore h dX4_tour_244 (by decide) (lv' := [(0, .ref (cm 0)), (1, .int (nI kd)), (2, .int cp), (3, .int 1), (4, .int tr.2.2.1), (5, .int (nI tr.1)), (6, .int tr.2.1), (7, .long (Int32.toInt64 tr.2.2.2.2)), (9, .int tr.2.2.2.1), (10, .int (nI q2))]) [1, 2, 3, 4, 5, 6, 7, 8, 9, 0] rfl ?_
          refine z_iload h dX4_tour_246 4 rfl ?_
          refine z_aload_n h dX4_tour_248 rfl 0 rfl ?_
          refine z_iload h dX4_tour_249 5 rfl ?_
          refine z_iload h dX4_tour_251 9 rfl ?_
          refine z_Vi h (As := [.int (nI tr.1), .int (nI q2)]) (st := [.int tr.2.2.1]) (fun sz => m_X4_drive l g cm th pl dy n i fm tr.1 q2 ht (by omega) sz) (cwV 2 h.ts gX4_tour_X4_drive rfl rfl rfl (by decide +kernel) ⟨Nat.le_of_ble_eq_true rfl, Nat.le_of_ble_eq_true rfl⟩) rfl [] [6, 7] rfl rfl rfl rfl 6 rfl rfl rfl rfl (Nat.le_of_ble_eq_true rfl) ⟨(Nat.le_of_ble_eq_true rfl), (Nat.le_of_ble_eq_true rfl)⟩ (fun _ => (Nat.le_of_ble_eq_true rfl)) (wN := fun u => [(cm 8, .inl (g.2.1, 16, .inl (col Bi 4))), (cm 9, .inl (g.2.1, 16, .inl (col Bi 5))), (cm 10, .inl (g.2.1, 16, .inl (col Bi 6))), (cm 12, .inl (g.2.1, 16, .inl (col Bi 8))), (cm 13, .inl (g.2.2.2.1, 16, .inl (col Bi 9))), (cm 14, .inl (g.2.2.1, 12, .inr (.inl tf)))]) (fun _ => rfl) dX4_tour_253 (fun r_253 u_253 h_253 => ?_)
          refine z_aload_n h dX4_tour_256 rfl 0 rfl ?_
          refine z_iload h dX4_tour_257 9 rfl ?_
          refine z_iconst h (v := 0) dX4_tour_259 (by decide) ?_
          refine z_Vi h (As := [.int (nI q2), .int 0]) (st := [.int r_253, .int tr.2.2.1]) (fun sz => m_X4_drive l g cm th pl dy n i fm q2 0 (by omega) (show 0 < 10 by decide) sz) (cwV 2 h.ts gX4_tour_X4_drive rfl rfl rfl (by decide +kernel) ⟨Nat.le_of_ble_eq_true rfl, Nat.le_of_ble_eq_true rfl⟩) rfl [] [6, 7] rfl rfl rfl rfl 6 rfl rfl rfl rfl (Nat.le_of_ble_eq_true rfl) ⟨(Nat.le_of_ble_eq_true rfl), (Nat.le_of_ble_eq_true rfl)⟩ (fun _ => (Nat.le_of_ble_eq_true rfl)) (wN := fun u => [(cm 8, .inl (g.2.1, 16, .inl (col Bi 4))), (cm 9, .inl (g.2.1, 16, .inl (col Bi 5))), (cm 10, .inl (g.2.1, 16, .inl (col Bi 6))), (cm 12, .inl (g.2.1, 16, .inl (col Bi 8))), (cm 13, .inl (g.2.2.2.1, 16, .inl (col Bi 9))), (cm 14, .inl (g.2.2.1, 12, .inr (.inl tf)))]) (fun _ => rfl) dX4_tour_260 (fun r_260 u_260 h_260 => ?_)
          refine z_iadd h dX4_tour_263 ?_
          refine z_iload h dX4_tour_264 6 rfl ?_
          refine z_if_le h (tgt := 274) dX4_tour_266 (by decide) (fun c_266 => absurd c_266 c_228) (fun c_266 => ?_)
          refine z_bipush h (v := 10) dX4_tour_269 (by decide) ?_
          refine z_goto h (tgt := 275) dX4_tour_271 (by decide) ?_
          refine z_iadd h dX4_tour_275 ?_
          refine z_iadd h dX4_tour_276 ?_
          refine z_topi (y := (endT fm ft (nI kd) pl tr).2.2.1) (by first | (rw [h_253, h_260, endT, if_pos c_228, hdg tr.1 ht]; show tr.2.2.1 + ((0 + fm (tr.1 * 10 + 0)) + 0) = tr.2.2.1 + fm (tr.1 * 10 + 0); rw [Int32.zero_add, Int32.add_zero]) | (rw [h_253, h_260, endT, if_neg c_228]; show tr.2.2.1 + (dv2 fm tr.1 0 q2 + 10) = tr.2.2.1 + (ovT fm ft (nI kd) tr.1 0 pl + 10) + fm (0 * 10 + 0); rw [hq3, hdg 0 (by decide), Int32.add_zero])) ?_
          refine z_istore h dX4_tour_277 (by decide) (lv' := [(0, .ref (cm 0)), (1, .int (nI kd)), (2, .int cp), (3, .int 1), (4, .int ((endT fm ft (nI kd) pl tr).2.2.1)), (5, .int (nI tr.1)), (6, .int tr.2.1), (7, .long (Int32.toInt64 tr.2.2.2.2)), (9, .int tr.2.2.2.1), (10, .int (nI q2))]) [1, 2, 3, 4, 0, 5, 6, 7, 8, 9] rfl ?_
          refine z_lload h dX4_tour_279 7 rfl ?_
          refine z_iload h dX4_tour_281 6 rfl ?_
          refine z_i2l h dX4_tour_283 ?_
          refine z_ladd h dX4_tour_284 ?_
          refine z_topl (y := Int32.toInt64 (endT fm ft (nI kd) pl tr).2.2.2.2) (by first | (rw [endT, if_pos c_228, hz]; show tr.2.2.2.2.toInt64 + Int32.toInt64 0 = tr.2.2.2.2.toInt64; exact Int64.add_zero _) | (rw [endT, if_neg c_228]; exact (i64_add (by obtain ⟨z1, z2, z3, z4⟩ := hl; omega) (by obtain ⟨z1, z2, z3, z4⟩ := hl; omega)).symm)) ?_
          refine z_lstore h dX4_tour_285 (by decide) (lv' := [(0, .ref (cm 0)), (1, .int (nI kd)), (2, .int cp), (3, .int 1), (4, .int ((endT fm ft (nI kd) pl tr).2.2.1)), (5, .int (nI tr.1)), (6, .int tr.2.1), (7, .long (Int32.toInt64 (endT fm ft (nI kd) pl tr).2.2.2.2)), (9, .int tr.2.2.2.1), (10, .int (nI q2))]) [1, 2, 3, 4, 5, 6, 7, 0, 8, 9] rfl ?_
          refine z_iload h dX4_tour_287 8 rfl ?_
          refine z_iload h dX4_tour_289 6 rfl ?_
          refine z_if_le h (tgt := 298) dX4_tour_291 (by decide) (fun c_291 => absurd c_291 c_228) (fun c_291 => ?_)
          refine z_iconst h (v := 1) dX4_tour_294 (by decide) ?_
          refine z_goto h (tgt := 299) dX4_tour_295 (by decide) ?_
          refine z_iadd h dX4_tour_299 ?_
          refine z_topi (y := (endT fm ft (nI kd) pl tr).2.2.2.1) (by first | (rw [endT, if_pos c_228, Int32.add_zero]; rfl) | (rw [endT, if_neg c_228]; rfl)) ?_
          refine z_istore h dX4_tour_300 (by decide) (lv' := [(0, .ref (cm 0)), (1, .int (nI kd)), (2, .int cp), (3, .int 1), (4, .int ((endT fm ft (nI kd) pl tr).2.2.1)), (5, .int (nI tr.1)), (6, .int tr.2.1), (7, .long (Int32.toInt64 (endT fm ft (nI kd) pl tr).2.2.2.2)), (9, .int ((endT fm ft (nI kd) pl tr).2.2.2.1)), (10, .int (nI q2))]) [1, 2, 3, 4, 5, 6, 7, 8, 0, 9] rfl ?_
          refine z_iload_n h dX4_tour_302 rfl 3 rfl ?_
          refine z_if_ne h (tgt := 309) dX4_tour_303 (by decide) (fun c_303 => ?_) (fun c_303 => absurd c_303 (by decide))
          refine z_aload_n h dX4_tour_309 rfl 0 rfl ?_
          refine z_get h in_X4_tour_X4 6 rfl rfl 17 (by decide) lk_X4_tour_f54 rfl dX4_tour_310 ?_
          refine z_iconst h (v := 4) dX4_tour_313 (by decide) ?_
          refine z_iload_n h dX4_tour_314 rfl 1 rfl ?_
          refine z_imul h dX4_tour_315 ?_
          refine z_topi (y := nI (kd * 4 + 0)) (mul4' kd) ?_
          refine z_dup2 h dX4_tour_316 rfl rfl ?_
          refine z_lald h 5 rfl (vp_in_nI (by omega) (by omega)) dX4_tour_317 (v := tf (kd * 4 + 0)) (by rw [nI_clamp (by omega)]) ?_
          refine z_lload h dX4_tour_318 7 rfl ?_
          refine z_ladd h dX4_tour_320 ?_
          refine z_last h (j := kd * 4 + 0) 5 rfl (vp_in_nI (by omega) (by omega)) (by rw [nI_clamp (by omega)]) dX4_tour_321 (wW' := [(cm 8, .inl (g.2.1, 16, .inl (col Bi 4))), (cm 9, .inl (g.2.1, 16, .inl (col Bi 5))), (cm 10, .inl (g.2.1, 16, .inl (col Bi 6))), (cm 12, .inl (g.2.1, 16, .inl (col Bi 8))), (cm 13, .inl (g.2.2.2.1, 16, .inl (col Bi 9))), (cm 14, .inl (g.2.2.1, 12, .inr (.inl (vp_updL tf (kd * 4 + 0) ((tf (kd * 4 + 0)) + (Int32.toInt64 (endT fm ft (nI kd) pl tr).2.2.2.2))))))]) rfl ?_
          refine z_aload_n h dX4_tour_322 rfl 0 rfl ?_
          refine z_get h in_X4_tour_X4 6 rfl rfl 17 (by decide) lk_X4_tour_f54 rfl dX4_tour_323 ?_
          refine z_iconst h (v := 4) dX4_tour_326 (by decide) ?_
          refine z_iload_n h dX4_tour_327 rfl 1 rfl ?_
          refine z_imul h dX4_tour_328 ?_
          refine z_topi (y := nI (kd * 4)) (mul4' kd) ?_
          refine z_iconst h (v := 1) dX4_tour_329 (by decide) ?_
          refine z_iadd h dX4_tour_330 ?_
          refine z_topi (y := nI (kd * 4 + 1)) (add4 kd 1) ?_
          refine z_dup2 h dX4_tour_331 rfl rfl ?_
          refine z_lald h 5 rfl (vp_in_nI (by omega) (by omega)) dX4_tour_332 (v := (vp_updL tf (kd * 4 + 0) ((tf (kd * 4 + 0)) + (Int32.toInt64 (endT fm ft (nI kd) pl tr).2.2.2.2))) (kd * 4 + 1)) (by rw [nI_clamp (by omega)]) ?_
          refine z_iload h dX4_tour_333 8 rfl ?_
          refine z_i2l h dX4_tour_335 ?_
          refine z_ladd h dX4_tour_336 ?_
          refine z_last h (j := kd * 4 + 1) 5 rfl (vp_in_nI (by omega) (by omega)) (by rw [nI_clamp (by omega)]) dX4_tour_337 (wW' := [(cm 8, .inl (g.2.1, 16, .inl (col Bi 4))), (cm 9, .inl (g.2.1, 16, .inl (col Bi 5))), (cm 10, .inl (g.2.1, 16, .inl (col Bi 6))), (cm 12, .inl (g.2.1, 16, .inl (col Bi 8))), (cm 13, .inl (g.2.2.2.1, 16, .inl (col Bi 9))), (cm 14, .inl (g.2.2.1, 12, .inr (.inl (vp_updL (vp_updL tf (kd * 4 + 0) ((tf (kd * 4 + 0)) + (Int32.toInt64 (endT fm ft (nI kd) pl tr).2.2.2.2))) (kd * 4 + 1) (((vp_updL tf (kd * 4 + 0) ((tf (kd * 4 + 0)) + (Int32.toInt64 (endT fm ft (nI kd) pl tr).2.2.2.2))) (kd * 4 + 1)) + (Int32.toInt64 ((endT fm ft (nI kd) pl tr).2.2.2.1)))))))]) rfl ?_
          refine z_aload_n h dX4_tour_338 rfl 0 rfl ?_
          refine z_get h in_X4_tour_X4 6 rfl rfl 17 (by decide) lk_X4_tour_f54 rfl dX4_tour_339 ?_
          refine z_iconst h (v := 4) dX4_tour_342 (by decide) ?_
          refine z_iload_n h dX4_tour_343 rfl 1 rfl ?_
          refine z_imul h dX4_tour_344 ?_
          refine z_topi (y := nI (kd * 4)) (mul4' kd) ?_
          refine z_iconst h (v := 2) dX4_tour_345 (by decide) ?_
          refine z_iadd h dX4_tour_346 ?_
          refine z_topi (y := nI (kd * 4 + 2)) (add4 kd 2) ?_
          refine z_dup2 h dX4_tour_347 rfl rfl ?_
          refine z_lald h 5 rfl (vp_in_nI (by omega) (by omega)) dX4_tour_348 (v := (vp_updL (vp_updL tf (kd * 4 + 0) ((tf (kd * 4 + 0)) + (Int32.toInt64 (endT fm ft (nI kd) pl tr).2.2.2.2))) (kd * 4 + 1) (((vp_updL tf (kd * 4 + 0) ((tf (kd * 4 + 0)) + (Int32.toInt64 (endT fm ft (nI kd) pl tr).2.2.2.2))) (kd * 4 + 1)) + (Int32.toInt64 ((endT fm ft (nI kd) pl tr).2.2.2.1)))) (kd * 4 + 2)) (by rw [nI_clamp (by omega)]) ?_
          refine z_iload h dX4_tour_349 4 rfl ?_
          refine z_i2l h dX4_tour_351 ?_
          refine z_ladd h dX4_tour_352 ?_
          refine z_last h (j := kd * 4 + 2) 5 rfl (vp_in_nI (by omega) (by omega)) (by rw [nI_clamp (by omega)]) dX4_tour_353 (wW' := [(cm 8, .inl (g.2.1, 16, .inl (col Bi 4))), (cm 9, .inl (g.2.1, 16, .inl (col Bi 5))), (cm 10, .inl (g.2.1, 16, .inl (col Bi 6))), (cm 12, .inl (g.2.1, 16, .inl (col Bi 8))), (cm 13, .inl (g.2.2.2.1, 16, .inl (col Bi 9))), (cm 14, .inl (g.2.2.1, 12, .inr (.inl (vp_updL (vp_updL (vp_updL tf (kd * 4 + 0) ((tf (kd * 4 + 0)) + (Int32.toInt64 (endT fm ft (nI kd) pl tr).2.2.2.2))) (kd * 4 + 1) (((vp_updL tf (kd * 4 + 0) ((tf (kd * 4 + 0)) + (Int32.toInt64 (endT fm ft (nI kd) pl tr).2.2.2.2))) (kd * 4 + 1)) + (Int32.toInt64 ((endT fm ft (nI kd) pl tr).2.2.2.1)))) (kd * 4 + 2) (((vp_updL (vp_updL tf (kd * 4 + 0) ((tf (kd * 4 + 0)) + (Int32.toInt64 (endT fm ft (nI kd) pl tr).2.2.2.2))) (kd * 4 + 1) (((vp_updL tf (kd * 4 + 0) ((tf (kd * 4 + 0)) + (Int32.toInt64 (endT fm ft (nI kd) pl tr).2.2.2.2))) (kd * 4 + 1)) + (Int32.toInt64 ((endT fm ft (nI kd) pl tr).2.2.2.1)))) (kd * 4 + 2)) + (Int32.toInt64 ((endT fm ft (nI kd) pl tr).2.2.1)))))))]) rfl ?_
          refine z_aload_n h dX4_tour_354 rfl 0 rfl ?_
          refine z_get h in_X4_tour_X4 6 rfl rfl 17 (by decide) lk_X4_tour_f54 rfl dX4_tour_355 ?_
          refine z_iconst h (v := 4) dX4_tour_358 (by decide) ?_
          refine z_iload_n h dX4_tour_359 rfl 1 rfl ?_
          refine z_imul h dX4_tour_360 ?_
          refine z_topi (y := nI (kd * 4)) (mul4' kd) ?_
          refine z_iconst h (v := 3) dX4_tour_361 (by decide) ?_
          refine z_iadd h dX4_tour_362 ?_
          refine z_topi (y := nI (kd * 4 + 3)) (add4 kd 3) ?_
          refine z_dup2 h dX4_tour_363 rfl rfl ?_
          refine z_lald h 5 rfl (vp_in_nI (by omega) (by omega)) dX4_tour_364 (v := (vp_updL (vp_updL (vp_updL tf (kd * 4 + 0) ((tf (kd * 4 + 0)) + (Int32.toInt64 (endT fm ft (nI kd) pl tr).2.2.2.2))) (kd * 4 + 1) (((vp_updL tf (kd * 4 + 0) ((tf (kd * 4 + 0)) + (Int32.toInt64 (endT fm ft (nI kd) pl tr).2.2.2.2))) (kd * 4 + 1)) + (Int32.toInt64 ((endT fm ft (nI kd) pl tr).2.2.2.1)))) (kd * 4 + 2) (((vp_updL (vp_updL tf (kd * 4 + 0) ((tf (kd * 4 + 0)) + (Int32.toInt64 (endT fm ft (nI kd) pl tr).2.2.2.2))) (kd * 4 + 1) (((vp_updL tf (kd * 4 + 0) ((tf (kd * 4 + 0)) + (Int32.toInt64 (endT fm ft (nI kd) pl tr).2.2.2.2))) (kd * 4 + 1)) + (Int32.toInt64 ((endT fm ft (nI kd) pl tr).2.2.2.1)))) (kd * 4 + 2)) + (Int32.toInt64 ((endT fm ft (nI kd) pl tr).2.2.1)))) (kd * 4 + 3)) (by rw [nI_clamp (by omega)]) ?_
          refine z_lconst h (v := 1) dX4_tour_365 (by decide) ?_
          refine z_ladd h dX4_tour_366 ?_
          refine z_last h (j := kd * 4 + 3) 5 rfl (vp_in_nI (by omega) (by omega)) (by rw [nI_clamp (by omega)]) dX4_tour_367 (wW' := [(cm 8, .inl (g.2.1, 16, .inl (col Bi 4))), (cm 9, .inl (g.2.1, 16, .inl (col Bi 5))), (cm 10, .inl (g.2.1, 16, .inl (col Bi 6))), (cm 12, .inl (g.2.1, 16, .inl (col Bi 8))), (cm 13, .inl (g.2.2.2.1, 16, .inl (col Bi 9))), (cm 14, .inl (g.2.2.1, 12, .inr (.inl (vp_updL (vp_updL (vp_updL (vp_updL tf (kd * 4 + 0) ((tf (kd * 4 + 0)) + (Int32.toInt64 (endT fm ft (nI kd) pl tr).2.2.2.2))) (kd * 4 + 1) (((vp_updL tf (kd * 4 + 0) ((tf (kd * 4 + 0)) + (Int32.toInt64 (endT fm ft (nI kd) pl tr).2.2.2.2))) (kd * 4 + 1)) + (Int32.toInt64 ((endT fm ft (nI kd) pl tr).2.2.2.1)))) (kd * 4 + 2) (((vp_updL (vp_updL tf (kd * 4 + 0) ((tf (kd * 4 + 0)) + (Int32.toInt64 (endT fm ft (nI kd) pl tr).2.2.2.2))) (kd * 4 + 1) (((vp_updL tf (kd * 4 + 0) ((tf (kd * 4 + 0)) + (Int32.toInt64 (endT fm ft (nI kd) pl tr).2.2.2.2))) (kd * 4 + 1)) + (Int32.toInt64 ((endT fm ft (nI kd) pl tr).2.2.2.1)))) (kd * 4 + 2)) + (Int32.toInt64 ((endT fm ft (nI kd) pl tr).2.2.1)))) (kd * 4 + 3) (((vp_updL (vp_updL (vp_updL tf (kd * 4 + 0) ((tf (kd * 4 + 0)) + (Int32.toInt64 (endT fm ft (nI kd) pl tr).2.2.2.2))) (kd * 4 + 1) (((vp_updL tf (kd * 4 + 0) ((tf (kd * 4 + 0)) + (Int32.toInt64 (endT fm ft (nI kd) pl tr).2.2.2.2))) (kd * 4 + 1)) + (Int32.toInt64 ((endT fm ft (nI kd) pl tr).2.2.2.1)))) (kd * 4 + 2) (((vp_updL (vp_updL tf (kd * 4 + 0) ((tf (kd * 4 + 0)) + (Int32.toInt64 (endT fm ft (nI kd) pl tr).2.2.2.2))) (kd * 4 + 1) (((vp_updL tf (kd * 4 + 0) ((tf (kd * 4 + 0)) + (Int32.toInt64 (endT fm ft (nI kd) pl tr).2.2.2.2))) (kd * 4 + 1)) + (Int32.toInt64 ((endT fm ft (nI kd) pl tr).2.2.2.1)))) (kd * 4 + 2)) + (Int32.toInt64 ((endT fm ft (nI kd) pl tr).2.2.1)))) (kd * 4 + 3)) + 1)))))]) rfl ?_
          refine z_iload h dX4_tour_368 4 rfl ?_
          exact fin _ _ _ () _ _ _ _ dX4_tour_370 rfl (by rw [e1]) (by rw [e1]; rfl) (Nat.le_of_ble_eq_true rfl) (Nat.le_of_ble_eq_true rfl)
      · have hi : i < sn := ge_f (a := i) (b := sn) c_24 (by omega) (by omega)
        have hqr := hr i hi
        have hbq := hbi _ hqr.2
        have hcq := hci _ hqr.2
        have hvb := vis_b (fm := fm) (ft := ft) (k := (nI kd)) (pl := pl) (pb := plc Bi (rq rf i)) (b := Bi (rq rf i)) hl (by omega) hc1 hc0 hcq.1 hcq.2
        refine z_aload_n h dX4_tour_27 rfl 0 rfl ?_
        refine z_get h in_X4_tour_X4 6 rfl rfl 20 (by decide) lk_X4_tour_f61 rfl dX4_tour_28 ?_
        refine z_iload h dX4_tour_31 9 rfl ?_
        refine z_iald h 10 rfl (vp_in_nI (by omega) (by omega)) dX4_tour_33 (v := rf i) (by rw [nI_clamp (by omega)]) ?_
        refine z_topi (y := nI (rq rf i)) hqr.1 ?_
        refine z_istore h dX4_tour_34 (by decide) (lv' := [(0, .ref (cm 0)), (1, .int (nI kd)), (2, .int cp), (3, .int 1), (4, .int tr.2.2.1), (5, .int (nI tr.1)), (6, .int tr.2.1), (7, .long (Int32.toInt64 tr.2.2.2.2)), (9, .int tr.2.2.2.1), (10, .int (nI i)), (11, .int (nI (rq rf i)))]) [1, 2, 3, 4, 5, 6, 7, 8, 9, 10, 0] rfl ?_
        refine z_aload_n h dX4_tour_36 rfl 0 rfl ?_
        refine z_get h in_X4_tour_X4 6 rfl rfl 7 (by decide) lk_X4_tour_f24 rfl dX4_tour_37 ?_
        refine z_iload h dX4_tour_40 10 rfl ?_
        refine z_iald h 9 rfl (vp_in_nI (by omega) (by omega)) dX4_tour_42 (v := (col B 0) (rq rf i)) (by rw [nI_clamp (by omega)]) ?_
        refine z_topi (y := nI (plc Bi (rq rf i))) ((hb0 (rq rf i)).symm.trans hbq.1) ?_
        refine z_istore h dX4_tour_43 (by decide) (lv' := [(0, .ref (cm 0)), (1, .int (nI kd)), (2, .int cp), (3, .int 1), (4, .int tr.2.2.1), (5, .int (nI tr.1)), (6, .int tr.2.1), (7, .long (Int32.toInt64 tr.2.2.2.2)), (9, .int tr.2.2.2.1), (10, .int (nI i)), (11, .int (nI (rq rf i))), (12, .int (nI (plc Bi (rq rf i))))]) [1, 2, 3, 4, 5, 6, 7, 8, 9, 10, 11, 0] rfl ?_
        refine z_iload h dX4_tour_45 4 rfl ?_
        refine z_aload_n h dX4_tour_47 rfl 0 rfl ?_
        refine z_iload h dX4_tour_48 5 rfl ?_
        refine z_iload h dX4_tour_50 11 rfl ?_
        refine z_Vi h (As := [.int (nI tr.1), .int (nI (plc Bi (rq rf i)))]) (st := [.int tr.2.2.1]) (fun sz => m_X4_drive l g cm th pl dy n sn fm tr.1 (plc Bi (rq rf i)) ht hbq.2.1 sz) (cwV 2 h.ts gX4_tour_X4_drive rfl rfl rfl (by decide +kernel) ⟨Nat.le_of_ble_eq_true rfl, Nat.le_of_ble_eq_true rfl⟩) rfl [] [6, 7] rfl rfl rfl rfl 6 rfl rfl rfl rfl (Nat.le_of_ble_eq_true rfl) ⟨(Nat.le_of_ble_eq_true rfl), (Nat.le_of_ble_eq_true rfl)⟩ (fun _ => (Nat.le_of_ble_eq_true rfl)) (wN := fun u => [(cm 8, .inl (g.2.1, 16, .inl (col Bi 4))), (cm 9, .inl (g.2.1, 16, .inl (col Bi 5))), (cm 10, .inl (g.2.1, 16, .inl (col Bi 6))), (cm 12, .inl (g.2.1, 16, .inl (col Bi 8))), (cm 13, .inl (g.2.2.2.1, 16, .inl (col Bi 9))), (cm 14, .inl (g.2.2.1, 12, .inr (.inl tf)))]) (fun _ => rfl) dX4_tour_52 (fun r_52 u_52 h_52 => ?_)
        refine z_topi (y := fm (tr.1 * 10 + plc Bi (rq rf i))) h_52 ?_
        refine z_iadd h dX4_tour_55 ?_
        refine z_istore h dX4_tour_56 (by decide) (lv' := [(0, .ref (cm 0)), (1, .int (nI kd)), (2, .int cp), (3, .int 1), (4, .int (tr.2.2.1 + (fm (tr.1 * 10 + plc Bi (rq rf i))))), (5, .int (nI tr.1)), (6, .int tr.2.1), (7, .long (Int32.toInt64 tr.2.2.2.2)), (9, .int tr.2.2.2.1), (10, .int (nI i)), (11, .int (nI (rq rf i))), (12, .int (nI (plc Bi (rq rf i))))]) [1, 2, 3, 4, 0, 5, 6, 7, 8, 9, 10, 11] rfl ?_
        refine z_iload h dX4_tour_58 11 rfl ?_
        refine z_istore h dX4_tour_60 (by decide) (lv' := [(0, .ref (cm 0)), (1, .int (nI kd)), (2, .int cp), (3, .int 1), (4, .int (tr.2.2.1 + (fm (tr.1 * 10 + plc Bi (rq rf i))))), (5, .int (nI (plc Bi (rq rf i)))), (6, .int tr.2.1), (7, .long (Int32.toInt64 tr.2.2.2.2)), (9, .int tr.2.2.2.1), (10, .int (nI i)), (11, .int (nI (rq rf i))), (12, .int (nI (plc Bi (rq rf i))))]) [1, 2, 3, 4, 5, 0, 6, 7, 8, 9, 10, 11] rfl ?_
        refine z_aload_n h dX4_tour_62 rfl 0 rfl ?_
        refine z_get h in_X4_tour_X4 6 rfl rfl 16 (by decide) lk_X4_tour_f51 rfl dX4_tour_63 ?_
        refine z_iload h dX4_tour_66 10 rfl ?_
        refine z_zald h 4 rfl (vp_in_nI (by omega) (by omega)) dX4_tour_68 (v := (col Bi 9) (rq rf i)) (by rw [nI_clamp (by omega)]) ?_
        refine z_if_eq h (tgt := 113) dX4_tour_69 (by decide) (fun c_69 => ?_) (fun c_69 => ?_)
        · have h9 : Bi (rq rf i) 9 = 0 := c_69
          refine z_iload h dX4_tour_113 6 rfl ?_
          refine z_if_le h (tgt := 182) dX4_tour_115 (by decide) (fun c_115 => ?_) (fun c_115 => ?_)
          · refine z_aload_n h dX4_tour_182 rfl 0 rfl ?_
            refine z_get h in_X4_tour_X4 6 rfl rfl 11 (by decide) lk_X4_tour_f36 rfl dX4_tour_183 ?_
            refine z_iload h dX4_tour_186 10 rfl ?_
            refine z_iald h 0 rfl (vp_in_nI (by omega) (by omega)) dX4_tour_188 (v := (col Bi 4) (rq rf i)) (by rw [nI_clamp (by omega)]) ?_
            refine z_iload_n h dX4_tour_189 rfl 2 rfl ?_
            refine z_iload h dX4_tour_190 6 rfl ?_
            refine z_isub h dX4_tour_192 ?_
            refine z_mmin h lk_X4_tour_m111 lk_X4_tour_smin lk_X4_tour_imin lk_X4_tour_kmin (Nat.le_of_ble_eq_true rfl) (Nat.le_of_ble_eq_true rfl) (Nat.le_of_ble_eq_true rfl) (Nat.le_of_ble_eq_true rfl) dX4_tour_193 ?_
            refine z_istore h dX4_tour_196 (by decide) (lv' := [(0, .ref (cm 0)), (1, .int (nI kd)), (2, .int cp), (3, .int 1), (4, .int (tr.2.2.1 + (fm (tr.1 * 10 + plc Bi (rq rf i))))), (5, .int (nI (plc Bi (rq rf i)))), (6, .int tr.2.1), (7, .long (Int32.toInt64 tr.2.2.2.2)), (9, .int tr.2.2.2.1), (10, .int (nI i)), (11, .int (nI (rq rf i))), (12, .int (nI (plc Bi (rq rf i)))), (13, .int (if (cp - tr.2.1) < ((col Bi 4) (rq rf i)) then (cp - tr.2.1) else ((col Bi 4) (rq rf i))))]) [1, 2, 3, 4, 5, 6, 7, 8, 9, 10, 11, 12, 0] rfl ?_
            refine z_iload h dX4_tour_198 6 rfl ?_
            refine z_iload h dX4_tour_200 12 rfl ?_
            refine z_iadd h dX4_tour_202 ?_
            refine z_istore h dX4_tour_203 (by decide) (lv' := [(0, .ref (cm 0)), (1, .int (nI kd)), (2, .int cp), (3, .int 1), (4, .int (tr.2.2.1 + (fm (tr.1 * 10 + plc Bi (rq rf i))))), (5, .int (nI (plc Bi (rq rf i)))), (6, .int (tr.2.1 + (if (cp - tr.2.1) < ((col Bi 4) (rq rf i)) then (cp - tr.2.1) else ((col Bi 4) (rq rf i))))), (7, .long (Int32.toInt64 tr.2.2.2.2)), (9, .int tr.2.2.2.1), (10, .int (nI i)), (11, .int (nI (rq rf i))), (12, .int (nI (plc Bi (rq rf i)))), (13, .int (if (cp - tr.2.1) < ((col Bi 4) (rq rf i)) then (cp - tr.2.1) else ((col Bi 4) (rq rf i))))]) [1, 2, 3, 4, 5, 6, 0, 7, 8, 9, 10, 11, 12] rfl ?_
            refine z_iinc h (v := (tr.2.2.1 + (fm (tr.1 * 10 + plc Bi (rq rf i)))) + 5) dX4_tour_205 (by decide) 4 rfl rfl (lv' := [(0, .ref (cm 0)), (1, .int (nI kd)), (2, .int cp), (3, .int 1), (4, .int ((tr.2.2.1 + (fm (tr.1 * 10 + plc Bi (rq rf i)))) + 5)), (5, .int (nI (plc Bi (rq rf i)))), (6, .int (tr.2.1 + (if (cp - tr.2.1) < ((col Bi 4) (rq rf i)) then (cp - tr.2.1) else ((col Bi 4) (rq rf i))))), (7, .long (Int32.toInt64 tr.2.2.2.2)), (9, .int tr.2.2.2.1), (10, .int (nI i)), (11, .int (nI (rq rf i))), (12, .int (nI (plc Bi (rq rf i)))), (13, .int (if (cp - tr.2.1) < ((col Bi 4) (rq rf i)) then (cp - tr.2.1) else ((col Bi 4) (rq rf i))))]) [1, 2, 3, 4, 0, 5, 6, 7, 8, 9, 10, 11, 12] rfl ?_
            refine z_iload_n h dX4_tour_208 rfl 3 rfl ?_
            refine z_if_eq h (tgt := 220) dX4_tour_209 (by decide) (fun c_209 => absurd c_209 (by decide)) (fun c_209 => ?_)
            refine z_aload_n h dX4_tour_212 rfl 0 rfl ?_
            refine z_iload h dX4_tour_213 10 rfl ?_
            refine z_iload h dX4_tour_215 12 rfl ?_
            refine z_Vv h (As := [.int (nI (rq rf i)), .int (if (cp - tr.2.1) < ((col Bi 4) (rq rf i)) then (cp - tr.2.1) else ((col Bi 4) (rq rf i)))]) (st := []) (fun sz => m_X4_empty l g cm th pl dy n sn Bi (rq rf i) (if (cp - tr.2.1) < ((col Bi 4) (rq rf i)) then (cp - tr.2.1) else ((col Bi 4) (rq rf i))) (by omega) sz) (cwV 2 h.ts gX4_tour_X4_empty rfl rfl rfl (by decide +kernel) ⟨Nat.le_of_ble_eq_true rfl, Nat.le_of_ble_eq_true rfl⟩) rfl [0, 1, 2] [6] rfl rfl rfl rfl 6 rfl rfl rfl rfl (Nat.le_of_ble_eq_true rfl) ⟨(Nat.le_of_ble_eq_true rfl), (Nat.le_of_ble_eq_true rfl)⟩ (fun _ => (Nat.le_of_ble_eq_true rfl)) (wN := fun u => [(cm 8, .inl (g.2.1, 16, .inl (upd (col Bi 4) (rq rf i) (Bi (rq rf i) 4 - (if (cp - tr.2.1) < ((col Bi 4) (rq rf i)) then (cp - tr.2.1) else ((col Bi 4) (rq rf i))))))), (cm 9, .inl (g.2.1, 16, .inl (upd (col Bi 5) (rq rf i) (ratB (Bi (rq rf i)) (nI dy))))), (cm 10, .inl (g.2.1, 16, .inl (upd (col Bi 6) (rq rf i) (nI dy)))), (cm 12, .inl (g.2.1, 16, .inl (col Bi 8))), (cm 13, .inl (g.2.2.2.1, 16, .inl (col Bi 9))), (cm 14, .inl (g.2.2.1, 12, .inr (.inl tf)))]) (fun _ => rfl) dX4_tour_217 (fun u_217 h_217 => ?_)
            have hm : mun fm ft (nI kd) cp pl (Bi (rq rf i) 4) (drv fm tr (plc Bi (rq rf i))) = (drv fm tr (plc Bi (rq rf i))) := by rw [mun, if_pos (show (drv fm tr (plc Bi (rq rf i))).2.1 ≤ 0 from c_115)]
            have hT : (visT fm ft (nI kd) cp pl (Bi (rq rf i)) (plc Bi (rq rf i)) tr) = (plc Bi (rq rf i), tr.2.1 + (if (cp - tr.2.1) < ((col Bi 4) (rq rf i)) then (cp - tr.2.1) else ((col Bi 4) (rq rf i))), (tr.2.2.1 + (fm (tr.1 * 10 + plc Bi (rq rf i)))) + 5, tr.2.2.2.1, tr.2.2.2.2) := by rw [visT, if_pos h9, hm]; rfl
            have hK : (visK fm ft (nI kd) cp pl (Bi (rq rf i)) (plc Bi (rq rf i)) tr) = if (cp - tr.2.1) < ((col Bi 4) (rq rf i)) then (cp - tr.2.1) else ((col Bi 4) (rq rf i)) := by rw [visK, if_pos h9, hm]; rfl
            refine z_lv [0, 1, 2, 3, 4, 5, 6, 7, 8, 9] (lv' := [(0, .ref (cm 0)), (1, .int (nI kd)), (2, .int cp), (3, .int 1), (4, .int ((tr.2.2.1 + (fm (tr.1 * 10 + plc Bi (rq rf i)))) + 5)), (5, .int (nI (plc Bi (rq rf i)))), (6, .int (tr.2.1 + (if (cp - tr.2.1) < ((col Bi 4) (rq rf i)) then (cp - tr.2.1) else ((col Bi 4) (rq rf i))))), (7, .long (Int32.toInt64 tr.2.2.2.2)), (9, .int tr.2.2.2.1), (10, .int (nI i))]) rfl ?_
            refine z_lve (lv' := [(0, .ref (cm 0)), (1, .int (nI kd)), (2, .int cp), (3, .int 1), (4, .int ((visT fm ft (nI kd) cp pl (Bi (rq rf i)) (plc Bi (rq rf i)) tr).2.2.1)), (5, .int (nI (visT fm ft (nI kd) cp pl (Bi (rq rf i)) (plc Bi (rq rf i)) tr).1)), (6, .int ((visT fm ft (nI kd) cp pl (Bi (rq rf i)) (plc Bi (rq rf i)) tr).2.1)), (7, .long (Int32.toInt64 (visT fm ft (nI kd) cp pl (Bi (rq rf i)) (plc Bi (rq rf i)) tr).2.2.2.2)), (9, .int ((visT fm ft (nI kd) cp pl (Bi (rq rf i)) (plc Bi (rq rf i)) tr).2.2.2.1)), (10, .int (nI i))]) (by rw [hT]) ?_
            have hE9 := end_clean (tk := (visK fm ft (nI kd) cp pl (Bi (rq rf i)) (plc Bi (rq rf i)) tr)) (d := nI dy) h9
            refine z_ws (wW' := [(cm 8, .inl (g.2.1, 16, .inl (col (updB Bi (rq rf i) (endB (Bi (rq rf i)) (visK fm ft (nI kd) cp pl (Bi (rq rf i)) (plc Bi (rq rf i)) tr) (nI dy))) 4))), (cm 9, .inl (g.2.1, 16, .inl (col (updB Bi (rq rf i) (endB (Bi (rq rf i)) (visK fm ft (nI kd) cp pl (Bi (rq rf i)) (plc Bi (rq rf i)) tr) (nI dy))) 5))), (cm 10, .inl (g.2.1, 16, .inl (col (updB Bi (rq rf i) (endB (Bi (rq rf i)) (visK fm ft (nI kd) cp pl (Bi (rq rf i)) (plc Bi (rq rf i)) tr) (nI dy))) 6))), (cm 12, .inl (g.2.1, 16, .inl (col (updB Bi (rq rf i) (endB (Bi (rq rf i)) (visK fm ft (nI kd) cp pl (Bi (rq rf i)) (plc Bi (rq rf i)) tr) (nI dy))) 8))), (cm 13, .inl (g.2.2.2.1, 16, .inl (col (updB Bi (rq rf i) (endB (Bi (rq rf i)) (visK fm ft (nI kd) cp pl (Bi (rq rf i)) (plc Bi (rq rf i)) tr) (nI dy))) 9))), (cm 14, .inl (g.2.2.1, 12, .inr (.inl tf)))]) (by rw [hE9.1, hE9.2.1, hE9.2.2.1, hE9.2.2.2.1, hE9.2.2.2.2]; rw [hK]; try rfl) rfl ?_
            refine z_iinc h (v := nI (i + 1)) dX4_tour_220 (by decide) 9 rfl (by rw [show Int32.ofInt 1 = nI 1 from rfl, nI_add]) (lv' := [(0, .ref (cm 0)), (1, .int (nI kd)), (2, .int cp), (3, .int 1), (4, .int ((visT fm ft (nI kd) cp pl (Bi (rq rf i)) (plc Bi (rq rf i)) tr).2.2.1)), (5, .int (nI (visT fm ft (nI kd) cp pl (Bi (rq rf i)) (plc Bi (rq rf i)) tr).1)), (6, .int ((visT fm ft (nI kd) cp pl (Bi (rq rf i)) (plc Bi (rq rf i)) tr).2.1)), (7, .long (Int32.toInt64 (visT fm ft (nI kd) cp pl (Bi (rq rf i)) (plc Bi (rq rf i)) tr).2.2.2.2)), (9, .int ((visT fm ft (nI kd) cp pl (Bi (rq rf i)) (plc Bi (rq rf i)) tr).2.2.2.1)), (10, .int (nI (i + 1)))]) [1, 2, 3, 4, 5, 6, 7, 8, 9, 0] rfl ?_
            refine z_goto h (tgt := 18) dX4_tour_223 (by decide) ?_
            exact ihL18 (i + 1) (visT fm ft (nI kd) cp pl (Bi (rq rf i)) (plc Bi (rq rf i)) tr) (updB Bi (rq rf i) (endB (Bi (rq rf i)) (visK fm ft (nI kd) cp pl (Bi (rq rf i)) (plc Bi (rq rf i)) tr) (nI dy))) (by omega) (by omega) (by rw [mkF, e1]) (by rw [visT_1]; exact hbq.2.1) hvb.1 (hbi.set (endB_0 _ _ _) (endB_1 _ _ _)) (hci.set hvb.2) (set_0 hb0)
          · refine z_iload_n h dX4_tour_118 rfl 2 rfl ?_
            refine z_iload h dX4_tour_119 6 rfl ?_
            refine z_isub h dX4_tour_121 ?_
            refine z_aload_n h dX4_tour_122 rfl 0 rfl ?_
            refine z_get h in_X4_tour_X4 6 rfl rfl 11 (by decide) lk_X4_tour_f36 rfl dX4_tour_123 ?_
            refine z_iload h dX4_tour_126 10 rfl ?_
            refine z_iald h 0 rfl (vp_in_nI (by omega) (by omega)) dX4_tour_128 (v := (col Bi 4) (rq rf i)) (by rw [nI_clamp (by omega)]) ?_
            refine z_icmp_ge h (tgt := 182) dX4_tour_129 (by decide) (fun c_129 => ?_) (fun c_129 => ?_)
            · refine z_aload_n h dX4_tour_182 rfl 0 rfl ?_
              refine z_get h in_X4_tour_X4 6 rfl rfl 11 (by decide) lk_X4_tour_f36 rfl dX4_tour_183 ?_
              refine z_iload h dX4_tour_186 10 rfl ?_
              refine z_iald h 0 rfl (vp_in_nI (by omega) (by omega)) dX4_tour_188 (v := (col Bi 4) (rq rf i)) (by rw [nI_clamp (by omega)]) ?_
              refine z_iload_n h dX4_tour_189 rfl 2 rfl ?_
              refine z_iload h dX4_tour_190 6 rfl ?_
              refine z_isub h dX4_tour_192 ?_
              refine z_mmin h lk_X4_tour_m111 lk_X4_tour_smin lk_X4_tour_imin lk_X4_tour_kmin (Nat.le_of_ble_eq_true rfl) (Nat.le_of_ble_eq_true rfl) (Nat.le_of_ble_eq_true rfl) (Nat.le_of_ble_eq_true rfl) dX4_tour_193 ?_
              refine z_istore h dX4_tour_196 (by decide) (lv' := [(0, .ref (cm 0)), (1, .int (nI kd)), (2, .int cp), (3, .int 1), (4, .int (tr.2.2.1 + (fm (tr.1 * 10 + plc Bi (rq rf i))))), (5, .int (nI (plc Bi (rq rf i)))), (6, .int tr.2.1), (7, .long (Int32.toInt64 tr.2.2.2.2)), (9, .int tr.2.2.2.1), (10, .int (nI i)), (11, .int (nI (rq rf i))), (12, .int (nI (plc Bi (rq rf i)))), (13, .int (if (cp - tr.2.1) < ((col Bi 4) (rq rf i)) then (cp - tr.2.1) else ((col Bi 4) (rq rf i))))]) [1, 2, 3, 4, 5, 6, 7, 8, 9, 10, 11, 12, 0] rfl ?_
              refine z_iload h dX4_tour_198 6 rfl ?_
              refine z_iload h dX4_tour_200 12 rfl ?_
              refine z_iadd h dX4_tour_202 ?_
              refine z_istore h dX4_tour_203 (by decide) (lv' := [(0, .ref (cm 0)), (1, .int (nI kd)), (2, .int cp), (3, .int 1), (4, .int (tr.2.2.1 + (fm (tr.1 * 10 + plc Bi (rq rf i))))), (5, .int (nI (plc Bi (rq rf i)))), (6, .int (tr.2.1 + (if (cp - tr.2.1) < ((col Bi 4) (rq rf i)) then (cp - tr.2.1) else ((col Bi 4) (rq rf i))))), (7, .long (Int32.toInt64 tr.2.2.2.2)), (9, .int tr.2.2.2.1), (10, .int (nI i)), (11, .int (nI (rq rf i))), (12, .int (nI (plc Bi (rq rf i)))), (13, .int (if (cp - tr.2.1) < ((col Bi 4) (rq rf i)) then (cp - tr.2.1) else ((col Bi 4) (rq rf i))))]) [1, 2, 3, 4, 5, 6, 0, 7, 8, 9, 10, 11, 12] rfl ?_
              refine z_iinc h (v := (tr.2.2.1 + (fm (tr.1 * 10 + plc Bi (rq rf i)))) + 5) dX4_tour_205 (by decide) 4 rfl rfl (lv' := [(0, .ref (cm 0)), (1, .int (nI kd)), (2, .int cp), (3, .int 1), (4, .int ((tr.2.2.1 + (fm (tr.1 * 10 + plc Bi (rq rf i)))) + 5)), (5, .int (nI (plc Bi (rq rf i)))), (6, .int (tr.2.1 + (if (cp - tr.2.1) < ((col Bi 4) (rq rf i)) then (cp - tr.2.1) else ((col Bi 4) (rq rf i))))), (7, .long (Int32.toInt64 tr.2.2.2.2)), (9, .int tr.2.2.2.1), (10, .int (nI i)), (11, .int (nI (rq rf i))), (12, .int (nI (plc Bi (rq rf i)))), (13, .int (if (cp - tr.2.1) < ((col Bi 4) (rq rf i)) then (cp - tr.2.1) else ((col Bi 4) (rq rf i))))]) [1, 2, 3, 4, 0, 5, 6, 7, 8, 9, 10, 11, 12] rfl ?_
              refine z_iload_n h dX4_tour_208 rfl 3 rfl ?_
              refine z_if_eq h (tgt := 220) dX4_tour_209 (by decide) (fun c_209 => absurd c_209 (by decide)) (fun c_209 => ?_)
              refine z_aload_n h dX4_tour_212 rfl 0 rfl ?_
              refine z_iload h dX4_tour_213 10 rfl ?_
              refine z_iload h dX4_tour_215 12 rfl ?_
              refine z_Vv h (As := [.int (nI (rq rf i)), .int (if (cp - tr.2.1) < ((col Bi 4) (rq rf i)) then (cp - tr.2.1) else ((col Bi 4) (rq rf i)))]) (st := []) (fun sz => m_X4_empty l g cm th pl dy n sn Bi (rq rf i) (if (cp - tr.2.1) < ((col Bi 4) (rq rf i)) then (cp - tr.2.1) else ((col Bi 4) (rq rf i))) (by omega) sz) (cwV 2 h.ts gX4_tour_X4_empty rfl rfl rfl (by decide +kernel) ⟨Nat.le_of_ble_eq_true rfl, Nat.le_of_ble_eq_true rfl⟩) rfl [0, 1, 2] [6] rfl rfl rfl rfl 6 rfl rfl rfl rfl (Nat.le_of_ble_eq_true rfl) ⟨(Nat.le_of_ble_eq_true rfl), (Nat.le_of_ble_eq_true rfl)⟩ (fun _ => (Nat.le_of_ble_eq_true rfl)) (wN := fun u => [(cm 8, .inl (g.2.1, 16, .inl (upd (col Bi 4) (rq rf i) (Bi (rq rf i) 4 - (if (cp - tr.2.1) < ((col Bi 4) (rq rf i)) then (cp - tr.2.1) else ((col Bi 4) (rq rf i))))))), (cm 9, .inl (g.2.1, 16, .inl (upd (col Bi 5) (rq rf i) (ratB (Bi (rq rf i)) (nI dy))))), (cm 10, .inl (g.2.1, 16, .inl (upd (col Bi 6) (rq rf i) (nI dy)))), (cm 12, .inl (g.2.1, 16, .inl (col Bi 8))), (cm 13, .inl (g.2.2.2.1, 16, .inl (col Bi 9))), (cm 14, .inl (g.2.2.1, 12, .inr (.inl tf)))]) (fun _ => rfl) dX4_tour_217 (fun u_217 h_217 => ?_)
              have hm : mun fm ft (nI kd) cp pl (Bi (rq rf i) 4) (drv fm tr (plc Bi (rq rf i))) = (drv fm tr (plc Bi (rq rf i))) := by rw [mun, if_neg (show ¬ (drv fm tr (plc Bi (rq rf i))).2.1 ≤ 0 from c_115), if_pos (show Bi (rq rf i) 4 ≤ cp - (drv fm tr (plc Bi (rq rf i))).2.1 from c_129)]
              have hT : (visT fm ft (nI kd) cp pl (Bi (rq rf i)) (plc Bi (rq rf i)) tr) = (plc Bi (rq rf i), tr.2.1 + (if (cp - tr.2.1) < ((col Bi 4) (rq rf i)) then (cp - tr.2.1) else ((col Bi 4) (rq rf i))), (tr.2.2.1 + (fm (tr.1 * 10 + plc Bi (rq rf i)))) + 5, tr.2.2.2.1, tr.2.2.2.2) := by rw [visT, if_pos h9, hm]; rfl
              have hK : (visK fm ft (nI kd) cp pl (Bi (rq rf i)) (plc Bi (rq rf i)) tr) = if (cp - tr.2.1) < ((col Bi 4) (rq rf i)) then (cp - tr.2.1) else ((col Bi 4) (rq rf i)) := by rw [visK, if_pos h9, hm]; rfl
              refine z_lv [0, 1, 2, 3, 4, 5, 6, 7, 8, 9] (lv' := [(0, .ref (cm 0)), (1, .int (nI kd)), (2, .int cp), (3, .int 1), (4, .int ((tr.2.2.1 + (fm (tr.1 * 10 + plc Bi (rq rf i)))) + 5)), (5, .int (nI (plc Bi (rq rf i)))), (6, .int (tr.2.1 + (if (cp - tr.2.1) < ((col Bi 4) (rq rf i)) then (cp - tr.2.1) else ((col Bi 4) (rq rf i))))), (7, .long (Int32.toInt64 tr.2.2.2.2)), (9, .int tr.2.2.2.1), (10, .int (nI i))]) rfl ?_
              refine z_lve (lv' := [(0, .ref (cm 0)), (1, .int (nI kd)), (2, .int cp), (3, .int 1), (4, .int ((visT fm ft (nI kd) cp pl (Bi (rq rf i)) (plc Bi (rq rf i)) tr).2.2.1)), (5, .int (nI (visT fm ft (nI kd) cp pl (Bi (rq rf i)) (plc Bi (rq rf i)) tr).1)), (6, .int ((visT fm ft (nI kd) cp pl (Bi (rq rf i)) (plc Bi (rq rf i)) tr).2.1)), (7, .long (Int32.toInt64 (visT fm ft (nI kd) cp pl (Bi (rq rf i)) (plc Bi (rq rf i)) tr).2.2.2.2)), (9, .int ((visT fm ft (nI kd) cp pl (Bi (rq rf i)) (plc Bi (rq rf i)) tr).2.2.2.1)), (10, .int (nI i))]) (by rw [hT]) ?_
              have hE9 := end_clean (tk := (visK fm ft (nI kd) cp pl (Bi (rq rf i)) (plc Bi (rq rf i)) tr)) (d := nI dy) h9
              refine z_ws (wW' := [(cm 8, .inl (g.2.1, 16, .inl (col (updB Bi (rq rf i) (endB (Bi (rq rf i)) (visK fm ft (nI kd) cp pl (Bi (rq rf i)) (plc Bi (rq rf i)) tr) (nI dy))) 4))), (cm 9, .inl (g.2.1, 16, .inl (col (updB Bi (rq rf i) (endB (Bi (rq rf i)) (visK fm ft (nI kd) cp pl (Bi (rq rf i)) (plc Bi (rq rf i)) tr) (nI dy))) 5))), (cm 10, .inl (g.2.1, 16, .inl (col (updB Bi (rq rf i) (endB (Bi (rq rf i)) (visK fm ft (nI kd) cp pl (Bi (rq rf i)) (plc Bi (rq rf i)) tr) (nI dy))) 6))), (cm 12, .inl (g.2.1, 16, .inl (col (updB Bi (rq rf i) (endB (Bi (rq rf i)) (visK fm ft (nI kd) cp pl (Bi (rq rf i)) (plc Bi (rq rf i)) tr) (nI dy))) 8))), (cm 13, .inl (g.2.2.2.1, 16, .inl (col (updB Bi (rq rf i) (endB (Bi (rq rf i)) (visK fm ft (nI kd) cp pl (Bi (rq rf i)) (plc Bi (rq rf i)) tr) (nI dy))) 9))), (cm 14, .inl (g.2.2.1, 12, .inr (.inl tf)))]) (by rw [hE9.1, hE9.2.1, hE9.2.2.1, hE9.2.2.2.1, hE9.2.2.2.2]; rw [hK]; try rfl) rfl ?_
              refine z_iinc h (v := nI (i + 1)) dX4_tour_220 (by decide) 9 rfl (by rw [show Int32.ofInt 1 = nI 1 from rfl, nI_add]) (lv' := [(0, .ref (cm 0)), (1, .int (nI kd)), (2, .int cp), (3, .int 1), (4, .int ((visT fm ft (nI kd) cp pl (Bi (rq rf i)) (plc Bi (rq rf i)) tr).2.2.1)), (5, .int (nI (visT fm ft (nI kd) cp pl (Bi (rq rf i)) (plc Bi (rq rf i)) tr).1)), (6, .int ((visT fm ft (nI kd) cp pl (Bi (rq rf i)) (plc Bi (rq rf i)) tr).2.1)), (7, .long (Int32.toInt64 (visT fm ft (nI kd) cp pl (Bi (rq rf i)) (plc Bi (rq rf i)) tr).2.2.2.2)), (9, .int ((visT fm ft (nI kd) cp pl (Bi (rq rf i)) (plc Bi (rq rf i)) tr).2.2.2.1)), (10, .int (nI (i + 1)))]) [1, 2, 3, 4, 5, 6, 7, 8, 9, 0] rfl ?_
              refine z_goto h (tgt := 18) dX4_tour_223 (by decide) ?_
              exact ihL18 (i + 1) (visT fm ft (nI kd) cp pl (Bi (rq rf i)) (plc Bi (rq rf i)) tr) (updB Bi (rq rf i) (endB (Bi (rq rf i)) (visK fm ft (nI kd) cp pl (Bi (rq rf i)) (plc Bi (rq rf i)) tr) (nI dy))) (by omega) (by omega) (by rw [mkF, e1]) (by rw [visT_1]; exact hbq.2.1) hvb.1 (hbi.set (endB_0 _ _ _) (endB_1 _ _ _)) (hci.set hvb.2) (set_0 hb0)
            · refine z_aload_n h dX4_tour_132 rfl 0 rfl ?_
              refine z_iload_n h dX4_tour_133 rfl 1 rfl ?_
              refine z_iload h dX4_tour_134 5 rfl ?_
              refine z_iload h dX4_tour_136 5 rfl ?_
              refine z_Vi h (As := [.int (nI kd), .int (nI (plc Bi (rq rf i))), .int (nI (plc Bi (rq rf i)))]) (st := []) (fun sz => m_X4_tipFor l g cm th pl dy n sn fm ft (nI kd) (plc Bi (rq rf i)) (plc Bi (rq rf i)) hpl hbq.2.1 hbq.2.1 sz) (cwV 3 h.ts gX4_tour_X4_tipFor rfl rfl rfl (by decide +kernel) ⟨Nat.le_of_ble_eq_true rfl, Nat.le_of_ble_eq_true rfl⟩) rfl [] [6, 7, 8] rfl rfl rfl rfl 6 rfl rfl rfl rfl (Nat.le_of_ble_eq_true rfl) ⟨(Nat.le_of_ble_eq_true rfl), (Nat.le_of_ble_eq_true rfl)⟩ (fun _ => (Nat.le_of_ble_eq_true rfl)) (wN := fun u => [(cm 8, .inl (g.2.1, 16, .inl (col Bi 4))), (cm 9, .inl (g.2.1, 16, .inl (col Bi 5))), (cm 10, .inl (g.2.1, 16, .inl (col Bi 6))), (cm 12, .inl (g.2.1, 16, .inl (col Bi 8))), (cm 13, .inl (g.2.2.2.1, 16, .inl (col Bi 9))), (cm 14, .inl (g.2.2.1, 12, .inr (.inl tf)))]) (fun _ => rfl) dX4_tour_138 (fun r_138 u_138 h_138 => ?_)
              obtain ⟨q1, hq1, hq2, hq3⟩ := tip_is hfm hbq.2.1 hbq.2.1 hpl htp h_138
              refine z_topi (y := nI q1) hq2 ?_
              refine z_istore h dX4_tour_141 (by decide) (lv' := [(0, .ref (cm 0)), (1, .int (nI kd)), (2, .int cp), (3, .int 1), (4, .int (tr.2.2.1 + (fm (tr.1 * 10 + plc Bi (rq rf i))))), (5, .int (nI (plc Bi (rq rf i)))), (6, .int tr.2.1), (7, .long (Int32.toInt64 tr.2.2.2.2)), (9, .int tr.2.2.2.1), (10, .int (nI i)), (11, .int (nI (rq rf i))), (12, .int (nI (plc Bi (rq rf i)))), (13, .int (nI q1))]) [1, 2, 3, 4, 5, 6, 7, 8, 9, 10, 11, 12, 0] rfl ?_
              refine z_iload h dX4_tour_143 4 rfl ?_
              refine z_aload_n h dX4_tour_145 rfl 0 rfl ?_
              refine z_iload h dX4_tour_146 5 rfl ?_
              refine z_iload h dX4_tour_148 12 rfl ?_
              refine z_Vi h (As := [.int (nI (plc Bi (rq rf i))), .int (nI q1)]) (st := [.int (tr.2.2.1 + (fm (tr.1 * 10 + plc Bi (rq rf i))))]) (fun sz => m_X4_drive l g cm th pl dy n sn fm (plc Bi (rq rf i)) q1 hbq.2.1 hq1 sz) (cwV 2 h.ts gX4_tour_X4_drive rfl rfl rfl (by decide +kernel) ⟨Nat.le_of_ble_eq_true rfl, Nat.le_of_ble_eq_true rfl⟩) rfl [] [6, 7] rfl rfl rfl rfl 6 rfl rfl rfl rfl (Nat.le_of_ble_eq_true rfl) ⟨(Nat.le_of_ble_eq_true rfl), (Nat.le_of_ble_eq_true rfl)⟩ (fun _ => (Nat.le_of_ble_eq_true rfl)) (wN := fun u => [(cm 8, .inl (g.2.1, 16, .inl (col Bi 4))), (cm 9, .inl (g.2.1, 16, .inl (col Bi 5))), (cm 10, .inl (g.2.1, 16, .inl (col Bi 6))), (cm 12, .inl (g.2.1, 16, .inl (col Bi 8))), (cm 13, .inl (g.2.2.2.1, 16, .inl (col Bi 9))), (cm 14, .inl (g.2.2.1, 12, .inr (.inl tf)))]) (fun _ => rfl) dX4_tour_150 (fun r_150 u_150 h_150 => ?_)
              refine z_topi (y := fm (plc Bi (rq rf i) * 10 + q1)) h_150 ?_
              refine z_aload_n h dX4_tour_153 rfl 0 rfl ?_
              refine z_iload h dX4_tour_154 12 rfl ?_
              refine z_iload h dX4_tour_156 5 rfl ?_
              refine z_Vi h (As := [.int (nI q1), .int (nI (plc Bi (rq rf i)))]) (st := [.int (fm (plc Bi (rq rf i) * 10 + q1)), .int (tr.2.2.1 + (fm (tr.1 * 10 + plc Bi (rq rf i))))]) (fun sz => m_X4_drive l g cm th pl dy n sn fm q1 (plc Bi (rq rf i)) hq1 hbq.2.1 sz) (cwV 2 h.ts gX4_tour_X4_drive rfl rfl rfl (by decide +kernel) ⟨Nat.le_of_ble_eq_true rfl, Nat.le_of_ble_eq_true rfl⟩) rfl [] [6, 7] rfl rfl rfl rfl 6 rfl rfl rfl rfl (Nat.le_of_ble_eq_true rfl) ⟨(Nat.le_of_ble_eq_true rfl), (Nat.le_of_ble_eq_true rfl)⟩ (fun _ => (Nat.le_of_ble_eq_true rfl)) (wN := fun u => [(cm 8, .inl (g.2.1, 16, .inl (col Bi 4))), (cm 9, .inl (g.2.1, 16, .inl (col Bi 5))), (cm 10, .inl (g.2.1, 16, .inl (col Bi 6))), (cm 12, .inl (g.2.1, 16, .inl (col Bi 8))), (cm 13, .inl (g.2.2.2.1, 16, .inl (col Bi 9))), (cm 14, .inl (g.2.2.1, 12, .inr (.inl tf)))]) (fun _ => rfl) dX4_tour_158 (fun r_158 u_158 h_158 => ?_)
              refine z_topi (y := fm (q1 * 10 + plc Bi (rq rf i))) h_158 ?_
              refine z_iadd h dX4_tour_161 ?_
              refine z_topi (y := ovT fm ft (nI kd) (plc Bi (rq rf i)) (plc Bi (rq rf i)) pl) hq3 ?_
              refine z_bipush h (v := 10) dX4_tour_162 (by decide) ?_
              refine z_iadd h dX4_tour_164 ?_
              refine z_iadd h dX4_tour_165 ?_
              refine z_istore h dX4_tour_166 (by decide) (lv' := [(0, .ref (cm 0)), (1, .int (nI kd)), (2, .int cp), (3, .int 1), (4, .int ((tr.2.2.1 + (fm (tr.1 * 10 + plc Bi (rq rf i)))) + ((ovT fm ft (nI kd) (plc Bi (rq rf i)) (plc Bi (rq rf i)) pl) + 10))), (5, .int (nI (plc Bi (rq rf i)))), (6, .int tr.2.1), (7, .long (Int32.toInt64 tr.2.2.2.2)), (9, .int tr.2.2.2.1), (10, .int (nI i)), (11, .int (nI (rq rf i))), (12, .int (nI (plc Bi (rq rf i)))), (13, .int (nI q1))]) [1, 2, 3, 4, 0, 5, 6, 7, 8, 9, 10, 11, 12] rfl ?_
              refine z_lload h dX4_tour_168 7 rfl ?_
              refine z_iload h dX4_tour_170 6 rfl ?_
              refine z_i2l h dX4_tour_172 ?_
              refine z_ladd h dX4_tour_173 ?_
              refine z_topl (y := Int32.toInt64 (tr.2.2.2.2 + tr.2.1)) (i64_add (by obtain ⟨z1, z2, z3, z4⟩ := hl; omega) (by obtain ⟨z1, z2, z3, z4⟩ := hl; omega)).symm ?_
              refine z_lstore h dX4_tour_174 (by decide) (lv' := [(0, .ref (cm 0)), (1, .int (nI kd)), (2, .int cp), (3, .int 1), (4, .int ((tr.2.2.1 + (fm (tr.1 * 10 + plc Bi (rq rf i)))) + ((ovT fm ft (nI kd) (plc Bi (rq rf i)) (plc Bi (rq rf i)) pl) + 10))), (5, .int (nI (plc Bi (rq rf i)))), (6, .int tr.2.1), (7, .long (Int32.toInt64 (tr.2.2.2.2 + tr.2.1))), (9, .int tr.2.2.2.1), (10, .int (nI i)), (11, .int (nI (rq rf i))), (12, .int (nI (plc Bi (rq rf i)))), (13, .int (nI q1))]) [1, 2, 3, 4, 5, 6, 7, 0, 8, 9, 10, 11, 12] rfl ?_
              refine z_iinc h (v := tr.2.2.2.1 + 1) dX4_tour_176 (by decide) 8 rfl rfl (lv' := [(0, .ref (cm 0)), (1, .int (nI kd)), (2, .int cp), (3, .int 1), (4, .int ((tr.2.2.1 + (fm (tr.1 * 10 + plc Bi (rq rf i)))) + ((ovT fm ft (nI kd) (plc Bi (rq rf i)) (plc Bi (rq rf i)) pl) + 10))), (5, .int (nI (plc Bi (rq rf i)))), (6, .int tr.2.1), (7, .long (Int32.toInt64 (tr.2.2.2.2 + tr.2.1))), (9, .int (tr.2.2.2.1 + 1)), (10, .int (nI i)), (11, .int (nI (rq rf i))), (12, .int (nI (plc Bi (rq rf i)))), (13, .int (nI q1))]) [1, 2, 3, 4, 5, 6, 7, 8, 0, 9, 10, 11, 12] rfl ?_
              refine z_iconst h (v := 0) dX4_tour_179 (by decide) ?_
              refine z_istore h dX4_tour_180 (by decide) (lv' := [(0, .ref (cm 0)), (1, .int (nI kd)), (2, .int cp), (3, .int 1), (4, .int ((tr.2.2.1 + (fm (tr.1 * 10 + plc Bi (rq rf i)))) + ((ovT fm ft (nI kd) (plc Bi (rq rf i)) (plc Bi (rq rf i)) pl) + 10))), (5, .int (nI (plc Bi (rq rf i)))), (6, .int 0), (7, .long (Int32.toInt64 (tr.2.2.2.2 + tr.2.1))), (9, .int (tr.2.2.2.1 + 1)), (10, .int (nI i)), (11, .int (nI (rq rf i))), (12, .int (nI (plc Bi (rq rf i)))), (13, .int (nI q1))]) [1, 2, 3, 4, 5, 6, 0, 7, 8, 9, 10, 11, 12] rfl ?_
              refine z_aload_n h dX4_tour_182 rfl 0 rfl ?_
              refine z_get h in_X4_tour_X4 6 rfl rfl 11 (by decide) lk_X4_tour_f36 rfl dX4_tour_183 ?_
              refine z_iload h dX4_tour_186 10 rfl ?_
              refine z_iald h 0 rfl (vp_in_nI (by omega) (by omega)) dX4_tour_188 (v := (col Bi 4) (rq rf i)) (by rw [nI_clamp (by omega)]) ?_
              refine z_iload_n h dX4_tour_189 rfl 2 rfl ?_
              refine z_iload h dX4_tour_190 6 rfl ?_
              refine z_isub h dX4_tour_192 ?_
              refine z_mmin h lk_X4_tour_m111 lk_X4_tour_smin lk_X4_tour_imin lk_X4_tour_kmin (Nat.le_of_ble_eq_true rfl) (Nat.le_of_ble_eq_true rfl) (Nat.le_of_ble_eq_true rfl) (Nat.le_of_ble_eq_true rfl) dX4_tour_193 ?_
              refine z_istore h dX4_tour_196 (by decide) (lv' := [(0, .ref (cm 0)), (1, .int (nI kd)), (2, .int cp), (3, .int 1), (4, .int ((tr.2.2.1 + (fm (tr.1 * 10 + plc Bi (rq rf i)))) + ((ovT fm ft (nI kd) (plc Bi (rq rf i)) (plc Bi (rq rf i)) pl) + 10))), (5, .int (nI (plc Bi (rq rf i)))), (6, .int 0), (7, .long (Int32.toInt64 (tr.2.2.2.2 + tr.2.1))), (9, .int (tr.2.2.2.1 + 1)), (10, .int (nI i)), (11, .int (nI (rq rf i))), (12, .int (nI (plc Bi (rq rf i)))), (13, .int (if (cp - 0) < ((col Bi 4) (rq rf i)) then (cp - 0) else ((col Bi 4) (rq rf i))))]) [1, 2, 3, 4, 5, 6, 7, 8, 9, 10, 11, 12, 0] rfl ?_
              refine z_iload h dX4_tour_198 6 rfl ?_
              refine z_iload h dX4_tour_200 12 rfl ?_
              refine z_iadd h dX4_tour_202 ?_
              refine z_istore h dX4_tour_203 (by decide) (lv' := [(0, .ref (cm 0)), (1, .int (nI kd)), (2, .int cp), (3, .int 1), (4, .int ((tr.2.2.1 + (fm (tr.1 * 10 + plc Bi (rq rf i)))) + ((ovT fm ft (nI kd) (plc Bi (rq rf i)) (plc Bi (rq rf i)) pl) + 10))), (5, .int (nI (plc Bi (rq rf i)))), (6, .int (0 + (if (cp - 0) < ((col Bi 4) (rq rf i)) then (cp - 0) else ((col Bi 4) (rq rf i))))), (7, .long (Int32.toInt64 (tr.2.2.2.2 + tr.2.1))), (9, .int (tr.2.2.2.1 + 1)), (10, .int (nI i)), (11, .int (nI (rq rf i))), (12, .int (nI (plc Bi (rq rf i)))), (13, .int (if (cp - 0) < ((col Bi 4) (rq rf i)) then (cp - 0) else ((col Bi 4) (rq rf i))))]) [1, 2, 3, 4, 5, 6, 0, 7, 8, 9, 10, 11, 12] rfl ?_
              refine z_iinc h (v := ((tr.2.2.1 + (fm (tr.1 * 10 + plc Bi (rq rf i)))) + ((ovT fm ft (nI kd) (plc Bi (rq rf i)) (plc Bi (rq rf i)) pl) + 10)) + 5) dX4_tour_205 (by decide) 4 rfl rfl (lv' := [(0, .ref (cm 0)), (1, .int (nI kd)), (2, .int cp), (3, .int 1), (4, .int (((tr.2.2.1 + (fm (tr.1 * 10 + plc Bi (rq rf i)))) + ((ovT fm ft (nI kd) (plc Bi (rq rf i)) (plc Bi (rq rf i)) pl) + 10)) + 5)), (5, .int (nI (plc Bi (rq rf i)))), (6, .int (0 + (if (cp - 0) < ((col Bi 4) (rq rf i)) then (cp - 0) else ((col Bi 4) (rq rf i))))), (7, .long (Int32.toInt64 (tr.2.2.2.2 + tr.2.1))), (9, .int (tr.2.2.2.1 + 1)), (10, .int (nI i)), (11, .int (nI (rq rf i))), (12, .int (nI (plc Bi (rq rf i)))), (13, .int (if (cp - 0) < ((col Bi 4) (rq rf i)) then (cp - 0) else ((col Bi 4) (rq rf i))))]) [1, 2, 3, 4, 0, 5, 6, 7, 8, 9, 10, 11, 12] rfl ?_
              refine z_iload_n h dX4_tour_208 rfl 3 rfl ?_
              refine z_if_eq h (tgt := 220) dX4_tour_209 (by decide) (fun c_209 => absurd c_209 (by decide)) (fun c_209 => ?_)
              refine z_aload_n h dX4_tour_212 rfl 0 rfl ?_
              refine z_iload h dX4_tour_213 10 rfl ?_
              refine z_iload h dX4_tour_215 12 rfl ?_
              refine z_Vv h (As := [.int (nI (rq rf i)), .int (if (cp - 0) < ((col Bi 4) (rq rf i)) then (cp - 0) else ((col Bi 4) (rq rf i)))]) (st := []) (fun sz => m_X4_empty l g cm th pl dy n sn Bi (rq rf i) (if (cp - 0) < ((col Bi 4) (rq rf i)) then (cp - 0) else ((col Bi 4) (rq rf i))) (by omega) sz) (cwV 2 h.ts gX4_tour_X4_empty rfl rfl rfl (by decide +kernel) ⟨Nat.le_of_ble_eq_true rfl, Nat.le_of_ble_eq_true rfl⟩) rfl [0, 1, 2] [6] rfl rfl rfl rfl 6 rfl rfl rfl rfl (Nat.le_of_ble_eq_true rfl) ⟨(Nat.le_of_ble_eq_true rfl), (Nat.le_of_ble_eq_true rfl)⟩ (fun _ => (Nat.le_of_ble_eq_true rfl)) (wN := fun u => [(cm 8, .inl (g.2.1, 16, .inl (upd (col Bi 4) (rq rf i) (Bi (rq rf i) 4 - (if (cp - 0) < ((col Bi 4) (rq rf i)) then (cp - 0) else ((col Bi 4) (rq rf i))))))), (cm 9, .inl (g.2.1, 16, .inl (upd (col Bi 5) (rq rf i) (ratB (Bi (rq rf i)) (nI dy))))), (cm 10, .inl (g.2.1, 16, .inl (upd (col Bi 6) (rq rf i) (nI dy)))), (cm 12, .inl (g.2.1, 16, .inl (col Bi 8))), (cm 13, .inl (g.2.2.2.1, 16, .inl (col Bi 9))), (cm 14, .inl (g.2.2.1, 12, .inr (.inl tf)))]) (fun _ => rfl) dX4_tour_217 (fun u_217 h_217 => ?_)
              have hm : mun fm ft (nI kd) cp pl (Bi (rq rf i) 4) (drv fm tr (plc Bi (rq rf i))) = unl fm ft (nI kd) pl (drv fm tr (plc Bi (rq rf i))) (drv fm tr (plc Bi (rq rf i))).1 := by rw [mun, if_neg (show ¬ (drv fm tr (plc Bi (rq rf i))).2.1 ≤ 0 from c_115), if_neg (show ¬ Bi (rq rf i) 4 ≤ cp - (drv fm tr (plc Bi (rq rf i))).2.1 from c_129)]
              have hT : (visT fm ft (nI kd) cp pl (Bi (rq rf i)) (plc Bi (rq rf i)) tr) = (plc Bi (rq rf i), 0 + (if (cp - 0) < ((col Bi 4) (rq rf i)) then (cp - 0) else ((col Bi 4) (rq rf i))), ((tr.2.2.1 + (fm (tr.1 * 10 + plc Bi (rq rf i)))) + ((ovT fm ft (nI kd) (plc Bi (rq rf i)) (plc Bi (rq rf i)) pl) + 10)) + 5, tr.2.2.2.1 + 1, tr.2.2.2.2 + tr.2.1) := by rw [visT, if_pos h9, hm]; rfl
              have hK : (visK fm ft (nI kd) cp pl (Bi (rq rf i)) (plc Bi (rq rf i)) tr) = if (cp - 0) < ((col Bi 4) (rq rf i)) then (cp - 0) else ((col Bi 4) (rq rf i)) := by rw [visK, if_pos h9, hm]; rfl
              refine z_lv [0, 1, 2, 3, 4, 5, 6, 7, 8, 9] (lv' := [(0, .ref (cm 0)), (1, .int (nI kd)), (2, .int cp), (3, .int 1), (4, .int (((tr.2.2.1 + (fm (tr.1 * 10 + plc Bi (rq rf i)))) + ((ovT fm ft (nI kd) (plc Bi (rq rf i)) (plc Bi (rq rf i)) pl) + 10)) + 5)), (5, .int (nI (plc Bi (rq rf i)))), (6, .int (0 + (if (cp - 0) < ((col Bi 4) (rq rf i)) then (cp - 0) else ((col Bi 4) (rq rf i))))), (7, .long (Int32.toInt64 (tr.2.2.2.2 + tr.2.1))), (9, .int (tr.2.2.2.1 + 1)), (10, .int (nI i))]) rfl ?_
              refine z_lve (lv' := [(0, .ref (cm 0)), (1, .int (nI kd)), (2, .int cp), (3, .int 1), (4, .int ((visT fm ft (nI kd) cp pl (Bi (rq rf i)) (plc Bi (rq rf i)) tr).2.2.1)), (5, .int (nI (visT fm ft (nI kd) cp pl (Bi (rq rf i)) (plc Bi (rq rf i)) tr).1)), (6, .int ((visT fm ft (nI kd) cp pl (Bi (rq rf i)) (plc Bi (rq rf i)) tr).2.1)), (7, .long (Int32.toInt64 (visT fm ft (nI kd) cp pl (Bi (rq rf i)) (plc Bi (rq rf i)) tr).2.2.2.2)), (9, .int ((visT fm ft (nI kd) cp pl (Bi (rq rf i)) (plc Bi (rq rf i)) tr).2.2.2.1)), (10, .int (nI i))]) (by rw [hT]) ?_
              have hE9 := end_clean (tk := (visK fm ft (nI kd) cp pl (Bi (rq rf i)) (plc Bi (rq rf i)) tr)) (d := nI dy) h9
              refine z_ws (wW' := [(cm 8, .inl (g.2.1, 16, .inl (col (updB Bi (rq rf i) (endB (Bi (rq rf i)) (visK fm ft (nI kd) cp pl (Bi (rq rf i)) (plc Bi (rq rf i)) tr) (nI dy))) 4))), (cm 9, .inl (g.2.1, 16, .inl (col (updB Bi (rq rf i) (endB (Bi (rq rf i)) (visK fm ft (nI kd) cp pl (Bi (rq rf i)) (plc Bi (rq rf i)) tr) (nI dy))) 5))), (cm 10, .inl (g.2.1, 16, .inl (col (updB Bi (rq rf i) (endB (Bi (rq rf i)) (visK fm ft (nI kd) cp pl (Bi (rq rf i)) (plc Bi (rq rf i)) tr) (nI dy))) 6))), (cm 12, .inl (g.2.1, 16, .inl (col (updB Bi (rq rf i) (endB (Bi (rq rf i)) (visK fm ft (nI kd) cp pl (Bi (rq rf i)) (plc Bi (rq rf i)) tr) (nI dy))) 8))), (cm 13, .inl (g.2.2.2.1, 16, .inl (col (updB Bi (rq rf i) (endB (Bi (rq rf i)) (visK fm ft (nI kd) cp pl (Bi (rq rf i)) (plc Bi (rq rf i)) tr) (nI dy))) 9))), (cm 14, .inl (g.2.2.1, 12, .inr (.inl tf)))]) (by rw [hE9.1, hE9.2.1, hE9.2.2.1, hE9.2.2.2.1, hE9.2.2.2.2]; rw [hK]; try rfl) rfl ?_
              refine z_iinc h (v := nI (i + 1)) dX4_tour_220 (by decide) 9 rfl (by rw [show Int32.ofInt 1 = nI 1 from rfl, nI_add]) (lv' := [(0, .ref (cm 0)), (1, .int (nI kd)), (2, .int cp), (3, .int 1), (4, .int ((visT fm ft (nI kd) cp pl (Bi (rq rf i)) (plc Bi (rq rf i)) tr).2.2.1)), (5, .int (nI (visT fm ft (nI kd) cp pl (Bi (rq rf i)) (plc Bi (rq rf i)) tr).1)), (6, .int ((visT fm ft (nI kd) cp pl (Bi (rq rf i)) (plc Bi (rq rf i)) tr).2.1)), (7, .long (Int32.toInt64 (visT fm ft (nI kd) cp pl (Bi (rq rf i)) (plc Bi (rq rf i)) tr).2.2.2.2)), (9, .int ((visT fm ft (nI kd) cp pl (Bi (rq rf i)) (plc Bi (rq rf i)) tr).2.2.2.1)), (10, .int (nI (i + 1)))]) [1, 2, 3, 4, 5, 6, 7, 8, 9, 0] rfl ?_
              refine z_goto h (tgt := 18) dX4_tour_223 (by decide) ?_
              exact ihL18 (i + 1) (visT fm ft (nI kd) cp pl (Bi (rq rf i)) (plc Bi (rq rf i)) tr) (updB Bi (rq rf i) (endB (Bi (rq rf i)) (visK fm ft (nI kd) cp pl (Bi (rq rf i)) (plc Bi (rq rf i)) tr) (nI dy))) (by omega) (by omega) (by rw [mkF, e1]) (by rw [visT_1]; exact hbq.2.1) hvb.1 (hbi.set (endB_0 _ _ _) (endB_1 _ _ _)) (hci.set hvb.2) (set_0 hb0)
        · have h9 : ¬ Bi (rq rf i) 9 = 0 := c_69
          refine z_iinc h (v := (tr.2.2.1 + (fm (tr.1 * 10 + plc Bi (rq rf i)))) + 2) dX4_tour_72 (by decide) 4 rfl rfl (lv' := [(0, .ref (cm 0)), (1, .int (nI kd)), (2, .int cp), (3, .int 1), (4, .int ((tr.2.2.1 + (fm (tr.1 * 10 + plc Bi (rq rf i)))) + 2)), (5, .int (nI (plc Bi (rq rf i)))), (6, .int tr.2.1), (7, .long (Int32.toInt64 tr.2.2.2.2)), (9, .int tr.2.2.2.1), (10, .int (nI i)), (11, .int (nI (rq rf i))), (12, .int (nI (plc Bi (rq rf i))))]) [1, 2, 3, 4, 0, 5, 6, 7, 8, 9, 10, 11] rfl ?_
          refine z_aload_n h dX4_tour_75 rfl 0 rfl ?_
          refine z_get h in_X4_tour_X4 6 rfl rfl 16 (by decide) lk_X4_tour_f51 rfl dX4_tour_76 ?_
          refine z_iload h dX4_tour_79 10 rfl ?_
          refine z_iload_n h dX4_tour_81 rfl 3 rfl ?_
          refine z_if_ne h (tgt := 89) dX4_tour_82 (by decide) (fun c_82 => ?_) (fun c_82 => absurd c_82 (by decide))
          refine z_iconst h (v := 0) dX4_tour_89 (by decide) ?_
          refine z_zast h (j := rq rf i) 4 rfl (vp_in_nI (by omega) (by omega)) (by rw [nI_clamp (by omega)]) dX4_tour_90 (wW' := [(cm 8, .inl (g.2.1, 16, .inl (col Bi 4))), (cm 9, .inl (g.2.1, 16, .inl (col Bi 5))), (cm 10, .inl (g.2.1, 16, .inl (col Bi 6))), (cm 12, .inl (g.2.1, 16, .inl (col Bi 8))), (cm 13, .inl (g.2.2.2.1, 16, .inl (upd (col Bi 9) (rq rf i) (vp_nar .boolean 0)))), (cm 14, .inl (g.2.2.1, 12, .inr (.inl tf)))]) rfl ?_
          refine z_aload_n h dX4_tour_91 rfl 0 rfl ?_
          refine z_get h in_X4_tour_X4 6 rfl rfl 15 (by decide) lk_X4_tour_f48 rfl dX4_tour_92 ?_
          refine z_iload h dX4_tour_95 10 rfl ?_
          refine z_dup2 h dX4_tour_97 rfl rfl ?_
          refine z_iald h 3 rfl (vp_in_nI (by omega) (by omega)) dX4_tour_98 (v := (col Bi 8) (rq rf i)) (by rw [nI_clamp (by omega)]) ?_
          refine z_iload_n h dX4_tour_99 rfl 3 rfl ?_
          refine z_if_eq h (tgt := 107) dX4_tour_100 (by decide) (fun c_100 => absurd c_100 (by decide)) (fun c_100 => ?_)
          refine z_iconst h (v := 1) dX4_tour_103 (by decide) ?_
          refine z_goto h (tgt := 108) dX4_tour_104 (by decide) ?_
          refine z_iadd h dX4_tour_108 ?_
          refine z_iast h (j := rq rf i) 3 rfl (vp_in_nI (by omega) (by omega)) (by rw [nI_clamp (by omega)]) dX4_tour_109 (wW' := [(cm 8, .inl (g.2.1, 16, .inl (col Bi 4))), (cm 9, .inl (g.2.1, 16, .inl (col Bi 5))), (cm 10, .inl (g.2.1, 16, .inl (col Bi 6))), (cm 12, .inl (g.2.1, 16, .inl (upd (col Bi 8) (rq rf i) (((col Bi 8) (rq rf i)) + 1)))), (cm 13, .inl (g.2.2.2.1, 16, .inl (upd (col Bi 9) (rq rf i) (vp_nar .boolean 0)))), (cm 14, .inl (g.2.2.1, 12, .inr (.inl tf)))]) rfl ?_
          refine z_goto h (tgt := 220) dX4_tour_110 (by decide) ?_
          have hT : (visT fm ft (nI kd) cp pl (Bi (rq rf i)) (plc Bi (rq rf i)) tr) = (plc Bi (rq rf i), tr.2.1, (tr.2.2.1 + (fm (tr.1 * 10 + plc Bi (rq rf i)))) + 2, tr.2.2.2.1, tr.2.2.2.2) := (by rw [visT, if_neg h9]; rfl)
          refine z_lv [0, 1, 2, 3, 4, 5, 6, 7, 8, 9] (lv' := [(0, .ref (cm 0)), (1, .int (nI kd)), (2, .int cp), (3, .int 1), (4, .int ((tr.2.2.1 + (fm (tr.1 * 10 + plc Bi (rq rf i)))) + 2)), (5, .int (nI (plc Bi (rq rf i)))), (6, .int tr.2.1), (7, .long (Int32.toInt64 tr.2.2.2.2)), (9, .int tr.2.2.2.1), (10, .int (nI i))]) rfl ?_
          refine z_lve (lv' := [(0, .ref (cm 0)), (1, .int (nI kd)), (2, .int cp), (3, .int 1), (4, .int ((visT fm ft (nI kd) cp pl (Bi (rq rf i)) (plc Bi (rq rf i)) tr).2.2.1)), (5, .int (nI (visT fm ft (nI kd) cp pl (Bi (rq rf i)) (plc Bi (rq rf i)) tr).1)), (6, .int ((visT fm ft (nI kd) cp pl (Bi (rq rf i)) (plc Bi (rq rf i)) tr).2.1)), (7, .long (Int32.toInt64 (visT fm ft (nI kd) cp pl (Bi (rq rf i)) (plc Bi (rq rf i)) tr).2.2.2.2)), (9, .int ((visT fm ft (nI kd) cp pl (Bi (rq rf i)) (plc Bi (rq rf i)) tr).2.2.2.1)), (10, .int (nI i))]) (by rw [hT]) ?_
          have hE9 := end_dirty (tk := (visK fm ft (nI kd) cp pl (Bi (rq rf i)) (plc Bi (rq rf i)) tr)) (d := nI dy) h9
          refine z_ws (wW' := [(cm 8, .inl (g.2.1, 16, .inl (col (updB Bi (rq rf i) (endB (Bi (rq rf i)) (visK fm ft (nI kd) cp pl (Bi (rq rf i)) (plc Bi (rq rf i)) tr) (nI dy))) 4))), (cm 9, .inl (g.2.1, 16, .inl (col (updB Bi (rq rf i) (endB (Bi (rq rf i)) (visK fm ft (nI kd) cp pl (Bi (rq rf i)) (plc Bi (rq rf i)) tr) (nI dy))) 5))), (cm 10, .inl (g.2.1, 16, .inl (col (updB Bi (rq rf i) (endB (Bi (rq rf i)) (visK fm ft (nI kd) cp pl (Bi (rq rf i)) (plc Bi (rq rf i)) tr) (nI dy))) 6))), (cm 12, .inl (g.2.1, 16, .inl (col (updB Bi (rq rf i) (endB (Bi (rq rf i)) (visK fm ft (nI kd) cp pl (Bi (rq rf i)) (plc Bi (rq rf i)) tr) (nI dy))) 8))), (cm 13, .inl (g.2.2.2.1, 16, .inl (col (updB Bi (rq rf i) (endB (Bi (rq rf i)) (visK fm ft (nI kd) cp pl (Bi (rq rf i)) (plc Bi (rq rf i)) tr) (nI dy))) 9))), (cm 14, .inl (g.2.2.1, 12, .inr (.inl tf)))]) (by rw [hE9.1, hE9.2.1, hE9.2.2.1, hE9.2.2.2.1, hE9.2.2.2.2]; try rfl) rfl ?_
          refine z_iinc h (v := nI (i + 1)) dX4_tour_220 (by decide) 9 rfl (by rw [show Int32.ofInt 1 = nI 1 from rfl, nI_add]) (lv' := [(0, .ref (cm 0)), (1, .int (nI kd)), (2, .int cp), (3, .int 1), (4, .int ((visT fm ft (nI kd) cp pl (Bi (rq rf i)) (plc Bi (rq rf i)) tr).2.2.1)), (5, .int (nI (visT fm ft (nI kd) cp pl (Bi (rq rf i)) (plc Bi (rq rf i)) tr).1)), (6, .int ((visT fm ft (nI kd) cp pl (Bi (rq rf i)) (plc Bi (rq rf i)) tr).2.1)), (7, .long (Int32.toInt64 (visT fm ft (nI kd) cp pl (Bi (rq rf i)) (plc Bi (rq rf i)) tr).2.2.2.2)), (9, .int ((visT fm ft (nI kd) cp pl (Bi (rq rf i)) (plc Bi (rq rf i)) tr).2.2.2.1)), (10, .int (nI (i + 1)))]) [1, 2, 3, 4, 5, 6, 7, 8, 9, 0] rfl ?_
          refine z_goto h (tgt := 18) dX4_tour_223 (by decide) ?_
          exact ihL18 (i + 1) (visT fm ft (nI kd) cp pl (Bi (rq rf i)) (plc Bi (rq rf i)) tr) (updB Bi (rq rf i) (endB (Bi (rq rf i)) (visK fm ft (nI kd) cp pl (Bi (rq rf i)) (plc Bi (rq rf i)) tr) (nI dy))) (by omega) (by omega) (by rw [mkF, e1]) (by rw [visT_1]; exact hbq.2.1) hvb.1 (hbi.set (endB_0 _ _ _) (endB_1 _ _ _)) (hci.set hvb.2) (set_0 hb0)
  exact L18 (sn + 1 - 0) 0 (0, 0, 0, 0, 0) B (by omega) (by omega) rfl (show 0 < 10 by decide) ⟨(show 0 ≤ (0 : Int32).toInt by decide), hc0, (show 0 ≤ (0 : Int32).toInt by decide), (show (0 : Int32).toInt + (0 : Int32).toInt ≤ 1000 * ((0 : Nat) : Int) by decide)⟩ hb hcb (fun j => rfl)
abbrev rmtourW : Room := { frames := 6, cells := 0, slots := 0, locals := 170 }
set_option maxHeartbeats 4000000 in
set_option maxRecDepth 100000 in
theorem m_tourW (l : Launch) (g : Gx) (cm : Nat → Nat) (th : Int32) (pl : Nat) (dy : Nat) (n : Nat) (sn : Nat) (fm : Nat → Int32) (ft : Nat → Int32) (rf : Nat → Int32) (B : Nat → Nat → Int32) (kd : Nat) (cp : Int32) (hpl : pl ≤ 10) (hn : n ≤ 16) (hb : BOK n B) (hr : ROK rf sn n) (hs : sn ≤ 16) (hk : kd < 3) (hfm : FMOK fm) (htp : TIPS ft (nI kd) pl) (hcb : CBK n B) (hc0 : 0 ≤ cp.toInt) (hc1 : cp.toInt ≤ 5000) (hdg : ∀ x, x < 10 → fm (x * 10 + x) = 0) (h01 : ∀ i, i < n → B i 9 = 0 ∨ B i 9 = 1) (sz : Nat) : Met l yX4_tour wsX4_tour rmtourW (PZ g [.ref (cm 0), .int (nI kd), .int cp, .int 0] sz [(cm 12, .inl (g.2.1, 16, .inl (col B 8))), (cm 13, .inl (g.2.2.2.1, 16, .inl (col B 9)))] [(cm 0, .inr (5, [.int th, .int (nI pl), .ref (cm 1), .ref (cm 2), .ref (cm 3), .int (nI dy), .int (nI n), .ref (cm 4), .ref (cm 5), .ref (cm 6), .ref (cm 7), .ref (cm 8), .ref (cm 9), .ref (cm 10), .ref (cm 11), .ref (cm 12), .ref (cm 13), .ref (cm 14), .ref (cm 15), .int (nI sn), .ref (cm 16)])), (cm 1, .inl (g.2.1, 100, .inl fm)), (cm 2, .inl (g.2.1, 10, .inl ft)), (cm 4, .inl (g.2.1, 16, .inl (col B 0))), (cm 16, .inl (g.2.1, 16, .inl rf)), (cm 8, .inl (g.2.1, 16, .inl (col B 4)))]) (va_Qi (fun (r : Int32) (_ : Unit) => r = (endT fm ft (nI kd) pl (wkF fm ft (nI kd) cp pl rf B sn)).2.2.1) (BZ g [(cm 12, .inl (g.2.1, 16, .inl (col B 8))), (cm 13, .inl (g.2.2.2.1, 16, .inl (col B 9)))] sz (fun (u : Unit) => [(cm 12, .inl (g.2.1, 16, .inl (col B 8))), (cm 13, .inl (g.2.2.2.1, 16, .inl (col B 9)))])) (va_A [(cm 12, .inl (g.2.1, 16, .inl (col B 8))), (cm 13, .inl (g.2.2.2.1, 16, .inl (col B 9)))] sz)) 0 0 (va_A [(cm 12, .inl (g.2.1, 16, .inl (col B 8))), (cm 13, .inl (g.2.2.2.1, 16, .inl (col B 9)))] sz) := by
  refine z_open_i (cc := cX4_tour) (maxL := 14) (ret := .int) (own := RX4) (by decide) rfl rfl (Nat.le_of_ble_eq_true rfl) ?_
  intro p e s m args below meth c Q h hnm fin
  generalize hAe : va_A [(cm 12, .inl (g.2.1, 16, .inl (col B 8))), (cm 13, .inl (g.2.2.2.1, 16, .inl (col B 9)))] s.heap.size = A at h fin ⊢
  refine z_lve (lv' := [(0, .ref (cm 0)), (1, .int (nI kd)), (2, .int cp), (3, .int 0)]) rfl ?_
  refine z_iconst h (v := 0) dX4_tour_0 (by decide) ?_
  refine z_istore h dX4_tour_1 (by decide) (lv' := [(0, .ref (cm 0)), (1, .int (nI kd)), (2, .int cp), (3, .int 0), (4, .int 0)]) [1, 2, 3, 4, 0] rfl ?_
  refine z_iconst h (v := 0) dX4_tour_3 (by decide) ?_
  refine z_istore h dX4_tour_4 (by decide) (lv' := [(0, .ref (cm 0)), (1, .int (nI kd)), (2, .int cp), (3, .int 0), (4, .int 0), (5, .int 0)]) [1, 2, 3, 4, 5, 0] rfl ?_
  refine z_iconst h (v := 0) dX4_tour_6 (by decide) ?_
  refine z_istore h dX4_tour_7 (by decide) (lv' := [(0, .ref (cm 0)), (1, .int (nI kd)), (2, .int cp), (3, .int 0), (4, .int 0), (5, .int 0), (6, .int 0)]) [1, 2, 3, 4, 5, 6, 0] rfl ?_
  refine z_lconst h (v := 0) dX4_tour_9 (by decide) ?_
  refine z_lstore h dX4_tour_10 (by decide) (lv' := [(0, .ref (cm 0)), (1, .int (nI kd)), (2, .int cp), (3, .int 0), (4, .int 0), (5, .int 0), (6, .int 0), (7, .long 0)]) [1, 2, 3, 4, 5, 6, 7, 0] rfl ?_
  refine z_iconst h (v := 0) dX4_tour_12 (by decide) ?_
  refine z_istore h dX4_tour_13 (by decide) (lv' := [(0, .ref (cm 0)), (1, .int (nI kd)), (2, .int cp), (3, .int 0), (4, .int 0), (5, .int 0), (6, .int 0), (7, .long 0), (9, .int 0)]) [1, 2, 3, 4, 5, 6, 7, 8, 0] rfl ?_
  refine z_iconst h (v := 0) dX4_tour_15 (by decide) ?_
  refine z_istore h dX4_tour_16 (by decide) (lv' := [(0, .ref (cm 0)), (1, .int (nI kd)), (2, .int cp), (3, .int 0), (4, .int 0), (5, .int 0), (6, .int 0), (7, .long 0), (9, .int 0), (10, .int 0)]) [1, 2, 3, 4, 5, 6, 7, 8, 9, 0] rfl ?_
  have L18 : ∀ (L18n i : Nat) (tr : TS), i ≤ sn → sn < L18n + i → wkF fm ft (nI kd) cp pl rf B i = tr → tr.1 < 10 → LB cp i tr → Z p l e rmtourW s m args below meth c Q A g 14 18 [(0, .ref (cm 0)), (1, .int (nI kd)), (2, .int cp), (3, .int 0), (4, .int tr.2.2.1), (5, .int (nI tr.1)), (6, .int tr.2.1), (7, .long (Int32.toInt64 tr.2.2.2.2)), (9, .int tr.2.2.2.1), (10, .int (nI i))] [] [(cm 12, .inl (g.2.1, 16, .inl (col B 8))), (cm 13, .inl (g.2.2.2.1, 16, .inl (col B 9)))] [(cm 0, .inr (5, [.int th, .int (nI pl), .ref (cm 1), .ref (cm 2), .ref (cm 3), .int (nI dy), .int (nI n), .ref (cm 4), .ref (cm 5), .ref (cm 6), .ref (cm 7), .ref (cm 8), .ref (cm 9), .ref (cm 10), .ref (cm 11), .ref (cm 12), .ref (cm 13), .ref (cm 14), .ref (cm 15), .int (nI sn), .ref (cm 16)])), (cm 1, .inl (g.2.1, 100, .inl fm)), (cm 2, .inl (g.2.1, 10, .inl ft)), (cm 4, .inl (g.2.1, 16, .inl (col B 0))), (cm 16, .inl (g.2.1, 16, .inl rf)), (cm 8, .inl (g.2.1, 16, .inl (col B 4)))] 0 0 := by
    intro L18n
    induction L18n with
    | zero => intro i tr hi hL18 e1 ht hl; exact absurd hL18 (by omega)
    | succ L18n ihL18 =>
      intro i tr hi hL18 e1 ht hl
      refine z_iload h dX4_tour_18 9 rfl ?_
      refine z_aload_n h dX4_tour_20 rfl 0 rfl ?_
      refine z_get h in_X4_tour_X4 2 rfl rfl 19 (by decide) lk_X4_tour_f117 rfl dX4_tour_21 ?_
      refine z_icmp_ge h (tgt := 226) dX4_tour_24 (by decide) (fun c_24 => ?_) (fun c_24 => ?_)
      · have his : i = sn := by have := ge_t (a := i) (b := sn) c_24 (by omega) (by omega); omega
        subst his
        refine z_iload h dX4_tour_226 6 rfl ?_
        refine z_if_le h (tgt := 242) dX4_tour_228 (by decide) (fun c_228 => ?_) (fun c_228 => ?_)
        · have hz : tr.2.1 = 0 := Int32.toInt_inj.mp (by have := i32_le.mp c_228; have h8 : (0 : Int32).toInt = 0 := rfl; have := hl.1; omega)
          refine z_iload h dX4_tour_242 5 rfl ?_
          refine z_istore h dX4_tour_244 (by decide) (lv' := [(0, .ref (cm 0)), (1, .int (nI kd)), (2, .int cp), (3, .int 0), (4, .int tr.2.2.1), (5, .int (nI tr.1)), (6, .int tr.2.1), (7, .long (Int32.toInt64 tr.2.2.2.2)), (9, .int tr.2.2.2.1), (10, .int (nI tr.1))]) [1, 2, 3, 4, 5, 6, 7, 8, 9, 0] rfl ?_
          refine z_iload h dX4_tour_246 4 rfl ?_
          refine z_aload_n h dX4_tour_248 rfl 0 rfl ?_
          refine z_iload h dX4_tour_249 5 rfl ?_
          refine z_iload h dX4_tour_251 9 rfl ?_
          refine z_Vi h (As := [.int (nI tr.1), .int (nI tr.1)]) (st := [.int tr.2.2.1]) (fun sz => m_X4_drive l g cm th pl dy n i fm tr.1 tr.1 ht (by omega) sz) (cwV 2 h.ts gX4_tour_X4_drive rfl rfl rfl (by decide +kernel) ⟨Nat.le_of_ble_eq_true rfl, Nat.le_of_ble_eq_true rfl⟩) rfl [] [2, 3] rfl rfl rfl rfl 2 rfl rfl rfl rfl (Nat.le_of_ble_eq_true rfl) ⟨(Nat.le_of_ble_eq_true rfl), (Nat.le_of_ble_eq_true rfl)⟩ (fun _ => (Nat.le_of_ble_eq_true rfl)) (wN := fun u => [(cm 12, .inl (g.2.1, 16, .inl (col B 8))), (cm 13, .inl (g.2.2.2.1, 16, .inl (col B 9)))]) (fun _ => rfl) dX4_tour_253 (fun r_253 u_253 h_253 => ?_)
          refine z_aload_n h dX4_tour_256 rfl 0 rfl ?_
          refine z_iload h dX4_tour_257 9 rfl ?_
          refine z_iconst h (v := 0) dX4_tour_259 (by decide) ?_
          refine z_Vi h (As := [.int (nI tr.1), .int 0]) (st := [.int r_253, .int tr.2.2.1]) (fun sz => m_X4_drive l g cm th pl dy n i fm tr.1 0 (by omega) (show 0 < 10 by decide) sz) (cwV 2 h.ts gX4_tour_X4_drive rfl rfl rfl (by decide +kernel) ⟨Nat.le_of_ble_eq_true rfl, Nat.le_of_ble_eq_true rfl⟩) rfl [] [2, 3] rfl rfl rfl rfl 2 rfl rfl rfl rfl (Nat.le_of_ble_eq_true rfl) ⟨(Nat.le_of_ble_eq_true rfl), (Nat.le_of_ble_eq_true rfl)⟩ (fun _ => (Nat.le_of_ble_eq_true rfl)) (wN := fun u => [(cm 12, .inl (g.2.1, 16, .inl (col B 8))), (cm 13, .inl (g.2.2.2.1, 16, .inl (col B 9)))]) (fun _ => rfl) dX4_tour_260 (fun r_260 u_260 h_260 => ?_)
          refine z_iadd h dX4_tour_263 ?_
          refine z_iload h dX4_tour_264 6 rfl ?_
          refine z_if_le h (tgt := 274) dX4_tour_266 (by decide) (fun c_266 => ?_) (fun c_266 => absurd c_228 c_266)
          refine z_iconst h (v := 0) dX4_tour_274 (by decide) ?_
          refine z_iadd h dX4_tour_275 ?_
          refine z_iadd h dX4_tour_276 ?_
          refine z_topi (y := (endT fm ft (nI kd) pl tr).2.2.1) (by first | (rw [h_253, h_260, endT, if_pos c_228, hdg tr.1 ht]; show tr.2.2.1 + ((0 + fm (tr.1 * 10 + 0)) + 0) = tr.2.2.1 + fm (tr.1 * 10 + 0); rw [Int32.zero_add, Int32.add_zero]) | (rw [h_253, h_260, endT, if_neg c_228]; show tr.2.2.1 + (dv2 fm tr.1 0 q2 + 10) = tr.2.2.1 + (ovT fm ft (nI kd) tr.1 0 pl + 10) + fm (0 * 10 + 0); rw [hq3, hdg 0 (by decide), Int32.add_zero])) ?_
          refine z_istore h dX4_tour_277 (by decide) (lv' := [(0, .ref (cm 0)), (1, .int (nI kd)), (2, .int cp), (3, .int 0), (4, .int ((endT fm ft (nI kd) pl tr).2.2.1)), (5, .int (nI tr.1)), (6, .int tr.2.1), (7, .long (Int32.toInt64 tr.2.2.2.2)), (9, .int tr.2.2.2.1), (10, .int (nI tr.1))]) [1, 2, 3, 4, 0, 5, 6, 7, 8, 9] rfl ?_
          refine z_lload h dX4_tour_279 7 rfl ?_
          refine z_iload h dX4_tour_281 6 rfl ?_
          refine z_i2l h dX4_tour_283 ?_
          refine z_ladd h dX4_tour_284 ?_
          refine z_topl (y := Int32.toInt64 (endT fm ft (nI kd) pl tr).2.2.2.2) (by first | (rw [endT, if_pos c_228, hz]; show tr.2.2.2.2.toInt64 + Int32.toInt64 0 = tr.2.2.2.2.toInt64; exact Int64.add_zero _) | (rw [endT, if_neg c_228]; exact (i64_add (by obtain ⟨z1, z2, z3, z4⟩ := hl; omega) (by obtain ⟨z1, z2, z3, z4⟩ := hl; omega)).symm)) ?_
          refine z_lstore h dX4_tour_285 (by decide) (lv' := [(0, .ref (cm 0)), (1, .int (nI kd)), (2, .int cp), (3, .int 0), (4, .int ((endT fm ft (nI kd) pl tr).2.2.1)), (5, .int (nI tr.1)), (6, .int tr.2.1), (7, .long (Int32.toInt64 (endT fm ft (nI kd) pl tr).2.2.2.2)), (9, .int tr.2.2.2.1), (10, .int (nI tr.1))]) [1, 2, 3, 4, 5, 6, 7, 0, 8, 9] rfl ?_
          refine z_iload h dX4_tour_287 8 rfl ?_
          refine z_iload h dX4_tour_289 6 rfl ?_
          refine z_if_le h (tgt := 298) dX4_tour_291 (by decide) (fun c_291 => ?_) (fun c_291 => absurd c_228 c_291)
          refine z_iconst h (v := 0) dX4_tour_298 (by decide) ?_
          refine z_iadd h dX4_tour_299 ?_
          refine z_topi (y := (endT fm ft (nI kd) pl tr).2.2.2.1) (by first | (rw [endT, if_pos c_228, Int32.add_zero]; rfl) | (rw [endT, if_neg c_228]; rfl)) ?_
          refine z_istore h dX4_tour_300 (by decide) (lv' := [(0, .ref (cm 0)), (1, .int (nI kd)), (2, .int cp), (3, .int 0), (4, .int ((endT fm ft (nI kd) pl tr).2.2.1)), (5, .int (nI tr.1)), (6, .int tr.2.1), (7, .long (Int32.toInt64 (endT fm ft (nI kd) pl tr).2.2.2.2)), (9, .int ((endT fm ft (nI kd) pl tr).2.2.2.1)), (10, .int (nI tr.1))]) [1, 2, 3, 4, 5, 6, 7, 8, 0, 9] rfl ?_
          refine z_iload_n h dX4_tour_302 rfl 3 rfl ?_
          refine z_if_ne h (tgt := 309) dX4_tour_303 (by decide) (fun c_303 => absurd c_303 (by decide)) (fun c_303 => ?_)
          refine z_iload h dX4_tour_306 4 rfl ?_
          exact fin _ _ _ () _ _ _ _ dX4_tour_308 rfl (by rw [e1]) rfl (Nat.le_of_ble_eq_true rfl) (Nat.le_of_ble_eq_true rfl)
        · refine z_aload_n h dX4_tour_231 rfl 0 rfl ?_
          refine z_iload_n h dX4_tour_232 rfl 1 rfl ?_
          refine z_iload h dX4_tour_233 5 rfl ?_
          refine z_iconst h (v := 0) dX4_tour_235 (by decide) ?_
          refine z_Vi h (As := [.int (nI kd), .int (nI tr.1), .int 0]) (st := []) (fun sz => m_X4_tipFor l g cm th pl dy n i fm ft (nI kd) tr.1 0 hpl ht (show 0 < 10 by decide) sz) (cwV 3 h.ts gX4_tour_X4_tipFor rfl rfl rfl (by decide +kernel) ⟨Nat.le_of_ble_eq_true rfl, Nat.le_of_ble_eq_true rfl⟩) rfl [] [2, 3, 4] rfl rfl rfl rfl 2 rfl rfl rfl rfl (Nat.le_of_ble_eq_true rfl) ⟨(Nat.le_of_ble_eq_true rfl), (Nat.le_of_ble_eq_true rfl)⟩ (fun _ => (Nat.le_of_ble_eq_true rfl)) (wN := fun u => [(cm 12, .inl (g.2.1, 16, .inl (col B 8))), (cm 13, .inl (g.2.2.2.1, 16, .inl (col B 9)))]) (fun _ => rfl) dX4_tour_236 (fun r_236 u_236 h_236 => ?_)
          obtain ⟨q2, hq1, hq2, hq3⟩ := tip_is hfm ht (show 0 < 10 by decide) hpl htp h_236
          refine z_topi (y := nI q2) hq2 ?_
          refine z_goto h (tgt := 244) dX4_tour_239 (by decide) ?_
          refine z_istore h dX4_tour_244 (by decide) (lv' := [(0, .ref (cm 0)), (1, .int (nI kd)), (2, .int cp), (3, .int 0), (4, .int tr.2.2.1), (5, .int (nI tr.1)), (6, .int tr.2.1), (7, .long (Int32.toInt64 tr.2.2.2.2)), (9, .int tr.2.2.2.1), (10, .int (nI q2))]) [1, 2, 3, 4, 5, 6, 7, 8, 9, 0] rfl ?_
          refine z_iload h dX4_tour_246 4 rfl ?_
          refine z_aload_n h dX4_tour_248 rfl 0 rfl ?_
          refine z_iload h dX4_tour_249 5 rfl ?_
          refine z_iload h dX4_tour_251 9 rfl ?_
          refine z_Vi h (As := [.int (nI tr.1), .int (nI q2)]) (st := [.int tr.2.2.1]) (fun sz => m_X4_drive l g cm th pl dy n i fm tr.1 q2 ht (by omega) sz) (cwV 2 h.ts gX4_tour_X4_drive rfl rfl rfl (by decide +kernel) ⟨Nat.le_of_ble_eq_true rfl, Nat.le_of_ble_eq_true rfl⟩) rfl [] [2, 3] rfl rfl rfl rfl 2 rfl rfl rfl rfl (Nat.le_of_ble_eq_true rfl) ⟨(Nat.le_of_ble_eq_true rfl), (Nat.le_of_ble_eq_true rfl)⟩ (fun _ => (Nat.le_of_ble_eq_true rfl)) (wN := fun u => [(cm 12, .inl (g.2.1, 16, .inl (col B 8))), (cm 13, .inl (g.2.2.2.1, 16, .inl (col B 9)))]) (fun _ => rfl) dX4_tour_253 (fun r_253 u_253 h_253 => ?_)
          refine z_aload_n h dX4_tour_256 rfl 0 rfl ?_
          refine z_iload h dX4_tour_257 9 rfl ?_
          refine z_iconst h (v := 0) dX4_tour_259 (by decide) ?_
          refine z_Vi h (As := [.int (nI q2), .int 0]) (st := [.int r_253, .int tr.2.2.1]) (fun sz => m_X4_drive l g cm th pl dy n i fm q2 0 (by omega) (show 0 < 10 by decide) sz) (cwV 2 h.ts gX4_tour_X4_drive rfl rfl rfl (by decide +kernel) ⟨Nat.le_of_ble_eq_true rfl, Nat.le_of_ble_eq_true rfl⟩) rfl [] [2, 3] rfl rfl rfl rfl 2 rfl rfl rfl rfl (Nat.le_of_ble_eq_true rfl) ⟨(Nat.le_of_ble_eq_true rfl), (Nat.le_of_ble_eq_true rfl)⟩ (fun _ => (Nat.le_of_ble_eq_true rfl)) (wN := fun u => [(cm 12, .inl (g.2.1, 16, .inl (col B 8))), (cm 13, .inl (g.2.2.2.1, 16, .inl (col B 9)))]) (fun _ => rfl) dX4_tour_260 (fun r_260 u_260 h_260 => ?_)
          refine z_iadd h dX4_tour_263 ?_
          refine z_iload h dX4_tour_264 6 rfl ?_
          refine z_if_le h (tgt := 274) dX4_tour_266 (by decide) (fun c_266 => absurd c_266 c_228) (fun c_266 => ?_)
          refine z_bipush h (v := 10) dX4_tour_269 (by decide) ?_
          refine z_goto h (tgt := 275) dX4_tour_271 (by decide) ?_
          refine z_iadd h dX4_tour_275 ?_
          refine z_iadd h dX4_tour_276 ?_
          refine z_topi (y := (endT fm ft (nI kd) pl tr).2.2.1) (by first | (rw [h_253, h_260, endT, if_pos c_228, hdg tr.1 ht]; show tr.2.2.1 + ((0 + fm (tr.1 * 10 + 0)) + 0) = tr.2.2.1 + fm (tr.1 * 10 + 0); rw [Int32.zero_add, Int32.add_zero]) | (rw [h_253, h_260, endT, if_neg c_228]; show tr.2.2.1 + (dv2 fm tr.1 0 q2 + 10) = tr.2.2.1 + (ovT fm ft (nI kd) tr.1 0 pl + 10) + fm (0 * 10 + 0); rw [hq3, hdg 0 (by decide), Int32.add_zero])) ?_
          refine z_istore h dX4_tour_277 (by decide) (lv' := [(0, .ref (cm 0)), (1, .int (nI kd)), (2, .int cp), (3, .int 0), (4, .int ((endT fm ft (nI kd) pl tr).2.2.1)), (5, .int (nI tr.1)), (6, .int tr.2.1), (7, .long (Int32.toInt64 tr.2.2.2.2)), (9, .int tr.2.2.2.1), (10, .int (nI q2))]) [1, 2, 3, 4, 0, 5, 6, 7, 8, 9] rfl ?_
          refine z_lload h dX4_tour_279 7 rfl ?_
          refine z_iload h dX4_tour_281 6 rfl ?_
          refine z_i2l h dX4_tour_283 ?_
          refine z_ladd h dX4_tour_284 ?_
          refine z_topl (y := Int32.toInt64 (endT fm ft (nI kd) pl tr).2.2.2.2) (by first | (rw [endT, if_pos c_228, hz]; show tr.2.2.2.2.toInt64 + Int32.toInt64 0 = tr.2.2.2.2.toInt64; exact Int64.add_zero _) | (rw [endT, if_neg c_228]; exact (i64_add (by obtain ⟨z1, z2, z3, z4⟩ := hl; omega) (by obtain ⟨z1, z2, z3, z4⟩ := hl; omega)).symm)) ?_
          refine z_lstore h dX4_tour_285 (by decide) (lv' := [(0, .ref (cm 0)), (1, .int (nI kd)), (2, .int cp), (3, .int 0), (4, .int ((endT fm ft (nI kd) pl tr).2.2.1)), (5, .int (nI tr.1)), (6, .int tr.2.1), (7, .long (Int32.toInt64 (endT fm ft (nI kd) pl tr).2.2.2.2)), (9, .int tr.2.2.2.1), (10, .int (nI q2))]) [1, 2, 3, 4, 5, 6, 7, 0, 8, 9] rfl ?_
          refine z_iload h dX4_tour_287 8 rfl ?_
          refine z_iload h dX4_tour_289 6 rfl ?_
          refine z_if_le h (tgt := 298) dX4_tour_291 (by decide) (fun c_291 => absurd c_291 c_228) (fun c_291 => ?_)
          refine z_iconst h (v := 1) dX4_tour_294 (by decide) ?_
          refine z_goto h (tgt := 299) dX4_tour_295 (by decide) ?_
          refine z_iadd h dX4_tour_299 ?_
          refine z_topi (y := (endT fm ft (nI kd) pl tr).2.2.2.1) (by first | (rw [endT, if_pos c_228, Int32.add_zero]; rfl) | (rw [endT, if_neg c_228]; rfl)) ?_
          refine z_istore h dX4_tour_300 (by decide) (lv' := [(0, .ref (cm 0)), (1, .int (nI kd)), (2, .int cp), (3, .int 0), (4, .int ((endT fm ft (nI kd) pl tr).2.2.1)), (5, .int (nI tr.1)), (6, .int tr.2.1), (7, .long (Int32.toInt64 (endT fm ft (nI kd) pl tr).2.2.2.2)), (9, .int ((endT fm ft (nI kd) pl tr).2.2.2.1)), (10, .int (nI q2))]) [1, 2, 3, 4, 5, 6, 7, 8, 0, 9] rfl ?_
          refine z_iload_n h dX4_tour_302 rfl 3 rfl ?_
          refine z_if_ne h (tgt := 309) dX4_tour_303 (by decide) (fun c_303 => absurd c_303 (by decide)) (fun c_303 => ?_)
          refine z_iload h dX4_tour_306 4 rfl ?_
          exact fin _ _ _ () _ _ _ _ dX4_tour_308 rfl (by rw [e1]) rfl (Nat.le_of_ble_eq_true rfl) (Nat.le_of_ble_eq_true rfl)
      · have hi : i < sn := ge_f (a := i) (b := sn) c_24 (by omega) (by omega)
        have hqr := hr i hi
        have hbq := hb _ hqr.2
        have hcq := hcb _ hqr.2
        have hvb := vis_b (fm := fm) (ft := ft) (k := (nI kd)) (pl := pl) (pb := plc B (rq rf i)) (b := B (rq rf i)) hl (by omega) hc1 hc0 hcq.1 hcq.2
        refine z_aload_n h dX4_tour_27 rfl 0 rfl ?_
        refine z_get h in_X4_tour_X4 2 rfl rfl 20 (by decide) lk_X4_tour_f61 rfl dX4_tour_28 ?_
        refine z_iload h dX4_tour_31 9 rfl ?_
        refine z_iald h 6 rfl (vp_in_nI (by omega) (by omega)) dX4_tour_33 (v := rf i) (by rw [nI_clamp (by omega)]) ?_
        refine z_topi (y := nI (rq rf i)) hqr.1 ?_
        refine z_istore h dX4_tour_34 (by decide) (lv' := [(0, .ref (cm 0)), (1, .int (nI kd)), (2, .int cp), (3, .int 0), (4, .int tr.2.2.1), (5, .int (nI tr.1)), (6, .int tr.2.1), (7, .long (Int32.toInt64 tr.2.2.2.2)), (9, .int tr.2.2.2.1), (10, .int (nI i)), (11, .int (nI (rq rf i)))]) [1, 2, 3, 4, 5, 6, 7, 8, 9, 10, 0] rfl ?_
        refine z_aload_n h dX4_tour_36 rfl 0 rfl ?_
        refine z_get h in_X4_tour_X4 2 rfl rfl 7 (by decide) lk_X4_tour_f24 rfl dX4_tour_37 ?_
        refine z_iload h dX4_tour_40 10 rfl ?_
        refine z_iald h 5 rfl (vp_in_nI (by omega) (by omega)) dX4_tour_42 (v := (col B 0) (rq rf i)) (by rw [nI_clamp (by omega)]) ?_
        refine z_topi (y := nI (plc B (rq rf i))) hbq.1 ?_
        refine z_istore h dX4_tour_43 (by decide) (lv' := [(0, .ref (cm 0)), (1, .int (nI kd)), (2, .int cp), (3, .int 0), (4, .int tr.2.2.1), (5, .int (nI tr.1)), (6, .int tr.2.1), (7, .long (Int32.toInt64 tr.2.2.2.2)), (9, .int tr.2.2.2.1), (10, .int (nI i)), (11, .int (nI (rq rf i))), (12, .int (nI (plc B (rq rf i))))]) [1, 2, 3, 4, 5, 6, 7, 8, 9, 10, 11, 0] rfl ?_
        refine z_iload h dX4_tour_45 4 rfl ?_
        refine z_aload_n h dX4_tour_47 rfl 0 rfl ?_
        refine z_iload h dX4_tour_48 5 rfl ?_
        refine z_iload h dX4_tour_50 11 rfl ?_
        refine z_Vi h (As := [.int (nI tr.1), .int (nI (plc B (rq rf i)))]) (st := [.int tr.2.2.1]) (fun sz => m_X4_drive l g cm th pl dy n sn fm tr.1 (plc B (rq rf i)) ht hbq.2.1 sz) (cwV 2 h.ts gX4_tour_X4_drive rfl rfl rfl (by decide +kernel) ⟨Nat.le_of_ble_eq_true rfl, Nat.le_of_ble_eq_true rfl⟩) rfl [] [2, 3] rfl rfl rfl rfl 2 rfl rfl rfl rfl (Nat.le_of_ble_eq_true rfl) ⟨(Nat.le_of_ble_eq_true rfl), (Nat.le_of_ble_eq_true rfl)⟩ (fun _ => (Nat.le_of_ble_eq_true rfl)) (wN := fun u => [(cm 12, .inl (g.2.1, 16, .inl (col B 8))), (cm 13, .inl (g.2.2.2.1, 16, .inl (col B 9)))]) (fun _ => rfl) dX4_tour_52 (fun r_52 u_52 h_52 => ?_)
        refine z_topi (y := fm (tr.1 * 10 + plc B (rq rf i))) h_52 ?_
        refine z_iadd h dX4_tour_55 ?_
        refine z_istore h dX4_tour_56 (by decide) (lv' := [(0, .ref (cm 0)), (1, .int (nI kd)), (2, .int cp), (3, .int 0), (4, .int (tr.2.2.1 + (fm (tr.1 * 10 + plc B (rq rf i))))), (5, .int (nI tr.1)), (6, .int tr.2.1), (7, .long (Int32.toInt64 tr.2.2.2.2)), (9, .int tr.2.2.2.1), (10, .int (nI i)), (11, .int (nI (rq rf i))), (12, .int (nI (plc B (rq rf i))))]) [1, 2, 3, 4, 0, 5, 6, 7, 8, 9, 10, 11] rfl ?_
        refine z_iload h dX4_tour_58 11 rfl ?_
        refine z_istore h dX4_tour_60 (by decide) (lv' := [(0, .ref (cm 0)), (1, .int (nI kd)), (2, .int cp), (3, .int 0), (4, .int (tr.2.2.1 + (fm (tr.1 * 10 + plc B (rq rf i))))), (5, .int (nI (plc B (rq rf i)))), (6, .int tr.2.1), (7, .long (Int32.toInt64 tr.2.2.2.2)), (9, .int tr.2.2.2.1), (10, .int (nI i)), (11, .int (nI (rq rf i))), (12, .int (nI (plc B (rq rf i))))]) [1, 2, 3, 4, 5, 0, 6, 7, 8, 9, 10, 11] rfl ?_
        refine z_aload_n h dX4_tour_62 rfl 0 rfl ?_
        refine z_get h in_X4_tour_X4 2 rfl rfl 16 (by decide) lk_X4_tour_f51 rfl dX4_tour_63 ?_
        refine z_iload h dX4_tour_66 10 rfl ?_
        refine z_zald h 1 rfl (vp_in_nI (by omega) (by omega)) dX4_tour_68 (v := (col B 9) (rq rf i)) (by rw [nI_clamp (by omega)]) ?_
        refine z_if_eq h (tgt := 113) dX4_tour_69 (by decide) (fun c_69 => ?_) (fun c_69 => ?_)
        · have h9 : B (rq rf i) 9 = 0 := c_69
          refine z_iload h dX4_tour_113 6 rfl ?_
          refine z_if_le h (tgt := 182) dX4_tour_115 (by decide) (fun c_115 => ?_) (fun c_115 => ?_)
          · refine z_aload_n h dX4_tour_182 rfl 0 rfl ?_
            refine z_get h in_X4_tour_X4 2 rfl rfl 11 (by decide) lk_X4_tour_f36 rfl dX4_tour_183 ?_
            refine z_iload h dX4_tour_186 10 rfl ?_
            refine z_iald h 7 rfl (vp_in_nI (by omega) (by omega)) dX4_tour_188 (v := (col B 4) (rq rf i)) (by rw [nI_clamp (by omega)]) ?_
            refine z_iload_n h dX4_tour_189 rfl 2 rfl ?_
            refine z_iload h dX4_tour_190 6 rfl ?_
            refine z_isub h dX4_tour_192 ?_
            refine z_mmin h lk_X4_tour_m111 lk_X4_tour_smin lk_X4_tour_imin lk_X4_tour_kmin (Nat.le_of_ble_eq_true rfl) (Nat.le_of_ble_eq_true rfl) (Nat.le_of_ble_eq_true rfl) (Nat.le_of_ble_eq_true rfl) dX4_tour_193 ?_
            refine z_istore h dX4_tour_196 (by decide) (lv' := [(0, .ref (cm 0)), (1, .int (nI kd)), (2, .int cp), (3, .int 0), (4, .int (tr.2.2.1 + (fm (tr.1 * 10 + plc B (rq rf i))))), (5, .int (nI (plc B (rq rf i)))), (6, .int tr.2.1), (7, .long (Int32.toInt64 tr.2.2.2.2)), (9, .int tr.2.2.2.1), (10, .int (nI i)), (11, .int (nI (rq rf i))), (12, .int (nI (plc B (rq rf i)))), (13, .int (if (cp - tr.2.1) < ((col B 4) (rq rf i)) then (cp - tr.2.1) else ((col B 4) (rq rf i))))]) [1, 2, 3, 4, 5, 6, 7, 8, 9, 10, 11, 12, 0] rfl ?_
            refine z_iload h dX4_tour_198 6 rfl ?_
            refine z_iload h dX4_tour_200 12 rfl ?_
            refine z_iadd h dX4_tour_202 ?_
            refine z_istore h dX4_tour_203 (by decide) (lv' := [(0, .ref (cm 0)), (1, .int (nI kd)), (2, .int cp), (3, .int 0), (4, .int (tr.2.2.1 + (fm (tr.1 * 10 + plc B (rq rf i))))), (5, .int (nI (plc B (rq rf i)))), (6, .int (tr.2.1 + (if (cp - tr.2.1) < ((col B 4) (rq rf i)) then (cp - tr.2.1) else ((col B 4) (rq rf i))))), (7, .long (Int32.toInt64 tr.2.2.2.2)), (9, .int tr.2.2.2.1), (10, .int (nI i)), (11, .int (nI (rq rf i))), (12, .int (nI (plc B (rq rf i)))), (13, .int (if (cp - tr.2.1) < ((col B 4) (rq rf i)) then (cp - tr.2.1) else ((col B 4) (rq rf i))))]) [1, 2, 3, 4, 5, 6, 0, 7, 8, 9, 10, 11, 12] rfl ?_
            refine z_iinc h (v := (tr.2.2.1 + (fm (tr.1 * 10 + plc B (rq rf i)))) + 5) dX4_tour_205 (by decide) 4 rfl rfl (lv' := [(0, .ref (cm 0)), (1, .int (nI kd)), (2, .int cp), (3, .int 0), (4, .int ((tr.2.2.1 + (fm (tr.1 * 10 + plc B (rq rf i)))) + 5)), (5, .int (nI (plc B (rq rf i)))), (6, .int (tr.2.1 + (if (cp - tr.2.1) < ((col B 4) (rq rf i)) then (cp - tr.2.1) else ((col B 4) (rq rf i))))), (7, .long (Int32.toInt64 tr.2.2.2.2)), (9, .int tr.2.2.2.1), (10, .int (nI i)), (11, .int (nI (rq rf i))), (12, .int (nI (plc B (rq rf i)))), (13, .int (if (cp - tr.2.1) < ((col B 4) (rq rf i)) then (cp - tr.2.1) else ((col B 4) (rq rf i))))]) [1, 2, 3, 4, 0, 5, 6, 7, 8, 9, 10, 11, 12] rfl ?_
            refine z_iload_n h dX4_tour_208 rfl 3 rfl ?_
            refine z_if_eq h (tgt := 220) dX4_tour_209 (by decide) (fun c_209 => ?_) (fun c_209 => absurd c_209 (by decide))
            have hm : mun fm ft (nI kd) cp pl (B (rq rf i) 4) (drv fm tr (plc B (rq rf i))) = (drv fm tr (plc B (rq rf i))) := by rw [mun, if_pos (show (drv fm tr (plc B (rq rf i))).2.1 ≤ 0 from c_115)]
            have hT : (visT fm ft (nI kd) cp pl (B (rq rf i)) (plc B (rq rf i)) tr) = (plc B (rq rf i), tr.2.1 + (if (cp - tr.2.1) < ((col B 4) (rq rf i)) then (cp - tr.2.1) else ((col B 4) (rq rf i))), (tr.2.2.1 + (fm (tr.1 * 10 + plc B (rq rf i)))) + 5, tr.2.2.2.1, tr.2.2.2.2) := by rw [visT, if_pos h9, hm]; rfl
            refine z_lv [0, 1, 2, 3, 4, 5, 6, 7, 8, 9] (lv' := [(0, .ref (cm 0)), (1, .int (nI kd)), (2, .int cp), (3, .int 0), (4, .int ((tr.2.2.1 + (fm (tr.1 * 10 + plc B (rq rf i)))) + 5)), (5, .int (nI (plc B (rq rf i)))), (6, .int (tr.2.1 + (if (cp - tr.2.1) < ((col B 4) (rq rf i)) then (cp - tr.2.1) else ((col B 4) (rq rf i))))), (7, .long (Int32.toInt64 tr.2.2.2.2)), (9, .int tr.2.2.2.1), (10, .int (nI i))]) rfl ?_
            refine z_lve (lv' := [(0, .ref (cm 0)), (1, .int (nI kd)), (2, .int cp), (3, .int 0), (4, .int ((visT fm ft (nI kd) cp pl (B (rq rf i)) (plc B (rq rf i)) tr).2.2.1)), (5, .int (nI (visT fm ft (nI kd) cp pl (B (rq rf i)) (plc B (rq rf i)) tr).1)), (6, .int ((visT fm ft (nI kd) cp pl (B (rq rf i)) (plc B (rq rf i)) tr).2.1)), (7, .long (Int32.toInt64 (visT fm ft (nI kd) cp pl (B (rq rf i)) (plc B (rq rf i)) tr).2.2.2.2)), (9, .int ((visT fm ft (nI kd) cp pl (B (rq rf i)) (plc B (rq rf i)) tr).2.2.2.1)), (10, .int (nI i))]) (by rw [hT]) ?_
            refine z_iinc h (v := nI (i + 1)) dX4_tour_220 (by decide) 9 rfl (by rw [show Int32.ofInt 1 = nI 1 from rfl, nI_add]) (lv' := [(0, .ref (cm 0)), (1, .int (nI kd)), (2, .int cp), (3, .int 0), (4, .int ((visT fm ft (nI kd) cp pl (B (rq rf i)) (plc B (rq rf i)) tr).2.2.1)), (5, .int (nI (visT fm ft (nI kd) cp pl (B (rq rf i)) (plc B (rq rf i)) tr).1)), (6, .int ((visT fm ft (nI kd) cp pl (B (rq rf i)) (plc B (rq rf i)) tr).2.1)), (7, .long (Int32.toInt64 (visT fm ft (nI kd) cp pl (B (rq rf i)) (plc B (rq rf i)) tr).2.2.2.2)), (9, .int ((visT fm ft (nI kd) cp pl (B (rq rf i)) (plc B (rq rf i)) tr).2.2.2.1)), (10, .int (nI (i + 1)))]) [1, 2, 3, 4, 5, 6, 7, 8, 9, 0] rfl ?_
            refine z_goto h (tgt := 18) dX4_tour_223 (by decide) ?_
            exact ihL18 (i + 1) (visT fm ft (nI kd) cp pl (B (rq rf i)) (plc B (rq rf i)) tr) (by omega) (by omega) (by rw [wkF, e1]) (by rw [visT_1]; exact hbq.2.1) hvb.1
          · refine z_iload_n h dX4_tour_118 rfl 2 rfl ?_
            refine z_iload h dX4_tour_119 6 rfl ?_
            refine z_isub h dX4_tour_121 ?_
            refine z_aload_n h dX4_tour_122 rfl 0 rfl ?_
            refine z_get h in_X4_tour_X4 2 rfl rfl 11 (by decide) lk_X4_tour_f36 rfl dX4_tour_123 ?_
            refine z_iload h dX4_tour_126 10 rfl ?_
            refine z_iald h 7 rfl (vp_in_nI (by omega) (by omega)) dX4_tour_128 (v := (col B 4) (rq rf i)) (by rw [nI_clamp (by omega)]) ?_
            refine z_icmp_ge h (tgt := 182) dX4_tour_129 (by decide) (fun c_129 => ?_) (fun c_129 => ?_)
            · refine z_aload_n h dX4_tour_182 rfl 0 rfl ?_
              refine z_get h in_X4_tour_X4 2 rfl rfl 11 (by decide) lk_X4_tour_f36 rfl dX4_tour_183 ?_
              refine z_iload h dX4_tour_186 10 rfl ?_
              refine z_iald h 7 rfl (vp_in_nI (by omega) (by omega)) dX4_tour_188 (v := (col B 4) (rq rf i)) (by rw [nI_clamp (by omega)]) ?_
              refine z_iload_n h dX4_tour_189 rfl 2 rfl ?_
              refine z_iload h dX4_tour_190 6 rfl ?_
              refine z_isub h dX4_tour_192 ?_
              refine z_mmin h lk_X4_tour_m111 lk_X4_tour_smin lk_X4_tour_imin lk_X4_tour_kmin (Nat.le_of_ble_eq_true rfl) (Nat.le_of_ble_eq_true rfl) (Nat.le_of_ble_eq_true rfl) (Nat.le_of_ble_eq_true rfl) dX4_tour_193 ?_
              refine z_istore h dX4_tour_196 (by decide) (lv' := [(0, .ref (cm 0)), (1, .int (nI kd)), (2, .int cp), (3, .int 0), (4, .int (tr.2.2.1 + (fm (tr.1 * 10 + plc B (rq rf i))))), (5, .int (nI (plc B (rq rf i)))), (6, .int tr.2.1), (7, .long (Int32.toInt64 tr.2.2.2.2)), (9, .int tr.2.2.2.1), (10, .int (nI i)), (11, .int (nI (rq rf i))), (12, .int (nI (plc B (rq rf i)))), (13, .int (if (cp - tr.2.1) < ((col B 4) (rq rf i)) then (cp - tr.2.1) else ((col B 4) (rq rf i))))]) [1, 2, 3, 4, 5, 6, 7, 8, 9, 10, 11, 12, 0] rfl ?_
              refine z_iload h dX4_tour_198 6 rfl ?_
              refine z_iload h dX4_tour_200 12 rfl ?_
              refine z_iadd h dX4_tour_202 ?_
              refine z_istore h dX4_tour_203 (by decide) (lv' := [(0, .ref (cm 0)), (1, .int (nI kd)), (2, .int cp), (3, .int 0), (4, .int (tr.2.2.1 + (fm (tr.1 * 10 + plc B (rq rf i))))), (5, .int (nI (plc B (rq rf i)))), (6, .int (tr.2.1 + (if (cp - tr.2.1) < ((col B 4) (rq rf i)) then (cp - tr.2.1) else ((col B 4) (rq rf i))))), (7, .long (Int32.toInt64 tr.2.2.2.2)), (9, .int tr.2.2.2.1), (10, .int (nI i)), (11, .int (nI (rq rf i))), (12, .int (nI (plc B (rq rf i)))), (13, .int (if (cp - tr.2.1) < ((col B 4) (rq rf i)) then (cp - tr.2.1) else ((col B 4) (rq rf i))))]) [1, 2, 3, 4, 5, 6, 0, 7, 8, 9, 10, 11, 12] rfl ?_
              refine z_iinc h (v := (tr.2.2.1 + (fm (tr.1 * 10 + plc B (rq rf i)))) + 5) dX4_tour_205 (by decide) 4 rfl rfl (lv' := [(0, .ref (cm 0)), (1, .int (nI kd)), (2, .int cp), (3, .int 0), (4, .int ((tr.2.2.1 + (fm (tr.1 * 10 + plc B (rq rf i)))) + 5)), (5, .int (nI (plc B (rq rf i)))), (6, .int (tr.2.1 + (if (cp - tr.2.1) < ((col B 4) (rq rf i)) then (cp - tr.2.1) else ((col B 4) (rq rf i))))), (7, .long (Int32.toInt64 tr.2.2.2.2)), (9, .int tr.2.2.2.1), (10, .int (nI i)), (11, .int (nI (rq rf i))), (12, .int (nI (plc B (rq rf i)))), (13, .int (if (cp - tr.2.1) < ((col B 4) (rq rf i)) then (cp - tr.2.1) else ((col B 4) (rq rf i))))]) [1, 2, 3, 4, 0, 5, 6, 7, 8, 9, 10, 11, 12] rfl ?_
              refine z_iload_n h dX4_tour_208 rfl 3 rfl ?_
              refine z_if_eq h (tgt := 220) dX4_tour_209 (by decide) (fun c_209 => ?_) (fun c_209 => absurd c_209 (by decide))
              have hm : mun fm ft (nI kd) cp pl (B (rq rf i) 4) (drv fm tr (plc B (rq rf i))) = (drv fm tr (plc B (rq rf i))) := by rw [mun, if_neg (show ¬ (drv fm tr (plc B (rq rf i))).2.1 ≤ 0 from c_115), if_pos (show B (rq rf i) 4 ≤ cp - (drv fm tr (plc B (rq rf i))).2.1 from c_129)]
              have hT : (visT fm ft (nI kd) cp pl (B (rq rf i)) (plc B (rq rf i)) tr) = (plc B (rq rf i), tr.2.1 + (if (cp - tr.2.1) < ((col B 4) (rq rf i)) then (cp - tr.2.1) else ((col B 4) (rq rf i))), (tr.2.2.1 + (fm (tr.1 * 10 + plc B (rq rf i)))) + 5, tr.2.2.2.1, tr.2.2.2.2) := by rw [visT, if_pos h9, hm]; rfl
              refine z_lv [0, 1, 2, 3, 4, 5, 6, 7, 8, 9] (lv' := [(0, .ref (cm 0)), (1, .int (nI kd)), (2, .int cp), (3, .int 0), (4, .int ((tr.2.2.1 + (fm (tr.1 * 10 + plc B (rq rf i)))) + 5)), (5, .int (nI (plc B (rq rf i)))), (6, .int (tr.2.1 + (if (cp - tr.2.1) < ((col B 4) (rq rf i)) then (cp - tr.2.1) else ((col B 4) (rq rf i))))), (7, .long (Int32.toInt64 tr.2.2.2.2)), (9, .int tr.2.2.2.1), (10, .int (nI i))]) rfl ?_
              refine z_lve (lv' := [(0, .ref (cm 0)), (1, .int (nI kd)), (2, .int cp), (3, .int 0), (4, .int ((visT fm ft (nI kd) cp pl (B (rq rf i)) (plc B (rq rf i)) tr).2.2.1)), (5, .int (nI (visT fm ft (nI kd) cp pl (B (rq rf i)) (plc B (rq rf i)) tr).1)), (6, .int ((visT fm ft (nI kd) cp pl (B (rq rf i)) (plc B (rq rf i)) tr).2.1)), (7, .long (Int32.toInt64 (visT fm ft (nI kd) cp pl (B (rq rf i)) (plc B (rq rf i)) tr).2.2.2.2)), (9, .int ((visT fm ft (nI kd) cp pl (B (rq rf i)) (plc B (rq rf i)) tr).2.2.2.1)), (10, .int (nI i))]) (by rw [hT]) ?_
              refine z_iinc h (v := nI (i + 1)) dX4_tour_220 (by decide) 9 rfl (by rw [show Int32.ofInt 1 = nI 1 from rfl, nI_add]) (lv' := [(0, .ref (cm 0)), (1, .int (nI kd)), (2, .int cp), (3, .int 0), (4, .int ((visT fm ft (nI kd) cp pl (B (rq rf i)) (plc B (rq rf i)) tr).2.2.1)), (5, .int (nI (visT fm ft (nI kd) cp pl (B (rq rf i)) (plc B (rq rf i)) tr).1)), (6, .int ((visT fm ft (nI kd) cp pl (B (rq rf i)) (plc B (rq rf i)) tr).2.1)), (7, .long (Int32.toInt64 (visT fm ft (nI kd) cp pl (B (rq rf i)) (plc B (rq rf i)) tr).2.2.2.2)), (9, .int ((visT fm ft (nI kd) cp pl (B (rq rf i)) (plc B (rq rf i)) tr).2.2.2.1)), (10, .int (nI (i + 1)))]) [1, 2, 3, 4, 5, 6, 7, 8, 9, 0] rfl ?_
              refine z_goto h (tgt := 18) dX4_tour_223 (by decide) ?_
              exact ihL18 (i + 1) (visT fm ft (nI kd) cp pl (B (rq rf i)) (plc B (rq rf i)) tr) (by omega) (by omega) (by rw [wkF, e1]) (by rw [visT_1]; exact hbq.2.1) hvb.1
            · refine z_aload_n h dX4_tour_132 rfl 0 rfl ?_
              refine z_iload_n h dX4_tour_133 rfl 1 rfl ?_
              refine z_iload h dX4_tour_134 5 rfl ?_
              refine z_iload h dX4_tour_136 5 rfl ?_
              refine z_Vi h (As := [.int (nI kd), .int (nI (plc B (rq rf i))), .int (nI (plc B (rq rf i)))]) (st := []) (fun sz => m_X4_tipFor l g cm th pl dy n sn fm ft (nI kd) (plc B (rq rf i)) (plc B (rq rf i)) hpl hbq.2.1 hbq.2.1 sz) (cwV 3 h.ts gX4_tour_X4_tipFor rfl rfl rfl (by decide +kernel) ⟨Nat.le_of_ble_eq_true rfl, Nat.le_of_ble_eq_true rfl⟩) rfl [] [2, 3, 4] rfl rfl rfl rfl 2 rfl rfl rfl rfl (Nat.le_of_ble_eq_true rfl) ⟨(Nat.le_of_ble_eq_true rfl), (Nat.le_of_ble_eq_true rfl)⟩ (fun _ => (Nat.le_of_ble_eq_true rfl)) (wN := fun u => [(cm 12, .inl (g.2.1, 16, .inl (col B 8))), (cm 13, .inl (g.2.2.2.1, 16, .inl (col B 9)))]) (fun _ => rfl) dX4_tour_138 (fun r_138 u_138 h_138 => ?_)
              obtain ⟨q1, hq1, hq2, hq3⟩ := tip_is hfm hbq.2.1 hbq.2.1 hpl htp h_138
              refine z_topi (y := nI q1) hq2 ?_
              refine z_istore h dX4_tour_141 (by decide) (lv' := [(0, .ref (cm 0)), (1, .int (nI kd)), (2, .int cp), (3, .int 0), (4, .int (tr.2.2.1 + (fm (tr.1 * 10 + plc B (rq rf i))))), (5, .int (nI (plc B (rq rf i)))), (6, .int tr.2.1), (7, .long (Int32.toInt64 tr.2.2.2.2)), (9, .int tr.2.2.2.1), (10, .int (nI i)), (11, .int (nI (rq rf i))), (12, .int (nI (plc B (rq rf i)))), (13, .int (nI q1))]) [1, 2, 3, 4, 5, 6, 7, 8, 9, 10, 11, 12, 0] rfl ?_
              refine z_iload h dX4_tour_143 4 rfl ?_
              refine z_aload_n h dX4_tour_145 rfl 0 rfl ?_
              refine z_iload h dX4_tour_146 5 rfl ?_
              refine z_iload h dX4_tour_148 12 rfl ?_
              refine z_Vi h (As := [.int (nI (plc B (rq rf i))), .int (nI q1)]) (st := [.int (tr.2.2.1 + (fm (tr.1 * 10 + plc B (rq rf i))))]) (fun sz => m_X4_drive l g cm th pl dy n sn fm (plc B (rq rf i)) q1 hbq.2.1 hq1 sz) (cwV 2 h.ts gX4_tour_X4_drive rfl rfl rfl (by decide +kernel) ⟨Nat.le_of_ble_eq_true rfl, Nat.le_of_ble_eq_true rfl⟩) rfl [] [2, 3] rfl rfl rfl rfl 2 rfl rfl rfl rfl (Nat.le_of_ble_eq_true rfl) ⟨(Nat.le_of_ble_eq_true rfl), (Nat.le_of_ble_eq_true rfl)⟩ (fun _ => (Nat.le_of_ble_eq_true rfl)) (wN := fun u => [(cm 12, .inl (g.2.1, 16, .inl (col B 8))), (cm 13, .inl (g.2.2.2.1, 16, .inl (col B 9)))]) (fun _ => rfl) dX4_tour_150 (fun r_150 u_150 h_150 => ?_)
              refine z_topi (y := fm (plc B (rq rf i) * 10 + q1)) h_150 ?_
              refine z_aload_n h dX4_tour_153 rfl 0 rfl ?_
              refine z_iload h dX4_tour_154 12 rfl ?_
              refine z_iload h dX4_tour_156 5 rfl ?_
              refine z_Vi h (As := [.int (nI q1), .int (nI (plc B (rq rf i)))]) (st := [.int (fm (plc B (rq rf i) * 10 + q1)), .int (tr.2.2.1 + (fm (tr.1 * 10 + plc B (rq rf i))))]) (fun sz => m_X4_drive l g cm th pl dy n sn fm q1 (plc B (rq rf i)) hq1 hbq.2.1 sz) (cwV 2 h.ts gX4_tour_X4_drive rfl rfl rfl (by decide +kernel) ⟨Nat.le_of_ble_eq_true rfl, Nat.le_of_ble_eq_true rfl⟩) rfl [] [2, 3] rfl rfl rfl rfl 2 rfl rfl rfl rfl (Nat.le_of_ble_eq_true rfl) ⟨(Nat.le_of_ble_eq_true rfl), (Nat.le_of_ble_eq_true rfl)⟩ (fun _ => (Nat.le_of_ble_eq_true rfl)) (wN := fun u => [(cm 12, .inl (g.2.1, 16, .inl (col B 8))), (cm 13, .inl (g.2.2.2.1, 16, .inl (col B 9)))]) (fun _ => rfl) dX4_tour_158 (fun r_158 u_158 h_158 => ?_)
              refine z_topi (y := fm (q1 * 10 + plc B (rq rf i))) h_158 ?_
              refine z_iadd h dX4_tour_161 ?_
              refine z_topi (y := ovT fm ft (nI kd) (plc B (rq rf i)) (plc B (rq rf i)) pl) hq3 ?_
              refine z_bipush h (v := 10) dX4_tour_162 (by decide) ?_
              refine z_iadd h dX4_tour_164 ?_
              refine z_iadd h dX4_tour_165 ?_
              refine z_istore h dX4_tour_166 (by decide) (lv' := [(0, .ref (cm 0)), (1, .int (nI kd)), (2, .int cp), (3, .int 0), (4, .int ((tr.2.2.1 + (fm (tr.1 * 10 + plc B (rq rf i)))) + ((ovT fm ft (nI kd) (plc B (rq rf i)) (plc B (rq rf i)) pl) + 10))), (5, .int (nI (plc B (rq rf i)))), (6, .int tr.2.1), (7, .long (Int32.toInt64 tr.2.2.2.2)), (9, .int tr.2.2.2.1), (10, .int (nI i)), (11, .int (nI (rq rf i))), (12, .int (nI (plc B (rq rf i)))), (13, .int (nI q1))]) [1, 2, 3, 4, 0, 5, 6, 7, 8, 9, 10, 11, 12] rfl ?_
              refine z_lload h dX4_tour_168 7 rfl ?_
              refine z_iload h dX4_tour_170 6 rfl ?_
              refine z_i2l h dX4_tour_172 ?_
              refine z_ladd h dX4_tour_173 ?_
              refine z_topl (y := Int32.toInt64 (tr.2.2.2.2 + tr.2.1)) (i64_add (by obtain ⟨z1, z2, z3, z4⟩ := hl; omega) (by obtain ⟨z1, z2, z3, z4⟩ := hl; omega)).symm ?_
              refine z_lstore h dX4_tour_174 (by decide) (lv' := [(0, .ref (cm 0)), (1, .int (nI kd)), (2, .int cp), (3, .int 0), (4, .int ((tr.2.2.1 + (fm (tr.1 * 10 + plc B (rq rf i)))) + ((ovT fm ft (nI kd) (plc B (rq rf i)) (plc B (rq rf i)) pl) + 10))), (5, .int (nI (plc B (rq rf i)))), (6, .int tr.2.1), (7, .long (Int32.toInt64 (tr.2.2.2.2 + tr.2.1))), (9, .int tr.2.2.2.1), (10, .int (nI i)), (11, .int (nI (rq rf i))), (12, .int (nI (plc B (rq rf i)))), (13, .int (nI q1))]) [1, 2, 3, 4, 5, 6, 7, 0, 8, 9, 10, 11, 12] rfl ?_
              refine z_iinc h (v := tr.2.2.2.1 + 1) dX4_tour_176 (by decide) 8 rfl rfl (lv' := [(0, .ref (cm 0)), (1, .int (nI kd)), (2, .int cp), (3, .int 0), (4, .int ((tr.2.2.1 + (fm (tr.1 * 10 + plc B (rq rf i)))) + ((ovT fm ft (nI kd) (plc B (rq rf i)) (plc B (rq rf i)) pl) + 10))), (5, .int (nI (plc B (rq rf i)))), (6, .int tr.2.1), (7, .long (Int32.toInt64 (tr.2.2.2.2 + tr.2.1))), (9, .int (tr.2.2.2.1 + 1)), (10, .int (nI i)), (11, .int (nI (rq rf i))), (12, .int (nI (plc B (rq rf i)))), (13, .int (nI q1))]) [1, 2, 3, 4, 5, 6, 7, 8, 0, 9, 10, 11, 12] rfl ?_
              refine z_iconst h (v := 0) dX4_tour_179 (by decide) ?_
              refine z_istore h dX4_tour_180 (by decide) (lv' := [(0, .ref (cm 0)), (1, .int (nI kd)), (2, .int cp), (3, .int 0), (4, .int ((tr.2.2.1 + (fm (tr.1 * 10 + plc B (rq rf i)))) + ((ovT fm ft (nI kd) (plc B (rq rf i)) (plc B (rq rf i)) pl) + 10))), (5, .int (nI (plc B (rq rf i)))), (6, .int 0), (7, .long (Int32.toInt64 (tr.2.2.2.2 + tr.2.1))), (9, .int (tr.2.2.2.1 + 1)), (10, .int (nI i)), (11, .int (nI (rq rf i))), (12, .int (nI (plc B (rq rf i)))), (13, .int (nI q1))]) [1, 2, 3, 4, 5, 6, 0, 7, 8, 9, 10, 11, 12] rfl ?_
              refine z_aload_n h dX4_tour_182 rfl 0 rfl ?_
              refine z_get h in_X4_tour_X4 2 rfl rfl 11 (by decide) lk_X4_tour_f36 rfl dX4_tour_183 ?_
              refine z_iload h dX4_tour_186 10 rfl ?_
              refine z_iald h 7 rfl (vp_in_nI (by omega) (by omega)) dX4_tour_188 (v := (col B 4) (rq rf i)) (by rw [nI_clamp (by omega)]) ?_
              refine z_iload_n h dX4_tour_189 rfl 2 rfl ?_
              refine z_iload h dX4_tour_190 6 rfl ?_
              refine z_isub h dX4_tour_192 ?_
              refine z_mmin h lk_X4_tour_m111 lk_X4_tour_smin lk_X4_tour_imin lk_X4_tour_kmin (Nat.le_of_ble_eq_true rfl) (Nat.le_of_ble_eq_true rfl) (Nat.le_of_ble_eq_true rfl) (Nat.le_of_ble_eq_true rfl) dX4_tour_193 ?_
              refine z_istore h dX4_tour_196 (by decide) (lv' := [(0, .ref (cm 0)), (1, .int (nI kd)), (2, .int cp), (3, .int 0), (4, .int ((tr.2.2.1 + (fm (tr.1 * 10 + plc B (rq rf i)))) + ((ovT fm ft (nI kd) (plc B (rq rf i)) (plc B (rq rf i)) pl) + 10))), (5, .int (nI (plc B (rq rf i)))), (6, .int 0), (7, .long (Int32.toInt64 (tr.2.2.2.2 + tr.2.1))), (9, .int (tr.2.2.2.1 + 1)), (10, .int (nI i)), (11, .int (nI (rq rf i))), (12, .int (nI (plc B (rq rf i)))), (13, .int (if (cp - 0) < ((col B 4) (rq rf i)) then (cp - 0) else ((col B 4) (rq rf i))))]) [1, 2, 3, 4, 5, 6, 7, 8, 9, 10, 11, 12, 0] rfl ?_
              refine z_iload h dX4_tour_198 6 rfl ?_
              refine z_iload h dX4_tour_200 12 rfl ?_
              refine z_iadd h dX4_tour_202 ?_
              refine z_istore h dX4_tour_203 (by decide) (lv' := [(0, .ref (cm 0)), (1, .int (nI kd)), (2, .int cp), (3, .int 0), (4, .int ((tr.2.2.1 + (fm (tr.1 * 10 + plc B (rq rf i)))) + ((ovT fm ft (nI kd) (plc B (rq rf i)) (plc B (rq rf i)) pl) + 10))), (5, .int (nI (plc B (rq rf i)))), (6, .int (0 + (if (cp - 0) < ((col B 4) (rq rf i)) then (cp - 0) else ((col B 4) (rq rf i))))), (7, .long (Int32.toInt64 (tr.2.2.2.2 + tr.2.1))), (9, .int (tr.2.2.2.1 + 1)), (10, .int (nI i)), (11, .int (nI (rq rf i))), (12, .int (nI (plc B (rq rf i)))), (13, .int (if (cp - 0) < ((col B 4) (rq rf i)) then (cp - 0) else ((col B 4) (rq rf i))))]) [1, 2, 3, 4, 5, 6, 0, 7, 8, 9, 10, 11, 12] rfl ?_
              refine z_iinc h (v := ((tr.2.2.1 + (fm (tr.1 * 10 + plc B (rq rf i)))) + ((ovT fm ft (nI kd) (plc B (rq rf i)) (plc B (rq rf i)) pl) + 10)) + 5) dX4_tour_205 (by decide) 4 rfl rfl (lv' := [(0, .ref (cm 0)), (1, .int (nI kd)), (2, .int cp), (3, .int 0), (4, .int (((tr.2.2.1 + (fm (tr.1 * 10 + plc B (rq rf i)))) + ((ovT fm ft (nI kd) (plc B (rq rf i)) (plc B (rq rf i)) pl) + 10)) + 5)), (5, .int (nI (plc B (rq rf i)))), (6, .int (0 + (if (cp - 0) < ((col B 4) (rq rf i)) then (cp - 0) else ((col B 4) (rq rf i))))), (7, .long (Int32.toInt64 (tr.2.2.2.2 + tr.2.1))), (9, .int (tr.2.2.2.1 + 1)), (10, .int (nI i)), (11, .int (nI (rq rf i))), (12, .int (nI (plc B (rq rf i)))), (13, .int (if (cp - 0) < ((col B 4) (rq rf i)) then (cp - 0) else ((col B 4) (rq rf i))))]) [1, 2, 3, 4, 0, 5, 6, 7, 8, 9, 10, 11, 12] rfl ?_
              refine z_iload_n h dX4_tour_208 rfl 3 rfl ?_
              refine z_if_eq h (tgt := 220) dX4_tour_209 (by decide) (fun c_209 => ?_) (fun c_209 => absurd c_209 (by decide))
              have hm : mun fm ft (nI kd) cp pl (B (rq rf i) 4) (drv fm tr (plc B (rq rf i))) = unl fm ft (nI kd) pl (drv fm tr (plc B (rq rf i))) (drv fm tr (plc B (rq rf i))).1 := by rw [mun, if_neg (show ¬ (drv fm tr (plc B (rq rf i))).2.1 ≤ 0 from c_115), if_neg (show ¬ B (rq rf i) 4 ≤ cp - (drv fm tr (plc B (rq rf i))).2.1 from c_129)]
              have hT : (visT fm ft (nI kd) cp pl (B (rq rf i)) (plc B (rq rf i)) tr) = (plc B (rq rf i), 0 + (if (cp - 0) < ((col B 4) (rq rf i)) then (cp - 0) else ((col B 4) (rq rf i))), ((tr.2.2.1 + (fm (tr.1 * 10 + plc B (rq rf i)))) + ((ovT fm ft (nI kd) (plc B (rq rf i)) (plc B (rq rf i)) pl) + 10)) + 5, tr.2.2.2.1 + 1, tr.2.2.2.2 + tr.2.1) := by rw [visT, if_pos h9, hm]; rfl
              refine z_lv [0, 1, 2, 3, 4, 5, 6, 7, 8, 9] (lv' := [(0, .ref (cm 0)), (1, .int (nI kd)), (2, .int cp), (3, .int 0), (4, .int (((tr.2.2.1 + (fm (tr.1 * 10 + plc B (rq rf i)))) + ((ovT fm ft (nI kd) (plc B (rq rf i)) (plc B (rq rf i)) pl) + 10)) + 5)), (5, .int (nI (plc B (rq rf i)))), (6, .int (0 + (if (cp - 0) < ((col B 4) (rq rf i)) then (cp - 0) else ((col B 4) (rq rf i))))), (7, .long (Int32.toInt64 (tr.2.2.2.2 + tr.2.1))), (9, .int (tr.2.2.2.1 + 1)), (10, .int (nI i))]) rfl ?_
              refine z_lve (lv' := [(0, .ref (cm 0)), (1, .int (nI kd)), (2, .int cp), (3, .int 0), (4, .int ((visT fm ft (nI kd) cp pl (B (rq rf i)) (plc B (rq rf i)) tr).2.2.1)), (5, .int (nI (visT fm ft (nI kd) cp pl (B (rq rf i)) (plc B (rq rf i)) tr).1)), (6, .int ((visT fm ft (nI kd) cp pl (B (rq rf i)) (plc B (rq rf i)) tr).2.1)), (7, .long (Int32.toInt64 (visT fm ft (nI kd) cp pl (B (rq rf i)) (plc B (rq rf i)) tr).2.2.2.2)), (9, .int ((visT fm ft (nI kd) cp pl (B (rq rf i)) (plc B (rq rf i)) tr).2.2.2.1)), (10, .int (nI i))]) (by rw [hT]) ?_
              refine z_iinc h (v := nI (i + 1)) dX4_tour_220 (by decide) 9 rfl (by rw [show Int32.ofInt 1 = nI 1 from rfl, nI_add]) (lv' := [(0, .ref (cm 0)), (1, .int (nI kd)), (2, .int cp), (3, .int 0), (4, .int ((visT fm ft (nI kd) cp pl (B (rq rf i)) (plc B (rq rf i)) tr).2.2.1)), (5, .int (nI (visT fm ft (nI kd) cp pl (B (rq rf i)) (plc B (rq rf i)) tr).1)), (6, .int ((visT fm ft (nI kd) cp pl (B (rq rf i)) (plc B (rq rf i)) tr).2.1)), (7, .long (Int32.toInt64 (visT fm ft (nI kd) cp pl (B (rq rf i)) (plc B (rq rf i)) tr).2.2.2.2)), (9, .int ((visT fm ft (nI kd) cp pl (B (rq rf i)) (plc B (rq rf i)) tr).2.2.2.1)), (10, .int (nI (i + 1)))]) [1, 2, 3, 4, 5, 6, 7, 8, 9, 0] rfl ?_
              refine z_goto h (tgt := 18) dX4_tour_223 (by decide) ?_
              exact ihL18 (i + 1) (visT fm ft (nI kd) cp pl (B (rq rf i)) (plc B (rq rf i)) tr) (by omega) (by omega) (by rw [wkF, e1]) (by rw [visT_1]; exact hbq.2.1) hvb.1
        · have h9 : ¬ B (rq rf i) 9 = 0 := c_69
          have hD9 : upd (col B 9) (rq rf i) (vp_nar .boolean 1) = col B 9 := by rw [show vp_nar .boolean 1 = col B 9 (rq rf i) from by rcases h01 _ hqr.2 with q | q; exact absurd q h9; exact q.symm]; exact upd_self
          have hD8 : upd (col B 8) (rq rf i) (col B 8 (rq rf i) + 0) = col B 8 := by rw [Int32.add_zero]; exact upd_self
          refine z_iinc h (v := (tr.2.2.1 + (fm (tr.1 * 10 + plc B (rq rf i)))) + 2) dX4_tour_72 (by decide) 4 rfl rfl (lv' := [(0, .ref (cm 0)), (1, .int (nI kd)), (2, .int cp), (3, .int 0), (4, .int ((tr.2.2.1 + (fm (tr.1 * 10 + plc B (rq rf i)))) + 2)), (5, .int (nI (plc B (rq rf i)))), (6, .int tr.2.1), (7, .long (Int32.toInt64 tr.2.2.2.2)), (9, .int tr.2.2.2.1), (10, .int (nI i)), (11, .int (nI (rq rf i))), (12, .int (nI (plc B (rq rf i))))]) [1, 2, 3, 4, 0, 5, 6, 7, 8, 9, 10, 11] rfl ?_
          refine z_aload_n h dX4_tour_75 rfl 0 rfl ?_
          refine z_get h in_X4_tour_X4 2 rfl rfl 16 (by decide) lk_X4_tour_f51 rfl dX4_tour_76 ?_
          refine z_iload h dX4_tour_79 10 rfl ?_
          refine z_iload_n h dX4_tour_81 rfl 3 rfl ?_
          refine z_if_ne h (tgt := 89) dX4_tour_82 (by decide) (fun c_82 => absurd c_82 (by decide)) (fun c_82 => ?_)
          refine z_iconst h (v := 1) dX4_tour_85 (by decide) ?_
          refine z_goto h (tgt := 90) dX4_tour_86 (by decide) ?_
          refine z_zast h (j := rq rf i) 1 rfl (vp_in_nI (by omega) (by omega)) (by rw [nI_clamp (by omega)]) dX4_tour_90 (wW' := [(cm 12, .inl (g.2.1, 16, .inl (col B 8))), (cm 13, .inl (g.2.2.2.1, 16, .inl (upd (col B 9) (rq rf i) (vp_nar .boolean 1))))]) rfl ?_
          refine z_aload_n h dX4_tour_91 rfl 0 rfl ?_
          refine z_get h in_X4_tour_X4 2 rfl rfl 15 (by decide) lk_X4_tour_f48 rfl dX4_tour_92 ?_
          refine z_iload h dX4_tour_95 10 rfl ?_
          refine z_dup2 h dX4_tour_97 rfl rfl ?_
          refine z_iald h 0 rfl (vp_in_nI (by omega) (by omega)) dX4_tour_98 (v := (col B 8) (rq rf i)) (by rw [nI_clamp (by omega)]) ?_
          refine z_iload_n h dX4_tour_99 rfl 3 rfl ?_
          refine z_if_eq h (tgt := 107) dX4_tour_100 (by decide) (fun c_100 => ?_) (fun c_100 => absurd c_100 (by decide))
          refine z_iconst h (v := 0) dX4_tour_107 (by decide) ?_
          refine z_iadd h dX4_tour_108 ?_
          refine z_iast h (j := rq rf i) 0 rfl (vp_in_nI (by omega) (by omega)) (by rw [nI_clamp (by omega)]) dX4_tour_109 (wW' := [(cm 12, .inl (g.2.1, 16, .inl (upd (col B 8) (rq rf i) (((col B 8) (rq rf i)) + 0)))), (cm 13, .inl (g.2.2.2.1, 16, .inl (upd (col B 9) (rq rf i) (vp_nar .boolean 1))))]) rfl ?_
          refine z_goto h (tgt := 220) dX4_tour_110 (by decide) ?_
          have hT : (visT fm ft (nI kd) cp pl (B (rq rf i)) (plc B (rq rf i)) tr) = (plc B (rq rf i), tr.2.1, (tr.2.2.1 + (fm (tr.1 * 10 + plc B (rq rf i)))) + 2, tr.2.2.2.1, tr.2.2.2.2) := (by rw [visT, if_neg h9]; rfl)
          refine z_lv [0, 1, 2, 3, 4, 5, 6, 7, 8, 9] (lv' := [(0, .ref (cm 0)), (1, .int (nI kd)), (2, .int cp), (3, .int 0), (4, .int ((tr.2.2.1 + (fm (tr.1 * 10 + plc B (rq rf i)))) + 2)), (5, .int (nI (plc B (rq rf i)))), (6, .int tr.2.1), (7, .long (Int32.toInt64 tr.2.2.2.2)), (9, .int tr.2.2.2.1), (10, .int (nI i))]) rfl ?_
          refine z_lve (lv' := [(0, .ref (cm 0)), (1, .int (nI kd)), (2, .int cp), (3, .int 0), (4, .int ((visT fm ft (nI kd) cp pl (B (rq rf i)) (plc B (rq rf i)) tr).2.2.1)), (5, .int (nI (visT fm ft (nI kd) cp pl (B (rq rf i)) (plc B (rq rf i)) tr).1)), (6, .int ((visT fm ft (nI kd) cp pl (B (rq rf i)) (plc B (rq rf i)) tr).2.1)), (7, .long (Int32.toInt64 (visT fm ft (nI kd) cp pl (B (rq rf i)) (plc B (rq rf i)) tr).2.2.2.2)), (9, .int ((visT fm ft (nI kd) cp pl (B (rq rf i)) (plc B (rq rf i)) tr).2.2.2.1)), (10, .int (nI i))]) (by rw [hT]) ?_
          refine z_ws (wW' := [(cm 12, .inl (g.2.1, 16, .inl (col B 8))), (cm 13, .inl (g.2.2.2.1, 16, .inl (col B 9)))]) (by rw [hD8, hD9]) rfl ?_
          refine z_iinc h (v := nI (i + 1)) dX4_tour_220 (by decide) 9 rfl (by rw [show Int32.ofInt 1 = nI 1 from rfl, nI_add]) (lv' := [(0, .ref (cm 0)), (1, .int (nI kd)), (2, .int cp), (3, .int 0), (4, .int ((visT fm ft (nI kd) cp pl (B (rq rf i)) (plc B (rq rf i)) tr).2.2.1)), (5, .int (nI (visT fm ft (nI kd) cp pl (B (rq rf i)) (plc B (rq rf i)) tr).1)), (6, .int ((visT fm ft (nI kd) cp pl (B (rq rf i)) (plc B (rq rf i)) tr).2.1)), (7, .long (Int32.toInt64 (visT fm ft (nI kd) cp pl (B (rq rf i)) (plc B (rq rf i)) tr).2.2.2.2)), (9, .int ((visT fm ft (nI kd) cp pl (B (rq rf i)) (plc B (rq rf i)) tr).2.2.2.1)), (10, .int (nI (i + 1)))]) [1, 2, 3, 4, 5, 6, 7, 8, 9, 0] rfl ?_
          refine z_goto h (tgt := 18) dX4_tour_223 (by decide) ?_
          exact ihL18 (i + 1) (visT fm ft (nI kd) cp pl (B (rq rf i)) (plc B (rq rf i)) tr) (by omega) (by omega) (by rw [wkF, e1]) (by rw [visT_1]; exact hbq.2.1) hvb.1
  exact L18 (sn + 1 - 0) 0 (0, 0, 0, 0, 0) (by omega) (by omega) rfl (show 0 < 10 by decide) ⟨(show 0 ≤ (0 : Int32).toInt by decide), hc0, (show 0 ≤ (0 : Int32).toInt by decide), (show (0 : Int32).toInt + (0 : Int32).toInt ≤ 1000 * ((0 : Nat) : Int) by decide)⟩
