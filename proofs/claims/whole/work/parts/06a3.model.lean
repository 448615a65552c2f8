theorem i32_addsub (x y w : Int32) : x + (y - w) = x + y - w := by
  rw [Int32.sub_eq_add_neg, Int32.sub_eq_add_neg, Int32.add_assoc]
theorem col_pas2 (B : Nat → Nat → Int32) : ∀ (i j : Nat), pasB B i j 2 = B j 2 ∧ pasB B i j 3 = B j 3 ∧ pasB B i j 5 = B j 5 ∧ pasB B i j 6 = B j 6 ∧ pasB B i j 8 = B j 8 ∧ pasB B i j 9 = B j 9
  | 0, j => ⟨rfl, rfl, rfl, rfl, rfl, rfl⟩
  | i + 1, j => by
    have h := col_pas2 B i j
    show updB (pasB B i) i (filB (pasB B i i)) j 2 = _ ∧ updB (pasB B i) i (filB (pasB B i i)) j 3 = _ ∧ updB (pasB B i) i (filB (pasB B i i)) j 5 = _ ∧ updB (pasB B i) i (filB (pasB B i i)) j 6 = _ ∧ updB (pasB B i) i (filB (pasB B i i)) j 8 = _ ∧ updB (pasB B i) i (filB (pasB B i i)) j 9 = _
    unfold updB
    split
    · next e => subst e; exact h
    · exact h
theorem col_ps2 (B : Nat → Nat → Int32) (n : Nat) : ∀ (k j : Nat), psB B n k j 0 = B j 0 ∧ psB B n k j 1 = B j 1 ∧ psB B n k j 2 = B j 2 ∧ psB B n k j 3 = B j 3 ∧ psB B n k j 5 = B j 5 ∧ psB B n k j 6 = B j 6 ∧ psB B n k j 8 = B j 8 ∧ psB B n k j 9 = B j 9
  | 0, j => ⟨rfl, rfl, rfl, rfl, rfl, rfl, rfl, rfl⟩
  | k + 1, j => by
    have h := col_ps2 B n k j
    have h1 := pasB_01 (psB B n k) n j
    have h2 := col_pas2 (psB B n k) n j
    show pasB (psB B n k) n j 0 = _ ∧ pasB (psB B n k) n j 1 = _ ∧ pasB (psB B n k) n j 2 = _ ∧ pasB (psB B n k) n j 3 = _ ∧ pasB (psB B n k) n j 5 = _ ∧ pasB (psB B n k) n j 6 = _ ∧ pasB (psB B n k) n j 8 = _ ∧ pasB (psB B n k) n j 9 = _
    rw [h1.1, h1.2, h2.1, h2.2.1, h2.2.2.1, h2.2.2.2.1, h2.2.2.2.2.1, h2.2.2.2.2.2]
    exact h
/-- bin i of the day, before its own turn -/
theorem pas_at (B : Nat → Nat → Int32) (n k i : Nat) : pasB (psB B n k) i i 2 = B i 2 ∧ pasB (psB B n k) i i 3 = B i 3 := by
  have h2 := col_pas2 (psB B n k) i i
  have h := col_ps2 B n k i
  exact ⟨h2.1.trans h.2.2.1, h2.2.1.trans h.2.2.2.1⟩
theorem pas_c4 (X : Nat → Nat → Int32) (i : Nat) : col (pasB X (i + 1)) 4 = upd (col (pasB X i) 4) i (pasB X i i 4 + (pasB X i i 3 - wstB (pasB X i i))) := by
  rw [i32_addsub]
  exact col_up rfl
theorem pas_c7 (X : Nat → Nat → Int32) (i : Nat) : col (pasB X (i + 1)) 7 = upd (col (pasB X i) 7) i (pasB X i i 7 + (if wstB (pasB X i i) ≤ 0 then 0 else 1)) := col_up rfl
theorem in_X4_pass_X4 : ∀ w ∈ wsX40, w ∈ wsX4_pass := by decide +kernel
theorem lk_X4_pass_f27 : Cond.fieldLink RX4 27 (TX4 8).1 (TX4 8).2.1 (TX4 8).2.2.1 ∈ wsX4_pass := by decide +kernel
theorem lk_X4_pass_f30 : Cond.fieldLink RX4 30 (TX4 9).1 (TX4 9).2.1 (TX4 9).2.2.1 ∈ wsX4_pass := by decide +kernel
theorem lk_X4_pass_f33 : Cond.fieldLink RX4 33 (TX4 10).1 (TX4 10).2.1 (TX4 10).2.2.1 ∈ wsX4_pass := by decide +kernel
theorem lk_X4_pass_f36 : Cond.fieldLink RX4 36 (TX4 11).1 (TX4 11).2.1 (TX4 11).2.2.1 ∈ wsX4_pass := by decide +kernel
theorem lk_X4_pass_f45 : Cond.fieldLink RX4 45 (TX4 14).1 (TX4 14).2.1 (TX4 14).2.2.1 ∈ wsX4_pass := by decide +kernel
theorem lk_X4_pass_f58 : Cond.fieldLink RX4 58 (TX4 18).1 (TX4 18).2.1 (TX4 18).2.2.1 ∈ wsX4_pass := by decide +kernel
theorem lk_X4_pass_f64 : Cond.fieldLink RX4 64 (TX4 0).1 (TX4 0).2.1 (TX4 0).2.2.1 ∈ wsX4_pass := by decide +kernel
theorem lk_X4_pass_f71 : Cond.fieldLink RX4 71 (TX4 6).1 (TX4 6).2.1 (TX4 6).2.2.1 ∈ wsX4_pass := by decide +kernel
theorem lk_X4_pass_f93 : Cond.fieldLink RX4 93 (TX4 5).1 (TX4 5).2.1 (TX4 5).2.2.1 ∈ wsX4_pass := by decide +kernel
theorem lk_X4_pass_imax : Cond.initialized "java/lang/Math" ∈ wsX4_pass := by decide +kernel
theorem lk_X4_pass_kmax : Cond.code Lib.Math.max.name Lib.Math.max.code 2 (some .int) ∈ wsX4_pass := by decide +kernel
theorem lk_X4_pass_m96 : Cond.methodLink RX4 96 Lib.Math.max.name ∈ wsX4_pass := by decide +kernel
theorem lk_X4_pass_smax : Cond.static Lib.Math.max.name ∈ wsX4_pass := by decide +kernel
abbrev rmX4_pass : Room := { frames := 1, cells := 0, slots := 0, locals := 22 }
set_option maxHeartbeats 4000000 in
set_option maxRecDepth 100000 in
theorem m_X4_pass (l : Launch) (g : Gx) (cm : Nat → Nat) (th : Int32) (pl : Nat) (dy : Nat) (n : Nat) (sn : Nat) (B : Nat → Nat → Int32) (wf : Nat → Int64) (x : Int32) (hn : n ≤ 16) (hdy : dy ≤ 399) (hb : BOK n B) (sz : Nat) : Met l yX4_pass wsX4_pass rmX4_pass (PZ g [.ref (cm 0), .int x] sz [(cm 0, .inr (5, [.int th, .int (nI pl), .ref (cm 1), .ref (cm 2), .ref (cm 3), .int (nI dy), .int (nI n), .ref (cm 4), .ref (cm 5), .ref (cm 6), .ref (cm 7), .ref (cm 8), .ref (cm 9), .ref (cm 10), .ref (cm 11), .ref (cm 12), .ref (cm 13), .ref (cm 14), .ref (cm 15), .int (nI sn), .ref (cm 16)])), (cm 8, .inl (g.2.1, 16, .inl (col B 4))), (cm 11, .inl (g.2.1, 16, .inl (col B 7))), (cm 15, .inl (g.2.2.1, 3, .inr (.inl wf)))] [(cm 5, .inl (g.2.1, 16, .inl (col B 1))), (cm 6, .inl (g.2.1, 16, .inl (col B 2))), (cm 7, .inl (g.2.1, 16, .inl (col B 3)))]) (va_Qi (fun (r : Int32) (_ : Unit) => kPass dy x = 0 → r = psO B n x.toNatClampNeg) (BZ g [(cm 0, .inr (5, [.int th, .int (nI pl), .ref (cm 1), .ref (cm 2), .ref (cm 3), .int (nI dy), .int (nI n), .ref (cm 4), .ref (cm 5), .ref (cm 6), .ref (cm 7), .ref (cm 8), .ref (cm 9), .ref (cm 10), .ref (cm 11), .ref (cm 12), .ref (cm 13), .ref (cm 14), .ref (cm 15), .int (nI sn), .ref (cm 16)])), (cm 8, .inl (g.2.1, 16, .inl (col B 4))), (cm 11, .inl (g.2.1, 16, .inl (col B 7))), (cm 15, .inl (g.2.2.1, 3, .inr (.inl wf)))] sz (fun (u : Unit) => [(cm 0, .inr (5, [.int (kPass dy x), .int (nI pl), .ref (cm 1), .ref (cm 2), .ref (cm 3), .int (nI (if kPass dy x = 0 then dy + x.toNatClampNeg else dy)), .int (nI n), .ref (cm 4), .ref (cm 5), .ref (cm 6), .ref (cm 7), .ref (cm 8), .ref (cm 9), .ref (cm 10), .ref (cm 11), .ref (cm 12), .ref (cm 13), .ref (cm 14), .ref (cm 15), .int (nI sn), .ref (cm 16)])), (cm 8, .inl (g.2.1, 16, .inl (if kPass dy x = 0 then col (psB B n x.toNatClampNeg) 4 else col B 4))), (cm 11, .inl (g.2.1, 16, .inl (if kPass dy x = 0 then col (psB B n x.toNatClampNeg) 7 else col B 7))), (cm 15, .inl (g.2.2.1, 3, .inr (.inl (if kPass dy x = 0 then psW B wf n x.toNatClampNeg else wf))))])) (va_A [(cm 0, .inr (5, [.int th, .int (nI pl), .ref (cm 1), .ref (cm 2), .ref (cm 3), .int (nI dy), .int (nI n), .ref (cm 4), .ref (cm 5), .ref (cm 6), .ref (cm 7), .ref (cm 8), .ref (cm 9), .ref (cm 10), .ref (cm 11), .ref (cm 12), .ref (cm 13), .ref (cm 14), .ref (cm 15), .int (nI sn), .ref (cm 16)])), (cm 8, .inl (g.2.1, 16, .inl (col B 4))), (cm 11, .inl (g.2.1, 16, .inl (col B 7))), (cm 15, .inl (g.2.2.1, 3, .inr (.inl wf)))] sz)) 0 0 (va_A [(cm 0, .inr (5, [.int th, .int (nI pl), .ref (cm 1), .ref (cm 2), .ref (cm 3), .int (nI dy), .int (nI n), .ref (cm 4), .ref (cm 5), .ref (cm 6), .ref (cm 7), .ref (cm 8), .ref (cm 9), .ref (cm 10), .ref (cm 11), .ref (cm 12), .ref (cm 13), .ref (cm 14), .ref (cm 15), .int (nI sn), .ref (cm 16)])), (cm 8, .inl (g.2.1, 16, .inl (col B 4))), (cm 11, .inl (g.2.1, 16, .inl (col B 7))), (cm 15, .inl (g.2.2.1, 3, .inr (.inl wf)))] sz) := by
  refine z_open_i (cc := cX4_pass) (maxL := 6) (ret := .int) (own := RX4) (by decide) rfl rfl (Nat.le_of_ble_eq_true rfl) ?_
  intro p e s m args below meth c Q h hnm fin
  generalize hAe : va_A [(cm 0, .inr (5, [.int th, .int (nI pl), .ref (cm 1), .ref (cm 2), .ref (cm 3), .int (nI dy), .int (nI n), .ref (cm 4), .ref (cm 5), .ref (cm 6), .ref (cm 7), .ref (cm 8), .ref (cm 9), .ref (cm 10), .ref (cm 11), .ref (cm 12), .ref (cm 13), .ref (cm 14), .ref (cm 15), .int (nI sn), .ref (cm 16)])), (cm 8, .inl (g.2.1, 16, .inl (col B 4))), (cm 11, .inl (g.2.1, 16, .inl (col B 7))), (cm 15, .inl (g.2.2.1, 3, .inr (.inl wf)))] s.heap.size = A at h fin ⊢
  refine z_lve (lv' := [(0, .ref (cm 0)), (1, .int x)]) rfl ?_
  refine z_aload_n h dX4_pass_0 rfl 0 rfl ?_
  refine z_iconst h (v := 0) dX4_pass_1 (by decide) ?_
  refine z_put h in_X4_pass_X4 0 tyX4 tyX4_ok nmX4 rfl rfl 0 (by decide) lk_X4_pass_f64 rfl rfl rfl (Nat.le_of_ble_eq_true rfl) dX4_pass_2 (wW' := [(cm 0, .inr (5, [.int 0, .int (nI pl), .ref (cm 1), .ref (cm 2), .ref (cm 3), .int (nI dy), .int (nI n), .ref (cm 4), .ref (cm 5), .ref (cm 6), .ref (cm 7), .ref (cm 8), .ref (cm 9), .ref (cm 10), .ref (cm 11), .ref (cm 12), .ref (cm 13), .ref (cm 14), .ref (cm 15), .int (nI sn), .ref (cm 16)])), (cm 8, .inl (g.2.1, 16, .inl (col B 4))), (cm 11, .inl (g.2.1, 16, .inl (col B 7))), (cm 15, .inl (g.2.2.1, 3, .inr (.inl wf)))]) rfl ?_
  refine z_iload_n h dX4_pass_5 rfl 1 rfl ?_
  refine z_iconst h (v := 1) dX4_pass_6 (by decide) ?_
  refine z_bipush h (v := 60) dX4_pass_7 (by decide) ?_
  refine z_Si h (b := 0) (C := "") (As := [.int x, .int 1, .int 60]) (st := []) (fun sz => m_X4_isIn l g x 1 60  sz) (va_cwS 3 h.ts gX4_pass_X4_isIn rfl rfl rfl (by decide +kernel) ⟨Nat.le_of_ble_eq_true rfl, Nat.le_of_ble_eq_true rfl⟩) rfl [] [] rfl rfl rfl rfl rfl (Nat.le_of_ble_eq_true rfl) ⟨(Nat.le_of_ble_eq_true rfl), (Nat.le_of_ble_eq_true rfl)⟩ (fun _ => (Nat.le_of_ble_eq_true rfl)) (wN := fun u => [(cm 0, .inr (5, [.int 0, .int (nI pl), .ref (cm 1), .ref (cm 2), .ref (cm 3), .int (nI dy), .int (nI n), .ref (cm 4), .ref (cm 5), .ref (cm 6), .ref (cm 7), .ref (cm 8), .ref (cm 9), .ref (cm 10), .ref (cm 11), .ref (cm 12), .ref (cm 13), .ref (cm 14), .ref (cm 15), .int (nI sn), .ref (cm 16)])), (cm 8, .inl (g.2.1, 16, .inl (col B 4))), (cm 11, .inl (g.2.1, 16, .inl (col B 7))), (cm 15, .inl (g.2.2.1, 3, .inr (.inl wf)))]) (fun _ => rfl) dX4_pass_9 (fun r_9 u_9 h_9 => ?_)
  refine z_if_ne h (tgt := 21) dX4_pass_12 (by decide) (fun c_12 => ?_) (fun c_12 => ?_)
  · have hx : okR 1 60 x = true := b01_1 h_9 c_12
    have hx1 := hx
    obtain ⟨t, ht1, ht2, rfl⟩ := okR_nat (a := 1) (b := 60) hx (by omega)
    have ct : (nI t).toNatClampNeg = t := nI_clamp (by omega)
    refine z_aload_n h dX4_pass_21 rfl 0 rfl ?_
    refine z_get h in_X4_pass_X4 0 rfl rfl 5 (by decide) lk_X4_pass_f93 rfl dX4_pass_22 ?_
    refine z_iload_n h dX4_pass_25 rfl 1 rfl ?_
    refine z_iadd h dX4_pass_26 ?_
    refine z_topi (y := nI (dy + t)) (by rw [nI_add]) ?_
    refine z_sipush h (v := 399) dX4_pass_27 (by decide) ?_
    refine z_icmp_le h (tgt := 39) dX4_pass_30 (by decide) (fun c_30 => ?_) (fun c_30 => ?_)
    · have hlt : dy + t < 400 := by rcases Nat.lt_or_ge 399 (dy + t) with q | q; exact absurd ((nI_ltI (a := 399) (by omega) (by omega)).mpr q) (fun r => i32_nle r c_30); omega
      have hkp := kPass_0 hx1 (by rw [ct]; exact hlt)
      refine z_iconst h (v := 0) dX4_pass_39 (by decide) ?_
      refine z_istore_n h dX4_pass_40 rfl (by decide) (lv' := [(0, .ref (cm 0)), (1, .int (nI t)), (2, .int 0)]) [1, 2, 0] rfl ?_
      refine z_iconst h (v := 0) dX4_pass_41 (by decide) ?_
      refine z_istore_n h dX4_pass_42 rfl (by decide) (lv' := [(0, .ref (cm 0)), (1, .int (nI t)), (2, .int 0), (3, .int 0)]) [1, 2, 3, 0] rfl ?_
      have L43 : ∀ (L43n k : Nat) (mo : Int32), k ≤ t → t < L43n + k → mo = psO B n k → Z p l e rmX4_pass s m args below meth c Q A g 6 43 [(0, .ref (cm 0)), (1, .int (nI t)), (2, .int mo), (3, .int (nI k))] [] [(cm 0, .inr (5, [.int 0, .int (nI pl), .ref (cm 1), .ref (cm 2), .ref (cm 3), .int (nI dy), .int (nI n), .ref (cm 4), .ref (cm 5), .ref (cm 6), .ref (cm 7), .ref (cm 8), .ref (cm 9), .ref (cm 10), .ref (cm 11), .ref (cm 12), .ref (cm 13), .ref (cm 14), .ref (cm 15), .int (nI sn), .ref (cm 16)])), (cm 8, .inl (g.2.1, 16, .inl (col (psB B n k) 4))), (cm 11, .inl (g.2.1, 16, .inl (col (psB B n k) 7))), (cm 15, .inl (g.2.2.1, 3, .inr (.inl (psW B wf n k))))] [(cm 5, .inl (g.2.1, 16, .inl (col B 1))), (cm 6, .inl (g.2.1, 16, .inl (col B 2))), (cm 7, .inl (g.2.1, 16, .inl (col B 3)))] 0 0 := by
        intro L43n
        induction L43n with
        | zero => intro k mo hk hL43 e0; exact absurd hL43 (by omega)
        | succ L43n ihL43 =>
          intro k mo hk hL43 e0
          refine z_iload_n h dX4_pass_43 rfl 3 rfl ?_
          refine z_iload_n h dX4_pass_44 rfl 1 rfl ?_
          refine z_icmp_ge h (tgt := 172) dX4_pass_45 (by decide) (fun c_45 => ?_) (fun c_45 => ?_)
          · have hkt : k = t := by have := ge_t (a := k) (b := t) c_45 (by omega) (by omega); omega
            subst hkt
            refine z_aload_n h dX4_pass_172 rfl 0 rfl ?_
            refine z_dup h dX4_pass_173 rfl ?_
            refine z_get h in_X4_pass_X4 0 rfl rfl 5 (by decide) lk_X4_pass_f93 rfl dX4_pass_174 ?_
            refine z_iload_n h dX4_pass_177 rfl 1 rfl ?_
            refine z_iadd h dX4_pass_178 ?_
            refine z_topi (y := nI (dy + k)) (by rw [nI_add]) ?_
            refine z_put h in_X4_pass_X4 0 tyX4 tyX4_ok nmX4 rfl rfl 5 (by decide) lk_X4_pass_f93 rfl rfl rfl (Nat.le_of_ble_eq_true rfl) dX4_pass_179 (wW' := [(cm 0, .inr (5, [.int 0, .int (nI pl), .ref (cm 1), .ref (cm 2), .ref (cm 3), .int (nI (dy + k)), .int (nI n), .ref (cm 4), .ref (cm 5), .ref (cm 6), .ref (cm 7), .ref (cm 8), .ref (cm 9), .ref (cm 10), .ref (cm 11), .ref (cm 12), .ref (cm 13), .ref (cm 14), .ref (cm 15), .int (nI sn), .ref (cm 16)])), (cm 8, .inl (g.2.1, 16, .inl (col (psB B n k) 4))), (cm 11, .inl (g.2.1, 16, .inl (col (psB B n k) 7))), (cm 15, .inl (g.2.2.1, 3, .inr (.inl (psW B wf n k))))]) rfl ?_
            refine z_iload_n h dX4_pass_182 rfl 2 rfl ?_
            exact fin _ _ _ () _ _ _ _ dX4_pass_183 rfl (fun _ => by rw [ct]; exact e0) (by rw [hkp, ct]; rfl) (Nat.le_of_ble_eq_true rfl) (Nat.le_of_ble_eq_true rfl)
          · have hkl : k < t := ge_f (a := k) (b := t) c_45 (by omega) (by omega)
            refine z_iconst h (v := 0) dX4_pass_48 (by decide) ?_
            refine z_istore h dX4_pass_49 (by decide) (lv' := [(0, .ref (cm 0)), (1, .int (nI t)), (2, .int mo), (3, .int (nI k)), (4, .int 0)]) [1, 2, 3, 4, 0] rfl ?_
            have L51 : ∀ (L51n i : Nat) (mn : Int32), i ≤ n → n < L51n + i → mn = psO B n k + pasO (psB B n k) i → Z p l e rmX4_pass s m args below meth c Q A g 6 51 [(0, .ref (cm 0)), (1, .int (nI t)), (2, .int mn), (3, .int (nI k)), (4, .int (nI i))] [] [(cm 0, .inr (5, [.int 0, .int (nI pl), .ref (cm 1), .ref (cm 2), .ref (cm 3), .int (nI dy), .int (nI n), .ref (cm 4), .ref (cm 5), .ref (cm 6), .ref (cm 7), .ref (cm 8), .ref (cm 9), .ref (cm 10), .ref (cm 11), .ref (cm 12), .ref (cm 13), .ref (cm 14), .ref (cm 15), .int (nI sn), .ref (cm 16)])), (cm 8, .inl (g.2.1, 16, .inl (col (pasB (psB B n k) i) 4))), (cm 11, .inl (g.2.1, 16, .inl (col (pasB (psB B n k) i) 7))), (cm 15, .inl (g.2.2.1, 3, .inr (.inl (pasW (psB B n k) (psW B wf n k) i))))] [(cm 5, .inl (g.2.1, 16, .inl (col B 1))), (cm 6, .inl (g.2.1, 16, .inl (col B 2))), (cm 7, .inl (g.2.1, 16, .inl (col B 3)))] 0 0 := by
              intro L51n
              induction L51n with
              | zero => intro i mn hi hL51 e1; exact absurd hL51 (by omega)
              | succ L51n ihL51 =>
                intro i mn hi hL51 e1
                refine z_iload h dX4_pass_51 4 rfl ?_
                refine z_aload_n h dX4_pass_53 rfl 0 rfl ?_
                refine z_get h in_X4_pass_X4 0 rfl rfl 6 (by decide) lk_X4_pass_f71 rfl dX4_pass_54 ?_
                refine z_icmp_ge h (tgt := 166) dX4_pass_57 (by decide) (fun c_57 => ?_) (fun c_57 => ?_)
                · have hin : i = n := by have := ge_t (a := i) (b := n) c_57 (by omega) (by omega); omega
                  subst hin
                  refine z_iinc h (v := nI (k + 1)) dX4_pass_166 (by decide) 3 rfl (by rw [show Int32.ofInt 1 = nI 1 from rfl, nI_add]) (lv' := [(0, .ref (cm 0)), (1, .int (nI t)), (2, .int mn), (3, .int (nI (k + 1))), (4, .int (nI i))]) [1, 2, 3, 0, 4] rfl ?_
                  refine z_goto h (tgt := 43) dX4_pass_169 (by decide) ?_
                  refine z_lv [0, 1, 2, 3] (lv' := [(0, .ref (cm 0)), (1, .int (nI t)), (2, .int mn), (3, .int (nI (k + 1)))]) rfl ?_
                  exact ihL43 (k + 1) mn (by omega) (by omega) (by rw [e1]; rfl)
                · have hi : i < n := ge_f (a := i) (b := n) c_57 (by omega) (by omega)
                  have hbi := hb i hi
                  have hpa := pas_at B n k i
                  refine z_iconst h (v := 0) dX4_pass_60 (by decide) ?_
                  refine z_aload_n h dX4_pass_61 rfl 0 rfl ?_
                  refine z_get h in_X4_pass_X4 0 rfl rfl 11 (by decide) lk_X4_pass_f36 rfl dX4_pass_62 ?_
                  refine z_iload h dX4_pass_65 4 rfl ?_
                  refine z_iald h 1 rfl (vp_in_nI (by omega) (by omega)) dX4_pass_67 (v := (col (pasB (psB B n k) i) 4) i) (by rw [nI_clamp (by omega)]) ?_
                  refine z_aload_n h dX4_pass_68 rfl 0 rfl ?_
                  refine z_get h in_X4_pass_X4 0 rfl rfl 10 (by decide) lk_X4_pass_f33 rfl dX4_pass_69 ?_
                  refine z_iload h dX4_pass_72 4 rfl ?_
                  refine z_iald h 6 rfl (vp_in_nI (by omega) (by omega)) dX4_pass_74 (v := (col B 3) i) (by rw [nI_clamp (by omega)]) ?_
                  refine z_iadd h dX4_pass_75 ?_
                  refine z_aload_n h dX4_pass_76 rfl 0 rfl ?_
                  refine z_get h in_X4_pass_X4 0 rfl rfl 9 (by decide) lk_X4_pass_f30 rfl dX4_pass_77 ?_
                  refine z_iload h dX4_pass_80 4 rfl ?_
                  refine z_iald h 5 rfl (vp_in_nI (by omega) (by omega)) dX4_pass_82 (v := (col B 2) i) (by rw [nI_clamp (by omega)]) ?_
                  refine z_isub h dX4_pass_83 ?_
                  refine z_mmax h lk_X4_pass_m96 lk_X4_pass_smax lk_X4_pass_imax lk_X4_pass_kmax (Nat.le_of_ble_eq_true rfl) (Nat.le_of_ble_eq_true rfl) (Nat.le_of_ble_eq_true rfl) (Nat.le_of_ble_eq_true rfl) dX4_pass_84 ?_
                  refine z_topi (y := wstB (pasB (psB B n k) i i)) (by rw [wstB, hpa.1, hpa.2]; rfl) ?_
                  refine z_istore h dX4_pass_87 (by decide) (lv' := [(0, .ref (cm 0)), (1, .int (nI t)), (2, .int mn), (3, .int (nI k)), (4, .int (nI i)), (5, .int (wstB (pasB (psB B n k) i i)))]) [1, 2, 3, 4, 5, 0] rfl ?_
                  refine z_aload_n h dX4_pass_89 rfl 0 rfl ?_
                  refine z_get h in_X4_pass_X4 0 rfl rfl 11 (by decide) lk_X4_pass_f36 rfl dX4_pass_90 ?_
                  refine z_iload h dX4_pass_93 4 rfl ?_
                  refine z_dup2 h dX4_pass_95 rfl rfl ?_
                  refine z_iald h 1 rfl (vp_in_nI (by omega) (by omega)) dX4_pass_96 (v := (col (pasB (psB B n k) i) 4) i) (by rw [nI_clamp (by omega)]) ?_
                  refine z_aload_n h dX4_pass_97 rfl 0 rfl ?_
                  refine z_get h in_X4_pass_X4 0 rfl rfl 10 (by decide) lk_X4_pass_f33 rfl dX4_pass_98 ?_
                  refine z_iload h dX4_pass_101 4 rfl ?_
                  refine z_iald h 6 rfl (vp_in_nI (by omega) (by omega)) dX4_pass_103 (v := (col B 3) i) (by rw [nI_clamp (by omega)]) ?_
                  refine z_iload h dX4_pass_104 5 rfl ?_
                  refine z_isub h dX4_pass_106 ?_
                  refine z_iadd h dX4_pass_107 ?_
                  refine z_iast h (j := i) 1 rfl (vp_in_nI (by omega) (by omega)) (by rw [nI_clamp (by omega)]) dX4_pass_108 (wW' := [(cm 0, .inr (5, [.int 0, .int (nI pl), .ref (cm 1), .ref (cm 2), .ref (cm 3), .int (nI dy), .int (nI n), .ref (cm 4), .ref (cm 5), .ref (cm 6), .ref (cm 7), .ref (cm 8), .ref (cm 9), .ref (cm 10), .ref (cm 11), .ref (cm 12), .ref (cm 13), .ref (cm 14), .ref (cm 15), .int (nI sn), .ref (cm 16)])), (cm 8, .inl (g.2.1, 16, .inl (upd (col (pasB (psB B n k) i) 4) i (((col (pasB (psB B n k) i) 4) i) + (((col B 3) i) - (wstB (pasB (psB B n k) i i))))))), (cm 11, .inl (g.2.1, 16, .inl (col (pasB (psB B n k) i) 7))), (cm 15, .inl (g.2.2.1, 3, .inr (.inl (pasW (psB B n k) (psW B wf n k) i))))]) rfl ?_
                  refine z_aload_n h dX4_pass_109 rfl 0 rfl ?_
                  refine z_get h in_X4_pass_X4 0 rfl rfl 18 (by decide) lk_X4_pass_f58 rfl dX4_pass_110 ?_
                  refine z_aload_n h dX4_pass_113 rfl 0 rfl ?_
                  refine z_get h in_X4_pass_X4 0 rfl rfl 8 (by decide) lk_X4_pass_f27 rfl dX4_pass_114 ?_
                  refine z_iload h dX4_pass_117 4 rfl ?_
                  refine z_iald h 4 rfl (vp_in_nI (by omega) (by omega)) dX4_pass_119 (v := (col B 1) i) (by rw [nI_clamp (by omega)]) ?_
                  refine z_topi (y := nI (knd B i)) hbi.2.2.1 ?_
                  refine z_dup2 h dX4_pass_120 rfl rfl ?_
                  refine z_lald h 3 rfl (vp_in_nI (by omega) (by omega)) dX4_pass_121 (v := (pasW (psB B n k) (psW B wf n k) i) (knd B i)) (by rw [nI_clamp (by omega)]) ?_
                  refine z_iload h dX4_pass_122 5 rfl ?_
                  refine z_i2l h dX4_pass_124 ?_
                  refine z_ladd h dX4_pass_125 ?_
                  refine z_last h (j := knd B i) 3 rfl (vp_in_nI (by omega) (by omega)) (by rw [nI_clamp (by omega)]) dX4_pass_126 (wW' := [(cm 0, .inr (5, [.int 0, .int (nI pl), .ref (cm 1), .ref (cm 2), .ref (cm 3), .int (nI dy), .int (nI n), .ref (cm 4), .ref (cm 5), .ref (cm 6), .ref (cm 7), .ref (cm 8), .ref (cm 9), .ref (cm 10), .ref (cm 11), .ref (cm 12), .ref (cm 13), .ref (cm 14), .ref (cm 15), .int (nI sn), .ref (cm 16)])), (cm 8, .inl (g.2.1, 16, .inl (upd (col (pasB (psB B n k) i) 4) i (((col (pasB (psB B n k) i) 4) i) + (((col B 3) i) - (wstB (pasB (psB B n k) i i))))))), (cm 11, .inl (g.2.1, 16, .inl (col (pasB (psB B n k) i) 7))), (cm 15, .inl (g.2.2.1, 3, .inr (.inl (vp_updL (pasW (psB B n k) (psW B wf n k) i) (knd B i) (((pasW (psB B n k) (psW B wf n k) i) (knd B i)) + (Int32.toInt64 (wstB (pasB (psB B n k) i i))))))))]) rfl ?_
                  refine z_aload_n h dX4_pass_127 rfl 0 rfl ?_
                  refine z_get h in_X4_pass_X4 0 rfl rfl 14 (by decide) lk_X4_pass_f45 rfl dX4_pass_128 ?_
                  refine z_iload h dX4_pass_131 4 rfl ?_
                  refine z_dup2 h dX4_pass_133 rfl rfl ?_
                  refine z_iald h 2 rfl (vp_in_nI (by omega) (by omega)) dX4_pass_134 (v := (col (pasB (psB B n k) i) 7) i) (by rw [nI_clamp (by omega)]) ?_
                  refine z_iload h dX4_pass_135 5 rfl ?_
                  have K_137 : Z p l e rmX4_pass s m args below meth c Q A g 6 145 [(0, .ref (cm 0)), (1, .int (nI t)), (2, .int mn), (3, .int (nI k)), (4, .int (nI i)), (5, .int (wstB (pasB (psB B n k) i i)))] [.int (if (wstB (pasB (psB B n k) i i)) ≤ 0 then 0 else 1), .int ((col (pasB (psB B n k) i) 7) i), .int (nI i), .ref (cm 11)] [(cm 0, .inr (5, [.int 0, .int (nI pl), .ref (cm 1), .ref (cm 2), .ref (cm 3), .int (nI dy), .int (nI n), .ref (cm 4), .ref (cm 5), .ref (cm 6), .ref (cm 7), .ref (cm 8), .ref (cm 9), .ref (cm 10), .ref (cm 11), .ref (cm 12), .ref (cm 13), .ref (cm 14), .ref (cm 15), .int (nI sn), .ref (cm 16)])), (cm 8, .inl (g.2.1, 16, .inl (upd (col (pasB (psB B n k) i) 4) i (((col (pasB (psB B n k) i) 4) i) + (((col B 3) i) - (wstB (pasB (psB B n k) i i))))))), (cm 11, .inl (g.2.1, 16, .inl (col (pasB (psB B n k) i) 7))), (cm 15, .inl (g.2.2.1, 3, .inr (.inl (vp_updL (pasW (psB B n k) (psW B wf n k) i) (knd B i) (((pasW (psB B n k) (psW B wf n k) i) (knd B i)) + (Int32.toInt64 (wstB (pasB (psB B n k) i i))))))))] [(cm 5, .inl (g.2.1, 16, .inl (col B 1))), (cm 6, .inl (g.2.1, 16, .inl (col B 2))), (cm 7, .inl (g.2.1, 16, .inl (col B 3)))] 0 0 := by
                    refine z_iadd h dX4_pass_145 ?_
                    refine z_iast h (j := i) 2 rfl (vp_in_nI (by omega) (by omega)) (by rw [nI_clamp (by omega)]) dX4_pass_146 (wW' := [(cm 0, .inr (5, [.int 0, .int (nI pl), .ref (cm 1), .ref (cm 2), .ref (cm 3), .int (nI dy), .int (nI n), .ref (cm 4), .ref (cm 5), .ref (cm 6), .ref (cm 7), .ref (cm 8), .ref (cm 9), .ref (cm 10), .ref (cm 11), .ref (cm 12), .ref (cm 13), .ref (cm 14), .ref (cm 15), .int (nI sn), .ref (cm 16)])), (cm 8, .inl (g.2.1, 16, .inl (upd (col (pasB (psB B n k) i) 4) i (((col (pasB (psB B n k) i) 4) i) + (((col B 3) i) - (wstB (pasB (psB B n k) i i))))))), (cm 11, .inl (g.2.1, 16, .inl (upd (col (pasB (psB B n k) i) 7) i (((col (pasB (psB B n k) i) 7) i) + (if (wstB (pasB (psB B n k) i i)) ≤ 0 then 0 else 1))))), (cm 15, .inl (g.2.2.1, 3, .inr (.inl (vp_updL (pasW (psB B n k) (psW B wf n k) i) (knd B i) (((pasW (psB B n k) (psW B wf n k) i) (knd B i)) + (Int32.toInt64 (wstB (pasB (psB B n k) i i))))))))]) rfl ?_
                    refine z_iload_n h dX4_pass_147 rfl 2 rfl ?_
                    refine z_iload h dX4_pass_148 5 rfl ?_
                    have K_150 : Z p l e rmX4_pass s m args below meth c Q A g 6 158 [(0, .ref (cm 0)), (1, .int (nI t)), (2, .int mn), (3, .int (nI k)), (4, .int (nI i)), (5, .int (wstB (pasB (psB B n k) i i)))] [.int (if (wstB (pasB (psB B n k) i i)) ≤ 0 then 0 else 1), .int mn] [(cm 0, .inr (5, [.int 0, .int (nI pl), .ref (cm 1), .ref (cm 2), .ref (cm 3), .int (nI dy), .int (nI n), .ref (cm 4), .ref (cm 5), .ref (cm 6), .ref (cm 7), .ref (cm 8), .ref (cm 9), .ref (cm 10), .ref (cm 11), .ref (cm 12), .ref (cm 13), .ref (cm 14), .ref (cm 15), .int (nI sn), .ref (cm 16)])), (cm 8, .inl (g.2.1, 16, .inl (upd (col (pasB (psB B n k) i) 4) i (((col (pasB (psB B n k) i) 4) i) + (((col B 3) i) - (wstB (pasB (psB B n k) i i))))))), (cm 11, .inl (g.2.1, 16, .inl (upd (col (pasB (psB B n k) i) 7) i (((col (pasB (psB B n k) i) 7) i) + (if (wstB (pasB (psB B n k) i i)) ≤ 0 then 0 else 1))))), (cm 15, .inl (g.2.2.1, 3, .inr (.inl (vp_updL (pasW (psB B n k) (psW B wf n k) i) (knd B i) (((pasW (psB B n k) (psW B wf n k) i) (knd B i)) + (Int32.toInt64 (wstB (pasB (psB B n k) i i))))))))] [(cm 5, .inl (g.2.1, 16, .inl (col B 1))), (cm 6, .inl (g.2.1, 16, .inl (col B 2))), (cm 7, .inl (g.2.1, 16, .inl (col B 3)))] 0 0 := by
                      refine z_iadd h dX4_pass_158 ?_
                      refine z_istore_n h dX4_pass_159 rfl (by decide) (lv' := [(0, .ref (cm 0)), (1, .int (nI t)), (2, .int (mn + (if (wstB (pasB (psB B n k) i i)) ≤ 0 then 0 else 1))), (3, .int (nI k)), (4, .int (nI i)), (5, .int (wstB (pasB (psB B n k) i i)))]) [1, 2, 0, 3, 4, 5] rfl ?_
                      refine z_ws (wW' := [(cm 0, .inr (5, [.int 0, .int (nI pl), .ref (cm 1), .ref (cm 2), .ref (cm 3), .int (nI dy), .int (nI n), .ref (cm 4), .ref (cm 5), .ref (cm 6), .ref (cm 7), .ref (cm 8), .ref (cm 9), .ref (cm 10), .ref (cm 11), .ref (cm 12), .ref (cm 13), .ref (cm 14), .ref (cm 15), .int (nI sn), .ref (cm 16)])), (cm 8, .inl (g.2.1, 16, .inl (col (pasB (psB B n k) (i + 1)) 4))), (cm 11, .inl (g.2.1, 16, .inl (col (pasB (psB B n k) (i + 1)) 7))), (cm 15, .inl (g.2.2.1, 3, .inr (.inl (pasW (psB B n k) (psW B wf n k) (i + 1)))))]) (by rw [pas_c4, pas_c7, hpa.2, pasW, show knd (psB B n k) i = knd B i from by unfold knd; rw [(col_ps2 B n k i).2.1]]; rfl) rfl ?_
                      refine z_iinc h (v := nI (i + 1)) dX4_pass_160 (by decide) 4 rfl (by rw [show Int32.ofInt 1 = nI 1 from rfl, nI_add]) (lv' := [(0, .ref (cm 0)), (1, .int (nI t)), (2, .int (mn + (if (wstB (pasB (psB B n k) i i)) ≤ 0 then 0 else 1))), (3, .int (nI k)), (4, .int (nI (i + 1))), (5, .int (wstB (pasB (psB B n k) i i)))]) [1, 2, 3, 4, 0, 5] rfl ?_
                      refine z_goto h (tgt := 51) dX4_pass_163 (by decide) ?_
                      refine z_lv [0, 1, 2, 3, 4] (lv' := [(0, .ref (cm 0)), (1, .int (nI t)), (2, .int (mn + (if (wstB (pasB (psB B n k) i i)) ≤ 0 then 0 else 1))), (3, .int (nI k)), (4, .int (nI (i + 1)))]) rfl ?_
                      exact ihL51 (i + 1) (mn + (if (wstB (pasB (psB B n k) i i)) ≤ 0 then 0 else 1)) (by omega) (by omega) (by rw [e1, pasO, Int32.add_assoc])
                    refine z_if_le h (tgt := 157) dX4_pass_150 (by decide) (fun c_150 => ?_) (fun c_150 => ?_)
                    · refine z_iconst h (v := 0) dX4_pass_157 (by decide) ?_
                      exact z_topi (if_pos c_150).symm K_150
                    · refine z_iconst h (v := 1) dX4_pass_153 (by decide) ?_
                      refine z_goto h (tgt := 158) dX4_pass_154 (by decide) ?_
                      exact z_topi (if_neg c_150).symm K_150
                  refine z_if_le h (tgt := 144) dX4_pass_137 (by decide) (fun c_137 => ?_) (fun c_137 => ?_)
                  · refine z_iconst h (v := 0) dX4_pass_144 (by decide) ?_
                    exact z_topi (if_pos c_137).symm K_137
                  · refine z_iconst h (v := 1) dX4_pass_140 (by decide) ?_
                    refine z_goto h (tgt := 145) dX4_pass_141 (by decide) ?_
                    exact z_topi (if_neg c_137).symm K_137
            exact L51 (n + 1 - 0) 0 mo (by omega) (by omega) (by rw [e0, pasO, Int32.add_zero])
      exact L43 (t + 1 - 0) 0 0 (by omega) (by omega) rfl
    · have hge : ¬ dy + t < 400 := fun q => by have := (nI_ltI (a := 399) (by omega) (by omega)).mp (i32_nlf c_30); omega
      have hkp := kPass_2 hx1 (by rw [ct]; exact hge)
      refine z_aload_n h dX4_pass_33 rfl 0 rfl ?_
      refine z_iconst h (v := 2) dX4_pass_34 (by decide) ?_
      refine z_Vi h (As := [.int 2]) (st := []) (fun sz => m_X4_fail l g cm 0 pl dy n sn 2  sz) (cwV 1 h.ts gX4_pass_X4_fail rfl rfl rfl (by decide +kernel) ⟨Nat.le_of_ble_eq_true rfl, Nat.le_of_ble_eq_true rfl⟩) rfl [0] [] rfl rfl rfl rfl 0 rfl rfl rfl rfl (Nat.le_of_ble_eq_true rfl) ⟨(Nat.le_of_ble_eq_true rfl), (Nat.le_of_ble_eq_true rfl)⟩ (fun _ => (Nat.le_of_ble_eq_true rfl)) (wN := fun u => [(cm 0, .inr (5, [.int 2, .int (nI pl), .ref (cm 1), .ref (cm 2), .ref (cm 3), .int (nI dy), .int (nI n), .ref (cm 4), .ref (cm 5), .ref (cm 6), .ref (cm 7), .ref (cm 8), .ref (cm 9), .ref (cm 10), .ref (cm 11), .ref (cm 12), .ref (cm 13), .ref (cm 14), .ref (cm 15), .int (nI sn), .ref (cm 16)])), (cm 8, .inl (g.2.1, 16, .inl (col B 4))), (cm 11, .inl (g.2.1, 16, .inl (col B 7))), (cm 15, .inl (g.2.2.1, 3, .inr (.inl wf)))]) (fun _ => rfl) dX4_pass_35 (fun r_35 u_35 h_35 => ?_)
      exact fin _ _ _ () _ _ _ _ dX4_pass_38 rfl (fun q => absurd (hkp.symm.trans q) (by decide)) (by rw [hkp]; rfl) (Nat.le_of_ble_eq_true rfl) (Nat.le_of_ble_eq_true rfl)
  · have fx : okR 1 60 x = false := b01_0 h_9 c_12
    have hkp := kPass_1 (dy := dy) fx
    refine z_aload_n h dX4_pass_15 rfl 0 rfl ?_
    refine z_iconst h (v := 1) dX4_pass_16 (by decide) ?_
    refine z_Vi h (As := [.int 1]) (st := []) (fun sz => m_X4_fail l g cm 0 pl dy n sn 1  sz) (cwV 1 h.ts gX4_pass_X4_fail rfl rfl rfl (by decide +kernel) ⟨Nat.le_of_ble_eq_true rfl, Nat.le_of_ble_eq_true rfl⟩) rfl [0] [] rfl rfl rfl rfl 0 rfl rfl rfl rfl (Nat.le_of_ble_eq_true rfl) ⟨(Nat.le_of_ble_eq_true rfl), (Nat.le_of_ble_eq_true rfl)⟩ (fun _ => (Nat.le_of_ble_eq_true rfl)) (wN := fun u => [(cm 0, .inr (5, [.int 1, .int (nI pl), .ref (cm 1), .ref (cm 2), .ref (cm 3), .int (nI dy), .int (nI n), .ref (cm 4), .ref (cm 5), .ref (cm 6), .ref (cm 7), .ref (cm 8), .ref (cm 9), .ref (cm 10), .ref (cm 11), .ref (cm 12), .ref (cm 13), .ref (cm 14), .ref (cm 15), .int (nI sn), .ref (cm 16)])), (cm 8, .inl (g.2.1, 16, .inl (col B 4))), (cm 11, .inl (g.2.1, 16, .inl (col B 7))), (cm 15, .inl (g.2.2.1, 3, .inr (.inl wf)))]) (fun _ => rfl) dX4_pass_17 (fun r_17 u_17 h_17 => ?_)
    exact fin _ _ _ () _ _ _ _ dX4_pass_20 rfl (fun q => absurd (hkp.symm.trans q) (by decide)) (by rw [hkp]; rfl) (Nat.le_of_ble_eq_true rfl) (Nat.le_of_ble_eq_true rfl)
