theorem pe3_no {a b c : String} {k : Int32} {E : String} (h : k = 0) : ¬ pe3 a b c k E := by
  subst h
  rintro (⟨q, -⟩ | ⟨q, -⟩ | ⟨q, -⟩) <;> exact absurd q (by decide)
theorem okR_nI {a b : Int} {j : Nat} (h1 : a ≤ (j : Int)) (h2 : (j : Int) ≤ b) (hj : j < 2 ^ 31) : okR a b (nI j) = true := by
  refine decide_eq_true ?_
  rw [nI_toInt hj]
  exact ⟨h1, h2⟩
theorem nI_p1 {q : Nat} (h : 1 ≤ q) (h2 : q < 2 ^ 31) : nI q - 1 = nI (q - 1) := by
  have e1 : (nI q).toInt = (q : Int) := nI_toInt h2
  have e2 : (nI (q - 1)).toInt = ((q - 1 : Nat) : Int) := nI_toInt (by omega)
  have t1 : (1 : Int32).toInt = 1 := rfl
  refine i32_inj ?_
  rw [i32_sub (by omega) (by omega), e1, e2, t1]
  omega
theorem lk_L_below_c7 : Jvm.Cond.constant RL 7 (2147483647) ∈ wsL_below := by decide +kernel
theorem lk_L_cell_c8 : Jvm.Cond.constant RL 8 (790386105) ∈ wsL_cell := by decide +kernel
abbrev rmL_below : Room := { frames := 0, cells := 0, slots := 0, locals := 0 }
set_option maxHeartbeats 4000000 in
set_option maxRecDepth 100000 in
theorem m_L_below (l : Launch) (g : Gx) (v : Int32) (n : Nat) (hn : 0 < n) (hn2 : n < 2 ^ 31) (sz : Nat) : Met l yL_below wsL_below rmL_below (PZ g [.int v, .int (nI n)] sz [] []) (va_Qi (fun (r : Int32) (_ : Unit) => ∃ j, j < n ∧ r = nI j) (BZ g [] sz (fun (u : Unit) => [])) (va_A [] sz)) 0 0 (va_A [] sz) := by
  refine z_open_i (cc := cL_below) (maxL := 2) (ret := .int) (own := RL) (by decide) rfl rfl (Nat.le_of_ble_eq_true rfl) ?_
  intro p e s m args below meth c Q h hnm fin
  generalize hAe : va_A [] s.heap.size = A at h fin ⊢
  refine z_lve (lv' := [(0, .int v), (1, .int (nI n))]) rfl ?_
  refine z_iload_n h dL_below_0 rfl 0 rfl ?_
  refine z_ldc h lk_L_below_c7 dL_below_1 ?_
  refine z_iand h dL_below_3 ?_
  refine z_iload_n h dL_below_4 rfl 1 rfl ?_
  refine z_irem h dL_below_5 (fun q => by have := nI_z q hn2; omega) ?_
  exact fin _ _ _ () _ _ _ _ dL_below_6 rfl (below_ok v hn hn2) rfl (Nat.le_of_ble_eq_true rfl) (Nat.le_of_ble_eq_true rfl)
abbrev rmL_cell : Room := { frames := 0, cells := 0, slots := 0, locals := 0 }
set_option maxHeartbeats 4000000 in
set_option maxRecDepth 100000 in
theorem m_L_cell (l : Launch) (g : Gx) (b : Nat) (L : Nat) (xs : Nat → Int32) (kk : Nat) (hkk : kk < 1000) (hL : L ≤ 260) (sz : Nat) : Met l yL_cell wsL_cell rmL_cell (PS SL3 g [.ref b, .int (nI kk)] sz [] [] b L xs) (va_Qi (fun (_ : Int32) (_ : Unit) => True) (BZ g [] sz (fun (u : Unit) => [])) (va_A [] sz)) 0 0 (va_A [] sz) := by
  refine s_open_i (cc := cL_cell) (maxL := 2) (ret := .int) (own := RL) (by decide) rfl rfl (Nat.le_of_ble_eq_true rfl) ?_
  intro p e s m args below meth c Q h hT hSx fin
  generalize hAe : va_A [] s.heap.size = A at h hT hSx fin ⊢
  refine z_lve (lv' := [(0, .ref b), (1, .int (nI kk))]) rfl ?_
  refine z_iload_n h dL_cell_0 rfl 1 rfl ?_
  refine z_aload_n h dL_cell_1 rfl 0 rfl ?_
  refine z_slen h hSx.1 hSx.2.1 hSx.2.2 dL_cell_2 ?_
  refine z_icmp_ge h (tgt := 12) dL_cell_3 (by decide) (fun c_3 => ?_) (fun c_3 => ?_)
  · refine z_ldc h lk_L_cell_c8 dL_cell_12 ?_
    refine z_iload_n h dL_cell_14 rfl 1 rfl ?_
    refine z_iconst h (v := 3) dL_cell_15 (by decide) ?_
    refine z_iadd h dL_cell_16 ?_
    refine z_topi (y := nI (kk + 3)) (by rw [show (3 : Int32) = nI 3 from rfl, nI_add]) ?_
    refine z_imul h dL_cell_17 ?_
    exact fin _ _ _ () _ _ _ _ dL_cell_18 rfl trivial rfl (Nat.le_of_ble_eq_true rfl) (Nat.le_of_ble_eq_true rfl)
  · have hlt : kk < L := ge_f c_3 (by omega) (by omega)
    refine z_aload_n h dL_cell_6 rfl 0 rfl ?_
    refine z_iload_n h dL_cell_7 rfl 1 rfl ?_
    refine z_sld h hSx.1 hSx.2.1 hSx.2.2 (i := nI kk) (vp_in_nI (by omega) (by omega)) dL_cell_8 (v := xs kk) (by rw [nI_clamp (by omega)]) ?_
    refine z_goto h (tgt := 18) dL_cell_9 (by decide) ?_
    exact fin _ _ _ () _ _ _ _ dL_cell_18 rfl trivial rfl (Nat.le_of_ble_eq_true rfl) (Nat.le_of_ble_eq_true rfl)
