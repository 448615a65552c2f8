theorem updB_eq {B : Nat → Nat → Int32} {i : Nat} {b : Nat → Int32} : updB B i b i = b := if_pos rfl
theorem pasB_g {B : Nat → Nat → Int32} {i : Nat} : updB (pasB B i) i (filB (pasB B i i)) i 1 = B i 1 := by
  rw [updB_eq]
  exact (pasB_01 B i i).2
theorem in_X3_passOneDay_X0 : ∀ w ∈ wsX00, w ∈ wsX3_passOneDay := by decide +kernel
theorem in_X3_passOneDay_X3 : ∀ w ∈ wsX30, w ∈ wsX3_passOneDay := by decide +kernel
theorem lk_X3_passOneDay_cl113 : Cond.classLink RX3 113 RX0 ∈ wsX3_passOneDay := by decide +kernel
theorem lk_X3_passOneDay_f19 : Cond.fieldLink RX3 19 (TX3 1).1 (TX3 1).2.1 (TX3 1).2.2.1 ∈ wsX3_passOneDay := by decide +kernel
theorem lk_X3_passOneDay_f31 : Cond.fieldLink RX3 31 (TX3 4).1 (TX3 4).2.1 (TX3 4).2.2.1 ∈ wsX3_passOneDay := by decide +kernel
theorem lk_X3_passOneDay_f42 : Cond.fieldLink RX3 42 (TX3 7).1 (TX3 7).2.1 (TX3 7).2.2.1 ∈ wsX3_passOneDay := by decide +kernel
abbrev rmX3_passOneDay : Room := { frames := 3, cells := 0, slots := 0, locals := 64 }
set_option maxHeartbeats 4000000 in
set_option maxRecDepth 100000 in
theorem m_X3_passOneDay (l : Launch) (g : Gx) (a : Nat → Nat) (sn : Nat) (dy : Nat) (wf : Nat → Int64) (mc : Int32) (ed : Nat) (n : Nat) (cap : Nat) (ad : Nat → Nat) (B : Nat → Nat → Int32) (hn : n ≤ 16) (hc : n ≤ cap) (hcap : cap ≤ 26) (hdy : dy ≤ 399) (hb : BOK n B) (sz : Nat) : Met l yX3_passOneDay wsX3_passOneDay rmX3_passOneDay (PZ g [.ref (a 0)] sz ([(a 7, .inl (g.2.2.1, 3, .inr (.inl wf))), (a 0, .inr (4, [.ref (a 1), .ref (a 4), .ref (a 5), .ref (a 6), .ref (a 7), .ref (a 8), .int (nI sn), .int (nI dy)])), (a 4, .inr (0, [.int mc, .ref ed, .int (nI n)]))] ++ bp g n ed cap ad B) []) (va_Qi (fun (r : Int32) (_ : Unit) => r = pasO B n) (BZ g ([(a 7, .inl (g.2.2.1, 3, .inr (.inl wf))), (a 0, .inr (4, [.ref (a 1), .ref (a 4), .ref (a 5), .ref (a 6), .ref (a 7), .ref (a 8), .int (nI sn), .int (nI dy)])), (a 4, .inr (0, [.int mc, .ref ed, .int (nI n)]))] ++ bp g n ed cap ad B) sz (fun (u : Unit) => ([(a 7, .inl (g.2.2.1, 3, .inr (.inl (pasW B wf n)))), (a 0, .inr (4, [.ref (a 1), .ref (a 4), .ref (a 5), .ref (a 6), .ref (a 7), .ref (a 8), .int (nI sn), .int (nI (dy + 1))])), (a 4, .inr (0, [.int mc, .ref ed, .int (nI n)]))] ++ bp g n ed cap ad (pasB B n)))) (va_A ([(a 7, .inl (g.2.2.1, 3, .inr (.inl wf))), (a 0, .inr (4, [.ref (a 1), .ref (a 4), .ref (a 5), .ref (a 6), .ref (a 7), .ref (a 8), .int (nI sn), .int (nI dy)])), (a 4, .inr (0, [.int mc, .ref ed, .int (nI n)]))] ++ bp g n ed cap ad B) sz)) 0 0 (va_A ([(a 7, .inl (g.2.2.1, 3, .inr (.inl wf))), (a 0, .inr (4, [.ref (a 1), .ref (a 4), .ref (a 5), .ref (a 6), .ref (a 7), .ref (a 8), .int (nI sn), .int (nI dy)])), (a 4, .inr (0, [.int mc, .ref ed, .int (nI n)]))] ++ bp g n ed cap ad B) sz) := by
  refine z_open_i (cc := cX3_passOneDay) (maxL := 5) (ret := .int) (own := RX3) (by decide) rfl rfl (Nat.le_of_ble_eq_true rfl) ?_
  intro p e s m args below meth c Q h hnm fin
  generalize hAe : va_A ([(a 7, .inl (g.2.2.1, 3, .inr (.inl wf))), (a 0, .inr (4, [.ref (a 1), .ref (a 4), .ref (a 5), .ref (a 6), .ref (a 7), .ref (a 8), .int (nI sn), .int (nI dy)])), (a 4, .inr (0, [.int mc, .ref ed, .int (nI n)]))] ++ bp g n ed cap ad B) s.heap.size = A at h fin ⊢
  refine z_lve (lv' := [(0, .ref (a 0))]) rfl ?_
  refine z_aload_n h dX3_passOneDay_0 rfl 0 rfl ?_
  refine z_dup h dX3_passOneDay_1 rfl ?_
  refine z_get h in_X3_passOneDay_X3 1 rfl rfl 7 (by decide) lk_X3_passOneDay_f42 rfl dX3_passOneDay_2 ?_
  refine z_iconst h (v := 1) dX3_passOneDay_5 (by decide) ?_
  refine z_iadd h dX3_passOneDay_6 ?_
  refine z_topi (y := nI (dy + 1)) (nI_1 dy) ?_
  refine z_put h in_X3_passOneDay_X3 1 tyX3 tyX3_ok nmX3 rfl rfl 7 (by decide) lk_X3_passOneDay_f42 rfl rfl rfl (Nat.le_of_ble_eq_true rfl) dX3_passOneDay_7 (wW' := ([(a 7, .inl (g.2.2.1, 3, .inr (.inl wf))), (a 0, .inr (4, [.ref (a 1), .ref (a 4), .ref (a 5), .ref (a 6), .ref (a 7), .ref (a 8), .int (nI sn), .int (nI (dy + 1))])), (a 4, .inr (0, [.int mc, .ref ed, .int (nI n)]))] ++ bp g n ed cap ad B)) rfl ?_
  refine z_iconst h (v := 0) dX3_passOneDay_10 (by decide) ?_
  refine z_istore_n h dX3_passOneDay_11 rfl (by decide) (lv' := [(0, .ref (a 0)), (1, .int 0)]) [1, 0] rfl ?_
  refine z_iconst h (v := 0) dX3_passOneDay_12 (by decide) ?_
  refine z_istore_n h dX3_passOneDay_13 rfl (by decide) (lv' := [(0, .ref (a 0)), (1, .int 0), (2, .int 0)]) [1, 2, 0] rfl ?_
  have L14 : ∀ (L14n i : Nat) , i ≤ n → n < L14n + i → Z p l e rmX3_passOneDay s m args below meth c Q A g 5 14 [(0, .ref (a 0)), (1, .int (pasO B i)), (2, .int (nI i))] [] ([(a 7, .inl (g.2.2.1, 3, .inr (.inl (pasW B wf i)))), (a 0, .inr (4, [.ref (a 1), .ref (a 4), .ref (a 5), .ref (a 6), .ref (a 7), .ref (a 8), .int (nI sn), .int (nI (dy + 1))])), (a 4, .inr (0, [.int mc, .ref ed, .int (nI n)]))] ++ bp g n ed cap ad (pasB B i)) [] 0 0 := by
    intro L14n
    induction L14n with
    | zero => intro i  hi hL14 ; exact absurd hL14 (by omega)
    | succ L14n ihL14 =>
      intro i  hi hL14 
      refine z_iload_n h dX3_passOneDay_14 rfl 2 rfl ?_
      refine z_aload_n h dX3_passOneDay_15 rfl 0 rfl ?_
      refine z_get h in_X3_passOneDay_X3 1 rfl rfl 1 (by decide) lk_X3_passOneDay_f19 rfl dX3_passOneDay_16 ?_
      refine z_Vi h (As := []) (st := [.int (nI i)]) (fun sz => m_Jx4a65c_size_8abf5 l g (a 4) mc ed n  sz) (cwV 0 h.ts gX3_passOneDay_Jx4a65c_size_8abf5 rfl rfl rfl (by decide +kernel) ⟨Nat.le_of_ble_eq_true rfl, Nat.le_of_ble_eq_true rfl⟩) rfl [] [2] rfl rfl rfl rfl 2 rfl rfl rfl rfl (Nat.le_of_ble_eq_true rfl) ⟨(Nat.le_of_ble_eq_true rfl), (Nat.le_of_ble_eq_true rfl)⟩ (fun _ => (Nat.le_of_ble_eq_true rfl)) (wN := fun u => ([(a 7, .inl (g.2.2.1, 3, .inr (.inl (pasW B wf i)))), (a 0, .inr (4, [.ref (a 1), .ref (a 4), .ref (a 5), .ref (a 6), .ref (a 7), .ref (a 8), .int (nI sn), .int (nI (dy + 1))])), (a 4, .inr (0, [.int mc, .ref ed, .int (nI n)]))] ++ bp g n ed cap ad (pasB B i))) (fun _ => List.append_nil _) dX3_passOneDay_19 (fun r_19 u_19 h_19 => ?_)
      refine z_icmp_ge h (tgt := 77) dX3_passOneDay_22 (by decide) (fun c_22 => ?_) (fun c_22 => ?_)
      · have hin : i = n := by have := ge_t (a := i) (b := n) (by rw [← h_19]; exact c_22) (by omega) (by omega); omega
        subst hin
        refine z_iload_n h dX3_passOneDay_77 rfl 1 rfl ?_
        exact fin _ _ _ () _ _ _ _ dX3_passOneDay_78 rfl rfl rfl (Nat.le_of_ble_eq_true rfl) (Nat.le_of_ble_eq_true rfl)
      · have hi : i < n := ge_f (a := i) (b := n) (by rw [← h_19]; exact c_22) (by omega) (by omega)
        have hk := hb i hi
        refine z_aload_n h dX3_passOneDay_25 rfl 0 rfl ?_
        refine z_get h in_X3_passOneDay_X3 1 rfl rfl 1 (by decide) lk_X3_passOneDay_f19 rfl dX3_passOneDay_26 ?_
        refine z_iload_n h dX3_passOneDay_29 rfl 2 rfl ?_
        refine z_Vr h (As := [.int (nI i)]) (st := []) (fun sz => m_Jx4a65c_get_915e3 l g (a 4) mc ed n cap ad i (by omega) (by omega) (by omega) sz) (cwV 1 h.ts gX3_passOneDay_Jx4a65c_get_915e3 rfl rfl rfl (by decide +kernel) ⟨Nat.le_of_ble_eq_true rfl, Nat.le_of_ble_eq_true rfl⟩) rfl [] [2, 3] (lc rfl (lc (bp_elW (by omega)) rfl)) rfl rfl rfl 2 rfl rfl rfl rfl (Nat.le_of_ble_eq_true rfl) ⟨(Nat.le_of_ble_eq_true rfl), (Nat.le_of_ble_eq_true rfl)⟩ (fun _ => (Nat.le_of_ble_eq_true rfl)) (wN := fun u => ([(a 7, .inl (g.2.2.1, 3, .inr (.inl (pasW B wf i)))), (a 0, .inr (4, [.ref (a 1), .ref (a 4), .ref (a 5), .ref (a 6), .ref (a 7), .ref (a 8), .int (nI sn), .int (nI (dy + 1))])), (a 4, .inr (0, [.int mc, .ref ed, .int (nI n)]))] ++ bp g n ed cap ad (pasB B i))) (fun _ => List.append_nil _) dX3_passOneDay_30 (fun u_30 h_30 => ?_)
        refine z_cast h lk_X3_passOneDay_cl113 (3 + (i + 1)) (bp_atW (by omega)) rfl dX3_passOneDay_33 ?_
        refine z_astore_n h dX3_passOneDay_36 rfl (by decide) (lv' := [(0, .ref (a 0)), (1, .int (pasO B i)), (2, .int (nI i)), (3, .ref (ad i))]) [1, 2, 3, 0] rfl ?_
        refine z_aload_n h dX3_passOneDay_37 rfl 3 rfl ?_
        refine z_Vi h (As := []) (st := []) (fun sz => m_X0_fill l g (ad i) ((pasB B i) i)  sz) (cwV 0 h.ts gX3_passOneDay_X0_fill rfl rfl rfl (by decide +kernel) ⟨Nat.le_of_ble_eq_true rfl, Nat.le_of_ble_eq_true rfl⟩) rfl [(3 + (i + 1))] [] (lc (bp_atW (by omega)) rfl) (lc (bp_at (by omega)) rfl) (by simp [va_nd]; try omega) (by simp [va_nd]) (3 + (i + 1)) (bp_atW (by omega)) rfl rfl rfl (Nat.le_of_ble_eq_true rfl) ⟨(Nat.le_of_ble_eq_true rfl), (Nat.le_of_ble_eq_true rfl)⟩ (fun _ => (Nat.le_of_ble_eq_true rfl)) (wN := fun u => ([(a 7, .inl (g.2.2.1, 3, .inr (.inl (pasW B wf i)))), (a 0, .inr (4, [.ref (a 1), .ref (a 4), .ref (a 5), .ref (a 6), .ref (a 7), .ref (a 8), .int (nI sn), .int (nI (dy + 1))])), (a 4, .inr (0, [.int mc, .ref ed, .int (nI n)]))] ++ bp g n ed cap ad (updB (pasB B i) i (filB ((pasB B i) i))))) (fun _ => bp_put (by omega)) dX3_passOneDay_38 (fun r_38 u_38 h_38 => ?_)
        refine z_topi (y := wstB (pasB B i i)) h_38 ?_
        refine z_istore h dX3_passOneDay_41 (by decide) (lv' := [(0, .ref (a 0)), (1, .int (pasO B i)), (2, .int (nI i)), (3, .ref (ad i)), (4, .int (wstB (pasB B i i)))]) [1, 2, 3, 4, 0] rfl ?_
        refine z_aload_n h dX3_passOneDay_43 rfl 0 rfl ?_
        refine z_get h in_X3_passOneDay_X3 1 rfl rfl 4 (by decide) lk_X3_passOneDay_f31 rfl dX3_passOneDay_44 ?_
        refine z_aload_n h dX3_passOneDay_47 rfl 3 rfl ?_
        refine z_getN h in_X3_passOneDay_X0 (3 + (i + 1)) (bp_atW (by omega)) rfl 1 (by decide) (by decide) rfl dX3_passOneDay_48 ?_
        refine z_topi (y := nI (knd B i)) (pasB_g.trans hk.2.2.1) ?_
        refine z_dup2 h dX3_passOneDay_51 rfl rfl ?_
        refine z_lald h 0 rfl (vp_in_nI (by omega) (by omega)) dX3_passOneDay_52 (v := (pasW B wf i) (knd B i)) (by rw [nI_clamp (by omega)]) ?_
        refine z_iload h dX3_passOneDay_53 4 rfl ?_
        refine z_i2l h dX3_passOneDay_55 ?_
        refine z_ladd h dX3_passOneDay_56 ?_
        refine z_last h (j := knd B i) 0 rfl (vp_in_nI (by omega) (by omega)) (by rw [nI_clamp (by omega)]) dX3_passOneDay_57 (wW' := ([(a 7, .inl (g.2.2.1, 3, .inr (.inl (vp_updL (pasW B wf i) (knd B i) (((pasW B wf i) (knd B i)) + (Int32.toInt64 (wstB (pasB B i i)))))))), (a 0, .inr (4, [.ref (a 1), .ref (a 4), .ref (a 5), .ref (a 6), .ref (a 7), .ref (a 8), .int (nI sn), .int (nI (dy + 1))])), (a 4, .inr (0, [.int mc, .ref ed, .int (nI n)]))] ++ bp g n ed cap ad (updB (pasB B i) i (filB ((pasB B i) i))))) rfl ?_
        refine z_iload_n h dX3_passOneDay_58 rfl 1 rfl ?_
        refine z_iload h dX3_passOneDay_59 4 rfl ?_
        have K_61 : Z p l e rmX3_passOneDay s m args below meth c Q A g 5 69 [(0, .ref (a 0)), (1, .int (pasO B i)), (2, .int (nI i)), (3, .ref (ad i)), (4, .int (wstB (pasB B i i)))] [.int (if (wstB (pasB B i i)) ≤ 0 then 0 else 1), .int (pasO B i)] ([(a 7, .inl (g.2.2.1, 3, .inr (.inl (vp_updL (pasW B wf i) (knd B i) (((pasW B wf i) (knd B i)) + (Int32.toInt64 (wstB (pasB B i i)))))))), (a 0, .inr (4, [.ref (a 1), .ref (a 4), .ref (a 5), .ref (a 6), .ref (a 7), .ref (a 8), .int (nI sn), .int (nI (dy + 1))])), (a 4, .inr (0, [.int mc, .ref ed, .int (nI n)]))] ++ bp g n ed cap ad (updB (pasB B i) i (filB ((pasB B i) i)))) [] 0 0 := by
          refine z_iadd h dX3_passOneDay_69 ?_
          refine z_istore_n h dX3_passOneDay_70 rfl (by decide) (lv' := [(0, .ref (a 0)), (1, .int ((pasO B i) + (if (wstB (pasB B i i)) ≤ 0 then 0 else 1))), (2, .int (nI i)), (3, .ref (ad i)), (4, .int (wstB (pasB B i i)))]) [1, 0, 2, 3, 4] rfl ?_
          refine z_iinc h (v := nI (i + 1)) dX3_passOneDay_71 (by decide) 2 rfl (by rw [show Int32.ofInt 1 = nI 1 from rfl, nI_add]) (lv' := [(0, .ref (a 0)), (1, .int ((pasO B i) + (if (wstB (pasB B i i)) ≤ 0 then 0 else 1))), (2, .int (nI (i + 1))), (3, .ref (ad i)), (4, .int (wstB (pasB B i i)))]) [1, 2, 0, 3, 4] rfl ?_
          refine z_goto h (tgt := 14) dX3_passOneDay_74 (by decide) ?_
          refine z_lv [0, 1, 2] (lv' := [(0, .ref (a 0)), (1, .int ((pasO B i) + (if (wstB (pasB B i i)) ≤ 0 then 0 else 1))), (2, .int (nI (i + 1)))]) rfl ?_
          exact ihL14 (i + 1)  (by omega) (by omega) 
        refine z_if_le h (tgt := 68) dX3_passOneDay_61 (by decide) (fun c_61 => ?_) (fun c_61 => ?_)
        · refine z_iconst h (v := 0) dX3_passOneDay_68 (by decide) ?_
          exact z_topi (if_pos c_61).symm K_61
        · refine z_iconst h (v := 1) dX3_passOneDay_64 (by decide) ?_
          refine z_goto h (tgt := 69) dX3_passOneDay_65 (by decide) ?_
          exact z_topi (if_neg c_61).symm K_61
  exact L14 (n + 1 - 0) 0  (by omega) (by omega) 
