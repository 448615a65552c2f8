theorem updB_eq {B : Nat → Nat → Int32} {i : Nat} {b : Nat → Int32} : updB B i b i = b := if_pos rfl
theorem pasB_g {B : Nat → Nat → Int32} {i : Nat} : updB (pasB B i) i (filB (pasB B i i)) i 1 = B i 1 := by
  rw [updB_eq]
  exact (pasB_01 B i i).2
theorem in_X3_passOneDay_X0 : ∀ w ∈ wsX00, w ∈ wsX3_passOneDay := by decide +kernel
theorem in_X3_passOneDay_X3 : ∀ w ∈ wsX30, w ∈ wsX3_passOneDay := by decide +kernel
theorem lk_X3_passOneDay_cl113 : Cond.classLink RX3 113 "RefusePlanner$Bin" ∈ wsX3_passOneDay := by decide +kernel
theorem lk_X3_passOneDay_f19 : Cond.fieldLink RX3 19 (TX3 1).1 (TX3 1).2.1 (TX3 1).2.2.1 ∈ wsX3_passOneDay := by decide +kernel
theorem lk_X3_passOneDay_f31 : Cond.fieldLink RX3 31 (TX3 4).1 (TX3 4).2.1 (TX3 4).2.2.1 ∈ wsX3_passOneDay := by decide +kernel
theorem lk_X3_passOneDay_f42 : Cond.fieldLink RX3 42 (TX3 7).1 (TX3 7).2.1 (TX3 7).2.2.1 ∈ wsX3_passOneDay := by decide +kernel
theorem at_X3_pass_52 : ∀ w ∈ (vx_atS RX3 52 "java/lang/IllegalStateException" ["java/lang/RuntimeException", "java/lang/Exception"]).filter goodWord, w ∈ wsX3_pass := by decide +kernel
theorem in_X3_pass_X3 : ∀ w ∈ wsX30, w ∈ wsX3_pass := by decide +kernel
theorem lk_X3_pass_cl48 : Cond.classLink RX3 48 "java/lang/IllegalStateException" ∈ wsX3_pass := by decide +kernel
theorem lk_X3_pass_f42 : Cond.fieldLink RX3 42 (TX3 7).1 (TX3 7).2.1 (TX3 7).2.2.1 ∈ wsX3_pass := by decide +kernel
theorem lk_X3_pass_in48 : Cond.initialized "java/lang/IllegalStateException" ∈ wsX3_pass := by decide +kernel
abbrev rmX3_passOneDay : Room := { frames := 3, cells := 0, slots := 0, locals := 64 }
set_option maxHeartbeats 4000000 in
set_option maxRecDepth 100000 in
theorem m_X3_passOneDay (l : Launch) (g : Gx) (a : Nat → Nat) (sn : Nat) (dy : Nat) (wf : Nat → Int64) (mc : Int32) (ed : Nat) (n : Nat) (cap : Nat) (ad : Nat → Nat) (B : Nat → Nat → Int32) (hn : n ≤ 16) (hc : n ≤ cap) (hcap : cap ≤ 26) (hdy : dy ≤ 399) (hb : BOK n B) (sz : Nat) : Met l yX3_passOneDay wsX3_passOneDay rmX3_passOneDay (PZ g [.ref (a 0)] sz ([(a 7, .inl (g.2.2.1, 3, .inr (.inl wf))), (a 0, .inr (4, [.ref (a 1), .ref (a 4), .ref (a 5), .ref (a 6), .ref (a 7), .ref (a 8), .int (nI sn), .int (nI dy)])), (a 4, .inr (0, [.int mc, .ref ed, .int (nI n)]))] ++ bp g n ed cap ad B) []) (va_Qi (fun (r : Int32) (_ : Unit) => r = pasO B n) (BZ g ([(a 7, .inl (g.2.2.1, 3, .inr (.inl wf))), (a 0, .inr (4, [.ref (a 1), .ref (a 4), .ref (a 5), .ref (a 6), .ref (a 7), .ref (a 8), .int (nI sn), .int (nI dy)])), (a 4, .inr (0, [.int mc, .ref ed, .int (nI n)]))] ++ bp g n ed cap ad B) sz (fun (u : Unit) => ([(a 7, .inl (g.2.2.1, 3, .inr (.inl (pasW B wf n)))), (a 0, .inr (4, [.ref (a 1), .ref (a 4), .ref (a 5), .ref (a 6), .ref (a 7), .ref (a 8), .int (nI sn), .int (nI (dy + 1))])), (a 4, .inr (0, [.int mc, .ref ed, .int (nI n)]))] ++ bp g n ed cap ad (pasB B n)))) (va_A ([(a 7, .inl (g.2.2.1, 3, .inr (.inl wf))), (a 0, .inr (4, [.ref (a 1), .ref (a 4), .ref (a 5), .ref (a 6), .ref (a 7), .ref (a 8), .int (nI sn), .int (nI dy)])), (a 4, .inr (0, [.int mc, .ref ed, .int (nI n)]))] ++ bp g n ed cap ad B) sz)) 0 0 (va_A ([(a 7, .inl (g.2.2.1, 3, .inr (.inl wf))), (a 0, .inr (4, [.ref (a 1), .ref (a 4), .ref (a 5), .ref (a 6), .ref (a 7), .ref (a 8), .int (nI sn), .int (nI dy)])), (a 4, .inr (0, [.int mc, .ref ed, .int (nI n)]))] ++ bp g n ed cap ad B) sz) := by
  refine z_open_i (cc := cX3_passOneDay) (maxL := 5) (ret := .int) (own := RX3) (by decide) rfl rfl (Nat.le_of_ble_eq_true rfl) ?_
  intro p e s m args below meth c Q h hnm fin
  generalize hAe : va_A ([(a 7, .inl (g.2.2.1, 3, .inr (.inl wf))), (a 0, .inr (4, [.ref (a 1), .ref (a 4), .ref (a 5), .ref (a 6), .ref (a 7), .ref (a 8), .int (nI sn), .int (nI dy)])), (a 4, .inr (0, [.int mc, .ref ed, .int (nI n)]))] ++ bp g n ed cap ad B) s.heap.size = A at h fin ⊢
  refine z_lve (lv' := [(0, .ref (a 0))]) rfl ?_
  refine z_aload_n h dX3_passOneDay_0 rfl 0 rfl ?_
  refine z_dup h dX3_passOneDay_1 rfl ?_
  refine z_get h in_X3_passOneDay_X3 1 rfl rfl 7 (by decide) lk_X3_passOneDay_f42 rfl dX3_passOneDay_2 ?_
  refine z_iconst h (v := 1) dX3_passOneDay_5 (by decide) ?_
  refine z_iadd h dX3_passOneDay_6 ?_
  refine z_topi (y := nI (dy + 1)) (nI_1 dy) ?_
  refine z_put h in_X3_passOneDay_X3 1 tyX3 tyX3_ok nmX3 rfl rfl 7 (by decide) lk_X3_passOneDay_f42 rfl rfl rfl (Nat.le_of_ble_eq_true rfl) dX3_passOneDay_7 (wW' := ([(a 7, .inl (g.2.2.1, 3, .inr (.inl wf))), (a 0, .inr (4, [.ref (a 1), .ref (a 4), .ref (a 5), .ref (a 6), .ref (a 7), .ref (a 8), .int (nI sn), .int (nI (dy + 1))])), (a 4, .inr (0, [.int mc, .ref ed, .int (nI n)]))] ++ bp g n ed cap ad B)) rfl ?_
  refine z_iconst h (v := 0) dX3_passOneDay_10 (by decide) ?_
  refine z_istore_n h dX3_passOneDay_11 rfl (by decide) (lv' := [(0, .ref (a 0)), (1, .int 0)]) [1, 0] rfl ?_
  refine z_iconst h (v := 0) dX3_passOneDay_12 (by decide) ?_
  refine z_istore_n h dX3_passOneDay_13 rfl (by decide) (lv' := [(0, .ref (a 0)), (1, .int 0), (2, .int 0)]) [1, 2, 0] rfl ?_
  have L14 : ∀ (L14n i : Nat) , i ≤ n → n < L14n + i → Z p l e rmX3_passOneDay s m args below meth c Q A g 5 14 [(0, .ref (a 0)), (1, .int (pasO B i)), (2, .int (nI i))] [] ([(a 7, .inl (g.2.2.1, 3, .inr (.inl (pasW B wf i)))), (a 0, .inr (4, [.ref (a 1), .ref (a 4), .ref (a 5), .ref (a 6), .ref (a 7), .ref (a 8), .int (nI sn), .int (nI (dy + 1))])), (a 4, .inr (0, [.int mc, .ref ed, .int (nI n)]))] ++ bp g n ed cap ad (pasB B i)) [] 0 0 := by
    intro L14n
    induction L14n with
    | zero => intro i  hi hL14 ; exact absurd hL14 (by omega)
    | succ L14n ihL14 =>
      intro i  hi hL14 
      refine z_iload_n h dX3_passOneDay_14 rfl 2 rfl ?_
      refine z_aload_n h dX3_passOneDay_15 rfl 0 rfl ?_
      refine z_get h in_X3_passOneDay_X3 1 rfl rfl 1 (by decide) lk_X3_passOneDay_f19 rfl dX3_passOneDay_16 ?_
      refine z_Vi h (As := []) (st := [.int (nI i)]) (fun sz => m_Jx4a65c_size_8abf5 l g (a 4) mc ed n  sz) (cwV 0 h.ts gX3_passOneDay_Jx4a65c_size_8abf5 rfl rfl rfl (by decide +kernel) ⟨Nat.le_of_ble_eq_true rfl, Nat.le_of_ble_eq_true rfl⟩) rfl [] [2] rfl rfl rfl rfl 2 rfl rfl rfl rfl (Nat.le_of_ble_eq_true rfl) ⟨(Nat.le_of_ble_eq_true rfl), (Nat.le_of_ble_eq_true rfl)⟩ (fun _ => (Nat.le_of_ble_eq_true rfl)) (wN := fun u => ([(a 7, .inl (g.2.2.1, 3, .inr (.inl (pasW B wf i)))), (a 0, .inr (4, [.ref (a 1), .ref (a 4), .ref (a 5), .ref (a 6), .ref (a 7), .ref (a 8), .int (nI sn), .int (nI (dy + 1))])), (a 4, .inr (0, [.int mc, .ref ed, .int (nI n)]))] ++ bp g n ed cap ad (pasB B i))) (fun _ => List.append_nil _) dX3_passOneDay_19 (fun r_19 u_19 h_19 => ?_)
      refine z_icmp_ge h (tgt := 77) dX3_passOneDay_22 (by decide) (fun c_22 => ?_) (fun c_22 => ?_)
      · have hin : i = n := by have := ge_t (a := i) (b := n) (by rw [← h_19]; exact c_22) (by omega) (by omega); omega
        subst hin
        refine z_iload_n h dX3_passOneDay_77 rfl 1 rfl ?_
        exact fin _ _ _ () _ _ _ _ dX3_passOneDay_78 rfl rfl rfl (Nat.le_of_ble_eq_true rfl) (Nat.le_of_ble_eq_true rfl)
      · have hi : i < n := ge_f (a := i) (b := n) (by rw [← h_19]; exact c_22) (by omega) (by omega)
        have hk := hb i hi
        refine z_aload_n h dX3_passOneDay_25 rfl 0 rfl ?_
        refine z_get h in_X3_passOneDay_X3 1 rfl rfl 1 (by decide) lk_X3_passOneDay_f19 rfl dX3_passOneDay_26 ?_
        refine z_iload_n h dX3_passOneDay_29 rfl 2 rfl ?_
        refine z_Vr h (As := [.int (nI i)]) (st := []) (fun sz => m_Jx4a65c_get_915e3 l g (a 4) mc ed n cap ad i (by omega) (by omega) (by omega) sz) (cwV 1 h.ts gX3_passOneDay_Jx4a65c_get_915e3 rfl rfl rfl (by decide +kernel) ⟨Nat.le_of_ble_eq_true rfl, Nat.le_of_ble_eq_true rfl⟩) rfl [] [2, 3] (lc rfl (lc (bp_elW (by omega)) rfl)) rfl rfl rfl 2 rfl rfl rfl rfl (Nat.le_of_ble_eq_true rfl) ⟨(Nat.le_of_ble_eq_true rfl), (Nat.le_of_ble_eq_true rfl)⟩ (fun _ => (Nat.le_of_ble_eq_true rfl)) (wN := fun u => ([(a 7, .inl (g.2.2.1, 3, .inr (.inl (pasW B wf i)))), (a 0, .inr (4, [.ref (a 1), .ref (a 4), .ref (a 5), .ref (a 6), .ref (a 7), .ref (a 8), .int (nI sn), .int (nI (dy + 1))])), (a 4, .inr (0, [.int mc, .ref ed, .int (nI n)]))] ++ bp g n ed cap ad (pasB B i))) (fun _ => List.append_nil _) dX3_passOneDay_30 (fun u_30 h_30 => ?_)
        refine z_cast h lk_X3_passOneDay_cl113 (3 + (i + 1)) (bp_atW (by omega)) rfl dX3_passOneDay_33 ?_
        refine z_astore_n h dX3_passOneDay_36 rfl (by decide) (lv' := [(0, .ref (a 0)), (1, .int (pasO B i)), (2, .int (nI i)), (3, .ref (ad i))]) [1, 2, 3, 0] rfl ?_
        refine z_aload_n h dX3_passOneDay_37 rfl 3 rfl ?_
        refine z_Vi h (As := []) (st := []) (fun sz => m_X0_fill l g (ad i) ((pasB B i) i)  sz) (cwV 0 h.ts gX3_passOneDay_X0_fill rfl rfl rfl (by decide +kernel) ⟨Nat.le_of_ble_eq_true rfl, Nat.le_of_ble_eq_true rfl⟩) rfl [(3 + (i + 1))] [] (lc (bp_atW (by omega)) rfl) (lc (bp_at (by omega)) rfl) (by simp [va_nd]; try omega) (by simp [va_nd]) (3 + (i + 1)) (bp_atW (by omega)) rfl rfl rfl (Nat.le_of_ble_eq_true rfl) ⟨(Nat.le_of_ble_eq_true rfl), (Nat.le_of_ble_eq_true rfl)⟩ (fun _ => (Nat.le_of_ble_eq_true rfl)) (wN := fun u => ([(a 7, .inl (g.2.2.1, 3, .inr (.inl (pasW B wf i)))), (a 0, .inr (4, [.ref (a 1), .ref (a 4), .ref (a 5), .ref (a 6), .ref (a 7), .ref (a 8), .int (nI sn), .int (nI (dy + 1))])), (a 4, .inr (0, [.int mc, .ref ed, .int (nI n)]))] ++ bp g n ed cap ad (updB (pasB B i) i (filB ((pasB B i) i))))) (fun _ => bp_put (by omega)) dX3_passOneDay_38 (fun r_38 u_38 h_38 => ?_)
        refine z_topi (y := wstB (pasB B i i)) h_38 ?_
        refine z_istore h dX3_passOneDay_41 (by decide) (lv' := [(0, .ref (a 0)), (1, .int (pasO B i)), (2, .int (nI i)), (3, .ref (ad i)), (4, .int (wstB (pasB B i i)))]) [1, 2, 3, 4, 0] rfl ?_
        refine z_aload_n h dX3_passOneDay_43 rfl 0 rfl ?_
        refine z_get h in_X3_passOneDay_X3 1 rfl rfl 4 (by decide) lk_X3_passOneDay_f31 rfl dX3_passOneDay_44 ?_
        refine z_aload_n h dX3_passOneDay_47 rfl 3 rfl ?_
        refine z_getN h in_X3_passOneDay_X0 (3 + (i + 1)) (bp_atW (by omega)) rfl 1 (by decide) (by decide) rfl dX3_passOneDay_48 ?_
        refine z_topi (y := nI (knd B i)) (pasB_g.trans hk.2.2.1) ?_
        refine z_dup2 h dX3_passOneDay_51 rfl rfl ?_
        refine z_lald h 0 rfl (vp_in_nI (by omega) (by omega)) dX3_passOneDay_52 (v := (pasW B wf i) (knd B i)) (by rw [nI_clamp (by omega)]) ?_
        refine z_iload h dX3_passOneDay_53 4 rfl ?_
        refine z_i2l h dX3_passOneDay_55 ?_
        refine z_ladd h dX3_passOneDay_56 ?_
        refine z_last h (j := knd B i) 0 rfl (vp_in_nI (by omega) (by omega)) (by rw [nI_clamp (by omega)]) dX3_passOneDay_57 (wW' := ([(a 7, .inl (g.2.2.1, 3, .inr (.inl (vp_updL (pasW B wf i) (knd B i) (((pasW B wf i) (knd B i)) + (Int32.toInt64 (wstB (pasB B i i)))))))), (a 0, .inr (4, [.ref (a 1), .ref (a 4), .ref (a 5), .ref (a 6), .ref (a 7), .ref (a 8), .int (nI sn), .int (nI (dy + 1))])), (a 4, .inr (0, [.int mc, .ref ed, .int (nI n)]))] ++ bp g n ed cap ad (updB (pasB B i) i (filB ((pasB B i) i))))) rfl ?_
        refine z_iload_n h dX3_passOneDay_58 rfl 1 rfl ?_
        refine z_iload h dX3_passOneDay_59 4 rfl ?_
        have K_61 : Z p l e rmX3_passOneDay s m args below meth c Q A g 5 69 [(0, .ref (a 0)), (1, .int (pasO B i)), (2, .int (nI i)), (3, .ref (ad i)), (4, .int (wstB (pasB B i i)))] [.int (if (wstB (pasB B i i)) ≤ 0 then 0 else 1), .int (pasO B i)] ([(a 7, .inl (g.2.2.1, 3, .inr (.inl (vp_updL (pasW B wf i) (knd B i) (((pasW B wf i) (knd B i)) + (Int32.toInt64 (wstB (pasB B i i)))))))), (a 0, .inr (4, [.ref (a 1), .ref (a 4), .ref (a 5), .ref (a 6), .ref (a 7), .ref (a 8), .int (nI sn), .int (nI (dy + 1))])), (a 4, .inr (0, [.int mc, .ref ed, .int (nI n)]))] ++ bp g n ed cap ad (updB (pasB B i) i (filB ((pasB B i) i)))) [] 0 0 := by
          refine z_iadd h dX3_passOneDay_69 ?_
          refine z_istore_n h dX3_passOneDay_70 rfl (by decide) (lv' := [(0, .ref (a 0)), (1, .int ((pasO B i) + (if (wstB (pasB B i i)) ≤ 0 then 0 else 1))), (2, .int (nI i)), (3, .ref (ad i)), (4, .int (wstB (pasB B i i)))]) [1, 0, 2, 3, 4] rfl ?_
          refine z_iinc h (v := nI (i + 1)) dX3_passOneDay_71 (by decide) 2 rfl (by rw [show Int32.ofInt 1 = nI 1 from rfl, nI_add]) (lv' := [(0, .ref (a 0)), (1, .int ((pasO B i) + (if (wstB (pasB B i i)) ≤ 0 then 0 else 1))), (2, .int (nI (i + 1))), (3, .ref (ad i)), (4, .int (wstB (pasB B i i)))]) [1, 2, 0, 3, 4] rfl ?_
          refine z_goto h (tgt := 14) dX3_passOneDay_74 (by decide) ?_
          refine z_lv [0, 1, 2] (lv' := [(0, .ref (a 0)), (1, .int ((pasO B i) + (if (wstB (pasB B i i)) ≤ 0 then 0 else 1))), (2, .int (nI (i + 1)))]) rfl ?_
          exact ihL14 (i + 1)  (by omega) (by omega) 
        refine z_if_le h (tgt := 68) dX3_passOneDay_61 (by decide) (fun c_61 => ?_) (fun c_61 => ?_)
        · refine z_iconst h (v := 0) dX3_passOneDay_68 (by decide) ?_
          exact z_topi (if_pos c_61).symm K_61
        · refine z_iconst h (v := 1) dX3_passOneDay_64 (by decide) ?_
          refine z_goto h (tgt := 69) dX3_passOneDay_65 (by decide) ?_
          exact z_topi (if_neg c_61).symm K_61
  exact L14 (n + 1 - 0) 0  (by omega) (by omega) 
abbrev rmX3_pass : Room := { frames := 7, cells := 62, slots := 400, locals := 113 }
set_option maxHeartbeats 4000000 in
set_option maxRecDepth 100000 in
theorem m_X3_pass (l : Launch) (hlf : l.stackTraces = false) (g : Gx) (a : Nat → Nat) (sn : Nat) (dy : Nat) (wf : Nat → Int64) (mc : Int32) (ed : Nat) (n : Nat) (cap : Nat) (ad : Nat → Nat) (B : Nat → Nat → Int32) (x : Int32) (hn : n ≤ 16) (hc : n ≤ cap) (hcap : cap ≤ 26) (hdy : dy ≤ 399) (hb : BOK n B) (sz : Nat) : vx_Met l yX3_pass wsX3_pass rmX3_pass (PX SL3 g [.ref (a 0), .int x] sz ([(a 7, .inl (g.2.2.1, 3, .inr (.inl wf))), (a 0, .inr (4, [.ref (a 1), .ref (a 4), .ref (a 5), .ref (a 6), .ref (a 7), .ref (a 8), .int (nI sn), .int (nI dy)])), (a 4, .inr (0, [.int mc, .ref ed, .int (nI n)]))] ++ bp g n ed cap ad B) []) (va_Qi (fun (r : Int32) (_ : Unit) => kPass dy x = 0 ∧ r = psO B n x.toNatClampNeg) (BZ g ([(a 7, .inl (g.2.2.1, 3, .inr (.inl wf))), (a 0, .inr (4, [.ref (a 1), .ref (a 4), .ref (a 5), .ref (a 6), .ref (a 7), .ref (a 8), .int (nI sn), .int (nI dy)])), (a 4, .inr (0, [.int mc, .ref ed, .int (nI n)]))] ++ bp g n ed cap ad B) sz (fun (u : Unit) => ([(a 7, .inl (g.2.2.1, 3, .inr (.inl (psW B wf n x.toNatClampNeg)))), (a 0, .inr (4, [.ref (a 1), .ref (a 4), .ref (a 5), .ref (a 6), .ref (a 7), .ref (a 8), .int (nI sn), .int (nI (dy + x.toNatClampNeg))])), (a 4, .inr (0, [.int mc, .ref ed, .int (nI n)]))] ++ bp g n ed cap ad (psB B n x.toNatClampNeg)))) (va_A ([(a 7, .inl (g.2.2.1, 3, .inr (.inl wf))), (a 0, .inr (4, [.ref (a 1), .ref (a 4), .ref (a 5), .ref (a 6), .ref (a 7), .ref (a 8), .int (nI sn), .int (nI dy)])), (a 4, .inr (0, [.int mc, .ref ed, .int (nI n)]))] ++ bp g n ed cap ad B) sz)) (XZ (pe3 eA eS eS (kPass dy x)) sz) 62 400 (va_A ([(a 7, .inl (g.2.2.1, 3, .inr (.inl wf))), (a 0, .inr (4, [.ref (a 1), .ref (a 4), .ref (a 5), .ref (a 6), .ref (a 7), .ref (a 8), .int (nI sn), .int (nI dy)])), (a 4, .inr (0, [.int mc, .ref ed, .int (nI n)]))] ++ bp g n ed cap ad B) sz) := by
  refine x_open0_i (cc := cX3_pass) (maxL := 4) (ret := .int) (own := RX3) (by decide) rfl rfl (Nat.le_of_ble_eq_true rfl) hlf rfl ?_
  intro p e s m args below meth c Q h hT hE fin thr thw
  refine z_lve (lv' := [(0, .ref (a 0)), (1, .int x)]) rfl ?_
  refine z_aload_n h dX3_pass_0 rfl 0 rfl ?_
  refine z_iload_n h dX3_pass_1 rfl 1 rfl ?_
  refine z_iconst h (v := 1) dX3_pass_2 (by decide) ?_
  refine z_bipush h (v := 60) dX3_pass_3 (by decide) ?_
  refine x_Vv h (As := [.int x, .int 1, .int 60]) (st := []) hT (fun q hq => hq) (fun sz => m_X3_checkRange l hlf g a x 1 60  sz) (cwV 3 h.ts gX3_pass_X3_checkRange rfl rfl rfl (by decide +kernel) ⟨Nat.le_of_ble_eq_true rfl, Nat.le_of_ble_eq_true rfl⟩) rfl [] [] rfl rfl rfl rfl 1 rfl rfl rfl rfl (Nat.le_of_ble_eq_true rfl) ⟨(Nat.le_of_ble_eq_true rfl), (Nat.le_of_ble_eq_true rfl)⟩ (fun _ => (Nat.le_of_ble_eq_true rfl)) (wN := fun u => []) (fun _ => rfl) dX3_pass_5 (fun E hE => thr E _ _ _ _ _ (by rw [hE.2]; exact pe3_1 (kPass_1 hE.1)) (Nat.le_of_ble_eq_true rfl) (Nat.le_of_ble_eq_true rfl)) (fun u_5 h_5 => ?_)
  have hx := h_5
  obtain ⟨t, ht1, ht2, rfl⟩ := okR_nat (a := 1) (b := 60) h_5 (by omega)
  have hcl : (nI t).toNatClampNeg = t := nI_clamp (by omega)
  refine z_aload_n h dX3_pass_8 rfl 0 rfl ?_
  refine z_get h in_X3_pass_X3 1 rfl rfl 7 (by decide) lk_X3_pass_f42 rfl dX3_pass_9 ?_
  refine z_iload_n h dX3_pass_12 rfl 1 rfl ?_
  refine z_iadd h dX3_pass_13 ?_
  refine z_topi (y := nI (dy + t)) (by rw [nI_add]) ?_
  refine z_sipush h (v := 400) dX3_pass_14 (by decide) ?_
  refine z_icmp_lt h (tgt := 30) dX3_pass_17 (by decide) (fun c_17 => ?_) (fun c_17 => ?_)
  · have hlt : dy + t < 400 := (nI_ltI (b := 400) (by omega) (by omega)).mp c_17
    refine z_arm0 ?_
    have h2 := h.arm (B := va_A ([(a 7, .inl (g.2.2.1, 3, .inr (.inl wf))), (a 0, .inr (4, [.ref (a 1), .ref (a 4), .ref (a 5), .ref (a 6), .ref (a 7), .ref (a 8), .int (nI sn), .int (nI dy)])), (a 4, .inr (0, [.int mc, .ref ed, .int (nI n)]))] ++ bp g n ed cap ad B) s.heap.size) (fun q hq => Or.inr hq)
    generalize hAe : va_A ([(a 7, .inl (g.2.2.1, 3, .inr (.inl wf))), (a 0, .inr (4, [.ref (a 1), .ref (a 4), .ref (a 5), .ref (a 6), .ref (a 7), .ref (a 8), .int (nI sn), .int (nI dy)])), (a 4, .inr (0, [.int mc, .ref ed, .int (nI n)]))] ++ bp g n ed cap ad B) s.heap.size = A at h2 hE fin ⊢
    refine z_iconst h2 (v := 0) dX3_pass_30 (by decide) ?_
    refine z_istore_n h2 dX3_pass_31 rfl (by decide) (lv' := [(0, .ref (a 0)), (1, .int (nI t)), (2, .int 0)]) [1, 2, 0] rfl ?_
    refine z_iconst h2 (v := 0) dX3_pass_32 (by decide) ?_
    refine z_istore_n h2 dX3_pass_33 rfl (by decide) (lv' := [(0, .ref (a 0)), (1, .int (nI t)), (2, .int 0), (3, .int 0)]) [1, 2, 3, 0] rfl ?_
    have L34 : ∀ (L34n i : Nat) , i ≤ t → t < L34n + i → Z p l e rmX3_pass s m args below meth c Q A g 4 34 [(0, .ref (a 0)), (1, .int (nI t)), (2, .int (psO B n i)), (3, .int (nI i))] [] ([(a 7, .inl (g.2.2.1, 3, .inr (.inl (psW B wf n i)))), (a 0, .inr (4, [.ref (a 1), .ref (a 4), .ref (a 5), .ref (a 6), .ref (a 7), .ref (a 8), .int (nI sn), .int (nI (dy + i))])), (a 4, .inr (0, [.int mc, .ref ed, .int (nI n)]))] ++ bp g n ed cap ad (psB B n i)) [] 1 6 := by
      intro L34n
      induction L34n with
      | zero => intro i  hi hL34 ; exact absurd hL34 (by omega)
      | succ L34n ihL34 =>
        intro i  hi hL34 
        refine z_iload_n h2 dX3_pass_34 rfl 3 rfl ?_
        refine z_iload_n h2 dX3_pass_35 rfl 1 rfl ?_
        refine z_icmp_ge h2 (tgt := 52) dX3_pass_36 (by decide) (fun c_36 => ?_) (fun c_36 => ?_)
        · have hit : i = t := by have := ge_t (a := i) (b := t) c_36 (by omega) (by omega); omega
          subst hit
          refine z_iload_n h2 dX3_pass_52 rfl 2 rfl ?_
          exact fin _ _ _ () _ _ _ _ dX3_pass_53 rfl ⟨kPass_0 hx (by rw [hcl]; exact hlt), by rw [hcl]⟩ (by rw [hcl]) (Nat.le_of_ble_eq_true rfl) (Nat.le_of_ble_eq_true rfl)
        · have hi : i < t := ge_f (a := i) (b := t) c_36 (by omega) (by omega)
          refine z_iload_n h2 dX3_pass_39 rfl 2 rfl ?_
          refine z_aload_n h2 dX3_pass_40 rfl 0 rfl ?_
          refine z_Yi h2 (As := []) (st := [.int (psO B n i)]) (Y := []) (fun sz => m_X3_passOneDay l g a sn (dy + i) (psW B wf n i) mc ed n cap ad (psB B n i) hn hc hcap (by omega) (hb.ps i) sz) (cwV 0 h2.ts gX3_pass_X3_passOneDay rfl rfl rfl (by decide +kernel) ⟨Nat.le_of_ble_eq_true rfl, Nat.le_of_ble_eq_true rfl⟩) rfl rfl 1 rfl rfl rfl rfl (Nat.le_of_ble_eq_true rfl) ⟨(Nat.le_of_ble_eq_true rfl), (Nat.le_of_ble_eq_true rfl)⟩ (wN := fun u => ([(a 7, .inl (g.2.2.1, 3, .inr (.inl (pasW (psB B n i) (psW B wf n i) n)))), (a 0, .inr (4, [.ref (a 1), .ref (a 4), .ref (a 5), .ref (a 6), .ref (a 7), .ref (a 8), .int (nI sn), .int (nI ((dy + i) + 1))])), (a 4, .inr (0, [.int mc, .ref ed, .int (nI n)]))] ++ bp g n ed cap ad (pasB (psB B n i) n))) (fun _ => rfl) dX3_pass_41 (fun r_41 u_41 h_41 => ?_)
          refine z_topi (y := pasO (psB B n i) n) h_41 ?_
          refine z_iadd h2 dX3_pass_44 ?_
          refine z_istore_n h2 dX3_pass_45 rfl (by decide) (lv' := [(0, .ref (a 0)), (1, .int (nI t)), (2, .int ((psO B n i) + (pasO (psB B n i) n))), (3, .int (nI i))]) [1, 2, 0, 3] rfl ?_
          refine z_iinc h2 (v := nI (i + 1)) dX3_pass_46 (by decide) 3 rfl (by rw [show Int32.ofInt 1 = nI 1 from rfl, nI_add]) (lv' := [(0, .ref (a 0)), (1, .int (nI t)), (2, .int ((psO B n i) + (pasO (psB B n i) n))), (3, .int (nI (i + 1)))]) [1, 2, 3, 0] rfl ?_
          refine z_goto h2 (tgt := 34) dX3_pass_49 (by decide) ?_
          exact ihL34 (i + 1)  (by omega) (by omega) 
    exact L34 (t + 1 - 0) 0  (by omega) (by omega) 
  · have hge : ¬ dy + t < 400 := fun q => c_17 ((nI_ltI (b := 400) (by omega) (by omega)).mpr q)
    exact thw 20 _ _ _ _ "java/lang/IllegalStateException" "it would be later than day 399" ["java/lang/RuntimeException", "java/lang/Exception"] 48 101 52 (by decide +kernel) fi_exn lk_X3_pass_cl48 lk_X3_pass_in48 (by decide) at_X3_pass_52 ng_52 (by decide) og_52_48 dX3_pass_20 dX3_pass_23 dX3_pass_24 dX3_pass_26 dX3_pass_29 (Nat.le_of_ble_eq_true rfl) (Nat.le_of_ble_eq_true rfl) (Nat.le_of_ble_eq_true rfl) (Nat.le_of_ble_eq_true rfl) (pe3_2 (kPass_2 hx (by rw [hcl]; exact hge))) (Nat.le_of_ble_eq_true rfl) (Nat.le_of_ble_eq_true rfl)
