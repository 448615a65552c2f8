def nwB (x k z v d : Int32) : Nat → Int32 := fun j => if j = 0 then x else if j = 1 then k else if j = 2 then z else if j = 3 then v else if j = 5 then z / 2 else if j = 6 then d else 0
def miB (f : Nat → Int32) (x : Nat) : Nat → Nat → Int32
  | 0 => f
  | y + 1 => upd (miB f x y) (x * 10 + y) (if nI x = nI y then 0 else 30)
def miA : Nat → Nat → Int32
  | 0 => fun _ => 0
  | x + 1 => miB (miA x) x 10
theorem in_Jx4a65c_add_9ea2d_Jx4a65c : ∀ w ∈ wsJx4a65c0, w ∈ wsJx4a65c_add_9ea2d := by decide +kernel
theorem lk_Jx4a65c_add_9ea2d_f48 : Cond.fieldLink RJx4a65c 48 (TJx4a65c 2).1 (TJx4a65c 2).2.1 (TJx4a65c 2).2.2.1 ∈ wsJx4a65c_add_9ea2d := by decide +kernel
theorem lk_Jx4a65c_add_9ea2d_f63 : Cond.fieldLink RJx4a65c 63 "java/util/ArrayList" (TJx4a65c 0).2.1 (TJx4a65c 0).2.2.1 ∈ wsJx4a65c_add_9ea2d := by decide +kernel
theorem lk_Jx4a65c_add_9ea2d_f9 : Cond.fieldLink RJx4a65c 9 (TJx4a65c 1).1 (TJx4a65c 1).2.1 (TJx4a65c 1).2.2.1 ∈ wsJx4a65c_add_9ea2d := by decide +kernel
theorem lk_Jx4a65c_add_9ea2d_sf63 : Cond.sameField "java/util/ArrayList" (TJx4a65c 0).1 (TJx4a65c 0).2.1 (TJx4a65c 0).2.2.1 ∈ wsJx4a65c_add_9ea2d := by decide +kernel
theorem at_X3_addBin_100 : ∀ w ∈ (vx_atS RX3 100 "java/lang/IndexOutOfBoundsException" ["java/lang/RuntimeException", "java/lang/Exception"]).filter goodWord, w ∈ wsX3_addBin := by decide +kernel
theorem at_X3_addBin_52 : ∀ w ∈ (vx_atS RX3 52 "java/lang/IllegalStateException" ["java/lang/RuntimeException", "java/lang/Exception"]).filter goodWord, w ∈ wsX3_addBin := by decide +kernel
theorem in_X3_addBin_X0 : ∀ w ∈ wsX00, w ∈ wsX3_addBin := by decide +kernel
theorem in_X3_addBin_X3 : ∀ w ∈ wsX30, w ∈ wsX3_addBin := by decide +kernel
theorem lk_X3_addBin_cl113 : Cond.classLink RX3 113 "RefusePlanner$Bin" ∈ wsX3_addBin := by decide +kernel
theorem lk_X3_addBin_cl48 : Cond.classLink RX3 48 "java/lang/IllegalStateException" ∈ wsX3_addBin := by decide +kernel
theorem lk_X3_addBin_cl96 : Cond.classLink RX3 96 "java/lang/IndexOutOfBoundsException" ∈ wsX3_addBin := by decide +kernel
theorem lk_X3_addBin_f19 : Cond.fieldLink RX3 19 (TX3 1).1 (TX3 1).2.1 (TX3 1).2.2.1 ∈ wsX3_addBin := by decide +kernel
theorem lk_X3_addBin_f42 : Cond.fieldLink RX3 42 (TX3 7).1 (TX3 7).2.1 (TX3 7).2.2.1 ∈ wsX3_addBin := by decide +kernel
theorem lk_X3_addBin_imX0_init : Cond.instanceMethod yX0_init ∈ wsX3_addBin := by decide +kernel
theorem lk_X3_addBin_in48 : Cond.initialized "java/lang/IllegalStateException" ∈ wsX3_addBin := by decide +kernel
theorem lk_X3_addBin_in96 : Cond.initialized "java/lang/IndexOutOfBoundsException" ∈ wsX3_addBin := by decide +kernel
theorem lk_X3_addBin_iniX0 : Cond.initialized "RefusePlanner$Bin" ∈ wsX3_addBin := by decide +kernel
theorem lk_X3_addBin_iniX0_init : Cond.initialized RX0 ∈ wsX3_addBin := by decide +kernel
theorem lk_X3_addBin_isX0 : Cond.instantiable "RefusePlanner$Bin" 10 ∈ wsX3_addBin := by decide +kernel
theorem lk_X3_addBin_m115 : Cond.methodLink RX3 115 yX0_init ∈ wsX3_addBin := by decide +kernel
theorem ac_X1_init_I : Cond.arrayClass (newarray.typeOf .int) ∈ wsX1_init := by decide +kernel
theorem in_X1_init_X1 : ∀ w ∈ wsX10, w ∈ wsX1_init := by decide +kernel
theorem lk_X1_init_f15 : Cond.fieldLink RX1 15 (TX1 1).1 (TX1 1).2.1 (TX1 1).2.2.1 ∈ wsX1_init := by decide +kernel
theorem lk_X1_init_f18 : Cond.fieldLink RX1 18 (TX1 2).1 (TX1 2).2.1 (TX1 2).2.2.1 ∈ wsX1_init := by decide +kernel
theorem lk_X1_init_f9 : Cond.fieldLink RX1 9 (TX1 0).1 (TX1 0).2.1 (TX1 0).2.2.1 ∈ wsX1_init := by decide +kernel
theorem lk_X1_init_m3 : Cond.methodLink RX1 3 objectInit ∈ wsX1_init := by decide +kernel
theorem lk_X1_init_oc : Cond.code objectInit ⟨#[0xb1]⟩ 1 none ∈ wsX1_init := by decide +kernel
theorem lk_X1_init_oi : Cond.instanceMethod objectInit ∈ wsX1_init := by decide +kernel
theorem lk_Jxa1e45_init_da8c8_m1 : Cond.methodLink RJxa1e45 1 objectInit ∈ wsJxa1e45_init_da8c8 := by decide +kernel
theorem lk_Jxa1e45_init_da8c8_oc : Cond.code objectInit ⟨#[0xb1]⟩ 1 none ∈ wsJxa1e45_init_da8c8 := by decide +kernel
theorem lk_Jxa1e45_init_da8c8_oi : Cond.instanceMethod objectInit ∈ wsJxa1e45_init_da8c8 := by decide +kernel
theorem in_Jxc12de_init_da8c8_Jx4a65c : ∀ w ∈ wsJx4a65c0, w ∈ wsJxc12de_init_da8c8 := by decide +kernel
theorem lk_Jxc12de_init_da8c8_f7 : Cond.fieldLink RJxc12de 7 (TJx4a65c 0).1 (TJx4a65c 0).2.1 (TJx4a65c 0).2.2.1 ∈ wsJxc12de_init_da8c8 := by decide +kernel
theorem lk_Jxc12de_init_da8c8_imJxa1e45_init_da8c8 : Cond.instanceMethod yJxa1e45_init_da8c8 ∈ wsJxc12de_init_da8c8 := by decide +kernel
theorem lk_Jxc12de_init_da8c8_iniJxa1e45_init_da8c8 : Cond.initialized RJxa1e45 ∈ wsJxc12de_init_da8c8 := by decide +kernel
theorem lk_Jxc12de_init_da8c8_m1 : Cond.methodLink RJxc12de 1 yJxa1e45_init_da8c8 ∈ wsJxc12de_init_da8c8 := by decide +kernel
theorem in_Jx4a65c_init_da8c8_Jx4a65c : ∀ w ∈ wsJx4a65c0, w ∈ wsJx4a65c_init_da8c8 := by decide +kernel
theorem lk_Jx4a65c_init_da8c8_f39 : Cond.fieldLink RJx4a65c 39 "java/util/ArrayList" "DEFAULTCAPACITY_EMPTY_ELEMENTDATA" "[Ljava/lang/Object;" ∈ wsJx4a65c_init_da8c8 := by decide +kernel
theorem lk_Jx4a65c_init_da8c8_f9 : Cond.fieldLink RJx4a65c 9 (TJx4a65c 1).1 (TJx4a65c 1).2.1 (TJx4a65c 1).2.2.1 ∈ wsJx4a65c_init_da8c8 := by decide +kernel
theorem lk_Jx4a65c_init_da8c8_imJxc12de_init_da8c8 : Cond.instanceMethod yJxc12de_init_da8c8 ∈ wsJx4a65c_init_da8c8 := by decide +kernel
theorem lk_Jx4a65c_init_da8c8_iniJxc12de_init_da8c8 : Cond.initialized RJxc12de ∈ wsJx4a65c_init_da8c8 := by decide +kernel
theorem lk_Jx4a65c_init_da8c8_m1 : Cond.methodLink RJx4a65c 1 yJxc12de_init_da8c8 ∈ wsJx4a65c_init_da8c8 := by decide +kernel
theorem ac_X3_init_I : Cond.arrayClass (newarray.typeOf .int) ∈ wsX3_init := by decide +kernel
theorem ac_X3_init_J : Cond.arrayClass (newarray.typeOf .long) ∈ wsX3_init := by decide +kernel
theorem ac_X3_init_Z : Cond.arrayClass (newarray.typeOf .boolean) ∈ wsX3_init := by decide +kernel
theorem in_X3_init_Jx4a65c : ∀ w ∈ wsJx4a65c0, w ∈ wsX3_init := by decide +kernel
theorem in_X3_init_X1 : ∀ w ∈ wsX10, w ∈ wsX3_init := by decide +kernel
theorem in_X3_init_X3 : ∀ w ∈ wsX30, w ∈ wsX3_init := by decide +kernel
theorem lk_X3_init_cl16 : Cond.classLink RX3 16 RJx4a65c ∈ wsX3_init := by decide +kernel
theorem lk_X3_init_cl9 : Cond.classLink RX3 9 RX1 ∈ wsX3_init := by decide +kernel
theorem lk_X3_init_f12 : Cond.fieldLink RX3 12 (TX3 0).1 (TX3 0).2.1 (TX3 0).2.2.1 ∈ wsX3_init := by decide +kernel
theorem lk_X3_init_f19 : Cond.fieldLink RX3 19 (TX3 1).1 (TX3 1).2.1 (TX3 1).2.2.1 ∈ wsX3_init := by decide +kernel
theorem lk_X3_init_f23 : Cond.fieldLink RX3 23 (TX3 2).1 (TX3 2).2.1 (TX3 2).2.2.1 ∈ wsX3_init := by decide +kernel
theorem lk_X3_init_f27 : Cond.fieldLink RX3 27 (TX3 3).1 (TX3 3).2.1 (TX3 3).2.2.1 ∈ wsX3_init := by decide +kernel
theorem lk_X3_init_f31 : Cond.fieldLink RX3 31 (TX3 4).1 (TX3 4).2.1 (TX3 4).2.2.1 ∈ wsX3_init := by decide +kernel
theorem lk_X3_init_f34 : Cond.fieldLink RX3 34 (TX3 5).1 (TX3 5).2.1 (TX3 5).2.2.1 ∈ wsX3_init := by decide +kernel
theorem lk_X3_init_f38 : Cond.fieldLink RX3 38 (TX3 6).1 (TX3 6).2.1 (TX3 6).2.2.1 ∈ wsX3_init := by decide +kernel
theorem lk_X3_init_f42 : Cond.fieldLink RX3 42 (TX3 7).1 (TX3 7).2.1 (TX3 7).2.2.1 ∈ wsX3_init := by decide +kernel
theorem lk_X3_init_imJx4a65c_init_da8c8 : Cond.instanceMethod yJx4a65c_init_da8c8 ∈ wsX3_init := by decide +kernel
theorem lk_X3_init_imX1_init : Cond.instanceMethod yX1_init ∈ wsX3_init := by decide +kernel
theorem lk_X3_init_iniJx4a65c : Cond.initialized RJx4a65c ∈ wsX3_init := by decide +kernel
theorem lk_X3_init_iniJx4a65c_init_da8c8 : Cond.initialized RJx4a65c ∈ wsX3_init := by decide +kernel
theorem lk_X3_init_iniX1 : Cond.initialized RX1 ∈ wsX3_init := by decide +kernel
theorem lk_X3_init_iniX1_init : Cond.initialized RX1 ∈ wsX3_init := by decide +kernel
theorem lk_X3_init_isJx4a65c : Cond.instantiable RJx4a65c 3 ∈ wsX3_init := by decide +kernel
theorem lk_X3_init_isX1 : Cond.instantiable RX1 3 ∈ wsX3_init := by decide +kernel
theorem lk_X3_init_m11 : Cond.methodLink RX3 11 yX1_init ∈ wsX3_init := by decide +kernel
theorem lk_X3_init_m18 : Cond.methodLink RX3 18 yJx4a65c_init_da8c8 ∈ wsX3_init := by decide +kernel
theorem lk_X3_init_m3 : Cond.methodLink RX3 3 objectInit ∈ wsX3_init := by decide +kernel
theorem lk_X3_init_oc : Cond.code objectInit ⟨#[0xb1]⟩ 1 none ∈ wsX3_init := by decide +kernel
theorem lk_X3_init_oi : Cond.instanceMethod objectInit ∈ wsX3_init := by decide +kernel
abbrev rmaddE : Room := { frames := 6, cells := 1, slots := 30, locals := 220 }
set_option maxHeartbeats 4000000 in
set_option maxRecDepth 100000 in
theorem m_addE (l : Launch) (g : Gx) (a : Nat → Nat) (pl : Nat) (hf : Nat → Int32) (rf : Nat → Int32) (wf : Nat → Int64) (sn : Nat) (dy : Nat) (mc : Int32) (ed : Nat) (n : Nat) (cap : Nat) (ad : Nat → Nat) (B : Nat → Nat → Int32) (bn : Nat) (b : Nat → Int32) (hn : n ≤ 15) (hc : n ≤ cap) (hcap : cap ≤ 26) (hz : n = 0 → ed = g.2.2.2.2.2.1) (sz : Nat) : Met l yJx4a65c_add_9ea2d wsJx4a65c_add_9ea2d rmaddE (PE g [.ref (a 4), .ref bn] sz ([(bn, .inr (1, [.int (b 0), .int (b 1), .int (b 2), .int (b 3), .int (b 4), .int (b 5), .int (b 6), .int (b 7), .int (b 8), .int (b 9)])), (a 1, .inr (2, [.ref (a 2), .ref (a 3), .int (nI pl)])), (a 5, .inl (g.2.2.2.1, 400, .inl hf)), (a 8, .inl (g.2.1, 16, .inl rf)), (a 7, .inl (g.2.2.1, 3, .inr (.inl wf))), (a 0, .inr (4, [.ref (a 1), .ref (a 4), .ref (a 5), .ref (a 6), .ref (a 7), .ref (a 8), .int (nI sn), .int (nI dy)])), (a 4, .inr (0, [.int mc, .ref ed, .int (nI n)]))] ++ bp g n ed cap ad B) []) (va_Qi (fun (r : Int32) (u : Nat × Nat) => r = 1 ∧ n + 1 ≤ u.2 ∧ u.2 ≤ 26) (BZ g ([(bn, .inr (1, [.int (b 0), .int (b 1), .int (b 2), .int (b 3), .int (b 4), .int (b 5), .int (b 6), .int (b 7), .int (b 8), .int (b 9)])), (a 1, .inr (2, [.ref (a 2), .ref (a 3), .int (nI pl)])), (a 5, .inl (g.2.2.2.1, 400, .inl hf)), (a 8, .inl (g.2.1, 16, .inl rf)), (a 7, .inl (g.2.2.1, 3, .inr (.inl wf))), (a 0, .inr (4, [.ref (a 1), .ref (a 4), .ref (a 5), .ref (a 6), .ref (a 7), .ref (a 8), .int (nI sn), .int (nI dy)])), (a 4, .inr (0, [.int mc, .ref ed, .int (nI n)]))] ++ bp g n ed cap ad B) sz (fun (u : Nat × Nat) => ([(a 1, .inr (2, [.ref (a 2), .ref (a 3), .int (nI pl)])), (a 5, .inl (g.2.2.2.1, 400, .inl hf)), (a 8, .inl (g.2.1, 16, .inl rf)), (a 7, .inl (g.2.2.1, 3, .inr (.inl wf))), (a 0, .inr (4, [.ref (a 1), .ref (a 4), .ref (a 5), .ref (a 6), .ref (a 7), .ref (a 8), .int (nI sn), .int (nI dy)])), (a 4, .inr (0, [.int (mc + 1), .ref u.1, .int (nI (n + 1))]))] ++ bp g (n + 1) u.1 u.2 (ins ad n bn) (ins B n b)))) (va_A ([(bn, .inr (1, [.int (b 0), .int (b 1), .int (b 2), .int (b 3), .int (b 4), .int (b 5), .int (b 6), .int (b 7), .int (b 8), .int (b 9)])), (a 1, .inr (2, [.ref (a 2), .ref (a 3), .int (nI pl)])), (a 5, .inl (g.2.2.2.1, 400, .inl hf)), (a 8, .inl (g.2.1, 16, .inl rf)), (a 7, .inl (g.2.2.1, 3, .inr (.inl wf))), (a 0, .inr (4, [.ref (a 1), .ref (a 4), .ref (a 5), .ref (a 6), .ref (a 7), .ref (a 8), .int (nI sn), .int (nI dy)])), (a 4, .inr (0, [.int mc, .ref ed, .int (nI n)]))] ++ bp g n ed cap ad B) sz)) 1 30 (va_A ([(bn, .inr (1, [.int (b 0), .int (b 1), .int (b 2), .int (b 3), .int (b 4), .int (b 5), .int (b 6), .int (b 7), .int (b 8), .int (b 9)])), (a 1, .inr (2, [.ref (a 2), .ref (a 3), .int (nI pl)])), (a 5, .inl (g.2.2.2.1, 400, .inl hf)), (a 8, .inl (g.2.1, 16, .inl rf)), (a 7, .inl (g.2.2.1, 3, .inr (.inl wf))), (a 0, .inr (4, [.ref (a 1), .ref (a 4), .ref (a 5), .ref (a 6), .ref (a 7), .ref (a 8), .int (nI sn), .int (nI dy)])), (a 4, .inr (0, [.int mc, .ref ed, .int (nI n)]))] ++ bp g n ed cap ad B) sz) := by
  refine z_openE_i (cc := cJx4a65c_add_9ea2d) (maxL := 2) (ret := .boolean) (own := RJx4a65c) (by decide) rfl rfl (Nat.le_of_ble_eq_true rfl) ?_
  intro p e s m args below meth c Q h hE hnm fin
  generalize hAe : va_A ([(bn, .inr (1, [.int (b 0), .int (b 1), .int (b 2), .int (b 3), .int (b 4), .int (b 5), .int (b 6), .int (b 7), .int (b 8), .int (b 9)])), (a 1, .inr (2, [.ref (a 2), .ref (a 3), .int (nI pl)])), (a 5, .inl (g.2.2.2.1, 400, .inl hf)), (a 8, .inl (g.2.1, 16, .inl rf)), (a 7, .inl (g.2.2.1, 3, .inr (.inl wf))), (a 0, .inr (4, [.ref (a 1), .ref (a 4), .ref (a 5), .ref (a 6), .ref (a 7), .ref (a 8), .int (nI sn), .int (nI dy)])), (a 4, .inr (0, [.int mc, .ref ed, .int (nI n)]))] ++ bp g n ed cap ad B) s.heap.size = A at h hE fin ⊢
  refine z_lve (lv' := [(0, .ref (a 4)), (1, .ref bn)]) rfl ?_
  refine z_aload_n h dJx4a65c_add_9ea2d_0 rfl 0 rfl ?_
  refine z_dup h dJx4a65c_add_9ea2d_1 rfl ?_
  refine z_getG h in_Jx4a65c_add_9ea2d_Jx4a65c 6 rfl rfl 0 (by decide) lk_Jx4a65c_add_9ea2d_f63 (u_same (h.ts _ lk_Jx4a65c_add_9ea2d_sf63)) rfl dJx4a65c_add_9ea2d_2 ?_
  refine z_iconst h (v := 1) dJx4a65c_add_9ea2d_5 (by decide) ?_
  refine z_iadd h dJx4a65c_add_9ea2d_6 ?_
  refine z_putG h in_Jx4a65c_add_9ea2d_Jx4a65c 6 tyJx4a65c tyJx4a65c_ok nmJx4a65c rfl rfl 0 (by decide) lk_Jx4a65c_add_9ea2d_f63 (u_same (h.ts _ lk_Jx4a65c_add_9ea2d_sf63)) rfl (tyJx4a65c_ok 0 (by decide)) rfl rfl (Nat.le_of_ble_eq_true rfl) dJx4a65c_add_9ea2d_7 (wW' := ([(bn, .inr (1, [.int (b 0), .int (b 1), .int (b 2), .int (b 3), .int (b 4), .int (b 5), .int (b 6), .int (b 7), .int (b 8), .int (b 9)])), (a 1, .inr (2, [.ref (a 2), .ref (a 3), .int (nI pl)])), (a 5, .inl (g.2.2.2.1, 400, .inl hf)), (a 8, .inl (g.2.1, 16, .inl rf)), (a 7, .inl (g.2.2.1, 3, .inr (.inl wf))), (a 0, .inr (4, [.ref (a 1), .ref (a 4), .ref (a 5), .ref (a 6), .ref (a 7), .ref (a 8), .int (nI sn), .int (nI dy)])), (a 4, .inr (0, [.int (mc + 1), .ref ed, .int (nI n)]))] ++ bp g n ed cap ad B)) rfl ?_
  refine z_aload_n h dJx4a65c_add_9ea2d_10 rfl 0 rfl ?_
  refine z_aload_n h dJx4a65c_add_9ea2d_11 rfl 1 rfl ?_
  refine z_aload_n h dJx4a65c_add_9ea2d_12 rfl 0 rfl ?_
  refine z_get h in_Jx4a65c_add_9ea2d_Jx4a65c 6 rfl rfl 1 (by decide) lk_Jx4a65c_add_9ea2d_f9 rfl dJx4a65c_add_9ea2d_13 ?_
  refine z_aload_n h dJx4a65c_add_9ea2d_16 rfl 0 rfl ?_
  refine z_get h in_Jx4a65c_add_9ea2d_Jx4a65c 6 rfl rfl 2 (by decide) lk_Jx4a65c_add_9ea2d_f48 rfl dJx4a65c_add_9ea2d_17 ?_
  rcases (show n = 0 ∨ (0 < n ∧ n < cap) ∨ (0 < n ∧ n = cap) by omega) with h0 | ⟨h0, h1⟩ | ⟨h0, h1⟩
  · subst h0
    have hz9 := hz rfl
    subst hz9
    refine z_ws (wW' := [(bn, .inr (1, [.int (b 0), .int (b 1), .int (b 2), .int (b 3), .int (b 4), .int (b 5), .int (b 6), .int (b 7), .int (b 8), .int (b 9)])), (a 1, .inr (2, [.ref (a 2), .ref (a 3), .int (nI pl)])), (a 5, .inl (g.2.2.2.1, 400, .inl hf)), (a 8, .inl (g.2.1, 16, .inl rf)), (a 7, .inl (g.2.2.1, 3, .inr (.inl wf))), (a 0, .inr (4, [.ref (a 1), .ref (a 4), .ref (a 5), .ref (a 6), .ref (a 7), .ref (a 8), .int (nI sn), .int (nI dy)])), (a 4, .inr (0, [.int (mc + 1), .ref g.2.2.2.2.2.1, .int (nI 0)]))]) rfl rfl ?_
    refine z_YvE h hE (As := [.ref bn, .ref g.2.2.2.2.2.1, .int (nI 0)]) (st := []) (Y := []) (fun sz => m_addC l g a pl hf rf wf sn dy (mc + 1) bn b ad B  sz) (cwV 3 h.ts gJx4a65c_add_9ea2d_Jx4a65c_add_72be8 rfl rfl rfl (by decide +kernel) ⟨Nat.le_of_ble_eq_true rfl, Nat.le_of_ble_eq_true rfl⟩) rfl rfl 6 rfl rfl rfl rfl (Nat.le_of_ble_eq_true rfl) ⟨(Nat.le_of_ble_eq_true rfl), (Nat.le_of_ble_eq_true rfl)⟩ (wN := fun u => ([(a 1, .inr (2, [.ref (a 2), .ref (a 3), .int (nI pl)])), (a 5, .inl (g.2.2.2.1, 400, .inl hf)), (a 8, .inl (g.2.1, 16, .inl rf)), (a 7, .inl (g.2.2.1, 3, .inr (.inl wf))), (a 0, .inr (4, [.ref (a 1), .ref (a 4), .ref (a 5), .ref (a 6), .ref (a 7), .ref (a 8), .int (nI sn), .int (nI dy)])), (a 4, .inr (0, [.int (mc + 1), .ref u, .int (nI 1)]))] ++ bp g 1 u 10 (ins ad 0 bn) (ins B 0 b))) (fun _ => rfl) dJx4a65c_add_9ea2d_20 (fun u_20 h_20 => ?_)
    refine z_ws (wW' := ([(a 1, .inr (2, [.ref (a 2), .ref (a 3), .int (nI pl)])), (a 5, .inl (g.2.2.2.1, 400, .inl hf)), (a 8, .inl (g.2.1, 16, .inl rf)), (a 7, .inl (g.2.2.1, 3, .inr (.inl wf))), (a 0, .inr (4, [.ref (a 1), .ref (a 4), .ref (a 5), .ref (a 6), .ref (a 7), .ref (a 8), .int (nI sn), .int (nI dy)])), (a 4, .inr (0, [.int (mc + 1), .ref u_20, .int (nI 1)]))] ++ bp g 1 u_20 10 (ins ad 0 bn) (ins B 0 b))) rfl rfl ?_
    refine z_iconst h (v := 1) dJx4a65c_add_9ea2d_23 (by decide) ?_
    exact fin _ _ _ (u_20, 10) _ _ _ _ dJx4a65c_add_9ea2d_24 rfl ⟨rfl, (show 0 + 1 ≤ 10 by decide), (show 10 ≤ 26 by decide)⟩ rfl (Nat.le_of_ble_eq_true rfl) (Nat.le_of_ble_eq_true rfl)
  · skip
    refine z_Yv h (As := [.ref bn, .ref ed, .int (nI n)]) (st := []) (Y := []) (fun sz => m_addA l g a pl hf rf wf sn dy (mc + 1) ed n cap ad B bn b h0 h1 hcap sz) (cwV 3 h.ts gJx4a65c_add_9ea2d_Jx4a65c_add_72be8 rfl rfl rfl (by decide +kernel) ⟨Nat.le_of_ble_eq_true rfl, Nat.le_of_ble_eq_true rfl⟩) rfl rfl 6 rfl rfl rfl rfl (Nat.le_of_ble_eq_true rfl) ⟨(Nat.le_of_ble_eq_true rfl), (Nat.le_of_ble_eq_true rfl)⟩ (wN := fun u => ([(a 1, .inr (2, [.ref (a 2), .ref (a 3), .int (nI pl)])), (a 5, .inl (g.2.2.2.1, 400, .inl hf)), (a 8, .inl (g.2.1, 16, .inl rf)), (a 7, .inl (g.2.2.1, 3, .inr (.inl wf))), (a 0, .inr (4, [.ref (a 1), .ref (a 4), .ref (a 5), .ref (a 6), .ref (a 7), .ref (a 8), .int (nI sn), .int (nI dy)])), (a 4, .inr (0, [.int (mc + 1), .ref ed, .int (nI (n + 1))]))] ++ bp g (n + 1) ed cap (ins ad n bn) (ins B n b))) (fun _ => rfl) dJx4a65c_add_9ea2d_20 (fun u_20 h_20 => ?_)
    refine z_iconst h (v := 1) dJx4a65c_add_9ea2d_23 (by decide) ?_
    exact fin _ _ _ (ed, cap) _ _ _ _ dJx4a65c_add_9ea2d_24 rfl ⟨rfl, h1, hcap⟩ rfl (Nat.le_of_ble_eq_true rfl) (Nat.le_of_ble_eq_true rfl)
  · subst h1
    refine z_Yv h (As := [.ref bn, .ref ed, .int (nI n)]) (st := []) (Y := []) (fun sz => m_addB l g a pl hf rf wf sn dy (mc + 1) ed n ad B bn b h0 hn sz) (cwV 3 h.ts gJx4a65c_add_9ea2d_Jx4a65c_add_72be8 rfl rfl rfl (by decide +kernel) ⟨Nat.le_of_ble_eq_true rfl, Nat.le_of_ble_eq_true rfl⟩) rfl rfl 6 rfl rfl rfl rfl (Nat.le_of_ble_eq_true rfl) ⟨(Nat.le_of_ble_eq_true rfl), (Nat.le_of_ble_eq_true rfl)⟩ (wN := fun u => ([(a 1, .inr (2, [.ref (a 2), .ref (a 3), .int (nI pl)])), (a 5, .inl (g.2.2.2.1, 400, .inl hf)), (a 8, .inl (g.2.1, 16, .inl rf)), (a 7, .inl (g.2.2.1, 3, .inr (.inl wf))), (a 0, .inr (4, [.ref (a 1), .ref (a 4), .ref (a 5), .ref (a 6), .ref (a 7), .ref (a 8), .int (nI sn), .int (nI dy)])), (a 4, .inr (0, [.int (mc + 1), .ref u, .int (nI (n + 1))]))] ++ bp g (n + 1) u (gc n) (ins ad n bn) (ins B n b))) (fun _ => rfl) dJx4a65c_add_9ea2d_20 (fun u_20 h_20 => ?_)
    refine z_ws (wW' := ([(a 1, .inr (2, [.ref (a 2), .ref (a 3), .int (nI pl)])), (a 5, .inl (g.2.2.2.1, 400, .inl hf)), (a 8, .inl (g.2.1, 16, .inl rf)), (a 7, .inl (g.2.2.1, 3, .inr (.inl wf))), (a 0, .inr (4, [.ref (a 1), .ref (a 4), .ref (a 5), .ref (a 6), .ref (a 7), .ref (a 8), .int (nI sn), .int (nI dy)])), (a 4, .inr (0, [.int (mc + 1), .ref u_20, .int (nI (n + 1))]))] ++ bp g (n + 1) u_20 (gc n) (ins ad n bn) (ins B n b))) rfl rfl ?_
    refine z_iconst h (v := 1) dJx4a65c_add_9ea2d_23 (by decide) ?_
    exact fin _ _ _ (u_20, gc n) _ _ _ _ dJx4a65c_add_9ea2d_24 rfl ⟨rfl, gc_le hn⟩ rfl (Nat.le_of_ble_eq_true rfl) (Nat.le_of_ble_eq_true rfl)
abbrev rmX3_addBin : Room := { frames := 8, cells := 20, slots := 150, locals := 260 }
set_option maxHeartbeats 4000000 in
set_option maxRecDepth 100000 in
theorem m_X3_addBin (l : Launch) (hlf : l.stackTraces = false) (g : Gx) (a : Nat → Nat) (pl : Nat) (hf : Nat → Int32) (rf : Nat → Int32) (wf : Nat → Int64) (sn : Nat) (dy : Nat) (mc : Int32) (ed : Nat) (n : Nat) (cap : Nat) (ad : Nat → Nat) (B : Nat → Nat → Int32) (x : Int32) (k : Int32) (z : Int32) (v : Int32) (hpl : pl ≤ 10) (hn : n ≤ 16) (hc : n ≤ cap) (hcap : cap ≤ 26) (hz : n = 0 → ed = g.2.2.2.2.2.1) (sz : Nat) : vx_Met l yX3_addBin wsX3_addBin rmX3_addBin (PX SL3 g [.ref (a 0), .int x, .int k, .int z, .int v] sz ([(a 1, .inr (2, [.ref (a 2), .ref (a 3), .int (nI pl)])), (a 5, .inl (g.2.2.2.1, 400, .inl hf)), (a 8, .inl (g.2.1, 16, .inl rf)), (a 7, .inl (g.2.2.1, 3, .inr (.inl wf))), (a 0, .inr (4, [.ref (a 1), .ref (a 4), .ref (a 5), .ref (a 6), .ref (a 7), .ref (a 8), .int (nI sn), .int (nI dy)])), (a 4, .inr (0, [.int mc, .ref ed, .int (nI n)]))] ++ bp g n ed cap ad B) []) (va_Qi (fun (r : Int32) (u : Nat × Nat × Nat) => k3 (okI pl x && (decide (¬ x = 0) && okI 3 k)) (okR 10 1000 z && okR 0 200 v) (decide (n < 16)) = 0 ∧ r = nI n ∧ n + 1 ≤ u.2.2 ∧ u.2.2 ≤ 26 ∧ n < 16) (BZ g ([(a 1, .inr (2, [.ref (a 2), .ref (a 3), .int (nI pl)])), (a 5, .inl (g.2.2.2.1, 400, .inl hf)), (a 8, .inl (g.2.1, 16, .inl rf)), (a 7, .inl (g.2.2.1, 3, .inr (.inl wf))), (a 0, .inr (4, [.ref (a 1), .ref (a 4), .ref (a 5), .ref (a 6), .ref (a 7), .ref (a 8), .int (nI sn), .int (nI dy)])), (a 4, .inr (0, [.int mc, .ref ed, .int (nI n)]))] ++ bp g n ed cap ad B) sz (fun (u : Nat × Nat × Nat) => ([(a 1, .inr (2, [.ref (a 2), .ref (a 3), .int (nI pl)])), (a 5, .inl (g.2.2.2.1, 400, .inl hf)), (a 8, .inl (g.2.1, 16, .inl rf)), (a 7, .inl (g.2.2.1, 3, .inr (.inl wf))), (a 0, .inr (4, [.ref (a 1), .ref (a 4), .ref (a 5), .ref (a 6), .ref (a 7), .ref (a 8), .int (nI sn), .int (nI dy)])), (a 4, .inr (0, [.int (mc + 1), .ref u.2.1, .int (nI (n + 1))]))] ++ bp g (n + 1) u.2.1 u.2.2 (ins ad n u.1) (ins B n (nwB x k z v (nI dy)))))) (va_A ([(a 1, .inr (2, [.ref (a 2), .ref (a 3), .int (nI pl)])), (a 5, .inl (g.2.2.2.1, 400, .inl hf)), (a 8, .inl (g.2.1, 16, .inl rf)), (a 7, .inl (g.2.2.1, 3, .inr (.inl wf))), (a 0, .inr (4, [.ref (a 1), .ref (a 4), .ref (a 5), .ref (a 6), .ref (a 7), .ref (a 8), .int (nI sn), .int (nI dy)])), (a 4, .inr (0, [.int mc, .ref ed, .int (nI n)]))] ++ bp g n ed cap ad B) sz)) (XZ (pe3 eI eA eS (k3 (okI pl x && (decide (¬ x = 0) && okI 3 k)) (okR 10 1000 z && okR 0 200 v) (decide (n < 16)))) sz) 20 150 (va_A ([(a 1, .inr (2, [.ref (a 2), .ref (a 3), .int (nI pl)])), (a 5, .inl (g.2.2.2.1, 400, .inl hf)), (a 8, .inl (g.2.1, 16, .inl rf)), (a 7, .inl (g.2.2.1, 3, .inr (.inl wf))), (a 0, .inr (4, [.ref (a 1), .ref (a 4), .ref (a 5), .ref (a 6), .ref (a 7), .ref (a 8), .int (nI sn), .int (nI dy)])), (a 4, .inr (0, [.int mc, .ref ed, .int (nI n)]))] ++ bp g n ed cap ad B) sz) := by
  refine x_open0_i (cc := cX3_addBin) (maxL := 6) (ret := .int) (own := RX3) (by decide) rfl rfl (Nat.le_of_ble_eq_true rfl) hlf rfl ?_
  intro p e s m args below meth c Q h hT hE fin thr thw
  refine z_lve (lv' := [(0, .ref (a 0)), (1, .int x), (2, .int k), (3, .int z), (4, .int v)]) rfl ?_
  refine z_aload_n h dX3_addBin_0 rfl 0 rfl ?_
  refine z_iload_n h dX3_addBin_1 rfl 1 rfl ?_
  refine x_Vv h (As := [.int x]) (st := []) hT (fun q hq => hq) (fun sz => m_X3_checkPlace l hlf g a sn dy pl x (by omega) sz) (cwV 1 h.ts gX3_addBin_X3_checkPlace rfl rfl rfl (by decide +kernel) ⟨Nat.le_of_ble_eq_true rfl, Nat.le_of_ble_eq_true rfl⟩) rfl [] [4, 0] rfl rfl rfl rfl 4 rfl rfl rfl rfl (Nat.le_of_ble_eq_true rfl) ⟨(Nat.le_of_ble_eq_true rfl), (Nat.le_of_ble_eq_true rfl)⟩ (fun _ => (Nat.le_of_ble_eq_true rfl)) (wN := fun u => []) (fun _ => rfl) dX3_addBin_2 (fun E hE => thr E _ _ _ _ _ (by rw [hE.2]; exact pe3_1 (k3_1 (and_f1 hE.1))) (Nat.le_of_ble_eq_true rfl) (Nat.le_of_ble_eq_true rfl)) (fun u_2 h_2 => ?_)
  refine z_iload_n h dX3_addBin_5 rfl 1 rfl ?_
  refine z_if_ne h (tgt := 19) dX3_addBin_6 (by decide) (fun c_6 => ?_) (fun c_6 => ?_)
  · refine z_aload_n h dX3_addBin_19 rfl 0 rfl ?_
    refine z_iload_n h dX3_addBin_20 rfl 2 rfl ?_
    refine x_Vv h (As := [.int k]) (st := []) hT (fun q hq => hq) (fun sz => m_X3_checkKind l hlf g a k  sz) (cwV 1 h.ts gX3_addBin_X3_checkKind rfl rfl rfl (by decide +kernel) ⟨Nat.le_of_ble_eq_true rfl, Nat.le_of_ble_eq_true rfl⟩) rfl [] [] rfl rfl rfl rfl 4 rfl rfl rfl rfl (Nat.le_of_ble_eq_true rfl) ⟨(Nat.le_of_ble_eq_true rfl), (Nat.le_of_ble_eq_true rfl)⟩ (fun _ => (Nat.le_of_ble_eq_true rfl)) (wN := fun u => []) (fun _ => rfl) dX3_addBin_21 (fun E hE => thr E _ _ _ _ _ (by rw [hE.2]; exact pe3_1 (k3_1 (and_f2 (and_f2 hE.1)))) (Nat.le_of_ble_eq_true rfl) (Nat.le_of_ble_eq_true rfl)) (fun u_21 h_21 => ?_)
    have hk1 := and_t h_2 (and_t (decide_eq_true c_6) h_21)
    refine z_aload_n h dX3_addBin_24 rfl 0 rfl ?_
    refine z_iload_n h dX3_addBin_25 rfl 3 rfl ?_
    refine z_bipush h (v := 10) dX3_addBin_26 (by decide) ?_
    refine z_sipush h (v := 1000) dX3_addBin_28 (by decide) ?_
    refine x_Vv h (As := [.int z, .int 10, .int 1000]) (st := []) hT (fun q hq => hq) (fun sz => m_X3_checkRange l hlf g a z 10 1000  sz) (cwV 3 h.ts gX3_addBin_X3_checkRange rfl rfl rfl (by decide +kernel) ⟨Nat.le_of_ble_eq_true rfl, Nat.le_of_ble_eq_true rfl⟩) rfl [] [] rfl rfl rfl rfl 4 rfl rfl rfl rfl (Nat.le_of_ble_eq_true rfl) ⟨(Nat.le_of_ble_eq_true rfl), (Nat.le_of_ble_eq_true rfl)⟩ (fun _ => (Nat.le_of_ble_eq_true rfl)) (wN := fun u => []) (fun _ => rfl) dX3_addBin_31 (fun E hE => thr E _ _ _ _ _ (by rw [hE.2]; exact pe3_2 (k3_2 hk1 (and_f1 hE.1))) (Nat.le_of_ble_eq_true rfl) (Nat.le_of_ble_eq_true rfl)) (fun u_31 h_31 => ?_)
    refine z_aload_n h dX3_addBin_34 rfl 0 rfl ?_
    refine z_iload h dX3_addBin_35 4 rfl ?_
    refine z_iconst h (v := 0) dX3_addBin_37 (by decide) ?_
    refine z_sipush h (v := 200) dX3_addBin_38 (by decide) ?_
    refine x_Vv h (As := [.int v, .int 0, .int 200]) (st := []) hT (fun q hq => hq) (fun sz => m_X3_checkRange l hlf g a v 0 200  sz) (cwV 3 h.ts gX3_addBin_X3_checkRange rfl rfl rfl (by decide +kernel) ⟨Nat.le_of_ble_eq_true rfl, Nat.le_of_ble_eq_true rfl⟩) rfl [] [] rfl rfl rfl rfl 4 rfl rfl rfl rfl (Nat.le_of_ble_eq_true rfl) ⟨(Nat.le_of_ble_eq_true rfl), (Nat.le_of_ble_eq_true rfl)⟩ (fun _ => (Nat.le_of_ble_eq_true rfl)) (wN := fun u => []) (fun _ => rfl) dX3_addBin_41 (fun E hE => thr E _ _ _ _ _ (by rw [hE.2]; exact pe3_2 (k3_2 hk1 (and_f2 hE.1))) (Nat.le_of_ble_eq_true rfl) (Nat.le_of_ble_eq_true rfl)) (fun u_41 h_41 => ?_)
    have hk2 := and_t h_31 h_41
    refine z_aload_n h dX3_addBin_44 rfl 0 rfl ?_
    refine z_get h in_X3_addBin_X3 4 rfl rfl 1 (by decide) lk_X3_addBin_f19 rfl dX3_addBin_45 ?_
    refine z_Vi h (As := []) (st := []) (fun sz => m_Jx4a65c_size_8abf5 l g (a 4) mc ed n  sz) (cwV 0 h.ts gX3_addBin_Jx4a65c_size_8abf5 rfl rfl rfl (by decide +kernel) ⟨Nat.le_of_ble_eq_true rfl, Nat.le_of_ble_eq_true rfl⟩) rfl [] [5] rfl rfl rfl rfl 5 rfl rfl rfl rfl (Nat.le_of_ble_eq_true rfl) ⟨(Nat.le_of_ble_eq_true rfl), (Nat.le_of_ble_eq_true rfl)⟩ (fun _ => (Nat.le_of_ble_eq_true rfl)) (wN := fun u => []) (fun _ => rfl) dX3_addBin_48 (fun r_48 u_48 h_48 => ?_)
    refine z_topi (y := nI n) h_48 ?_
    refine z_istore h dX3_addBin_51 (by decide) (lv' := [(0, .ref (a 0)), (1, .int x), (2, .int k), (3, .int z), (4, .int v), (5, .int (nI n))]) [1, 2, 3, 4, 5, 0] rfl ?_
    refine z_iload h dX3_addBin_53 5 rfl ?_
    refine z_bipush h (v := 16) dX3_addBin_55 (by decide) ?_
    refine z_icmp_lt h (tgt := 70) dX3_addBin_57 (by decide) (fun c_57 => ?_) (fun c_57 => ?_)
    · have hlt : n < 16 := (nI_ltI (b := 16) (by omega) (by omega)).mp c_57
      refine z_arm0 ?_
      have h2 := h.arm (B := va_A ([(a 1, .inr (2, [.ref (a 2), .ref (a 3), .int (nI pl)])), (a 5, .inl (g.2.2.2.1, 400, .inl hf)), (a 8, .inl (g.2.1, 16, .inl rf)), (a 7, .inl (g.2.2.1, 3, .inr (.inl wf))), (a 0, .inr (4, [.ref (a 1), .ref (a 4), .ref (a 5), .ref (a 6), .ref (a 7), .ref (a 8), .int (nI sn), .int (nI dy)])), (a 4, .inr (0, [.int mc, .ref ed, .int (nI n)]))] ++ bp g n ed cap ad B) s.heap.size) (fun q hq => Or.inr hq)
      generalize hAe : va_A ([(a 1, .inr (2, [.ref (a 2), .ref (a 3), .int (nI pl)])), (a 5, .inl (g.2.2.2.1, 400, .inl hf)), (a 8, .inl (g.2.1, 16, .inl rf)), (a 7, .inl (g.2.2.1, 3, .inr (.inl wf))), (a 0, .inr (4, [.ref (a 1), .ref (a 4), .ref (a 5), .ref (a 6), .ref (a 7), .ref (a 8), .int (nI sn), .int (nI dy)])), (a 4, .inr (0, [.int mc, .ref ed, .int (nI n)]))] ++ bp g n ed cap ad B) s.heap.size = A at h2 hE fin ⊢
      refine z_aload_n h2 dX3_addBin_70 rfl 0 rfl ?_
      refine z_get h2 in_X3_addBin_X3 4 rfl rfl 1 (by decide) lk_X3_addBin_f19 rfl dX3_addBin_71 ?_
      refine z_new (ci := 1) h2 in_X3_addBin_X0 tyX0 tyX0_ok lk_X3_addBin_cl113 lk_X3_addBin_isX0 lk_X3_addBin_iniX0 rfl (fs := [.int 0, .int 0, .int 0, .int 0, .int 0, .int 0, .int 0, .int 0, .int 0, .int 0]) (by decide +kernel) (Nat.le_of_ble_eq_true rfl) (Nat.le_of_ble_eq_true rfl) dX3_addBin_74 (fun bn => ?_)
      refine z_rot ?_
      refine z_ws (wW' := ([(bn, .inr (1, [.int 0, .int 0, .int 0, .int 0, .int 0, .int 0, .int 0, .int 0, .int 0, .int 0])), (a 1, .inr (2, [.ref (a 2), .ref (a 3), .int (nI pl)])), (a 5, .inl (g.2.2.2.1, 400, .inl hf)), (a 8, .inl (g.2.1, 16, .inl rf)), (a 7, .inl (g.2.2.1, 3, .inr (.inl wf))), (a 0, .inr (4, [.ref (a 1), .ref (a 4), .ref (a 5), .ref (a 6), .ref (a 7), .ref (a 8), .int (nI sn), .int (nI dy)])), (a 4, .inr (0, [.int mc, .ref ed, .int (nI n)]))] ++ bp g n ed cap ad B)) rfl rfl ?_
      refine z_dup h2 dX3_addBin_77 rfl ?_
      refine z_iload_n h2 dX3_addBin_78 rfl 1 rfl ?_
      refine z_iload_n h2 dX3_addBin_79 rfl 2 rfl ?_
      refine z_iload_n h2 dX3_addBin_80 rfl 3 rfl ?_
      refine z_iload h2 dX3_addBin_81 4 rfl ?_
      refine z_aload_n h2 dX3_addBin_83 rfl 0 rfl ?_
      refine z_get h2 in_X3_addBin_X3 5 rfl rfl 7 (by decide) lk_X3_addBin_f42 rfl dX3_addBin_84 ?_
      refine z_Iv h2 (C := "") (ret := none) (As := [.int x, .int k, .int z, .int v, .int (nI dy)]) (st := [.ref bn, .ref (a 4)]) (fun sz => m_X0_init l g bn x k z v (nI dy)  sz) (cwI 5 h2.ts gX3_addBin_X0_init rfl rfl rfl (h2.ts _ lk_X3_addBin_iniX0_init) (h2.ts _ lk_X3_addBin_m115) (h2.ts _ lk_X3_addBin_imX0_init) rfl (by decide +kernel) ⟨Nat.le_of_ble_eq_true rfl, Nat.le_of_ble_eq_true rfl⟩) rfl [0] [] rfl rfl rfl rfl rfl (Nat.le_of_ble_eq_true rfl) ⟨(Nat.le_of_ble_eq_true rfl), (Nat.le_of_ble_eq_true rfl)⟩ (fun _ => (Nat.le_of_ble_eq_true rfl)) (wN := fun u => ([(bn, .inr (1, [.int x, .int k, .int z, .int v, .int 0, .int (z / 2), .int (nI dy), .int 0, .int 0, .int 0])), (a 1, .inr (2, [.ref (a 2), .ref (a 3), .int (nI pl)])), (a 5, .inl (g.2.2.2.1, 400, .inl hf)), (a 8, .inl (g.2.1, 16, .inl rf)), (a 7, .inl (g.2.2.1, 3, .inr (.inl wf))), (a 0, .inr (4, [.ref (a 1), .ref (a 4), .ref (a 5), .ref (a 6), .ref (a 7), .ref (a 8), .int (nI sn), .int (nI dy)])), (a 4, .inr (0, [.int mc, .ref ed, .int (nI n)]))] ++ bp g n ed cap ad B)) (fun _ => List.append_nil _) dX3_addBin_87 (fun u_87 h_87 => ?_)
      refine z_ws (wW' := ([(bn, .inr (1, [.int (nwB x k z v (nI dy) 0), .int (nwB x k z v (nI dy) 1), .int (nwB x k z v (nI dy) 2), .int (nwB x k z v (nI dy) 3), .int (nwB x k z v (nI dy) 4), .int (nwB x k z v (nI dy) 5), .int (nwB x k z v (nI dy) 6), .int (nwB x k z v (nI dy) 7), .int (nwB x k z v (nI dy) 8), .int (nwB x k z v (nI dy) 9)])), (a 1, .inr (2, [.ref (a 2), .ref (a 3), .int (nI pl)])), (a 5, .inl (g.2.2.2.1, 400, .inl hf)), (a 8, .inl (g.2.1, 16, .inl rf)), (a 7, .inl (g.2.2.1, 3, .inr (.inl wf))), (a 0, .inr (4, [.ref (a 1), .ref (a 4), .ref (a 5), .ref (a 6), .ref (a 7), .ref (a 8), .int (nI sn), .int (nI dy)])), (a 4, .inr (0, [.int mc, .ref ed, .int (nI n)]))] ++ bp g n ed cap ad B)) rfl rfl ?_
      refine z_YiE h2 hE (As := [.ref bn]) (st := []) (Y := []) (fun sz => m_addE l g a pl hf rf wf sn dy mc ed n cap ad B bn (nwB x k z v (nI dy)) (by omega) hc hcap hz sz) (cwV 1 h2.ts gX3_addBin_Jx4a65c_add_9ea2d rfl rfl rfl (by decide +kernel) ⟨Nat.le_of_ble_eq_true rfl, Nat.le_of_ble_eq_true rfl⟩) rfl rfl 6 rfl rfl rfl rfl (Nat.le_of_ble_eq_true rfl) ⟨(Nat.le_of_ble_eq_true rfl), (Nat.le_of_ble_eq_true rfl)⟩ (wN := fun u => ([(a 1, .inr (2, [.ref (a 2), .ref (a 3), .int (nI pl)])), (a 5, .inl (g.2.2.2.1, 400, .inl hf)), (a 8, .inl (g.2.1, 16, .inl rf)), (a 7, .inl (g.2.2.1, 3, .inr (.inl wf))), (a 0, .inr (4, [.ref (a 1), .ref (a 4), .ref (a 5), .ref (a 6), .ref (a 7), .ref (a 8), .int (nI sn), .int (nI dy)])), (a 4, .inr (0, [.int (mc + 1), .ref u.1, .int (nI (n + 1))]))] ++ bp g (n + 1) u.1 u.2 (ins ad n bn) (ins B n (nwB x k z v (nI dy))))) (fun _ => rfl) dX3_addBin_90 (fun r_90 u_90 h_90 => ?_)
      obtain ⟨ed2_90, cap2_90⟩ := u_90
      refine z_ws (wW' := ([(a 1, .inr (2, [.ref (a 2), .ref (a 3), .int (nI pl)])), (a 5, .inl (g.2.2.2.1, 400, .inl hf)), (a 8, .inl (g.2.1, 16, .inl rf)), (a 7, .inl (g.2.2.1, 3, .inr (.inl wf))), (a 0, .inr (4, [.ref (a 1), .ref (a 4), .ref (a 5), .ref (a 6), .ref (a 7), .ref (a 8), .int (nI sn), .int (nI dy)])), (a 4, .inr (0, [.int (mc + 1), .ref ed2_90, .int (nI (n + 1))]))] ++ bp g (n + 1) ed2_90 cap2_90 (ins ad n bn) (ins B n (nwB x k z v (nI dy))))) rfl rfl ?_
      refine z_pop h2 dX3_addBin_93 rfl ?_
      refine z_iload h2 dX3_addBin_94 5 rfl ?_
      exact fin _ _ _ (bn, ed2_90, cap2_90) _ _ _ _ dX3_addBin_96 rfl ⟨k3_0 hk1 hk2 (decide_eq_true hlt), rfl, h_90.2.1, h_90.2.2, hlt⟩ rfl (Nat.le_of_ble_eq_true rfl) (Nat.le_of_ble_eq_true rfl)
    · have hge : ¬ n < 16 := fun q => c_57 ((nI_ltI (b := 16) (by omega) (by omega)).mpr q)
      exact thw 60 _ _ _ _ "java/lang/IllegalStateException" "there are 16 bins" ["java/lang/RuntimeException", "java/lang/Exception"] 48 111 52 (by decide +kernel) fi_exn lk_X3_addBin_cl48 lk_X3_addBin_in48 (by decide) at_X3_addBin_52 ng_52 (by decide) og_52_48 dX3_addBin_60 dX3_addBin_63 dX3_addBin_64 dX3_addBin_66 dX3_addBin_69 (Nat.le_of_ble_eq_true rfl) (Nat.le_of_ble_eq_true rfl) (Nat.le_of_ble_eq_true rfl) (Nat.le_of_ble_eq_true rfl) (pe3_3 (k3_3 hk1 hk2 (decide_eq_false hge))) (Nat.le_of_ble_eq_true rfl) (Nat.le_of_ble_eq_true rfl)
  · exact thw 9 _ _ _ _ "java/lang/IndexOutOfBoundsException" "no bin stands at the depot" ["java/lang/RuntimeException", "java/lang/Exception"] 96 106 100 (by decide +kernel) fi_exn lk_X3_addBin_cl96 lk_X3_addBin_in96 (by decide) at_X3_addBin_100 ng_100 (by decide) og_100_96 dX3_addBin_9 dX3_addBin_12 dX3_addBin_13 dX3_addBin_15 dX3_addBin_18 (Nat.le_of_ble_eq_true rfl) (Nat.le_of_ble_eq_true rfl) (Nat.le_of_ble_eq_true rfl) (Nat.le_of_ble_eq_true rfl) (pe3_1 (k3_1 (and_f2 (and_f1 (decide_eq_false (fun q => q (by first | exact c_6 | exact Classical.not_not.mp c_6))))))) (Nat.le_of_ble_eq_true rfl) (Nat.le_of_ble_eq_true rfl)
abbrev rmX1_init : Room := { frames := 1, cells := 2, slots := 110, locals := 20 }
set_option maxHeartbeats 4000000 in
set_option maxRecDepth 100000 in
theorem m_X1_init (l : Launch) (g : Gx) (rg : Nat)  (sz : Nat) : Met l yX1_init wsX1_init rmX1_init (PZ g [.ref rg] sz [(rg, .inr (2, [.null, .null, .int 0]))] []) (va_Qv (fun (_ : Nat × Nat) => True) (BZ g [(rg, .inr (2, [.null, .null, .int 0]))] sz (fun (u : Nat × Nat) => [(rg, .inr (2, [.ref u.1, .ref u.2, .int 1])), (u.1, .inl (g.2.1, 100, .inl (miA 10))), (u.2, .inl (g.2.1, 10, .inl (upd (fun _ => 0) 0 7)))])) (va_A [(rg, .inr (2, [.null, .null, .int 0]))] sz)) 2 110 (va_A [(rg, .inr (2, [.null, .null, .int 0]))] sz) := by
  refine z_open_v (cc := cX1_init) (maxL := 3) (own := RX1) (by decide) rfl rfl (Nat.le_of_ble_eq_true rfl) ?_
  intro p e s m args below meth c Q h hnm fin
  generalize hAe : va_A [(rg, .inr (2, [.null, .null, .int 0]))] s.heap.size = A at h fin ⊢
  refine z_lve (lv' := [(0, .ref rg)]) rfl ?_
  refine z_aload_n h dX1_init_0 rfl 0 rfl ?_
  refine z_objInit h lk_X1_init_m3 lk_X1_init_oi lk_X1_init_oc dX1_init_1 (Nat.le_of_ble_eq_true rfl) (Nat.le_of_ble_eq_true rfl) ?_
  refine z_aload_n h dX1_init_4 rfl 0 rfl ?_
  refine z_bipush h (v := 100) dX1_init_5 (by decide) ?_
  refine z_newa h ac_X1_init_I (ty := .int) rfl (t0 := 0) rfl (fun C q => by cases q) (a0 := (100, .inl (fun _ => 0))) (fun cA => by rw [vp_cell_i]; rfl) (by decide) (N' := 100) (by decide) (by decide) (Nat.le_of_ble_eq_true rfl) (Nat.le_of_ble_eq_true rfl) dX1_init_7 (fun mi => ?_)
  refine z_ws (wW' := [(rg, .inr (2, [.null, .null, .int 0])), (mi, .inl (g.2.1, 100, .inl (fun _ => 0)))]) rfl rfl ?_
  refine z_putF h in_X1_init_X1 0 tyX1 tyX1_ok nmX1 rfl rfl 0 (by decide) lk_X1_init_f9 rfl hnm rfl rfl rfl (Nat.le_of_ble_eq_true rfl) dX1_init_9 (wW' := [(rg, .inr (2, [.ref mi, .null, .int 0])), (mi, .inl (g.2.1, 100, .inl (fun _ => 0)))]) rfl ?_
  refine z_iconst h (v := 0) dX1_init_12 (by decide) ?_
  refine z_istore_n h dX1_init_13 rfl (by decide) (lv' := [(0, .ref rg), (1, .int 0)]) [1, 0] rfl ?_
  have L14 : ∀ (L14n x : Nat) , x ≤ 10 → 10 < L14n + x → Z p l e rmX1_init s m args below meth c Q A g 3 14 [(0, .ref rg), (1, .int (nI x))] [] [(rg, .inr (2, [.ref mi, .null, .int 0])), (mi, .inl (g.2.1, 100, .inl (miA x)))] [] 1 100 := by
    intro L14n
    induction L14n with
    | zero => intro x  hx hL14 ; exact absurd hL14 (by omega)
    | succ L14n ihL14 =>
      intro x  hx hL14 
      refine z_iload_n h dX1_init_14 rfl 1 rfl ?_
      refine z_bipush h (v := 10) dX1_init_15 (by decide) ?_
      refine z_icmp_ge h (tgt := 62) dX1_init_17 (by decide) (fun c_17 => ?_) (fun c_17 => ?_)
      · have hx0 : x = 10 := by have := ge_t (a := x) (b := 10) c_17 (by omega) (by omega); omega
        subst hx0
        refine z_aload_n h dX1_init_62 rfl 0 rfl ?_
        refine z_bipush h (v := 10) dX1_init_63 (by decide) ?_
        refine z_newa h ac_X1_init_I (ty := .int) rfl (t0 := 0) rfl (fun C q => by cases q) (a0 := (10, .inl (fun _ => 0))) (fun cA => by rw [vp_cell_i]; rfl) (by decide) (N' := 10) (by decide) (by decide) (Nat.le_of_ble_eq_true rfl) (Nat.le_of_ble_eq_true rfl) dX1_init_65 (fun ti => ?_)
        refine z_ws (wW' := [(rg, .inr (2, [.ref mi, .null, .int 0])), (mi, .inl (g.2.1, 100, .inl (miA 10))), (ti, .inl (g.2.1, 10, .inl (fun _ => 0)))]) rfl rfl ?_
        refine z_putF h in_X1_init_X1 0 tyX1 tyX1_ok nmX1 rfl rfl 1 (by decide) lk_X1_init_f15 rfl hnm rfl rfl rfl (Nat.le_of_ble_eq_true rfl) dX1_init_67 (wW' := [(rg, .inr (2, [.ref mi, .ref ti, .int 0])), (mi, .inl (g.2.1, 100, .inl (miA 10))), (ti, .inl (g.2.1, 10, .inl (fun _ => 0)))]) rfl ?_
        refine z_aload_n h dX1_init_70 rfl 0 rfl ?_
        refine z_get h in_X1_init_X1 0 rfl rfl 1 (by decide) lk_X1_init_f15 rfl dX1_init_71 ?_
        refine z_iconst h (v := 0) dX1_init_74 (by decide) ?_
        refine z_bipush h (v := 7) dX1_init_75 (by decide) ?_
        refine z_iast h (j := 0) 2 rfl (show vp_in (nI 0) 10 from vp_in_nI (by omega) (by omega)) (by rw [show ((0 : Int32)).toNatClampNeg = 0 from rfl]) dX1_init_77 (wW' := [(rg, .inr (2, [.ref mi, .ref ti, .int 0])), (mi, .inl (g.2.1, 100, .inl (miA 10))), (ti, .inl (g.2.1, 10, .inl (upd (fun _ => 0) 0 7)))]) rfl ?_
        refine z_aload_n h dX1_init_78 rfl 0 rfl ?_
        refine z_iconst h (v := 1) dX1_init_79 (by decide) ?_
        refine z_put h in_X1_init_X1 0 tyX1 tyX1_ok nmX1 rfl rfl 2 (by decide) lk_X1_init_f18 rfl rfl rfl (Nat.le_of_ble_eq_true rfl) dX1_init_80 (wW' := [(rg, .inr (2, [.ref mi, .ref ti, .int 1])), (mi, .inl (g.2.1, 100, .inl (miA 10))), (ti, .inl (g.2.1, 10, .inl (upd (fun _ => 0) 0 7)))]) rfl ?_
        exact fin _ _ (mi, ti) _ _ _ _ dX1_init_83 trivial rfl (Nat.le_of_ble_eq_true rfl) (Nat.le_of_ble_eq_true rfl)
      · have hl0 : x < 10 := ge_f (a := x) (b := 10) c_17 (by omega) (by omega)
        refine z_iconst h (v := 0) dX1_init_20 (by decide) ?_
        refine z_istore_n h dX1_init_21 rfl (by decide) (lv' := [(0, .ref rg), (1, .int (nI x)), (2, .int 0)]) [1, 2, 0] rfl ?_
        have L22 : ∀ (L22n y : Nat) , y ≤ 10 → 10 < L22n + y → Z p l e rmX1_init s m args below meth c Q A g 3 22 [(0, .ref rg), (1, .int (nI x)), (2, .int (nI y))] [] [(rg, .inr (2, [.ref mi, .null, .int 0])), (mi, .inl (g.2.1, 100, .inl (miB (miA x) x y)))] [] 1 100 := by
          intro L22n
          induction L22n with
          | zero => intro y  hy hL22 ; exact absurd hL22 (by omega)
          | succ L22n ihL22 =>
            intro y  hy hL22 
            refine z_iload_n h dX1_init_22 rfl 2 rfl ?_
            refine z_bipush h (v := 10) dX1_init_23 (by decide) ?_
            refine z_icmp_ge h (tgt := 56) dX1_init_25 (by decide) (fun c_25 => ?_) (fun c_25 => ?_)
            · have hx1 : y = 10 := by have := ge_t (a := y) (b := 10) c_25 (by omega) (by omega); omega
              subst hx1
              refine z_iinc h (v := nI (x + 1)) dX1_init_56 (by decide) 1 rfl (by rw [show Int32.ofInt 1 = nI 1 from rfl, nI_add]) (lv' := [(0, .ref rg), (1, .int (nI (x + 1))), (2, .int (nI 10))]) [1, 0, 2] rfl ?_
              refine z_goto h (tgt := 14) dX1_init_59 (by decide) ?_
              refine z_lv [0, 1] (lv' := [(0, .ref rg), (1, .int (nI (x + 1)))]) rfl ?_
              exact ihL14 (x + 1)  (by omega) (by omega) 
            · have hl1 : y < 10 := ge_f (a := y) (b := 10) c_25 (by omega) (by omega)
              refine z_aload_n h dX1_init_28 rfl 0 rfl ?_
              refine z_get h in_X1_init_X1 0 rfl rfl 0 (by decide) lk_X1_init_f9 rfl dX1_init_29 ?_
              refine z_iload_n h dX1_init_32 rfl 1 rfl ?_
              refine z_bipush h (v := 10) dX1_init_33 (by decide) ?_
              refine z_imul h dX1_init_35 ?_
              refine z_iload_n h dX1_init_36 rfl 2 rfl ?_
              refine z_iadd h dX1_init_37 ?_
              refine z_topi (y := nI (x * 10 + y)) (ix10 x y) ?_
              refine z_iload_n h dX1_init_38 rfl 1 rfl ?_
              refine z_iload_n h dX1_init_39 rfl 2 rfl ?_
              refine z_icmp_ne h (tgt := 47) dX1_init_40 (by decide) (fun c_40 => ?_) (fun c_40 => ?_)
              · refine z_bipush h (v := 30) dX1_init_47 (by decide) ?_
                refine z_iast h (j := x * 10 + y) 1 rfl (vp_in_nI (by omega) (by omega)) (by rw [nI_clamp (by omega)]) dX1_init_49 (wW' := [(rg, .inr (2, [.ref mi, .null, .int 0])), (mi, .inl (g.2.1, 100, .inl (upd (miB (miA x) x y) (x * 10 + y) 30)))]) rfl ?_
                refine z_ws (wW' := [(rg, .inr (2, [.ref mi, .null, .int 0])), (mi, .inl (g.2.1, 100, .inl (miB (miA x) x (y + 1))))]) (by first | rw [miB, if_pos c_40] | rw [miB, if_neg c_40]) rfl ?_
                refine z_iinc h (v := nI (y + 1)) dX1_init_50 (by decide) 2 rfl (by rw [show Int32.ofInt 1 = nI 1 from rfl, nI_add]) (lv' := [(0, .ref rg), (1, .int (nI x)), (2, .int (nI (y + 1)))]) [1, 2, 0] rfl ?_
                refine z_goto h (tgt := 22) dX1_init_53 (by decide) ?_
                exact ihL22 (y + 1)  (by omega) (by omega) 
              · refine z_iconst h (v := 0) dX1_init_43 (by decide) ?_
                refine z_goto h (tgt := 49) dX1_init_44 (by decide) ?_
                refine z_iast h (j := x * 10 + y) 1 rfl (vp_in_nI (by omega) (by omega)) (by rw [nI_clamp (by omega)]) dX1_init_49 (wW' := [(rg, .inr (2, [.ref mi, .null, .int 0])), (mi, .inl (g.2.1, 100, .inl (upd (miB (miA x) x y) (x * 10 + y) 0)))]) rfl ?_
                refine z_ws (wW' := [(rg, .inr (2, [.ref mi, .null, .int 0])), (mi, .inl (g.2.1, 100, .inl (miB (miA x) x (y + 1))))]) (by first | rw [miB, if_pos c_40] | rw [miB, if_neg c_40]) rfl ?_
                refine z_iinc h (v := nI (y + 1)) dX1_init_50 (by decide) 2 rfl (by rw [show Int32.ofInt 1 = nI 1 from rfl, nI_add]) (lv' := [(0, .ref rg), (1, .int (nI x)), (2, .int (nI (y + 1)))]) [1, 2, 0] rfl ?_
                refine z_goto h (tgt := 22) dX1_init_53 (by decide) ?_
                exact ihL22 (y + 1)  (by omega) (by omega) 
        exact L22 (10 + 1 - 0) 0  (by omega) (by omega) 
  exact L14 (10 + 1 - 0) 0  (by omega) (by omega) 
abbrev rmJxa1e45_init_da8c8 : Room := { frames := 1, cells := 0, slots := 0, locals := 20 }
set_option maxHeartbeats 4000000 in
set_option maxRecDepth 100000 in
theorem m_Jxa1e45_init_da8c8 (l : Launch) (g : Gx) (bl : Nat)  (sz : Nat) : Met l yJxa1e45_init_da8c8 wsJxa1e45_init_da8c8 rmJxa1e45_init_da8c8 (PZ g [.ref bl] sz [] []) (va_Qv (fun (_ : Unit) => True) (BZ g [] sz (fun (u : Unit) => [])) (va_A [] sz)) 0 0 (va_A [] sz) := by
  refine z_open_v (cc := cJxa1e45_init_da8c8) (maxL := 1) (own := RJxa1e45) (by decide) rfl rfl (Nat.le_of_ble_eq_true rfl) ?_
  intro p e s m args below meth c Q h hnm fin
  generalize hAe : va_A [] s.heap.size = A at h fin ⊢
  refine z_lve (lv' := [(0, .ref bl)]) rfl ?_
  refine z_aload_n h dJxa1e45_init_da8c8_0 rfl 0 rfl ?_
  refine z_objInit h lk_Jxa1e45_init_da8c8_m1 lk_Jxa1e45_init_da8c8_oi lk_Jxa1e45_init_da8c8_oc dJxa1e45_init_da8c8_1 (Nat.le_of_ble_eq_true rfl) (Nat.le_of_ble_eq_true rfl) ?_
  exact fin _ _ () _ _ _ _ dJxa1e45_init_da8c8_4 trivial rfl (Nat.le_of_ble_eq_true rfl) (Nat.le_of_ble_eq_true rfl)
abbrev rmJxc12de_init_da8c8 : Room := { frames := 2, cells := 0, slots := 0, locals := 40 }
set_option maxHeartbeats 4000000 in
set_option maxRecDepth 100000 in
theorem m_Jxc12de_init_da8c8 (l : Launch) (g : Gx) (bl : Nat)  (sz : Nat) : Met l yJxc12de_init_da8c8 wsJxc12de_init_da8c8 rmJxc12de_init_da8c8 (PZ g [.ref bl] sz [(bl, .inr (0, [.int 0, .null, .int 0]))] []) (va_Qv (fun (_ : Unit) => True) (BZ g [(bl, .inr (0, [.int 0, .null, .int 0]))] sz (fun (u : Unit) => [(bl, .inr (0, [.int 0, .null, .int 0]))])) (va_A [(bl, .inr (0, [.int 0, .null, .int 0]))] sz)) 0 0 (va_A [(bl, .inr (0, [.int 0, .null, .int 0]))] sz) := by
  refine z_open_v (cc := cJxc12de_init_da8c8) (maxL := 1) (own := RJxc12de) (by decide) rfl rfl (Nat.le_of_ble_eq_true rfl) ?_
  intro p e s m args below meth c Q h hnm fin
  generalize hAe : va_A [(bl, .inr (0, [.int 0, .null, .int 0]))] s.heap.size = A at h fin ⊢
  refine z_lve (lv' := [(0, .ref bl)]) rfl ?_
  refine z_aload_n h dJxc12de_init_da8c8_0 rfl 0 rfl ?_
  refine z_Iv h (C := "") (ret := none) (As := []) (st := []) (fun sz => m_Jxa1e45_init_da8c8 l g bl  sz) (cwI 0 h.ts gJxc12de_init_da8c8_Jxa1e45_init_da8c8 rfl rfl rfl (h.ts _ lk_Jxc12de_init_da8c8_iniJxa1e45_init_da8c8) (h.ts _ lk_Jxc12de_init_da8c8_m1) (h.ts _ lk_Jxc12de_init_da8c8_imJxa1e45_init_da8c8) rfl (by decide +kernel) ⟨Nat.le_of_ble_eq_true rfl, Nat.le_of_ble_eq_true rfl⟩) rfl [] [] rfl rfl rfl rfl rfl (Nat.le_of_ble_eq_true rfl) ⟨(Nat.le_of_ble_eq_true rfl), (Nat.le_of_ble_eq_true rfl)⟩ (fun _ => (Nat.le_of_ble_eq_true rfl)) (wN := fun u => [(bl, .inr (0, [.int 0, .null, .int 0]))]) (fun _ => rfl) dJxc12de_init_da8c8_1 (fun u_1 h_1 => ?_)
  refine z_aload_n h dJxc12de_init_da8c8_4 rfl 0 rfl ?_
  refine z_iconst h (v := 0) dJxc12de_init_da8c8_5 (by decide) ?_
  refine z_put h in_Jxc12de_init_da8c8_Jx4a65c 0 tyJx4a65c tyJx4a65c_ok nmJx4a65c rfl rfl 0 (by decide) lk_Jxc12de_init_da8c8_f7 rfl rfl rfl (Nat.le_of_ble_eq_true rfl) dJxc12de_init_da8c8_6 (wW' := [(bl, .inr (0, [.int 0, .null, .int 0]))]) rfl ?_
  exact fin _ _ () _ _ _ _ dJxc12de_init_da8c8_9 trivial rfl (Nat.le_of_ble_eq_true rfl) (Nat.le_of_ble_eq_true rfl)
abbrev rmJx4a65c_init_da8c8 : Room := { frames := 3, cells := 0, slots := 0, locals := 60 }
set_option maxHeartbeats 4000000 in
set_option maxRecDepth 100000 in
theorem m_Jx4a65c_init_da8c8 (l : Launch) (g : Gx) (bl : Nat)  (sz : Nat) : Met l yJx4a65c_init_da8c8 wsJx4a65c_init_da8c8 rmJx4a65c_init_da8c8 (PE g [.ref bl] sz [(bl, .inr (0, [.int 0, .null, .int 0]))] []) (va_Qv (fun (_ : Unit) => True) (BZ g [(bl, .inr (0, [.int 0, .null, .int 0]))] sz (fun (u : Unit) => [(bl, .inr (0, [.int 0, .ref g.2.2.2.2.2.1, .int 0]))])) (va_A [(bl, .inr (0, [.int 0, .null, .int 0]))] sz)) 0 0 (va_A [(bl, .inr (0, [.int 0, .null, .int 0]))] sz) := by
  refine z_openE_v (cc := cJx4a65c_init_da8c8) (maxL := 1) (own := RJx4a65c) (by decide) rfl rfl (Nat.le_of_ble_eq_true rfl) ?_
  intro p e s m args below meth c Q h hE hnm fin
  generalize hAe : va_A [(bl, .inr (0, [.int 0, .null, .int 0]))] s.heap.size = A at h hE fin ⊢
  refine z_lve (lv' := [(0, .ref bl)]) rfl ?_
  refine z_aload_n h dJx4a65c_init_da8c8_0 rfl 0 rfl ?_
  refine z_Iv h (C := "") (ret := none) (As := []) (st := []) (fun sz => m_Jxc12de_init_da8c8 l g bl  sz) (cwI 0 h.ts gJx4a65c_init_da8c8_Jxc12de_init_da8c8 rfl rfl rfl (h.ts _ lk_Jx4a65c_init_da8c8_iniJxc12de_init_da8c8) (h.ts _ lk_Jx4a65c_init_da8c8_m1) (h.ts _ lk_Jx4a65c_init_da8c8_imJxc12de_init_da8c8) rfl (by decide +kernel) ⟨Nat.le_of_ble_eq_true rfl, Nat.le_of_ble_eq_true rfl⟩) rfl [0] [] rfl rfl rfl rfl rfl (Nat.le_of_ble_eq_true rfl) ⟨(Nat.le_of_ble_eq_true rfl), (Nat.le_of_ble_eq_true rfl)⟩ (fun _ => (Nat.le_of_ble_eq_true rfl)) (wN := fun u => [(bl, .inr (0, [.int 0, .null, .int 0]))]) (fun _ => rfl) dJx4a65c_init_da8c8_1 (fun u_1 h_1 => ?_)
  refine z_aload_n h dJx4a65c_init_da8c8_4 rfl 0 rfl ?_
  refine z_gets h hE lk_Jx4a65c_init_da8c8_f39 dJx4a65c_init_da8c8_5 ?_
  refine z_put h in_Jx4a65c_init_da8c8_Jx4a65c 0 tyJx4a65c tyJx4a65c_ok nmJx4a65c rfl rfl 1 (by decide) lk_Jx4a65c_init_da8c8_f9 rfl rfl rfl (Nat.le_of_ble_eq_true rfl) dJx4a65c_init_da8c8_8 (wW' := [(bl, .inr (0, [.int 0, .ref g.2.2.2.2.2.1, .int 0]))]) rfl ?_
  exact fin _ _ () _ _ _ _ dJx4a65c_init_da8c8_11 trivial rfl (Nat.le_of_ble_eq_true rfl) (Nat.le_of_ble_eq_true rfl)
abbrev rmX3_init : Room := { frames := 4, cells := 8, slots := 600, locals := 80 }
set_option maxHeartbeats 4000000 in
set_option maxRecDepth 100000 in
theorem m_X3_init (l : Launch) (g : Gx) (pn : Nat)  (sz : Nat) : Met l yX3_init wsX3_init rmX3_init (PE g [.ref pn] sz [(pn, .inr (4, [.null, .null, .null, .null, .null, .null, .int 0, .int 0]))] []) (va_Qv (fun (_ : Nat → Nat) => True) (BZ g [(pn, .inr (4, [.null, .null, .null, .null, .null, .null, .int 0, .int 0]))] sz (fun (u : Nat → Nat) => [(pn, .inr (4, [.ref (u 1), .ref (u 4), .ref (u 5), .ref (u 6), .ref (u 7), .ref (u 8), .int 0, .int 0])), (u 1, .inr (2, [.ref (u 2), .ref (u 3), .int 1])), (u 2, .inl (g.2.1, 100, .inl (miA 10))), (u 3, .inl (g.2.1, 10, .inl (upd (fun _ => 0) 0 7))), (u 4, .inr (0, [.int 0, .ref g.2.2.2.2.2.1, .int 0])), (u 5, .inl (g.2.2.2.1, 400, .inl (fun _ => 0))), (u 6, .inl (g.2.2.1, 12, .inr (.inl (fun _ => 0)))), (u 7, .inl (g.2.2.1, 3, .inr (.inl (fun _ => 0)))), (u 8, .inl (g.2.1, 16, .inl (fun _ => 0)))])) (va_A [(pn, .inr (4, [.null, .null, .null, .null, .null, .null, .int 0, .int 0]))] sz)) 8 600 (va_A [(pn, .inr (4, [.null, .null, .null, .null, .null, .null, .int 0, .int 0]))] sz) := by
  refine z_openE_v (cc := cX3_init) (maxL := 1) (own := RX3) (by decide) rfl rfl (Nat.le_of_ble_eq_true rfl) ?_
  intro p e s m args below meth c Q h hE hnm fin
  generalize hAe : va_A [(pn, .inr (4, [.null, .null, .null, .null, .null, .null, .int 0, .int 0]))] s.heap.size = A at h hE fin ⊢
  refine z_lve (lv' := [(0, .ref pn)]) rfl ?_
  refine z_aload_n h dX3_init_0 rfl 0 rfl ?_
  refine z_objInit h lk_X3_init_m3 lk_X3_init_oi lk_X3_init_oc dX3_init_1 (Nat.le_of_ble_eq_true rfl) (Nat.le_of_ble_eq_true rfl) ?_
  refine z_aload_n h dX3_init_4 rfl 0 rfl ?_
  refine z_new (ci := 2) h in_X3_init_X1 tyX1 tyX1_ok lk_X3_init_cl9 lk_X3_init_isX1 lk_X3_init_iniX1 rfl (fs := [.null, .null, .int 0]) (by decide +kernel) (Nat.le_of_ble_eq_true rfl) (Nat.le_of_ble_eq_true rfl) dX3_init_5 (fun q1 => ?_)
  refine z_ws (wW' := [(pn, .inr (4, [.null, .null, .null, .null, .null, .null, .int 0, .int 0])), (q1, .inr (2, [.null, .null, .int 0]))]) rfl rfl ?_
  refine z_dup h dX3_init_8 rfl ?_
  refine z_Iv h (C := "") (ret := none) (As := []) (st := [.ref q1, .ref pn]) (fun sz => m_X1_init l g q1  sz) (cwI 0 h.ts gX3_init_X1_init rfl rfl rfl (h.ts _ lk_X3_init_iniX1_init) (h.ts _ lk_X3_init_m11) (h.ts _ lk_X3_init_imX1_init) rfl (by decide +kernel) ⟨Nat.le_of_ble_eq_true rfl, Nat.le_of_ble_eq_true rfl⟩) rfl [1] [] rfl rfl rfl rfl rfl (Nat.le_of_ble_eq_true rfl) ⟨(Nat.le_of_ble_eq_true rfl), (Nat.le_of_ble_eq_true rfl)⟩ (fun _ => (Nat.le_of_ble_eq_true rfl)) (wN := fun u => [(pn, .inr (4, [.null, .null, .null, .null, .null, .null, .int 0, .int 0])), (q1, .inr (2, [.ref u.1, .ref u.2, .int 1])), (u.1, .inl (g.2.1, 100, .inl (miA 10))), (u.2, .inl (g.2.1, 10, .inl (upd (fun _ => 0) 0 7)))]) (fun _ => rfl) dX3_init_9 (fun u_9 h_9 => ?_)
  obtain ⟨mi_9, ti_9⟩ := u_9
  refine z_ws (wW' := [(pn, .inr (4, [.null, .null, .null, .null, .null, .null, .int 0, .int 0])), (q1, .inr (2, [.ref mi_9, .ref ti_9, .int 1])), (mi_9, .inl (g.2.1, 100, .inl (miA 10))), (ti_9, .inl (g.2.1, 10, .inl (upd (fun _ => 0) 0 7)))]) rfl rfl ?_
  refine z_putF h in_X3_init_X3 0 tyX3 tyX3_ok nmX3 rfl rfl 0 (by decide) lk_X3_init_f12 rfl hnm rfl rfl rfl (Nat.le_of_ble_eq_true rfl) dX3_init_12 (wW' := [(pn, .inr (4, [.ref q1, .null, .null, .null, .null, .null, .int 0, .int 0])), (q1, .inr (2, [.ref mi_9, .ref ti_9, .int 1])), (mi_9, .inl (g.2.1, 100, .inl (miA 10))), (ti_9, .inl (g.2.1, 10, .inl (upd (fun _ => 0) 0 7)))]) rfl ?_
  refine z_aload_n h dX3_init_15 rfl 0 rfl ?_
  refine z_new (ci := 0) h in_X3_init_Jx4a65c tyJx4a65c tyJx4a65c_ok lk_X3_init_cl16 lk_X3_init_isJx4a65c lk_X3_init_iniJx4a65c rfl (fs := [.int 0, .null, .int 0]) (by decide +kernel) (Nat.le_of_ble_eq_true rfl) (Nat.le_of_ble_eq_true rfl) dX3_init_16 (fun q4 => ?_)
  refine z_ws (wW' := [(pn, .inr (4, [.ref q1, .null, .null, .null, .null, .null, .int 0, .int 0])), (q1, .inr (2, [.ref mi_9, .ref ti_9, .int 1])), (mi_9, .inl (g.2.1, 100, .inl (miA 10))), (ti_9, .inl (g.2.1, 10, .inl (upd (fun _ => 0) 0 7))), (q4, .inr (0, [.int 0, .null, .int 0]))]) rfl rfl ?_
  refine z_dup h dX3_init_19 rfl ?_
  refine z_IvE h hE (As := []) (st := [.ref q4, .ref pn]) (fun sz => m_Jx4a65c_init_da8c8 l g q4  sz) (cwI 0 h.ts gX3_init_Jx4a65c_init_da8c8 rfl rfl rfl (h.ts _ lk_X3_init_iniJx4a65c_init_da8c8) (h.ts _ lk_X3_init_m18) (h.ts _ lk_X3_init_imJx4a65c_init_da8c8) rfl (by decide +kernel) ⟨Nat.le_of_ble_eq_true rfl, Nat.le_of_ble_eq_true rfl⟩) rfl [4] [] rfl rfl rfl rfl rfl (Nat.le_of_ble_eq_true rfl) ⟨(Nat.le_of_ble_eq_true rfl), (Nat.le_of_ble_eq_true rfl)⟩ (fun _ => (Nat.le_of_ble_eq_true rfl)) (wN := fun u => [(pn, .inr (4, [.ref q1, .null, .null, .null, .null, .null, .int 0, .int 0])), (q1, .inr (2, [.ref mi_9, .ref ti_9, .int 1])), (mi_9, .inl (g.2.1, 100, .inl (miA 10))), (ti_9, .inl (g.2.1, 10, .inl (upd (fun _ => 0) 0 7))), (q4, .inr (0, [.int 0, .ref g.2.2.2.2.2.1, .int 0]))]) (fun _ => rfl) dX3_init_20 (fun u_20 h_20 => ?_)
  refine z_putF h in_X3_init_X3 0 tyX3 tyX3_ok nmX3 rfl rfl 1 (by decide) lk_X3_init_f19 rfl hnm rfl rfl rfl (Nat.le_of_ble_eq_true rfl) dX3_init_23 (wW' := [(pn, .inr (4, [.ref q1, .ref q4, .null, .null, .null, .null, .int 0, .int 0])), (q1, .inr (2, [.ref mi_9, .ref ti_9, .int 1])), (mi_9, .inl (g.2.1, 100, .inl (miA 10))), (ti_9, .inl (g.2.1, 10, .inl (upd (fun _ => 0) 0 7))), (q4, .inr (0, [.int 0, .ref g.2.2.2.2.2.1, .int 0]))]) rfl ?_
  refine z_aload_n h dX3_init_26 rfl 0 rfl ?_
  refine z_sipush h (v := 400) dX3_init_27 (by decide) ?_
  refine z_newa h ac_X3_init_Z (ty := .boolean) rfl (t0 := 2) rfl (fun C q => by cases q) (a0 := (400, .inl (fun _ => 0))) (fun cA => by rw [vp_cell_i]; rfl) (by decide) (N' := 400) (by decide) (by decide) (Nat.le_of_ble_eq_true rfl) (Nat.le_of_ble_eq_true rfl) dX3_init_30 (fun q5 => ?_)
  refine z_ws (wW' := [(pn, .inr (4, [.ref q1, .ref q4, .null, .null, .null, .null, .int 0, .int 0])), (q1, .inr (2, [.ref mi_9, .ref ti_9, .int 1])), (mi_9, .inl (g.2.1, 100, .inl (miA 10))), (ti_9, .inl (g.2.1, 10, .inl (upd (fun _ => 0) 0 7))), (q4, .inr (0, [.int 0, .ref g.2.2.2.2.2.1, .int 0])), (q5, .inl (g.2.2.2.1, 400, .inl (fun _ => 0)))]) rfl rfl ?_
  refine z_putF h in_X3_init_X3 0 tyX3 tyX3_ok nmX3 rfl rfl 2 (by decide) lk_X3_init_f23 rfl hnm rfl rfl rfl (Nat.le_of_ble_eq_true rfl) dX3_init_32 (wW' := [(pn, .inr (4, [.ref q1, .ref q4, .ref q5, .null, .null, .null, .int 0, .int 0])), (q1, .inr (2, [.ref mi_9, .ref ti_9, .int 1])), (mi_9, .inl (g.2.1, 100, .inl (miA 10))), (ti_9, .inl (g.2.1, 10, .inl (upd (fun _ => 0) 0 7))), (q4, .inr (0, [.int 0, .ref g.2.2.2.2.2.1, .int 0])), (q5, .inl (g.2.2.2.1, 400, .inl (fun _ => 0)))]) rfl ?_
  refine z_aload_n h dX3_init_35 rfl 0 rfl ?_
  refine z_bipush h (v := 12) dX3_init_36 (by decide) ?_
  refine z_newa h ac_X3_init_J (ty := .long) rfl (t0 := 1) rfl (fun C q => by cases q) (a0 := (12, .inr (.inl (fun _ => 0)))) (fun cA => by rw [vp_cell_l]; rfl) (by decide) (N' := 12) (by decide) (by decide) (Nat.le_of_ble_eq_true rfl) (Nat.le_of_ble_eq_true rfl) dX3_init_38 (fun q6 => ?_)
  refine z_ws (wW' := [(pn, .inr (4, [.ref q1, .ref q4, .ref q5, .null, .null, .null, .int 0, .int 0])), (q1, .inr (2, [.ref mi_9, .ref ti_9, .int 1])), (mi_9, .inl (g.2.1, 100, .inl (miA 10))), (ti_9, .inl (g.2.1, 10, .inl (upd (fun _ => 0) 0 7))), (q4, .inr (0, [.int 0, .ref g.2.2.2.2.2.1, .int 0])), (q5, .inl (g.2.2.2.1, 400, .inl (fun _ => 0))), (q6, .inl (g.2.2.1, 12, .inr (.inl (fun _ => 0))))]) rfl rfl ?_
  refine z_putF h in_X3_init_X3 0 tyX3 tyX3_ok nmX3 rfl rfl 3 (by decide) lk_X3_init_f27 rfl hnm rfl rfl rfl (Nat.le_of_ble_eq_true rfl) dX3_init_40 (wW' := [(pn, .inr (4, [.ref q1, .ref q4, .ref q5, .ref q6, .null, .null, .int 0, .int 0])), (q1, .inr (2, [.ref mi_9, .ref ti_9, .int 1])), (mi_9, .inl (g.2.1, 100, .inl (miA 10))), (ti_9, .inl (g.2.1, 10, .inl (upd (fun _ => 0) 0 7))), (q4, .inr (0, [.int 0, .ref g.2.2.2.2.2.1, .int 0])), (q5, .inl (g.2.2.2.1, 400, .inl (fun _ => 0))), (q6, .inl (g.2.2.1, 12, .inr (.inl (fun _ => 0))))]) rfl ?_
  refine z_aload_n h dX3_init_43 rfl 0 rfl ?_
  refine z_iconst h (v := 3) dX3_init_44 (by decide) ?_
  refine z_newa h ac_X3_init_J (ty := .long) rfl (t0 := 1) rfl (fun C q => by cases q) (a0 := (3, .inr (.inl (fun _ => 0)))) (fun cA => by rw [vp_cell_l]; rfl) (by decide) (N' := 3) (by decide) (by decide) (Nat.le_of_ble_eq_true rfl) (Nat.le_of_ble_eq_true rfl) dX3_init_45 (fun q7 => ?_)
  refine z_ws (wW' := [(pn, .inr (4, [.ref q1, .ref q4, .ref q5, .ref q6, .null, .null, .int 0, .int 0])), (q1, .inr (2, [.ref mi_9, .ref ti_9, .int 1])), (mi_9, .inl (g.2.1, 100, .inl (miA 10))), (ti_9, .inl (g.2.1, 10, .inl (upd (fun _ => 0) 0 7))), (q4, .inr (0, [.int 0, .ref g.2.2.2.2.2.1, .int 0])), (q5, .inl (g.2.2.2.1, 400, .inl (fun _ => 0))), (q6, .inl (g.2.2.1, 12, .inr (.inl (fun _ => 0)))), (q7, .inl (g.2.2.1, 3, .inr (.inl (fun _ => 0))))]) rfl rfl ?_
  refine z_putF h in_X3_init_X3 0 tyX3 tyX3_ok nmX3 rfl rfl 4 (by decide) lk_X3_init_f31 rfl hnm rfl rfl rfl (Nat.le_of_ble_eq_true rfl) dX3_init_47 (wW' := [(pn, .inr (4, [.ref q1, .ref q4, .ref q5, .ref q6, .ref q7, .null, .int 0, .int 0])), (q1, .inr (2, [.ref mi_9, .ref ti_9, .int 1])), (mi_9, .inl (g.2.1, 100, .inl (miA 10))), (ti_9, .inl (g.2.1, 10, .inl (upd (fun _ => 0) 0 7))), (q4, .inr (0, [.int 0, .ref g.2.2.2.2.2.1, .int 0])), (q5, .inl (g.2.2.2.1, 400, .inl (fun _ => 0))), (q6, .inl (g.2.2.1, 12, .inr (.inl (fun _ => 0)))), (q7, .inl (g.2.2.1, 3, .inr (.inl (fun _ => 0))))]) rfl ?_
  refine z_aload_n h dX3_init_50 rfl 0 rfl ?_
  refine z_bipush h (v := 16) dX3_init_51 (by decide) ?_
  refine z_newa h ac_X3_init_I (ty := .int) rfl (t0 := 0) rfl (fun C q => by cases q) (a0 := (16, .inl (fun _ => 0))) (fun cA => by rw [vp_cell_i]; rfl) (by decide) (N' := 16) (by decide) (by decide) (Nat.le_of_ble_eq_true rfl) (Nat.le_of_ble_eq_true rfl) dX3_init_53 (fun q8 => ?_)
  refine z_ws (wW' := [(pn, .inr (4, [.ref q1, .ref q4, .ref q5, .ref q6, .ref q7, .null, .int 0, .int 0])), (q1, .inr (2, [.ref mi_9, .ref ti_9, .int 1])), (mi_9, .inl (g.2.1, 100, .inl (miA 10))), (ti_9, .inl (g.2.1, 10, .inl (upd (fun _ => 0) 0 7))), (q4, .inr (0, [.int 0, .ref g.2.2.2.2.2.1, .int 0])), (q5, .inl (g.2.2.2.1, 400, .inl (fun _ => 0))), (q6, .inl (g.2.2.1, 12, .inr (.inl (fun _ => 0)))), (q7, .inl (g.2.2.1, 3, .inr (.inl (fun _ => 0)))), (q8, .inl (g.2.1, 16, .inl (fun _ => 0)))]) rfl rfl ?_
  refine z_putF h in_X3_init_X3 0 tyX3 tyX3_ok nmX3 rfl rfl 5 (by decide) lk_X3_init_f34 rfl hnm rfl rfl rfl (Nat.le_of_ble_eq_true rfl) dX3_init_55 (wW' := [(pn, .inr (4, [.ref q1, .ref q4, .ref q5, .ref q6, .ref q7, .ref q8, .int 0, .int 0])), (q1, .inr (2, [.ref mi_9, .ref ti_9, .int 1])), (mi_9, .inl (g.2.1, 100, .inl (miA 10))), (ti_9, .inl (g.2.1, 10, .inl (upd (fun _ => 0) 0 7))), (q4, .inr (0, [.int 0, .ref g.2.2.2.2.2.1, .int 0])), (q5, .inl (g.2.2.2.1, 400, .inl (fun _ => 0))), (q6, .inl (g.2.2.1, 12, .inr (.inl (fun _ => 0)))), (q7, .inl (g.2.2.1, 3, .inr (.inl (fun _ => 0)))), (q8, .inl (g.2.1, 16, .inl (fun _ => 0)))]) rfl ?_
  refine z_aload_n h dX3_init_58 rfl 0 rfl ?_
  refine z_iconst h (v := 0) dX3_init_59 (by decide) ?_
  refine z_put h in_X3_init_X3 0 tyX3 tyX3_ok nmX3 rfl rfl 6 (by decide) lk_X3_init_f38 rfl rfl rfl (Nat.le_of_ble_eq_true rfl) dX3_init_60 (wW' := [(pn, .inr (4, [.ref q1, .ref q4, .ref q5, .ref q6, .ref q7, .ref q8, .int 0, .int 0])), (q1, .inr (2, [.ref mi_9, .ref ti_9, .int 1])), (mi_9, .inl (g.2.1, 100, .inl (miA 10))), (ti_9, .inl (g.2.1, 10, .inl (upd (fun _ => 0) 0 7))), (q4, .inr (0, [.int 0, .ref g.2.2.2.2.2.1, .int 0])), (q5, .inl (g.2.2.2.1, 400, .inl (fun _ => 0))), (q6, .inl (g.2.2.1, 12, .inr (.inl (fun _ => 0)))), (q7, .inl (g.2.2.1, 3, .inr (.inl (fun _ => 0)))), (q8, .inl (g.2.1, 16, .inl (fun _ => 0)))]) rfl ?_
  refine z_aload_n h dX3_init_63 rfl 0 rfl ?_
  refine z_iconst h (v := 0) dX3_init_64 (by decide) ?_
  refine z_put h in_X3_init_X3 0 tyX3 tyX3_ok nmX3 rfl rfl 7 (by decide) lk_X3_init_f42 rfl rfl rfl (Nat.le_of_ble_eq_true rfl) dX3_init_65 (wW' := [(pn, .inr (4, [.ref q1, .ref q4, .ref q5, .ref q6, .ref q7, .ref q8, .int 0, .int 0])), (q1, .inr (2, [.ref mi_9, .ref ti_9, .int 1])), (mi_9, .inl (g.2.1, 100, .inl (miA 10))), (ti_9, .inl (g.2.1, 10, .inl (upd (fun _ => 0) 0 7))), (q4, .inr (0, [.int 0, .ref g.2.2.2.2.2.1, .int 0])), (q5, .inl (g.2.2.2.1, 400, .inl (fun _ => 0))), (q6, .inl (g.2.2.1, 12, .inr (.inl (fun _ => 0)))), (q7, .inl (g.2.2.1, 3, .inr (.inl (fun _ => 0)))), (q8, .inl (g.2.1, 16, .inl (fun _ => 0)))]) rfl ?_
  exact fin _ _ (fun i => if i = 1 then q1 else if i = 2 then mi_9 else if i = 3 then ti_9 else if i = 4 then q4 else if i = 5 then q5 else if i = 6 then q6 else if i = 7 then q7 else q8) _ _ _ _ dX3_init_68 trivial rfl (Nat.le_of_ble_eq_true rfl) (Nat.le_of_ble_eq_true rfl)
