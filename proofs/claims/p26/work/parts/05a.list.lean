/-- an index of n things, a number from a to b -/
def okI (n : Nat) (x : Int32) : Bool := decide (0 ≤ x.toInt ∧ x.toInt < n)
def okR (a b : Int) (x : Int32) : Bool := decide (a ≤ x.toInt ∧ x.toInt ≤ b)
theorem i32_lt {x y : Int32} : x < y ↔ x.toInt < y.toInt := Int32.lt_iff_toInt_lt
theorem i32_le {x y : Int32} : x ≤ y ↔ x.toInt ≤ y.toInt := Int32.le_iff_toInt_le
theorem okI_of {n : Nat} {x : Int32} (h : okI n x = true) (hn : n < 2 ^ 31) : ∃ j, j < n ∧ x = nI j := by
  have h1 := of_decide_eq_true h
  exact vp_in_of (vp_in_iff.mpr h1) hn
theorem okI_nI {n j : Nat} (h : j < n) (hn : n < 2 ^ 31) : okI n (nI j) = true := by
  refine decide_eq_true ?_
  rw [nI_toInt (by omega)]
  omega
theorem okI_neg {n : Nat} {x : Int32} (h : x < 0) : okI n x = false := by
  refine decide_eq_false fun q => ?_
  have h1 := i32_lt.mp h
  have h2 : (0 : Int32).toInt = 0 := rfl
  omega
theorem okI_ge {n : Nat} {x : Int32} (h : nI n ≤ x) (hn : n < 2 ^ 31) : okI n x = false := by
  refine decide_eq_false fun q => ?_
  have h1 := i32_le.mp h
  rw [nI_toInt hn] at h1
  omega
theorem okI_in {n : Nat} {x : Int32} (h : ¬ x < 0) (h2 : ¬ nI n ≤ x) (hn : n < 2 ^ 31) : okI n x = true := by
  refine decide_eq_true ?_
  have h1 : ¬ x.toInt < (0 : Int32).toInt := fun q => h (i32_lt.mpr q)
  have h3 : ¬ (nI n).toInt ≤ x.toInt := fun q => h2 (i32_le.mpr q)
  rw [nI_toInt hn] at h3
  have h0 : (0 : Int32).toInt = 0 := rfl
  omega
theorem okR_lo {a b x : Int32} (h : x < a) : okR a.toInt b.toInt x = false := by
  refine decide_eq_false fun q => ?_
  have h1 := i32_lt.mp h
  omega
theorem okR_hi {a b x : Int32} (h : b < x) : okR a.toInt b.toInt x = false := by
  refine decide_eq_false fun q => ?_
  have h1 := i32_lt.mp h
  omega
theorem okR_in {a b x : Int32} (h : ¬ x < a) (h2 : ¬ b < x) : okR a.toInt b.toInt x = true := by
  refine decide_eq_true ?_
  have h1 : ¬ x.toInt < a.toInt := fun q => h (i32_lt.mpr q)
  have h3 : ¬ b.toInt < x.toInt := fun q => h2 (i32_lt.mpr q)
  omega
theorem elf_at {n i : Nat} {ad : Nat → Nat} (h : i < n) : elf n ad i = some (ad i) := if_pos h
theorem in_Jx4a65c_size_8abf5_Jx4a65c : ∀ w ∈ wsJx4a65c0, w ∈ wsJx4a65c_size_8abf5 := by decide +kernel
theorem lk_Jx4a65c_size_8abf5_f48 : Cond.fieldLink RJx4a65c 48 (TJx4a65c 2).1 (TJx4a65c 2).2.1 (TJx4a65c 2).2.2.1 ∈ wsJx4a65c_size_8abf5 := by decide +kernel
theorem in_Jx4a65c_elementData_915e3_Jx4a65c : ∀ w ∈ wsJx4a65c0, w ∈ wsJx4a65c_elementData_915e3 := by decide +kernel
theorem lk_Jx4a65c_elementData_915e3_f9 : Cond.fieldLink RJx4a65c 9 (TJx4a65c 1).1 (TJx4a65c 1).2.1 (TJx4a65c 1).2.2.1 ∈ wsJx4a65c_elementData_915e3 := by decide +kernel
theorem in_Jx4a65c_get_915e3_Jx4a65c : ∀ w ∈ wsJx4a65c0, w ∈ wsJx4a65c_get_915e3 := by decide +kernel
theorem lk_Jx4a65c_get_915e3_f48 : Cond.fieldLink RJx4a65c 48 (TJx4a65c 2).1 (TJx4a65c 2).2.1 (TJx4a65c 2).2.2.1 ∈ wsJx4a65c_get_915e3 := by decide +kernel
abbrev rmJx4a65c_size_8abf5 : Room := { frames := 0, cells := 0, slots := 0, locals := 0 }
set_option maxHeartbeats 4000000 in
set_option maxRecDepth 100000 in
theorem m_Jx4a65c_size_8abf5 (l : Launch) (g : Gx) (bl : Nat) (mc : Int32) (ed : Nat) (n : Nat)  (sz : Nat) : Met l yJx4a65c_size_8abf5 wsJx4a65c_size_8abf5 rmJx4a65c_size_8abf5 (PZ g [.ref bl] sz [] [(bl, .inr (0, [.int mc, .ref ed, .int (nI n)]))]) (va_Qi (fun (r : Int32) (_ : Unit) => r = nI n) (BZ g [] sz (fun (u : Unit) => [])) (va_A [] sz)) 0 0 (va_A [] sz) := by
  refine z_open_i (cc := cJx4a65c_size_8abf5) (maxL := 1) (ret := .int) (own := RJx4a65c) (by decide) rfl rfl (Nat.le_of_ble_eq_true rfl) ?_
  intro p e s m args below meth c Q h hnm fin
  generalize hAe : va_A [] s.heap.size = A at h fin ⊢
  refine z_lve (lv' := [(0, .ref bl)]) rfl ?_
  refine z_aload_n h dJx4a65c_size_8abf5_0 rfl 0 rfl ?_
  refine z_get h in_Jx4a65c_size_8abf5_Jx4a65c 0 rfl rfl 2 (by decide) lk_Jx4a65c_size_8abf5_f48 rfl dJx4a65c_size_8abf5_1 ?_
  exact fin _ _ _ () _ _ _ _ dJx4a65c_size_8abf5_4 rfl rfl rfl (Nat.le_of_ble_eq_true rfl) (Nat.le_of_ble_eq_true rfl)
abbrev rmJ3_checkIndex_8e157 : Room := { frames := 0, cells := 0, slots := 0, locals := 0 }
set_option maxHeartbeats 4000000 in
set_option maxRecDepth 100000 in
theorem m_J3_checkIndex_8e157 (l : Launch) (g : Gx) (i : Nat) (n : Nat) (hi : i < n) (hn : n < 2 ^ 31) (sz : Nat) : Met l yJ3_checkIndex_8e157 wsJ3_checkIndex_8e157 rmJ3_checkIndex_8e157 (PZ g [.int (nI i), .int (nI n), .null] sz [] []) (va_Qi (fun (r : Int32) (_ : Unit) => r = nI i) (BZ g [] sz (fun (u : Unit) => [])) (va_A [] sz)) 0 0 (va_A [] sz) := by
  refine z_open_i (cc := cJ3_checkIndex_8e157) (maxL := 3) (ret := .int) (own := RJ3) (by decide) rfl rfl (Nat.le_of_ble_eq_true rfl) ?_
  intro p e s m args below meth c Q h hnm fin
  generalize hAe : va_A [] s.heap.size = A at h fin ⊢
  refine z_lve (lv' := [(0, .int (nI i)), (1, .int (nI n)), (2, .null)]) rfl ?_
  refine z_iload_n h dJ3_checkIndex_8e157_0 rfl 0 rfl ?_
  refine z_if_lt h (tgt := 9) dJ3_checkIndex_8e157_1 (by decide) (fun c_1 => absurd c_1 (nI_pos (by omega))) (fun c_1 => ?_)
  refine z_iload_n h dJ3_checkIndex_8e157_4 rfl 0 rfl ?_
  refine z_iload_n h dJ3_checkIndex_8e157_5 rfl 1 rfl ?_
  refine z_icmp_lt h (tgt := 16) dJ3_checkIndex_8e157_6 (by decide) (fun c_6 => ?_) (fun c_6 => absurd (nI_lt hi hn) c_6)
  refine z_iload_n h dJ3_checkIndex_8e157_16 rfl 0 rfl ?_
  exact fin _ _ _ () _ _ _ _ dJ3_checkIndex_8e157_17 rfl rfl rfl (Nat.le_of_ble_eq_true rfl) (Nat.le_of_ble_eq_true rfl)
abbrev rmJ15_checkIndex_7cf53 : Room := { frames := 1, cells := 0, slots := 0, locals := 22 }
set_option maxHeartbeats 4000000 in
set_option maxRecDepth 100000 in
theorem m_J15_checkIndex_7cf53 (l : Launch) (g : Gx) (i : Nat) (n : Nat) (hi : i < n) (hn : n < 2 ^ 31) (sz : Nat) : Met l yJ15_checkIndex_7cf53 wsJ15_checkIndex_7cf53 rmJ15_checkIndex_7cf53 (PZ g [.int (nI i), .int (nI n)] sz [] []) (va_Qi (fun (r : Int32) (_ : Unit) => r = nI i) (BZ g [] sz (fun (u : Unit) => [])) (va_A [] sz)) 0 0 (va_A [] sz) := by
  refine z_open_i (cc := cJ15_checkIndex_7cf53) (maxL := 2) (ret := .int) (own := RJ15) (by decide) rfl rfl (Nat.le_of_ble_eq_true rfl) ?_
  intro p e s m args below meth c Q h hnm fin
  generalize hAe : va_A [] s.heap.size = A at h fin ⊢
  refine z_lve (lv' := [(0, .int (nI i)), (1, .int (nI n))]) rfl ?_
  refine z_iload_n h dJ15_checkIndex_7cf53_0 rfl 0 rfl ?_
  refine z_iload_n h dJ15_checkIndex_7cf53_1 rfl 1 rfl ?_
  refine z_null h dJ15_checkIndex_7cf53_2 ?_
  refine z_Si h (b := 0) (C := "") (As := [.int (nI i), .int (nI n), .null]) (st := []) (fun sz => m_J3_checkIndex_8e157 l g i n hi hn sz) (va_cwS 3 h.ts gJ15_checkIndex_7cf53_J3_checkIndex_8e157 rfl rfl rfl (by decide +kernel) ⟨Nat.le_of_ble_eq_true rfl, Nat.le_of_ble_eq_true rfl⟩) rfl [] [] rfl rfl rfl rfl rfl (Nat.le_of_ble_eq_true rfl) ⟨(Nat.le_of_ble_eq_true rfl), (Nat.le_of_ble_eq_true rfl)⟩ (fun _ => (Nat.le_of_ble_eq_true rfl)) (wN := fun u => []) (fun _ => rfl) dJ15_checkIndex_7cf53_3 (fun r_3 u_3 h_3 => ?_)
  exact fin _ _ _ () _ _ _ _ dJ15_checkIndex_7cf53_6 rfl h_3 rfl (Nat.le_of_ble_eq_true rfl) (Nat.le_of_ble_eq_true rfl)
abbrev rmJx4a65c_elementData_915e3 : Room := { frames := 0, cells := 0, slots := 0, locals := 0 }
set_option maxHeartbeats 4000000 in
set_option maxRecDepth 100000 in
theorem m_Jx4a65c_elementData_915e3 (l : Launch) (g : Gx) (bl : Nat) (mc : Int32) (ed : Nat) (n : Nat) (cap : Nat) (ad : Nat → Nat) (i : Nat) (hi : i < n) (hc : n ≤ cap) (hcap : cap < 2 ^ 31) (sz : Nat) : Met l yJx4a65c_elementData_915e3 wsJx4a65c_elementData_915e3 rmJx4a65c_elementData_915e3 (PZ g [.ref bl, .int (nI i)] sz [] [(bl, .inr (0, [.int mc, .ref ed, .int (nI n)])), (ed, .inl (g.2.2.2.2.1, cap, .inr (.inr (.inr (.inr (elf n ad))))))]) (va_Qr (fun (_ : Unit) => True) (BZr g [] sz (fun (u : Unit) => []) (fun _ => ad i)) (va_A [] sz)) 0 0 (va_A [] sz) := by
  refine z_open_r (cc := cJx4a65c_elementData_915e3) (maxL := 2) (ret := (.object "java/lang/Object")) (own := RJx4a65c) (Or.inl ⟨_, rfl⟩) (by decide) rfl rfl (Nat.le_of_ble_eq_true rfl) ?_
  intro p e s m args below meth c Q h hnm fin
  generalize hAe : va_A [] s.heap.size = A at h fin ⊢
  refine z_lve (lv' := [(0, .ref bl), (1, .int (nI i))]) rfl ?_
  refine z_aload_n h dJx4a65c_elementData_915e3_0 rfl 0 rfl ?_
  refine z_get h in_Jx4a65c_elementData_915e3_Jx4a65c 0 rfl rfl 1 (by decide) lk_Jx4a65c_elementData_915e3_f9 rfl dJx4a65c_elementData_915e3_1 ?_
  refine z_iload_n h dJx4a65c_elementData_915e3_4 rfl 1 rfl ?_
  refine z_aldq h 1 rfl (vp_in_nI (by omega) (by omega)) dJx4a65c_elementData_915e3_5 (b := ad i) (by rw [nI_clamp (by omega)]; exact elf_at (by omega)) ?_
  exact fin _ _ () _ _ _ _ dJx4a65c_elementData_915e3_6 trivial rfl (Nat.le_of_ble_eq_true rfl) (Nat.le_of_ble_eq_true rfl)
abbrev rmJx4a65c_get_915e3 : Room := { frames := 2, cells := 0, slots := 0, locals := 43 }
set_option maxHeartbeats 4000000 in
set_option maxRecDepth 100000 in
theorem m_Jx4a65c_get_915e3 (l : Launch) (g : Gx) (bl : Nat) (mc : Int32) (ed : Nat) (n : Nat) (cap : Nat) (ad : Nat → Nat) (i : Nat) (hi : i < n) (hc : n ≤ cap) (hcap : cap < 2 ^ 31) (sz : Nat) : Met l yJx4a65c_get_915e3 wsJx4a65c_get_915e3 rmJx4a65c_get_915e3 (PZ g [.ref bl, .int (nI i)] sz [] [(bl, .inr (0, [.int mc, .ref ed, .int (nI n)])), (ed, .inl (g.2.2.2.2.1, cap, .inr (.inr (.inr (.inr (elf n ad))))))]) (va_Qr (fun (_ : Unit) => True) (BZr g [] sz (fun (u : Unit) => []) (fun _ => ad i)) (va_A [] sz)) 0 0 (va_A [] sz) := by
  refine z_open_r (cc := cJx4a65c_get_915e3) (maxL := 2) (ret := (.object "java/lang/Object")) (own := RJx4a65c) (Or.inl ⟨_, rfl⟩) (by decide) rfl rfl (Nat.le_of_ble_eq_true rfl) ?_
  intro p e s m args below meth c Q h hnm fin
  generalize hAe : va_A [] s.heap.size = A at h fin ⊢
  refine z_lve (lv' := [(0, .ref bl), (1, .int (nI i))]) rfl ?_
  refine z_iload_n h dJx4a65c_get_915e3_0 rfl 1 rfl ?_
  refine z_aload_n h dJx4a65c_get_915e3_1 rfl 0 rfl ?_
  refine z_get h in_Jx4a65c_get_915e3_Jx4a65c 0 rfl rfl 2 (by decide) lk_Jx4a65c_get_915e3_f48 rfl dJx4a65c_get_915e3_2 ?_
  refine z_Si h (b := 0) (C := "") (As := [.int (nI i), .int (nI n)]) (st := []) (fun sz => m_J15_checkIndex_7cf53 l g i n hi (by omega) sz) (va_cwS 2 h.ts gJx4a65c_get_915e3_J15_checkIndex_7cf53 rfl rfl rfl (by decide +kernel) ⟨Nat.le_of_ble_eq_true rfl, Nat.le_of_ble_eq_true rfl⟩) rfl [] [] rfl rfl rfl rfl rfl (Nat.le_of_ble_eq_true rfl) ⟨(Nat.le_of_ble_eq_true rfl), (Nat.le_of_ble_eq_true rfl)⟩ (fun _ => (Nat.le_of_ble_eq_true rfl)) (wN := fun u => []) (fun _ => rfl) dJx4a65c_get_915e3_5 (fun r_5 u_5 h_5 => ?_)
  refine z_pop h dJx4a65c_get_915e3_8 rfl ?_
  refine z_aload_n h dJx4a65c_get_915e3_9 rfl 0 rfl ?_
  refine z_iload_n h dJx4a65c_get_915e3_10 rfl 1 rfl ?_
  refine z_Vr h (As := [.int (nI i)]) (st := []) (fun sz => m_Jx4a65c_elementData_915e3 l g bl mc ed n cap ad i hi hc hcap sz) (cwV 1 h.ts gJx4a65c_get_915e3_Jx4a65c_elementData_915e3 rfl rfl rfl (by decide +kernel) ⟨Nat.le_of_ble_eq_true rfl, Nat.le_of_ble_eq_true rfl⟩) rfl [] [0, 1] rfl rfl rfl rfl 0 rfl rfl rfl rfl (Nat.le_of_ble_eq_true rfl) ⟨(Nat.le_of_ble_eq_true rfl), (Nat.le_of_ble_eq_true rfl)⟩ (fun _ => (Nat.le_of_ble_eq_true rfl)) (wN := fun u => []) (fun _ => rfl) dJx4a65c_get_915e3_11 (fun u_11 h_11 => ?_)
  exact fin _ _ () _ _ _ _ dJx4a65c_get_915e3_14 trivial rfl (Nat.le_of_ble_eq_true rfl) (Nat.le_of_ble_eq_true rfl)
