def bsS (fm : Nat → Int32) (B : Nat → Nat → Int32) (fa n : Nat) : Option Nat → Option Nat
  | none => some n
  | some q => if fm (fa * 10 + plc B n) < fm (fa * 10 + plc B q) then some n else some q
/-- the nearest due bin of the kind that is not done -/
def bsF (fm : Nat → Int32) (B : Nat → Nat → Int32) (dy nw : Nat) (k dn : Int32) (fa : Nat) : Nat → Option Nat
  | 0 => none
  | i + 1 => if B i 1 = k ∧ hasT dn (nI i) = 0 ∧ ¬ dueB (B i) (nI dy) (nI nw) = 0 then bsS fm B fa i (bsF fm B dy nw k dn fa i) else bsF fm B dy nw k dn fa i
def dnF (qs : Nat → Nat) : Nat → Int32
  | 0 => 0
  | t + 1 => dnF qs t ||| (1 <<< (nI (qs t) &&& 31))
def atF (B : Nat → Nat → Int32) (qs : Nat → Nat) : Nat → Nat
  | 0 => 0
  | t + 1 => plc B (qs t)
def plM (qs : Nat → Nat) (rf : Nat → Int32) : Nat → Nat → Int32
  | 0 => rf
  | t + 1 => upd (plM qs rf t) t (nI (qs t))
/-- qs is the plan, N long -/
def PLN (fm : Nat → Int32) (B : Nat → Nat → Int32) (dy nw : Nat) (k : Int32) (n : Nat) (qs : Nat → Nat) (N : Nat) : Prop :=
  N ≤ n ∧ (∀ t, t < N → qs t < n) ∧ (∀ t, t < N → bsF fm B dy nw k (dnF qs t) (atF B qs t) n = some (qs t)) ∧ bsF fm B dy nw k (dnF qs N) (atF B qs N) n = none

theorem plM_at (qs : Nat → Nat) (rf : Nat → Int32) : ∀ (t i : Nat), i < t → plM qs rf t i = nI (qs i)
  | 0, i, h => absurd h (Nat.not_lt_zero i)
  | t + 1, i, h => by
    rw [plM]
    unfold upd
    by_cases e : i = t
    · rw [if_pos e, e]
    · rw [if_neg e]
      exact plM_at qs rf t i (by omega)
theorem in_X4_makePlan_X4 : ∀ w ∈ wsX40, w ∈ wsX4_makePlan := by decide +kernel
theorem lk_X4_makePlan_f117 : Cond.fieldLink RX4 117 (TX4 19).1 (TX4 19).2.1 (TX4 19).2.2.1 ∈ wsX4_makePlan := by decide +kernel
theorem lk_X4_makePlan_f24 : Cond.fieldLink RX4 24 (TX4 7).1 (TX4 7).2.1 (TX4 7).2.2.1 ∈ wsX4_makePlan := by decide +kernel
theorem lk_X4_makePlan_f27 : Cond.fieldLink RX4 27 (TX4 8).1 (TX4 8).2.1 (TX4 8).2.2.1 ∈ wsX4_makePlan := by decide +kernel
theorem lk_X4_makePlan_f61 : Cond.fieldLink RX4 61 (TX4 20).1 (TX4 20).2.1 (TX4 20).2.2.1 ∈ wsX4_makePlan := by decide +kernel
theorem lk_X4_makePlan_f71 : Cond.fieldLink RX4 71 (TX4 6).1 (TX4 6).2.1 (TX4 6).2.2.1 ∈ wsX4_makePlan := by decide +kernel
theorem in_X4_planSize_X4 : ∀ w ∈ wsX40, w ∈ wsX4_planSize := by decide +kernel
theorem lk_X4_planSize_f117 : Cond.fieldLink RX4 117 (TX4 19).1 (TX4 19).2.1 (TX4 19).2.2.1 ∈ wsX4_planSize := by decide +kernel
theorem lk_X4_planSize_f64 : Cond.fieldLink RX4 64 (TX4 0).1 (TX4 0).2.1 (TX4 0).2.2.1 ∈ wsX4_planSize := by decide +kernel
theorem in_X4_planned_X4 : ∀ w ∈ wsX40, w ∈ wsX4_planned := by decide +kernel
theorem lk_X4_planned_f117 : Cond.fieldLink RX4 117 (TX4 19).1 (TX4 19).2.1 (TX4 19).2.2.1 ∈ wsX4_planned := by decide +kernel
theorem lk_X4_planned_f61 : Cond.fieldLink RX4 61 (TX4 20).1 (TX4 20).2.1 (TX4 20).2.2.1 ∈ wsX4_planned := by decide +kernel
theorem lk_X4_planned_f64 : Cond.fieldLink RX4 64 (TX4 0).1 (TX4 0).2.1 (TX4 0).2.2.1 ∈ wsX4_planned := by decide +kernel
abbrev rmX4_makePlan : Room := { frames := 3, cells := 0, slots := 0, locals := 64 }
set_option maxHeartbeats 4000000 in
set_option maxRecDepth 100000 in
theorem m_X4_makePlan (l : Launch) (g : Gx) (cm : Nat → Nat) (th : Int32) (pl : Nat) (dy : Nat) (n : Nat) (sn : Nat) (fm : Nat → Int32) (hf : Nat → Int32) (B : Nat → Nat → Int32) (rf : Nat → Int32) (k : Int32) (qs : Nat → Nat) (N : Nat) (hn : n ≤ 16) (hdy : dy ≤ 399) (hb : BOK n B) (hP : PLN fm B dy (nwd hf dy) k n qs N) (sz : Nat) : Met l yX4_makePlan wsX4_makePlan rmX4_makePlan (PZ g [.ref (cm 0), .int k] sz [(cm 0, .inr (5, [.int th, .int (nI pl), .ref (cm 1), .ref (cm 2), .ref (cm 3), .int (nI dy), .int (nI n), .ref (cm 4), .ref (cm 5), .ref (cm 6), .ref (cm 7), .ref (cm 8), .ref (cm 9), .ref (cm 10), .ref (cm 11), .ref (cm 12), .ref (cm 13), .ref (cm 14), .ref (cm 15), .int (nI sn), .ref (cm 16)])), (cm 16, .inl (g.2.1, 16, .inl rf))] [(cm 1, .inl (g.2.1, 100, .inl fm)), (cm 3, .inl (g.2.2.2.1, 400, .inl hf)), (cm 4, .inl (g.2.1, 16, .inl (col B 0))), (cm 5, .inl (g.2.1, 16, .inl (col B 1))), (cm 6, .inl (g.2.1, 16, .inl (col B 2))), (cm 9, .inl (g.2.1, 16, .inl (col B 5))), (cm 10, .inl (g.2.1, 16, .inl (col B 6)))]) (va_Qv (fun (_ : Unit) => True) (BZ g [(cm 0, .inr (5, [.int th, .int (nI pl), .ref (cm 1), .ref (cm 2), .ref (cm 3), .int (nI dy), .int (nI n), .ref (cm 4), .ref (cm 5), .ref (cm 6), .ref (cm 7), .ref (cm 8), .ref (cm 9), .ref (cm 10), .ref (cm 11), .ref (cm 12), .ref (cm 13), .ref (cm 14), .ref (cm 15), .int (nI sn), .ref (cm 16)])), (cm 16, .inl (g.2.1, 16, .inl rf))] sz (fun (u : Unit) => [(cm 0, .inr (5, [.int th, .int (nI pl), .ref (cm 1), .ref (cm 2), .ref (cm 3), .int (nI dy), .int (nI n), .ref (cm 4), .ref (cm 5), .ref (cm 6), .ref (cm 7), .ref (cm 8), .ref (cm 9), .ref (cm 10), .ref (cm 11), .ref (cm 12), .ref (cm 13), .ref (cm 14), .ref (cm 15), .int (nI N), .ref (cm 16)])), (cm 16, .inl (g.2.1, 16, .inl (plM qs rf N)))])) (va_A [(cm 0, .inr (5, [.int th, .int (nI pl), .ref (cm 1), .ref (cm 2), .ref (cm 3), .int (nI dy), .int (nI n), .ref (cm 4), .ref (cm 5), .ref (cm 6), .ref (cm 7), .ref (cm 8), .ref (cm 9), .ref (cm 10), .ref (cm 11), .ref (cm 12), .ref (cm 13), .ref (cm 14), .ref (cm 15), .int (nI sn), .ref (cm 16)])), (cm 16, .inl (g.2.1, 16, .inl rf))] sz)) 0 0 (va_A [(cm 0, .inr (5, [.int th, .int (nI pl), .ref (cm 1), .ref (cm 2), .ref (cm 3), .int (nI dy), .int (nI n), .ref (cm 4), .ref (cm 5), .ref (cm 6), .ref (cm 7), .ref (cm 8), .ref (cm 9), .ref (cm 10), .ref (cm 11), .ref (cm 12), .ref (cm 13), .ref (cm 14), .ref (cm 15), .int (nI sn), .ref (cm 16)])), (cm 16, .inl (g.2.1, 16, .inl rf))] sz) := by
  refine z_open_v (cc := cX4_makePlan) (maxL := 7) (own := RX4) (by decide) rfl rfl (Nat.le_of_ble_eq_true rfl) ?_
  intro p e s m args below meth c Q h hnm fin
  generalize hAe : va_A [(cm 0, .inr (5, [.int th, .int (nI pl), .ref (cm 1), .ref (cm 2), .ref (cm 3), .int (nI dy), .int (nI n), .ref (cm 4), .ref (cm 5), .ref (cm 6), .ref (cm 7), .ref (cm 8), .ref (cm 9), .ref (cm 10), .ref (cm 11), .ref (cm 12), .ref (cm 13), .ref (cm 14), .ref (cm 15), .int (nI sn), .ref (cm 16)])), (cm 16, .inl (g.2.1, 16, .inl rf))] s.heap.size = A at h fin ⊢
  refine z_lve (lv' := [(0, .ref (cm 0)), (1, .int k)]) rfl ?_
  obtain ⟨hP1, hP2, hP3, hP4⟩ := hP
  refine z_aload_n h dX4_makePlan_0 rfl 0 rfl ?_
  refine z_iconst h (v := 0) dX4_makePlan_1 (by decide) ?_
  refine z_put h in_X4_makePlan_X4 0 tyX4 tyX4_ok nmX4 rfl rfl 19 (by decide) lk_X4_makePlan_f117 rfl rfl rfl (Nat.le_of_ble_eq_true rfl) dX4_makePlan_2 (wW' := [(cm 0, .inr (5, [.int th, .int (nI pl), .ref (cm 1), .ref (cm 2), .ref (cm 3), .int (nI dy), .int (nI n), .ref (cm 4), .ref (cm 5), .ref (cm 6), .ref (cm 7), .ref (cm 8), .ref (cm 9), .ref (cm 10), .ref (cm 11), .ref (cm 12), .ref (cm 13), .ref (cm 14), .ref (cm 15), .int 0, .ref (cm 16)])), (cm 16, .inl (g.2.1, 16, .inl rf))]) rfl ?_
  refine z_iconst h (v := 0) dX4_makePlan_5 (by decide) ?_
  refine z_istore_n h dX4_makePlan_6 rfl (by decide) (lv' := [(0, .ref (cm 0)), (1, .int k), (2, .int 0)]) [1, 2, 0] rfl ?_
  refine z_iconst h (v := 0) dX4_makePlan_7 (by decide) ?_
  refine z_istore_n h dX4_makePlan_8 rfl (by decide) (lv' := [(0, .ref (cm 0)), (1, .int k), (2, .int 0), (3, .int 0)]) [1, 2, 3, 0] rfl ?_
  refine z_iconst h (v := 1) dX4_makePlan_9 (by decide) ?_
  refine z_istore h dX4_makePlan_10 (by decide) (lv' := [(0, .ref (cm 0)), (1, .int k), (2, .int 0), (3, .int 0), (4, .int 1)]) [1, 2, 3, 4, 0] rfl ?_
  have L12 : ∀ (L12n t : Nat) , t ≤ N → N < L12n + t → atF B qs t < 10 → Z p l e rmX4_makePlan s m args below meth c Q A g 7 12 [(0, .ref (cm 0)), (1, .int k), (2, .int (dnF qs t)), (3, .int (nI (atF B qs t))), (4, .int 1)] [] [(cm 0, .inr (5, [.int th, .int (nI pl), .ref (cm 1), .ref (cm 2), .ref (cm 3), .int (nI dy), .int (nI n), .ref (cm 4), .ref (cm 5), .ref (cm 6), .ref (cm 7), .ref (cm 8), .ref (cm 9), .ref (cm 10), .ref (cm 11), .ref (cm 12), .ref (cm 13), .ref (cm 14), .ref (cm 15), .int (nI t), .ref (cm 16)])), (cm 16, .inl (g.2.1, 16, .inl (plM qs rf t)))] [(cm 1, .inl (g.2.1, 100, .inl fm)), (cm 3, .inl (g.2.2.2.1, 400, .inl hf)), (cm 4, .inl (g.2.1, 16, .inl (col B 0))), (cm 5, .inl (g.2.1, 16, .inl (col B 1))), (cm 6, .inl (g.2.1, 16, .inl (col B 2))), (cm 9, .inl (g.2.1, 16, .inl (col B 5))), (cm 10, .inl (g.2.1, 16, .inl (col B 6)))] 0 0 := by
    intro L12n
    induction L12n with
    | zero => intro t  ht hL12 hat; exact absurd hL12 (by omega)
    | succ L12n ihL12 =>
      intro t  ht hL12 hat
      refine z_iload h dX4_makePlan_12 4 rfl ?_
      refine z_if_eq h (tgt := 167) dX4_makePlan_14 (by decide) (fun c_14 => absurd c_14 (by decide)) (fun c_14 => ?_)
      refine z_iconst h (v := (-1)) dX4_makePlan_17 (by decide) ?_
      refine z_istore h dX4_makePlan_18 (by decide) (lv' := [(0, .ref (cm 0)), (1, .int k), (2, .int (dnF qs t)), (3, .int (nI (atF B qs t))), (4, .int 1), (5, .int (-1))]) [1, 2, 3, 4, 5, 0] rfl ?_
      refine z_iconst h (v := 0) dX4_makePlan_20 (by decide) ?_
      refine z_istore h dX4_makePlan_21 (by decide) (lv' := [(0, .ref (cm 0)), (1, .int k), (2, .int (dnF qs t)), (3, .int (nI (atF B qs t))), (4, .int 1), (5, .int (-1)), (6, .int 0)]) [1, 2, 3, 4, 5, 6, 0] rfl ?_
      have L23 : ∀ (L23n i : Nat) (bo : Option Nat), i ≤ n → n < L23n + i → bo = bsF fm B dy (nwd hf dy) k (dnF qs t) (atF B qs t) i → (∀ q, bo = some q → q < i) → Z p l e rmX4_makePlan s m args below meth c Q A g 7 23 [(0, .ref (cm 0)), (1, .int k), (2, .int (dnF qs t)), (3, .int (nI (atF B qs t))), (4, .int 1), (5, .int (obI bo)), (6, .int (nI i))] [] [(cm 0, .inr (5, [.int th, .int (nI pl), .ref (cm 1), .ref (cm 2), .ref (cm 3), .int (nI dy), .int (nI n), .ref (cm 4), .ref (cm 5), .ref (cm 6), .ref (cm 7), .ref (cm 8), .ref (cm 9), .ref (cm 10), .ref (cm 11), .ref (cm 12), .ref (cm 13), .ref (cm 14), .ref (cm 15), .int (nI t), .ref (cm 16)])), (cm 16, .inl (g.2.1, 16, .inl (plM qs rf t)))] [(cm 1, .inl (g.2.1, 100, .inl fm)), (cm 3, .inl (g.2.2.2.1, 400, .inl hf)), (cm 4, .inl (g.2.1, 16, .inl (col B 0))), (cm 5, .inl (g.2.1, 16, .inl (col B 1))), (cm 6, .inl (g.2.1, 16, .inl (col B 2))), (cm 9, .inl (g.2.1, 16, .inl (col B 5))), (cm 10, .inl (g.2.1, 16, .inl (col B 6)))] 0 0 := by
        intro L23n
        induction L23n with
        | zero => intro i bo hi hL23 e1 hq; exact absurd hL23 (by omega)
        | succ L23n ihL23 =>
          intro i bo hi hL23 e1 hq
          refine z_iload h dX4_makePlan_23 6 rfl ?_
          refine z_aload_n h dX4_makePlan_25 rfl 0 rfl ?_
          refine z_get h in_X4_makePlan_X4 0 rfl rfl 6 (by decide) lk_X4_makePlan_f71 rfl dX4_makePlan_26 ?_
          refine z_icmp_ge h (tgt := 107) dX4_makePlan_29 (by decide) (fun c_29 => ?_) (fun c_29 => ?_)
          · have hin : i = n := by have := ge_t (a := i) (b := n) c_29 (by omega) (by omega); omega
            refine z_iload h dX4_makePlan_107 5 rfl ?_
            refine z_iconst h (v := (-1)) dX4_makePlan_109 (by decide) ?_
            refine z_icmp_eq h (tgt := 117) dX4_makePlan_110 (by decide) (fun c_110 => ?_) (fun c_110 => ?_)
            · have hbo := obI_eq (fun q h => by have := hq q h; omega) c_110
              have htN : t = N := by rcases Nat.lt_or_ge t N with q | q; exact absurd ((hP3 t q).symm.trans (by rw [← hin, ← e1, hbo])) (by simp); omega
              subst htN
              refine z_iconst h (v := 0) dX4_makePlan_117 (by decide) ?_
              refine z_istore h dX4_makePlan_118 (by decide) (lv' := [(0, .ref (cm 0)), (1, .int k), (2, .int (dnF qs t)), (3, .int (nI (atF B qs t))), (4, .int 0), (5, .int (obI bo)), (6, .int (nI i))]) [1, 2, 3, 4, 0, 5, 6] rfl ?_
              refine z_iload h dX4_makePlan_120 4 rfl ?_
              refine z_if_ne h (tgt := 128) dX4_makePlan_122 (by decide) (fun c_122 => absurd c_122 (by decide)) (fun c_122 => ?_)
              refine z_goto h (tgt := 12) dX4_makePlan_125 (by decide) ?_
              refine z_iload h dX4_makePlan_12 4 rfl ?_
              refine z_if_eq h (tgt := 167) dX4_makePlan_14 (by decide) (fun c_14 => ?_) (fun c_14 => absurd c_14 (by decide))
              exact fin _ _ () _ _ _ _ dX4_makePlan_167 trivial rfl (Nat.le_of_ble_eq_true rfl) (Nat.le_of_ble_eq_true rfl)
            · have htN : t < N := by rcases Nat.lt_or_ge t N with q | q; exact q; exact absurd (by rw [e1, hin, show t = N by omega, hP4]; rfl) c_110
              have hbo : bo = some (qs t) := by rw [e1, hin]; exact hP3 t htN
              subst hbo
              have hqn := hP2 t htN
              have hbt := hb _ hqn
              refine z_lve (lv' := [(0, .ref (cm 0)), (1, .int k), (2, .int (dnF qs t)), (3, .int (nI (atF B qs t))), (4, .int 1), (5, .int (nI (qs t))), (6, .int (nI i))]) rfl ?_
              refine z_iconst h (v := 1) dX4_makePlan_113 (by decide) ?_
              refine z_goto h (tgt := 118) dX4_makePlan_114 (by decide) ?_
              refine z_istore h dX4_makePlan_118 (by decide) (lv' := [(0, .ref (cm 0)), (1, .int k), (2, .int (dnF qs t)), (3, .int (nI (atF B qs t))), (4, .int 1), (5, .int (nI (qs t))), (6, .int (nI i))]) [1, 2, 3, 4, 0, 5, 6] rfl ?_
              refine z_iload h dX4_makePlan_120 4 rfl ?_
              refine z_if_ne h (tgt := 128) dX4_makePlan_122 (by decide) (fun c_122 => ?_) (fun c_122 => absurd c_122 (by decide))
              refine z_aload_n h dX4_makePlan_128 rfl 0 rfl ?_
              refine z_get h in_X4_makePlan_X4 0 rfl rfl 20 (by decide) lk_X4_makePlan_f61 rfl dX4_makePlan_129 ?_
              refine z_aload_n h dX4_makePlan_132 rfl 0 rfl ?_
              refine z_get h in_X4_makePlan_X4 0 rfl rfl 19 (by decide) lk_X4_makePlan_f117 rfl dX4_makePlan_133 ?_
              refine z_iload h dX4_makePlan_136 5 rfl ?_
              refine z_iast h (j := t) 1 rfl (vp_in_nI (by omega) (by omega)) (by rw [nI_clamp (by omega)]) dX4_makePlan_138 (wW' := [(cm 0, .inr (5, [.int th, .int (nI pl), .ref (cm 1), .ref (cm 2), .ref (cm 3), .int (nI dy), .int (nI n), .ref (cm 4), .ref (cm 5), .ref (cm 6), .ref (cm 7), .ref (cm 8), .ref (cm 9), .ref (cm 10), .ref (cm 11), .ref (cm 12), .ref (cm 13), .ref (cm 14), .ref (cm 15), .int (nI t), .ref (cm 16)])), (cm 16, .inl (g.2.1, 16, .inl (upd (plM qs rf t) t (nI (qs t)))))]) rfl ?_
              refine z_aload_n h dX4_makePlan_139 rfl 0 rfl ?_
              refine z_dup h dX4_makePlan_140 rfl ?_
              refine z_get h in_X4_makePlan_X4 0 rfl rfl 19 (by decide) lk_X4_makePlan_f117 rfl dX4_makePlan_141 ?_
              refine z_iconst h (v := 1) dX4_makePlan_144 (by decide) ?_
              refine z_iadd h dX4_makePlan_145 ?_
              refine z_topi (y := nI (t + 1)) (nI_1 t) ?_
              refine z_put h in_X4_makePlan_X4 0 tyX4 tyX4_ok nmX4 rfl rfl 19 (by decide) lk_X4_makePlan_f117 rfl rfl rfl (Nat.le_of_ble_eq_true rfl) dX4_makePlan_146 (wW' := [(cm 0, .inr (5, [.int th, .int (nI pl), .ref (cm 1), .ref (cm 2), .ref (cm 3), .int (nI dy), .int (nI n), .ref (cm 4), .ref (cm 5), .ref (cm 6), .ref (cm 7), .ref (cm 8), .ref (cm 9), .ref (cm 10), .ref (cm 11), .ref (cm 12), .ref (cm 13), .ref (cm 14), .ref (cm 15), .int (nI (t + 1)), .ref (cm 16)])), (cm 16, .inl (g.2.1, 16, .inl (upd (plM qs rf t) t (nI (qs t)))))]) rfl ?_
              refine z_iload_n h dX4_makePlan_149 rfl 2 rfl ?_
              refine z_iconst h (v := 1) dX4_makePlan_150 (by decide) ?_
              refine z_iload h dX4_makePlan_151 5 rfl ?_
              refine z_ishl h dX4_makePlan_153 ?_
              refine z_ior h dX4_makePlan_154 ?_
              refine z_istore_n h dX4_makePlan_155 rfl (by decide) (lv' := [(0, .ref (cm 0)), (1, .int k), (2, .int ((dnF qs t) ||| (1 <<< ((nI (qs t)) &&& 31)))), (3, .int (nI (atF B qs t))), (4, .int 1), (5, .int (nI (qs t))), (6, .int (nI i))]) [1, 2, 0, 3, 4, 5, 6] rfl ?_
              refine z_aload_n h dX4_makePlan_156 rfl 0 rfl ?_
              refine z_get h in_X4_makePlan_X4 0 rfl rfl 7 (by decide) lk_X4_makePlan_f24 rfl dX4_makePlan_157 ?_
              refine z_iload h dX4_makePlan_160 5 rfl ?_
              refine z_iald h 4 rfl (vp_in_nI (by omega) (by omega)) dX4_makePlan_162 (v := (col B 0) (qs t)) (by rw [nI_clamp (by omega)]) ?_
              refine z_topi (y := nI (plc B (qs t))) hbt.1 ?_
              refine z_istore_n h dX4_makePlan_163 rfl (by decide) (lv' := [(0, .ref (cm 0)), (1, .int k), (2, .int ((dnF qs t) ||| (1 <<< ((nI (qs t)) &&& 31)))), (3, .int (nI (plc B (qs t)))), (4, .int 1), (5, .int (nI (qs t))), (6, .int (nI i))]) [1, 2, 3, 0, 4, 5, 6] rfl ?_
              refine z_goto h (tgt := 12) dX4_makePlan_164 (by decide) ?_
              refine z_lv [0, 1, 2, 3, 4] (lv' := [(0, .ref (cm 0)), (1, .int k), (2, .int ((dnF qs t) ||| (1 <<< ((nI (qs t)) &&& 31)))), (3, .int (nI (plc B (qs t)))), (4, .int 1)]) rfl ?_
              exact ihL12 (t + 1)  (by omega) (by omega) hbt.2.1
          · have hi : i < n := ge_f (a := i) (b := n) c_29 (by omega) (by omega)
            have hbi := hb i hi
            refine z_aload_n h dX4_makePlan_32 rfl 0 rfl ?_
            refine z_get h in_X4_makePlan_X4 0 rfl rfl 8 (by decide) lk_X4_makePlan_f27 rfl dX4_makePlan_33 ?_
            refine z_iload h dX4_makePlan_36 6 rfl ?_
            refine z_iald h 5 rfl (vp_in_nI (by omega) (by omega)) dX4_makePlan_38 (v := (col B 1) i) (by rw [nI_clamp (by omega)]) ?_
            refine z_iload_n h dX4_makePlan_39 rfl 1 rfl ?_
            refine z_icmp_ne h (tgt := 101) dX4_makePlan_40 (by decide) (fun c_40 => ?_) (fun c_40 => ?_)
            · have hw : bo = bsF fm B dy (nwd hf dy) k (dnF qs t) (atF B qs t) (i + 1) := by rw [bsF, if_neg (fun q => c_40 q.1)]; exact e1
              refine z_iinc h (v := nI (i + 1)) dX4_makePlan_101 (by decide) 6 rfl (by rw [show Int32.ofInt 1 = nI 1 from rfl, nI_add]) (lv' := [(0, .ref (cm 0)), (1, .int k), (2, .int (dnF qs t)), (3, .int (nI (atF B qs t))), (4, .int 1), (5, .int (obI bo)), (6, .int (nI (i + 1)))]) [1, 2, 3, 4, 5, 6, 0] rfl ?_
              refine z_goto h (tgt := 23) dX4_makePlan_104 (by decide) ?_
              exact ihL23 (i + 1) bo (by omega) (by omega) hw (fun q9 h9 => by first | (have := hq q9 h9; omega) | (cases h9; omega))
            · refine z_iload_n h dX4_makePlan_43 rfl 2 rfl ?_
              refine z_iload h dX4_makePlan_44 6 rfl ?_
              refine z_Si h (b := 0) (C := "") (As := [.int (dnF qs t), .int (nI i)]) (st := []) (fun sz => m_X4_has l g (dnF qs t) (nI i)  sz) (va_cwS 2 h.ts gX4_makePlan_X4_has rfl rfl rfl (by decide +kernel) ⟨Nat.le_of_ble_eq_true rfl, Nat.le_of_ble_eq_true rfl⟩) rfl [] [] rfl rfl rfl rfl rfl (Nat.le_of_ble_eq_true rfl) ⟨(Nat.le_of_ble_eq_true rfl), (Nat.le_of_ble_eq_true rfl)⟩ (fun _ => (Nat.le_of_ble_eq_true rfl)) (wN := fun u => [(cm 0, .inr (5, [.int th, .int (nI pl), .ref (cm 1), .ref (cm 2), .ref (cm 3), .int (nI dy), .int (nI n), .ref (cm 4), .ref (cm 5), .ref (cm 6), .ref (cm 7), .ref (cm 8), .ref (cm 9), .ref (cm 10), .ref (cm 11), .ref (cm 12), .ref (cm 13), .ref (cm 14), .ref (cm 15), .int (nI t), .ref (cm 16)])), (cm 16, .inl (g.2.1, 16, .inl (plM qs rf t)))]) (fun _ => rfl) dX4_makePlan_46 (fun r_46 u_46 h_46 => ?_)
              refine z_topi (y := hasT (dnF qs t) (nI i)) h_46 ?_
              refine z_if_ne h (tgt := 101) dX4_makePlan_49 (by decide) (fun c_49 => ?_) (fun c_49 => ?_)
              · have hw : bo = bsF fm B dy (nwd hf dy) k (dnF qs t) (atF B qs t) (i + 1) := by rw [bsF, if_neg (fun q => c_49 q.2.1)]; exact e1
                refine z_iinc h (v := nI (i + 1)) dX4_makePlan_101 (by decide) 6 rfl (by rw [show Int32.ofInt 1 = nI 1 from rfl, nI_add]) (lv' := [(0, .ref (cm 0)), (1, .int k), (2, .int (dnF qs t)), (3, .int (nI (atF B qs t))), (4, .int 1), (5, .int (obI bo)), (6, .int (nI (i + 1)))]) [1, 2, 3, 4, 5, 6, 0] rfl ?_
                refine z_goto h (tgt := 23) dX4_makePlan_104 (by decide) ?_
                exact ihL23 (i + 1) bo (by omega) (by omega) hw (fun q9 h9 => by first | (have := hq q9 h9; omega) | (cases h9; omega))
              · refine z_aload_n h dX4_makePlan_52 rfl 0 rfl ?_
                refine z_iload h dX4_makePlan_53 6 rfl ?_
                refine z_Vi h (As := [.int (nI i)]) (st := []) (fun sz => m_X4_isDue l g cm th pl dy n t hf B i (by omega) hdy sz) (cwV 1 h.ts gX4_makePlan_X4_isDue rfl rfl rfl (by decide +kernel) ⟨Nat.le_of_ble_eq_true rfl, Nat.le_of_ble_eq_true rfl⟩) rfl [] [0, 3, 6, 7, 8] rfl rfl rfl rfl 0 rfl rfl rfl rfl (Nat.le_of_ble_eq_true rfl) ⟨(Nat.le_of_ble_eq_true rfl), (Nat.le_of_ble_eq_true rfl)⟩ (fun _ => (Nat.le_of_ble_eq_true rfl)) (wN := fun u => [(cm 0, .inr (5, [.int th, .int (nI pl), .ref (cm 1), .ref (cm 2), .ref (cm 3), .int (nI dy), .int (nI n), .ref (cm 4), .ref (cm 5), .ref (cm 6), .ref (cm 7), .ref (cm 8), .ref (cm 9), .ref (cm 10), .ref (cm 11), .ref (cm 12), .ref (cm 13), .ref (cm 14), .ref (cm 15), .int (nI t), .ref (cm 16)])), (cm 16, .inl (g.2.1, 16, .inl (plM qs rf t)))]) (fun _ => rfl) dX4_makePlan_55 (fun r_55 u_55 h_55 => ?_)
                refine z_topi (y := dueB (B i) (nI dy) (nI (nwd hf dy))) h_55 ?_
                refine z_if_ne h (tgt := 64) dX4_makePlan_58 (by decide) (fun c_58 => ?_) (fun c_58 => ?_)
                · have hcd : B i 1 = k ∧ hasT (dnF qs t) (nI i) = 0 ∧ ¬ dueB (B i) (nI dy) (nI (nwd hf dy)) = 0 := ⟨by first | exact c_40 | exact Classical.not_not.mp c_40, by first | exact c_49 | exact Classical.not_not.mp c_49, c_58⟩
                  refine z_iload h dX4_makePlan_64 5 rfl ?_
                  refine z_iconst h (v := (-1)) dX4_makePlan_66 (by decide) ?_
                  refine z_icmp_eq h (tgt := 97) dX4_makePlan_67 (by decide) (fun c_67 => ?_) (fun c_67 => ?_)
                  · have hbo := obI_eq (fun q h => by have := hq q h; omega) c_67
                    have hw : some i = bsF fm B dy (nwd hf dy) k (dnF qs t) (atF B qs t) (i + 1) := by rw [bsF, if_pos hcd, ← e1, hbo]; rfl
                    refine z_iload h dX4_makePlan_97 6 rfl ?_
                    refine z_istore h dX4_makePlan_99 (by decide) (lv' := [(0, .ref (cm 0)), (1, .int k), (2, .int (dnF qs t)), (3, .int (nI (atF B qs t))), (4, .int 1), (5, .int (nI i)), (6, .int (nI i))]) [1, 2, 3, 4, 5, 0, 6] rfl ?_
                    refine z_iinc h (v := nI (i + 1)) dX4_makePlan_101 (by decide) 6 rfl (by rw [show Int32.ofInt 1 = nI 1 from rfl, nI_add]) (lv' := [(0, .ref (cm 0)), (1, .int k), (2, .int (dnF qs t)), (3, .int (nI (atF B qs t))), (4, .int 1), (5, .int (nI i)), (6, .int (nI (i + 1)))]) [1, 2, 3, 4, 5, 6, 0] rfl ?_
                    refine z_goto h (tgt := 23) dX4_makePlan_104 (by decide) ?_
                    exact ihL23 (i + 1) (some i) (by omega) (by omega) hw (fun q9 h9 => by first | (have := hq q9 h9; omega) | (cases h9; omega))
                  · obtain ⟨q, rfl⟩ := obI_ne c_67
                    have hq1 : q < i := hq q rfl
                    have hbq := hb q (by omega)
                    refine z_lve (lv' := [(0, .ref (cm 0)), (1, .int k), (2, .int (dnF qs t)), (3, .int (nI (atF B qs t))), (4, .int 1), (5, .int (nI q)), (6, .int (nI i))]) rfl ?_
                    refine z_aload_n h dX4_makePlan_70 rfl 0 rfl ?_
                    refine z_iload_n h dX4_makePlan_71 rfl 3 rfl ?_
                    refine z_aload_n h dX4_makePlan_72 rfl 0 rfl ?_
                    refine z_get h in_X4_makePlan_X4 0 rfl rfl 7 (by decide) lk_X4_makePlan_f24 rfl dX4_makePlan_73 ?_
                    refine z_iload h dX4_makePlan_76 6 rfl ?_
                    refine z_iald h 4 rfl (vp_in_nI (by omega) (by omega)) dX4_makePlan_78 (v := (col B 0) i) (by rw [nI_clamp (by omega)]) ?_
                    refine z_topi (y := nI (plc B i)) hbi.1 ?_
                    refine z_Vi h (As := [.int (nI (atF B qs t)), .int (nI (plc B i))]) (st := []) (fun sz => m_X4_drive l g cm th pl dy n t fm (atF B qs t) (plc B i) hat hbi.2.1 sz) (cwV 2 h.ts gX4_makePlan_X4_drive rfl rfl rfl (by decide +kernel) ⟨Nat.le_of_ble_eq_true rfl, Nat.le_of_ble_eq_true rfl⟩) rfl [] [0, 2] rfl rfl rfl rfl 0 rfl rfl rfl rfl (Nat.le_of_ble_eq_true rfl) ⟨(Nat.le_of_ble_eq_true rfl), (Nat.le_of_ble_eq_true rfl)⟩ (fun _ => (Nat.le_of_ble_eq_true rfl)) (wN := fun u => [(cm 0, .inr (5, [.int th, .int (nI pl), .ref (cm 1), .ref (cm 2), .ref (cm 3), .int (nI dy), .int (nI n), .ref (cm 4), .ref (cm 5), .ref (cm 6), .ref (cm 7), .ref (cm 8), .ref (cm 9), .ref (cm 10), .ref (cm 11), .ref (cm 12), .ref (cm 13), .ref (cm 14), .ref (cm 15), .int (nI t), .ref (cm 16)])), (cm 16, .inl (g.2.1, 16, .inl (plM qs rf t)))]) (fun _ => rfl) dX4_makePlan_79 (fun r_79 u_79 h_79 => ?_)
                    refine z_topi (y := fm (atF B qs t * 10 + plc B i)) h_79 ?_
                    refine z_aload_n h dX4_makePlan_82 rfl 0 rfl ?_
                    refine z_iload_n h dX4_makePlan_83 rfl 3 rfl ?_
                    refine z_aload_n h dX4_makePlan_84 rfl 0 rfl ?_
                    refine z_get h in_X4_makePlan_X4 0 rfl rfl 7 (by decide) lk_X4_makePlan_f24 rfl dX4_makePlan_85 ?_
                    refine z_iload h dX4_makePlan_88 5 rfl ?_
                    refine z_iald h 4 rfl (vp_in_nI (by omega) (by omega)) dX4_makePlan_90 (v := (col B 0) q) (by rw [nI_clamp (by omega)]) ?_
                    refine z_topi (y := nI (plc B q)) hbq.1 ?_
                    refine z_Vi h (As := [.int (nI (atF B qs t)), .int (nI (plc B q))]) (st := [.int (fm (atF B qs t * 10 + plc B i))]) (fun sz => m_X4_drive l g cm th pl dy n t fm (atF B qs t) (plc B q) hat hbq.2.1 sz) (cwV 2 h.ts gX4_makePlan_X4_drive rfl rfl rfl (by decide +kernel) ⟨Nat.le_of_ble_eq_true rfl, Nat.le_of_ble_eq_true rfl⟩) rfl [] [0, 2] rfl rfl rfl rfl 0 rfl rfl rfl rfl (Nat.le_of_ble_eq_true rfl) ⟨(Nat.le_of_ble_eq_true rfl), (Nat.le_of_ble_eq_true rfl)⟩ (fun _ => (Nat.le_of_ble_eq_true rfl)) (wN := fun u => [(cm 0, .inr (5, [.int th, .int (nI pl), .ref (cm 1), .ref (cm 2), .ref (cm 3), .int (nI dy), .int (nI n), .ref (cm 4), .ref (cm 5), .ref (cm 6), .ref (cm 7), .ref (cm 8), .ref (cm 9), .ref (cm 10), .ref (cm 11), .ref (cm 12), .ref (cm 13), .ref (cm 14), .ref (cm 15), .int (nI t), .ref (cm 16)])), (cm 16, .inl (g.2.1, 16, .inl (plM qs rf t)))]) (fun _ => rfl) dX4_makePlan_91 (fun r_91 u_91 h_91 => ?_)
                    refine z_topi (y := fm (atF B qs t * 10 + plc B q)) h_91 ?_
                    refine z_icmp_ge h (tgt := 101) dX4_makePlan_94 (by decide) (fun c_94 => ?_) (fun c_94 => ?_)
                    · have hw : some q = bsF fm B dy (nwd hf dy) k (dnF qs t) (atF B qs t) (i + 1) := by rw [bsF, if_pos hcd, ← e1]; exact (if_neg (fun r => i32_nle r c_94)).symm
                      refine z_iinc h (v := nI (i + 1)) dX4_makePlan_101 (by decide) 6 rfl (by rw [show Int32.ofInt 1 = nI 1 from rfl, nI_add]) (lv' := [(0, .ref (cm 0)), (1, .int k), (2, .int (dnF qs t)), (3, .int (nI (atF B qs t))), (4, .int 1), (5, .int (nI q)), (6, .int (nI (i + 1)))]) [1, 2, 3, 4, 5, 6, 0] rfl ?_
                      refine z_goto h (tgt := 23) dX4_makePlan_104 (by decide) ?_
                      exact ihL23 (i + 1) (some q) (by omega) (by omega) hw (fun q9 h9 => by first | (have := hq q9 h9; omega) | (cases h9; omega))
                    · have hw : some i = bsF fm B dy (nwd hf dy) k (dnF qs t) (atF B qs t) (i + 1) := by rw [bsF, if_pos hcd, ← e1]; exact (if_pos (i32_nlf c_94)).symm
                      refine z_iload h dX4_makePlan_97 6 rfl ?_
                      refine z_istore h dX4_makePlan_99 (by decide) (lv' := [(0, .ref (cm 0)), (1, .int k), (2, .int (dnF qs t)), (3, .int (nI (atF B qs t))), (4, .int 1), (5, .int (nI i)), (6, .int (nI i))]) [1, 2, 3, 4, 5, 0, 6] rfl ?_
                      refine z_iinc h (v := nI (i + 1)) dX4_makePlan_101 (by decide) 6 rfl (by rw [show Int32.ofInt 1 = nI 1 from rfl, nI_add]) (lv' := [(0, .ref (cm 0)), (1, .int k), (2, .int (dnF qs t)), (3, .int (nI (atF B qs t))), (4, .int 1), (5, .int (nI i)), (6, .int (nI (i + 1)))]) [1, 2, 3, 4, 5, 6, 0] rfl ?_
                      refine z_goto h (tgt := 23) dX4_makePlan_104 (by decide) ?_
                      exact ihL23 (i + 1) (some i) (by omega) (by omega) hw (fun q9 h9 => by first | (have := hq q9 h9; omega) | (cases h9; omega))
                · have hw : bo = bsF fm B dy (nwd hf dy) k (dnF qs t) (atF B qs t) (i + 1) := by rw [bsF, if_neg (fun q => q.2.2 (by first | exact c_58 | exact Classical.not_not.mp c_58))]; exact e1
                  refine z_goto h (tgt := 101) dX4_makePlan_61 (by decide) ?_
                  refine z_iinc h (v := nI (i + 1)) dX4_makePlan_101 (by decide) 6 rfl (by rw [show Int32.ofInt 1 = nI 1 from rfl, nI_add]) (lv' := [(0, .ref (cm 0)), (1, .int k), (2, .int (dnF qs t)), (3, .int (nI (atF B qs t))), (4, .int 1), (5, .int (obI bo)), (6, .int (nI (i + 1)))]) [1, 2, 3, 4, 5, 6, 0] rfl ?_
                  refine z_goto h (tgt := 23) dX4_makePlan_104 (by decide) ?_
                  exact ihL23 (i + 1) bo (by omega) (by omega) hw (fun q9 h9 => by first | (have := hq q9 h9; omega) | (cases h9; omega))
      exact L23 (n + 1 - 0) 0 none (by omega) (by omega) rfl (fun q h => by cases h)
  exact L12 (N + 1 - 0) 0  (by omega) (by omega) (show 0 < 10 by decide)
abbrev rmX4_planSize : Room := { frames := 4, cells := 0, slots := 0, locals := 90 }
set_option maxHeartbeats 4000000 in
set_option maxRecDepth 100000 in
theorem m_X4_planSize (l : Launch) (g : Gx) (cm : Nat → Nat) (th : Int32) (pl : Nat) (dy : Nat) (n : Nat) (sn : Nat) (fm : Nat → Int32) (hf : Nat → Int32) (B : Nat → Nat → Int32) (rf : Nat → Int32) (x : Int32) (qs : Nat → Nat) (N : Nat) (hn : n ≤ 16) (hdy : dy ≤ 399) (hb : BOK n B) (hP : (okI 3 x = true → PLN fm B dy (nwd hf dy) x n qs N)) (sz : Nat) : Met l yX4_planSize wsX4_planSize rmX4_planSize (PZ g [.ref (cm 0), .int x] sz [(cm 0, .inr (5, [.int th, .int (nI pl), .ref (cm 1), .ref (cm 2), .ref (cm 3), .int (nI dy), .int (nI n), .ref (cm 4), .ref (cm 5), .ref (cm 6), .ref (cm 7), .ref (cm 8), .ref (cm 9), .ref (cm 10), .ref (cm 11), .ref (cm 12), .ref (cm 13), .ref (cm 14), .ref (cm 15), .int (nI sn), .ref (cm 16)])), (cm 16, .inl (g.2.1, 16, .inl rf))] [(cm 1, .inl (g.2.1, 100, .inl fm)), (cm 3, .inl (g.2.2.2.1, 400, .inl hf)), (cm 4, .inl (g.2.1, 16, .inl (col B 0))), (cm 5, .inl (g.2.1, 16, .inl (col B 1))), (cm 6, .inl (g.2.1, 16, .inl (col B 2))), (cm 9, .inl (g.2.1, 16, .inl (col B 5))), (cm 10, .inl (g.2.1, 16, .inl (col B 6)))]) (va_Qi (fun (r : Int32) (_ : Unit) => okI 3 x = true → r = nI N) (BZ g [(cm 0, .inr (5, [.int th, .int (nI pl), .ref (cm 1), .ref (cm 2), .ref (cm 3), .int (nI dy), .int (nI n), .ref (cm 4), .ref (cm 5), .ref (cm 6), .ref (cm 7), .ref (cm 8), .ref (cm 9), .ref (cm 10), .ref (cm 11), .ref (cm 12), .ref (cm 13), .ref (cm 14), .ref (cm 15), .int (nI sn), .ref (cm 16)])), (cm 16, .inl (g.2.1, 16, .inl rf))] sz (fun (u : Unit) => [(cm 0, .inr (5, [.int (if okI 3 x = true then 0 else 1), .int (nI pl), .ref (cm 1), .ref (cm 2), .ref (cm 3), .int (nI dy), .int (nI n), .ref (cm 4), .ref (cm 5), .ref (cm 6), .ref (cm 7), .ref (cm 8), .ref (cm 9), .ref (cm 10), .ref (cm 11), .ref (cm 12), .ref (cm 13), .ref (cm 14), .ref (cm 15), .int (nI (if okI 3 x = true then N else sn)), .ref (cm 16)])), (cm 16, .inl (g.2.1, 16, .inl (if okI 3 x = true then plM qs rf N else rf)))])) (va_A [(cm 0, .inr (5, [.int th, .int (nI pl), .ref (cm 1), .ref (cm 2), .ref (cm 3), .int (nI dy), .int (nI n), .ref (cm 4), .ref (cm 5), .ref (cm 6), .ref (cm 7), .ref (cm 8), .ref (cm 9), .ref (cm 10), .ref (cm 11), .ref (cm 12), .ref (cm 13), .ref (cm 14), .ref (cm 15), .int (nI sn), .ref (cm 16)])), (cm 16, .inl (g.2.1, 16, .inl rf))] sz)) 0 0 (va_A [(cm 0, .inr (5, [.int th, .int (nI pl), .ref (cm 1), .ref (cm 2), .ref (cm 3), .int (nI dy), .int (nI n), .ref (cm 4), .ref (cm 5), .ref (cm 6), .ref (cm 7), .ref (cm 8), .ref (cm 9), .ref (cm 10), .ref (cm 11), .ref (cm 12), .ref (cm 13), .ref (cm 14), .ref (cm 15), .int (nI sn), .ref (cm 16)])), (cm 16, .inl (g.2.1, 16, .inl rf))] sz) := by
  refine z_open_i (cc := cX4_planSize) (maxL := 2) (ret := .int) (own := RX4) (by decide) rfl rfl (Nat.le_of_ble_eq_true rfl) ?_
  intro p e s m args below meth c Q h hnm fin
  generalize hAe : va_A [(cm 0, .inr (5, [.int th, .int (nI pl), .ref (cm 1), .ref (cm 2), .ref (cm 3), .int (nI dy), .int (nI n), .ref (cm 4), .ref (cm 5), .ref (cm 6), .ref (cm 7), .ref (cm 8), .ref (cm 9), .ref (cm 10), .ref (cm 11), .ref (cm 12), .ref (cm 13), .ref (cm 14), .ref (cm 15), .int (nI sn), .ref (cm 16)])), (cm 16, .inl (g.2.1, 16, .inl rf))] s.heap.size = A at h fin ⊢
  refine z_lve (lv' := [(0, .ref (cm 0)), (1, .int x)]) rfl ?_
  refine z_aload_n h dX4_planSize_0 rfl 0 rfl ?_
  refine z_iconst h (v := 0) dX4_planSize_1 (by decide) ?_
  refine z_put h in_X4_planSize_X4 0 tyX4 tyX4_ok nmX4 rfl rfl 0 (by decide) lk_X4_planSize_f64 rfl rfl rfl (Nat.le_of_ble_eq_true rfl) dX4_planSize_2 (wW' := [(cm 0, .inr (5, [.int 0, .int (nI pl), .ref (cm 1), .ref (cm 2), .ref (cm 3), .int (nI dy), .int (nI n), .ref (cm 4), .ref (cm 5), .ref (cm 6), .ref (cm 7), .ref (cm 8), .ref (cm 9), .ref (cm 10), .ref (cm 11), .ref (cm 12), .ref (cm 13), .ref (cm 14), .ref (cm 15), .int (nI sn), .ref (cm 16)])), (cm 16, .inl (g.2.1, 16, .inl rf))]) rfl ?_
  refine z_iload_n h dX4_planSize_5 rfl 1 rfl ?_
  refine z_Si h (b := 0) (C := "") (As := [.int x]) (st := []) (fun sz => m_X4_isKind l g x  sz) (va_cwS 1 h.ts gX4_planSize_X4_isKind rfl rfl rfl (by decide +kernel) ⟨Nat.le_of_ble_eq_true rfl, Nat.le_of_ble_eq_true rfl⟩) rfl [] [] rfl rfl rfl rfl rfl (Nat.le_of_ble_eq_true rfl) ⟨(Nat.le_of_ble_eq_true rfl), (Nat.le_of_ble_eq_true rfl)⟩ (fun _ => (Nat.le_of_ble_eq_true rfl)) (wN := fun u => [(cm 0, .inr (5, [.int 0, .int (nI pl), .ref (cm 1), .ref (cm 2), .ref (cm 3), .int (nI dy), .int (nI n), .ref (cm 4), .ref (cm 5), .ref (cm 6), .ref (cm 7), .ref (cm 8), .ref (cm 9), .ref (cm 10), .ref (cm 11), .ref (cm 12), .ref (cm 13), .ref (cm 14), .ref (cm 15), .int (nI sn), .ref (cm 16)])), (cm 16, .inl (g.2.1, 16, .inl rf))]) (fun _ => rfl) dX4_planSize_6 (fun r_6 u_6 h_6 => ?_)
  refine z_if_ne h (tgt := 18) dX4_planSize_9 (by decide) (fun c_9 => ?_) (fun c_9 => ?_)
  · have hx : okI 3 x = true := b01_1 h_6 c_9
    refine z_aload_n h dX4_planSize_18 rfl 0 rfl ?_
    refine z_iload_n h dX4_planSize_19 rfl 1 rfl ?_
    refine z_Vv h (As := [.int x]) (st := []) (fun sz => m_X4_makePlan l g cm 0 pl dy n sn fm hf B rf x qs N hn hdy hb (hP hx) sz) (cwV 1 h.ts gX4_planSize_X4_makePlan rfl rfl rfl (by decide +kernel) ⟨Nat.le_of_ble_eq_true rfl, Nat.le_of_ble_eq_true rfl⟩) rfl [0, 1] [2, 3, 4, 5, 6, 7, 8] rfl rfl rfl rfl 0 rfl rfl rfl rfl (Nat.le_of_ble_eq_true rfl) ⟨(Nat.le_of_ble_eq_true rfl), (Nat.le_of_ble_eq_true rfl)⟩ (fun _ => (Nat.le_of_ble_eq_true rfl)) (wN := fun u => [(cm 0, .inr (5, [.int 0, .int (nI pl), .ref (cm 1), .ref (cm 2), .ref (cm 3), .int (nI dy), .int (nI n), .ref (cm 4), .ref (cm 5), .ref (cm 6), .ref (cm 7), .ref (cm 8), .ref (cm 9), .ref (cm 10), .ref (cm 11), .ref (cm 12), .ref (cm 13), .ref (cm 14), .ref (cm 15), .int (nI N), .ref (cm 16)])), (cm 16, .inl (g.2.1, 16, .inl (plM qs rf N)))]) (fun _ => rfl) dX4_planSize_20 (fun u_20 h_20 => ?_)
    refine z_aload_n h dX4_planSize_23 rfl 0 rfl ?_
    refine z_get h in_X4_planSize_X4 0 rfl rfl 19 (by decide) lk_X4_planSize_f117 rfl dX4_planSize_24 ?_
    exact fin _ _ _ () _ _ _ _ dX4_planSize_27 rfl (fun _ => rfl) (by rw [hx]; rfl) (Nat.le_of_ble_eq_true rfl) (Nat.le_of_ble_eq_true rfl)
  · have fx : okI 3 x = false := b01_0 h_6 c_9
    refine z_aload_n h dX4_planSize_12 rfl 0 rfl ?_
    refine z_iconst h (v := 1) dX4_planSize_13 (by decide) ?_
    refine z_Vi h (As := [.int 1]) (st := []) (fun sz => m_X4_fail l g cm 0 pl dy n sn 1  sz) (cwV 1 h.ts gX4_planSize_X4_fail rfl rfl rfl (by decide +kernel) ⟨Nat.le_of_ble_eq_true rfl, Nat.le_of_ble_eq_true rfl⟩) rfl [0] [] rfl rfl rfl rfl 0 rfl rfl rfl rfl (Nat.le_of_ble_eq_true rfl) ⟨(Nat.le_of_ble_eq_true rfl), (Nat.le_of_ble_eq_true rfl)⟩ (fun _ => (Nat.le_of_ble_eq_true rfl)) (wN := fun u => [(cm 0, .inr (5, [.int 1, .int (nI pl), .ref (cm 1), .ref (cm 2), .ref (cm 3), .int (nI dy), .int (nI n), .ref (cm 4), .ref (cm 5), .ref (cm 6), .ref (cm 7), .ref (cm 8), .ref (cm 9), .ref (cm 10), .ref (cm 11), .ref (cm 12), .ref (cm 13), .ref (cm 14), .ref (cm 15), .int (nI sn), .ref (cm 16)])), (cm 16, .inl (g.2.1, 16, .inl rf))]) (fun _ => rfl) dX4_planSize_14 (fun r_14 u_14 h_14 => ?_)
    exact fin _ _ _ () _ _ _ _ dX4_planSize_17 rfl (fun q => absurd (fx.symm.trans q) (by decide)) (by rw [fx]; rfl) (Nat.le_of_ble_eq_true rfl) (Nat.le_of_ble_eq_true rfl)
abbrev rmX4_planned : Room := { frames := 4, cells := 0, slots := 0, locals := 90 }
set_option maxHeartbeats 4000000 in
set_option maxRecDepth 100000 in
theorem m_X4_planned (l : Launch) (g : Gx) (cm : Nat → Nat) (th : Int32) (pl : Nat) (dy : Nat) (n : Nat) (sn : Nat) (fm : Nat → Int32) (hf : Nat → Int32) (B : Nat → Nat → Int32) (rf : Nat → Int32) (x : Int32) (v : Int32) (qs : Nat → Nat) (N : Nat) (hn : n ≤ 16) (hdy : dy ≤ 399) (hb : BOK n B) (hP : (okI 3 x = true → PLN fm B dy (nwd hf dy) x n qs N)) (hN : N ≤ 16) (sz : Nat) : Met l yX4_planned wsX4_planned rmX4_planned (PZ g [.ref (cm 0), .int x, .int v] sz [(cm 0, .inr (5, [.int th, .int (nI pl), .ref (cm 1), .ref (cm 2), .ref (cm 3), .int (nI dy), .int (nI n), .ref (cm 4), .ref (cm 5), .ref (cm 6), .ref (cm 7), .ref (cm 8), .ref (cm 9), .ref (cm 10), .ref (cm 11), .ref (cm 12), .ref (cm 13), .ref (cm 14), .ref (cm 15), .int (nI sn), .ref (cm 16)])), (cm 16, .inl (g.2.1, 16, .inl rf))] [(cm 1, .inl (g.2.1, 100, .inl fm)), (cm 3, .inl (g.2.2.2.1, 400, .inl hf)), (cm 4, .inl (g.2.1, 16, .inl (col B 0))), (cm 5, .inl (g.2.1, 16, .inl (col B 1))), (cm 6, .inl (g.2.1, 16, .inl (col B 2))), (cm 9, .inl (g.2.1, 16, .inl (col B 5))), (cm 10, .inl (g.2.1, 16, .inl (col B 6)))]) (va_Qi (fun (r : Int32) (_ : Unit) => (okI 3 x && okI N v) = true → r = nI (qs v.toNatClampNeg)) (BZ g [(cm 0, .inr (5, [.int th, .int (nI pl), .ref (cm 1), .ref (cm 2), .ref (cm 3), .int (nI dy), .int (nI n), .ref (cm 4), .ref (cm 5), .ref (cm 6), .ref (cm 7), .ref (cm 8), .ref (cm 9), .ref (cm 10), .ref (cm 11), .ref (cm 12), .ref (cm 13), .ref (cm 14), .ref (cm 15), .int (nI sn), .ref (cm 16)])), (cm 16, .inl (g.2.1, 16, .inl rf))] sz (fun (u : Unit) => [(cm 0, .inr (5, [.int (if (okI 3 x && okI N v) = true then 0 else 1), .int (nI pl), .ref (cm 1), .ref (cm 2), .ref (cm 3), .int (nI dy), .int (nI n), .ref (cm 4), .ref (cm 5), .ref (cm 6), .ref (cm 7), .ref (cm 8), .ref (cm 9), .ref (cm 10), .ref (cm 11), .ref (cm 12), .ref (cm 13), .ref (cm 14), .ref (cm 15), .int (nI (if okI 3 x = true then N else sn)), .ref (cm 16)])), (cm 16, .inl (g.2.1, 16, .inl (if okI 3 x = true then plM qs rf N else rf)))])) (va_A [(cm 0, .inr (5, [.int th, .int (nI pl), .ref (cm 1), .ref (cm 2), .ref (cm 3), .int (nI dy), .int (nI n), .ref (cm 4), .ref (cm 5), .ref (cm 6), .ref (cm 7), .ref (cm 8), .ref (cm 9), .ref (cm 10), .ref (cm 11), .ref (cm 12), .ref (cm 13), .ref (cm 14), .ref (cm 15), .int (nI sn), .ref (cm 16)])), (cm 16, .inl (g.2.1, 16, .inl rf))] sz)) 0 0 (va_A [(cm 0, .inr (5, [.int th, .int (nI pl), .ref (cm 1), .ref (cm 2), .ref (cm 3), .int (nI dy), .int (nI n), .ref (cm 4), .ref (cm 5), .ref (cm 6), .ref (cm 7), .ref (cm 8), .ref (cm 9), .ref (cm 10), .ref (cm 11), .ref (cm 12), .ref (cm 13), .ref (cm 14), .ref (cm 15), .int (nI sn), .ref (cm 16)])), (cm 16, .inl (g.2.1, 16, .inl rf))] sz) := by
  refine z_open_i (cc := cX4_planned) (maxL := 3) (ret := .int) (own := RX4) (by decide) rfl rfl (Nat.le_of_ble_eq_true rfl) ?_
  intro p e s m args below meth c Q h hnm fin
  generalize hAe : va_A [(cm 0, .inr (5, [.int th, .int (nI pl), .ref (cm 1), .ref (cm 2), .ref (cm 3), .int (nI dy), .int (nI n), .ref (cm 4), .ref (cm 5), .ref (cm 6), .ref (cm 7), .ref (cm 8), .ref (cm 9), .ref (cm 10), .ref (cm 11), .ref (cm 12), .ref (cm 13), .ref (cm 14), .ref (cm 15), .int (nI sn), .ref (cm 16)])), (cm 16, .inl (g.2.1, 16, .inl rf))] s.heap.size = A at h fin ⊢
  refine z_lve (lv' := [(0, .ref (cm 0)), (1, .int x), (2, .int v)]) rfl ?_
  refine z_aload_n h dX4_planned_0 rfl 0 rfl ?_
  refine z_iconst h (v := 0) dX4_planned_1 (by decide) ?_
  refine z_put h in_X4_planned_X4 0 tyX4 tyX4_ok nmX4 rfl rfl 0 (by decide) lk_X4_planned_f64 rfl rfl rfl (Nat.le_of_ble_eq_true rfl) dX4_planned_2 (wW' := [(cm 0, .inr (5, [.int 0, .int (nI pl), .ref (cm 1), .ref (cm 2), .ref (cm 3), .int (nI dy), .int (nI n), .ref (cm 4), .ref (cm 5), .ref (cm 6), .ref (cm 7), .ref (cm 8), .ref (cm 9), .ref (cm 10), .ref (cm 11), .ref (cm 12), .ref (cm 13), .ref (cm 14), .ref (cm 15), .int (nI sn), .ref (cm 16)])), (cm 16, .inl (g.2.1, 16, .inl rf))]) rfl ?_
  refine z_iload_n h dX4_planned_5 rfl 1 rfl ?_
  refine z_Si h (b := 0) (C := "") (As := [.int x]) (st := []) (fun sz => m_X4_isKind l g x  sz) (va_cwS 1 h.ts gX4_planned_X4_isKind rfl rfl rfl (by decide +kernel) ⟨Nat.le_of_ble_eq_true rfl, Nat.le_of_ble_eq_true rfl⟩) rfl [] [] rfl rfl rfl rfl rfl (Nat.le_of_ble_eq_true rfl) ⟨(Nat.le_of_ble_eq_true rfl), (Nat.le_of_ble_eq_true rfl)⟩ (fun _ => (Nat.le_of_ble_eq_true rfl)) (wN := fun u => [(cm 0, .inr (5, [.int 0, .int (nI pl), .ref (cm 1), .ref (cm 2), .ref (cm 3), .int (nI dy), .int (nI n), .ref (cm 4), .ref (cm 5), .ref (cm 6), .ref (cm 7), .ref (cm 8), .ref (cm 9), .ref (cm 10), .ref (cm 11), .ref (cm 12), .ref (cm 13), .ref (cm 14), .ref (cm 15), .int (nI sn), .ref (cm 16)])), (cm 16, .inl (g.2.1, 16, .inl rf))]) (fun _ => rfl) dX4_planned_6 (fun r_6 u_6 h_6 => ?_)
  refine z_if_ne h (tgt := 18) dX4_planned_9 (by decide) (fun c_9 => ?_) (fun c_9 => ?_)
  · have hx : okI 3 x = true := b01_1 h_6 c_9
    refine z_aload_n h dX4_planned_18 rfl 0 rfl ?_
    refine z_iload_n h dX4_planned_19 rfl 1 rfl ?_
    refine z_Vv h (As := [.int x]) (st := []) (fun sz => m_X4_makePlan l g cm 0 pl dy n sn fm hf B rf x qs N hn hdy hb (hP hx) sz) (cwV 1 h.ts gX4_planned_X4_makePlan rfl rfl rfl (by decide +kernel) ⟨Nat.le_of_ble_eq_true rfl, Nat.le_of_ble_eq_true rfl⟩) rfl [0, 1] [2, 3, 4, 5, 6, 7, 8] rfl rfl rfl rfl 0 rfl rfl rfl rfl (Nat.le_of_ble_eq_true rfl) ⟨(Nat.le_of_ble_eq_true rfl), (Nat.le_of_ble_eq_true rfl)⟩ (fun _ => (Nat.le_of_ble_eq_true rfl)) (wN := fun u => [(cm 0, .inr (5, [.int 0, .int (nI pl), .ref (cm 1), .ref (cm 2), .ref (cm 3), .int (nI dy), .int (nI n), .ref (cm 4), .ref (cm 5), .ref (cm 6), .ref (cm 7), .ref (cm 8), .ref (cm 9), .ref (cm 10), .ref (cm 11), .ref (cm 12), .ref (cm 13), .ref (cm 14), .ref (cm 15), .int (nI N), .ref (cm 16)])), (cm 16, .inl (g.2.1, 16, .inl (plM qs rf N)))]) (fun _ => rfl) dX4_planned_20 (fun u_20 h_20 => ?_)
    refine z_iload_n h dX4_planned_23 rfl 2 rfl ?_
    refine z_iconst h (v := 0) dX4_planned_24 (by decide) ?_
    refine z_aload_n h dX4_planned_25 rfl 0 rfl ?_
    refine z_get h in_X4_planned_X4 0 rfl rfl 19 (by decide) lk_X4_planned_f117 rfl dX4_planned_26 ?_
    refine z_iconst h (v := 1) dX4_planned_29 (by decide) ?_
    refine z_isub h dX4_planned_30 ?_
    refine z_Si h (b := 0) (C := "") (As := [.int v, .int 0, .int ((nI N) - 1)]) (st := []) (fun sz => m_X4_isIn l g v 0 ((nI N) - 1)  sz) (va_cwS 3 h.ts gX4_planned_X4_isIn rfl rfl rfl (by decide +kernel) ⟨Nat.le_of_ble_eq_true rfl, Nat.le_of_ble_eq_true rfl⟩) rfl [] [] rfl rfl rfl rfl rfl (Nat.le_of_ble_eq_true rfl) ⟨(Nat.le_of_ble_eq_true rfl), (Nat.le_of_ble_eq_true rfl)⟩ (fun _ => (Nat.le_of_ble_eq_true rfl)) (wN := fun u => [(cm 0, .inr (5, [.int 0, .int (nI pl), .ref (cm 1), .ref (cm 2), .ref (cm 3), .int (nI dy), .int (nI n), .ref (cm 4), .ref (cm 5), .ref (cm 6), .ref (cm 7), .ref (cm 8), .ref (cm 9), .ref (cm 10), .ref (cm 11), .ref (cm 12), .ref (cm 13), .ref (cm 14), .ref (cm 15), .int (nI N), .ref (cm 16)])), (cm 16, .inl (g.2.1, 16, .inl (plM qs rf N)))]) (fun _ => rfl) dX4_planned_31 (fun r_31 u_31 h_31 => ?_)
    rw [okRI (n := N) (by omega)] at h_31
    refine z_if_eq h (tgt := 46) dX4_planned_34 (by decide) (fun c_34 => ?_) (fun c_34 => ?_)
    · have fv : okI N v = false := b01_0 h_31 c_34
      have hk : (okI 3 x && okI N v) = false := and_f2 fv
      refine z_aload_n h dX4_planned_46 rfl 0 rfl ?_
      refine z_iconst h (v := 1) dX4_planned_47 (by decide) ?_
      refine z_Vi h (As := [.int 1]) (st := []) (fun sz => m_X4_fail l g cm 0 pl dy n N 1  sz) (cwV 1 h.ts gX4_planned_X4_fail rfl rfl rfl (by decide +kernel) ⟨Nat.le_of_ble_eq_true rfl, Nat.le_of_ble_eq_true rfl⟩) rfl [0] [] rfl rfl rfl rfl 0 rfl rfl rfl rfl (Nat.le_of_ble_eq_true rfl) ⟨(Nat.le_of_ble_eq_true rfl), (Nat.le_of_ble_eq_true rfl)⟩ (fun _ => (Nat.le_of_ble_eq_true rfl)) (wN := fun u => [(cm 0, .inr (5, [.int 1, .int (nI pl), .ref (cm 1), .ref (cm 2), .ref (cm 3), .int (nI dy), .int (nI n), .ref (cm 4), .ref (cm 5), .ref (cm 6), .ref (cm 7), .ref (cm 8), .ref (cm 9), .ref (cm 10), .ref (cm 11), .ref (cm 12), .ref (cm 13), .ref (cm 14), .ref (cm 15), .int (nI N), .ref (cm 16)])), (cm 16, .inl (g.2.1, 16, .inl (plM qs rf N)))]) (fun _ => rfl) dX4_planned_48 (fun r_48 u_48 h_48 => ?_)
      exact fin _ _ _ () _ _ _ _ dX4_planned_51 rfl (by first | exact fun _ => by rw [cj]; exact plM_at qs rf N j hj | exact fun q => absurd (hk.symm.trans q) (by decide)) (by rw [hk, hx]; rfl) (Nat.le_of_ble_eq_true rfl) (Nat.le_of_ble_eq_true rfl)
    · have hv : okI N v = true := b01_1 h_31 c_34
      have hk := and_t hx hv
      have hv1 := hv
      obtain ⟨j, hj, rfl⟩ := okI_of hv (by omega)
      have cj : (nI j).toNatClampNeg = j := nI_clamp (by omega)
      refine z_aload_n h dX4_planned_37 rfl 0 rfl ?_
      refine z_get h in_X4_planned_X4 0 rfl rfl 20 (by decide) lk_X4_planned_f61 rfl dX4_planned_38 ?_
      refine z_iload_n h dX4_planned_41 rfl 2 rfl ?_
      refine z_iald h 1 rfl (vp_in_nI (by omega) (by omega)) dX4_planned_42 (v := (plM qs rf N) j) (by rw [nI_clamp (by omega)]) ?_
      refine z_goto h (tgt := 51) dX4_planned_43 (by decide) ?_
      exact fin _ _ _ () _ _ _ _ dX4_planned_51 rfl (by first | exact fun _ => by rw [cj]; exact plM_at qs rf N j hj | exact fun q => absurd (hk.symm.trans q) (by decide)) (by rw [hk, hx]; rfl) (Nat.le_of_ble_eq_true rfl) (Nat.le_of_ble_eq_true rfl)
  · have fx : okI 3 x = false := b01_0 h_6 c_9
    refine z_aload_n h dX4_planned_12 rfl 0 rfl ?_
    refine z_iconst h (v := 1) dX4_planned_13 (by decide) ?_
    refine z_Vi h (As := [.int 1]) (st := []) (fun sz => m_X4_fail l g cm 0 pl dy n sn 1  sz) (cwV 1 h.ts gX4_planned_X4_fail rfl rfl rfl (by decide +kernel) ⟨Nat.le_of_ble_eq_true rfl, Nat.le_of_ble_eq_true rfl⟩) rfl [0] [] rfl rfl rfl rfl 0 rfl rfl rfl rfl (Nat.le_of_ble_eq_true rfl) ⟨(Nat.le_of_ble_eq_true rfl), (Nat.le_of_ble_eq_true rfl)⟩ (fun _ => (Nat.le_of_ble_eq_true rfl)) (wN := fun u => [(cm 0, .inr (5, [.int 1, .int (nI pl), .ref (cm 1), .ref (cm 2), .ref (cm 3), .int (nI dy), .int (nI n), .ref (cm 4), .ref (cm 5), .ref (cm 6), .ref (cm 7), .ref (cm 8), .ref (cm 9), .ref (cm 10), .ref (cm 11), .ref (cm 12), .ref (cm 13), .ref (cm 14), .ref (cm 15), .int (nI sn), .ref (cm 16)])), (cm 16, .inl (g.2.1, 16, .inl rf))]) (fun _ => rfl) dX4_planned_14 (fun r_14 u_14 h_14 => ?_)
    have hk : (okI 3 x && okI N v) = false := and_f1 fx
    exact fin _ _ _ () _ _ _ _ dX4_planned_17 rfl (fun q => absurd (hk.symm.trans q) (by decide)) (by rw [fx]; rfl) (Nat.le_of_ble_eq_true rfl) (Nat.le_of_ble_eq_true rfl)
