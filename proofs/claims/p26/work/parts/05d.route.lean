def rq (rf : Nat → Int32) (j : Nat) : Nat := (rf j).toNatClampNeg
/-- the first s places of the route hold numbers of bins -/
def ROK (rf : Nat → Int32) (s n : Nat) : Prop := ∀ j, j < s → rf j = nI (rq rf j) ∧ rq rf j < n
theorem ROK.push {rf : Nat → Int32} {s n i : Nat} (h : ROK rf s n) (hi : i < n) (hn : n ≤ 16) : ROK (upd rf s (nI i)) (s + 1) n := fun j hj => by
  by_cases e : j = s
  · subst e
    have e1 : upd rf j (nI i) j = nI i := if_pos rfl
    have e2 : rq (upd rf j (nI i)) j = i := by unfold rq; rw [e1]; exact nI_clamp (by omega)
    rw [e2]
    exact ⟨e1, hi⟩
  · have e1 : upd rf s (nI i) j = rf j := if_neg e
    have e2 : rq (upd rf s (nI i)) j = rq rf j := by unfold rq; rw [e1]
    rw [e2, e1]
    exact h j (by omega)
theorem ROK.put {rf : Nat → Int32} {s n m q : Nat} (h : ROK rf s n) (hq : q < n) (hn : n ≤ 16) : ROK (upd rf m (nI q)) s n := fun j hj => by
  by_cases e : j = m
  · subst e
    have e1 : upd rf j (nI q) j = nI q := if_pos rfl
    have e2 : rq (upd rf j (nI q)) j = q := by unfold rq; rw [e1]; exact nI_clamp (by omega)
    rw [e2]
    exact ⟨e1, hq⟩
  · have e1 : upd rf m (nI q) j = rf j := if_neg e
    have e2 : rq (upd rf m (nI q)) j = rq rf j := by unfold rq; rw [e1]
    rw [e2, e1]
    exact h j hj
theorem ROK.swap {rf : Nat → Int32} {s n m i : Nat} (h : ROK rf s n) (hm : m < s) (hi : i < s) (hn : n ≤ 16) : ROK (upd (upd rf m (rf i)) i (nI (rq rf m))) s n := by
  rw [(h i hi).1]
  exact (h.put (h i hi).2 hn).put (h m hm).2 hn
def drvR (fm : Nat → Int32) (B : Nat → Nat → Int32) (rf : Nat → Int32) (fr j : Nat) : Int32 := fm (fr * 10 + plc B (rq rf j))
/-- the nearest stop of those from f on -/
def nsF (fm : Nat → Int32) (B : Nat → Nat → Int32) (rf : Nat → Int32) (fr f : Nat) : Nat → Nat × Int32
  | 0 => (f, drvR fm B rf fr f)
  | t + 1 => if drvR fm B rf fr (f + 1 + t) < (nsF fm B rf fr f t).2 ∨ (drvR fm B rf fr (f + 1 + t) = (nsF fm B rf fr f t).2 ∧ rf (f + 1 + t) < rf (nsF fm B rf fr f t).1) then (f + 1 + t, drvR fm B rf fr (f + 1 + t)) else nsF fm B rf fr f t
theorem nsF_s {fm : Nat → Int32} {B : Nat → Nat → Int32} {rf : Nat → Int32} {fr f j m : Nat} {d : Int32} (hj : f + 1 ≤ j) (e : nsF fm B rf fr f (j - (f + 1)) = (m, d)) : nsF fm B rf fr f (j + 1 - (f + 1)) = if drvR fm B rf fr j < d ∨ (drvR fm B rf fr j = d ∧ rf j < rf m) then (j, drvR fm B rf fr j) else (m, d) := by
  rw [show j + 1 - (f + 1) = (j - (f + 1)) + 1 by omega, nsF, show f + 1 + (j - (f + 1)) = j by omega, e]
def nsR (fm : Nat → Int32) (B : Nat → Nat → Int32) (rf : Nat → Int32) (s fr f : Nat) : Nat := (nsF fm B rf fr f (s - (f + 1))).1
/-- the bins of the kind that are due, by their numbers -/
def flR (B : Nat → Nat → Int32) (dy nw : Nat) (k : Int32) (rf : Nat → Int32) : Nat → (Nat → Int32) × Nat
  | 0 => (rf, 0)
  | i + 1 => if B i 1 = k ∧ ¬ dueB (B i) (nI dy) (nI nw) = 0 then (upd (flR B dy nw k rf i).1 (flR B dy nw k rf i).2 (nI i), (flR B dy nw k rf i).2 + 1) else flR B dy nw k rf i
/-- the route after i of its places are chosen, and the place that was come to -/
def srF (fm : Nat → Int32) (B : Nat → Nat → Int32) (rf : Nat → Int32) (s : Nat) : Nat → (Nat → Int32) × Nat
  | 0 => (rf, 0)
  | i + 1 => (upd (upd (srF fm B rf s i).1 (nsR fm B (srF fm B rf s i).1 s (srF fm B rf s i).2 i) ((srF fm B rf s i).1 i)) i (nI (rq (srF fm B rf s i).1 (nsR fm B (srF fm B rf s i).1 s (srF fm B rf s i).2 i))), plc B (rq (srF fm B rf s i).1 (nsR fm B (srF fm B rf s i).1 s (srF fm B rf s i).2 i)))
def plS (B : Nat → Nat → Int32) (dy nw : Nat) (k : Int32) (rf : Nat → Int32) (n : Nat) : Nat := (flR B dy nw k rf n).2
def plR (fm : Nat → Int32) (B : Nat → Nat → Int32) (dy nw : Nat) (k : Int32) (rf : Nat → Int32) (n : Nat) : Nat → Int32 := (srF fm B (flR B dy nw k rf n).1 (plS B dy nw k rf n) (plS B dy nw k rf n)).1
theorem in_X3_nearestStop_X0 : ∀ w ∈ wsX00, w ∈ wsX3_nearestStop := by decide +kernel
theorem in_X3_nearestStop_X3 : ∀ w ∈ wsX30, w ∈ wsX3_nearestStop := by decide +kernel
theorem lk_X3_nearestStop_cl113 : Cond.classLink RX3 113 "RefusePlanner$Bin" ∈ wsX3_nearestStop := by decide +kernel
theorem lk_X3_nearestStop_f12 : Cond.fieldLink RX3 12 (TX3 0).1 (TX3 0).2.1 (TX3 0).2.2.1 ∈ wsX3_nearestStop := by decide +kernel
theorem lk_X3_nearestStop_f19 : Cond.fieldLink RX3 19 (TX3 1).1 (TX3 1).2.1 (TX3 1).2.2.1 ∈ wsX3_nearestStop := by decide +kernel
theorem lk_X3_nearestStop_f34 : Cond.fieldLink RX3 34 (TX3 5).1 (TX3 5).2.1 (TX3 5).2.2.1 ∈ wsX3_nearestStop := by decide +kernel
theorem lk_X3_nearestStop_f38 : Cond.fieldLink RX3 38 (TX3 6).1 (TX3 6).2.1 (TX3 6).2.2.1 ∈ wsX3_nearestStop := by decide +kernel
theorem in_X3_planRoute_X0 : ∀ w ∈ wsX00, w ∈ wsX3_planRoute := by decide +kernel
theorem in_X3_planRoute_X3 : ∀ w ∈ wsX30, w ∈ wsX3_planRoute := by decide +kernel
theorem lk_X3_planRoute_cl113 : Cond.classLink RX3 113 "RefusePlanner$Bin" ∈ wsX3_planRoute := by decide +kernel
theorem lk_X3_planRoute_f19 : Cond.fieldLink RX3 19 (TX3 1).1 (TX3 1).2.1 (TX3 1).2.2.1 ∈ wsX3_planRoute := by decide +kernel
theorem lk_X3_planRoute_f34 : Cond.fieldLink RX3 34 (TX3 5).1 (TX3 5).2.1 (TX3 5).2.2.1 ∈ wsX3_planRoute := by decide +kernel
theorem lk_X3_planRoute_f38 : Cond.fieldLink RX3 38 (TX3 6).1 (TX3 6).2.1 (TX3 6).2.2.1 ∈ wsX3_planRoute := by decide +kernel
theorem lk_X3_planRoute_f42 : Cond.fieldLink RX3 42 (TX3 7).1 (TX3 7).2.1 (TX3 7).2.2.1 ∈ wsX3_planRoute := by decide +kernel
abbrev rmX3_nearestStop : Room := { frames := 3, cells := 0, slots := 0, locals := 64 }
set_option maxHeartbeats 4000000 in
set_option maxRecDepth 100000 in
theorem m_X3_nearestStop (l : Launch) (g : Gx) (a : Nat → Nat) (fm : Nat → Int32) (pl : Nat) (hf : Nat → Int32) (rf : Nat → Int32) (wf : Nat → Int64) (sn : Nat) (dy : Nat) (mc : Int32) (ed : Nat) (n : Nat) (cap : Nat) (ad : Nat → Nat) (B : Nat → Nat → Int32) (f : Nat) (fr : Nat) (hpl : pl ≤ 10) (hn : n ≤ 16) (hc : n ≤ cap) (hcap : cap ≤ 26) (hdy : dy ≤ 399) (hb : BOK n B) (hr : ROK rf sn n) (hs : sn ≤ 16) (hff : f < sn) (hfr : fr < 10) (sz : Nat) : Met l yX3_nearestStop wsX3_nearestStop rmX3_nearestStop (PZ g [.ref (a 0), .int (nI f), .int (nI fr)] sz ([(a 2, .inl (g.2.1, 100, .inl fm)), (a 1, .inr (2, [.ref (a 2), .ref (a 3), .int (nI pl)])), (a 5, .inl (g.2.2.2.1, 400, .inl hf)), (a 8, .inl (g.2.1, 16, .inl rf)), (a 7, .inl (g.2.2.1, 3, .inr (.inl wf))), (a 0, .inr (4, [.ref (a 1), .ref (a 4), .ref (a 5), .ref (a 6), .ref (a 7), .ref (a 8), .int (nI sn), .int (nI dy)])), (a 4, .inr (0, [.int mc, .ref ed, .int (nI n)]))] ++ bp g n ed cap ad B) []) (va_Qi (fun (r : Int32) (_ : Unit) => r = nI (nsR fm B rf sn fr f) ∧ nsR fm B rf sn fr f < sn) (BZ g ([(a 2, .inl (g.2.1, 100, .inl fm)), (a 1, .inr (2, [.ref (a 2), .ref (a 3), .int (nI pl)])), (a 5, .inl (g.2.2.2.1, 400, .inl hf)), (a 8, .inl (g.2.1, 16, .inl rf)), (a 7, .inl (g.2.2.1, 3, .inr (.inl wf))), (a 0, .inr (4, [.ref (a 1), .ref (a 4), .ref (a 5), .ref (a 6), .ref (a 7), .ref (a 8), .int (nI sn), .int (nI dy)])), (a 4, .inr (0, [.int mc, .ref ed, .int (nI n)]))] ++ bp g n ed cap ad B) sz (fun (u : Unit) => ([(a 2, .inl (g.2.1, 100, .inl fm)), (a 1, .inr (2, [.ref (a 2), .ref (a 3), .int (nI pl)])), (a 5, .inl (g.2.2.2.1, 400, .inl hf)), (a 8, .inl (g.2.1, 16, .inl rf)), (a 7, .inl (g.2.2.1, 3, .inr (.inl wf))), (a 0, .inr (4, [.ref (a 1), .ref (a 4), .ref (a 5), .ref (a 6), .ref (a 7), .ref (a 8), .int (nI sn), .int (nI dy)])), (a 4, .inr (0, [.int mc, .ref ed, .int (nI n)]))] ++ bp g n ed cap ad B))) (va_A ([(a 2, .inl (g.2.1, 100, .inl fm)), (a 1, .inr (2, [.ref (a 2), .ref (a 3), .int (nI pl)])), (a 5, .inl (g.2.2.2.1, 400, .inl hf)), (a 8, .inl (g.2.1, 16, .inl rf)), (a 7, .inl (g.2.2.1, 3, .inr (.inl wf))), (a 0, .inr (4, [.ref (a 1), .ref (a 4), .ref (a 5), .ref (a 6), .ref (a 7), .ref (a 8), .int (nI sn), .int (nI dy)])), (a 4, .inr (0, [.int mc, .ref ed, .int (nI n)]))] ++ bp g n ed cap ad B) sz)) 0 0 (va_A ([(a 2, .inl (g.2.1, 100, .inl fm)), (a 1, .inr (2, [.ref (a 2), .ref (a 3), .int (nI pl)])), (a 5, .inl (g.2.2.2.1, 400, .inl hf)), (a 8, .inl (g.2.1, 16, .inl rf)), (a 7, .inl (g.2.2.1, 3, .inr (.inl wf))), (a 0, .inr (4, [.ref (a 1), .ref (a 4), .ref (a 5), .ref (a 6), .ref (a 7), .ref (a 8), .int (nI sn), .int (nI dy)])), (a 4, .inr (0, [.int mc, .ref ed, .int (nI n)]))] ++ bp g n ed cap ad B) sz) := by
  refine z_open_i (cc := cX3_nearestStop) (maxL := 7) (ret := .int) (own := RX3) (by decide) rfl rfl (Nat.le_of_ble_eq_true rfl) ?_
  intro p e s m args below meth c Q h hnm fin
  generalize hAe : va_A ([(a 2, .inl (g.2.1, 100, .inl fm)), (a 1, .inr (2, [.ref (a 2), .ref (a 3), .int (nI pl)])), (a 5, .inl (g.2.2.2.1, 400, .inl hf)), (a 8, .inl (g.2.1, 16, .inl rf)), (a 7, .inl (g.2.2.1, 3, .inr (.inl wf))), (a 0, .inr (4, [.ref (a 1), .ref (a 4), .ref (a 5), .ref (a 6), .ref (a 7), .ref (a 8), .int (nI sn), .int (nI dy)])), (a 4, .inr (0, [.int mc, .ref ed, .int (nI n)]))] ++ bp g n ed cap ad B) s.heap.size = A at h fin ⊢
  refine z_lve (lv' := [(0, .ref (a 0)), (1, .int (nI f)), (2, .int (nI fr))]) rfl ?_
  have hq := hr f hff
  have hbq := hb _ hq.2
  refine z_iload_n h dX3_nearestStop_0 rfl 1 rfl ?_
  refine z_istore_n h dX3_nearestStop_1 rfl (by decide) (lv' := [(0, .ref (a 0)), (1, .int (nI f)), (2, .int (nI fr)), (3, .int (nI f))]) [1, 2, 3, 0] rfl ?_
  refine z_aload_n h dX3_nearestStop_2 rfl 0 rfl ?_
  refine z_get h in_X3_nearestStop_X3 5 rfl rfl 0 (by decide) lk_X3_nearestStop_f12 rfl dX3_nearestStop_3 ?_
  refine z_iload_n h dX3_nearestStop_6 rfl 2 rfl ?_
  refine z_aload_n h dX3_nearestStop_7 rfl 0 rfl ?_
  refine z_get h in_X3_nearestStop_X3 5 rfl rfl 1 (by decide) lk_X3_nearestStop_f19 rfl dX3_nearestStop_8 ?_
  refine z_aload_n h dX3_nearestStop_11 rfl 0 rfl ?_
  refine z_get h in_X3_nearestStop_X3 5 rfl rfl 5 (by decide) lk_X3_nearestStop_f34 rfl dX3_nearestStop_12 ?_
  refine z_iload_n h dX3_nearestStop_15 rfl 1 rfl ?_
  refine z_iald h 3 rfl (vp_in_nI (by omega) (by omega)) dX3_nearestStop_16 (v := rf f) (by rw [nI_clamp (by omega)]) ?_
  refine z_topi (y := nI (rq rf f)) hq.1 ?_
  refine z_Vr h (As := [.int (nI (rq rf f))]) (st := [.int (nI fr), .ref (a 1)]) (fun sz => m_Jx4a65c_get_915e3 l g (a 4) mc ed n cap ad (rq rf f) hq.2 hc (by omega) sz) (cwV 1 h.ts gX3_nearestStop_Jx4a65c_get_915e3 rfl rfl rfl (by decide +kernel) ⟨Nat.le_of_ble_eq_true rfl, Nat.le_of_ble_eq_true rfl⟩) rfl [] [6, 7] (lc rfl (lc (bp_elW (by omega)) rfl)) rfl rfl rfl 6 rfl rfl rfl rfl (Nat.le_of_ble_eq_true rfl) ⟨(Nat.le_of_ble_eq_true rfl), (Nat.le_of_ble_eq_true rfl)⟩ (fun _ => (Nat.le_of_ble_eq_true rfl)) (wN := fun u => ([(a 2, .inl (g.2.1, 100, .inl fm)), (a 1, .inr (2, [.ref (a 2), .ref (a 3), .int (nI pl)])), (a 5, .inl (g.2.2.2.1, 400, .inl hf)), (a 8, .inl (g.2.1, 16, .inl rf)), (a 7, .inl (g.2.2.1, 3, .inr (.inl wf))), (a 0, .inr (4, [.ref (a 1), .ref (a 4), .ref (a 5), .ref (a 6), .ref (a 7), .ref (a 8), .int (nI sn), .int (nI dy)])), (a 4, .inr (0, [.int mc, .ref ed, .int (nI n)]))] ++ bp g n ed cap ad B)) (fun _ => List.append_nil _) dX3_nearestStop_17 (fun u_17 h_17 => ?_)
  refine z_cast h lk_X3_nearestStop_cl113 (7 + (rq rf f + 1)) (bp_atW (by omega)) rfl dX3_nearestStop_20 ?_
  refine z_getN h in_X3_nearestStop_X0 (7 + (rq rf f + 1)) (bp_atW (by omega)) rfl 0 (by decide) (by decide) rfl dX3_nearestStop_23 ?_
  refine z_topi (y := nI (plc B (rq rf f))) hbq.1 ?_
  refine z_Vi h (As := [.int (nI fr), .int (nI (plc B (rq rf f)))]) (st := []) (fun sz => m_X1_between l g (a 1) (a 2) (a 3) pl fm fr (plc B (rq rf f)) hfr hbq.2.1 sz) (cwV 2 h.ts gX3_nearestStop_X1_between rfl rfl rfl (by decide +kernel) ⟨Nat.le_of_ble_eq_true rfl, Nat.le_of_ble_eq_true rfl⟩) rfl [] [1, 0] rfl rfl rfl rfl 1 rfl rfl rfl rfl (Nat.le_of_ble_eq_true rfl) ⟨(Nat.le_of_ble_eq_true rfl), (Nat.le_of_ble_eq_true rfl)⟩ (fun _ => (Nat.le_of_ble_eq_true rfl)) (wN := fun u => ([(a 2, .inl (g.2.1, 100, .inl fm)), (a 1, .inr (2, [.ref (a 2), .ref (a 3), .int (nI pl)])), (a 5, .inl (g.2.2.2.1, 400, .inl hf)), (a 8, .inl (g.2.1, 16, .inl rf)), (a 7, .inl (g.2.2.1, 3, .inr (.inl wf))), (a 0, .inr (4, [.ref (a 1), .ref (a 4), .ref (a 5), .ref (a 6), .ref (a 7), .ref (a 8), .int (nI sn), .int (nI dy)])), (a 4, .inr (0, [.int mc, .ref ed, .int (nI n)]))] ++ bp g n ed cap ad B)) (fun _ => List.append_nil _) dX3_nearestStop_26 (fun r_26 u_26 h_26 => ?_)
  refine z_topi (y := drvR fm B rf fr f) h_26 ?_
  refine z_istore h dX3_nearestStop_29 (by decide) (lv' := [(0, .ref (a 0)), (1, .int (nI f)), (2, .int (nI fr)), (3, .int (nI f)), (4, .int (drvR fm B rf fr f))]) [1, 2, 3, 4, 0] rfl ?_
  refine z_iload_n h dX3_nearestStop_31 rfl 1 rfl ?_
  refine z_iconst h (v := 1) dX3_nearestStop_32 (by decide) ?_
  refine z_iadd h dX3_nearestStop_33 ?_
  refine z_topi (y := nI (f + 1)) (nI_1 f) ?_
  refine z_istore h dX3_nearestStop_34 (by decide) (lv' := [(0, .ref (a 0)), (1, .int (nI f)), (2, .int (nI fr)), (3, .int (nI f)), (4, .int (drvR fm B rf fr f)), (5, .int (nI (f + 1)))]) [1, 2, 3, 4, 5, 0] rfl ?_
  have L36 : ∀ (L36n j : Nat) (nb : Nat) (dd : Int32), j ≤ sn → sn < L36n + j → f + 1 ≤ j → nsF fm B rf fr f (j - (f + 1)) = (nb, dd) → nb < sn → Z p l e rmX3_nearestStop s m args below meth c Q A g 7 36 [(0, .ref (a 0)), (1, .int (nI f)), (2, .int (nI fr)), (3, .int (nI nb)), (4, .int dd), (5, .int (nI j))] [] ([(a 2, .inl (g.2.1, 100, .inl fm)), (a 1, .inr (2, [.ref (a 2), .ref (a 3), .int (nI pl)])), (a 5, .inl (g.2.2.2.1, 400, .inl hf)), (a 8, .inl (g.2.1, 16, .inl rf)), (a 7, .inl (g.2.2.1, 3, .inr (.inl wf))), (a 0, .inr (4, [.ref (a 1), .ref (a 4), .ref (a 5), .ref (a 6), .ref (a 7), .ref (a 8), .int (nI sn), .int (nI dy)])), (a 4, .inr (0, [.int mc, .ref ed, .int (nI n)]))] ++ bp g n ed cap ad B) [] 0 0 := by
    intro L36n
    induction L36n with
    | zero => intro j nb dd hj hL36 hfj e2 hm; exact absurd hL36 (by omega)
    | succ L36n ihL36 =>
      intro j nb dd hj hL36 hfj e2 hm
      refine z_iload h dX3_nearestStop_36 5 rfl ?_
      refine z_aload_n h dX3_nearestStop_38 rfl 0 rfl ?_
      refine z_get h in_X3_nearestStop_X3 5 rfl rfl 6 (by decide) lk_X3_nearestStop_f38 rfl dX3_nearestStop_39 ?_
      refine z_icmp_ge h (tgt := 118) dX3_nearestStop_42 (by decide) (fun c_42 => ?_) (fun c_42 => ?_)
      · have hjs : j = sn := by have := ge_t (a := j) (b := sn) c_42 (by omega) (by omega); omega
        subst hjs
        refine z_iload_n h dX3_nearestStop_118 rfl 3 rfl ?_
        exact fin _ _ _ () _ _ _ _ dX3_nearestStop_119 rfl ⟨by rw [nsR, e2], by rw [nsR, e2]; exact hm⟩ rfl (Nat.le_of_ble_eq_true rfl) (Nat.le_of_ble_eq_true rfl)
      · have hj : j < sn := ge_f (a := j) (b := sn) c_42 (by omega) (by omega)
        have hqj := hr j hj
        have hbj := hb _ hqj.2
        refine z_aload_n h dX3_nearestStop_45 rfl 0 rfl ?_
        refine z_get h in_X3_nearestStop_X3 5 rfl rfl 0 (by decide) lk_X3_nearestStop_f12 rfl dX3_nearestStop_46 ?_
        refine z_iload_n h dX3_nearestStop_49 rfl 2 rfl ?_
        refine z_aload_n h dX3_nearestStop_50 rfl 0 rfl ?_
        refine z_get h in_X3_nearestStop_X3 5 rfl rfl 1 (by decide) lk_X3_nearestStop_f19 rfl dX3_nearestStop_51 ?_
        refine z_aload_n h dX3_nearestStop_54 rfl 0 rfl ?_
        refine z_get h in_X3_nearestStop_X3 5 rfl rfl 5 (by decide) lk_X3_nearestStop_f34 rfl dX3_nearestStop_55 ?_
        refine z_iload h dX3_nearestStop_58 5 rfl ?_
        refine z_iald h 3 rfl (vp_in_nI (by omega) (by omega)) dX3_nearestStop_60 (v := rf j) (by rw [nI_clamp (by omega)]) ?_
        refine z_topi (y := nI (rq rf j)) hqj.1 ?_
        refine z_Vr h (As := [.int (nI (rq rf j))]) (st := [.int (nI fr), .ref (a 1)]) (fun sz => m_Jx4a65c_get_915e3 l g (a 4) mc ed n cap ad (rq rf j) hqj.2 hc (by omega) sz) (cwV 1 h.ts gX3_nearestStop_Jx4a65c_get_915e3 rfl rfl rfl (by decide +kernel) ⟨Nat.le_of_ble_eq_true rfl, Nat.le_of_ble_eq_true rfl⟩) rfl [] [6, 7] (lc rfl (lc (bp_elW (by omega)) rfl)) rfl rfl rfl 6 rfl rfl rfl rfl (Nat.le_of_ble_eq_true rfl) ⟨(Nat.le_of_ble_eq_true rfl), (Nat.le_of_ble_eq_true rfl)⟩ (fun _ => (Nat.le_of_ble_eq_true rfl)) (wN := fun u => ([(a 2, .inl (g.2.1, 100, .inl fm)), (a 1, .inr (2, [.ref (a 2), .ref (a 3), .int (nI pl)])), (a 5, .inl (g.2.2.2.1, 400, .inl hf)), (a 8, .inl (g.2.1, 16, .inl rf)), (a 7, .inl (g.2.2.1, 3, .inr (.inl wf))), (a 0, .inr (4, [.ref (a 1), .ref (a 4), .ref (a 5), .ref (a 6), .ref (a 7), .ref (a 8), .int (nI sn), .int (nI dy)])), (a 4, .inr (0, [.int mc, .ref ed, .int (nI n)]))] ++ bp g n ed cap ad B)) (fun _ => List.append_nil _) dX3_nearestStop_61 (fun u_61 h_61 => ?_)
        refine z_cast h lk_X3_nearestStop_cl113 (7 + (rq rf j + 1)) (bp_atW (by omega)) rfl dX3_nearestStop_64 ?_
        refine z_getN h in_X3_nearestStop_X0 (7 + (rq rf j + 1)) (bp_atW (by omega)) rfl 0 (by decide) (by decide) rfl dX3_nearestStop_67 ?_
        refine z_topi (y := nI (plc B (rq rf j))) hbj.1 ?_
        refine z_Vi h (As := [.int (nI fr), .int (nI (plc B (rq rf j)))]) (st := []) (fun sz => m_X1_between l g (a 1) (a 2) (a 3) pl fm fr (plc B (rq rf j)) hfr hbj.2.1 sz) (cwV 2 h.ts gX3_nearestStop_X1_between rfl rfl rfl (by decide +kernel) ⟨Nat.le_of_ble_eq_true rfl, Nat.le_of_ble_eq_true rfl⟩) rfl [] [1, 0] rfl rfl rfl rfl 1 rfl rfl rfl rfl (Nat.le_of_ble_eq_true rfl) ⟨(Nat.le_of_ble_eq_true rfl), (Nat.le_of_ble_eq_true rfl)⟩ (fun _ => (Nat.le_of_ble_eq_true rfl)) (wN := fun u => ([(a 2, .inl (g.2.1, 100, .inl fm)), (a 1, .inr (2, [.ref (a 2), .ref (a 3), .int (nI pl)])), (a 5, .inl (g.2.2.2.1, 400, .inl hf)), (a 8, .inl (g.2.1, 16, .inl rf)), (a 7, .inl (g.2.2.1, 3, .inr (.inl wf))), (a 0, .inr (4, [.ref (a 1), .ref (a 4), .ref (a 5), .ref (a 6), .ref (a 7), .ref (a 8), .int (nI sn), .int (nI dy)])), (a 4, .inr (0, [.int mc, .ref ed, .int (nI n)]))] ++ bp g n ed cap ad B)) (fun _ => List.append_nil _) dX3_nearestStop_70 (fun r_70 u_70 h_70 => ?_)
        refine z_topi (y := drvR fm B rf fr j) h_70 ?_
        refine z_istore h dX3_nearestStop_73 (by decide) (lv' := [(0, .ref (a 0)), (1, .int (nI f)), (2, .int (nI fr)), (3, .int (nI nb)), (4, .int dd), (5, .int (nI j)), (6, .int (drvR fm B rf fr j))]) [1, 2, 3, 4, 5, 6, 0] rfl ?_
        refine z_iload h dX3_nearestStop_75 6 rfl ?_
        refine z_iload h dX3_nearestStop_77 4 rfl ?_
        refine z_icmp_lt h (tgt := 105) dX3_nearestStop_79 (by decide) (fun c_79 => ?_) (fun c_79 => ?_)
        · have hw : drvR fm B rf fr j < dd ∨ (drvR fm B rf fr j = dd ∧ rf j < rf nb) := Or.inl c_79
          refine z_iload h dX3_nearestStop_105 5 rfl ?_
          refine z_istore_n h dX3_nearestStop_107 rfl (by decide) (lv' := [(0, .ref (a 0)), (1, .int (nI f)), (2, .int (nI fr)), (3, .int (nI j)), (4, .int dd), (5, .int (nI j)), (6, .int (drvR fm B rf fr j))]) [1, 2, 3, 0, 4, 5, 6] rfl ?_
          refine z_iload h dX3_nearestStop_108 6 rfl ?_
          refine z_istore h dX3_nearestStop_110 (by decide) (lv' := [(0, .ref (a 0)), (1, .int (nI f)), (2, .int (nI fr)), (3, .int (nI j)), (4, .int (drvR fm B rf fr j)), (5, .int (nI j)), (6, .int (drvR fm B rf fr j))]) [1, 2, 3, 4, 0, 5, 6] rfl ?_
          refine z_iinc h (v := nI (j + 1)) dX3_nearestStop_112 (by decide) 5 rfl (by rw [show Int32.ofInt 1 = nI 1 from rfl, nI_add]) (lv' := [(0, .ref (a 0)), (1, .int (nI f)), (2, .int (nI fr)), (3, .int (nI j)), (4, .int (drvR fm B rf fr j)), (5, .int (nI (j + 1))), (6, .int (drvR fm B rf fr j))]) [1, 2, 3, 4, 5, 0, 6] rfl ?_
          refine z_goto h (tgt := 36) dX3_nearestStop_115 (by decide) ?_
          refine z_lv [0, 1, 2, 3, 4, 5] (lv' := [(0, .ref (a 0)), (1, .int (nI f)), (2, .int (nI fr)), (3, .int (nI j)), (4, .int (drvR fm B rf fr j)), (5, .int (nI (j + 1)))]) rfl ?_
          exact ihL36 (j + 1) j (drvR fm B rf fr j) (by omega) (by omega) (by omega) (by first | rw [nsF_s hfj e2, if_pos hw] | rw [nsF_s hfj e2, if_neg hw]) (by omega)
        · refine z_iload h dX3_nearestStop_82 6 rfl ?_
          refine z_iload h dX3_nearestStop_84 4 rfl ?_
          refine z_icmp_ne h (tgt := 112) dX3_nearestStop_86 (by decide) (fun c_86 => ?_) (fun c_86 => ?_)
          · have hw : ¬ (drvR fm B rf fr j < dd ∨ (drvR fm B rf fr j = dd ∧ rf j < rf nb)) := fun q => q.elim c_79 (fun q => c_86 q.1)
            refine z_iinc h (v := nI (j + 1)) dX3_nearestStop_112 (by decide) 5 rfl (by rw [show Int32.ofInt 1 = nI 1 from rfl, nI_add]) (lv' := [(0, .ref (a 0)), (1, .int (nI f)), (2, .int (nI fr)), (3, .int (nI nb)), (4, .int dd), (5, .int (nI (j + 1))), (6, .int (drvR fm B rf fr j))]) [1, 2, 3, 4, 5, 0, 6] rfl ?_
            refine z_goto h (tgt := 36) dX3_nearestStop_115 (by decide) ?_
            refine z_lv [0, 1, 2, 3, 4, 5] (lv' := [(0, .ref (a 0)), (1, .int (nI f)), (2, .int (nI fr)), (3, .int (nI nb)), (4, .int dd), (5, .int (nI (j + 1)))]) rfl ?_
            exact ihL36 (j + 1) nb dd (by omega) (by omega) (by omega) (by first | rw [nsF_s hfj e2, if_pos hw] | rw [nsF_s hfj e2, if_neg hw]) (by omega)
          · refine z_aload_n h dX3_nearestStop_89 rfl 0 rfl ?_
            refine z_get h in_X3_nearestStop_X3 5 rfl rfl 5 (by decide) lk_X3_nearestStop_f34 rfl dX3_nearestStop_90 ?_
            refine z_iload h dX3_nearestStop_93 5 rfl ?_
            refine z_iald h 3 rfl (vp_in_nI (by omega) (by omega)) dX3_nearestStop_95 (v := rf j) (by rw [nI_clamp (by omega)]) ?_
            refine z_aload_n h dX3_nearestStop_96 rfl 0 rfl ?_
            refine z_get h in_X3_nearestStop_X3 5 rfl rfl 5 (by decide) lk_X3_nearestStop_f34 rfl dX3_nearestStop_97 ?_
            refine z_iload_n h dX3_nearestStop_100 rfl 3 rfl ?_
            refine z_iald h 3 rfl (vp_in_nI (by omega) (by omega)) dX3_nearestStop_101 (v := rf nb) (by rw [nI_clamp (by omega)]) ?_
            refine z_icmp_ge h (tgt := 112) dX3_nearestStop_102 (by decide) (fun c_102 => ?_) (fun c_102 => ?_)
            · have hw : ¬ (drvR fm B rf fr j < dd ∨ (drvR fm B rf fr j = dd ∧ rf j < rf nb)) := fun q => q.elim c_79 (fun q => i32_nle q.2 c_102)
              refine z_iinc h (v := nI (j + 1)) dX3_nearestStop_112 (by decide) 5 rfl (by rw [show Int32.ofInt 1 = nI 1 from rfl, nI_add]) (lv' := [(0, .ref (a 0)), (1, .int (nI f)), (2, .int (nI fr)), (3, .int (nI nb)), (4, .int dd), (5, .int (nI (j + 1))), (6, .int (drvR fm B rf fr j))]) [1, 2, 3, 4, 5, 0, 6] rfl ?_
              refine z_goto h (tgt := 36) dX3_nearestStop_115 (by decide) ?_
              refine z_lv [0, 1, 2, 3, 4, 5] (lv' := [(0, .ref (a 0)), (1, .int (nI f)), (2, .int (nI fr)), (3, .int (nI nb)), (4, .int dd), (5, .int (nI (j + 1)))]) rfl ?_
              exact ihL36 (j + 1) nb dd (by omega) (by omega) (by omega) (by first | rw [nsF_s hfj e2, if_pos hw] | rw [nsF_s hfj e2, if_neg hw]) (by omega)
            · have hw : drvR fm B rf fr j < dd ∨ (drvR fm B rf fr j = dd ∧ rf j < rf nb) := Or.inr ⟨c_86, i32_nlf c_102⟩
              refine z_iload h dX3_nearestStop_105 5 rfl ?_
              refine z_istore_n h dX3_nearestStop_107 rfl (by decide) (lv' := [(0, .ref (a 0)), (1, .int (nI f)), (2, .int (nI fr)), (3, .int (nI j)), (4, .int dd), (5, .int (nI j)), (6, .int (drvR fm B rf fr j))]) [1, 2, 3, 0, 4, 5, 6] rfl ?_
              refine z_iload h dX3_nearestStop_108 6 rfl ?_
              refine z_istore h dX3_nearestStop_110 (by decide) (lv' := [(0, .ref (a 0)), (1, .int (nI f)), (2, .int (nI fr)), (3, .int (nI j)), (4, .int (drvR fm B rf fr j)), (5, .int (nI j)), (6, .int (drvR fm B rf fr j))]) [1, 2, 3, 4, 0, 5, 6] rfl ?_
              refine z_iinc h (v := nI (j + 1)) dX3_nearestStop_112 (by decide) 5 rfl (by rw [show Int32.ofInt 1 = nI 1 from rfl, nI_add]) (lv' := [(0, .ref (a 0)), (1, .int (nI f)), (2, .int (nI fr)), (3, .int (nI j)), (4, .int (drvR fm B rf fr j)), (5, .int (nI (j + 1))), (6, .int (drvR fm B rf fr j))]) [1, 2, 3, 4, 5, 0, 6] rfl ?_
              refine z_goto h (tgt := 36) dX3_nearestStop_115 (by decide) ?_
              refine z_lv [0, 1, 2, 3, 4, 5] (lv' := [(0, .ref (a 0)), (1, .int (nI f)), (2, .int (nI fr)), (3, .int (nI j)), (4, .int (drvR fm B rf fr j)), (5, .int (nI (j + 1)))]) rfl ?_
              exact ihL36 (j + 1) j (drvR fm B rf fr j) (by omega) (by omega) (by omega) (by first | rw [nsF_s hfj e2, if_pos hw] | rw [nsF_s hfj e2, if_neg hw]) (by omega)
  exact L36 (sn + 1 - (f + 1)) (f + 1) f (drvR fm B rf fr f) (by omega) (by omega) (Nat.le_refl _) (by rw [Nat.sub_self]; rfl) hff
abbrev rmX3_planRoute : Room := { frames := 4, cells := 0, slots := 0, locals := 90 }
set_option maxHeartbeats 4000000 in
set_option maxRecDepth 100000 in
theorem m_X3_planRoute (l : Launch) (g : Gx) (a : Nat → Nat) (fm : Nat → Int32) (pl : Nat) (hf : Nat → Int32) (rf : Nat → Int32) (wf : Nat → Int64) (sn : Nat) (dy : Nat) (mc : Int32) (ed : Nat) (n : Nat) (cap : Nat) (ad : Nat → Nat) (B : Nat → Nat → Int32) (k : Int32) (hpl : pl ≤ 10) (hn : n ≤ 16) (hc : n ≤ cap) (hcap : cap ≤ 26) (hdy : dy ≤ 399) (hb : BOK n B) (sz : Nat) : Met l yX3_planRoute wsX3_planRoute rmX3_planRoute (PZ g [.ref (a 0), .int k] sz ([(a 2, .inl (g.2.1, 100, .inl fm)), (a 1, .inr (2, [.ref (a 2), .ref (a 3), .int (nI pl)])), (a 5, .inl (g.2.2.2.1, 400, .inl hf)), (a 8, .inl (g.2.1, 16, .inl rf)), (a 7, .inl (g.2.2.1, 3, .inr (.inl wf))), (a 0, .inr (4, [.ref (a 1), .ref (a 4), .ref (a 5), .ref (a 6), .ref (a 7), .ref (a 8), .int (nI sn), .int (nI dy)])), (a 4, .inr (0, [.int mc, .ref ed, .int (nI n)]))] ++ bp g n ed cap ad B) []) (va_Qv (fun (_ : Unit) => ROK (plR fm B dy (nwd hf dy) k rf n) (plS B dy (nwd hf dy) k rf n) n ∧ plS B dy (nwd hf dy) k rf n ≤ n) (BZ g ([(a 2, .inl (g.2.1, 100, .inl fm)), (a 1, .inr (2, [.ref (a 2), .ref (a 3), .int (nI pl)])), (a 5, .inl (g.2.2.2.1, 400, .inl hf)), (a 8, .inl (g.2.1, 16, .inl rf)), (a 7, .inl (g.2.2.1, 3, .inr (.inl wf))), (a 0, .inr (4, [.ref (a 1), .ref (a 4), .ref (a 5), .ref (a 6), .ref (a 7), .ref (a 8), .int (nI sn), .int (nI dy)])), (a 4, .inr (0, [.int mc, .ref ed, .int (nI n)]))] ++ bp g n ed cap ad B) sz (fun (u : Unit) => ([(a 2, .inl (g.2.1, 100, .inl fm)), (a 1, .inr (2, [.ref (a 2), .ref (a 3), .int (nI pl)])), (a 5, .inl (g.2.2.2.1, 400, .inl hf)), (a 8, .inl (g.2.1, 16, .inl (plR fm B dy (nwd hf dy) k rf n))), (a 7, .inl (g.2.2.1, 3, .inr (.inl wf))), (a 0, .inr (4, [.ref (a 1), .ref (a 4), .ref (a 5), .ref (a 6), .ref (a 7), .ref (a 8), .int (nI (plS B dy (nwd hf dy) k rf n)), .int (nI dy)])), (a 4, .inr (0, [.int mc, .ref ed, .int (nI n)]))] ++ bp g n ed cap ad B))) (va_A ([(a 2, .inl (g.2.1, 100, .inl fm)), (a 1, .inr (2, [.ref (a 2), .ref (a 3), .int (nI pl)])), (a 5, .inl (g.2.2.2.1, 400, .inl hf)), (a 8, .inl (g.2.1, 16, .inl rf)), (a 7, .inl (g.2.2.1, 3, .inr (.inl wf))), (a 0, .inr (4, [.ref (a 1), .ref (a 4), .ref (a 5), .ref (a 6), .ref (a 7), .ref (a 8), .int (nI sn), .int (nI dy)])), (a 4, .inr (0, [.int mc, .ref ed, .int (nI n)]))] ++ bp g n ed cap ad B) sz)) 0 0 (va_A ([(a 2, .inl (g.2.1, 100, .inl fm)), (a 1, .inr (2, [.ref (a 2), .ref (a 3), .int (nI pl)])), (a 5, .inl (g.2.2.2.1, 400, .inl hf)), (a 8, .inl (g.2.1, 16, .inl rf)), (a 7, .inl (g.2.2.1, 3, .inr (.inl wf))), (a 0, .inr (4, [.ref (a 1), .ref (a 4), .ref (a 5), .ref (a 6), .ref (a 7), .ref (a 8), .int (nI sn), .int (nI dy)])), (a 4, .inr (0, [.int mc, .ref ed, .int (nI n)]))] ++ bp g n ed cap ad B) sz) := by
  refine z_open_v (cc := cX3_planRoute) (maxL := 7) (own := RX3) (by decide) rfl rfl (Nat.le_of_ble_eq_true rfl) ?_
  intro p e s m args below meth c Q h hnm fin
  generalize hAe : va_A ([(a 2, .inl (g.2.1, 100, .inl fm)), (a 1, .inr (2, [.ref (a 2), .ref (a 3), .int (nI pl)])), (a 5, .inl (g.2.2.2.1, 400, .inl hf)), (a 8, .inl (g.2.1, 16, .inl rf)), (a 7, .inl (g.2.2.1, 3, .inr (.inl wf))), (a 0, .inr (4, [.ref (a 1), .ref (a 4), .ref (a 5), .ref (a 6), .ref (a 7), .ref (a 8), .int (nI sn), .int (nI dy)])), (a 4, .inr (0, [.int mc, .ref ed, .int (nI n)]))] ++ bp g n ed cap ad B) s.heap.size = A at h fin ⊢
  refine z_lve (lv' := [(0, .ref (a 0)), (1, .int k)]) rfl ?_
  refine z_aload_n h dX3_planRoute_0 rfl 0 rfl ?_
  refine z_Vi h (As := []) (st := []) (fun sz => m_X3_nextWorkday l g a sn dy hf (by omega) sz) (cwV 0 h.ts gX3_planRoute_X3_nextWorkday rfl rfl rfl (by decide +kernel) ⟨Nat.le_of_ble_eq_true rfl, Nat.le_of_ble_eq_true rfl⟩) rfl [] [5, 2] rfl rfl rfl rfl 5 rfl rfl rfl rfl (Nat.le_of_ble_eq_true rfl) ⟨(Nat.le_of_ble_eq_true rfl), (Nat.le_of_ble_eq_true rfl)⟩ (fun _ => (Nat.le_of_ble_eq_true rfl)) (wN := fun u => ([(a 2, .inl (g.2.1, 100, .inl fm)), (a 1, .inr (2, [.ref (a 2), .ref (a 3), .int (nI pl)])), (a 5, .inl (g.2.2.2.1, 400, .inl hf)), (a 8, .inl (g.2.1, 16, .inl rf)), (a 7, .inl (g.2.2.1, 3, .inr (.inl wf))), (a 0, .inr (4, [.ref (a 1), .ref (a 4), .ref (a 5), .ref (a 6), .ref (a 7), .ref (a 8), .int (nI sn), .int (nI dy)])), (a 4, .inr (0, [.int mc, .ref ed, .int (nI n)]))] ++ bp g n ed cap ad B)) (fun _ => List.append_nil _) dX3_planRoute_1 (fun r_1 u_1 h_1 => ?_)
  refine z_topi (y := nI (nwd hf dy)) h_1 ?_
  refine z_istore_n h dX3_planRoute_4 rfl (by decide) (lv' := [(0, .ref (a 0)), (1, .int k), (2, .int (nI (nwd hf dy)))]) [1, 2, 0] rfl ?_
  refine z_aload_n h dX3_planRoute_5 rfl 0 rfl ?_
  refine z_iconst h (v := 0) dX3_planRoute_6 (by decide) ?_
  refine z_put h in_X3_planRoute_X3 5 tyX3 tyX3_ok nmX3 rfl rfl 6 (by decide) lk_X3_planRoute_f38 rfl rfl rfl (Nat.le_of_ble_eq_true rfl) dX3_planRoute_7 (wW' := ([(a 2, .inl (g.2.1, 100, .inl fm)), (a 1, .inr (2, [.ref (a 2), .ref (a 3), .int (nI pl)])), (a 5, .inl (g.2.2.2.1, 400, .inl hf)), (a 8, .inl (g.2.1, 16, .inl rf)), (a 7, .inl (g.2.2.1, 3, .inr (.inl wf))), (a 0, .inr (4, [.ref (a 1), .ref (a 4), .ref (a 5), .ref (a 6), .ref (a 7), .ref (a 8), .int 0, .int (nI dy)])), (a 4, .inr (0, [.int mc, .ref ed, .int (nI n)]))] ++ bp g n ed cap ad B)) rfl ?_
  refine z_iconst h (v := 0) dX3_planRoute_10 (by decide) ?_
  refine z_istore_n h dX3_planRoute_11 rfl (by decide) (lv' := [(0, .ref (a 0)), (1, .int k), (2, .int (nI (nwd hf dy))), (3, .int 0)]) [1, 2, 3, 0] rfl ?_
  have L12 : ∀ (L12n i : Nat) (rf1 : Nat → Int32) (s1 : Nat), i ≤ n → n < L12n + i → flR B dy (nwd hf dy) k rf i = (rf1, s1) → s1 ≤ i → ROK rf1 s1 n → Z p l e rmX3_planRoute s m args below meth c Q A g 7 12 [(0, .ref (a 0)), (1, .int k), (2, .int (nI (nwd hf dy))), (3, .int (nI i))] [] ([(a 2, .inl (g.2.1, 100, .inl fm)), (a 1, .inr (2, [.ref (a 2), .ref (a 3), .int (nI pl)])), (a 5, .inl (g.2.2.2.1, 400, .inl hf)), (a 8, .inl (g.2.1, 16, .inl rf1)), (a 7, .inl (g.2.2.1, 3, .inr (.inl wf))), (a 0, .inr (4, [.ref (a 1), .ref (a 4), .ref (a 5), .ref (a 6), .ref (a 7), .ref (a 8), .int (nI s1), .int (nI dy)])), (a 4, .inr (0, [.int mc, .ref ed, .int (nI n)]))] ++ bp g n ed cap ad B) [] 0 0 := by
    intro L12n
    induction L12n with
    | zero => intro i rf1 s1 hi hL12 e1 hs hr1; exact absurd hL12 (by omega)
    | succ L12n ihL12 =>
      intro i rf1 s1 hi hL12 e1 hs hr1
      refine z_iload_n h dX3_planRoute_12 rfl 3 rfl ?_
      refine z_aload_n h dX3_planRoute_13 rfl 0 rfl ?_
      refine z_get h in_X3_planRoute_X3 5 rfl rfl 1 (by decide) lk_X3_planRoute_f19 rfl dX3_planRoute_14 ?_
      refine z_Vi h (As := []) (st := [.int (nI i)]) (fun sz => m_Jx4a65c_size_8abf5 l g (a 4) mc ed n  sz) (cwV 0 h.ts gX3_planRoute_Jx4a65c_size_8abf5 rfl rfl rfl (by decide +kernel) ⟨Nat.le_of_ble_eq_true rfl, Nat.le_of_ble_eq_true rfl⟩) rfl [] [6] rfl rfl rfl rfl 6 rfl rfl rfl rfl (Nat.le_of_ble_eq_true rfl) ⟨(Nat.le_of_ble_eq_true rfl), (Nat.le_of_ble_eq_true rfl)⟩ (fun _ => (Nat.le_of_ble_eq_true rfl)) (wN := fun u => ([(a 2, .inl (g.2.1, 100, .inl fm)), (a 1, .inr (2, [.ref (a 2), .ref (a 3), .int (nI pl)])), (a 5, .inl (g.2.2.2.1, 400, .inl hf)), (a 8, .inl (g.2.1, 16, .inl rf1)), (a 7, .inl (g.2.2.1, 3, .inr (.inl wf))), (a 0, .inr (4, [.ref (a 1), .ref (a 4), .ref (a 5), .ref (a 6), .ref (a 7), .ref (a 8), .int (nI s1), .int (nI dy)])), (a 4, .inr (0, [.int mc, .ref ed, .int (nI n)]))] ++ bp g n ed cap ad B)) (fun _ => List.append_nil _) dX3_planRoute_17 (fun r_17 u_17 h_17 => ?_)
      refine z_icmp_ge h (tgt := 84) dX3_planRoute_20 (by decide) (fun c_20 => ?_) (fun c_20 => ?_)
      · have hin : n = i := by have := ge_t (a := i) (b := n) (by rw [← h_17]; exact c_20) (by omega) (by omega); omega
        subst hin
        refine z_iconst h (v := 0) dX3_planRoute_84 (by decide) ?_
        refine z_istore_n h dX3_planRoute_85 rfl (by decide) (lv' := [(0, .ref (a 0)), (1, .int k), (2, .int (nI (nwd hf dy))), (3, .int 0)]) [1, 2, 3, 0] rfl ?_
        refine z_iconst h (v := 0) dX3_planRoute_86 (by decide) ?_
        refine z_istore h dX3_planRoute_87 (by decide) (lv' := [(0, .ref (a 0)), (1, .int k), (2, .int (nI (nwd hf dy))), (3, .int 0), (4, .int 0)]) [1, 2, 3, 4, 0] rfl ?_
        have L89 : ∀ (L89n t1 : Nat) (rf2 : Nat → Int32) (fr : Nat), t1 ≤ s1 → s1 < L89n + t1 → srF fm B rf1 s1 t1 = (rf2, fr) → ROK rf2 s1 n → fr < 10 → Z p l e rmX3_planRoute s m args below meth c Q A g 7 89 [(0, .ref (a 0)), (1, .int k), (2, .int (nI (nwd hf dy))), (3, .int (nI fr)), (4, .int (nI t1))] [] ([(a 2, .inl (g.2.1, 100, .inl fm)), (a 1, .inr (2, [.ref (a 2), .ref (a 3), .int (nI pl)])), (a 5, .inl (g.2.2.2.1, 400, .inl hf)), (a 8, .inl (g.2.1, 16, .inl rf2)), (a 7, .inl (g.2.2.1, 3, .inr (.inl wf))), (a 0, .inr (4, [.ref (a 1), .ref (a 4), .ref (a 5), .ref (a 6), .ref (a 7), .ref (a 8), .int (nI s1), .int (nI dy)])), (a 4, .inr (0, [.int mc, .ref ed, .int (nI n)]))] ++ bp g n ed cap ad B) [] 0 0 := by
          intro L89n
          induction L89n with
          | zero => intro t1 rf2 fr ht1 hL89 e2 hr2 hfr; exact absurd hL89 (by omega)
          | succ L89n ihL89 =>
            intro t1 rf2 fr ht1 hL89 e2 hr2 hfr
            refine z_iload h dX3_planRoute_89 4 rfl ?_
            refine z_aload_n h dX3_planRoute_91 rfl 0 rfl ?_
            refine z_get h in_X3_planRoute_X3 5 rfl rfl 6 (by decide) lk_X3_planRoute_f38 rfl dX3_planRoute_92 ?_
            refine z_icmp_ge h (tgt := 161) dX3_planRoute_95 (by decide) (fun c_95 => ?_) (fun c_95 => ?_)
            · have his : t1 = s1 := by have := ge_t (a := t1) (b := s1) c_95 (by omega) (by omega); omega
              subst his
              exact fin _ _ () _ _ _ _ dX3_planRoute_161 ⟨by simpa only [plR, plS, e1, e2] using hr2, by simpa only [plS, e1] using hs⟩ (by simp only [plR, plS, e1, e2]) (Nat.le_of_ble_eq_true rfl) (Nat.le_of_ble_eq_true rfl)
            · have hu : t1 < s1 := ge_f (a := t1) (b := s1) c_95 (by omega) (by omega)
              refine z_aload_n h dX3_planRoute_98 rfl 0 rfl ?_
              refine z_iload h dX3_planRoute_99 4 rfl ?_
              refine z_iload_n h dX3_planRoute_101 rfl 3 rfl ?_
              refine z_Yi h (As := [.int (nI t1), .int (nI fr)]) (st := []) (Y := []) (fun sz => m_X3_nearestStop l g a fm pl hf rf2 wf s1 dy mc ed n cap ad B t1 fr hpl hn hc hcap hdy hb hr2 (by omega) hu hfr sz) (cwV 2 h.ts gX3_planRoute_X3_nearestStop rfl rfl rfl (by decide +kernel) ⟨Nat.le_of_ble_eq_true rfl, Nat.le_of_ble_eq_true rfl⟩) rfl rfl 5 rfl rfl rfl rfl (Nat.le_of_ble_eq_true rfl) ⟨(Nat.le_of_ble_eq_true rfl), (Nat.le_of_ble_eq_true rfl)⟩ (wN := fun u => ([(a 2, .inl (g.2.1, 100, .inl fm)), (a 1, .inr (2, [.ref (a 2), .ref (a 3), .int (nI pl)])), (a 5, .inl (g.2.2.2.1, 400, .inl hf)), (a 8, .inl (g.2.1, 16, .inl rf2)), (a 7, .inl (g.2.2.1, 3, .inr (.inl wf))), (a 0, .inr (4, [.ref (a 1), .ref (a 4), .ref (a 5), .ref (a 6), .ref (a 7), .ref (a 8), .int (nI s1), .int (nI dy)])), (a 4, .inr (0, [.int mc, .ref ed, .int (nI n)]))] ++ bp g n ed cap ad B)) (fun _ => rfl) dX3_planRoute_102 (fun r_102 u_102 h_102 => ?_)
              have hm := h_102.2
              have hqm := hr2 _ hm
              have hbm := hb _ hqm.2
              refine z_topi (y := nI (nsR fm B rf2 s1 fr t1)) h_102.1 ?_
              refine z_istore h dX3_planRoute_105 (by decide) (lv' := [(0, .ref (a 0)), (1, .int k), (2, .int (nI (nwd hf dy))), (3, .int (nI fr)), (4, .int (nI t1)), (5, .int (nI (nsR fm B rf2 s1 fr t1)))]) [1, 2, 3, 4, 5, 0] rfl ?_
              refine z_aload_n h dX3_planRoute_107 rfl 0 rfl ?_
              refine z_get h in_X3_planRoute_X3 5 rfl rfl 5 (by decide) lk_X3_planRoute_f34 rfl dX3_planRoute_108 ?_
              refine z_iload h dX3_planRoute_111 5 rfl ?_
              refine z_iald h 3 rfl (vp_in_nI (by omega) (by omega)) dX3_planRoute_113 (v := rf2 (nsR fm B rf2 s1 fr t1)) (by rw [nI_clamp (by omega)]) ?_
              refine z_topi (y := nI (rq rf2 (nsR fm B rf2 s1 fr t1))) hqm.1 ?_
              refine z_istore h dX3_planRoute_114 (by decide) (lv' := [(0, .ref (a 0)), (1, .int k), (2, .int (nI (nwd hf dy))), (3, .int (nI fr)), (4, .int (nI t1)), (5, .int (nI (nsR fm B rf2 s1 fr t1))), (6, .int (nI (rq rf2 (nsR fm B rf2 s1 fr t1))))]) [1, 2, 3, 4, 5, 6, 0] rfl ?_
              refine z_aload_n h dX3_planRoute_116 rfl 0 rfl ?_
              refine z_get h in_X3_planRoute_X3 5 rfl rfl 5 (by decide) lk_X3_planRoute_f34 rfl dX3_planRoute_117 ?_
              refine z_iload h dX3_planRoute_120 5 rfl ?_
              refine z_aload_n h dX3_planRoute_122 rfl 0 rfl ?_
              refine z_get h in_X3_planRoute_X3 5 rfl rfl 5 (by decide) lk_X3_planRoute_f34 rfl dX3_planRoute_123 ?_
              refine z_iload h dX3_planRoute_126 4 rfl ?_
              refine z_iald h 3 rfl (vp_in_nI (by omega) (by omega)) dX3_planRoute_128 (v := rf2 t1) (by rw [nI_clamp (by omega)]) ?_
              refine z_iast h (j := nsR fm B rf2 s1 fr t1) 3 rfl (vp_in_nI (by omega) (by omega)) (by rw [nI_clamp (by omega)]) dX3_planRoute_129 (wW' := ([(a 2, .inl (g.2.1, 100, .inl fm)), (a 1, .inr (2, [.ref (a 2), .ref (a 3), .int (nI pl)])), (a 5, .inl (g.2.2.2.1, 400, .inl hf)), (a 8, .inl (g.2.1, 16, .inl (upd rf2 (nsR fm B rf2 s1 fr t1) (rf2 t1)))), (a 7, .inl (g.2.2.1, 3, .inr (.inl wf))), (a 0, .inr (4, [.ref (a 1), .ref (a 4), .ref (a 5), .ref (a 6), .ref (a 7), .ref (a 8), .int (nI s1), .int (nI dy)])), (a 4, .inr (0, [.int mc, .ref ed, .int (nI n)]))] ++ bp g n ed cap ad B)) rfl ?_
              refine z_aload_n h dX3_planRoute_130 rfl 0 rfl ?_
              refine z_get h in_X3_planRoute_X3 5 rfl rfl 5 (by decide) lk_X3_planRoute_f34 rfl dX3_planRoute_131 ?_
              refine z_iload h dX3_planRoute_134 4 rfl ?_
              refine z_iload h dX3_planRoute_136 6 rfl ?_
              refine z_iast h (j := t1) 3 rfl (vp_in_nI (by omega) (by omega)) (by rw [nI_clamp (by omega)]) dX3_planRoute_138 (wW' := ([(a 2, .inl (g.2.1, 100, .inl fm)), (a 1, .inr (2, [.ref (a 2), .ref (a 3), .int (nI pl)])), (a 5, .inl (g.2.2.2.1, 400, .inl hf)), (a 8, .inl (g.2.1, 16, .inl (upd (upd rf2 (nsR fm B rf2 s1 fr t1) (rf2 t1)) t1 (nI (rq rf2 (nsR fm B rf2 s1 fr t1)))))), (a 7, .inl (g.2.2.1, 3, .inr (.inl wf))), (a 0, .inr (4, [.ref (a 1), .ref (a 4), .ref (a 5), .ref (a 6), .ref (a 7), .ref (a 8), .int (nI s1), .int (nI dy)])), (a 4, .inr (0, [.int mc, .ref ed, .int (nI n)]))] ++ bp g n ed cap ad B)) rfl ?_
              refine z_aload_n h dX3_planRoute_139 rfl 0 rfl ?_
              refine z_get h in_X3_planRoute_X3 5 rfl rfl 1 (by decide) lk_X3_planRoute_f19 rfl dX3_planRoute_140 ?_
              refine z_iload h dX3_planRoute_143 6 rfl ?_
              refine z_Vr h (As := [.int (nI (rq rf2 (nsR fm B rf2 s1 fr t1)))]) (st := []) (fun sz => m_Jx4a65c_get_915e3 l g (a 4) mc ed n cap ad (rq rf2 (nsR fm B rf2 s1 fr t1)) hqm.2 hc (by omega) sz) (cwV 1 h.ts gX3_planRoute_Jx4a65c_get_915e3 rfl rfl rfl (by decide +kernel) ⟨Nat.le_of_ble_eq_true rfl, Nat.le_of_ble_eq_true rfl⟩) rfl [] [6, 7] (lc rfl (lc (bp_elW (by omega)) rfl)) rfl rfl rfl 6 rfl rfl rfl rfl (Nat.le_of_ble_eq_true rfl) ⟨(Nat.le_of_ble_eq_true rfl), (Nat.le_of_ble_eq_true rfl)⟩ (fun _ => (Nat.le_of_ble_eq_true rfl)) (wN := fun u => ([(a 2, .inl (g.2.1, 100, .inl fm)), (a 1, .inr (2, [.ref (a 2), .ref (a 3), .int (nI pl)])), (a 5, .inl (g.2.2.2.1, 400, .inl hf)), (a 8, .inl (g.2.1, 16, .inl (upd (upd rf2 (nsR fm B rf2 s1 fr t1) (rf2 t1)) t1 (nI (rq rf2 (nsR fm B rf2 s1 fr t1)))))), (a 7, .inl (g.2.2.1, 3, .inr (.inl wf))), (a 0, .inr (4, [.ref (a 1), .ref (a 4), .ref (a 5), .ref (a 6), .ref (a 7), .ref (a 8), .int (nI s1), .int (nI dy)])), (a 4, .inr (0, [.int mc, .ref ed, .int (nI n)]))] ++ bp g n ed cap ad B)) (fun _ => List.append_nil _) dX3_planRoute_145 (fun u_145 h_145 => ?_)
              refine z_cast h lk_X3_planRoute_cl113 (7 + (rq rf2 (nsR fm B rf2 s1 fr t1) + 1)) (bp_atW (by omega)) rfl dX3_planRoute_148 ?_
              refine z_getN h in_X3_planRoute_X0 (7 + (rq rf2 (nsR fm B rf2 s1 fr t1) + 1)) (bp_atW (by omega)) rfl 0 (by decide) (by decide) rfl dX3_planRoute_151 ?_
              refine z_topi (y := nI (plc B (rq rf2 (nsR fm B rf2 s1 fr t1)))) hbm.1 ?_
              refine z_istore_n h dX3_planRoute_154 rfl (by decide) (lv' := [(0, .ref (a 0)), (1, .int k), (2, .int (nI (nwd hf dy))), (3, .int (nI (plc B (rq rf2 (nsR fm B rf2 s1 fr t1))))), (4, .int (nI t1)), (5, .int (nI (nsR fm B rf2 s1 fr t1))), (6, .int (nI (rq rf2 (nsR fm B rf2 s1 fr t1))))]) [1, 2, 3, 0, 4, 5, 6] rfl ?_
              refine z_iinc h (v := nI (t1 + 1)) dX3_planRoute_155 (by decide) 4 rfl (by rw [show Int32.ofInt 1 = nI 1 from rfl, nI_add]) (lv' := [(0, .ref (a 0)), (1, .int k), (2, .int (nI (nwd hf dy))), (3, .int (nI (plc B (rq rf2 (nsR fm B rf2 s1 fr t1))))), (4, .int (nI (t1 + 1))), (5, .int (nI (nsR fm B rf2 s1 fr t1))), (6, .int (nI (rq rf2 (nsR fm B rf2 s1 fr t1))))]) [1, 2, 3, 4, 0, 5, 6] rfl ?_
              refine z_goto h (tgt := 89) dX3_planRoute_158 (by decide) ?_
              refine z_lv [0, 1, 2, 3, 4] (lv' := [(0, .ref (a 0)), (1, .int k), (2, .int (nI (nwd hf dy))), (3, .int (nI (plc B (rq rf2 (nsR fm B rf2 s1 fr t1))))), (4, .int (nI (t1 + 1)))]) rfl ?_
              exact ihL89 (t1 + 1) (upd (upd rf2 (nsR fm B rf2 s1 fr t1) (rf2 t1)) t1 (nI (rq rf2 (nsR fm B rf2 s1 fr t1)))) (plc B (rq rf2 (nsR fm B rf2 s1 fr t1))) (by omega) (by omega) (by rw [srF, e2]) (hr2.swap hm hu hn) hbm.2.1
        exact L89 (s1 + 1 - 0) 0 rf1 0 (by omega) (by omega) rfl hr1 (by omega)
      · have hi : i < n := ge_f (a := i) (b := n) (by rw [← h_17]; exact c_20) (by omega) (by omega)
        refine z_aload_n h dX3_planRoute_23 rfl 0 rfl ?_
        refine z_get h in_X3_planRoute_X3 5 rfl rfl 1 (by decide) lk_X3_planRoute_f19 rfl dX3_planRoute_24 ?_
        refine z_iload_n h dX3_planRoute_27 rfl 3 rfl ?_
        refine z_Vr h (As := [.int (nI i)]) (st := []) (fun sz => m_Jx4a65c_get_915e3 l g (a 4) mc ed n cap ad i hi hc (by omega) sz) (cwV 1 h.ts gX3_planRoute_Jx4a65c_get_915e3 rfl rfl rfl (by decide +kernel) ⟨Nat.le_of_ble_eq_true rfl, Nat.le_of_ble_eq_true rfl⟩) rfl [] [6, 7] (lc rfl (lc (bp_elW (by omega)) rfl)) rfl rfl rfl 6 rfl rfl rfl rfl (Nat.le_of_ble_eq_true rfl) ⟨(Nat.le_of_ble_eq_true rfl), (Nat.le_of_ble_eq_true rfl)⟩ (fun _ => (Nat.le_of_ble_eq_true rfl)) (wN := fun u => ([(a 2, .inl (g.2.1, 100, .inl fm)), (a 1, .inr (2, [.ref (a 2), .ref (a 3), .int (nI pl)])), (a 5, .inl (g.2.2.2.1, 400, .inl hf)), (a 8, .inl (g.2.1, 16, .inl rf1)), (a 7, .inl (g.2.2.1, 3, .inr (.inl wf))), (a 0, .inr (4, [.ref (a 1), .ref (a 4), .ref (a 5), .ref (a 6), .ref (a 7), .ref (a 8), .int (nI s1), .int (nI dy)])), (a 4, .inr (0, [.int mc, .ref ed, .int (nI n)]))] ++ bp g n ed cap ad B)) (fun _ => List.append_nil _) dX3_planRoute_28 (fun u_28 h_28 => ?_)
        refine z_cast h lk_X3_planRoute_cl113 (7 + (i + 1)) (bp_atW (by omega)) rfl dX3_planRoute_31 ?_
        refine z_astore h dX3_planRoute_34 (by decide) (lv' := [(0, .ref (a 0)), (1, .int k), (2, .int (nI (nwd hf dy))), (3, .int (nI i)), (4, .ref (ad i))]) [1, 2, 3, 4, 0] rfl ?_
        refine z_aload h dX3_planRoute_36 4 rfl ?_
        refine z_getN h in_X3_planRoute_X0 (7 + (i + 1)) (bp_atW (by omega)) rfl 1 (by decide) (by decide) rfl dX3_planRoute_38 ?_
        refine z_iload_n h dX3_planRoute_41 rfl 1 rfl ?_
        refine z_icmp_ne h (tgt := 78) dX3_planRoute_42 (by decide) (fun c_42 => ?_) (fun c_42 => ?_)
        · refine z_iinc h (v := nI (i + 1)) dX3_planRoute_78 (by decide) 3 rfl (by rw [show Int32.ofInt 1 = nI 1 from rfl, nI_add]) (lv' := [(0, .ref (a 0)), (1, .int k), (2, .int (nI (nwd hf dy))), (3, .int (nI (i + 1))), (4, .ref (ad i))]) [1, 2, 3, 0, 4] rfl ?_
          refine z_goto h (tgt := 12) dX3_planRoute_81 (by decide) ?_
          refine z_lv [0, 1, 2, 3] (lv' := [(0, .ref (a 0)), (1, .int k), (2, .int (nI (nwd hf dy))), (3, .int (nI (i + 1)))]) rfl ?_
          exact ihL12 (i + 1) rf1 s1 (by omega) (by omega) (by first | (rw [flR, if_neg (fun q => c_42 q.1)]; exact e1) | (rw [flR, if_neg (fun q => q.2 (h_52.symm.trans c_55))]; exact e1) | (rw [flR, if_pos ⟨c_42, fun q => c_55 (h_52.trans q)⟩, e1])) (by omega) (by first | exact hr1 | exact hr1.push hi hn)
        · refine z_aload h dX3_planRoute_45 4 rfl ?_
          refine z_aload_n h dX3_planRoute_47 rfl 0 rfl ?_
          refine z_get h in_X3_planRoute_X3 5 rfl rfl 7 (by decide) lk_X3_planRoute_f42 rfl dX3_planRoute_48 ?_
          refine z_iload_n h dX3_planRoute_51 rfl 2 rfl ?_
          refine z_Vi h (As := [.int (nI dy), .int (nI (nwd hf dy))]) (st := []) (fun sz => m_X0_isDue l g (ad i) (B i) (nI dy) (nI (nwd hf dy))  sz) (cwV 2 h.ts gX3_planRoute_X0_isDue rfl rfl rfl (by decide +kernel) ⟨Nat.le_of_ble_eq_true rfl, Nat.le_of_ble_eq_true rfl⟩) rfl [] [(7 + (i + 1))] (lc (bp_atW (by omega)) rfl) rfl (by simp [va_nd]; try omega) (by simp [va_nd]) (7 + (i + 1)) (bp_atW (by omega)) rfl rfl rfl (Nat.le_of_ble_eq_true rfl) ⟨(Nat.le_of_ble_eq_true rfl), (Nat.le_of_ble_eq_true rfl)⟩ (fun _ => (Nat.le_of_ble_eq_true rfl)) (wN := fun u => ([(a 2, .inl (g.2.1, 100, .inl fm)), (a 1, .inr (2, [.ref (a 2), .ref (a 3), .int (nI pl)])), (a 5, .inl (g.2.2.2.1, 400, .inl hf)), (a 8, .inl (g.2.1, 16, .inl rf1)), (a 7, .inl (g.2.2.1, 3, .inr (.inl wf))), (a 0, .inr (4, [.ref (a 1), .ref (a 4), .ref (a 5), .ref (a 6), .ref (a 7), .ref (a 8), .int (nI s1), .int (nI dy)])), (a 4, .inr (0, [.int mc, .ref ed, .int (nI n)]))] ++ bp g n ed cap ad B)) (fun _ => List.append_nil _) dX3_planRoute_52 (fun r_52 u_52 h_52 => ?_)
          refine z_if_eq h (tgt := 78) dX3_planRoute_55 (by decide) (fun c_55 => ?_) (fun c_55 => ?_)
          · refine z_iinc h (v := nI (i + 1)) dX3_planRoute_78 (by decide) 3 rfl (by rw [show Int32.ofInt 1 = nI 1 from rfl, nI_add]) (lv' := [(0, .ref (a 0)), (1, .int k), (2, .int (nI (nwd hf dy))), (3, .int (nI (i + 1))), (4, .ref (ad i))]) [1, 2, 3, 0, 4] rfl ?_
            refine z_goto h (tgt := 12) dX3_planRoute_81 (by decide) ?_
            refine z_lv [0, 1, 2, 3] (lv' := [(0, .ref (a 0)), (1, .int k), (2, .int (nI (nwd hf dy))), (3, .int (nI (i + 1)))]) rfl ?_
            exact ihL12 (i + 1) rf1 s1 (by omega) (by omega) (by first | (rw [flR, if_neg (fun q => c_42 q.1)]; exact e1) | (rw [flR, if_neg (fun q => q.2 (h_52.symm.trans c_55))]; exact e1) | (rw [flR, if_pos ⟨c_42, fun q => c_55 (h_52.trans q)⟩, e1])) (by omega) (by first | exact hr1 | exact hr1.push hi hn)
          · refine z_aload_n h dX3_planRoute_58 rfl 0 rfl ?_
            refine z_get h in_X3_planRoute_X3 5 rfl rfl 5 (by decide) lk_X3_planRoute_f34 rfl dX3_planRoute_59 ?_
            refine z_aload_n h dX3_planRoute_62 rfl 0 rfl ?_
            refine z_get h in_X3_planRoute_X3 5 rfl rfl 6 (by decide) lk_X3_planRoute_f38 rfl dX3_planRoute_63 ?_
            refine z_iload_n h dX3_planRoute_66 rfl 3 rfl ?_
            refine z_iast h (j := s1) 3 rfl (vp_in_nI (by omega) (by omega)) (by rw [nI_clamp (by omega)]) dX3_planRoute_67 (wW' := ([(a 2, .inl (g.2.1, 100, .inl fm)), (a 1, .inr (2, [.ref (a 2), .ref (a 3), .int (nI pl)])), (a 5, .inl (g.2.2.2.1, 400, .inl hf)), (a 8, .inl (g.2.1, 16, .inl (upd rf1 s1 (nI i)))), (a 7, .inl (g.2.2.1, 3, .inr (.inl wf))), (a 0, .inr (4, [.ref (a 1), .ref (a 4), .ref (a 5), .ref (a 6), .ref (a 7), .ref (a 8), .int (nI s1), .int (nI dy)])), (a 4, .inr (0, [.int mc, .ref ed, .int (nI n)]))] ++ bp g n ed cap ad B)) rfl ?_
            refine z_aload_n h dX3_planRoute_68 rfl 0 rfl ?_
            refine z_dup h dX3_planRoute_69 rfl ?_
            refine z_get h in_X3_planRoute_X3 5 rfl rfl 6 (by decide) lk_X3_planRoute_f38 rfl dX3_planRoute_70 ?_
            refine z_iconst h (v := 1) dX3_planRoute_73 (by decide) ?_
            refine z_iadd h dX3_planRoute_74 ?_
            refine z_topi (y := nI (s1 + 1)) (nI_1 s1) ?_
            refine z_put h in_X3_planRoute_X3 5 tyX3 tyX3_ok nmX3 rfl rfl 6 (by decide) lk_X3_planRoute_f38 rfl rfl rfl (Nat.le_of_ble_eq_true rfl) dX3_planRoute_75 (wW' := ([(a 2, .inl (g.2.1, 100, .inl fm)), (a 1, .inr (2, [.ref (a 2), .ref (a 3), .int (nI pl)])), (a 5, .inl (g.2.2.2.1, 400, .inl hf)), (a 8, .inl (g.2.1, 16, .inl (upd rf1 s1 (nI i)))), (a 7, .inl (g.2.2.1, 3, .inr (.inl wf))), (a 0, .inr (4, [.ref (a 1), .ref (a 4), .ref (a 5), .ref (a 6), .ref (a 7), .ref (a 8), .int (nI (s1 + 1)), .int (nI dy)])), (a 4, .inr (0, [.int mc, .ref ed, .int (nI n)]))] ++ bp g n ed cap ad B)) rfl ?_
            refine z_iinc h (v := nI (i + 1)) dX3_planRoute_78 (by decide) 3 rfl (by rw [show Int32.ofInt 1 = nI 1 from rfl, nI_add]) (lv' := [(0, .ref (a 0)), (1, .int k), (2, .int (nI (nwd hf dy))), (3, .int (nI (i + 1))), (4, .ref (ad i))]) [1, 2, 3, 0, 4] rfl ?_
            refine z_goto h (tgt := 12) dX3_planRoute_81 (by decide) ?_
            refine z_lv [0, 1, 2, 3] (lv' := [(0, .ref (a 0)), (1, .int k), (2, .int (nI (nwd hf dy))), (3, .int (nI (i + 1)))]) rfl ?_
            exact ihL12 (i + 1) (upd rf1 s1 (nI i)) (s1 + 1) (by omega) (by omega) (by first | (rw [flR, if_neg (fun q => c_42 q.1)]; exact e1) | (rw [flR, if_neg (fun q => q.2 (h_52.symm.trans c_55))]; exact e1) | (rw [flR, if_pos ⟨c_42, fun q => c_55 (h_52.trans q)⟩, e1])) (by omega) (by first | exact hr1 | exact hr1.push hi hn)
  exact L12 (n + 1 - 0) 0 rf 0 (by omega) (by omega) rfl (Nat.le_refl _) (fun j hj => absurd hj (by omega))
