set_option maxHeartbeats 4000000 in
set_option maxRecDepth 100000 in
theorem lp_F {p : Program} {l : Launch} {e : Env} {s : State} {m : MethodId} {args : Array Value} {below : List Frame} {meth : Method} {c : Code} {Q : State → Prop} {A : Nat → Prop} {g : Gx} {b L : Nat} {xs : Nat → Int32} (h : CX p s m args meth c A g 26 cL_law wsL_law RL) (hlf : l.stackTraces = false) (hT : TH g SL3 A s s.heap) (hSx : SX b L xs A s s.heap) (hL : L ≤ 260) {a : Nat → Nat} {b9 pl n cap ed : Nat} {mc : Int32} {fm ft f3 : Nat → Int32} {ad : Nat → Nat} (sn dy : Nat) (rf : Nat → Int32) (tf wf : Nat → Int64) (B : Nat → Nat → Int32) {i N : Nat} {wa ca ra xa na da : Nat} {wy ct rt lt wn di : Nat → Int32} (kc ks : Nat) (hkc : kc ≤ 100000) (hks : ks ≤ 1000000) (hI : LI pl n dy sn cap fm f3 B) (kk : Z p l e room_1 s m args below meth c Q A g 26 677 [(0, .ref b), (1, .ref (a 0)), (2, .ref b9), (4, .int (nI n)), (5, .int (nI i))] [] ([(da, .inl (g.2.2.2.1, N, .inl di)), (na, .inl (g.2.1, N, .inl wn)), (xa, .inl (g.2.1, N, .inl lt)), (ra, .inl (g.2.1, N, .inl rt)), (ca, .inl (g.2.1, N, .inl ct)), (wa, .inl (g.2.1, N, .inl wy)), (b9, .inl (g.2.1, 160, .inl f3)), (a 3, .inl (g.2.1, 10, .inl ft)), (a 6, .inl (g.2.2.1, 12, .inr (.inl tf))), (a 2, .inl (g.2.1, 100, .inl fm)), (a 1, .inr (2, [.ref (a 2), .ref (a 3), .int (nI pl)])), (a 5, .inl (g.2.2.2.1, 400, .inl (fun _ => 0))), (a 8, .inl (g.2.1, 16, .inl rf)), (a 7, .inl (g.2.2.1, 3, .inr (.inl wf))), (a 0, .inr (4, [.ref (a 1), .ref (a 4), .ref (a 5), .ref (a 6), .ref (a 7), .ref (a 8), .int (nI sn), .int (nI dy)])), (a 4, .inr (0, [.int mc, .ref ed, .int (nI n)]))] ++ bp g n ed cap ad B) [] (kc + 50) (ks + 300)) : Z p l e room_1 s m args below meth c Q A g 26 621 [(0, .ref b), (1, .ref (a 0)), (2, .ref b9), (4, .int (nI n)), (5, .int (nI i)), (24, .int (nI 0))] [] ([(da, .inl (g.2.2.2.1, N, .inl di)), (na, .inl (g.2.1, N, .inl wn)), (xa, .inl (g.2.1, N, .inl lt)), (ra, .inl (g.2.1, N, .inl rt)), (ca, .inl (g.2.1, N, .inl ct)), (wa, .inl (g.2.1, N, .inl wy)), (b9, .inl (g.2.1, 160, .inl f3)), (a 3, .inl (g.2.1, 10, .inl ft)), (a 6, .inl (g.2.2.1, 12, .inr (.inl tf))), (a 2, .inl (g.2.1, 100, .inl fm)), (a 1, .inr (2, [.ref (a 2), .ref (a 3), .int (nI pl)])), (a 5, .inl (g.2.2.2.1, 400, .inl (fun _ => 0))), (a 8, .inl (g.2.1, 16, .inl rf)), (a 7, .inl (g.2.2.1, 3, .inr (.inl wf))), (a 0, .inr (4, [.ref (a 1), .ref (a 4), .ref (a 5), .ref (a 6), .ref (a 7), .ref (a 8), .int (nI sn), .int (nI dy)])), (a 4, .inr (0, [.int mc, .ref ed, .int (nI n)]))] ++ bp g n ed cap ad B) [] kc ks := by
  obtain ⟨⟨hpl0, hpl⟩, hn, hcc, hcap, hfm, hbk, hsz, hdy, hs16⟩ := id hI
  refine z_widen (kc' := (kc + 4 * 0)) (ks' := (ks + 24 * 0)) (by omega) (by omega) ?_
  have L621 : ∀ (L621n x : Nat) , x ≤ n → n < L621n + x → Z p l e room_1 s m args below meth c Q A g 26 621 [(0, .ref b), (1, .ref (a 0)), (2, .ref b9), (4, .int (nI n)), (5, .int (nI i)), (24, .int (nI x))] [] ([(da, .inl (g.2.2.2.1, N, .inl di)), (na, .inl (g.2.1, N, .inl wn)), (xa, .inl (g.2.1, N, .inl lt)), (ra, .inl (g.2.1, N, .inl rt)), (ca, .inl (g.2.1, N, .inl ct)), (wa, .inl (g.2.1, N, .inl wy)), (b9, .inl (g.2.1, 160, .inl f3)), (a 3, .inl (g.2.1, 10, .inl ft)), (a 6, .inl (g.2.2.1, 12, .inr (.inl tf))), (a 2, .inl (g.2.1, 100, .inl fm)), (a 1, .inr (2, [.ref (a 2), .ref (a 3), .int (nI pl)])), (a 5, .inl (g.2.2.2.1, 400, .inl (fun _ => 0))), (a 8, .inl (g.2.1, 16, .inl rf)), (a 7, .inl (g.2.2.1, 3, .inr (.inl wf))), (a 0, .inr (4, [.ref (a 1), .ref (a 4), .ref (a 5), .ref (a 6), .ref (a 7), .ref (a 8), .int (nI sn), .int (nI dy)])), (a 4, .inr (0, [.int mc, .ref ed, .int (nI n)]))] ++ bp g n ed cap ad B) [] (kc + 4 * x) (ks + 24 * x) := by
    intro L621n
    induction L621n with
    | zero => intro x  hx hL621 ; exact absurd hL621 (by omega)
    | succ L621n ihL621 =>
      intro x  hx hL621 
      refine z_iload h dL_law_621 5 rfl ?_
      refine z_iload h dL_law_623 3 rfl ?_
      refine z_icmp_ge h (tgt := 677) dL_law_625 (by decide) (fun c_625 => ?_) (fun c_625 => ?_)
      · have he : n = x := by have := ge_t (a := x) (b := n) c_625 (by omega) (by omega); omega
        refine z_lv [0, 1, 2, 3, 4] (lv' := [(0, .ref b), (1, .ref (a 0)), (2, .ref b9), (4, .int (nI n)), (5, .int (nI i))]) rfl ?_
        refine z_widen (kc' := (kc + 50)) (ks' := (ks + 300)) (by omega) (by omega) ?_
        exact kk
      · have hx : x < n := ge_f (a := x) (b := n) c_625 (by omega) (by omega)
        have hqn := hx
        have hb1 := hbk.2 _ hx
        refine z_aload_n h dL_law_628 rfl 1 rfl ?_
        refine z_iload h dL_law_629 5 rfl ?_
        refine z_iconst h (v := 2) dL_law_631 (by decide) ?_
        refine x_Yi h (As := [.int (nI x), .int 2]) (st := []) (Y := [(da, .inl (g.2.2.2.1, N, .inl di)), (na, .inl (g.2.1, N, .inl wn)), (xa, .inl (g.2.1, N, .inl lt)), (ra, .inl (g.2.1, N, .inl rt)), (ca, .inl (g.2.1, N, .inl ct)), (wa, .inl (g.2.1, N, .inl wy)), (b9, .inl (g.2.1, 160, .inl f3)), (a 3, .inl (g.2.1, 10, .inl ft)), (a 6, .inl (g.2.2.1, 12, .inr (.inl tf))), (a 2, .inl (g.2.1, 100, .inl fm)), (a 1, .inr (2, [.ref (a 2), .ref (a 3), .int (nI pl)])), (a 5, .inl (g.2.2.2.1, 400, .inl (fun _ => 0))), (a 8, .inl (g.2.1, 16, .inl rf)), (a 7, .inl (g.2.2.1, 3, .inr (.inl wf)))]) hT (fun q hq => hq) (fun sz => m_X3_bin l hlf g a sn dy mc ed n cap ad B (nI x) 2 (by omega) hcc hcap sz) (cwV 2 h.ts gL_law_X3_bin rfl rfl rfl (by decide +kernel) ⟨Nat.le_of_ble_eq_true rfl, Nat.le_of_ble_eq_true rfl⟩) rfl rfl 14 rfl rfl rfl rfl (Nat.le_of_ble_eq_true rfl) ⟨by show _ ≤ 600104; omega, by show _ ≤ 7301314; omega⟩ (wN := fun u => ([(da, .inl (g.2.2.2.1, N, .inl di)), (na, .inl (g.2.1, N, .inl wn)), (xa, .inl (g.2.1, N, .inl lt)), (ra, .inl (g.2.1, N, .inl rt)), (ca, .inl (g.2.1, N, .inl ct)), (wa, .inl (g.2.1, N, .inl wy)), (b9, .inl (g.2.1, 160, .inl f3)), (a 3, .inl (g.2.1, 10, .inl ft)), (a 6, .inl (g.2.2.1, 12, .inr (.inl tf))), (a 2, .inl (g.2.1, 100, .inl fm)), (a 1, .inr (2, [.ref (a 2), .ref (a 3), .int (nI pl)])), (a 5, .inl (g.2.2.2.1, 400, .inl (fun _ => 0))), (a 8, .inl (g.2.1, 16, .inl rf)), (a 7, .inl (g.2.2.1, 3, .inr (.inl wf))), (a 0, .inr (4, [.ref (a 1), .ref (a 4), .ref (a 5), .ref (a 6), .ref (a 7), .ref (a 8), .int (nI sn), .int (nI dy)])), (a 4, .inr (0, [.int mc, .ref ed, .int (nI n)]))] ++ bp g n ed cap ad B)) (fun _ => rfl) dL_law_632 (fun E hE9 => absurd hE9 (pe3_no (if_pos (and_t (okI_nI hx (by omega)) (by decide))))) (fun r_632 u_632 h_632 => ?_)
        refine z_topi (y := B x 4) (bn_at (by omega) h_632 rfl) ?_
        refine z_aload_n h dL_law_635 rfl 2 rfl ?_
        refine z_bipush h (v := 10) dL_law_636 (by decide) ?_
        refine z_iload h dL_law_638 5 rfl ?_
        refine z_imul h dL_law_640 ?_
        refine z_topi (y := nI (10 * x)) (by rw [show (10 : Int32) = nI 10 from rfl, pk_mul]) ?_
        refine z_iconst h (v := 2) dL_law_641 (by decide) ?_
        refine z_iadd h dL_law_642 ?_
        refine z_topi (y := nI (10 * x + 2)) (by rw [show (2 : Int32) = nI 2 from rfl, nI_add]) ?_
        refine z_iald h 6 rfl (vp_in_nI (by omega) (by omega)) dL_law_643 (v := f3 (10 * x + 2)) (by rw [nI_clamp (by omega)]) ?_
        refine z_topi (y := B x 2) (hsz x hx) ?_
        refine z_icmp_gt h (tgt := 669) dL_law_644 (by decide) (fun c_644 => absurd c_644 (bk_cs hb1)) (fun c_644 => ?_)
        refine z_aload_n h dL_law_647 rfl 1 rfl ?_
        refine z_iload h dL_law_648 5 rfl ?_
        refine z_aload_n h dL_law_650 rfl 1 rfl ?_
        refine z_Vi h (As := []) (st := [.int (nI x), .ref (a 0)]) (fun sz => m_X3_today l g a sn dy  sz) (cwV 0 h.ts gL_law_X3_today rfl rfl rfl (by decide +kernel) ⟨Nat.le_of_ble_eq_true rfl, Nat.le_of_ble_eq_true rfl⟩) rfl [] [14] rfl rfl rfl rfl 14 rfl rfl rfl rfl (Nat.le_of_ble_eq_true rfl) ⟨by show _ ≤ 600104; omega, by show _ ≤ 7301314; omega⟩ (fun _ => (Nat.le_of_ble_eq_true rfl)) (wN := fun u => ([(da, .inl (g.2.2.2.1, N, .inl di)), (na, .inl (g.2.1, N, .inl wn)), (xa, .inl (g.2.1, N, .inl lt)), (ra, .inl (g.2.1, N, .inl rt)), (ca, .inl (g.2.1, N, .inl ct)), (wa, .inl (g.2.1, N, .inl wy)), (b9, .inl (g.2.1, 160, .inl f3)), (a 3, .inl (g.2.1, 10, .inl ft)), (a 6, .inl (g.2.2.1, 12, .inr (.inl tf))), (a 2, .inl (g.2.1, 100, .inl fm)), (a 1, .inr (2, [.ref (a 2), .ref (a 3), .int (nI pl)])), (a 5, .inl (g.2.2.2.1, 400, .inl (fun _ => 0))), (a 8, .inl (g.2.1, 16, .inl rf)), (a 7, .inl (g.2.2.1, 3, .inr (.inl wf))), (a 0, .inr (4, [.ref (a 1), .ref (a 4), .ref (a 5), .ref (a 6), .ref (a 7), .ref (a 8), .int (nI sn), .int (nI dy)])), (a 4, .inr (0, [.int mc, .ref ed, .int (nI n)]))] ++ bp g n ed cap ad B)) (fun _ => List.append_nil _) dL_law_651 (fun r_651 u_651 h_651 => ?_)
        refine z_topi (y := nI dy) h_651 ?_
        refine x_Yi h (As := [.int (nI x), .int (nI dy)]) (st := []) (Y := [(da, .inl (g.2.2.2.1, N, .inl di)), (na, .inl (g.2.1, N, .inl wn)), (xa, .inl (g.2.1, N, .inl lt)), (ra, .inl (g.2.1, N, .inl rt)), (ca, .inl (g.2.1, N, .inl ct)), (wa, .inl (g.2.1, N, .inl wy)), (b9, .inl (g.2.1, 160, .inl f3)), (a 3, .inl (g.2.1, 10, .inl ft)), (a 6, .inl (g.2.2.1, 12, .inr (.inl tf))), (a 2, .inl (g.2.1, 100, .inl fm)), (a 1, .inr (2, [.ref (a 2), .ref (a 3), .int (nI pl)])), (a 5, .inl (g.2.2.2.1, 400, .inl (fun _ => 0))), (a 8, .inl (g.2.1, 16, .inl rf)), (a 7, .inl (g.2.2.1, 3, .inr (.inl wf)))]) hT (fun q hq => hq) (fun sz => m_X3_expected l hlf g a sn dy mc ed n cap ad B (nI x) (nI dy) (by omega) hcc hcap sz) (cwV 2 h.ts gL_law_X3_expected rfl rfl rfl (by decide +kernel) ⟨Nat.le_of_ble_eq_true rfl, Nat.le_of_ble_eq_true rfl⟩) rfl rfl 14 rfl rfl rfl rfl (Nat.le_of_ble_eq_true rfl) ⟨by show _ ≤ 600104; omega, by show _ ≤ 7301314; omega⟩ (wN := fun u => ([(da, .inl (g.2.2.2.1, N, .inl di)), (na, .inl (g.2.1, N, .inl wn)), (xa, .inl (g.2.1, N, .inl lt)), (ra, .inl (g.2.1, N, .inl rt)), (ca, .inl (g.2.1, N, .inl ct)), (wa, .inl (g.2.1, N, .inl wy)), (b9, .inl (g.2.1, 160, .inl f3)), (a 3, .inl (g.2.1, 10, .inl ft)), (a 6, .inl (g.2.2.1, 12, .inr (.inl tf))), (a 2, .inl (g.2.1, 100, .inl fm)), (a 1, .inr (2, [.ref (a 2), .ref (a 3), .int (nI pl)])), (a 5, .inl (g.2.2.2.1, 400, .inl (fun _ => 0))), (a 8, .inl (g.2.1, 16, .inl rf)), (a 7, .inl (g.2.2.1, 3, .inr (.inl wf))), (a 0, .inr (4, [.ref (a 1), .ref (a 4), .ref (a 5), .ref (a 6), .ref (a 7), .ref (a 8), .int (nI sn), .int (nI dy)])), (a 4, .inr (0, [.int mc, .ref ed, .int (nI n)]))] ++ bp g n ed cap ad B)) (fun _ => rfl) dL_law_654 (fun E hE9 => absurd hE9 (pe3_no (k2_0 (okI_nI hx (by omega)) (okR_dy (by omega))))) (fun r_654 u_654 h_654 => ?_)
        refine z_topi (y := fcst (B x 2) (B x 5) (B x 6) (nI dy)) (h_654.2.trans (by rw [nI_clamp (by omega)])) ?_
        refine z_aload_n h dL_law_657 rfl 2 rfl ?_
        refine z_bipush h (v := 10) dL_law_658 (by decide) ?_
        refine z_iload h dL_law_660 5 rfl ?_
        refine z_imul h dL_law_662 ?_
        refine z_topi (y := nI (10 * x)) (by rw [show (10 : Int32) = nI 10 from rfl, pk_mul]) ?_
        refine z_iconst h (v := 2) dL_law_663 (by decide) ?_
        refine z_iadd h dL_law_664 ?_
        refine z_topi (y := nI (10 * x + 2)) (by rw [show (2 : Int32) = nI 2 from rfl, nI_add]) ?_
        refine z_iald h 6 rfl (vp_in_nI (by omega) (by omega)) dL_law_665 (v := f3 (10 * x + 2)) (by rw [nI_clamp (by omega)]) ?_
        refine z_topi (y := B x 2) (hsz x hx) ?_
        refine z_icmp_le h (tgt := 671) dL_law_666 (by decide) (fun c_666 => ?_) (fun c_666 => absurd (fcst_le _ _ _ _) c_666)
        refine z_iinc h (v := nI (x + 1)) dL_law_671 (by decide) 5 rfl (by rw [show Int32.ofInt 1 = nI 1 from rfl, nI_add]) (lv' := [(0, .ref b), (1, .ref (a 0)), (2, .ref b9), (4, .int (nI n)), (5, .int (nI i)), (24, .int (nI (x + 1)))]) [1, 2, 3, 4, 5, 0] rfl ?_
        refine z_goto h (tgt := 621) dL_law_674 (by decide) ?_
        refine z_widen (kc' := (kc + 4 * (x + 1))) (ks' := (ks + 24 * (x + 1))) (by omega) (by omega) ?_
        exact ihL621 (x + 1)  (by omega) (by omega) 
  exact L621 (n + 1 - 0) 0  (by omega) (by omega) 


