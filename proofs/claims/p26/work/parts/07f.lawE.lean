set_option maxHeartbeats 4000000 in
set_option maxRecDepth 100000 in
theorem lp_E {p : Program} {l : Launch} {e : Env} {s : State} {m : MethodId} {args : Array Value} {below : List Frame} {meth : Method} {c : Code} {Q : State → Prop} {A : Nat → Prop} {g : Gx} {b L : Nat} {xs : Nat → Int32} (h : CX p s m args meth c A g 26 cL_law wsL_law RL) (hlf : l.stackTraces = false) (hT : TH g SL3 A s s.heap) (hSx : SX b L xs A s s.heap) (hL : L ≤ 260) {a : Nat → Nat} {b9 pl n cap ed : Nat} {mc : Int32} {fm ft f3 : Nat → Int32} {ad : Nat → Nat} (sn dy : Nat) (rf : Nat → Int32) (tf wf : Nat → Int64) (B : Nat → Nat → Int32) {i kd N : Nat} {wa ca ra xa na da : Nat} {wy ct rt lt wn di : Nat → Int32} {cp tk : Int32} {lv0 vv0 l0 v0 : Int64} {tf2 : Nat → Int64} (kc ks : Nat) (hkc : kc ≤ 100000) (hks : ks ≤ 1000000) (hI : LI pl n dy sn cap fm f3 B) (hkd : kd < 3) (hNn : N ≤ n) (hcp0 : 0 ≤ cp.toInt) (hcp1 : cp.toInt ≤ 5000) (ht0 : tf2 (kd * 4 + 0) = lv0 + l0) (ht1 : tf2 (kd * 4 + 1) = vv0 + v0) (hl0 : l0.toInt = tk.toInt) (hv0 : 0 ≤ v0.toInt ∧ v0.toInt ≤ (N : Int)) (hgl : tk.toInt ≤ v0.toInt * cp.toInt) (kk : Z p l e room_1 s m args below meth c Q A g 26 621 [(0, .ref b), (1, .ref (a 0)), (2, .ref b9), (4, .int (nI n)), (5, .int (nI i)), (24, .int (nI 0))] [] ([(da, .inl (g.2.2.2.1, N, .inl di)), (na, .inl (g.2.1, N, .inl wn)), (xa, .inl (g.2.1, N, .inl lt)), (ra, .inl (g.2.1, N, .inl rt)), (ca, .inl (g.2.1, N, .inl ct)), (wa, .inl (g.2.1, N, .inl wy)), (b9, .inl (g.2.1, 160, .inl f3)), (a 3, .inl (g.2.1, 10, .inl ft)), (a 6, .inl (g.2.2.1, 12, .inr (.inl tf2))), (a 2, .inl (g.2.1, 100, .inl fm)), (a 1, .inr (2, [.ref (a 2), .ref (a 3), .int (nI pl)])), (a 5, .inl (g.2.2.2.1, 400, .inl (fun _ => 0))), (a 8, .inl (g.2.1, 16, .inl rf)), (a 7, .inl (g.2.2.1, 3, .inr (.inl wf))), (a 0, .inr (4, [.ref (a 1), .ref (a 4), .ref (a 5), .ref (a 6), .ref (a 7), .ref (a 8), .int (nI sn), .int (nI dy)])), (a 4, .inr (0, [.int mc, .ref ed, .int (nI n)]))] ++ bp g n ed cap ad B) [] (kc + 10) (ks + 50)) : Z p l e room_1 s m args below meth c Q A g 26 565 [(0, .ref b), (1, .ref (a 0)), (2, .ref b9), (4, .int (nI n)), (5, .int (nI i)), (7, .int (nI kd)), (8, .int (nI N)), (9, .ref wa), (10, .ref ca), (11, .ref ra), (12, .ref xa), (13, .ref na), (14, .ref da), (15, .long lv0), (17, .long vv0), (19, .int cp), (21, .int tk)] [] ([(da, .inl (g.2.2.2.1, N, .inl di)), (na, .inl (g.2.1, N, .inl wn)), (xa, .inl (g.2.1, N, .inl lt)), (ra, .inl (g.2.1, N, .inl rt)), (ca, .inl (g.2.1, N, .inl ct)), (wa, .inl (g.2.1, N, .inl wy)), (b9, .inl (g.2.1, 160, .inl f3)), (a 3, .inl (g.2.1, 10, .inl ft)), (a 6, .inl (g.2.2.1, 12, .inr (.inl tf2))), (a 2, .inl (g.2.1, 100, .inl fm)), (a 1, .inr (2, [.ref (a 2), .ref (a 3), .int (nI pl)])), (a 5, .inl (g.2.2.2.1, 400, .inl (fun _ => 0))), (a 8, .inl (g.2.1, 16, .inl rf)), (a 7, .inl (g.2.2.1, 3, .inr (.inl wf))), (a 0, .inr (4, [.ref (a 1), .ref (a 4), .ref (a 5), .ref (a 6), .ref (a 7), .ref (a 8), .int (nI sn), .int (nI dy)])), (a 4, .inr (0, [.int mc, .ref ed, .int (nI n)]))] ++ bp g n ed cap ad B) [] kc ks := by
  obtain ⟨⟨hpl0, hpl⟩, hn, hcc, hcap, hfm, hbk, hsz, hdy, hs16⟩ := id hI
  refine z_aload_n h dL_law_565 rfl 1 rfl ?_
  refine z_iload h dL_law_566 5 rfl ?_
  refine z_iconst h (v := 1) dL_law_568 (by decide) ?_
  refine x_Vl h (As := [.int (nI kd), .int 1]) (st := []) hT (fun q hq => hq) (fun sz => m_X3_total l hlf g a sn dy tf2 (nI kd) 1  sz) (cwV 2 h.ts gL_law_X3_total rfl rfl rfl (by decide +kernel) ⟨Nat.le_of_ble_eq_true rfl, Nat.le_of_ble_eq_true rfl⟩) rfl [] [14, 8] rfl rfl rfl rfl 14 rfl rfl rfl rfl (Nat.le_of_ble_eq_true rfl) ⟨by show _ ≤ 600104; omega, by show _ ≤ 7301314; omega⟩ (fun _ => (Nat.le_of_ble_eq_true rfl)) (wN := fun u => ([(da, .inl (g.2.2.2.1, N, .inl di)), (na, .inl (g.2.1, N, .inl wn)), (xa, .inl (g.2.1, N, .inl lt)), (ra, .inl (g.2.1, N, .inl rt)), (ca, .inl (g.2.1, N, .inl ct)), (wa, .inl (g.2.1, N, .inl wy)), (b9, .inl (g.2.1, 160, .inl f3)), (a 3, .inl (g.2.1, 10, .inl ft)), (a 6, .inl (g.2.2.1, 12, .inr (.inl tf2))), (a 2, .inl (g.2.1, 100, .inl fm)), (a 1, .inr (2, [.ref (a 2), .ref (a 3), .int (nI pl)])), (a 5, .inl (g.2.2.2.1, 400, .inl (fun _ => 0))), (a 8, .inl (g.2.1, 16, .inl rf)), (a 7, .inl (g.2.2.1, 3, .inr (.inl wf))), (a 0, .inr (4, [.ref (a 1), .ref (a 4), .ref (a 5), .ref (a 6), .ref (a 7), .ref (a 8), .int (nI sn), .int (nI dy)])), (a 4, .inr (0, [.int mc, .ref ed, .int (nI n)]))] ++ bp g n ed cap ad B)) (fun _ => List.append_nil _) dL_law_569 (fun E hE9 => absurd hE9 (pe3_no (if_pos (and_t (okI_nI hkd (by omega)) (by decide))))) (fun r_569 u_569 h_569 => ?_)
  refine z_topl (y := vv0 + v0) (h_569.2.trans (by rw [nI_clamp (by omega)]; exact ht1)) ?_
  refine z_lload h dL_law_572 14 rfl ?_
  refine z_lsub h dL_law_574 ?_
  refine z_topl (y := v0) (i64_as _ _) ?_
  refine z_lstore h dL_law_575 (by decide) (lv' := [(0, .ref b), (1, .ref (a 0)), (2, .ref b9), (4, .int (nI n)), (5, .int (nI i)), (7, .int (nI kd)), (8, .int (nI N)), (9, .ref wa), (10, .ref ca), (11, .ref ra), (12, .ref xa), (13, .ref na), (14, .ref da), (15, .long lv0), (17, .long vv0), (19, .int cp), (21, .int tk), (22, .long v0)]) [1, 2, 3, 4, 5, 6, 7, 8, 9, 10, 11, 12, 13, 14, 15, 16, 17, 0] rfl ?_
  refine z_aload_n h dL_law_577 rfl 1 rfl ?_
  refine z_iload h dL_law_578 5 rfl ?_
  refine z_iconst h (v := 0) dL_law_580 (by decide) ?_
  refine x_Vl h (As := [.int (nI kd), .int 0]) (st := []) hT (fun q hq => hq) (fun sz => m_X3_total l hlf g a sn dy tf2 (nI kd) 0  sz) (cwV 2 h.ts gL_law_X3_total rfl rfl rfl (by decide +kernel) ⟨Nat.le_of_ble_eq_true rfl, Nat.le_of_ble_eq_true rfl⟩) rfl [] [14, 8] rfl rfl rfl rfl 14 rfl rfl rfl rfl (Nat.le_of_ble_eq_true rfl) ⟨by show _ ≤ 600104; omega, by show _ ≤ 7301314; omega⟩ (fun _ => (Nat.le_of_ble_eq_true rfl)) (wN := fun u => ([(da, .inl (g.2.2.2.1, N, .inl di)), (na, .inl (g.2.1, N, .inl wn)), (xa, .inl (g.2.1, N, .inl lt)), (ra, .inl (g.2.1, N, .inl rt)), (ca, .inl (g.2.1, N, .inl ct)), (wa, .inl (g.2.1, N, .inl wy)), (b9, .inl (g.2.1, 160, .inl f3)), (a 3, .inl (g.2.1, 10, .inl ft)), (a 6, .inl (g.2.2.1, 12, .inr (.inl tf2))), (a 2, .inl (g.2.1, 100, .inl fm)), (a 1, .inr (2, [.ref (a 2), .ref (a 3), .int (nI pl)])), (a 5, .inl (g.2.2.2.1, 400, .inl (fun _ => 0))), (a 8, .inl (g.2.1, 16, .inl rf)), (a 7, .inl (g.2.2.1, 3, .inr (.inl wf))), (a 0, .inr (4, [.ref (a 1), .ref (a 4), .ref (a 5), .ref (a 6), .ref (a 7), .ref (a 8), .int (nI sn), .int (nI dy)])), (a 4, .inr (0, [.int mc, .ref ed, .int (nI n)]))] ++ bp g n ed cap ad B)) (fun _ => List.append_nil _) dL_law_581 (fun E hE9 => absurd hE9 (pe3_no (if_pos (and_t (okI_nI hkd (by omega)) (by decide))))) (fun r_581 u_581 h_581 => ?_)
  refine z_topl (y := lv0 + l0) (h_581.2.trans (by rw [nI_clamp (by omega)]; exact ht0)) ?_
  refine z_lload h dL_law_584 13 rfl ?_
  refine z_iload h dL_law_586 16 rfl ?_
  refine z_i2l h dL_law_588 ?_
  refine z_ladd h dL_law_589 ?_
  refine z_lcmp h dL_law_590 ?_
  refine z_if_ne h (tgt := 616) dL_law_591 (by decide) (fun c_591 => absurd ((lg_cmp_eq _ _).mpr (by rw [l0_eq hl0])) c_591) (fun c_591 => ?_)
  refine z_lload h dL_law_594 17 rfl ?_
  refine z_iload h dL_law_596 15 rfl ?_
  refine z_i2l h dL_law_598 ?_
  refine z_lmul h dL_law_599 ?_
  refine z_iload h dL_law_600 16 rfl ?_
  refine z_i2l h dL_law_602 ?_
  refine z_lcmp h dL_law_603 ?_
  refine z_if_lt h (tgt := 616) dL_law_604 (by decide) (fun c_604 => absurd c_604 (v_lt hv0.1 hv0.2 (by omega) hcp0 hcp1 hgl)) (fun c_604 => ?_)
  refine z_lload h dL_law_607 17 rfl ?_
  refine z_iload h dL_law_609 6 rfl ?_
  refine z_i2l h dL_law_611 ?_
  refine z_lcmp h dL_law_612 ?_
  refine z_if_le h (tgt := 618) dL_law_613 (by decide) (fun c_613 => ?_) (fun c_613 => absurd (v_le hv0.2 (by omega)) c_613)
  refine z_iconst h (v := 0) dL_law_618 (by decide) ?_
  refine z_istore h dL_law_619 (by decide) (lv' := [(0, .ref b), (1, .ref (a 0)), (2, .ref b9), (4, .int (nI n)), (5, .int (nI i)), (7, .int (nI kd)), (8, .int (nI N)), (9, .ref wa), (10, .ref ca), (11, .ref ra), (12, .ref xa), (13, .ref na), (14, .ref da), (15, .long lv0), (17, .long vv0), (19, .int cp), (21, .int tk), (22, .long v0), (24, .int 0)]) [1, 2, 3, 4, 5, 6, 7, 8, 9, 10, 11, 12, 13, 14, 15, 16, 17, 18, 0] rfl ?_
  refine z_lv [0, 1, 2, 3, 4, 18] (lv' := [(0, .ref b), (1, .ref (a 0)), (2, .ref b9), (4, .int (nI n)), (5, .int (nI i)), (24, .int 0)]) rfl ?_
  refine z_widen (kc' := (kc + 10)) (ks' := (ks + 50)) (by omega) (by omega) ?_
  exact kk


