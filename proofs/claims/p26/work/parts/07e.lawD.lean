theorem lk_L_law_imax : Cond.initialized "java/lang/Math" ∈ wsL_law := by decide +kernel
theorem lk_L_law_imin : Cond.initialized "java/lang/Math" ∈ wsL_law := by decide +kernel
theorem lk_L_law_kmax : Cond.code Lib.Math.max.name Lib.Math.max.code 2 (some .int) ∈ wsL_law := by decide +kernel
theorem lk_L_law_kmin : Cond.code Lib.Math.min.name Lib.Math.min.code 2 (some .int) ∈ wsL_law := by decide +kernel
theorem lk_L_law_m83 : Cond.methodLink RL 83 Lib.Math.min.name ∈ wsL_law := by decide +kernel
theorem lk_L_law_m88 : Cond.methodLink RL 88 Lib.Math.max.name ∈ wsL_law := by decide +kernel
theorem lk_L_law_smax : Cond.static Lib.Math.max.name ∈ wsL_law := by decide +kernel
theorem lk_L_law_smin : Cond.static Lib.Math.min.name ∈ wsL_law := by decide +kernel
set_option maxHeartbeats 4000000 in
set_option maxRecDepth 100000 in
theorem lp_D {p : Program} {l : Launch} {e : Env} {s : State} {m : MethodId} {args : Array Value} {below : List Frame} {meth : Method} {c : Code} {Q : State → Prop} {A : Nat → Prop} {g : Gx} {b L : Nat} {xs : Nat → Int32} (h : CX p s m args meth c A g 26 cL_law wsL_law RL) (hlf : l.stackTraces = false) (hT : TH g SL3 A s s.heap) (hSx : SX b L xs A s s.heap) (hL : L ≤ 260) {a : Nat → Nat} {b9 pl n cap ed : Nat} {mc : Int32} {fm ft f3 : Nat → Int32} {ad : Nat → Nat} (sn dy : Nat) (rf : Nat → Int32) (tf wf : Nat → Int64) (B : Nat → Nat → Int32) {i kd N : Nat} {wq : Nat → Nat} {wa ca ra xa na da : Nat} {wy ct rt lt wn di : Nat → Int32} {cp : Int32} {lv0 vv0 l0 v0 : Int64} {tf2 : Nat → Int64} {B2 : Nat → Nat → Int32} (kc ks : Nat) (hkc : kc ≤ 100000) (hks : ks ≤ 1000000) (hI : LI pl n dy sn cap fm f3 B2) (hbk : BK n dy B) (hw : PW fm n dy kd N B wq) (hrw : RW B wq N wy ct rt lt wn di) (hcp0 : 0 ≤ cp.toInt) (hco : CO n dy kd N cp wq B B2 tf tf2 l0 v0) (kk : ∀ (tk : Int32), tk.toInt = gw cp wq B N → Z p l e room_1 s m args below meth c Q A g 26 565 [(0, .ref b), (1, .ref (a 0)), (2, .ref b9), (4, .int (nI n)), (5, .int (nI i)), (7, .int (nI kd)), (8, .int (nI N)), (9, .ref wa), (10, .ref ca), (11, .ref ra), (12, .ref xa), (13, .ref na), (14, .ref da), (15, .long lv0), (17, .long vv0), (19, .int cp), (21, .int tk)] [] ([(da, .inl (g.2.2.2.1, N, .inl di)), (na, .inl (g.2.1, N, .inl wn)), (xa, .inl (g.2.1, N, .inl lt)), (ra, .inl (g.2.1, N, .inl rt)), (ca, .inl (g.2.1, N, .inl ct)), (wa, .inl (g.2.1, N, .inl wy)), (b9, .inl (g.2.1, 160, .inl f3)), (a 3, .inl (g.2.1, 10, .inl ft)), (a 6, .inl (g.2.2.1, 12, .inr (.inl tf2))), (a 2, .inl (g.2.1, 100, .inl fm)), (a 1, .inr (2, [.ref (a 2), .ref (a 3), .int (nI pl)])), (a 5, .inl (g.2.2.2.1, 400, .inl (fun _ => 0))), (a 8, .inl (g.2.1, 16, .inl rf)), (a 7, .inl (g.2.2.1, 3, .inr (.inl wf))), (a 0, .inr (4, [.ref (a 1), .ref (a 4), .ref (a 5), .ref (a 6), .ref (a 7), .ref (a 8), .int (nI sn), .int (nI dy)])), (a 4, .inr (0, [.int mc, .ref ed, .int (nI n)]))] ++ bp g n ed cap ad B2) [] (kc + 100) (ks + 500)) : Z p l e room_1 s m args below meth c Q A g 26 320 [(0, .ref b), (1, .ref (a 0)), (2, .ref b9), (4, .int (nI n)), (5, .int (nI i)), (7, .int (nI kd)), (8, .int (nI N)), (9, .ref wa), (10, .ref ca), (11, .ref ra), (12, .ref xa), (13, .ref na), (14, .ref da), (15, .long lv0), (17, .long vv0), (19, .int cp), (21, .int 0), (22, .int (nI 0))] [] ([(da, .inl (g.2.2.2.1, N, .inl di)), (na, .inl (g.2.1, N, .inl wn)), (xa, .inl (g.2.1, N, .inl lt)), (ra, .inl (g.2.1, N, .inl rt)), (ca, .inl (g.2.1, N, .inl ct)), (wa, .inl (g.2.1, N, .inl wy)), (b9, .inl (g.2.1, 160, .inl f3)), (a 3, .inl (g.2.1, 10, .inl ft)), (a 6, .inl (g.2.2.1, 12, .inr (.inl tf2))), (a 2, .inl (g.2.1, 100, .inl fm)), (a 1, .inr (2, [.ref (a 2), .ref (a 3), .int (nI pl)])), (a 5, .inl (g.2.2.2.1, 400, .inl (fun _ => 0))), (a 8, .inl (g.2.1, 16, .inl rf)), (a 7, .inl (g.2.2.1, 3, .inr (.inl wf))), (a 0, .inr (4, [.ref (a 1), .ref (a 4), .ref (a 5), .ref (a 6), .ref (a 7), .ref (a 8), .int (nI sn), .int (nI dy)])), (a 4, .inr (0, [.int mc, .ref ed, .int (nI n)]))] ++ bp g n ed cap ad B2) [] kc ks := by
  obtain ⟨⟨hpl0, hpl⟩, hn, hcc, hcap, hfm, hbk2, hsz, hdy, hs16⟩ := id hI
  obtain ⟨hkd, hNn, hN, hW, hq, hinj⟩ := id hw
  refine z_widen (kc' := (kc + 8 * 0)) (ks' := (ks + 48 * 0)) (by omega) (by omega) ?_
  have L320 : ∀ (L320n x : Nat) (tk : Int32), x ≤ N → N < L320n + x → tk.toInt = gw cp wq B x → Z p l e room_1 s m args below meth c Q A g 26 320 [(0, .ref b), (1, .ref (a 0)), (2, .ref b9), (4, .int (nI n)), (5, .int (nI i)), (7, .int (nI kd)), (8, .int (nI N)), (9, .ref wa), (10, .ref ca), (11, .ref ra), (12, .ref xa), (13, .ref na), (14, .ref da), (15, .long lv0), (17, .long vv0), (19, .int cp), (21, .int tk), (22, .int (nI x))] [] ([(da, .inl (g.2.2.2.1, N, .inl di)), (na, .inl (g.2.1, N, .inl wn)), (xa, .inl (g.2.1, N, .inl lt)), (ra, .inl (g.2.1, N, .inl rt)), (ca, .inl (g.2.1, N, .inl ct)), (wa, .inl (g.2.1, N, .inl wy)), (b9, .inl (g.2.1, 160, .inl f3)), (a 3, .inl (g.2.1, 10, .inl ft)), (a 6, .inl (g.2.2.1, 12, .inr (.inl tf2))), (a 2, .inl (g.2.1, 100, .inl fm)), (a 1, .inr (2, [.ref (a 2), .ref (a 3), .int (nI pl)])), (a 5, .inl (g.2.2.2.1, 400, .inl (fun _ => 0))), (a 8, .inl (g.2.1, 16, .inl rf)), (a 7, .inl (g.2.2.1, 3, .inr (.inl wf))), (a 0, .inr (4, [.ref (a 1), .ref (a 4), .ref (a 5), .ref (a 6), .ref (a 7), .ref (a 8), .int (nI sn), .int (nI dy)])), (a 4, .inr (0, [.int mc, .ref ed, .int (nI n)]))] ++ bp g n ed cap ad B2) [] (kc + 8 * x) (ks + 48 * x) := by
    intro L320n
    induction L320n with
    | zero => intro x tk hx hL320 ht; exact absurd hL320 (by omega)
    | succ L320n ihL320 =>
      intro x tk hx hL320 ht
      refine z_iload h dL_law_320 17 rfl ?_
      refine z_iload h dL_law_322 6 rfl ?_
      refine z_icmp_ge h (tgt := 565) dL_law_324 (by decide) (fun c_324 => ?_) (fun c_324 => ?_)
      · have he : N = x := by have := ge_t (a := x) (b := N) c_324 (by omega) (by omega); omega
        subst he
        refine z_lv [0, 1, 2, 3, 4, 5, 6, 7, 8, 9, 10, 11, 12, 13, 14, 15, 16] (lv' := [(0, .ref b), (1, .ref (a 0)), (2, .ref b9), (4, .int (nI n)), (5, .int (nI i)), (7, .int (nI kd)), (8, .int (nI N)), (9, .ref wa), (10, .ref ca), (11, .ref ra), (12, .ref xa), (13, .ref na), (14, .ref da), (15, .long lv0), (17, .long vv0), (19, .int cp), (21, .int tk)]) rfl ?_
        refine z_widen (kc' := (kc + 100)) (ks' := (ks + 500)) (by omega) (by omega) ?_
        exact kk tk ht
      · have hx : x < N := ge_f (a := x) (b := N) c_324 (by omega) (by omega)
        have hqn := hq x hx
        obtain ⟨e1, e2, e3, e4, e5, e6⟩ := hrw x hx
        have hb1 := hbk.2 _ hqn
        have hbe := hco.2.2.1 x hx
        refine z_aload h dL_law_327 12 rfl ?_
        refine z_iload h dL_law_329 17 rfl ?_
        refine z_zald h 0 rfl (vp_in_nI (by omega) (by omega)) dL_law_331 (v := di x) (by rw [nI_clamp (by omega)]) ?_
        refine z_topi (y := B (wq x) 9) e6 ?_
        refine z_if_eq h (tgt := 412) dL_law_332 (by decide) (fun c_332 => ?_) (fun c_332 => ?_)
        · have hz := c_332
          have hcl := endB_f (x := mnc cp (B (wq x) 4)) (y := nI dy) hz
          rw [← hbe] at hcl
          refine z_aload_n h dL_law_412 rfl 1 rfl ?_
          refine z_Vi h (As := []) (st := []) (fun sz => m_X3_today l g a sn dy  sz) (cwV 0 h.ts gL_law_X3_today rfl rfl rfl (by decide +kernel) ⟨Nat.le_of_ble_eq_true rfl, Nat.le_of_ble_eq_true rfl⟩) rfl [] [14] rfl rfl rfl rfl 14 rfl rfl rfl rfl (Nat.le_of_ble_eq_true rfl) ⟨by show _ ≤ 600104; omega, by show _ ≤ 7301314; omega⟩ (fun _ => (Nat.le_of_ble_eq_true rfl)) (wN := fun u => ([(da, .inl (g.2.2.2.1, N, .inl di)), (na, .inl (g.2.1, N, .inl wn)), (xa, .inl (g.2.1, N, .inl lt)), (ra, .inl (g.2.1, N, .inl rt)), (ca, .inl (g.2.1, N, .inl ct)), (wa, .inl (g.2.1, N, .inl wy)), (b9, .inl (g.2.1, 160, .inl f3)), (a 3, .inl (g.2.1, 10, .inl ft)), (a 6, .inl (g.2.2.1, 12, .inr (.inl tf2))), (a 2, .inl (g.2.1, 100, .inl fm)), (a 1, .inr (2, [.ref (a 2), .ref (a 3), .int (nI pl)])), (a 5, .inl (g.2.2.2.1, 400, .inl (fun _ => 0))), (a 8, .inl (g.2.1, 16, .inl rf)), (a 7, .inl (g.2.2.1, 3, .inr (.inl wf))), (a 0, .inr (4, [.ref (a 1), .ref (a 4), .ref (a 5), .ref (a 6), .ref (a 7), .ref (a 8), .int (nI sn), .int (nI dy)])), (a 4, .inr (0, [.int mc, .ref ed, .int (nI n)]))] ++ bp g n ed cap ad B2)) (fun _ => List.append_nil _) dL_law_413 (fun r_413 u_413 h_413 => ?_)
          refine z_topi (y := nI dy) h_413 ?_
          refine z_aload h dL_law_416 10 rfl ?_
          refine z_iload h dL_law_418 17 rfl ?_
          refine z_iald h 2 rfl (vp_in_nI (by omega) (by omega)) dL_law_420 (v := lt x) (by rw [nI_clamp (by omega)]) ?_
          refine z_topi (y := B (wq x) 6) e4 ?_
          refine z_isub h dL_law_421 ?_
          refine z_istore h dL_law_422 (by decide) (lv' := [(0, .ref b), (1, .ref (a 0)), (2, .ref b9), (4, .int (nI n)), (5, .int (nI i)), (7, .int (nI kd)), (8, .int (nI N)), (9, .ref wa), (10, .ref ca), (11, .ref ra), (12, .ref xa), (13, .ref na), (14, .ref da), (15, .long lv0), (17, .long vv0), (19, .int cp), (21, .int tk), (22, .int (nI x)), (23, .int ((nI dy) - (B (wq x) 6)))]) [1, 2, 3, 4, 5, 6, 7, 8, 9, 10, 11, 12, 13, 14, 15, 16, 17, 18, 0] rfl ?_
          refine z_iload h dL_law_424 18 rfl ?_
          refine z_if_ne h (tgt := 437) dL_law_426 (by decide) (fun c_426 => ?_) (fun c_426 => ?_)
          · refine z_bipush h (v := 10) dL_law_437 (by decide) ?_
            refine z_aload h dL_law_439 8 rfl ?_
            refine z_iload h dL_law_441 17 rfl ?_
            refine z_iald h 4 rfl (vp_in_nI (by omega) (by omega)) dL_law_443 (v := ct x) (by rw [nI_clamp (by omega)]) ?_
            refine z_topi (y := B (wq x) 4) e2 ?_
            refine z_imul h dL_law_444 ?_
            refine z_iload h dL_law_445 18 rfl ?_
            refine z_idiv h dL_law_447 c_426 ?_
            have hrl := rat_law hb1 (by omega) (sn := (10 * (B (wq x) 4)) / ((nI dy) - (B (wq x) 6))) (by first | exact (if_pos c_426).symm | exact (if_neg c_426).symm)
            refine z_istore h dL_law_448 (by decide) (lv' := [(0, .ref b), (1, .ref (a 0)), (2, .ref b9), (4, .int (nI n)), (5, .int (nI i)), (7, .int (nI kd)), (8, .int (nI N)), (9, .ref wa), (10, .ref ca), (11, .ref ra), (12, .ref xa), (13, .ref na), (14, .ref da), (15, .long lv0), (17, .long vv0), (19, .int cp), (21, .int tk), (22, .int (nI x)), (23, .int ((nI dy) - (B (wq x) 6))), (24, .int ((10 * (B (wq x) 4)) / ((nI dy) - (B (wq x) 6))))]) [1, 2, 3, 4, 5, 6, 7, 8, 9, 10, 11, 12, 13, 14, 15, 16, 17, 18, 19, 0] rfl ?_
            refine z_aload_n h dL_law_450 rfl 1 rfl ?_
            refine z_aload h dL_law_451 7 rfl ?_
            refine z_iload h dL_law_453 17 rfl ?_
            refine z_iald h 5 rfl (vp_in_nI (by omega) (by omega)) dL_law_455 (v := wy x) (by rw [nI_clamp (by omega)]) ?_
            refine z_topi (y := nI (wq x)) e1 ?_
            refine z_iconst h (v := 3) dL_law_456 (by decide) ?_
            refine x_Yi h (As := [.int (nI (wq x)), .int 3]) (st := []) (Y := [(da, .inl (g.2.2.2.1, N, .inl di)), (na, .inl (g.2.1, N, .inl wn)), (xa, .inl (g.2.1, N, .inl lt)), (ra, .inl (g.2.1, N, .inl rt)), (ca, .inl (g.2.1, N, .inl ct)), (wa, .inl (g.2.1, N, .inl wy)), (b9, .inl (g.2.1, 160, .inl f3)), (a 3, .inl (g.2.1, 10, .inl ft)), (a 6, .inl (g.2.2.1, 12, .inr (.inl tf2))), (a 2, .inl (g.2.1, 100, .inl fm)), (a 1, .inr (2, [.ref (a 2), .ref (a 3), .int (nI pl)])), (a 5, .inl (g.2.2.2.1, 400, .inl (fun _ => 0))), (a 8, .inl (g.2.1, 16, .inl rf)), (a 7, .inl (g.2.2.1, 3, .inr (.inl wf)))]) hT (fun q hq => hq) (fun sz => m_X3_bin l hlf g a sn dy mc ed n cap ad B2 (nI (wq x)) 3 (by omega) hcc hcap sz) (cwV 2 h.ts gL_law_X3_bin rfl rfl rfl (by decide +kernel) ⟨Nat.le_of_ble_eq_true rfl, Nat.le_of_ble_eq_true rfl⟩) rfl rfl 14 rfl rfl rfl rfl (Nat.le_of_ble_eq_true rfl) ⟨by show _ ≤ 600104; omega, by show _ ≤ 7301314; omega⟩ (wN := fun u => ([(da, .inl (g.2.2.2.1, N, .inl di)), (na, .inl (g.2.1, N, .inl wn)), (xa, .inl (g.2.1, N, .inl lt)), (ra, .inl (g.2.1, N, .inl rt)), (ca, .inl (g.2.1, N, .inl ct)), (wa, .inl (g.2.1, N, .inl wy)), (b9, .inl (g.2.1, 160, .inl f3)), (a 3, .inl (g.2.1, 10, .inl ft)), (a 6, .inl (g.2.2.1, 12, .inr (.inl tf2))), (a 2, .inl (g.2.1, 100, .inl fm)), (a 1, .inr (2, [.ref (a 2), .ref (a 3), .int (nI pl)])), (a 5, .inl (g.2.2.2.1, 400, .inl (fun _ => 0))), (a 8, .inl (g.2.1, 16, .inl rf)), (a 7, .inl (g.2.2.1, 3, .inr (.inl wf))), (a 0, .inr (4, [.ref (a 1), .ref (a 4), .ref (a 5), .ref (a 6), .ref (a 7), .ref (a 8), .int (nI sn), .int (nI dy)])), (a 4, .inr (0, [.int mc, .ref ed, .int (nI n)]))] ++ bp g n ed cap ad B2)) (fun _ => rfl) dL_law_457 (fun E hE9 => absurd hE9 (pe3_no (if_pos (and_t (okI_nI hqn (by omega)) (by decide))))) (fun r_457 u_457 h_457 => ?_)
            refine z_topi (y := ratB (B (wq x)) (nI dy)) ((bn_at (by omega) h_457 rfl).trans hcl.2.1) ?_
            refine z_istore h dL_law_460 (by decide) (lv' := [(0, .ref b), (1, .ref (a 0)), (2, .ref b9), (4, .int (nI n)), (5, .int (nI i)), (7, .int (nI kd)), (8, .int (nI N)), (9, .ref wa), (10, .ref ca), (11, .ref ra), (12, .ref xa), (13, .ref na), (14, .ref da), (15, .long lv0), (17, .long vv0), (19, .int cp), (21, .int tk), (22, .int (nI x)), (23, .int ((nI dy) - (B (wq x) 6))), (24, .int ((10 * (B (wq x) 4)) / ((nI dy) - (B (wq x) 6)))), (25, .int (ratB (B (wq x)) (nI dy)))]) [1, 2, 3, 4, 5, 6, 7, 8, 9, 10, 11, 12, 13, 14, 15, 16, 17, 18, 19, 20, 0] rfl ?_
            refine z_iload h dL_law_462 20 rfl ?_
            refine z_aload h dL_law_464 9 rfl ?_
            refine z_iload h dL_law_466 17 rfl ?_
            refine z_iald h 3 rfl (vp_in_nI (by omega) (by omega)) dL_law_468 (v := rt x) (by rw [nI_clamp (by omega)]) ?_
            refine z_topi (y := B (wq x) 5) e3 ?_
            refine z_iload h dL_law_469 19 rfl ?_
            refine z_mmin h lk_L_law_m83 lk_L_law_smin lk_L_law_imin lk_L_law_kmin (Nat.le_of_ble_eq_true rfl) (Nat.le_of_ble_eq_true rfl) (by show _ ≤ 600104; omega) (by show _ ≤ 7301314; omega) dL_law_471 ?_
            refine z_iconst h (v := 1) dL_law_474 (by decide) ?_
            refine z_isub h dL_law_475 ?_
            refine z_icmp_lt h (tgt := 536) dL_law_476 (by decide) (fun c_476 => absurd c_476 hrl.1) (fun c_476 => ?_)
            refine z_iload h dL_law_479 20 rfl ?_
            refine z_aload h dL_law_481 9 rfl ?_
            refine z_iload h dL_law_483 17 rfl ?_
            refine z_iald h 3 rfl (vp_in_nI (by omega) (by omega)) dL_law_485 (v := rt x) (by rw [nI_clamp (by omega)]) ?_
            refine z_topi (y := B (wq x) 5) e3 ?_
            refine z_iload h dL_law_486 19 rfl ?_
            refine z_mmax h lk_L_law_m88 lk_L_law_smax lk_L_law_imax lk_L_law_kmax (Nat.le_of_ble_eq_true rfl) (Nat.le_of_ble_eq_true rfl) (by show _ ≤ 600104; omega) (by show _ ≤ 7301314; omega) dL_law_488 ?_
            refine z_icmp_gt h (tgt := 536) dL_law_491 (by decide) (fun c_491 => absurd c_491 hrl.2) (fun c_491 => ?_)
            refine z_aload_n h dL_law_494 rfl 1 rfl ?_
            refine z_aload h dL_law_495 7 rfl ?_
            refine z_iload h dL_law_497 17 rfl ?_
            refine z_iald h 5 rfl (vp_in_nI (by omega) (by omega)) dL_law_499 (v := wy x) (by rw [nI_clamp (by omega)]) ?_
            refine z_topi (y := nI (wq x)) e1 ?_
            refine z_iconst h (v := 4) dL_law_500 (by decide) ?_
            refine x_Yi h (As := [.int (nI (wq x)), .int 4]) (st := []) (Y := [(da, .inl (g.2.2.2.1, N, .inl di)), (na, .inl (g.2.1, N, .inl wn)), (xa, .inl (g.2.1, N, .inl lt)), (ra, .inl (g.2.1, N, .inl rt)), (ca, .inl (g.2.1, N, .inl ct)), (wa, .inl (g.2.1, N, .inl wy)), (b9, .inl (g.2.1, 160, .inl f3)), (a 3, .inl (g.2.1, 10, .inl ft)), (a 6, .inl (g.2.2.1, 12, .inr (.inl tf2))), (a 2, .inl (g.2.1, 100, .inl fm)), (a 1, .inr (2, [.ref (a 2), .ref (a 3), .int (nI pl)])), (a 5, .inl (g.2.2.2.1, 400, .inl (fun _ => 0))), (a 8, .inl (g.2.1, 16, .inl rf)), (a 7, .inl (g.2.2.1, 3, .inr (.inl wf)))]) hT (fun q hq => hq) (fun sz => m_X3_bin l hlf g a sn dy mc ed n cap ad B2 (nI (wq x)) 4 (by omega) hcc hcap sz) (cwV 2 h.ts gL_law_X3_bin rfl rfl rfl (by decide +kernel) ⟨Nat.le_of_ble_eq_true rfl, Nat.le_of_ble_eq_true rfl⟩) rfl rfl 14 rfl rfl rfl rfl (Nat.le_of_ble_eq_true rfl) ⟨by show _ ≤ 600104; omega, by show _ ≤ 7301314; omega⟩ (wN := fun u => ([(da, .inl (g.2.2.2.1, N, .inl di)), (na, .inl (g.2.1, N, .inl wn)), (xa, .inl (g.2.1, N, .inl lt)), (ra, .inl (g.2.1, N, .inl rt)), (ca, .inl (g.2.1, N, .inl ct)), (wa, .inl (g.2.1, N, .inl wy)), (b9, .inl (g.2.1, 160, .inl f3)), (a 3, .inl (g.2.1, 10, .inl ft)), (a 6, .inl (g.2.2.1, 12, .inr (.inl tf2))), (a 2, .inl (g.2.1, 100, .inl fm)), (a 1, .inr (2, [.ref (a 2), .ref (a 3), .int (nI pl)])), (a 5, .inl (g.2.2.2.1, 400, .inl (fun _ => 0))), (a 8, .inl (g.2.1, 16, .inl rf)), (a 7, .inl (g.2.2.1, 3, .inr (.inl wf))), (a 0, .inr (4, [.ref (a 1), .ref (a 4), .ref (a 5), .ref (a 6), .ref (a 7), .ref (a 8), .int (nI sn), .int (nI dy)])), (a 4, .inr (0, [.int mc, .ref ed, .int (nI n)]))] ++ bp g n ed cap ad B2)) (fun _ => rfl) dL_law_501 (fun E hE9 => absurd hE9 (pe3_no (if_pos (and_t (okI_nI hqn (by omega)) (by decide))))) (fun r_501 u_501 h_501 => ?_)
            refine z_topi (y := nI dy) ((bn_at (by omega) h_501 rfl).trans hcl.2.2.1) ?_
            refine z_aload_n h dL_law_504 rfl 1 rfl ?_
            refine z_Vi h (As := []) (st := [.int (nI dy)]) (fun sz => m_X3_today l g a sn dy  sz) (cwV 0 h.ts gL_law_X3_today rfl rfl rfl (by decide +kernel) ⟨Nat.le_of_ble_eq_true rfl, Nat.le_of_ble_eq_true rfl⟩) rfl [] [14] rfl rfl rfl rfl 14 rfl rfl rfl rfl (Nat.le_of_ble_eq_true rfl) ⟨by show _ ≤ 600104; omega, by show _ ≤ 7301314; omega⟩ (fun _ => (Nat.le_of_ble_eq_true rfl)) (wN := fun u => ([(da, .inl (g.2.2.2.1, N, .inl di)), (na, .inl (g.2.1, N, .inl wn)), (xa, .inl (g.2.1, N, .inl lt)), (ra, .inl (g.2.1, N, .inl rt)), (ca, .inl (g.2.1, N, .inl ct)), (wa, .inl (g.2.1, N, .inl wy)), (b9, .inl (g.2.1, 160, .inl f3)), (a 3, .inl (g.2.1, 10, .inl ft)), (a 6, .inl (g.2.2.1, 12, .inr (.inl tf2))), (a 2, .inl (g.2.1, 100, .inl fm)), (a 1, .inr (2, [.ref (a 2), .ref (a 3), .int (nI pl)])), (a 5, .inl (g.2.2.2.1, 400, .inl (fun _ => 0))), (a 8, .inl (g.2.1, 16, .inl rf)), (a 7, .inl (g.2.2.1, 3, .inr (.inl wf))), (a 0, .inr (4, [.ref (a 1), .ref (a 4), .ref (a 5), .ref (a 6), .ref (a 7), .ref (a 8), .int (nI sn), .int (nI dy)])), (a 4, .inr (0, [.int mc, .ref ed, .int (nI n)]))] ++ bp g n ed cap ad B2)) (fun _ => List.append_nil _) dL_law_505 (fun r_505 u_505 h_505 => ?_)
            refine z_topi (y := nI dy) h_505 ?_
            refine z_icmp_ne h (tgt := 536) dL_law_508 (by decide) (fun c_508 => absurd rfl c_508) (fun c_508 => ?_)
            refine z_aload_n h dL_law_511 rfl 1 rfl ?_
            refine z_aload h dL_law_512 7 rfl ?_
            refine z_iload h dL_law_514 17 rfl ?_
            refine z_iald h 5 rfl (vp_in_nI (by omega) (by omega)) dL_law_516 (v := wy x) (by rw [nI_clamp (by omega)]) ?_
            refine z_topi (y := nI (wq x)) e1 ?_
            refine z_iconst h (v := 2) dL_law_517 (by decide) ?_
            refine x_Yi h (As := [.int (nI (wq x)), .int 2]) (st := []) (Y := [(da, .inl (g.2.2.2.1, N, .inl di)), (na, .inl (g.2.1, N, .inl wn)), (xa, .inl (g.2.1, N, .inl lt)), (ra, .inl (g.2.1, N, .inl rt)), (ca, .inl (g.2.1, N, .inl ct)), (wa, .inl (g.2.1, N, .inl wy)), (b9, .inl (g.2.1, 160, .inl f3)), (a 3, .inl (g.2.1, 10, .inl ft)), (a 6, .inl (g.2.2.1, 12, .inr (.inl tf2))), (a 2, .inl (g.2.1, 100, .inl fm)), (a 1, .inr (2, [.ref (a 2), .ref (a 3), .int (nI pl)])), (a 5, .inl (g.2.2.2.1, 400, .inl (fun _ => 0))), (a 8, .inl (g.2.1, 16, .inl rf)), (a 7, .inl (g.2.2.1, 3, .inr (.inl wf)))]) hT (fun q hq => hq) (fun sz => m_X3_bin l hlf g a sn dy mc ed n cap ad B2 (nI (wq x)) 2 (by omega) hcc hcap sz) (cwV 2 h.ts gL_law_X3_bin rfl rfl rfl (by decide +kernel) ⟨Nat.le_of_ble_eq_true rfl, Nat.le_of_ble_eq_true rfl⟩) rfl rfl 14 rfl rfl rfl rfl (Nat.le_of_ble_eq_true rfl) ⟨by show _ ≤ 600104; omega, by show _ ≤ 7301314; omega⟩ (wN := fun u => ([(da, .inl (g.2.2.2.1, N, .inl di)), (na, .inl (g.2.1, N, .inl wn)), (xa, .inl (g.2.1, N, .inl lt)), (ra, .inl (g.2.1, N, .inl rt)), (ca, .inl (g.2.1, N, .inl ct)), (wa, .inl (g.2.1, N, .inl wy)), (b9, .inl (g.2.1, 160, .inl f3)), (a 3, .inl (g.2.1, 10, .inl ft)), (a 6, .inl (g.2.2.1, 12, .inr (.inl tf2))), (a 2, .inl (g.2.1, 100, .inl fm)), (a 1, .inr (2, [.ref (a 2), .ref (a 3), .int (nI pl)])), (a 5, .inl (g.2.2.2.1, 400, .inl (fun _ => 0))), (a 8, .inl (g.2.1, 16, .inl rf)), (a 7, .inl (g.2.2.1, 3, .inr (.inl wf))), (a 0, .inr (4, [.ref (a 1), .ref (a 4), .ref (a 5), .ref (a 6), .ref (a 7), .ref (a 8), .int (nI sn), .int (nI dy)])), (a 4, .inr (0, [.int mc, .ref ed, .int (nI n)]))] ++ bp g n ed cap ad B2)) (fun _ => rfl) dL_law_518 (fun E hE9 => absurd hE9 (pe3_no (if_pos (and_t (okI_nI hqn (by omega)) (by decide))))) (fun r_518 u_518 h_518 => ?_)
            refine z_topi (y := B (wq x) 4 - mnc cp (B (wq x) 4)) ((bn_at (by omega) h_518 rfl).trans hcl.1) ?_
            refine z_iconst h (v := 0) dL_law_521 (by decide) ?_
            refine z_aload h dL_law_522 8 rfl ?_
            refine z_iload h dL_law_524 17 rfl ?_
            refine z_iald h 4 rfl (vp_in_nI (by omega) (by omega)) dL_law_526 (v := ct x) (by rw [nI_clamp (by omega)]) ?_
            refine z_topi (y := B (wq x) 4) e2 ?_
            refine z_iload h dL_law_527 15 rfl ?_
            refine z_isub h dL_law_529 ?_
            refine z_mmax h lk_L_law_m88 lk_L_law_smax lk_L_law_imax lk_L_law_kmax (Nat.le_of_ble_eq_true rfl) (Nat.le_of_ble_eq_true rfl) (by show _ ≤ 600104; omega) (by show _ ≤ 7301314; omega) dL_law_530 ?_
            refine z_icmp_eq h (tgt := 538) dL_law_533 (by decide) (fun c_533 => ?_) (fun c_533 => absurd (mnc_max hb1 hcp0) c_533)
            refine z_iload h dL_law_538 16 rfl ?_
            refine z_aload h dL_law_540 8 rfl ?_
            refine z_iload h dL_law_542 17 rfl ?_
            refine z_iald h 4 rfl (vp_in_nI (by omega) (by omega)) dL_law_544 (v := ct x) (by rw [nI_clamp (by omega)]) ?_
            refine z_topi (y := B (wq x) 4) e2 ?_
            refine z_aload_n h dL_law_545 rfl 1 rfl ?_
            refine z_aload h dL_law_546 7 rfl ?_
            refine z_iload h dL_law_548 17 rfl ?_
            refine z_iald h 5 rfl (vp_in_nI (by omega) (by omega)) dL_law_550 (v := wy x) (by rw [nI_clamp (by omega)]) ?_
            refine z_topi (y := nI (wq x)) e1 ?_
            refine z_iconst h (v := 2) dL_law_551 (by decide) ?_
            refine x_Yi h (As := [.int (nI (wq x)), .int 2]) (st := [.int (B (wq x) 4), .int tk]) (Y := [(da, .inl (g.2.2.2.1, N, .inl di)), (na, .inl (g.2.1, N, .inl wn)), (xa, .inl (g.2.1, N, .inl lt)), (ra, .inl (g.2.1, N, .inl rt)), (ca, .inl (g.2.1, N, .inl ct)), (wa, .inl (g.2.1, N, .inl wy)), (b9, .inl (g.2.1, 160, .inl f3)), (a 3, .inl (g.2.1, 10, .inl ft)), (a 6, .inl (g.2.2.1, 12, .inr (.inl tf2))), (a 2, .inl (g.2.1, 100, .inl fm)), (a 1, .inr (2, [.ref (a 2), .ref (a 3), .int (nI pl)])), (a 5, .inl (g.2.2.2.1, 400, .inl (fun _ => 0))), (a 8, .inl (g.2.1, 16, .inl rf)), (a 7, .inl (g.2.2.1, 3, .inr (.inl wf)))]) hT (fun q hq => hq) (fun sz => m_X3_bin l hlf g a sn dy mc ed n cap ad B2 (nI (wq x)) 2 (by omega) hcc hcap sz) (cwV 2 h.ts gL_law_X3_bin rfl rfl rfl (by decide +kernel) ⟨Nat.le_of_ble_eq_true rfl, Nat.le_of_ble_eq_true rfl⟩) rfl rfl 14 rfl rfl rfl rfl (Nat.le_of_ble_eq_true rfl) ⟨by show _ ≤ 600104; omega, by show _ ≤ 7301314; omega⟩ (wN := fun u => ([(da, .inl (g.2.2.2.1, N, .inl di)), (na, .inl (g.2.1, N, .inl wn)), (xa, .inl (g.2.1, N, .inl lt)), (ra, .inl (g.2.1, N, .inl rt)), (ca, .inl (g.2.1, N, .inl ct)), (wa, .inl (g.2.1, N, .inl wy)), (b9, .inl (g.2.1, 160, .inl f3)), (a 3, .inl (g.2.1, 10, .inl ft)), (a 6, .inl (g.2.2.1, 12, .inr (.inl tf2))), (a 2, .inl (g.2.1, 100, .inl fm)), (a 1, .inr (2, [.ref (a 2), .ref (a 3), .int (nI pl)])), (a 5, .inl (g.2.2.2.1, 400, .inl (fun _ => 0))), (a 8, .inl (g.2.1, 16, .inl rf)), (a 7, .inl (g.2.2.1, 3, .inr (.inl wf))), (a 0, .inr (4, [.ref (a 1), .ref (a 4), .ref (a 5), .ref (a 6), .ref (a 7), .ref (a 8), .int (nI sn), .int (nI dy)])), (a 4, .inr (0, [.int mc, .ref ed, .int (nI n)]))] ++ bp g n ed cap ad B2)) (fun _ => rfl) dL_law_552 (fun E hE9 => absurd hE9 (pe3_no (if_pos (and_t (okI_nI hqn (by omega)) (by decide))))) (fun r_552 u_552 h_552 => ?_)
            refine z_topi (y := B (wq x) 4 - mnc cp (B (wq x) 4)) ((bn_at (by omega) h_552 rfl).trans hcl.1) ?_
            refine z_isub h dL_law_555 ?_
            refine z_iadd h dL_law_556 ?_
            refine z_istore h dL_law_557 (by decide) (lv' := [(0, .ref b), (1, .ref (a 0)), (2, .ref b9), (4, .int (nI n)), (5, .int (nI i)), (7, .int (nI kd)), (8, .int (nI N)), (9, .ref wa), (10, .ref ca), (11, .ref ra), (12, .ref xa), (13, .ref na), (14, .ref da), (15, .long lv0), (17, .long vv0), (19, .int cp), (21, .int (tk + ((B (wq x) 4) - (B (wq x) 4 - mnc cp (B (wq x) 4))))), (22, .int (nI x)), (23, .int ((nI dy) - (B (wq x) 6))), (24, .int ((10 * (B (wq x) 4)) / ((nI dy) - (B (wq x) 6)))), (25, .int (ratB (B (wq x)) (nI dy)))]) [1, 2, 3, 4, 5, 6, 7, 8, 9, 10, 11, 12, 13, 14, 15, 16, 0, 17, 18, 19, 20] rfl ?_
            refine z_iinc h (v := nI (x + 1)) dL_law_559 (by decide) 17 rfl (by rw [show Int32.ofInt 1 = nI 1 from rfl, nI_add]) (lv' := [(0, .ref b), (1, .ref (a 0)), (2, .ref b9), (4, .int (nI n)), (5, .int (nI i)), (7, .int (nI kd)), (8, .int (nI N)), (9, .ref wa), (10, .ref ca), (11, .ref ra), (12, .ref xa), (13, .ref na), (14, .ref da), (15, .long lv0), (17, .long vv0), (19, .int cp), (21, .int (tk + ((B (wq x) 4) - (B (wq x) 4 - mnc cp (B (wq x) 4))))), (22, .int (nI (x + 1))), (23, .int ((nI dy) - (B (wq x) 6))), (24, .int ((10 * (B (wq x) 4)) / ((nI dy) - (B (wq x) 6)))), (25, .int (ratB (B (wq x)) (nI dy)))]) [1, 2, 3, 4, 5, 6, 7, 8, 9, 10, 11, 12, 13, 14, 15, 16, 17, 0, 18, 19, 20] rfl ?_
            refine z_goto h (tgt := 320) dL_law_562 (by decide) ?_
            refine z_lv [0, 1, 2, 3, 4, 5, 6, 7, 8, 9, 10, 11, 12, 13, 14, 15, 16, 17] (lv' := [(0, .ref b), (1, .ref (a 0)), (2, .ref b9), (4, .int (nI n)), (5, .int (nI i)), (7, .int (nI kd)), (8, .int (nI N)), (9, .ref wa), (10, .ref ca), (11, .ref ra), (12, .ref xa), (13, .ref na), (14, .ref da), (15, .long lv0), (17, .long vv0), (19, .int cp), (21, .int (tk + ((B (wq x) 4) - (B (wq x) 4 - mnc cp (B (wq x) 4))))), (22, .int (nI (x + 1)))]) rfl ?_
            refine z_widen (kc' := (kc + 8 * (x + 1))) (ks' := (ks + 48 * (x + 1))) (by omega) (by omega) ?_
            exact ihL320 (x + 1) (tk + ((B (wq x) 4) - (B (wq x) 4 - mnc cp (B (wq x) 4)))) (by omega) (by omega) (by first | exact gw_d hz ht | exact gw_c hz hb1 hcp0 ht (gw_b hbk hq hcp0 x (by omega)) (by omega))
          · refine z_aload h dL_law_429 9 rfl ?_
            refine z_iload h dL_law_431 17 rfl ?_
            refine z_iald h 3 rfl (vp_in_nI (by omega) (by omega)) dL_law_433 (v := rt x) (by rw [nI_clamp (by omega)]) ?_
            refine z_topi (y := B (wq x) 5) e3 ?_
            refine z_goto h (tgt := 448) dL_law_434 (by decide) ?_
            have hrl := rat_law hb1 (by omega) (sn := B (wq x) 5) (by first | exact (if_pos c_426).symm | exact (if_neg c_426).symm)
            refine z_istore h dL_law_448 (by decide) (lv' := [(0, .ref b), (1, .ref (a 0)), (2, .ref b9), (4, .int (nI n)), (5, .int (nI i)), (7, .int (nI kd)), (8, .int (nI N)), (9, .ref wa), (10, .ref ca), (11, .ref ra), (12, .ref xa), (13, .ref na), (14, .ref da), (15, .long lv0), (17, .long vv0), (19, .int cp), (21, .int tk), (22, .int (nI x)), (23, .int ((nI dy) - (B (wq x) 6))), (24, .int (B (wq x) 5))]) [1, 2, 3, 4, 5, 6, 7, 8, 9, 10, 11, 12, 13, 14, 15, 16, 17, 18, 19, 0] rfl ?_
            refine z_aload_n h dL_law_450 rfl 1 rfl ?_
            refine z_aload h dL_law_451 7 rfl ?_
            refine z_iload h dL_law_453 17 rfl ?_
            refine z_iald h 5 rfl (vp_in_nI (by omega) (by omega)) dL_law_455 (v := wy x) (by rw [nI_clamp (by omega)]) ?_
            refine z_topi (y := nI (wq x)) e1 ?_
            refine z_iconst h (v := 3) dL_law_456 (by decide) ?_
            refine x_Yi h (As := [.int (nI (wq x)), .int 3]) (st := []) (Y := [(da, .inl (g.2.2.2.1, N, .inl di)), (na, .inl (g.2.1, N, .inl wn)), (xa, .inl (g.2.1, N, .inl lt)), (ra, .inl (g.2.1, N, .inl rt)), (ca, .inl (g.2.1, N, .inl ct)), (wa, .inl (g.2.1, N, .inl wy)), (b9, .inl (g.2.1, 160, .inl f3)), (a 3, .inl (g.2.1, 10, .inl ft)), (a 6, .inl (g.2.2.1, 12, .inr (.inl tf2))), (a 2, .inl (g.2.1, 100, .inl fm)), (a 1, .inr (2, [.ref (a 2), .ref (a 3), .int (nI pl)])), (a 5, .inl (g.2.2.2.1, 400, .inl (fun _ => 0))), (a 8, .inl (g.2.1, 16, .inl rf)), (a 7, .inl (g.2.2.1, 3, .inr (.inl wf)))]) hT (fun q hq => hq) (fun sz => m_X3_bin l hlf g a sn dy mc ed n cap ad B2 (nI (wq x)) 3 (by omega) hcc hcap sz) (cwV 2 h.ts gL_law_X3_bin rfl rfl rfl (by decide +kernel) ⟨Nat.le_of_ble_eq_true rfl, Nat.le_of_ble_eq_true rfl⟩) rfl rfl 14 rfl rfl rfl rfl (Nat.le_of_ble_eq_true rfl) ⟨by show _ ≤ 600104; omega, by show _ ≤ 7301314; omega⟩ (wN := fun u => ([(da, .inl (g.2.2.2.1, N, .inl di)), (na, .inl (g.2.1, N, .inl wn)), (xa, .inl (g.2.1, N, .inl lt)), (ra, .inl (g.2.1, N, .inl rt)), (ca, .inl (g.2.1, N, .inl ct)), (wa, .inl (g.2.1, N, .inl wy)), (b9, .inl (g.2.1, 160, .inl f3)), (a 3, .inl (g.2.1, 10, .inl ft)), (a 6, .inl (g.2.2.1, 12, .inr (.inl tf2))), (a 2, .inl (g.2.1, 100, .inl fm)), (a 1, .inr (2, [.ref (a 2), .ref (a 3), .int (nI pl)])), (a 5, .inl (g.2.2.2.1, 400, .inl (fun _ => 0))), (a 8, .inl (g.2.1, 16, .inl rf)), (a 7, .inl (g.2.2.1, 3, .inr (.inl wf))), (a 0, .inr (4, [.ref (a 1), .ref (a 4), .ref (a 5), .ref (a 6), .ref (a 7), .ref (a 8), .int (nI sn), .int (nI dy)])), (a 4, .inr (0, [.int mc, .ref ed, .int (nI n)]))] ++ bp g n ed cap ad B2)) (fun _ => rfl) dL_law_457 (fun E hE9 => absurd hE9 (pe3_no (if_pos (and_t (okI_nI hqn (by omega)) (by decide))))) (fun r_457 u_457 h_457 => ?_)
            refine z_topi (y := ratB (B (wq x)) (nI dy)) ((bn_at (by omega) h_457 rfl).trans hcl.2.1) ?_
            refine z_istore h dL_law_460 (by decide) (lv' := [(0, .ref b), (1, .ref (a 0)), (2, .ref b9), (4, .int (nI n)), (5, .int (nI i)), (7, .int (nI kd)), (8, .int (nI N)), (9, .ref wa), (10, .ref ca), (11, .ref ra), (12, .ref xa), (13, .ref na), (14, .ref da), (15, .long lv0), (17, .long vv0), (19, .int cp), (21, .int tk), (22, .int (nI x)), (23, .int ((nI dy) - (B (wq x) 6))), (24, .int (B (wq x) 5)), (25, .int (ratB (B (wq x)) (nI dy)))]) [1, 2, 3, 4, 5, 6, 7, 8, 9, 10, 11, 12, 13, 14, 15, 16, 17, 18, 19, 20, 0] rfl ?_
            refine z_iload h dL_law_462 20 rfl ?_
            refine z_aload h dL_law_464 9 rfl ?_
            refine z_iload h dL_law_466 17 rfl ?_
            refine z_iald h 3 rfl (vp_in_nI (by omega) (by omega)) dL_law_468 (v := rt x) (by rw [nI_clamp (by omega)]) ?_
            refine z_topi (y := B (wq x) 5) e3 ?_
            refine z_iload h dL_law_469 19 rfl ?_
            refine z_mmin h lk_L_law_m83 lk_L_law_smin lk_L_law_imin lk_L_law_kmin (Nat.le_of_ble_eq_true rfl) (Nat.le_of_ble_eq_true rfl) (by show _ ≤ 600104; omega) (by show _ ≤ 7301314; omega) dL_law_471 ?_
            refine z_iconst h (v := 1) dL_law_474 (by decide) ?_
            refine z_isub h dL_law_475 ?_
            refine z_icmp_lt h (tgt := 536) dL_law_476 (by decide) (fun c_476 => absurd c_476 hrl.1) (fun c_476 => ?_)
            refine z_iload h dL_law_479 20 rfl ?_
            refine z_aload h dL_law_481 9 rfl ?_
            refine z_iload h dL_law_483 17 rfl ?_
            refine z_iald h 3 rfl (vp_in_nI (by omega) (by omega)) dL_law_485 (v := rt x) (by rw [nI_clamp (by omega)]) ?_
            refine z_topi (y := B (wq x) 5) e3 ?_
            refine z_iload h dL_law_486 19 rfl ?_
            refine z_mmax h lk_L_law_m88 lk_L_law_smax lk_L_law_imax lk_L_law_kmax (Nat.le_of_ble_eq_true rfl) (Nat.le_of_ble_eq_true rfl) (by show _ ≤ 600104; omega) (by show _ ≤ 7301314; omega) dL_law_488 ?_
            refine z_icmp_gt h (tgt := 536) dL_law_491 (by decide) (fun c_491 => absurd c_491 hrl.2) (fun c_491 => ?_)
            refine z_aload_n h dL_law_494 rfl 1 rfl ?_
            refine z_aload h dL_law_495 7 rfl ?_
            refine z_iload h dL_law_497 17 rfl ?_
            refine z_iald h 5 rfl (vp_in_nI (by omega) (by omega)) dL_law_499 (v := wy x) (by rw [nI_clamp (by omega)]) ?_
            refine z_topi (y := nI (wq x)) e1 ?_
            refine z_iconst h (v := 4) dL_law_500 (by decide) ?_
            refine x_Yi h (As := [.int (nI (wq x)), .int 4]) (st := []) (Y := [(da, .inl (g.2.2.2.1, N, .inl di)), (na, .inl (g.2.1, N, .inl wn)), (xa, .inl (g.2.1, N, .inl lt)), (ra, .inl (g.2.1, N, .inl rt)), (ca, .inl (g.2.1, N, .inl ct)), (wa, .inl (g.2.1, N, .inl wy)), (b9, .inl (g.2.1, 160, .inl f3)), (a 3, .inl (g.2.1, 10, .inl ft)), (a 6, .inl (g.2.2.1, 12, .inr (.inl tf2))), (a 2, .inl (g.2.1, 100, .inl fm)), (a 1, .inr (2, [.ref (a 2), .ref (a 3), .int (nI pl)])), (a 5, .inl (g.2.2.2.1, 400, .inl (fun _ => 0))), (a 8, .inl (g.2.1, 16, .inl rf)), (a 7, .inl (g.2.2.1, 3, .inr (.inl wf)))]) hT (fun q hq => hq) (fun sz => m_X3_bin l hlf g a sn dy mc ed n cap ad B2 (nI (wq x)) 4 (by omega) hcc hcap sz) (cwV 2 h.ts gL_law_X3_bin rfl rfl rfl (by decide +kernel) ⟨Nat.le_of_ble_eq_true rfl, Nat.le_of_ble_eq_true rfl⟩) rfl rfl 14 rfl rfl rfl rfl (Nat.le_of_ble_eq_true rfl) ⟨by show _ ≤ 600104; omega, by show _ ≤ 7301314; omega⟩ (wN := fun u => ([(da, .inl (g.2.2.2.1, N, .inl di)), (na, .inl (g.2.1, N, .inl wn)), (xa, .inl (g.2.1, N, .inl lt)), (ra, .inl (g.2.1, N, .inl rt)), (ca, .inl (g.2.1, N, .inl ct)), (wa, .inl (g.2.1, N, .inl wy)), (b9, .inl (g.2.1, 160, .inl f3)), (a 3, .inl (g.2.1, 10, .inl ft)), (a 6, .inl (g.2.2.1, 12, .inr (.inl tf2))), (a 2, .inl (g.2.1, 100, .inl fm)), (a 1, .inr (2, [.ref (a 2), .ref (a 3), .int (nI pl)])), (a 5, .inl (g.2.2.2.1, 400, .inl (fun _ => 0))), (a 8, .inl (g.2.1, 16, .inl rf)), (a 7, .inl (g.2.2.1, 3, .inr (.inl wf))), (a 0, .inr (4, [.ref (a 1), .ref (a 4), .ref (a 5), .ref (a 6), .ref (a 7), .ref (a 8), .int (nI sn), .int (nI dy)])), (a 4, .inr (0, [.int mc, .ref ed, .int (nI n)]))] ++ bp g n ed cap ad B2)) (fun _ => rfl) dL_law_501 (fun E hE9 => absurd hE9 (pe3_no (if_pos (and_t (okI_nI hqn (by omega)) (by decide))))) (fun r_501 u_501 h_501 => ?_)
            refine z_topi (y := nI dy) ((bn_at (by omega) h_501 rfl).trans hcl.2.2.1) ?_
            refine z_aload_n h dL_law_504 rfl 1 rfl ?_
            refine z_Vi h (As := []) (st := [.int (nI dy)]) (fun sz => m_X3_today l g a sn dy  sz) (cwV 0 h.ts gL_law_X3_today rfl rfl rfl (by decide +kernel) ⟨Nat.le_of_ble_eq_true rfl, Nat.le_of_ble_eq_true rfl⟩) rfl [] [14] rfl rfl rfl rfl 14 rfl rfl rfl rfl (Nat.le_of_ble_eq_true rfl) ⟨by show _ ≤ 600104; omega, by show _ ≤ 7301314; omega⟩ (fun _ => (Nat.le_of_ble_eq_true rfl)) (wN := fun u => ([(da, .inl (g.2.2.2.1, N, .inl di)), (na, .inl (g.2.1, N, .inl wn)), (xa, .inl (g.2.1, N, .inl lt)), (ra, .inl (g.2.1, N, .inl rt)), (ca, .inl (g.2.1, N, .inl ct)), (wa, .inl (g.2.1, N, .inl wy)), (b9, .inl (g.2.1, 160, .inl f3)), (a 3, .inl (g.2.1, 10, .inl ft)), (a 6, .inl (g.2.2.1, 12, .inr (.inl tf2))), (a 2, .inl (g.2.1, 100, .inl fm)), (a 1, .inr (2, [.ref (a 2), .ref (a 3), .int (nI pl)])), (a 5, .inl (g.2.2.2.1, 400, .inl (fun _ => 0))), (a 8, .inl (g.2.1, 16, .inl rf)), (a 7, .inl (g.2.2.1, 3, .inr (.inl wf))), (a 0, .inr (4, [.ref (a 1), .ref (a 4), .ref (a 5), .ref (a 6), .ref (a 7), .ref (a 8), .int (nI sn), .int (nI dy)])), (a 4, .inr (0, [.int mc, .ref ed, .int (nI n)]))] ++ bp g n ed cap ad B2)) (fun _ => List.append_nil _) dL_law_505 (fun r_505 u_505 h_505 => ?_)
            refine z_topi (y := nI dy) h_505 ?_
            refine z_icmp_ne h (tgt := 536) dL_law_508 (by decide) (fun c_508 => absurd rfl c_508) (fun c_508 => ?_)
            refine z_aload_n h dL_law_511 rfl 1 rfl ?_
            refine z_aload h dL_law_512 7 rfl ?_
            refine z_iload h dL_law_514 17 rfl ?_
            refine z_iald h 5 rfl (vp_in_nI (by omega) (by omega)) dL_law_516 (v := wy x) (by rw [nI_clamp (by omega)]) ?_
            refine z_topi (y := nI (wq x)) e1 ?_
            refine z_iconst h (v := 2) dL_law_517 (by decide) ?_
            refine x_Yi h (As := [.int (nI (wq x)), .int 2]) (st := []) (Y := [(da, .inl (g.2.2.2.1, N, .inl di)), (na, .inl (g.2.1, N, .inl wn)), (xa, .inl (g.2.1, N, .inl lt)), (ra, .inl (g.2.1, N, .inl rt)), (ca, .inl (g.2.1, N, .inl ct)), (wa, .inl (g.2.1, N, .inl wy)), (b9, .inl (g.2.1, 160, .inl f3)), (a 3, .inl (g.2.1, 10, .inl ft)), (a 6, .inl (g.2.2.1, 12, .inr (.inl tf2))), (a 2, .inl (g.2.1, 100, .inl fm)), (a 1, .inr (2, [.ref (a 2), .ref (a 3), .int (nI pl)])), (a 5, .inl (g.2.2.2.1, 400, .inl (fun _ => 0))), (a 8, .inl (g.2.1, 16, .inl rf)), (a 7, .inl (g.2.2.1, 3, .inr (.inl wf)))]) hT (fun q hq => hq) (fun sz => m_X3_bin l hlf g a sn dy mc ed n cap ad B2 (nI (wq x)) 2 (by omega) hcc hcap sz) (cwV 2 h.ts gL_law_X3_bin rfl rfl rfl (by decide +kernel) ⟨Nat.le_of_ble_eq_true rfl, Nat.le_of_ble_eq_true rfl⟩) rfl rfl 14 rfl rfl rfl rfl (Nat.le_of_ble_eq_true rfl) ⟨by show _ ≤ 600104; omega, by show _ ≤ 7301314; omega⟩ (wN := fun u => ([(da, .inl (g.2.2.2.1, N, .inl di)), (na, .inl (g.2.1, N, .inl wn)), (xa, .inl (g.2.1, N, .inl lt)), (ra, .inl (g.2.1, N, .inl rt)), (ca, .inl (g.2.1, N, .inl ct)), (wa, .inl (g.2.1, N, .inl wy)), (b9, .inl (g.2.1, 160, .inl f3)), (a 3, .inl (g.2.1, 10, .inl ft)), (a 6, .inl (g.2.2.1, 12, .inr (.inl tf2))), (a 2, .inl (g.2.1, 100, .inl fm)), (a 1, .inr (2, [.ref (a 2), .ref (a 3), .int (nI pl)])), (a 5, .inl (g.2.2.2.1, 400, .inl (fun _ => 0))), (a 8, .inl (g.2.1, 16, .inl rf)), (a 7, .inl (g.2.2.1, 3, .inr (.inl wf))), (a 0, .inr (4, [.ref (a 1), .ref (a 4), .ref (a 5), .ref (a 6), .ref (a 7), .ref (a 8), .int (nI sn), .int (nI dy)])), (a 4, .inr (0, [.int mc, .ref ed, .int (nI n)]))] ++ bp g n ed cap ad B2)) (fun _ => rfl) dL_law_518 (fun E hE9 => absurd hE9 (pe3_no (if_pos (and_t (okI_nI hqn (by omega)) (by decide))))) (fun r_518 u_518 h_518 => ?_)
            refine z_topi (y := B (wq x) 4 - mnc cp (B (wq x) 4)) ((bn_at (by omega) h_518 rfl).trans hcl.1) ?_
            refine z_iconst h (v := 0) dL_law_521 (by decide) ?_
            refine z_aload h dL_law_522 8 rfl ?_
            refine z_iload h dL_law_524 17 rfl ?_
            refine z_iald h 4 rfl (vp_in_nI (by omega) (by omega)) dL_law_526 (v := ct x) (by rw [nI_clamp (by omega)]) ?_
            refine z_topi (y := B (wq x) 4) e2 ?_
            refine z_iload h dL_law_527 15 rfl ?_
            refine z_isub h dL_law_529 ?_
            refine z_mmax h lk_L_law_m88 lk_L_law_smax lk_L_law_imax lk_L_law_kmax (Nat.le_of_ble_eq_true rfl) (Nat.le_of_ble_eq_true rfl) (by show _ ≤ 600104; omega) (by show _ ≤ 7301314; omega) dL_law_530 ?_
            refine z_icmp_eq h (tgt := 538) dL_law_533 (by decide) (fun c_533 => ?_) (fun c_533 => absurd (mnc_max hb1 hcp0) c_533)
            refine z_iload h dL_law_538 16 rfl ?_
            refine z_aload h dL_law_540 8 rfl ?_
            refine z_iload h dL_law_542 17 rfl ?_
            refine z_iald h 4 rfl (vp_in_nI (by omega) (by omega)) dL_law_544 (v := ct x) (by rw [nI_clamp (by omega)]) ?_
            refine z_topi (y := B (wq x) 4) e2 ?_
            refine z_aload_n h dL_law_545 rfl 1 rfl ?_
            refine z_aload h dL_law_546 7 rfl ?_
            refine z_iload h dL_law_548 17 rfl ?_
            refine z_iald h 5 rfl (vp_in_nI (by omega) (by omega)) dL_law_550 (v := wy x) (by rw [nI_clamp (by omega)]) ?_
            refine z_topi (y := nI (wq x)) e1 ?_
            refine z_iconst h (v := 2) dL_law_551 (by decide) ?_
            refine x_Yi h (As := [.int (nI (wq x)), .int 2]) (st := [.int (B (wq x) 4), .int tk]) (Y := [(da, .inl (g.2.2.2.1, N, .inl di)), (na, .inl (g.2.1, N, .inl wn)), (xa, .inl (g.2.1, N, .inl lt)), (ra, .inl (g.2.1, N, .inl rt)), (ca, .inl (g.2.1, N, .inl ct)), (wa, .inl (g.2.1, N, .inl wy)), (b9, .inl (g.2.1, 160, .inl f3)), (a 3, .inl (g.2.1, 10, .inl ft)), (a 6, .inl (g.2.2.1, 12, .inr (.inl tf2))), (a 2, .inl (g.2.1, 100, .inl fm)), (a 1, .inr (2, [.ref (a 2), .ref (a 3), .int (nI pl)])), (a 5, .inl (g.2.2.2.1, 400, .inl (fun _ => 0))), (a 8, .inl (g.2.1, 16, .inl rf)), (a 7, .inl (g.2.2.1, 3, .inr (.inl wf)))]) hT (fun q hq => hq) (fun sz => m_X3_bin l hlf g a sn dy mc ed n cap ad B2 (nI (wq x)) 2 (by omega) hcc hcap sz) (cwV 2 h.ts gL_law_X3_bin rfl rfl rfl (by decide +kernel) ⟨Nat.le_of_ble_eq_true rfl, Nat.le_of_ble_eq_true rfl⟩) rfl rfl 14 rfl rfl rfl rfl (Nat.le_of_ble_eq_true rfl) ⟨by show _ ≤ 600104; omega, by show _ ≤ 7301314; omega⟩ (wN := fun u => ([(da, .inl (g.2.2.2.1, N, .inl di)), (na, .inl (g.2.1, N, .inl wn)), (xa, .inl (g.2.1, N, .inl lt)), (ra, .inl (g.2.1, N, .inl rt)), (ca, .inl (g.2.1, N, .inl ct)), (wa, .inl (g.2.1, N, .inl wy)), (b9, .inl (g.2.1, 160, .inl f3)), (a 3, .inl (g.2.1, 10, .inl ft)), (a 6, .inl (g.2.2.1, 12, .inr (.inl tf2))), (a 2, .inl (g.2.1, 100, .inl fm)), (a 1, .inr (2, [.ref (a 2), .ref (a 3), .int (nI pl)])), (a 5, .inl (g.2.2.2.1, 400, .inl (fun _ => 0))), (a 8, .inl (g.2.1, 16, .inl rf)), (a 7, .inl (g.2.2.1, 3, .inr (.inl wf))), (a 0, .inr (4, [.ref (a 1), .ref (a 4), .ref (a 5), .ref (a 6), .ref (a 7), .ref (a 8), .int (nI sn), .int (nI dy)])), (a 4, .inr (0, [.int mc, .ref ed, .int (nI n)]))] ++ bp g n ed cap ad B2)) (fun _ => rfl) dL_law_552 (fun E hE9 => absurd hE9 (pe3_no (if_pos (and_t (okI_nI hqn (by omega)) (by decide))))) (fun r_552 u_552 h_552 => ?_)
            refine z_topi (y := B (wq x) 4 - mnc cp (B (wq x) 4)) ((bn_at (by omega) h_552 rfl).trans hcl.1) ?_
            refine z_isub h dL_law_555 ?_
            refine z_iadd h dL_law_556 ?_
            refine z_istore h dL_law_557 (by decide) (lv' := [(0, .ref b), (1, .ref (a 0)), (2, .ref b9), (4, .int (nI n)), (5, .int (nI i)), (7, .int (nI kd)), (8, .int (nI N)), (9, .ref wa), (10, .ref ca), (11, .ref ra), (12, .ref xa), (13, .ref na), (14, .ref da), (15, .long lv0), (17, .long vv0), (19, .int cp), (21, .int (tk + ((B (wq x) 4) - (B (wq x) 4 - mnc cp (B (wq x) 4))))), (22, .int (nI x)), (23, .int ((nI dy) - (B (wq x) 6))), (24, .int (B (wq x) 5)), (25, .int (ratB (B (wq x)) (nI dy)))]) [1, 2, 3, 4, 5, 6, 7, 8, 9, 10, 11, 12, 13, 14, 15, 16, 0, 17, 18, 19, 20] rfl ?_
            refine z_iinc h (v := nI (x + 1)) dL_law_559 (by decide) 17 rfl (by rw [show Int32.ofInt 1 = nI 1 from rfl, nI_add]) (lv' := [(0, .ref b), (1, .ref (a 0)), (2, .ref b9), (4, .int (nI n)), (5, .int (nI i)), (7, .int (nI kd)), (8, .int (nI N)), (9, .ref wa), (10, .ref ca), (11, .ref ra), (12, .ref xa), (13, .ref na), (14, .ref da), (15, .long lv0), (17, .long vv0), (19, .int cp), (21, .int (tk + ((B (wq x) 4) - (B (wq x) 4 - mnc cp (B (wq x) 4))))), (22, .int (nI (x + 1))), (23, .int ((nI dy) - (B (wq x) 6))), (24, .int (B (wq x) 5)), (25, .int (ratB (B (wq x)) (nI dy)))]) [1, 2, 3, 4, 5, 6, 7, 8, 9, 10, 11, 12, 13, 14, 15, 16, 17, 0, 18, 19, 20] rfl ?_
            refine z_goto h (tgt := 320) dL_law_562 (by decide) ?_
            refine z_lv [0, 1, 2, 3, 4, 5, 6, 7, 8, 9, 10, 11, 12, 13, 14, 15, 16, 17] (lv' := [(0, .ref b), (1, .ref (a 0)), (2, .ref b9), (4, .int (nI n)), (5, .int (nI i)), (7, .int (nI kd)), (8, .int (nI N)), (9, .ref wa), (10, .ref ca), (11, .ref ra), (12, .ref xa), (13, .ref na), (14, .ref da), (15, .long lv0), (17, .long vv0), (19, .int cp), (21, .int (tk + ((B (wq x) 4) - (B (wq x) 4 - mnc cp (B (wq x) 4))))), (22, .int (nI (x + 1)))]) rfl ?_
            refine z_widen (kc' := (kc + 8 * (x + 1))) (ks' := (ks + 48 * (x + 1))) (by omega) (by omega) ?_
            exact ihL320 (x + 1) (tk + ((B (wq x) 4) - (B (wq x) 4 - mnc cp (B (wq x) 4)))) (by omega) (by omega) (by first | exact gw_d hz ht | exact gw_c hz hb1 hcp0 ht (gw_b hbk hq hcp0 x (by omega)) (by omega))
        · have hz := c_332
          have hcl := endB_d (x := mnc cp (B (wq x) 4)) (y := nI dy) hz
          rw [← hbe] at hcl
          refine z_aload_n h dL_law_335 rfl 1 rfl ?_
          refine z_aload h dL_law_336 7 rfl ?_
          refine z_iload h dL_law_338 17 rfl ?_
          refine z_iald h 5 rfl (vp_in_nI (by omega) (by omega)) dL_law_340 (v := wy x) (by rw [nI_clamp (by omega)]) ?_
          refine z_topi (y := nI (wq x)) e1 ?_
          refine z_bipush h (v := 6) dL_law_341 (by decide) ?_
          refine x_Yi h (As := [.int (nI (wq x)), .int 6]) (st := []) (Y := [(da, .inl (g.2.2.2.1, N, .inl di)), (na, .inl (g.2.1, N, .inl wn)), (xa, .inl (g.2.1, N, .inl lt)), (ra, .inl (g.2.1, N, .inl rt)), (ca, .inl (g.2.1, N, .inl ct)), (wa, .inl (g.2.1, N, .inl wy)), (b9, .inl (g.2.1, 160, .inl f3)), (a 3, .inl (g.2.1, 10, .inl ft)), (a 6, .inl (g.2.2.1, 12, .inr (.inl tf2))), (a 2, .inl (g.2.1, 100, .inl fm)), (a 1, .inr (2, [.ref (a 2), .ref (a 3), .int (nI pl)])), (a 5, .inl (g.2.2.2.1, 400, .inl (fun _ => 0))), (a 8, .inl (g.2.1, 16, .inl rf)), (a 7, .inl (g.2.2.1, 3, .inr (.inl wf)))]) hT (fun q hq => hq) (fun sz => m_X3_bin l hlf g a sn dy mc ed n cap ad B2 (nI (wq x)) 6 (by omega) hcc hcap sz) (cwV 2 h.ts gL_law_X3_bin rfl rfl rfl (by decide +kernel) ⟨Nat.le_of_ble_eq_true rfl, Nat.le_of_ble_eq_true rfl⟩) rfl rfl 14 rfl rfl rfl rfl (Nat.le_of_ble_eq_true rfl) ⟨by show _ ≤ 600104; omega, by show _ ≤ 7301314; omega⟩ (wN := fun u => ([(da, .inl (g.2.2.2.1, N, .inl di)), (na, .inl (g.2.1, N, .inl wn)), (xa, .inl (g.2.1, N, .inl lt)), (ra, .inl (g.2.1, N, .inl rt)), (ca, .inl (g.2.1, N, .inl ct)), (wa, .inl (g.2.1, N, .inl wy)), (b9, .inl (g.2.1, 160, .inl f3)), (a 3, .inl (g.2.1, 10, .inl ft)), (a 6, .inl (g.2.2.1, 12, .inr (.inl tf2))), (a 2, .inl (g.2.1, 100, .inl fm)), (a 1, .inr (2, [.ref (a 2), .ref (a 3), .int (nI pl)])), (a 5, .inl (g.2.2.2.1, 400, .inl (fun _ => 0))), (a 8, .inl (g.2.1, 16, .inl rf)), (a 7, .inl (g.2.2.1, 3, .inr (.inl wf))), (a 0, .inr (4, [.ref (a 1), .ref (a 4), .ref (a 5), .ref (a 6), .ref (a 7), .ref (a 8), .int (nI sn), .int (nI dy)])), (a 4, .inr (0, [.int mc, .ref ed, .int (nI n)]))] ++ bp g n ed cap ad B2)) (fun _ => rfl) dL_law_343 (fun E hE9 => absurd hE9 (pe3_no (if_pos (and_t (okI_nI hqn (by omega)) (by decide))))) (fun r_343 u_343 h_343 => ?_)
          refine z_topi (y := B (wq x) 8 + 1) ((bn_at (by omega) h_343 rfl).trans hcl.2.2.2.1) ?_
          refine z_aload h dL_law_346 11 rfl ?_
          refine z_iload h dL_law_348 17 rfl ?_
          refine z_iald h 1 rfl (vp_in_nI (by omega) (by omega)) dL_law_350 (v := wn x) (by rw [nI_clamp (by omega)]) ?_
          refine z_topi (y := B (wq x) 8) e5 ?_
          refine z_iconst h (v := 1) dL_law_351 (by decide) ?_
          refine z_iadd h dL_law_352 ?_
          refine z_icmp_ne h (tgt := 410) dL_law_353 (by decide) (fun c_353 => absurd rfl c_353) (fun c_353 => ?_)
          refine z_aload_n h dL_law_356 rfl 1 rfl ?_
          refine z_aload h dL_law_357 7 rfl ?_
          refine z_iload h dL_law_359 17 rfl ?_
          refine z_iald h 5 rfl (vp_in_nI (by omega) (by omega)) dL_law_361 (v := wy x) (by rw [nI_clamp (by omega)]) ?_
          refine z_topi (y := nI (wq x)) e1 ?_
          refine z_iconst h (v := 2) dL_law_362 (by decide) ?_
          refine x_Yi h (As := [.int (nI (wq x)), .int 2]) (st := []) (Y := [(da, .inl (g.2.2.2.1, N, .inl di)), (na, .inl (g.2.1, N, .inl wn)), (xa, .inl (g.2.1, N, .inl lt)), (ra, .inl (g.2.1, N, .inl rt)), (ca, .inl (g.2.1, N, .inl ct)), (wa, .inl (g.2.1, N, .inl wy)), (b9, .inl (g.2.1, 160, .inl f3)), (a 3, .inl (g.2.1, 10, .inl ft)), (a 6, .inl (g.2.2.1, 12, .inr (.inl tf2))), (a 2, .inl (g.2.1, 100, .inl fm)), (a 1, .inr (2, [.ref (a 2), .ref (a 3), .int (nI pl)])), (a 5, .inl (g.2.2.2.1, 400, .inl (fun _ => 0))), (a 8, .inl (g.2.1, 16, .inl rf)), (a 7, .inl (g.2.2.1, 3, .inr (.inl wf)))]) hT (fun q hq => hq) (fun sz => m_X3_bin l hlf g a sn dy mc ed n cap ad B2 (nI (wq x)) 2 (by omega) hcc hcap sz) (cwV 2 h.ts gL_law_X3_bin rfl rfl rfl (by decide +kernel) ⟨Nat.le_of_ble_eq_true rfl, Nat.le_of_ble_eq_true rfl⟩) rfl rfl 14 rfl rfl rfl rfl (Nat.le_of_ble_eq_true rfl) ⟨by show _ ≤ 600104; omega, by show _ ≤ 7301314; omega⟩ (wN := fun u => ([(da, .inl (g.2.2.2.1, N, .inl di)), (na, .inl (g.2.1, N, .inl wn)), (xa, .inl (g.2.1, N, .inl lt)), (ra, .inl (g.2.1, N, .inl rt)), (ca, .inl (g.2.1, N, .inl ct)), (wa, .inl (g.2.1, N, .inl wy)), (b9, .inl (g.2.1, 160, .inl f3)), (a 3, .inl (g.2.1, 10, .inl ft)), (a 6, .inl (g.2.2.1, 12, .inr (.inl tf2))), (a 2, .inl (g.2.1, 100, .inl fm)), (a 1, .inr (2, [.ref (a 2), .ref (a 3), .int (nI pl)])), (a 5, .inl (g.2.2.2.1, 400, .inl (fun _ => 0))), (a 8, .inl (g.2.1, 16, .inl rf)), (a 7, .inl (g.2.2.1, 3, .inr (.inl wf))), (a 0, .inr (4, [.ref (a 1), .ref (a 4), .ref (a 5), .ref (a 6), .ref (a 7), .ref (a 8), .int (nI sn), .int (nI dy)])), (a 4, .inr (0, [.int mc, .ref ed, .int (nI n)]))] ++ bp g n ed cap ad B2)) (fun _ => rfl) dL_law_363 (fun E hE9 => absurd hE9 (pe3_no (if_pos (and_t (okI_nI hqn (by omega)) (by decide))))) (fun r_363 u_363 h_363 => ?_)
          refine z_topi (y := B (wq x) 4) ((bn_at (by omega) h_363 rfl).trans hcl.1) ?_
          refine z_aload h dL_law_366 8 rfl ?_
          refine z_iload h dL_law_368 17 rfl ?_
          refine z_iald h 4 rfl (vp_in_nI (by omega) (by omega)) dL_law_370 (v := ct x) (by rw [nI_clamp (by omega)]) ?_
          refine z_topi (y := B (wq x) 4) e2 ?_
          refine z_icmp_ne h (tgt := 410) dL_law_371 (by decide) (fun c_371 => absurd rfl c_371) (fun c_371 => ?_)
          refine z_aload_n h dL_law_374 rfl 1 rfl ?_
          refine z_aload h dL_law_375 7 rfl ?_
          refine z_iload h dL_law_377 17 rfl ?_
          refine z_iald h 5 rfl (vp_in_nI (by omega) (by omega)) dL_law_379 (v := wy x) (by rw [nI_clamp (by omega)]) ?_
          refine z_topi (y := nI (wq x)) e1 ?_
          refine z_iconst h (v := 3) dL_law_380 (by decide) ?_
          refine x_Yi h (As := [.int (nI (wq x)), .int 3]) (st := []) (Y := [(da, .inl (g.2.2.2.1, N, .inl di)), (na, .inl (g.2.1, N, .inl wn)), (xa, .inl (g.2.1, N, .inl lt)), (ra, .inl (g.2.1, N, .inl rt)), (ca, .inl (g.2.1, N, .inl ct)), (wa, .inl (g.2.1, N, .inl wy)), (b9, .inl (g.2.1, 160, .inl f3)), (a 3, .inl (g.2.1, 10, .inl ft)), (a 6, .inl (g.2.2.1, 12, .inr (.inl tf2))), (a 2, .inl (g.2.1, 100, .inl fm)), (a 1, .inr (2, [.ref (a 2), .ref (a 3), .int (nI pl)])), (a 5, .inl (g.2.2.2.1, 400, .inl (fun _ => 0))), (a 8, .inl (g.2.1, 16, .inl rf)), (a 7, .inl (g.2.2.1, 3, .inr (.inl wf)))]) hT (fun q hq => hq) (fun sz => m_X3_bin l hlf g a sn dy mc ed n cap ad B2 (nI (wq x)) 3 (by omega) hcc hcap sz) (cwV 2 h.ts gL_law_X3_bin rfl rfl rfl (by decide +kernel) ⟨Nat.le_of_ble_eq_true rfl, Nat.le_of_ble_eq_true rfl⟩) rfl rfl 14 rfl rfl rfl rfl (Nat.le_of_ble_eq_true rfl) ⟨by show _ ≤ 600104; omega, by show _ ≤ 7301314; omega⟩ (wN := fun u => ([(da, .inl (g.2.2.2.1, N, .inl di)), (na, .inl (g.2.1, N, .inl wn)), (xa, .inl (g.2.1, N, .inl lt)), (ra, .inl (g.2.1, N, .inl rt)), (ca, .inl (g.2.1, N, .inl ct)), (wa, .inl (g.2.1, N, .inl wy)), (b9, .inl (g.2.1, 160, .inl f3)), (a 3, .inl (g.2.1, 10, .inl ft)), (a 6, .inl (g.2.2.1, 12, .inr (.inl tf2))), (a 2, .inl (g.2.1, 100, .inl fm)), (a 1, .inr (2, [.ref (a 2), .ref (a 3), .int (nI pl)])), (a 5, .inl (g.2.2.2.1, 400, .inl (fun _ => 0))), (a 8, .inl (g.2.1, 16, .inl rf)), (a 7, .inl (g.2.2.1, 3, .inr (.inl wf))), (a 0, .inr (4, [.ref (a 1), .ref (a 4), .ref (a 5), .ref (a 6), .ref (a 7), .ref (a 8), .int (nI sn), .int (nI dy)])), (a 4, .inr (0, [.int mc, .ref ed, .int (nI n)]))] ++ bp g n ed cap ad B2)) (fun _ => rfl) dL_law_381 (fun E hE9 => absurd hE9 (pe3_no (if_pos (and_t (okI_nI hqn (by omega)) (by decide))))) (fun r_381 u_381 h_381 => ?_)
          refine z_topi (y := B (wq x) 5) ((bn_at (by omega) h_381 rfl).trans hcl.2.1) ?_
          refine z_aload h dL_law_384 9 rfl ?_
          refine z_iload h dL_law_386 17 rfl ?_
          refine z_iald h 3 rfl (vp_in_nI (by omega) (by omega)) dL_law_388 (v := rt x) (by rw [nI_clamp (by omega)]) ?_
          refine z_topi (y := B (wq x) 5) e3 ?_
          refine z_icmp_ne h (tgt := 410) dL_law_389 (by decide) (fun c_389 => absurd rfl c_389) (fun c_389 => ?_)
          refine z_aload_n h dL_law_392 rfl 1 rfl ?_
          refine z_aload h dL_law_393 7 rfl ?_
          refine z_iload h dL_law_395 17 rfl ?_
          refine z_iald h 5 rfl (vp_in_nI (by omega) (by omega)) dL_law_397 (v := wy x) (by rw [nI_clamp (by omega)]) ?_
          refine z_topi (y := nI (wq x)) e1 ?_
          refine z_iconst h (v := 4) dL_law_398 (by decide) ?_
          refine x_Yi h (As := [.int (nI (wq x)), .int 4]) (st := []) (Y := [(da, .inl (g.2.2.2.1, N, .inl di)), (na, .inl (g.2.1, N, .inl wn)), (xa, .inl (g.2.1, N, .inl lt)), (ra, .inl (g.2.1, N, .inl rt)), (ca, .inl (g.2.1, N, .inl ct)), (wa, .inl (g.2.1, N, .inl wy)), (b9, .inl (g.2.1, 160, .inl f3)), (a 3, .inl (g.2.1, 10, .inl ft)), (a 6, .inl (g.2.2.1, 12, .inr (.inl tf2))), (a 2, .inl (g.2.1, 100, .inl fm)), (a 1, .inr (2, [.ref (a 2), .ref (a 3), .int (nI pl)])), (a 5, .inl (g.2.2.2.1, 400, .inl (fun _ => 0))), (a 8, .inl (g.2.1, 16, .inl rf)), (a 7, .inl (g.2.2.1, 3, .inr (.inl wf)))]) hT (fun q hq => hq) (fun sz => m_X3_bin l hlf g a sn dy mc ed n cap ad B2 (nI (wq x)) 4 (by omega) hcc hcap sz) (cwV 2 h.ts gL_law_X3_bin rfl rfl rfl (by decide +kernel) ⟨Nat.le_of_ble_eq_true rfl, Nat.le_of_ble_eq_true rfl⟩) rfl rfl 14 rfl rfl rfl rfl (Nat.le_of_ble_eq_true rfl) ⟨by show _ ≤ 600104; omega, by show _ ≤ 7301314; omega⟩ (wN := fun u => ([(da, .inl (g.2.2.2.1, N, .inl di)), (na, .inl (g.2.1, N, .inl wn)), (xa, .inl (g.2.1, N, .inl lt)), (ra, .inl (g.2.1, N, .inl rt)), (ca, .inl (g.2.1, N, .inl ct)), (wa, .inl (g.2.1, N, .inl wy)), (b9, .inl (g.2.1, 160, .inl f3)), (a 3, .inl (g.2.1, 10, .inl ft)), (a 6, .inl (g.2.2.1, 12, .inr (.inl tf2))), (a 2, .inl (g.2.1, 100, .inl fm)), (a 1, .inr (2, [.ref (a 2), .ref (a 3), .int (nI pl)])), (a 5, .inl (g.2.2.2.1, 400, .inl (fun _ => 0))), (a 8, .inl (g.2.1, 16, .inl rf)), (a 7, .inl (g.2.2.1, 3, .inr (.inl wf))), (a 0, .inr (4, [.ref (a 1), .ref (a 4), .ref (a 5), .ref (a 6), .ref (a 7), .ref (a 8), .int (nI sn), .int (nI dy)])), (a 4, .inr (0, [.int mc, .ref ed, .int (nI n)]))] ++ bp g n ed cap ad B2)) (fun _ => rfl) dL_law_399 (fun E hE9 => absurd hE9 (pe3_no (if_pos (and_t (okI_nI hqn (by omega)) (by decide))))) (fun r_399 u_399 h_399 => ?_)
          refine z_topi (y := B (wq x) 6) ((bn_at (by omega) h_399 rfl).trans hcl.2.2.1) ?_
          refine z_aload h dL_law_402 10 rfl ?_
          refine z_iload h dL_law_404 17 rfl ?_
          refine z_iald h 2 rfl (vp_in_nI (by omega) (by omega)) dL_law_406 (v := lt x) (by rw [nI_clamp (by omega)]) ?_
          refine z_topi (y := B (wq x) 6) e4 ?_
          refine z_icmp_eq h (tgt := 559) dL_law_407 (by decide) (fun c_407 => ?_) (fun c_407 => absurd rfl c_407)
          refine z_iinc h (v := nI (x + 1)) dL_law_559 (by decide) 17 rfl (by rw [show Int32.ofInt 1 = nI 1 from rfl, nI_add]) (lv' := [(0, .ref b), (1, .ref (a 0)), (2, .ref b9), (4, .int (nI n)), (5, .int (nI i)), (7, .int (nI kd)), (8, .int (nI N)), (9, .ref wa), (10, .ref ca), (11, .ref ra), (12, .ref xa), (13, .ref na), (14, .ref da), (15, .long lv0), (17, .long vv0), (19, .int cp), (21, .int tk), (22, .int (nI (x + 1)))]) [1, 2, 3, 4, 5, 6, 7, 8, 9, 10, 11, 12, 13, 14, 15, 16, 17, 0] rfl ?_
          refine z_goto h (tgt := 320) dL_law_562 (by decide) ?_
          refine z_widen (kc' := (kc + 8 * (x + 1))) (ks' := (ks + 48 * (x + 1))) (by omega) (by omega) ?_
          exact ihL320 (x + 1) tk (by omega) (by omega) (by first | exact gw_d hz ht | exact gw_c hz hb1 hcp0 ht (gw_b hbk hq hcp0 x (by omega)) (by omega))
  exact L320 (N + 1 - 0) 0 0 (by omega) (by omega) rfl


