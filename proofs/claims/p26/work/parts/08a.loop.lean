theorem LI.sn {pl n dy sn sn' cap : Nat} {fm f3 : Nat → Int32} {B : Nat → Nat → Int32} (h : LI pl n dy sn cap fm f3 B) (hs : sn' ≤ 16) : LI pl n dy sn' cap fm f3 B := ⟨h.1, h.2.1, h.2.2.1, h.2.2.2.1, h.2.2.2.2.1, h.2.2.2.2.2.1, h.2.2.2.2.2.2.1, h.2.2.2.2.2.2.2.1, hs⟩
theorem LI.co {pl n dy sn cap kd N : Nat} {cp : Int32} {wq : Nat → Nat} {fm f3 : Nat → Int32} {B B2 : Nat → Nat → Int32} {tf tf2 : Nat → Int64} {l0 v0 : Int64} (h : LI pl n dy sn cap fm f3 B) (hc : CO n dy kd N cp wq B B2 tf tf2 l0 v0) : LI pl n dy sn cap fm f3 B2 := ⟨h.1, h.2.1, h.2.2.1, h.2.2.2.1, h.2.2.2.2.1, hc.1, fun j hj => (h.2.2.2.2.2.2.1 j hj).trans (hc.2.1 j).symm, h.2.2.2.2.2.2.2.1, h.2.2.2.2.2.2.2.2⟩
theorem dy_le {dy : Nat} (h : dy ≤ 240) : ¬ (240 : Int32) < nI dy := fun q => by
  have q1 := i32_lt.mp q
  rw [nI_toInt (by omega)] at q1
  have t : (240 : Int32).toInt = 240 := rfl
  omega

set_option maxHeartbeats 4000000 in
set_option maxRecDepth 100000 in
/-- the law's loop: at its head the bins' numbers are in their bounds -/
theorem law_loop {p : Program} {l : Launch} {e : Env} {s : State} {m : MethodId} {args : Array Value} {below : List Frame} {meth : Method} {c : Code} {Q : State → Prop} {A : Nat → Prop} {g : Gx} {b L : Nat} {xs : Nat → Int32} (h : CX p s m args meth c A g 26 cL_law wsL_law RL) (hlf : l.stackTraces = false) (hT : TH g SL3 A s s.heap) (hSx : SX b L xs A s s.heap) (hL : L ≤ 260) {a : Nat → Nat} {b9 pl n cap ed : Nat} {mc : Int32} {fm ft f3 : Nat → Int32} {ad : Nat → Nat} (hend : ∀ (lv : List (Nat × Value)) (W : va_W) (kc ks : Nat), kc ≤ 600104 → ks ≤ 7301314 → Z p l e room_1 s m args below meth c Q A g 26 698 lv [.int 1] W [] kc ks) : ∀ (fu i : Nat) (sn dy : Nat) (rf : Nat → Int32) (tf wf : Nat → Int64) (B : Nat → Nat → Int32), i ≤ 8 → 8 < fu + i → LI pl n dy sn cap fm f3 B → dy ≤ 30 * i → Z p l e room_1 s m args below meth c Q A g 26 44 [(0, .ref b), (1, .ref (a 0)), (2, .ref b9), (4, .int (nI n)), (5, .int (nI i))] [] ([(b9, .inl (g.2.1, 160, .inl f3)), (a 3, .inl (g.2.1, 10, .inl ft)), (a 6, .inl (g.2.2.1, 12, .inr (.inl tf))), (a 2, .inl (g.2.1, 100, .inl fm)), (a 1, .inr (2, [.ref (a 2), .ref (a 3), .int (nI pl)])), (a 5, .inl (g.2.2.2.1, 400, .inl (fun _ => 0))), (a 8, .inl (g.2.1, 16, .inl rf)), (a 7, .inl (g.2.2.1, 3, .inr (.inl wf))), (a 0, .inr (4, [.ref (a 1), .ref (a 4), .ref (a 5), .ref (a 6), .ref (a 7), .ref (a 8), .int (nI sn), .int (nI dy)])), (a 4, .inr (0, [.int mc, .ref ed, .int (nI n)]))] ++ bp g n ed cap ad B) [] (1000 + 400 * i) (5000 + 2400 * i) := by
  intro fu
  induction fu with
  | zero =>
    intro i sn dy rf tf wf B h1 h2
    exact absurd h2 (by omega)
  | succ fu ih =>
    intro i sn dy rf tf wf B hi hfu hI hdi
    obtain ⟨⟨hpl0, hpl⟩, hn, hcc, hcap, hfm, hbk, hsz, hdy, hs16⟩ := id hI
    refine z_iload h dL_law_44 4 rfl ?_
    refine z_bipush h (v := 8) dL_law_46 (by decide) ?_
    refine z_icmp_ge h (tgt := 683) dL_law_48 (by decide) (fun c_48 => ?_) (fun c_48 => ?_)
    · have he : 8 = i := by have := ge_t (a := i) (b := 8) c_48 (by omega) (by omega); omega
      refine z_aload_n h dL_law_683 rfl 1 rfl ?_
      refine z_Vi h (As := []) (st := []) (fun sz => m_X3_today l g a sn dy  sz) (cwV 0 h.ts gL_law_X3_today rfl rfl rfl (by decide +kernel) ⟨Nat.le_of_ble_eq_true rfl, Nat.le_of_ble_eq_true rfl⟩) rfl [] [8] rfl rfl rfl rfl 8 rfl rfl rfl rfl (Nat.le_of_ble_eq_true rfl) ⟨by show _ ≤ 600104; omega, by show _ ≤ 7301314; omega⟩ (fun _ => (Nat.le_of_ble_eq_true rfl)) (wN := fun u => ([(b9, .inl (g.2.1, 160, .inl f3)), (a 3, .inl (g.2.1, 10, .inl ft)), (a 6, .inl (g.2.2.1, 12, .inr (.inl tf))), (a 2, .inl (g.2.1, 100, .inl fm)), (a 1, .inr (2, [.ref (a 2), .ref (a 3), .int (nI pl)])), (a 5, .inl (g.2.2.2.1, 400, .inl (fun _ => 0))), (a 8, .inl (g.2.1, 16, .inl rf)), (a 7, .inl (g.2.2.1, 3, .inr (.inl wf))), (a 0, .inr (4, [.ref (a 1), .ref (a 4), .ref (a 5), .ref (a 6), .ref (a 7), .ref (a 8), .int (nI sn), .int (nI dy)])), (a 4, .inr (0, [.int mc, .ref ed, .int (nI n)]))] ++ bp g n ed cap ad B)) (fun _ => List.append_nil _) dL_law_684 (fun r_684 u_684 h_684 => ?_)
      refine z_topi (y := nI dy) h_684 ?_
      refine z_sipush h (v := 240) dL_law_687 (by decide) ?_
      refine z_icmp_gt h (tgt := 697) dL_law_690 (by decide) (fun c_690 => absurd c_690 (dy_le (by omega))) (fun c_690 => ?_)
      refine z_iconst h (v := 1) dL_law_693 (by decide) ?_
      refine z_goto h (tgt := 698) dL_law_694 (by decide) ?_
      exact hend _ _ _ _ (by omega) (by omega)
    · have hi8 : i < 8 := ge_f (a := i) (b := 8) c_48 (by omega) (by omega)
      refine lp_A h hlf hT hSx hL sn dy rf tf wf B _ _ (by omega) (by omega) hi8 hI hdi (fun xv kd N wq sn1 dy1 rf1 tf1 wf1 B1 hI1 hd1 hw => ?_)
      refine lp_B h hlf hT hSx hL sn1 dy1 rf1 tf1 wf1 B1 _ _ (by omega) (by omega) hI1 hw (fun wa ca ra xa na da wy ct rt lt wn di sn2 rf2 hs2 hrw => ?_)
      refine lp_C h hlf hT hSx hL sn2 dy1 rf2 tf1 wf1 B1 _ _ (by omega) (by omega) (hI1.sn hs2) hw (fun cp l0 v0 sn3 rf3 tf2 B2 hc0 hc1 hs3 hco => ?_)
      have hI4 := (hI1.co hco).sn hs3
      refine lp_D h hlf hT hSx hL sn3 dy1 rf3 tf1 wf1 B1 _ _ (by omega) (by omega) hI4 hI1.2.2.2.2.2.1 hw hrw hc0 hco (fun tk htk => ?_)
      refine lp_E h hlf hT hSx hL sn3 dy1 rf3 tf1 wf1 B2 _ _ (by omega) (by omega) hI4 hw.1 hw.2.1 hc0 hc1 hco.2.2.2.1 hco.2.2.2.2.1 (hco.2.2.2.2.2.1.trans htk.symm) hco.2.2.2.2.2.2.1 (by rw [htk]; exact hco.2.2.2.2.2.2.2) ?_
      refine lp_F h hlf hT hSx hL sn3 dy1 rf3 tf2 wf1 B2 _ _ (by omega) (by omega) hI4 ?_
      refine z_iinc h (v := nI (i + 1)) dL_law_677 (by decide) 4 rfl (by rw [show Int32.ofInt 1 = nI 1 from rfl, nI_add]) (lv' := [(0, .ref b), (1, .ref (a 0)), (2, .ref b9), (4, .int (nI n)), (5, .int (nI (i + 1)))]) [1, 2, 3, 4, 0] rfl ?_
      refine z_goto h (tgt := 44) dL_law_680 (by decide) ?_
      refine z_tail ?_
      refine z_tail ?_
      refine z_tail ?_
      refine z_tail ?_
      refine z_tail ?_
      refine z_tail ?_
      refine z_ws (wW' := ([(b9, .inl (g.2.1, 160, .inl f3)), (a 3, .inl (g.2.1, 10, .inl ft)), (a 6, .inl (g.2.2.1, 12, .inr (.inl tf2))), (a 2, .inl (g.2.1, 100, .inl fm)), (a 1, .inr (2, [.ref (a 2), .ref (a 3), .int (nI pl)])), (a 5, .inl (g.2.2.2.1, 400, .inl (fun _ => 0))), (a 8, .inl (g.2.1, 16, .inl rf3)), (a 7, .inl (g.2.2.1, 3, .inr (.inl wf1))), (a 0, .inr (4, [.ref (a 1), .ref (a 4), .ref (a 5), .ref (a 6), .ref (a 7), .ref (a 8), .int (nI sn3), .int (nI dy1)])), (a 4, .inr (0, [.int mc, .ref ed, .int (nI n)]))] ++ bp g n ed cap ad B2)) rfl rfl ?_
      refine z_widen (kc' := (1000 + 400 * (i + 1))) (ks' := (5000 + 2400 * (i + 1))) (by omega) (by omega) ?_
      exact ih (i + 1) sn3 dy1 rf3 tf2 wf1 B2 (by omega) (by omega) hI4 (by omega)


