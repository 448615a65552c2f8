theorem and31 (x : Int32) : ∃ k, k < 32 ∧ x &&& 31 = nI k := by
  refine ⟨(x &&& 31).toBitVec.toNat, ?_, ?_⟩
  · rw [Int32.toBitVec_and, BitVec.toNat_and]
    exact Nat.lt_of_le_of_lt Nat.and_le_right (by decide)
  · refine Int32.toBitVec_inj.mp ?_
    apply BitVec.eq_of_toNat_eq
    show _ = (BitVec.ofNat 32 _).toNat
    rw [BitVec.toNat_ofNat, Nat.mod_eq_of_lt (BitVec.isLt _)]
theorem lp_f {L i : Nat} (hL : L ≤ 2560) (hi : i ≤ L) (c : ¬ nI L - 5 < nI i) : i + 5 ≤ L := by
  have e1 : (nI L).toInt = (L : Int) := nI_toInt (by omega)
  have e2 : (nI i).toInt = (i : Int) := nI_toInt (by omega)
  have e5 : (5 : Int32).toInt = 5 := rfl
  have e3 : (nI L - 5).toInt = (L : Int) - 5 := by rw [i32_sub (by omega) (by omega), e1, e5]
  have c2 : ¬ (nI L - 5).toInt < (nI i).toInt := fun q => c (i32_lt.mpr q)
  omega
set_option maxHeartbeats 4000000 in
set_option maxRecDepth 100000 in
/-- the law's loop: at its head the model and the class hold the same -/
theorem law_loop {p : Program} {l : Launch} {e : Env} {s : State} {m : MethodId} {args : Array Value} {below : List Frame} {meth : Method} {c : Code} {Q : State → Prop} {A : Nat → Prop} {g : Gx} {b L : Nat} {xs : Nat → Int32} (h : CX p s m args meth c A g 9 cL_law wsL_law RL) (hlf : l.stackTraces = false) (hT : TH g SL3 A s s.heap) (hX : va_X b L xs s s.heap) (hbl : b < s.heap.size) (hbA : ¬ A b) (hL : L ≤ 2560) {cm a : Nat → Nat} {ou : Nat} (hend : ∀ (lv : List (Nat × Value)) (W : va_W) (kc ks : Nat), kc ≤ 601024 → ks ≤ 7293034 → Z p l e room_1 s m args below meth c Q A g 9 1484 lv [.int 1] W [] kc ks) : ∀ (fu i : Nat) (th : Int32) (pl : Nat) (dy : Nat) (n : Nat) (sn : Nat) (snm : Nat) (fm : Nat → Int32) (ft : Nat → Int32) (hf : Nat → Int32) (rf : Nat → Int32) (rfm : Nat → Int32) (tf : Nat → Int64) (wf : Nat → Int64) (ov : Nat → Int64) (mc : Int32) (ed : Nat) (cap : Nat) (ad : Nat → Nat) (B : Nat → Nat → Int32), i ≤ L → L < fu + i → INV g pl dy n sn ed cap fm ft hf B → Z p l e room_1 s m args below meth c Q A g 9 23 [(0, .ref b), (1, .ref (a 0)), (2, .ref (cm 0)), (3, .ref ou), (4, .int (nI i))] [] (LW g cm a ou th pl dy n sn snm fm ft hf rf rfm tf wf ov mc ed cap ad B) [] (60 + 20 * i) (2000 + 200 * i) := by
  intro fu
  induction fu with
  | zero =>
    intro i th pl dy n sn snm fm ft hf rf rfm tf wf ov mc ed cap ad B h1 h2
    exact absurd h2 (by omega)
  | succ fu ih =>
    intro i th pl dy n sn snm fm ft hf rf rfm tf wf ov mc ed cap ad B hi hfu hI
    refine z_iload h dL_law_23 4 rfl ?_
    refine z_aload_n h dL_law_25 rfl 0 rfl ?_
    refine z_slen h hX hbl hbA dL_law_26 ?_
    refine z_iconst h (v := 5) dL_law_27 (by decide) ?_
    refine z_isub h dL_law_28 ?_
    refine z_icmp_gt h (tgt := 1483) dL_law_29 (by decide) (fun c_29 => ?_) (fun c_29 => ?_)
    · refine z_iconst h (v := 1) dL_law_1483 (by decide) ?_
      exact hend _ _ _ _ (by omega) (by omega)
    · have hi5 := lp_f hL hi c_29
      have nx : ∀ (th : Int32) (pl : Nat) (dy : Nat) (n : Nat) (sn : Nat) (snm : Nat) (fm : Nat → Int32) (ft : Nat → Int32) (hf : Nat → Int32) (rf : Nat → Int32) (rfm : Nat → Int32) (tf : Nat → Int64) (wf : Nat → Int64) (ov : Nat → Int64) (mc : Int32) (ed : Nat) (cap : Nat) (ad : Nat → Nat) (B : Nat → Nat → Int32), INV g pl dy n sn ed cap fm ft hf B → Z p l e room_1 s m args below meth c Q A g 9 1477 [(0, .ref b), (1, .ref (a 0)), (2, .ref (cm 0)), (3, .ref ou), (4, .int (nI i))] [] (LW g cm a ou th pl dy n sn snm fm ft hf rf rfm tf wf ov mc ed cap ad B) [] (60 + 20 * (i + 5)) (2000 + 200 * (i + 5)) := by
        intro th pl dy n sn snm fm ft hf rf rfm tf wf ov mc ed cap ad B hI2
        refine z_iinc h (v := nI (i + 5)) dL_law_1477 (by decide) 4 rfl (by rw [show Int32.ofInt 5 = nI 5 from rfl, nI_add]) (lv' := [(0, .ref b), (1, .ref (a 0)), (2, .ref (cm 0)), (3, .ref ou), (4, .int (nI (i + 5)))]) [1, 2, 3, 4, 0] rfl ?_
        refine z_goto h (tgt := 23) dL_law_1480 (by decide) ?_
        exact ih (i + 5) th pl dy n sn snm fm ft hf rf rfm tf wf ov mc ed cap ad B (by omega) (by omega) hI2
      refine z_aload_n h dL_law_32 rfl 0 rfl ?_
      refine z_iload h dL_law_33 4 rfl ?_
      refine z_sld h hX hbl hbA (i := nI i) (vp_in_nI (by omega) (by omega)) dL_law_35 (v := xs i) (by rw [nI_clamp (by omega)]) ?_
      refine z_bipush h (v := 31) dL_law_36 (by decide) ?_
      refine z_iand h dL_law_38 ?_
      obtain ⟨k9, hk9, e9⟩ := and31 (xs i)
      refine z_topi (y := nI k9) e9 ?_
      rcases (show (k9 = 0 ∨ k9 = 1 ∨ k9 = 2 ∨ k9 = 3 ∨ k9 = 4 ∨ k9 = 5 ∨ k9 = 6 ∨ k9 = 7 ∨ k9 = 8 ∨ k9 = 9 ∨ k9 = 10 ∨ k9 = 11 ∨ k9 = 12 ∨ k9 = 13 ∨ k9 = 14 ∨ k9 = 15 ∨ k9 = 16 ∨ k9 = 17 ∨ k9 = 18 ∨ k9 = 19 ∨ k9 = 20 ∨ k9 = 21 ∨ k9 = 22) ∨ 23 ≤ k9 by omega) with (rfl | rfl | rfl | rfl | rfl | rfl | rfl | rfl | rfl | rfl | rfl | rfl | rfl | rfl | rfl | rfl | rfl | rfl | rfl | rfl | rfl | rfl | rfl) | hk
      · refine z_tableIn h (tgt := 144) dL_law_39 (by decide) (by decide) (off := 105) (by decide) (by decide) ?_
        exact lc_0 h hlf hT hX hbl hbA hL th pl dy n sn snm fm ft hf rf rfm tf wf ov mc ed cap ad B hi5 hI nx
      · refine z_tableIn h (tgt := 188) dL_law_39 (by decide) (by decide) (off := 149) (by decide) (by decide) ?_
        exact lc_1 h hlf hT hX hbl hbA hL th pl dy n sn snm fm ft hf rf rfm tf wf ov mc ed cap ad B hi5 hI nx
      · refine z_tableIn h (tgt := 268) dL_law_39 (by decide) (by decide) (off := 229) (by decide) (by decide) ?_
        exact lc_2 h hlf hT hX hbl hbA hL th pl dy n sn snm fm ft hf rf rfm tf wf ov mc ed cap ad B hi5 hI nx
      · refine z_tableIn h (tgt := 371) dL_law_39 (by decide) (by decide) (off := 332) (by decide) (by decide) ?_
        exact lc_3 h hlf hT hX hbl hbA hL th pl dy n sn snm fm ft hf rf rfm tf wf ov mc ed cap ad B hi5 hI nx
      · refine z_tableIn h (tgt := 462) dL_law_39 (by decide) (by decide) (off := 423) (by decide) (by decide) ?_
        exact lc_4 h hlf hT hX hbl hbA hL th pl dy n sn snm fm ft hf rf rfm tf wf ov mc ed cap ad B hi5 hI nx
      · refine z_tableIn h (tgt := 518) dL_law_39 (by decide) (by decide) (off := 479) (by decide) (by decide) ?_
        exact lc_5 h hlf hT hX hbl hbA hL th pl dy n sn snm fm ft hf rf rfm tf wf ov mc ed cap ad B hi5 hI nx
      · refine z_tableIn h (tgt := 531) dL_law_39 (by decide) (by decide) (off := 492) (by decide) (by decide) ?_
        exact lc_6 h hlf hT hX hbl hbA hL th pl dy n sn snm fm ft hf rf rfm tf wf ov mc ed cap ad B hi5 hI nx
      · refine z_tableIn h (tgt := 544) dL_law_39 (by decide) (by decide) (off := 505) (by decide) (by decide) ?_
        exact lc_7 h hlf hT hX hbl hbA hL th pl dy n sn snm fm ft hf rf rfm tf wf ov mc ed cap ad B hi5 hI nx
      · refine z_tableIn h (tgt := 636) dL_law_39 (by decide) (by decide) (off := 597) (by decide) (by decide) ?_
        exact lc_8 h hlf hT hX hbl hbA hL th pl dy n sn snm fm ft hf rf rfm tf wf ov mc ed cap ad B hi5 hI nx
      · refine z_tableIn h (tgt := 704) dL_law_39 (by decide) (by decide) (off := 665) (by decide) (by decide) ?_
        exact lc_9 h hlf hT hX hbl hbA hL th pl dy n sn snm fm ft hf rf rfm tf wf ov mc ed cap ad B hi5 hI nx
      · refine z_tableIn h (tgt := 767) dL_law_39 (by decide) (by decide) (off := 728) (by decide) (by decide) ?_
        exact lc_10 h hlf hT hX hbl hbA hL th pl dy n sn snm fm ft hf rf rfm tf wf ov mc ed cap ad B hi5 hI nx
      · refine z_tableIn h (tgt := 780) dL_law_39 (by decide) (by decide) (off := 741) (by decide) (by decide) ?_
        exact lc_11 h hlf hT hX hbl hbA hL th pl dy n sn snm fm ft hf rf rfm tf wf ov mc ed cap ad B hi5 hI nx
      · refine z_tableIn h (tgt := 848) dL_law_39 (by decide) (by decide) (off := 809) (by decide) (by decide) ?_
        exact lc_12 h hlf hT hX hbl hbA hL th pl dy n sn snm fm ft hf rf rfm tf wf ov mc ed cap ad B hi5 hI nx
      · refine z_tableIn h (tgt := 916) dL_law_39 (by decide) (by decide) (off := 877) (by decide) (by decide) ?_
        exact lc_13 h hlf hT hX hbl hbA hL th pl dy n sn snm fm ft hf rf rfm tf wf ov mc ed cap ad B hi5 hI nx
      · refine z_tableIn h (tgt := 972) dL_law_39 (by decide) (by decide) (off := 933) (by decide) (by decide) ?_
        exact lc_14 h hlf hT hX hbl hbA hL th pl dy n sn snm fm ft hf rf rfm tf wf ov mc ed cap ad B hi5 hI nx
      · refine z_tableIn h (tgt := 1028) dL_law_39 (by decide) (by decide) (off := 989) (by decide) (by decide) ?_
        exact lc_15 h hlf hT hX hbl hbA hL th pl dy n sn snm fm ft hf rf rfm tf wf ov mc ed cap ad B hi5 hI nx
      · refine z_tableIn h (tgt := 1096) dL_law_39 (by decide) (by decide) (off := 1057) (by decide) (by decide) ?_
        exact lc_16 h hlf hT hX hbl hbA hL th pl dy n sn snm fm ft hf rf rfm tf wf ov mc ed cap ad B hi5 hI nx
      · refine z_tableIn h (tgt := 1164) dL_law_39 (by decide) (by decide) (off := 1125) (by decide) (by decide) ?_
        exact lc_17 h hlf hT hX hbl hbA hL th pl dy n sn snm fm ft hf rf rfm tf wf ov mc ed cap ad B hi5 hI nx
      · refine z_tableIn h (tgt := 1232) dL_law_39 (by decide) (by decide) (off := 1193) (by decide) (by decide) ?_
        exact lc_18 h hlf hT hX hbl hbA hL th pl dy n sn snm fm ft hf rf rfm tf wf ov mc ed cap ad B hi5 hI nx
      · refine z_tableIn h (tgt := 1300) dL_law_39 (by decide) (by decide) (off := 1261) (by decide) (by decide) ?_
        exact lc_19 h hlf hT hX hbl hbA hL th pl dy n sn snm fm ft hf rf rfm tf wf ov mc ed cap ad B hi5 hI nx
      · refine z_tableIn h (tgt := 1367) dL_law_39 (by decide) (by decide) (off := 1328) (by decide) (by decide) ?_
        exact lc_20 h hlf hT hX hbl hbA hL th pl dy n sn snm fm ft hf rf rfm tf wf ov mc ed cap ad B hi5 hI nx
      · refine z_tableIn h (tgt := 1422) dL_law_39 (by decide) (by decide) (off := 1383) (by decide) (by decide) ?_
        exact lc_21 h hlf hT hX hbl hbA hL th pl dy n sn snm fm ft hf rf rfm tf wf ov mc ed cap ad B hi5 hI nx
      · refine z_tableIn h (tgt := 1463) dL_law_39 (by decide) (by decide) (off := 1424) (by decide) (by decide) ?_
        exact lc_22 h hlf hT hX hbl hbA hL th pl dy n sn snm fm ft hf rf rfm tf wf ov mc ed cap ad B hi5 hI nx
      · refine z_tableOut h (tgt := 1477) dL_law_39 (Or.inr (by rw [nI_toInt (by omega)]; omega)) (by decide) ?_
        refine z_widen (kc' := (60 + 20 * (i + 5))) (ks' := (2000 + 200 * (i + 5))) (by omega) (by omega) ?_
        exact nx th pl dy n sn snm fm ft hf rf rfm tf wf ov mc ed cap ad B hI


