def mrB (fm : Nat → Int32) (x : Nat) (d : Int64) : Nat → Int64
  | 0 => d
  | t + 1 => mrB fm x d t * 31 + (fm (x * 10 + (x + 1 + t))).toInt64
theorem mrB_s {fm : Nat → Int32} {x y : Nat} {d : Int64} (h : x + 1 ≤ y) : mrB fm x d (y + 1 - (x + 1)) = mrB fm x d (y - (x + 1)) * 31 + (fm (x * 10 + y)).toInt64 := by
  rw [show y + 1 - (x + 1) = (y - (x + 1)) + 1 by omega, mrB, show x + 1 + (y - (x + 1)) = y by omega]
def mrA (fm : Nat → Int32) (pl : Nat) (d : Int64) : Nat → Int64
  | 0 => d
  | x + 1 => mrB fm x (mrA fm pl d x) (pl - (x + 1))
def mrT (ft : Nat → Int32) (d : Int64) : Nat → Int64
  | 0 => d
  | q + 1 => mrT ft d q * 31 + (ft q).toInt64
def mixR (fm ft : Nat → Int32) (pl : Nat) (d : Int64) : Int64 := mrT ft (mrA fm pl (d * 31 + (nI pl).toInt64) pl) pl
def mbW (b : Nat → Int32) (d : Int64) : Nat → Int64
  | 0 => d
  | w + 1 => mbW b d w * 31 + (fct b w).toInt64
def mbA (B : Nat → Nat → Int32) (d : Int64) : Nat → Int64
  | 0 => d
  | i + 1 => mbW (B i) (mbA B d i) 8
def mixB (B : Nat → Nat → Int32) (n : Nat) (d : Int64) : Int64 := mbA B (d * 31 + (nI n).toInt64) n
def mtW (tf : Nat → Int64) (kd : Nat) (d : Int64) : Nat → Int64
  | 0 => d
  | w + 1 => mtW tf kd d w * 31 + tf (kd * 4 + w)
def mtA (tf wf : Nat → Int64) (d : Int64) : Nat → Int64
  | 0 => d
  | kd + 1 => mtW tf kd (mtA tf wf d kd) 4 * 31 + wf kd
def dgst (fm ft : Nat → Int32) (pl dy n : Nat) (B : Nat → Nat → Int32) (tf wf : Nat → Int64) : Int64 := mtA tf wf (mixB B n (mixR fm ft pl (197 * 31 + (nI dy).toInt64))) 3
theorem in_X3_mixRegion_X1 : ∀ w ∈ wsX10, w ∈ wsX3_mixRegion := by decide +kernel
theorem in_X3_mixRegion_X3 : ∀ w ∈ wsX30, w ∈ wsX3_mixRegion := by decide +kernel
theorem lk_X3_mixRegion_f12 : Cond.fieldLink RX3 12 (TX3 0).1 (TX3 0).2.1 (TX3 0).2.2.1 ∈ wsX3_mixRegion := by decide +kernel
theorem in_X3_mixBins_X3 : ∀ w ∈ wsX30, w ∈ wsX3_mixBins := by decide +kernel
theorem lk_X3_mixBins_cl113 : Cond.classLink RX3 113 RX0 ∈ wsX3_mixBins := by decide +kernel
theorem lk_X3_mixBins_f19 : Cond.fieldLink RX3 19 (TX3 1).1 (TX3 1).2.1 (TX3 1).2.2.1 ∈ wsX3_mixBins := by decide +kernel
theorem in_X3_mixTotals_X3 : ∀ w ∈ wsX30, w ∈ wsX3_mixTotals := by decide +kernel
theorem lk_X3_mixTotals_f27 : Cond.fieldLink RX3 27 (TX3 3).1 (TX3 3).2.1 (TX3 3).2.2.1 ∈ wsX3_mixTotals := by decide +kernel
theorem lk_X3_mixTotals_f31 : Cond.fieldLink RX3 31 (TX3 4).1 (TX3 4).2.1 (TX3 4).2.2.1 ∈ wsX3_mixTotals := by decide +kernel
theorem in_X3_digest_X3 : ∀ w ∈ wsX30, w ∈ wsX3_digest := by decide +kernel
theorem lk_X3_digest_c188 : Jvm.Cond.constantLong RX3 188 (197) ∈ wsX3_digest := by decide +kernel
theorem lk_X3_digest_f42 : Cond.fieldLink RX3 42 (TX3 7).1 (TX3 7).2.1 (TX3 7).2.2.1 ∈ wsX3_digest := by decide +kernel
abbrev rmX3_mixRegion : Room := { frames := 1, cells := 0, slots := 0, locals := 23 }
set_option maxHeartbeats 4000000 in
set_option maxRecDepth 100000 in
theorem m_X3_mixRegion (l : Launch) (g : Gx) (a : Nat → Nat) (sn : Nat) (dy : Nat) (pl : Nat) (fm : Nat → Int32) (ft : Nat → Int32) (d : Int64) (hpl : pl ≤ 10) (sz : Nat) : Met l yX3_mixRegion wsX3_mixRegion rmX3_mixRegion (PZ g [.ref (a 0), .long d] sz [] [(a 0, .inr (4, [.ref (a 1), .ref (a 4), .ref (a 5), .ref (a 6), .ref (a 7), .ref (a 8), .int (nI sn), .int (nI dy)])), (a 1, .inr (2, [.ref (a 2), .ref (a 3), .int (nI pl)])), (a 2, .inl (g.2.1, 100, .inl fm)), (a 3, .inl (g.2.1, 10, .inl ft))]) (va_Ql (fun (r : Int64) (_ : Unit) => r = mixR fm ft pl d) (BZ g [] sz (fun (u : Unit) => [])) (va_A [] sz)) 0 0 (va_A [] sz) := by
  refine z_open_l (cc := cX3_mixRegion) (maxL := 7) (own := RX3) (by decide) rfl rfl (Nat.le_of_ble_eq_true rfl) ?_
  intro p e s m args below meth c Q h hnm fin
  generalize hAe : va_A [] s.heap.size = A at h fin ⊢
  refine z_lve (lv' := [(0, .ref (a 0)), (1, .long d)]) rfl ?_
  refine z_lload_n h dX3_mixRegion_0 rfl 1 rfl ?_
  refine z_aload_n h dX3_mixRegion_1 rfl 0 rfl ?_
  refine z_get h in_X3_mixRegion_X3 0 rfl rfl 0 (by decide) lk_X3_mixRegion_f12 rfl dX3_mixRegion_2 ?_
  refine z_getN h in_X3_mixRegion_X1 1 rfl rfl 2 (by decide) (by decide) rfl dX3_mixRegion_5 ?_
  refine z_i2l h dX3_mixRegion_8 ?_
  refine z_Sl h (b := 0) (C := "") (As := [.long d, .long (Int32.toInt64 (nI pl))]) (st := []) (fun sz => m_X3_mix l g d (Int32.toInt64 (nI pl))  sz) (va_cwS 2 h.ts gX3_mixRegion_X3_mix rfl rfl rfl (by decide +kernel) ⟨Nat.le_of_ble_eq_true rfl, Nat.le_of_ble_eq_true rfl⟩) rfl [] [] rfl rfl rfl rfl rfl (Nat.le_of_ble_eq_true rfl) ⟨(Nat.le_of_ble_eq_true rfl), (Nat.le_of_ble_eq_true rfl)⟩ (fun _ => (Nat.le_of_ble_eq_true rfl)) (wN := fun u => []) (fun _ => rfl) dX3_mixRegion_9 (fun r_9 u_9 h_9 => ?_)
  refine z_topl (y := d * 31 + (nI pl).toInt64) h_9 ?_
  refine z_lstore_n h dX3_mixRegion_12 rfl (by decide) (lv' := [(0, .ref (a 0)), (1, .long d), (3, .long (d * 31 + (nI pl).toInt64))]) [1, 2, 0] rfl ?_
  refine z_iconst h (v := 0) dX3_mixRegion_13 (by decide) ?_
  refine z_istore h dX3_mixRegion_14 (by decide) (lv' := [(0, .ref (a 0)), (1, .long d), (3, .long (d * 31 + (nI pl).toInt64)), (5, .int 0)]) [1, 2, 3, 0] rfl ?_
  have L16 : ∀ (L16n x : Nat) (d0 : Int64), x ≤ pl → pl < L16n + x → d0 = mrA fm pl (d * 31 + (nI pl).toInt64) x → Z p l e rmX3_mixRegion s m args below meth c Q A g 7 16 [(0, .ref (a 0)), (1, .long d), (3, .long d0), (5, .int (nI x))] [] [] [(a 0, .inr (4, [.ref (a 1), .ref (a 4), .ref (a 5), .ref (a 6), .ref (a 7), .ref (a 8), .int (nI sn), .int (nI dy)])), (a 1, .inr (2, [.ref (a 2), .ref (a 3), .int (nI pl)])), (a 2, .inl (g.2.1, 100, .inl fm)), (a 3, .inl (g.2.1, 10, .inl ft))] 0 0 := by
    intro L16n
    induction L16n with
    | zero => intro x d0 hx hL16 e0; exact absurd hL16 (by omega)
    | succ L16n ihL16 =>
      intro x d0 hx hL16 e0
      refine z_iload h dX3_mixRegion_16 3 rfl ?_
      refine z_aload_n h dX3_mixRegion_18 rfl 0 rfl ?_
      refine z_get h in_X3_mixRegion_X3 0 rfl rfl 0 (by decide) lk_X3_mixRegion_f12 rfl dX3_mixRegion_19 ?_
      refine z_getN h in_X3_mixRegion_X1 1 rfl rfl 2 (by decide) (by decide) rfl dX3_mixRegion_22 ?_
      refine z_icmp_ge h (tgt := 75) dX3_mixRegion_25 (by decide) (fun c_25 => ?_) (fun c_25 => ?_)
      · have hx0 : x = pl := by have := ge_t (a := x) (b := pl) c_25 (by omega) (by omega); omega
        refine z_iconst h (v := 0) dX3_mixRegion_75 (by decide) ?_
        refine z_istore h dX3_mixRegion_76 (by decide) (lv' := [(0, .ref (a 0)), (1, .long d), (3, .long d0), (5, .int 0)]) [1, 2, 3, 0] rfl ?_
        have L78 : ∀ (L78n q : Nat) , q ≤ pl → pl < L78n + q → Z p l e rmX3_mixRegion s m args below meth c Q A g 7 78 [(0, .ref (a 0)), (1, .long d), (3, .long (mrT ft d0 q)), (5, .int (nI q))] [] [] [(a 0, .inr (4, [.ref (a 1), .ref (a 4), .ref (a 5), .ref (a 6), .ref (a 7), .ref (a 8), .int (nI sn), .int (nI dy)])), (a 1, .inr (2, [.ref (a 2), .ref (a 3), .int (nI pl)])), (a 2, .inl (g.2.1, 100, .inl fm)), (a 3, .inl (g.2.1, 10, .inl ft))] 0 0 := by
          intro L78n
          induction L78n with
          | zero => intro q  hq hL78 ; exact absurd hL78 (by omega)
          | succ L78n ihL78 =>
            intro q  hq hL78 
            refine z_iload h dX3_mixRegion_78 3 rfl ?_
            refine z_aload_n h dX3_mixRegion_80 rfl 0 rfl ?_
            refine z_get h in_X3_mixRegion_X3 0 rfl rfl 0 (by decide) lk_X3_mixRegion_f12 rfl dX3_mixRegion_81 ?_
            refine z_getN h in_X3_mixRegion_X1 1 rfl rfl 2 (by decide) (by decide) rfl dX3_mixRegion_84 ?_
            refine z_icmp_ge h (tgt := 112) dX3_mixRegion_87 (by decide) (fun c_87 => ?_) (fun c_87 => ?_)
            · have hxq : q = pl := by have := ge_t (a := q) (b := pl) c_87 (by omega) (by omega); omega
              refine z_lload_n h dX3_mixRegion_112 rfl 2 rfl ?_
              exact fin _ _ _ () _ _ _ _ dX3_mixRegion_113 (by rw [hxq, e0, hx0]; rfl) rfl (Nat.le_of_ble_eq_true rfl) (Nat.le_of_ble_eq_true rfl)
            · have hl2 : q < pl := ge_f (a := q) (b := pl) c_87 (by omega) (by omega)
              refine z_lload_n h dX3_mixRegion_90 rfl 2 rfl ?_
              refine z_aload_n h dX3_mixRegion_91 rfl 0 rfl ?_
              refine z_get h in_X3_mixRegion_X3 0 rfl rfl 0 (by decide) lk_X3_mixRegion_f12 rfl dX3_mixRegion_92 ?_
              refine z_getN h in_X3_mixRegion_X1 1 rfl rfl 1 (by decide) (by decide) rfl dX3_mixRegion_95 ?_
              refine z_iload h dX3_mixRegion_98 3 rfl ?_
              refine z_iald h 3 rfl (vp_in_nI (by omega) (by omega)) dX3_mixRegion_100 (v := ft q) (by rw [nI_clamp (by omega)]) ?_
              refine z_i2l h dX3_mixRegion_101 ?_
              refine z_Sl h (b := 0) (C := "") (As := [.long (mrT ft d0 q), .long (Int32.toInt64 (ft q))]) (st := []) (fun sz => m_X3_mix l g (mrT ft d0 q) (Int32.toInt64 (ft q))  sz) (va_cwS 2 h.ts gX3_mixRegion_X3_mix rfl rfl rfl (by decide +kernel) ⟨Nat.le_of_ble_eq_true rfl, Nat.le_of_ble_eq_true rfl⟩) rfl [] [] rfl rfl rfl rfl rfl (Nat.le_of_ble_eq_true rfl) ⟨(Nat.le_of_ble_eq_true rfl), (Nat.le_of_ble_eq_true rfl)⟩ (fun _ => (Nat.le_of_ble_eq_true rfl)) (wN := fun u => []) (fun _ => rfl) dX3_mixRegion_102 (fun r_102 u_102 h_102 => ?_)
              refine z_topl (y := mrT ft d0 q * 31 + (ft q).toInt64) h_102 ?_
              refine z_lstore_n h dX3_mixRegion_105 rfl (by decide) (lv' := [(0, .ref (a 0)), (1, .long d), (3, .long (mrT ft d0 q * 31 + (ft q).toInt64)), (5, .int (nI q))]) [1, 2, 0, 3] rfl ?_
              refine z_iinc h (v := nI (q + 1)) dX3_mixRegion_106 (by decide) 3 rfl (by rw [show Int32.ofInt 1 = nI 1 from rfl, nI_add]) (lv' := [(0, .ref (a 0)), (1, .long d), (3, .long (mrT ft d0 q * 31 + (ft q).toInt64)), (5, .int (nI (q + 1)))]) [1, 2, 3, 0] rfl ?_
              refine z_goto h (tgt := 78) dX3_mixRegion_109 (by decide) ?_
              exact ihL78 (q + 1)  (by omega) (by omega) 
        exact L78 (pl + 1 - 0) 0  (by omega) (by omega) 
      · have hl0 : x < pl := ge_f (a := x) (b := pl) c_25 (by omega) (by omega)
        refine z_iload h dX3_mixRegion_28 3 rfl ?_
        refine z_iconst h (v := 1) dX3_mixRegion_30 (by decide) ?_
        refine z_iadd h dX3_mixRegion_31 ?_
        refine z_topi (y := nI (x + 1)) (nI_1 x) ?_
        refine z_istore h dX3_mixRegion_32 (by decide) (lv' := [(0, .ref (a 0)), (1, .long d), (3, .long d0), (5, .int (nI x)), (6, .int (nI (x + 1)))]) [1, 2, 3, 4, 0] rfl ?_
        have L34 : ∀ (L34n y : Nat) (d1 : Int64), y ≤ pl → pl < L34n + y → x + 1 ≤ y → d1 = mrB fm x d0 (y - (x + 1)) → Z p l e rmX3_mixRegion s m args below meth c Q A g 7 34 [(0, .ref (a 0)), (1, .long d), (3, .long d1), (5, .int (nI x)), (6, .int (nI y))] [] [] [(a 0, .inr (4, [.ref (a 1), .ref (a 4), .ref (a 5), .ref (a 6), .ref (a 7), .ref (a 8), .int (nI sn), .int (nI dy)])), (a 1, .inr (2, [.ref (a 2), .ref (a 3), .int (nI pl)])), (a 2, .inl (g.2.1, 100, .inl fm)), (a 3, .inl (g.2.1, 10, .inl ft))] 0 0 := by
          intro L34n
          induction L34n with
          | zero => intro y d1 hy hL34 hxy e1; exact absurd hL34 (by omega)
          | succ L34n ihL34 =>
            intro y d1 hy hL34 hxy e1
            refine z_iload h dX3_mixRegion_34 4 rfl ?_
            refine z_aload_n h dX3_mixRegion_36 rfl 0 rfl ?_
            refine z_get h in_X3_mixRegion_X3 0 rfl rfl 0 (by decide) lk_X3_mixRegion_f12 rfl dX3_mixRegion_37 ?_
            refine z_getN h in_X3_mixRegion_X1 1 rfl rfl 2 (by decide) (by decide) rfl dX3_mixRegion_40 ?_
            refine z_icmp_ge h (tgt := 69) dX3_mixRegion_43 (by decide) (fun c_43 => ?_) (fun c_43 => ?_)
            · have hx1 : y = pl := by have := ge_t (a := y) (b := pl) c_43 (by omega) (by omega); omega
              refine z_iinc h (v := nI (x + 1)) dX3_mixRegion_69 (by decide) 3 rfl (by rw [show Int32.ofInt 1 = nI 1 from rfl, nI_add]) (lv' := [(0, .ref (a 0)), (1, .long d), (3, .long d1), (5, .int (nI (x + 1))), (6, .int (nI y))]) [1, 2, 3, 0, 4] rfl ?_
              refine z_goto h (tgt := 16) dX3_mixRegion_72 (by decide) ?_
              refine z_lv [0, 1, 2, 3] (lv' := [(0, .ref (a 0)), (1, .long d), (3, .long d1), (5, .int (nI (x + 1)))]) rfl ?_
              exact ihL16 (x + 1) d1 (by omega) (by omega) (by rw [mrA, ← e0, e1, hx1])
            · have hl1 : y < pl := ge_f (a := y) (b := pl) c_43 (by omega) (by omega)
              refine z_lload_n h dX3_mixRegion_46 rfl 2 rfl ?_
              refine z_aload_n h dX3_mixRegion_47 rfl 0 rfl ?_
              refine z_get h in_X3_mixRegion_X3 0 rfl rfl 0 (by decide) lk_X3_mixRegion_f12 rfl dX3_mixRegion_48 ?_
              refine z_iload h dX3_mixRegion_51 3 rfl ?_
              refine z_iload h dX3_mixRegion_53 4 rfl ?_
              refine z_Vi h (As := [.int (nI x), .int (nI y)]) (st := [.long d1]) (fun sz => m_X1_between l g (a 1) (a 2) (a 3) pl fm x y (by omega) (by omega) sz) (cwV 2 h.ts gX3_mixRegion_X1_between rfl rfl rfl (by decide +kernel) ⟨Nat.le_of_ble_eq_true rfl, Nat.le_of_ble_eq_true rfl⟩) rfl [] [1, 2] rfl rfl rfl rfl 1 rfl rfl rfl rfl (Nat.le_of_ble_eq_true rfl) ⟨(Nat.le_of_ble_eq_true rfl), (Nat.le_of_ble_eq_true rfl)⟩ (fun _ => (Nat.le_of_ble_eq_true rfl)) (wN := fun u => []) (fun _ => rfl) dX3_mixRegion_55 (fun r_55 u_55 h_55 => ?_)
              refine z_topi (y := fm (x * 10 + y)) h_55 ?_
              refine z_i2l h dX3_mixRegion_58 ?_
              refine z_Sl h (b := 0) (C := "") (As := [.long d1, .long (Int32.toInt64 (fm (x * 10 + y)))]) (st := []) (fun sz => m_X3_mix l g d1 (Int32.toInt64 (fm (x * 10 + y)))  sz) (va_cwS 2 h.ts gX3_mixRegion_X3_mix rfl rfl rfl (by decide +kernel) ⟨Nat.le_of_ble_eq_true rfl, Nat.le_of_ble_eq_true rfl⟩) rfl [] [] rfl rfl rfl rfl rfl (Nat.le_of_ble_eq_true rfl) ⟨(Nat.le_of_ble_eq_true rfl), (Nat.le_of_ble_eq_true rfl)⟩ (fun _ => (Nat.le_of_ble_eq_true rfl)) (wN := fun u => []) (fun _ => rfl) dX3_mixRegion_59 (fun r_59 u_59 h_59 => ?_)
              refine z_topl (y := d1 * 31 + (fm (x * 10 + y)).toInt64) h_59 ?_
              refine z_lstore_n h dX3_mixRegion_62 rfl (by decide) (lv' := [(0, .ref (a 0)), (1, .long d), (3, .long (d1 * 31 + (fm (x * 10 + y)).toInt64)), (5, .int (nI x)), (6, .int (nI y))]) [1, 2, 0, 3, 4] rfl ?_
              refine z_iinc h (v := nI (y + 1)) dX3_mixRegion_63 (by decide) 4 rfl (by rw [show Int32.ofInt 1 = nI 1 from rfl, nI_add]) (lv' := [(0, .ref (a 0)), (1, .long d), (3, .long (d1 * 31 + (fm (x * 10 + y)).toInt64)), (5, .int (nI x)), (6, .int (nI (y + 1)))]) [1, 2, 3, 4, 0] rfl ?_
              refine z_goto h (tgt := 34) dX3_mixRegion_66 (by decide) ?_
              exact ihL34 (y + 1) (d1 * 31 + (fm (x * 10 + y)).toInt64) (by omega) (by omega) (by omega) (by rw [mrB_s hxy, ← e1])
        exact L34 (pl + 1 - (x + 1)) (x + 1) d0 (by omega) (by omega) (Nat.le_refl _) (by rw [Nat.sub_self]; rfl)
  exact L16 (pl + 1 - 0) 0 (d * 31 + (nI pl).toInt64) (by omega) (by omega) rfl
abbrev rmX3_mixBins : Room := { frames := 3, cells := 0, slots := 0, locals := 64 }
set_option maxHeartbeats 4000000 in
set_option maxRecDepth 100000 in
theorem m_X3_mixBins (l : Launch) (g : Gx) (a : Nat → Nat) (sn : Nat) (dy : Nat) (mc : Int32) (ed : Nat) (n : Nat) (cap : Nat) (ad : Nat → Nat) (B : Nat → Nat → Int32) (d : Int64) (hn : n ≤ 16) (hc : n ≤ cap) (hcap : cap ≤ 26) (sz : Nat) : Met l yX3_mixBins wsX3_mixBins rmX3_mixBins (PZ g [.ref (a 0), .long d] sz ([(a 0, .inr (4, [.ref (a 1), .ref (a 4), .ref (a 5), .ref (a 6), .ref (a 7), .ref (a 8), .int (nI sn), .int (nI dy)])), (a 4, .inr (0, [.int mc, .ref ed, .int (nI n)]))] ++ bp g n ed cap ad B) []) (va_Ql (fun (r : Int64) (_ : Unit) => r = mixB B n d) (BZ g ([(a 0, .inr (4, [.ref (a 1), .ref (a 4), .ref (a 5), .ref (a 6), .ref (a 7), .ref (a 8), .int (nI sn), .int (nI dy)])), (a 4, .inr (0, [.int mc, .ref ed, .int (nI n)]))] ++ bp g n ed cap ad B) sz (fun (u : Unit) => ([(a 0, .inr (4, [.ref (a 1), .ref (a 4), .ref (a 5), .ref (a 6), .ref (a 7), .ref (a 8), .int (nI sn), .int (nI dy)])), (a 4, .inr (0, [.int mc, .ref ed, .int (nI n)]))] ++ bp g n ed cap ad B))) (va_A ([(a 0, .inr (4, [.ref (a 1), .ref (a 4), .ref (a 5), .ref (a 6), .ref (a 7), .ref (a 8), .int (nI sn), .int (nI dy)])), (a 4, .inr (0, [.int mc, .ref ed, .int (nI n)]))] ++ bp g n ed cap ad B) sz)) 0 0 (va_A ([(a 0, .inr (4, [.ref (a 1), .ref (a 4), .ref (a 5), .ref (a 6), .ref (a 7), .ref (a 8), .int (nI sn), .int (nI dy)])), (a 4, .inr (0, [.int mc, .ref ed, .int (nI n)]))] ++ bp g n ed cap ad B) sz) := by
  refine z_open_l (cc := cX3_mixBins) (maxL := 7) (own := RX3) (by decide) rfl rfl (Nat.le_of_ble_eq_true rfl) ?_
  intro p e s m args below meth c Q h hnm fin
  generalize hAe : va_A ([(a 0, .inr (4, [.ref (a 1), .ref (a 4), .ref (a 5), .ref (a 6), .ref (a 7), .ref (a 8), .int (nI sn), .int (nI dy)])), (a 4, .inr (0, [.int mc, .ref ed, .int (nI n)]))] ++ bp g n ed cap ad B) s.heap.size = A at h fin ⊢
  refine z_lve (lv' := [(0, .ref (a 0)), (1, .long d)]) rfl ?_
  refine z_lload_n h dX3_mixBins_0 rfl 1 rfl ?_
  refine z_aload_n h dX3_mixBins_1 rfl 0 rfl ?_
  refine z_get h in_X3_mixBins_X3 0 rfl rfl 1 (by decide) lk_X3_mixBins_f19 rfl dX3_mixBins_2 ?_
  refine z_Vi h (As := []) (st := [.long d]) (fun sz => m_Jx4a65c_size_8abf5 l g (a 4) mc ed n  sz) (cwV 0 h.ts gX3_mixBins_Jx4a65c_size_8abf5 rfl rfl rfl (by decide +kernel) ⟨Nat.le_of_ble_eq_true rfl, Nat.le_of_ble_eq_true rfl⟩) rfl [] [1] rfl rfl rfl rfl 1 rfl rfl rfl rfl (Nat.le_of_ble_eq_true rfl) ⟨(Nat.le_of_ble_eq_true rfl), (Nat.le_of_ble_eq_true rfl)⟩ (fun _ => (Nat.le_of_ble_eq_true rfl)) (wN := fun u => ([(a 0, .inr (4, [.ref (a 1), .ref (a 4), .ref (a 5), .ref (a 6), .ref (a 7), .ref (a 8), .int (nI sn), .int (nI dy)])), (a 4, .inr (0, [.int mc, .ref ed, .int (nI n)]))] ++ bp g n ed cap ad B)) (fun _ => List.append_nil _) dX3_mixBins_5 (fun r_5 u_5 h_5 => ?_)
  refine z_topi (y := nI n) h_5 ?_
  refine z_i2l h dX3_mixBins_8 ?_
  refine z_Sl h (b := 0) (C := "") (As := [.long d, .long (Int32.toInt64 (nI n))]) (st := []) (fun sz => m_X3_mix l g d (Int32.toInt64 (nI n))  sz) (va_cwS 2 h.ts gX3_mixBins_X3_mix rfl rfl rfl (by decide +kernel) ⟨Nat.le_of_ble_eq_true rfl, Nat.le_of_ble_eq_true rfl⟩) rfl [] [] rfl rfl rfl rfl rfl (Nat.le_of_ble_eq_true rfl) ⟨(Nat.le_of_ble_eq_true rfl), (Nat.le_of_ble_eq_true rfl)⟩ (fun _ => (Nat.le_of_ble_eq_true rfl)) (wN := fun u => ([(a 0, .inr (4, [.ref (a 1), .ref (a 4), .ref (a 5), .ref (a 6), .ref (a 7), .ref (a 8), .int (nI sn), .int (nI dy)])), (a 4, .inr (0, [.int mc, .ref ed, .int (nI n)]))] ++ bp g n ed cap ad B)) (fun _ => List.append_nil _) dX3_mixBins_9 (fun r_9 u_9 h_9 => ?_)
  refine z_topl (y := d * 31 + (nI n).toInt64) h_9 ?_
  refine z_lstore_n h dX3_mixBins_12 rfl (by decide) (lv' := [(0, .ref (a 0)), (1, .long d), (3, .long (d * 31 + (nI n).toInt64))]) [1, 2, 0] rfl ?_
  refine z_iconst h (v := 0) dX3_mixBins_13 (by decide) ?_
  refine z_istore h dX3_mixBins_14 (by decide) (lv' := [(0, .ref (a 0)), (1, .long d), (3, .long (d * 31 + (nI n).toInt64)), (5, .int 0)]) [1, 2, 3, 0] rfl ?_
  have L16 : ∀ (L16n i : Nat) , i ≤ n → n < L16n + i → Z p l e rmX3_mixBins s m args below meth c Q A g 7 16 [(0, .ref (a 0)), (1, .long d), (3, .long (mbA B (d * 31 + (nI n).toInt64) i)), (5, .int (nI i))] [] ([(a 0, .inr (4, [.ref (a 1), .ref (a 4), .ref (a 5), .ref (a 6), .ref (a 7), .ref (a 8), .int (nI sn), .int (nI dy)])), (a 4, .inr (0, [.int mc, .ref ed, .int (nI n)]))] ++ bp g n ed cap ad B) [] 0 0 := by
    intro L16n
    induction L16n with
    | zero => intro i  hi hL16 ; exact absurd hL16 (by omega)
    | succ L16n ihL16 =>
      intro i  hi hL16 
      refine z_iload h dX3_mixBins_16 3 rfl ?_
      refine z_aload_n h dX3_mixBins_18 rfl 0 rfl ?_
      refine z_get h in_X3_mixBins_X3 0 rfl rfl 1 (by decide) lk_X3_mixBins_f19 rfl dX3_mixBins_19 ?_
      refine z_Vi h (As := []) (st := [.int (nI i)]) (fun sz => m_Jx4a65c_size_8abf5 l g (a 4) mc ed n  sz) (cwV 0 h.ts gX3_mixBins_Jx4a65c_size_8abf5 rfl rfl rfl (by decide +kernel) ⟨Nat.le_of_ble_eq_true rfl, Nat.le_of_ble_eq_true rfl⟩) rfl [] [1] rfl rfl rfl rfl 1 rfl rfl rfl rfl (Nat.le_of_ble_eq_true rfl) ⟨(Nat.le_of_ble_eq_true rfl), (Nat.le_of_ble_eq_true rfl)⟩ (fun _ => (Nat.le_of_ble_eq_true rfl)) (wN := fun u => ([(a 0, .inr (4, [.ref (a 1), .ref (a 4), .ref (a 5), .ref (a 6), .ref (a 7), .ref (a 8), .int (nI sn), .int (nI dy)])), (a 4, .inr (0, [.int mc, .ref ed, .int (nI n)]))] ++ bp g n ed cap ad B)) (fun _ => List.append_nil _) dX3_mixBins_22 (fun r_22 u_22 h_22 => ?_)
      refine z_topi (y := nI n) h_22 ?_
      refine z_icmp_ge h (tgt := 73) dX3_mixBins_25 (by decide) (fun c_25 => ?_) (fun c_25 => ?_)
      · have hx0 : i = n := by have := ge_t (a := i) (b := n) c_25 (by omega) (by omega); omega
        refine z_lload_n h dX3_mixBins_73 rfl 2 rfl ?_
        exact fin _ _ _ () _ _ _ _ dX3_mixBins_74 (by rw [hx0]; rfl) rfl (Nat.le_of_ble_eq_true rfl) (Nat.le_of_ble_eq_true rfl)
      · have hi : i < n := ge_f (a := i) (b := n) c_25 (by omega) (by omega)
        refine z_iconst h (v := 0) dX3_mixBins_28 (by decide) ?_
        refine z_istore h dX3_mixBins_29 (by decide) (lv' := [(0, .ref (a 0)), (1, .long d), (3, .long (mbA B (d * 31 + (nI n).toInt64) i)), (5, .int (nI i)), (6, .int 0)]) [1, 2, 3, 4, 0] rfl ?_
        have L31 : ∀ (L31n w : Nat) , w ≤ 8 → 8 < L31n + w → Z p l e rmX3_mixBins s m args below meth c Q A g 7 31 [(0, .ref (a 0)), (1, .long d), (3, .long (mbW (B i) (mbA B (d * 31 + (nI n).toInt64) i) w)), (5, .int (nI i)), (6, .int (nI w))] [] ([(a 0, .inr (4, [.ref (a 1), .ref (a 4), .ref (a 5), .ref (a 6), .ref (a 7), .ref (a 8), .int (nI sn), .int (nI dy)])), (a 4, .inr (0, [.int mc, .ref ed, .int (nI n)]))] ++ bp g n ed cap ad B) [] 0 0 := by
          intro L31n
          induction L31n with
          | zero => intro w  hw hL31 ; exact absurd hL31 (by omega)
          | succ L31n ihL31 =>
            intro w  hw hL31 
            refine z_iload h dX3_mixBins_31 4 rfl ?_
            refine z_bipush h (v := 8) dX3_mixBins_33 (by decide) ?_
            refine z_icmp_ge h (tgt := 67) dX3_mixBins_35 (by decide) (fun c_35 => ?_) (fun c_35 => ?_)
            · have hx1 : w = 8 := by have := ge_t (a := w) (b := 8) c_35 (by omega) (by omega); omega
              subst hx1
              refine z_iinc h (v := nI (i + 1)) dX3_mixBins_67 (by decide) 3 rfl (by rw [show Int32.ofInt 1 = nI 1 from rfl, nI_add]) (lv' := [(0, .ref (a 0)), (1, .long d), (3, .long (mbW (B i) (mbA B (d * 31 + (nI n).toInt64) i) 8)), (5, .int (nI (i + 1))), (6, .int (nI 8))]) [1, 2, 3, 0, 4] rfl ?_
              refine z_goto h (tgt := 16) dX3_mixBins_70 (by decide) ?_
              refine z_lv [0, 1, 2, 3] (lv' := [(0, .ref (a 0)), (1, .long d), (3, .long (mbW (B i) (mbA B (d * 31 + (nI n).toInt64) i) 8)), (5, .int (nI (i + 1)))]) rfl ?_
              exact ihL16 (i + 1)  (by omega) (by omega) 
            · have hl1 : w < 8 := ge_f (a := w) (b := 8) c_35 (by omega) (by omega)
              refine z_lload_n h dX3_mixBins_38 rfl 2 rfl ?_
              refine z_aload_n h dX3_mixBins_39 rfl 0 rfl ?_
              refine z_get h in_X3_mixBins_X3 0 rfl rfl 1 (by decide) lk_X3_mixBins_f19 rfl dX3_mixBins_40 ?_
              refine z_iload h dX3_mixBins_43 3 rfl ?_
              refine z_Vr h (As := [.int (nI i)]) (st := [.long (mbW (B i) (mbA B (d * 31 + (nI n).toInt64) i) w)]) (fun sz => m_Jx4a65c_get_915e3 l g (a 4) mc ed n cap ad i hi hc (by omega) sz) (cwV 1 h.ts gX3_mixBins_Jx4a65c_get_915e3 rfl rfl rfl (by decide +kernel) ⟨Nat.le_of_ble_eq_true rfl, Nat.le_of_ble_eq_true rfl⟩) rfl [] [1, 2] (lc rfl (lc (bp_elW (by omega)) rfl)) rfl rfl rfl 1 rfl rfl rfl rfl (Nat.le_of_ble_eq_true rfl) ⟨(Nat.le_of_ble_eq_true rfl), (Nat.le_of_ble_eq_true rfl)⟩ (fun _ => (Nat.le_of_ble_eq_true rfl)) (wN := fun u => ([(a 0, .inr (4, [.ref (a 1), .ref (a 4), .ref (a 5), .ref (a 6), .ref (a 7), .ref (a 8), .int (nI sn), .int (nI dy)])), (a 4, .inr (0, [.int mc, .ref ed, .int (nI n)]))] ++ bp g n ed cap ad B)) (fun _ => List.append_nil _) dX3_mixBins_45 (fun u_45 h_45 => ?_)
              refine z_cast h lk_X3_mixBins_cl113 (2 + (i + 1)) (bp_atW (by omega)) rfl dX3_mixBins_48 ?_
              refine z_iload h dX3_mixBins_51 4 rfl ?_
              refine z_Vi h (As := [.int (nI w)]) (st := [.long (mbW (B i) (mbA B (d * 31 + (nI n).toInt64) i) w)]) (fun sz => m_X0_fact l g (ad i) (B i) w hl1 sz) (cwV 1 h.ts gX3_mixBins_X0_fact rfl rfl rfl (by decide +kernel) ⟨Nat.le_of_ble_eq_true rfl, Nat.le_of_ble_eq_true rfl⟩) rfl [] [(2 + (i + 1))] (lc (bp_atW (by omega)) rfl) rfl (by simp [va_nd]; try omega) (by simp [va_nd]) (2 + (i + 1)) (bp_atW (by omega)) rfl rfl rfl (Nat.le_of_ble_eq_true rfl) ⟨(Nat.le_of_ble_eq_true rfl), (Nat.le_of_ble_eq_true rfl)⟩ (fun _ => (Nat.le_of_ble_eq_true rfl)) (wN := fun u => ([(a 0, .inr (4, [.ref (a 1), .ref (a 4), .ref (a 5), .ref (a 6), .ref (a 7), .ref (a 8), .int (nI sn), .int (nI dy)])), (a 4, .inr (0, [.int mc, .ref ed, .int (nI n)]))] ++ bp g n ed cap ad B)) (fun _ => List.append_nil _) dX3_mixBins_53 (fun r_53 u_53 h_53 => ?_)
              refine z_topi (y := fct (B i) w) h_53 ?_
              refine z_i2l h dX3_mixBins_56 ?_
              refine z_Sl h (b := 0) (C := "") (As := [.long (mbW (B i) (mbA B (d * 31 + (nI n).toInt64) i) w), .long (Int32.toInt64 (fct (B i) w))]) (st := []) (fun sz => m_X3_mix l g (mbW (B i) (mbA B (d * 31 + (nI n).toInt64) i) w) (Int32.toInt64 (fct (B i) w))  sz) (va_cwS 2 h.ts gX3_mixBins_X3_mix rfl rfl rfl (by decide +kernel) ⟨Nat.le_of_ble_eq_true rfl, Nat.le_of_ble_eq_true rfl⟩) rfl [] [] rfl rfl rfl rfl rfl (Nat.le_of_ble_eq_true rfl) ⟨(Nat.le_of_ble_eq_true rfl), (Nat.le_of_ble_eq_true rfl)⟩ (fun _ => (Nat.le_of_ble_eq_true rfl)) (wN := fun u => ([(a 0, .inr (4, [.ref (a 1), .ref (a 4), .ref (a 5), .ref (a 6), .ref (a 7), .ref (a 8), .int (nI sn), .int (nI dy)])), (a 4, .inr (0, [.int mc, .ref ed, .int (nI n)]))] ++ bp g n ed cap ad B)) (fun _ => List.append_nil _) dX3_mixBins_57 (fun r_57 u_57 h_57 => ?_)
              refine z_topl (y := mbW (B i) (mbA B (d * 31 + (nI n).toInt64) i) w * 31 + (fct (B i) w).toInt64) h_57 ?_
              refine z_lstore_n h dX3_mixBins_60 rfl (by decide) (lv' := [(0, .ref (a 0)), (1, .long d), (3, .long (mbW (B i) (mbA B (d * 31 + (nI n).toInt64) i) w * 31 + (fct (B i) w).toInt64)), (5, .int (nI i)), (6, .int (nI w))]) [1, 2, 0, 3, 4] rfl ?_
              refine z_iinc h (v := nI (w + 1)) dX3_mixBins_61 (by decide) 4 rfl (by rw [show Int32.ofInt 1 = nI 1 from rfl, nI_add]) (lv' := [(0, .ref (a 0)), (1, .long d), (3, .long (mbW (B i) (mbA B (d * 31 + (nI n).toInt64) i) w * 31 + (fct (B i) w).toInt64)), (5, .int (nI i)), (6, .int (nI (w + 1)))]) [1, 2, 3, 4, 0] rfl ?_
              refine z_goto h (tgt := 31) dX3_mixBins_64 (by decide) ?_
              exact ihL31 (w + 1)  (by omega) (by omega) 
        exact L31 (8 + 1 - 0) 0  (by omega) (by omega) 
  exact L16 (n + 1 - 0) 0  (by omega) (by omega) 
abbrev rmX3_mixTotals : Room := { frames := 1, cells := 0, slots := 0, locals := 23 }
set_option maxHeartbeats 4000000 in
set_option maxRecDepth 100000 in
theorem m_X3_mixTotals (l : Launch) (g : Gx) (a : Nat → Nat) (sn : Nat) (dy : Nat) (tf : Nat → Int64) (wf : Nat → Int64) (d : Int64)  (sz : Nat) : Met l yX3_mixTotals wsX3_mixTotals rmX3_mixTotals (PZ g [.ref (a 0), .long d] sz [] [(a 0, .inr (4, [.ref (a 1), .ref (a 4), .ref (a 5), .ref (a 6), .ref (a 7), .ref (a 8), .int (nI sn), .int (nI dy)])), (a 6, .inl (g.2.2.1, 12, .inr (.inl tf))), (a 7, .inl (g.2.2.1, 3, .inr (.inl wf)))]) (va_Ql (fun (r : Int64) (_ : Unit) => r = mtA tf wf d 3) (BZ g [] sz (fun (u : Unit) => [])) (va_A [] sz)) 0 0 (va_A [] sz) := by
  refine z_open_l (cc := cX3_mixTotals) (maxL := 7) (own := RX3) (by decide) rfl rfl (Nat.le_of_ble_eq_true rfl) ?_
  intro p e s m args below meth c Q h hnm fin
  generalize hAe : va_A [] s.heap.size = A at h fin ⊢
  refine z_lve (lv' := [(0, .ref (a 0)), (1, .long d)]) rfl ?_
  refine z_lload_n h dX3_mixTotals_0 rfl 1 rfl ?_
  refine z_lstore_n h dX3_mixTotals_1 rfl (by decide) (lv' := [(0, .ref (a 0)), (1, .long d), (3, .long d)]) [1, 2, 0] rfl ?_
  refine z_iconst h (v := 0) dX3_mixTotals_2 (by decide) ?_
  refine z_istore h dX3_mixTotals_3 (by decide) (lv' := [(0, .ref (a 0)), (1, .long d), (3, .long d), (5, .int 0)]) [1, 2, 3, 0] rfl ?_
  have L5 : ∀ (L5n kd : Nat) , kd ≤ 3 → 3 < L5n + kd → Z p l e rmX3_mixTotals s m args below meth c Q A g 7 5 [(0, .ref (a 0)), (1, .long d), (3, .long (mtA tf wf d kd)), (5, .int (nI kd))] [] [] [(a 0, .inr (4, [.ref (a 1), .ref (a 4), .ref (a 5), .ref (a 6), .ref (a 7), .ref (a 8), .int (nI sn), .int (nI dy)])), (a 6, .inl (g.2.2.1, 12, .inr (.inl tf))), (a 7, .inl (g.2.2.1, 3, .inr (.inl wf)))] 0 0 := by
    intro L5n
    induction L5n with
    | zero => intro kd  hkd hL5 ; exact absurd hL5 (by omega)
    | succ L5n ihL5 =>
      intro kd  hkd hL5 
      refine z_iload h dX3_mixTotals_5 3 rfl ?_
      refine z_iconst h (v := 3) dX3_mixTotals_7 (by decide) ?_
      refine z_icmp_ge h (tgt := 61) dX3_mixTotals_8 (by decide) (fun c_8 => ?_) (fun c_8 => ?_)
      · have hx0 : kd = 3 := by have := ge_t (a := kd) (b := 3) c_8 (by omega) (by omega); omega
        refine z_lload_n h dX3_mixTotals_61 rfl 2 rfl ?_
        exact fin _ _ _ () _ _ _ _ dX3_mixTotals_62 (by rw [hx0]) rfl (Nat.le_of_ble_eq_true rfl) (Nat.le_of_ble_eq_true rfl)
      · have hl0 : kd < 3 := ge_f (a := kd) (b := 3) c_8 (by omega) (by omega)
        refine z_iconst h (v := 0) dX3_mixTotals_11 (by decide) ?_
        refine z_istore h dX3_mixTotals_12 (by decide) (lv' := [(0, .ref (a 0)), (1, .long d), (3, .long (mtA tf wf d kd)), (5, .int (nI kd)), (6, .int 0)]) [1, 2, 3, 4, 0] rfl ?_
        have L14 : ∀ (L14n w : Nat) , w ≤ 4 → 4 < L14n + w → Z p l e rmX3_mixTotals s m args below meth c Q A g 7 14 [(0, .ref (a 0)), (1, .long d), (3, .long (mtW tf kd (mtA tf wf d kd) w)), (5, .int (nI kd)), (6, .int (nI w))] [] [] [(a 0, .inr (4, [.ref (a 1), .ref (a 4), .ref (a 5), .ref (a 6), .ref (a 7), .ref (a 8), .int (nI sn), .int (nI dy)])), (a 6, .inl (g.2.2.1, 12, .inr (.inl tf))), (a 7, .inl (g.2.2.1, 3, .inr (.inl wf)))] 0 0 := by
          intro L14n
          induction L14n with
          | zero => intro w  hw hL14 ; exact absurd hL14 (by omega)
          | succ L14n ihL14 =>
            intro w  hw hL14 
            refine z_iload h dX3_mixTotals_14 4 rfl ?_
            refine z_iconst h (v := 4) dX3_mixTotals_16 (by decide) ?_
            refine z_icmp_ge h (tgt := 43) dX3_mixTotals_17 (by decide) (fun c_17 => ?_) (fun c_17 => ?_)
            · have hx1 : w = 4 := by have := ge_t (a := w) (b := 4) c_17 (by omega) (by omega); omega
              subst hx1
              refine z_lload_n h dX3_mixTotals_43 rfl 2 rfl ?_
              refine z_aload_n h dX3_mixTotals_44 rfl 0 rfl ?_
              refine z_get h in_X3_mixTotals_X3 0 rfl rfl 4 (by decide) lk_X3_mixTotals_f31 rfl dX3_mixTotals_45 ?_
              refine z_iload h dX3_mixTotals_48 3 rfl ?_
              refine z_lald h 2 rfl (vp_in_nI (by omega) (by omega)) dX3_mixTotals_50 (v := wf kd) (by rw [nI_clamp (by omega)]) ?_
              refine z_Sl h (b := 0) (C := "") (As := [.long (mtW tf kd (mtA tf wf d kd) 4), .long (wf kd)]) (st := []) (fun sz => m_X3_mix l g (mtW tf kd (mtA tf wf d kd) 4) (wf kd)  sz) (va_cwS 2 h.ts gX3_mixTotals_X3_mix rfl rfl rfl (by decide +kernel) ⟨Nat.le_of_ble_eq_true rfl, Nat.le_of_ble_eq_true rfl⟩) rfl [] [] rfl rfl rfl rfl rfl (Nat.le_of_ble_eq_true rfl) ⟨(Nat.le_of_ble_eq_true rfl), (Nat.le_of_ble_eq_true rfl)⟩ (fun _ => (Nat.le_of_ble_eq_true rfl)) (wN := fun u => []) (fun _ => rfl) dX3_mixTotals_51 (fun r_51 u_51 h_51 => ?_)
              refine z_topl (y := mtW tf kd (mtA tf wf d kd) 4 * 31 + wf kd) h_51 ?_
              refine z_lstore_n h dX3_mixTotals_54 rfl (by decide) (lv' := [(0, .ref (a 0)), (1, .long d), (3, .long (mtW tf kd (mtA tf wf d kd) 4 * 31 + wf kd)), (5, .int (nI kd)), (6, .int (nI 4))]) [1, 2, 0, 3, 4] rfl ?_
              refine z_iinc h (v := nI (kd + 1)) dX3_mixTotals_55 (by decide) 3 rfl (by rw [show Int32.ofInt 1 = nI 1 from rfl, nI_add]) (lv' := [(0, .ref (a 0)), (1, .long d), (3, .long (mtW tf kd (mtA tf wf d kd) 4 * 31 + wf kd)), (5, .int (nI (kd + 1))), (6, .int (nI 4))]) [1, 2, 3, 0, 4] rfl ?_
              refine z_goto h (tgt := 5) dX3_mixTotals_58 (by decide) ?_
              refine z_lv [0, 1, 2, 3] (lv' := [(0, .ref (a 0)), (1, .long d), (3, .long (mtW tf kd (mtA tf wf d kd) 4 * 31 + wf kd)), (5, .int (nI (kd + 1)))]) rfl ?_
              exact ihL5 (kd + 1)  (by omega) (by omega) 
            · have hl1 : w < 4 := ge_f (a := w) (b := 4) c_17 (by omega) (by omega)
              refine z_lload_n h dX3_mixTotals_20 rfl 2 rfl ?_
              refine z_aload_n h dX3_mixTotals_21 rfl 0 rfl ?_
              refine z_get h in_X3_mixTotals_X3 0 rfl rfl 3 (by decide) lk_X3_mixTotals_f27 rfl dX3_mixTotals_22 ?_
              refine z_iload h dX3_mixTotals_25 3 rfl ?_
              refine z_iconst h (v := 4) dX3_mixTotals_27 (by decide) ?_
              refine z_imul h dX3_mixTotals_28 ?_
              refine z_topi (y := nI (kd * 4)) (mul4 kd) ?_
              refine z_iload h dX3_mixTotals_29 4 rfl ?_
              refine z_iadd h dX3_mixTotals_31 ?_
              refine z_topi (y := nI (kd * 4 + w)) (add4 kd w) ?_
              refine z_lald h 1 rfl (vp_in_nI (by omega) (by omega)) dX3_mixTotals_32 (v := tf (kd * 4 + w)) (by rw [nI_clamp (by omega)]) ?_
              refine z_Sl h (b := 0) (C := "") (As := [.long (mtW tf kd (mtA tf wf d kd) w), .long (tf (kd * 4 + w))]) (st := []) (fun sz => m_X3_mix l g (mtW tf kd (mtA tf wf d kd) w) (tf (kd * 4 + w))  sz) (va_cwS 2 h.ts gX3_mixTotals_X3_mix rfl rfl rfl (by decide +kernel) ⟨Nat.le_of_ble_eq_true rfl, Nat.le_of_ble_eq_true rfl⟩) rfl [] [] rfl rfl rfl rfl rfl (Nat.le_of_ble_eq_true rfl) ⟨(Nat.le_of_ble_eq_true rfl), (Nat.le_of_ble_eq_true rfl)⟩ (fun _ => (Nat.le_of_ble_eq_true rfl)) (wN := fun u => []) (fun _ => rfl) dX3_mixTotals_33 (fun r_33 u_33 h_33 => ?_)
              refine z_topl (y := mtW tf kd (mtA tf wf d kd) w * 31 + tf (kd * 4 + w)) h_33 ?_
              refine z_lstore_n h dX3_mixTotals_36 rfl (by decide) (lv' := [(0, .ref (a 0)), (1, .long d), (3, .long (mtW tf kd (mtA tf wf d kd) w * 31 + tf (kd * 4 + w))), (5, .int (nI kd)), (6, .int (nI w))]) [1, 2, 0, 3, 4] rfl ?_
              refine z_iinc h (v := nI (w + 1)) dX3_mixTotals_37 (by decide) 4 rfl (by rw [show Int32.ofInt 1 = nI 1 from rfl, nI_add]) (lv' := [(0, .ref (a 0)), (1, .long d), (3, .long (mtW tf kd (mtA tf wf d kd) w * 31 + tf (kd * 4 + w))), (5, .int (nI kd)), (6, .int (nI (w + 1)))]) [1, 2, 3, 4, 0] rfl ?_
              refine z_goto h (tgt := 14) dX3_mixTotals_40 (by decide) ?_
              exact ihL14 (w + 1)  (by omega) (by omega) 
        exact L14 (4 + 1 - 0) 0  (by omega) (by omega) 
  exact L5 (3 + 1 - 0) 0  (by omega) (by omega) 
abbrev rmX3_digest : Room := { frames := 4, cells := 0, slots := 0, locals := 90 }
set_option maxHeartbeats 4000000 in
set_option maxRecDepth 100000 in
theorem m_X3_digest (l : Launch) (g : Gx) (a : Nat → Nat) (ft : Nat → Int32) (tf : Nat → Int64) (fm : Nat → Int32) (pl : Nat) (hf : Nat → Int32) (rf : Nat → Int32) (wf : Nat → Int64) (sn : Nat) (dy : Nat) (mc : Int32) (ed : Nat) (n : Nat) (cap : Nat) (ad : Nat → Nat) (B : Nat → Nat → Int32) (hpl : pl ≤ 10) (hn : n ≤ 16) (hc : n ≤ cap) (hcap : cap ≤ 26) (hdy : dy ≤ 399) (hb : BOK n B) (sz : Nat) : Met l yX3_digest wsX3_digest rmX3_digest (PZ g [.ref (a 0)] sz ([(a 3, .inl (g.2.1, 10, .inl ft)), (a 6, .inl (g.2.2.1, 12, .inr (.inl tf))), (a 2, .inl (g.2.1, 100, .inl fm)), (a 1, .inr (2, [.ref (a 2), .ref (a 3), .int (nI pl)])), (a 5, .inl (g.2.2.2.1, 400, .inl hf)), (a 8, .inl (g.2.1, 16, .inl rf)), (a 7, .inl (g.2.2.1, 3, .inr (.inl wf))), (a 0, .inr (4, [.ref (a 1), .ref (a 4), .ref (a 5), .ref (a 6), .ref (a 7), .ref (a 8), .int (nI sn), .int (nI dy)])), (a 4, .inr (0, [.int mc, .ref ed, .int (nI n)]))] ++ bp g n ed cap ad B) []) (va_Ql (fun (r : Int64) (_ : Unit) => r = dgst fm ft pl dy n B tf wf) (BZ g ([(a 3, .inl (g.2.1, 10, .inl ft)), (a 6, .inl (g.2.2.1, 12, .inr (.inl tf))), (a 2, .inl (g.2.1, 100, .inl fm)), (a 1, .inr (2, [.ref (a 2), .ref (a 3), .int (nI pl)])), (a 5, .inl (g.2.2.2.1, 400, .inl hf)), (a 8, .inl (g.2.1, 16, .inl rf)), (a 7, .inl (g.2.2.1, 3, .inr (.inl wf))), (a 0, .inr (4, [.ref (a 1), .ref (a 4), .ref (a 5), .ref (a 6), .ref (a 7), .ref (a 8), .int (nI sn), .int (nI dy)])), (a 4, .inr (0, [.int mc, .ref ed, .int (nI n)]))] ++ bp g n ed cap ad B) sz (fun (u : Unit) => ([(a 3, .inl (g.2.1, 10, .inl ft)), (a 6, .inl (g.2.2.1, 12, .inr (.inl tf))), (a 2, .inl (g.2.1, 100, .inl fm)), (a 1, .inr (2, [.ref (a 2), .ref (a 3), .int (nI pl)])), (a 5, .inl (g.2.2.2.1, 400, .inl hf)), (a 8, .inl (g.2.1, 16, .inl rf)), (a 7, .inl (g.2.2.1, 3, .inr (.inl wf))), (a 0, .inr (4, [.ref (a 1), .ref (a 4), .ref (a 5), .ref (a 6), .ref (a 7), .ref (a 8), .int (nI sn), .int (nI dy)])), (a 4, .inr (0, [.int mc, .ref ed, .int (nI n)]))] ++ bp g n ed cap ad B))) (va_A ([(a 3, .inl (g.2.1, 10, .inl ft)), (a 6, .inl (g.2.2.1, 12, .inr (.inl tf))), (a 2, .inl (g.2.1, 100, .inl fm)), (a 1, .inr (2, [.ref (a 2), .ref (a 3), .int (nI pl)])), (a 5, .inl (g.2.2.2.1, 400, .inl hf)), (a 8, .inl (g.2.1, 16, .inl rf)), (a 7, .inl (g.2.2.1, 3, .inr (.inl wf))), (a 0, .inr (4, [.ref (a 1), .ref (a 4), .ref (a 5), .ref (a 6), .ref (a 7), .ref (a 8), .int (nI sn), .int (nI dy)])), (a 4, .inr (0, [.int mc, .ref ed, .int (nI n)]))] ++ bp g n ed cap ad B) sz)) 0 0 (va_A ([(a 3, .inl (g.2.1, 10, .inl ft)), (a 6, .inl (g.2.2.1, 12, .inr (.inl tf))), (a 2, .inl (g.2.1, 100, .inl fm)), (a 1, .inr (2, [.ref (a 2), .ref (a 3), .int (nI pl)])), (a 5, .inl (g.2.2.2.1, 400, .inl hf)), (a 8, .inl (g.2.1, 16, .inl rf)), (a 7, .inl (g.2.2.1, 3, .inr (.inl wf))), (a 0, .inr (4, [.ref (a 1), .ref (a 4), .ref (a 5), .ref (a 6), .ref (a 7), .ref (a 8), .int (nI sn), .int (nI dy)])), (a 4, .inr (0, [.int mc, .ref ed, .int (nI n)]))] ++ bp g n ed cap ad B) sz) := by
  refine z_open_l (cc := cX3_digest) (maxL := 3) (own := RX3) (by decide) rfl rfl (Nat.le_of_ble_eq_true rfl) ?_
  intro p e s m args below meth c Q h hnm fin
  generalize hAe : va_A ([(a 3, .inl (g.2.1, 10, .inl ft)), (a 6, .inl (g.2.2.1, 12, .inr (.inl tf))), (a 2, .inl (g.2.1, 100, .inl fm)), (a 1, .inr (2, [.ref (a 2), .ref (a 3), .int (nI pl)])), (a 5, .inl (g.2.2.2.1, 400, .inl hf)), (a 8, .inl (g.2.1, 16, .inl rf)), (a 7, .inl (g.2.2.1, 3, .inr (.inl wf))), (a 0, .inr (4, [.ref (a 1), .ref (a 4), .ref (a 5), .ref (a 6), .ref (a 7), .ref (a 8), .int (nI sn), .int (nI dy)])), (a 4, .inr (0, [.int mc, .ref ed, .int (nI n)]))] ++ bp g n ed cap ad B) s.heap.size = A at h fin ⊢
  refine z_lve (lv' := [(0, .ref (a 0))]) rfl ?_
  refine z_ldc2 h lk_X3_digest_c188 dX3_digest_0 ?_
  refine z_aload_n h dX3_digest_3 rfl 0 rfl ?_
  refine z_get h in_X3_digest_X3 7 rfl rfl 7 (by decide) lk_X3_digest_f42 rfl dX3_digest_4 ?_
  refine z_i2l h dX3_digest_7 ?_
  refine z_Sl h (b := 0) (C := "") (As := [.long 197, .long (Int32.toInt64 (nI dy))]) (st := []) (fun sz => m_X3_mix l g 197 (Int32.toInt64 (nI dy))  sz) (va_cwS 2 h.ts gX3_digest_X3_mix rfl rfl rfl (by decide +kernel) ⟨Nat.le_of_ble_eq_true rfl, Nat.le_of_ble_eq_true rfl⟩) rfl [] [] rfl rfl rfl rfl rfl (Nat.le_of_ble_eq_true rfl) ⟨(Nat.le_of_ble_eq_true rfl), (Nat.le_of_ble_eq_true rfl)⟩ (fun _ => (Nat.le_of_ble_eq_true rfl)) (wN := fun u => ([(a 3, .inl (g.2.1, 10, .inl ft)), (a 6, .inl (g.2.2.1, 12, .inr (.inl tf))), (a 2, .inl (g.2.1, 100, .inl fm)), (a 1, .inr (2, [.ref (a 2), .ref (a 3), .int (nI pl)])), (a 5, .inl (g.2.2.2.1, 400, .inl hf)), (a 8, .inl (g.2.1, 16, .inl rf)), (a 7, .inl (g.2.2.1, 3, .inr (.inl wf))), (a 0, .inr (4, [.ref (a 1), .ref (a 4), .ref (a 5), .ref (a 6), .ref (a 7), .ref (a 8), .int (nI sn), .int (nI dy)])), (a 4, .inr (0, [.int mc, .ref ed, .int (nI n)]))] ++ bp g n ed cap ad B)) (fun _ => List.append_nil _) dX3_digest_8 (fun r_8 u_8 h_8 => ?_)
  refine z_topl (y := 197 * 31 + (nI dy).toInt64) h_8 ?_
  refine z_lstore_n h dX3_digest_11 rfl (by decide) (lv' := [(0, .ref (a 0)), (1, .long (197 * 31 + (nI dy).toInt64))]) [1, 0] rfl ?_
  refine z_aload_n h dX3_digest_12 rfl 0 rfl ?_
  refine z_lload_n h dX3_digest_13 rfl 1 rfl ?_
  refine z_Vl h (As := [.long (197 * 31 + (nI dy).toInt64)]) (st := []) (fun sz => m_X3_mixRegion l g a sn dy pl fm ft (197 * 31 + (nI dy).toInt64) hpl sz) (cwV 1 h.ts gX3_digest_X3_mixRegion rfl rfl rfl (by decide +kernel) ⟨Nat.le_of_ble_eq_true rfl, Nat.le_of_ble_eq_true rfl⟩) rfl [] [7, 3, 2, 0] rfl rfl rfl rfl 7 rfl rfl rfl rfl (Nat.le_of_ble_eq_true rfl) ⟨(Nat.le_of_ble_eq_true rfl), (Nat.le_of_ble_eq_true rfl)⟩ (fun _ => (Nat.le_of_ble_eq_true rfl)) (wN := fun u => ([(a 3, .inl (g.2.1, 10, .inl ft)), (a 6, .inl (g.2.2.1, 12, .inr (.inl tf))), (a 2, .inl (g.2.1, 100, .inl fm)), (a 1, .inr (2, [.ref (a 2), .ref (a 3), .int (nI pl)])), (a 5, .inl (g.2.2.2.1, 400, .inl hf)), (a 8, .inl (g.2.1, 16, .inl rf)), (a 7, .inl (g.2.2.1, 3, .inr (.inl wf))), (a 0, .inr (4, [.ref (a 1), .ref (a 4), .ref (a 5), .ref (a 6), .ref (a 7), .ref (a 8), .int (nI sn), .int (nI dy)])), (a 4, .inr (0, [.int mc, .ref ed, .int (nI n)]))] ++ bp g n ed cap ad B)) (fun _ => List.append_nil _) dX3_digest_14 (fun r_14 u_14 h_14 => ?_)
  refine z_topl (y := mixR fm ft pl (197 * 31 + (nI dy).toInt64)) h_14 ?_
  refine z_lstore_n h dX3_digest_17 rfl (by decide) (lv' := [(0, .ref (a 0)), (1, .long (mixR fm ft pl (197 * 31 + (nI dy).toInt64)))]) [1, 0] rfl ?_
  refine z_aload_n h dX3_digest_18 rfl 0 rfl ?_
  refine z_lload_n h dX3_digest_19 rfl 1 rfl ?_
  refine z_Yl h (As := [.long (mixR fm ft pl (197 * 31 + (nI dy).toInt64))]) (st := []) (Y := [(a 3, .inl (g.2.1, 10, .inl ft)), (a 6, .inl (g.2.2.1, 12, .inr (.inl tf))), (a 2, .inl (g.2.1, 100, .inl fm)), (a 1, .inr (2, [.ref (a 2), .ref (a 3), .int (nI pl)])), (a 5, .inl (g.2.2.2.1, 400, .inl hf)), (a 8, .inl (g.2.1, 16, .inl rf)), (a 7, .inl (g.2.2.1, 3, .inr (.inl wf)))]) (fun sz => m_X3_mixBins l g a sn dy mc ed n cap ad B (mixR fm ft pl (197 * 31 + (nI dy).toInt64)) hn hc hcap sz) (cwV 1 h.ts gX3_digest_X3_mixBins rfl rfl rfl (by decide +kernel) ⟨Nat.le_of_ble_eq_true rfl, Nat.le_of_ble_eq_true rfl⟩) rfl rfl 7 rfl rfl rfl rfl (Nat.le_of_ble_eq_true rfl) ⟨(Nat.le_of_ble_eq_true rfl), (Nat.le_of_ble_eq_true rfl)⟩ (wN := fun u => ([(a 3, .inl (g.2.1, 10, .inl ft)), (a 6, .inl (g.2.2.1, 12, .inr (.inl tf))), (a 2, .inl (g.2.1, 100, .inl fm)), (a 1, .inr (2, [.ref (a 2), .ref (a 3), .int (nI pl)])), (a 5, .inl (g.2.2.2.1, 400, .inl hf)), (a 8, .inl (g.2.1, 16, .inl rf)), (a 7, .inl (g.2.2.1, 3, .inr (.inl wf))), (a 0, .inr (4, [.ref (a 1), .ref (a 4), .ref (a 5), .ref (a 6), .ref (a 7), .ref (a 8), .int (nI sn), .int (nI dy)])), (a 4, .inr (0, [.int mc, .ref ed, .int (nI n)]))] ++ bp g n ed cap ad B)) (fun _ => rfl) dX3_digest_20 (fun r_20 u_20 h_20 => ?_)
  refine z_topl (y := mixB B n (mixR fm ft pl (197 * 31 + (nI dy).toInt64))) h_20 ?_
  refine z_lstore_n h dX3_digest_23 rfl (by decide) (lv' := [(0, .ref (a 0)), (1, .long (mixB B n (mixR fm ft pl (197 * 31 + (nI dy).toInt64))))]) [1, 0] rfl ?_
  refine z_aload_n h dX3_digest_24 rfl 0 rfl ?_
  refine z_lload_n h dX3_digest_25 rfl 1 rfl ?_
  refine z_Vl h (As := [.long (mixB B n (mixR fm ft pl (197 * 31 + (nI dy).toInt64)))]) (st := []) (fun sz => m_X3_mixTotals l g a sn dy tf wf (mixB B n (mixR fm ft pl (197 * 31 + (nI dy).toInt64)))  sz) (cwV 1 h.ts gX3_digest_X3_mixTotals rfl rfl rfl (by decide +kernel) ⟨Nat.le_of_ble_eq_true rfl, Nat.le_of_ble_eq_true rfl⟩) rfl [] [7, 1, 6] rfl rfl rfl rfl 7 rfl rfl rfl rfl (Nat.le_of_ble_eq_true rfl) ⟨(Nat.le_of_ble_eq_true rfl), (Nat.le_of_ble_eq_true rfl)⟩ (fun _ => (Nat.le_of_ble_eq_true rfl)) (wN := fun u => ([(a 3, .inl (g.2.1, 10, .inl ft)), (a 6, .inl (g.2.2.1, 12, .inr (.inl tf))), (a 2, .inl (g.2.1, 100, .inl fm)), (a 1, .inr (2, [.ref (a 2), .ref (a 3), .int (nI pl)])), (a 5, .inl (g.2.2.2.1, 400, .inl hf)), (a 8, .inl (g.2.1, 16, .inl rf)), (a 7, .inl (g.2.2.1, 3, .inr (.inl wf))), (a 0, .inr (4, [.ref (a 1), .ref (a 4), .ref (a 5), .ref (a 6), .ref (a 7), .ref (a 8), .int (nI sn), .int (nI dy)])), (a 4, .inr (0, [.int mc, .ref ed, .int (nI n)]))] ++ bp g n ed cap ad B)) (fun _ => List.append_nil _) dX3_digest_26 (fun r_26 u_26 h_26 => ?_)
  exact fin _ _ _ () _ _ _ _ dX3_digest_29 h_26 rfl (Nat.le_of_ble_eq_true rfl) (Nat.le_of_ble_eq_true rfl)
