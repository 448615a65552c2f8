theorem ovT_b {fm ft : Nat → Int32} {k : Int32} {x y : Nat} (h : FMOK fm) (hx : x < 10) (hy : y < 10) : ∀ n, n ≤ 10 → 0 ≤ (ovT fm ft k x y n).toInt ∧ (ovT fm ft k x y n).toInt ≤ 240
  | 0, _ => ⟨(show 0 ≤ (240 : Int32).toInt by decide), (show (240 : Int32).toInt ≤ 240 by decide)⟩
  | n + 1, hn => by
    have ih := ovT_b (ft := ft) (k := k) h hx hy n (by omega)
    have h1 := h (x * 10 + n) (by omega)
    have h2 := h (n * 10 + y) (by omega)
    have e : (fm (x * 10 + n) + fm (n * 10 + y)).toInt = (fm (x * 10 + n)).toInt + (fm (n * 10 + y)).toInt := i32_add (by omega) (by omega)
    rw [ovT]
    split
    · exact ih
    · split
      · rw [e]
        omega
      · exact ih
/-- what a lorry took of a bin -/
def gain (cp : Int32) (b : Nat → Int32) : Int := if b 9 = 0 then (mnc cp (b 4)).toInt else 0
theorem gain_b {dy : Nat} {cp : Int32} {b : Nat → Int32} (h : B1 dy b) (hc : 0 ≤ cp.toInt) : 0 ≤ gain cp b ∧ gain cp b ≤ 1000 ∧ gain cp b ≤ cp.toInt := by
  obtain ⟨⟨h0, h1⟩, ⟨h2, h3⟩, -⟩ := h
  unfold gain
  rw [mnc_i]
  split
  · split <;> omega
  · omega
/-- the lorry under way, i bins behind it; W: what it has taken in all -/
def TK (cp : Int32) (i : Nat) (W : Int) (t : TS) : Prop := t.1 < 10 ∧ (0 ≤ t.2.1.toInt ∧ t.2.1.toInt ≤ cp.toInt) ∧ (0 ≤ t.2.2.2.2.toInt ∧ t.2.2.2.2.toInt + t.2.1.toInt = W) ∧ (2 * (i : Int) ≤ t.2.2.1.toInt ∧ t.2.2.1.toInt ≤ 400 * (i : Int)) ∧ (0 ≤ t.2.2.2.1.toInt ∧ t.2.2.2.1.toInt + (if 0 < t.2.1.toInt then 1 else 0) ≤ (i : Int)) ∧ t.2.2.2.2.toInt ≤ t.2.2.2.1.toInt * cp.toInt
theorem mul_s (x y : Int) : (x + 1) * y = x * y + y := by rw [Int.add_mul, Int.one_mul]
/-- a trip to a tip on the way to y -/
theorem unl_k {fm ft : Nat → Int32} {k cp : Int32} {pl i : Nat} {W : Int} {t : TS} {y : Nat} (hf : FMOK fm) (hpl : pl ≤ 10) (hy : y < 10) (hi : i ≤ 16) (hcp : cp.toInt ≤ 5000) (hW : W ≤ 16000) (h0 : 0 < t.2.1.toInt) (h : TK cp i W t) :
    (unl fm ft k pl t y).1 = y ∧ (unl fm ft k pl t y).2.1 = 0 ∧ (unl fm ft k pl t y).2.2.2.2.toInt = W ∧ (t.2.2.1.toInt ≤ (unl fm ft k pl t y).2.2.1.toInt ∧ (unl fm ft k pl t y).2.2.1.toInt ≤ t.2.2.1.toInt + 250) ∧ (unl fm ft k pl t y).2.2.2.1.toInt = t.2.2.2.1.toInt + 1 ∧ W ≤ (t.2.2.2.1.toInt + 1) * cp.toInt := by
  obtain ⟨a1, ⟨b1, b2⟩, ⟨c1, c2⟩, ⟨d1, d2⟩, ⟨e1, e2⟩, f1⟩ := h
  rw [if_pos h0] at e2
  have ho := ovT_b (ft := ft) (k := k) hf a1 hy pl hpl
  have t10 : (10 : Int32).toInt = 10 := rfl
  have t1 : (1 : Int32).toInt = 1 := rfl
  have m1 : (ovT fm ft k t.1 y pl + 10).toInt = (ovT fm ft k t.1 y pl).toInt + 10 := by rw [i32_add (by omega) (by omega), t10]
  have m2 : (t.2.2.1 + (ovT fm ft k t.1 y pl + 10)).toInt = t.2.2.1.toInt + ((ovT fm ft k t.1 y pl).toInt + 10) := by rw [i32_add (by omega) (by omega), m1]
  have m3 : (t.2.2.2.2 + t.2.1).toInt = t.2.2.2.2.toInt + t.2.1.toInt := i32_add (by omega) (by omega)
  have m4 : (t.2.2.2.1 + 1).toInt = t.2.2.2.1.toInt + 1 := by rw [i32_add (by omega) (by omega), t1]
  refine ⟨rfl, rfl, ?_, ?_, ?_, ?_⟩
  · show (t.2.2.2.2 + t.2.1).toInt = W
    omega
  · show t.2.2.1.toInt ≤ (t.2.2.1 + (ovT fm ft k t.1 y pl + 10)).toInt ∧ (t.2.2.1 + (ovT fm ft k t.1 y pl + 10)).toInt ≤ _
    omega
  · exact m4
  · rw [mul_s]
    omega
theorem TK.vis {fm ft : Nat → Int32} {k cp : Int32} {pl i pb dy : Nat} {W : Int} {t : TS} {b : Nat → Int32} (hf : FMOK fm) (hpl : pl ≤ 10) (hi : i < 16) (hc0 : 0 ≤ cp.toInt) (hcp : cp.toInt ≤ 5000) (hW0 : 0 ≤ W) (hW : W ≤ 1000 * (i : Int)) (hp : pb < 10) (hb : B1 dy b) (h : TK cp i W t) :
    TK cp (i + 1) (W + gain cp b) (visT fm ft k cp pl b pb t) ∧ (b 9 = 0 → visK fm ft k cp pl b pb t = mnc cp (b 4)) := by
  have hg := gain_b hb hc0
  obtain ⟨⟨g0, g1⟩, ⟨g2, g3⟩, -⟩ := hb
  have a1 := h.1
  have hd := hf (t.1 * 10 + pb) (by omega)
  have hdr : TK cp i W t := h
  obtain ⟨-, ⟨b1, b2⟩, ⟨c1, c2⟩, ⟨d1, d2⟩, ⟨e1, e2⟩, f1⟩ := h
  have m0 : (t.2.2.1 + fm (t.1 * 10 + pb)).toInt = t.2.2.1.toInt + (fm (t.1 * 10 + pb)).toInt := i32_add (by omega) (by omega)
  have t5 : (5 : Int32).toInt = 5 := rfl
  have t2 : (2 : Int32).toInt = 2 := rfl
  by_cases hz : b 9 = 0
  · have e1' : visT fm ft k cp pl b pb t = ((mun fm ft k cp pl (b 4) (drv fm t pb)).1, (mun fm ft k cp pl (b 4) (drv fm t pb)).2.1 + tak cp (b 4) (mun fm ft k cp pl (b 4) (drv fm t pb)), (mun fm ft k cp pl (b 4) (drv fm t pb)).2.2.1 + 5, (mun fm ft k cp pl (b 4) (drv fm t pb)).2.2.2.1, (mun fm ft k cp pl (b 4) (drv fm t pb)).2.2.2.2) := if_pos hz
    have e2' : visK fm ft k cp pl b pb t = tak cp (b 4) (mun fm ft k cp pl (b 4) (drv fm t pb)) := if_pos hz
    have hgv : gain cp b = (mnc cp (b 4)).toInt := if_pos hz
    have hmn := mnc_i (cp := cp) (c := b 4)
    rw [hgv] at hg ⊢
    rw [e1', e2']
    -- the lorry as it stands before the bin: u
    have key : ∃ u : TS, mun fm ft k cp pl (b 4) (drv fm t pb) = u ∧ u.1 = pb ∧ tak cp (b 4) u = mnc cp (b 4) ∧ (0 ≤ u.2.1.toInt ∧ u.2.1.toInt + (mnc cp (b 4)).toInt ≤ cp.toInt) ∧ (0 ≤ u.2.2.2.2.toInt ∧ u.2.2.2.2.toInt + u.2.1.toInt = W) ∧ (2 * (i : Int) ≤ u.2.2.1.toInt ∧ u.2.2.1.toInt ≤ 400 * (i : Int) + 370) ∧ (0 ≤ u.2.2.2.1.toInt ∧ u.2.2.2.1.toInt ≤ (i : Int)) ∧ u.2.2.2.2.toInt ≤ u.2.2.2.1.toInt * cp.toInt := by
      refine ⟨_, rfl, ?_⟩
      have hs : (cp - t.2.1).toInt = cp.toInt - t.2.1.toInt := i32_sub (by omega) (by omega)
      by_cases h0 : t.2.1 ≤ 0
      · have h0' := i32_le.mp h0
        have hz0 := i0
        have h00 : t.2.1 = 0 := i32_inj (by omega)
        have em : mun fm ft k cp pl (b 4) (drv fm t pb) = drv fm t pb := if_pos h0
        rw [em]
        have et : tak cp (b 4) (drv fm t pb) = mnc cp (b 4) := by
          show (if cp - t.2.1 < b 4 then cp - t.2.1 else b 4) = _
          have e3 : cp - t.2.1 = cp := i32_inj (by rw [hs]; omega)
          rw [e3]
          rfl
        refine ⟨rfl, et, ⟨b1, ?_⟩, ⟨c1, c2⟩, ⟨?_, ?_⟩, ⟨e1, ?_⟩, f1⟩
        · show t.2.1.toInt + _ ≤ _
          rw [hmn]
          split <;> omega
        · show 2 * (i : Int) ≤ (t.2.2.1 + fm (t.1 * 10 + pb)).toInt
          omega
        · show (t.2.2.1 + fm (t.1 * 10 + pb)).toInt ≤ _
          omega
        · show t.2.2.2.1.toInt ≤ _
          split at e2 <;> omega
      · have h0' : 0 < t.2.1.toInt := by
          have : ¬ t.2.1.toInt ≤ (0 : Int32).toInt := fun q => h0 (i32_le.mpr q)
          have hz0 := i0
          omega
        by_cases h1 : b 4 ≤ cp - t.2.1
        · have h1' := i32_le.mp h1
          have em : mun fm ft k cp pl (b 4) (drv fm t pb) = drv fm t pb := by
            show (if t.2.1 ≤ 0 then _ else if b 4 ≤ cp - t.2.1 then drv fm t pb else _) = _
            rw [if_neg h0, if_pos h1]
          rw [em]
          have et : tak cp (b 4) (drv fm t pb) = mnc cp (b 4) := by
            show (if cp - t.2.1 < b 4 then cp - t.2.1 else b 4) = _
            rw [if_neg (fun q => by have := i32_lt.mp q; omega)]
            unfold mnc
            rw [if_neg (fun q => by have := i32_lt.mp q; omega)]
          refine ⟨rfl, et, ⟨b1, ?_⟩, ⟨c1, c2⟩, ⟨?_, ?_⟩, ⟨e1, ?_⟩, f1⟩
          · show t.2.1.toInt + _ ≤ _
            rw [hmn]
            split <;> omega
          · show 2 * (i : Int) ≤ (t.2.2.1 + fm (t.1 * 10 + pb)).toInt
            omega
          · show (t.2.2.1 + fm (t.1 * 10 + pb)).toInt ≤ _
            omega
          · show t.2.2.2.1.toInt ≤ _
            split at e2 <;> omega
        · have em : mun fm ft k cp pl (b 4) (drv fm t pb) = unl fm ft k pl (drv fm t pb) pb := by
            show (if t.2.1 ≤ 0 then _ else if b 4 ≤ cp - t.2.1 then drv fm t pb else unl fm ft k pl (drv fm t pb) pb) = _
            rw [if_neg h0, if_neg h1]
          rw [em]
          have ho := ovT_b (ft := ft) (k := k) hf hp hp pl hpl
          have t10 : (10 : Int32).toInt = 10 := rfl
          have t1 : (1 : Int32).toInt = 1 := rfl
          have m1 : (ovT fm ft k pb pb pl + 10).toInt = (ovT fm ft k pb pb pl).toInt + 10 := by rw [i32_add (by omega) (by omega), t10]
          have m2 : (t.2.2.1 + fm (t.1 * 10 + pb) + (ovT fm ft k pb pb pl + 10)).toInt = (t.2.2.1 + fm (t.1 * 10 + pb)).toInt + ((ovT fm ft k pb pb pl).toInt + 10) := by rw [i32_add (by omega) (by omega), m1]
          have m3 : (t.2.2.2.2 + t.2.1).toInt = t.2.2.2.2.toInt + t.2.1.toInt := i32_add (by omega) (by omega)
          rw [if_pos h0'] at e2
          have m4 : (t.2.2.2.1 + 1).toInt = t.2.2.2.1.toInt + 1 := by rw [i32_add (by omega) (by omega), t1]
          have et : tak cp (b 4) (unl fm ft k pl (drv fm t pb) pb) = mnc cp (b 4) := by
            show (if cp - 0 < b 4 then cp - 0 else b 4) = _
            rw [Int32.sub_zero]
            rfl
          refine ⟨rfl, et, ⟨?_, ?_⟩, ⟨?_, ?_⟩, ⟨?_, ?_⟩, ⟨?_, ?_⟩, ?_⟩
          · show 0 ≤ (0 : Int32).toInt
            decide
          · show (0 : Int32).toInt + _ ≤ _
            rw [i0, hmn]
            split <;> omega
          · show 0 ≤ (t.2.2.2.2 + t.2.1).toInt
            omega
          · show (t.2.2.2.2 + t.2.1).toInt + (0 : Int32).toInt = W
            rw [i0]
            omega
          · show 2 * (i : Int) ≤ (t.2.2.1 + fm (t.1 * 10 + pb) + (ovT fm ft k pb pb pl + 10)).toInt
            omega
          · show (t.2.2.1 + fm (t.1 * 10 + pb) + (ovT fm ft k pb pb pl + 10)).toInt ≤ _
            omega
          · show 0 ≤ (t.2.2.2.1 + 1).toInt
            omega
          · show (t.2.2.2.1 + 1).toInt ≤ _
            omega
          · show (t.2.2.2.2 + t.2.1).toInt ≤ (t.2.2.2.1 + 1).toInt * cp.toInt
            rw [m4, mul_s, m3]
            omega
    obtain ⟨u, eu, k1, k2, ⟨k3, k4⟩, ⟨k5, k6⟩, ⟨k7, k8⟩, ⟨k9, k10⟩, k11⟩ := key
    rw [eu, k2]
    have n1 : (u.2.1 + mnc cp (b 4)).toInt = u.2.1.toInt + (mnc cp (b 4)).toInt := i32_add (by omega) (by omega)
    have n2 : (u.2.2.1 + 5).toInt = u.2.2.1.toInt + 5 := by rw [i32_add (by omega) (by omega), t5]
    refine ⟨⟨?_, ⟨?_, ?_⟩, ⟨k5, ?_⟩, ⟨?_, ?_⟩, ⟨k9, ?_⟩, k11⟩, fun _ => rfl⟩
    · show u.1 < 10
      omega
    · show 0 ≤ (u.2.1 + mnc cp (b 4)).toInt
      omega
    · show (u.2.1 + mnc cp (b 4)).toInt ≤ _
      omega
    · show u.2.2.2.2.toInt + (u.2.1 + mnc cp (b 4)).toInt = _
      omega
    · show _ ≤ (u.2.2.1 + 5).toInt
      push_cast
      omega
    · show (u.2.2.1 + 5).toInt ≤ _
      push_cast
      omega
    · show u.2.2.2.1.toInt + (if 0 < (u.2.1 + mnc cp (b 4)).toInt then 1 else 0) ≤ _
      push_cast
      split <;> omega
  · have e1' : visT fm ft k cp pl b pb t = (pb, t.2.1, (drv fm t pb).2.2.1 + 2, t.2.2.2.1, t.2.2.2.2) := if_neg hz
    have hgv : gain cp b = 0 := if_neg hz
    rw [e1', hgv]
    have n2 : (t.2.2.1 + fm (t.1 * 10 + pb) + 2).toInt = t.2.2.1.toInt + (fm (t.1 * 10 + pb)).toInt + 2 := by rw [i32_add (by omega) (by omega), m0, t2]
    refine ⟨⟨hp, ⟨b1, b2⟩, ⟨c1, ?_⟩, ⟨?_, ?_⟩, ⟨e1, ?_⟩, f1⟩, fun q => absurd q hz⟩
    · show t.2.2.2.2.toInt + t.2.1.toInt = _
      omega
    · show _ ≤ (t.2.2.1 + fm (t.1 * 10 + pb) + 2).toInt
      push_cast
      omega
    · show (t.2.2.1 + fm (t.1 * 10 + pb) + 2).toInt ≤ _
      push_cast
      omega
    · show t.2.2.2.1.toInt + (if 0 < t.2.1.toInt then 1 else 0) ≤ _
      push_cast
      omega
/-- what the first i bins of the route gave -/
def gsum (cp : Int32) (rf : Nat → Int32) (B : Nat → Nat → Int32) : Nat → Int
  | 0 => 0
  | i + 1 => gsum cp rf B i + gain cp (B (rq rf i))
theorem gsum_b {n dy s : Nat} {cp : Int32} {rf : Nat → Int32} {B : Nat → Nat → Int32} (hB : BK n dy B) (hr : ROK rf s n) (hc : 0 ≤ cp.toInt) : ∀ i, i ≤ s → 0 ≤ gsum cp rf B i ∧ gsum cp rf B i ≤ 1000 * (i : Int)
  | 0, _ => ⟨Int.le_refl _, Int.le_refl _⟩
  | i + 1, hi => by
    have ih := gsum_b hB hr hc i (by omega)
    have hg := gain_b (hB.2 _ (hr i (by omega)).2) hc
    show 0 ≤ gsum cp rf B i + gain cp (B (rq rf i)) ∧ gsum cp rf B i + gain cp (B (rq rf i)) ≤ _
    push_cast
    omega
theorem TK_0 {cp : Int32} (hc0 : 0 ≤ cp.toInt) : TK cp 0 0 ((0, 0, 0, 0, 0) : TS) := ⟨(by decide), ⟨(by decide), (by show (0 : Int32).toInt ≤ cp.toInt; rw [i0]; exact hc0)⟩, ⟨(by decide), rfl⟩, ⟨(by decide), (by decide)⟩, ⟨(by decide), (by decide)⟩, (by show (0 : Int32).toInt ≤ (0 : Int32).toInt * cp.toInt; rw [i0, Int.zero_mul]; decide)⟩
/-- the tour through the route, done -/
theorem mkF_ok {fm ft : Nat → Int32} {k cp : Int32} {pl dy n s : Nat} {rf : Nat → Int32} {B : Nat → Nat → Int32} (hf : FMOK fm) (hpl : pl ≤ 10) (hd : dy ≤ 399) (hn : n ≤ 16) (hB : BK n dy B) (hr : ROK rf s n) (hnd : NDP rf s) (hs : s ≤ 16) (hc0 : 0 ≤ cp.toInt) (hc1 : cp.toInt ≤ 5000) : ∀ i, i ≤ s →
    BK n dy (mkF fm ft k cp pl dy rf B i).2 ∧ TK cp i (gsum cp rf B i) (mkF fm ft k cp pl dy rf B i).1 ∧ (∀ j, j < i → (mkF fm ft k cp pl dy rf B i).2 (rq rf j) = endB (B (rq rf j)) (mnc cp (B (rq rf j) 4)) (nI dy)) ∧ (∀ q, (∀ j, j < i → ¬ rq rf j = q) → (mkF fm ft k cp pl dy rf B i).2 q = B q)
  | 0, _ => ⟨hB, TK_0 hc0, fun j hj => absurd hj (Nat.not_lt_zero j), fun _ _ => rfl⟩
  | i + 1, hi => by
    obtain ⟨i1, i2, i3, i4⟩ := mkF_ok (ft := ft) (k := k) hf hpl hd hn hB hr hnd hs hc0 hc1 i (by omega)
    have hq := (hr i (by omega)).2
    have hfr := i4 (rq rf i) (fun j hj e => by have := hnd j i (by omega) (by omega) e; omega)
    have hgs := gsum_b hB hr hc0 i (by omega)
    rw [mkF]
    generalize mkF fm ft k cp pl dy rf B i = u at i1 i2 i3 i4 hfr ⊢
    have hpb : plc u.2 (rq rf i) < 10 := (i1.1 _ hq).2.1
    rw [hfr]
    have hbq := hB.2 _ hq
    have hv := TK.vis (ft := ft) (k := k) (pb := plc u.2 (rq rf i)) hf hpl (show i < 16 by omega) hc0 hc1 hgs.1 hgs.2 hpb hbq i2
    have he : endB (B (rq rf i)) (visK fm ft k cp pl (B (rq rf i)) (plc u.2 (rq rf i)) u.1) (nI dy) = endB (B (rq rf i)) (mnc cp (B (rq rf i) 4)) (nI dy) := by
      by_cases hz : B (rq rf i) 9 = 0
      · rw [hv.2 hz]
      · exact endB_dd hz
    rw [he]
    refine ⟨?_, hv.1, fun j hj => ?_, fun q hq2 => ?_⟩
    · show BK n dy (updB u.2 (rq rf i) (endB (B (rq rf i)) (mnc cp (B (rq rf i) 4)) (nI dy)))
      exact i1.upd (by rw [endB_0, hfr]) (by rw [endB_1, hfr]) (hbq.end hd hc0)
    · show updB u.2 (rq rf i) _ (rq rf j) = _
      rw [updB_at]
      by_cases e : j = i
      · subst e
        rw [if_pos rfl]
      · rw [if_neg (fun z => e (hnd j i (by omega) (by omega) z))]
        exact i3 j (by omega)
    · show updB u.2 (rq rf i) _ q = _
      rw [updB_at, if_neg (fun z => hq2 i (by omega) z.symm)]
      exact i4 q (fun j hj => hq2 j (by omega))
/-- the way home -/
theorem endT_ok {fm ft : Nat → Int32} {k cp : Int32} {pl s : Nat} {W : Int} {t : TS} (hf : FMOK fm) (hpl : pl ≤ 10) (hs : s ≤ 16) (hc0 : 0 ≤ cp.toInt) (hcp : cp.toInt ≤ 5000) (hW : W ≤ 16000) (h : TK cp s W t) :
    2 * (s : Int) ≤ (endT fm ft k pl t).2.2.1.toInt ∧ (endT fm ft k pl t).2.2.2.2.toInt = W ∧ (0 ≤ (endT fm ft k pl t).2.2.2.1.toInt ∧ (endT fm ft k pl t).2.2.2.1.toInt ≤ (s : Int)) ∧ W ≤ (endT fm ft k pl t).2.2.2.1.toInt * cp.toInt := by
  by_cases h0 : t.2.1 ≤ 0
  · have e : endT fm ft k pl t = drv fm t 0 := by
      unfold endT
      rw [if_pos h0]
    obtain ⟨a1, ⟨b1, b2⟩, ⟨c1, c2⟩, ⟨d1, d2⟩, ⟨e1, e2⟩, f1⟩ := h
    have hd := hf (t.1 * 10 + 0) (by omega)
    have h0' := i32_le.mp h0
    have hz0 := i0
    have m0 : (t.2.2.1 + fm (t.1 * 10 + 0)).toInt = t.2.2.1.toInt + (fm (t.1 * 10 + 0)).toInt := i32_add (by omega) (by omega)
    rw [e]
    refine ⟨?_, ?_, ⟨e1, ?_⟩, ?_⟩
    · show _ ≤ (t.2.2.1 + fm (t.1 * 10 + 0)).toInt
      omega
    · show t.2.2.2.2.toInt = W
      omega
    · show t.2.2.2.1.toInt ≤ _
      split at e2 <;> omega
    · show W ≤ t.2.2.2.1.toInt * cp.toInt
      omega
  · have h0' : 0 < t.2.1.toInt := by
      have : ¬ t.2.1.toInt ≤ (0 : Int32).toInt := fun q => h0 (i32_le.mpr q)
      have hz0 := i0
      omega
    have e : endT fm ft k pl t = drv fm (unl fm ft k pl t 0) 0 := by
      unfold endT
      rw [if_neg h0]
    obtain ⟨u1, u2, u3, ⟨u4, u5⟩, u6, u7⟩ := unl_k (ft := ft) (k := k) (y := 0) hf hpl (by decide) hs hcp hW h0' h
    obtain ⟨a1, ⟨b1, b2⟩, ⟨c1, c2⟩, ⟨d1, d2⟩, ⟨e1, e2⟩, f1⟩ := h
    rw [if_pos h0'] at e2
    rw [e]
    generalize unl fm ft k pl t 0 = u at u1 u2 u3 u4 u5 u6 ⊢
    have hd := hf (u.1 * 10 + 0) (by omega)
    have m0 : (u.2.2.1 + fm (u.1 * 10 + 0)).toInt = u.2.2.1.toInt + (fm (u.1 * 10 + 0)).toInt := i32_add (by omega) (by omega)
    refine ⟨?_, u3, ⟨?_, ?_⟩, ?_⟩
    · show _ ≤ (u.2.2.1 + fm (u.1 * 10 + 0)).toInt
      omega
    · show 0 ≤ u.2.2.2.1.toInt
      omega
    · show u.2.2.2.1.toInt ≤ _
      omega
    · show W ≤ u.2.2.2.1.toInt * cp.toInt
      rw [u6]
      exact u7


