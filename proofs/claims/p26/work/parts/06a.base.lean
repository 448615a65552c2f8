theorem i32_add {x y : Int32} (h1 : -2147483648 ≤ x.toInt + y.toInt) (h2 : x.toInt + y.toInt ≤ 2147483647) : (x + y).toInt = x.toInt + y.toInt := by
  rw [Int32.toInt_add]
  simp only [Int.bmod]
  split <;> omega
theorem i32_sub {x y : Int32} (h1 : -2147483648 ≤ x.toInt - y.toInt) (h2 : x.toInt - y.toInt ≤ 2147483647) : (x - y).toInt = x.toInt - y.toInt := by
  rw [Int32.toInt_sub]
  simp only [Int.bmod]
  split <;> omega
theorem i32_mul {x y : Int32} (h1 : -2147483648 ≤ x.toInt * y.toInt) (h2 : x.toInt * y.toInt ≤ 2147483647) : (x * y).toInt = x.toInt * y.toInt := by
  rw [Int32.toInt_mul]
  generalize x.toInt * y.toInt = z at h1 h2 ⊢
  simp only [Int.bmod]
  split <;> omega
theorem i32_div {x y : Int32} (h1 : 0 ≤ x.toInt) (h2 : 0 < y.toInt) : (x / y).toInt = x.toInt / y.toInt := by
  have h3 : x.toInt ≤ 2147483647 := by have := x.toInt_lt; omega
  have h4 : x.toInt / y.toInt ≤ x.toInt := Int.ediv_le_self _ h1
  have h5 : 0 ≤ x.toInt / y.toInt := Int.ediv_nonneg h1 (by omega)
  rw [Int32.toInt_div, Int.tdiv_eq_ediv_of_nonneg h1]
  generalize x.toInt / y.toInt = z at h4 h5 ⊢
  simp only [Int.bmod]
  split <;> omega
theorem upd_at (f : Nat → Int32) (i j : Nat) (v : Int32) : upd f i v j = if j = i then v else f j := rfl
theorem updB_at (B : Nat → Nat → Int32) (i j : Nat) (b : Nat → Int32) : updB B i b j = if j = i then b else B j := rfl
theorem ins_at (B : Nat → Nat → Int32) (n j : Nat) (b : Nat → Int32) : ins B n b j = if j = n then b else B j := rfl
theorem i0 : (0 : Int32).toInt = 0 := rfl
theorem i32_inj {x y : Int32} (h : x.toInt = y.toInt) : x = y := Int32.toInt_inj.mp h
/-! below: a number of the script, cut down -/
theorem and_max (x : Int32) : ∃ k, k < 2 ^ 31 ∧ x &&& 2147483647 = nI k := by
  refine ⟨(x &&& 2147483647).toBitVec.toNat, ?_, ?_⟩
  · rw [Int32.toBitVec_and, BitVec.toNat_and]
    exact Nat.lt_of_le_of_lt Nat.and_le_right (by decide)
  · refine Int32.toBitVec_inj.mp ?_
    apply BitVec.eq_of_toNat_eq
    show _ = (BitVec.ofNat 32 _).toNat
    rw [BitVec.toNat_ofNat, Nat.mod_eq_of_lt (BitVec.isLt _)]
theorem rem_nI {k n : Nat} (hk : k < 2 ^ 31) (hn : 0 < n) (hn2 : n < 2 ^ 31) : nI k - nI k / nI n * nI n = nI (k % n) := by
  have e1 : (nI k).toInt = (k : Int) := nI_toInt hk
  have e2 : (nI n).toInt = (n : Int) := nI_toInt hn2
  have hm : k % n ≤ k := Nat.mod_le k n
  have e3 : (nI (k % n)).toInt = ((k % n : Nat) : Int) := nI_toInt (by omega)
  have hd := Nat.div_add_mod k n
  have hq : k / n * n ≤ k := Nat.div_mul_le_self k n
  have e4 : (nI k / nI n).toInt = ((k / n : Nat) : Int) := by
    rw [i32_div (by omega) (by omega), e1, e2]
    exact (Int.natCast_ediv k n).symm
  have e5 : (nI k / nI n * nI n).toInt = ((k / n * n : Nat) : Int) := by
    have e6 : (nI k / nI n).toInt * (nI n).toInt = ((k / n * n : Nat) : Int) := by rw [e4, e2, Int.natCast_mul]
    rw [i32_mul (by rw [e6]; omega) (by rw [e6]; omega), e6]
  refine i32_inj ?_
  rw [i32_sub (by rw [e1, e5]; omega) (by rw [e1, e5]; omega), e1, e5, e3]
  have : n * (k / n) = k / n * n := Nat.mul_comm _ _
  omega
theorem below_ok (v : Int32) {n : Nat} (hn : 0 < n) (hn2 : n < 2 ^ 31) : ∃ j, j < n ∧ (v &&& 2147483647) - (v &&& 2147483647) / nI n * nI n = nI j := by
  obtain ⟨k, hk, e⟩ := and_max v
  exact ⟨k % n, Nat.mod_lt _ hn, by rw [e]; exact rem_nI hk hn hn2⟩
/-! the bins -/
def FMOK (fm : Nat → Int32) : Prop := ∀ i, i < 100 → 0 ≤ (fm i).toInt ∧ (fm i).toInt ≤ 120
/-- a bin's numbers are in their bounds -/
def B1 (dy : Nat) (b : Nat → Int32) : Prop := (0 ≤ (b 4).toInt ∧ (b 4).toInt ≤ (b 2).toInt) ∧ (10 ≤ (b 2).toInt ∧ (b 2).toInt ≤ 1000) ∧ (0 ≤ (b 3).toInt ∧ (b 3).toInt ≤ 200) ∧ (0 ≤ (b 5).toInt ∧ (b 5).toInt ≤ 10000) ∧ (0 ≤ (b 6).toInt ∧ (b 6).toInt ≤ (dy : Int)) ∧ (b 9 = 0 ∨ b 9 = 1)
def BK (n dy : Nat) (B : Nat → Nat → Int32) : Prop := BOK n B ∧ ∀ i, i < n → B1 dy (B i)
theorem B1.day {dy dy' : Nat} {b : Nat → Int32} (h : B1 dy b) (hd : dy ≤ dy') : B1 dy' b := by
  obtain ⟨h1, h2, h3, h4, h5, h6⟩ := h
  exact ⟨h1, h2, h3, h4, ⟨h5.1, by omega⟩, h6⟩
theorem BK.day {n dy dy' : Nat} {B : Nat → Nat → Int32} (h : BK n dy B) (hd : dy ≤ dy') : BK n dy' B := ⟨h.1, fun i hi => (h.2 i hi).day hd⟩
theorem BK.upd {n dy i : Nat} {B : Nat → Nat → Int32} {b : Nat → Int32} (h : BK n dy B) (h0 : b 0 = B i 0) (h1 : b 1 = B i 1) (hb : B1 dy b) : BK n dy (updB B i b) := by
  refine ⟨h.1.set h0 h1, fun j hj => ?_⟩
  rw [updB_at]
  split
  · exact hb
  · exact h.2 j hj
theorem B1.fil {dy : Nat} {b : Nat → Int32} (h : B1 dy b) : B1 dy (filB b) := by
  obtain ⟨⟨h0, h1⟩, ⟨h2, h3⟩, ⟨h4, h5⟩, h6, h7, h8⟩ := h
  have e1 : (b 4 + b 3).toInt = (b 4).toInt + (b 3).toInt := i32_add (by omega) (by omega)
  have e2 : (b 4 + b 3 - b 2).toInt = (b 4).toInt + (b 3).toInt - (b 2).toInt := by rw [i32_sub (by omega) (by omega), e1]
  have e0 := i0
  have key : 0 ≤ (b 4 + b 3 - wstB b).toInt ∧ (b 4 + b 3 - wstB b).toInt ≤ (b 2).toInt := by
    unfold wstB
    by_cases h : 0 < b 4 + b 3 - b 2
    · rw [if_pos h]
      have h6 := i32_lt.mp h
      rw [i32_sub (by omega) (by omega), e1, e2]
      omega
    · rw [if_neg h]
      have h6 : ¬ (0 : Int32).toInt < (b 4 + b 3 - b 2).toInt := fun q => h (i32_lt.mpr q)
      rw [i32_sub (by omega) (by omega), e1]
      omega
  exact ⟨key, ⟨h2, h3⟩, ⟨h4, h5⟩, h6, h7, h8⟩
theorem pas_keep {n dy : Nat} {B : Nat → Nat → Int32} (h : BK n dy B) : ∀ i, i ≤ n → BK n dy (pasB B i) ∧ ∀ j, pasB B i j 2 = B j 2
  | 0, _ => ⟨h, fun _ => rfl⟩
  | i + 1, hi => by
    obtain ⟨ih, i2⟩ := pas_keep h i (by omega)
    refine ⟨?_, fun j => ?_⟩
    · show BK n dy (updB (pasB B i) i (filB (pasB B i i)))
      exact ih.upd rfl rfl (ih.2 i (by omega)).fil
    · show updB (pasB B i) i (filB (pasB B i i)) j 2 = _
      rw [updB_at]
      split
      · next e => subst e; exact i2 j
      · exact i2 j
theorem ps_keep {n dy : Nat} {B : Nat → Nat → Int32} (h : BK n dy B) : ∀ k, BK n dy (psB B n k) ∧ ∀ j, psB B n k j 2 = B j 2
  | 0 => ⟨h, fun _ => rfl⟩
  | k + 1 => by
    obtain ⟨ih, i2⟩ := ps_keep h k
    have h1 := pas_keep ih n (Nat.le_refl _)
    exact ⟨h1.1, fun j => (h1.2 j).trans (i2 j)⟩
/-- a bin is emptied by a lorry with room for cp: so much is taken -/
def mnc (cp c : Int32) : Int32 := if cp < c then cp else c
theorem mnc_i {cp c : Int32} : (mnc cp c).toInt = if cp.toInt < c.toInt then cp.toInt else c.toInt := by
  unfold mnc
  by_cases h : cp < c
  · rw [if_pos h, if_pos (i32_lt.mp h)]
  · rw [if_neg h, if_neg (fun q => h (i32_lt.mpr q))]
theorem endB_f {b : Nat → Int32} {x y : Int32} (h : b 9 = 0) : endB b x y 4 = b 4 - x ∧ endB b x y 5 = ratB b y ∧ endB b x y 6 = y ∧ endB b x y 8 = b 8 ∧ endB b x y 9 = b 9 ∧ endB b x y 2 = b 2 ∧ endB b x y 3 = b 3 := by
  rw [show endB b x y = upd (upd (upd b 5 (ratB b y)) 6 y) 4 (b 4 - x) from if_pos h]
  exact ⟨rfl, rfl, rfl, rfl, rfl, rfl, rfl⟩
theorem endB_d {b : Nat → Int32} {x y : Int32} (h : ¬ b 9 = 0) : endB b x y 4 = b 4 ∧ endB b x y 5 = b 5 ∧ endB b x y 6 = b 6 ∧ endB b x y 8 = b 8 + 1 ∧ endB b x y 9 = 0 ∧ endB b x y 2 = b 2 ∧ endB b x y 3 = b 3 := by
  rw [show endB b x y = upd (upd b 9 0) 8 (b 8 + 1) from if_neg h]
  exact ⟨rfl, rfl, rfl, rfl, rfl, rfl, rfl⟩
theorem endB_2 (b : Nat → Int32) (x y : Int32) : endB b x y 2 = b 2 := by
  by_cases h : b 9 = 0
  · exact (endB_f h).2.2.2.2.2.1
  · exact (endB_d h).2.2.2.2.2.1
theorem endB_dd {b : Nat → Int32} {x x' y : Int32} (h : ¬ b 9 = 0) : endB b x y = endB b x' y := by
  rw [show endB b x y = upd (upd b 9 0) 8 (b 8 + 1) from if_neg h, show endB b x' y = upd (upd b 9 0) 8 (b 8 + 1) from if_neg h]
/-- the rate behind an emptying: its bounds -/
theorem rat_i {dy : Nat} {b : Nat → Int32} (h : B1 dy b) (hd : dy ≤ 399) : (nI dy - b 6).toInt = (dy : Int) - (b 6).toInt ∧ (b 6).toInt ≤ (dy : Int) ∧ ((dy : Int) - (b 6).toInt ≤ 0 → ratB b (nI dy) = b 5) ∧ (0 < (dy : Int) - (b 6).toInt → (10 * b 4 / (nI dy - b 6)).toInt = 10 * (b 4).toInt / ((dy : Int) - (b 6).toInt) ∧ (ratB b (nI dy)).toInt = ((b 5).toInt * 3 + 10 * (b 4).toInt / ((dy : Int) - (b 6).toInt)) / 4) := by
  obtain ⟨⟨h0, h1⟩, ⟨h2, h3⟩, ⟨h4, h5⟩, ⟨h6, h7⟩, ⟨h8, h9⟩, h10⟩ := h
  have e1 : (nI dy).toInt = (dy : Int) := nI_toInt (by omega)
  have e2 : (nI dy - b 6).toInt = (dy : Int) - (b 6).toInt := by rw [i32_sub (by omega) (by omega), e1]
  have e0 := i0
  refine ⟨e2, h9, fun hz => ?_, fun hz => ?_⟩
  · unfold ratB
    rw [if_pos (i32_le.mpr (by omega))]
  · have t3 : (3 : Int32).toInt = 3 := rfl
    have t4 : (4 : Int32).toInt = 4 := rfl
    have t10 : (10 : Int32).toInt = 10 := rfl
    have e3 : (10 * b 4).toInt = 10 * (b 4).toInt := by rw [i32_mul (by rw [t10]; omega) (by rw [t10]; omega), t10]
    have e4 : (10 * b 4 / (nI dy - b 6)).toInt = 10 * (b 4).toInt / ((dy : Int) - (b 6).toInt) := by rw [i32_div (by omega) (by omega), e3, e2]
    have q0 : 0 ≤ 10 * (b 4).toInt / ((dy : Int) - (b 6).toInt) := Int.ediv_nonneg (by omega) (by omega)
    have q1 : 10 * (b 4).toInt / ((dy : Int) - (b 6).toInt) ≤ 10 * (b 4).toInt := Int.ediv_le_self _ (by omega)
    refine ⟨e4, ?_⟩
    unfold ratB
    rw [if_neg (fun q => by have := i32_le.mp q; omega)]
    have e5 : (b 5 * 3).toInt = (b 5).toInt * 3 := by rw [i32_mul (by rw [t3]; omega) (by rw [t3]; omega), t3]
    have e6 : (b 5 * 3 + 10 * b 4 / (nI dy - b 6)).toInt = (b 5).toInt * 3 + 10 * (b 4).toInt / ((dy : Int) - (b 6).toInt) := by rw [i32_add (by rw [e5, e4]; omega) (by rw [e5, e4]; omega), e5, e4]
    rw [i32_div (by rw [e6]; omega) (by rw [t4]; omega), e6, t4]
theorem B1.end {dy : Nat} {b : Nat → Int32} {cp : Int32} (h : B1 dy b) (hd : dy ≤ 399) (hc : 0 ≤ cp.toInt) : B1 dy (endB b (mnc cp (b 4)) (nI dy)) := by
  have hr := rat_i h hd
  obtain ⟨⟨h0, h1⟩, ⟨h2, h3⟩, ⟨h4, h5⟩, ⟨h6, h7⟩, ⟨h8, h9⟩, h10⟩ := h
  by_cases hz : b 9 = 0
  · obtain ⟨f4, f5, f6, f8, f9, f2, f3⟩ := endB_f (x := mnc cp (b 4)) (y := nI dy) hz
    have hm := mnc_i (cp := cp) (c := b 4)
    have e1 : (nI dy).toInt = (dy : Int) := nI_toInt (by omega)
    have e2 : (b 4 - mnc cp (b 4)).toInt = (b 4).toInt - (mnc cp (b 4)).toInt := i32_sub (by rw [hm]; split <;> omega) (by rw [hm]; split <;> omega)
    unfold B1
    rw [f4, f5, f6, f9, f2, f3, e2, hm, e1]
    refine ⟨⟨by split <;> omega, by split <;> omega⟩, ⟨h2, h3⟩, ⟨h4, h5⟩, ?_, ⟨by omega, by omega⟩, h10⟩
    by_cases hp : (dy : Int) - (b 6).toInt ≤ 0
    · rw [hr.2.2.1 hp]
      exact ⟨h6, h7⟩
    · have q0 : 0 ≤ 10 * (b 4).toInt / ((dy : Int) - (b 6).toInt) := Int.ediv_nonneg (by omega) (by omega)
      have q1 : 10 * (b 4).toInt / ((dy : Int) - (b 6).toInt) ≤ 10 * (b 4).toInt := Int.ediv_le_self _ (by omega)
      rw [(hr.2.2.2 (by omega)).2]
      omega
  · obtain ⟨f4, f5, f6, f8, f9, f2, f3⟩ := endB_d (x := mnc cp (b 4)) (y := nI dy) hz
    unfold B1
    rw [f4, f5, f6, f9, f2, f3]
    exact ⟨⟨h0, h1⟩, ⟨h2, h3⟩, ⟨h4, h5⟩, ⟨h6, h7⟩, ⟨h8, h9⟩, Or.inl rfl⟩
/-- what the law asks of the rate -/
theorem rat_law {dy : Nat} {b : Nat → Int32} (h : B1 dy b) (hd : dy ≤ 399) {sn : Int32} (hs : sn = if nI dy - b 6 = 0 then b 5 else 10 * b 4 / (nI dy - b 6)) : ¬ ratB b (nI dy) < (if sn < b 5 then sn else b 5) - 1 ∧ ¬ (if b 5 < sn then sn else b 5) < ratB b (nI dy) := by
  obtain ⟨r1, r2, r3, r4⟩ := rat_i h hd
  obtain ⟨⟨h0, h1⟩, ⟨h2, h3⟩, ⟨h4, h5⟩, ⟨h6, h7⟩, ⟨h8, h9⟩, h10⟩ := h
  have t1 : (1 : Int32).toInt = 1 := rfl
  have mn : (if sn < b 5 then sn else b 5).toInt = if sn.toInt < (b 5).toInt then sn.toInt else (b 5).toInt := by
    by_cases q : sn < b 5
    · rw [if_pos q, if_pos (i32_lt.mp q)]
    · rw [if_neg q, if_neg (fun z => q (i32_lt.mpr z))]
  have mx : (if b 5 < sn then sn else b 5).toInt = if (b 5).toInt < sn.toInt then sn.toInt else (b 5).toInt := by
    by_cases q : b 5 < sn
    · rw [if_pos q, if_pos (i32_lt.mp q)]
    · rw [if_neg q, if_neg (fun z => q (i32_lt.mpr z))]
  have key : 0 ≤ sn.toInt ∧ sn.toInt ≤ 10000 ∧ (if sn.toInt < (b 5).toInt then sn.toInt else (b 5).toInt) ≤ (ratB b (nI dy)).toInt ∧ (ratB b (nI dy)).toInt ≤ (if (b 5).toInt < sn.toInt then sn.toInt else (b 5).toInt) := by
    by_cases hp : (dy : Int) - (b 6).toInt ≤ 0
    · have e : nI dy - b 6 = 0 := i32_inj (by rw [r1, i0]; omega)
      rw [if_pos e] at hs
      rw [r3 hp, hs]
      exact ⟨h6, h7, by split <;> omega, by split <;> omega⟩
    · have e : ¬ nI dy - b 6 = 0 := fun q => by rw [q, i0] at r1; omega
      rw [if_neg e] at hs
      have r5 := r4 (by omega)
      have q0 : 0 ≤ 10 * (b 4).toInt / ((dy : Int) - (b 6).toInt) := Int.ediv_nonneg (by omega) (by omega)
      have q1 : 10 * (b 4).toInt / ((dy : Int) - (b 6).toInt) ≤ 10 * (b 4).toInt := Int.ediv_le_self _ (by omega)
      rw [r5.2, hs, r5.1]
      generalize 10 * (b 4).toInt / ((dy : Int) - (b 6).toInt) = z at q0 q1 ⊢
      exact ⟨q0, by omega, by split <;> omega, by split <;> omega⟩
  refine ⟨fun q => ?_, fun q => ?_⟩
  · have q1 := i32_lt.mp q
    rw [i32_sub (by rw [mn, t1]; split <;> omega) (by rw [mn, t1]; split <;> omega), mn, t1] at q1
    have := key.2.2.1
    omega
  · have q1 := i32_lt.mp q
    rw [mx] at q1
    have := key.2.2.2
    omega
/-! the route: no bin stands twice in it, and what stood in the row before doesn't matter -/
def NDP (rf : Nat → Int32) (s : Nat) : Prop := ∀ i j, i < s → j < s → rq rf i = rq rf j → i = j
theorem rq_upd (rf : Nat → Int32) (m q j : Nat) (hq : q < 2 ^ 31) : rq (upd rf m (nI q)) j = if j = m then q else rq rf j := by
  unfold rq
  rw [upd_at]
  split
  · exact nI_clamp hq
  · rfl
theorem flR_nd {n : Nat} {B : Nat → Nat → Int32} {dy nw : Nat} {k : Int32} {rf : Nat → Int32} (hn : n ≤ 16) : ∀ i, i ≤ n → NDP (flR B dy nw k rf i).1 (flR B dy nw k rf i).2 ∧ ∀ j, j < (flR B dy nw k rf i).2 → rq (flR B dy nw k rf i).1 j < i
  | 0, _ => ⟨fun i j hi => absurd hi (Nat.not_lt_zero i), fun j hj => absurd hj (Nat.not_lt_zero j)⟩
  | i + 1, hi => by
    obtain ⟨h1, h2⟩ := flR_nd (B := B) (dy := dy) (nw := nw) (k := k) (rf := rf) hn i (by omega)
    rw [flR]
    split
    · refine ⟨fun x y hx hy e => ?_, fun j hj => ?_⟩
      · have hx' : x < (flR B dy nw k rf i).2 + 1 := hx
        have hy' : y < (flR B dy nw k rf i).2 + 1 := hy
        have e' : rq (upd (flR B dy nw k rf i).1 (flR B dy nw k rf i).2 (nI i)) x = rq (upd (flR B dy nw k rf i).1 (flR B dy nw k rf i).2 (nI i)) y := e
        rw [rq_upd _ _ _ _ (by omega), rq_upd _ _ _ _ (by omega)] at e'
        by_cases c1 : x = (flR B dy nw k rf i).2 <;> by_cases c2 : y = (flR B dy nw k rf i).2
        · omega
        · rw [if_pos c1, if_neg c2] at e'
          have := h2 y (by omega)
          omega
        · rw [if_neg c1, if_pos c2] at e'
          have := h2 x (by omega)
          omega
        · rw [if_neg c1, if_neg c2] at e'
          exact h1 x y (by omega) (by omega) e'
      · have hj' : j < (flR B dy nw k rf i).2 + 1 := hj
        show rq (upd (flR B dy nw k rf i).1 (flR B dy nw k rf i).2 (nI i)) j < i + 1
        rw [rq_upd _ _ _ _ (by omega)]
        split
        · omega
        · have := h2 j (by omega)
          omega
    · exact ⟨h1, fun j hj => Nat.lt_succ_of_lt (h2 j hj)⟩
theorem flR_cg {n : Nat} {B : Nat → Nat → Int32} {dy nw : Nat} {k : Int32} {rf rf' : Nat → Int32} : ∀ i, (flR B dy nw k rf i).2 = (flR B dy nw k rf' i).2 ∧ ∀ j, j < (flR B dy nw k rf i).2 → (flR B dy nw k rf i).1 j = (flR B dy nw k rf' i).1 j
  | 0 => ⟨rfl, fun j hj => absurd hj (Nat.not_lt_zero j)⟩
  | i + 1 => by
    obtain ⟨h1, h2⟩ := flR_cg (n := n) (B := B) (dy := dy) (nw := nw) (k := k) (rf := rf) (rf' := rf') i
    by_cases hc : B i 1 = k ∧ ¬ dueB (B i) (nI dy) (nI nw) = 0
    · rw [flR, flR, if_pos hc, if_pos hc]
      refine ⟨by show _ + 1 = _ + 1; rw [h1], fun j hj => ?_⟩
      have hj' : j < (flR B dy nw k rf i).2 + 1 := hj
      show upd _ _ _ j = upd _ _ _ j
      rw [upd_at, upd_at, h1]
      split
      · rfl
      · exact h2 j (by rw [h1]; rw [h1] at hj'; omega)
    · rw [flR, flR, if_neg hc, if_neg hc]
      exact ⟨h1, h2⟩
theorem nsF_lt {fm : Nat → Int32} {B : Nat → Nat → Int32} {rf : Nat → Int32} {fr f : Nat} : ∀ t, f ≤ (nsF fm B rf fr f t).1 ∧ (nsF fm B rf fr f t).1 ≤ f + t
  | 0 => ⟨Nat.le_refl _, Nat.le_refl _⟩
  | t + 1 => by
    have h := nsF_lt (fm := fm) (B := B) (rf := rf) (fr := fr) (f := f) t
    rw [nsF]
    split
    · exact ⟨by show f ≤ f + 1 + t; omega, by show f + 1 + t ≤ _; omega⟩
    · exact ⟨h.1, by omega⟩
theorem nsR_lt {fm : Nat → Int32} {B : Nat → Nat → Int32} {rf : Nat → Int32} {s fr f : Nat} (h : f < s) : f ≤ nsR fm B rf s fr f ∧ nsR fm B rf s fr f < s := by
  have := nsF_lt (fm := fm) (B := B) (rf := rf) (fr := fr) (f := f) (s - (f + 1))
  unfold nsR
  omega
theorem nsF_cg {fm : Nat → Int32} {B : Nat → Nat → Int32} {rf rf' : Nat → Int32} {s fr f : Nat} (h : ∀ j, j < s → rf j = rf' j) (hf : f < s) : ∀ t, f + t < s → nsF fm B rf fr f t = nsF fm B rf' fr f t
  | 0, _ => by
    show (f, drvR fm B rf fr f) = (f, drvR fm B rf' fr f)
    unfold drvR rq
    rw [h f hf]
  | t + 1, ht => by
    have ih := nsF_cg (fm := fm) (B := B) (fr := fr) h hf t (by omega)
    have hl := nsF_lt (fm := fm) (B := B) (rf := rf') (fr := fr) (f := f) t
    have hd : drvR fm B rf fr (f + 1 + t) = drvR fm B rf' fr (f + 1 + t) := by
      unfold drvR rq
      rw [h _ (by omega)]
    rw [nsF, nsF, ih, hd, h (f + 1 + t) (by omega), h (nsF fm B rf' fr f t).1 (by omega)]
theorem nsR_cg {fm : Nat → Int32} {B : Nat → Nat → Int32} {rf rf' : Nat → Int32} {s fr f : Nat} (h : ∀ j, j < s → rf j = rf' j) (hf : f < s) : nsR fm B rf s fr f = nsR fm B rf' s fr f := by
  unfold nsR
  rw [nsF_cg h hf _ (by omega)]
theorem srF_cg {fm : Nat → Int32} {B : Nat → Nat → Int32} {rf rf' : Nat → Int32} {s : Nat} (h : ∀ j, j < s → rf j = rf' j) : ∀ i, i ≤ s → (srF fm B rf s i).2 = (srF fm B rf' s i).2 ∧ ∀ j, j < s → (srF fm B rf s i).1 j = (srF fm B rf' s i).1 j
  | 0, _ => ⟨rfl, h⟩
  | i + 1, hi => by
    obtain ⟨h1, h2⟩ := srF_cg (fm := fm) (B := B) h i (by omega)
    rw [srF, srF]
    generalize srF fm B rf s i = u at h1 h2 ⊢
    generalize srF fm B rf' s i = v at h1 h2 ⊢
    have h3 := nsR_cg (fm := fm) (B := B) (fr := u.2) (f := i) h2 (by omega)
    have h4 := (nsR_lt (fm := fm) (B := B) (rf := v.1) (s := s) (fr := u.2) (f := i) (by omega)).2
    have h5 : rq u.1 (nsR fm B v.1 s u.2 i) = rq v.1 (nsR fm B v.1 s u.2 i) := by
      unfold rq
      rw [h2 _ h4]
    refine ⟨?_, fun j hj => ?_⟩
    · show plc B (rq u.1 (nsR fm B u.1 s u.2 i)) = plc B (rq v.1 (nsR fm B v.1 s v.2 i))
      rw [h3, h5, h1]
    · show upd (upd u.1 (nsR fm B u.1 s u.2 i) (u.1 i)) i (nI (rq u.1 (nsR fm B u.1 s u.2 i))) j = upd (upd v.1 (nsR fm B v.1 s v.2 i) (v.1 i)) i (nI (rq v.1 (nsR fm B v.1 s v.2 i))) j
      rw [h3, h5, ← h1, upd_at, upd_at, upd_at, upd_at, h2 i (by omega), h2 j hj]
theorem srF_ok {fm : Nat → Int32} {B : Nat → Nat → Int32} {rf : Nat → Int32} {s n : Nat} (hr : ROK rf s n) (hd : NDP rf s) (hn : n ≤ 16) : ∀ i, i ≤ s → ROK (srF fm B rf s i).1 s n ∧ NDP (srF fm B rf s i).1 s
  | 0, _ => ⟨hr, hd⟩
  | i + 1, hi => by
    obtain ⟨h1, h2⟩ := srF_ok (fm := fm) (B := B) hr hd hn i (by omega)
    rw [srF]
    generalize srF fm B rf s i = u at h1 h2 ⊢
    have h4 := (nsR_lt (fm := fm) (B := B) (rf := u.1) (s := s) (fr := u.2) (f := i) (by omega)).2
    generalize nsR fm B u.1 s u.2 i = m at h4 ⊢
    refine ⟨h1.swap h4 (by omega) hn, fun x y hx hy e => ?_⟩
    have e' : rq (upd (upd u.1 m (u.1 i)) i (nI (rq u.1 m))) x = rq (upd (upd u.1 m (u.1 i)) i (nI (rq u.1 m))) y := e
    have hm := h1 m h4
    have hi2 := h1 i (by omega)
    rw [hi2.1, rq_upd _ _ _ _ (by omega), rq_upd _ _ _ _ (by omega), rq_upd _ _ _ _ (by omega), rq_upd _ _ _ _ (by omega)] at e'
    by_cases c1 : x = i <;> by_cases c2 : y = i
    · omega
    · rw [if_pos c1, if_neg c2] at e'
      by_cases c3 : y = m
      · rw [if_pos c3] at e'
        have := h2 m i h4 (by omega) e'
        omega
      · rw [if_neg c3] at e'
        have := h2 m y h4 hy e'
        omega
    · rw [if_neg c1, if_pos c2] at e'
      by_cases c3 : x = m
      · rw [if_pos c3] at e'
        have := h2 i m (by omega) h4 e'
        omega
      · rw [if_neg c3] at e'
        have := h2 x m hx h4 e'
        omega
    · rw [if_neg c1, if_neg c2] at e'
      by_cases c3 : x = m <;> by_cases c4 : y = m
      · omega
      · rw [if_pos c3, if_neg c4] at e'
        have := h2 i y (by omega) hy e'
        omega
      · rw [if_neg c3, if_pos c4] at e'
        have := h2 x i hx (by omega) e'
        omega
      · rw [if_neg c3, if_neg c4] at e'
        exact h2 x y hx hy e'
theorem plan_ok {fm : Nat → Int32} {B : Nat → Nat → Int32} {dy nw : Nat} {k : Int32} {rf : Nat → Int32} {n : Nat} (hn : n ≤ 16) : ROK (plR fm B dy nw k rf n) (plS B dy nw k rf n) n ∧ NDP (plR fm B dy nw k rf n) (plS B dy nw k rf n) ∧ plS B dy nw k rf n ≤ n := by
  have h := srF_ok (fm := fm) (B := B) (flR_ok (B := B) (dy := dy) (nw := nw) (k := k) (rf := rf) hn n (Nat.le_refl _)).2 (flR_nd hn n (Nat.le_refl _)).1 hn _ (Nat.le_refl _)
  exact ⟨h.1, h.2, (flR_ok hn n (Nat.le_refl _)).1⟩
theorem plan_cg {fm : Nat → Int32} {B : Nat → Nat → Int32} {dy nw : Nat} {k : Int32} {rf rf' : Nat → Int32} {n : Nat} : plS B dy nw k rf n = plS B dy nw k rf' n ∧ ∀ j, j < plS B dy nw k rf n → plR fm B dy nw k rf n j = plR fm B dy nw k rf' n j := by
  have h := flR_cg (n := n) (B := B) (dy := dy) (nw := nw) (k := k) (rf := rf) (rf' := rf') n
  refine ⟨h.1, fun j hj => ?_⟩
  have h2 := (srF_cg (fm := fm) (B := B) h.2 _ (Nat.le_refl _)).2 j hj
  unfold plR plS
  rw [h2, h.1]


