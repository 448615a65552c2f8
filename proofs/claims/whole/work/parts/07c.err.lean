/-! doubles: a quotient of two ints, the divisor no zero, is no NaN -/
theorem dd_asm (s : Bool) (e t : Nat) (he : e ≤ 2046) (ht : t < 4503599627370496) : (FP.Core.assemble FP.Core.b64 s e t) % 18446744073709551616 % 9223372036854775808 = e * 4503599627370496 + t ∧ FP.Core.assemble FP.Core.b64 s e t < 18446744073709551616 := by
  have h1 : FP.Core.assemble FP.Core.b64 s e t = (s.toNat * 2048 + e) * 4503599627370496 + t := rfl
  rw [h1]
  cases s
  · show ((0 * 2048 + e) * 4503599627370496 + t) % 18446744073709551616 % 9223372036854775808 = _ ∧ (0 * 2048 + e) * 4503599627370496 + t < _
    omega
  · show ((1 * 2048 + e) * 4503599627370496 + t) % 18446744073709551616 % 9223372036854775808 = _ ∧ (1 * 2048 + e) * 4503599627370496 + t < _
    omega
/-- data that an encoding without NaN is of -/
def DOK : FP.Core.Datum → Prop
  | .nan => False
  | .inf _ => True
  | .fin _ c q => c < 9007199254740992 ∧ q ≤ 971
theorem dd_enc (d : FP.Core.Datum) (h : DOK d) : (FP.Core.encode FP.Core.b64 d) % 18446744073709551616 % 9223372036854775808 ≤ 9218868437227405312 := by
  cases d with
  | nan => exact absurd h (fun q => q)
  | inf s =>
    have h1 : FP.Core.encode FP.Core.b64 (.inf s) = (s.toNat * 2048 + 2047) * 4503599627370496 + 0 := rfl
    rw [h1]
    cases s
    · show ((0 * 2048 + 2047) * 4503599627370496 + 0) % 18446744073709551616 % 9223372036854775808 ≤ _
      omega
    · show ((1 * 2048 + 2047) * 4503599627370496 + 0) % 18446744073709551616 % 9223372036854775808 ≤ _
      omega
  | fin s c q =>
    obtain ⟨hc, hq⟩ := h
    have h1 : FP.Core.encode FP.Core.b64 (.fin s c q) = if c < 4503599627370496 then FP.Core.assemble FP.Core.b64 s 0 c else FP.Core.assemble FP.Core.b64 s ((q - (-1074)).toNat + 1) (c - 4503599627370496) := rfl
    rw [h1]
    split
    · next h2 =>
      rw [(dd_asm s 0 c (by omega) h2).1]
      omega
    · next h2 =>
      rw [(dd_asm s ((q - (-1074)).toNat + 1) (c - 4503599627370496) (by omega) (by omega)).1]
      omega
theorem dd_bound (s : Bool) (c : Nat) (q : Int) (hc : c < 9007199254740992) : DOK (FP.Core.bound FP.Core.b64 s c q) := by
  have h1 : FP.Core.bound FP.Core.b64 s c q = if q ≤ 971 then .fin s c q else .inf s := rfl
  rw [h1]
  split
  · next h => exact ⟨hc, h⟩
  · trivial
theorem dd_settle (s : Bool) (c : Nat) (q : Int) : DOK (FP.Core.settle FP.Core.b64 s c q) := by
  have h1 : FP.Core.settle FP.Core.b64 s c q = if c < 9007199254740992 then FP.Core.bound FP.Core.b64 s c q else FP.Core.bound FP.Core.b64 s 4503599627370496 (q + 1) := rfl
  rw [h1]
  split
  · next h => exact dd_bound s c q h
  · exact dd_bound s _ _ (by decide)
theorem dd_ratio (s : Bool) (num den : Nat) (e : Int) : DOK (FP.Core.roundRatio FP.Core.b64 s num den e) := by
  unfold FP.Core.roundRatio
  split
  · exact ⟨(show (0 : Nat) < 9007199254740992 by decide), (show (FP.Core.Fmt.qmin FP.Core.b64) ≤ 971 by decide)⟩
  · exact dd_settle _ _ _
/-- a whole number's datum: finite, not a zero if the number is none -/
def DNZ (z : Bool) : FP.Core.Datum → Prop
  | .nan => False
  | .inf _ => False
  | .fin _ c _ => z = true → c ≠ 0
theorem dd_near (n : Nat) : FP.Core.nearest n 1 = n := by
  unfold FP.Core.nearest
  rw [Nat.mod_one, Nat.div_one]
  rfl
theorem dd_lead (n : Nat) (hn : 0 < n) (h : n ≤ 2147483648) : FP.Core.leading n 1 ≤ 31 := by
  have h1 : n.log2 ≤ 31 := by
    have := (Nat.log2_lt (by omega)).mpr (show n < 2 ^ 32 by omega)
    omega
  have h2 : Nat.log2 1 = 0 := by decide +kernel
  unfold FP.Core.leading
  rw [h2]
  dsimp only
  split <;> omega
theorem dd_int (x : Int) (h : x.natAbs ≤ 2147483648) : ∃ (s : Bool) (c : Nat) (q : Int), FP.Core.round FP.Core.b64 (FP.Core.ofInt x) = .fin s c q ∧ c < 9007199254740992 ∧ q ≤ 0 ∧ (x ≠ 0 → c ≠ 0) := by
  have h0 : FP.Core.round FP.Core.b64 (FP.Core.ofInt x) = FP.Core.roundRatio FP.Core.b64 (decide (x < 0)) x.natAbs 1 0 := rfl
  rw [h0]
  generalize decide (x < 0) = s
  unfold FP.Core.roundRatio
  by_cases hz : x.natAbs = 0
  · rw [if_pos hz]
    exact ⟨s, 0, _, rfl, by decide, (show (FP.Core.Fmt.qmin FP.Core.b64) ≤ 0 by decide), fun hx => absurd (Int.natAbs_eq_zero.mp hz) hx⟩
  · rw [if_neg hz]
    have hl := dd_lead x.natAbs (by omega) h
    obtain ⟨q, hq⟩ : ∃ q, q = FP.Core.quantum FP.Core.b64 x.natAbs 1 0 := ⟨_, rfl⟩
    have hq2 : q ≤ -21 := by
      rw [hq]
      have e1 : FP.Core.quantum FP.Core.b64 x.natAbs 1 0 = max (-1074) (FP.Core.leading x.natAbs 1 + 0 - ((53 : Int) - 1)) := rfl
      rw [e1]
      omega
    rw [← hq]
    have e2 : FP.Core.roundAt FP.Core.b64 s x.natAbs 1 0 q = FP.Core.settle FP.Core.b64 s (FP.Core.nearest (x.natAbs * 2 ^ (0 - q).toNat) (1 * 2 ^ (q - 0).toNat)) q := rfl
    rw [e2, show (q - 0).toNat = 0 by omega, Nat.pow_zero, Nat.mul_one, dd_near]
    have hpos : 0 < x.natAbs * 2 ^ (0 - q).toNat := Nat.mul_pos (by omega) (Nat.pow_pos (by decide))
    generalize x.natAbs * 2 ^ (0 - q).toNat = c at hpos ⊢
    have e3 : FP.Core.settle FP.Core.b64 s c q = if c < 9007199254740992 then (if q ≤ 971 then .fin s c q else .inf s) else (if q + 1 ≤ 971 then .fin s 4503599627370496 (q + 1) else .inf s) := rfl
    rw [e3]
    by_cases hc : c < 9007199254740992
    · rw [if_pos hc, if_pos (by omega)]
      exact ⟨s, c, q, rfl, hc, by omega, fun _ => by omega⟩
    · rw [if_neg hc, if_pos (by omega)]
      exact ⟨s, _, _, rfl, by decide, by omega, fun _ => by decide⟩
theorem dd_dec (s : Bool) (c : Nat) (q : Int) (hc : c < 9007199254740992) (hq : q ≤ 0) : ∃ (t : Bool) (d : Nat) (r : Int), FP.Core.decode FP.Core.b64 ((FP.Core.encode FP.Core.b64 (.fin s c q)) % 18446744073709551616) = .fin t d r ∧ (c ≠ 0 → d ≠ 0) := by
  have h1 : FP.Core.encode FP.Core.b64 (.fin s c q) = if c < 4503599627370496 then FP.Core.assemble FP.Core.b64 s 0 c else FP.Core.assemble FP.Core.b64 s ((q - (-1074)).toNat + 1) (c - 4503599627370496) := rfl
  have key : ∀ (e t : Nat), e ≤ 2046 → t < 4503599627370496 → ∃ (t2 : Bool) (d : Nat) (r : Int), FP.Core.decode FP.Core.b64 ((FP.Core.assemble FP.Core.b64 s e t) % 18446744073709551616) = .fin t2 d r ∧ d = (if e = 0 then t else 4503599627370496 + t) := by
    intro e t he ht
    obtain ⟨n, hn⟩ : ∃ n, n = (FP.Core.assemble FP.Core.b64 s e t) % 18446744073709551616 := ⟨_, rfl⟩
    have ha := dd_asm s e t he ht
    rw [← hn] at ha
    have hE : n / 4503599627370496 % 2048 = e := by omega
    have hT : n % 4503599627370496 = t := by omega
    rw [← hn]
    have e0 : FP.Core.decode FP.Core.b64 n = if n / 4503599627370496 % 2048 = 2047 then (if n % 4503599627370496 = 0 then .inf (FP.Core.fieldS FP.Core.b64 n) else .nan) else if n / 4503599627370496 % 2048 = 0 then .fin (FP.Core.fieldS FP.Core.b64 n) (n % 4503599627370496) (-1074) else .fin (FP.Core.fieldS FP.Core.b64 n) (4503599627370496 + n % 4503599627370496) ((-1074) + (((n / 4503599627370496 % 2048 : Nat) : Int) - 1)) := rfl
    rw [e0, hE, hT, if_neg (by omega)]
    by_cases hz : e = 0
    · rw [if_pos hz]
      exact ⟨_, _, _, rfl, by rw [if_pos hz]⟩
    · rw [if_neg hz]
      exact ⟨_, _, _, rfl, by rw [if_neg hz]⟩
  rw [h1]
  by_cases h2 : c < 4503599627370496
  · rw [if_pos h2]
    obtain ⟨t2, d, r, h3, h4⟩ := key 0 c (by omega) h2
    exact ⟨t2, d, r, h3, fun hz => by rw [h4, if_pos rfl]; exact hz⟩
  · rw [if_neg h2]
    obtain ⟨t2, d, r, h3, h4⟩ := key ((q - (-1074)).toNat + 1) (c - 4503599627370496) (by omega) (by omega)
    exact ⟨t2, d, r, h3, fun _ => by rw [h4, if_neg (by omega)]; omega⟩
theorem i32_abs (x : Int32) : x.toInt.natAbs ≤ 2147483648 := by
  have h1 := Int32.le_toInt x
  have h2 := Int32.toInt_lt x
  omega
theorem dd_i2d (x : Int32) : ∃ (t : Bool) (d : Nat) (r : Int), FP.Core.decode FP.Core.b64 (FP.i2d x).toNat = .fin t d r ∧ (x ≠ 0 → d ≠ 0) := by
  obtain ⟨s, c, q, h1, h2, h3, h4⟩ := dd_int x.toInt (i32_abs x)
  obtain ⟨t, d, r, g1, g2⟩ := dd_dec s c q h2 h3
  have e1 : (FP.i2d x).toNat = (FP.Core.encode FP.Core.b64 (FP.Core.round FP.Core.b64 (FP.Core.ofInt x.toInt))) % 18446744073709551616 := rfl
  rw [e1, h1]
  exact ⟨t, d, r, g1, fun hx => g2 (h4 (fun q => hx (Int32.toInt_inj.mp (by rw [q]; rfl))))⟩
theorem dd_ok {x y : Int32} (h : ¬ y = 0) : vf_n64 (FP.ddiv (FP.i2d x) (FP.i2d y)) := by
  obtain ⟨s, c, q, h1, -⟩ := dd_i2d x
  obtain ⟨t, d, r, g1, g2⟩ := dd_i2d y
  have hd := g2 h
  have e1 : (FP.ddiv (FP.i2d x) (FP.i2d y)).toNat = (FP.Core.encode FP.Core.b64 (FP.Core.quotient FP.Core.b64 (FP.Core.decode FP.Core.b64 (FP.i2d x).toNat) (FP.Core.decode FP.Core.b64 (FP.i2d y).toNat))) % 18446744073709551616 := rfl
  rw [h1, g1] at e1
  have e2 : FP.Core.quotient FP.Core.b64 (.fin s c q) (.fin t d r) = if d = 0 then (if c = 0 then .nan else .inf (s != t)) else FP.Core.roundRatio FP.Core.b64 (s != t) c d (q - r) := rfl
  rw [e2, if_neg hd] at e1
  have h3 := dd_enc _ (dd_ratio (s != t) c d (q - r))
  rw [← e1] at h3
  unfold vf_n64
  rw [UInt64.le_iff_toNat_le, UInt64.toNat_and]
  have e3 : (0x7fffffffffffffff : UInt64).toNat = 2 ^ 63 - 1 := rfl
  have e4 : (0x7ff0000000000000 : UInt64).toNat = 9218868437227405312 := rfl
  rw [e3, e4, Nat.and_two_pow_sub_one_eq_mod]
  exact h3
/-- a double compared with itself -/
theorem dd_self (x : UInt64) : Op.cmpValue (FP.dcmp x x) CmpOp.l = 0 ∨ Op.cmpValue (FP.dcmp x x) CmpOp.l = -1 := by
  have h1 : FP.dcmp x x = none ∨ FP.dcmp x x = some Ordering.eq := by
    show FP.Core.order (FP.Core.decode FP.Core.b64 x.toNat) (FP.Core.decode FP.Core.b64 x.toNat) = none ∨ FP.Core.order (FP.Core.decode FP.Core.b64 x.toNat) (FP.Core.decode FP.Core.b64 x.toNat) = some Ordering.eq
    cases FP.Core.decode FP.Core.b64 x.toNat with
    | nan => exact Or.inl rfl
    | inf s => exact Or.inr (by cases s <;> rfl)
    | fin s c q =>
      refine Or.inr ?_
      exact congrArg some ((show ∀ z : Int, compare z z = Ordering.eq from fun z => by simp [compare, compareOfLessAndEq]) _)
  rcases h1 with q | q <;> rw [q]
  · exact Or.inr rfl
  · exact Or.inl rfl
def abI (x : Int32) : Int32 := if 0 ≤ x then x else 0 - x
def erD (B : Nat → Nat → Int32) (d : Int32) : Nat → Int32
  | 0 => 0
  | i + 1 => erD B d i + abI (fcst (B i 2) (B i 5) (B i 6) d - B i 4)
def erS (B : Nat → Nat → Int32) : Nat → Int32
  | 0 => 0
  | i + 1 => erS B i + B i 2
def errF (B : Nat → Nat → Int32) (n : Nat) (d : Int32) : UInt64 := if erS B n = 0 then FP.dconst0 else FP.ddiv (FP.i2d (erD B d n)) (FP.i2d (erS B n))
theorem in_X3_error_X0 : ∀ w ∈ wsX00, w ∈ wsX3_error := by decide +kernel
theorem in_X3_error_X3 : ∀ w ∈ wsX30, w ∈ wsX3_error := by decide +kernel
theorem lk_X3_error_cl113 : Cond.classLink RX3 113 RX0 ∈ wsX3_error := by decide +kernel
theorem lk_X3_error_f19 : Cond.fieldLink RX3 19 (TX3 1).1 (TX3 1).2.1 (TX3 1).2.2.1 ∈ wsX3_error := by decide +kernel
theorem lk_X3_error_f42 : Cond.fieldLink RX3 42 (TX3 7).1 (TX3 7).2.1 (TX3 7).2.2.1 ∈ wsX3_error := by decide +kernel
theorem lk_X3_error_iabs : Cond.initialized "java/lang/Math" ∈ wsX3_error := by decide +kernel
theorem lk_X3_error_kabs : Cond.code Lib.Math.abs.name Lib.Math.abs.code 1 (some .int) ∈ wsX3_error := by decide +kernel
theorem lk_X3_error_m181 : Cond.methodLink RX3 181 Lib.Math.abs.name ∈ wsX3_error := by decide +kernel
theorem lk_X3_error_sabs : Cond.static Lib.Math.abs.name ∈ wsX3_error := by decide +kernel
theorem in_X4_error_X4 : ∀ w ∈ wsX40, w ∈ wsX4_error := by decide +kernel
theorem lk_X4_error_f30 : Cond.fieldLink RX4 30 (TX4 9).1 (TX4 9).2.1 (TX4 9).2.2.1 ∈ wsX4_error := by decide +kernel
theorem lk_X4_error_f36 : Cond.fieldLink RX4 36 (TX4 11).1 (TX4 11).2.1 (TX4 11).2.2.1 ∈ wsX4_error := by decide +kernel
theorem lk_X4_error_f64 : Cond.fieldLink RX4 64 (TX4 0).1 (TX4 0).2.1 (TX4 0).2.2.1 ∈ wsX4_error := by decide +kernel
theorem lk_X4_error_f71 : Cond.fieldLink RX4 71 (TX4 6).1 (TX4 6).2.1 (TX4 6).2.2.1 ∈ wsX4_error := by decide +kernel
theorem lk_X4_error_f93 : Cond.fieldLink RX4 93 (TX4 5).1 (TX4 5).2.1 (TX4 5).2.2.1 ∈ wsX4_error := by decide +kernel
theorem lk_X4_error_iabs : Cond.initialized "java/lang/Math" ∈ wsX4_error := by decide +kernel
theorem lk_X4_error_kabs : Cond.code Lib.Math.abs.name Lib.Math.abs.code 1 (some .int) ∈ wsX4_error := by decide +kernel
theorem lk_X4_error_m142 : Cond.methodLink RX4 142 Lib.Math.abs.name ∈ wsX4_error := by decide +kernel
theorem lk_X4_error_sabs : Cond.static Lib.Math.abs.name ∈ wsX4_error := by decide +kernel
abbrev rmX3_error : Room := { frames := 3, cells := 0, slots := 0, locals := 64 }
set_option maxHeartbeats 4000000 in
set_option maxRecDepth 100000 in
theorem m_X3_error (l : Launch) (g : Gx) (a : Nat → Nat) (sn : Nat) (dy : Nat) (mc : Int32) (ed : Nat) (n : Nat) (cap : Nat) (ad : Nat → Nat) (B : Nat → Nat → Int32) (hn : n ≤ 16) (hc : n ≤ cap) (hcap : cap ≤ 26) (sz : Nat) : Met l yX3_error wsX3_error rmX3_error (PZ g [.ref (a 0)] sz ([(a 0, .inr (4, [.ref (a 1), .ref (a 4), .ref (a 5), .ref (a 6), .ref (a 7), .ref (a 8), .int (nI sn), .int (nI dy)])), (a 4, .inr (0, [.int mc, .ref ed, .int (nI n)]))] ++ bp g n ed cap ad B) []) (va_Qd (fun (r : UInt64) (_ : Unit) => r = errF B n (nI dy)) (BZ g ([(a 0, .inr (4, [.ref (a 1), .ref (a 4), .ref (a 5), .ref (a 6), .ref (a 7), .ref (a 8), .int (nI sn), .int (nI dy)])), (a 4, .inr (0, [.int mc, .ref ed, .int (nI n)]))] ++ bp g n ed cap ad B) sz (fun (u : Unit) => ([(a 0, .inr (4, [.ref (a 1), .ref (a 4), .ref (a 5), .ref (a 6), .ref (a 7), .ref (a 8), .int (nI sn), .int (nI dy)])), (a 4, .inr (0, [.int mc, .ref ed, .int (nI n)]))] ++ bp g n ed cap ad B))) (va_A ([(a 0, .inr (4, [.ref (a 1), .ref (a 4), .ref (a 5), .ref (a 6), .ref (a 7), .ref (a 8), .int (nI sn), .int (nI dy)])), (a 4, .inr (0, [.int mc, .ref ed, .int (nI n)]))] ++ bp g n ed cap ad B) sz)) 0 0 (va_A ([(a 0, .inr (4, [.ref (a 1), .ref (a 4), .ref (a 5), .ref (a 6), .ref (a 7), .ref (a 8), .int (nI sn), .int (nI dy)])), (a 4, .inr (0, [.int mc, .ref ed, .int (nI n)]))] ++ bp g n ed cap ad B) sz) := by
  refine z_open_d (cc := cX3_error) (maxL := 5) (own := RX3) (by decide) rfl rfl (Nat.le_of_ble_eq_true rfl) ?_
  intro p e s m args below meth c Q h hnm fin
  generalize hAe : va_A ([(a 0, .inr (4, [.ref (a 1), .ref (a 4), .ref (a 5), .ref (a 6), .ref (a 7), .ref (a 8), .int (nI sn), .int (nI dy)])), (a 4, .inr (0, [.int mc, .ref ed, .int (nI n)]))] ++ bp g n ed cap ad B) s.heap.size = A at h fin ⊢
  refine z_lve (lv' := [(0, .ref (a 0))]) rfl ?_
  refine z_iconst h (v := 0) dX3_error_0 (by decide) ?_
  refine z_istore_n h dX3_error_1 rfl (by decide) (lv' := [(0, .ref (a 0)), (1, .int 0)]) [1, 0] rfl ?_
  refine z_iconst h (v := 0) dX3_error_2 (by decide) ?_
  refine z_istore_n h dX3_error_3 rfl (by decide) (lv' := [(0, .ref (a 0)), (1, .int 0), (2, .int 0)]) [1, 2, 0] rfl ?_
  refine z_iconst h (v := 0) dX3_error_4 (by decide) ?_
  refine z_istore_n h dX3_error_5 rfl (by decide) (lv' := [(0, .ref (a 0)), (1, .int 0), (2, .int 0), (3, .int 0)]) [1, 2, 3, 0] rfl ?_
  have L6 : ∀ (L6n i : Nat) , i ≤ n → n < L6n + i → Z p l e rmX3_error s m args below meth c Q A g 5 6 [(0, .ref (a 0)), (1, .int (erD B (nI dy) i)), (2, .int (erS B i)), (3, .int (nI i))] [] ([(a 0, .inr (4, [.ref (a 1), .ref (a 4), .ref (a 5), .ref (a 6), .ref (a 7), .ref (a 8), .int (nI sn), .int (nI dy)])), (a 4, .inr (0, [.int mc, .ref ed, .int (nI n)]))] ++ bp g n ed cap ad B) [] 0 0 := by
    intro L6n
    induction L6n with
    | zero => intro i  hi hL6 ; exact absurd hL6 (by omega)
    | succ L6n ihL6 =>
      intro i  hi hL6 
      refine z_iload_n h dX3_error_6 rfl 3 rfl ?_
      refine z_aload_n h dX3_error_7 rfl 0 rfl ?_
      refine z_get h in_X3_error_X3 0 rfl rfl 1 (by decide) lk_X3_error_f19 rfl dX3_error_8 ?_
      refine z_Vi h (As := []) (st := [.int (nI i)]) (fun sz => m_Jx4a65c_size_8abf5 l g (a 4) mc ed n  sz) (cwV 0 h.ts gX3_error_Jx4a65c_size_8abf5 rfl rfl rfl (by decide +kernel) ⟨Nat.le_of_ble_eq_true rfl, Nat.le_of_ble_eq_true rfl⟩) rfl [] [1] rfl rfl rfl rfl 1 rfl rfl rfl rfl (Nat.le_of_ble_eq_true rfl) ⟨(Nat.le_of_ble_eq_true rfl), (Nat.le_of_ble_eq_true rfl)⟩ (fun _ => (Nat.le_of_ble_eq_true rfl)) (wN := fun u => ([(a 0, .inr (4, [.ref (a 1), .ref (a 4), .ref (a 5), .ref (a 6), .ref (a 7), .ref (a 8), .int (nI sn), .int (nI dy)])), (a 4, .inr (0, [.int mc, .ref ed, .int (nI n)]))] ++ bp g n ed cap ad B)) (fun _ => List.append_nil _) dX3_error_11 (fun r_11 u_11 h_11 => ?_)
      refine z_topi (y := nI n) h_11 ?_
      refine z_icmp_ge h (tgt := 65) dX3_error_14 (by decide) (fun c_14 => ?_) (fun c_14 => ?_)
      · have hx0 : i = n := by have := ge_t (a := i) (b := n) c_14 (by omega) (by omega); omega
        refine z_iload_n h dX3_error_65 rfl 2 rfl ?_
        refine z_if_ne h (tgt := 73) dX3_error_66 (by decide) (fun c_66 => ?_) (fun c_66 => ?_)
        · refine z_iload_n h dX3_error_73 rfl 1 rfl ?_
          refine z_i2d h dX3_error_74 ?_
          refine z_iload_n h dX3_error_75 rfl 2 rfl ?_
          refine z_i2d h dX3_error_76 ?_
          refine z_ddiv h dX3_error_77 (dd_ok c_66) ?_
          exact fin _ _ _ () _ _ _ _ dX3_error_78 (by first | rw [errF, ← hx0, if_pos c_66] | rw [errF, ← hx0, if_neg c_66]) rfl (Nat.le_of_ble_eq_true rfl) (Nat.le_of_ble_eq_true rfl)
        · refine z_dconst0 h dX3_error_69 ?_
          refine z_goto h (tgt := 78) dX3_error_70 (by decide) ?_
          exact fin _ _ _ () _ _ _ _ dX3_error_78 (by first | rw [errF, ← hx0, if_pos c_66] | rw [errF, ← hx0, if_neg c_66]) rfl (Nat.le_of_ble_eq_true rfl) (Nat.le_of_ble_eq_true rfl)
      · have hi : i < n := ge_f (a := i) (b := n) c_14 (by omega) (by omega)
        refine z_aload_n h dX3_error_17 rfl 0 rfl ?_
        refine z_get h in_X3_error_X3 0 rfl rfl 1 (by decide) lk_X3_error_f19 rfl dX3_error_18 ?_
        refine z_iload_n h dX3_error_21 rfl 3 rfl ?_
        refine z_Vr h (As := [.int (nI i)]) (st := []) (fun sz => m_Jx4a65c_get_915e3 l g (a 4) mc ed n cap ad i hi hc (by omega) sz) (cwV 1 h.ts gX3_error_Jx4a65c_get_915e3 rfl rfl rfl (by decide +kernel) ⟨Nat.le_of_ble_eq_true rfl, Nat.le_of_ble_eq_true rfl⟩) rfl [] [1, 2] (lc rfl (lc (bp_elW (by omega)) rfl)) rfl rfl rfl 1 rfl rfl rfl rfl (Nat.le_of_ble_eq_true rfl) ⟨(Nat.le_of_ble_eq_true rfl), (Nat.le_of_ble_eq_true rfl)⟩ (fun _ => (Nat.le_of_ble_eq_true rfl)) (wN := fun u => ([(a 0, .inr (4, [.ref (a 1), .ref (a 4), .ref (a 5), .ref (a 6), .ref (a 7), .ref (a 8), .int (nI sn), .int (nI dy)])), (a 4, .inr (0, [.int mc, .ref ed, .int (nI n)]))] ++ bp g n ed cap ad B)) (fun _ => List.append_nil _) dX3_error_22 (fun u_22 h_22 => ?_)
        refine z_cast h lk_X3_error_cl113 (2 + (i + 1)) (bp_atW (by omega)) rfl dX3_error_25 ?_
        refine z_astore h dX3_error_28 (by decide) (lv' := [(0, .ref (a 0)), (1, .int (erD B (nI dy) i)), (2, .int (erS B i)), (3, .int (nI i)), (4, .ref (ad i))]) [1, 2, 3, 4, 0] rfl ?_
        refine z_iload_n h dX3_error_30 rfl 1 rfl ?_
        refine z_aload h dX3_error_31 4 rfl ?_
        refine z_aload_n h dX3_error_33 rfl 0 rfl ?_
        refine z_get h in_X3_error_X3 0 rfl rfl 7 (by decide) lk_X3_error_f42 rfl dX3_error_34 ?_
        refine z_Vi h (As := [.int (nI dy)]) (st := [.int (erD B (nI dy) i)]) (fun sz => m_X0_forecast l g (ad i) (B i) (nI dy)  sz) (cwV 1 h.ts gX3_error_X0_forecast rfl rfl rfl (by decide +kernel) ⟨Nat.le_of_ble_eq_true rfl, Nat.le_of_ble_eq_true rfl⟩) rfl [] [(2 + (i + 1))] (lc (bp_atW (by omega)) rfl) rfl (by simp [va_nd]; try omega) (by simp [va_nd]) (2 + (i + 1)) (bp_atW (by omega)) rfl rfl rfl (Nat.le_of_ble_eq_true rfl) ⟨(Nat.le_of_ble_eq_true rfl), (Nat.le_of_ble_eq_true rfl)⟩ (fun _ => (Nat.le_of_ble_eq_true rfl)) (wN := fun u => ([(a 0, .inr (4, [.ref (a 1), .ref (a 4), .ref (a 5), .ref (a 6), .ref (a 7), .ref (a 8), .int (nI sn), .int (nI dy)])), (a 4, .inr (0, [.int mc, .ref ed, .int (nI n)]))] ++ bp g n ed cap ad B)) (fun _ => List.append_nil _) dX3_error_37 (fun r_37 u_37 h_37 => ?_)
        refine z_topi (y := fcst (B i 2) (B i 5) (B i 6) (nI dy)) h_37 ?_
        refine z_aload h dX3_error_40 4 rfl ?_
        refine z_getN h in_X3_error_X0 (2 + (i + 1)) (bp_atW (by omega)) rfl 4 (by decide) (by decide) rfl dX3_error_42 ?_
        refine z_isub h dX3_error_45 ?_
        refine z_mabs h lk_X3_error_m181 lk_X3_error_sabs lk_X3_error_iabs lk_X3_error_kabs (Nat.le_of_ble_eq_true rfl) (Nat.le_of_ble_eq_true rfl) (Nat.le_of_ble_eq_true rfl) (Nat.le_of_ble_eq_true rfl) dX3_error_46 ?_
        refine z_topi (y := abI (fcst (B i 2) (B i 5) (B i 6) (nI dy) - B i 4)) rfl ?_
        refine z_iadd h dX3_error_49 ?_
        refine z_istore_n h dX3_error_50 rfl (by decide) (lv' := [(0, .ref (a 0)), (1, .int ((erD B (nI dy) i) + (abI (fcst (B i 2) (B i 5) (B i 6) (nI dy) - B i 4)))), (2, .int (erS B i)), (3, .int (nI i)), (4, .ref (ad i))]) [1, 0, 2, 3, 4] rfl ?_
        refine z_iload_n h dX3_error_51 rfl 2 rfl ?_
        refine z_aload h dX3_error_52 4 rfl ?_
        refine z_getN h in_X3_error_X0 (2 + (i + 1)) (bp_atW (by omega)) rfl 2 (by decide) (by decide) rfl dX3_error_54 ?_
        refine z_iadd h dX3_error_57 ?_
        refine z_istore_n h dX3_error_58 rfl (by decide) (lv' := [(0, .ref (a 0)), (1, .int ((erD B (nI dy) i) + (abI (fcst (B i 2) (B i 5) (B i 6) (nI dy) - B i 4)))), (2, .int ((erS B i) + (B i 2))), (3, .int (nI i)), (4, .ref (ad i))]) [1, 2, 0, 3, 4] rfl ?_
        refine z_iinc h (v := nI (i + 1)) dX3_error_59 (by decide) 3 rfl (by rw [show Int32.ofInt 1 = nI 1 from rfl, nI_add]) (lv' := [(0, .ref (a 0)), (1, .int ((erD B (nI dy) i) + (abI (fcst (B i 2) (B i 5) (B i 6) (nI dy) - B i 4)))), (2, .int ((erS B i) + (B i 2))), (3, .int (nI (i + 1))), (4, .ref (ad i))]) [1, 2, 3, 0, 4] rfl ?_
        refine z_goto h (tgt := 6) dX3_error_62 (by decide) ?_
        refine z_lv [0, 1, 2, 3] (lv' := [(0, .ref (a 0)), (1, .int ((erD B (nI dy) i) + (abI (fcst (B i 2) (B i 5) (B i 6) (nI dy) - B i 4)))), (2, .int ((erS B i) + (B i 2))), (3, .int (nI (i + 1)))]) rfl ?_
        exact ihL6 (i + 1)  (by omega) (by omega) 
  exact L6 (n + 1 - 0) 0  (by omega) (by omega) 
abbrev rmX4_error : Room := { frames := 2, cells := 0, slots := 0, locals := 43 }
set_option maxHeartbeats 4000000 in
set_option maxRecDepth 100000 in
theorem m_X4_error (l : Launch) (g : Gx) (cm : Nat → Nat) (th : Int32) (pl : Nat) (dy : Nat) (n : Nat) (sn : Nat) (B : Nat → Nat → Int32) (hn : n ≤ 16) (hs : erS B n = 0 → n = 0) (sz : Nat) : Met l yX4_error wsX4_error rmX4_error (PZ g [.ref (cm 0)] sz [(cm 0, .inr (5, [.int th, .int (nI pl), .ref (cm 1), .ref (cm 2), .ref (cm 3), .int (nI dy), .int (nI n), .ref (cm 4), .ref (cm 5), .ref (cm 6), .ref (cm 7), .ref (cm 8), .ref (cm 9), .ref (cm 10), .ref (cm 11), .ref (cm 12), .ref (cm 13), .ref (cm 14), .ref (cm 15), .int (nI sn), .ref (cm 16)]))] [(cm 6, .inl (g.2.1, 16, .inl (col B 2))), (cm 8, .inl (g.2.1, 16, .inl (col B 4))), (cm 9, .inl (g.2.1, 16, .inl (col B 5))), (cm 10, .inl (g.2.1, 16, .inl (col B 6)))]) (va_Qd (fun (r : UInt64) (_ : Unit) => r = errF B n (nI dy)) (BZ g [(cm 0, .inr (5, [.int th, .int (nI pl), .ref (cm 1), .ref (cm 2), .ref (cm 3), .int (nI dy), .int (nI n), .ref (cm 4), .ref (cm 5), .ref (cm 6), .ref (cm 7), .ref (cm 8), .ref (cm 9), .ref (cm 10), .ref (cm 11), .ref (cm 12), .ref (cm 13), .ref (cm 14), .ref (cm 15), .int (nI sn), .ref (cm 16)]))] sz (fun (u : Unit) => [(cm 0, .inr (5, [.int 0, .int (nI pl), .ref (cm 1), .ref (cm 2), .ref (cm 3), .int (nI dy), .int (nI n), .ref (cm 4), .ref (cm 5), .ref (cm 6), .ref (cm 7), .ref (cm 8), .ref (cm 9), .ref (cm 10), .ref (cm 11), .ref (cm 12), .ref (cm 13), .ref (cm 14), .ref (cm 15), .int (nI sn), .ref (cm 16)]))])) (va_A [(cm 0, .inr (5, [.int th, .int (nI pl), .ref (cm 1), .ref (cm 2), .ref (cm 3), .int (nI dy), .int (nI n), .ref (cm 4), .ref (cm 5), .ref (cm 6), .ref (cm 7), .ref (cm 8), .ref (cm 9), .ref (cm 10), .ref (cm 11), .ref (cm 12), .ref (cm 13), .ref (cm 14), .ref (cm 15), .int (nI sn), .ref (cm 16)]))] sz)) 0 0 (va_A [(cm 0, .inr (5, [.int th, .int (nI pl), .ref (cm 1), .ref (cm 2), .ref (cm 3), .int (nI dy), .int (nI n), .ref (cm 4), .ref (cm 5), .ref (cm 6), .ref (cm 7), .ref (cm 8), .ref (cm 9), .ref (cm 10), .ref (cm 11), .ref (cm 12), .ref (cm 13), .ref (cm 14), .ref (cm 15), .int (nI sn), .ref (cm 16)]))] sz) := by
  refine z_open_d (cc := cX4_error) (maxL := 4) (own := RX4) (by decide) rfl rfl (Nat.le_of_ble_eq_true rfl) ?_
  intro p e s m args below meth c Q h hnm fin
  generalize hAe : va_A [(cm 0, .inr (5, [.int th, .int (nI pl), .ref (cm 1), .ref (cm 2), .ref (cm 3), .int (nI dy), .int (nI n), .ref (cm 4), .ref (cm 5), .ref (cm 6), .ref (cm 7), .ref (cm 8), .ref (cm 9), .ref (cm 10), .ref (cm 11), .ref (cm 12), .ref (cm 13), .ref (cm 14), .ref (cm 15), .int (nI sn), .ref (cm 16)]))] s.heap.size = A at h fin ⊢
  refine z_lve (lv' := [(0, .ref (cm 0))]) rfl ?_
  refine z_aload_n h dX4_error_0 rfl 0 rfl ?_
  refine z_iconst h (v := 0) dX4_error_1 (by decide) ?_
  refine z_put h in_X4_error_X4 0 tyX4 tyX4_ok nmX4 rfl rfl 0 (by decide) lk_X4_error_f64 rfl rfl rfl (Nat.le_of_ble_eq_true rfl) dX4_error_2 (wW' := [(cm 0, .inr (5, [.int 0, .int (nI pl), .ref (cm 1), .ref (cm 2), .ref (cm 3), .int (nI dy), .int (nI n), .ref (cm 4), .ref (cm 5), .ref (cm 6), .ref (cm 7), .ref (cm 8), .ref (cm 9), .ref (cm 10), .ref (cm 11), .ref (cm 12), .ref (cm 13), .ref (cm 14), .ref (cm 15), .int (nI sn), .ref (cm 16)]))]) rfl ?_
  refine z_iconst h (v := 0) dX4_error_5 (by decide) ?_
  refine z_istore_n h dX4_error_6 rfl (by decide) (lv' := [(0, .ref (cm 0)), (1, .int 0)]) [1, 0] rfl ?_
  refine z_iconst h (v := 0) dX4_error_7 (by decide) ?_
  refine z_istore_n h dX4_error_8 rfl (by decide) (lv' := [(0, .ref (cm 0)), (1, .int 0), (2, .int 0)]) [1, 2, 0] rfl ?_
  refine z_iconst h (v := 0) dX4_error_9 (by decide) ?_
  refine z_istore_n h dX4_error_10 rfl (by decide) (lv' := [(0, .ref (cm 0)), (1, .int 0), (2, .int 0), (3, .int 0)]) [1, 2, 3, 0] rfl ?_
  have L11 : ∀ (L11n i : Nat) , i ≤ n → n < L11n + i → Z p l e rmX4_error s m args below meth c Q A g 4 11 [(0, .ref (cm 0)), (1, .int (erD B (nI dy) i)), (2, .int (erS B i)), (3, .int (nI i))] [] [(cm 0, .inr (5, [.int 0, .int (nI pl), .ref (cm 1), .ref (cm 2), .ref (cm 3), .int (nI dy), .int (nI n), .ref (cm 4), .ref (cm 5), .ref (cm 6), .ref (cm 7), .ref (cm 8), .ref (cm 9), .ref (cm 10), .ref (cm 11), .ref (cm 12), .ref (cm 13), .ref (cm 14), .ref (cm 15), .int (nI sn), .ref (cm 16)]))] [(cm 6, .inl (g.2.1, 16, .inl (col B 2))), (cm 8, .inl (g.2.1, 16, .inl (col B 4))), (cm 9, .inl (g.2.1, 16, .inl (col B 5))), (cm 10, .inl (g.2.1, 16, .inl (col B 6)))] 0 0 := by
    intro L11n
    induction L11n with
    | zero => intro i  hi hL11 ; exact absurd hL11 (by omega)
    | succ L11n ihL11 =>
      intro i  hi hL11 
      refine z_iload_n h dX4_error_11 rfl 3 rfl ?_
      refine z_aload_n h dX4_error_12 rfl 0 rfl ?_
      refine z_get h in_X4_error_X4 0 rfl rfl 6 (by decide) lk_X4_error_f71 rfl dX4_error_13 ?_
      refine z_icmp_ge h (tgt := 56) dX4_error_16 (by decide) (fun c_16 => ?_) (fun c_16 => ?_)
      · have hx0 : i = n := by have := ge_t (a := i) (b := n) c_16 (by omega) (by omega); omega
        refine z_aload_n h dX4_error_56 rfl 0 rfl ?_
        refine z_get h in_X4_error_X4 0 rfl rfl 6 (by decide) lk_X4_error_f71 rfl dX4_error_57 ?_
        refine z_if_ne h (tgt := 67) dX4_error_60 (by decide) (fun c_60 => ?_) (fun c_60 => ?_)
        · have hn0 : ¬ n = 0 := fun q => c_60 (by rw [q]; rfl)
          have hz : ¬ erS B i = 0 := fun q => hn0 (hs (by rw [← hx0]; exact q))
          refine z_iload_n h dX4_error_67 rfl 1 rfl ?_
          refine z_i2d h dX4_error_68 ?_
          refine z_iload_n h dX4_error_69 rfl 2 rfl ?_
          refine z_i2d h dX4_error_70 ?_
          refine z_ddiv h dX4_error_71 (dd_ok hz) ?_
          exact fin _ _ _ () _ _ _ _ dX4_error_72 (by first | rw [errF, if_pos hz] | rw [errF, ← hx0, if_neg hz]) rfl (Nat.le_of_ble_eq_true rfl) (Nat.le_of_ble_eq_true rfl)
        · have hn0 : n = 0 := nI_z c_60 (by omega)
          have hz : erS B n = 0 := by subst hn0; rfl
          refine z_dconst0 h dX4_error_63 ?_
          refine z_goto h (tgt := 72) dX4_error_64 (by decide) ?_
          exact fin _ _ _ () _ _ _ _ dX4_error_72 (by first | rw [errF, if_pos hz] | rw [errF, ← hx0, if_neg hz]) rfl (Nat.le_of_ble_eq_true rfl) (Nat.le_of_ble_eq_true rfl)
      · have hl1 : i < n := ge_f (a := i) (b := n) c_16 (by omega) (by omega)
        refine z_iload_n h dX4_error_19 rfl 1 rfl ?_
        refine z_aload_n h dX4_error_20 rfl 0 rfl ?_
        refine z_iload_n h dX4_error_21 rfl 3 rfl ?_
        refine z_aload_n h dX4_error_22 rfl 0 rfl ?_
        refine z_get h in_X4_error_X4 0 rfl rfl 5 (by decide) lk_X4_error_f93 rfl dX4_error_23 ?_
        refine z_Vi h (As := [.int (nI i), .int (nI dy)]) (st := [.int (erD B (nI dy) i)]) (fun sz => m_X4_expectedOn l g cm 0 pl dy n sn B i (nI dy) (by omega) sz) (cwV 2 h.ts gX4_error_X4_expectedOn rfl rfl rfl (by decide +kernel) ⟨Nat.le_of_ble_eq_true rfl, Nat.le_of_ble_eq_true rfl⟩) rfl [] [0, 1, 3, 4] rfl rfl rfl rfl 0 rfl rfl rfl rfl (Nat.le_of_ble_eq_true rfl) ⟨(Nat.le_of_ble_eq_true rfl), (Nat.le_of_ble_eq_true rfl)⟩ (fun _ => (Nat.le_of_ble_eq_true rfl)) (wN := fun u => [(cm 0, .inr (5, [.int 0, .int (nI pl), .ref (cm 1), .ref (cm 2), .ref (cm 3), .int (nI dy), .int (nI n), .ref (cm 4), .ref (cm 5), .ref (cm 6), .ref (cm 7), .ref (cm 8), .ref (cm 9), .ref (cm 10), .ref (cm 11), .ref (cm 12), .ref (cm 13), .ref (cm 14), .ref (cm 15), .int (nI sn), .ref (cm 16)]))]) (fun _ => rfl) dX4_error_26 (fun r_26 u_26 h_26 => ?_)
        refine z_topi (y := fcst (B i 2) (B i 5) (B i 6) (nI dy)) h_26 ?_
        refine z_aload_n h dX4_error_29 rfl 0 rfl ?_
        refine z_get h in_X4_error_X4 0 rfl rfl 11 (by decide) lk_X4_error_f36 rfl dX4_error_30 ?_
        refine z_iload_n h dX4_error_33 rfl 3 rfl ?_
        refine z_iald h 2 rfl (vp_in_nI (by omega) (by omega)) dX4_error_34 (v := (col B 4) i) (by rw [nI_clamp (by omega)]) ?_
        refine z_isub h dX4_error_35 ?_
        refine z_mabs h lk_X4_error_m142 lk_X4_error_sabs lk_X4_error_iabs lk_X4_error_kabs (Nat.le_of_ble_eq_true rfl) (Nat.le_of_ble_eq_true rfl) (Nat.le_of_ble_eq_true rfl) (Nat.le_of_ble_eq_true rfl) dX4_error_36 ?_
        refine z_topi (y := abI (fcst (B i 2) (B i 5) (B i 6) (nI dy) - B i 4)) rfl ?_
        refine z_iadd h dX4_error_39 ?_
        refine z_istore_n h dX4_error_40 rfl (by decide) (lv' := [(0, .ref (cm 0)), (1, .int ((erD B (nI dy) i) + (abI (fcst (B i 2) (B i 5) (B i 6) (nI dy) - B i 4)))), (2, .int (erS B i)), (3, .int (nI i))]) [1, 0, 2, 3] rfl ?_
        refine z_iload_n h dX4_error_41 rfl 2 rfl ?_
        refine z_aload_n h dX4_error_42 rfl 0 rfl ?_
        refine z_get h in_X4_error_X4 0 rfl rfl 9 (by decide) lk_X4_error_f30 rfl dX4_error_43 ?_
        refine z_iload_n h dX4_error_46 rfl 3 rfl ?_
        refine z_iald h 1 rfl (vp_in_nI (by omega) (by omega)) dX4_error_47 (v := (col B 2) i) (by rw [nI_clamp (by omega)]) ?_
        refine z_iadd h dX4_error_48 ?_
        refine z_istore_n h dX4_error_49 rfl (by decide) (lv' := [(0, .ref (cm 0)), (1, .int ((erD B (nI dy) i) + (abI (fcst (B i 2) (B i 5) (B i 6) (nI dy) - B i 4)))), (2, .int ((erS B i) + ((col B 2) i))), (3, .int (nI i))]) [1, 2, 0, 3] rfl ?_
        refine z_iinc h (v := nI (i + 1)) dX4_error_50 (by decide) 3 rfl (by rw [show Int32.ofInt 1 = nI 1 from rfl, nI_add]) (lv' := [(0, .ref (cm 0)), (1, .int ((erD B (nI dy) i) + (abI (fcst (B i 2) (B i 5) (B i 6) (nI dy) - B i 4)))), (2, .int ((erS B i) + ((col B 2) i))), (3, .int (nI (i + 1)))]) [1, 2, 3, 0] rfl ?_
        refine z_goto h (tgt := 11) dX4_error_53 (by decide) ?_
        exact ihL11 (i + 1)  (by omega) (by omega) 
  exact L11 (n + 1 - 0) 0  (by omega) (by omega) 
