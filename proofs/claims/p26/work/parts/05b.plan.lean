abbrev SL3 : List (Nat × String) := [(50, "there are 10 places"), (65, "the places are the same"), (90, "it is the last tip for this kind"), (101, "it would be later than day 399"), (106, "no bin stands at the depot"), (111, "there are 16 bins"), (135, "what is not 0 to 7"), (150, "no such place in the plan"), (176, "what is not 0 to 3"), (204, "no such place"), (206, "the kind is not 0 to 2"), (208, "no such bin"), (210, "a number is out of its range"), (212, "today is a holiday")]
theorem i32_nle {x y : Int32} (h : x < y) : ¬ y ≤ x := fun q => by
  have h1 := i32_lt.mp h
  have h2 := i32_le.mp q
  omega
theorem i32_nlt {x y : Int32} (h : ¬ x < y) : y ≤ x := by
  have h1 : ¬ x.toInt < y.toInt := fun q => h (i32_lt.mpr q)
  exact i32_le.mpr (by omega)
theorem i32_nlf {x y : Int32} (h : ¬ x ≤ y) : y < x := by
  have h1 : ¬ x.toInt ≤ y.toInt := fun q => h (i32_le.mpr q)
  exact i32_lt.mpr (by omega)
abbrev eI : String := "java/lang/IndexOutOfBoundsException"
abbrev eA : String := "java/lang/IllegalArgumentException"
abbrev eS : String := "java/lang/IllegalStateException"
/-- the exception classes of a method, by the law's numbers -/
def pe3 (a b c : String) (k : Int32) (E : String) : Prop := (k = 1 ∧ E = a) ∨ (k = 2 ∧ E = b) ∨ (k = 3 ∧ E = c)
theorem pe3_1 {a b c : String} {k : Int32} (h : k = 1) : pe3 a b c k a := Or.inl ⟨h, rfl⟩
theorem pe3_2 {a b c : String} {k : Int32} (h : k = 2) : pe3 a b c k b := Or.inr (Or.inl ⟨h, rfl⟩)
theorem pe3_3 {a b c : String} {k : Int32} (h : k = 3) : pe3 a b c k c := Or.inr (Or.inr ⟨h, rfl⟩)
/-- the next workday -/
def nwF (hf : Nat → Int32) : Nat → Nat → Nat
  | 0, i => i
  | f + 1, i => if hf i = 0 then i else nwF hf f (i + 1)
def nwd (hf : Nat → Int32) (dy : Nat) : Nat := nwF hf (399 - dy) (dy + 1)
theorem nwF_0 {hf : Nat → Int32} {f i : Nat} (hfu : 0 < f) (h : hf i = 0) : nwF hf f i = i := by
  cases f with
  | zero => omega
  | succ f => rw [nwF, if_pos h]
theorem nwF_1 {hf : Nat → Int32} {f i : Nat} (hfu : 0 < f) (h : ¬ hf i = 0) : nwF hf f i = nwF hf (f - 1) (i + 1) := by
  cases f with
  | zero => omega
  | succ f => rw [nwF, if_neg h, Nat.add_sub_cancel]
theorem nwF_le {hf : Nat → Int32} : ∀ (f i : Nat), i ≤ nwF hf f i ∧ nwF hf f i ≤ i + f
  | 0, i => ⟨Nat.le_refl _, Nat.le_refl _⟩
  | f + 1, i => by
    rw [nwF]
    split
    · omega
    · have := nwF_le (hf := hf) f (i + 1)
      omega
theorem nwd_le {hf : Nat → Int32} {dy : Nat} (h : dy ≤ 399) : nwd hf dy ≤ 400 := by
  have := nwF_le (hf := hf) (399 - dy) (dy + 1)
  unfold nwd
  omega
def kSetMin (pl : Nat) (x y v : Int32) : Int32 := if okI pl x = false ∨ okI pl y = false then 1 else if x = y ∨ okR 1 120 v = false then 2 else 0
def kSetTip (pl : Nat) (ft : Nat → Int32) (x k b : Int32) : Int32 := if okI pl x = false ∨ okI 3 k = false then 1 else if hasT (ft x.toNatClampNeg) k ≠ 0 ∧ b = 0 ∧ cntT ft k pl = 1 then 2 else 0
theorem nar_has (x k : Int32) : narrow .boolean (.int (hasT x k)) = .int (hasT x k) := nar_ite _
theorem kst_1 {pl : Nat} {ft : Nat → Int32} {x k b : Int32} (h : okI pl x = false) : kSetTip pl ft x k b = 1 := if_pos (Or.inl h)
theorem kst_1' {pl : Nat} {ft : Nat → Int32} {x k b : Int32} (h : okI 3 k = false) : kSetTip pl ft x k b = 1 := if_pos (Or.inr h)
theorem ksm_1 {pl : Nat} {x y v : Int32} (h : okI pl x = false) : kSetMin pl x y v = 1 := if_pos (Or.inl h)
theorem ksm_1' {pl : Nat} {x y v : Int32} (h : okI pl y = false) : kSetMin pl x y v = 1 := if_pos (Or.inr h)
theorem ksm_2 {pl : Nat} {x y v : Int32} (hx : okI pl x = true) (hy : okI pl y = true) (h : x = y) : kSetMin pl x y v = 2 := by
  unfold kSetMin
  rw [if_neg (by rw [hx, hy]; simp), if_pos (Or.inl h)]
theorem ksm_2' {pl : Nat} {x y v : Int32} (hx : okI pl x = true) (hy : okI pl y = true) (h : okR 1 120 v = false) : kSetMin pl x y v = 2 := by
  unfold kSetMin
  rw [if_neg (by rw [hx, hy]; simp), if_pos (Or.inr h)]
theorem ksm_0 {pl : Nat} {x y v : Int32} (hx : okI pl x = true) (hy : okI pl y = true) (hxy : ¬ x = y) (h : okR 1 120 v = true) : kSetMin pl x y v = 0 := by
  unfold kSetMin
  rw [if_neg (by rw [hx, hy]; simp), if_neg (by rw [h]; simpa using hxy)]

def k2 (c1 c2 : Bool) : Int32 := if c1 = false then 1 else if c2 = false then 2 else 0
def k3 (c1 c2 c3 : Bool) : Int32 := if c1 = false then 1 else if c2 = false then 2 else if c3 = false then 3 else 0
theorem k2_1 {a b : Bool} (h : a = false) : k2 a b = 1 := by rw [h]; rfl
theorem k2_2 {a b : Bool} (h : a = true) (h2 : b = false) : k2 a b = 2 := by rw [h, h2]; rfl
theorem k2_0 {a b : Bool} (h : a = true) (h2 : b = true) : k2 a b = 0 := by rw [h, h2]; rfl
theorem k3_1 {a b c : Bool} (h : a = false) : k3 a b c = 1 := by rw [h]; rfl
theorem k3_2 {a b c : Bool} (h : a = true) (h2 : b = false) : k3 a b c = 2 := by rw [h, h2]; rfl
theorem k3_3 {a b c : Bool} (h : a = true) (h2 : b = true) (h3 : c = false) : k3 a b c = 3 := by rw [h, h2, h3]; rfl
theorem k3_0 {a b c : Bool} (h : a = true) (h2 : b = true) (h3 : c = true) : k3 a b c = 0 := by rw [h, h2, h3]; rfl
theorem k1_1 {a : Bool} (h : a = false) : (if a = true then (0 : Int32) else 1) = 1 := by rw [h]; rfl
theorem and_f1 {a b : Bool} (h : a = false) : (a && b) = false := by rw [h]; rfl
theorem and_f2 {a b : Bool} (h : b = false) : (a && b) = false := by rw [h]; cases a <;> rfl
theorem and_t {a b : Bool} (h : a = true) (h2 : b = true) : (a && b) = true := by rw [h, h2]; rfl
theorem kst_0 {pl : Nat} {ft : Nat → Int32} {x k b : Int32} (h : okI pl x = true) (h2 : okI 3 k = true) (h3 : ¬ (hasT (ft x.toNatClampNeg) k ≠ 0 ∧ b = 0 ∧ cntT ft k pl = 1)) : kSetTip pl ft x k b = 0 := by
  unfold kSetTip
  rw [if_neg (by rw [h, h2]; simp), if_neg h3]
theorem kst_2 {pl : Nat} {ft : Nat → Int32} {x k b : Int32} (h : okI pl x = true) (h2 : okI 3 k = true) (h3 : hasT (ft x.toNatClampNeg) k ≠ 0 ∧ b = 0 ∧ cntT ft k pl = 1) : kSetTip pl ft x k b = 2 := by
  unfold kSetTip
  rw [if_neg (by rw [h, h2]; simp), if_pos h3]
def knd (B : Nat → Nat → Int32) (i : Nat) : Nat := (B i 1).toNatClampNeg
def plc (B : Nat → Nat → Int32) (i : Nat) : Nat := (B i 0).toNatClampNeg
def BOK (n : Nat) (B : Nat → Nat → Int32) : Prop := ∀ i, i < n → B i 0 = nI (plc B i) ∧ plc B i < 10 ∧ B i 1 = nI (knd B i) ∧ knd B i < 3
def flF (b : Nat → Int32) : Nat → Nat → Int32
  | 0, _ => -1
  | f + 1, d => if fulB b (nI d) = 0 then flF b f (d + 1) else nI d
theorem flF_0 {b : Nat → Int32} {f d : Nat} (hf : 0 < f) (h : ¬ fulB b (nI d) = 0) : flF b f d = nI d := by
  cases f with
  | zero => omega
  | succ f => rw [flF, if_neg h]
theorem flF_1 {b : Nat → Int32} {f d : Nat} (hf : 0 < f) (h : fulB b (nI d) = 0) : flF b f d = flF b (f - 1) (d + 1) := by
  cases f with
  | zero => omega
  | succ f => rw [flF, if_pos h, Nat.add_sub_cancel]
/-- the bins after one day, bin by bin -/
def pasB (B : Nat → Nat → Int32) : Nat → Nat → Nat → Int32
  | 0 => B
  | i + 1 => updB (pasB B i) i (filB (pasB B i i))
def pasW (B : Nat → Nat → Int32) (wf : Nat → Int64) : Nat → Nat → Int64
  | 0 => wf
  | i + 1 => vp_updL (pasW B wf i) (knd B i) (pasW B wf i (knd B i) + (wstB (pasB B i i)).toInt64)
def pasO (B : Nat → Nat → Int32) : Nat → Int32
  | 0 => 0
  | i + 1 => pasO B i + (if wstB (pasB B i i) ≤ 0 then 0 else 1)
theorem filB_0 (b : Nat → Int32) : filB b 0 = b 0 := rfl
theorem filB_1 (b : Nat → Int32) : filB b 1 = b 1 := rfl
theorem pasB_01 (B : Nat → Nat → Int32) : ∀ (i j : Nat), pasB B i j 0 = B j 0 ∧ pasB B i j 1 = B j 1
  | 0, j => ⟨rfl, rfl⟩
  | i + 1, j => by
    have h := pasB_01 B i j
    show updB (pasB B i) i (filB (pasB B i i)) j 0 = _ ∧ updB (pasB B i) i (filB (pasB B i i)) j 1 = _
    unfold updB
    split
    · next e => subst e; exact h
    · exact h
theorem BOK.pas {n i : Nat} {B : Nat → Nat → Int32} (h : BOK n B) : BOK n (pasB B i) := fun j hj => by
  have h1 := h j hj
  have h2 := pasB_01 B i j
  unfold plc knd at *
  rw [h2.1, h2.2]
  exact h1
/-- the bins after k days -/
def psB (B : Nat → Nat → Int32) (n : Nat) : Nat → Nat → Nat → Int32
  | 0 => B
  | k + 1 => pasB (psB B n k) n
def psW (B : Nat → Nat → Int32) (wf : Nat → Int64) (n : Nat) : Nat → Nat → Int64
  | 0 => wf
  | k + 1 => pasW (psB B n k) (psW B wf n k) n
def psO (B : Nat → Nat → Int32) (n : Nat) : Nat → Int32
  | 0 => 0
  | k + 1 => psO B n k + pasO (psB B n k) n
theorem BOK.ps {n : Nat} {B : Nat → Nat → Int32} (h : BOK n B) : ∀ k, BOK n (psB B n k)
  | 0 => h
  | k + 1 => (BOK.ps h k).pas
def kPass (dy : Nat) (x : Int32) : Int32 := if okR 1 60 x = false then 1 else if dy + x.toNatClampNeg < 400 then 0 else 2
theorem kPass_1 {dy : Nat} {x : Int32} (h : okR 1 60 x = false) : kPass dy x = 1 := if_pos h
theorem kPass_2 {dy : Nat} {x : Int32} (h : okR 1 60 x = true) (h2 : ¬ dy + x.toNatClampNeg < 400) : kPass dy x = 2 := by
  unfold kPass
  rw [if_neg (by rw [h]; simp), if_neg h2]
theorem kPass_0 {dy : Nat} {x : Int32} (h : okR 1 60 x = true) (h2 : dy + x.toNatClampNeg < 400) : kPass dy x = 0 := by
  unfold kPass
  rw [if_neg (by rw [h]; simp), if_pos h2]
theorem okR_nat {a b : Nat} {x : Int32} (h : okR a b x = true) (hb : b + 1 < 2 ^ 31) : ∃ j, a ≤ j ∧ j ≤ b ∧ x = nI j := by
  have h1 := of_decide_eq_true h
  have h2 : 0 ≤ x.toInt ∧ x.toInt < ((b + 1 : Nat) : Int) := ⟨by omega, by omega⟩
  obtain ⟨j, hj, rfl⟩ := okI_of (n := b + 1) (x := x) (decide_eq_true h2) (by omega)
  rw [nI_toInt (by omega)] at h1
  exact ⟨j, by omega, by omega, rfl⟩
theorem in_X3_today_X3 : ∀ w ∈ wsX30, w ∈ wsX3_today := by decide +kernel
theorem lk_X3_today_f42 : Cond.fieldLink RX3 42 (TX3 7).1 (TX3 7).2.1 (TX3 7).2.2.1 ∈ wsX3_today := by decide +kernel
theorem in_X3_nextWorkday_X3 : ∀ w ∈ wsX30, w ∈ wsX3_nextWorkday := by decide +kernel
theorem lk_X3_nextWorkday_f23 : Cond.fieldLink RX3 23 (TX3 2).1 (TX3 2).2.1 (TX3 2).2.2.1 ∈ wsX3_nextWorkday := by decide +kernel
theorem lk_X3_nextWorkday_f42 : Cond.fieldLink RX3 42 (TX3 7).1 (TX3 7).2.1 (TX3 7).2.2.1 ∈ wsX3_nextWorkday := by decide +kernel
theorem at_X3_checkPlace_100 : ∀ w ∈ (vx_atS RX3 100 "java/lang/IndexOutOfBoundsException" ["java/lang/RuntimeException", "java/lang/Exception"]).filter goodWord, w ∈ wsX3_checkPlace := by decide +kernel
theorem fi_exn : ∀ n ∈ ["java/lang/RuntimeException", "java/lang/Exception"], Bundle.fit n = true := by decide +kernel
theorem in_X3_checkPlace_X1 : ∀ w ∈ wsX10, w ∈ wsX3_checkPlace := by decide +kernel
theorem in_X3_checkPlace_X3 : ∀ w ∈ wsX30, w ∈ wsX3_checkPlace := by decide +kernel
theorem lk_X3_checkPlace_cl96 : Cond.classLink RX3 96 "java/lang/IndexOutOfBoundsException" ∈ wsX3_checkPlace := by decide +kernel
theorem lk_X3_checkPlace_f12 : Cond.fieldLink RX3 12 (TX3 0).1 (TX3 0).2.1 (TX3 0).2.2.1 ∈ wsX3_checkPlace := by decide +kernel
theorem lk_X3_checkPlace_in96 : Cond.initialized "java/lang/IndexOutOfBoundsException" ∈ wsX3_checkPlace := by decide +kernel
theorem ng_100 : (vx_atS RX3 100 "java/lang/IndexOutOfBoundsException" ["java/lang/RuntimeException", "java/lang/Exception"]).filter (fun w => !goodWord w) = decQ.map .declares ++ [.castable "java/lang/IndexOutOfBoundsException" "java/lang/IndexOutOfBoundsException"] := by decide +kernel
theorem og_100_96 : ∀ w ∈ Cond.classLink RX3 96 "java/lang/IndexOutOfBoundsException" :: Cond.initialized "java/lang/IndexOutOfBoundsException" :: vx_atS RX3 100 "java/lang/IndexOutOfBoundsException" ["java/lang/RuntimeException", "java/lang/Exception"], vx_ot w = true := by decide +kernel
theorem at_X3_checkKind_100 : ∀ w ∈ (vx_atS RX3 100 "java/lang/IndexOutOfBoundsException" ["java/lang/RuntimeException", "java/lang/Exception"]).filter goodWord, w ∈ wsX3_checkKind := by decide +kernel
theorem lk_X3_checkKind_cl96 : Cond.classLink RX3 96 "java/lang/IndexOutOfBoundsException" ∈ wsX3_checkKind := by decide +kernel
theorem lk_X3_checkKind_in96 : Cond.initialized "java/lang/IndexOutOfBoundsException" ∈ wsX3_checkKind := by decide +kernel
theorem at_X3_checkBin_100 : ∀ w ∈ (vx_atS RX3 100 "java/lang/IndexOutOfBoundsException" ["java/lang/RuntimeException", "java/lang/Exception"]).filter goodWord, w ∈ wsX3_checkBin := by decide +kernel
theorem in_X3_checkBin_X3 : ∀ w ∈ wsX30, w ∈ wsX3_checkBin := by decide +kernel
theorem lk_X3_checkBin_cl96 : Cond.classLink RX3 96 "java/lang/IndexOutOfBoundsException" ∈ wsX3_checkBin := by decide +kernel
theorem lk_X3_checkBin_f19 : Cond.fieldLink RX3 19 (TX3 1).1 (TX3 1).2.1 (TX3 1).2.2.1 ∈ wsX3_checkBin := by decide +kernel
theorem lk_X3_checkBin_in96 : Cond.initialized "java/lang/IndexOutOfBoundsException" ∈ wsX3_checkBin := by decide +kernel
theorem at_X3_checkRange_67 : ∀ w ∈ (vx_atS RX3 67 "java/lang/IllegalArgumentException" ["java/lang/RuntimeException", "java/lang/Exception"]).filter goodWord, w ∈ wsX3_checkRange := by decide +kernel
theorem lk_X3_checkRange_cl63 : Cond.classLink RX3 63 "java/lang/IllegalArgumentException" ∈ wsX3_checkRange := by decide +kernel
theorem lk_X3_checkRange_in63 : Cond.initialized "java/lang/IllegalArgumentException" ∈ wsX3_checkRange := by decide +kernel
theorem ng_67 : (vx_atS RX3 67 "java/lang/IllegalArgumentException" ["java/lang/RuntimeException", "java/lang/Exception"]).filter (fun w => !goodWord w) = decQ.map .declares ++ [.castable "java/lang/IllegalArgumentException" "java/lang/IllegalArgumentException"] := by decide +kernel
theorem og_67_63 : ∀ w ∈ Cond.classLink RX3 63 "java/lang/IllegalArgumentException" :: Cond.initialized "java/lang/IllegalArgumentException" :: vx_atS RX3 67 "java/lang/IllegalArgumentException" ["java/lang/RuntimeException", "java/lang/Exception"], vx_ot w = true := by decide +kernel
theorem at_X3_checkWorkday_52 : ∀ w ∈ (vx_atS RX3 52 "java/lang/IllegalStateException" ["java/lang/RuntimeException", "java/lang/Exception"]).filter goodWord, w ∈ wsX3_checkWorkday := by decide +kernel
theorem in_X3_checkWorkday_X3 : ∀ w ∈ wsX30, w ∈ wsX3_checkWorkday := by decide +kernel
theorem lk_X3_checkWorkday_cl48 : Cond.classLink RX3 48 "java/lang/IllegalStateException" ∈ wsX3_checkWorkday := by decide +kernel
theorem lk_X3_checkWorkday_f23 : Cond.fieldLink RX3 23 (TX3 2).1 (TX3 2).2.1 (TX3 2).2.2.1 ∈ wsX3_checkWorkday := by decide +kernel
theorem lk_X3_checkWorkday_f42 : Cond.fieldLink RX3 42 (TX3 7).1 (TX3 7).2.1 (TX3 7).2.2.1 ∈ wsX3_checkWorkday := by decide +kernel
theorem lk_X3_checkWorkday_in48 : Cond.initialized "java/lang/IllegalStateException" ∈ wsX3_checkWorkday := by decide +kernel
theorem ng_52 : (vx_atS RX3 52 "java/lang/IllegalStateException" ["java/lang/RuntimeException", "java/lang/Exception"]).filter (fun w => !goodWord w) = decQ.map .declares ++ [.castable "java/lang/IllegalStateException" "java/lang/IllegalStateException"] := by decide +kernel
theorem og_52_48 : ∀ w ∈ Cond.classLink RX3 48 "java/lang/IllegalStateException" :: Cond.initialized "java/lang/IllegalStateException" :: vx_atS RX3 52 "java/lang/IllegalStateException" ["java/lang/RuntimeException", "java/lang/Exception"], vx_ot w = true := by decide +kernel
theorem at_X3_addPlace_52 : ∀ w ∈ (vx_atS RX3 52 "java/lang/IllegalStateException" ["java/lang/RuntimeException", "java/lang/Exception"]).filter goodWord, w ∈ wsX3_addPlace := by decide +kernel
theorem in_X3_addPlace_X1 : ∀ w ∈ wsX10, w ∈ wsX3_addPlace := by decide +kernel
theorem in_X3_addPlace_X3 : ∀ w ∈ wsX30, w ∈ wsX3_addPlace := by decide +kernel
theorem lk_X3_addPlace_cl48 : Cond.classLink RX3 48 "java/lang/IllegalStateException" ∈ wsX3_addPlace := by decide +kernel
theorem lk_X3_addPlace_f12 : Cond.fieldLink RX3 12 (TX3 0).1 (TX3 0).2.1 (TX3 0).2.2.1 ∈ wsX3_addPlace := by decide +kernel
theorem lk_X3_addPlace_in48 : Cond.initialized "java/lang/IllegalStateException" ∈ wsX3_addPlace := by decide +kernel
theorem at_X3_setMinutes_67 : ∀ w ∈ (vx_atS RX3 67 "java/lang/IllegalArgumentException" ["java/lang/RuntimeException", "java/lang/Exception"]).filter goodWord, w ∈ wsX3_setMinutes := by decide +kernel
theorem in_X3_setMinutes_X3 : ∀ w ∈ wsX30, w ∈ wsX3_setMinutes := by decide +kernel
theorem lk_X3_setMinutes_cl63 : Cond.classLink RX3 63 "java/lang/IllegalArgumentException" ∈ wsX3_setMinutes := by decide +kernel
theorem lk_X3_setMinutes_f12 : Cond.fieldLink RX3 12 (TX3 0).1 (TX3 0).2.1 (TX3 0).2.2.1 ∈ wsX3_setMinutes := by decide +kernel
theorem lk_X3_setMinutes_in63 : Cond.initialized "java/lang/IllegalArgumentException" ∈ wsX3_setMinutes := by decide +kernel
theorem at_X3_setTip_67 : ∀ w ∈ (vx_atS RX3 67 "java/lang/IllegalArgumentException" ["java/lang/RuntimeException", "java/lang/Exception"]).filter goodWord, w ∈ wsX3_setTip := by decide +kernel
theorem in_X3_setTip_X3 : ∀ w ∈ wsX30, w ∈ wsX3_setTip := by decide +kernel
theorem lk_X3_setTip_cl63 : Cond.classLink RX3 63 "java/lang/IllegalArgumentException" ∈ wsX3_setTip := by decide +kernel
theorem lk_X3_setTip_f12 : Cond.fieldLink RX3 12 (TX3 0).1 (TX3 0).2.1 (TX3 0).2.2.1 ∈ wsX3_setTip := by decide +kernel
theorem lk_X3_setTip_in63 : Cond.initialized "java/lang/IllegalArgumentException" ∈ wsX3_setTip := by decide +kernel
theorem in_X3_soil_X0 : ∀ w ∈ wsX00, w ∈ wsX3_soil := by decide +kernel
theorem in_X3_soil_X3 : ∀ w ∈ wsX30, w ∈ wsX3_soil := by decide +kernel
theorem lk_X3_soil_cl113 : Cond.classLink RX3 113 "RefusePlanner$Bin" ∈ wsX3_soil := by decide +kernel
theorem lk_X3_soil_f19 : Cond.fieldLink RX3 19 (TX3 1).1 (TX3 1).2.1 (TX3 1).2.2.1 ∈ wsX3_soil := by decide +kernel
theorem at_X3_bin_100 : ∀ w ∈ (vx_atS RX3 100 "java/lang/IndexOutOfBoundsException" ["java/lang/RuntimeException", "java/lang/Exception"]).filter goodWord, w ∈ wsX3_bin := by decide +kernel
theorem in_X3_bin_X3 : ∀ w ∈ wsX30, w ∈ wsX3_bin := by decide +kernel
theorem lk_X3_bin_cl113 : Cond.classLink RX3 113 "RefusePlanner$Bin" ∈ wsX3_bin := by decide +kernel
theorem lk_X3_bin_cl96 : Cond.classLink RX3 96 "java/lang/IndexOutOfBoundsException" ∈ wsX3_bin := by decide +kernel
theorem lk_X3_bin_f19 : Cond.fieldLink RX3 19 (TX3 1).1 (TX3 1).2.1 (TX3 1).2.2.1 ∈ wsX3_bin := by decide +kernel
theorem lk_X3_bin_in96 : Cond.initialized "java/lang/IndexOutOfBoundsException" ∈ wsX3_bin := by decide +kernel
theorem in_X3_expected_X3 : ∀ w ∈ wsX30, w ∈ wsX3_expected := by decide +kernel
theorem lk_X3_expected_cl113 : Cond.classLink RX3 113 "RefusePlanner$Bin" ∈ wsX3_expected := by decide +kernel
theorem lk_X3_expected_f19 : Cond.fieldLink RX3 19 (TX3 1).1 (TX3 1).2.1 (TX3 1).2.2.1 ∈ wsX3_expected := by decide +kernel
theorem lk_X3_expected_f42 : Cond.fieldLink RX3 42 (TX3 7).1 (TX3 7).2.1 (TX3 7).2.2.1 ∈ wsX3_expected := by decide +kernel
abbrev rmX3_today : Room := { frames := 0, cells := 0, slots := 0, locals := 0 }
set_option maxHeartbeats 4000000 in
set_option maxRecDepth 100000 in
theorem m_X3_today (l : Launch) (g : Gx) (a : Nat → Nat) (sn : Nat) (dy : Nat)  (sz : Nat) : Met l yX3_today wsX3_today rmX3_today (PZ g [.ref (a 0)] sz [] [(a 0, .inr (4, [.ref (a 1), .ref (a 4), .ref (a 5), .ref (a 6), .ref (a 7), .ref (a 8), .int (nI sn), .int (nI dy)]))]) (va_Qi (fun (r : Int32) (_ : Unit) => r = nI dy) (BZ g [] sz (fun (u : Unit) => [])) (va_A [] sz)) 0 0 (va_A [] sz) := by
  refine z_open_i (cc := cX3_today) (maxL := 1) (ret := .int) (own := RX3) (by decide) rfl rfl (Nat.le_of_ble_eq_true rfl) ?_
  intro p e s m args below meth c Q h hnm fin
  generalize hAe : va_A [] s.heap.size = A at h fin ⊢
  refine z_lve (lv' := [(0, .ref (a 0))]) rfl ?_
  refine z_aload_n h dX3_today_0 rfl 0 rfl ?_
  refine z_get h in_X3_today_X3 0 rfl rfl 7 (by decide) lk_X3_today_f42 rfl dX3_today_1 ?_
  exact fin _ _ _ () _ _ _ _ dX3_today_4 rfl rfl rfl (Nat.le_of_ble_eq_true rfl) (Nat.le_of_ble_eq_true rfl)
abbrev rmX3_nextWorkday : Room := { frames := 0, cells := 0, slots := 0, locals := 0 }
set_option maxHeartbeats 4000000 in
set_option maxRecDepth 100000 in
theorem m_X3_nextWorkday (l : Launch) (g : Gx) (a : Nat → Nat) (sn : Nat) (dy : Nat) (hf : Nat → Int32) (hdy : dy ≤ 399) (sz : Nat) : Met l yX3_nextWorkday wsX3_nextWorkday rmX3_nextWorkday (PZ g [.ref (a 0)] sz [] [(a 0, .inr (4, [.ref (a 1), .ref (a 4), .ref (a 5), .ref (a 6), .ref (a 7), .ref (a 8), .int (nI sn), .int (nI dy)])), (a 5, .inl (g.2.2.2.1, 400, .inl hf))]) (va_Qi (fun (r : Int32) (_ : Unit) => r = nI (nwd hf dy)) (BZ g [] sz (fun (u : Unit) => [])) (va_A [] sz)) 0 0 (va_A [] sz) := by
  refine z_open_i (cc := cX3_nextWorkday) (maxL := 2) (ret := .int) (own := RX3) (by decide) rfl rfl (Nat.le_of_ble_eq_true rfl) ?_
  intro p e s m args below meth c Q h hnm fin
  generalize hAe : va_A [] s.heap.size = A at h fin ⊢
  refine z_lve (lv' := [(0, .ref (a 0))]) rfl ?_
  refine z_aload_n h dX3_nextWorkday_0 rfl 0 rfl ?_
  refine z_get h in_X3_nextWorkday_X3 0 rfl rfl 7 (by decide) lk_X3_nextWorkday_f42 rfl dX3_nextWorkday_1 ?_
  refine z_iconst h (v := 1) dX3_nextWorkday_4 (by decide) ?_
  refine z_iadd h dX3_nextWorkday_5 ?_
  refine z_topi (y := nI (dy + 1)) (nI_1 dy) ?_
  refine z_istore_n h dX3_nextWorkday_6 rfl (by decide) (lv' := [(0, .ref (a 0)), (1, .int (nI (dy + 1)))]) [1, 0] rfl ?_
  have L7 : ∀ (L7n i : Nat) , i ≤ 400 → 400 < L7n + i → nwF hf (399 - dy) (dy + 1) = nwF hf (400 - i) i → Z p l e rmX3_nextWorkday s m args below meth c Q A g 2 7 [(0, .ref (a 0)), (1, .int (nI i))] [] [] [(a 0, .inr (4, [.ref (a 1), .ref (a 4), .ref (a 5), .ref (a 6), .ref (a 7), .ref (a 8), .int (nI sn), .int (nI dy)])), (a 5, .inl (g.2.2.2.1, 400, .inl hf))] 0 0 := by
    intro L7n
    induction L7n with
    | zero => intro i  hi hL7 e1; exact absurd hL7 (by omega)
    | succ L7n ihL7 =>
      intro i  hi hL7 e1
      refine z_iload_n h dX3_nextWorkday_7 rfl 1 rfl ?_
      refine z_sipush h (v := 400) dX3_nextWorkday_8 (by decide) ?_
      refine z_icmp_ge h (tgt := 31) dX3_nextWorkday_11 (by decide) (fun c_11 => ?_) (fun c_11 => ?_)
      · have hi4 : i = 400 := by have := ge_t (b := 400) c_11 (by omega) (by omega); omega
        subst hi4
        refine z_sipush h (v := 400) dX3_nextWorkday_31 (by decide) ?_
        exact fin _ _ _ () _ _ _ _ dX3_nextWorkday_34 rfl (by rw [nwd, e1]; rfl) rfl (Nat.le_of_ble_eq_true rfl) (Nat.le_of_ble_eq_true rfl)
      · have hlt : i < 400 := ge_f (b := 400) c_11 (by omega) (by omega)
        refine z_aload_n h dX3_nextWorkday_14 rfl 0 rfl ?_
        refine z_get h in_X3_nextWorkday_X3 0 rfl rfl 2 (by decide) lk_X3_nextWorkday_f23 rfl dX3_nextWorkday_15 ?_
        refine z_iload_n h dX3_nextWorkday_18 rfl 1 rfl ?_
        refine z_zald h 1 rfl (vp_in_nI (by omega) (by omega)) dX3_nextWorkday_19 (v := hf i) (by rw [nI_clamp (by omega)]) ?_
        refine z_if_ne h (tgt := 25) dX3_nextWorkday_20 (by decide) (fun c_20 => ?_) (fun c_20 => ?_)
        · refine z_iinc h (v := nI (i + 1)) dX3_nextWorkday_25 (by decide) 1 rfl (by rw [show Int32.ofInt 1 = nI 1 from rfl, nI_add]) (lv' := [(0, .ref (a 0)), (1, .int (nI (i + 1)))]) [1, 0] rfl ?_
          refine z_goto h (tgt := 7) dX3_nextWorkday_28 (by decide) ?_
          exact ihL7 (i + 1)  (by omega) (by omega) (by rw [e1, nwF_1 (by omega) (by first | exact c_20 | (intro q; exact c_20 q)), show 400 - i - 1 = 400 - (i + 1) by omega])
        · refine z_iload_n h dX3_nextWorkday_23 rfl 1 rfl ?_
          exact fin _ _ _ () _ _ _ _ dX3_nextWorkday_24 rfl (by rw [nwd, e1, nwF_0 (by omega) (by first | exact c_20 | exact Classical.not_not.mp c_20)]) rfl (Nat.le_of_ble_eq_true rfl) (Nat.le_of_ble_eq_true rfl)
  exact L7 (400 + 1 - (dy + 1)) (dy + 1)  (by omega) (by omega) (by rw [show 400 - (dy + 1) = 399 - dy by omega])
abbrev rmX3_checkPlace : Room := { frames := 6, cells := 1, slots := 6, locals := 90 }
set_option maxHeartbeats 4000000 in
set_option maxRecDepth 100000 in
theorem m_X3_checkPlace (l : Launch) (hlf : l.stackTraces = false) (g : Gx) (a : Nat → Nat) (sn : Nat) (dy : Nat) (pl : Nat) (x : Int32) (hpl : pl ≤ 10) (sz : Nat) : vx_Met l yX3_checkPlace wsX3_checkPlace rmX3_checkPlace (PX SL3 g [.ref (a 0), .int x] sz [] [(a 0, .inr (4, [.ref (a 1), .ref (a 4), .ref (a 5), .ref (a 6), .ref (a 7), .ref (a 8), .int (nI sn), .int (nI dy)])), (a 1, .inr (2, [.ref (a 2), .ref (a 3), .int (nI pl)]))]) (va_Qv (fun (_ : Unit) => okI pl x = true) (BZ g [] sz (fun (u : Unit) => [])) (va_A [] sz)) (XZ (fun E => okI pl x = false ∧ E = eI) sz) 1 6 (va_A [] sz) := by
  refine x_open_v (cc := cX3_checkPlace) (maxL := 2) (own := RX3) (by decide) rfl rfl (Nat.le_of_ble_eq_true rfl) hlf rfl ?_
  intro p e s m args below meth c Q h hT hE fin thr thw
  refine z_lve (lv' := [(0, .ref (a 0)), (1, .int x)]) rfl ?_
  refine z_iload_n h dX3_checkPlace_0 rfl 1 rfl ?_
  refine z_if_lt h (tgt := 15) dX3_checkPlace_1 (by decide) (fun c_1 => ?_) (fun c_1 => ?_)
  · exact thw 15 _ _ _ _ "java/lang/IndexOutOfBoundsException" "no such place" ["java/lang/RuntimeException", "java/lang/Exception"] 96 204 100 (by decide +kernel) fi_exn lk_X3_checkPlace_cl96 lk_X3_checkPlace_in96 (by decide) at_X3_checkPlace_100 ng_100 (by decide) og_100_96 dX3_checkPlace_15 dX3_checkPlace_18 dX3_checkPlace_19 dX3_checkPlace_21 dX3_checkPlace_24 (Nat.le_of_ble_eq_true rfl) (Nat.le_of_ble_eq_true rfl) (Nat.le_of_ble_eq_true rfl) (Nat.le_of_ble_eq_true rfl) ⟨by first | exact okI_neg c_1 | exact okI_ge (i32_nlt c_12) (by omega), rfl⟩ (Nat.le_of_ble_eq_true rfl) (Nat.le_of_ble_eq_true rfl)
  · refine z_iload_n h dX3_checkPlace_4 rfl 1 rfl ?_
    refine z_aload_n h dX3_checkPlace_5 rfl 0 rfl ?_
    refine z_get h in_X3_checkPlace_X3 0 rfl rfl 0 (by decide) lk_X3_checkPlace_f12 rfl dX3_checkPlace_6 ?_
    refine z_getN h in_X3_checkPlace_X1 1 rfl rfl 2 (by decide) (by decide) rfl dX3_checkPlace_9 ?_
    refine z_icmp_lt h (tgt := 25) dX3_checkPlace_12 (by decide) (fun c_12 => ?_) (fun c_12 => ?_)
    · refine z_arm (wW := []) (wR := [(a 0, .inr (4, [.ref (a 1), .ref (a 4), .ref (a 5), .ref (a 6), .ref (a 7), .ref (a 8), .int (nI sn), .int (nI dy)])), (a 1, .inr (2, [.ref (a 2), .ref (a 3), .int (nI pl)]))]) ?_
      exact fin _ _ () _ _ _ _ dX3_checkPlace_25 (okI_in c_1 (i32_nle c_12) (by omega)) rfl (Nat.le_of_ble_eq_true rfl) (Nat.le_of_ble_eq_true rfl)
    · exact thw 15 _ _ _ _ "java/lang/IndexOutOfBoundsException" "no such place" ["java/lang/RuntimeException", "java/lang/Exception"] 96 204 100 (by decide +kernel) fi_exn lk_X3_checkPlace_cl96 lk_X3_checkPlace_in96 (by decide) at_X3_checkPlace_100 ng_100 (by decide) og_100_96 dX3_checkPlace_15 dX3_checkPlace_18 dX3_checkPlace_19 dX3_checkPlace_21 dX3_checkPlace_24 (Nat.le_of_ble_eq_true rfl) (Nat.le_of_ble_eq_true rfl) (Nat.le_of_ble_eq_true rfl) (Nat.le_of_ble_eq_true rfl) ⟨by first | exact okI_neg c_1 | exact okI_ge (i32_nlt c_12) (by omega), rfl⟩ (Nat.le_of_ble_eq_true rfl) (Nat.le_of_ble_eq_true rfl)
abbrev rmX3_checkKind : Room := { frames := 6, cells := 1, slots := 6, locals := 90 }
set_option maxHeartbeats 4000000 in
set_option maxRecDepth 100000 in
theorem m_X3_checkKind (l : Launch) (hlf : l.stackTraces = false) (g : Gx) (a : Nat → Nat) (x : Int32)  (sz : Nat) : vx_Met l yX3_checkKind wsX3_checkKind rmX3_checkKind (PX SL3 g [.ref (a 0), .int x] sz [] []) (va_Qv (fun (_ : Unit) => okI 3 x = true) (BZ g [] sz (fun (u : Unit) => [])) (va_A [] sz)) (XZ (fun E => okI 3 x = false ∧ E = eI) sz) 1 6 (va_A [] sz) := by
  refine x_open0_v (cc := cX3_checkKind) (maxL := 2) (own := RX3) (by decide) rfl rfl (Nat.le_of_ble_eq_true rfl) hlf rfl ?_
  intro p e s m args below meth c Q h hT hE fin thr thw
  refine z_lve (lv' := [(0, .ref (a 0)), (1, .int x)]) rfl ?_
  refine z_iload_n h dX3_checkKind_0 rfl 1 rfl ?_
  refine z_if_lt h (tgt := 9) dX3_checkKind_1 (by decide) (fun c_1 => ?_) (fun c_1 => ?_)
  · exact thw 9 _ _ _ _ "java/lang/IndexOutOfBoundsException" "the kind is not 0 to 2" ["java/lang/RuntimeException", "java/lang/Exception"] 96 206 100 (by decide +kernel) fi_exn lk_X3_checkKind_cl96 lk_X3_checkKind_in96 (by decide) at_X3_checkKind_100 ng_100 (by decide) og_100_96 dX3_checkKind_9 dX3_checkKind_12 dX3_checkKind_13 dX3_checkKind_15 dX3_checkKind_18 (Nat.le_of_ble_eq_true rfl) (Nat.le_of_ble_eq_true rfl) (Nat.le_of_ble_eq_true rfl) (Nat.le_of_ble_eq_true rfl) ⟨by first | exact okI_neg c_1 | exact okI_ge (n := 3) (i32_nlt c_6) (by omega), rfl⟩ (Nat.le_of_ble_eq_true rfl) (Nat.le_of_ble_eq_true rfl)
  · refine z_iload_n h dX3_checkKind_4 rfl 1 rfl ?_
    refine z_iconst h (v := 3) dX3_checkKind_5 (by decide) ?_
    refine z_icmp_lt h (tgt := 19) dX3_checkKind_6 (by decide) (fun c_6 => ?_) (fun c_6 => ?_)
    · refine z_arm0 ?_
      exact fin _ _ () _ _ _ _ dX3_checkKind_19 (okI_in (n := 3) c_1 (i32_nle c_6) (by omega)) rfl (Nat.le_of_ble_eq_true rfl) (Nat.le_of_ble_eq_true rfl)
    · exact thw 9 _ _ _ _ "java/lang/IndexOutOfBoundsException" "the kind is not 0 to 2" ["java/lang/RuntimeException", "java/lang/Exception"] 96 206 100 (by decide +kernel) fi_exn lk_X3_checkKind_cl96 lk_X3_checkKind_in96 (by decide) at_X3_checkKind_100 ng_100 (by decide) og_100_96 dX3_checkKind_9 dX3_checkKind_12 dX3_checkKind_13 dX3_checkKind_15 dX3_checkKind_18 (Nat.le_of_ble_eq_true rfl) (Nat.le_of_ble_eq_true rfl) (Nat.le_of_ble_eq_true rfl) (Nat.le_of_ble_eq_true rfl) ⟨by first | exact okI_neg c_1 | exact okI_ge (n := 3) (i32_nlt c_6) (by omega), rfl⟩ (Nat.le_of_ble_eq_true rfl) (Nat.le_of_ble_eq_true rfl)
abbrev rmX3_checkBin : Room := { frames := 6, cells := 1, slots := 6, locals := 90 }
set_option maxHeartbeats 4000000 in
set_option maxRecDepth 100000 in
theorem m_X3_checkBin (l : Launch) (hlf : l.stackTraces = false) (g : Gx) (a : Nat → Nat) (sn : Nat) (dy : Nat) (mc : Int32) (ed : Nat) (n : Nat) (x : Int32) (hn : n ≤ 16) (sz : Nat) : vx_Met l yX3_checkBin wsX3_checkBin rmX3_checkBin (PX SL3 g [.ref (a 0), .int x] sz [] [(a 0, .inr (4, [.ref (a 1), .ref (a 4), .ref (a 5), .ref (a 6), .ref (a 7), .ref (a 8), .int (nI sn), .int (nI dy)])), (a 4, .inr (0, [.int mc, .ref ed, .int (nI n)]))]) (va_Qv (fun (_ : Unit) => okI n x = true) (BZ g [] sz (fun (u : Unit) => [])) (va_A [] sz)) (XZ (fun E => okI n x = false ∧ E = eI) sz) 1 6 (va_A [] sz) := by
  refine x_open_v (cc := cX3_checkBin) (maxL := 2) (own := RX3) (by decide) rfl rfl (Nat.le_of_ble_eq_true rfl) hlf rfl ?_
  intro p e s m args below meth c Q h hT hE fin thr thw
  refine z_lve (lv' := [(0, .ref (a 0)), (1, .int x)]) rfl ?_
  refine z_iload_n h dX3_checkBin_0 rfl 1 rfl ?_
  refine z_if_lt h (tgt := 15) dX3_checkBin_1 (by decide) (fun c_1 => ?_) (fun c_1 => ?_)
  · exact thw 15 _ _ _ _ "java/lang/IndexOutOfBoundsException" "no such bin" ["java/lang/RuntimeException", "java/lang/Exception"] 96 208 100 (by decide +kernel) fi_exn lk_X3_checkBin_cl96 lk_X3_checkBin_in96 (by decide) at_X3_checkBin_100 ng_100 (by decide) og_100_96 dX3_checkBin_15 dX3_checkBin_18 dX3_checkBin_19 dX3_checkBin_21 dX3_checkBin_24 (Nat.le_of_ble_eq_true rfl) (Nat.le_of_ble_eq_true rfl) (Nat.le_of_ble_eq_true rfl) (Nat.le_of_ble_eq_true rfl) ⟨by first | exact okI_neg c_1 | exact okI_ge (by rw [← h_9]; exact i32_nlt c_12) (by omega), rfl⟩ (Nat.le_of_ble_eq_true rfl) (Nat.le_of_ble_eq_true rfl)
  · refine z_iload_n h dX3_checkBin_4 rfl 1 rfl ?_
    refine z_aload_n h dX3_checkBin_5 rfl 0 rfl ?_
    refine z_get h in_X3_checkBin_X3 0 rfl rfl 1 (by decide) lk_X3_checkBin_f19 rfl dX3_checkBin_6 ?_
    refine z_Vi h (As := []) (st := [.int x]) (fun sz => m_Jx4a65c_size_8abf5 l g (a 4) mc ed n  sz) (cwV 0 h.ts gX3_checkBin_Jx4a65c_size_8abf5 rfl rfl rfl (by decide +kernel) ⟨Nat.le_of_ble_eq_true rfl, Nat.le_of_ble_eq_true rfl⟩) rfl [] [1] rfl rfl rfl rfl 1 rfl rfl rfl rfl (Nat.le_of_ble_eq_true rfl) ⟨(Nat.le_of_ble_eq_true rfl), (Nat.le_of_ble_eq_true rfl)⟩ (fun _ => (Nat.le_of_ble_eq_true rfl)) (wN := fun u => []) (fun _ => rfl) dX3_checkBin_9 (fun r_9 u_9 h_9 => ?_)
    refine z_icmp_lt h (tgt := 25) dX3_checkBin_12 (by decide) (fun c_12 => ?_) (fun c_12 => ?_)
    · refine z_arm (wW := []) (wR := [(a 0, .inr (4, [.ref (a 1), .ref (a 4), .ref (a 5), .ref (a 6), .ref (a 7), .ref (a 8), .int (nI sn), .int (nI dy)])), (a 4, .inr (0, [.int mc, .ref ed, .int (nI n)]))]) ?_
      exact fin _ _ () _ _ _ _ dX3_checkBin_25 (okI_in c_1 (by rw [← h_9]; exact i32_nle c_12) (by omega)) rfl (Nat.le_of_ble_eq_true rfl) (Nat.le_of_ble_eq_true rfl)
    · exact thw 15 _ _ _ _ "java/lang/IndexOutOfBoundsException" "no such bin" ["java/lang/RuntimeException", "java/lang/Exception"] 96 208 100 (by decide +kernel) fi_exn lk_X3_checkBin_cl96 lk_X3_checkBin_in96 (by decide) at_X3_checkBin_100 ng_100 (by decide) og_100_96 dX3_checkBin_15 dX3_checkBin_18 dX3_checkBin_19 dX3_checkBin_21 dX3_checkBin_24 (Nat.le_of_ble_eq_true rfl) (Nat.le_of_ble_eq_true rfl) (Nat.le_of_ble_eq_true rfl) (Nat.le_of_ble_eq_true rfl) ⟨by first | exact okI_neg c_1 | exact okI_ge (by rw [← h_9]; exact i32_nlt c_12) (by omega), rfl⟩ (Nat.le_of_ble_eq_true rfl) (Nat.le_of_ble_eq_true rfl)
abbrev rmX3_checkRange : Room := { frames := 6, cells := 1, slots := 6, locals := 90 }
set_option maxHeartbeats 4000000 in
set_option maxRecDepth 100000 in
theorem m_X3_checkRange (l : Launch) (hlf : l.stackTraces = false) (g : Gx) (a : Nat → Nat) (x : Int32) (y : Int32) (z : Int32)  (sz : Nat) : vx_Met l yX3_checkRange wsX3_checkRange rmX3_checkRange (PX SL3 g [.ref (a 0), .int x, .int y, .int z] sz [] []) (va_Qv (fun (_ : Unit) => okR y.toInt z.toInt x = true) (BZ g [] sz (fun (u : Unit) => [])) (va_A [] sz)) (XZ (fun E => okR y.toInt z.toInt x = false ∧ E = eA) sz) 1 6 (va_A [] sz) := by
  refine x_open0_v (cc := cX3_checkRange) (maxL := 4) (own := RX3) (by decide) rfl rfl (Nat.le_of_ble_eq_true rfl) hlf rfl ?_
  intro p e s m args below meth c Q h hT hE fin thr thw
  refine z_lve (lv' := [(0, .ref (a 0)), (1, .int x), (2, .int y), (3, .int z)]) rfl ?_
  refine z_iload_n h dX3_checkRange_0 rfl 1 rfl ?_
  refine z_iload_n h dX3_checkRange_1 rfl 2 rfl ?_
  refine z_icmp_lt h (tgt := 10) dX3_checkRange_2 (by decide) (fun c_2 => ?_) (fun c_2 => ?_)
  · exact thw 10 _ _ _ _ "java/lang/IllegalArgumentException" "a number is out of its range" ["java/lang/RuntimeException", "java/lang/Exception"] 63 210 67 (by decide +kernel) fi_exn lk_X3_checkRange_cl63 lk_X3_checkRange_in63 (by decide) at_X3_checkRange_67 ng_67 (by decide) og_67_63 dX3_checkRange_10 dX3_checkRange_13 dX3_checkRange_14 dX3_checkRange_16 dX3_checkRange_19 (Nat.le_of_ble_eq_true rfl) (Nat.le_of_ble_eq_true rfl) (Nat.le_of_ble_eq_true rfl) (Nat.le_of_ble_eq_true rfl) ⟨by first | exact okR_lo c_2 | exact okR_hi (i32_nlf c_7), rfl⟩ (Nat.le_of_ble_eq_true rfl) (Nat.le_of_ble_eq_true rfl)
  · refine z_iload_n h dX3_checkRange_5 rfl 1 rfl ?_
    refine z_iload_n h dX3_checkRange_6 rfl 3 rfl ?_
    refine z_icmp_le h (tgt := 20) dX3_checkRange_7 (by decide) (fun c_7 => ?_) (fun c_7 => ?_)
    · refine z_arm0 ?_
      exact fin _ _ () _ _ _ _ dX3_checkRange_20 (okR_in c_2 (fun q => i32_nle q c_7)) rfl (Nat.le_of_ble_eq_true rfl) (Nat.le_of_ble_eq_true rfl)
    · exact thw 10 _ _ _ _ "java/lang/IllegalArgumentException" "a number is out of its range" ["java/lang/RuntimeException", "java/lang/Exception"] 63 210 67 (by decide +kernel) fi_exn lk_X3_checkRange_cl63 lk_X3_checkRange_in63 (by decide) at_X3_checkRange_67 ng_67 (by decide) og_67_63 dX3_checkRange_10 dX3_checkRange_13 dX3_checkRange_14 dX3_checkRange_16 dX3_checkRange_19 (Nat.le_of_ble_eq_true rfl) (Nat.le_of_ble_eq_true rfl) (Nat.le_of_ble_eq_true rfl) (Nat.le_of_ble_eq_true rfl) ⟨by first | exact okR_lo c_2 | exact okR_hi (i32_nlf c_7), rfl⟩ (Nat.le_of_ble_eq_true rfl) (Nat.le_of_ble_eq_true rfl)
abbrev rmX3_checkWorkday : Room := { frames := 6, cells := 1, slots := 6, locals := 90 }
set_option maxHeartbeats 4000000 in
set_option maxRecDepth 100000 in
theorem m_X3_checkWorkday (l : Launch) (hlf : l.stackTraces = false) (g : Gx) (a : Nat → Nat) (sn : Nat) (dy : Nat) (hf : Nat → Int32) (hdy : dy ≤ 399) (sz : Nat) : vx_Met l yX3_checkWorkday wsX3_checkWorkday rmX3_checkWorkday (PX SL3 g [.ref (a 0)] sz [] [(a 0, .inr (4, [.ref (a 1), .ref (a 4), .ref (a 5), .ref (a 6), .ref (a 7), .ref (a 8), .int (nI sn), .int (nI dy)])), (a 5, .inl (g.2.2.2.1, 400, .inl hf))]) (va_Qv (fun (_ : Unit) => hf dy = 0) (BZ g [] sz (fun (u : Unit) => [])) (va_A [] sz)) (XZ (fun E => hf dy ≠ 0 ∧ E = eS) sz) 1 6 (va_A [] sz) := by
  refine x_open_v (cc := cX3_checkWorkday) (maxL := 1) (own := RX3) (by decide) rfl rfl (Nat.le_of_ble_eq_true rfl) hlf rfl ?_
  intro p e s m args below meth c Q h hT hE fin thr thw
  refine z_lve (lv' := [(0, .ref (a 0))]) rfl ?_
  refine z_aload_n h dX3_checkWorkday_0 rfl 0 rfl ?_
  refine z_get h in_X3_checkWorkday_X3 0 rfl rfl 2 (by decide) lk_X3_checkWorkday_f23 rfl dX3_checkWorkday_1 ?_
  refine z_aload_n h dX3_checkWorkday_4 rfl 0 rfl ?_
  refine z_get h in_X3_checkWorkday_X3 0 rfl rfl 7 (by decide) lk_X3_checkWorkday_f42 rfl dX3_checkWorkday_5 ?_
  refine z_zald h 1 rfl (vp_in_nI (by omega) (by omega)) dX3_checkWorkday_8 (v := hf dy) (by rw [nI_clamp (by omega)]) ?_
  refine z_if_eq h (tgt := 22) dX3_checkWorkday_9 (by decide) (fun c_9 => ?_) (fun c_9 => ?_)
  · refine z_arm (wW := []) (wR := [(a 0, .inr (4, [.ref (a 1), .ref (a 4), .ref (a 5), .ref (a 6), .ref (a 7), .ref (a 8), .int (nI sn), .int (nI dy)])), (a 5, .inl (g.2.2.2.1, 400, .inl hf))]) ?_
    exact fin _ _ () _ _ _ _ dX3_checkWorkday_22 c_9 rfl (Nat.le_of_ble_eq_true rfl) (Nat.le_of_ble_eq_true rfl)
  · exact thw 12 _ _ _ _ "java/lang/IllegalStateException" "today is a holiday" ["java/lang/RuntimeException", "java/lang/Exception"] 48 212 52 (by decide +kernel) fi_exn lk_X3_checkWorkday_cl48 lk_X3_checkWorkday_in48 (by decide) at_X3_checkWorkday_52 ng_52 (by decide) og_52_48 dX3_checkWorkday_12 dX3_checkWorkday_15 dX3_checkWorkday_16 dX3_checkWorkday_18 dX3_checkWorkday_21 (Nat.le_of_ble_eq_true rfl) (Nat.le_of_ble_eq_true rfl) (Nat.le_of_ble_eq_true rfl) (Nat.le_of_ble_eq_true rfl) ⟨c_9, rfl⟩ (Nat.le_of_ble_eq_true rfl) (Nat.le_of_ble_eq_true rfl)
abbrev rmX3_addPlace : Room := { frames := 6, cells := 1, slots := 6, locals := 90 }
set_option maxHeartbeats 4000000 in
set_option maxRecDepth 100000 in
theorem m_X3_addPlace (l : Launch) (hlf : l.stackTraces = false) (g : Gx) (a : Nat → Nat) (sn : Nat) (dy : Nat) (pl : Nat) (hpl : pl ≤ 10) (sz : Nat) : vx_Met l yX3_addPlace wsX3_addPlace rmX3_addPlace (PX SL3 g [.ref (a 0)] sz [(a 1, .inr (2, [.ref (a 2), .ref (a 3), .int (nI pl)]))] [(a 0, .inr (4, [.ref (a 1), .ref (a 4), .ref (a 5), .ref (a 6), .ref (a 7), .ref (a 8), .int (nI sn), .int (nI dy)]))]) (va_Qi (fun (r : Int32) (_ : Unit) => pl < 10 ∧ r = nI pl) (BZ g [(a 1, .inr (2, [.ref (a 2), .ref (a 3), .int (nI pl)]))] sz (fun (u : Unit) => [(a 1, .inr (2, [.ref (a 2), .ref (a 3), .int (nI (pl + 1))]))])) (va_A [(a 1, .inr (2, [.ref (a 2), .ref (a 3), .int (nI pl)]))] sz)) (XZ (pe3 eS eS eS (if pl < 10 then 0 else 1)) sz) 1 6 (va_A [(a 1, .inr (2, [.ref (a 2), .ref (a 3), .int (nI pl)]))] sz) := by
  refine x_open_i (cc := cX3_addPlace) (maxL := 1) (ret := .int) (own := RX3) (by decide) rfl rfl (Nat.le_of_ble_eq_true rfl) hlf rfl ?_
  intro p e s m args below meth c Q h hT hE fin thr thw
  refine z_lve (lv' := [(0, .ref (a 0))]) rfl ?_
  refine z_aload_n h dX3_addPlace_0 rfl 0 rfl ?_
  refine z_get h in_X3_addPlace_X3 1 rfl rfl 0 (by decide) lk_X3_addPlace_f12 rfl dX3_addPlace_1 ?_
  refine z_getN h in_X3_addPlace_X1 0 rfl rfl 2 (by decide) (by decide) rfl dX3_addPlace_4 ?_
  refine z_bipush h (v := 10) dX3_addPlace_7 (by decide) ?_
  refine z_icmp_lt h (tgt := 22) dX3_addPlace_9 (by decide) (fun c_9 => ?_) (fun c_9 => ?_)
  · have hlt : pl < 10 := (nI_ltI (b := 10) (by omega) (by omega)).mp c_9
    refine z_aload_n h dX3_addPlace_22 rfl 0 rfl ?_
    refine z_arm (wW := [(a 1, .inr (2, [.ref (a 2), .ref (a 3), .int (nI pl)]))]) (wR := [(a 0, .inr (4, [.ref (a 1), .ref (a 4), .ref (a 5), .ref (a 6), .ref (a 7), .ref (a 8), .int (nI sn), .int (nI dy)]))]) ?_
    have h2 := h.arm (B := va_A [(a 1, .inr (2, [.ref (a 2), .ref (a 3), .int (nI pl)]))] s.heap.size) (fun q hq => Or.inr hq)
    generalize hAe : va_A [(a 1, .inr (2, [.ref (a 2), .ref (a 3), .int (nI pl)]))] s.heap.size = A at h2 hE fin ⊢
    refine z_get h2 in_X3_addPlace_X3 1 rfl rfl 0 (by decide) lk_X3_addPlace_f12 rfl dX3_addPlace_23 ?_
    refine z_Vi h2 (As := []) (st := []) (fun sz => m_X1_add l g (a 1) (a 2) (a 3) pl  sz) (cwV 0 h2.ts gX3_addPlace_X1_add rfl rfl rfl (by decide +kernel) ⟨Nat.le_of_ble_eq_true rfl, Nat.le_of_ble_eq_true rfl⟩) rfl [0] [] rfl rfl rfl rfl 0 rfl rfl rfl rfl (Nat.le_of_ble_eq_true rfl) ⟨(Nat.le_of_ble_eq_true rfl), (Nat.le_of_ble_eq_true rfl)⟩ (fun _ => (Nat.le_of_ble_eq_true rfl)) (wN := fun u => [(a 1, .inr (2, [.ref (a 2), .ref (a 3), .int (nI (pl + 1))]))]) (fun _ => rfl) dX3_addPlace_26 (fun r_26 u_26 h_26 => ?_)
    exact fin _ _ _ () _ _ _ _ dX3_addPlace_29 rfl ⟨hlt, h_26⟩ rfl (Nat.le_of_ble_eq_true rfl) (Nat.le_of_ble_eq_true rfl)
  · have hge : ¬ pl < 10 := fun q => c_9 ((nI_ltI (b := 10) (by omega) (by omega)).mpr q)
    exact thw 12 _ _ _ _ "java/lang/IllegalStateException" "there are 10 places" ["java/lang/RuntimeException", "java/lang/Exception"] 48 50 52 (by decide +kernel) fi_exn lk_X3_addPlace_cl48 lk_X3_addPlace_in48 (by decide) at_X3_addPlace_52 ng_52 (by decide) og_52_48 dX3_addPlace_12 dX3_addPlace_15 dX3_addPlace_16 dX3_addPlace_18 dX3_addPlace_21 (Nat.le_of_ble_eq_true rfl) (Nat.le_of_ble_eq_true rfl) (Nat.le_of_ble_eq_true rfl) (Nat.le_of_ble_eq_true rfl) (pe3_1 (if_neg hge)) (Nat.le_of_ble_eq_true rfl) (Nat.le_of_ble_eq_true rfl)
abbrev rmX3_setMinutes : Room := { frames := 7, cells := 4, slots := 24, locals := 113 }
set_option maxHeartbeats 4000000 in
set_option maxRecDepth 100000 in
theorem m_X3_setMinutes (l : Launch) (hlf : l.stackTraces = false) (g : Gx) (a : Nat → Nat) (sn : Nat) (dy : Nat) (pl : Nat) (fm : Nat → Int32) (x : Int32) (y : Int32) (v : Int32) (hpl : pl ≤ 10) (sz : Nat) : vx_Met l yX3_setMinutes wsX3_setMinutes rmX3_setMinutes (PX SL3 g [.ref (a 0), .int x, .int y, .int v] sz [(a 2, .inl (g.2.1, 100, .inl fm))] [(a 0, .inr (4, [.ref (a 1), .ref (a 4), .ref (a 5), .ref (a 6), .ref (a 7), .ref (a 8), .int (nI sn), .int (nI dy)])), (a 1, .inr (2, [.ref (a 2), .ref (a 3), .int (nI pl)]))]) (va_Qi (fun (r : Int32) (_ : Unit) => kSetMin pl x y v = 0 ∧ r = fm (x.toNatClampNeg * 10 + y.toNatClampNeg)) (BZ g [(a 2, .inl (g.2.1, 100, .inl fm))] sz (fun (u : Unit) => [(a 2, .inl (g.2.1, 100, .inl (upd (upd fm (x.toNatClampNeg * 10 + y.toNatClampNeg) v) (y.toNatClampNeg * 10 + x.toNatClampNeg) v)))])) (va_A [(a 2, .inl (g.2.1, 100, .inl fm))] sz)) (XZ (pe3 eI eA eS (kSetMin pl x y v)) sz) 4 24 (va_A [(a 2, .inl (g.2.1, 100, .inl fm))] sz) := by
  refine x_open_i (cc := cX3_setMinutes) (maxL := 5) (ret := .int) (own := RX3) (by decide) rfl rfl (Nat.le_of_ble_eq_true rfl) hlf rfl ?_
  intro p e s m args below meth c Q h hT hE fin thr thw
  refine z_lve (lv' := [(0, .ref (a 0)), (1, .int x), (2, .int y), (3, .int v)]) rfl ?_
  refine z_aload_n h dX3_setMinutes_0 rfl 0 rfl ?_
  refine z_iload_n h dX3_setMinutes_1 rfl 1 rfl ?_
  refine x_Vv h (As := [.int x]) (st := []) hT (fun q hq => hq) (fun sz => m_X3_checkPlace l hlf g a sn dy pl x (by omega) sz) (cwV 1 h.ts gX3_setMinutes_X3_checkPlace rfl rfl rfl (by decide +kernel) ⟨Nat.le_of_ble_eq_true rfl, Nat.le_of_ble_eq_true rfl⟩) rfl [] [1, 2] rfl rfl rfl rfl 1 rfl rfl rfl rfl (Nat.le_of_ble_eq_true rfl) ⟨(Nat.le_of_ble_eq_true rfl), (Nat.le_of_ble_eq_true rfl)⟩ (fun _ => (Nat.le_of_ble_eq_true rfl)) (wN := fun u => []) (fun _ => rfl) dX3_setMinutes_2 (fun E hE => thr E _ _ _ _ _ (by rw [hE.2]; exact pe3_1 (ksm_1 hE.1)) (Nat.le_of_ble_eq_true rfl) (Nat.le_of_ble_eq_true rfl)) (fun u_2 h_2 => ?_)
  refine z_aload_n h dX3_setMinutes_5 rfl 0 rfl ?_
  refine z_iload_n h dX3_setMinutes_6 rfl 2 rfl ?_
  refine x_Vv h (As := [.int y]) (st := []) hT (fun q hq => hq) (fun sz => m_X3_checkPlace l hlf g a sn dy pl y (by omega) sz) (cwV 1 h.ts gX3_setMinutes_X3_checkPlace rfl rfl rfl (by decide +kernel) ⟨Nat.le_of_ble_eq_true rfl, Nat.le_of_ble_eq_true rfl⟩) rfl [] [1, 2] rfl rfl rfl rfl 1 rfl rfl rfl rfl (Nat.le_of_ble_eq_true rfl) ⟨(Nat.le_of_ble_eq_true rfl), (Nat.le_of_ble_eq_true rfl)⟩ (fun _ => (Nat.le_of_ble_eq_true rfl)) (wN := fun u => []) (fun _ => rfl) dX3_setMinutes_7 (fun E hE => thr E _ _ _ _ _ (by rw [hE.2]; exact pe3_1 (ksm_1' hE.1)) (Nat.le_of_ble_eq_true rfl) (Nat.le_of_ble_eq_true rfl)) (fun u_7 h_7 => ?_)
  refine z_iload_n h dX3_setMinutes_10 rfl 1 rfl ?_
  refine z_iload_n h dX3_setMinutes_11 rfl 2 rfl ?_
  refine z_icmp_ne h (tgt := 25) dX3_setMinutes_12 (by decide) (fun c_12 => ?_) (fun c_12 => ?_)
  · refine z_aload_n h dX3_setMinutes_25 rfl 0 rfl ?_
    refine z_iload_n h dX3_setMinutes_26 rfl 3 rfl ?_
    refine z_iconst h (v := 1) dX3_setMinutes_27 (by decide) ?_
    refine z_bipush h (v := 120) dX3_setMinutes_28 (by decide) ?_
    refine x_Vv h (As := [.int v, .int 1, .int 120]) (st := []) hT (fun q hq => hq) (fun sz => m_X3_checkRange l hlf g a v 1 120  sz) (cwV 3 h.ts gX3_setMinutes_X3_checkRange rfl rfl rfl (by decide +kernel) ⟨Nat.le_of_ble_eq_true rfl, Nat.le_of_ble_eq_true rfl⟩) rfl [] [] rfl rfl rfl rfl 1 rfl rfl rfl rfl (Nat.le_of_ble_eq_true rfl) ⟨(Nat.le_of_ble_eq_true rfl), (Nat.le_of_ble_eq_true rfl)⟩ (fun _ => (Nat.le_of_ble_eq_true rfl)) (wN := fun u => []) (fun _ => rfl) dX3_setMinutes_30 (fun E hE => thr E _ _ _ _ _ (by rw [hE.2]; exact pe3_2 (ksm_2' h_2 h_7 hE.1)) (Nat.le_of_ble_eq_true rfl) (Nat.le_of_ble_eq_true rfl)) (fun u_30 h_30 => ?_)
    have hk0 := ksm_0 h_2 h_7 c_12 h_30
    obtain ⟨j, hj, rfl⟩ := okI_of h_2 (by omega)
    obtain ⟨q, hq, rfl⟩ := okI_of h_7 (by omega)
    refine z_aload_n h dX3_setMinutes_33 rfl 0 rfl ?_
    refine z_arm (wW := [(a 2, .inl (g.2.1, 100, .inl fm))]) (wR := [(a 0, .inr (4, [.ref (a 1), .ref (a 4), .ref (a 5), .ref (a 6), .ref (a 7), .ref (a 8), .int (nI sn), .int (nI dy)])), (a 1, .inr (2, [.ref (a 2), .ref (a 3), .int (nI pl)]))]) ?_
    have h2 := h.arm (B := va_A [(a 2, .inl (g.2.1, 100, .inl fm))] s.heap.size) (fun q hq => Or.inr hq)
    generalize hAe : va_A [(a 2, .inl (g.2.1, 100, .inl fm))] s.heap.size = A at h2 hE fin ⊢
    refine z_get h2 in_X3_setMinutes_X3 1 rfl rfl 0 (by decide) lk_X3_setMinutes_f12 rfl dX3_setMinutes_34 ?_
    refine z_iload_n h2 dX3_setMinutes_37 rfl 1 rfl ?_
    refine z_iload_n h2 dX3_setMinutes_38 rfl 2 rfl ?_
    refine z_Vi h2 (As := [.int (nI j), .int (nI q)]) (st := []) (fun sz => m_X1_between l g (a 1) (a 2) (a 3) pl fm j q (by omega) (by omega) sz) (cwV 2 h2.ts gX3_setMinutes_X1_between rfl rfl rfl (by decide +kernel) ⟨Nat.le_of_ble_eq_true rfl, Nat.le_of_ble_eq_true rfl⟩) rfl [] [2, 0] rfl rfl rfl rfl 2 rfl rfl rfl rfl (Nat.le_of_ble_eq_true rfl) ⟨(Nat.le_of_ble_eq_true rfl), (Nat.le_of_ble_eq_true rfl)⟩ (fun _ => (Nat.le_of_ble_eq_true rfl)) (wN := fun u => [(a 2, .inl (g.2.1, 100, .inl fm))]) (fun _ => rfl) dX3_setMinutes_39 (fun r_39 u_39 h_39 => ?_)
    refine z_istore h2 dX3_setMinutes_42 (by decide) (lv' := [(0, .ref (a 0)), (1, .int (nI j)), (2, .int (nI q)), (3, .int v), (4, .int r_39)]) [1, 2, 3, 4, 0] rfl ?_
    refine z_aload_n h2 dX3_setMinutes_44 rfl 0 rfl ?_
    refine z_get h2 in_X3_setMinutes_X3 1 rfl rfl 0 (by decide) lk_X3_setMinutes_f12 rfl dX3_setMinutes_45 ?_
    refine z_iload_n h2 dX3_setMinutes_48 rfl 1 rfl ?_
    refine z_iload_n h2 dX3_setMinutes_49 rfl 2 rfl ?_
    refine z_iload_n h2 dX3_setMinutes_50 rfl 3 rfl ?_
    refine z_Vv h2 (As := [.int (nI j), .int (nI q), .int v]) (st := []) (fun sz => m_X1_join l g (a 1) (a 2) (a 3) pl fm j q v (by omega) (by omega) sz) (cwV 3 h2.ts gX3_setMinutes_X1_join rfl rfl rfl (by decide +kernel) ⟨Nat.le_of_ble_eq_true rfl, Nat.le_of_ble_eq_true rfl⟩) rfl [0] [2] rfl rfl rfl rfl 2 rfl rfl rfl rfl (Nat.le_of_ble_eq_true rfl) ⟨(Nat.le_of_ble_eq_true rfl), (Nat.le_of_ble_eq_true rfl)⟩ (fun _ => (Nat.le_of_ble_eq_true rfl)) (wN := fun u => [(a 2, .inl (g.2.1, 100, .inl (upd (upd fm (j * 10 + q) v) (q * 10 + j) v)))]) (fun _ => rfl) dX3_setMinutes_51 (fun u_51 h_51 => ?_)
    refine z_iload h2 dX3_setMinutes_54 4 rfl ?_
    exact fin _ _ _ () _ _ _ _ dX3_setMinutes_56 rfl ⟨hk0, by rw [h_39, nI_clamp (by omega), nI_clamp (by omega)]⟩ (by rw [nI_clamp (by omega), nI_clamp (by omega)]) (Nat.le_of_ble_eq_true rfl) (Nat.le_of_ble_eq_true rfl)
  · exact thw 15 _ _ _ _ "java/lang/IllegalArgumentException" "the places are the same" ["java/lang/RuntimeException", "java/lang/Exception"] 63 65 67 (by decide +kernel) fi_exn lk_X3_setMinutes_cl63 lk_X3_setMinutes_in63 (by decide) at_X3_setMinutes_67 ng_67 (by decide) og_67_63 dX3_setMinutes_15 dX3_setMinutes_18 dX3_setMinutes_19 dX3_setMinutes_21 dX3_setMinutes_24 (Nat.le_of_ble_eq_true rfl) (Nat.le_of_ble_eq_true rfl) (Nat.le_of_ble_eq_true rfl) (Nat.le_of_ble_eq_true rfl) (pe3_2 (ksm_2 h_2 h_7 (by first | exact c_12 | exact Classical.not_not.mp c_12))) (Nat.le_of_ble_eq_true rfl) (Nat.le_of_ble_eq_true rfl)
abbrev rmX3_setTip : Room := { frames := 7, cells := 3, slots := 18, locals := 111 }
set_option maxHeartbeats 4000000 in
set_option maxRecDepth 100000 in
theorem m_X3_setTip (l : Launch) (hlf : l.stackTraces = false) (g : Gx) (a : Nat → Nat) (sn : Nat) (dy : Nat) (pl : Nat) (ft : Nat → Int32) (x : Int32) (k : Int32) (b : Int32) (hpl : pl ≤ 10) (sz : Nat) : vx_Met l yX3_setTip wsX3_setTip rmX3_setTip (PX SL3 g [.ref (a 0), .int x, .int k, .int b] sz [(a 3, .inl (g.2.1, 10, .inl ft))] [(a 0, .inr (4, [.ref (a 1), .ref (a 4), .ref (a 5), .ref (a 6), .ref (a 7), .ref (a 8), .int (nI sn), .int (nI dy)])), (a 1, .inr (2, [.ref (a 2), .ref (a 3), .int (nI pl)]))]) (va_Qi (fun (r : Int32) (_ : Unit) => kSetTip pl ft x k b = 0 ∧ r = hasT (ft x.toNatClampNeg) k) (BZ g [(a 3, .inl (g.2.1, 10, .inl ft))] sz (fun (u : Unit) => [(a 3, .inl (g.2.1, 10, .inl (upd ft x.toNatClampNeg (putT (ft x.toNatClampNeg) k b))))])) (va_A [(a 3, .inl (g.2.1, 10, .inl ft))] sz)) (XZ (pe3 eI eA eS (kSetTip pl ft x k b)) sz) 3 18 (va_A [(a 3, .inl (g.2.1, 10, .inl ft))] sz) := by
  refine x_open_i (cc := cX3_setTip) (maxL := 5) (ret := .boolean) (own := RX3) (by decide) rfl rfl (Nat.le_of_ble_eq_true rfl) hlf rfl ?_
  intro p e s m args below meth c Q h hT hE fin thr thw
  refine z_lve (lv' := [(0, .ref (a 0)), (1, .int x), (2, .int k), (3, .int b)]) rfl ?_
  refine z_aload_n h dX3_setTip_0 rfl 0 rfl ?_
  refine z_iload_n h dX3_setTip_1 rfl 1 rfl ?_
  refine x_Vv h (As := [.int x]) (st := []) hT (fun q hq => hq) (fun sz => m_X3_checkPlace l hlf g a sn dy pl x (by omega) sz) (cwV 1 h.ts gX3_setTip_X3_checkPlace rfl rfl rfl (by decide +kernel) ⟨Nat.le_of_ble_eq_true rfl, Nat.le_of_ble_eq_true rfl⟩) rfl [] [1, 2] rfl rfl rfl rfl 1 rfl rfl rfl rfl (Nat.le_of_ble_eq_true rfl) ⟨(Nat.le_of_ble_eq_true rfl), (Nat.le_of_ble_eq_true rfl)⟩ (fun _ => (Nat.le_of_ble_eq_true rfl)) (wN := fun u => []) (fun _ => rfl) dX3_setTip_2 (fun E hE => thr E _ _ _ _ _ (by rw [hE.2]; exact pe3_1 (kst_1 hE.1)) (Nat.le_of_ble_eq_true rfl) (Nat.le_of_ble_eq_true rfl)) (fun u_2 h_2 => ?_)
  refine z_aload_n h dX3_setTip_5 rfl 0 rfl ?_
  refine z_iload_n h dX3_setTip_6 rfl 2 rfl ?_
  refine x_Vv h (As := [.int k]) (st := []) hT (fun q hq => hq) (fun sz => m_X3_checkKind l hlf g a k  sz) (cwV 1 h.ts gX3_setTip_X3_checkKind rfl rfl rfl (by decide +kernel) ⟨Nat.le_of_ble_eq_true rfl, Nat.le_of_ble_eq_true rfl⟩) rfl [] [] rfl rfl rfl rfl 1 rfl rfl rfl rfl (Nat.le_of_ble_eq_true rfl) ⟨(Nat.le_of_ble_eq_true rfl), (Nat.le_of_ble_eq_true rfl)⟩ (fun _ => (Nat.le_of_ble_eq_true rfl)) (wN := fun u => []) (fun _ => rfl) dX3_setTip_7 (fun E hE => thr E _ _ _ _ _ (by rw [hE.2]; exact pe3_1 (kst_1' hE.1)) (Nat.le_of_ble_eq_true rfl) (Nat.le_of_ble_eq_true rfl)) (fun u_7 h_7 => ?_)
  have hx := h_2
  obtain ⟨j, hj, rfl⟩ := okI_of h_2 (by omega)
  have hcl : (nI j).toNatClampNeg = j := nI_clamp (by omega)
  refine z_aload_n h dX3_setTip_10 rfl 0 rfl ?_
  refine z_get h in_X3_setTip_X3 1 rfl rfl 0 (by decide) lk_X3_setTip_f12 rfl dX3_setTip_11 ?_
  refine z_iload_n h dX3_setTip_14 rfl 1 rfl ?_
  refine z_iload_n h dX3_setTip_15 rfl 2 rfl ?_
  refine z_Vi h (As := [.int (nI j), .int k]) (st := []) (fun sz => m_X1_hasTip l g (a 1) (a 2) (a 3) pl ft j k (by omega) sz) (cwV 2 h.ts gX3_setTip_X1_hasTip rfl rfl rfl (by decide +kernel) ⟨Nat.le_of_ble_eq_true rfl, Nat.le_of_ble_eq_true rfl⟩) rfl [] [2, 0] rfl rfl rfl rfl 2 rfl rfl rfl rfl (Nat.le_of_ble_eq_true rfl) ⟨(Nat.le_of_ble_eq_true rfl), (Nat.le_of_ble_eq_true rfl)⟩ (fun _ => (Nat.le_of_ble_eq_true rfl)) (wN := fun u => []) (fun _ => rfl) dX3_setTip_16 (fun r_16 u_16 h_16 => ?_)
  refine z_istore h dX3_setTip_19 (by decide) (lv' := [(0, .ref (a 0)), (1, .int (nI j)), (2, .int k), (3, .int b), (4, .int r_16)]) [1, 2, 3, 4, 0] rfl ?_
  refine z_iload h dX3_setTip_21 4 rfl ?_
  refine z_if_eq h (tgt := 52) dX3_setTip_23 (by decide) (fun c_23 => ?_) (fun c_23 => ?_)
  · have hk0 : kSetTip pl ft (nI j) k b = 0 := kst_0 hx h_7 (by rw [hcl]; first | exact fun q => c_27 q.2.1 | exact fun q => q.1 (h_16.symm.trans c_23) | exact fun q => c_39 (h_35.trans q.2.2))
    refine z_arm (wW := [(a 3, .inl (g.2.1, 10, .inl ft))]) (wR := [(a 0, .inr (4, [.ref (a 1), .ref (a 4), .ref (a 5), .ref (a 6), .ref (a 7), .ref (a 8), .int (nI sn), .int (nI dy)])), (a 1, .inr (2, [.ref (a 2), .ref (a 3), .int (nI pl)]))]) ?_
    have h2 := h.arm (B := va_A [(a 3, .inl (g.2.1, 10, .inl ft))] s.heap.size) (fun q hq => Or.inr hq)
    generalize hAe : va_A [(a 3, .inl (g.2.1, 10, .inl ft))] s.heap.size = A at h2 hE fin ⊢
    refine z_aload_n h2 dX3_setTip_52 rfl 0 rfl ?_
    refine z_get h2 in_X3_setTip_X3 1 rfl rfl 0 (by decide) lk_X3_setTip_f12 rfl dX3_setTip_53 ?_
    refine z_iload_n h2 dX3_setTip_56 rfl 1 rfl ?_
    refine z_iload_n h2 dX3_setTip_57 rfl 2 rfl ?_
    refine z_iload_n h2 dX3_setTip_58 rfl 3 rfl ?_
    refine z_Vv h2 (As := [.int (nI j), .int k, .int b]) (st := []) (fun sz => m_X1_putTip l g (a 1) (a 2) (a 3) pl ft j k b (by omega) sz) (cwV 3 h2.ts gX3_setTip_X1_putTip rfl rfl rfl (by decide +kernel) ⟨Nat.le_of_ble_eq_true rfl, Nat.le_of_ble_eq_true rfl⟩) rfl [0] [2] rfl rfl rfl rfl 2 rfl rfl rfl rfl (Nat.le_of_ble_eq_true rfl) ⟨(Nat.le_of_ble_eq_true rfl), (Nat.le_of_ble_eq_true rfl)⟩ (fun _ => (Nat.le_of_ble_eq_true rfl)) (wN := fun u => [(a 3, .inl (g.2.1, 10, .inl (upd ft j (putT (ft j) k b))))]) (fun _ => rfl) dX3_setTip_59 (fun u_59 h_59 => ?_)
    refine z_iload h2 dX3_setTip_62 4 rfl ?_
    exact fin _ _ _ () _ _ _ _ dX3_setTip_64 (by rw [h_16]; exact nar_has _ _) ⟨hk0, by rw [hcl]; exact h_16⟩ (by rw [hcl]) (Nat.le_of_ble_eq_true rfl) (Nat.le_of_ble_eq_true rfl)
  · refine z_iload_n h dX3_setTip_26 rfl 3 rfl ?_
    refine z_if_ne h (tgt := 52) dX3_setTip_27 (by decide) (fun c_27 => ?_) (fun c_27 => ?_)
    · have hk0 : kSetTip pl ft (nI j) k b = 0 := kst_0 hx h_7 (by rw [hcl]; first | exact fun q => c_27 q.2.1 | exact fun q => q.1 (h_16.symm.trans c_23) | exact fun q => c_39 (h_35.trans q.2.2))
      refine z_arm (wW := [(a 3, .inl (g.2.1, 10, .inl ft))]) (wR := [(a 0, .inr (4, [.ref (a 1), .ref (a 4), .ref (a 5), .ref (a 6), .ref (a 7), .ref (a 8), .int (nI sn), .int (nI dy)])), (a 1, .inr (2, [.ref (a 2), .ref (a 3), .int (nI pl)]))]) ?_
      have h2 := h.arm (B := va_A [(a 3, .inl (g.2.1, 10, .inl ft))] s.heap.size) (fun q hq => Or.inr hq)
      generalize hAe : va_A [(a 3, .inl (g.2.1, 10, .inl ft))] s.heap.size = A at h2 hE fin ⊢
      refine z_aload_n h2 dX3_setTip_52 rfl 0 rfl ?_
      refine z_get h2 in_X3_setTip_X3 1 rfl rfl 0 (by decide) lk_X3_setTip_f12 rfl dX3_setTip_53 ?_
      refine z_iload_n h2 dX3_setTip_56 rfl 1 rfl ?_
      refine z_iload_n h2 dX3_setTip_57 rfl 2 rfl ?_
      refine z_iload_n h2 dX3_setTip_58 rfl 3 rfl ?_
      refine z_Vv h2 (As := [.int (nI j), .int k, .int b]) (st := []) (fun sz => m_X1_putTip l g (a 1) (a 2) (a 3) pl ft j k b (by omega) sz) (cwV 3 h2.ts gX3_setTip_X1_putTip rfl rfl rfl (by decide +kernel) ⟨Nat.le_of_ble_eq_true rfl, Nat.le_of_ble_eq_true rfl⟩) rfl [0] [2] rfl rfl rfl rfl 2 rfl rfl rfl rfl (Nat.le_of_ble_eq_true rfl) ⟨(Nat.le_of_ble_eq_true rfl), (Nat.le_of_ble_eq_true rfl)⟩ (fun _ => (Nat.le_of_ble_eq_true rfl)) (wN := fun u => [(a 3, .inl (g.2.1, 10, .inl (upd ft j (putT (ft j) k b))))]) (fun _ => rfl) dX3_setTip_59 (fun u_59 h_59 => ?_)
      refine z_iload h2 dX3_setTip_62 4 rfl ?_
      exact fin _ _ _ () _ _ _ _ dX3_setTip_64 (by rw [h_16]; exact nar_has _ _) ⟨hk0, by rw [hcl]; exact h_16⟩ (by rw [hcl]) (Nat.le_of_ble_eq_true rfl) (Nat.le_of_ble_eq_true rfl)
    · refine z_aload_n h dX3_setTip_30 rfl 0 rfl ?_
      refine z_get h in_X3_setTip_X3 1 rfl rfl 0 (by decide) lk_X3_setTip_f12 rfl dX3_setTip_31 ?_
      refine z_iload_n h dX3_setTip_34 rfl 2 rfl ?_
      refine z_Vi h (As := [.int k]) (st := []) (fun sz => m_X1_countTips l g (a 1) (a 2) (a 3) pl ft k (by omega) sz) (cwV 1 h.ts gX3_setTip_X1_countTips rfl rfl rfl (by decide +kernel) ⟨Nat.le_of_ble_eq_true rfl, Nat.le_of_ble_eq_true rfl⟩) rfl [] [2, 0] rfl rfl rfl rfl 2 rfl rfl rfl rfl (Nat.le_of_ble_eq_true rfl) ⟨(Nat.le_of_ble_eq_true rfl), (Nat.le_of_ble_eq_true rfl)⟩ (fun _ => (Nat.le_of_ble_eq_true rfl)) (wN := fun u => []) (fun _ => rfl) dX3_setTip_35 (fun r_35 u_35 h_35 => ?_)
      refine z_iconst h (v := 1) dX3_setTip_38 (by decide) ?_
      refine z_icmp_ne h (tgt := 52) dX3_setTip_39 (by decide) (fun c_39 => ?_) (fun c_39 => ?_)
      · have hk0 : kSetTip pl ft (nI j) k b = 0 := kst_0 hx h_7 (by rw [hcl]; first | exact fun q => c_27 q.2.1 | exact fun q => q.1 (h_16.symm.trans c_23) | exact fun q => c_39 (h_35.trans q.2.2))
        refine z_arm (wW := [(a 3, .inl (g.2.1, 10, .inl ft))]) (wR := [(a 0, .inr (4, [.ref (a 1), .ref (a 4), .ref (a 5), .ref (a 6), .ref (a 7), .ref (a 8), .int (nI sn), .int (nI dy)])), (a 1, .inr (2, [.ref (a 2), .ref (a 3), .int (nI pl)]))]) ?_
        have h2 := h.arm (B := va_A [(a 3, .inl (g.2.1, 10, .inl ft))] s.heap.size) (fun q hq => Or.inr hq)
        generalize hAe : va_A [(a 3, .inl (g.2.1, 10, .inl ft))] s.heap.size = A at h2 hE fin ⊢
        refine z_aload_n h2 dX3_setTip_52 rfl 0 rfl ?_
        refine z_get h2 in_X3_setTip_X3 1 rfl rfl 0 (by decide) lk_X3_setTip_f12 rfl dX3_setTip_53 ?_
        refine z_iload_n h2 dX3_setTip_56 rfl 1 rfl ?_
        refine z_iload_n h2 dX3_setTip_57 rfl 2 rfl ?_
        refine z_iload_n h2 dX3_setTip_58 rfl 3 rfl ?_
        refine z_Vv h2 (As := [.int (nI j), .int k, .int b]) (st := []) (fun sz => m_X1_putTip l g (a 1) (a 2) (a 3) pl ft j k b (by omega) sz) (cwV 3 h2.ts gX3_setTip_X1_putTip rfl rfl rfl (by decide +kernel) ⟨Nat.le_of_ble_eq_true rfl, Nat.le_of_ble_eq_true rfl⟩) rfl [0] [2] rfl rfl rfl rfl 2 rfl rfl rfl rfl (Nat.le_of_ble_eq_true rfl) ⟨(Nat.le_of_ble_eq_true rfl), (Nat.le_of_ble_eq_true rfl)⟩ (fun _ => (Nat.le_of_ble_eq_true rfl)) (wN := fun u => [(a 3, .inl (g.2.1, 10, .inl (upd ft j (putT (ft j) k b))))]) (fun _ => rfl) dX3_setTip_59 (fun u_59 h_59 => ?_)
        refine z_iload h2 dX3_setTip_62 4 rfl ?_
        exact fin _ _ _ () _ _ _ _ dX3_setTip_64 (by rw [h_16]; exact nar_has _ _) ⟨hk0, by rw [hcl]; exact h_16⟩ (by rw [hcl]) (Nat.le_of_ble_eq_true rfl) (Nat.le_of_ble_eq_true rfl)
      · exact thw 42 _ _ _ _ "java/lang/IllegalArgumentException" "it is the last tip for this kind" ["java/lang/RuntimeException", "java/lang/Exception"] 63 90 67 (by decide +kernel) fi_exn lk_X3_setTip_cl63 lk_X3_setTip_in63 (by decide) at_X3_setTip_67 ng_67 (by decide) og_67_63 dX3_setTip_42 dX3_setTip_45 dX3_setTip_46 dX3_setTip_48 dX3_setTip_51 (Nat.le_of_ble_eq_true rfl) (Nat.le_of_ble_eq_true rfl) (Nat.le_of_ble_eq_true rfl) (Nat.le_of_ble_eq_true rfl) (pe3_2 (kst_2 hx h_7 ⟨by rw [hcl, ← h_16]; exact c_23, c_27, by rw [← h_35]; exact c_39⟩)) (Nat.le_of_ble_eq_true rfl) (Nat.le_of_ble_eq_true rfl)
abbrev rmX3_soil : Room := { frames := 7, cells := 1, slots := 6, locals := 111 }
set_option maxHeartbeats 4000000 in
set_option maxRecDepth 100000 in
theorem m_X3_soil (l : Launch) (hlf : l.stackTraces = false) (g : Gx) (a : Nat → Nat) (sn : Nat) (dy : Nat) (mc : Int32) (ed : Nat) (n : Nat) (cap : Nat) (ad : Nat → Nat) (B : Nat → Nat → Int32) (x : Int32) (hn : n ≤ 16) (hc : n ≤ cap) (hcap : cap ≤ 26) (sz : Nat) : vx_Met l yX3_soil wsX3_soil rmX3_soil (PX SL3 g [.ref (a 0), .int x] sz ([(a 0, .inr (4, [.ref (a 1), .ref (a 4), .ref (a 5), .ref (a 6), .ref (a 7), .ref (a 8), .int (nI sn), .int (nI dy)])), (a 4, .inr (0, [.int mc, .ref ed, .int (nI n)]))] ++ bp g n ed cap ad B) []) (va_Qi (fun (r : Int32) (_ : Unit) => okI n x = true ∧ r = if B x.toNatClampNeg 9 = 0 then 1 else 0) (BZ g ([(a 0, .inr (4, [.ref (a 1), .ref (a 4), .ref (a 5), .ref (a 6), .ref (a 7), .ref (a 8), .int (nI sn), .int (nI dy)])), (a 4, .inr (0, [.int mc, .ref ed, .int (nI n)]))] ++ bp g n ed cap ad B) sz (fun (u : Unit) => ([(a 0, .inr (4, [.ref (a 1), .ref (a 4), .ref (a 5), .ref (a 6), .ref (a 7), .ref (a 8), .int (nI sn), .int (nI dy)])), (a 4, .inr (0, [.int mc, .ref ed, .int (nI n)]))] ++ bp g n ed cap ad (updB B x.toNatClampNeg (upd (B x.toNatClampNeg) 9 1))))) (va_A ([(a 0, .inr (4, [.ref (a 1), .ref (a 4), .ref (a 5), .ref (a 6), .ref (a 7), .ref (a 8), .int (nI sn), .int (nI dy)])), (a 4, .inr (0, [.int mc, .ref ed, .int (nI n)]))] ++ bp g n ed cap ad B) sz)) (XZ (pe3 eI eI eI (if okI n x = true then 0 else 1)) sz) 1 6 (va_A ([(a 0, .inr (4, [.ref (a 1), .ref (a 4), .ref (a 5), .ref (a 6), .ref (a 7), .ref (a 8), .int (nI sn), .int (nI dy)])), (a 4, .inr (0, [.int mc, .ref ed, .int (nI n)]))] ++ bp g n ed cap ad B) sz) := by
  refine x_open0_i (cc := cX3_soil) (maxL := 4) (ret := .boolean) (own := RX3) (by decide) rfl rfl (Nat.le_of_ble_eq_true rfl) hlf rfl ?_
  intro p e s m args below meth c Q h hT hE fin thr thw
  refine z_lve (lv' := [(0, .ref (a 0)), (1, .int x)]) rfl ?_
  refine z_aload_n h dX3_soil_0 rfl 0 rfl ?_
  refine z_iload_n h dX3_soil_1 rfl 1 rfl ?_
  refine x_Vv h (As := [.int x]) (st := []) hT (fun q hq => hq) (fun sz => m_X3_checkBin l hlf g a sn dy mc ed n x (by omega) sz) (cwV 1 h.ts gX3_soil_X3_checkBin rfl rfl rfl (by decide +kernel) ⟨Nat.le_of_ble_eq_true rfl, Nat.le_of_ble_eq_true rfl⟩) rfl [] [0, 1] rfl rfl rfl rfl 0 rfl rfl rfl rfl (Nat.le_of_ble_eq_true rfl) ⟨(Nat.le_of_ble_eq_true rfl), (Nat.le_of_ble_eq_true rfl)⟩ (fun _ => (Nat.le_of_ble_eq_true rfl)) (wN := fun u => []) (fun _ => rfl) dX3_soil_2 (fun E hE => thr E _ _ _ _ _ (by rw [hE.2]; exact pe3_1 (k1_1 hE.1)) (Nat.le_of_ble_eq_true rfl) (Nat.le_of_ble_eq_true rfl)) (fun u_2 h_2 => ?_)
  have hx := h_2
  obtain ⟨i, hi, rfl⟩ := okI_of h_2 (by omega)
  have hcl : (nI i).toNatClampNeg = i := nI_clamp (by omega)
  refine z_aload_n h dX3_soil_5 rfl 0 rfl ?_
  refine z_get h in_X3_soil_X3 0 rfl rfl 1 (by decide) lk_X3_soil_f19 rfl dX3_soil_6 ?_
  refine z_iload_n h dX3_soil_9 rfl 1 rfl ?_
  refine z_Vr h (As := [.int (nI i)]) (st := []) (fun sz => m_Jx4a65c_get_915e3 l g (a 4) mc ed n cap ad i (by omega) (by omega) (by omega) sz) (cwV 1 h.ts gX3_soil_Jx4a65c_get_915e3 rfl rfl rfl (by decide +kernel) ⟨Nat.le_of_ble_eq_true rfl, Nat.le_of_ble_eq_true rfl⟩) rfl [] [1, 2] (lc rfl (lc (bp_el (by omega)) rfl)) rfl rfl rfl 1 rfl rfl rfl rfl (Nat.le_of_ble_eq_true rfl) ⟨(Nat.le_of_ble_eq_true rfl), (Nat.le_of_ble_eq_true rfl)⟩ (fun _ => (Nat.le_of_ble_eq_true rfl)) (wN := fun u => []) (fun _ => rfl) dX3_soil_10 (fun u_10 h_10 => ?_)
  refine z_cast h lk_X3_soil_cl113 (2 + (i + 1)) (bp_at (by omega)) rfl dX3_soil_13 ?_
  refine z_astore_n h dX3_soil_16 rfl (by decide) (lv' := [(0, .ref (a 0)), (1, .int (nI i)), (2, .ref (ad i))]) [1, 2, 0] rfl ?_
  refine z_arm0 ?_
  have h2 := h.arm (B := va_A ([(a 0, .inr (4, [.ref (a 1), .ref (a 4), .ref (a 5), .ref (a 6), .ref (a 7), .ref (a 8), .int (nI sn), .int (nI dy)])), (a 4, .inr (0, [.int mc, .ref ed, .int (nI n)]))] ++ bp g n ed cap ad B) s.heap.size) (fun q hq => Or.inr hq)
  generalize hAe : va_A ([(a 0, .inr (4, [.ref (a 1), .ref (a 4), .ref (a 5), .ref (a 6), .ref (a 7), .ref (a 8), .int (nI sn), .int (nI dy)])), (a 4, .inr (0, [.int mc, .ref ed, .int (nI n)]))] ++ bp g n ed cap ad B) s.heap.size = A at h2 hE fin ⊢
  refine z_aload_n h2 dX3_soil_17 rfl 2 rfl ?_
  refine z_getN h2 in_X3_soil_X0 (2 + (i + 1)) (bp_atW (by omega)) rfl 9 (by decide) (by decide) rfl dX3_soil_18 ?_
  have K_21 : Z p l e rmX3_soil s m args below meth c Q A g 4 29 [(0, .ref (a 0)), (1, .int (nI i)), (2, .ref (ad i))] [.int (if (B i 9) = 0 then 1 else 0)] ([(a 0, .inr (4, [.ref (a 1), .ref (a 4), .ref (a 5), .ref (a 6), .ref (a 7), .ref (a 8), .int (nI sn), .int (nI dy)])), (a 4, .inr (0, [.int mc, .ref ed, .int (nI n)]))] ++ bp g n ed cap ad B) [] 1 6 := by
    refine z_istore_n h2 dX3_soil_29 rfl (by decide) (lv' := [(0, .ref (a 0)), (1, .int (nI i)), (2, .ref (ad i)), (3, .int (if (B i 9) = 0 then 1 else 0))]) [1, 2, 3, 0] rfl ?_
    refine z_aload_n h2 dX3_soil_30 rfl 2 rfl ?_
    refine z_iconst h2 (v := 1) dX3_soil_31 (by decide) ?_
    refine z_putN h2 in_X3_soil_X0 (2 + (i + 1)) tyX0 tyX0_ok nmX0 (bp_at (by omega)) rfl 9 (by decide) (by decide) rfl rfl rfl (Nat.le_of_ble_eq_true rfl) dX3_soil_32 (wW' := ([(a 0, .inr (4, [.ref (a 1), .ref (a 4), .ref (a 5), .ref (a 6), .ref (a 7), .ref (a 8), .int (nI sn), .int (nI dy)])), (a 4, .inr (0, [.int mc, .ref ed, .int (nI n)]))] ++ bp g n ed cap ad (updB B i (upd (B i) 9 1)))) (bp_set (b := upd (B i) 9 1) (by omega)) ?_
    refine z_iload_n h2 dX3_soil_35 rfl 3 rfl ?_
    exact fin _ _ _ () _ _ _ _ dX3_soil_36 (nar_ite _) ⟨hx, by rw [hcl]⟩ (by rw [hcl]) (Nat.le_of_ble_eq_true rfl) (Nat.le_of_ble_eq_true rfl)
  refine z_if_ne h2 (tgt := 28) dX3_soil_21 (by decide) (fun c_21 => ?_) (fun c_21 => ?_)
  · refine z_iconst h2 (v := 0) dX3_soil_28 (by decide) ?_
    exact z_topi (if_neg c_21).symm K_21
  · refine z_iconst h2 (v := 1) dX3_soil_24 (by decide) ?_
    refine z_goto h2 (tgt := 29) dX3_soil_25 (by decide) ?_
    exact z_topi (if_pos c_21).symm K_21
abbrev rmX3_bin : Room := { frames := 7, cells := 2, slots := 12, locals := 111 }
set_option maxHeartbeats 4000000 in
set_option maxRecDepth 100000 in
theorem m_X3_bin (l : Launch) (hlf : l.stackTraces = false) (g : Gx) (a : Nat → Nat) (sn : Nat) (dy : Nat) (mc : Int32) (ed : Nat) (n : Nat) (cap : Nat) (ad : Nat → Nat) (B : Nat → Nat → Int32) (x : Int32) (v : Int32) (hn : n ≤ 16) (hc : n ≤ cap) (hcap : cap ≤ 26) (sz : Nat) : vx_Met l yX3_bin wsX3_bin rmX3_bin (PX SL3 g [.ref (a 0), .int x, .int v] sz ([(a 0, .inr (4, [.ref (a 1), .ref (a 4), .ref (a 5), .ref (a 6), .ref (a 7), .ref (a 8), .int (nI sn), .int (nI dy)])), (a 4, .inr (0, [.int mc, .ref ed, .int (nI n)]))] ++ bp g n ed cap ad B) []) (va_Qi (fun (r : Int32) (_ : Unit) => (okI n x && okI 8 v) = true ∧ r = fct (B x.toNatClampNeg) v.toNatClampNeg) (BZ g ([(a 0, .inr (4, [.ref (a 1), .ref (a 4), .ref (a 5), .ref (a 6), .ref (a 7), .ref (a 8), .int (nI sn), .int (nI dy)])), (a 4, .inr (0, [.int mc, .ref ed, .int (nI n)]))] ++ bp g n ed cap ad B) sz (fun (u : Unit) => ([(a 0, .inr (4, [.ref (a 1), .ref (a 4), .ref (a 5), .ref (a 6), .ref (a 7), .ref (a 8), .int (nI sn), .int (nI dy)])), (a 4, .inr (0, [.int mc, .ref ed, .int (nI n)]))] ++ bp g n ed cap ad B))) (va_A ([(a 0, .inr (4, [.ref (a 1), .ref (a 4), .ref (a 5), .ref (a 6), .ref (a 7), .ref (a 8), .int (nI sn), .int (nI dy)])), (a 4, .inr (0, [.int mc, .ref ed, .int (nI n)]))] ++ bp g n ed cap ad B) sz)) (XZ (pe3 eI eI eI (if (okI n x && okI 8 v) = true then 0 else 1)) sz) 2 12 (va_A ([(a 0, .inr (4, [.ref (a 1), .ref (a 4), .ref (a 5), .ref (a 6), .ref (a 7), .ref (a 8), .int (nI sn), .int (nI dy)])), (a 4, .inr (0, [.int mc, .ref ed, .int (nI n)]))] ++ bp g n ed cap ad B) sz) := by
  refine x_open0_i (cc := cX3_bin) (maxL := 3) (ret := .int) (own := RX3) (by decide) rfl rfl (Nat.le_of_ble_eq_true rfl) hlf rfl ?_
  intro p e s m args below meth c Q h hT hE fin thr thw
  refine z_lve (lv' := [(0, .ref (a 0)), (1, .int x), (2, .int v)]) rfl ?_
  refine z_aload_n h dX3_bin_0 rfl 0 rfl ?_
  refine z_iload_n h dX3_bin_1 rfl 1 rfl ?_
  refine x_Vv h (As := [.int x]) (st := []) hT (fun q hq => hq) (fun sz => m_X3_checkBin l hlf g a sn dy mc ed n x (by omega) sz) (cwV 1 h.ts gX3_bin_X3_checkBin rfl rfl rfl (by decide +kernel) ⟨Nat.le_of_ble_eq_true rfl, Nat.le_of_ble_eq_true rfl⟩) rfl [] [0, 1] rfl rfl rfl rfl 0 rfl rfl rfl rfl (Nat.le_of_ble_eq_true rfl) ⟨(Nat.le_of_ble_eq_true rfl), (Nat.le_of_ble_eq_true rfl)⟩ (fun _ => (Nat.le_of_ble_eq_true rfl)) (wN := fun u => []) (fun _ => rfl) dX3_bin_2 (fun E hE => thr E _ _ _ _ _ (by rw [hE.2]; exact pe3_1 (k1_1 (and_f1 hE.1))) (Nat.le_of_ble_eq_true rfl) (Nat.le_of_ble_eq_true rfl)) (fun u_2 h_2 => ?_)
  have hx := h_2
  obtain ⟨i, hi, rfl⟩ := okI_of h_2 (by omega)
  have hcl : (nI i).toNatClampNeg = i := nI_clamp (by omega)
  refine z_iload_n h dX3_bin_5 rfl 2 rfl ?_
  refine z_if_lt h (tgt := 15) dX3_bin_6 (by decide) (fun c_6 => ?_) (fun c_6 => ?_)
  · exact thw 15 _ _ _ _ "java/lang/IndexOutOfBoundsException" "what is not 0 to 7" ["java/lang/RuntimeException", "java/lang/Exception"] 96 135 100 (by decide +kernel) fi_exn lk_X3_bin_cl96 lk_X3_bin_in96 (by decide) at_X3_bin_100 ng_100 (by decide) og_100_96 dX3_bin_15 dX3_bin_18 dX3_bin_19 dX3_bin_21 dX3_bin_24 (Nat.le_of_ble_eq_true rfl) (Nat.le_of_ble_eq_true rfl) (Nat.le_of_ble_eq_true rfl) (Nat.le_of_ble_eq_true rfl) (pe3_1 (k1_1 (and_f2 (by first | exact okI_neg c_6 | exact okI_ge (n := 8) (i32_nlt c_12) (by omega))))) (Nat.le_of_ble_eq_true rfl) (Nat.le_of_ble_eq_true rfl)
  · refine z_iload_n h dX3_bin_9 rfl 2 rfl ?_
    refine z_bipush h (v := 8) dX3_bin_10 (by decide) ?_
    refine z_icmp_lt h (tgt := 25) dX3_bin_12 (by decide) (fun c_12 => ?_) (fun c_12 => ?_)
    · have hv := okI_in (n := 8) c_6 (i32_nle c_12) (by omega)
      obtain ⟨w, hw, rfl⟩ := okI_of hv (by omega)
      have hcw : (nI w).toNatClampNeg = w := nI_clamp (by omega)
      refine z_aload_n h dX3_bin_25 rfl 0 rfl ?_
      refine z_get h in_X3_bin_X3 0 rfl rfl 1 (by decide) lk_X3_bin_f19 rfl dX3_bin_26 ?_
      refine z_iload_n h dX3_bin_29 rfl 1 rfl ?_
      refine z_Vr h (As := [.int (nI i)]) (st := []) (fun sz => m_Jx4a65c_get_915e3 l g (a 4) mc ed n cap ad i (by omega) (by omega) (by omega) sz) (cwV 1 h.ts gX3_bin_Jx4a65c_get_915e3 rfl rfl rfl (by decide +kernel) ⟨Nat.le_of_ble_eq_true rfl, Nat.le_of_ble_eq_true rfl⟩) rfl [] [1, 2] (lc rfl (lc (bp_el (by omega)) rfl)) rfl rfl rfl 1 rfl rfl rfl rfl (Nat.le_of_ble_eq_true rfl) ⟨(Nat.le_of_ble_eq_true rfl), (Nat.le_of_ble_eq_true rfl)⟩ (fun _ => (Nat.le_of_ble_eq_true rfl)) (wN := fun u => []) (fun _ => rfl) dX3_bin_30 (fun u_30 h_30 => ?_)
      refine z_cast h lk_X3_bin_cl113 (2 + (i + 1)) (bp_at (by omega)) rfl dX3_bin_33 ?_
      refine z_iload_n h dX3_bin_36 rfl 2 rfl ?_
      refine z_Vi h (As := [.int (nI w)]) (st := []) (fun sz => m_X0_fact l g (ad i) (B i) w (by omega) sz) (cwV 1 h.ts gX3_bin_X0_fact rfl rfl rfl (by decide +kernel) ⟨Nat.le_of_ble_eq_true rfl, Nat.le_of_ble_eq_true rfl⟩) rfl [] [(2 + (i + 1))] (lc (bp_at (by omega)) rfl) rfl (by simp [va_nd]; try omega) (by simp [va_nd]) (2 + (i + 1)) (bp_at (by omega)) rfl rfl rfl (Nat.le_of_ble_eq_true rfl) ⟨(Nat.le_of_ble_eq_true rfl), (Nat.le_of_ble_eq_true rfl)⟩ (fun _ => (Nat.le_of_ble_eq_true rfl)) (wN := fun u => []) (fun _ => rfl) dX3_bin_37 (fun r_37 u_37 h_37 => ?_)
      refine z_arm0 ?_
      exact fin _ _ _ () _ _ _ _ dX3_bin_40 rfl ⟨and_t hx hv, by rw [hcl, hcw]; exact h_37⟩ rfl (Nat.le_of_ble_eq_true rfl) (Nat.le_of_ble_eq_true rfl)
    · exact thw 15 _ _ _ _ "java/lang/IndexOutOfBoundsException" "what is not 0 to 7" ["java/lang/RuntimeException", "java/lang/Exception"] 96 135 100 (by decide +kernel) fi_exn lk_X3_bin_cl96 lk_X3_bin_in96 (by decide) at_X3_bin_100 ng_100 (by decide) og_100_96 dX3_bin_15 dX3_bin_18 dX3_bin_19 dX3_bin_21 dX3_bin_24 (Nat.le_of_ble_eq_true rfl) (Nat.le_of_ble_eq_true rfl) (Nat.le_of_ble_eq_true rfl) (Nat.le_of_ble_eq_true rfl) (pe3_1 (k1_1 (and_f2 (by first | exact okI_neg c_6 | exact okI_ge (n := 8) (i32_nlt c_12) (by omega))))) (Nat.le_of_ble_eq_true rfl) (Nat.le_of_ble_eq_true rfl)
abbrev rmX3_expected : Room := { frames := 7, cells := 2, slots := 12, locals := 113 }
set_option maxHeartbeats 4000000 in
set_option maxRecDepth 100000 in
theorem m_X3_expected (l : Launch) (hlf : l.stackTraces = false) (g : Gx) (a : Nat → Nat) (sn : Nat) (dy : Nat) (mc : Int32) (ed : Nat) (n : Nat) (cap : Nat) (ad : Nat → Nat) (B : Nat → Nat → Int32) (x : Int32) (v : Int32) (hn : n ≤ 16) (hc : n ≤ cap) (hcap : cap ≤ 26) (sz : Nat) : vx_Met l yX3_expected wsX3_expected rmX3_expected (PX SL3 g [.ref (a 0), .int x, .int v] sz ([(a 0, .inr (4, [.ref (a 1), .ref (a 4), .ref (a 5), .ref (a 6), .ref (a 7), .ref (a 8), .int (nI sn), .int (nI dy)])), (a 4, .inr (0, [.int mc, .ref ed, .int (nI n)]))] ++ bp g n ed cap ad B) []) (va_Qi (fun (r : Int32) (_ : Unit) => k2 (okI n x) (okR (nI dy).toInt 999 v) = 0 ∧ r = fcst (B x.toNatClampNeg 2) (B x.toNatClampNeg 5) (B x.toNatClampNeg 6) v) (BZ g ([(a 0, .inr (4, [.ref (a 1), .ref (a 4), .ref (a 5), .ref (a 6), .ref (a 7), .ref (a 8), .int (nI sn), .int (nI dy)])), (a 4, .inr (0, [.int mc, .ref ed, .int (nI n)]))] ++ bp g n ed cap ad B) sz (fun (u : Unit) => ([(a 0, .inr (4, [.ref (a 1), .ref (a 4), .ref (a 5), .ref (a 6), .ref (a 7), .ref (a 8), .int (nI sn), .int (nI dy)])), (a 4, .inr (0, [.int mc, .ref ed, .int (nI n)]))] ++ bp g n ed cap ad B))) (va_A ([(a 0, .inr (4, [.ref (a 1), .ref (a 4), .ref (a 5), .ref (a 6), .ref (a 7), .ref (a 8), .int (nI sn), .int (nI dy)])), (a 4, .inr (0, [.int mc, .ref ed, .int (nI n)]))] ++ bp g n ed cap ad B) sz)) (XZ (pe3 eI eA eS (k2 (okI n x) (okR (nI dy).toInt 999 v))) sz) 2 12 (va_A ([(a 0, .inr (4, [.ref (a 1), .ref (a 4), .ref (a 5), .ref (a 6), .ref (a 7), .ref (a 8), .int (nI sn), .int (nI dy)])), (a 4, .inr (0, [.int mc, .ref ed, .int (nI n)]))] ++ bp g n ed cap ad B) sz) := by
  refine x_open0_i (cc := cX3_expected) (maxL := 3) (ret := .int) (own := RX3) (by decide) rfl rfl (Nat.le_of_ble_eq_true rfl) hlf rfl ?_
  intro p e s m args below meth c Q h hT hE fin thr thw
  refine z_lve (lv' := [(0, .ref (a 0)), (1, .int x), (2, .int v)]) rfl ?_
  refine z_aload_n h dX3_expected_0 rfl 0 rfl ?_
  refine z_iload_n h dX3_expected_1 rfl 1 rfl ?_
  refine x_Vv h (As := [.int x]) (st := []) hT (fun q hq => hq) (fun sz => m_X3_checkBin l hlf g a sn dy mc ed n x (by omega) sz) (cwV 1 h.ts gX3_expected_X3_checkBin rfl rfl rfl (by decide +kernel) ⟨Nat.le_of_ble_eq_true rfl, Nat.le_of_ble_eq_true rfl⟩) rfl [] [0, 1] rfl rfl rfl rfl 0 rfl rfl rfl rfl (Nat.le_of_ble_eq_true rfl) ⟨(Nat.le_of_ble_eq_true rfl), (Nat.le_of_ble_eq_true rfl)⟩ (fun _ => (Nat.le_of_ble_eq_true rfl)) (wN := fun u => []) (fun _ => rfl) dX3_expected_2 (fun E hE => thr E _ _ _ _ _ (by rw [hE.2]; exact pe3_1 (k2_1 hE.1)) (Nat.le_of_ble_eq_true rfl) (Nat.le_of_ble_eq_true rfl)) (fun u_2 h_2 => ?_)
  have hx := h_2
  obtain ⟨i, hi, rfl⟩ := okI_of h_2 (by omega)
  have hcl : (nI i).toNatClampNeg = i := nI_clamp (by omega)
  refine z_aload_n h dX3_expected_5 rfl 0 rfl ?_
  refine z_iload_n h dX3_expected_6 rfl 2 rfl ?_
  refine z_aload_n h dX3_expected_7 rfl 0 rfl ?_
  refine z_get h in_X3_expected_X3 0 rfl rfl 7 (by decide) lk_X3_expected_f42 rfl dX3_expected_8 ?_
  refine z_sipush h (v := 999) dX3_expected_11 (by decide) ?_
  refine x_Vv h (As := [.int v, .int (nI dy), .int 999]) (st := []) hT (fun q hq => hq) (fun sz => m_X3_checkRange l hlf g a v (nI dy) 999  sz) (cwV 3 h.ts gX3_expected_X3_checkRange rfl rfl rfl (by decide +kernel) ⟨Nat.le_of_ble_eq_true rfl, Nat.le_of_ble_eq_true rfl⟩) rfl [] [] rfl rfl rfl rfl 0 rfl rfl rfl rfl (Nat.le_of_ble_eq_true rfl) ⟨(Nat.le_of_ble_eq_true rfl), (Nat.le_of_ble_eq_true rfl)⟩ (fun _ => (Nat.le_of_ble_eq_true rfl)) (wN := fun u => []) (fun _ => rfl) dX3_expected_14 (fun E hE => thr E _ _ _ _ _ (by rw [hE.2]; exact pe3_2 (k2_2 hx hE.1)) (Nat.le_of_ble_eq_true rfl) (Nat.le_of_ble_eq_true rfl)) (fun u_14 h_14 => ?_)
  refine z_aload_n h dX3_expected_17 rfl 0 rfl ?_
  refine z_get h in_X3_expected_X3 0 rfl rfl 1 (by decide) lk_X3_expected_f19 rfl dX3_expected_18 ?_
  refine z_iload_n h dX3_expected_21 rfl 1 rfl ?_
  refine z_Vr h (As := [.int (nI i)]) (st := []) (fun sz => m_Jx4a65c_get_915e3 l g (a 4) mc ed n cap ad i (by omega) (by omega) (by omega) sz) (cwV 1 h.ts gX3_expected_Jx4a65c_get_915e3 rfl rfl rfl (by decide +kernel) ⟨Nat.le_of_ble_eq_true rfl, Nat.le_of_ble_eq_true rfl⟩) rfl [] [1, 2] (lc rfl (lc (bp_el (by omega)) rfl)) rfl rfl rfl 1 rfl rfl rfl rfl (Nat.le_of_ble_eq_true rfl) ⟨(Nat.le_of_ble_eq_true rfl), (Nat.le_of_ble_eq_true rfl)⟩ (fun _ => (Nat.le_of_ble_eq_true rfl)) (wN := fun u => []) (fun _ => rfl) dX3_expected_22 (fun u_22 h_22 => ?_)
  refine z_cast h lk_X3_expected_cl113 (2 + (i + 1)) (bp_at (by omega)) rfl dX3_expected_25 ?_
  refine z_iload_n h dX3_expected_28 rfl 2 rfl ?_
  refine z_Vi h (As := [.int v]) (st := []) (fun sz => m_X0_forecast l g (ad i) (B i) v  sz) (cwV 1 h.ts gX3_expected_X0_forecast rfl rfl rfl (by decide +kernel) ⟨Nat.le_of_ble_eq_true rfl, Nat.le_of_ble_eq_true rfl⟩) rfl [] [(2 + (i + 1))] (lc (bp_at (by omega)) rfl) rfl (by simp [va_nd]; try omega) (by simp [va_nd]) (2 + (i + 1)) (bp_at (by omega)) rfl rfl rfl (Nat.le_of_ble_eq_true rfl) ⟨(Nat.le_of_ble_eq_true rfl), (Nat.le_of_ble_eq_true rfl)⟩ (fun _ => (Nat.le_of_ble_eq_true rfl)) (wN := fun u => []) (fun _ => rfl) dX3_expected_29 (fun r_29 u_29 h_29 => ?_)
  refine z_arm0 ?_
  exact fin _ _ _ () _ _ _ _ dX3_expected_32 rfl ⟨k2_0 hx h_14, by rw [hcl]; exact h_29⟩ rfl (Nat.le_of_ble_eq_true rfl) (Nat.le_of_ble_eq_true rfl)
