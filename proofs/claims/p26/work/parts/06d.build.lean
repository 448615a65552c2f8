theorem sh_i : ∀ i, i < 16 → ((nI i &&& 31).toBitVec.smod 32).toNat = i := by decide +kernel
theorem one_sh : ∀ i, i < 16 → ((1 : Int32) <<< (nI i &&& 31)).toBitVec = BitVec.twoPow 32 i := by decide +kernel
theorem and1 (x : BitVec 32) : (x &&& 1#32 = 1#32) ↔ x.getLsbD 0 = true := by
  constructor
  · intro h
    have h1 : (x &&& 1#32).getLsbD 0 = (1#32).getLsbD 0 := by rw [h]
    rw [BitVec.getLsbD_and] at h1
    simpa using h1
  · intro h
    apply BitVec.eq_of_getLsbD_eq
    intro i hi
    rw [BitVec.getLsbD_and]
    by_cases h0 : i = 0
    · subst h0
      rw [h]
      rfl
    · have h2 : (1#32).getLsbD i = false := by
        rw [BitVec.getLsbD_one]
        simp [h0]
      rw [h2, Bool.and_false]
theorem hasT_bit (x : Int32) {i : Nat} (hi : i < 16) : hasT x (nI i) = if x.toBitVec.getLsbD i = true then 1 else 0 := by
  unfold hasT
  have h1 : ((x >>> (nI i &&& 31)) &&& 1 = 1) ↔ x.toBitVec.getLsbD i = true := by
    rw [← Int32.toBitVec_inj, Int32.toBitVec_and, Int32.toBitVec_shiftRight]
    show (BitVec.sshiftRight' _ _ &&& 1#32 = 1#32) ↔ _
    rw [and1]
    unfold BitVec.sshiftRight'
    rw [sh_i i hi, BitVec.getLsbD_sshiftRight]
    simp [show i < 32 by omega]
  by_cases h : x.toBitVec.getLsbD i = true
  · rw [if_pos (h1.mpr h), if_pos h]
  · rw [if_neg (fun q => h (h1.mp q)), if_neg h]
theorem hasT_or (x : Int32) {i q : Nat} (hi : i < 16) (hq : q < 16) : hasT (x ||| (1 <<< (nI q &&& 31))) (nI i) = if i = q then 1 else hasT x (nI i) := by
  rw [hasT_bit _ hi, hasT_bit _ hi, Int32.toBitVec_or, one_sh q hq, BitVec.getLsbD_or, BitVec.getLsbD_twoPow]
  by_cases h : i = q
  · subst h
    simp [show i < 32 by omega]
  · simp [h, Ne.symm h]
theorem hasT_0 {i : Nat} (hi : i < 16) : hasT 0 (nI i) = 0 := by
  rw [hasT_bit _ hi]
  exact if_neg (by simp)

theorem fm_0 : ∀ i, i < 100 → 0 ≤ (miA 10 i).toInt ∧ (miA 10 i).toInt ≤ 120 := by decide +kernel
theorem un_00 : ∀ y, y < 10 → ∀ x, x < y → miA 10 (y * 10 + x) = 30 := by decide +kernel
/-- the minutes of pairs that were not come to are 30 -/
def UN (fm : Nat → Int32) (a b : Nat) : Prop := ∀ x y, x < y → y < 10 → (a < x ∨ (a = x ∧ b ≤ y)) → fm (y * 10 + x) = 30
theorem un_0 : UN (miA 10) 0 (0 + 1) := fun x y h1 h2 _ => un_00 y h2 x h1
theorem UN.skip {fm : Nat → Int32} {a b : Nat} (h : UN fm a b) : UN fm a (b + 1) := fun x y h1 h2 h3 => h x y h1 h2 (by omega)
theorem UN.row {fm : Nat → Int32} {a b : Nat} (h : UN fm a b) : UN fm (a + 1) (a + 1 + 1) := fun x y h1 h2 h3 => h x y h1 h2 (by omega)
theorem UN.put {fm : Nat → Int32} {a b : Nat} {v : Int32} (h : UN fm a b) (hab : a < b) (hb : b < 10) : UN (upd (upd fm (b * 10 + a) v) (a * 10 + b) v) a (b + 1) := fun x y h1 h2 h3 => by
  rw [upd_at, upd_at, if_neg (by omega), if_neg (by omega)]
  exact h x y h1 h2 (by omega)
theorem fm_put {fm : Nat → Int32} {i j : Nat} {v : Int32} (h : FMOK fm) (h0 : 0 ≤ v.toInt) (h1 : v.toInt ≤ 120) : FMOK (upd (upd fm i v) j v) := fun q hq => by
  rw [upd_at, upd_at]
  split
  · exact ⟨h0, h1⟩
  · split
    · exact ⟨h0, h1⟩
    · exact h q hq
theorem nI_120 {j : Nat} (h : j < 25) : 0 ≤ (nI (1 + j)).toInt ∧ (nI (1 + j)).toInt ≤ 120 := by
  rw [nI_toInt (by omega)]
  omega
/-- no tip where none was put yet -/
def TPB (ft : Nat → Int32) (p k : Nat) : Prop := ∀ x kd, x < 10 → kd < 3 → (p < x ∨ (p = x ∧ k ≤ kd)) → hasT (ft x) (nI kd) = 0
theorem tpb_0 : TPB (upd (fun _ => 0) 0 7) 1 0 := fun x kd h1 h2 h3 => by
  rw [upd_at, if_neg (by omega)]
  exact hasT_0 (by omega)
theorem TPB.skip {ft : Nat → Int32} {p k : Nat} (h : TPB ft p k) : TPB ft p (k + 1) := fun x kd h1 h2 h3 => h x kd h1 h2 (by omega)
theorem TPB.row {ft : Nat → Int32} {p k : Nat} (h : TPB ft p k) : TPB ft (p + 1) 0 := fun x kd h1 h2 h3 => h x kd h1 h2 (by omega)
theorem TPB.put {ft : Nat → Int32} {p k : Nat} (h : TPB ft p k) (hk : k < 3) : TPB (upd ft p (putT (ft p) (nI k) 1)) p (k + 1) := fun x kd h1 h2 h3 => by
  rw [upd_at]
  by_cases e : x = p
  · subst e
    rw [if_pos rfl]
    unfold putT
    rw [if_neg (by decide), hasT_or _ (by omega) (by omega), if_neg (by omega)]
    exact h x kd h1 h2 (by omega)
  · rw [if_neg e]
    exact h x kd h1 h2 (by omega)
theorem rd_2 {f : Nat → Int32} {x : Nat} {v0 v1 v2 v3 : Int32} : upd (upd (upd (upd f x v0) (x + 1) v1) (x + 2) v2) (x + 3) v3 (x + 2) = v2 := by
  rw [upd_at, if_neg (by omega), upd_at, if_pos rfl]
theorem rd5_0 {f : Nat → Int32} {x : Nat} {v0 v1 v2 v3 v5 : Int32} : upd (upd (upd (upd (upd f x v0) (x + 1) v1) (x + 2) v2) (x + 3) v3) (x + 5) v5 x = v0 := by
  rw [upd_at, if_neg (by omega), upd_at, if_neg (by omega), upd_at, if_neg (by omega), upd_at, if_neg (by omega), upd_at, if_pos rfl]
theorem rd5_1 {f : Nat → Int32} {x : Nat} {v0 v1 v2 v3 v5 : Int32} : upd (upd (upd (upd (upd f x v0) (x + 1) v1) (x + 2) v2) (x + 3) v3) (x + 5) v5 (x + 1) = v1 := by
  rw [upd_at, if_neg (by omega), upd_at, if_neg (by omega), upd_at, if_neg (by omega), upd_at, if_pos rfl]
theorem rd5_2 {f : Nat → Int32} {x : Nat} {v0 v1 v2 v3 v5 : Int32} : upd (upd (upd (upd (upd f x v0) (x + 1) v1) (x + 2) v2) (x + 3) v3) (x + 5) v5 (x + 2) = v2 := by
  rw [upd_at, if_neg (by omega), upd_at, if_neg (by omega), upd_at, if_pos rfl]
theorem rd5_3 {f : Nat → Int32} {x : Nat} {v0 v1 v2 v3 v5 : Int32} : upd (upd (upd (upd (upd f x v0) (x + 1) v1) (x + 2) v2) (x + 3) v3) (x + 5) v5 (x + 3) = v3 := by
  rw [upd_at, if_neg (by omega), upd_at, if_pos rfl]
theorem bk_0 : BK 0 0 (fun _ _ => 0) := ⟨fun i hi => absurd hi (Nat.not_lt_zero i), fun i hi => absurd hi (Nat.not_lt_zero i)⟩
theorem bk_new {n j0 j1 j2 j3 : Nat} {B : Nat → Nat → Int32} (h : BK n 0 B) (h0 : 1 + j0 < 10) (h1 : j1 < 3) (h2 : j2 < 25) (h3 : j3 < 40) : BK (n + 1) 0 (ins B n (nwB (nI (1 + j0)) (nI j1) (nI (10 + 10 * j2)) (nI j3) (nI 0))) := by
  obtain ⟨g1, g2⟩ := h
  refine ⟨fun j hj => ?_, fun j hj => ?_⟩
  · by_cases e : j = n
    · subst e
      have e0 : ins B j (nwB (nI (1 + j0)) (nI j1) (nI (10 + 10 * j2)) (nI j3) (nI 0)) j 0 = nI (1 + j0) := by rw [ins_at, if_pos rfl]; rfl
      have e1 : ins B j (nwB (nI (1 + j0)) (nI j1) (nI (10 + 10 * j2)) (nI j3) (nI 0)) j 1 = nI j1 := by rw [ins_at, if_pos rfl]; rfl
      unfold plc knd
      rw [e0, e1, nI_clamp (by omega), nI_clamp (by omega)]
      exact ⟨rfl, by omega, rfl, h1⟩
    · have e1 : ins B n (nwB (nI (1 + j0)) (nI j1) (nI (10 + 10 * j2)) (nI j3) (nI 0)) j = B j := by rw [ins_at, if_neg e]
      unfold plc knd
      rw [e1]
      exact g1 j (by omega)
  · rw [ins_at]
    split
    · have t2 : (2 : Int32).toInt = 2 := rfl
      have e2 : (nI (10 + 10 * j2)).toInt = ((10 + 10 * j2 : Nat) : Int) := nI_toInt (by omega)
      have e3 : (nI j3).toInt = (j3 : Int) := nI_toInt (by omega)
      have e5 : (nI (10 + 10 * j2) / 2).toInt = ((10 + 10 * j2 : Nat) : Int) / 2 := by rw [i32_div (by omega) (by rw [t2]; decide), e2, t2]
      refine ⟨⟨?_, ?_⟩, ⟨?_, ?_⟩, ⟨?_, ?_⟩, ⟨?_, ?_⟩, ⟨?_, ?_⟩, Or.inl rfl⟩
      · show 0 ≤ (0 : Int32).toInt
        decide
      · show (0 : Int32).toInt ≤ (nI (10 + 10 * j2)).toInt
        rw [i0, e2]
        omega
      · show 10 ≤ (nI (10 + 10 * j2)).toInt
        omega
      · show (nI (10 + 10 * j2)).toInt ≤ 1000
        omega
      · show 0 ≤ (nI j3).toInt
        omega
      · show (nI j3).toInt ≤ 200
        omega
      · show 0 ≤ (nI (10 + 10 * j2) / 2).toInt
        omega
      · show (nI (10 + 10 * j2) / 2).toInt ≤ 10000
        omega
      · show 0 ≤ (nI 0).toInt
        decide
      · show (nI 0).toInt ≤ ((0 : Nat) : Int)
        decide
    · exact g2 j (by omega)
theorem bk_soil {n i dy : Nat} {B : Nat → Nat → Int32} (h : BK n dy B) (hi : i < n) : BK n dy (updB B i (upd (B i) 9 1)) := by
  obtain ⟨h1, h2, h3, h4, h5, h6⟩ := h.2 i hi
  exact h.upd rfl rfl ⟨h1, h2, h3, h4, h5, Or.inr rfl⟩
theorem sz_new {n : Nat} {B : Nat → Nat → Int32} {f : Nat → Int32} {b : Nat → Int32} {v0 v1 v2 v3 v5 : Int32} (h : ∀ j, j < n → f (10 * j + 2) = B j 2) (hb : b 2 = v2) : ∀ j, j < n + 1 → upd (upd (upd (upd (upd f (10 * n) v0) (10 * n + 1) v1) (10 * n + 2) v2) (10 * n + 3) v3) (10 * n + 5) v5 (10 * j + 2) = ins B n b j 2 := fun j hj => by
  rw [ins_at]
  by_cases e : j = n
  · subst e
    rw [if_pos rfl, hb]
    exact rd5_2
  · rw [if_neg e, upd_at, if_neg (by omega), upd_at, if_neg (by omega), upd_at, if_neg (by omega), upd_at, if_neg (by omega), upd_at, if_neg (by omega)]
    exact h j (by omega)
theorem sz_soil {n i : Nat} {B : Nat → Nat → Int32} {f : Nat → Int32} {v : Int32} (h : ∀ j, j < n → f (10 * j + 2) = B j 2) : ∀ j, j < n → upd f (10 * i + 9) v (10 * j + 2) = updB B i (upd (B i) 9 1) j 2 := fun j hj => by
  rw [upd_at, if_neg (by omega), h j hj, updB_at]
  split
  · next e => subst e; rfl
  · rfl
theorem ac_L_build_I : Cond.arrayClass (newarray.typeOf .int) ∈ wsL_build := by decide +kernel
abbrev rmL_build : Room := { frames := 9, cells := 500, slots := 3000, locals := 285 }
set_option maxHeartbeats 4000000 in
set_option maxRecDepth 100000 in
theorem m_L_build (l : Launch) (hlf : l.stackTraces = false) (g : Gx) (b : Nat) (L : Nat) (xs : Nat → Int32) (a : Nat → Nat) (m9 : Nat) (t9 : Nat) (b9 : Nat) (g1 : Nat → Int32) (g2 : Nat → Int32) (hL : L ≤ 260) (sz : Nat) : Met l yL_build wsL_build rmL_build (PS SL3 g [.ref (a 0), .ref b, .int 0, .ref m9, .ref t9, .ref b9] sz ([(m9, .inl (g.2.1, 100, .inl g1)), (t9, .inl (g.2.1, 10, .inl g2)), (b9, .inl (g.2.1, 160, .inl (fun _ => 0))), (a 3, .inl (g.2.1, 10, .inl (upd (fun _ => 0) 0 7))), (a 6, .inl (g.2.2.1, 12, .inr (.inl (fun _ => 0)))), (a 2, .inl (g.2.1, 100, .inl (miA 10))), (a 1, .inr (2, [.ref (a 2), .ref (a 3), .int (nI 1)])), (a 5, .inl (g.2.2.2.1, 400, .inl (fun _ => 0))), (a 8, .inl (g.2.1, 16, .inl (fun _ => 0))), (a 7, .inl (g.2.2.1, 3, .inr (.inl (fun _ => 0)))), (a 0, .inr (4, [.ref (a 1), .ref (a 4), .ref (a 5), .ref (a 6), .ref (a 7), .ref (a 8), .int (nI 0), .int (nI 0)])), (a 4, .inr (0, [.int 0, .ref g.2.2.2.2.2.1, .int (nI 0)]))] ++ bp g 0 g.2.2.2.2.2.1 0 (fun _ => 0) (fun _ _ => 0)) [] b L xs) (va_Qr (fun (u : Nat × Nat × (Nat → Int32) × (Nat → Int32) × Nat × Int32 × Nat × Nat × (Nat → Nat) × (Nat → Nat → Int32) × (Nat → Int32)) => (2 ≤ u.2.1 ∧ u.2.1 ≤ 6) ∧ u.2.2.2.2.1 ≤ 10 ∧ u.2.2.2.2.1 ≤ u.2.2.2.2.2.2.2.1 ∧ u.2.2.2.2.2.2.2.1 ≤ 26 ∧ (u.2.2.2.2.1 = 0 → u.2.2.2.2.2.2.1 = g.2.2.2.2.2.1) ∧ FMOK u.2.2.1 ∧ BK u.2.2.2.2.1 0 u.2.2.2.2.2.2.2.2.2.1 ∧ ∀ j, j < u.2.2.2.2.1 → u.2.2.2.2.2.2.2.2.2.2 (10 * j + 2) = u.2.2.2.2.2.2.2.2.2.1 j 2) (BZr g ([(m9, .inl (g.2.1, 100, .inl g1)), (t9, .inl (g.2.1, 10, .inl g2)), (b9, .inl (g.2.1, 160, .inl (fun _ => 0))), (a 3, .inl (g.2.1, 10, .inl (upd (fun _ => 0) 0 7))), (a 6, .inl (g.2.2.1, 12, .inr (.inl (fun _ => 0)))), (a 2, .inl (g.2.1, 100, .inl (miA 10))), (a 1, .inr (2, [.ref (a 2), .ref (a 3), .int (nI 1)])), (a 5, .inl (g.2.2.2.1, 400, .inl (fun _ => 0))), (a 8, .inl (g.2.1, 16, .inl (fun _ => 0))), (a 7, .inl (g.2.2.1, 3, .inr (.inl (fun _ => 0)))), (a 0, .inr (4, [.ref (a 1), .ref (a 4), .ref (a 5), .ref (a 6), .ref (a 7), .ref (a 8), .int (nI 0), .int (nI 0)])), (a 4, .inr (0, [.int 0, .ref g.2.2.2.2.2.1, .int (nI 0)]))] ++ bp g 0 g.2.2.2.2.2.1 0 (fun _ => 0) (fun _ _ => 0)) sz (fun (u : Nat × Nat × (Nat → Int32) × (Nat → Int32) × Nat × Int32 × Nat × Nat × (Nat → Nat) × (Nat → Nat → Int32) × (Nat → Int32)) => ([(u.1, .inl (g.2.1, 2, .inl (upd (upd (fun _ => 0) 0 (nI u.2.1)) 1 (nI u.2.2.2.2.1)))), (b9, .inl (g.2.1, 160, .inl u.2.2.2.2.2.2.2.2.2.2)), (a 3, .inl (g.2.1, 10, .inl u.2.2.2.1)), (a 6, .inl (g.2.2.1, 12, .inr (.inl (fun _ => 0)))), (a 2, .inl (g.2.1, 100, .inl u.2.2.1)), (a 1, .inr (2, [.ref (a 2), .ref (a 3), .int (nI u.2.1)])), (a 5, .inl (g.2.2.2.1, 400, .inl (fun _ => 0))), (a 8, .inl (g.2.1, 16, .inl (fun _ => 0))), (a 7, .inl (g.2.2.1, 3, .inr (.inl (fun _ => 0)))), (a 0, .inr (4, [.ref (a 1), .ref (a 4), .ref (a 5), .ref (a 6), .ref (a 7), .ref (a 8), .int (nI 0), .int (nI 0)])), (a 4, .inr (0, [.int u.2.2.2.2.2.1, .ref u.2.2.2.2.2.2.1, .int (nI u.2.2.2.2.1)]))] ++ bp g u.2.2.2.2.1 u.2.2.2.2.2.2.1 u.2.2.2.2.2.2.2.1 u.2.2.2.2.2.2.2.2.1 u.2.2.2.2.2.2.2.2.2.1)) (fun u => u.1)) (va_A ([(m9, .inl (g.2.1, 100, .inl g1)), (t9, .inl (g.2.1, 10, .inl g2)), (b9, .inl (g.2.1, 160, .inl (fun _ => 0))), (a 3, .inl (g.2.1, 10, .inl (upd (fun _ => 0) 0 7))), (a 6, .inl (g.2.2.1, 12, .inr (.inl (fun _ => 0)))), (a 2, .inl (g.2.1, 100, .inl (miA 10))), (a 1, .inr (2, [.ref (a 2), .ref (a 3), .int (nI 1)])), (a 5, .inl (g.2.2.2.1, 400, .inl (fun _ => 0))), (a 8, .inl (g.2.1, 16, .inl (fun _ => 0))), (a 7, .inl (g.2.2.1, 3, .inr (.inl (fun _ => 0)))), (a 0, .inr (4, [.ref (a 1), .ref (a 4), .ref (a 5), .ref (a 6), .ref (a 7), .ref (a 8), .int (nI 0), .int (nI 0)])), (a 4, .inr (0, [.int 0, .ref g.2.2.2.2.2.1, .int (nI 0)]))] ++ bp g 0 g.2.2.2.2.2.1 0 (fun _ => 0) (fun _ _ => 0)) sz)) 500 3000 (va_A ([(m9, .inl (g.2.1, 100, .inl g1)), (t9, .inl (g.2.1, 10, .inl g2)), (b9, .inl (g.2.1, 160, .inl (fun _ => 0))), (a 3, .inl (g.2.1, 10, .inl (upd (fun _ => 0) 0 7))), (a 6, .inl (g.2.2.1, 12, .inr (.inl (fun _ => 0)))), (a 2, .inl (g.2.1, 100, .inl (miA 10))), (a 1, .inr (2, [.ref (a 2), .ref (a 3), .int (nI 1)])), (a 5, .inl (g.2.2.2.1, 400, .inl (fun _ => 0))), (a 8, .inl (g.2.1, 16, .inl (fun _ => 0))), (a 7, .inl (g.2.2.1, 3, .inr (.inl (fun _ => 0)))), (a 0, .inr (4, [.ref (a 1), .ref (a 4), .ref (a 5), .ref (a 6), .ref (a 7), .ref (a 8), .int (nI 0), .int (nI 0)])), (a 4, .inr (0, [.int 0, .ref g.2.2.2.2.2.1, .int (nI 0)]))] ++ bp g 0 g.2.2.2.2.2.1 0 (fun _ => 0) (fun _ _ => 0)) sz) := by
  refine s_open_r (cc := cL_build) (maxL := 11) (ret := (.array .int)) (own := RL) (Or.inr ⟨_, rfl⟩) (by decide) rfl rfl (Nat.le_of_ble_eq_true rfl) ?_
  intro p e s m args below meth c Q h hT hSx fin
  generalize hAe : va_A ([(m9, .inl (g.2.1, 100, .inl g1)), (t9, .inl (g.2.1, 10, .inl g2)), (b9, .inl (g.2.1, 160, .inl (fun _ => 0))), (a 3, .inl (g.2.1, 10, .inl (upd (fun _ => 0) 0 7))), (a 6, .inl (g.2.2.1, 12, .inr (.inl (fun _ => 0)))), (a 2, .inl (g.2.1, 100, .inl (miA 10))), (a 1, .inr (2, [.ref (a 2), .ref (a 3), .int (nI 1)])), (a 5, .inl (g.2.2.2.1, 400, .inl (fun _ => 0))), (a 8, .inl (g.2.1, 16, .inl (fun _ => 0))), (a 7, .inl (g.2.2.1, 3, .inr (.inl (fun _ => 0)))), (a 0, .inr (4, [.ref (a 1), .ref (a 4), .ref (a 5), .ref (a 6), .ref (a 7), .ref (a 8), .int (nI 0), .int (nI 0)])), (a 4, .inr (0, [.int 0, .ref g.2.2.2.2.2.1, .int (nI 0)]))] ++ bp g 0 g.2.2.2.2.2.1 0 (fun _ => 0) (fun _ _ => 0)) s.heap.size = A at h hT hSx fin ⊢
  refine z_lve (lv' := [(0, .ref (a 0)), (1, .ref b), (2, .int 0), (3, .ref m9), (4, .ref t9), (5, .ref b9)]) rfl ?_
  refine z_iconst h (v := 2) dL_build_0 (by decide) ?_
  refine z_aload_n h dL_build_1 rfl 1 rfl ?_
  refine z_iload_n h dL_build_2 rfl 2 rfl ?_
  refine s_Si (R := rmL_build) (kc := 0) (ks := 0) h (As := [.ref b, .int 0]) (st := [.int 2]) (Y := ([(m9, .inl (g.2.1, 100, .inl g1)), (t9, .inl (g.2.1, 10, .inl g2)), (b9, .inl (g.2.1, 160, .inl (fun _ => 0))), (a 3, .inl (g.2.1, 10, .inl (upd (fun _ => 0) 0 7))), (a 6, .inl (g.2.2.1, 12, .inr (.inl (fun _ => 0)))), (a 2, .inl (g.2.1, 100, .inl (miA 10))), (a 1, .inr (2, [.ref (a 2), .ref (a 3), .int (nI 1)])), (a 5, .inl (g.2.2.2.1, 400, .inl (fun _ => 0))), (a 8, .inl (g.2.1, 16, .inl (fun _ => 0))), (a 7, .inl (g.2.2.1, 3, .inr (.inl (fun _ => 0)))), (a 0, .inr (4, [.ref (a 1), .ref (a 4), .ref (a 5), .ref (a 6), .ref (a 7), .ref (a 8), .int (nI 0), .int (nI 0)])), (a 4, .inr (0, [.int 0, .ref g.2.2.2.2.2.1, .int (nI 0)]))] ++ bp g 0 g.2.2.2.2.2.1 0 (fun _ => 0) (fun _ _ => 0))) hT hSx (fun q hq => hq) (fun sz => m_L_cell l g b L xs 0 (by omega) hL sz) (va_cwS 2 h.ts gL_build_L_cell rfl rfl rfl (by decide +kernel) ⟨Nat.le_of_ble_eq_true rfl, Nat.le_of_ble_eq_true rfl⟩) rfl (List.append_nil _).symm rfl (Nat.le_of_ble_eq_true rfl) ⟨by show _ ≤ 500; omega, by show _ ≤ 3000; omega⟩ (wN := fun u => ([(m9, .inl (g.2.1, 100, .inl g1)), (t9, .inl (g.2.1, 10, .inl g2)), (b9, .inl (g.2.1, 160, .inl (fun _ => 0))), (a 3, .inl (g.2.1, 10, .inl (upd (fun _ => 0) 0 7))), (a 6, .inl (g.2.2.1, 12, .inr (.inl (fun _ => 0)))), (a 2, .inl (g.2.1, 100, .inl (miA 10))), (a 1, .inr (2, [.ref (a 2), .ref (a 3), .int (nI 1)])), (a 5, .inl (g.2.2.2.1, 400, .inl (fun _ => 0))), (a 8, .inl (g.2.1, 16, .inl (fun _ => 0))), (a 7, .inl (g.2.2.1, 3, .inr (.inl (fun _ => 0)))), (a 0, .inr (4, [.ref (a 1), .ref (a 4), .ref (a 5), .ref (a 6), .ref (a 7), .ref (a 8), .int (nI 0), .int (nI 0)])), (a 4, .inr (0, [.int 0, .ref g.2.2.2.2.2.1, .int (nI 0)]))] ++ bp g 0 g.2.2.2.2.2.1 0 (fun _ => 0) (fun _ _ => 0))) (fun _ => List.append_nil _) dL_build_3 (fun r_3 u_3 h_3 => ?_)
  refine z_iconst h (v := 5) dL_build_6 (by decide) ?_
  refine z_Si h (b := 0) (C := "") (As := [.int r_3, .int 5]) (st := [.int 2]) (fun sz => m_L_below l g r_3 5 (by decide) (by decide) sz) (va_cwS 2 h.ts gL_build_L_below rfl rfl rfl (by decide +kernel) ⟨Nat.le_of_ble_eq_true rfl, Nat.le_of_ble_eq_true rfl⟩) rfl [] [] rfl rfl rfl rfl rfl (Nat.le_of_ble_eq_true rfl) ⟨by show _ ≤ 500; omega, by show _ ≤ 3000; omega⟩ (fun _ => (Nat.le_of_ble_eq_true rfl)) (wN := fun u => ([(m9, .inl (g.2.1, 100, .inl g1)), (t9, .inl (g.2.1, 10, .inl g2)), (b9, .inl (g.2.1, 160, .inl (fun _ => 0))), (a 3, .inl (g.2.1, 10, .inl (upd (fun _ => 0) 0 7))), (a 6, .inl (g.2.2.1, 12, .inr (.inl (fun _ => 0)))), (a 2, .inl (g.2.1, 100, .inl (miA 10))), (a 1, .inr (2, [.ref (a 2), .ref (a 3), .int (nI 1)])), (a 5, .inl (g.2.2.2.1, 400, .inl (fun _ => 0))), (a 8, .inl (g.2.1, 16, .inl (fun _ => 0))), (a 7, .inl (g.2.2.1, 3, .inr (.inl (fun _ => 0)))), (a 0, .inr (4, [.ref (a 1), .ref (a 4), .ref (a 5), .ref (a 6), .ref (a 7), .ref (a 8), .int (nI 0), .int (nI 0)])), (a 4, .inr (0, [.int 0, .ref g.2.2.2.2.2.1, .int (nI 0)]))] ++ bp g 0 g.2.2.2.2.2.1 0 (fun _ => 0) (fun _ _ => 0))) (fun _ => List.append_nil _) dL_build_7 (fun r_7 u_7 h_7 => ?_)
  obtain ⟨j5, hj5, rfl⟩ := h_7
  refine z_iadd h dL_build_10 ?_
  obtain ⟨P, eP⟩ : ∃ q, q = 2 + j5 := ⟨_, rfl⟩
  have hP : 2 ≤ P ∧ P ≤ 6 := by omega
  refine z_topi (y := nI P) (by rw [eP, show (2 : Int32) = nI 2 from rfl, nI_add]) ?_
  refine z_istore h dL_build_11 (by decide) (lv' := [(0, .ref (a 0)), (1, .ref b), (2, .int 0), (3, .ref m9), (4, .ref t9), (5, .ref b9), (6, .int (nI P))]) [1, 2, 3, 4, 5, 6, 0] rfl ?_
  refine z_iconst h (v := 0) dL_build_13 (by decide) ?_
  refine z_istore h dL_build_14 (by decide) (lv' := [(0, .ref (a 0)), (1, .ref b), (2, .int 0), (3, .ref m9), (4, .ref t9), (5, .ref b9), (6, .int (nI P)), (7, .int 0)]) [1, 2, 3, 4, 5, 6, 7, 0] rfl ?_
  refine z_widen (kc' := (0 + 0 * 0)) (ks' := (0 + 0 * 0)) (by omega) (by omega) ?_
  have L16 : ∀ (L16n i : Nat) (g1a : Nat → Int32), i ≤ 100 → 100 < L16n + i → Z p l e rmL_build s m args below meth c Q A g 11 16 [(0, .ref (a 0)), (1, .ref b), (2, .int 0), (3, .ref m9), (4, .ref t9), (5, .ref b9), (6, .int (nI P)), (7, .int (nI i))] [] ([(m9, .inl (g.2.1, 100, .inl g1a)), (t9, .inl (g.2.1, 10, .inl g2)), (b9, .inl (g.2.1, 160, .inl (fun _ => 0))), (a 3, .inl (g.2.1, 10, .inl (upd (fun _ => 0) 0 7))), (a 6, .inl (g.2.2.1, 12, .inr (.inl (fun _ => 0)))), (a 2, .inl (g.2.1, 100, .inl (miA 10))), (a 1, .inr (2, [.ref (a 2), .ref (a 3), .int (nI 1)])), (a 5, .inl (g.2.2.2.1, 400, .inl (fun _ => 0))), (a 8, .inl (g.2.1, 16, .inl (fun _ => 0))), (a 7, .inl (g.2.2.1, 3, .inr (.inl (fun _ => 0)))), (a 0, .inr (4, [.ref (a 1), .ref (a 4), .ref (a 5), .ref (a 6), .ref (a 7), .ref (a 8), .int (nI 0), .int (nI 0)])), (a 4, .inr (0, [.int 0, .ref g.2.2.2.2.2.1, .int (nI 0)]))] ++ bp g 0 g.2.2.2.2.2.1 0 (fun _ => 0) (fun _ _ => 0)) [] (0 + 0 * i) (0 + 0 * i) := by
    intro L16n
    induction L16n with
    | zero => intro i g1a hi hL16 ; exact absurd hL16 (by omega)
    | succ L16n ihL16 =>
      intro i g1a hi hL16 
      refine z_iload h dL_build_16 7 rfl ?_
      refine z_bipush h (v := 100) dL_build_18 (by decide) ?_
      refine z_icmp_ge h (tgt := 52) dL_build_20 (by decide) (fun c_20 => ?_) (fun c_20 => ?_)
      · have he : i = 100 := by have := ge_t (a := i) (b := 100) c_20 (by omega) (by omega); omega
        subst he
        refine z_aload h dL_build_52 4 rfl ?_
        refine z_iconst h (v := 0) dL_build_54 (by decide) ?_
        refine z_bipush h (v := 7) dL_build_55 (by decide) ?_
        refine z_iast h (j := 0) 1 rfl (show vp_in (nI 0) 10 from vp_in_nI (by omega) (by omega)) (by rw [show ((0 : Int32)).toNatClampNeg = 0 from rfl]) dL_build_57 (wW' := ([(m9, .inl (g.2.1, 100, .inl g1a)), (t9, .inl (g.2.1, 10, .inl (upd g2 0 7))), (b9, .inl (g.2.1, 160, .inl (fun _ => 0))), (a 3, .inl (g.2.1, 10, .inl (upd (fun _ => 0) 0 7))), (a 6, .inl (g.2.2.1, 12, .inr (.inl (fun _ => 0)))), (a 2, .inl (g.2.1, 100, .inl (miA 10))), (a 1, .inr (2, [.ref (a 2), .ref (a 3), .int (nI 1)])), (a 5, .inl (g.2.2.2.1, 400, .inl (fun _ => 0))), (a 8, .inl (g.2.1, 16, .inl (fun _ => 0))), (a 7, .inl (g.2.2.1, 3, .inr (.inl (fun _ => 0)))), (a 0, .inr (4, [.ref (a 1), .ref (a 4), .ref (a 5), .ref (a 6), .ref (a 7), .ref (a 8), .int (nI 0), .int (nI 0)])), (a 4, .inr (0, [.int 0, .ref g.2.2.2.2.2.1, .int (nI 0)]))] ++ bp g 0 g.2.2.2.2.2.1 0 (fun _ => 0) (fun _ _ => 0))) rfl ?_
        refine z_iconst h (v := 1) dL_build_58 (by decide) ?_
        refine z_istore h dL_build_59 (by decide) (lv' := [(0, .ref (a 0)), (1, .ref b), (2, .int 0), (3, .ref m9), (4, .ref t9), (5, .ref b9), (6, .int (nI P)), (7, .int 1)]) [1, 2, 3, 4, 5, 6, 7, 0] rfl ?_
        refine z_widen (kc' := (0 + 1 * 1)) (ks' := (0 + 6 * 1)) (by omega) (by omega) ?_
        have L61 : ∀ (L61n i : Nat) , i ≤ P → P < L61n + i → Z p l e rmL_build s m args below meth c Q A g 11 61 [(0, .ref (a 0)), (1, .ref b), (2, .int 0), (3, .ref m9), (4, .ref t9), (5, .ref b9), (6, .int (nI P)), (7, .int (nI i))] [] ([(m9, .inl (g.2.1, 100, .inl g1a)), (t9, .inl (g.2.1, 10, .inl (upd g2 0 7))), (b9, .inl (g.2.1, 160, .inl (fun _ => 0))), (a 3, .inl (g.2.1, 10, .inl (upd (fun _ => 0) 0 7))), (a 6, .inl (g.2.2.1, 12, .inr (.inl (fun _ => 0)))), (a 2, .inl (g.2.1, 100, .inl (miA 10))), (a 1, .inr (2, [.ref (a 2), .ref (a 3), .int (nI i)])), (a 5, .inl (g.2.2.2.1, 400, .inl (fun _ => 0))), (a 8, .inl (g.2.1, 16, .inl (fun _ => 0))), (a 7, .inl (g.2.2.1, 3, .inr (.inl (fun _ => 0)))), (a 0, .inr (4, [.ref (a 1), .ref (a 4), .ref (a 5), .ref (a 6), .ref (a 7), .ref (a 8), .int (nI 0), .int (nI 0)])), (a 4, .inr (0, [.int 0, .ref g.2.2.2.2.2.1, .int (nI 0)]))] ++ bp g 0 g.2.2.2.2.2.1 0 (fun _ => 0) (fun _ _ => 0)) [] (0 + 1 * i) (0 + 6 * i) := by
          intro L61n
          induction L61n with
          | zero => intro i  hi hL61 ; exact absurd hL61 (by omega)
          | succ L61n ihL61 =>
            intro i  hi hL61 
            refine z_iload h dL_build_61 7 rfl ?_
            refine z_iload h dL_build_63 6 rfl ?_
            refine z_icmp_ge h (tgt := 85) dL_build_65 (by decide) (fun c_65 => ?_) (fun c_65 => ?_)
            · have he : P = i := by have := ge_t (a := i) (b := P) c_65 (by omega) (by omega); omega
              subst he
              refine z_iconst h (v := 0) dL_build_85 (by decide) ?_
              refine z_istore h dL_build_86 (by decide) (lv' := [(0, .ref (a 0)), (1, .ref b), (2, .int 0), (3, .ref m9), (4, .ref t9), (5, .ref b9), (6, .int (nI P)), (7, .int 0)]) [1, 2, 3, 4, 5, 6, 7, 0] rfl ?_
              refine z_widen (kc' := (10 + 24 * 0)) (ks' := (40 + 144 * 0)) (by omega) (by omega) ?_
              have L88 : ∀ (L88n x : Nat) (fm : Nat → Int32) (g1b : Nat → Int32), x ≤ P → P < L88n + x → FMOK fm → UN fm x (x + 1) → Z p l e rmL_build s m args below meth c Q A g 11 88 [(0, .ref (a 0)), (1, .ref b), (2, .int 0), (3, .ref m9), (4, .ref t9), (5, .ref b9), (6, .int (nI P)), (7, .int (nI x))] [] ([(m9, .inl (g.2.1, 100, .inl g1b)), (t9, .inl (g.2.1, 10, .inl (upd g2 0 7))), (b9, .inl (g.2.1, 160, .inl (fun _ => 0))), (a 3, .inl (g.2.1, 10, .inl (upd (fun _ => 0) 0 7))), (a 6, .inl (g.2.2.1, 12, .inr (.inl (fun _ => 0)))), (a 2, .inl (g.2.1, 100, .inl fm)), (a 1, .inr (2, [.ref (a 2), .ref (a 3), .int (nI P)])), (a 5, .inl (g.2.2.2.1, 400, .inl (fun _ => 0))), (a 8, .inl (g.2.1, 16, .inl (fun _ => 0))), (a 7, .inl (g.2.2.1, 3, .inr (.inl (fun _ => 0)))), (a 0, .inr (4, [.ref (a 1), .ref (a 4), .ref (a 5), .ref (a 6), .ref (a 7), .ref (a 8), .int (nI 0), .int (nI 0)])), (a 4, .inr (0, [.int 0, .ref g.2.2.2.2.2.1, .int (nI 0)]))] ++ bp g 0 g.2.2.2.2.2.1 0 (fun _ => 0) (fun _ _ => 0)) [] (10 + 24 * x) (40 + 144 * x) := by
                intro L88n
                induction L88n with
                | zero => intro x fm g1b hx hL88 hf hu; exact absurd hL88 (by omega)
                | succ L88n ihL88 =>
                  intro x fm g1b hx hL88 hf hu
                  refine z_iload h dL_build_88 7 rfl ?_
                  refine z_iload h dL_build_90 6 rfl ?_
                  refine z_icmp_ge h (tgt := 211) dL_build_92 (by decide) (fun c_92 => ?_) (fun c_92 => ?_)
                  · have he : P = x := by have := ge_t (a := x) (b := P) c_92 (by omega) (by omega); omega
                    subst he
                    refine z_iconst h (v := 1) dL_build_211 (by decide) ?_
                    refine z_istore h dL_build_212 (by decide) (lv' := [(0, .ref (a 0)), (1, .ref b), (2, .int 0), (3, .ref m9), (4, .ref t9), (5, .ref b9), (6, .int (nI P)), (7, .int 1)]) [1, 2, 3, 4, 5, 6, 7, 0] rfl ?_
                    refine z_widen (kc' := (160 + 9 * 1)) (ks' := (910 + 54 * 1)) (by omega) (by omega) ?_
                    have L214 : ∀ (L214n x : Nat) (ft2 : Nat → Int32) (g2b : Nat → Int32), x ≤ P → P < L214n + x → TPB ft2 x 0 → Z p l e rmL_build s m args below meth c Q A g 11 214 [(0, .ref (a 0)), (1, .ref b), (2, .int 0), (3, .ref m9), (4, .ref t9), (5, .ref b9), (6, .int (nI P)), (7, .int (nI x))] [] ([(m9, .inl (g.2.1, 100, .inl g1b)), (t9, .inl (g.2.1, 10, .inl g2b)), (b9, .inl (g.2.1, 160, .inl (fun _ => 0))), (a 3, .inl (g.2.1, 10, .inl ft2)), (a 6, .inl (g.2.2.1, 12, .inr (.inl (fun _ => 0)))), (a 2, .inl (g.2.1, 100, .inl fm)), (a 1, .inr (2, [.ref (a 2), .ref (a 3), .int (nI P)])), (a 5, .inl (g.2.2.2.1, 400, .inl (fun _ => 0))), (a 8, .inl (g.2.1, 16, .inl (fun _ => 0))), (a 7, .inl (g.2.2.1, 3, .inr (.inl (fun _ => 0)))), (a 0, .inr (4, [.ref (a 1), .ref (a 4), .ref (a 5), .ref (a 6), .ref (a 7), .ref (a 8), .int (nI 0), .int (nI 0)])), (a 4, .inr (0, [.int 0, .ref g.2.2.2.2.2.1, .int (nI 0)]))] ++ bp g 0 g.2.2.2.2.2.1 0 (fun _ => 0) (fun _ _ => 0)) [] (160 + 9 * x) (910 + 54 * x) := by
                      intro L214n
                      induction L214n with
                      | zero => intro x ft2 g2b hx hL214 hb2; exact absurd hL214 (by omega)
                      | succ L214n ihL214 =>
                        intro x ft2 g2b hx hL214 hb2
                        refine z_iload h dL_build_214 7 rfl ?_
                        refine z_iload h dL_build_216 6 rfl ?_
                        refine z_icmp_ge h (tgt := 293) dL_build_218 (by decide) (fun c_218 => ?_) (fun c_218 => ?_)
                        · have he : P = x := by have := ge_t (a := x) (b := P) c_218 (by omega) (by omega); omega
                          subst he
                          refine z_aload_n h dL_build_293 rfl 1 rfl ?_
                          refine z_iload_n h dL_build_294 rfl 2 rfl ?_
                          refine s_Si (R := rmL_build) (kc := (160 + 9 * P)) (ks := (910 + 54 * P)) h (As := [.ref b, .int 0]) (st := []) (Y := ([(m9, .inl (g.2.1, 100, .inl g1b)), (t9, .inl (g.2.1, 10, .inl g2b)), (b9, .inl (g.2.1, 160, .inl (fun _ => 0))), (a 3, .inl (g.2.1, 10, .inl ft2)), (a 6, .inl (g.2.2.1, 12, .inr (.inl (fun _ => 0)))), (a 2, .inl (g.2.1, 100, .inl fm)), (a 1, .inr (2, [.ref (a 2), .ref (a 3), .int (nI P)])), (a 5, .inl (g.2.2.2.1, 400, .inl (fun _ => 0))), (a 8, .inl (g.2.1, 16, .inl (fun _ => 0))), (a 7, .inl (g.2.2.1, 3, .inr (.inl (fun _ => 0)))), (a 0, .inr (4, [.ref (a 1), .ref (a 4), .ref (a 5), .ref (a 6), .ref (a 7), .ref (a 8), .int (nI 0), .int (nI 0)])), (a 4, .inr (0, [.int 0, .ref g.2.2.2.2.2.1, .int (nI 0)]))] ++ bp g 0 g.2.2.2.2.2.1 0 (fun _ => 0) (fun _ _ => 0))) hT hSx (fun q hq => hq) (fun sz => m_L_cell l g b L xs 0 (by omega) hL sz) (va_cwS 2 h.ts gL_build_L_cell rfl rfl rfl (by decide +kernel) ⟨Nat.le_of_ble_eq_true rfl, Nat.le_of_ble_eq_true rfl⟩) rfl (List.append_nil _).symm rfl (Nat.le_of_ble_eq_true rfl) ⟨by show _ ≤ 500; omega, by show _ ≤ 3000; omega⟩ (wN := fun u => ([(m9, .inl (g.2.1, 100, .inl g1b)), (t9, .inl (g.2.1, 10, .inl g2b)), (b9, .inl (g.2.1, 160, .inl (fun _ => 0))), (a 3, .inl (g.2.1, 10, .inl ft2)), (a 6, .inl (g.2.2.1, 12, .inr (.inl (fun _ => 0)))), (a 2, .inl (g.2.1, 100, .inl fm)), (a 1, .inr (2, [.ref (a 2), .ref (a 3), .int (nI P)])), (a 5, .inl (g.2.2.2.1, 400, .inl (fun _ => 0))), (a 8, .inl (g.2.1, 16, .inl (fun _ => 0))), (a 7, .inl (g.2.2.1, 3, .inr (.inl (fun _ => 0)))), (a 0, .inr (4, [.ref (a 1), .ref (a 4), .ref (a 5), .ref (a 6), .ref (a 7), .ref (a 8), .int (nI 0), .int (nI 0)])), (a 4, .inr (0, [.int 0, .ref g.2.2.2.2.2.1, .int (nI 0)]))] ++ bp g 0 g.2.2.2.2.2.1 0 (fun _ => 0) (fun _ _ => 0))) (fun _ => List.append_nil _) dL_build_295 (fun r_295 u_295 h_295 => ?_)
                          refine z_iconst h (v := 4) dL_build_298 (by decide) ?_
                          refine z_ishr h dL_build_299 ?_
                          obtain ⟨xv, exv⟩ : ∃ z, z = (r_295 >>> (4 &&& 31) : Int32) := ⟨_, rfl⟩
                          refine z_topi exv.symm ?_
                          refine z_bipush h (v := 11) dL_build_300 (by decide) ?_
                          refine z_Si h (b := 0) (C := "") (As := [.int xv, .int 11]) (st := []) (fun sz => m_L_below l g xv 11 (by decide) (by decide) sz) (va_cwS 2 h.ts gL_build_L_below rfl rfl rfl (by decide +kernel) ⟨Nat.le_of_ble_eq_true rfl, Nat.le_of_ble_eq_true rfl⟩) rfl [] [] rfl rfl rfl rfl rfl (Nat.le_of_ble_eq_true rfl) ⟨by show _ ≤ 500; omega, by show _ ≤ 3000; omega⟩ (fun _ => (Nat.le_of_ble_eq_true rfl)) (wN := fun u => ([(m9, .inl (g.2.1, 100, .inl g1b)), (t9, .inl (g.2.1, 10, .inl g2b)), (b9, .inl (g.2.1, 160, .inl (fun _ => 0))), (a 3, .inl (g.2.1, 10, .inl ft2)), (a 6, .inl (g.2.2.1, 12, .inr (.inl (fun _ => 0)))), (a 2, .inl (g.2.1, 100, .inl fm)), (a 1, .inr (2, [.ref (a 2), .ref (a 3), .int (nI P)])), (a 5, .inl (g.2.2.2.1, 400, .inl (fun _ => 0))), (a 8, .inl (g.2.1, 16, .inl (fun _ => 0))), (a 7, .inl (g.2.2.1, 3, .inr (.inl (fun _ => 0)))), (a 0, .inr (4, [.ref (a 1), .ref (a 4), .ref (a 5), .ref (a 6), .ref (a 7), .ref (a 8), .int (nI 0), .int (nI 0)])), (a 4, .inr (0, [.int 0, .ref g.2.2.2.2.2.1, .int (nI 0)]))] ++ bp g 0 g.2.2.2.2.2.1 0 (fun _ => 0) (fun _ _ => 0))) (fun _ => List.append_nil _) dL_build_302 (fun r_302 u_302 h_302 => ?_)
                          obtain ⟨M, hM, rfl⟩ := h_302
                          refine z_istore h dL_build_305 (by decide) (lv' := [(0, .ref (a 0)), (1, .ref b), (2, .int 0), (3, .ref m9), (4, .ref t9), (5, .ref b9), (6, .int (nI P)), (7, .int (nI M))]) [1, 2, 3, 4, 5, 6, 7, 0] rfl ?_
                          refine z_iconst h (v := 0) dL_build_307 (by decide) ?_
                          refine z_istore h dL_build_308 (by decide) (lv' := [(0, .ref (a 0)), (1, .ref b), (2, .int 0), (3, .ref m9), (4, .ref t9), (5, .ref b9), (6, .int (nI P)), (7, .int (nI M)), (8, .int 0)]) [1, 2, 3, 4, 5, 6, 7, 8, 0] rfl ?_
                          refine z_widen (kc' := (220 + 21 * 0)) (ks' := (1240 + 156 * 0)) (by omega) (by omega) ?_
                          have L310 : ∀ (L310n i : Nat) (mz : Int32) (ez : Nat) (cz : Nat) (az : Nat → Nat) (Bz : Nat → Nat → Int32) (f3 : Nat → Int32), i ≤ M → M < L310n + i → BK i 0 Bz → i ≤ cz → cz ≤ 26 → (i = 0 → ez = g.2.2.2.2.2.1) → (∀ j, j < i → f3 (10 * j + 2) = Bz j 2) → Z p l e rmL_build s m args below meth c Q A g 11 310 [(0, .ref (a 0)), (1, .ref b), (2, .int 0), (3, .ref m9), (4, .ref t9), (5, .ref b9), (6, .int (nI P)), (7, .int (nI M)), (8, .int (nI i))] [] ([(m9, .inl (g.2.1, 100, .inl g1b)), (t9, .inl (g.2.1, 10, .inl g2b)), (b9, .inl (g.2.1, 160, .inl f3)), (a 3, .inl (g.2.1, 10, .inl ft2)), (a 6, .inl (g.2.2.1, 12, .inr (.inl (fun _ => 0)))), (a 2, .inl (g.2.1, 100, .inl fm)), (a 1, .inr (2, [.ref (a 2), .ref (a 3), .int (nI P)])), (a 5, .inl (g.2.2.2.1, 400, .inl (fun _ => 0))), (a 8, .inl (g.2.1, 16, .inl (fun _ => 0))), (a 7, .inl (g.2.2.1, 3, .inr (.inl (fun _ => 0)))), (a 0, .inr (4, [.ref (a 1), .ref (a 4), .ref (a 5), .ref (a 6), .ref (a 7), .ref (a 8), .int (nI 0), .int (nI 0)])), (a 4, .inr (0, [.int mz, .ref ez, .int (nI i)]))] ++ bp g i ez cz az Bz) [] (220 + 21 * i) (1240 + 156 * i) := by
                            intro L310n
                            induction L310n with
                            | zero => intro i mz ez cz az Bz f3 hi hL310 hbk hcc hcap hz hsz; exact absurd hL310 (by omega)
                            | succ L310n ihL310 =>
                              intro i mz ez cz az Bz f3 hi hL310 hbk hcc hcap hz hsz
                              refine z_iload h dL_build_310 8 rfl ?_
                              refine z_iload h dL_build_312 7 rfl ?_
                              refine z_icmp_ge h (tgt := 527) dL_build_314 (by decide) (fun c_314 => ?_) (fun c_314 => ?_)
                              · have he : M = i := by have := ge_t (a := i) (b := M) c_314 (by omega) (by omega); omega
                                subst he
                                refine z_tail ?_
                                refine z_tail ?_
                                refine z_ws (wW' := ([(b9, .inl (g.2.1, 160, .inl f3)), (a 3, .inl (g.2.1, 10, .inl ft2)), (a 6, .inl (g.2.2.1, 12, .inr (.inl (fun _ => 0)))), (a 2, .inl (g.2.1, 100, .inl fm)), (a 1, .inr (2, [.ref (a 2), .ref (a 3), .int (nI P)])), (a 5, .inl (g.2.2.2.1, 400, .inl (fun _ => 0))), (a 8, .inl (g.2.1, 16, .inl (fun _ => 0))), (a 7, .inl (g.2.2.1, 3, .inr (.inl (fun _ => 0)))), (a 0, .inr (4, [.ref (a 1), .ref (a 4), .ref (a 5), .ref (a 6), .ref (a 7), .ref (a 8), .int (nI 0), .int (nI 0)])), (a 4, .inr (0, [.int mz, .ref ez, .int (nI M)]))] ++ bp g M ez cz az Bz)) rfl rfl ?_
                                refine z_iconst h (v := 2) dL_build_527 (by decide) ?_
                                refine z_newa h ac_L_build_I (ty := .int) rfl (t0 := 0) rfl (fun C q => by cases q) (a0 := (2, .inl (fun _ => 0))) (fun cA => by rw [vp_cell_i]; rfl) (by decide) (N' := 2) (by decide) (by decide) (by show _ ≤ 500; omega) (by show _ ≤ 3000; omega) dL_build_528 (fun q9 => ?_)
                                refine z_rot ?_
                                refine z_ws (wW' := ([(q9, .inl (g.2.1, 2, .inl (fun _ => 0))), (b9, .inl (g.2.1, 160, .inl f3)), (a 3, .inl (g.2.1, 10, .inl ft2)), (a 6, .inl (g.2.2.1, 12, .inr (.inl (fun _ => 0)))), (a 2, .inl (g.2.1, 100, .inl fm)), (a 1, .inr (2, [.ref (a 2), .ref (a 3), .int (nI P)])), (a 5, .inl (g.2.2.2.1, 400, .inl (fun _ => 0))), (a 8, .inl (g.2.1, 16, .inl (fun _ => 0))), (a 7, .inl (g.2.2.1, 3, .inr (.inl (fun _ => 0)))), (a 0, .inr (4, [.ref (a 1), .ref (a 4), .ref (a 5), .ref (a 6), .ref (a 7), .ref (a 8), .int (nI 0), .int (nI 0)])), (a 4, .inr (0, [.int mz, .ref ez, .int (nI M)]))] ++ bp g M ez cz az Bz)) rfl rfl ?_
                                refine z_dup h dL_build_530 rfl ?_
                                refine z_iconst h (v := 0) dL_build_531 (by decide) ?_
                                refine z_iload h dL_build_532 6 rfl ?_
                                refine z_iast h (j := 0) 0 rfl (show vp_in (nI 0) 2 from vp_in_nI (by omega) (by omega)) (by rw [show ((0 : Int32)).toNatClampNeg = 0 from rfl]) dL_build_534 (wW' := ([(q9, .inl (g.2.1, 2, .inl (upd (fun _ => 0) 0 (nI P)))), (b9, .inl (g.2.1, 160, .inl f3)), (a 3, .inl (g.2.1, 10, .inl ft2)), (a 6, .inl (g.2.2.1, 12, .inr (.inl (fun _ => 0)))), (a 2, .inl (g.2.1, 100, .inl fm)), (a 1, .inr (2, [.ref (a 2), .ref (a 3), .int (nI P)])), (a 5, .inl (g.2.2.2.1, 400, .inl (fun _ => 0))), (a 8, .inl (g.2.1, 16, .inl (fun _ => 0))), (a 7, .inl (g.2.2.1, 3, .inr (.inl (fun _ => 0)))), (a 0, .inr (4, [.ref (a 1), .ref (a 4), .ref (a 5), .ref (a 6), .ref (a 7), .ref (a 8), .int (nI 0), .int (nI 0)])), (a 4, .inr (0, [.int mz, .ref ez, .int (nI M)]))] ++ bp g M ez cz az Bz)) rfl ?_
                                refine z_dup h dL_build_535 rfl ?_
                                refine z_iconst h (v := 1) dL_build_536 (by decide) ?_
                                refine z_iload h dL_build_537 7 rfl ?_
                                refine z_iast h (j := 1) 0 rfl (show vp_in (nI 1) 2 from vp_in_nI (by omega) (by omega)) (by rw [show ((1 : Int32)).toNatClampNeg = 1 from rfl]) dL_build_539 (wW' := ([(q9, .inl (g.2.1, 2, .inl (upd (upd (fun _ => 0) 0 (nI P)) 1 (nI M)))), (b9, .inl (g.2.1, 160, .inl f3)), (a 3, .inl (g.2.1, 10, .inl ft2)), (a 6, .inl (g.2.2.1, 12, .inr (.inl (fun _ => 0)))), (a 2, .inl (g.2.1, 100, .inl fm)), (a 1, .inr (2, [.ref (a 2), .ref (a 3), .int (nI P)])), (a 5, .inl (g.2.2.2.1, 400, .inl (fun _ => 0))), (a 8, .inl (g.2.1, 16, .inl (fun _ => 0))), (a 7, .inl (g.2.2.1, 3, .inr (.inl (fun _ => 0)))), (a 0, .inr (4, [.ref (a 1), .ref (a 4), .ref (a 5), .ref (a 6), .ref (a 7), .ref (a 8), .int (nI 0), .int (nI 0)])), (a 4, .inr (0, [.int mz, .ref ez, .int (nI M)]))] ++ bp g M ez cz az Bz)) rfl ?_
                                exact fin _ _ (q9, P, fm, ft2, M, mz, ez, cz, az, Bz, f3) _ _ _ _ dL_build_540 ⟨hP, Nat.le_of_lt_succ hM, hcc, hcap, hz, hf, hbk, hsz⟩ rfl (by omega) (by omega)
                              · have hi : i < M := ge_f (a := i) (b := M) c_314 (by omega) (by omega)
                                refine z_aload_n h dL_build_317 rfl 1 rfl ?_
                                refine z_iload_n h dL_build_318 rfl 2 rfl ?_
                                refine z_bipush h (v := 6) dL_build_319 (by decide) ?_
                                refine z_iadd h dL_build_321 ?_
                                refine z_iload h dL_build_322 8 rfl ?_
                                refine z_iconst h (v := 4) dL_build_324 (by decide) ?_
                                refine z_irem h dL_build_325 (by decide) ?_
                                refine z_topi (y := nI (i % 4)) (rem_nI (n := 4) (by omega) (by decide) (by decide)) ?_
                                refine z_iadd h dL_build_326 ?_
                                refine z_topi (y := nI (6 + i % 4)) (by rw [show (0 + 6 : Int32) = nI 6 from rfl, nI_add]) ?_
                                refine s_Si (R := rmL_build) (kc := (220 + 21 * i)) (ks := (1240 + 156 * i)) h (As := [.ref b, .int (nI (6 + i % 4))]) (st := []) (Y := ([(m9, .inl (g.2.1, 100, .inl g1b)), (t9, .inl (g.2.1, 10, .inl g2b)), (b9, .inl (g.2.1, 160, .inl f3)), (a 3, .inl (g.2.1, 10, .inl ft2)), (a 6, .inl (g.2.2.1, 12, .inr (.inl (fun _ => 0)))), (a 2, .inl (g.2.1, 100, .inl fm)), (a 1, .inr (2, [.ref (a 2), .ref (a 3), .int (nI P)])), (a 5, .inl (g.2.2.2.1, 400, .inl (fun _ => 0))), (a 8, .inl (g.2.1, 16, .inl (fun _ => 0))), (a 7, .inl (g.2.2.1, 3, .inr (.inl (fun _ => 0)))), (a 0, .inr (4, [.ref (a 1), .ref (a 4), .ref (a 5), .ref (a 6), .ref (a 7), .ref (a 8), .int (nI 0), .int (nI 0)])), (a 4, .inr (0, [.int mz, .ref ez, .int (nI i)]))] ++ bp g i ez cz az Bz)) hT hSx (fun q hq => hq) (fun sz => m_L_cell l g b L xs (6 + i % 4) (by omega) hL sz) (va_cwS 2 h.ts gL_build_L_cell rfl rfl rfl (by decide +kernel) ⟨Nat.le_of_ble_eq_true rfl, Nat.le_of_ble_eq_true rfl⟩) rfl (List.append_nil _).symm rfl (Nat.le_of_ble_eq_true rfl) ⟨by show _ ≤ 500; omega, by show _ ≤ 3000; omega⟩ (wN := fun u => ([(m9, .inl (g.2.1, 100, .inl g1b)), (t9, .inl (g.2.1, 10, .inl g2b)), (b9, .inl (g.2.1, 160, .inl f3)), (a 3, .inl (g.2.1, 10, .inl ft2)), (a 6, .inl (g.2.2.1, 12, .inr (.inl (fun _ => 0)))), (a 2, .inl (g.2.1, 100, .inl fm)), (a 1, .inr (2, [.ref (a 2), .ref (a 3), .int (nI P)])), (a 5, .inl (g.2.2.2.1, 400, .inl (fun _ => 0))), (a 8, .inl (g.2.1, 16, .inl (fun _ => 0))), (a 7, .inl (g.2.2.1, 3, .inr (.inl (fun _ => 0)))), (a 0, .inr (4, [.ref (a 1), .ref (a 4), .ref (a 5), .ref (a 6), .ref (a 7), .ref (a 8), .int (nI 0), .int (nI 0)])), (a 4, .inr (0, [.int mz, .ref ez, .int (nI i)]))] ++ bp g i ez cz az Bz)) (fun _ => List.append_nil _) dL_build_327 (fun r_327 u_327 h_327 => ?_)
                                refine z_iload h dL_build_330 8 rfl ?_
                                refine z_iconst h (v := 4) dL_build_332 (by decide) ?_
                                refine z_idiv h dL_build_333 (by decide) ?_
                                refine z_bipush h (v := 9) dL_build_334 (by decide) ?_
                                refine z_imul h dL_build_336 ?_
                                refine z_ishr h dL_build_337 ?_
                                obtain ⟨xv, exv⟩ : ∃ z, z = (r_327 >>> ((((nI i) / 4) * 9) &&& 31) : Int32) := ⟨_, rfl⟩
                                refine z_topi exv.symm ?_
                                refine z_istore h dL_build_338 (by decide) (lv' := [(0, .ref (a 0)), (1, .ref b), (2, .int 0), (3, .ref m9), (4, .ref t9), (5, .ref b9), (6, .int (nI P)), (7, .int (nI M)), (8, .int (nI i)), (9, .int xv)]) [1, 2, 3, 4, 5, 6, 7, 8, 9, 0] rfl ?_
                                refine z_bipush h (v := 10) dL_build_340 (by decide) ?_
                                refine z_iload h dL_build_342 8 rfl ?_
                                refine z_imul h dL_build_344 ?_
                                refine z_topi (y := nI (10 * i)) (by rw [show (10 : Int32) = nI 10 from rfl, pk_mul]) ?_
                                refine z_istore h dL_build_345 (by decide) (lv' := [(0, .ref (a 0)), (1, .ref b), (2, .int 0), (3, .ref m9), (4, .ref t9), (5, .ref b9), (6, .int (nI P)), (7, .int (nI M)), (8, .int (nI i)), (9, .int xv), (10, .int (nI (10 * i)))]) [1, 2, 3, 4, 5, 6, 7, 8, 9, 10, 0] rfl ?_
                                refine z_aload h dL_build_347 5 rfl ?_
                                refine z_iload h dL_build_349 10 rfl ?_
                                refine z_iconst h (v := 1) dL_build_351 (by decide) ?_
                                refine z_iload h dL_build_352 9 rfl ?_
                                refine z_iload h dL_build_354 6 rfl ?_
                                refine z_iconst h (v := 1) dL_build_356 (by decide) ?_
                                refine z_isub h dL_build_357 ?_
                                refine z_topi (y := nI (P - 1)) (nI_p1 (by omega) (by omega)) ?_
                                refine z_Si h (b := 0) (C := "") (As := [.int xv, .int (nI (P - 1))]) (st := [.int 1, .int (nI (10 * i)), .ref b9]) (fun sz => m_L_below l g xv (P - 1) (by omega) (by omega) sz) (va_cwS 2 h.ts gL_build_L_below rfl rfl rfl (by decide +kernel) ⟨Nat.le_of_ble_eq_true rfl, Nat.le_of_ble_eq_true rfl⟩) rfl [] [] rfl rfl rfl rfl rfl (Nat.le_of_ble_eq_true rfl) ⟨by show _ ≤ 500; omega, by show _ ≤ 3000; omega⟩ (fun _ => (Nat.le_of_ble_eq_true rfl)) (wN := fun u => ([(m9, .inl (g.2.1, 100, .inl g1b)), (t9, .inl (g.2.1, 10, .inl g2b)), (b9, .inl (g.2.1, 160, .inl f3)), (a 3, .inl (g.2.1, 10, .inl ft2)), (a 6, .inl (g.2.2.1, 12, .inr (.inl (fun _ => 0)))), (a 2, .inl (g.2.1, 100, .inl fm)), (a 1, .inr (2, [.ref (a 2), .ref (a 3), .int (nI P)])), (a 5, .inl (g.2.2.2.1, 400, .inl (fun _ => 0))), (a 8, .inl (g.2.1, 16, .inl (fun _ => 0))), (a 7, .inl (g.2.2.1, 3, .inr (.inl (fun _ => 0)))), (a 0, .inr (4, [.ref (a 1), .ref (a 4), .ref (a 5), .ref (a 6), .ref (a 7), .ref (a 8), .int (nI 0), .int (nI 0)])), (a 4, .inr (0, [.int mz, .ref ez, .int (nI i)]))] ++ bp g i ez cz az Bz)) (fun _ => List.append_nil _) dL_build_358 (fun r_358 u_358 h_358 => ?_)
                                obtain ⟨j0, hj0, rfl⟩ := h_358
                                refine z_iadd h dL_build_361 ?_
                                refine z_topi (y := nI (1 + j0)) (by rw [show (1 : Int32) = nI 1 from rfl, nI_add]) ?_
                                refine z_iast h (j := 10 * i) 2 rfl (vp_in_nI (by omega) (by omega)) (by rw [nI_clamp (by omega)]) dL_build_362 (wW' := ([(m9, .inl (g.2.1, 100, .inl g1b)), (t9, .inl (g.2.1, 10, .inl g2b)), (b9, .inl (g.2.1, 160, .inl (upd f3 (10 * i) (nI (1 + j0))))), (a 3, .inl (g.2.1, 10, .inl ft2)), (a 6, .inl (g.2.2.1, 12, .inr (.inl (fun _ => 0)))), (a 2, .inl (g.2.1, 100, .inl fm)), (a 1, .inr (2, [.ref (a 2), .ref (a 3), .int (nI P)])), (a 5, .inl (g.2.2.2.1, 400, .inl (fun _ => 0))), (a 8, .inl (g.2.1, 16, .inl (fun _ => 0))), (a 7, .inl (g.2.2.1, 3, .inr (.inl (fun _ => 0)))), (a 0, .inr (4, [.ref (a 1), .ref (a 4), .ref (a 5), .ref (a 6), .ref (a 7), .ref (a 8), .int (nI 0), .int (nI 0)])), (a 4, .inr (0, [.int mz, .ref ez, .int (nI i)]))] ++ bp g i ez cz az Bz)) rfl ?_
                                refine z_aload h dL_build_363 5 rfl ?_
                                refine z_iload h dL_build_365 10 rfl ?_
                                refine z_iconst h (v := 1) dL_build_367 (by decide) ?_
                                refine z_iadd h dL_build_368 ?_
                                refine z_topi (y := nI (10 * i + 1)) (by rw [show (1 : Int32) = nI 1 from rfl, nI_add]) ?_
                                refine z_iload h dL_build_369 9 rfl ?_
                                refine z_iconst h (v := 2) dL_build_371 (by decide) ?_
                                refine z_ishr h dL_build_372 ?_
                                refine z_iconst h (v := 2) dL_build_373 (by decide) ?_
                                refine z_Si h (b := 0) (C := "") (As := [.int (xv >>> (2 &&& 31)), .int 2]) (st := [.int (nI (10 * i + 1)), .ref b9]) (fun sz => m_L_below l g (xv >>> (2 &&& 31)) 2 (by decide) (by decide) sz) (va_cwS 2 h.ts gL_build_L_below rfl rfl rfl (by decide +kernel) ⟨Nat.le_of_ble_eq_true rfl, Nat.le_of_ble_eq_true rfl⟩) rfl [] [] rfl rfl rfl rfl rfl (Nat.le_of_ble_eq_true rfl) ⟨by show _ ≤ 500; omega, by show _ ≤ 3000; omega⟩ (fun _ => (Nat.le_of_ble_eq_true rfl)) (wN := fun u => ([(m9, .inl (g.2.1, 100, .inl g1b)), (t9, .inl (g.2.1, 10, .inl g2b)), (b9, .inl (g.2.1, 160, .inl (upd f3 (10 * i) (nI (1 + j0))))), (a 3, .inl (g.2.1, 10, .inl ft2)), (a 6, .inl (g.2.2.1, 12, .inr (.inl (fun _ => 0)))), (a 2, .inl (g.2.1, 100, .inl fm)), (a 1, .inr (2, [.ref (a 2), .ref (a 3), .int (nI P)])), (a 5, .inl (g.2.2.2.1, 400, .inl (fun _ => 0))), (a 8, .inl (g.2.1, 16, .inl (fun _ => 0))), (a 7, .inl (g.2.2.1, 3, .inr (.inl (fun _ => 0)))), (a 0, .inr (4, [.ref (a 1), .ref (a 4), .ref (a 5), .ref (a 6), .ref (a 7), .ref (a 8), .int (nI 0), .int (nI 0)])), (a 4, .inr (0, [.int mz, .ref ez, .int (nI i)]))] ++ bp g i ez cz az Bz)) (fun _ => List.append_nil _) dL_build_374 (fun r_374 u_374 h_374 => ?_)
                                refine z_if_ne h (tgt := 384) dL_build_377 (by decide) (fun c_377 => ?_) (fun c_377 => ?_)
                                · refine z_iload h dL_build_384 9 rfl ?_
                                  refine z_iconst h (v := 3) dL_build_386 (by decide) ?_
                                  refine z_ishr h dL_build_387 ?_
                                  refine z_iconst h (v := 3) dL_build_388 (by decide) ?_
                                  refine z_Si h (b := 0) (C := "") (As := [.int (xv >>> (3 &&& 31)), .int 3]) (st := [.int (nI (10 * i + 1)), .ref b9]) (fun sz => m_L_below l g (xv >>> (3 &&& 31)) 3 (by decide) (by decide) sz) (va_cwS 2 h.ts gL_build_L_below rfl rfl rfl (by decide +kernel) ⟨Nat.le_of_ble_eq_true rfl, Nat.le_of_ble_eq_true rfl⟩) rfl [] [] rfl rfl rfl rfl rfl (Nat.le_of_ble_eq_true rfl) ⟨by show _ ≤ 500; omega, by show _ ≤ 3000; omega⟩ (fun _ => (Nat.le_of_ble_eq_true rfl)) (wN := fun u => ([(m9, .inl (g.2.1, 100, .inl g1b)), (t9, .inl (g.2.1, 10, .inl g2b)), (b9, .inl (g.2.1, 160, .inl (upd f3 (10 * i) (nI (1 + j0))))), (a 3, .inl (g.2.1, 10, .inl ft2)), (a 6, .inl (g.2.2.1, 12, .inr (.inl (fun _ => 0)))), (a 2, .inl (g.2.1, 100, .inl fm)), (a 1, .inr (2, [.ref (a 2), .ref (a 3), .int (nI P)])), (a 5, .inl (g.2.2.2.1, 400, .inl (fun _ => 0))), (a 8, .inl (g.2.1, 16, .inl (fun _ => 0))), (a 7, .inl (g.2.2.1, 3, .inr (.inl (fun _ => 0)))), (a 0, .inr (4, [.ref (a 1), .ref (a 4), .ref (a 5), .ref (a 6), .ref (a 7), .ref (a 8), .int (nI 0), .int (nI 0)])), (a 4, .inr (0, [.int mz, .ref ez, .int (nI i)]))] ++ bp g i ez cz az Bz)) (fun _ => List.append_nil _) dL_build_389 (fun r_389 u_389 h_389 => ?_)
                                  obtain ⟨j1, hj1, rfl⟩ := h_389
                                  refine z_iast h (j := 10 * i + 1) 2 rfl (vp_in_nI (by omega) (by omega)) (by rw [nI_clamp (by omega)]) dL_build_392 (wW' := ([(m9, .inl (g.2.1, 100, .inl g1b)), (t9, .inl (g.2.1, 10, .inl g2b)), (b9, .inl (g.2.1, 160, .inl (upd (upd f3 (10 * i) (nI (1 + j0))) (10 * i + 1) (nI j1)))), (a 3, .inl (g.2.1, 10, .inl ft2)), (a 6, .inl (g.2.2.1, 12, .inr (.inl (fun _ => 0)))), (a 2, .inl (g.2.1, 100, .inl fm)), (a 1, .inr (2, [.ref (a 2), .ref (a 3), .int (nI P)])), (a 5, .inl (g.2.2.2.1, 400, .inl (fun _ => 0))), (a 8, .inl (g.2.1, 16, .inl (fun _ => 0))), (a 7, .inl (g.2.2.1, 3, .inr (.inl (fun _ => 0)))), (a 0, .inr (4, [.ref (a 1), .ref (a 4), .ref (a 5), .ref (a 6), .ref (a 7), .ref (a 8), .int (nI 0), .int (nI 0)])), (a 4, .inr (0, [.int mz, .ref ez, .int (nI i)]))] ++ bp g i ez cz az Bz)) rfl ?_
                                  refine z_aload h dL_build_393 5 rfl ?_
                                  refine z_iload h dL_build_395 10 rfl ?_
                                  refine z_iconst h (v := 2) dL_build_397 (by decide) ?_
                                  refine z_iadd h dL_build_398 ?_
                                  refine z_topi (y := nI (10 * i + 2)) (by rw [show (2 : Int32) = nI 2 from rfl, nI_add]) ?_
                                  refine z_bipush h (v := 10) dL_build_399 (by decide) ?_
                                  refine z_bipush h (v := 10) dL_build_401 (by decide) ?_
                                  refine z_iload h dL_build_403 9 rfl ?_
                                  refine z_iconst h (v := 4) dL_build_405 (by decide) ?_
                                  refine z_ishr h dL_build_406 ?_
                                  refine z_bipush h (v := 25) dL_build_407 (by decide) ?_
                                  refine z_Si h (b := 0) (C := "") (As := [.int (xv >>> (4 &&& 31)), .int 25]) (st := [.int 10, .int 10, .int (nI (10 * i + 2)), .ref b9]) (fun sz => m_L_below l g (xv >>> (4 &&& 31)) 25 (by decide) (by decide) sz) (va_cwS 2 h.ts gL_build_L_below rfl rfl rfl (by decide +kernel) ⟨Nat.le_of_ble_eq_true rfl, Nat.le_of_ble_eq_true rfl⟩) rfl [] [] rfl rfl rfl rfl rfl (Nat.le_of_ble_eq_true rfl) ⟨by show _ ≤ 500; omega, by show _ ≤ 3000; omega⟩ (fun _ => (Nat.le_of_ble_eq_true rfl)) (wN := fun u => ([(m9, .inl (g.2.1, 100, .inl g1b)), (t9, .inl (g.2.1, 10, .inl g2b)), (b9, .inl (g.2.1, 160, .inl (upd (upd f3 (10 * i) (nI (1 + j0))) (10 * i + 1) (nI j1)))), (a 3, .inl (g.2.1, 10, .inl ft2)), (a 6, .inl (g.2.2.1, 12, .inr (.inl (fun _ => 0)))), (a 2, .inl (g.2.1, 100, .inl fm)), (a 1, .inr (2, [.ref (a 2), .ref (a 3), .int (nI P)])), (a 5, .inl (g.2.2.2.1, 400, .inl (fun _ => 0))), (a 8, .inl (g.2.1, 16, .inl (fun _ => 0))), (a 7, .inl (g.2.2.1, 3, .inr (.inl (fun _ => 0)))), (a 0, .inr (4, [.ref (a 1), .ref (a 4), .ref (a 5), .ref (a 6), .ref (a 7), .ref (a 8), .int (nI 0), .int (nI 0)])), (a 4, .inr (0, [.int mz, .ref ez, .int (nI i)]))] ++ bp g i ez cz az Bz)) (fun _ => List.append_nil _) dL_build_409 (fun r_409 u_409 h_409 => ?_)
                                  obtain ⟨j2, hj2, rfl⟩ := h_409
                                  refine z_imul h dL_build_412 ?_
                                  refine z_topi (y := nI (10 * j2)) (by rw [show (10 : Int32) = nI 10 from rfl, pk_mul]) ?_
                                  refine z_iadd h dL_build_413 ?_
                                  refine z_topi (y := nI (10 + 10 * j2)) (by rw [show (10 : Int32) = nI 10 from rfl, nI_add]) ?_
                                  refine z_iast h (j := 10 * i + 2) 2 rfl (vp_in_nI (by omega) (by omega)) (by rw [nI_clamp (by omega)]) dL_build_414 (wW' := ([(m9, .inl (g.2.1, 100, .inl g1b)), (t9, .inl (g.2.1, 10, .inl g2b)), (b9, .inl (g.2.1, 160, .inl (upd (upd (upd f3 (10 * i) (nI (1 + j0))) (10 * i + 1) (nI j1)) (10 * i + 2) (nI (10 + 10 * j2))))), (a 3, .inl (g.2.1, 10, .inl ft2)), (a 6, .inl (g.2.2.1, 12, .inr (.inl (fun _ => 0)))), (a 2, .inl (g.2.1, 100, .inl fm)), (a 1, .inr (2, [.ref (a 2), .ref (a 3), .int (nI P)])), (a 5, .inl (g.2.2.2.1, 400, .inl (fun _ => 0))), (a 8, .inl (g.2.1, 16, .inl (fun _ => 0))), (a 7, .inl (g.2.2.1, 3, .inr (.inl (fun _ => 0)))), (a 0, .inr (4, [.ref (a 1), .ref (a 4), .ref (a 5), .ref (a 6), .ref (a 7), .ref (a 8), .int (nI 0), .int (nI 0)])), (a 4, .inr (0, [.int mz, .ref ez, .int (nI i)]))] ++ bp g i ez cz az Bz)) rfl ?_
                                  refine z_aload h dL_build_415 5 rfl ?_
                                  refine z_iload h dL_build_417 10 rfl ?_
                                  refine z_iconst h (v := 3) dL_build_419 (by decide) ?_
                                  refine z_iadd h dL_build_420 ?_
                                  refine z_topi (y := nI (10 * i + 3)) (by rw [show (3 : Int32) = nI 3 from rfl, nI_add]) ?_
                                  refine z_iload h dL_build_421 9 rfl ?_
                                  refine z_bipush h (v := 6) dL_build_423 (by decide) ?_
                                  refine z_ishr h dL_build_425 ?_
                                  refine z_bipush h (v := 40) dL_build_426 (by decide) ?_
                                  refine z_Si h (b := 0) (C := "") (As := [.int (xv >>> (6 &&& 31)), .int 40]) (st := [.int (nI (10 * i + 3)), .ref b9]) (fun sz => m_L_below l g (xv >>> (6 &&& 31)) 40 (by decide) (by decide) sz) (va_cwS 2 h.ts gL_build_L_below rfl rfl rfl (by decide +kernel) ⟨Nat.le_of_ble_eq_true rfl, Nat.le_of_ble_eq_true rfl⟩) rfl [] [] rfl rfl rfl rfl rfl (Nat.le_of_ble_eq_true rfl) ⟨by show _ ≤ 500; omega, by show _ ≤ 3000; omega⟩ (fun _ => (Nat.le_of_ble_eq_true rfl)) (wN := fun u => ([(m9, .inl (g.2.1, 100, .inl g1b)), (t9, .inl (g.2.1, 10, .inl g2b)), (b9, .inl (g.2.1, 160, .inl (upd (upd (upd f3 (10 * i) (nI (1 + j0))) (10 * i + 1) (nI j1)) (10 * i + 2) (nI (10 + 10 * j2))))), (a 3, .inl (g.2.1, 10, .inl ft2)), (a 6, .inl (g.2.2.1, 12, .inr (.inl (fun _ => 0)))), (a 2, .inl (g.2.1, 100, .inl fm)), (a 1, .inr (2, [.ref (a 2), .ref (a 3), .int (nI P)])), (a 5, .inl (g.2.2.2.1, 400, .inl (fun _ => 0))), (a 8, .inl (g.2.1, 16, .inl (fun _ => 0))), (a 7, .inl (g.2.2.1, 3, .inr (.inl (fun _ => 0)))), (a 0, .inr (4, [.ref (a 1), .ref (a 4), .ref (a 5), .ref (a 6), .ref (a 7), .ref (a 8), .int (nI 0), .int (nI 0)])), (a 4, .inr (0, [.int mz, .ref ez, .int (nI i)]))] ++ bp g i ez cz az Bz)) (fun _ => List.append_nil _) dL_build_428 (fun r_428 u_428 h_428 => ?_)
                                  obtain ⟨j3, hj3, rfl⟩ := h_428
                                  refine z_iast h (j := 10 * i + 3) 2 rfl (vp_in_nI (by omega) (by omega)) (by rw [nI_clamp (by omega)]) dL_build_431 (wW' := ([(m9, .inl (g.2.1, 100, .inl g1b)), (t9, .inl (g.2.1, 10, .inl g2b)), (b9, .inl (g.2.1, 160, .inl (upd (upd (upd (upd f3 (10 * i) (nI (1 + j0))) (10 * i + 1) (nI j1)) (10 * i + 2) (nI (10 + 10 * j2))) (10 * i + 3) (nI j3)))), (a 3, .inl (g.2.1, 10, .inl ft2)), (a 6, .inl (g.2.2.1, 12, .inr (.inl (fun _ => 0)))), (a 2, .inl (g.2.1, 100, .inl fm)), (a 1, .inr (2, [.ref (a 2), .ref (a 3), .int (nI P)])), (a 5, .inl (g.2.2.2.1, 400, .inl (fun _ => 0))), (a 8, .inl (g.2.1, 16, .inl (fun _ => 0))), (a 7, .inl (g.2.2.1, 3, .inr (.inl (fun _ => 0)))), (a 0, .inr (4, [.ref (a 1), .ref (a 4), .ref (a 5), .ref (a 6), .ref (a 7), .ref (a 8), .int (nI 0), .int (nI 0)])), (a 4, .inr (0, [.int mz, .ref ez, .int (nI i)]))] ++ bp g i ez cz az Bz)) rfl ?_
                                  refine z_aload h dL_build_432 5 rfl ?_
                                  refine z_iload h dL_build_434 10 rfl ?_
                                  refine z_iconst h (v := 5) dL_build_436 (by decide) ?_
                                  refine z_iadd h dL_build_437 ?_
                                  refine z_topi (y := nI (10 * i + 5)) (by rw [show (5 : Int32) = nI 5 from rfl, nI_add]) ?_
                                  refine z_aload h dL_build_438 5 rfl ?_
                                  refine z_iload h dL_build_440 10 rfl ?_
                                  refine z_iconst h (v := 2) dL_build_442 (by decide) ?_
                                  refine z_iadd h dL_build_443 ?_
                                  refine z_topi (y := nI (10 * i + 2)) (by rw [show (2 : Int32) = nI 2 from rfl, nI_add]) ?_
                                  refine z_iald h 2 rfl (vp_in_nI (by omega) (by omega)) dL_build_444 (v := (upd (upd (upd (upd f3 (10 * i) (nI (1 + j0))) (10 * i + 1) (nI j1)) (10 * i + 2) (nI (10 + 10 * j2))) (10 * i + 3) (nI j3)) (10 * i + 2)) (by rw [nI_clamp (by omega)]) ?_
                                  refine z_topi (y := nI (10 + 10 * j2)) rd_2 ?_
                                  refine z_iconst h (v := 2) dL_build_445 (by decide) ?_
                                  refine z_idiv h dL_build_446 (by decide) ?_
                                  refine z_iast h (j := 10 * i + 5) 2 rfl (vp_in_nI (by omega) (by omega)) (by rw [nI_clamp (by omega)]) dL_build_447 (wW' := ([(m9, .inl (g.2.1, 100, .inl g1b)), (t9, .inl (g.2.1, 10, .inl g2b)), (b9, .inl (g.2.1, 160, .inl (upd (upd (upd (upd (upd f3 (10 * i) (nI (1 + j0))) (10 * i + 1) (nI j1)) (10 * i + 2) (nI (10 + 10 * j2))) (10 * i + 3) (nI j3)) (10 * i + 5) ((nI (10 + 10 * j2)) / 2)))), (a 3, .inl (g.2.1, 10, .inl ft2)), (a 6, .inl (g.2.2.1, 12, .inr (.inl (fun _ => 0)))), (a 2, .inl (g.2.1, 100, .inl fm)), (a 1, .inr (2, [.ref (a 2), .ref (a 3), .int (nI P)])), (a 5, .inl (g.2.2.2.1, 400, .inl (fun _ => 0))), (a 8, .inl (g.2.1, 16, .inl (fun _ => 0))), (a 7, .inl (g.2.2.1, 3, .inr (.inl (fun _ => 0)))), (a 0, .inr (4, [.ref (a 1), .ref (a 4), .ref (a 5), .ref (a 6), .ref (a 7), .ref (a 8), .int (nI 0), .int (nI 0)])), (a 4, .inr (0, [.int mz, .ref ez, .int (nI i)]))] ++ bp g i ez cz az Bz)) rfl ?_
                                  refine z_aload_n h dL_build_448 rfl 0 rfl ?_
                                  refine z_aload h dL_build_449 5 rfl ?_
                                  refine z_iload h dL_build_451 10 rfl ?_
                                  refine z_iald h 2 rfl (vp_in_nI (by omega) (by omega)) dL_build_453 (v := (upd (upd (upd (upd (upd f3 (10 * i) (nI (1 + j0))) (10 * i + 1) (nI j1)) (10 * i + 2) (nI (10 + 10 * j2))) (10 * i + 3) (nI j3)) (10 * i + 5) ((nI (10 + 10 * j2)) / 2)) (10 * i)) (by rw [nI_clamp (by omega)]) ?_
                                  refine z_topi (y := nI (1 + j0)) rd5_0 ?_
                                  refine z_aload h dL_build_454 5 rfl ?_
                                  refine z_iload h dL_build_456 10 rfl ?_
                                  refine z_iconst h (v := 1) dL_build_458 (by decide) ?_
                                  refine z_iadd h dL_build_459 ?_
                                  refine z_topi (y := nI (10 * i + 1)) (by rw [show (1 : Int32) = nI 1 from rfl, nI_add]) ?_
                                  refine z_iald h 2 rfl (vp_in_nI (by omega) (by omega)) dL_build_460 (v := (upd (upd (upd (upd (upd f3 (10 * i) (nI (1 + j0))) (10 * i + 1) (nI j1)) (10 * i + 2) (nI (10 + 10 * j2))) (10 * i + 3) (nI j3)) (10 * i + 5) ((nI (10 + 10 * j2)) / 2)) (10 * i + 1)) (by rw [nI_clamp (by omega)]) ?_
                                  refine z_topi (y := nI j1) rd5_1 ?_
                                  refine z_aload h dL_build_461 5 rfl ?_
                                  refine z_iload h dL_build_463 10 rfl ?_
                                  refine z_iconst h (v := 2) dL_build_465 (by decide) ?_
                                  refine z_iadd h dL_build_466 ?_
                                  refine z_topi (y := nI (10 * i + 2)) (by rw [show (2 : Int32) = nI 2 from rfl, nI_add]) ?_
                                  refine z_iald h 2 rfl (vp_in_nI (by omega) (by omega)) dL_build_467 (v := (upd (upd (upd (upd (upd f3 (10 * i) (nI (1 + j0))) (10 * i + 1) (nI j1)) (10 * i + 2) (nI (10 + 10 * j2))) (10 * i + 3) (nI j3)) (10 * i + 5) ((nI (10 + 10 * j2)) / 2)) (10 * i + 2)) (by rw [nI_clamp (by omega)]) ?_
                                  refine z_topi (y := nI (10 + 10 * j2)) rd5_2 ?_
                                  refine z_aload h dL_build_468 5 rfl ?_
                                  refine z_iload h dL_build_470 10 rfl ?_
                                  refine z_iconst h (v := 3) dL_build_472 (by decide) ?_
                                  refine z_iadd h dL_build_473 ?_
                                  refine z_topi (y := nI (10 * i + 3)) (by rw [show (3 : Int32) = nI 3 from rfl, nI_add]) ?_
                                  refine z_iald h 2 rfl (vp_in_nI (by omega) (by omega)) dL_build_474 (v := (upd (upd (upd (upd (upd f3 (10 * i) (nI (1 + j0))) (10 * i + 1) (nI j1)) (10 * i + 2) (nI (10 + 10 * j2))) (10 * i + 3) (nI j3)) (10 * i + 5) ((nI (10 + 10 * j2)) / 2)) (10 * i + 3)) (by rw [nI_clamp (by omega)]) ?_
                                  refine z_topi (y := nI j3) rd5_3 ?_
                                  refine x_Yi h (As := [.int (nI (1 + j0)), .int (nI j1), .int (nI (10 + 10 * j2)), .int (nI j3)]) (st := []) (Y := [(m9, .inl (g.2.1, 100, .inl g1b)), (t9, .inl (g.2.1, 10, .inl g2b)), (b9, .inl (g.2.1, 160, .inl (upd (upd (upd (upd (upd f3 (10 * i) (nI (1 + j0))) (10 * i + 1) (nI j1)) (10 * i + 2) (nI (10 + 10 * j2))) (10 * i + 3) (nI j3)) (10 * i + 5) ((nI (10 + 10 * j2)) / 2)))), (a 3, .inl (g.2.1, 10, .inl ft2)), (a 6, .inl (g.2.2.1, 12, .inr (.inl (fun _ => 0)))), (a 2, .inl (g.2.1, 100, .inl fm))]) hT (fun q hq => hq) (fun sz => m_X3_addBin l hlf g a P (fun _ => 0) (fun _ => 0) (fun _ => 0) 0 0 mz ez i cz az Bz (nI (1 + j0)) (nI j1) (nI (10 + 10 * j2)) (nI j3) (by omega) (by omega) hcc hcap hz sz) (cwV 4 h.ts gL_build_X3_addBin rfl rfl rfl (by decide +kernel) ⟨Nat.le_of_ble_eq_true rfl, Nat.le_of_ble_eq_true rfl⟩) rfl rfl 10 rfl rfl rfl rfl (Nat.le_of_ble_eq_true rfl) ⟨by show _ ≤ 500; omega, by show _ ≤ 3000; omega⟩ (wN := fun u => ([(m9, .inl (g.2.1, 100, .inl g1b)), (t9, .inl (g.2.1, 10, .inl g2b)), (b9, .inl (g.2.1, 160, .inl (upd (upd (upd (upd (upd f3 (10 * i) (nI (1 + j0))) (10 * i + 1) (nI j1)) (10 * i + 2) (nI (10 + 10 * j2))) (10 * i + 3) (nI j3)) (10 * i + 5) ((nI (10 + 10 * j2)) / 2)))), (a 3, .inl (g.2.1, 10, .inl ft2)), (a 6, .inl (g.2.2.1, 12, .inr (.inl (fun _ => 0)))), (a 2, .inl (g.2.1, 100, .inl fm)), (a 1, .inr (2, [.ref (a 2), .ref (a 3), .int (nI P)])), (a 5, .inl (g.2.2.2.1, 400, .inl (fun _ => 0))), (a 8, .inl (g.2.1, 16, .inl (fun _ => 0))), (a 7, .inl (g.2.2.1, 3, .inr (.inl (fun _ => 0)))), (a 0, .inr (4, [.ref (a 1), .ref (a 4), .ref (a 5), .ref (a 6), .ref (a 7), .ref (a 8), .int (nI 0), .int (nI 0)])), (a 4, .inr (0, [.int (mz + 1), .ref u.2.1, .int (nI (i + 1))]))] ++ bp g (i + 1) u.2.1 u.2.2 (ins az i u.1) (ins Bz i (nwB (nI (1 + j0)) (nI j1) (nI (10 + 10 * j2)) (nI j3) (nI 0))))) (fun _ => rfl) dL_build_475 (fun E hE9 => absurd hE9 (pe3_no (k3_0 (and_t (okI_nI (by omega) (by omega)) (and_t (decide_eq_true (fun q => by have := nI_z q (by omega); omega)) (okI_nI (n := 3) hj1 (by omega)))) (and_t (okR_nI (by omega) (by omega) (by omega)) (okR_nI (by omega) (by omega) (by omega))) (decide_eq_true (by omega))))) (fun r_475 u_475 h_475 => ?_)
                                  obtain ⟨bn_475, ed2_475, cap2_475⟩ := u_475
                                  refine z_ws (wW' := ([(m9, .inl (g.2.1, 100, .inl g1b)), (t9, .inl (g.2.1, 10, .inl g2b)), (b9, .inl (g.2.1, 160, .inl (upd (upd (upd (upd (upd f3 (10 * i) (nI (1 + j0))) (10 * i + 1) (nI j1)) (10 * i + 2) (nI (10 + 10 * j2))) (10 * i + 3) (nI j3)) (10 * i + 5) ((nI (10 + 10 * j2)) / 2)))), (a 3, .inl (g.2.1, 10, .inl ft2)), (a 6, .inl (g.2.2.1, 12, .inr (.inl (fun _ => 0)))), (a 2, .inl (g.2.1, 100, .inl fm)), (a 1, .inr (2, [.ref (a 2), .ref (a 3), .int (nI P)])), (a 5, .inl (g.2.2.2.1, 400, .inl (fun _ => 0))), (a 8, .inl (g.2.1, 16, .inl (fun _ => 0))), (a 7, .inl (g.2.2.1, 3, .inr (.inl (fun _ => 0)))), (a 0, .inr (4, [.ref (a 1), .ref (a 4), .ref (a 5), .ref (a 6), .ref (a 7), .ref (a 8), .int (nI 0), .int (nI 0)])), (a 4, .inr (0, [.int (mz + 1), .ref ed2_475, .int (nI (i + 1))]))] ++ bp g (i + 1) ed2_475 cap2_475 (ins az i bn_475) (ins Bz i (nwB (nI (1 + j0)) (nI j1) (nI (10 + 10 * j2)) (nI j3) (nI 0))))) rfl rfl ?_
                                  refine z_iload h dL_build_478 8 rfl ?_
                                  refine z_icmp_eq h (tgt := 485) dL_build_480 (by decide) (fun c_480 => ?_) (fun c_480 => absurd h_475.2.1 c_480)
                                  refine z_iload h dL_build_485 9 rfl ?_
                                  refine z_bipush h (v := 8) dL_build_487 (by decide) ?_
                                  refine z_ishr h dL_build_489 ?_
                                  refine z_bipush h (v := 6) dL_build_490 (by decide) ?_
                                  refine z_Si h (b := 0) (C := "") (As := [.int (xv >>> (8 &&& 31)), .int 6]) (st := []) (fun sz => m_L_below l g (xv >>> (8 &&& 31)) 6 (by decide) (by decide) sz) (va_cwS 2 h.ts gL_build_L_below rfl rfl rfl (by decide +kernel) ⟨Nat.le_of_ble_eq_true rfl, Nat.le_of_ble_eq_true rfl⟩) rfl [] [] rfl rfl rfl rfl rfl (Nat.le_of_ble_eq_true rfl) ⟨by show _ ≤ 500; omega, by show _ ≤ 3000; omega⟩ (fun _ => (Nat.le_of_ble_eq_true rfl)) (wN := fun u => ([(m9, .inl (g.2.1, 100, .inl g1b)), (t9, .inl (g.2.1, 10, .inl g2b)), (b9, .inl (g.2.1, 160, .inl (upd (upd (upd (upd (upd f3 (10 * i) (nI (1 + j0))) (10 * i + 1) (nI j1)) (10 * i + 2) (nI (10 + 10 * j2))) (10 * i + 3) (nI j3)) (10 * i + 5) ((nI (10 + 10 * j2)) / 2)))), (a 3, .inl (g.2.1, 10, .inl ft2)), (a 6, .inl (g.2.2.1, 12, .inr (.inl (fun _ => 0)))), (a 2, .inl (g.2.1, 100, .inl fm)), (a 1, .inr (2, [.ref (a 2), .ref (a 3), .int (nI P)])), (a 5, .inl (g.2.2.2.1, 400, .inl (fun _ => 0))), (a 8, .inl (g.2.1, 16, .inl (fun _ => 0))), (a 7, .inl (g.2.2.1, 3, .inr (.inl (fun _ => 0)))), (a 0, .inr (4, [.ref (a 1), .ref (a 4), .ref (a 5), .ref (a 6), .ref (a 7), .ref (a 8), .int (nI 0), .int (nI 0)])), (a 4, .inr (0, [.int (mz + 1), .ref ed2_475, .int (nI (i + 1))]))] ++ bp g (i + 1) ed2_475 cap2_475 (ins az i bn_475) (ins Bz i (nwB (nI (1 + j0)) (nI j1) (nI (10 + 10 * j2)) (nI j3) (nI 0))))) (fun _ => List.append_nil _) dL_build_492 (fun r_492 u_492 h_492 => ?_)
                                  refine z_if_le h (tgt := 501) dL_build_495 (by decide) (fun c_495 => ?_) (fun c_495 => ?_)
                                  · refine z_aload_n h dL_build_501 rfl 0 rfl ?_
                                    refine z_iload h dL_build_502 8 rfl ?_
                                    refine x_Yi h (As := [.int (nI i)]) (st := []) (Y := [(m9, .inl (g.2.1, 100, .inl g1b)), (t9, .inl (g.2.1, 10, .inl g2b)), (b9, .inl (g.2.1, 160, .inl (upd (upd (upd (upd (upd f3 (10 * i) (nI (1 + j0))) (10 * i + 1) (nI j1)) (10 * i + 2) (nI (10 + 10 * j2))) (10 * i + 3) (nI j3)) (10 * i + 5) ((nI (10 + 10 * j2)) / 2)))), (a 3, .inl (g.2.1, 10, .inl ft2)), (a 6, .inl (g.2.2.1, 12, .inr (.inl (fun _ => 0)))), (a 2, .inl (g.2.1, 100, .inl fm)), (a 1, .inr (2, [.ref (a 2), .ref (a 3), .int (nI P)])), (a 5, .inl (g.2.2.2.1, 400, .inl (fun _ => 0))), (a 8, .inl (g.2.1, 16, .inl (fun _ => 0))), (a 7, .inl (g.2.2.1, 3, .inr (.inl (fun _ => 0))))]) hT (fun q hq => hq) (fun sz => m_X3_soil l hlf g a 0 0 (mz + 1) ed2_475 (i + 1) cap2_475 (ins az i bn_475) (ins Bz i (nwB (nI (1 + j0)) (nI j1) (nI (10 + 10 * j2)) (nI j3) (nI 0))) (nI i) (by omega) h_475.2.2.1 h_475.2.2.2.1 sz) (cwV 1 h.ts gL_build_X3_soil rfl rfl rfl (by decide +kernel) ⟨Nat.le_of_ble_eq_true rfl, Nat.le_of_ble_eq_true rfl⟩) rfl rfl 10 rfl rfl rfl rfl (Nat.le_of_ble_eq_true rfl) ⟨by show _ ≤ 500; omega, by show _ ≤ 3000; omega⟩ (wN := fun u => ([(m9, .inl (g.2.1, 100, .inl g1b)), (t9, .inl (g.2.1, 10, .inl g2b)), (b9, .inl (g.2.1, 160, .inl (upd (upd (upd (upd (upd f3 (10 * i) (nI (1 + j0))) (10 * i + 1) (nI j1)) (10 * i + 2) (nI (10 + 10 * j2))) (10 * i + 3) (nI j3)) (10 * i + 5) ((nI (10 + 10 * j2)) / 2)))), (a 3, .inl (g.2.1, 10, .inl ft2)), (a 6, .inl (g.2.2.1, 12, .inr (.inl (fun _ => 0)))), (a 2, .inl (g.2.1, 100, .inl fm)), (a 1, .inr (2, [.ref (a 2), .ref (a 3), .int (nI P)])), (a 5, .inl (g.2.2.2.1, 400, .inl (fun _ => 0))), (a 8, .inl (g.2.1, 16, .inl (fun _ => 0))), (a 7, .inl (g.2.2.1, 3, .inr (.inl (fun _ => 0)))), (a 0, .inr (4, [.ref (a 1), .ref (a 4), .ref (a 5), .ref (a 6), .ref (a 7), .ref (a 8), .int (nI 0), .int (nI 0)])), (a 4, .inr (0, [.int (mz + 1), .ref ed2_475, .int (nI (i + 1))]))] ++ bp g (i + 1) ed2_475 cap2_475 (ins az i bn_475) (updB (ins Bz i (nwB (nI (1 + j0)) (nI j1) (nI (10 + 10 * j2)) (nI j3) (nI 0))) (nI i).toNatClampNeg (upd ((ins Bz i (nwB (nI (1 + j0)) (nI j1) (nI (10 + 10 * j2)) (nI j3) (nI 0))) (nI i).toNatClampNeg) 9 1)))) (fun _ => rfl) dL_build_504 (fun E hE9 => absurd hE9 (pe3_no (if_pos (okI_nI (by omega) (by omega))))) (fun r_504 u_504 h_504 => ?_)
                                    have hr1 : r_504 = 1 := by rw [h_504.2, nI_clamp (by omega), ins_at, if_pos rfl]; rfl
                                    refine z_ws (wW' := ([(m9, .inl (g.2.1, 100, .inl g1b)), (t9, .inl (g.2.1, 10, .inl g2b)), (b9, .inl (g.2.1, 160, .inl (upd (upd (upd (upd (upd f3 (10 * i) (nI (1 + j0))) (10 * i + 1) (nI j1)) (10 * i + 2) (nI (10 + 10 * j2))) (10 * i + 3) (nI j3)) (10 * i + 5) ((nI (10 + 10 * j2)) / 2)))), (a 3, .inl (g.2.1, 10, .inl ft2)), (a 6, .inl (g.2.2.1, 12, .inr (.inl (fun _ => 0)))), (a 2, .inl (g.2.1, 100, .inl fm)), (a 1, .inr (2, [.ref (a 2), .ref (a 3), .int (nI P)])), (a 5, .inl (g.2.2.2.1, 400, .inl (fun _ => 0))), (a 8, .inl (g.2.1, 16, .inl (fun _ => 0))), (a 7, .inl (g.2.2.1, 3, .inr (.inl (fun _ => 0)))), (a 0, .inr (4, [.ref (a 1), .ref (a 4), .ref (a 5), .ref (a 6), .ref (a 7), .ref (a 8), .int (nI 0), .int (nI 0)])), (a 4, .inr (0, [.int (mz + 1), .ref ed2_475, .int (nI (i + 1))]))] ++ bp g (i + 1) ed2_475 cap2_475 (ins az i bn_475) (updB (ins Bz i (nwB (nI (1 + j0)) (nI j1) (nI (10 + 10 * j2)) (nI j3) (nI 0))) i (upd ((ins Bz i (nwB (nI (1 + j0)) (nI j1) (nI (10 + 10 * j2)) (nI j3) (nI 0))) i) 9 1)))) (by rw [nI_clamp (show i < 2 ^ 31 by omega)]) rfl ?_
                                    refine z_if_ne h (tgt := 512) dL_build_507 (by decide) (fun c_507 => ?_) (fun c_507 => absurd c_507 (by rw [hr1]; decide))
                                    refine z_aload h dL_build_512 5 rfl ?_
                                    refine z_iload h dL_build_514 10 rfl ?_
                                    refine z_bipush h (v := 9) dL_build_516 (by decide) ?_
                                    refine z_iadd h dL_build_518 ?_
                                    refine z_topi (y := nI (10 * i + 9)) (by rw [show (9 : Int32) = nI 9 from rfl, nI_add]) ?_
                                    refine z_iconst h (v := 1) dL_build_519 (by decide) ?_
                                    refine z_iast h (j := 10 * i + 9) 2 rfl (vp_in_nI (by omega) (by omega)) (by rw [nI_clamp (by omega)]) dL_build_520 (wW' := ([(m9, .inl (g.2.1, 100, .inl g1b)), (t9, .inl (g.2.1, 10, .inl g2b)), (b9, .inl (g.2.1, 160, .inl (upd (upd (upd (upd (upd (upd f3 (10 * i) (nI (1 + j0))) (10 * i + 1) (nI j1)) (10 * i + 2) (nI (10 + 10 * j2))) (10 * i + 3) (nI j3)) (10 * i + 5) ((nI (10 + 10 * j2)) / 2)) (10 * i + 9) 1))), (a 3, .inl (g.2.1, 10, .inl ft2)), (a 6, .inl (g.2.2.1, 12, .inr (.inl (fun _ => 0)))), (a 2, .inl (g.2.1, 100, .inl fm)), (a 1, .inr (2, [.ref (a 2), .ref (a 3), .int (nI P)])), (a 5, .inl (g.2.2.2.1, 400, .inl (fun _ => 0))), (a 8, .inl (g.2.1, 16, .inl (fun _ => 0))), (a 7, .inl (g.2.2.1, 3, .inr (.inl (fun _ => 0)))), (a 0, .inr (4, [.ref (a 1), .ref (a 4), .ref (a 5), .ref (a 6), .ref (a 7), .ref (a 8), .int (nI 0), .int (nI 0)])), (a 4, .inr (0, [.int (mz + 1), .ref ed2_475, .int (nI (i + 1))]))] ++ bp g (i + 1) ed2_475 cap2_475 (ins az i bn_475) (updB (ins Bz i (nwB (nI (1 + j0)) (nI j1) (nI (10 + 10 * j2)) (nI j3) (nI 0))) i (upd ((ins Bz i (nwB (nI (1 + j0)) (nI j1) (nI (10 + 10 * j2)) (nI j3) (nI 0))) i) 9 1)))) rfl ?_
                                    refine z_iinc h (v := nI (i + 1)) dL_build_521 (by decide) 8 rfl (by rw [show Int32.ofInt 1 = nI 1 from rfl, nI_add]) (lv' := [(0, .ref (a 0)), (1, .ref b), (2, .int 0), (3, .ref m9), (4, .ref t9), (5, .ref b9), (6, .int (nI P)), (7, .int (nI M)), (8, .int (nI (i + 1))), (9, .int xv), (10, .int (nI (10 * i)))]) [1, 2, 3, 4, 5, 6, 7, 8, 0, 9, 10] rfl ?_
                                    refine z_goto h (tgt := 310) dL_build_524 (by decide) ?_
                                    refine z_lv [0, 1, 2, 3, 4, 5, 6, 7, 8] (lv' := [(0, .ref (a 0)), (1, .ref b), (2, .int 0), (3, .ref m9), (4, .ref t9), (5, .ref b9), (6, .int (nI P)), (7, .int (nI M)), (8, .int (nI (i + 1)))]) rfl ?_
                                    refine z_widen (kc' := (220 + 21 * (i + 1))) (ks' := (1240 + 156 * (i + 1))) (by omega) (by omega) ?_
                                    exact ihL310 (i + 1) (mz + 1) ed2_475 cap2_475 (ins az i bn_475) (updB (ins Bz i (nwB (nI (1 + j0)) (nI j1) (nI (10 + 10 * j2)) (nI j3) (nI 0))) i (upd ((ins Bz i (nwB (nI (1 + j0)) (nI j1) (nI (10 + 10 * j2)) (nI j3) (nI 0))) i) 9 1)) (upd (upd (upd (upd (upd (upd f3 (10 * i) (nI (1 + j0))) (10 * i + 1) (nI j1)) (10 * i + 2) (nI (10 + 10 * j2))) (10 * i + 3) (nI j3)) (10 * i + 5) ((nI (10 + 10 * j2)) / 2)) (10 * i + 9) 1) (by omega) (by omega) (by first | exact bk_new hbk (by omega) hj1 hj2 hj3 | exact bk_soil (bk_new hbk (by omega) hj1 hj2 hj3) (Nat.lt_succ_self _)) h_475.2.2.1 h_475.2.2.2.1 (fun q => absurd q (Nat.succ_ne_zero _)) (by first | exact (sz_new (n := i) hsz (by rfl)) | exact sz_soil (sz_new (n := i) hsz (by rfl)))
                                  · refine z_goto h (tgt := 521) dL_build_498 (by decide) ?_
                                    refine z_iinc h (v := nI (i + 1)) dL_build_521 (by decide) 8 rfl (by rw [show Int32.ofInt 1 = nI 1 from rfl, nI_add]) (lv' := [(0, .ref (a 0)), (1, .ref b), (2, .int 0), (3, .ref m9), (4, .ref t9), (5, .ref b9), (6, .int (nI P)), (7, .int (nI M)), (8, .int (nI (i + 1))), (9, .int xv), (10, .int (nI (10 * i)))]) [1, 2, 3, 4, 5, 6, 7, 8, 0, 9, 10] rfl ?_
                                    refine z_goto h (tgt := 310) dL_build_524 (by decide) ?_
                                    refine z_lv [0, 1, 2, 3, 4, 5, 6, 7, 8] (lv' := [(0, .ref (a 0)), (1, .ref b), (2, .int 0), (3, .ref m9), (4, .ref t9), (5, .ref b9), (6, .int (nI P)), (7, .int (nI M)), (8, .int (nI (i + 1)))]) rfl ?_
                                    refine z_widen (kc' := (220 + 21 * (i + 1))) (ks' := (1240 + 156 * (i + 1))) (by omega) (by omega) ?_
                                    exact ihL310 (i + 1) (mz + 1) ed2_475 cap2_475 (ins az i bn_475) (ins Bz i (nwB (nI (1 + j0)) (nI j1) (nI (10 + 10 * j2)) (nI j3) (nI 0))) (upd (upd (upd (upd (upd f3 (10 * i) (nI (1 + j0))) (10 * i + 1) (nI j1)) (10 * i + 2) (nI (10 + 10 * j2))) (10 * i + 3) (nI j3)) (10 * i + 5) ((nI (10 + 10 * j2)) / 2)) (by omega) (by omega) (by first | exact bk_new hbk (by omega) hj1 hj2 hj3 | exact bk_soil (bk_new hbk (by omega) hj1 hj2 hj3) (Nat.lt_succ_self _)) h_475.2.2.1 h_475.2.2.2.1 (fun q => absurd q (Nat.succ_ne_zero _)) (by first | exact (sz_new (n := i) hsz (by rfl)) | exact sz_soil (sz_new (n := i) hsz (by rfl)))
                                · obtain ⟨j1, ej1⟩ : ∃ j : Nat, j = 0 := ⟨0, rfl⟩
                                  have hj1 : j1 < 3 := by omega
                                  refine z_iconst h (v := 0) dL_build_380 (by decide) ?_
                                  refine z_topi (y := nI j1) (by rw [ej1]; rfl) ?_
                                  refine z_goto h (tgt := 392) dL_build_381 (by decide) ?_
                                  refine z_iast h (j := 10 * i + 1) 2 rfl (vp_in_nI (by omega) (by omega)) (by rw [nI_clamp (by omega)]) dL_build_392 (wW' := ([(m9, .inl (g.2.1, 100, .inl g1b)), (t9, .inl (g.2.1, 10, .inl g2b)), (b9, .inl (g.2.1, 160, .inl (upd (upd f3 (10 * i) (nI (1 + j0))) (10 * i + 1) (nI j1)))), (a 3, .inl (g.2.1, 10, .inl ft2)), (a 6, .inl (g.2.2.1, 12, .inr (.inl (fun _ => 0)))), (a 2, .inl (g.2.1, 100, .inl fm)), (a 1, .inr (2, [.ref (a 2), .ref (a 3), .int (nI P)])), (a 5, .inl (g.2.2.2.1, 400, .inl (fun _ => 0))), (a 8, .inl (g.2.1, 16, .inl (fun _ => 0))), (a 7, .inl (g.2.2.1, 3, .inr (.inl (fun _ => 0)))), (a 0, .inr (4, [.ref (a 1), .ref (a 4), .ref (a 5), .ref (a 6), .ref (a 7), .ref (a 8), .int (nI 0), .int (nI 0)])), (a 4, .inr (0, [.int mz, .ref ez, .int (nI i)]))] ++ bp g i ez cz az Bz)) rfl ?_
                                  refine z_aload h dL_build_393 5 rfl ?_
                                  refine z_iload h dL_build_395 10 rfl ?_
                                  refine z_iconst h (v := 2) dL_build_397 (by decide) ?_
                                  refine z_iadd h dL_build_398 ?_
                                  refine z_topi (y := nI (10 * i + 2)) (by rw [show (2 : Int32) = nI 2 from rfl, nI_add]) ?_
                                  refine z_bipush h (v := 10) dL_build_399 (by decide) ?_
                                  refine z_bipush h (v := 10) dL_build_401 (by decide) ?_
                                  refine z_iload h dL_build_403 9 rfl ?_
                                  refine z_iconst h (v := 4) dL_build_405 (by decide) ?_
                                  refine z_ishr h dL_build_406 ?_
                                  refine z_bipush h (v := 25) dL_build_407 (by decide) ?_
                                  refine z_Si h (b := 0) (C := "") (As := [.int (xv >>> (4 &&& 31)), .int 25]) (st := [.int 10, .int 10, .int (nI (10 * i + 2)), .ref b9]) (fun sz => m_L_below l g (xv >>> (4 &&& 31)) 25 (by decide) (by decide) sz) (va_cwS 2 h.ts gL_build_L_below rfl rfl rfl (by decide +kernel) ⟨Nat.le_of_ble_eq_true rfl, Nat.le_of_ble_eq_true rfl⟩) rfl [] [] rfl rfl rfl rfl rfl (Nat.le_of_ble_eq_true rfl) ⟨by show _ ≤ 500; omega, by show _ ≤ 3000; omega⟩ (fun _ => (Nat.le_of_ble_eq_true rfl)) (wN := fun u => ([(m9, .inl (g.2.1, 100, .inl g1b)), (t9, .inl (g.2.1, 10, .inl g2b)), (b9, .inl (g.2.1, 160, .inl (upd (upd f3 (10 * i) (nI (1 + j0))) (10 * i + 1) (nI j1)))), (a 3, .inl (g.2.1, 10, .inl ft2)), (a 6, .inl (g.2.2.1, 12, .inr (.inl (fun _ => 0)))), (a 2, .inl (g.2.1, 100, .inl fm)), (a 1, .inr (2, [.ref (a 2), .ref (a 3), .int (nI P)])), (a 5, .inl (g.2.2.2.1, 400, .inl (fun _ => 0))), (a 8, .inl (g.2.1, 16, .inl (fun _ => 0))), (a 7, .inl (g.2.2.1, 3, .inr (.inl (fun _ => 0)))), (a 0, .inr (4, [.ref (a 1), .ref (a 4), .ref (a 5), .ref (a 6), .ref (a 7), .ref (a 8), .int (nI 0), .int (nI 0)])), (a 4, .inr (0, [.int mz, .ref ez, .int (nI i)]))] ++ bp g i ez cz az Bz)) (fun _ => List.append_nil _) dL_build_409 (fun r_409 u_409 h_409 => ?_)
                                  obtain ⟨j2, hj2, rfl⟩ := h_409
                                  refine z_imul h dL_build_412 ?_
                                  refine z_topi (y := nI (10 * j2)) (by rw [show (10 : Int32) = nI 10 from rfl, pk_mul]) ?_
                                  refine z_iadd h dL_build_413 ?_
                                  refine z_topi (y := nI (10 + 10 * j2)) (by rw [show (10 : Int32) = nI 10 from rfl, nI_add]) ?_
                                  refine z_iast h (j := 10 * i + 2) 2 rfl (vp_in_nI (by omega) (by omega)) (by rw [nI_clamp (by omega)]) dL_build_414 (wW' := ([(m9, .inl (g.2.1, 100, .inl g1b)), (t9, .inl (g.2.1, 10, .inl g2b)), (b9, .inl (g.2.1, 160, .inl (upd (upd (upd f3 (10 * i) (nI (1 + j0))) (10 * i + 1) (nI j1)) (10 * i + 2) (nI (10 + 10 * j2))))), (a 3, .inl (g.2.1, 10, .inl ft2)), (a 6, .inl (g.2.2.1, 12, .inr (.inl (fun _ => 0)))), (a 2, .inl (g.2.1, 100, .inl fm)), (a 1, .inr (2, [.ref (a 2), .ref (a 3), .int (nI P)])), (a 5, .inl (g.2.2.2.1, 400, .inl (fun _ => 0))), (a 8, .inl (g.2.1, 16, .inl (fun _ => 0))), (a 7, .inl (g.2.2.1, 3, .inr (.inl (fun _ => 0)))), (a 0, .inr (4, [.ref (a 1), .ref (a 4), .ref (a 5), .ref (a 6), .ref (a 7), .ref (a 8), .int (nI 0), .int (nI 0)])), (a 4, .inr (0, [.int mz, .ref ez, .int (nI i)]))] ++ bp g i ez cz az Bz)) rfl ?_
                                  refine z_aload h dL_build_415 5 rfl ?_
                                  refine z_iload h dL_build_417 10 rfl ?_
                                  refine z_iconst h (v := 3) dL_build_419 (by decide) ?_
                                  refine z_iadd h dL_build_420 ?_
                                  refine z_topi (y := nI (10 * i + 3)) (by rw [show (3 : Int32) = nI 3 from rfl, nI_add]) ?_
                                  refine z_iload h dL_build_421 9 rfl ?_
                                  refine z_bipush h (v := 6) dL_build_423 (by decide) ?_
                                  refine z_ishr h dL_build_425 ?_
                                  refine z_bipush h (v := 40) dL_build_426 (by decide) ?_
                                  refine z_Si h (b := 0) (C := "") (As := [.int (xv >>> (6 &&& 31)), .int 40]) (st := [.int (nI (10 * i + 3)), .ref b9]) (fun sz => m_L_below l g (xv >>> (6 &&& 31)) 40 (by decide) (by decide) sz) (va_cwS 2 h.ts gL_build_L_below rfl rfl rfl (by decide +kernel) ⟨Nat.le_of_ble_eq_true rfl, Nat.le_of_ble_eq_true rfl⟩) rfl [] [] rfl rfl rfl rfl rfl (Nat.le_of_ble_eq_true rfl) ⟨by show _ ≤ 500; omega, by show _ ≤ 3000; omega⟩ (fun _ => (Nat.le_of_ble_eq_true rfl)) (wN := fun u => ([(m9, .inl (g.2.1, 100, .inl g1b)), (t9, .inl (g.2.1, 10, .inl g2b)), (b9, .inl (g.2.1, 160, .inl (upd (upd (upd f3 (10 * i) (nI (1 + j0))) (10 * i + 1) (nI j1)) (10 * i + 2) (nI (10 + 10 * j2))))), (a 3, .inl (g.2.1, 10, .inl ft2)), (a 6, .inl (g.2.2.1, 12, .inr (.inl (fun _ => 0)))), (a 2, .inl (g.2.1, 100, .inl fm)), (a 1, .inr (2, [.ref (a 2), .ref (a 3), .int (nI P)])), (a 5, .inl (g.2.2.2.1, 400, .inl (fun _ => 0))), (a 8, .inl (g.2.1, 16, .inl (fun _ => 0))), (a 7, .inl (g.2.2.1, 3, .inr (.inl (fun _ => 0)))), (a 0, .inr (4, [.ref (a 1), .ref (a 4), .ref (a 5), .ref (a 6), .ref (a 7), .ref (a 8), .int (nI 0), .int (nI 0)])), (a 4, .inr (0, [.int mz, .ref ez, .int (nI i)]))] ++ bp g i ez cz az Bz)) (fun _ => List.append_nil _) dL_build_428 (fun r_428 u_428 h_428 => ?_)
                                  obtain ⟨j3, hj3, rfl⟩ := h_428
                                  refine z_iast h (j := 10 * i + 3) 2 rfl (vp_in_nI (by omega) (by omega)) (by rw [nI_clamp (by omega)]) dL_build_431 (wW' := ([(m9, .inl (g.2.1, 100, .inl g1b)), (t9, .inl (g.2.1, 10, .inl g2b)), (b9, .inl (g.2.1, 160, .inl (upd (upd (upd (upd f3 (10 * i) (nI (1 + j0))) (10 * i + 1) (nI j1)) (10 * i + 2) (nI (10 + 10 * j2))) (10 * i + 3) (nI j3)))), (a 3, .inl (g.2.1, 10, .inl ft2)), (a 6, .inl (g.2.2.1, 12, .inr (.inl (fun _ => 0)))), (a 2, .inl (g.2.1, 100, .inl fm)), (a 1, .inr (2, [.ref (a 2), .ref (a 3), .int (nI P)])), (a 5, .inl (g.2.2.2.1, 400, .inl (fun _ => 0))), (a 8, .inl (g.2.1, 16, .inl (fun _ => 0))), (a 7, .inl (g.2.2.1, 3, .inr (.inl (fun _ => 0)))), (a 0, .inr (4, [.ref (a 1), .ref (a 4), .ref (a 5), .ref (a 6), .ref (a 7), .ref (a 8), .int (nI 0), .int (nI 0)])), (a 4, .inr (0, [.int mz, .ref ez, .int (nI i)]))] ++ bp g i ez cz az Bz)) rfl ?_
                                  refine z_aload h dL_build_432 5 rfl ?_
                                  refine z_iload h dL_build_434 10 rfl ?_
                                  refine z_iconst h (v := 5) dL_build_436 (by decide) ?_
                                  refine z_iadd h dL_build_437 ?_
                                  refine z_topi (y := nI (10 * i + 5)) (by rw [show (5 : Int32) = nI 5 from rfl, nI_add]) ?_
                                  refine z_aload h dL_build_438 5 rfl ?_
                                  refine z_iload h dL_build_440 10 rfl ?_
                                  refine z_iconst h (v := 2) dL_build_442 (by decide) ?_
                                  refine z_iadd h dL_build_443 ?_
                                  refine z_topi (y := nI (10 * i + 2)) (by rw [show (2 : Int32) = nI 2 from rfl, nI_add]) ?_
                                  refine z_iald h 2 rfl (vp_in_nI (by omega) (by omega)) dL_build_444 (v := (upd (upd (upd (upd f3 (10 * i) (nI (1 + j0))) (10 * i + 1) (nI j1)) (10 * i + 2) (nI (10 + 10 * j2))) (10 * i + 3) (nI j3)) (10 * i + 2)) (by rw [nI_clamp (by omega)]) ?_
                                  refine z_topi (y := nI (10 + 10 * j2)) rd_2 ?_
                                  refine z_iconst h (v := 2) dL_build_445 (by decide) ?_
                                  refine z_idiv h dL_build_446 (by decide) ?_
                                  refine z_iast h (j := 10 * i + 5) 2 rfl (vp_in_nI (by omega) (by omega)) (by rw [nI_clamp (by omega)]) dL_build_447 (wW' := ([(m9, .inl (g.2.1, 100, .inl g1b)), (t9, .inl (g.2.1, 10, .inl g2b)), (b9, .inl (g.2.1, 160, .inl (upd (upd (upd (upd (upd f3 (10 * i) (nI (1 + j0))) (10 * i + 1) (nI j1)) (10 * i + 2) (nI (10 + 10 * j2))) (10 * i + 3) (nI j3)) (10 * i + 5) ((nI (10 + 10 * j2)) / 2)))), (a 3, .inl (g.2.1, 10, .inl ft2)), (a 6, .inl (g.2.2.1, 12, .inr (.inl (fun _ => 0)))), (a 2, .inl (g.2.1, 100, .inl fm)), (a 1, .inr (2, [.ref (a 2), .ref (a 3), .int (nI P)])), (a 5, .inl (g.2.2.2.1, 400, .inl (fun _ => 0))), (a 8, .inl (g.2.1, 16, .inl (fun _ => 0))), (a 7, .inl (g.2.2.1, 3, .inr (.inl (fun _ => 0)))), (a 0, .inr (4, [.ref (a 1), .ref (a 4), .ref (a 5), .ref (a 6), .ref (a 7), .ref (a 8), .int (nI 0), .int (nI 0)])), (a 4, .inr (0, [.int mz, .ref ez, .int (nI i)]))] ++ bp g i ez cz az Bz)) rfl ?_
                                  refine z_aload_n h dL_build_448 rfl 0 rfl ?_
                                  refine z_aload h dL_build_449 5 rfl ?_
                                  refine z_iload h dL_build_451 10 rfl ?_
                                  refine z_iald h 2 rfl (vp_in_nI (by omega) (by omega)) dL_build_453 (v := (upd (upd (upd (upd (upd f3 (10 * i) (nI (1 + j0))) (10 * i + 1) (nI j1)) (10 * i + 2) (nI (10 + 10 * j2))) (10 * i + 3) (nI j3)) (10 * i + 5) ((nI (10 + 10 * j2)) / 2)) (10 * i)) (by rw [nI_clamp (by omega)]) ?_
                                  refine z_topi (y := nI (1 + j0)) rd5_0 ?_
                                  refine z_aload h dL_build_454 5 rfl ?_
                                  refine z_iload h dL_build_456 10 rfl ?_
                                  refine z_iconst h (v := 1) dL_build_458 (by decide) ?_
                                  refine z_iadd h dL_build_459 ?_
                                  refine z_topi (y := nI (10 * i + 1)) (by rw [show (1 : Int32) = nI 1 from rfl, nI_add]) ?_
                                  refine z_iald h 2 rfl (vp_in_nI (by omega) (by omega)) dL_build_460 (v := (upd (upd (upd (upd (upd f3 (10 * i) (nI (1 + j0))) (10 * i + 1) (nI j1)) (10 * i + 2) (nI (10 + 10 * j2))) (10 * i + 3) (nI j3)) (10 * i + 5) ((nI (10 + 10 * j2)) / 2)) (10 * i + 1)) (by rw [nI_clamp (by omega)]) ?_
                                  refine z_topi (y := nI j1) rd5_1 ?_
                                  refine z_aload h dL_build_461 5 rfl ?_
                                  refine z_iload h dL_build_463 10 rfl ?_
                                  refine z_iconst h (v := 2) dL_build_465 (by decide) ?_
                                  refine z_iadd h dL_build_466 ?_
                                  refine z_topi (y := nI (10 * i + 2)) (by rw [show (2 : Int32) = nI 2 from rfl, nI_add]) ?_
                                  refine z_iald h 2 rfl (vp_in_nI (by omega) (by omega)) dL_build_467 (v := (upd (upd (upd (upd (upd f3 (10 * i) (nI (1 + j0))) (10 * i + 1) (nI j1)) (10 * i + 2) (nI (10 + 10 * j2))) (10 * i + 3) (nI j3)) (10 * i + 5) ((nI (10 + 10 * j2)) / 2)) (10 * i + 2)) (by rw [nI_clamp (by omega)]) ?_
                                  refine z_topi (y := nI (10 + 10 * j2)) rd5_2 ?_
                                  refine z_aload h dL_build_468 5 rfl ?_
                                  refine z_iload h dL_build_470 10 rfl ?_
                                  refine z_iconst h (v := 3) dL_build_472 (by decide) ?_
                                  refine z_iadd h dL_build_473 ?_
                                  refine z_topi (y := nI (10 * i + 3)) (by rw [show (3 : Int32) = nI 3 from rfl, nI_add]) ?_
                                  refine z_iald h 2 rfl (vp_in_nI (by omega) (by omega)) dL_build_474 (v := (upd (upd (upd (upd (upd f3 (10 * i) (nI (1 + j0))) (10 * i + 1) (nI j1)) (10 * i + 2) (nI (10 + 10 * j2))) (10 * i + 3) (nI j3)) (10 * i + 5) ((nI (10 + 10 * j2)) / 2)) (10 * i + 3)) (by rw [nI_clamp (by omega)]) ?_
                                  refine z_topi (y := nI j3) rd5_3 ?_
                                  refine x_Yi h (As := [.int (nI (1 + j0)), .int (nI j1), .int (nI (10 + 10 * j2)), .int (nI j3)]) (st := []) (Y := [(m9, .inl (g.2.1, 100, .inl g1b)), (t9, .inl (g.2.1, 10, .inl g2b)), (b9, .inl (g.2.1, 160, .inl (upd (upd (upd (upd (upd f3 (10 * i) (nI (1 + j0))) (10 * i + 1) (nI j1)) (10 * i + 2) (nI (10 + 10 * j2))) (10 * i + 3) (nI j3)) (10 * i + 5) ((nI (10 + 10 * j2)) / 2)))), (a 3, .inl (g.2.1, 10, .inl ft2)), (a 6, .inl (g.2.2.1, 12, .inr (.inl (fun _ => 0)))), (a 2, .inl (g.2.1, 100, .inl fm))]) hT (fun q hq => hq) (fun sz => m_X3_addBin l hlf g a P (fun _ => 0) (fun _ => 0) (fun _ => 0) 0 0 mz ez i cz az Bz (nI (1 + j0)) (nI j1) (nI (10 + 10 * j2)) (nI j3) (by omega) (by omega) hcc hcap hz sz) (cwV 4 h.ts gL_build_X3_addBin rfl rfl rfl (by decide +kernel) ⟨Nat.le_of_ble_eq_true rfl, Nat.le_of_ble_eq_true rfl⟩) rfl rfl 10 rfl rfl rfl rfl (Nat.le_of_ble_eq_true rfl) ⟨by show _ ≤ 500; omega, by show _ ≤ 3000; omega⟩ (wN := fun u => ([(m9, .inl (g.2.1, 100, .inl g1b)), (t9, .inl (g.2.1, 10, .inl g2b)), (b9, .inl (g.2.1, 160, .inl (upd (upd (upd (upd (upd f3 (10 * i) (nI (1 + j0))) (10 * i + 1) (nI j1)) (10 * i + 2) (nI (10 + 10 * j2))) (10 * i + 3) (nI j3)) (10 * i + 5) ((nI (10 + 10 * j2)) / 2)))), (a 3, .inl (g.2.1, 10, .inl ft2)), (a 6, .inl (g.2.2.1, 12, .inr (.inl (fun _ => 0)))), (a 2, .inl (g.2.1, 100, .inl fm)), (a 1, .inr (2, [.ref (a 2), .ref (a 3), .int (nI P)])), (a 5, .inl (g.2.2.2.1, 400, .inl (fun _ => 0))), (a 8, .inl (g.2.1, 16, .inl (fun _ => 0))), (a 7, .inl (g.2.2.1, 3, .inr (.inl (fun _ => 0)))), (a 0, .inr (4, [.ref (a 1), .ref (a 4), .ref (a 5), .ref (a 6), .ref (a 7), .ref (a 8), .int (nI 0), .int (nI 0)])), (a 4, .inr (0, [.int (mz + 1), .ref u.2.1, .int (nI (i + 1))]))] ++ bp g (i + 1) u.2.1 u.2.2 (ins az i u.1) (ins Bz i (nwB (nI (1 + j0)) (nI j1) (nI (10 + 10 * j2)) (nI j3) (nI 0))))) (fun _ => rfl) dL_build_475 (fun E hE9 => absurd hE9 (pe3_no (k3_0 (and_t (okI_nI (by omega) (by omega)) (and_t (decide_eq_true (fun q => by have := nI_z q (by omega); omega)) (okI_nI (n := 3) hj1 (by omega)))) (and_t (okR_nI (by omega) (by omega) (by omega)) (okR_nI (by omega) (by omega) (by omega))) (decide_eq_true (by omega))))) (fun r_475 u_475 h_475 => ?_)
                                  obtain ⟨bn_475, ed2_475, cap2_475⟩ := u_475
                                  refine z_ws (wW' := ([(m9, .inl (g.2.1, 100, .inl g1b)), (t9, .inl (g.2.1, 10, .inl g2b)), (b9, .inl (g.2.1, 160, .inl (upd (upd (upd (upd (upd f3 (10 * i) (nI (1 + j0))) (10 * i + 1) (nI j1)) (10 * i + 2) (nI (10 + 10 * j2))) (10 * i + 3) (nI j3)) (10 * i + 5) ((nI (10 + 10 * j2)) / 2)))), (a 3, .inl (g.2.1, 10, .inl ft2)), (a 6, .inl (g.2.2.1, 12, .inr (.inl (fun _ => 0)))), (a 2, .inl (g.2.1, 100, .inl fm)), (a 1, .inr (2, [.ref (a 2), .ref (a 3), .int (nI P)])), (a 5, .inl (g.2.2.2.1, 400, .inl (fun _ => 0))), (a 8, .inl (g.2.1, 16, .inl (fun _ => 0))), (a 7, .inl (g.2.2.1, 3, .inr (.inl (fun _ => 0)))), (a 0, .inr (4, [.ref (a 1), .ref (a 4), .ref (a 5), .ref (a 6), .ref (a 7), .ref (a 8), .int (nI 0), .int (nI 0)])), (a 4, .inr (0, [.int (mz + 1), .ref ed2_475, .int (nI (i + 1))]))] ++ bp g (i + 1) ed2_475 cap2_475 (ins az i bn_475) (ins Bz i (nwB (nI (1 + j0)) (nI j1) (nI (10 + 10 * j2)) (nI j3) (nI 0))))) rfl rfl ?_
                                  refine z_iload h dL_build_478 8 rfl ?_
                                  refine z_icmp_eq h (tgt := 485) dL_build_480 (by decide) (fun c_480 => ?_) (fun c_480 => absurd h_475.2.1 c_480)
                                  refine z_iload h dL_build_485 9 rfl ?_
                                  refine z_bipush h (v := 8) dL_build_487 (by decide) ?_
                                  refine z_ishr h dL_build_489 ?_
                                  refine z_bipush h (v := 6) dL_build_490 (by decide) ?_
                                  refine z_Si h (b := 0) (C := "") (As := [.int (xv >>> (8 &&& 31)), .int 6]) (st := []) (fun sz => m_L_below l g (xv >>> (8 &&& 31)) 6 (by decide) (by decide) sz) (va_cwS 2 h.ts gL_build_L_below rfl rfl rfl (by decide +kernel) ⟨Nat.le_of_ble_eq_true rfl, Nat.le_of_ble_eq_true rfl⟩) rfl [] [] rfl rfl rfl rfl rfl (Nat.le_of_ble_eq_true rfl) ⟨by show _ ≤ 500; omega, by show _ ≤ 3000; omega⟩ (fun _ => (Nat.le_of_ble_eq_true rfl)) (wN := fun u => ([(m9, .inl (g.2.1, 100, .inl g1b)), (t9, .inl (g.2.1, 10, .inl g2b)), (b9, .inl (g.2.1, 160, .inl (upd (upd (upd (upd (upd f3 (10 * i) (nI (1 + j0))) (10 * i + 1) (nI j1)) (10 * i + 2) (nI (10 + 10 * j2))) (10 * i + 3) (nI j3)) (10 * i + 5) ((nI (10 + 10 * j2)) / 2)))), (a 3, .inl (g.2.1, 10, .inl ft2)), (a 6, .inl (g.2.2.1, 12, .inr (.inl (fun _ => 0)))), (a 2, .inl (g.2.1, 100, .inl fm)), (a 1, .inr (2, [.ref (a 2), .ref (a 3), .int (nI P)])), (a 5, .inl (g.2.2.2.1, 400, .inl (fun _ => 0))), (a 8, .inl (g.2.1, 16, .inl (fun _ => 0))), (a 7, .inl (g.2.2.1, 3, .inr (.inl (fun _ => 0)))), (a 0, .inr (4, [.ref (a 1), .ref (a 4), .ref (a 5), .ref (a 6), .ref (a 7), .ref (a 8), .int (nI 0), .int (nI 0)])), (a 4, .inr (0, [.int (mz + 1), .ref ed2_475, .int (nI (i + 1))]))] ++ bp g (i + 1) ed2_475 cap2_475 (ins az i bn_475) (ins Bz i (nwB (nI (1 + j0)) (nI j1) (nI (10 + 10 * j2)) (nI j3) (nI 0))))) (fun _ => List.append_nil _) dL_build_492 (fun r_492 u_492 h_492 => ?_)
                                  refine z_if_le h (tgt := 501) dL_build_495 (by decide) (fun c_495 => ?_) (fun c_495 => ?_)
                                  · refine z_aload_n h dL_build_501 rfl 0 rfl ?_
                                    refine z_iload h dL_build_502 8 rfl ?_
                                    refine x_Yi h (As := [.int (nI i)]) (st := []) (Y := [(m9, .inl (g.2.1, 100, .inl g1b)), (t9, .inl (g.2.1, 10, .inl g2b)), (b9, .inl (g.2.1, 160, .inl (upd (upd (upd (upd (upd f3 (10 * i) (nI (1 + j0))) (10 * i + 1) (nI j1)) (10 * i + 2) (nI (10 + 10 * j2))) (10 * i + 3) (nI j3)) (10 * i + 5) ((nI (10 + 10 * j2)) / 2)))), (a 3, .inl (g.2.1, 10, .inl ft2)), (a 6, .inl (g.2.2.1, 12, .inr (.inl (fun _ => 0)))), (a 2, .inl (g.2.1, 100, .inl fm)), (a 1, .inr (2, [.ref (a 2), .ref (a 3), .int (nI P)])), (a 5, .inl (g.2.2.2.1, 400, .inl (fun _ => 0))), (a 8, .inl (g.2.1, 16, .inl (fun _ => 0))), (a 7, .inl (g.2.2.1, 3, .inr (.inl (fun _ => 0))))]) hT (fun q hq => hq) (fun sz => m_X3_soil l hlf g a 0 0 (mz + 1) ed2_475 (i + 1) cap2_475 (ins az i bn_475) (ins Bz i (nwB (nI (1 + j0)) (nI j1) (nI (10 + 10 * j2)) (nI j3) (nI 0))) (nI i) (by omega) h_475.2.2.1 h_475.2.2.2.1 sz) (cwV 1 h.ts gL_build_X3_soil rfl rfl rfl (by decide +kernel) ⟨Nat.le_of_ble_eq_true rfl, Nat.le_of_ble_eq_true rfl⟩) rfl rfl 10 rfl rfl rfl rfl (Nat.le_of_ble_eq_true rfl) ⟨by show _ ≤ 500; omega, by show _ ≤ 3000; omega⟩ (wN := fun u => ([(m9, .inl (g.2.1, 100, .inl g1b)), (t9, .inl (g.2.1, 10, .inl g2b)), (b9, .inl (g.2.1, 160, .inl (upd (upd (upd (upd (upd f3 (10 * i) (nI (1 + j0))) (10 * i + 1) (nI j1)) (10 * i + 2) (nI (10 + 10 * j2))) (10 * i + 3) (nI j3)) (10 * i + 5) ((nI (10 + 10 * j2)) / 2)))), (a 3, .inl (g.2.1, 10, .inl ft2)), (a 6, .inl (g.2.2.1, 12, .inr (.inl (fun _ => 0)))), (a 2, .inl (g.2.1, 100, .inl fm)), (a 1, .inr (2, [.ref (a 2), .ref (a 3), .int (nI P)])), (a 5, .inl (g.2.2.2.1, 400, .inl (fun _ => 0))), (a 8, .inl (g.2.1, 16, .inl (fun _ => 0))), (a 7, .inl (g.2.2.1, 3, .inr (.inl (fun _ => 0)))), (a 0, .inr (4, [.ref (a 1), .ref (a 4), .ref (a 5), .ref (a 6), .ref (a 7), .ref (a 8), .int (nI 0), .int (nI 0)])), (a 4, .inr (0, [.int (mz + 1), .ref ed2_475, .int (nI (i + 1))]))] ++ bp g (i + 1) ed2_475 cap2_475 (ins az i bn_475) (updB (ins Bz i (nwB (nI (1 + j0)) (nI j1) (nI (10 + 10 * j2)) (nI j3) (nI 0))) (nI i).toNatClampNeg (upd ((ins Bz i (nwB (nI (1 + j0)) (nI j1) (nI (10 + 10 * j2)) (nI j3) (nI 0))) (nI i).toNatClampNeg) 9 1)))) (fun _ => rfl) dL_build_504 (fun E hE9 => absurd hE9 (pe3_no (if_pos (okI_nI (by omega) (by omega))))) (fun r_504 u_504 h_504 => ?_)
                                    have hr1 : r_504 = 1 := by rw [h_504.2, nI_clamp (by omega), ins_at, if_pos rfl]; rfl
                                    refine z_ws (wW' := ([(m9, .inl (g.2.1, 100, .inl g1b)), (t9, .inl (g.2.1, 10, .inl g2b)), (b9, .inl (g.2.1, 160, .inl (upd (upd (upd (upd (upd f3 (10 * i) (nI (1 + j0))) (10 * i + 1) (nI j1)) (10 * i + 2) (nI (10 + 10 * j2))) (10 * i + 3) (nI j3)) (10 * i + 5) ((nI (10 + 10 * j2)) / 2)))), (a 3, .inl (g.2.1, 10, .inl ft2)), (a 6, .inl (g.2.2.1, 12, .inr (.inl (fun _ => 0)))), (a 2, .inl (g.2.1, 100, .inl fm)), (a 1, .inr (2, [.ref (a 2), .ref (a 3), .int (nI P)])), (a 5, .inl (g.2.2.2.1, 400, .inl (fun _ => 0))), (a 8, .inl (g.2.1, 16, .inl (fun _ => 0))), (a 7, .inl (g.2.2.1, 3, .inr (.inl (fun _ => 0)))), (a 0, .inr (4, [.ref (a 1), .ref (a 4), .ref (a 5), .ref (a 6), .ref (a 7), .ref (a 8), .int (nI 0), .int (nI 0)])), (a 4, .inr (0, [.int (mz + 1), .ref ed2_475, .int (nI (i + 1))]))] ++ bp g (i + 1) ed2_475 cap2_475 (ins az i bn_475) (updB (ins Bz i (nwB (nI (1 + j0)) (nI j1) (nI (10 + 10 * j2)) (nI j3) (nI 0))) i (upd ((ins Bz i (nwB (nI (1 + j0)) (nI j1) (nI (10 + 10 * j2)) (nI j3) (nI 0))) i) 9 1)))) (by rw [nI_clamp (show i < 2 ^ 31 by omega)]) rfl ?_
                                    refine z_if_ne h (tgt := 512) dL_build_507 (by decide) (fun c_507 => ?_) (fun c_507 => absurd c_507 (by rw [hr1]; decide))
                                    refine z_aload h dL_build_512 5 rfl ?_
                                    refine z_iload h dL_build_514 10 rfl ?_
                                    refine z_bipush h (v := 9) dL_build_516 (by decide) ?_
                                    refine z_iadd h dL_build_518 ?_
                                    refine z_topi (y := nI (10 * i + 9)) (by rw [show (9 : Int32) = nI 9 from rfl, nI_add]) ?_
                                    refine z_iconst h (v := 1) dL_build_519 (by decide) ?_
                                    refine z_iast h (j := 10 * i + 9) 2 rfl (vp_in_nI (by omega) (by omega)) (by rw [nI_clamp (by omega)]) dL_build_520 (wW' := ([(m9, .inl (g.2.1, 100, .inl g1b)), (t9, .inl (g.2.1, 10, .inl g2b)), (b9, .inl (g.2.1, 160, .inl (upd (upd (upd (upd (upd (upd f3 (10 * i) (nI (1 + j0))) (10 * i + 1) (nI j1)) (10 * i + 2) (nI (10 + 10 * j2))) (10 * i + 3) (nI j3)) (10 * i + 5) ((nI (10 + 10 * j2)) / 2)) (10 * i + 9) 1))), (a 3, .inl (g.2.1, 10, .inl ft2)), (a 6, .inl (g.2.2.1, 12, .inr (.inl (fun _ => 0)))), (a 2, .inl (g.2.1, 100, .inl fm)), (a 1, .inr (2, [.ref (a 2), .ref (a 3), .int (nI P)])), (a 5, .inl (g.2.2.2.1, 400, .inl (fun _ => 0))), (a 8, .inl (g.2.1, 16, .inl (fun _ => 0))), (a 7, .inl (g.2.2.1, 3, .inr (.inl (fun _ => 0)))), (a 0, .inr (4, [.ref (a 1), .ref (a 4), .ref (a 5), .ref (a 6), .ref (a 7), .ref (a 8), .int (nI 0), .int (nI 0)])), (a 4, .inr (0, [.int (mz + 1), .ref ed2_475, .int (nI (i + 1))]))] ++ bp g (i + 1) ed2_475 cap2_475 (ins az i bn_475) (updB (ins Bz i (nwB (nI (1 + j0)) (nI j1) (nI (10 + 10 * j2)) (nI j3) (nI 0))) i (upd ((ins Bz i (nwB (nI (1 + j0)) (nI j1) (nI (10 + 10 * j2)) (nI j3) (nI 0))) i) 9 1)))) rfl ?_
                                    refine z_iinc h (v := nI (i + 1)) dL_build_521 (by decide) 8 rfl (by rw [show Int32.ofInt 1 = nI 1 from rfl, nI_add]) (lv' := [(0, .ref (a 0)), (1, .ref b), (2, .int 0), (3, .ref m9), (4, .ref t9), (5, .ref b9), (6, .int (nI P)), (7, .int (nI M)), (8, .int (nI (i + 1))), (9, .int xv), (10, .int (nI (10 * i)))]) [1, 2, 3, 4, 5, 6, 7, 8, 0, 9, 10] rfl ?_
                                    refine z_goto h (tgt := 310) dL_build_524 (by decide) ?_
                                    refine z_lv [0, 1, 2, 3, 4, 5, 6, 7, 8] (lv' := [(0, .ref (a 0)), (1, .ref b), (2, .int 0), (3, .ref m9), (4, .ref t9), (5, .ref b9), (6, .int (nI P)), (7, .int (nI M)), (8, .int (nI (i + 1)))]) rfl ?_
                                    refine z_widen (kc' := (220 + 21 * (i + 1))) (ks' := (1240 + 156 * (i + 1))) (by omega) (by omega) ?_
                                    exact ihL310 (i + 1) (mz + 1) ed2_475 cap2_475 (ins az i bn_475) (updB (ins Bz i (nwB (nI (1 + j0)) (nI j1) (nI (10 + 10 * j2)) (nI j3) (nI 0))) i (upd ((ins Bz i (nwB (nI (1 + j0)) (nI j1) (nI (10 + 10 * j2)) (nI j3) (nI 0))) i) 9 1)) (upd (upd (upd (upd (upd (upd f3 (10 * i) (nI (1 + j0))) (10 * i + 1) (nI j1)) (10 * i + 2) (nI (10 + 10 * j2))) (10 * i + 3) (nI j3)) (10 * i + 5) ((nI (10 + 10 * j2)) / 2)) (10 * i + 9) 1) (by omega) (by omega) (by first | exact bk_new hbk (by omega) hj1 hj2 hj3 | exact bk_soil (bk_new hbk (by omega) hj1 hj2 hj3) (Nat.lt_succ_self _)) h_475.2.2.1 h_475.2.2.2.1 (fun q => absurd q (Nat.succ_ne_zero _)) (by first | exact (sz_new (n := i) hsz (by rfl)) | exact sz_soil (sz_new (n := i) hsz (by rfl)))
                                  · refine z_goto h (tgt := 521) dL_build_498 (by decide) ?_
                                    refine z_iinc h (v := nI (i + 1)) dL_build_521 (by decide) 8 rfl (by rw [show Int32.ofInt 1 = nI 1 from rfl, nI_add]) (lv' := [(0, .ref (a 0)), (1, .ref b), (2, .int 0), (3, .ref m9), (4, .ref t9), (5, .ref b9), (6, .int (nI P)), (7, .int (nI M)), (8, .int (nI (i + 1))), (9, .int xv), (10, .int (nI (10 * i)))]) [1, 2, 3, 4, 5, 6, 7, 8, 0, 9, 10] rfl ?_
                                    refine z_goto h (tgt := 310) dL_build_524 (by decide) ?_
                                    refine z_lv [0, 1, 2, 3, 4, 5, 6, 7, 8] (lv' := [(0, .ref (a 0)), (1, .ref b), (2, .int 0), (3, .ref m9), (4, .ref t9), (5, .ref b9), (6, .int (nI P)), (7, .int (nI M)), (8, .int (nI (i + 1)))]) rfl ?_
                                    refine z_widen (kc' := (220 + 21 * (i + 1))) (ks' := (1240 + 156 * (i + 1))) (by omega) (by omega) ?_
                                    exact ihL310 (i + 1) (mz + 1) ed2_475 cap2_475 (ins az i bn_475) (ins Bz i (nwB (nI (1 + j0)) (nI j1) (nI (10 + 10 * j2)) (nI j3) (nI 0))) (upd (upd (upd (upd (upd f3 (10 * i) (nI (1 + j0))) (10 * i + 1) (nI j1)) (10 * i + 2) (nI (10 + 10 * j2))) (10 * i + 3) (nI j3)) (10 * i + 5) ((nI (10 + 10 * j2)) / 2)) (by omega) (by omega) (by first | exact bk_new hbk (by omega) hj1 hj2 hj3 | exact bk_soil (bk_new hbk (by omega) hj1 hj2 hj3) (Nat.lt_succ_self _)) h_475.2.2.1 h_475.2.2.2.1 (fun q => absurd q (Nat.succ_ne_zero _)) (by first | exact (sz_new (n := i) hsz (by rfl)) | exact sz_soil (sz_new (n := i) hsz (by rfl)))
                          exact L310 (M + 1 - 0) 0 0 g.2.2.2.2.2.1 0 (fun _ => 0) (fun _ _ => 0) (fun _ => 0) (by omega) (by omega) bk_0 (Nat.le_refl _) (by decide) (fun _ => rfl) (fun j hj => absurd hj (Nat.not_lt_zero j))
                        · have hx : x < P := ge_f (a := x) (b := P) c_218 (by omega) (by omega)
                          refine z_iconst h (v := 0) dL_build_221 (by decide) ?_
                          refine z_istore h dL_build_222 (by decide) (lv' := [(0, .ref (a 0)), (1, .ref b), (2, .int 0), (3, .ref m9), (4, .ref t9), (5, .ref b9), (6, .int (nI P)), (7, .int (nI x)), (8, .int 0)]) [1, 2, 3, 4, 5, 6, 7, 8, 0] rfl ?_
                          refine z_widen (kc' := (160 + 9 * x + 3 * 0)) (ks' := (910 + 54 * x + 18 * 0)) (by omega) (by omega) ?_
                          have L224 : ∀ (L224n y : Nat) (ft3 : Nat → Int32) (g2c : Nat → Int32), y ≤ 3 → 3 < L224n + y → TPB ft3 x y → Z p l e rmL_build s m args below meth c Q A g 11 224 [(0, .ref (a 0)), (1, .ref b), (2, .int 0), (3, .ref m9), (4, .ref t9), (5, .ref b9), (6, .int (nI P)), (7, .int (nI x)), (8, .int (nI y))] [] ([(m9, .inl (g.2.1, 100, .inl g1b)), (t9, .inl (g.2.1, 10, .inl g2c)), (b9, .inl (g.2.1, 160, .inl (fun _ => 0))), (a 3, .inl (g.2.1, 10, .inl ft3)), (a 6, .inl (g.2.2.1, 12, .inr (.inl (fun _ => 0)))), (a 2, .inl (g.2.1, 100, .inl fm)), (a 1, .inr (2, [.ref (a 2), .ref (a 3), .int (nI P)])), (a 5, .inl (g.2.2.2.1, 400, .inl (fun _ => 0))), (a 8, .inl (g.2.1, 16, .inl (fun _ => 0))), (a 7, .inl (g.2.2.1, 3, .inr (.inl (fun _ => 0)))), (a 0, .inr (4, [.ref (a 1), .ref (a 4), .ref (a 5), .ref (a 6), .ref (a 7), .ref (a 8), .int (nI 0), .int (nI 0)])), (a 4, .inr (0, [.int 0, .ref g.2.2.2.2.2.1, .int (nI 0)]))] ++ bp g 0 g.2.2.2.2.2.1 0 (fun _ => 0) (fun _ _ => 0)) [] (160 + 9 * x + 3 * y) (910 + 54 * x + 18 * y) := by
                            intro L224n
                            induction L224n with
                            | zero => intro y ft3 g2c hy hL224 hb3; exact absurd hL224 (by omega)
                            | succ L224n ihL224 =>
                              intro y ft3 g2c hy hL224 hb3
                              refine z_iload h dL_build_224 8 rfl ?_
                              refine z_iconst h (v := 3) dL_build_226 (by decide) ?_
                              refine z_icmp_ge h (tgt := 287) dL_build_227 (by decide) (fun c_227 => ?_) (fun c_227 => ?_)
                              · have he : y = 3 := by have := ge_t (a := y) (b := 3) c_227 (by omega) (by omega); omega
                                subst he
                                refine z_iinc h (v := nI (x + 1)) dL_build_287 (by decide) 7 rfl (by rw [show Int32.ofInt 1 = nI 1 from rfl, nI_add]) (lv' := [(0, .ref (a 0)), (1, .ref b), (2, .int 0), (3, .ref m9), (4, .ref t9), (5, .ref b9), (6, .int (nI P)), (7, .int (nI (x + 1))), (8, .int (nI 3))]) [1, 2, 3, 4, 5, 6, 7, 0, 8] rfl ?_
                                refine z_goto h (tgt := 214) dL_build_290 (by decide) ?_
                                refine z_lv [0, 1, 2, 3, 4, 5, 6, 7] (lv' := [(0, .ref (a 0)), (1, .ref b), (2, .int 0), (3, .ref m9), (4, .ref t9), (5, .ref b9), (6, .int (nI P)), (7, .int (nI (x + 1)))]) rfl ?_
                                refine z_widen (kc' := (160 + 9 * (x + 1))) (ks' := (910 + 54 * (x + 1))) (by omega) (by omega) ?_
                                exact ihL214 (x + 1) ft3 g2c (by omega) (by omega) hb3.row
                              · have hy : y < 3 := ge_f (a := y) (b := 3) c_227 (by omega) (by omega)
                                refine z_aload_n h dL_build_230 rfl 1 rfl ?_
                                refine z_iload_n h dL_build_231 rfl 2 rfl ?_
                                refine z_iconst h (v := 5) dL_build_232 (by decide) ?_
                                refine z_iadd h dL_build_233 ?_
                                refine z_topi (y := nI 5) rfl ?_
                                refine s_Si (R := rmL_build) (kc := (160 + 9 * x + 3 * y)) (ks := (910 + 54 * x + 18 * y)) h (As := [.ref b, .int (nI 5)]) (st := []) (Y := ([(m9, .inl (g.2.1, 100, .inl g1b)), (t9, .inl (g.2.1, 10, .inl g2c)), (b9, .inl (g.2.1, 160, .inl (fun _ => 0))), (a 3, .inl (g.2.1, 10, .inl ft3)), (a 6, .inl (g.2.2.1, 12, .inr (.inl (fun _ => 0)))), (a 2, .inl (g.2.1, 100, .inl fm)), (a 1, .inr (2, [.ref (a 2), .ref (a 3), .int (nI P)])), (a 5, .inl (g.2.2.2.1, 400, .inl (fun _ => 0))), (a 8, .inl (g.2.1, 16, .inl (fun _ => 0))), (a 7, .inl (g.2.2.1, 3, .inr (.inl (fun _ => 0)))), (a 0, .inr (4, [.ref (a 1), .ref (a 4), .ref (a 5), .ref (a 6), .ref (a 7), .ref (a 8), .int (nI 0), .int (nI 0)])), (a 4, .inr (0, [.int 0, .ref g.2.2.2.2.2.1, .int (nI 0)]))] ++ bp g 0 g.2.2.2.2.2.1 0 (fun _ => 0) (fun _ _ => 0))) hT hSx (fun q hq => hq) (fun sz => m_L_cell l g b L xs 5 (by omega) hL sz) (va_cwS 2 h.ts gL_build_L_cell rfl rfl rfl (by decide +kernel) ⟨Nat.le_of_ble_eq_true rfl, Nat.le_of_ble_eq_true rfl⟩) rfl (List.append_nil _).symm rfl (Nat.le_of_ble_eq_true rfl) ⟨by show _ ≤ 500; omega, by show _ ≤ 3000; omega⟩ (wN := fun u => ([(m9, .inl (g.2.1, 100, .inl g1b)), (t9, .inl (g.2.1, 10, .inl g2c)), (b9, .inl (g.2.1, 160, .inl (fun _ => 0))), (a 3, .inl (g.2.1, 10, .inl ft3)), (a 6, .inl (g.2.2.1, 12, .inr (.inl (fun _ => 0)))), (a 2, .inl (g.2.1, 100, .inl fm)), (a 1, .inr (2, [.ref (a 2), .ref (a 3), .int (nI P)])), (a 5, .inl (g.2.2.2.1, 400, .inl (fun _ => 0))), (a 8, .inl (g.2.1, 16, .inl (fun _ => 0))), (a 7, .inl (g.2.2.1, 3, .inr (.inl (fun _ => 0)))), (a 0, .inr (4, [.ref (a 1), .ref (a 4), .ref (a 5), .ref (a 6), .ref (a 7), .ref (a 8), .int (nI 0), .int (nI 0)])), (a 4, .inr (0, [.int 0, .ref g.2.2.2.2.2.1, .int (nI 0)]))] ++ bp g 0 g.2.2.2.2.2.1 0 (fun _ => 0) (fun _ _ => 0))) (fun _ => List.append_nil _) dL_build_234 (fun r_234 u_234 h_234 => ?_)
                                refine z_iconst h (v := 3) dL_build_237 (by decide) ?_
                                refine z_iload h dL_build_238 7 rfl ?_
                                refine z_imul h dL_build_240 ?_
                                refine z_iload h dL_build_241 8 rfl ?_
                                refine z_iadd h dL_build_243 ?_
                                refine z_ishr h dL_build_244 ?_
                                obtain ⟨xv, exv⟩ : ∃ z, z = (r_234 >>> (((3 * (nI x)) + (nI y)) &&& 31) : Int32) := ⟨_, rfl⟩
                                refine z_topi exv.symm ?_
                                refine z_iconst h (v := 4) dL_build_245 (by decide) ?_
                                refine z_Si h (b := 0) (C := "") (As := [.int xv, .int 4]) (st := []) (fun sz => m_L_below l g xv 4 (by decide) (by decide) sz) (va_cwS 2 h.ts gL_build_L_below rfl rfl rfl (by decide +kernel) ⟨Nat.le_of_ble_eq_true rfl, Nat.le_of_ble_eq_true rfl⟩) rfl [] [] rfl rfl rfl rfl rfl (Nat.le_of_ble_eq_true rfl) ⟨by show _ ≤ 500; omega, by show _ ≤ 3000; omega⟩ (fun _ => (Nat.le_of_ble_eq_true rfl)) (wN := fun u => ([(m9, .inl (g.2.1, 100, .inl g1b)), (t9, .inl (g.2.1, 10, .inl g2c)), (b9, .inl (g.2.1, 160, .inl (fun _ => 0))), (a 3, .inl (g.2.1, 10, .inl ft3)), (a 6, .inl (g.2.2.1, 12, .inr (.inl (fun _ => 0)))), (a 2, .inl (g.2.1, 100, .inl fm)), (a 1, .inr (2, [.ref (a 2), .ref (a 3), .int (nI P)])), (a 5, .inl (g.2.2.2.1, 400, .inl (fun _ => 0))), (a 8, .inl (g.2.1, 16, .inl (fun _ => 0))), (a 7, .inl (g.2.2.1, 3, .inr (.inl (fun _ => 0)))), (a 0, .inr (4, [.ref (a 1), .ref (a 4), .ref (a 5), .ref (a 6), .ref (a 7), .ref (a 8), .int (nI 0), .int (nI 0)])), (a 4, .inr (0, [.int 0, .ref g.2.2.2.2.2.1, .int (nI 0)]))] ++ bp g 0 g.2.2.2.2.2.1 0 (fun _ => 0) (fun _ _ => 0))) (fun _ => List.append_nil _) dL_build_246 (fun r_246 u_246 h_246 => ?_)
                                refine z_if_le h (tgt := 255) dL_build_249 (by decide) (fun c_249 => ?_) (fun c_249 => ?_)
                                · refine z_aload_n h dL_build_255 rfl 0 rfl ?_
                                  refine z_iload h dL_build_256 7 rfl ?_
                                  refine z_iload h dL_build_258 8 rfl ?_
                                  refine z_iconst h (v := 1) dL_build_260 (by decide) ?_
                                  refine x_Vi h (As := [.int (nI x), .int (nI y), .int 1]) (st := []) hT (fun q hq => hq) (fun sz => m_X3_setTip l hlf g a 0 0 P ft3 (nI x) (nI y) 1 (by omega) sz) (cwV 3 h.ts gL_build_X3_setTip rfl rfl rfl (by decide +kernel) ⟨Nat.le_of_ble_eq_true rfl, Nat.le_of_ble_eq_true rfl⟩) rfl [3] [10, 6] rfl rfl rfl rfl 10 rfl rfl rfl rfl (Nat.le_of_ble_eq_true rfl) ⟨by show _ ≤ 500; omega, by show _ ≤ 3000; omega⟩ (fun _ => (Nat.le_of_ble_eq_true rfl)) (wN := fun u => ([(m9, .inl (g.2.1, 100, .inl g1b)), (t9, .inl (g.2.1, 10, .inl g2c)), (b9, .inl (g.2.1, 160, .inl (fun _ => 0))), (a 3, .inl (g.2.1, 10, .inl (upd ft3 (nI x).toNatClampNeg (putT (ft3 (nI x).toNatClampNeg) (nI y) 1)))), (a 6, .inl (g.2.2.1, 12, .inr (.inl (fun _ => 0)))), (a 2, .inl (g.2.1, 100, .inl fm)), (a 1, .inr (2, [.ref (a 2), .ref (a 3), .int (nI P)])), (a 5, .inl (g.2.2.2.1, 400, .inl (fun _ => 0))), (a 8, .inl (g.2.1, 16, .inl (fun _ => 0))), (a 7, .inl (g.2.2.1, 3, .inr (.inl (fun _ => 0)))), (a 0, .inr (4, [.ref (a 1), .ref (a 4), .ref (a 5), .ref (a 6), .ref (a 7), .ref (a 8), .int (nI 0), .int (nI 0)])), (a 4, .inr (0, [.int 0, .ref g.2.2.2.2.2.1, .int (nI 0)]))] ++ bp g 0 g.2.2.2.2.2.1 0 (fun _ => 0) (fun _ _ => 0))) (fun _ => List.append_nil _) dL_build_261 (fun E hE9 => absurd hE9 (pe3_no (kst_0 (okI_nI (by omega) (by omega)) (okI_nI (n := 3) hy (by omega)) (fun q => absurd q.2.1 (by decide))))) (fun r_261 u_261 h_261 => ?_)
                                  have hr0 : r_261 = 0 := by rw [h_261.2, nI_clamp (by omega)]; exact hb3 x y (by omega) hy (Or.inr ⟨rfl, Nat.le_refl _⟩)
                                  refine z_ws (wW' := ([(m9, .inl (g.2.1, 100, .inl g1b)), (t9, .inl (g.2.1, 10, .inl g2c)), (b9, .inl (g.2.1, 160, .inl (fun _ => 0))), (a 3, .inl (g.2.1, 10, .inl (upd ft3 x (putT (ft3 x) (nI y) 1)))), (a 6, .inl (g.2.2.1, 12, .inr (.inl (fun _ => 0)))), (a 2, .inl (g.2.1, 100, .inl fm)), (a 1, .inr (2, [.ref (a 2), .ref (a 3), .int (nI P)])), (a 5, .inl (g.2.2.2.1, 400, .inl (fun _ => 0))), (a 8, .inl (g.2.1, 16, .inl (fun _ => 0))), (a 7, .inl (g.2.2.1, 3, .inr (.inl (fun _ => 0)))), (a 0, .inr (4, [.ref (a 1), .ref (a 4), .ref (a 5), .ref (a 6), .ref (a 7), .ref (a 8), .int (nI 0), .int (nI 0)])), (a 4, .inr (0, [.int 0, .ref g.2.2.2.2.2.1, .int (nI 0)]))] ++ bp g 0 g.2.2.2.2.2.1 0 (fun _ => 0) (fun _ _ => 0))) (by rw [nI_clamp (show x < 2 ^ 31 by omega)]) rfl ?_
                                  refine z_if_eq h (tgt := 269) dL_build_264 (by decide) (fun c_264 => ?_) (fun c_264 => absurd hr0 c_264)
                                  refine z_aload h dL_build_269 4 rfl ?_
                                  refine z_iload h dL_build_271 7 rfl ?_
                                  refine z_dup2 h dL_build_273 rfl rfl ?_
                                  refine z_iald h 1 rfl (vp_in_nI (by omega) (by omega)) dL_build_274 (v := g2c x) (by rw [nI_clamp (by omega)]) ?_
                                  refine z_iconst h (v := 1) dL_build_275 (by decide) ?_
                                  refine z_iload h dL_build_276 8 rfl ?_
                                  refine z_ishl h dL_build_278 ?_
                                  refine z_ior h dL_build_279 ?_
                                  refine z_iast h (j := x) 1 rfl (vp_in_nI (by omega) (by omega)) (by rw [nI_clamp (by omega)]) dL_build_280 (wW' := ([(m9, .inl (g.2.1, 100, .inl g1b)), (t9, .inl (g.2.1, 10, .inl (upd g2c x ((g2c x) ||| (1 <<< ((nI y) &&& 31)))))), (b9, .inl (g.2.1, 160, .inl (fun _ => 0))), (a 3, .inl (g.2.1, 10, .inl (upd ft3 x (putT (ft3 x) (nI y) 1)))), (a 6, .inl (g.2.2.1, 12, .inr (.inl (fun _ => 0)))), (a 2, .inl (g.2.1, 100, .inl fm)), (a 1, .inr (2, [.ref (a 2), .ref (a 3), .int (nI P)])), (a 5, .inl (g.2.2.2.1, 400, .inl (fun _ => 0))), (a 8, .inl (g.2.1, 16, .inl (fun _ => 0))), (a 7, .inl (g.2.2.1, 3, .inr (.inl (fun _ => 0)))), (a 0, .inr (4, [.ref (a 1), .ref (a 4), .ref (a 5), .ref (a 6), .ref (a 7), .ref (a 8), .int (nI 0), .int (nI 0)])), (a 4, .inr (0, [.int 0, .ref g.2.2.2.2.2.1, .int (nI 0)]))] ++ bp g 0 g.2.2.2.2.2.1 0 (fun _ => 0) (fun _ _ => 0))) rfl ?_
                                  refine z_iinc h (v := nI (y + 1)) dL_build_281 (by decide) 8 rfl (by rw [show Int32.ofInt 1 = nI 1 from rfl, nI_add]) (lv' := [(0, .ref (a 0)), (1, .ref b), (2, .int 0), (3, .ref m9), (4, .ref t9), (5, .ref b9), (6, .int (nI P)), (7, .int (nI x)), (8, .int (nI (y + 1)))]) [1, 2, 3, 4, 5, 6, 7, 8, 0] rfl ?_
                                  refine z_goto h (tgt := 224) dL_build_284 (by decide) ?_
                                  refine z_widen (kc' := (160 + 9 * x + 3 * (y + 1))) (ks' := (910 + 54 * x + 18 * (y + 1))) (by omega) (by omega) ?_
                                  exact ihL224 (y + 1) (upd ft3 x (putT (ft3 x) (nI y) 1)) (upd g2c x ((g2c x) ||| (1 <<< ((nI y) &&& 31)))) (by omega) (by omega) (by first | exact hb3.skip | exact hb3.put hy)
                                · refine z_goto h (tgt := 281) dL_build_252 (by decide) ?_
                                  refine z_iinc h (v := nI (y + 1)) dL_build_281 (by decide) 8 rfl (by rw [show Int32.ofInt 1 = nI 1 from rfl, nI_add]) (lv' := [(0, .ref (a 0)), (1, .ref b), (2, .int 0), (3, .ref m9), (4, .ref t9), (5, .ref b9), (6, .int (nI P)), (7, .int (nI x)), (8, .int (nI (y + 1)))]) [1, 2, 3, 4, 5, 6, 7, 8, 0] rfl ?_
                                  refine z_goto h (tgt := 224) dL_build_284 (by decide) ?_
                                  refine z_widen (kc' := (160 + 9 * x + 3 * (y + 1))) (ks' := (910 + 54 * x + 18 * (y + 1))) (by omega) (by omega) ?_
                                  exact ihL224 (y + 1) ft3 g2c (by omega) (by omega) (by first | exact hb3.skip | exact hb3.put hy)
                          exact L224 (3 + 1 - 0) 0 ft2 g2b (by omega) (by omega) hb2
                    exact L214 (P + 1 - 1) 1 (upd (fun _ => 0) 0 7) (upd g2 0 7) (by omega) (by omega) tpb_0
                  · have hx : x < P := ge_f (a := x) (b := P) c_92 (by omega) (by omega)
                    refine z_iload h dL_build_95 7 rfl ?_
                    refine z_iconst h (v := 1) dL_build_97 (by decide) ?_
                    refine z_iadd h dL_build_98 ?_
                    refine z_topi (y := nI (x + 1)) (nI_1 x) ?_
                    refine z_istore h dL_build_99 (by decide) (lv' := [(0, .ref (a 0)), (1, .ref b), (2, .int 0), (3, .ref m9), (4, .ref t9), (5, .ref b9), (6, .int (nI P)), (7, .int (nI x)), (8, .int (nI (x + 1)))]) [1, 2, 3, 4, 5, 6, 7, 8, 0] rfl ?_
                    refine z_widen (kc' := (10 + 24 * x + 4 * (x + 1))) (ks' := (40 + 144 * x + 24 * (x + 1))) (by omega) (by omega) ?_
                    have L101 : ∀ (L101n y : Nat) (fm2 : Nat → Int32) (g1c : Nat → Int32), y ≤ P → P < L101n + y → FMOK fm2 → UN fm2 x y → x < y → Z p l e rmL_build s m args below meth c Q A g 11 101 [(0, .ref (a 0)), (1, .ref b), (2, .int 0), (3, .ref m9), (4, .ref t9), (5, .ref b9), (6, .int (nI P)), (7, .int (nI x)), (8, .int (nI y))] [] ([(m9, .inl (g.2.1, 100, .inl g1c)), (t9, .inl (g.2.1, 10, .inl (upd g2 0 7))), (b9, .inl (g.2.1, 160, .inl (fun _ => 0))), (a 3, .inl (g.2.1, 10, .inl (upd (fun _ => 0) 0 7))), (a 6, .inl (g.2.2.1, 12, .inr (.inl (fun _ => 0)))), (a 2, .inl (g.2.1, 100, .inl fm2)), (a 1, .inr (2, [.ref (a 2), .ref (a 3), .int (nI P)])), (a 5, .inl (g.2.2.2.1, 400, .inl (fun _ => 0))), (a 8, .inl (g.2.1, 16, .inl (fun _ => 0))), (a 7, .inl (g.2.2.1, 3, .inr (.inl (fun _ => 0)))), (a 0, .inr (4, [.ref (a 1), .ref (a 4), .ref (a 5), .ref (a 6), .ref (a 7), .ref (a 8), .int (nI 0), .int (nI 0)])), (a 4, .inr (0, [.int 0, .ref g.2.2.2.2.2.1, .int (nI 0)]))] ++ bp g 0 g.2.2.2.2.2.1 0 (fun _ => 0) (fun _ _ => 0)) [] (10 + 24 * x + 4 * y) (40 + 144 * x + 24 * y) := by
                      intro L101n
                      induction L101n with
                      | zero => intro y fm2 g1c hy hL101 hf2 hu2 hxy; exact absurd hL101 (by omega)
                      | succ L101n ihL101 =>
                        intro y fm2 g1c hy hL101 hf2 hu2 hxy
                        refine z_iload h dL_build_101 8 rfl ?_
                        refine z_iload h dL_build_103 6 rfl ?_
                        refine z_icmp_ge h (tgt := 205) dL_build_105 (by decide) (fun c_105 => ?_) (fun c_105 => ?_)
                        · have he : P = y := by have := ge_t (a := y) (b := P) c_105 (by omega) (by omega); omega
                          subst he
                          refine z_iinc h (v := nI (x + 1)) dL_build_205 (by decide) 7 rfl (by rw [show Int32.ofInt 1 = nI 1 from rfl, nI_add]) (lv' := [(0, .ref (a 0)), (1, .ref b), (2, .int 0), (3, .ref m9), (4, .ref t9), (5, .ref b9), (6, .int (nI P)), (7, .int (nI (x + 1))), (8, .int (nI P))]) [1, 2, 3, 4, 5, 6, 7, 0, 8] rfl ?_
                          refine z_goto h (tgt := 88) dL_build_208 (by decide) ?_
                          refine z_lv [0, 1, 2, 3, 4, 5, 6, 7] (lv' := [(0, .ref (a 0)), (1, .ref b), (2, .int 0), (3, .ref m9), (4, .ref t9), (5, .ref b9), (6, .int (nI P)), (7, .int (nI (x + 1)))]) rfl ?_
                          refine z_widen (kc' := (10 + 24 * (x + 1))) (ks' := (40 + 144 * (x + 1))) (by omega) (by omega) ?_
                          exact ihL88 (x + 1) fm2 g1c (by omega) (by omega) hf2 hu2.row
                        · have hy : y < P := ge_f (a := y) (b := P) c_105 (by omega) (by omega)
                          refine z_aload_n h dL_build_108 rfl 1 rfl ?_
                          refine z_iload_n h dL_build_109 rfl 2 rfl ?_
                          refine z_iconst h (v := 1) dL_build_110 (by decide) ?_
                          refine z_iadd h dL_build_111 ?_
                          refine z_iload h dL_build_112 7 rfl ?_
                          refine z_iload h dL_build_114 8 rfl ?_
                          refine z_iadd h dL_build_116 ?_
                          refine z_topi (y := nI (x + y)) (by rw [nI_add]) ?_
                          refine z_iconst h (v := 4) dL_build_117 (by decide) ?_
                          refine z_irem h dL_build_118 (by decide) ?_
                          refine z_topi (y := nI ((x + y) % 4)) (rem_nI (n := 4) (by omega) (by decide) (by decide)) ?_
                          refine z_iadd h dL_build_119 ?_
                          refine z_topi (y := nI (1 + (x + y) % 4)) (by rw [show (0 + 1 : Int32) = nI 1 from rfl, nI_add]) ?_
                          refine s_Si (R := rmL_build) (kc := (10 + 24 * x + 4 * y)) (ks := (40 + 144 * x + 24 * y)) h (As := [.ref b, .int (nI (1 + (x + y) % 4))]) (st := []) (Y := ([(m9, .inl (g.2.1, 100, .inl g1c)), (t9, .inl (g.2.1, 10, .inl (upd g2 0 7))), (b9, .inl (g.2.1, 160, .inl (fun _ => 0))), (a 3, .inl (g.2.1, 10, .inl (upd (fun _ => 0) 0 7))), (a 6, .inl (g.2.2.1, 12, .inr (.inl (fun _ => 0)))), (a 2, .inl (g.2.1, 100, .inl fm2)), (a 1, .inr (2, [.ref (a 2), .ref (a 3), .int (nI P)])), (a 5, .inl (g.2.2.2.1, 400, .inl (fun _ => 0))), (a 8, .inl (g.2.1, 16, .inl (fun _ => 0))), (a 7, .inl (g.2.2.1, 3, .inr (.inl (fun _ => 0)))), (a 0, .inr (4, [.ref (a 1), .ref (a 4), .ref (a 5), .ref (a 6), .ref (a 7), .ref (a 8), .int (nI 0), .int (nI 0)])), (a 4, .inr (0, [.int 0, .ref g.2.2.2.2.2.1, .int (nI 0)]))] ++ bp g 0 g.2.2.2.2.2.1 0 (fun _ => 0) (fun _ _ => 0))) hT hSx (fun q hq => hq) (fun sz => m_L_cell l g b L xs (1 + (x + y) % 4) (by omega) hL sz) (va_cwS 2 h.ts gL_build_L_cell rfl rfl rfl (by decide +kernel) ⟨Nat.le_of_ble_eq_true rfl, Nat.le_of_ble_eq_true rfl⟩) rfl (List.append_nil _).symm rfl (Nat.le_of_ble_eq_true rfl) ⟨by show _ ≤ 500; omega, by show _ ≤ 3000; omega⟩ (wN := fun u => ([(m9, .inl (g.2.1, 100, .inl g1c)), (t9, .inl (g.2.1, 10, .inl (upd g2 0 7))), (b9, .inl (g.2.1, 160, .inl (fun _ => 0))), (a 3, .inl (g.2.1, 10, .inl (upd (fun _ => 0) 0 7))), (a 6, .inl (g.2.2.1, 12, .inr (.inl (fun _ => 0)))), (a 2, .inl (g.2.1, 100, .inl fm2)), (a 1, .inr (2, [.ref (a 2), .ref (a 3), .int (nI P)])), (a 5, .inl (g.2.2.2.1, 400, .inl (fun _ => 0))), (a 8, .inl (g.2.1, 16, .inl (fun _ => 0))), (a 7, .inl (g.2.2.1, 3, .inr (.inl (fun _ => 0)))), (a 0, .inr (4, [.ref (a 1), .ref (a 4), .ref (a 5), .ref (a 6), .ref (a 7), .ref (a 8), .int (nI 0), .int (nI 0)])), (a 4, .inr (0, [.int 0, .ref g.2.2.2.2.2.1, .int (nI 0)]))] ++ bp g 0 g.2.2.2.2.2.1 0 (fun _ => 0) (fun _ _ => 0))) (fun _ => List.append_nil _) dL_build_120 (fun r_120 u_120 h_120 => ?_)
                          refine z_iload h dL_build_123 7 rfl ?_
                          refine z_iconst h (v := 2) dL_build_125 (by decide) ?_
                          refine z_iload h dL_build_126 8 rfl ?_
                          refine z_imul h dL_build_128 ?_
                          refine z_iadd h dL_build_129 ?_
                          refine z_ishr h dL_build_130 ?_
                          obtain ⟨xv, exv⟩ : ∃ z, z = (r_120 >>> (((nI x) + (2 * (nI y))) &&& 31) : Int32) := ⟨_, rfl⟩
                          refine z_topi exv.symm ?_
                          refine z_istore h dL_build_131 (by decide) (lv' := [(0, .ref (a 0)), (1, .ref b), (2, .int 0), (3, .ref m9), (4, .ref t9), (5, .ref b9), (6, .int (nI P)), (7, .int (nI x)), (8, .int (nI y)), (9, .int xv)]) [1, 2, 3, 4, 5, 6, 7, 8, 9, 0] rfl ?_
                          refine z_iload h dL_build_133 9 rfl ?_
                          refine z_iconst h (v := 4) dL_build_135 (by decide) ?_
                          refine z_Si h (b := 0) (C := "") (As := [.int xv, .int 4]) (st := []) (fun sz => m_L_below l g xv 4 (by decide) (by decide) sz) (va_cwS 2 h.ts gL_build_L_below rfl rfl rfl (by decide +kernel) ⟨Nat.le_of_ble_eq_true rfl, Nat.le_of_ble_eq_true rfl⟩) rfl [] [] rfl rfl rfl rfl rfl (Nat.le_of_ble_eq_true rfl) ⟨by show _ ≤ 500; omega, by show _ ≤ 3000; omega⟩ (fun _ => (Nat.le_of_ble_eq_true rfl)) (wN := fun u => ([(m9, .inl (g.2.1, 100, .inl g1c)), (t9, .inl (g.2.1, 10, .inl (upd g2 0 7))), (b9, .inl (g.2.1, 160, .inl (fun _ => 0))), (a 3, .inl (g.2.1, 10, .inl (upd (fun _ => 0) 0 7))), (a 6, .inl (g.2.2.1, 12, .inr (.inl (fun _ => 0)))), (a 2, .inl (g.2.1, 100, .inl fm2)), (a 1, .inr (2, [.ref (a 2), .ref (a 3), .int (nI P)])), (a 5, .inl (g.2.2.2.1, 400, .inl (fun _ => 0))), (a 8, .inl (g.2.1, 16, .inl (fun _ => 0))), (a 7, .inl (g.2.2.1, 3, .inr (.inl (fun _ => 0)))), (a 0, .inr (4, [.ref (a 1), .ref (a 4), .ref (a 5), .ref (a 6), .ref (a 7), .ref (a 8), .int (nI 0), .int (nI 0)])), (a 4, .inr (0, [.int 0, .ref g.2.2.2.2.2.1, .int (nI 0)]))] ++ bp g 0 g.2.2.2.2.2.1 0 (fun _ => 0) (fun _ _ => 0))) (fun _ => List.append_nil _) dL_build_136 (fun r_136 u_136 h_136 => ?_)
                          refine z_if_ne h (tgt := 145) dL_build_139 (by decide) (fun c_139 => ?_) (fun c_139 => ?_)
                          · refine z_iconst h (v := 1) dL_build_145 (by decide) ?_
                            refine z_iload h dL_build_146 9 rfl ?_
                            refine z_iconst h (v := 2) dL_build_148 (by decide) ?_
                            refine z_ishr h dL_build_149 ?_
                            refine z_bipush h (v := 25) dL_build_150 (by decide) ?_
                            refine z_Si h (b := 0) (C := "") (As := [.int (xv >>> (2 &&& 31)), .int 25]) (st := [.int 1]) (fun sz => m_L_below l g (xv >>> (2 &&& 31)) 25 (by decide) (by decide) sz) (va_cwS 2 h.ts gL_build_L_below rfl rfl rfl (by decide +kernel) ⟨Nat.le_of_ble_eq_true rfl, Nat.le_of_ble_eq_true rfl⟩) rfl [] [] rfl rfl rfl rfl rfl (Nat.le_of_ble_eq_true rfl) ⟨by show _ ≤ 500; omega, by show _ ≤ 3000; omega⟩ (fun _ => (Nat.le_of_ble_eq_true rfl)) (wN := fun u => ([(m9, .inl (g.2.1, 100, .inl g1c)), (t9, .inl (g.2.1, 10, .inl (upd g2 0 7))), (b9, .inl (g.2.1, 160, .inl (fun _ => 0))), (a 3, .inl (g.2.1, 10, .inl (upd (fun _ => 0) 0 7))), (a 6, .inl (g.2.2.1, 12, .inr (.inl (fun _ => 0)))), (a 2, .inl (g.2.1, 100, .inl fm2)), (a 1, .inr (2, [.ref (a 2), .ref (a 3), .int (nI P)])), (a 5, .inl (g.2.2.2.1, 400, .inl (fun _ => 0))), (a 8, .inl (g.2.1, 16, .inl (fun _ => 0))), (a 7, .inl (g.2.2.1, 3, .inr (.inl (fun _ => 0)))), (a 0, .inr (4, [.ref (a 1), .ref (a 4), .ref (a 5), .ref (a 6), .ref (a 7), .ref (a 8), .int (nI 0), .int (nI 0)])), (a 4, .inr (0, [.int 0, .ref g.2.2.2.2.2.1, .int (nI 0)]))] ++ bp g 0 g.2.2.2.2.2.1 0 (fun _ => 0) (fun _ _ => 0))) (fun _ => List.append_nil _) dL_build_152 (fun r_152 u_152 h_152 => ?_)
                            obtain ⟨jm, hjm, rfl⟩ := h_152
                            refine z_iadd h dL_build_155 ?_
                            refine z_topi (y := nI (1 + jm)) (by rw [show (1 : Int32) = nI 1 from rfl, nI_add]) ?_
                            refine z_istore h dL_build_156 (by decide) (lv' := [(0, .ref (a 0)), (1, .ref b), (2, .int 0), (3, .ref m9), (4, .ref t9), (5, .ref b9), (6, .int (nI P)), (7, .int (nI x)), (8, .int (nI y)), (9, .int xv), (10, .int (nI (1 + jm)))]) [1, 2, 3, 4, 5, 6, 7, 8, 9, 10, 0] rfl ?_
                            refine z_aload_n h dL_build_158 rfl 0 rfl ?_
                            refine z_iload h dL_build_159 8 rfl ?_
                            refine z_iload h dL_build_161 7 rfl ?_
                            refine z_iload h dL_build_163 10 rfl ?_
                            refine x_Vi h (As := [.int (nI y), .int (nI x), .int (nI (1 + jm))]) (st := []) hT (fun q hq => hq) (fun sz => m_X3_setMinutes l hlf g a 0 0 P fm2 (nI y) (nI x) (nI (1 + jm)) (by omega) sz) (cwV 3 h.ts gL_build_X3_setMinutes rfl rfl rfl (by decide +kernel) ⟨Nat.le_of_ble_eq_true rfl, Nat.le_of_ble_eq_true rfl⟩) rfl [5] [10, 6] rfl rfl rfl rfl 10 rfl rfl rfl rfl (Nat.le_of_ble_eq_true rfl) ⟨by show _ ≤ 500; omega, by show _ ≤ 3000; omega⟩ (fun _ => (Nat.le_of_ble_eq_true rfl)) (wN := fun u => ([(m9, .inl (g.2.1, 100, .inl g1c)), (t9, .inl (g.2.1, 10, .inl (upd g2 0 7))), (b9, .inl (g.2.1, 160, .inl (fun _ => 0))), (a 3, .inl (g.2.1, 10, .inl (upd (fun _ => 0) 0 7))), (a 6, .inl (g.2.2.1, 12, .inr (.inl (fun _ => 0)))), (a 2, .inl (g.2.1, 100, .inl (upd (upd fm2 ((nI y).toNatClampNeg * 10 + (nI x).toNatClampNeg) (nI (1 + jm))) ((nI x).toNatClampNeg * 10 + (nI y).toNatClampNeg) (nI (1 + jm))))), (a 1, .inr (2, [.ref (a 2), .ref (a 3), .int (nI P)])), (a 5, .inl (g.2.2.2.1, 400, .inl (fun _ => 0))), (a 8, .inl (g.2.1, 16, .inl (fun _ => 0))), (a 7, .inl (g.2.2.1, 3, .inr (.inl (fun _ => 0)))), (a 0, .inr (4, [.ref (a 1), .ref (a 4), .ref (a 5), .ref (a 6), .ref (a 7), .ref (a 8), .int (nI 0), .int (nI 0)])), (a 4, .inr (0, [.int 0, .ref g.2.2.2.2.2.1, .int (nI 0)]))] ++ bp g 0 g.2.2.2.2.2.1 0 (fun _ => 0) (fun _ _ => 0))) (fun _ => List.append_nil _) dL_build_165 (fun E hE9 => absurd hE9 (pe3_no (ksm_0 (okI_nI hy (by omega)) (okI_nI (by omega) (by omega)) (fun q => by have := nI_injj q (by omega) (by omega); omega) (okR_nI (by omega) (by omega) (by omega))))) (fun r_165 u_165 h_165 => ?_)
                            have hr30 : r_165 = 30 := by rw [h_165.2, nI_clamp (by omega), nI_clamp (by omega)]; exact hu2 x y hxy (by omega) (Or.inr ⟨rfl, Nat.le_refl _⟩)
                            refine z_ws (wW' := ([(m9, .inl (g.2.1, 100, .inl g1c)), (t9, .inl (g.2.1, 10, .inl (upd g2 0 7))), (b9, .inl (g.2.1, 160, .inl (fun _ => 0))), (a 3, .inl (g.2.1, 10, .inl (upd (fun _ => 0) 0 7))), (a 6, .inl (g.2.2.1, 12, .inr (.inl (fun _ => 0)))), (a 2, .inl (g.2.1, 100, .inl (upd (upd fm2 (y * 10 + x) (nI (1 + jm))) (x * 10 + y) (nI (1 + jm))))), (a 1, .inr (2, [.ref (a 2), .ref (a 3), .int (nI P)])), (a 5, .inl (g.2.2.2.1, 400, .inl (fun _ => 0))), (a 8, .inl (g.2.1, 16, .inl (fun _ => 0))), (a 7, .inl (g.2.2.1, 3, .inr (.inl (fun _ => 0)))), (a 0, .inr (4, [.ref (a 1), .ref (a 4), .ref (a 5), .ref (a 6), .ref (a 7), .ref (a 8), .int (nI 0), .int (nI 0)])), (a 4, .inr (0, [.int 0, .ref g.2.2.2.2.2.1, .int (nI 0)]))] ++ bp g 0 g.2.2.2.2.2.1 0 (fun _ => 0) (fun _ _ => 0))) (by rw [nI_clamp (show y < 2 ^ 31 by omega), nI_clamp (show x < 2 ^ 31 by omega)]) rfl ?_
                            refine z_bipush h (v := 30) dL_build_168 (by decide) ?_
                            refine z_icmp_eq h (tgt := 175) dL_build_170 (by decide) (fun c_170 => ?_) (fun c_170 => absurd hr30 c_170)
                            refine z_aload_n h dL_build_175 rfl 3 rfl ?_
                            refine z_bipush h (v := 10) dL_build_176 (by decide) ?_
                            refine z_iload h dL_build_178 7 rfl ?_
                            refine z_imul h dL_build_180 ?_
                            refine z_iload h dL_build_181 8 rfl ?_
                            refine z_iadd h dL_build_183 ?_
                            refine z_topi (y := nI (10 * x + y)) (by rw [show (10 : Int32) = nI 10 from rfl, pk_mul, nI_add]) ?_
                            refine z_iload h dL_build_184 10 rfl ?_
                            refine z_iast h (j := 10 * x + y) 0 rfl (vp_in_nI (by omega) (by omega)) (by rw [nI_clamp (by omega)]) dL_build_186 (wW' := ([(m9, .inl (g.2.1, 100, .inl (upd g1c (10 * x + y) (nI (1 + jm))))), (t9, .inl (g.2.1, 10, .inl (upd g2 0 7))), (b9, .inl (g.2.1, 160, .inl (fun _ => 0))), (a 3, .inl (g.2.1, 10, .inl (upd (fun _ => 0) 0 7))), (a 6, .inl (g.2.2.1, 12, .inr (.inl (fun _ => 0)))), (a 2, .inl (g.2.1, 100, .inl (upd (upd fm2 (y * 10 + x) (nI (1 + jm))) (x * 10 + y) (nI (1 + jm))))), (a 1, .inr (2, [.ref (a 2), .ref (a 3), .int (nI P)])), (a 5, .inl (g.2.2.2.1, 400, .inl (fun _ => 0))), (a 8, .inl (g.2.1, 16, .inl (fun _ => 0))), (a 7, .inl (g.2.2.1, 3, .inr (.inl (fun _ => 0)))), (a 0, .inr (4, [.ref (a 1), .ref (a 4), .ref (a 5), .ref (a 6), .ref (a 7), .ref (a 8), .int (nI 0), .int (nI 0)])), (a 4, .inr (0, [.int 0, .ref g.2.2.2.2.2.1, .int (nI 0)]))] ++ bp g 0 g.2.2.2.2.2.1 0 (fun _ => 0) (fun _ _ => 0))) rfl ?_
                            refine z_aload_n h dL_build_187 rfl 3 rfl ?_
                            refine z_bipush h (v := 10) dL_build_188 (by decide) ?_
                            refine z_iload h dL_build_190 8 rfl ?_
                            refine z_imul h dL_build_192 ?_
                            refine z_iload h dL_build_193 7 rfl ?_
                            refine z_iadd h dL_build_195 ?_
                            refine z_topi (y := nI (10 * y + x)) (by rw [show (10 : Int32) = nI 10 from rfl, pk_mul, nI_add]) ?_
                            refine z_iload h dL_build_196 10 rfl ?_
                            refine z_iast h (j := 10 * y + x) 0 rfl (vp_in_nI (by omega) (by omega)) (by rw [nI_clamp (by omega)]) dL_build_198 (wW' := ([(m9, .inl (g.2.1, 100, .inl (upd (upd g1c (10 * x + y) (nI (1 + jm))) (10 * y + x) (nI (1 + jm))))), (t9, .inl (g.2.1, 10, .inl (upd g2 0 7))), (b9, .inl (g.2.1, 160, .inl (fun _ => 0))), (a 3, .inl (g.2.1, 10, .inl (upd (fun _ => 0) 0 7))), (a 6, .inl (g.2.2.1, 12, .inr (.inl (fun _ => 0)))), (a 2, .inl (g.2.1, 100, .inl (upd (upd fm2 (y * 10 + x) (nI (1 + jm))) (x * 10 + y) (nI (1 + jm))))), (a 1, .inr (2, [.ref (a 2), .ref (a 3), .int (nI P)])), (a 5, .inl (g.2.2.2.1, 400, .inl (fun _ => 0))), (a 8, .inl (g.2.1, 16, .inl (fun _ => 0))), (a 7, .inl (g.2.2.1, 3, .inr (.inl (fun _ => 0)))), (a 0, .inr (4, [.ref (a 1), .ref (a 4), .ref (a 5), .ref (a 6), .ref (a 7), .ref (a 8), .int (nI 0), .int (nI 0)])), (a 4, .inr (0, [.int 0, .ref g.2.2.2.2.2.1, .int (nI 0)]))] ++ bp g 0 g.2.2.2.2.2.1 0 (fun _ => 0) (fun _ _ => 0))) rfl ?_
                            refine z_iinc h (v := nI (y + 1)) dL_build_199 (by decide) 8 rfl (by rw [show Int32.ofInt 1 = nI 1 from rfl, nI_add]) (lv' := [(0, .ref (a 0)), (1, .ref b), (2, .int 0), (3, .ref m9), (4, .ref t9), (5, .ref b9), (6, .int (nI P)), (7, .int (nI x)), (8, .int (nI (y + 1))), (9, .int xv), (10, .int (nI (1 + jm)))]) [1, 2, 3, 4, 5, 6, 7, 8, 0, 9, 10] rfl ?_
                            refine z_goto h (tgt := 101) dL_build_202 (by decide) ?_
                            refine z_lv [0, 1, 2, 3, 4, 5, 6, 7, 8] (lv' := [(0, .ref (a 0)), (1, .ref b), (2, .int 0), (3, .ref m9), (4, .ref t9), (5, .ref b9), (6, .int (nI P)), (7, .int (nI x)), (8, .int (nI (y + 1)))]) rfl ?_
                            refine z_widen (kc' := (10 + 24 * x + 4 * (y + 1))) (ks' := (40 + 144 * x + 24 * (y + 1))) (by omega) (by omega) ?_
                            exact ihL101 (y + 1) (upd (upd fm2 (y * 10 + x) (nI (1 + jm))) (x * 10 + y) (nI (1 + jm))) (upd (upd g1c (10 * x + y) (nI (1 + jm))) (10 * y + x) (nI (1 + jm))) (by omega) (by omega) (by first | exact hf2 | exact fm_put hf2 (nI_120 hjm).1 (nI_120 hjm).2) (by first | exact hu2.skip | exact hu2.put hxy (by omega)) (by omega)
                          · refine z_goto h (tgt := 199) dL_build_142 (by decide) ?_
                            refine z_iinc h (v := nI (y + 1)) dL_build_199 (by decide) 8 rfl (by rw [show Int32.ofInt 1 = nI 1 from rfl, nI_add]) (lv' := [(0, .ref (a 0)), (1, .ref b), (2, .int 0), (3, .ref m9), (4, .ref t9), (5, .ref b9), (6, .int (nI P)), (7, .int (nI x)), (8, .int (nI (y + 1))), (9, .int xv)]) [1, 2, 3, 4, 5, 6, 7, 8, 0, 9] rfl ?_
                            refine z_goto h (tgt := 101) dL_build_202 (by decide) ?_
                            refine z_lv [0, 1, 2, 3, 4, 5, 6, 7, 8] (lv' := [(0, .ref (a 0)), (1, .ref b), (2, .int 0), (3, .ref m9), (4, .ref t9), (5, .ref b9), (6, .int (nI P)), (7, .int (nI x)), (8, .int (nI (y + 1)))]) rfl ?_
                            refine z_widen (kc' := (10 + 24 * x + 4 * (y + 1))) (ks' := (40 + 144 * x + 24 * (y + 1))) (by omega) (by omega) ?_
                            exact ihL101 (y + 1) fm2 g1c (by omega) (by omega) (by first | exact hf2 | exact fm_put hf2 (nI_120 hjm).1 (nI_120 hjm).2) (by first | exact hu2.skip | exact hu2.put hxy (by omega)) (by omega)
                    exact L101 (P + 1 - (x + 1)) (x + 1) fm g1b (by omega) (by omega) hf hu (Nat.lt_succ_self _)
              exact L88 (P + 1 - 0) 0 (miA 10) g1a (by omega) (by omega) fm_0 un_0
            · have hi : i < P := ge_f (a := i) (b := P) c_65 (by omega) (by omega)
              refine z_aload_n h dL_build_68 rfl 0 rfl ?_
              refine x_Vi h (As := []) (st := []) hT (fun q hq => hq) (fun sz => m_X3_addPlace l hlf g a 0 0 i (by omega) sz) (cwV 0 h.ts gL_build_X3_addPlace rfl rfl rfl (by decide +kernel) ⟨Nat.le_of_ble_eq_true rfl, Nat.le_of_ble_eq_true rfl⟩) rfl [6] [10] rfl rfl rfl rfl 10 rfl rfl rfl rfl (Nat.le_of_ble_eq_true rfl) ⟨by show _ ≤ 500; omega, by show _ ≤ 3000; omega⟩ (fun _ => (Nat.le_of_ble_eq_true rfl)) (wN := fun u => ([(m9, .inl (g.2.1, 100, .inl g1a)), (t9, .inl (g.2.1, 10, .inl (upd g2 0 7))), (b9, .inl (g.2.1, 160, .inl (fun _ => 0))), (a 3, .inl (g.2.1, 10, .inl (upd (fun _ => 0) 0 7))), (a 6, .inl (g.2.2.1, 12, .inr (.inl (fun _ => 0)))), (a 2, .inl (g.2.1, 100, .inl (miA 10))), (a 1, .inr (2, [.ref (a 2), .ref (a 3), .int (nI (i + 1))])), (a 5, .inl (g.2.2.2.1, 400, .inl (fun _ => 0))), (a 8, .inl (g.2.1, 16, .inl (fun _ => 0))), (a 7, .inl (g.2.2.1, 3, .inr (.inl (fun _ => 0)))), (a 0, .inr (4, [.ref (a 1), .ref (a 4), .ref (a 5), .ref (a 6), .ref (a 7), .ref (a 8), .int (nI 0), .int (nI 0)])), (a 4, .inr (0, [.int 0, .ref g.2.2.2.2.2.1, .int (nI 0)]))] ++ bp g 0 g.2.2.2.2.2.1 0 (fun _ => 0) (fun _ _ => 0))) (fun _ => List.append_nil _) dL_build_69 (fun E hE9 => absurd hE9 (pe3_no (if_pos (by omega)))) (fun r_69 u_69 h_69 => ?_)
              refine z_iload h dL_build_72 7 rfl ?_
              refine z_icmp_eq h (tgt := 79) dL_build_74 (by decide) (fun c_74 => ?_) (fun c_74 => absurd h_69.2 c_74)
              refine z_iinc h (v := nI (i + 1)) dL_build_79 (by decide) 7 rfl (by rw [show Int32.ofInt 1 = nI 1 from rfl, nI_add]) (lv' := [(0, .ref (a 0)), (1, .ref b), (2, .int 0), (3, .ref m9), (4, .ref t9), (5, .ref b9), (6, .int (nI P)), (7, .int (nI (i + 1)))]) [1, 2, 3, 4, 5, 6, 7, 0] rfl ?_
              refine z_goto h (tgt := 61) dL_build_82 (by decide) ?_
              refine z_widen (kc' := (0 + 1 * (i + 1))) (ks' := (0 + 6 * (i + 1))) (by omega) (by omega) ?_
              exact ihL61 (i + 1)  (by omega) (by omega) 
        exact L61 (P + 1 - 1) 1  (by omega) (by omega) 
      · have hi : i < 100 := ge_f (a := i) (b := 100) c_20 (by omega) (by omega)
        refine z_aload_n h dL_build_23 rfl 3 rfl ?_
        refine z_iload h dL_build_24 7 rfl ?_
        refine z_iload h dL_build_26 7 rfl ?_
        refine z_bipush h (v := 10) dL_build_28 (by decide) ?_
        refine z_idiv h dL_build_30 (by decide) ?_
        refine z_iload h dL_build_31 7 rfl ?_
        refine z_bipush h (v := 10) dL_build_33 (by decide) ?_
        refine z_irem h dL_build_35 (by decide) ?_
        refine z_icmp_ne h (tgt := 43) dL_build_36 (by decide) (fun c_36 => ?_) (fun c_36 => ?_)
        · refine z_bipush h (v := 30) dL_build_43 (by decide) ?_
          refine z_iast h (j := i) 0 rfl (vp_in_nI (by omega) (by omega)) (by rw [nI_clamp (by omega)]) dL_build_45 (wW' := ([(m9, .inl (g.2.1, 100, .inl (upd g1a i 30))), (t9, .inl (g.2.1, 10, .inl g2)), (b9, .inl (g.2.1, 160, .inl (fun _ => 0))), (a 3, .inl (g.2.1, 10, .inl (upd (fun _ => 0) 0 7))), (a 6, .inl (g.2.2.1, 12, .inr (.inl (fun _ => 0)))), (a 2, .inl (g.2.1, 100, .inl (miA 10))), (a 1, .inr (2, [.ref (a 2), .ref (a 3), .int (nI 1)])), (a 5, .inl (g.2.2.2.1, 400, .inl (fun _ => 0))), (a 8, .inl (g.2.1, 16, .inl (fun _ => 0))), (a 7, .inl (g.2.2.1, 3, .inr (.inl (fun _ => 0)))), (a 0, .inr (4, [.ref (a 1), .ref (a 4), .ref (a 5), .ref (a 6), .ref (a 7), .ref (a 8), .int (nI 0), .int (nI 0)])), (a 4, .inr (0, [.int 0, .ref g.2.2.2.2.2.1, .int (nI 0)]))] ++ bp g 0 g.2.2.2.2.2.1 0 (fun _ => 0) (fun _ _ => 0))) rfl ?_
          refine z_iinc h (v := nI (i + 1)) dL_build_46 (by decide) 7 rfl (by rw [show Int32.ofInt 1 = nI 1 from rfl, nI_add]) (lv' := [(0, .ref (a 0)), (1, .ref b), (2, .int 0), (3, .ref m9), (4, .ref t9), (5, .ref b9), (6, .int (nI P)), (7, .int (nI (i + 1)))]) [1, 2, 3, 4, 5, 6, 7, 0] rfl ?_
          refine z_goto h (tgt := 16) dL_build_49 (by decide) ?_
          refine z_widen (kc' := (0 + 0 * (i + 1))) (ks' := (0 + 0 * (i + 1))) (by omega) (by omega) ?_
          exact ihL16 (i + 1) (upd g1a i 30) (by omega) (by omega) 
        · refine z_iconst h (v := 0) dL_build_39 (by decide) ?_
          refine z_goto h (tgt := 45) dL_build_40 (by decide) ?_
          refine z_iast h (j := i) 0 rfl (vp_in_nI (by omega) (by omega)) (by rw [nI_clamp (by omega)]) dL_build_45 (wW' := ([(m9, .inl (g.2.1, 100, .inl (upd g1a i 0))), (t9, .inl (g.2.1, 10, .inl g2)), (b9, .inl (g.2.1, 160, .inl (fun _ => 0))), (a 3, .inl (g.2.1, 10, .inl (upd (fun _ => 0) 0 7))), (a 6, .inl (g.2.2.1, 12, .inr (.inl (fun _ => 0)))), (a 2, .inl (g.2.1, 100, .inl (miA 10))), (a 1, .inr (2, [.ref (a 2), .ref (a 3), .int (nI 1)])), (a 5, .inl (g.2.2.2.1, 400, .inl (fun _ => 0))), (a 8, .inl (g.2.1, 16, .inl (fun _ => 0))), (a 7, .inl (g.2.2.1, 3, .inr (.inl (fun _ => 0)))), (a 0, .inr (4, [.ref (a 1), .ref (a 4), .ref (a 5), .ref (a 6), .ref (a 7), .ref (a 8), .int (nI 0), .int (nI 0)])), (a 4, .inr (0, [.int 0, .ref g.2.2.2.2.2.1, .int (nI 0)]))] ++ bp g 0 g.2.2.2.2.2.1 0 (fun _ => 0) (fun _ _ => 0))) rfl ?_
          refine z_iinc h (v := nI (i + 1)) dL_build_46 (by decide) 7 rfl (by rw [show Int32.ofInt 1 = nI 1 from rfl, nI_add]) (lv' := [(0, .ref (a 0)), (1, .ref b), (2, .int 0), (3, .ref m9), (4, .ref t9), (5, .ref b9), (6, .int (nI P)), (7, .int (nI (i + 1)))]) [1, 2, 3, 4, 5, 6, 7, 0] rfl ?_
          refine z_goto h (tgt := 16) dL_build_49 (by decide) ?_
          refine z_widen (kc' := (0 + 0 * (i + 1))) (ks' := (0 + 0 * (i + 1))) (by omega) (by omega) ?_
          exact ihL16 (i + 1) (upd g1a i 0) (by omega) (by omega) 
  exact L16 (100 + 1 - 0) 0 g1 (by omega) (by omega) 
