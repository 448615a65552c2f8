/-! what holds at the head of the law's loop, and what keeps it -/
def SZK (n : Nat) (B : Nat → Nat → Int32) : Prop := ∀ i, i < n → 10 ≤ (B i 2).toInt ∧ (B i 2).toInt ≤ 1000 ∧ 0 ≤ (B i 3).toInt ∧ (B i 3).toInt ≤ 200
def D01 (n : Nat) (B : Nat → Nat → Int32) : Prop := ∀ i, i < n → B i 9 = 0 ∨ B i 9 = 1
def RW0 (n : Nat) (B : Nat → Nat → Int32) : Prop := ∀ i, n ≤ i → B i 7 = 0 ∧ B i 8 = 0 ∧ B i 9 = 0
def BI (n : Nat) (B : Nat → Nat → Int32) : Prop := BOK n B ∧ CBK n B ∧ SZK n B ∧ D01 n B ∧ RW0 n B
def DG0 (fm : Nat → Int32) : Prop := ∀ x, x < 10 → fm (x * 10 + x) = 0
def TP3 (ft : Nat → Int32) (pl : Nat) : Prop := ∀ kd, kd < 3 → TIPS ft (nI kd) pl
def H01 (hf : Nat → Int32) : Prop := ∀ j, hf j = 0 ∨ hf j = 1
def INV (g : Gx) (pl dy n sn ed cap : Nat) (fm ft hf : Nat → Int32) (B : Nat → Nat → Int32) : Prop :=
  (1 ≤ pl ∧ pl ≤ 10) ∧ dy ≤ 399 ∧ n ≤ 16 ∧ n ≤ cap ∧ cap ≤ 26 ∧ (n = 0 → ed = g.2.2.2.2.2.1) ∧ sn ≤ 16 ∧ FMOK fm ∧ DG0 fm ∧ TP3 ft pl ∧ H01 hf ∧ BI n B
theorem okR_b {lo hi x : Int32} (h : okR lo.toInt hi.toInt x = true) : lo.toInt ≤ x.toInt ∧ x.toInt ≤ hi.toInt := of_decide_eq_true h
theorem okR_bn {lo hi : Int} {x : Int32} (h : okR lo hi x = true) : lo ≤ x.toInt ∧ x.toInt ≤ hi := of_decide_eq_true h
theorem upd_at (f : Nat → Int32) (i j : Nat) (v : Int32) : upd f i v j = if j = i then v else f j := rfl
theorem TIPS_mono {ft : Nat → Int32} {k : Int32} {pl pl' : Nat} (h : TIPS ft k pl) (hp : pl ≤ pl') : TIPS ft k pl' := by
  obtain ⟨q, h1, h2⟩ := h
  exact ⟨q, by omega, h2⟩
theorem ksm_of {pl : Nat} {x y v : Int32} (h : kSetMin pl x y v = 0) : okI pl x = true ∧ okI pl y = true ∧ ¬ x = y ∧ okR 1 120 v = true := by
  unfold kSetMin at h
  by_cases h1 : okI pl x = false ∨ okI pl y = false
  · rw [if_pos h1] at h
    exact absurd h (by decide)
  · rw [if_neg h1] at h
    by_cases h2 : x = y ∨ okR 1 120 v = false
    · rw [if_pos h2] at h
      exact absurd h (by decide)
    · refine ⟨?_, ?_, fun q => h2 (Or.inl q), ?_⟩
      · cases hq : okI pl x with
        | true => rfl
        | false => exact absurd (Or.inl hq) h1
      · cases hq : okI pl y with
        | true => rfl
        | false => exact absurd (Or.inr hq) h1
      · cases hq : okR 1 120 v with
        | true => rfl
        | false => exact absurd (Or.inr hq) h2
theorem kst_of {pl : Nat} {ft : Nat → Int32} {x k b : Int32} (h : kSetTip pl ft x k b = 0) : okI pl x = true ∧ okI 3 k = true ∧ ¬ (hasT (ft x.toNatClampNeg) k ≠ 0 ∧ b = 0 ∧ cntT ft k pl = 1) := by
  unfold kSetTip at h
  by_cases h1 : okI pl x = false ∨ okI 3 k = false
  · rw [if_pos h1] at h
    exact absurd h (by decide)
  · rw [if_neg h1] at h
    by_cases h2 : hasT (ft x.toNatClampNeg) k ≠ 0 ∧ b = 0 ∧ cntT ft k pl = 1
    · rw [if_pos h2] at h
      exact absurd h (by decide)
    · refine ⟨?_, ?_, h2⟩
      · cases hq : okI pl x with
        | true => rfl
        | false => exact absurd (Or.inl hq) h1
      · cases hq : okI 3 k with
        | true => rfl
        | false => exact absurd (Or.inr hq) h1
theorem k2_of {a b : Bool} (h : k2 a b = 0) : a = true ∧ b = true := by
  cases a <;> cases b <;> first | exact ⟨rfl, rfl⟩ | exact absurd h (by decide)
theorem k3_of {a b c : Bool} (h : k3 a b c = 0) : a = true ∧ b = true ∧ c = true := by
  cases a <;> cases b <;> cases c <;> first | exact ⟨rfl, rfl, rfl⟩ | exact absurd h (by decide)
theorem kps_of {dy : Nat} {x : Int32} (h : kPass dy x = 0) : okR 1 60 x = true ∧ dy + x.toNatClampNeg < 400 := by
  unfold kPass at h
  by_cases h1 : okR 1 60 x = false
  · rw [if_pos h1] at h
    exact absurd h (by decide)
  · rw [if_neg h1] at h
    by_cases h2 : dy + x.toNatClampNeg < 400
    · refine ⟨?_, h2⟩
      cases hq : okR 1 60 x with
      | true => rfl
      | false => exact absurd hq h1
    · rw [if_neg h2] at h
      exact absurd h (by decide)
theorem sm_keep {pl : Nat} {fm : Nat → Int32} {x y v : Int32} (hpl : pl ≤ 10) (h : kSetMin pl x y v = 0) (hf : FMOK fm) (hd : DG0 fm) : FMOK (upd (upd fm (x.toNatClampNeg * 10 + y.toNatClampNeg) v) (y.toNatClampNeg * 10 + x.toNatClampNeg) v) ∧ DG0 (upd (upd fm (x.toNatClampNeg * 10 + y.toNatClampNeg) v) (y.toNatClampNeg * 10 + x.toNatClampNeg) v) := by
  obtain ⟨h1, h2, h3, h4⟩ := ksm_of h
  obtain ⟨i, hi, rfl⟩ := okI_of h1 (by omega)
  obtain ⟨j, hj, rfl⟩ := okI_of h2 (by omega)
  have h5 := okR_bn h4
  have hij : ¬ i = j := fun q => h3 (by rw [q])
  rw [nI_clamp (by omega), nI_clamp (by omega)]
  constructor
  · intro q hq
    rw [upd_at, upd_at]
    split
    · omega
    · split
      · omega
      · exact hf q hq
  · intro q hq
    rw [upd_at, upd_at, if_neg (by omega), if_neg (by omega)]
    exact hd q hq
theorem neg1_bits : (-1 : Int32).toBitVec = BitVec.allOnes 32 := by decide
theorem hasT_cut (x : Int32) {i q : Nat} (hi : i < 16) (hq : q < 16) : hasT (x &&& ((1 <<< (nI q &&& 31)) ^^^ (-1))) (nI i) = if i = q then 0 else hasT x (nI i) := by
  rw [hasT_bit _ hi, hasT_bit _ hi, Int32.toBitVec_and, Int32.toBitVec_xor, one_sh q hq, neg1_bits, BitVec.getLsbD_and, BitVec.getLsbD_xor, BitVec.getLsbD_twoPow, BitVec.getLsbD_allOnes]
  by_cases h : i = q
  · subst h
    simp [show i < 32 by omega]
  · simp [h, Ne.symm h, show i < 32 by omega]
theorem putT_has (x b : Int32) {i q : Nat} (hi : i < 16) (hq : q < 16) : hasT (putT x (nI q) b) (nI i) = if i = q then (if b = 0 then 0 else 1) else hasT x (nI i) := by
  unfold putT
  by_cases hb : b = 0
  · rw [if_pos hb, if_pos hb, hasT_cut x hi hq]
  · rw [if_neg hb, if_neg hb, hasT_or x hi hq]
theorem cntO_some {f : Nat → Int32} {k : Int32} {x : Nat} : ∀ n, ¬ cntO f k x n = 0 → ∃ q, q < n ∧ ¬ q = x ∧ ¬ hasT (f q) k = 0
  | 0, h => absurd rfl h
  | n + 1, h => by
    by_cases h1 : cntO f k x n = 0
    · by_cases h2 : n = x
      · rw [cntO, if_pos h2, h1] at h
        exact absurd rfl h
      · by_cases h3 : hasT (f n) k = 0
        · rw [cntO, if_neg h2, if_pos h3, h1] at h
          exact absurd rfl h
        · exact ⟨n, by omega, h2, h3⟩
    · obtain ⟨q, g1, g2, g3⟩ := cntO_some n h1
      exact ⟨q, by omega, g2, g3⟩
theorem st_keep {pl : Nat} {ft : Nat → Int32} {x k b : Int32} (hpl : pl ≤ 10) (h : kSetTip pl ft x k b = 0) (ht : TP3 ft pl) : TP3 (upd ft x.toNatClampNeg (putT (ft x.toNatClampNeg) k b)) pl := by
  obtain ⟨h1, h2, h3⟩ := kst_of h
  obtain ⟨j, hj, rfl⟩ := okI_of h1 (by omega)
  obtain ⟨q, hq, rfl⟩ := okI_of h2 (by omega)
  rw [nI_clamp (by omega)] at h3 ⊢
  intro kd hkd
  obtain ⟨r, hr, hr2⟩ := ht kd hkd
  by_cases hk : kd = q
  · subst hk
    by_cases hb : b = 0
    · by_cases hh : hasT (ft j) (nI kd) = 0
      · have hrj : ¬ r = j := fun z => hr2 (by rw [z]; exact hh)
        exact ⟨r, hr, by rw [upd_at, if_neg hrj]; exact hr2⟩
      · have hc : ¬ cntT ft (nI kd) pl = 1 := fun z => h3 ⟨hh, hb, z⟩
        obtain ⟨w, w1, w2, w3⟩ := cntO_some pl (fun z => hc ((cnt_iff ft (nI kd) j pl hh hj).mpr z))
        exact ⟨w, w1, by rw [upd_at, if_neg w2]; exact w3⟩
    · exact ⟨j, hj, by rw [upd_at, if_pos rfl, putT_has _ _ (by omega) (by omega), if_pos rfl, if_neg hb]; decide⟩
  · by_cases hrj : r = j
    · subst hrj
      exact ⟨r, hr, by rw [upd_at, if_pos rfl, putT_has _ _ (by omega) (by omega), if_neg hk]; exact hr2⟩
    · exact ⟨r, hr, by rw [upd_at, if_neg hrj]; exact hr2⟩
theorem sh_keep {hf : Nat → Int32} {j : Nat} {b : Int32} (h : H01 hf) (hb : b = 0 ∨ b = 1) : H01 (upd hf j (vp_nar .boolean b)) := fun q => by
  rw [upd_at]
  split
  · rcases hb with z | z <;> rw [z]
    · exact Or.inl rfl
    · exact Or.inr rfl
  · exact h q
/-! the bins -/
theorem updB_at (B : Nat → Nat → Int32) (i j : Nat) (b : Nat → Int32) : updB B i b j = if j = i then b else B j := rfl
theorem wst_b {b : Nat → Int32} (h0 : 0 ≤ (b 4).toInt) (h1 : (b 4).toInt ≤ 1000) (h2 : 10 ≤ (b 2).toInt) (h3 : (b 2).toInt ≤ 1000) (h4 : 0 ≤ (b 3).toInt) (h5 : (b 3).toInt ≤ 200) : 0 ≤ (filB b 4).toInt ∧ (filB b 4).toInt ≤ 1000 := by
  have e1 : (b 4 + b 3).toInt = (b 4).toInt + (b 3).toInt := i32_add (by omega) (by omega)
  have e2 : (b 4 + b 3 - b 2).toInt = (b 4).toInt + (b 3).toInt - (b 2).toInt := by rw [i32_sub (by omega) (by omega), e1]
  have e0 : (0 : Int32).toInt = 0 := rfl
  have e3 : filB b 4 = b 4 + b 3 - wstB b := rfl
  rw [e3]
  unfold wstB
  by_cases h : 0 < b 4 + b 3 - b 2
  · rw [if_pos h]
    have h6 := i32_lt.mp h
    rw [i32_sub (by omega) (by omega), e1, e2]
    omega
  · rw [if_neg h]
    have h6 : ¬ (0 : Int32).toInt < (b 4 + b 3 - b 2).toInt := fun q => h (i32_lt.mpr q)
    rw [i32_sub (by omega) (by omega), e1]
    omega
theorem BI.upd {n i : Nat} {B : Nat → Nat → Int32} {b : Nat → Int32} (h : BI n B) (hi : i < n) (h0 : b 0 = B i 0) (h1 : b 1 = B i 1) (hc : 0 ≤ (b 4).toInt ∧ (b 4).toInt ≤ 1000) (hs : 10 ≤ (b 2).toInt ∧ (b 2).toInt ≤ 1000 ∧ 0 ≤ (b 3).toInt ∧ (b 3).toInt ≤ 200) (hd : b 9 = 0 ∨ b 9 = 1) : BI n (updB B i b) := by
  obtain ⟨g1, g2, g3, g4, g5⟩ := h
  refine ⟨g1.set h0 h1, fun j hj => ?_, fun j hj => ?_, fun j hj => ?_, fun j hj => ?_⟩
  · rw [updB_at]
    split
    · exact hc
    · exact g2 j hj
  · rw [updB_at]
    split
    · exact hs
    · exact g3 j hj
  · rw [updB_at]
    split
    · exact hd
    · exact g4 j hj
  · rw [updB_at, if_neg (by omega)]
    exact g5 j hj
theorem sg_keep {n : Nat} {B : Nat → Nat → Int32} {x v : Int32} (hn : n ≤ 16) (h : k2 (okI n x) (okR 0 200 v) = 0) (hB : BI n B) : BI n (updB B x.toNatClampNeg (upd (B x.toNatClampNeg) 3 v)) := by
  obtain ⟨h1, h2⟩ := k2_of h
  obtain ⟨i, hi, rfl⟩ := okI_of h1 (by omega)
  rw [nI_clamp (by omega)]
  have h3 := okR_bn h2
  have h4 := hB.2.2.1 i hi
  exact hB.upd hi rfl rfl (hB.2.1 i hi) ⟨h4.1, h4.2.1, h3.1, h3.2⟩ (hB.2.2.2.1 i hi)
theorem so_keep {n : Nat} {B : Nat → Nat → Int32} {x : Int32} (hn : n ≤ 16) (h : okI n x = true) (hB : BI n B) : BI n (updB B x.toNatClampNeg (upd (B x.toNatClampNeg) 9 1)) := by
  obtain ⟨i, hi, rfl⟩ := okI_of h (by omega)
  rw [nI_clamp (by omega)]
  exact hB.upd hi rfl rfl (hB.2.1 i hi) (hB.2.2.1 i hi) (Or.inr rfl)
theorem pasB_keep {n : Nat} {B : Nat → Nat → Int32} (hB : BI n B) : ∀ i, i ≤ n → BI n (pasB B i)
  | 0, _ => hB
  | i + 1, hi => by
    have ih := pasB_keep hB i (by omega)
    have hc := ih.2.1 i (by omega)
    have hs := ih.2.2.1 i (by omega)
    show BI n (updB (pasB B i) i (filB (pasB B i i)))
    exact ih.upd (show i < n by omega) rfl rfl (wst_b hc.1 hc.2 hs.1 hs.2.1 hs.2.2.1 hs.2.2.2) hs (ih.2.2.2.1 i (by omega))
theorem psB_keep {n : Nat} {B : Nat → Nat → Int32} (hB : BI n B) : ∀ k, BI n (psB B n k)
  | 0 => hB
  | k + 1 => pasB_keep (psB_keep hB k) n (Nat.le_refl _)
theorem psB_78 {n : Nat} {B : Nat → Nat → Int32} {k j : Nat} (h : ∀ i, psB B n k i j = B i j) : col (psB B n k) j = col B j := funext h
theorem endB_2 (b : Nat → Int32) (x y : Int32) : endB b x y 2 = b 2 ∧ endB b x y 3 = b 3 ∧ endB b x y 7 = b 7 := by
  by_cases h : b 9 = 0
  · rw [show endB b x y = upd (upd (upd b 5 (ratB b y)) 6 y) 4 (b 4 - x) from if_pos h]
    exact ⟨rfl, rfl, rfl⟩
  · rw [show endB b x y = upd (upd b 9 0) 8 (b 8 + 1) from if_neg h]
    exact ⟨rfl, rfl, rfl⟩
theorem endB_9 (b : Nat → Int32) (x y : Int32) : endB b x y 9 = 0 ∨ endB b x y 9 = 1 := by
  by_cases h : b 9 = 0
  · rw [show endB b x y = upd (upd (upd b 5 (ratB b y)) 6 y) 4 (b 4 - x) from if_pos h]
    exact Or.inl h
  · rw [show endB b x y = upd (upd b 9 0) 8 (b 8 + 1) from if_neg h]
    exact Or.inl rfl
/-- a tour that is done keeps the bins' bounds -/
theorem mkF_keep {fm ft : Nat → Int32} {k cp : Int32} {pl dy n s : Nat} {rf : Nat → Int32} {B : Nat → Nat → Int32} (hB : BI n B) (hr : ROK rf s n) (hs : s ≤ 16) (hc0 : 0 ≤ cp.toInt) (hc1 : cp.toInt ≤ 5000) : ∀ i, i ≤ s → BI n (mkF fm ft k cp pl dy rf B i).2 ∧ LB cp i (mkF fm ft k cp pl dy rf B i).1
  | 0, _ => ⟨hB, (show 0 ≤ (0 : Int32).toInt by decide), hc0, (show 0 ≤ (0 : Int32).toInt by decide), (show (0 : Int32).toInt + (0 : Int32).toInt ≤ 1000 * ((0 : Nat) : Int) by decide)⟩
  | i + 1, hi => by
    obtain ⟨ih, il⟩ := mkF_keep (fm := fm) (ft := ft) (k := k) (pl := pl) (dy := dy) hB hr hs hc0 hc1 i (by omega)
    have hq := (hr i (by omega)).2
    have hcq := ih.2.1 _ hq
    have hsq := ih.2.2.1 _ hq
    rw [mkF]
    generalize mkF fm ft k cp pl dy rf B i = u at ih il hcq hsq ⊢
    have hv := vis_b (fm := fm) (ft := ft) (k := k) (pl := pl) (pb := plc u.2 (rq rf i)) (b := u.2 (rq rf i)) il (by omega) hc1 hc0 hcq.1 hcq.2
    refine ⟨?_, hv.1⟩
    show BI n (updB u.2 (rq rf i) (endB (u.2 (rq rf i)) (visK fm ft k cp pl (u.2 (rq rf i)) (plc u.2 (rq rf i)) u.1) (nI dy)))
    refine ih.upd hq (endB_0 _ _ _) (endB_1 _ _ _) ?_ ?_ (endB_9 _ _ _)
    · by_cases h9 : u.2 (rq rf i) 9 = 0
      · rw [show endB (u.2 (rq rf i)) (visK fm ft k cp pl (u.2 (rq rf i)) (plc u.2 (rq rf i)) u.1) (nI dy) 4 = u.2 (rq rf i) 4 - visK fm ft k cp pl (u.2 (rq rf i)) (plc u.2 (rq rf i)) u.1 by unfold endB; rw [if_pos h9]; rfl]
        exact hv.2 h9
      · rw [show endB (u.2 (rq rf i)) (visK fm ft k cp pl (u.2 (rq rf i)) (plc u.2 (rq rf i)) u.1) (nI dy) 4 = u.2 (rq rf i) 4 by unfold endB; rw [if_neg h9]; rfl]
        exact hcq
    · have h2 := endB_2 (u.2 (rq rf i)) (visK fm ft k cp pl (u.2 (rq rf i)) (plc u.2 (rq rf i)) u.1) (nI dy)
      rw [h2.1, h2.2.1]
      exact hsq
theorem mkF_col {fm ft : Nat → Int32} {k cp : Int32} {pl dy : Nat} {rf : Nat → Int32} {B : Nat → Nat → Int32} : ∀ i, col (mkF fm ft k cp pl dy rf B i).2 0 = col B 0 ∧ col (mkF fm ft k cp pl dy rf B i).2 1 = col B 1 ∧ col (mkF fm ft k cp pl dy rf B i).2 2 = col B 2 ∧ col (mkF fm ft k cp pl dy rf B i).2 3 = col B 3 ∧ col (mkF fm ft k cp pl dy rf B i).2 7 = col B 7
  | 0 => ⟨rfl, rfl, rfl, rfl, rfl⟩
  | i + 1 => by
    obtain ⟨h0, h1, h2, h3, h7⟩ := mkF_col (fm := fm) (ft := ft) (k := k) (cp := cp) (pl := pl) (dy := dy) (rf := rf) (B := B) i
    rw [mkF]
    generalize mkF fm ft k cp pl dy rf B i = u at h0 h1 h2 h3 h7 ⊢
    have h := endB_2 (u.2 (rq rf i)) (visK fm ft k cp pl (u.2 (rq rf i)) (plc u.2 (rq rf i)) u.1) (nI dy)
    exact ⟨(col_ne (endB_0 _ _ _)).trans h0, (col_ne (endB_1 _ _ _)).trans h1, (col_ne h.1).trans h2, (col_ne h.2.1).trans h3, (col_ne h.2.2).trans h7⟩
theorem ins_at (B : Nat → Nat → Int32) (n j : Nat) (b : Nat → Int32) : ins B n b j = if j = n then b else B j := rfl
theorem col_in {B : Nat → Nat → Int32} {n j : Nat} {b : Nat → Int32} {v : Int32} (h : b j = v) : col (ins B n b) j = upd (col B j) n v := by
  funext q
  show ins B n b q j = upd (col B j) n v q
  rw [ins_at, upd_at]
  by_cases e : q = n
  · rw [if_pos e, if_pos e, h]
  · rw [if_neg e, if_neg e]
    rfl
theorem col_in0 {B : Nat → Nat → Int32} {n j : Nat} {b : Nat → Int32} (h : b j = B n j) : col (ins B n b) j = col B j := by
  rw [col_in h]
  exact upd_self
theorem ab_keep {pl n : Nat} {B : Nat → Nat → Int32} {x k z v : Int32} {d : Int32} (hpl : pl ≤ 10) (h : k3 (okI pl x && (decide (¬ x = 0) && okI 3 k)) (okR 10 1000 z && okR 0 200 v) (decide (n < 16)) = 0) (hB : BI n B) : BI (n + 1) (ins B n (nwB x k z v d)) ∧ n < 16 := by
  obtain ⟨h1, h2, h3⟩ := k3_of h
  have h4 := of_decide_eq_true h3
  rw [Bool.and_eq_true, Bool.and_eq_true] at h1
  rw [Bool.and_eq_true] at h2
  obtain ⟨a1, a2, a3⟩ := h1
  obtain ⟨b1, b2⟩ := h2
  have c1 := okR_bn b1
  have c2 := okR_bn b2
  obtain ⟨i, hi, rfl⟩ := okI_of a1 (by omega)
  obtain ⟨q, hq, rfl⟩ := okI_of a3 (by omega)
  obtain ⟨g1, g2, g3, g4, g5⟩ := hB
  refine ⟨⟨fun j hj => ?_, fun j hj => ?_, fun j hj => ?_, fun j hj => ?_, fun j hj => ?_⟩, h4⟩
  · by_cases e : j = n
    · subst e
      have e0 : ins B j (nwB (nI i) (nI q) z v d) j 0 = nI i := by rw [ins_at, if_pos rfl]; rfl
      have e1 : ins B j (nwB (nI i) (nI q) z v d) j 1 = nI q := by rw [ins_at, if_pos rfl]; rfl
      unfold plc knd
      rw [e0, e1, nI_clamp (by omega), nI_clamp (by omega)]
      exact ⟨rfl, by omega, rfl, hq⟩
    · have e1 : ins B n (nwB (nI i) (nI q) z v d) j = B j := by rw [ins_at, if_neg e]
      unfold plc knd
      rw [e1]
      exact g1 j (by omega)
  · rw [ins_at]
    split
    · exact ⟨(show 0 ≤ (0 : Int32).toInt by decide), (show (0 : Int32).toInt ≤ 1000 by decide)⟩
    · exact g2 j (by omega)
  · rw [ins_at]
    split
    · exact ⟨c1.1, c1.2, c2.1, c2.2⟩
    · exact g3 j (by omega)
  · rw [ins_at]
    split
    · exact Or.inl rfl
    · exact g4 j (by omega)
  · rw [ins_at, if_neg (by omega)]
    exact g5 j (by omega)
theorem erS_b {n : Nat} {B : Nat → Nat → Int32} (hn : n ≤ 16) (h : SZK n B) : ∀ i, i ≤ n → 10 * (i : Int) ≤ (erS B i).toInt ∧ (erS B i).toInt ≤ 1000 * (i : Int)
  | 0, _ => ⟨(show (10 : Int) * ((0 : Nat) : Int) ≤ (0 : Int32).toInt by decide), (show (0 : Int32).toInt ≤ (1000 : Int) * ((0 : Nat) : Int) by decide)⟩
  | i + 1, hi => by
    have ih := erS_b hn h i (by omega)
    have h1 := h i (by omega)
    have e1 : erS B (i + 1) = erS B i + B i 2 := rfl
    rw [e1, i32_add (by omega) (by omega)]
    push_cast
    omega
theorem erS_0 {n : Nat} {B : Nat → Nat → Int32} (hn : n ≤ 16) (h : SZK n B) (hz : erS B n = 0) : n = 0 := by
  have h1 := erS_b hn h n (Nat.le_refl _)
  rw [hz] at h1
  have h2 : (0 : Int32).toInt = 0 := rfl
  omega
/-! the class's route and the model's -/
theorem plR_ok {fm : Nat → Int32} {B : Nat → Nat → Int32} {dy nw : Nat} {k : Int32} {rf : Nat → Int32} {n : Nat} (hn : n ≤ 16) : ROK (plR fm B dy nw k rf n) (plS B dy nw k rf n) n :=
  (srF_inv (plan_sok hn) (flR_ok hn n (Nat.le_refl _)).2 hn _ (Nat.le_refl _)).2
theorem pl_same {fm : Nat → Int32} {B : Nat → Nat → Int32} {dy nw : Nat} {k : Int32} {rf rm : Nat → Int32} {n : Nat} (hn : n ≤ 16) : ∀ j, j < plS B dy nw k rf n → plM (rq (plR fm B dy nw k rf n)) rm (plS B dy nw k rf n) j = plR fm B dy nw k rf n j := fun j hj => by
  rw [plM_at _ _ _ _ hj]
  exact (plR_ok hn j hj).1.symm
/-- what the start's arrays of minutes hold -/
theorem miB_hi {f : Nat → Int32} {x i : Nat} (hx : x < 10) (hi : 100 ≤ i) : ∀ y, y ≤ 10 → miB f x y i = f i
  | 0, _ => rfl
  | y + 1, hy => by
    rw [miB, upd_at, if_neg (by omega)]
    exact miB_hi hx hi y (by omega)
theorem miA_hi {i : Nat} (hi : 100 ≤ i) : ∀ x, x ≤ 10 → miA x i = 0
  | 0, _ => rfl
  | x + 1, hx => by
    rw [miA, miB_hi (by omega) hi 10 (Nat.le_refl _)]
    exact miA_hi hi x (by omega)
theorem mdM_hi {i : Nat} : ∀ k, k ≤ i → mdM k i = 0
  | 0, _ => rfl
  | k + 1, hk => by
    rw [mdM, upd_at, if_neg (by omega)]
    exact mdM_hi k (by omega)
theorem min_all : miA 10 = mdM 100 := funext fun i => by
  by_cases h : i < 100
  · exact min_same i h
  · rw [miA_hi (by omega) 10 (Nat.le_refl _), mdM_hi 100 (by omega)]
theorem min_ok : ∀ i, i < 100 → 0 ≤ (mdM 100 i).toInt ∧ (mdM 100 i).toInt ≤ 120 := by decide +kernel
theorem min_dg : ∀ x, x < 10 → mdM 100 (x * 10 + x) = 0 := by decide +kernel
theorem tip_st : ∀ kd, kd < 3 → ¬ hasT (upd (fun _ => 0) 0 7 0) (nI kd) = 0 := by decide +kernel
theorem inv_0 (g : Gx) : INV g 1 0 0 0 g.2.2.2.2.2.1 0 (mdM 100) (upd (fun _ => 0) 0 7) (fun _ => 0) (fun _ _ => 0) :=
  ⟨⟨Nat.le_refl _, by omega⟩, by omega, by omega, by omega, by omega, fun _ => rfl, by omega, min_ok, min_dg, fun kd hk => ⟨0, by omega, tip_st kd hk⟩, fun _ => Or.inl rfl, (fun i hi => absurd hi (Nat.not_lt_zero i)), (fun i hi => absurd hi (Nat.not_lt_zero i)), (fun i hi => absurd hi (Nat.not_lt_zero i)), (fun i hi => absurd hi (Nat.not_lt_zero i)), fun i _ => ⟨rfl, rfl, rfl⟩⟩


