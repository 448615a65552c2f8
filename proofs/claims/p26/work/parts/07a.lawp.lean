/-- at the head of the law's loop -/
def LI (pl n dy sn cap : Nat) (fm f3 : Nat → Int32) (B : Nat → Nat → Int32) : Prop := (2 ≤ pl ∧ pl ≤ 6) ∧ n ≤ 10 ∧ n ≤ cap ∧ cap ≤ 26 ∧ FMOK fm ∧ BK n dy B ∧ (∀ j, j < n → f3 (10 * j + 2) = B j 2) ∧ dy ≤ 240 ∧ sn ≤ 16
/-- the plan of a kind: its bins by their numbers -/
def PW (fm : Nat → Int32) (n dy kd N : Nat) (B : Nat → Nat → Int32) (wq : Nat → Nat) : Prop := kd < 3 ∧ N ≤ n ∧ (∀ rf, plS B dy (nwd (fun _ => 0) dy) (nI kd) rf n = N) ∧ (∀ rf j, j < N → plR fm B dy (nwd (fun _ => 0) dy) (nI kd) rf n j = nI (wq j)) ∧ (∀ j, j < N → wq j < n) ∧ (∀ i j, i < N → j < N → wq i = wq j → i = j)
/-- the first k places of the law's six rows -/
def RW (B : Nat → Nat → Int32) (wq : Nat → Nat) (k : Nat) (wy ct rt lt wn di : Nat → Int32) : Prop := ∀ j, j < k → wy j = nI (wq j) ∧ ct j = B (wq j) 4 ∧ rt j = B (wq j) 5 ∧ lt j = B (wq j) 6 ∧ wn j = B (wq j) 8 ∧ di j = B (wq j) 9
def gw (cp : Int32) (wq : Nat → Nat) (B : Nat → Nat → Int32) : Nat → Int
  | 0 => 0
  | i + 1 => gw cp wq B i + gain cp (B (wq i))
/-- behind the tour -/
def CO (n dy kd N : Nat) (cp : Int32) (wq : Nat → Nat) (B B2 : Nat → Nat → Int32) (tf tf2 : Nat → Int64) (l0 v0 : Int64) : Prop := BK n dy B2 ∧ (∀ j, B2 j 2 = B j 2) ∧ (∀ j, j < N → B2 (wq j) = endB (B (wq j)) (mnc cp (B (wq j) 4)) (nI dy)) ∧ tf2 (kd * 4 + 0) = tf (kd * 4 + 0) + l0 ∧ tf2 (kd * 4 + 1) = tf (kd * 4 + 1) + v0 ∧ l0.toInt = gw cp wq B N ∧ (0 ≤ v0.toInt ∧ v0.toInt ≤ (N : Int)) ∧ gw cp wq B N ≤ v0.toInt * cp.toInt
theorem pw_of {fm : Nat → Int32} {n dy kd : Nat} {B : Nat → Nat → Int32} {rf : Nat → Int32} (hn : n ≤ 16) (hk : kd < 3) : PW fm n dy kd (plS B dy (nwd (fun _ => 0) dy) (nI kd) rf n) B (rq (plR fm B dy (nwd (fun _ => 0) dy) (nI kd) (fun _ => 0) n)) := by
  have h0 := plan_ok (fm := fm) (B := B) (dy := dy) (nw := (nwd (fun _ => 0) dy)) (k := nI kd) (rf := fun _ => 0) hn
  have e0 := (plan_cg (fm := fm) (B := B) (dy := dy) (nw := (nwd (fun _ => 0) dy)) (k := nI kd) (rf := fun _ => 0) (rf' := rf) (n := n)).1
  rw [e0] at h0
  refine ⟨hk, h0.2.2, fun rf' => ?_, fun rf' j hj => ?_, fun j hj => (h0.1 j hj).2, fun i j hi hj q => h0.2.1 i j hi hj q⟩
  · exact (plan_cg (fm := fm)).1
  · have e1 := (plan_cg (fm := fm) (B := B) (dy := dy) (nw := (nwd (fun _ => 0) dy)) (k := nI kd) (rf := fun _ => 0) (rf' := rf') (n := n)).2 j (by rw [e0]; exact hj)
    rw [← e1]
    exact (h0.1 j hj).1
theorem rw_0 {B : Nat → Nat → Int32} {wq : Nat → Nat} {wy ct rt lt wn di : Nat → Int32} : RW B wq 0 wy ct rt lt wn di := fun j hj => absurd hj (Nat.not_lt_zero j)
theorem RW.put {B : Nat → Nat → Int32} {wq : Nat → Nat} {k : Nat} {wy ct rt lt wn di : Nat → Int32} (h : RW B wq k wy ct rt lt wn di) : RW B wq (k + 1) (upd wy k (nI (wq k))) (upd ct k (B (wq k) 4)) (upd rt k (B (wq k) 5)) (upd lt k (B (wq k) 6)) (upd wn k (B (wq k) 8)) (upd di k (B (wq k) 9)) := fun j hj => by
  rw [upd_at, upd_at, upd_at, upd_at, upd_at, upd_at]
  by_cases e : j = k
  · subst e
    rw [if_pos rfl, if_pos rfl, if_pos rfl, if_pos rfl, if_pos rfl, if_pos rfl]
    exact ⟨rfl, rfl, rfl, rfl, rfl, rfl⟩
  · rw [if_neg e, if_neg e, if_neg e, if_neg e, if_neg e, if_neg e]
    exact h j (by omega)
theorem dir_at {x : Int32} (h : x = 0 ∨ x = 1) : vp_nar .boolean (if (if x = 0 then (0 : Int32) else 1) = 1 then 1 else 0) = x := by
  rcases h with rfl | rfl <;> rfl
/-- the answer of bin, as the law reads it -/
theorem bn_at {c : Prop} {r v z : Int32} {q : Nat} {B : Nat → Nat → Int32} (hq : q < 2 ^ 31) (h : c ∧ r = fct (B (nI q).toNatClampNeg) v.toNatClampNeg) (hz : fct (B q) v.toNatClampNeg = z) : r = z := by
  rw [h.2, nI_clamp hq]
  exact hz
theorem gw_b {n dy N : Nat} {cp : Int32} {wq : Nat → Nat} {B : Nat → Nat → Int32} (hB : BK n dy B) (hq : ∀ j, j < N → wq j < n) (hc : 0 ≤ cp.toInt) : ∀ i, i ≤ N → 0 ≤ gw cp wq B i ∧ gw cp wq B i ≤ 1000 * (i : Int)
  | 0, _ => ⟨Int.le_refl _, Int.le_refl _⟩
  | i + 1, hi => by
    have ih := gw_b hB hq hc i (by omega)
    have hg := gain_b (hB.2 _ (hq i (by omega))) hc
    show 0 ≤ gw cp wq B i + gain cp (B (wq i)) ∧ gw cp wq B i + gain cp (B (wq i)) ≤ _
    push_cast
    omega
theorem gsum_gw {cp : Int32} {rf : Nat → Int32} {wq : Nat → Nat} {B : Nat → Nat → Int32} {N : Nat} (h : ∀ j, j < N → rq rf j = wq j) : ∀ i, i ≤ N → gsum cp rf B i = gw cp wq B i
  | 0, _ => rfl
  | i + 1, hi => by
    show gsum cp rf B i + gain cp (B (rq rf i)) = gw cp wq B i + gain cp (B (wq i))
    rw [gsum_gw h i (by omega), h i (by omega)]
theorem addL_at (f : Nat → Int64) (i j : Nat) (x : Int64) : addL f i x j = if j = i then f i + x else f j := rfl
theorem tot4_0 {tf : Nat → Int64} {kd : Nat} {t : TS} : tot4 tf kd t (kd * 4 + 0) = tf (kd * 4 + 0) + t.2.2.2.2.toInt64 := by
  unfold tot4
  rw [addL_at, if_neg (by omega), addL_at, if_neg (by omega), addL_at, if_neg (by omega), addL_at, if_pos rfl]
theorem tot4_1 {tf : Nat → Int64} {kd : Nat} {t : TS} : tot4 tf kd t (kd * 4 + 1) = tf (kd * 4 + 1) + t.2.2.2.1.toInt64 := by
  unfold tot4
  rw [addL_at, if_neg (by omega), addL_at, if_neg (by omega), addL_at, if_pos rfl, addL_at, if_neg (by omega)]
theorem i64_0 (x : Int64) : x + 0 = x := Int64.add_zero x
/-- what the tour does, in the law's words -/
theorem co_of {fm ft : Nat → Int32} {pl n dy kd N : Nat} {cp : Int32} {B B2 : Nat → Nat → Int32} {tf tf2 : Nat → Int64} {wq : Nat → Nat} {rf : Nat → Int32} {r : Int32} (hf : FMOK fm) (hpl : pl ≤ 10) (hd : dy ≤ 399) (hn : n ≤ 16) (hB : BK n dy B) (hw : PW fm n dy kd N B wq) (hc0 : 0 ≤ cp.toInt) (hc1 : cp.toInt ≤ 5000)
    (hr : r = if plS B dy (nwd (fun _ => 0) dy) (nI kd) rf n = 0 then 0 else (endT fm ft (nI kd) pl (mkF fm ft (nI kd) cp pl dy (plR fm B dy (nwd (fun _ => 0) dy) (nI kd) rf n) B (plS B dy (nwd (fun _ => 0) dy) (nI kd) rf n)).1).2.2.1)
    (hB2 : B2 = if plS B dy (nwd (fun _ => 0) dy) (nI kd) rf n = 0 then B else (mkF fm ft (nI kd) cp pl dy (plR fm B dy (nwd (fun _ => 0) dy) (nI kd) rf n) B (plS B dy (nwd (fun _ => 0) dy) (nI kd) rf n)).2)
    (ht2 : tf2 = if plS B dy (nwd (fun _ => 0) dy) (nI kd) rf n = 0 then tf else tot4 tf kd (endT fm ft (nI kd) pl (mkF fm ft (nI kd) cp pl dy (plR fm B dy (nwd (fun _ => 0) dy) (nI kd) rf n) B (plS B dy (nwd (fun _ => 0) dy) (nI kd) rf n)).1)) :
    (if r ≤ 0 then (0 : Int32) else 1) = (if nI N ≤ 0 then (0 : Int32) else 1) ∧ ∃ l0 v0 : Int64, CO n dy kd N cp wq B B2 tf tf2 l0 v0 := by
  obtain ⟨hk, hNn, hN, hW, hq, hinj⟩ := hw
  rw [hN rf] at hr hB2 ht2
  by_cases h0 : N = 0
  · rw [if_pos h0] at hr hB2 ht2
    subst hr
    subst hB2
    subst ht2
    subst h0
    refine ⟨rfl, 0, 0, hB, fun _ => rfl, fun j hj => absurd hj (Nat.not_lt_zero j), (i64_0 _).symm, (i64_0 _).symm, rfl, ⟨(by decide), (by decide)⟩, ?_⟩
    show (0 : Int) ≤ (0 : Int64).toInt * cp.toInt
    rw [show (0 : Int64).toInt = 0 from rfl, Int.zero_mul]
    exact Int.le_refl _
  · rw [if_neg h0] at hr hB2 ht2
    have hR : ∀ j, j < N → rq (plR fm B dy (nwd (fun _ => 0) dy) (nI kd) rf n) j = wq j := fun j hj => by
      unfold rq
      rw [hW rf j hj]
      exact nI_clamp (by have := hq j hj; omega)
    have hrok : ROK (plR fm B dy (nwd (fun _ => 0) dy) (nI kd) rf n) N n := fun j hj => by
      rw [hR j hj]
      exact ⟨hW rf j hj, hq j hj⟩
    have hnd : NDP (plR fm B dy (nwd (fun _ => 0) dy) (nI kd) rf n) N := fun i j hi hj e => by
      rw [hR i hi, hR j hj] at e
      exact hinj i j hi hj e
    obtain ⟨m1, m2, m3, m4⟩ := mkF_ok (ft := ft) (k := nI kd) (cp := cp) hf hpl hd hn hB hrok hnd (by omega) hc0 hc1 N (Nat.le_refl _)
    have hg := gsum_gw (cp := cp) (B := B) hR N (Nat.le_refl _)
    have hgb := gw_b hB hq hc0 N (Nat.le_refl _)
    rw [hg] at m2
    generalize plR fm B dy (nwd (fun _ => 0) dy) (nI kd) rf n = R at hr hB2 ht2 hR hrok hnd m1 m2 m3 m4 hg
    obtain ⟨t1, t2, ⟨t3, t4⟩, t5⟩ := endT_ok (ft := ft) (k := nI kd) hf hpl (by omega) hc0 hc1 (by omega) m2
    generalize endT fm ft (nI kd) pl (mkF fm ft (nI kd) cp pl dy R B N).1 = t at hr ht2 t1 t2 t3 t4 t5
    subst hB2
    subst ht2
    have z0 := i0
    refine ⟨?_, t.2.2.2.2.toInt64, t.2.2.2.1.toInt64, m1, fun j => ?_, fun j hj => ?_, tot4_0, tot4_1, ?_, ⟨?_, ?_⟩, ?_⟩
    · have e1 : ¬ r ≤ 0 := fun q => by
        have := i32_le.mp q
        rw [hr] at this
        omega
      have e2 : ¬ nI N ≤ 0 := fun q => by
        have := i32_le.mp q
        rw [nI_toInt (by omega)] at this
        omega
      rw [if_neg e1, if_neg e2]
    · by_cases hj : ∃ i, i < N ∧ rq R i = j
      · obtain ⟨i, hi, rfl⟩ := hj
        rw [m3 i hi]
        exact endB_2 _ _ _
      · rw [m4 j (fun i hi e => hj ⟨i, hi, e⟩)]
    · have := m3 j hj
      rw [hR j hj] at this
      exact this
    · rw [Int32.toInt_toInt64]
      exact t2
    · rw [Int32.toInt_toInt64]
      exact t3
    · rw [Int32.toInt_toInt64]
      exact t4
    · rw [Int32.toInt_toInt64]
      exact t5
/-- what the law asks of a bin's content -/
theorem mnc_max {dy : Nat} {b : Nat → Int32} {cp : Int32} (h : B1 dy b) (h0 : 0 ≤ cp.toInt) : b 4 - mnc cp (b 4) = if 0 < b 4 - cp then b 4 - cp else 0 := by
  obtain ⟨⟨h1, h2⟩, ⟨h3, h4⟩, -⟩ := h
  have z0 := i0
  have hcl : cp.toInt < 2147483648 := cp.toInt_lt
  have e1 : (b 4 - cp).toInt = (b 4).toInt - cp.toInt := i32_sub (by omega) (by omega)
  unfold mnc
  by_cases q : cp < b 4
  · have q1 := i32_lt.mp q
    rw [if_pos q, if_pos (i32_lt.mpr (by omega))]
  · have q1 : ¬ cp.toInt < (b 4).toInt := fun z => q (i32_lt.mpr z)
    rw [if_neg q, if_neg (fun z => by have := i32_lt.mp z; omega), Int32.sub_self]
theorem gw_d {cp tk : Int32} {wq : Nat → Nat} {B : Nat → Nat → Int32} {x : Nat} (hz : ¬ B (wq x) 9 = 0) (ht : tk.toInt = gw cp wq B x) : tk.toInt = gw cp wq B (x + 1) := by
  show _ = gw cp wq B x + gain cp (B (wq x))
  unfold gain
  rw [if_neg hz, ht]
  omega
theorem gw_c {dy : Nat} {cp tk : Int32} {wq : Nat → Nat} {B : Nat → Nat → Int32} {x : Nat} (hz : B (wq x) 9 = 0) (hb : B1 dy (B (wq x))) (hc : 0 ≤ cp.toInt) (ht : tk.toInt = gw cp wq B x) (h0 : 0 ≤ gw cp wq B x ∧ gw cp wq B x ≤ 1000 * (x : Int)) (hx : x ≤ 16) : (tk + (B (wq x) 4 - (B (wq x) 4 - mnc cp (B (wq x) 4)))).toInt = gw cp wq B (x + 1) := by
  have hm := mnc_i (cp := cp) (c := B (wq x) 4)
  obtain ⟨⟨h1, h2⟩, ⟨h3, h4⟩, -⟩ := hb
  have e1 : (B (wq x) 4 - mnc cp (B (wq x) 4)).toInt = (B (wq x) 4).toInt - (mnc cp (B (wq x) 4)).toInt := i32_sub (by rw [hm]; split <;> omega) (by rw [hm]; split <;> omega)
  have e2 : (B (wq x) 4 - (B (wq x) 4 - mnc cp (B (wq x) 4))).toInt = (mnc cp (B (wq x) 4)).toInt := by
    rw [i32_sub (by rw [e1, hm]; split <;> omega) (by rw [e1, hm]; split <;> omega), e1]
    omega
  show _ = gw cp wq B x + gain cp (B (wq x))
  unfold gain
  rw [if_pos hz, i32_add (by rw [e2, hm]; split <;> omega) (by rw [e2, hm]; split <;> omega), e2, ht]
/-! the law's long numbers -/
theorem i64_as (x y : Int64) : x + y - x = y := by
  rw [Int64.add_comm]
  exact Int64.add_sub_cancel y x
theorem l0_eq {l0 : Int64} {tk : Int32} (h : l0.toInt = tk.toInt) : l0 = tk.toInt64 := Int64.toInt_inj.mp (by rw [h, Int32.toInt_toInt64])
theorem v_lt {v0 : Int64} {cp tk : Int32} {N : Nat} (hv0 : 0 ≤ v0.toInt) (hv1 : v0.toInt ≤ (N : Int)) (hN : N ≤ 16) (hc0 : 0 ≤ cp.toInt) (hc1 : cp.toInt ≤ 5000) (h : tk.toInt ≤ v0.toInt * cp.toInt) : ¬ lg_cmp (v0 * Int32.toInt64 cp) (Int32.toInt64 tk) < 0 := fun q => by
  have q1 := (lg_cmp_lt _ _).mp q
  rw [Int64.lt_iff_toInt_lt, Int32.toInt_toInt64, Int64.toInt_mul, Int32.toInt_toInt64] at q1
  have b0 : 0 ≤ v0.toInt * cp.toInt := Int.mul_nonneg hv0 hc0
  have b1 : v0.toInt * cp.toInt ≤ 16 * 5000 := Int.mul_le_mul (by omega) hc1 hc0 (by decide)
  generalize v0.toInt * cp.toInt = z at q1 b0 b1 h
  have e : z.bmod (2 ^ 64) = z := by
    simp only [Int.bmod]
    split <;> omega
  rw [e] at q1
  omega
theorem v_le {v0 : Int64} {N : Nat} (hv1 : v0.toInt ≤ (N : Int)) (hN : N ≤ 16) : lg_cmp v0 (Int32.toInt64 (nI N)) ≤ 0 := by
  rw [lg_cmp_le, Int64.le_iff_toInt_le, Int32.toInt_toInt64, nI_toInt (by omega)]
  exact hv1
/-! the law's last look -/
theorem bk_cs {dy : Nat} {b : Nat → Int32} (h : B1 dy b) : ¬ b 2 < b 4 := fun q => by
  have := i32_lt.mp q
  have := h.1
  omega
theorem fcst_le (z r em d : Int32) : fcst z r em d ≤ z := by
  unfold fcst
  split
  · next q =>
    have := i32_lt.mp q
    exact i32_le.mpr (by omega)
  · exact i32_le.mpr (Int.le_refl _)
theorem okR_dy {dy : Nat} (h : dy ≤ 399) : okR (nI dy).toInt 999 (nI dy) = true := okR_nI (by rw [nI_toInt (by omega)]; exact Int.le_refl _) (by omega) (by omega)


