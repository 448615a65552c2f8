theorem i32_add {x y : Int32} (h1 : -2147483648 ≤ x.toInt + y.toInt) (h2 : x.toInt + y.toInt ≤ 2147483647) : (x + y).toInt = x.toInt + y.toInt := by
  rw [Int32.toInt_add]
  simp only [Int.bmod]
  split <;> omega
theorem i32_sub {x y : Int32} (h1 : -2147483648 ≤ x.toInt - y.toInt) (h2 : x.toInt - y.toInt ≤ 2147483647) : (x - y).toInt = x.toInt - y.toInt := by
  rw [Int32.toInt_sub]
  simp only [Int.bmod]
  split <;> omega
theorem i64_add {x y : Int32} (h1 : -2147483648 ≤ x.toInt + y.toInt) (h2 : x.toInt + y.toInt ≤ 2147483647) : (x + y).toInt64 = x.toInt64 + y.toInt64 := by
  refine Int64.toInt_inj.mp ?_
  rw [Int64.toInt_add, Int32.toInt_toInt64, Int32.toInt_toInt64, Int32.toInt_toInt64, i32_add h1 h2]
  simp only [Int.bmod]
  split <;> omega
def FMOK (fm : Nat → Int32) : Prop := ∀ i, i < 100 → 0 ≤ (fm i).toInt ∧ (fm i).toInt ≤ 120
def CBK (n : Nat) (B : Nat → Nat → Int32) : Prop := ∀ i, i < n → 0 ≤ (B i 4).toInt ∧ (B i 4).toInt ≤ 1000
def TIPS (ft : Nat → Int32) (k : Int32) (pl : Nat) : Prop := ∃ q, q < pl ∧ ¬ hasT (ft q) k = 0
theorem dv2_b {fm : Nat → Int32} {x y q : Nat} (h : FMOK fm) (hx : x < 10) (hy : y < 10) (hq : q < 10) : (dv2 fm x y q).toInt ≤ 240 := by
  have h1 := h (x * 10 + q) (by omega)
  have h2 := h (q * 10 + y) (by omega)
  unfold dv2
  rw [i32_add (by omega) (by omega)]
  omega
theorem ov_tfo {fm ft : Nat → Int32} {k : Int32} {x y : Nat} (h : FMOK fm) (hx : x < 10) (hy : y < 10) : ∀ n, n ≤ 10 → (tfo fm ft k x y n = none → ovT fm ft k x y n = 240) ∧ ∀ q, tfo fm ft k x y n = some q → q < n ∧ ovT fm ft k x y n = dv2 fm x y q
  | 0, _ => ⟨fun _ => rfl, fun q e => by cases e⟩
  | n + 1, hn => by
    have ih := ov_tfo (ft := ft) (k := k) h hx hy n (by omega)
    rw [tfo]
    by_cases hh : hasT (ft n) k = 0
    · rw [if_pos hh, ovT_t hh]
      exact ⟨ih.1, fun q e => ⟨by have := (ih.2 q e).1; omega, (ih.2 q e).2⟩⟩
    · rw [if_neg hh, ovT_f hh]
      show _ ∧ ∀ q, _ → _ ∧ (if dv2 fm x y n < ovT fm ft k x y n then dv2 fm x y n else ovT fm ft k x y n) = _
      cases ht : tfo fm ft k x y n with
      | none =>
        rw [ih.1 ht]
        have hlt : (if dv2 fm x y n < 240 then dv2 fm x y n else 240) = dv2 fm x y n := by
          by_cases hc : dv2 fm x y n < 240
          · exact if_pos hc
          · rw [if_neg hc]
            have h3 := dv2_b h hx hy (show n < 10 by omega)
            have h4 : (240 : Int32).toInt = 240 := rfl
            have h5 : ¬ (dv2 fm x y n).toInt < (240 : Int32).toInt := fun hh => hc (i32_lt.mpr hh)
            exact Int32.toInt_inj.mp (by omega)
        exact ⟨(fun e => by cases e), (fun q e => by cases e; exact ⟨by omega, hlt⟩)⟩
      | some r =>
        have h5 := ih.2 r ht
        rw [h5.2]
        unfold tfS
        by_cases h6 : dv2 fm x y n < dv2 fm x y r
        · simp only [h6, if_true]
          exact ⟨(fun e => by cases e), (fun q e => by cases e; exact ⟨by omega, rfl⟩)⟩
        · simp only [h6, if_false]
          exact ⟨(fun e => by cases e), (fun q e => by cases e; exact ⟨by omega, rfl⟩)⟩
theorem tfo_some {fm ft : Nat → Int32} {k : Int32} {x y : Nat} {q : Nat} (hq : ¬ hasT (ft q) k = 0) : ∀ n, q < n → tfo fm ft k x y n ≠ none
  | 0, h => absurd h (Nat.not_lt_zero q)
  | n + 1, h => by
    rw [tfo]
    by_cases hh : hasT (ft n) k = 0
    · rw [if_pos hh]
      exact tfo_some hq n (by rcases Nat.lt_or_ge q n with r | r; exact r; exact absurd (by rw [show q = n by omega]; exact hh) hq)
    · rw [if_neg hh]
      unfold tfS
      split
      · simp
      · split <;> simp
/-- the model's tip: its place, and the minutes there and on -/
theorem tip_is {fm ft : Nat → Int32} {k : Int32} {x y pl : Nat} {r : Int32} (h : FMOK fm) (hx : x < 10) (hy : y < 10) (hpl : pl ≤ 10) (ht : TIPS ft k pl) (hr : r = obI (tfo fm ft k x y pl)) : ∃ q, q < 10 ∧ r = nI q ∧ dv2 fm x y q = ovT fm ft k x y pl := by
  obtain ⟨q0, h1, h2⟩ := ht
  cases hc : tfo fm ft k x y pl with
  | none => exact absurd hc (tfo_some h2 pl h1)
  | some q =>
    have h3 := (ov_tfo (ft := ft) (k := k) h hx hy pl hpl).2 q hc
    exact ⟨q, by omega, by rw [hr, hc]; rfl, h3.2.symm⟩
theorem end_dirty {B : Nat → Nat → Int32} {q : Nat} {tk d : Int32} (h : ¬ B q 9 = 0) : col (updB B q (endB (B q) tk d)) 4 = col B 4 ∧ col (updB B q (endB (B q) tk d)) 5 = col B 5 ∧ col (updB B q (endB (B q) tk d)) 6 = col B 6 ∧ col (updB B q (endB (B q) tk d)) 8 = upd (col B 8) q (col B 8 q + 1) ∧ col (updB B q (endB (B q) tk d)) 9 = upd (col B 9) q (vp_nar .boolean 0) := by
  have e : endB (B q) tk d = upd (upd (B q) 9 0) 8 (B q 8 + 1) := if_neg h
  rw [e]
  exact ⟨col_ne rfl, col_ne rfl, col_ne rfl, col_up rfl, col_up rfl⟩
theorem end_clean {B : Nat → Nat → Int32} {q : Nat} {tk d : Int32} (h : B q 9 = 0) : col (updB B q (endB (B q) tk d)) 4 = upd (col B 4) q (B q 4 - tk) ∧ col (updB B q (endB (B q) tk d)) 5 = upd (col B 5) q (ratB (B q) d) ∧ col (updB B q (endB (B q) tk d)) 6 = upd (col B 6) q d ∧ col (updB B q (endB (B q) tk d)) 8 = col B 8 ∧ col (updB B q (endB (B q) tk d)) 9 = col B 9 := by
  have e : endB (B q) tk d = upd (upd (upd (B q) 5 (ratB (B q) d)) 6 d) 4 (B q 4 - tk) := if_pos h
  rw [e]
  exact ⟨col_up rfl, col_up rfl, col_up rfl, col_ne rfl, col_ne rfl⟩
/-- the lorry and the litres stay in their bounds -/
def LB (cp : Int32) (i : Nat) (t : TS) : Prop := 0 ≤ t.2.1.toInt ∧ t.2.1.toInt ≤ cp.toInt ∧ 0 ≤ t.2.2.2.2.toInt ∧ t.2.2.2.2.toInt + t.2.1.toInt ≤ 1000 * i
theorem tak_b {cp c : Int32} {t : TS} (hc0 : 0 ≤ c.toInt) (hc1 : c.toInt ≤ 1000) (hl0 : 0 ≤ t.2.1.toInt) (hl1 : t.2.1.toInt ≤ cp.toInt) (hcp : cp.toInt ≤ 5000) : 0 ≤ (tak cp c t).toInt ∧ (tak cp c t).toInt ≤ c.toInt ∧ t.2.1.toInt + (tak cp c t).toInt ≤ cp.toInt := by
  have hs : (cp - t.2.1).toInt = cp.toInt - t.2.1.toInt := i32_sub (by omega) (by omega)
  unfold tak
  split
  · next h =>
    have h1 := i32_lt.mp h
    omega
  · next h =>
    have h1 : ¬ (cp - t.2.1).toInt < c.toInt := fun q => h (i32_lt.mpr q)
    omega
theorem mun_b {fm ft : Nat → Int32} {k cp c : Int32} {pl i : Nat} {t : TS} (h : LB cp i t) (hi : i ≤ 16) (hcp : cp.toInt ≤ 5000) (hc0 : 0 ≤ cp.toInt) : LB cp i (mun fm ft k cp pl c t) := by
  unfold mun
  split
  · exact h
  · split
    · exact h
    · obtain ⟨h1, h2, h3, h4⟩ := h
      have h5 : (t.2.2.2.2 + t.2.1).toInt = t.2.2.2.2.toInt + t.2.1.toInt := i32_add (by omega) (by omega)
      exact ⟨(show 0 ≤ (0 : Int32).toInt by decide), hc0, by show 0 ≤ (t.2.2.2.2 + t.2.1).toInt; omega, by show (t.2.2.2.2 + t.2.1).toInt + (0 : Int32).toInt ≤ _; have : (0 : Int32).toInt = 0 := rfl; omega⟩
theorem vis_b {fm ft : Nat → Int32} {k cp : Int32} {pl pb i : Nat} {b : Nat → Int32} {t : TS} (h : LB cp i t) (hi : i < 16) (hcp : cp.toInt ≤ 5000) (hc0 : 0 ≤ cp.toInt) (hb0 : 0 ≤ (b 4).toInt) (hb1 : (b 4).toInt ≤ 1000) : LB cp (i + 1) (visT fm ft k cp pl b pb t) ∧ (b 9 = 0 → 0 ≤ (b 4 - visK fm ft k cp pl b pb t).toInt ∧ (b 4 - visK fm ft k cp pl b pb t).toInt ≤ 1000) := by
  have hd : LB cp i (drv fm t pb) := h
  have hm := mun_b (fm := fm) (ft := ft) (k := k) (c := b 4) (pl := pl) hd (by omega) hcp hc0
  by_cases h9 : b 9 = 0
  · have e1 : visT fm ft k cp pl b pb t = ((mun fm ft k cp pl (b 4) (drv fm t pb)).1, (mun fm ft k cp pl (b 4) (drv fm t pb)).2.1 + tak cp (b 4) (mun fm ft k cp pl (b 4) (drv fm t pb)), (mun fm ft k cp pl (b 4) (drv fm t pb)).2.2.1 + 5, (mun fm ft k cp pl (b 4) (drv fm t pb)).2.2.2.1, (mun fm ft k cp pl (b 4) (drv fm t pb)).2.2.2.2) := if_pos h9
    have e2 : visK fm ft k cp pl b pb t = tak cp (b 4) (mun fm ft k cp pl (b 4) (drv fm t pb)) := if_pos h9
    rw [e1, e2]
    generalize mun fm ft k cp pl (b 4) (drv fm t pb) = u at hm
    obtain ⟨m1, m2, m3, m4⟩ := hm
    have ht := tak_b (t := u) hb0 hb1 m1 m2 hcp
    have h5 : (u.2.1 + tak cp (b 4) u).toInt = u.2.1.toInt + (tak cp (b 4) u).toInt := i32_add (by omega) (by omega)
    have h6 : (b 4 - tak cp (b 4) u).toInt = (b 4).toInt - (tak cp (b 4) u).toInt := i32_sub (by omega) (by omega)
    refine ⟨⟨?_, ?_, m3, ?_⟩, fun _ => ⟨by omega, by omega⟩⟩
    · show 0 ≤ (u.2.1 + tak cp (b 4) u).toInt; omega
    · show (u.2.1 + tak cp (b 4) u).toInt ≤ _; omega
    · show u.2.2.2.2.toInt + (u.2.1 + tak cp (b 4) u).toInt ≤ _; push_cast; omega
  · have e1 : visT fm ft k cp pl b pb t = (pb, t.2.1, (drv fm t pb).2.2.1 + 2, t.2.2.2.1, t.2.2.2.2) := if_neg h9
    rw [e1]
    obtain ⟨h1, h2, h3, h4⟩ := h
    exact ⟨⟨h1, h2, h3, by show t.2.2.2.2.toInt + t.2.1.toInt ≤ _; push_cast; omega⟩, fun q => absurd q h9⟩
theorem CBK.set {n q : Nat} {B : Nat → Nat → Int32} {tk d : Int32} (h : CBK n B) (hk : B q 9 = 0 → 0 ≤ (B q 4 - tk).toInt ∧ (B q 4 - tk).toInt ≤ 1000) : CBK n (updB B q (endB (B q) tk d)) := fun j hj => by
  by_cases e : j = q
  · subst e
    rw [show updB B j (endB (B j) tk d) j = endB (B j) tk d from if_pos rfl]
    by_cases h9 : B j 9 = 0
    · rw [show endB (B j) tk d 4 = B j 4 - tk by unfold endB; rw [if_pos h9]; rfl]
      exact hk h9
    · rw [show endB (B j) tk d 4 = B j 4 by unfold endB; rw [if_neg h9]; rfl]
      exact h j hj
  · rw [show updB B q (endB (B q) tk d) j = B j from if_neg e]
    exact h j hj
theorem set_0 {B B0 : Nat → Nat → Int32} {q : Nat} {tk d : Int32} (h : ∀ j, B j 0 = B0 j 0) : ∀ j, updB B q (endB (B q) tk d) j 0 = B0 j 0 := fun j => by
  by_cases e : j = q
  · subst e
    rw [show updB B j (endB (B j) tk d) j = endB (B j) tk d from if_pos rfl, endB_0]
    exact h j
  · rw [show updB B q (endB (B q) tk d) j = B j from if_neg e]
    exact h j


