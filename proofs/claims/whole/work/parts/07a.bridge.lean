theorem sh_i : ∀ i, i < 16 → ((nI i &&& 31).toBitVec.smod 32).toNat = i := by decide +kernel
theorem one_sh : ∀ i, i < 16 → ((1 : Int32) <<< (nI i &&& 31)).toBitVec = BitVec.twoPow 32 i := by decide +kernel
theorem and1 (x : BitVec 32) : (x &&& 1#32 = 1#32) ↔ x.getLsbD 0 = true := by
  constructor
  · intro h
    have h1 : (x &&& 1#32).getLsbD 0 = (1#32).getLsbD 0 := by rw [h]
    rw [BitVec.getLsbD_and] at h1
    simpa using h1
  · intro h
    apply BitVec.eq_of_getLsbD_eq
    intro i hi
    rw [BitVec.getLsbD_and]
    by_cases h0 : i = 0
    · subst h0
      rw [h]
      rfl
    · have h2 : (1#32).getLsbD i = false := by
        rw [BitVec.getLsbD_one]
        simp [h0]
      rw [h2, Bool.and_false]
theorem hasT_bit (x : Int32) {i : Nat} (hi : i < 16) : hasT x (nI i) = if x.toBitVec.getLsbD i = true then 1 else 0 := by
  unfold hasT
  have h1 : ((x >>> (nI i &&& 31)) &&& 1 = 1) ↔ x.toBitVec.getLsbD i = true := by
    rw [← Int32.toBitVec_inj, Int32.toBitVec_and, Int32.toBitVec_shiftRight]
    show (BitVec.sshiftRight' _ _ &&& 1#32 = 1#32) ↔ _
    rw [and1]
    unfold BitVec.sshiftRight'
    rw [sh_i i hi, BitVec.getLsbD_sshiftRight]
    simp [show i < 32 by omega]
  by_cases h : x.toBitVec.getLsbD i = true
  · rw [if_pos (h1.mpr h), if_pos h]
  · rw [if_neg (fun q => h (h1.mp q)), if_neg h]
theorem hasT_or (x : Int32) {i q : Nat} (hi : i < 16) (hq : q < 16) : hasT (x ||| (1 <<< (nI q &&& 31))) (nI i) = if i = q then 1 else hasT x (nI i) := by
  rw [hasT_bit _ hi, hasT_bit _ hi, Int32.toBitVec_or, one_sh q hq, BitVec.getLsbD_or, BitVec.getLsbD_twoPow]
  by_cases h : i = q
  · subst h
    simp [show i < 32 by omega]
  · simp [h, Ne.symm h]
theorem hasT_0 {i : Nat} (hi : i < 16) : hasT 0 (nI i) = 0 := by
  rw [hasT_bit _ hi]
  exact if_neg (by simp)
/-- the mask after t choices -/
theorem dnF_has {qs : Nat → Nat} {n : Nat} (hn : n ≤ 16) : ∀ t, (∀ j, j < t → qs j < n) → ∀ i, i < n → (hasT (dnF qs t) (nI i) = 0 ↔ ∀ j, j < t → qs j ≠ i)
  | 0, _, i, hi => ⟨fun _ j hj => absurd hj (Nat.not_lt_zero j), fun _ => hasT_0 (by omega)⟩
  | t + 1, h, i, hi => by
    rw [dnF, hasT_or _ (by omega) (by have := h t (by omega); omega)]
    have ih := dnF_has hn t (fun j hj => h j (by omega)) i hi
    by_cases e : i = qs t
    · rw [if_pos e]
      exact ⟨fun q => absurd q (by decide), fun q => absurd e.symm (q t (by omega))⟩
    · rw [if_neg e, ih]
      constructor
      · intro q j hj
        rcases Nat.lt_or_ge j t with r | r
        · exact q j r
        · rw [show j = t by omega]
          exact fun z => e z.symm
      · exact fun q j hj => q j (by omega)
theorem min_same : ∀ k, k < 100 → miA 10 k = mdM 100 k := by decide +kernel
theorem rq_congr {rf rf' : Nat → Int32} {i : Nat} (h : rf i = rf' i) : rq rf i = rq rf' i := by unfold rq; rw [h]
theorem mkF_congr {fm ft : Nat → Int32} {k cp : Int32} {pl dy : Nat} {rf rf' : Nat → Int32} {B : Nat → Nat → Int32} : ∀ N, (∀ j, j < N → rf j = rf' j) → mkF fm ft k cp pl dy rf B N = mkF fm ft k cp pl dy rf' B N
  | 0, _ => rfl
  | N + 1, h => by rw [mkF, mkF, mkF_congr N (fun j hj => h j (by omega)), rq_congr (h N (by omega))]
theorem wkF_congr {fm ft : Nat → Int32} {k cp : Int32} {pl : Nat} {rf rf' : Nat → Int32} {B : Nat → Nat → Int32} : ∀ N, (∀ j, j < N → rf j = rf' j) → wkF fm ft k cp pl rf B N = wkF fm ft k cp pl rf' B N
  | 0, _ => rfl
  | N + 1, h => by rw [wkF, wkF, wkF_congr N (fun j hj => h j (by omega)), rq_congr (h N (by omega))]
/-- the route's nearest stop: its place, its minutes, and that none is nearer, nor as near with a smaller number -/
theorem nsF_min {fm : Nat → Int32} {B : Nat → Nat → Int32} {rf : Nat → Int32} {fr f : Nat} : ∀ t, f ≤ (nsF fm B rf fr f t).1 ∧ (nsF fm B rf fr f t).1 ≤ f + t ∧ (nsF fm B rf fr f t).2 = drvR fm B rf fr (nsF fm B rf fr f t).1 ∧ ∀ j, f ≤ j → j ≤ f + t → ¬ (drvR fm B rf fr j < drvR fm B rf fr (nsF fm B rf fr f t).1) ∧ (drvR fm B rf fr j = drvR fm B rf fr (nsF fm B rf fr f t).1 → ¬ rf j < rf (nsF fm B rf fr f t).1)
  | 0 => ⟨Nat.le_refl _, Nat.le_refl _, rfl, fun j h1 h2 => by
      have e : j = f := by omega
      rw [e]
      show ¬ (drvR fm B rf fr f < drvR fm B rf fr f) ∧ (_ → ¬ rf f < rf f)
      exact ⟨fun q => by have := i32_lt.mp q; omega, fun _ q => by have := i32_lt.mp q; omega⟩⟩
  | t + 1 => by
    obtain ⟨h1, h2, h3, h4⟩ := nsF_min (fm := fm) (B := B) (rf := rf) (fr := fr) (f := f) t
    rw [nsF]
    by_cases hc : drvR fm B rf fr (f + 1 + t) < (nsF fm B rf fr f t).2 ∨ (drvR fm B rf fr (f + 1 + t) = (nsF fm B rf fr f t).2 ∧ rf (f + 1 + t) < rf (nsF fm B rf fr f t).1)
    · rw [if_pos hc]
      refine ⟨by show f ≤ f + 1 + t; omega, by show f + 1 + t ≤ f + (t + 1); omega, rfl, fun j g1 g2 => ?_⟩
      show ¬ (drvR fm B rf fr j < drvR fm B rf fr (f + 1 + t)) ∧ (drvR fm B rf fr j = drvR fm B rf fr (f + 1 + t) → ¬ rf j < rf (f + 1 + t))
      by_cases e : j = f + 1 + t
      · subst e
        exact ⟨fun q => by have := i32_lt.mp q; omega, fun _ q => by have := i32_lt.mp q; omega⟩
      · obtain ⟨k1, k2⟩ := h4 j g1 (by omega)
        rw [h3] at hc
        have k1' : ¬ (drvR fm B rf fr j).toInt < (drvR fm B rf fr (nsF fm B rf fr f t).1).toInt := fun q => k1 (i32_lt.mpr q)
        constructor
        · intro q
          have q1 := i32_lt.mp q
          rcases hc with c | ⟨c, -⟩
          · have c1 := i32_lt.mp c; omega
          · rw [c] at q1; omega
        · intro q r
          rcases hc with c | ⟨c, c2⟩
          · have c1 := i32_lt.mp c
            rw [q] at k1'
            omega
          · have r1 := i32_lt.mp r
            have c3 := i32_lt.mp c2
            exact k2 (q.trans c) (i32_lt.mpr (by omega))
    · rw [if_neg hc]
      refine ⟨h1, by omega, h3, fun j g1 g2 => ?_⟩
      by_cases e : j = f + 1 + t
      · subst e
        rw [h3] at hc
        exact ⟨fun q => hc (Or.inl q), fun q r => hc (Or.inr ⟨q, r⟩)⟩
      · exact h4 j g1 (by omega)
/-- a bin that may be chosen -/
def El (B : Nat → Nat → Int32) (dy nw : Nat) (k dn : Int32) (i : Nat) : Prop := B i 1 = k ∧ hasT dn (nI i) = 0 ∧ ¬ dueB (B i) (nI dy) (nI nw) = 0
theorem bsF_spec {fm : Nat → Int32} {B : Nat → Nat → Int32} {dy nw : Nat} {k dn : Int32} {fa : Nat} : ∀ n, (bsF fm B dy nw k dn fa n = none → ∀ i, i < n → ¬ El B dy nw k dn i) ∧ ∀ q, bsF fm B dy nw k dn fa n = some q → q < n ∧ El B dy nw k dn q ∧ ∀ i, i < n → El B dy nw k dn i → ¬ fm (fa * 10 + plc B i) < fm (fa * 10 + plc B q) ∧ (fm (fa * 10 + plc B i) = fm (fa * 10 + plc B q) → q ≤ i)
  | 0 => ⟨fun _ i hi => absurd hi (Nat.not_lt_zero i), (fun q h => by cases h)⟩
  | n + 1 => by
    obtain ⟨h1, h2⟩ := bsF_spec (fm := fm) (B := B) (dy := dy) (nw := nw) (k := k) (dn := dn) (fa := fa) n
    rw [bsF]
    by_cases hc : B n 1 = k ∧ hasT dn (nI n) = 0 ∧ ¬ dueB (B n) (nI dy) (nI nw) = 0
    · rw [if_pos hc]
      cases hb : bsF fm B dy nw k dn fa n with
      | none =>
        have h3 := h1 hb
        refine ⟨(fun h => by cases h), fun q h => ?_⟩
        cases h
        refine ⟨by omega, hc, fun i hi he => ?_⟩
        by_cases e : i = n
        · rw [e]
          exact ⟨fun q => by have := i32_lt.mp q; omega, fun _ => Nat.le_refl _⟩
        · exact absurd he (h3 i (by omega))
      | some r =>
        obtain ⟨g1, g2, g3⟩ := h2 r hb
        unfold bsS
        by_cases hd : fm (fa * 10 + plc B n) < fm (fa * 10 + plc B r)
        · simp only [hd, if_true]
          refine ⟨(fun h => by cases h), fun q h => ?_⟩
          cases h
          have d1 := i32_lt.mp hd
          refine ⟨by omega, hc, fun i hi he => ?_⟩
          by_cases e : i = n
          · rw [e]
            exact ⟨fun q => by have := i32_lt.mp q; omega, fun _ => Nat.le_refl _⟩
          · obtain ⟨k1, k2⟩ := g3 i (by omega) he
            have k3 : ¬ (fm (fa * 10 + plc B i)).toInt < (fm (fa * 10 + plc B r)).toInt := fun q => k1 (i32_lt.mpr q)
            exact ⟨fun q => by have := i32_lt.mp q; omega, fun q => by rw [q] at k3; omega⟩
        · simp only [hd, if_false]
          refine ⟨(fun h => by cases h), fun q h => ?_⟩
          cases h
          refine ⟨by omega, g2, fun i hi he => ?_⟩
          by_cases e : i = n
          · rw [e]
            exact ⟨hd, fun _ => by omega⟩
          · exact g3 i (by omega) he
    · rw [if_neg hc]
      refine ⟨fun h i hi he => ?_, fun q h => ?_⟩
      · by_cases e : i = n
        · rw [e] at he
          exact hc he
        · exact h1 h i (by omega) he
      · obtain ⟨g1, g2, g3⟩ := h2 q h
        refine ⟨by omega, g2, fun i hi he => ?_⟩
        by_cases e : i = n
        · rw [e] at he
          exact absurd he hc
        · exact g3 i (by omega) he
theorem bsF_of {fm : Nat → Int32} {B : Nat → Nat → Int32} {dy nw : Nat} {k dn : Int32} {fa n q : Nat} (hq : q < n) (he : El B dy nw k dn q) (hm : ∀ i, i < n → El B dy nw k dn i → ¬ fm (fa * 10 + plc B i) < fm (fa * 10 + plc B q) ∧ (fm (fa * 10 + plc B i) = fm (fa * 10 + plc B q) → q ≤ i)) : bsF fm B dy nw k dn fa n = some q := by
  obtain ⟨h1, h2⟩ := bsF_spec (fm := fm) (B := B) (dy := dy) (nw := nw) (k := k) (dn := dn) (fa := fa) n
  cases hb : bsF fm B dy nw k dn fa n with
  | none => exact absurd he (h1 hb q hq)
  | some r =>
    obtain ⟨g1, g2, g3⟩ := h2 r hb
    obtain ⟨a1, a2⟩ := g3 q hq he
    obtain ⟨b1, b2⟩ := hm r g1 g2
    have e : fm (fa * 10 + plc B q) = fm (fa * 10 + plc B r) := by
      refine Int32.toInt_inj.mp ?_
      have c1 : ¬ (fm (fa * 10 + plc B q)).toInt < (fm (fa * 10 + plc B r)).toInt := fun z => a1 (i32_lt.mpr z)
      have c2 : ¬ (fm (fa * 10 + plc B r)).toInt < (fm (fa * 10 + plc B q)).toInt := fun z => b1 (i32_lt.mpr z)
      omega
    have := a2 e
    have := b2 e.symm
    rw [show r = q by omega]
theorem bsF_no {fm : Nat → Int32} {B : Nat → Nat → Int32} {dy nw : Nat} {k dn : Int32} {fa n : Nat} (h : ∀ i, i < n → ¬ El B dy nw k dn i) : bsF fm B dy nw k dn fa n = none := by
  cases hb : bsF fm B dy nw k dn fa n with
  | none => rfl
  | some r => exact absurd ((bsF_spec n).2 r hb).2.1 (h r ((bsF_spec n).2 r hb).1)
def Du (B : Nat → Nat → Int32) (dy nw : Nat) (k : Int32) (i : Nat) : Prop := B i 1 = k ∧ ¬ dueB (B i) (nI dy) (nI nw) = 0
theorem rq_up {rf : Nat → Int32} {s i j : Nat} (hi : i < 2 ^ 31) : rq (upd rf s (nI i)) j = if j = s then i else rq rf j := by
  unfold rq upd
  by_cases e : j = s
  · rw [if_pos e, if_pos e]
    exact nI_clamp hi
  · rw [if_neg e, if_neg e]
/-- the filtered route holds just the due bins of the kind, each once -/
theorem flR_mem {B : Nat → Nat → Int32} {dy nw : Nat} {k : Int32} {rf : Nat → Int32} : ∀ i, i ≤ 16 → (∀ j, j < (flR B dy nw k rf i).2 → rq (flR B dy nw k rf i).1 j < i ∧ Du B dy nw k (rq (flR B dy nw k rf i).1 j)) ∧ (∀ x, x < i → Du B dy nw k x → ∃ j, j < (flR B dy nw k rf i).2 ∧ rq (flR B dy nw k rf i).1 j = x) ∧ (∀ a b, a < b → b < (flR B dy nw k rf i).2 → rq (flR B dy nw k rf i).1 a < rq (flR B dy nw k rf i).1 b)
  | 0, _ => ⟨fun j hj => absurd hj (Nat.not_lt_zero j), fun x hx => absurd hx (Nat.not_lt_zero x), fun a b _ hb => absurd hb (Nat.not_lt_zero b)⟩
  | i + 1, hi => by
    obtain ⟨h1, h2, h3⟩ := flR_mem (B := B) (dy := dy) (nw := nw) (k := k) (rf := rf) i (by omega)
    rw [flR]
    by_cases hc : B i 1 = k ∧ ¬ dueB (B i) (nI dy) (nI nw) = 0
    · rw [if_pos hc]
      generalize flR B dy nw k rf i = u at h1 h2 h3
      show (∀ j, j < u.2 + 1 → rq (upd u.1 u.2 (nI i)) j < i + 1 ∧ Du B dy nw k (rq (upd u.1 u.2 (nI i)) j)) ∧ (∀ x, x < i + 1 → Du B dy nw k x → ∃ j, j < u.2 + 1 ∧ rq (upd u.1 u.2 (nI i)) j = x) ∧ (∀ a b, a < b → b < u.2 + 1 → rq (upd u.1 u.2 (nI i)) a < rq (upd u.1 u.2 (nI i)) b)
      refine ⟨fun j hj => ?_, fun x hx hd => ?_, fun a b hab hb => ?_⟩
      · rw [rq_up (by omega)]
        by_cases e : j = u.2
        · rw [if_pos e]
          exact ⟨by omega, hc⟩
        · rw [if_neg e]
          have := h1 j (by omega)
          exact ⟨by omega, this.2⟩
      · by_cases e : x = i
        · exact ⟨u.2, by omega, by rw [rq_up (by omega), if_pos rfl, e]⟩
        · obtain ⟨j, g1, g2⟩ := h2 x (by omega) hd
          exact ⟨j, by omega, by rw [rq_up (by omega), if_neg (by omega)]; exact g2⟩
      · rw [rq_up (by omega), rq_up (by omega), if_neg (show ¬ a = u.2 by omega)]
        by_cases e : b = u.2
        · rw [if_pos e]
          exact (h1 a (by omega)).1
        · rw [if_neg e]
          exact h3 a b hab (by omega)
    · rw [if_neg hc]
      refine ⟨fun j hj => ?_, fun x hx hd => ?_, h3⟩
      · have := h1 j hj
        exact ⟨by omega, this.2⟩
      · by_cases e : x = i
        · rw [e] at hd
          exact absurd hd hc
        · exact h2 x (by omega) hd
/-- the route's first s places hold just the due bins, each once -/
def SOK (B : Nat → Nat → Int32) (dy nw : Nat) (k : Int32) (n : Nat) (rf : Nat → Int32) (s : Nat) : Prop := (∀ j, j < s → rq rf j < n ∧ Du B dy nw k (rq rf j)) ∧ (∀ x, x < n → Du B dy nw k x → ∃ j, j < s ∧ rq rf j = x) ∧ (∀ x y, x < s → y < s → rq rf x = rq rf y → x = y)
def sw (m i j : Nat) : Nat := if j = i then m else if j = m then i else j
theorem sw_sw (m i j : Nat) : sw m i (sw m i j) = j := by unfold sw; split <;> split <;> (try split) <;> omega
theorem sw_lt {m i j s : Nat} (hm : m < s) (hi : i < s) (hj : j < s) : sw m i j < s := by unfold sw; split; exact hm; split; exact hi; exact hj
theorem rq_swap {rf : Nat → Int32} {s n m i j : Nat} (hr : ROK rf s n) (hn : n ≤ 16) (hm : m < s) (hi : i < s) : rq (upd (upd rf m (rf i)) i (nI (rq rf m))) j = rq rf (sw m i j) := by
  rw [rq_up (by have := (hr m hm).2; omega)]
  unfold sw
  by_cases e : j = i
  · rw [if_pos e, if_pos e]
  · rw [if_neg e, if_neg e, (hr i hi).1, rq_up (by have := (hr i hi).2; omega)]
    by_cases e2 : j = m
    · rw [if_pos e2, if_pos e2]
    · rw [if_neg e2, if_neg e2]
theorem SOK.swap {B : Nat → Nat → Int32} {dy nw : Nat} {k : Int32} {n s m i : Nat} {rf : Nat → Int32} (h : SOK B dy nw k n rf s) (hr : ROK rf s n) (hn : n ≤ 16) (hm : m < s) (hi : i < s) : SOK B dy nw k n (upd (upd rf m (rf i)) i (nI (rq rf m))) s := by
  obtain ⟨h1, h2, h3⟩ := h
  refine ⟨fun j hj => ?_, fun x hx hd => ?_, fun x y hx hy e => ?_⟩
  · rw [rq_swap hr hn hm hi]
    exact h1 _ (sw_lt hm hi hj)
  · obtain ⟨j, g1, g2⟩ := h2 x hx hd
    exact ⟨sw m i j, sw_lt hm hi g1, by rw [rq_swap hr hn hm hi, sw_sw]; exact g2⟩
  · rw [rq_swap hr hn hm hi, rq_swap hr hn hm hi] at e
    have := h3 _ _ (sw_lt hm hi hx) (sw_lt hm hi hy) e
    rw [← sw_sw m i x, this, sw_sw]
theorem nsR_lt {fm : Nat → Int32} {B : Nat → Nat → Int32} {rf : Nat → Int32} {s fr i : Nat} (hi : i < s) : i ≤ nsR fm B rf s fr i ∧ nsR fm B rf s fr i < s := by
  have h := nsF_min (fm := fm) (B := B) (rf := rf) (fr := fr) (f := i) (s - (i + 1))
  unfold nsR
  omega
theorem srF_inv {fm : Nat → Int32} {B : Nat → Nat → Int32} {dy nw : Nat} {k : Int32} {n s : Nat} {rf : Nat → Int32} (h : SOK B dy nw k n rf s) (hr : ROK rf s n) (hn : n ≤ 16) : ∀ i, i ≤ s → SOK B dy nw k n (srF fm B rf s i).1 s ∧ ROK (srF fm B rf s i).1 s n
  | 0, _ => ⟨h, hr⟩
  | i + 1, hi => by
    obtain ⟨g1, g2⟩ := srF_inv (fm := fm) h hr hn i (by omega)
    have hm := nsR_lt (fm := fm) (B := B) (rf := (srF fm B rf s i).1) (fr := (srF fm B rf s i).2) (show i < s by omega)
    rw [srF]
    exact ⟨g1.swap g2 hn hm.2 (by omega), g2.swap hm.2 (by omega) hn⟩
/-- chosen places stay -/
theorem srF_keep {fm : Nat → Int32} {B : Nat → Nat → Int32} {dy nw : Nat} {k : Int32} {n s : Nat} {rf : Nat → Int32} (h : SOK B dy nw k n rf s) (hr : ROK rf s n) (hn : n ≤ 16) {j : Nat} : ∀ i, i ≤ s → j < i → rq (srF fm B rf s i).1 j = rq (srF fm B rf s (j + 1)).1 j
  | 0, _, hj => absurd hj (Nat.not_lt_zero j)
  | i + 1, hi, hj => by
    by_cases e : j = i
    · rw [e]
    · have ih := srF_keep (fm := fm) h hr hn (j := j) i (by omega) (by omega)
      rw [← ih]
      have g2 := (srF_inv (fm := fm) h hr hn i (by omega)).2
      have hm := nsR_lt (fm := fm) (B := B) (rf := (srF fm B rf s i).1) (fr := (srF fm B rf s i).2) (show i < s by omega)
      rw [srF]
      show rq (upd (upd (srF fm B rf s i).1 _ _) i _) j = _
      rw [rq_swap g2 hn hm.2 (by omega)]
      unfold sw
      rw [if_neg e, if_neg (by omega)]
/-- the class's plan is the model's -/
theorem plan_is {fm : Nat → Int32} {B : Nat → Nat → Int32} {dy nw : Nat} {k : Int32} {n s : Nat} {rf : Nat → Int32} (h : SOK B dy nw k n rf s) (hr : ROK rf s n) (hn : n ≤ 16) (hs : s ≤ n) : PLN fm B dy nw k n (rq (srF fm B rf s s).1) s := by
  obtain ⟨qs, hqs⟩ : ∃ qs, qs = rq (srF fm B rf s s).1 := ⟨_, rfl⟩
  rw [← hqs]
  have hS := (srF_inv (fm := fm) h hr hn s (Nat.le_refl _)).1
  have hlt : ∀ t, t < s → qs t < n := fun t ht => by rw [hqs]; exact (hS.1 t ht).1
  have hdu : ∀ t, t < s → Du B dy nw k (qs t) := fun t ht => by rw [hqs]; exact (hS.1 t ht).2
  have hkeep : ∀ t j, t ≤ s → j < t → rq (srF fm B rf s t).1 j = qs j := fun t j ht hj => by
    rw [srF_keep h hr hn t ht hj, hqs, srF_keep h hr hn s (Nat.le_refl _) (by omega)]
  have hat : ∀ t, t < s → qs t = rq (srF fm B rf s t).1 (nsR fm B (srF fm B rf s t).1 s (srF fm B rf s t).2 t) := fun t ht => by
    have g2 := (srF_inv (fm := fm) h hr hn t (by omega)).2
    have hm := nsR_lt (fm := fm) (B := B) (rf := (srF fm B rf s t).1) (fr := (srF fm B rf s t).2) ht
    rw [← hkeep (t + 1) t (by omega) (by omega), srF]
    show rq (upd (upd (srF fm B rf s t).1 _ _) t _) t = _
    rw [rq_swap g2 hn hm.2 ht]
    unfold sw
    rw [if_pos rfl]
  have hpl : ∀ t, t ≤ s → (srF fm B rf s t).2 = atF B qs t := fun t ht => by
    cases t with
    | zero => rfl
    | succ t =>
      rw [srF, atF, hat t (by omega)]
  have hel : ∀ t i, t ≤ s → i < n → El B dy nw k (dnF qs t) i → Du B dy nw k i ∧ ∀ j, j < t → qs j ≠ i := fun t i ht hi he => ⟨⟨he.1, he.2.2⟩, (dnF_has hn t (fun j hj => hlt j (by omega)) i hi).mp he.2.1⟩
  refine ⟨hs, hlt, fun t ht => ?_, bsF_no fun i hi he => ?_⟩
  · obtain ⟨g1, g2⟩ := srF_inv (fm := fm) h hr hn t (by omega)
    have hm := nsR_lt (fm := fm) (B := B) (rf := (srF fm B rf s t).1) (fr := (srF fm B rf s t).2) ht
    have hmin := nsF_min (fm := fm) (B := B) (rf := (srF fm B rf s t).1) (fr := (srF fm B rf s t).2) (f := t) (s - (t + 1))
    refine bsF_of (hlt t ht) ⟨(hdu t ht).1, (dnF_has hn t (fun j hj => hlt j (by omega)) _ (hlt t ht)).mpr (fun j hj e => ?_), (hdu t ht).2⟩ (fun i hi he => ?_)
    · have := hS.2.2 j t (by omega) ht (by rw [← hqs]; exact e)
      omega
    · obtain ⟨e1, e2⟩ := hel t i (by omega) hi he
      obtain ⟨j0, k1, k2⟩ := g1.2.1 i hi e1
      have k3 : t ≤ j0 := by
        rcases Nat.lt_or_ge j0 t with z | z
        · exact absurd ((hkeep t j0 (by omega) z).symm.trans k2) (e2 j0 z)
        · exact z
      obtain ⟨m1, m2⟩ := hmin.2.2.2 j0 k3 (by omega)
      have d1 : drvR fm B (srF fm B rf s t).1 (srF fm B rf s t).2 j0 = fm (atF B qs t * 10 + plc B i) := by unfold drvR; rw [k2, hpl t (by omega)]
      have d2 : drvR fm B (srF fm B rf s t).1 (srF fm B rf s t).2 (nsF fm B (srF fm B rf s t).1 (srF fm B rf s t).2 t (s - (t + 1))).1 = fm (atF B qs t * 10 + plc B (qs t)) := by unfold drvR; rw [hat t ht, hpl t (by omega)]; rfl
      rw [d1, d2] at m1
      rw [d1, d2] at m2
      refine ⟨m1, fun z => ?_⟩
      have m3 := m2 z
      have r1 := (g2 j0 k1).1
      have r2 : (srF fm B rf s t).1 (nsF fm B (srF fm B rf s t).1 (srF fm B rf s t).2 t (s - (t + 1))).1 = nI (qs t) := by rw [hat t ht]; exact (g2 _ hm.2).1
      rw [k2] at r1
      rw [r1, r2] at m3
      rcases Nat.lt_or_ge i (qs t) with z2 | z2
      · exact absurd ((nI_ltI (by omega) (by have := hlt t ht; omega)).mpr z2) m3
      · exact z2
  · obtain ⟨e1, e2⟩ := hel s i (Nat.le_refl _) hi he
    obtain ⟨j0, k1, k2⟩ := hS.2.1 i hi e1
    exact e2 j0 k1 (by rw [hqs]; exact k2)
theorem plan_sok {B : Nat → Nat → Int32} {dy nw : Nat} {k : Int32} {n : Nat} {rf : Nat → Int32} (hn : n ≤ 16) : SOK B dy nw k n (flR B dy nw k rf n).1 (flR B dy nw k rf n).2 := by
  obtain ⟨h1, h2, h3⟩ := flR_mem (B := B) (dy := dy) (nw := nw) (k := k) (rf := rf) n hn
  refine ⟨h1, h2, fun x y hx hy e => ?_⟩
  rcases Nat.lt_trichotomy x y with z | z | z
  · have := h3 x y z hy; omega
  · exact z
  · have := h3 y x z hx; omega
theorem plan_all {fm : Nat → Int32} {B : Nat → Nat → Int32} {dy nw : Nat} {k : Int32} {n : Nat} {rf : Nat → Int32} (hn : n ≤ 16) : PLN fm B dy nw k n (rq (plR fm B dy nw k rf n)) (plS B dy nw k rf n) := by
  have h := flR_ok (B := B) (dy := dy) (nw := nw) (k := k) (rf := rf) hn n (Nat.le_refl _)
  exact plan_is (plan_sok hn) h.2 hn h.1


