/-! worlds behind calls: what came back is put in its places -/
theorem CX.K {p : Program} {s : State} {m : MethodId} {args : Array Value} {meth : Method} {c : Code} {A : Nat → Prop} {g : Gx} {nL : Nat} {cc : ByteArray} {Ts : List Cond} {own : String} (h : CX p s m args meth c A g nL cc Ts own) : va_K g.1 vwCl (tyL g) s := h.2.2.2.2.2.1.1
theorem CX.KN {p : Program} {s : State} {m : MethodId} {args : Array Value} {meth : Method} {c : Code} {A : Nat → Prop} {g : Gx} {nL : Nat} {cc : ByteArray} {Ts : List Cond} {own : String} (h : CX p s m args meth c A g nL cc Ts own) : KX g s := h.2.2.2.2.2.1
theorem CX.ts {p : Program} {s : State} {m : MethodId} {args : Array Value} {meth : Method} {c : Code} {A : Nat → Prop} {g : Gx} {nL : Nat} {cc : ByteArray} {Ts : List Cond} {own : String} (h : CX p s m args meth c A g nL cc Ts own) : ∀ w ∈ Ts, w.before args s = true := h.2.2.2.2.1
theorem CX.arm {p : Program} {s : State} {m : MethodId} {args : Array Value} {meth : Method} {c : Code} {A B : Nat → Prop} {g : Gx} {nL : Nat} {cc : ByteArray} {Ts : List Cond} {own : String} (h : CX p s m args meth c A g nL cc Ts own) (hB : ∀ q, s.heap.size ≤ q → B q) : CX p s m args meth c B g nL cc Ts own := ⟨h.1, h.2.1, h.2.2.1, h.2.2.2.1, h.2.2.2.2.1, h.2.2.2.2.2.1, hB, h.2.2.2.2.2.2.2⟩
def putL : va_W → List Nat → va_W → va_W
  | ws, [], es => ws ++ es
  | ws, _ :: _, [] => ws
  | ws, j :: js, e :: es => putL (ws.set j e) js es
theorem putL_spec : ∀ (js : List Nat) (es ws : va_W), va_nd js = true → (∀ j ∈ js, j < ws.length) → js.length ≤ es.length → ∀ (k : Nat) (q : Nat × va_E), (putL ws js es)[k]? = some q → (k < ws.length ∧ k ∉ js ∧ ws[k]? = some q) ∨ (∃ i, i < js.length ∧ js[i]? = some k ∧ es[i]? = some q) ∨ (ws.length ≤ k ∧ es[js.length + (k - ws.length)]? = some q)
  | [], es, ws, _, _, _, k, q, h => by
    simp only [putL] at h
    by_cases hk : k < ws.length
    · rw [List.getElem?_append_left hk] at h
      exact Or.inl ⟨hk, List.not_mem_nil, h⟩
    · rw [List.getElem?_append_right (by omega)] at h
      refine Or.inr (Or.inr ⟨by omega, ?_⟩)
      simpa using h
  | j :: js, [], ws, _, _, hl, k, q, h => by simp at hl
  | j :: js, e :: es, ws, hn, hj, hl, k, q, h => by
    simp only [va_nd, Bool.and_eq_true, decide_eq_true_eq] at hn
    simp only [putL] at h
    have hl' : js.length ≤ es.length := by simpa using hl
    have ih := putL_spec js es (ws.set j e) hn.2 (fun x hx => by rw [List.length_set]; exact hj x (List.mem_cons_of_mem _ hx)) hl' k q h
    rw [List.length_set] at ih
    rcases ih with ⟨h1, h2, h3⟩ | ⟨i, h1, h2, h3⟩ | ⟨h1, h3⟩
    · by_cases hkj : k = j
      · subst hkj
        rw [List.getElem?_set_self h1] at h3
        exact Or.inr (Or.inl ⟨0, Nat.succ_pos _, rfl, h3⟩)
      · rw [List.getElem?_set_ne (Ne.symm hkj)] at h3
        exact Or.inl ⟨h1, fun z => (List.mem_cons.mp z).elim hkj h2, h3⟩
    · exact Or.inr (Or.inl ⟨i + 1, Nat.succ_lt_succ h1, h2, h3⟩)
    · refine Or.inr (Or.inr ⟨h1, ?_⟩)
      have e9 : (j :: js).length + (k - ws.length) = (js.length + (k - ws.length)) + 1 := by
        show js.length + 1 + (k - ws.length) = _
        omega
      rw [e9, List.getElem?_cons_succ]
      exact h3
theorem at_of_map {is : List Nat} {X w : va_W} (hs : is.map (fun i => X[i]?) = w.map some) {k : Nat} {q : Nat × va_E} (hq : w[k]? = some q) : ∃ i, is[k]? = some i ∧ X[i]? = some q := by
  have h1 : (is.map (fun i => X[i]?))[k]? = some (some q) := by rw [hs, List.getElem?_map, hq]; rfl
  rw [List.getElem?_map] at h1
  cases hi : is[k]? with
  | none => rw [hi] at h1; cases h1
  | some i => rw [hi] at h1; exact ⟨i, rfl, Option.some.inj h1⟩
theorem map_at {is : List Nat} {X w : va_W} (hs : is.map (fun i => X[i]?) = w.map some) {k i : Nat} (hi : is[k]? = some i) : ∃ q, w[k]? = some q ∧ X[i]? = some q := by
  have h1 : (w.map some)[k]? = some (X[i]?) := by rw [← hs, List.getElem?_map, hi]; rfl
  rw [List.getElem?_map] at h1
  cases hq : w[k]? with
  | none => rw [hq] at h1; cases h1
  | some q => rw [hq] at h1; exact ⟨q, rfl, (Option.some.inj h1).symm⟩
theorem P_map {D : va_G} {cl : List vw_C} {X w : va_W} {H : Heap} (h : va_P D cl X H) (is : List Nat) (hs : is.map (fun i => X[i]?) = w.map some) : va_P D cl w H := fun k q hq => by
  obtain ⟨i, -, hi⟩ := at_of_map hs hq
  exact h i q hi
theorem WD.sub {A : Nat → Prop} {g : Gx} {H0 H : Heap} {wW wR cW cR : va_W} {locs : List Loc} (hw : WD A g H0 wW wR H locs) (is : List Nat) (hs : is.map (fun i => (wW ++ wR)[i]?) = (cW ++ cR).map some) (hn : va_nd is = true) : va_P g.1 vwCl (cW ++ cR) H ∧ va_D (fun _ => True) (cW ++ cR) := ⟨P_map hw.1 is hs, hw.2.1.sub is hn hs⟩
theorem WD.cA {A : Nat → Prop} {g : Gx} {H0 H : Heap} {wW wR cW : va_W} {locs : List Loc} (hw : WD A g H0 wW wR H locs) (hA : ∀ q, H0.size ≤ q → A q) {js : List Nat} (hjs : js.map (fun i => wW[i]?) = cW.map some) : ∀ q, va_A cW H.size q → A q := by
  rintro q (⟨i, e, h⟩ | h)
  · obtain ⟨k2, -, h2⟩ := at_of_map hjs h
    exact hw.2.2.1 k2 _ h2
  · exact hA q (Nat.le_trans hw.2.2.2.1 h)
theorem WD.back {A : Nat → Prop} {g : Gx} {H0 H H1 : Heap} {wW wR cW w1 : va_W} {locs locs1 : List Loc} {js : List Nat} (hw : WD A g H0 wW wR H locs) (hA : ∀ q, H0.size ≤ q → A q) (hjs : js.map (fun i => wW[i]?) = cW.map some) (hnd : va_nd js = true) (hlen : js.length ≤ w1.length)
    (hk : ∀ q : Nat, q < H.size → ¬ va_A cW H.size q → H1[q]? = H[q]?) (hP1 : va_P g.1 vwCl w1 H1) (hD1 : va_D (va_A cW H.size) w1) (hS1 : va_S A H0 H1 locs1) : WD A g H0 (putL wW js w1) wR H1 locs1 := by
  have hA1 := hw.cA hA hjs
  obtain ⟨hP, hD, hAw, hS⟩ := hw
  have hjl : ∀ j ∈ js, j < wW.length := fun j hj => by
    obtain ⟨i, hi⟩ := List.getElem?_of_mem hj
    obtain ⟨q, -, h2⟩ := map_at hjs hi
    exact (List.getElem?_eq_some_iff.mp h2).1
  have unch : ∀ (k : Nat) (q : Nat × va_E), (wW ++ wR)[k]? = some q → k ∉ js → q.1 < H.size ∧ ¬ va_A cW H.size q.1 := by
    intro k q hkq hkj
    have hl := (hP k q hkq).lt
    refine ⟨hl, fun h => ?_⟩
    rcases h with ⟨i, e, h⟩ | h
    · obtain ⟨k2, h1, h2⟩ := at_of_map hjs h
      have h2' : (wW ++ wR)[k2]? = some (q.1, e) := by rw [List.getElem?_append_left (List.getElem?_eq_some_iff.mp h2).1]; exact h2
      have hij := hD.1 k k2 q (q.1, e) hkq h2' rfl
      subst hij
      exact hkj (List.mem_of_getElem? h1)
    · omega
  have cls : ∀ (k : Nat) (q : Nat × va_E), (putL wW js w1 ++ wR)[k]? = some q → (∃ k0, k0 ∉ js ∧ (wW ++ wR)[k0]? = some q ∧ k = (if k0 < wW.length then k0 else k0 - wW.length + (putL wW js w1).length)) ∨ (∃ i, w1[i]? = some q ∧ k = (if i < js.length then (js[i]?).getD 0 else wW.length + (i - js.length))) := by
    intro k q hq
    by_cases hkl : k < (putL wW js w1).length
    · rw [List.getElem?_append_left hkl] at hq
      rcases putL_spec js w1 wW hnd hjl hlen k q hq with ⟨h1, h2, h3⟩ | ⟨i, h1, h2, h3⟩ | ⟨h1, h3⟩
      · exact Or.inl ⟨k, h2, by rw [List.getElem?_append_left h1]; exact h3, by rw [if_pos h1]⟩
      · exact Or.inr ⟨i, h3, by rw [if_pos h1, h2]; rfl⟩
      · exact Or.inr ⟨_, h3, by rw [if_neg (by omega)]; omega⟩
    · rw [List.getElem?_append_right (by omega)] at hq
      refine Or.inl ⟨wW.length + (k - (putL wW js w1).length), fun z => by have := hjl _ z; omega, ?_, by rw [if_neg (by omega)]; omega⟩
      rw [List.getElem?_append_right (by omega), Nat.add_sub_cancel_left]
      exact hq
  refine ⟨fun k q hq => ?_, ⟨fun i j x y hx hy hxy => ?_, fun _ _ _ => trivial⟩, fun k q hq => ?_, hS1⟩
  · rcases cls k q hq with ⟨k0, h1, h2, -⟩ | ⟨i, h1, -⟩
    · obtain ⟨g1, g2⟩ := unch k0 q h2 h1
      exact (hP k0 q h2).kept (hk q.1 g1 g2)
    · exact hP1 i q h1
  · rcases cls i x hx with ⟨a, a1, a2, a3⟩ | ⟨a, a1, a2⟩ <;> rcases cls j y hy with ⟨b, b1, b2, b3⟩ | ⟨b, b1, b2⟩
    · have hab := hD.1 a b x y a2 b2 hxy
      rw [a3, b3, hab]
    · exact absurd (by rw [hxy]; exact hD1.2 b y b1) (unch a x a2 a1).2
    · exact absurd (by rw [← hxy]; exact hD1.2 a x a1) (unch b y b2 b1).2
    · have hab := hD1.1 a b x y a1 b1 hxy
      rw [a2, b2, hab]
  · rcases putL_spec js w1 wW hnd hjl hlen k q hq with ⟨h1, h2, h3⟩ | ⟨i, h1, h2, h3⟩ | ⟨h1, h3⟩
    · exact hAw k q h3
    · exact hA1 _ (hD1.2 i q h3)
    · exact hA1 _ (hD1.2 _ q h3)
/-- nothing of the world was changed, the heap may have grown -/
theorem WD.grow {A : Nat → Prop} {g : Gx} {H0 H H1 : Heap} {wW wR : va_W} {locs locs1 : List Loc} (hw : WD A g H0 wW wR H locs) (hk : ∀ q : Nat, q < H.size → ¬ H.size ≤ q → H1[q]? = H[q]?) (hS1 : va_S A H0 H1 locs1) : WD A g H0 wW wR H1 locs1 :=
  ⟨fun k q hq => (hw.1 k q hq).kept (hk q.1 (hw.1 k q hq).lt (Nat.not_le.mpr (hw.1 k q hq).lt)), hw.2.1, hw.2.2.1, hS1⟩
/-- fewer cells, or in another order; a cell that was for writing may be for reading -/
theorem WD.perm {A : Nat → Prop} {g : Gx} {H0 H : Heap} {wW wR vW vR : va_W} {locs : List Loc} (hw : WD A g H0 wW wR H locs) (js jr : List Nat) (hs : (js ++ jr).map (fun i => (wW ++ wR)[i]?) = (vW ++ vR).map some) (hjs : js.map (fun i => wW[i]?) = vW.map some) (hn : va_nd (js ++ jr) = true) : WD A g H0 vW vR H locs := by
  obtain ⟨h1, h2⟩ := hw.sub (js ++ jr) hs hn
  refine ⟨h1, h2, fun k q hq => ?_, hw.2.2.2⟩
  obtain ⟨i, -, hi⟩ := at_of_map hjs hq
  exact hw.2.2.1 i q hi
/-- the cells that may be written are so from here on -/
theorem WD.arm {g : Gx} {H0 H : Heap} {wW wR : va_W} {locs : List Loc} (hw : WD (fun q => H0.size ≤ q) g H0 [] (wW ++ wR) H locs) : WD (va_A wW H0.size) g H0 wW wR H locs :=
  ⟨hw.1, hw.2.1, fun k q hq => va_A.in hq, ⟨hw.2.2.2.1, fun q h1 h2 => hw.2.2.2.2.1 q h1 (fun z => h2 (Or.inr z)), fun z hz => Or.inr (hw.2.2.2.2.2 z hz)⟩⟩

theorem WD.suf {A : Nat → Prop} {g : Gx} {H0 H : Heap} {Y cW : va_W} {locs : List Loc} (hw : WD A g H0 (Y ++ cW) [] H locs) : va_P g.1 vwCl (cW ++ []) H ∧ va_D (fun _ => True) (cW ++ []) := by
  obtain ⟨hP, hD, -, -⟩ := hw
  rw [List.append_nil] at hP hD ⊢
  have hg : ∀ (k : Nat) (q : Nat × va_E), cW[k]? = some q → (Y ++ cW)[Y.length + k]? = some q := fun k q hk => by
    rw [List.getElem?_append_right (Nat.le_add_right _ _), Nat.add_sub_cancel_left]; exact hk
  exact ⟨hP.by _ hg, hD.by _ hg (fun i j _ _ e => Nat.add_left_cancel e)⟩
theorem WD.sufA {A : Nat → Prop} {g : Gx} {H0 H : Heap} {Y cW : va_W} {locs : List Loc} (hw : WD A g H0 (Y ++ cW) [] H locs) (hA : ∀ q, H0.size ≤ q → A q) : ∀ q, va_A cW H.size q → A q := by
  rintro q (⟨i, e, h⟩ | h)
  · exact hw.2.2.1 (Y.length + i) (q, e) (by rw [List.getElem?_append_right (Nat.le_add_right _ _), Nat.add_sub_cancel_left]; exact h)
  · exact hA q (Nat.le_trans hw.2.2.2.1 h)
theorem WD.sufBack {A : Nat → Prop} {g : Gx} {H0 H H1 : Heap} {Y cW w1 : va_W} {locs locs1 : List Loc} (hw : WD A g H0 (Y ++ cW) [] H locs) (hA : ∀ q, H0.size ≤ q → A q) (hk : ∀ q : Nat, q < H.size → ¬ va_A cW H.size q → H1[q]? = H[q]?) (hP1 : va_P g.1 vwCl w1 H1) (hD1 : va_D (va_A cW H.size) w1) (hS1 : va_S A H0 H1 locs1) : WD A g H0 (Y ++ w1) [] H1 locs1 := by
  have hA1 := hw.sufA hA
  obtain ⟨hP, hD, hAw, hS⟩ := hw
  rw [List.append_nil] at hP hD
  have unch : ∀ (k : Nat) (q : Nat × va_E), Y[k]? = some q → q.1 < H.size ∧ ¬ va_A cW H.size q.1 := by
    intro k q hkq
    have hk1 := (List.getElem?_eq_some_iff.mp hkq).1
    have hkq' : (Y ++ cW)[k]? = some q := by rw [List.getElem?_append_left hk1]; exact hkq
    have hl := (hP k q hkq').lt
    refine ⟨hl, fun h => ?_⟩
    rcases h with ⟨i, e, h⟩ | h
    · have h2' : (Y ++ cW)[Y.length + i]? = some (q.1, e) := by rw [List.getElem?_append_right (Nat.le_add_right _ _), Nat.add_sub_cancel_left]; exact h
      have := hD.1 k (Y.length + i) q (q.1, e) hkq' h2' rfl
      omega
    · omega
  refine ⟨?_, ?_, fun k q hq => ?_, hS1⟩
  · rw [List.append_nil]
    refine va_P.app (fun k q hq => ?_) hP1
    have hk1 := (List.getElem?_eq_some_iff.mp hq).1
    obtain ⟨g1, g2⟩ := unch k q hq
    exact (hP k q (by rw [List.getElem?_append_left hk1]; exact hq)).kept (hk q.1 g1 g2)
  · rw [List.append_nil]
    refine va_D.app ⟨fun i j x y hi hj => hD.1 i j x y (by rw [List.getElem?_append_left (List.getElem?_eq_some_iff.mp hi).1]; exact hi) (by rw [List.getElem?_append_left (List.getElem?_eq_some_iff.mp hj).1]; exact hj), fun _ _ _ => trivial⟩ (hD1.weaken (fun _ _ _ _ => trivial)) (fun i j x y hx hy hxy => ?_)
    exact (unch i x hx).2 (by rw [hxy]; exact hD1.2 j y hy)
  · by_cases h1 : k < Y.length
    · rw [List.getElem?_append_left h1] at hq
      exact hAw k q (by rw [List.getElem?_append_left h1]; exact hq)
    · rw [List.getElem?_append_right (by omega)] at hq
      exact hA1 _ (hD1.2 _ q hq)
/-- a cell at the end goes to the front, or back -/
theorem WD.rot {A : Nat → Prop} {g : Gx} {H0 H : Heap} {wW : va_W} {x : Nat × va_E} {locs : List Loc} (hw : WD A g H0 (wW ++ [x]) [] H locs) : WD A g H0 (x :: wW) [] H locs := by
  obtain ⟨hP, hD, hAw, hS⟩ := hw
  rw [List.append_nil] at hP hD
  have hg : ∀ (k : Nat) (q : Nat × va_E), (x :: wW)[k]? = some q → (wW ++ [x])[if k = 0 then wW.length else k - 1]? = some q := by
    intro k q hk
    cases k with
    | zero =>
      rw [if_pos rfl, List.getElem?_append_right (Nat.le_refl _), Nat.sub_self]
      exact hk
    | succ k =>
      rw [if_neg (by omega), Nat.add_sub_cancel, List.getElem?_append_left (List.getElem?_eq_some_iff.mp (show wW[k]? = some q from hk)).1]
      exact hk
  refine ⟨by rw [List.append_nil]; exact hP.by _ hg, ?_, fun k q hk => hAw _ q (hg k q hk), hS⟩
  rw [List.append_nil]
  refine hD.by _ hg (fun i j hi hj e => ?_)
  have hi' : i < wW.length + 1 := hi
  have hj' : j < wW.length + 1 := hj
  by_cases h1 : i = 0 <;> by_cases h2 : j = 0
  · omega
  · rw [if_pos h1, if_neg h2] at e; omega
  · rw [if_neg h1, if_pos h2] at e; omega
  · rw [if_neg h1, if_neg h2] at e; omega
theorem WD.tail {A : Nat → Prop} {g : Gx} {H0 H : Heap} {wW : va_W} {x : Nat × va_E} {locs : List Loc} (hw : WD A g H0 (x :: wW) [] H locs) : WD A g H0 wW [] H locs := by
  obtain ⟨hP, hD, hAw, hS⟩ := hw
  rw [List.append_nil] at hP hD
  refine ⟨by rw [List.append_nil]; exact fun k q hq => hP (k + 1) q hq, ?_, fun k q hq => hAw (k + 1) q hq, hS⟩
  rw [List.append_nil]
  exact hD.by (fun k => k + 1) (fun k q hq => hq) (fun i j _ _ e => Nat.succ.inj e)
theorem WD.arm0 {g : Gx} {H0 H : Heap} {wW : va_W} {locs : List Loc} (hw : WD (fun q => H0.size ≤ q) g H0 [] wW H locs) : WD (va_A wW H0.size) g H0 wW [] H locs := by
  have h1 : WD (fun q => H0.size ≤ q) g H0 [] (wW ++ []) H locs := by rw [List.append_nil]; exact hw
  exact h1.arm
/-! the bins: the list's row and the bins themselves -/
def bE (b : Nat → Int32) : va_E := .inr (1, [.int (b 0), .int (b 1), .int (b 2), .int (b 3), .int (b 4), .int (b 5), .int (b 6), .int (b 7), .int (b 8), .int (b 9)])
def elf (n : Nat) (ad : Nat → Nat) : Nat → Option Nat := fun i => if i < n then some (ad i) else none
def bins (n : Nat) (ad : Nat → Nat) (B : Nat → Nat → Int32) : va_W := (List.range n).map (fun i => (ad i, bE (B i)))
def bp (g : Gx) : Nat → Nat → Nat → (Nat → Nat) → (Nat → Nat → Int32) → va_W
  | 0, _, _, _, _ => []
  | n + 1, ed, cap, ad, B => (ed, .inl (g.2.2.2.2.1, cap, .inr (.inr (.inr (.inr (elf (n + 1) ad)))))) :: bins (n + 1) ad B
def updB (B : Nat → Nat → Int32) (i : Nat) (b : Nat → Int32) : Nat → Nat → Int32 := fun j => if j = i then b else B j
theorem bp_el {g : Gx} {X : va_W} {n ed cap : Nat} {ad : Nat → Nat} {B : Nat → Nat → Int32} (hn : 0 < n) : (X ++ bp g n ed cap ad B)[X.length]? = some (ed, .inl (g.2.2.2.2.1, cap, .inr (.inr (.inr (.inr (elf n ad)))))) := by
  cases n with
  | zero => omega
  | succ n => rw [List.getElem?_append_right (Nat.le_refl _), Nat.sub_self]; rfl
theorem bp_at {g : Gx} {X : va_W} {n ed cap i : Nat} {ad : Nat → Nat} {B : Nat → Nat → Int32} (hi : i < n) : (X ++ bp g n ed cap ad B)[X.length + (i + 1)]? = some (ad i, bE (B i)) := by
  cases n with
  | zero => omega
  | succ n =>
    rw [List.getElem?_append_right (Nat.le_add_right _ _), Nat.add_sub_cancel_left]
    show (bins (n + 1) ad B)[i]? = _
    unfold bins
    rw [List.getElem?_map, List.getElem?_range hi]
    rfl
theorem bp_elW {g : Gx} {X : va_W} {n ed cap : Nat} {ad : Nat → Nat} {B : Nat → Nat → Int32} (hn : 0 < n) : ((X ++ bp g n ed cap ad B) ++ [])[X.length]? = some (ed, .inl (g.2.2.2.2.1, cap, .inr (.inr (.inr (.inr (elf n ad)))))) := by rw [List.append_nil]; exact bp_el hn
theorem bp_atW {g : Gx} {X : va_W} {n ed cap i : Nat} {ad : Nat → Nat} {B : Nat → Nat → Int32} (hi : i < n) : ((X ++ bp g n ed cap ad B) ++ [])[X.length + (i + 1)]? = some (ad i, bE (B i)) := by rw [List.append_nil]; exact bp_at hi
theorem bp_set {g : Gx} {X : va_W} {n ed cap i : Nat} {ad : Nat → Nat} {B : Nat → Nat → Int32} {b : Nat → Int32} (hi : i < n) : (X ++ bp g n ed cap ad B).set (X.length + (i + 1)) (ad i, bE b) = X ++ bp g n ed cap ad (updB B i b) := by
  cases n with
  | zero => omega
  | succ n =>
    rw [List.set_append_right _ _ (Nat.le_add_right _ _), Nat.add_sub_cancel_left]
    congr 1
    show _ :: (bins (n + 1) ad B).set i (ad i, bE b) = _ :: bins (n + 1) ad (updB B i b)
    congr 1
    apply List.ext_getElem?
    intro j
    by_cases hj : j = i
    · subst hj
      rw [List.getElem?_set_self (by unfold bins; simpa using hi)]
      unfold bins
      rw [List.getElem?_map, List.getElem?_range hi]
      simp [updB]
    · rw [List.getElem?_set_ne (Ne.symm hj)]
      unfold bins
      rw [List.getElem?_map, List.getElem?_map]
      cases hc : (List.range (n + 1))[j]? with
      | none => rfl
      | some x =>
        have hx : x = j := by
          obtain ⟨h1, h2⟩ := List.getElem?_eq_some_iff.mp hc
          simpa using h2.symm
        subst hx
        simp [updB, hj]
theorem bp_put {g : Gx} {X : va_W} {n ed cap i : Nat} {ad : Nat → Nat} {B : Nat → Nat → Int32} {b : Nat → Int32} (hi : i < n) : putL (X ++ bp g n ed cap ad B) [X.length + (i + 1)] [(ad i, bE b)] = X ++ bp g n ed cap ad (updB B i b) := by
  show (X ++ bp g n ed cap ad B).set (X.length + (i + 1)) (ad i, bE b) ++ [] = _
  rw [List.append_nil, bp_set hi]
theorem lc {α : Type} {a b : α} {as bs : List α} (h1 : a = b) (h2 : as = bs) : a :: as = b :: bs := by rw [h1, h2]
/-! contracts -/
def PZ (g : Gx) (av : List Value) (sz : Nat) (wW wR : va_W) : Array Value → State → Prop := va_Pc av (fun U => U.heap.size = sz ∧ va_P g.1 vwCl (wW ++ wR) U.heap ∧ KX g U ∧ va_D (fun _ => True) (wW ++ wR))
theorem pz_blind {g : Gx} {av : List Value} {sz : Nat} {wW wR : va_W} : FrameBlind (PZ g av sz wW wR) := fun a U gg mk q => ⟨q.1, q.2.1, q.2.2.1, ⟨va_K.moved (u := U) (U := U.calling gg mk a) (Vm.Alike.refl U.vm) q.2.2.2.1.1, q.2.2.2.1.2.same rfl⟩, q.2.2.2.2⟩
def BZ {S : Type} (g : Gx) (wW : va_W) (sz : Nat) (w1 : S → va_W) : S → State → Prop := fun u t => va_P g.1 vwCl (w1 u) t.heap ∧ va_D (va_A wW sz) (w1 u)
def BZr {S : Type} (g : Gx) (wW : va_W) (sz : Nat) (w1 : S → va_W) (ad : S → Nat) : S → Nat → State → Prop := fun u a t => a = ad u ∧ va_P g.1 vwCl (w1 u) t.heap ∧ va_D (va_A wW sz) (w1 u)
abbrev steU : Heap → State → (Nat → Prop) → Prop := fun H U A => vx_Zq Bundle.tN "UNASSIGNED_STACK" Bundle.steD A U H ∧ vx_Zq Bundle.tN "SUPPRESSED_SENTINEL" Bundle.listD A U H
/-- what a method that throws needs of the launch: where two of Throwable's statics lie, and the texts -/
def EDZ (g : Gx) (A : Nat → Prop) (U : State) (H : Heap) : Prop := va_Z "java/util/ArrayList" "DEFAULTCAPACITY_EMPTY_ELEMENTDATA" "[Ljava/lang/Object;" (.ref g.2.2.2.2.2.1) A U H ∧ va_T (.object "java/lang/Object") g.2.2.2.2.2.1 0 (fun _ => .null) A U H
def TH (g : Gx) (sl : List (Nat × String)) (A : Nat → Prop) (U : State) (H : Heap) : Prop := steU H U A ∧ (∀ q ∈ sl, ∃ a, vk_R RX3 q.1 q.2 a U) ∧ EDZ g A U H
theorem TH.to {g : Gx} {sl : List (Nat × String)} {A B : Nat → Prop} {s U : State} {H0 H : Heap} {locs : List Loc} (h : TH g sl A s H0) (hW : s.WarmedH U.vm) (hS : va_S A H0 H locs) (hBA : ∀ q, B q → A q) (sl' : List (Nat × String)) (hsl : ∀ q ∈ sl', q ∈ sl)  : TH g sl' B U H :=
  ⟨⟨vx_Zq.moved hW.alike ((h.1.1.kept hS.2.1).narrow hBA), vx_Zq.moved hW.alike ((h.1.2.kept hS.2.1).narrow hBA)⟩, fun q hq => by obtain ⟨a, ha⟩ := h.2.1 q (hsl q hq); exact ⟨a, ha.warm hW⟩, va_Z.moved hW.alike ((h.2.2.1.kept hS.2.1).narrow hBA), va_T.moved hW.alike ((h.2.2.2.kept hS.2.1).narrow hBA)⟩
def PX (sl : List (Nat × String)) (g : Gx) (av : List Value) (sz : Nat) (wW wR : va_W) : Array Value → State → Prop := va_Pc av (fun U => U.heap.size = sz ∧ va_P g.1 vwCl (wW ++ wR) U.heap ∧ KX g U ∧ va_D (fun _ => True) (wW ++ wR) ∧ TH g sl (va_A wW sz) U U.heap)
theorem px_blind {sl : List (Nat × String)} {g : Gx} {av : List Value} {sz : Nat} {wW wR : va_W} : FrameBlind (PX sl g av sz wW wR) := fun a U gg mk q => ⟨q.1, q.2.1, q.2.2.1, ⟨va_K.moved (u := U) (U := U.calling gg mk a) (Vm.Alike.refl U.vm) q.2.2.2.1.1, q.2.2.2.1.2.same rfl⟩, q.2.2.2.2.1, ⟨vx_Zq.moved (u := U) (U := U.calling gg mk a) (Vm.Alike.refl U.vm) q.2.2.2.2.2.1.1, vx_Zq.moved (u := U) (U := U.calling gg mk a) (Vm.Alike.refl U.vm) q.2.2.2.2.2.1.2⟩, fun x hx => by obtain ⟨y, hy⟩ := q.2.2.2.2.2.2.1 x hx; exact ⟨y, hy.same (u := U) (U := U.calling gg mk a) rfl⟩, va_Z.moved (u := U) (U := U.calling gg mk a) (Vm.Alike.refl U.vm) q.2.2.2.2.2.2.2.1, va_T.moved (u := U) (U := U.calling gg mk a) (Vm.Alike.refl U.vm) q.2.2.2.2.2.2.2.2⟩
/-- what is thrown, and that nothing old was changed -/
def XZ (pe : String → Prop) (sz : Nat) : String → State → State → Prop := vx_X (S := Unit) (fun _ => True) (fun E _ _ => pe E) (fun q => sz ≤ q)
section ZC
variable {p : Program} {l : Launch} {e : Env} {R : Room} {s : State} {m : MethodId} {args : Array Value} {below : List Frame} {meth : Method} {c : Code} {Q : State → Prop} {A : Nat → Prop} {g : Gx} {nL : Nat} {cc : ByteArray} {Ts : List Cond} {own : String} {pc : Nat} {lv : List (Nat × Value)} {st : List Value} {wW wR : va_W} {kc ks : Nat}
theorem z_perm {vW vR : va_W} (js jr : List Nat) (hs : (js ++ jr).map (fun i => (wW ++ wR)[i]?) = (vW ++ vR).map some) (hjs : js.map (fun i => wW[i]?) = vW.map some) (hn : va_nd (js ++ jr) = true) (k : Z p l e R s m args below meth c Q A g nL pc lv st vW vR kc ks) : Z p l e R s m args below meth c Q A g nL pc lv st wW wR kc ks := fun H locs ls hw hl => k H locs ls (hw.perm js jr hs hjs hn) hl
theorem z_arm (k : Z p l e R s m args below meth c Q (va_A wW s.heap.size) g nL pc lv st wW wR kc ks) : Z p l e R s m args below meth c Q (fun q => s.heap.size ≤ q) g nL pc lv st [] (wW ++ wR) kc ks := fun H locs ls hw hl => k H locs ls hw.arm hl
theorem z_arm0 (k : Z p l e R s m args below meth c Q (va_A wW s.heap.size) g nL pc lv st wW [] kc ks) : Z p l e R s m args below meth c Q (fun q => s.heap.size ≤ q) g nL pc lv st [] wW kc ks := fun H locs ls hw hl => k H locs ls hw.arm0 hl
theorem z_rot {x : Nat × va_E} (k : Z p l e R s m args below meth c Q A g nL pc lv st (x :: wW) [] kc ks) : Z p l e R s m args below meth c Q A g nL pc lv st (wW ++ [x]) [] kc ks := fun H locs ls hw hl => k H locs ls hw.rot hl
theorem z_tail {x : Nat × va_E} (k : Z p l e R s m args below meth c Q A g nL pc lv st wW [] kc ks) : Z p l e R s m args below meth c Q A g nL pc lv st (x :: wW) [] kc ks := fun H locs ls hw hl => k H locs ls hw.tail hl
theorem z_Vi (h : CX p s m args meth c A g nL cc Ts own) {y : MethodName} {C : String} {bytes : ByteArray} {maxL : Nat} {ret : Option FieldType} {ws : List Cond} {rm : Room} {mc ms n index : Nat} {cW cR : va_W} {b : Nat} {As : List Value} {S : Type} {w1 wN : S → va_W} {post : Int32 → S → Prop} (hM : ∀ sz, Met l y ws rm (PZ g (.ref b :: As) sz cW cR) (va_Qi post (BZ g cW sz w1) (va_A cW sz)) mc ms (va_A cW sz)) (cw : CallW R s args own C index y bytes maxL ret ws rm mc ms n) (hn : As.length = n) (js jr : List Nat) (hs : (js ++ jr).map (fun i => (wW ++ wR)[i]?) = (cW ++ cR).map some) (hjs : js.map (fun i => wW[i]?) = cW.map some) (hnd : va_nd (js ++ jr) = true) (hndj : va_nd js = true) (q0 : Nat) {ci : Nat} {fs : List Value} {qC : vw_C} (he : (wW ++ wR)[q0]? = some (b, .inr (ci, fs))) (hc : vwCl[ci]? = some qC) (hqC : qC.1 = C) {st0 : List Value} (hst : st0 = As.reverse ++ .ref b :: st) (hcat : (st.map fun v => v.category).sum ≤ 8) (hroom : kc + mc ≤ R.cells ∧ ks + ms ≤ R.slots) (hlen : ∀ u, js.length ≤ (w1 u).length) (hN : ∀ u, putL wW js (w1 u) = wN u) (hdg : decode cc pc = .ok (.invokevirtual index, 3))
    (kk : ∀ (r : Int32) (u : S), post r u → Z p l e R s m args below meth c Q A g nL (pc + 3) lv (.int r :: st) (wN u) wR (kc + mc) (ks + ms)) : Z p l e R s m args below meth c Q A g nL pc lv st0 wW wR kc ks := by
  intro H locs ls hw hl
  subst hst
  have hsub := hw.sub (js ++ jr) hs hnd
  have hA1 := hw.cA h.2.2.2.2.2.2.1 hjs
  refine va_calli (A1 := va_A cW H.size) (va_runV (As := As) (rest := st) ⟨h.1, h.2.1, h.2.2.1, h.2.2.2.1, h.ts⟩ (hM H.size) cw ⟨pz_blind, by rw [← hqC]; exact va_recv h.K hw.1 hc he, fun U hU hW => ⟨rfl, by rw [hU], by rw [hU]; exact hsub.1, h.KN.warm hW, hsub.2⟩⟩ rfl hn hl.1 rfl (lv_room hcat) hdg hroom) hw.2.2.2 (fun q _ hq => hA1 q hq) hA1 (fun r u t H1 locs1 ht hvm hp hB hz hk hS => ?_)
  obtain ⟨hP1, hD1⟩ := hB
  rw [ht] at hP1
  have hB : _ ∧ _ := ⟨hP1, hD1⟩
  exact kk r u hp H1 locs1 ls (hN u ▸ hw.back h.2.2.2.2.2.2.1 hjs hndj (hlen u) hk hB.1 hB.2 hS) hl
theorem z_Vl (h : CX p s m args meth c A g nL cc Ts own) {y : MethodName} {C : String} {bytes : ByteArray} {maxL : Nat} {ret : Option FieldType} {ws : List Cond} {rm : Room} {mc ms n index : Nat} {cW cR : va_W} {b : Nat} {As : List Value} {S : Type} {w1 wN : S → va_W} {post : Int64 → S → Prop} (hM : ∀ sz, Met l y ws rm (PZ g (.ref b :: As) sz cW cR) (va_Ql post (BZ g cW sz w1) (va_A cW sz)) mc ms (va_A cW sz)) (cw : CallW R s args own C index y bytes maxL ret ws rm mc ms n) (hn : As.length = n) (js jr : List Nat) (hs : (js ++ jr).map (fun i => (wW ++ wR)[i]?) = (cW ++ cR).map some) (hjs : js.map (fun i => wW[i]?) = cW.map some) (hnd : va_nd (js ++ jr) = true) (hndj : va_nd js = true) (q0 : Nat) {ci : Nat} {fs : List Value} {qC : vw_C} (he : (wW ++ wR)[q0]? = some (b, .inr (ci, fs))) (hc : vwCl[ci]? = some qC) (hqC : qC.1 = C) {st0 : List Value} (hst : st0 = As.reverse ++ .ref b :: st) (hcat : (st.map fun v => v.category).sum ≤ 8) (hroom : kc + mc ≤ R.cells ∧ ks + ms ≤ R.slots) (hlen : ∀ u, js.length ≤ (w1 u).length) (hN : ∀ u, putL wW js (w1 u) = wN u) (hdg : decode cc pc = .ok (.invokevirtual index, 3))
    (kk : ∀ (r : Int64) (u : S), post r u → Z p l e R s m args below meth c Q A g nL (pc + 3) lv (.long r :: st) (wN u) wR (kc + mc) (ks + ms)) : Z p l e R s m args below meth c Q A g nL pc lv st0 wW wR kc ks := by
  intro H locs ls hw hl
  subst hst
  have hsub := hw.sub (js ++ jr) hs hnd
  have hA1 := hw.cA h.2.2.2.2.2.2.1 hjs
  refine va_calll (A1 := va_A cW H.size) (va_runV (As := As) (rest := st) ⟨h.1, h.2.1, h.2.2.1, h.2.2.2.1, h.ts⟩ (hM H.size) cw ⟨pz_blind, by rw [← hqC]; exact va_recv h.K hw.1 hc he, fun U hU hW => ⟨rfl, by rw [hU], by rw [hU]; exact hsub.1, h.KN.warm hW, hsub.2⟩⟩ rfl hn hl.1 rfl (lv_room hcat) hdg hroom) hw.2.2.2 (fun q _ hq => hA1 q hq) hA1 (fun r u t H1 locs1 ht hvm hp hB hz hk hS => ?_)
  obtain ⟨hP1, hD1⟩ := hB
  rw [ht] at hP1
  have hB : _ ∧ _ := ⟨hP1, hD1⟩
  exact kk r u hp H1 locs1 ls (hN u ▸ hw.back h.2.2.2.2.2.2.1 hjs hndj (hlen u) hk hB.1 hB.2 hS) hl
theorem z_Vv (h : CX p s m args meth c A g nL cc Ts own) {y : MethodName} {C : String} {bytes : ByteArray} {maxL : Nat} {ret : Option FieldType} {ws : List Cond} {rm : Room} {mc ms n index : Nat} {cW cR : va_W} {b : Nat} {As : List Value} {S : Type} {w1 wN : S → va_W} {post : S → Prop} (hM : ∀ sz, Met l y ws rm (PZ g (.ref b :: As) sz cW cR) (va_Qv post (BZ g cW sz w1) (va_A cW sz)) mc ms (va_A cW sz)) (cw : CallW R s args own C index y bytes maxL ret ws rm mc ms n) (hn : As.length = n) (js jr : List Nat) (hs : (js ++ jr).map (fun i => (wW ++ wR)[i]?) = (cW ++ cR).map some) (hjs : js.map (fun i => wW[i]?) = cW.map some) (hnd : va_nd (js ++ jr) = true) (hndj : va_nd js = true) (q0 : Nat) {ci : Nat} {fs : List Value} {qC : vw_C} (he : (wW ++ wR)[q0]? = some (b, .inr (ci, fs))) (hc : vwCl[ci]? = some qC) (hqC : qC.1 = C) {st0 : List Value} (hst : st0 = As.reverse ++ .ref b :: st) (hcat : (st.map fun v => v.category).sum ≤ 8) (hroom : kc + mc ≤ R.cells ∧ ks + ms ≤ R.slots) (hlen : ∀ u, js.length ≤ (w1 u).length) (hN : ∀ u, putL wW js (w1 u) = wN u) (hdg : decode cc pc = .ok (.invokevirtual index, 3))
    (kk : ∀ (u : S), post u → Z p l e R s m args below meth c Q A g nL (pc + 3) lv st (wN u) wR (kc + mc) (ks + ms)) : Z p l e R s m args below meth c Q A g nL pc lv st0 wW wR kc ks := by
  intro H locs ls hw hl
  subst hst
  have hsub := hw.sub (js ++ jr) hs hnd
  have hA1 := hw.cA h.2.2.2.2.2.2.1 hjs
  refine va_callv (A1 := va_A cW H.size) (va_runV (As := As) (rest := st) ⟨h.1, h.2.1, h.2.2.1, h.2.2.2.1, h.ts⟩ (hM H.size) cw ⟨pz_blind, by rw [← hqC]; exact va_recv h.K hw.1 hc he, fun U hU hW => ⟨rfl, by rw [hU], by rw [hU]; exact hsub.1, h.KN.warm hW, hsub.2⟩⟩ rfl hn hl.1 rfl (lv_room hcat) hdg hroom) hw.2.2.2 (fun q _ hq => hA1 q hq) hA1 (fun u t H1 locs1 ht hvm hp hB hz hk hS => ?_)
  obtain ⟨hP1, hD1⟩ := hB
  rw [ht] at hP1
  have hB : _ ∧ _ := ⟨hP1, hD1⟩
  exact kk u hp H1 locs1 ls (hN u ▸ hw.back h.2.2.2.2.2.2.1 hjs hndj (hlen u) hk hB.1 hB.2 hS) hl
theorem z_Vr (h : CX p s m args meth c A g nL cc Ts own) {y : MethodName} {C : String} {bytes : ByteArray} {maxL : Nat} {ret : Option FieldType} {ws : List Cond} {rm : Room} {mc ms n index : Nat} {cW cR : va_W} {b : Nat} {As : List Value} {S : Type} {w1 wN : S → va_W} {post : S → Prop} {ad : S → Nat} (hM : ∀ sz, Met l y ws rm (PZ g (.ref b :: As) sz cW cR) (va_Qr post (BZr g cW sz w1 ad) (va_A cW sz)) mc ms (va_A cW sz)) (cw : CallW R s args own C index y bytes maxL ret ws rm mc ms n) (hn : As.length = n) (js jr : List Nat) (hs : (js ++ jr).map (fun i => (wW ++ wR)[i]?) = (cW ++ cR).map some) (hjs : js.map (fun i => wW[i]?) = cW.map some) (hnd : va_nd (js ++ jr) = true) (hndj : va_nd js = true) (q0 : Nat) {ci : Nat} {fs : List Value} {qC : vw_C} (he : (wW ++ wR)[q0]? = some (b, .inr (ci, fs))) (hc : vwCl[ci]? = some qC) (hqC : qC.1 = C) {st0 : List Value} (hst : st0 = As.reverse ++ .ref b :: st) (hcat : (st.map fun v => v.category).sum ≤ 8) (hroom : kc + mc ≤ R.cells ∧ ks + ms ≤ R.slots) (hlen : ∀ u, js.length ≤ (w1 u).length) (hN : ∀ u, putL wW js (w1 u) = wN u) (hdg : decode cc pc = .ok (.invokevirtual index, 3))
    (kk : ∀ (u : S), post u → Z p l e R s m args below meth c Q A g nL (pc + 3) lv (.ref (ad u) :: st) (wN u) wR (kc + mc) (ks + ms)) : Z p l e R s m args below meth c Q A g nL pc lv st0 wW wR kc ks := by
  intro H locs ls hw hl
  subst hst
  have hsub := hw.sub (js ++ jr) hs hnd
  have hA1 := hw.cA h.2.2.2.2.2.2.1 hjs
  refine va_callr (A1 := va_A cW H.size) (va_runV (As := As) (rest := st) ⟨h.1, h.2.1, h.2.2.1, h.2.2.2.1, h.ts⟩ (hM H.size) cw ⟨pz_blind, by rw [← hqC]; exact va_recv h.K hw.1 hc he, fun U hU hW => ⟨rfl, by rw [hU], by rw [hU]; exact hsub.1, h.KN.warm hW, hsub.2⟩⟩ rfl hn hl.1 rfl (lv_room hcat) hdg hroom) hw.2.2.2 (fun q _ hq => hA1 q hq) hA1 (fun u a t H1 locs1 ht hvm hp hB hz hk hS => ?_)
  obtain ⟨ha, hP1, hD1⟩ := hB
  rw [ht] at hP1
  have hB : _ ∧ _ := ⟨hP1, hD1⟩
  subst ha
  exact kk u hp H1 locs1 ls (hN u ▸ hw.back h.2.2.2.2.2.2.1 hjs hndj (hlen u) hk hB.1 hB.2 hS) hl
theorem z_Si (h : CX p s m args meth c A g nL cc Ts own) {y : MethodName} {C : String} {bytes : ByteArray} {maxL : Nat} {ret : Option FieldType} {ws : List Cond} {rm : Room} {mc ms n index : Nat} {cW cR : va_W} {b : Nat} {As : List Value} {S : Type} {w1 wN : S → va_W} {post : Int32 → S → Prop} (hM : ∀ sz, Met l y ws rm (PZ g As sz cW cR) (va_Qi post (BZ g cW sz w1) (va_A cW sz)) mc ms (va_A cW sz)) (cw : (CallB R s args own index y bytes maxL ret ws rm mc ms n ∧ (Cond.static y).before args s = true)) (hn : As.length = n) (js jr : List Nat) (hs : (js ++ jr).map (fun i => (wW ++ wR)[i]?) = (cW ++ cR).map some) (hjs : js.map (fun i => wW[i]?) = cW.map some) (hnd : va_nd (js ++ jr) = true) (hndj : va_nd js = true)  {st0 : List Value} (hst : st0 = As.reverse ++ st) (hcat : (st.map fun v => v.category).sum ≤ 8) (hroom : kc + mc ≤ R.cells ∧ ks + ms ≤ R.slots) (hlen : ∀ u, js.length ≤ (w1 u).length) (hN : ∀ u, putL wW js (w1 u) = wN u) (hdg : decode cc pc = .ok (.invokestatic index, 3))
    (kk : ∀ (r : Int32) (u : S), post r u → Z p l e R s m args below meth c Q A g nL (pc + 3) lv (.int r :: st) (wN u) wR (kc + mc) (ks + ms)) : Z p l e R s m args below meth c Q A g nL pc lv st0 wW wR kc ks := by
  intro H locs ls hw hl
  subst hst
  have hsub := hw.sub (js ++ jr) hs hnd
  have hA1 := hw.cA h.2.2.2.2.2.2.1 hjs
  refine va_calli (A1 := va_A cW H.size) (va_runS (As := As) (rest := st) ⟨h.1, h.2.1, h.2.2.1, h.2.2.2.1, h.ts⟩ (hM H.size) cw ⟨pz_blind, fun U hU hW => ⟨rfl, by rw [hU], by rw [hU]; exact hsub.1, h.KN.warm hW, hsub.2⟩⟩ rfl hn hl.1 rfl (lv_room hcat) hdg hroom) hw.2.2.2 (fun q _ hq => hA1 q hq) hA1 (fun r u t H1 locs1 ht hvm hp hB hz hk hS => ?_)
  obtain ⟨hP1, hD1⟩ := hB
  rw [ht] at hP1
  have hB : _ ∧ _ := ⟨hP1, hD1⟩
  exact kk r u hp H1 locs1 ls (hN u ▸ hw.back h.2.2.2.2.2.2.1 hjs hndj (hlen u) hk hB.1 hB.2 hS) hl
theorem z_Sl (h : CX p s m args meth c A g nL cc Ts own) {y : MethodName} {C : String} {bytes : ByteArray} {maxL : Nat} {ret : Option FieldType} {ws : List Cond} {rm : Room} {mc ms n index : Nat} {cW cR : va_W} {b : Nat} {As : List Value} {S : Type} {w1 wN : S → va_W} {post : Int64 → S → Prop} (hM : ∀ sz, Met l y ws rm (PZ g As sz cW cR) (va_Ql post (BZ g cW sz w1) (va_A cW sz)) mc ms (va_A cW sz)) (cw : (CallB R s args own index y bytes maxL ret ws rm mc ms n ∧ (Cond.static y).before args s = true)) (hn : As.length = n) (js jr : List Nat) (hs : (js ++ jr).map (fun i => (wW ++ wR)[i]?) = (cW ++ cR).map some) (hjs : js.map (fun i => wW[i]?) = cW.map some) (hnd : va_nd (js ++ jr) = true) (hndj : va_nd js = true)  {st0 : List Value} (hst : st0 = As.reverse ++ st) (hcat : (st.map fun v => v.category).sum ≤ 8) (hroom : kc + mc ≤ R.cells ∧ ks + ms ≤ R.slots) (hlen : ∀ u, js.length ≤ (w1 u).length) (hN : ∀ u, putL wW js (w1 u) = wN u) (hdg : decode cc pc = .ok (.invokestatic index, 3))
    (kk : ∀ (r : Int64) (u : S), post r u → Z p l e R s m args below meth c Q A g nL (pc + 3) lv (.long r :: st) (wN u) wR (kc + mc) (ks + ms)) : Z p l e R s m args below meth c Q A g nL pc lv st0 wW wR kc ks := by
  intro H locs ls hw hl
  subst hst
  have hsub := hw.sub (js ++ jr) hs hnd
  have hA1 := hw.cA h.2.2.2.2.2.2.1 hjs
  refine va_calll (A1 := va_A cW H.size) (va_runS (As := As) (rest := st) ⟨h.1, h.2.1, h.2.2.1, h.2.2.2.1, h.ts⟩ (hM H.size) cw ⟨pz_blind, fun U hU hW => ⟨rfl, by rw [hU], by rw [hU]; exact hsub.1, h.KN.warm hW, hsub.2⟩⟩ rfl hn hl.1 rfl (lv_room hcat) hdg hroom) hw.2.2.2 (fun q _ hq => hA1 q hq) hA1 (fun r u t H1 locs1 ht hvm hp hB hz hk hS => ?_)
  obtain ⟨hP1, hD1⟩ := hB
  rw [ht] at hP1
  have hB : _ ∧ _ := ⟨hP1, hD1⟩
  exact kk r u hp H1 locs1 ls (hN u ▸ hw.back h.2.2.2.2.2.2.1 hjs hndj (hlen u) hk hB.1 hB.2 hS) hl
theorem z_Iv (h : CX p s m args meth c A g nL cc Ts own) {y : MethodName} {C : String} {bytes : ByteArray} {maxL : Nat} {ret : Option FieldType} {ws : List Cond} {rm : Room} {mc ms n index : Nat} {cW cR : va_W} {b : Nat} {As : List Value} {S : Type} {w1 wN : S → va_W} {post : S → Prop} (hM : ∀ sz, Met l y ws rm (PZ g (.ref b :: As) sz cW cR) (va_Qv post (BZ g cW sz w1) (va_A cW sz)) mc ms (va_A cW sz)) (cw : (CallB R s args own index y bytes maxL none ws rm mc ms n ∧ y.name = "<init>" ∧ (Cond.instanceMethod y).before args s = true)) (hn : As.length = n) (js jr : List Nat) (hs : (js ++ jr).map (fun i => (wW ++ wR)[i]?) = (cW ++ cR).map some) (hjs : js.map (fun i => wW[i]?) = cW.map some) (hnd : va_nd (js ++ jr) = true) (hndj : va_nd js = true)  {st0 : List Value} (hst : st0 = As.reverse ++ .ref b :: st) (hcat : (st.map fun v => v.category).sum ≤ 8) (hroom : kc + mc ≤ R.cells ∧ ks + ms ≤ R.slots) (hlen : ∀ u, js.length ≤ (w1 u).length) (hN : ∀ u, putL wW js (w1 u) = wN u) (hdg : decode cc pc = .ok (.invokespecial index, 3))
    (kk : ∀ (u : S), post u → Z p l e R s m args below meth c Q A g nL (pc + 3) lv st (wN u) wR (kc + mc) (ks + ms)) : Z p l e R s m args below meth c Q A g nL pc lv st0 wW wR kc ks := by
  intro H locs ls hw hl
  subst hst
  have hsub := hw.sub (js ++ jr) hs hnd
  have hA1 := hw.cA h.2.2.2.2.2.2.1 hjs
  refine va_callv (A1 := va_A cW H.size) (va_runI (As := As) (rest := st) ⟨h.1, h.2.1, h.2.2.1, h.2.2.2.1, h.ts⟩ (hM H.size) cw ⟨pz_blind, fun U hU hW => ⟨rfl, by rw [hU], by rw [hU]; exact hsub.1, h.KN.warm hW, hsub.2⟩⟩ rfl hn hl.1 rfl (lv_room hcat) hdg hroom) hw.2.2.2 (fun q _ hq => hA1 q hq) hA1 (fun u t H1 locs1 ht hvm hp hB hz hk hS => ?_)
  obtain ⟨hP1, hD1⟩ := hB
  rw [ht] at hP1
  have hB : _ ∧ _ := ⟨hP1, hD1⟩
  exact kk u hp H1 locs1 ls (hN u ▸ hw.back h.2.2.2.2.2.2.1 hjs hndj (hlen u) hk hB.1 hB.2 hS) hl
/-- q, an object of class E, is thrown in this frame -/
def ZX (p : Program) (l : Launch) (e : Env) (R : Room) (s : State) (m : MethodId) (args : Array Value) (below : List Frame) (meth : Method) (c : Code) (Q : State → Prop) (A : Nat → Prop) (g : Gx) (nL : Nat) (E : String) (pc : Nat) (lv : List (Nat × Value)) (st : List Value) (wW wR : va_W) (kc ks : Nat) : Prop :=
  ∀ (H : Heap) (locs : List Loc) (ls : Array Slot) (q : Addr) (ce : Cell), WD A g s.heap wW wR H locs → lv_has ls nL lv → H[q]? = some ce → ce.vm = .none → s.vm.findClass E = some ce.cls → vx_W p l e R s m args below meth c H locs kc ks Q (F0 m pc ls st) q
theorem x_Vi (h : CX p s m args meth c A g nL cc Ts own) {y : MethodName} {C : String} {bytes : ByteArray} {maxL : Nat} {ret : Option FieldType} {ws : List Cond} {rm : Room} {mc ms n index : Nat} {cW cR : va_W} {b : Nat} {As : List Value} {S : Type} {w1 wN : S → va_W} {post : Int32 → S → Prop} {pe : String → Prop} {sl sl0 : List (Nat × String)} (hT : TH g sl0 A s s.heap) (hsl : ∀ q ∈ sl, q ∈ sl0) (hM : ∀ sz, vx_Met l y ws rm (PX sl g (.ref b :: As) sz cW cR) (va_Qi post (BZ g cW sz w1) (va_A cW sz)) (XZ pe sz) mc ms (va_A cW sz)) (cw : CallW R s args own C index y bytes maxL ret ws rm mc ms n) (hn : As.length = n) (js jr : List Nat) (hs : (js ++ jr).map (fun i => (wW ++ wR)[i]?) = (cW ++ cR).map some) (hjs : js.map (fun i => wW[i]?) = cW.map some) (hnd : va_nd (js ++ jr) = true) (hndj : va_nd js = true) (q0 : Nat) {ci : Nat} {fs : List Value} {qC : vw_C} (he : (wW ++ wR)[q0]? = some (b, .inr (ci, fs))) (hc : vwCl[ci]? = some qC) (hqC : qC.1 = C) {st0 : List Value} (hst : st0 = As.reverse ++ .ref b :: st) (hcat : (st.map fun v => v.category).sum ≤ 8) (hroom : kc + mc ≤ R.cells ∧ ks + ms ≤ R.slots) (hlen : ∀ u, js.length ≤ (w1 u).length) (hN : ∀ u, putL wW js (w1 u) = wN u) (hdg : decode cc pc = .ok (.invokevirtual index, 3))
    (kx : ∀ E, pe E → ZX p l e R s m args below meth c Q A g nL E pc lv st wW wR (kc + mc) (ks + ms)) (kk : ∀ (r : Int32) (u : S), post r u → Z p l e R s m args below meth c Q A g nL (pc + 3) lv (.int r :: st) (wN u) wR (kc + mc) (ks + ms)) : Z p l e R s m args below meth c Q A g nL pc lv st0 wW wR kc ks := by
  intro H locs ls hw hl
  subst hst
  have hsub := hw.sub (js ++ jr) hs hnd
  have hA1 := hw.cA h.2.2.2.2.2.2.1 hjs
  refine vx_calli (A1 := va_A cW H.size) (vx_runV (As := As) (rest := st) ⟨h.1, h.2.1, h.2.2.1, h.2.2.2.1, h.ts⟩ (hM H.size) cw ⟨px_blind, by rw [← hqC]; exact va_recv h.K hw.1 hc he, fun U hU hW => ⟨rfl, by rw [hU], by rw [hU]; exact hsub.1, h.KN.warm hW, hsub.2, by rw [hU]; exact hT.to hW hw.2.2.2 hA1 sl hsl⟩⟩ rfl hn hl.1 rfl (lv_room hcat) hdg hroom) hw.2.2.2 (fun q _ hq => hA1 q hq) hA1 (fun q hq hz => absurd hz (Nat.not_le.mpr hq)) (fun E ce q9 u t H1 locs1 ht hvm hp hB hz hk hS hce hcv hcl => ?_) (fun r u t H1 locs1 ht hvm hp hB hz hk hS => ?_)
  · exact kx E hB H1 locs1 ls q9 ce (hw.grow hk hS) hl hce hcv hcl
  · obtain ⟨hP1, hD1⟩ := hB
    rw [ht] at hP1
    exact kk r u hp H1 locs1 ls (hN u ▸ hw.back h.2.2.2.2.2.2.1 hjs hndj (hlen u) hk hP1 hD1 hS) hl
theorem x_Vl (h : CX p s m args meth c A g nL cc Ts own) {y : MethodName} {C : String} {bytes : ByteArray} {maxL : Nat} {ret : Option FieldType} {ws : List Cond} {rm : Room} {mc ms n index : Nat} {cW cR : va_W} {b : Nat} {As : List Value} {S : Type} {w1 wN : S → va_W} {post : Int64 → S → Prop} {pe : String → Prop} {sl sl0 : List (Nat × String)} (hT : TH g sl0 A s s.heap) (hsl : ∀ q ∈ sl, q ∈ sl0) (hM : ∀ sz, vx_Met l y ws rm (PX sl g (.ref b :: As) sz cW cR) (va_Ql post (BZ g cW sz w1) (va_A cW sz)) (XZ pe sz) mc ms (va_A cW sz)) (cw : CallW R s args own C index y bytes maxL ret ws rm mc ms n) (hn : As.length = n) (js jr : List Nat) (hs : (js ++ jr).map (fun i => (wW ++ wR)[i]?) = (cW ++ cR).map some) (hjs : js.map (fun i => wW[i]?) = cW.map some) (hnd : va_nd (js ++ jr) = true) (hndj : va_nd js = true) (q0 : Nat) {ci : Nat} {fs : List Value} {qC : vw_C} (he : (wW ++ wR)[q0]? = some (b, .inr (ci, fs))) (hc : vwCl[ci]? = some qC) (hqC : qC.1 = C) {st0 : List Value} (hst : st0 = As.reverse ++ .ref b :: st) (hcat : (st.map fun v => v.category).sum ≤ 8) (hroom : kc + mc ≤ R.cells ∧ ks + ms ≤ R.slots) (hlen : ∀ u, js.length ≤ (w1 u).length) (hN : ∀ u, putL wW js (w1 u) = wN u) (hdg : decode cc pc = .ok (.invokevirtual index, 3))
    (kx : ∀ E, pe E → ZX p l e R s m args below meth c Q A g nL E pc lv st wW wR (kc + mc) (ks + ms)) (kk : ∀ (r : Int64) (u : S), post r u → Z p l e R s m args below meth c Q A g nL (pc + 3) lv (.long r :: st) (wN u) wR (kc + mc) (ks + ms)) : Z p l e R s m args below meth c Q A g nL pc lv st0 wW wR kc ks := by
  intro H locs ls hw hl
  subst hst
  have hsub := hw.sub (js ++ jr) hs hnd
  have hA1 := hw.cA h.2.2.2.2.2.2.1 hjs
  refine vx_calll (A1 := va_A cW H.size) (vx_runV (As := As) (rest := st) ⟨h.1, h.2.1, h.2.2.1, h.2.2.2.1, h.ts⟩ (hM H.size) cw ⟨px_blind, by rw [← hqC]; exact va_recv h.K hw.1 hc he, fun U hU hW => ⟨rfl, by rw [hU], by rw [hU]; exact hsub.1, h.KN.warm hW, hsub.2, by rw [hU]; exact hT.to hW hw.2.2.2 hA1 sl hsl⟩⟩ rfl hn hl.1 rfl (lv_room hcat) hdg hroom) hw.2.2.2 (fun q _ hq => hA1 q hq) hA1 (fun q hq hz => absurd hz (Nat.not_le.mpr hq)) (fun E ce q9 u t H1 locs1 ht hvm hp hB hz hk hS hce hcv hcl => ?_) (fun r u t H1 locs1 ht hvm hp hB hz hk hS => ?_)
  · exact kx E hB H1 locs1 ls q9 ce (hw.grow hk hS) hl hce hcv hcl
  · obtain ⟨hP1, hD1⟩ := hB
    rw [ht] at hP1
    exact kk r u hp H1 locs1 ls (hN u ▸ hw.back h.2.2.2.2.2.2.1 hjs hndj (hlen u) hk hP1 hD1 hS) hl
theorem x_Vv (h : CX p s m args meth c A g nL cc Ts own) {y : MethodName} {C : String} {bytes : ByteArray} {maxL : Nat} {ret : Option FieldType} {ws : List Cond} {rm : Room} {mc ms n index : Nat} {cW cR : va_W} {b : Nat} {As : List Value} {S : Type} {w1 wN : S → va_W} {post : S → Prop} {pe : String → Prop} {sl sl0 : List (Nat × String)} (hT : TH g sl0 A s s.heap) (hsl : ∀ q ∈ sl, q ∈ sl0) (hM : ∀ sz, vx_Met l y ws rm (PX sl g (.ref b :: As) sz cW cR) (va_Qv post (BZ g cW sz w1) (va_A cW sz)) (XZ pe sz) mc ms (va_A cW sz)) (cw : CallW R s args own C index y bytes maxL ret ws rm mc ms n) (hn : As.length = n) (js jr : List Nat) (hs : (js ++ jr).map (fun i => (wW ++ wR)[i]?) = (cW ++ cR).map some) (hjs : js.map (fun i => wW[i]?) = cW.map some) (hnd : va_nd (js ++ jr) = true) (hndj : va_nd js = true) (q0 : Nat) {ci : Nat} {fs : List Value} {qC : vw_C} (he : (wW ++ wR)[q0]? = some (b, .inr (ci, fs))) (hc : vwCl[ci]? = some qC) (hqC : qC.1 = C) {st0 : List Value} (hst : st0 = As.reverse ++ .ref b :: st) (hcat : (st.map fun v => v.category).sum ≤ 8) (hroom : kc + mc ≤ R.cells ∧ ks + ms ≤ R.slots) (hlen : ∀ u, js.length ≤ (w1 u).length) (hN : ∀ u, putL wW js (w1 u) = wN u) (hdg : decode cc pc = .ok (.invokevirtual index, 3))
    (kx : ∀ E, pe E → ZX p l e R s m args below meth c Q A g nL E pc lv st wW wR (kc + mc) (ks + ms)) (kk : ∀ (u : S), post u → Z p l e R s m args below meth c Q A g nL (pc + 3) lv st (wN u) wR (kc + mc) (ks + ms)) : Z p l e R s m args below meth c Q A g nL pc lv st0 wW wR kc ks := by
  intro H locs ls hw hl
  subst hst
  have hsub := hw.sub (js ++ jr) hs hnd
  have hA1 := hw.cA h.2.2.2.2.2.2.1 hjs
  refine vx_callv (A1 := va_A cW H.size) (vx_runV (As := As) (rest := st) ⟨h.1, h.2.1, h.2.2.1, h.2.2.2.1, h.ts⟩ (hM H.size) cw ⟨px_blind, by rw [← hqC]; exact va_recv h.K hw.1 hc he, fun U hU hW => ⟨rfl, by rw [hU], by rw [hU]; exact hsub.1, h.KN.warm hW, hsub.2, by rw [hU]; exact hT.to hW hw.2.2.2 hA1 sl hsl⟩⟩ rfl hn hl.1 rfl (lv_room hcat) hdg hroom) hw.2.2.2 (fun q _ hq => hA1 q hq) hA1 (fun q hq hz => absurd hz (Nat.not_le.mpr hq)) (fun E ce q9 u t H1 locs1 ht hvm hp hB hz hk hS hce hcv hcl => ?_) (fun u t H1 locs1 ht hvm hp hB hz hk hS => ?_)
  · exact kx E hB H1 locs1 ls q9 ce (hw.grow hk hS) hl hce hcv hcl
  · obtain ⟨hP1, hD1⟩ := hB
    rw [ht] at hP1
    exact kk u hp H1 locs1 ls (hN u ▸ hw.back h.2.2.2.2.2.2.1 hjs hndj (hlen u) hk hP1 hD1 hS) hl
theorem z_Yi (h : CX p s m args meth c A g nL cc Ts own) {y : MethodName} {C : String} {bytes : ByteArray} {maxL : Nat} {ret : Option FieldType} {ws : List Cond} {rm : Room} {mc ms n index : Nat} {Y cW : va_W} {b : Nat} {As : List Value} {S : Type} {w1 wN : S → va_W} {post : Int32 → S → Prop}  (hM : ∀ sz, Met l y ws rm (PZ g (.ref b :: As) sz cW []) (va_Qi post (BZ g cW sz w1) (va_A cW sz)) mc ms (va_A cW sz)) (cw : CallW R s args own C index y bytes maxL ret ws rm mc ms n) (hn : As.length = n) (hY : wW = Y ++ cW) (q0 : Nat) {ci : Nat} {fs : List Value} {qC : vw_C} (he : (wW ++ [])[q0]? = some (b, .inr (ci, fs))) (hc : vwCl[ci]? = some qC) (hqC : qC.1 = C) {st0 : List Value} (hst : st0 = As.reverse ++ .ref b :: st) (hcat : (st.map fun v => v.category).sum ≤ 8) (hroom : kc + mc ≤ R.cells ∧ ks + ms ≤ R.slots) (hN : ∀ u, Y ++ w1 u = wN u) (hdg : decode cc pc = .ok (.invokevirtual index, 3)) 
    (kk : ∀ (r : Int32) (u : S), post r u → Z p l e R s m args below meth c Q A g nL (pc + 3) lv (.int r :: st) (wN u) [] (kc + mc) (ks + ms)) : Z p l e R s m args below meth c Q A g nL pc lv st0 wW [] kc ks := by
  intro H locs ls hw hl
  subst hst
  subst hY
  have hsub := hw.suf
  have hA1 := hw.sufA h.2.2.2.2.2.2.1
  refine va_calli (A1 := va_A cW H.size) (va_runV (As := As) (rest := st) ⟨h.1, h.2.1, h.2.2.1, h.2.2.2.1, h.ts⟩ (hM H.size) cw ⟨pz_blind, by rw [← hqC]; exact va_recv h.K hw.1 hc he, fun U hU hW => ⟨rfl, by rw [hU], by rw [hU]; exact hsub.1, h.KN.warm hW, hsub.2⟩⟩ rfl hn hl.1 rfl (lv_room hcat) hdg hroom) hw.2.2.2 (fun q _ hq => hA1 q hq) hA1  (fun r u t H1 locs1 ht hvm hp hB hz hk hS => ?_)
  obtain ⟨hP1, hD1⟩ := hB
  rw [ht] at hP1
  exact kk r u hp H1 locs1 ls (hN u ▸ hw.sufBack h.2.2.2.2.2.2.1 hk hP1 hD1 hS) hl
theorem z_Yl (h : CX p s m args meth c A g nL cc Ts own) {y : MethodName} {C : String} {bytes : ByteArray} {maxL : Nat} {ret : Option FieldType} {ws : List Cond} {rm : Room} {mc ms n index : Nat} {Y cW : va_W} {b : Nat} {As : List Value} {S : Type} {w1 wN : S → va_W} {post : Int64 → S → Prop}  (hM : ∀ sz, Met l y ws rm (PZ g (.ref b :: As) sz cW []) (va_Ql post (BZ g cW sz w1) (va_A cW sz)) mc ms (va_A cW sz)) (cw : CallW R s args own C index y bytes maxL ret ws rm mc ms n) (hn : As.length = n) (hY : wW = Y ++ cW) (q0 : Nat) {ci : Nat} {fs : List Value} {qC : vw_C} (he : (wW ++ [])[q0]? = some (b, .inr (ci, fs))) (hc : vwCl[ci]? = some qC) (hqC : qC.1 = C) {st0 : List Value} (hst : st0 = As.reverse ++ .ref b :: st) (hcat : (st.map fun v => v.category).sum ≤ 8) (hroom : kc + mc ≤ R.cells ∧ ks + ms ≤ R.slots) (hN : ∀ u, Y ++ w1 u = wN u) (hdg : decode cc pc = .ok (.invokevirtual index, 3)) 
    (kk : ∀ (r : Int64) (u : S), post r u → Z p l e R s m args below meth c Q A g nL (pc + 3) lv (.long r :: st) (wN u) [] (kc + mc) (ks + ms)) : Z p l e R s m args below meth c Q A g nL pc lv st0 wW [] kc ks := by
  intro H locs ls hw hl
  subst hst
  subst hY
  have hsub := hw.suf
  have hA1 := hw.sufA h.2.2.2.2.2.2.1
  refine va_calll (A1 := va_A cW H.size) (va_runV (As := As) (rest := st) ⟨h.1, h.2.1, h.2.2.1, h.2.2.2.1, h.ts⟩ (hM H.size) cw ⟨pz_blind, by rw [← hqC]; exact va_recv h.K hw.1 hc he, fun U hU hW => ⟨rfl, by rw [hU], by rw [hU]; exact hsub.1, h.KN.warm hW, hsub.2⟩⟩ rfl hn hl.1 rfl (lv_room hcat) hdg hroom) hw.2.2.2 (fun q _ hq => hA1 q hq) hA1  (fun r u t H1 locs1 ht hvm hp hB hz hk hS => ?_)
  obtain ⟨hP1, hD1⟩ := hB
  rw [ht] at hP1
  exact kk r u hp H1 locs1 ls (hN u ▸ hw.sufBack h.2.2.2.2.2.2.1 hk hP1 hD1 hS) hl
theorem z_Yv (h : CX p s m args meth c A g nL cc Ts own) {y : MethodName} {C : String} {bytes : ByteArray} {maxL : Nat} {ret : Option FieldType} {ws : List Cond} {rm : Room} {mc ms n index : Nat} {Y cW : va_W} {b : Nat} {As : List Value} {S : Type} {w1 wN : S → va_W} {post : S → Prop}  (hM : ∀ sz, Met l y ws rm (PZ g (.ref b :: As) sz cW []) (va_Qv post (BZ g cW sz w1) (va_A cW sz)) mc ms (va_A cW sz)) (cw : CallW R s args own C index y bytes maxL ret ws rm mc ms n) (hn : As.length = n) (hY : wW = Y ++ cW) (q0 : Nat) {ci : Nat} {fs : List Value} {qC : vw_C} (he : (wW ++ [])[q0]? = some (b, .inr (ci, fs))) (hc : vwCl[ci]? = some qC) (hqC : qC.1 = C) {st0 : List Value} (hst : st0 = As.reverse ++ .ref b :: st) (hcat : (st.map fun v => v.category).sum ≤ 8) (hroom : kc + mc ≤ R.cells ∧ ks + ms ≤ R.slots) (hN : ∀ u, Y ++ w1 u = wN u) (hdg : decode cc pc = .ok (.invokevirtual index, 3)) 
    (kk : ∀ (u : S), post u → Z p l e R s m args below meth c Q A g nL (pc + 3) lv st (wN u) [] (kc + mc) (ks + ms)) : Z p l e R s m args below meth c Q A g nL pc lv st0 wW [] kc ks := by
  intro H locs ls hw hl
  subst hst
  subst hY
  have hsub := hw.suf
  have hA1 := hw.sufA h.2.2.2.2.2.2.1
  refine va_callv (A1 := va_A cW H.size) (va_runV (As := As) (rest := st) ⟨h.1, h.2.1, h.2.2.1, h.2.2.2.1, h.ts⟩ (hM H.size) cw ⟨pz_blind, by rw [← hqC]; exact va_recv h.K hw.1 hc he, fun U hU hW => ⟨rfl, by rw [hU], by rw [hU]; exact hsub.1, h.KN.warm hW, hsub.2⟩⟩ rfl hn hl.1 rfl (lv_room hcat) hdg hroom) hw.2.2.2 (fun q _ hq => hA1 q hq) hA1  (fun u t H1 locs1 ht hvm hp hB hz hk hS => ?_)
  obtain ⟨hP1, hD1⟩ := hB
  rw [ht] at hP1
  exact kk u hp H1 locs1 ls (hN u ▸ hw.sufBack h.2.2.2.2.2.2.1 hk hP1 hD1 hS) hl
theorem x_Yi (h : CX p s m args meth c A g nL cc Ts own) {y : MethodName} {C : String} {bytes : ByteArray} {maxL : Nat} {ret : Option FieldType} {ws : List Cond} {rm : Room} {mc ms n index : Nat} {Y cW : va_W} {b : Nat} {As : List Value} {S : Type} {w1 wN : S → va_W} {post : Int32 → S → Prop} {pe : String → Prop} {sl sl0 : List (Nat × String)} (hT : TH g sl0 A s s.heap) (hsl : ∀ q ∈ sl, q ∈ sl0) (hM : ∀ sz, vx_Met l y ws rm (PX sl g (.ref b :: As) sz cW []) (va_Qi post (BZ g cW sz w1) (va_A cW sz)) (XZ pe sz) mc ms (va_A cW sz)) (cw : CallW R s args own C index y bytes maxL ret ws rm mc ms n) (hn : As.length = n) (hY : wW = Y ++ cW) (q0 : Nat) {ci : Nat} {fs : List Value} {qC : vw_C} (he : (wW ++ [])[q0]? = some (b, .inr (ci, fs))) (hc : vwCl[ci]? = some qC) (hqC : qC.1 = C) {st0 : List Value} (hst : st0 = As.reverse ++ .ref b :: st) (hcat : (st.map fun v => v.category).sum ≤ 8) (hroom : kc + mc ≤ R.cells ∧ ks + ms ≤ R.slots) (hN : ∀ u, Y ++ w1 u = wN u) (hdg : decode cc pc = .ok (.invokevirtual index, 3)) (kx : ∀ E, pe E → ZX p l e R s m args below meth c Q A g nL E pc lv st wW [] (kc + mc) (ks + ms))
    (kk : ∀ (r : Int32) (u : S), post r u → Z p l e R s m args below meth c Q A g nL (pc + 3) lv (.int r :: st) (wN u) [] (kc + mc) (ks + ms)) : Z p l e R s m args below meth c Q A g nL pc lv st0 wW [] kc ks := by
  intro H locs ls hw hl
  subst hst
  subst hY
  have hsub := hw.suf
  have hA1 := hw.sufA h.2.2.2.2.2.2.1
  refine vx_calli (A1 := va_A cW H.size) (vx_runV (As := As) (rest := st) ⟨h.1, h.2.1, h.2.2.1, h.2.2.2.1, h.ts⟩ (hM H.size) cw ⟨px_blind, by rw [← hqC]; exact va_recv h.K hw.1 hc he, fun U hU hW => ⟨rfl, by rw [hU], by rw [hU]; exact hsub.1, h.KN.warm hW, hsub.2, by rw [hU]; exact hT.to hW hw.2.2.2 hA1 sl hsl⟩⟩ rfl hn hl.1 rfl (lv_room hcat) hdg hroom) hw.2.2.2 (fun q _ hq => hA1 q hq) hA1 (fun q hq hz => absurd hz (Nat.not_le.mpr hq)) (fun E ce q9 u t H1 locs1 ht hvm hp hB hz hk hS hce hcv hcl => kx E hB H1 locs1 ls q9 ce (hw.grow hk hS) hl hce hcv hcl) (fun r u t H1 locs1 ht hvm hp hB hz hk hS => ?_)
  obtain ⟨hP1, hD1⟩ := hB
  rw [ht] at hP1
  exact kk r u hp H1 locs1 ls (hN u ▸ hw.sufBack h.2.2.2.2.2.2.1 hk hP1 hD1 hS) hl
theorem x_Yl (h : CX p s m args meth c A g nL cc Ts own) {y : MethodName} {C : String} {bytes : ByteArray} {maxL : Nat} {ret : Option FieldType} {ws : List Cond} {rm : Room} {mc ms n index : Nat} {Y cW : va_W} {b : Nat} {As : List Value} {S : Type} {w1 wN : S → va_W} {post : Int64 → S → Prop} {pe : String → Prop} {sl sl0 : List (Nat × String)} (hT : TH g sl0 A s s.heap) (hsl : ∀ q ∈ sl, q ∈ sl0) (hM : ∀ sz, vx_Met l y ws rm (PX sl g (.ref b :: As) sz cW []) (va_Ql post (BZ g cW sz w1) (va_A cW sz)) (XZ pe sz) mc ms (va_A cW sz)) (cw : CallW R s args own C index y bytes maxL ret ws rm mc ms n) (hn : As.length = n) (hY : wW = Y ++ cW) (q0 : Nat) {ci : Nat} {fs : List Value} {qC : vw_C} (he : (wW ++ [])[q0]? = some (b, .inr (ci, fs))) (hc : vwCl[ci]? = some qC) (hqC : qC.1 = C) {st0 : List Value} (hst : st0 = As.reverse ++ .ref b :: st) (hcat : (st.map fun v => v.category).sum ≤ 8) (hroom : kc + mc ≤ R.cells ∧ ks + ms ≤ R.slots) (hN : ∀ u, Y ++ w1 u = wN u) (hdg : decode cc pc = .ok (.invokevirtual index, 3)) (kx : ∀ E, pe E → ZX p l e R s m args below meth c Q A g nL E pc lv st wW [] (kc + mc) (ks + ms))
    (kk : ∀ (r : Int64) (u : S), post r u → Z p l e R s m args below meth c Q A g nL (pc + 3) lv (.long r :: st) (wN u) [] (kc + mc) (ks + ms)) : Z p l e R s m args below meth c Q A g nL pc lv st0 wW [] kc ks := by
  intro H locs ls hw hl
  subst hst
  subst hY
  have hsub := hw.suf
  have hA1 := hw.sufA h.2.2.2.2.2.2.1
  refine vx_calll (A1 := va_A cW H.size) (vx_runV (As := As) (rest := st) ⟨h.1, h.2.1, h.2.2.1, h.2.2.2.1, h.ts⟩ (hM H.size) cw ⟨px_blind, by rw [← hqC]; exact va_recv h.K hw.1 hc he, fun U hU hW => ⟨rfl, by rw [hU], by rw [hU]; exact hsub.1, h.KN.warm hW, hsub.2, by rw [hU]; exact hT.to hW hw.2.2.2 hA1 sl hsl⟩⟩ rfl hn hl.1 rfl (lv_room hcat) hdg hroom) hw.2.2.2 (fun q _ hq => hA1 q hq) hA1 (fun q hq hz => absurd hz (Nat.not_le.mpr hq)) (fun E ce q9 u t H1 locs1 ht hvm hp hB hz hk hS hce hcv hcl => kx E hB H1 locs1 ls q9 ce (hw.grow hk hS) hl hce hcv hcl) (fun r u t H1 locs1 ht hvm hp hB hz hk hS => ?_)
  obtain ⟨hP1, hD1⟩ := hB
  rw [ht] at hP1
  exact kk r u hp H1 locs1 ls (hN u ▸ hw.sufBack h.2.2.2.2.2.2.1 hk hP1 hD1 hS) hl
theorem x_Yv (h : CX p s m args meth c A g nL cc Ts own) {y : MethodName} {C : String} {bytes : ByteArray} {maxL : Nat} {ret : Option FieldType} {ws : List Cond} {rm : Room} {mc ms n index : Nat} {Y cW : va_W} {b : Nat} {As : List Value} {S : Type} {w1 wN : S → va_W} {post : S → Prop} {pe : String → Prop} {sl sl0 : List (Nat × String)} (hT : TH g sl0 A s s.heap) (hsl : ∀ q ∈ sl, q ∈ sl0) (hM : ∀ sz, vx_Met l y ws rm (PX sl g (.ref b :: As) sz cW []) (va_Qv post (BZ g cW sz w1) (va_A cW sz)) (XZ pe sz) mc ms (va_A cW sz)) (cw : CallW R s args own C index y bytes maxL ret ws rm mc ms n) (hn : As.length = n) (hY : wW = Y ++ cW) (q0 : Nat) {ci : Nat} {fs : List Value} {qC : vw_C} (he : (wW ++ [])[q0]? = some (b, .inr (ci, fs))) (hc : vwCl[ci]? = some qC) (hqC : qC.1 = C) {st0 : List Value} (hst : st0 = As.reverse ++ .ref b :: st) (hcat : (st.map fun v => v.category).sum ≤ 8) (hroom : kc + mc ≤ R.cells ∧ ks + ms ≤ R.slots) (hN : ∀ u, Y ++ w1 u = wN u) (hdg : decode cc pc = .ok (.invokevirtual index, 3)) (kx : ∀ E, pe E → ZX p l e R s m args below meth c Q A g nL E pc lv st wW [] (kc + mc) (ks + ms))
    (kk : ∀ (u : S), post u → Z p l e R s m args below meth c Q A g nL (pc + 3) lv st (wN u) [] (kc + mc) (ks + ms)) : Z p l e R s m args below meth c Q A g nL pc lv st0 wW [] kc ks := by
  intro H locs ls hw hl
  subst hst
  subst hY
  have hsub := hw.suf
  have hA1 := hw.sufA h.2.2.2.2.2.2.1
  refine vx_callv (A1 := va_A cW H.size) (vx_runV (As := As) (rest := st) ⟨h.1, h.2.1, h.2.2.1, h.2.2.2.1, h.ts⟩ (hM H.size) cw ⟨px_blind, by rw [← hqC]; exact va_recv h.K hw.1 hc he, fun U hU hW => ⟨rfl, by rw [hU], by rw [hU]; exact hsub.1, h.KN.warm hW, hsub.2, by rw [hU]; exact hT.to hW hw.2.2.2 hA1 sl hsl⟩⟩ rfl hn hl.1 rfl (lv_room hcat) hdg hroom) hw.2.2.2 (fun q _ hq => hA1 q hq) hA1 (fun q hq hz => absurd hz (Nat.not_le.mpr hq)) (fun E ce q9 u t H1 locs1 ht hvm hp hB hz hk hS hce hcv hcl => kx E hB H1 locs1 ls q9 ce (hw.grow hk hS) hl hce hcv hcl) (fun u t H1 locs1 ht hvm hp hB hz hk hS => ?_)
  obtain ⟨hP1, hD1⟩ := hB
  rw [ht] at hP1
  exact kk u hp H1 locs1 ls (hN u ▸ hw.sufBack h.2.2.2.2.2.2.1 hk hP1 hD1 hS) hl
theorem zx_catch (h : CX p s m args meth c A g nL cc Ts own) {E name : String} (pre : List ExceptionTableEntry) (x : ExceptionTableEntry) (suf : List ExceptionTableEntry) (hsplit : c.exceptionTable.toList = pre ++ x :: suf) (hpass : ∀ z ∈ pre, covers z pc = false ∨ (z.catchType ≠ 0 ∧ ∃ nm : String, Cond.classLink own z.catchType nm ∈ Ts ∧ va_Nc E nm s)) (hx : covers x pc = true) (h0 : x.catchType ≠ 0) (hlink : Cond.classLink own x.catchType name ∈ Ts) (hcast : (Cond.castable E name).before args s = true) {hpc : Nat} (hh : x.handlerPc = hpc)
    (kk : ∀ q, Z p l e R s m args below meth c Q A g nL hpc lv [.ref q] wW wR kc ks) : ZX p l e R s m args below meth c Q A g nL E pc lv st wW wR kc ks := by
  intro H locs ls q ce hw hl hce hcv hcl
  subst hh
  exact vx_catch h.2.2.2.1 pre x suf hsplit (fun z hz => (hpass z hz).imp id (fun ⟨a, nm, b1, b2⟩ => ⟨a, nm, h.ts _ b1, b2⟩)) hx h0 (h.ts _ hlink) hcast hce hcv hcl (kk q H locs ls hw hl)
end ZC
theorem z_open_i {l : Launch} {y : MethodName} {ws ws' : List Cond} {rm : Room} {cc : ByteArray} {maxL : Nat} {ret : FieldType} {av : List Value} {sz : Nat} {wW wR : va_W} {g : Gx} {S : Type} {post : Int32 → S → Prop} {w1 : S → va_W} {mc ms : Nat} {own : String}  (hy : plainName y.cls = true) (hw : ws = Cond.code y cc maxL (some ret) :: ws') (hown : y.cls = own) (hlen : (lg_sl av).length ≤ maxL)
    (body : ∀ (p : Program) (e : Env) (s : State) (m : MethodId) (args : Array Value) (below : List Frame) (meth : Method) (c : Code) (Q : State → Prop), CX p s m args meth c (va_A wW s.heap.size) g maxL cc ws own → meth.name = y.name → (∀ (pc : Nat) (lv : List (Nat × Value)) (v : Int32) (u : S) (vW vR : va_W) (kc ks : Nat), decode cc pc = .ok (.ireturn, 1) → narrow ret (.int v) = .int v → post v u → w1 u = vW → kc ≤ mc → ks ≤ ms → Z p l e rm s m args below meth c Q (va_A wW s.heap.size) g maxL pc lv [.int v] vW vR kc ks) → Z p l e rm s m args below meth c Q (va_A wW s.heap.size) g maxL 0 (lv_args 0 av) [] wW wR 0 0) :
    Met l y ws rm (PZ g av sz wW wR) (va_Qi post (BZ g wW sz w1) (va_A wW sz)) mc ms (va_A wW sz) := by
  refine Met.ofW (cc := cc) (maxL := maxL) (ret := (some ret)) hy hw ?_
  intro p e s m args below meth c s₁ B hml hv
  obtain ⟨rfl, hsz, hP, hK, hD⟩ := hv
  subst hsz
  have hC : CX p s m av.toArray meth c (va_A wW s.heap.size) g maxL cc ws own := ⟨B.exec, B.bytes, hml, by rw [← hown]; exact findClass_of_methodNamed B.named, atoms_spec (ws := ws) B.pre, hK, fun q h => Or.inr h, B.notSynchronized⟩
  have hl := lv_entry av (n := maxL) hlen
  rw [lg_entry_eq]
  refine body p e s m _ below meth c _ hC (name_of_methodNamed B.named B.method).1 ?_ s.heap [] _ ⟨hP, hD, fun k q hk => va_A.in hk, va_S.rf⟩ hl
  · intro pc lv v u vW vR kc ks hdg hnr hp hu hk1 hk2 H locs ls hw9 hl9
    subst hu
    have hPw : va_P g.1 vwCl (w1 u) H := fun k q hq => hw9.1 k q (by rw [List.getElem?_append_left (List.getElem?_eq_some_iff.mp hq).1]; exact hq)
    have hDw : va_D (va_A wW s.heap.size) (w1 u) := ⟨fun i j x y hi hj => hw9.2.1.1 i j x y (by rw [List.getElem?_append_left (List.getElem?_eq_some_iff.mp hi).1]; exact hi) (by rw [List.getElem?_append_left (List.getElem?_eq_some_iff.mp hj).1]; exact hj), hw9.2.2.1⟩
    refine W.widen hk1 hk2 ?_
    exact W.zret hC.1 hC.2.1 B.returns hnr (fun t ht hW => ⟨⟨v, u, rfl, hp, by rw [ht]; exact hPw, hDw⟩, hw9.2.2.2.F ht⟩) hw9.2.2.2.2.2 hdg B.notSynchronized
theorem z_open_l {l : Launch} {y : MethodName} {ws ws' : List Cond} {rm : Room} {cc : ByteArray} {maxL : Nat}  {av : List Value} {sz : Nat} {wW wR : va_W} {g : Gx} {S : Type} {post : Int64 → S → Prop} {w1 : S → va_W} {mc ms : Nat} {own : String}  (hy : plainName y.cls = true) (hw : ws = Cond.code y cc maxL (some .long) :: ws') (hown : y.cls = own) (hlen : (lg_sl av).length ≤ maxL)
    (body : ∀ (p : Program) (e : Env) (s : State) (m : MethodId) (args : Array Value) (below : List Frame) (meth : Method) (c : Code) (Q : State → Prop), CX p s m args meth c (va_A wW s.heap.size) g maxL cc ws own → meth.name = y.name → (∀ (pc : Nat) (lv : List (Nat × Value)) (v : Int64) (u : S) (vW vR : va_W) (kc ks : Nat), decode cc pc = .ok (.lreturn, 1) → post v u → w1 u = vW → kc ≤ mc → ks ≤ ms → Z p l e rm s m args below meth c Q (va_A wW s.heap.size) g maxL pc lv [.long v] vW vR kc ks) → Z p l e rm s m args below meth c Q (va_A wW s.heap.size) g maxL 0 (lv_args 0 av) [] wW wR 0 0) :
    Met l y ws rm (PZ g av sz wW wR) (va_Ql post (BZ g wW sz w1) (va_A wW sz)) mc ms (va_A wW sz) := by
  refine Met.ofW (cc := cc) (maxL := maxL) (ret := (some .long)) hy hw ?_
  intro p e s m args below meth c s₁ B hml hv
  obtain ⟨rfl, hsz, hP, hK, hD⟩ := hv
  subst hsz
  have hC : CX p s m av.toArray meth c (va_A wW s.heap.size) g maxL cc ws own := ⟨B.exec, B.bytes, hml, by rw [← hown]; exact findClass_of_methodNamed B.named, atoms_spec (ws := ws) B.pre, hK, fun q h => Or.inr h, B.notSynchronized⟩
  have hl := lv_entry av (n := maxL) hlen
  rw [lg_entry_eq]
  refine body p e s m _ below meth c _ hC (name_of_methodNamed B.named B.method).1 ?_ s.heap [] _ ⟨hP, hD, fun k q hk => va_A.in hk, va_S.rf⟩ hl
  · intro pc lv v u vW vR kc ks hdg hp hu hk1 hk2 H locs ls hw9 hl9
    subst hu
    have hPw : va_P g.1 vwCl (w1 u) H := fun k q hq => hw9.1 k q (by rw [List.getElem?_append_left (List.getElem?_eq_some_iff.mp hq).1]; exact hq)
    have hDw : va_D (va_A wW s.heap.size) (w1 u) := ⟨fun i j x y hi hj => hw9.2.1.1 i j x y (by rw [List.getElem?_append_left (List.getElem?_eq_some_iff.mp hi).1]; exact hi) (by rw [List.getElem?_append_left (List.getElem?_eq_some_iff.mp hj).1]; exact hj), hw9.2.2.1⟩
    refine W.widen hk1 hk2 ?_
    exact W.lret hC.1 hC.2.1 B.returns (fun t ht hW => ⟨⟨v, u, rfl, hp, by rw [ht]; exact hPw, hDw⟩, hw9.2.2.2.F ht⟩) hw9.2.2.2.2.2 hdg B.notSynchronized
theorem z_open_v {l : Launch} {y : MethodName} {ws ws' : List Cond} {rm : Room} {cc : ByteArray} {maxL : Nat}  {av : List Value} {sz : Nat} {wW wR : va_W} {g : Gx} {S : Type} {post : S → Prop} {w1 : S → va_W} {mc ms : Nat} {own : String}  (hy : plainName y.cls = true) (hw : ws = Cond.code y cc maxL none :: ws') (hown : y.cls = own) (hlen : (lg_sl av).length ≤ maxL)
    (body : ∀ (p : Program) (e : Env) (s : State) (m : MethodId) (args : Array Value) (below : List Frame) (meth : Method) (c : Code) (Q : State → Prop), CX p s m args meth c (va_A wW s.heap.size) g maxL cc ws own → meth.name = y.name → (∀ (pc : Nat) (lv : List (Nat × Value)) (u : S) (vW vR : va_W) (kc ks : Nat), decode cc pc = .ok (.return_, 1) → post u → w1 u = vW → kc ≤ mc → ks ≤ ms → Z p l e rm s m args below meth c Q (va_A wW s.heap.size) g maxL pc lv [] vW vR kc ks) → Z p l e rm s m args below meth c Q (va_A wW s.heap.size) g maxL 0 (lv_args 0 av) [] wW wR 0 0) :
    Met l y ws rm (PZ g av sz wW wR) (va_Qv post (BZ g wW sz w1) (va_A wW sz)) mc ms (va_A wW sz) := by
  refine Met.ofW (cc := cc) (maxL := maxL) (ret := none) hy hw ?_
  intro p e s m args below meth c s₁ B hml hv
  obtain ⟨rfl, hsz, hP, hK, hD⟩ := hv
  subst hsz
  have hC : CX p s m av.toArray meth c (va_A wW s.heap.size) g maxL cc ws own := ⟨B.exec, B.bytes, hml, by rw [← hown]; exact findClass_of_methodNamed B.named, atoms_spec (ws := ws) B.pre, hK, fun q h => Or.inr h, B.notSynchronized⟩
  have hl := lv_entry av (n := maxL) hlen
  rw [lg_entry_eq]
  refine body p e s m _ below meth c _ hC (name_of_methodNamed B.named B.method).1 ?_ s.heap [] _ ⟨hP, hD, fun k q hk => va_A.in hk, va_S.rf⟩ hl
  · intro pc lv u vW vR kc ks hdg hp hu hk1 hk2 H locs ls hw9 hl9
    subst hu
    have hPw : va_P g.1 vwCl (w1 u) H := fun k q hq => hw9.1 k q (by rw [List.getElem?_append_left (List.getElem?_eq_some_iff.mp hq).1]; exact hq)
    have hDw : va_D (va_A wW s.heap.size) (w1 u) := ⟨fun i j x y hi hj => hw9.2.1.1 i j x y (by rw [List.getElem?_append_left (List.getElem?_eq_some_iff.mp hi).1]; exact hi) (by rw [List.getElem?_append_left (List.getElem?_eq_some_iff.mp hj).1]; exact hj), hw9.2.2.1⟩
    refine W.widen hk1 hk2 ?_
    exact W.vret hC.1 hC.2.1 B.returns (fun t ht hW => ⟨⟨u, rfl, hp, by rw [ht]; exact hPw, hDw⟩, hw9.2.2.2.F ht⟩) hw9.2.2.2.2.2 hdg B.notSynchronized
theorem z_open_r {l : Launch} {y : MethodName} {ws ws' : List Cond} {rm : Room} {cc : ByteArray} {maxL : Nat} {ret : FieldType} {av : List Value} {sz : Nat} {wW wR : va_W} {g : Gx} {S : Type} {post : S → Prop} {ad : S → Nat} {w1 : S → va_W} {mc ms : Nat} {own : String} (hrt : (∃ n, ret = .object n) ∨ ∃ t, ret = .array t) (hy : plainName y.cls = true) (hw : ws = Cond.code y cc maxL (some ret) :: ws') (hown : y.cls = own) (hlen : (lg_sl av).length ≤ maxL)
    (body : ∀ (p : Program) (e : Env) (s : State) (m : MethodId) (args : Array Value) (below : List Frame) (meth : Method) (c : Code) (Q : State → Prop), CX p s m args meth c (va_A wW s.heap.size) g maxL cc ws own → meth.name = y.name → (∀ (pc : Nat) (lv : List (Nat × Value)) (u : S) (vW vR : va_W) (kc ks : Nat), decode cc pc = .ok (.areturn, 1) → post u → w1 u = vW → kc ≤ mc → ks ≤ ms → Z p l e rm s m args below meth c Q (va_A wW s.heap.size) g maxL pc lv [.ref (ad u)] vW vR kc ks) → Z p l e rm s m args below meth c Q (va_A wW s.heap.size) g maxL 0 (lv_args 0 av) [] wW wR 0 0) :
    Met l y ws rm (PZ g av sz wW wR) (va_Qr post (BZr g wW sz w1 ad) (va_A wW sz)) mc ms (va_A wW sz) := by
  refine Met.ofW (cc := cc) (maxL := maxL) (ret := (some ret)) hy hw ?_
  intro p e s m args below meth c s₁ B hml hv
  obtain ⟨rfl, hsz, hP, hK, hD⟩ := hv
  subst hsz
  have hC : CX p s m av.toArray meth c (va_A wW s.heap.size) g maxL cc ws own := ⟨B.exec, B.bytes, hml, by rw [← hown]; exact findClass_of_methodNamed B.named, atoms_spec (ws := ws) B.pre, hK, fun q h => Or.inr h, B.notSynchronized⟩
  have hl := lv_entry av (n := maxL) hlen
  rw [lg_entry_eq]
  refine body p e s m _ below meth c _ hC (name_of_methodNamed B.named B.method).1 ?_ s.heap [] _ ⟨hP, hD, fun k q hk => va_A.in hk, va_S.rf⟩ hl
  · intro pc lv u vW vR kc ks hdg hp hu hk1 hk2 H locs ls hw9 hl9
    subst hu
    have hPw : va_P g.1 vwCl (w1 u) H := fun k q hq => hw9.1 k q (by rw [List.getElem?_append_left (List.getElem?_eq_some_iff.mp hq).1]; exact hq)
    have hDw : va_D (va_A wW s.heap.size) (w1 u) := ⟨fun i j x y hi hj => hw9.2.1.1 i j x y (by rw [List.getElem?_append_left (List.getElem?_eq_some_iff.mp hi).1]; exact hi) (by rw [List.getElem?_append_left (List.getElem?_eq_some_iff.mp hj).1]; exact hj), hw9.2.2.1⟩
    refine W.widen hk1 hk2 ?_
    exact W.aret hC.1 hC.2.1 B.returns hrt (Or.inr ⟨_, rfl⟩) (fun t ht hW => ⟨⟨u, ad u, rfl, hp, rfl, by rw [ht]; exact hPw, hDw⟩, hw9.2.2.2.F ht⟩) hw9.2.2.2.2.2 hdg B.notSynchronized
theorem x_open_i {l : Launch} {y : MethodName} {ws ws' : List Cond} {rm : Room} {cc : ByteArray} {maxL : Nat} {ret : FieldType} {av : List Value} {sz : Nat} {wW wR : va_W} {g : Gx} {S : Type} {post : Int32 → S → Prop} {w1 : S → va_W} {mc ms : Nat} {own : String} {sl : List (Nat × String)} {pe : String → Prop}  (hy : plainName y.cls = true) (hw : ws = Cond.code y cc maxL (some ret) :: ws') (hown : y.cls = own) (hlen : (lg_sl av).length ≤ maxL) (hlf : l.stackTraces = false) (hsown : RX3 = own)
    (body : ∀ (p : Program) (e : Env) (s : State) (m : MethodId) (args : Array Value) (below : List Frame) (meth : Method) (c : Code) (Q : State → Prop), CX p s m args meth c (fun q => s.heap.size ≤ q) g maxL cc ws own → TH g sl (fun q => s.heap.size ≤ q) s s.heap → EDZ g (va_A wW s.heap.size) s s.heap → (∀ (pc : Nat) (lv : List (Nat × Value)) (v : Int32) (u : S) (vW vR : va_W) (kc ks : Nat), decode cc pc = .ok (.ireturn, 1) → narrow ret (.int v) = .int v → post v u → w1 u = vW → kc ≤ mc → ks ≤ ms → Z p l e rm s m args below meth c Q (va_A wW s.heap.size) g maxL pc lv [.int v] vW vR kc ks) →
      (∀ (E : String) (pc : Nat) (lv : List (Nat × Value)) (st : List Value) (kc ks : Nat), pe E → kc ≤ mc → ks ≤ ms → ZX p l e rm s m args below meth c Q (fun q => s.heap.size ≤ q) g maxL E pc lv st [] (wW ++ wR) kc ks) →
      (∀ (pc : Nat) (lv : List (Nat × Value)) (st : List Value) (kc ks : Nat) (cls text : String) (names : List String) (ik is ic : Nat), Bundle.fit cls = true → (∀ n ∈ names, Bundle.fit n = true) → Cond.classLink own ik cls ∈ ws → Cond.initialized cls ∈ ws → (is, text) ∈ sl → (∀ w ∈ (vx_atS own ic cls names).filter goodWord, w ∈ ws) → (vx_atS own ic cls names).filter (fun w => !goodWord w) = decQ.map .declares ++ [.castable cls cls] → (cls, cls) ∈ castQ → (∀ w ∈ Cond.classLink own ik cls :: Cond.initialized cls :: vx_atS own ic cls names, vx_ot w = true) →
        decode cc pc = .ok (.new ik, 3) → decode cc (pc + 3) = .ok (.dup, 1) → decode cc (pc + 4) = .ok (.ldc is, 2) → decode cc (pc + 6) = .ok (.invokespecial ic, 3) → decode cc (pc + 9) = .ok (.athrow, 1) → names.length + 3 < rm.frames → (st.map fun v => v.category).sum + (13 * (names.length + 1) + 43) ≤ rm.locals → kc + 1 ≤ rm.cells → ks + 6 ≤ rm.slots → pe cls → kc + 1 ≤ mc → ks + 6 ≤ ms → Z p l e rm s m args below meth c Q (fun q => s.heap.size ≤ q) g maxL pc lv st [] (wW ++ wR) kc ks) →
      Z p l e rm s m args below meth c Q (fun q => s.heap.size ≤ q) g maxL 0 (lv_args 0 av) [] [] (wW ++ wR) 0 0) :
    vx_Met l y ws rm (PX sl g av sz wW wR) (va_Qi post (BZ g wW sz w1) (va_A wW sz)) (XZ pe sz) mc ms (va_A wW sz) := by
  refine vx_ofW (cc := cc) (maxL := maxL) (ret := (some ret)) hy hw ?_
  intro p e s m args below meth c s₁ B hml hnt hv
  obtain ⟨rfl, hsz, hP, hK, hD, hT⟩ := hv
  subst hsz
  have hC : CX p s m av.toArray meth c (fun q => s.heap.size ≤ q) g maxL cc ws own := ⟨B.exec, B.bytes, hml, by rw [← hown]; exact findClass_of_methodNamed B.named, atoms_spec (ws := ws) B.pre, hK, fun q h => h, B.notSynchronized⟩
  have hl := lv_entry av (n := maxL) hlen
  have hT1 : TH g sl (fun q => s.heap.size ≤ q) s s.heap := ⟨⟨hT.1.1.narrow (fun q h => Or.inr h), hT.1.2.narrow (fun q h => Or.inr h)⟩, hT.2.1, hT.2.2.1.narrow (fun q h => Or.inr h), hT.2.2.2.narrow (fun q h => Or.inr h)⟩
  rw [lg_entry_eq]
  refine body p e s m _ below meth c _ hC hT1 hT.2.2 ?_ ?_ ?_ s.heap [] _ ⟨hP, hD, (fun k q hk => by cases hk), va_S.rf⟩ hl
  · intro pc lv v u vW vR kc ks hdg hnr hp hu hk1 hk2 H locs ls hw9 hl9
    subst hu
    have hPw : va_P g.1 vwCl (w1 u) H := fun k q hq => hw9.1 k q (by rw [List.getElem?_append_left (List.getElem?_eq_some_iff.mp hq).1]; exact hq)
    have hDw : va_D (va_A wW s.heap.size) (w1 u) := ⟨fun i j x y hi hj => hw9.2.1.1 i j x y (by rw [List.getElem?_append_left (List.getElem?_eq_some_iff.mp hi).1]; exact hi) (by rw [List.getElem?_append_left (List.getElem?_eq_some_iff.mp hj).1]; exact hj), hw9.2.2.1⟩
    refine W.widen hk1 hk2 ?_
    exact vx_ret (W.zret hC.1 hC.2.1 B.returns hnr (fun t ht hW => ⟨⟨v, u, rfl, hp, by rw [ht]; exact hPw, hDw⟩, hw9.2.2.2.F ht⟩) hw9.2.2.2.2.2 hdg B.notSynchronized)
  · intro E pc lv st kc ks hpe hk1 hk2 H locs ls q ce hw9 hl9 hce hcv hcl
    exact vx_out (fun x hx => (hnt x hx).elim) B.notSynchronized hce hcv hcl (fun t ht hvm => ⟨(), trivial, hpe, hw9.2.2.2.F ht⟩) (fun z hz => Or.inr (hw9.2.2.2.2.2 z hz)) hk1 hk2
  · intro pc lv st kc ks cls text names ik is ic hfc hfn hk hini hsl hat hng hcq hgood d0 d3 d4 d6 d9 hRf hRl hRc hRs hpe hk1 hk2 H locs ls hw9 hl9
    obtain ⟨sa, hsa⟩ := hT.2.1 (is, text) hsl
    exact vx_throwS (A := (fun q => s.heap.size ≤ q)) hC.1 hC.2.1 hlf hC.2.2.2.1 hfc hfn (hC.ts _ hk) (hC.ts _ hini) (by rw [show RX3 = own from hsown] at hsa; exact hsa) (vx_hat (B := decQ.map .declares ++ [.castable cls cls]) (fun w hw => hC.ts w (hat w hw)) (fun w hw => by rw [hng] at hw; exact hw) (fun w hw => (List.mem_append.mp hw).elim (fun q => by obtain ⟨y, hy, rfl⟩ := List.mem_map.mp q; exact va_Nw.use (A := av.toArray) rfl (hC.KN.2.2.2.2.1 _ hy)) (fun q => by rw [List.mem_singleton.mp q]; exact va_Nw.use (A := av.toArray) rfl (hC.KN.2.2.1 _ hcq)))) hgood hT1.1.1 hT1.1.2 hw9.2.2.2 (hl9.1.trans hml.symm) d0 d3 d4 d6 d9 (fun x hx => (hnt x hx).elim) hRf hRl hRc hRs B.notSynchronized (fun t hvm hz hq => ⟨(), trivial, hpe, ⟨Nat.le_trans hw9.2.2.2.1 hz, fun q h1 h2 => (hq q (Nat.lt_of_lt_of_le h1 hw9.2.2.2.1)).trans (hw9.2.2.2.2.1 q h1 h2)⟩⟩) (fun z hz => Or.inr (hw9.2.2.2.2.2 z hz)) hk1 hk2
theorem x_open_l {l : Launch} {y : MethodName} {ws ws' : List Cond} {rm : Room} {cc : ByteArray} {maxL : Nat}  {av : List Value} {sz : Nat} {wW wR : va_W} {g : Gx} {S : Type} {post : Int64 → S → Prop} {w1 : S → va_W} {mc ms : Nat} {own : String} {sl : List (Nat × String)} {pe : String → Prop}  (hy : plainName y.cls = true) (hw : ws = Cond.code y cc maxL (some .long) :: ws') (hown : y.cls = own) (hlen : (lg_sl av).length ≤ maxL) (hlf : l.stackTraces = false) (hsown : RX3 = own)
    (body : ∀ (p : Program) (e : Env) (s : State) (m : MethodId) (args : Array Value) (below : List Frame) (meth : Method) (c : Code) (Q : State → Prop), CX p s m args meth c (fun q => s.heap.size ≤ q) g maxL cc ws own → TH g sl (fun q => s.heap.size ≤ q) s s.heap → EDZ g (va_A wW s.heap.size) s s.heap → (∀ (pc : Nat) (lv : List (Nat × Value)) (v : Int64) (u : S) (vW vR : va_W) (kc ks : Nat), decode cc pc = .ok (.lreturn, 1) → post v u → w1 u = vW → kc ≤ mc → ks ≤ ms → Z p l e rm s m args below meth c Q (va_A wW s.heap.size) g maxL pc lv [.long v] vW vR kc ks) →
      (∀ (E : String) (pc : Nat) (lv : List (Nat × Value)) (st : List Value) (kc ks : Nat), pe E → kc ≤ mc → ks ≤ ms → ZX p l e rm s m args below meth c Q (fun q => s.heap.size ≤ q) g maxL E pc lv st [] (wW ++ wR) kc ks) →
      (∀ (pc : Nat) (lv : List (Nat × Value)) (st : List Value) (kc ks : Nat) (cls text : String) (names : List String) (ik is ic : Nat), Bundle.fit cls = true → (∀ n ∈ names, Bundle.fit n = true) → Cond.classLink own ik cls ∈ ws → Cond.initialized cls ∈ ws → (is, text) ∈ sl → (∀ w ∈ (vx_atS own ic cls names).filter goodWord, w ∈ ws) → (vx_atS own ic cls names).filter (fun w => !goodWord w) = decQ.map .declares ++ [.castable cls cls] → (cls, cls) ∈ castQ → (∀ w ∈ Cond.classLink own ik cls :: Cond.initialized cls :: vx_atS own ic cls names, vx_ot w = true) →
        decode cc pc = .ok (.new ik, 3) → decode cc (pc + 3) = .ok (.dup, 1) → decode cc (pc + 4) = .ok (.ldc is, 2) → decode cc (pc + 6) = .ok (.invokespecial ic, 3) → decode cc (pc + 9) = .ok (.athrow, 1) → names.length + 3 < rm.frames → (st.map fun v => v.category).sum + (13 * (names.length + 1) + 43) ≤ rm.locals → kc + 1 ≤ rm.cells → ks + 6 ≤ rm.slots → pe cls → kc + 1 ≤ mc → ks + 6 ≤ ms → Z p l e rm s m args below meth c Q (fun q => s.heap.size ≤ q) g maxL pc lv st [] (wW ++ wR) kc ks) →
      Z p l e rm s m args below meth c Q (fun q => s.heap.size ≤ q) g maxL 0 (lv_args 0 av) [] [] (wW ++ wR) 0 0) :
    vx_Met l y ws rm (PX sl g av sz wW wR) (va_Ql post (BZ g wW sz w1) (va_A wW sz)) (XZ pe sz) mc ms (va_A wW sz) := by
  refine vx_ofW (cc := cc) (maxL := maxL) (ret := (some .long)) hy hw ?_
  intro p e s m args below meth c s₁ B hml hnt hv
  obtain ⟨rfl, hsz, hP, hK, hD, hT⟩ := hv
  subst hsz
  have hC : CX p s m av.toArray meth c (fun q => s.heap.size ≤ q) g maxL cc ws own := ⟨B.exec, B.bytes, hml, by rw [← hown]; exact findClass_of_methodNamed B.named, atoms_spec (ws := ws) B.pre, hK, fun q h => h, B.notSynchronized⟩
  have hl := lv_entry av (n := maxL) hlen
  have hT1 : TH g sl (fun q => s.heap.size ≤ q) s s.heap := ⟨⟨hT.1.1.narrow (fun q h => Or.inr h), hT.1.2.narrow (fun q h => Or.inr h)⟩, hT.2.1, hT.2.2.1.narrow (fun q h => Or.inr h), hT.2.2.2.narrow (fun q h => Or.inr h)⟩
  rw [lg_entry_eq]
  refine body p e s m _ below meth c _ hC hT1 hT.2.2 ?_ ?_ ?_ s.heap [] _ ⟨hP, hD, (fun k q hk => by cases hk), va_S.rf⟩ hl
  · intro pc lv v u vW vR kc ks hdg hp hu hk1 hk2 H locs ls hw9 hl9
    subst hu
    have hPw : va_P g.1 vwCl (w1 u) H := fun k q hq => hw9.1 k q (by rw [List.getElem?_append_left (List.getElem?_eq_some_iff.mp hq).1]; exact hq)
    have hDw : va_D (va_A wW s.heap.size) (w1 u) := ⟨fun i j x y hi hj => hw9.2.1.1 i j x y (by rw [List.getElem?_append_left (List.getElem?_eq_some_iff.mp hi).1]; exact hi) (by rw [List.getElem?_append_left (List.getElem?_eq_some_iff.mp hj).1]; exact hj), hw9.2.2.1⟩
    refine W.widen hk1 hk2 ?_
    exact vx_ret (W.lret hC.1 hC.2.1 B.returns (fun t ht hW => ⟨⟨v, u, rfl, hp, by rw [ht]; exact hPw, hDw⟩, hw9.2.2.2.F ht⟩) hw9.2.2.2.2.2 hdg B.notSynchronized)
  · intro E pc lv st kc ks hpe hk1 hk2 H locs ls q ce hw9 hl9 hce hcv hcl
    exact vx_out (fun x hx => (hnt x hx).elim) B.notSynchronized hce hcv hcl (fun t ht hvm => ⟨(), trivial, hpe, hw9.2.2.2.F ht⟩) (fun z hz => Or.inr (hw9.2.2.2.2.2 z hz)) hk1 hk2
  · intro pc lv st kc ks cls text names ik is ic hfc hfn hk hini hsl hat hng hcq hgood d0 d3 d4 d6 d9 hRf hRl hRc hRs hpe hk1 hk2 H locs ls hw9 hl9
    obtain ⟨sa, hsa⟩ := hT.2.1 (is, text) hsl
    exact vx_throwS (A := (fun q => s.heap.size ≤ q)) hC.1 hC.2.1 hlf hC.2.2.2.1 hfc hfn (hC.ts _ hk) (hC.ts _ hini) (by rw [show RX3 = own from hsown] at hsa; exact hsa) (vx_hat (B := decQ.map .declares ++ [.castable cls cls]) (fun w hw => hC.ts w (hat w hw)) (fun w hw => by rw [hng] at hw; exact hw) (fun w hw => (List.mem_append.mp hw).elim (fun q => by obtain ⟨y, hy, rfl⟩ := List.mem_map.mp q; exact va_Nw.use (A := av.toArray) rfl (hC.KN.2.2.2.2.1 _ hy)) (fun q => by rw [List.mem_singleton.mp q]; exact va_Nw.use (A := av.toArray) rfl (hC.KN.2.2.1 _ hcq)))) hgood hT1.1.1 hT1.1.2 hw9.2.2.2 (hl9.1.trans hml.symm) d0 d3 d4 d6 d9 (fun x hx => (hnt x hx).elim) hRf hRl hRc hRs B.notSynchronized (fun t hvm hz hq => ⟨(), trivial, hpe, ⟨Nat.le_trans hw9.2.2.2.1 hz, fun q h1 h2 => (hq q (Nat.lt_of_lt_of_le h1 hw9.2.2.2.1)).trans (hw9.2.2.2.2.1 q h1 h2)⟩⟩) (fun z hz => Or.inr (hw9.2.2.2.2.2 z hz)) hk1 hk2
theorem x_open_v {l : Launch} {y : MethodName} {ws ws' : List Cond} {rm : Room} {cc : ByteArray} {maxL : Nat}  {av : List Value} {sz : Nat} {wW wR : va_W} {g : Gx} {S : Type} {post : S → Prop} {w1 : S → va_W} {mc ms : Nat} {own : String} {sl : List (Nat × String)} {pe : String → Prop}  (hy : plainName y.cls = true) (hw : ws = Cond.code y cc maxL none :: ws') (hown : y.cls = own) (hlen : (lg_sl av).length ≤ maxL) (hlf : l.stackTraces = false) (hsown : RX3 = own)
    (body : ∀ (p : Program) (e : Env) (s : State) (m : MethodId) (args : Array Value) (below : List Frame) (meth : Method) (c : Code) (Q : State → Prop), CX p s m args meth c (fun q => s.heap.size ≤ q) g maxL cc ws own → TH g sl (fun q => s.heap.size ≤ q) s s.heap → EDZ g (va_A wW s.heap.size) s s.heap → (∀ (pc : Nat) (lv : List (Nat × Value)) (u : S) (vW vR : va_W) (kc ks : Nat), decode cc pc = .ok (.return_, 1) → post u → w1 u = vW → kc ≤ mc → ks ≤ ms → Z p l e rm s m args below meth c Q (va_A wW s.heap.size) g maxL pc lv [] vW vR kc ks) →
      (∀ (E : String) (pc : Nat) (lv : List (Nat × Value)) (st : List Value) (kc ks : Nat), pe E → kc ≤ mc → ks ≤ ms → ZX p l e rm s m args below meth c Q (fun q => s.heap.size ≤ q) g maxL E pc lv st [] (wW ++ wR) kc ks) →
      (∀ (pc : Nat) (lv : List (Nat × Value)) (st : List Value) (kc ks : Nat) (cls text : String) (names : List String) (ik is ic : Nat), Bundle.fit cls = true → (∀ n ∈ names, Bundle.fit n = true) → Cond.classLink own ik cls ∈ ws → Cond.initialized cls ∈ ws → (is, text) ∈ sl → (∀ w ∈ (vx_atS own ic cls names).filter goodWord, w ∈ ws) → (vx_atS own ic cls names).filter (fun w => !goodWord w) = decQ.map .declares ++ [.castable cls cls] → (cls, cls) ∈ castQ → (∀ w ∈ Cond.classLink own ik cls :: Cond.initialized cls :: vx_atS own ic cls names, vx_ot w = true) →
        decode cc pc = .ok (.new ik, 3) → decode cc (pc + 3) = .ok (.dup, 1) → decode cc (pc + 4) = .ok (.ldc is, 2) → decode cc (pc + 6) = .ok (.invokespecial ic, 3) → decode cc (pc + 9) = .ok (.athrow, 1) → names.length + 3 < rm.frames → (st.map fun v => v.category).sum + (13 * (names.length + 1) + 43) ≤ rm.locals → kc + 1 ≤ rm.cells → ks + 6 ≤ rm.slots → pe cls → kc + 1 ≤ mc → ks + 6 ≤ ms → Z p l e rm s m args below meth c Q (fun q => s.heap.size ≤ q) g maxL pc lv st [] (wW ++ wR) kc ks) →
      Z p l e rm s m args below meth c Q (fun q => s.heap.size ≤ q) g maxL 0 (lv_args 0 av) [] [] (wW ++ wR) 0 0) :
    vx_Met l y ws rm (PX sl g av sz wW wR) (va_Qv post (BZ g wW sz w1) (va_A wW sz)) (XZ pe sz) mc ms (va_A wW sz) := by
  refine vx_ofW (cc := cc) (maxL := maxL) (ret := none) hy hw ?_
  intro p e s m args below meth c s₁ B hml hnt hv
  obtain ⟨rfl, hsz, hP, hK, hD, hT⟩ := hv
  subst hsz
  have hC : CX p s m av.toArray meth c (fun q => s.heap.size ≤ q) g maxL cc ws own := ⟨B.exec, B.bytes, hml, by rw [← hown]; exact findClass_of_methodNamed B.named, atoms_spec (ws := ws) B.pre, hK, fun q h => h, B.notSynchronized⟩
  have hl := lv_entry av (n := maxL) hlen
  have hT1 : TH g sl (fun q => s.heap.size ≤ q) s s.heap := ⟨⟨hT.1.1.narrow (fun q h => Or.inr h), hT.1.2.narrow (fun q h => Or.inr h)⟩, hT.2.1, hT.2.2.1.narrow (fun q h => Or.inr h), hT.2.2.2.narrow (fun q h => Or.inr h)⟩
  rw [lg_entry_eq]
  refine body p e s m _ below meth c _ hC hT1 hT.2.2 ?_ ?_ ?_ s.heap [] _ ⟨hP, hD, (fun k q hk => by cases hk), va_S.rf⟩ hl
  · intro pc lv u vW vR kc ks hdg hp hu hk1 hk2 H locs ls hw9 hl9
    subst hu
    have hPw : va_P g.1 vwCl (w1 u) H := fun k q hq => hw9.1 k q (by rw [List.getElem?_append_left (List.getElem?_eq_some_iff.mp hq).1]; exact hq)
    have hDw : va_D (va_A wW s.heap.size) (w1 u) := ⟨fun i j x y hi hj => hw9.2.1.1 i j x y (by rw [List.getElem?_append_left (List.getElem?_eq_some_iff.mp hi).1]; exact hi) (by rw [List.getElem?_append_left (List.getElem?_eq_some_iff.mp hj).1]; exact hj), hw9.2.2.1⟩
    refine W.widen hk1 hk2 ?_
    exact vx_ret (W.vret hC.1 hC.2.1 B.returns (fun t ht hW => ⟨⟨u, rfl, hp, by rw [ht]; exact hPw, hDw⟩, hw9.2.2.2.F ht⟩) hw9.2.2.2.2.2 hdg B.notSynchronized)
  · intro E pc lv st kc ks hpe hk1 hk2 H locs ls q ce hw9 hl9 hce hcv hcl
    exact vx_out (fun x hx => (hnt x hx).elim) B.notSynchronized hce hcv hcl (fun t ht hvm => ⟨(), trivial, hpe, hw9.2.2.2.F ht⟩) (fun z hz => Or.inr (hw9.2.2.2.2.2 z hz)) hk1 hk2
  · intro pc lv st kc ks cls text names ik is ic hfc hfn hk hini hsl hat hng hcq hgood d0 d3 d4 d6 d9 hRf hRl hRc hRs hpe hk1 hk2 H locs ls hw9 hl9
    obtain ⟨sa, hsa⟩ := hT.2.1 (is, text) hsl
    exact vx_throwS (A := (fun q => s.heap.size ≤ q)) hC.1 hC.2.1 hlf hC.2.2.2.1 hfc hfn (hC.ts _ hk) (hC.ts _ hini) (by rw [show RX3 = own from hsown] at hsa; exact hsa) (vx_hat (B := decQ.map .declares ++ [.castable cls cls]) (fun w hw => hC.ts w (hat w hw)) (fun w hw => by rw [hng] at hw; exact hw) (fun w hw => (List.mem_append.mp hw).elim (fun q => by obtain ⟨y, hy, rfl⟩ := List.mem_map.mp q; exact va_Nw.use (A := av.toArray) rfl (hC.KN.2.2.2.2.1 _ hy)) (fun q => by rw [List.mem_singleton.mp q]; exact va_Nw.use (A := av.toArray) rfl (hC.KN.2.2.1 _ hcq)))) hgood hT1.1.1 hT1.1.2 hw9.2.2.2 (hl9.1.trans hml.symm) d0 d3 d4 d6 d9 (fun x hx => (hnt x hx).elim) hRf hRl hRc hRs B.notSynchronized (fun t hvm hz hq => ⟨(), trivial, hpe, ⟨Nat.le_trans hw9.2.2.2.1 hz, fun q h1 h2 => (hq q (Nat.lt_of_lt_of_le h1 hw9.2.2.2.1)).trans (hw9.2.2.2.2.1 q h1 h2)⟩⟩) (fun z hz => Or.inr (hw9.2.2.2.2.2 z hz)) hk1 hk2
theorem x_open0_i {l : Launch} {y : MethodName} {ws ws' : List Cond} {rm : Room} {cc : ByteArray} {maxL : Nat} {ret : FieldType} {av : List Value} {sz : Nat} {wW : va_W} {g : Gx} {S : Type} {post : Int32 → S → Prop} {w1 : S → va_W} {mc ms : Nat} {own : String} {sl : List (Nat × String)} {pe : String → Prop}  (hy : plainName y.cls = true) (hw : ws = Cond.code y cc maxL (some ret) :: ws') (hown : y.cls = own) (hlen : (lg_sl av).length ≤ maxL) (hlf : l.stackTraces = false) (hsown : RX3 = own)
    (body : ∀ (p : Program) (e : Env) (s : State) (m : MethodId) (args : Array Value) (below : List Frame) (meth : Method) (c : Code) (Q : State → Prop), CX p s m args meth c (fun q => s.heap.size ≤ q) g maxL cc ws own → TH g sl (fun q => s.heap.size ≤ q) s s.heap → EDZ g (va_A wW s.heap.size) s s.heap → (∀ (pc : Nat) (lv : List (Nat × Value)) (v : Int32) (u : S) (vW vR : va_W) (kc ks : Nat), decode cc pc = .ok (.ireturn, 1) → narrow ret (.int v) = .int v → post v u → w1 u = vW → kc ≤ mc → ks ≤ ms → Z p l e rm s m args below meth c Q (va_A wW s.heap.size) g maxL pc lv [.int v] vW vR kc ks) →
      (∀ (E : String) (pc : Nat) (lv : List (Nat × Value)) (st : List Value) (kc ks : Nat), pe E → kc ≤ mc → ks ≤ ms → ZX p l e rm s m args below meth c Q (fun q => s.heap.size ≤ q) g maxL E pc lv st [] wW kc ks) →
      (∀ (pc : Nat) (lv : List (Nat × Value)) (st : List Value) (kc ks : Nat) (cls text : String) (names : List String) (ik is ic : Nat), Bundle.fit cls = true → (∀ n ∈ names, Bundle.fit n = true) → Cond.classLink own ik cls ∈ ws → Cond.initialized cls ∈ ws → (is, text) ∈ sl → (∀ w ∈ (vx_atS own ic cls names).filter goodWord, w ∈ ws) → (vx_atS own ic cls names).filter (fun w => !goodWord w) = decQ.map .declares ++ [.castable cls cls] → (cls, cls) ∈ castQ → (∀ w ∈ Cond.classLink own ik cls :: Cond.initialized cls :: vx_atS own ic cls names, vx_ot w = true) →
        decode cc pc = .ok (.new ik, 3) → decode cc (pc + 3) = .ok (.dup, 1) → decode cc (pc + 4) = .ok (.ldc is, 2) → decode cc (pc + 6) = .ok (.invokespecial ic, 3) → decode cc (pc + 9) = .ok (.athrow, 1) → names.length + 3 < rm.frames → (st.map fun v => v.category).sum + (13 * (names.length + 1) + 43) ≤ rm.locals → kc + 1 ≤ rm.cells → ks + 6 ≤ rm.slots → pe cls → kc + 1 ≤ mc → ks + 6 ≤ ms → Z p l e rm s m args below meth c Q (fun q => s.heap.size ≤ q) g maxL pc lv st [] wW kc ks) →
      Z p l e rm s m args below meth c Q (fun q => s.heap.size ≤ q) g maxL 0 (lv_args 0 av) [] [] wW 0 0) :
    vx_Met l y ws rm (PX sl g av sz wW []) (va_Qi post (BZ g wW sz w1) (va_A wW sz)) (XZ pe sz) mc ms (va_A wW sz) := by
  refine vx_ofW (cc := cc) (maxL := maxL) (ret := (some ret)) hy hw ?_
  intro p e s m args below meth c s₁ B hml hnt hv
  obtain ⟨rfl, hsz, hP, hK, hD, hT⟩ := hv
  rw [List.append_nil] at hP hD
  subst hsz
  have hC : CX p s m av.toArray meth c (fun q => s.heap.size ≤ q) g maxL cc ws own := ⟨B.exec, B.bytes, hml, by rw [← hown]; exact findClass_of_methodNamed B.named, atoms_spec (ws := ws) B.pre, hK, fun q h => h, B.notSynchronized⟩
  have hl := lv_entry av (n := maxL) hlen
  have hT1 : TH g sl (fun q => s.heap.size ≤ q) s s.heap := ⟨⟨hT.1.1.narrow (fun q h => Or.inr h), hT.1.2.narrow (fun q h => Or.inr h)⟩, hT.2.1, hT.2.2.1.narrow (fun q h => Or.inr h), hT.2.2.2.narrow (fun q h => Or.inr h)⟩
  rw [lg_entry_eq]
  refine body p e s m _ below meth c _ hC hT1 hT.2.2 ?_ ?_ ?_ s.heap [] _ ⟨hP, hD, (fun k q hk => by cases hk), va_S.rf⟩ hl
  · intro pc lv v u vW vR kc ks hdg hnr hp hu hk1 hk2 H locs ls hw9 hl9
    subst hu
    have hPw : va_P g.1 vwCl (w1 u) H := fun k q hq => hw9.1 k q (by rw [List.getElem?_append_left (List.getElem?_eq_some_iff.mp hq).1]; exact hq)
    have hDw : va_D (va_A wW s.heap.size) (w1 u) := ⟨fun i j x y hi hj => hw9.2.1.1 i j x y (by rw [List.getElem?_append_left (List.getElem?_eq_some_iff.mp hi).1]; exact hi) (by rw [List.getElem?_append_left (List.getElem?_eq_some_iff.mp hj).1]; exact hj), hw9.2.2.1⟩
    refine W.widen hk1 hk2 ?_
    exact vx_ret (W.zret hC.1 hC.2.1 B.returns hnr (fun t ht hW => ⟨⟨v, u, rfl, hp, by rw [ht]; exact hPw, hDw⟩, hw9.2.2.2.F ht⟩) hw9.2.2.2.2.2 hdg B.notSynchronized)
  · intro E pc lv st kc ks hpe hk1 hk2 H locs ls q ce hw9 hl9 hce hcv hcl
    exact vx_out (fun x hx => (hnt x hx).elim) B.notSynchronized hce hcv hcl (fun t ht hvm => ⟨(), trivial, hpe, hw9.2.2.2.F ht⟩) (fun z hz => Or.inr (hw9.2.2.2.2.2 z hz)) hk1 hk2
  · intro pc lv st kc ks cls text names ik is ic hfc hfn hk hini hsl hat hng hcq hgood d0 d3 d4 d6 d9 hRf hRl hRc hRs hpe hk1 hk2 H locs ls hw9 hl9
    obtain ⟨sa, hsa⟩ := hT.2.1 (is, text) hsl
    exact vx_throwS (A := (fun q => s.heap.size ≤ q)) hC.1 hC.2.1 hlf hC.2.2.2.1 hfc hfn (hC.ts _ hk) (hC.ts _ hini) (by rw [show RX3 = own from hsown] at hsa; exact hsa) (vx_hat (B := decQ.map .declares ++ [.castable cls cls]) (fun w hw => hC.ts w (hat w hw)) (fun w hw => by rw [hng] at hw; exact hw) (fun w hw => (List.mem_append.mp hw).elim (fun q => by obtain ⟨y, hy, rfl⟩ := List.mem_map.mp q; exact va_Nw.use (A := av.toArray) rfl (hC.KN.2.2.2.2.1 _ hy)) (fun q => by rw [List.mem_singleton.mp q]; exact va_Nw.use (A := av.toArray) rfl (hC.KN.2.2.1 _ hcq)))) hgood hT1.1.1 hT1.1.2 hw9.2.2.2 (hl9.1.trans hml.symm) d0 d3 d4 d6 d9 (fun x hx => (hnt x hx).elim) hRf hRl hRc hRs B.notSynchronized (fun t hvm hz hq => ⟨(), trivial, hpe, ⟨Nat.le_trans hw9.2.2.2.1 hz, fun q h1 h2 => (hq q (Nat.lt_of_lt_of_le h1 hw9.2.2.2.1)).trans (hw9.2.2.2.2.1 q h1 h2)⟩⟩) (fun z hz => Or.inr (hw9.2.2.2.2.2 z hz)) hk1 hk2
theorem x_open0_l {l : Launch} {y : MethodName} {ws ws' : List Cond} {rm : Room} {cc : ByteArray} {maxL : Nat}  {av : List Value} {sz : Nat} {wW : va_W} {g : Gx} {S : Type} {post : Int64 → S → Prop} {w1 : S → va_W} {mc ms : Nat} {own : String} {sl : List (Nat × String)} {pe : String → Prop}  (hy : plainName y.cls = true) (hw : ws = Cond.code y cc maxL (some .long) :: ws') (hown : y.cls = own) (hlen : (lg_sl av).length ≤ maxL) (hlf : l.stackTraces = false) (hsown : RX3 = own)
    (body : ∀ (p : Program) (e : Env) (s : State) (m : MethodId) (args : Array Value) (below : List Frame) (meth : Method) (c : Code) (Q : State → Prop), CX p s m args meth c (fun q => s.heap.size ≤ q) g maxL cc ws own → TH g sl (fun q => s.heap.size ≤ q) s s.heap → EDZ g (va_A wW s.heap.size) s s.heap → (∀ (pc : Nat) (lv : List (Nat × Value)) (v : Int64) (u : S) (vW vR : va_W) (kc ks : Nat), decode cc pc = .ok (.lreturn, 1) → post v u → w1 u = vW → kc ≤ mc → ks ≤ ms → Z p l e rm s m args below meth c Q (va_A wW s.heap.size) g maxL pc lv [.long v] vW vR kc ks) →
      (∀ (E : String) (pc : Nat) (lv : List (Nat × Value)) (st : List Value) (kc ks : Nat), pe E → kc ≤ mc → ks ≤ ms → ZX p l e rm s m args below meth c Q (fun q => s.heap.size ≤ q) g maxL E pc lv st [] wW kc ks) →
      (∀ (pc : Nat) (lv : List (Nat × Value)) (st : List Value) (kc ks : Nat) (cls text : String) (names : List String) (ik is ic : Nat), Bundle.fit cls = true → (∀ n ∈ names, Bundle.fit n = true) → Cond.classLink own ik cls ∈ ws → Cond.initialized cls ∈ ws → (is, text) ∈ sl → (∀ w ∈ (vx_atS own ic cls names).filter goodWord, w ∈ ws) → (vx_atS own ic cls names).filter (fun w => !goodWord w) = decQ.map .declares ++ [.castable cls cls] → (cls, cls) ∈ castQ → (∀ w ∈ Cond.classLink own ik cls :: Cond.initialized cls :: vx_atS own ic cls names, vx_ot w = true) →
        decode cc pc = .ok (.new ik, 3) → decode cc (pc + 3) = .ok (.dup, 1) → decode cc (pc + 4) = .ok (.ldc is, 2) → decode cc (pc + 6) = .ok (.invokespecial ic, 3) → decode cc (pc + 9) = .ok (.athrow, 1) → names.length + 3 < rm.frames → (st.map fun v => v.category).sum + (13 * (names.length + 1) + 43) ≤ rm.locals → kc + 1 ≤ rm.cells → ks + 6 ≤ rm.slots → pe cls → kc + 1 ≤ mc → ks + 6 ≤ ms → Z p l e rm s m args below meth c Q (fun q => s.heap.size ≤ q) g maxL pc lv st [] wW kc ks) →
      Z p l e rm s m args below meth c Q (fun q => s.heap.size ≤ q) g maxL 0 (lv_args 0 av) [] [] wW 0 0) :
    vx_Met l y ws rm (PX sl g av sz wW []) (va_Ql post (BZ g wW sz w1) (va_A wW sz)) (XZ pe sz) mc ms (va_A wW sz) := by
  refine vx_ofW (cc := cc) (maxL := maxL) (ret := (some .long)) hy hw ?_
  intro p e s m args below meth c s₁ B hml hnt hv
  obtain ⟨rfl, hsz, hP, hK, hD, hT⟩ := hv
  rw [List.append_nil] at hP hD
  subst hsz
  have hC : CX p s m av.toArray meth c (fun q => s.heap.size ≤ q) g maxL cc ws own := ⟨B.exec, B.bytes, hml, by rw [← hown]; exact findClass_of_methodNamed B.named, atoms_spec (ws := ws) B.pre, hK, fun q h => h, B.notSynchronized⟩
  have hl := lv_entry av (n := maxL) hlen
  have hT1 : TH g sl (fun q => s.heap.size ≤ q) s s.heap := ⟨⟨hT.1.1.narrow (fun q h => Or.inr h), hT.1.2.narrow (fun q h => Or.inr h)⟩, hT.2.1, hT.2.2.1.narrow (fun q h => Or.inr h), hT.2.2.2.narrow (fun q h => Or.inr h)⟩
  rw [lg_entry_eq]
  refine body p e s m _ below meth c _ hC hT1 hT.2.2 ?_ ?_ ?_ s.heap [] _ ⟨hP, hD, (fun k q hk => by cases hk), va_S.rf⟩ hl
  · intro pc lv v u vW vR kc ks hdg hp hu hk1 hk2 H locs ls hw9 hl9
    subst hu
    have hPw : va_P g.1 vwCl (w1 u) H := fun k q hq => hw9.1 k q (by rw [List.getElem?_append_left (List.getElem?_eq_some_iff.mp hq).1]; exact hq)
    have hDw : va_D (va_A wW s.heap.size) (w1 u) := ⟨fun i j x y hi hj => hw9.2.1.1 i j x y (by rw [List.getElem?_append_left (List.getElem?_eq_some_iff.mp hi).1]; exact hi) (by rw [List.getElem?_append_left (List.getElem?_eq_some_iff.mp hj).1]; exact hj), hw9.2.2.1⟩
    refine W.widen hk1 hk2 ?_
    exact vx_ret (W.lret hC.1 hC.2.1 B.returns (fun t ht hW => ⟨⟨v, u, rfl, hp, by rw [ht]; exact hPw, hDw⟩, hw9.2.2.2.F ht⟩) hw9.2.2.2.2.2 hdg B.notSynchronized)
  · intro E pc lv st kc ks hpe hk1 hk2 H locs ls q ce hw9 hl9 hce hcv hcl
    exact vx_out (fun x hx => (hnt x hx).elim) B.notSynchronized hce hcv hcl (fun t ht hvm => ⟨(), trivial, hpe, hw9.2.2.2.F ht⟩) (fun z hz => Or.inr (hw9.2.2.2.2.2 z hz)) hk1 hk2
  · intro pc lv st kc ks cls text names ik is ic hfc hfn hk hini hsl hat hng hcq hgood d0 d3 d4 d6 d9 hRf hRl hRc hRs hpe hk1 hk2 H locs ls hw9 hl9
    obtain ⟨sa, hsa⟩ := hT.2.1 (is, text) hsl
    exact vx_throwS (A := (fun q => s.heap.size ≤ q)) hC.1 hC.2.1 hlf hC.2.2.2.1 hfc hfn (hC.ts _ hk) (hC.ts _ hini) (by rw [show RX3 = own from hsown] at hsa; exact hsa) (vx_hat (B := decQ.map .declares ++ [.castable cls cls]) (fun w hw => hC.ts w (hat w hw)) (fun w hw => by rw [hng] at hw; exact hw) (fun w hw => (List.mem_append.mp hw).elim (fun q => by obtain ⟨y, hy, rfl⟩ := List.mem_map.mp q; exact va_Nw.use (A := av.toArray) rfl (hC.KN.2.2.2.2.1 _ hy)) (fun q => by rw [List.mem_singleton.mp q]; exact va_Nw.use (A := av.toArray) rfl (hC.KN.2.2.1 _ hcq)))) hgood hT1.1.1 hT1.1.2 hw9.2.2.2 (hl9.1.trans hml.symm) d0 d3 d4 d6 d9 (fun x hx => (hnt x hx).elim) hRf hRl hRc hRs B.notSynchronized (fun t hvm hz hq => ⟨(), trivial, hpe, ⟨Nat.le_trans hw9.2.2.2.1 hz, fun q h1 h2 => (hq q (Nat.lt_of_lt_of_le h1 hw9.2.2.2.1)).trans (hw9.2.2.2.2.1 q h1 h2)⟩⟩) (fun z hz => Or.inr (hw9.2.2.2.2.2 z hz)) hk1 hk2
theorem x_open0_v {l : Launch} {y : MethodName} {ws ws' : List Cond} {rm : Room} {cc : ByteArray} {maxL : Nat}  {av : List Value} {sz : Nat} {wW : va_W} {g : Gx} {S : Type} {post : S → Prop} {w1 : S → va_W} {mc ms : Nat} {own : String} {sl : List (Nat × String)} {pe : String → Prop}  (hy : plainName y.cls = true) (hw : ws = Cond.code y cc maxL none :: ws') (hown : y.cls = own) (hlen : (lg_sl av).length ≤ maxL) (hlf : l.stackTraces = false) (hsown : RX3 = own)
    (body : ∀ (p : Program) (e : Env) (s : State) (m : MethodId) (args : Array Value) (below : List Frame) (meth : Method) (c : Code) (Q : State → Prop), CX p s m args meth c (fun q => s.heap.size ≤ q) g maxL cc ws own → TH g sl (fun q => s.heap.size ≤ q) s s.heap → EDZ g (va_A wW s.heap.size) s s.heap → (∀ (pc : Nat) (lv : List (Nat × Value)) (u : S) (vW vR : va_W) (kc ks : Nat), decode cc pc = .ok (.return_, 1) → post u → w1 u = vW → kc ≤ mc → ks ≤ ms → Z p l e rm s m args below meth c Q (va_A wW s.heap.size) g maxL pc lv [] vW vR kc ks) →
      (∀ (E : String) (pc : Nat) (lv : List (Nat × Value)) (st : List Value) (kc ks : Nat), pe E → kc ≤ mc → ks ≤ ms → ZX p l e rm s m args below meth c Q (fun q => s.heap.size ≤ q) g maxL E pc lv st [] wW kc ks) →
      (∀ (pc : Nat) (lv : List (Nat × Value)) (st : List Value) (kc ks : Nat) (cls text : String) (names : List String) (ik is ic : Nat), Bundle.fit cls = true → (∀ n ∈ names, Bundle.fit n = true) → Cond.classLink own ik cls ∈ ws → Cond.initialized cls ∈ ws → (is, text) ∈ sl → (∀ w ∈ (vx_atS own ic cls names).filter goodWord, w ∈ ws) → (vx_atS own ic cls names).filter (fun w => !goodWord w) = decQ.map .declares ++ [.castable cls cls] → (cls, cls) ∈ castQ → (∀ w ∈ Cond.classLink own ik cls :: Cond.initialized cls :: vx_atS own ic cls names, vx_ot w = true) →
        decode cc pc = .ok (.new ik, 3) → decode cc (pc + 3) = .ok (.dup, 1) → decode cc (pc + 4) = .ok (.ldc is, 2) → decode cc (pc + 6) = .ok (.invokespecial ic, 3) → decode cc (pc + 9) = .ok (.athrow, 1) → names.length + 3 < rm.frames → (st.map fun v => v.category).sum + (13 * (names.length + 1) + 43) ≤ rm.locals → kc + 1 ≤ rm.cells → ks + 6 ≤ rm.slots → pe cls → kc + 1 ≤ mc → ks + 6 ≤ ms → Z p l e rm s m args below meth c Q (fun q => s.heap.size ≤ q) g maxL pc lv st [] wW kc ks) →
      Z p l e rm s m args below meth c Q (fun q => s.heap.size ≤ q) g maxL 0 (lv_args 0 av) [] [] wW 0 0) :
    vx_Met l y ws rm (PX sl g av sz wW []) (va_Qv post (BZ g wW sz w1) (va_A wW sz)) (XZ pe sz) mc ms (va_A wW sz) := by
  refine vx_ofW (cc := cc) (maxL := maxL) (ret := none) hy hw ?_
  intro p e s m args below meth c s₁ B hml hnt hv
  obtain ⟨rfl, hsz, hP, hK, hD, hT⟩ := hv
  rw [List.append_nil] at hP hD
  subst hsz
  have hC : CX p s m av.toArray meth c (fun q => s.heap.size ≤ q) g maxL cc ws own := ⟨B.exec, B.bytes, hml, by rw [← hown]; exact findClass_of_methodNamed B.named, atoms_spec (ws := ws) B.pre, hK, fun q h => h, B.notSynchronized⟩
  have hl := lv_entry av (n := maxL) hlen
  have hT1 : TH g sl (fun q => s.heap.size ≤ q) s s.heap := ⟨⟨hT.1.1.narrow (fun q h => Or.inr h), hT.1.2.narrow (fun q h => Or.inr h)⟩, hT.2.1, hT.2.2.1.narrow (fun q h => Or.inr h), hT.2.2.2.narrow (fun q h => Or.inr h)⟩
  rw [lg_entry_eq]
  refine body p e s m _ below meth c _ hC hT1 hT.2.2 ?_ ?_ ?_ s.heap [] _ ⟨hP, hD, (fun k q hk => by cases hk), va_S.rf⟩ hl
  · intro pc lv u vW vR kc ks hdg hp hu hk1 hk2 H locs ls hw9 hl9
    subst hu
    have hPw : va_P g.1 vwCl (w1 u) H := fun k q hq => hw9.1 k q (by rw [List.getElem?_append_left (List.getElem?_eq_some_iff.mp hq).1]; exact hq)
    have hDw : va_D (va_A wW s.heap.size) (w1 u) := ⟨fun i j x y hi hj => hw9.2.1.1 i j x y (by rw [List.getElem?_append_left (List.getElem?_eq_some_iff.mp hi).1]; exact hi) (by rw [List.getElem?_append_left (List.getElem?_eq_some_iff.mp hj).1]; exact hj), hw9.2.2.1⟩
    refine W.widen hk1 hk2 ?_
    exact vx_ret (W.vret hC.1 hC.2.1 B.returns (fun t ht hW => ⟨⟨u, rfl, hp, by rw [ht]; exact hPw, hDw⟩, hw9.2.2.2.F ht⟩) hw9.2.2.2.2.2 hdg B.notSynchronized)
  · intro E pc lv st kc ks hpe hk1 hk2 H locs ls q ce hw9 hl9 hce hcv hcl
    exact vx_out (fun x hx => (hnt x hx).elim) B.notSynchronized hce hcv hcl (fun t ht hvm => ⟨(), trivial, hpe, hw9.2.2.2.F ht⟩) (fun z hz => Or.inr (hw9.2.2.2.2.2 z hz)) hk1 hk2
  · intro pc lv st kc ks cls text names ik is ic hfc hfn hk hini hsl hat hng hcq hgood d0 d3 d4 d6 d9 hRf hRl hRc hRs hpe hk1 hk2 H locs ls hw9 hl9
    obtain ⟨sa, hsa⟩ := hT.2.1 (is, text) hsl
    exact vx_throwS (A := (fun q => s.heap.size ≤ q)) hC.1 hC.2.1 hlf hC.2.2.2.1 hfc hfn (hC.ts _ hk) (hC.ts _ hini) (by rw [show RX3 = own from hsown] at hsa; exact hsa) (vx_hat (B := decQ.map .declares ++ [.castable cls cls]) (fun w hw => hC.ts w (hat w hw)) (fun w hw => by rw [hng] at hw; exact hw) (fun w hw => (List.mem_append.mp hw).elim (fun q => by obtain ⟨y, hy, rfl⟩ := List.mem_map.mp q; exact va_Nw.use (A := av.toArray) rfl (hC.KN.2.2.2.2.1 _ hy)) (fun q => by rw [List.mem_singleton.mp q]; exact va_Nw.use (A := av.toArray) rfl (hC.KN.2.2.1 _ hcq)))) hgood hT1.1.1 hT1.1.2 hw9.2.2.2 (hl9.1.trans hml.symm) d0 d3 d4 d6 d9 (fun x hx => (hnt x hx).elim) hRf hRl hRc hRs B.notSynchronized (fun t hvm hz hq => ⟨(), trivial, hpe, ⟨Nat.le_trans hw9.2.2.2.1 hz, fun q h1 h2 => (hq q (Nat.lt_of_lt_of_le h1 hw9.2.2.2.1)).trans (hw9.2.2.2.2.1 q h1 h2)⟩⟩) (fun z hz => Or.inr (hw9.2.2.2.2.2 z hz)) hk1 hk2
