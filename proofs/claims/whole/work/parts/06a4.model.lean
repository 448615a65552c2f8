theorem div10 : ∀ i, i < 100 → nI i / 10 = nI (i / 10) := by decide +kernel
theorem rem10 : ∀ i, i < 100 → nI i - nI i / 10 * 10 = nI (i % 10) := by decide +kernel
def mdM : Nat → Nat → Int32
  | 0 => fun _ => 0
  | i + 1 => upd (mdM i) i (if nI (i / 10) = nI (i % 10) then 0 else 30)
def obI : Option Nat → Int32
  | none => -1
  | some q => nI q
def dv2 (fm : Nat → Int32) (fa fb q : Nat) : Int32 := fm (fa * 10 + q) + fm (q * 10 + fb)
def tfS (fm : Nat → Int32) (fa fb n : Nat) : Option Nat → Option Nat
  | none => some n
  | some q => if dv2 fm fa fb n < dv2 fm fa fb q then some n else some q
def tfo (fm ft : Nat → Int32) (k : Int32) (fa fb : Nat) : Nat → Option Nat
  | 0 => none
  | n + 1 => if hasT (ft n) k = 0 then tfo fm ft k fa fb n else tfS fm fa fb n (tfo fm ft k fa fb n)
theorem obI_ne {bo : Option Nat} (h : ¬ obI bo = -1) : ∃ q, bo = some q := by
  cases bo with
  | none => exact absurd rfl h
  | some q => exact ⟨q, rfl⟩
theorem obI_eq {bo : Option Nat} (hq : ∀ q, bo = some q → q < 16) (h : obI bo = -1) : bo = none := by
  cases bo with
  | none => rfl
  | some q =>
    have h1 : q < 16 := hq q rfl
    have h2 : (nI q).toInt = (-1 : Int32).toInt := by rw [show nI q = obI (some q) from rfl, h]
    rw [nI_toInt (by omega)] at h2
    have h3 : (-1 : Int32).toInt = -1 := rfl
    omega
theorem upd_self {f : Nat → Int32} {i : Nat} : upd f i (f i) = f := by
  funext q
  unfold upd
  split
  · next e => rw [e]
  · rfl
theorem in_X4_addBin_X4 : ∀ w ∈ wsX40, w ∈ wsX4_addBin := by decide +kernel
theorem lk_X4_addBin_f24 : Cond.fieldLink RX4 24 (TX4 7).1 (TX4 7).2.1 (TX4 7).2.2.1 ∈ wsX4_addBin := by decide +kernel
theorem lk_X4_addBin_f27 : Cond.fieldLink RX4 27 (TX4 8).1 (TX4 8).2.1 (TX4 8).2.2.1 ∈ wsX4_addBin := by decide +kernel
theorem lk_X4_addBin_f30 : Cond.fieldLink RX4 30 (TX4 9).1 (TX4 9).2.1 (TX4 9).2.2.1 ∈ wsX4_addBin := by decide +kernel
theorem lk_X4_addBin_f33 : Cond.fieldLink RX4 33 (TX4 10).1 (TX4 10).2.1 (TX4 10).2.2.1 ∈ wsX4_addBin := by decide +kernel
theorem lk_X4_addBin_f36 : Cond.fieldLink RX4 36 (TX4 11).1 (TX4 11).2.1 (TX4 11).2.2.1 ∈ wsX4_addBin := by decide +kernel
theorem lk_X4_addBin_f39 : Cond.fieldLink RX4 39 (TX4 12).1 (TX4 12).2.1 (TX4 12).2.2.1 ∈ wsX4_addBin := by decide +kernel
theorem lk_X4_addBin_f42 : Cond.fieldLink RX4 42 (TX4 13).1 (TX4 13).2.1 (TX4 13).2.2.1 ∈ wsX4_addBin := by decide +kernel
theorem lk_X4_addBin_f64 : Cond.fieldLink RX4 64 (TX4 0).1 (TX4 0).2.1 (TX4 0).2.2.1 ∈ wsX4_addBin := by decide +kernel
theorem lk_X4_addBin_f71 : Cond.fieldLink RX4 71 (TX4 6).1 (TX4 6).2.1 (TX4 6).2.2.1 ∈ wsX4_addBin := by decide +kernel
theorem lk_X4_addBin_f93 : Cond.fieldLink RX4 93 (TX4 5).1 (TX4 5).2.1 (TX4 5).2.2.1 ∈ wsX4_addBin := by decide +kernel
theorem ac_X4_init_I : Cond.arrayClass (newarray.typeOf .int) ∈ wsX4_init := by decide +kernel
theorem ac_X4_init_J : Cond.arrayClass (newarray.typeOf .long) ∈ wsX4_init := by decide +kernel
theorem ac_X4_init_Z : Cond.arrayClass (newarray.typeOf .boolean) ∈ wsX4_init := by decide +kernel
theorem in_X4_init_X4 : ∀ w ∈ wsX40, w ∈ wsX4_init := by decide +kernel
theorem lk_X4_init_f13 : Cond.fieldLink RX4 13 (TX4 2).1 (TX4 2).2.1 (TX4 2).2.2.1 ∈ wsX4_init := by decide +kernel
theorem lk_X4_init_f17 : Cond.fieldLink RX4 17 (TX4 3).1 (TX4 3).2.1 (TX4 3).2.2.1 ∈ wsX4_init := by decide +kernel
theorem lk_X4_init_f20 : Cond.fieldLink RX4 20 (TX4 4).1 (TX4 4).2.1 (TX4 4).2.2.1 ∈ wsX4_init := by decide +kernel
theorem lk_X4_init_f24 : Cond.fieldLink RX4 24 (TX4 7).1 (TX4 7).2.1 (TX4 7).2.2.1 ∈ wsX4_init := by decide +kernel
theorem lk_X4_init_f27 : Cond.fieldLink RX4 27 (TX4 8).1 (TX4 8).2.1 (TX4 8).2.2.1 ∈ wsX4_init := by decide +kernel
theorem lk_X4_init_f30 : Cond.fieldLink RX4 30 (TX4 9).1 (TX4 9).2.1 (TX4 9).2.2.1 ∈ wsX4_init := by decide +kernel
theorem lk_X4_init_f33 : Cond.fieldLink RX4 33 (TX4 10).1 (TX4 10).2.1 (TX4 10).2.2.1 ∈ wsX4_init := by decide +kernel
theorem lk_X4_init_f36 : Cond.fieldLink RX4 36 (TX4 11).1 (TX4 11).2.1 (TX4 11).2.2.1 ∈ wsX4_init := by decide +kernel
theorem lk_X4_init_f39 : Cond.fieldLink RX4 39 (TX4 12).1 (TX4 12).2.1 (TX4 12).2.2.1 ∈ wsX4_init := by decide +kernel
theorem lk_X4_init_f42 : Cond.fieldLink RX4 42 (TX4 13).1 (TX4 13).2.1 (TX4 13).2.2.1 ∈ wsX4_init := by decide +kernel
theorem lk_X4_init_f45 : Cond.fieldLink RX4 45 (TX4 14).1 (TX4 14).2.1 (TX4 14).2.2.1 ∈ wsX4_init := by decide +kernel
theorem lk_X4_init_f48 : Cond.fieldLink RX4 48 (TX4 15).1 (TX4 15).2.1 (TX4 15).2.2.1 ∈ wsX4_init := by decide +kernel
theorem lk_X4_init_f51 : Cond.fieldLink RX4 51 (TX4 16).1 (TX4 16).2.1 (TX4 16).2.2.1 ∈ wsX4_init := by decide +kernel
theorem lk_X4_init_f54 : Cond.fieldLink RX4 54 (TX4 17).1 (TX4 17).2.1 (TX4 17).2.2.1 ∈ wsX4_init := by decide +kernel
theorem lk_X4_init_f58 : Cond.fieldLink RX4 58 (TX4 18).1 (TX4 18).2.1 (TX4 18).2.2.1 ∈ wsX4_init := by decide +kernel
theorem lk_X4_init_f61 : Cond.fieldLink RX4 61 (TX4 20).1 (TX4 20).2.1 (TX4 20).2.2.1 ∈ wsX4_init := by decide +kernel
theorem lk_X4_init_f7 : Cond.fieldLink RX4 7 (TX4 1).1 (TX4 1).2.1 (TX4 1).2.2.1 ∈ wsX4_init := by decide +kernel
theorem lk_X4_init_m1 : Cond.methodLink RX4 1 objectInit ∈ wsX4_init := by decide +kernel
theorem lk_X4_init_oc : Cond.code objectInit ⟨#[0xb1]⟩ 1 none ∈ wsX4_init := by decide +kernel
theorem lk_X4_init_oi : Cond.instanceMethod objectInit ∈ wsX4_init := by decide +kernel
theorem in_X4_tipFor_X4 : ∀ w ∈ wsX40, w ∈ wsX4_tipFor := by decide +kernel
theorem lk_X4_tipFor_f17 : Cond.fieldLink RX4 17 (TX4 3).1 (TX4 3).2.1 (TX4 3).2.2.1 ∈ wsX4_tipFor := by decide +kernel
theorem lk_X4_tipFor_f7 : Cond.fieldLink RX4 7 (TX4 1).1 (TX4 1).2.1 (TX4 1).2.2.1 ∈ wsX4_tipFor := by decide +kernel
theorem in_X4_empty_X4 : ∀ w ∈ wsX40, w ∈ wsX4_empty := by decide +kernel
theorem lk_X4_empty_f36 : Cond.fieldLink RX4 36 (TX4 11).1 (TX4 11).2.1 (TX4 11).2.2.1 ∈ wsX4_empty := by decide +kernel
theorem lk_X4_empty_f39 : Cond.fieldLink RX4 39 (TX4 12).1 (TX4 12).2.1 (TX4 12).2.2.1 ∈ wsX4_empty := by decide +kernel
theorem lk_X4_empty_f42 : Cond.fieldLink RX4 42 (TX4 13).1 (TX4 13).2.1 (TX4 13).2.2.1 ∈ wsX4_empty := by decide +kernel
theorem lk_X4_empty_f93 : Cond.fieldLink RX4 93 (TX4 5).1 (TX4 5).2.1 (TX4 5).2.2.1 ∈ wsX4_empty := by decide +kernel
theorem in_X4_digest_X4 : ∀ w ∈ wsX40, w ∈ wsX4_digest := by decide +kernel
theorem lk_X4_digest_c145 : Jvm.Cond.constantLong RX4 145 (6107) ∈ wsX4_digest := by decide +kernel
theorem lk_X4_digest_c147 : Jvm.Cond.constantLong RX4 147 (31) ∈ wsX4_digest := by decide +kernel
theorem lk_X4_digest_f17 : Cond.fieldLink RX4 17 (TX4 3).1 (TX4 3).2.1 (TX4 3).2.2.1 ∈ wsX4_digest := by decide +kernel
theorem lk_X4_digest_f54 : Cond.fieldLink RX4 54 (TX4 17).1 (TX4 17).2.1 (TX4 17).2.2.1 ∈ wsX4_digest := by decide +kernel
theorem lk_X4_digest_f58 : Cond.fieldLink RX4 58 (TX4 18).1 (TX4 18).2.1 (TX4 18).2.2.1 ∈ wsX4_digest := by decide +kernel
theorem lk_X4_digest_f64 : Cond.fieldLink RX4 64 (TX4 0).1 (TX4 0).2.1 (TX4 0).2.2.1 ∈ wsX4_digest := by decide +kernel
theorem lk_X4_digest_f7 : Cond.fieldLink RX4 7 (TX4 1).1 (TX4 1).2.1 (TX4 1).2.2.1 ∈ wsX4_digest := by decide +kernel
theorem lk_X4_digest_f71 : Cond.fieldLink RX4 71 (TX4 6).1 (TX4 6).2.1 (TX4 6).2.2.1 ∈ wsX4_digest := by decide +kernel
theorem lk_X4_digest_f93 : Cond.fieldLink RX4 93 (TX4 5).1 (TX4 5).2.1 (TX4 5).2.2.1 ∈ wsX4_digest := by decide +kernel
abbrev rmX4_addBin : Room := { frames := 2, cells := 0, slots := 0, locals := 43 }
set_option maxHeartbeats 4000000 in
set_option maxRecDepth 100000 in
theorem m_X4_addBin (l : Launch) (g : Gx) (cm : Nat → Nat) (th : Int32) (pl : Nat) (dy : Nat) (n : Nat) (sn : Nat) (B : Nat → Nat → Int32) (x : Int32) (k : Int32) (z : Int32) (v : Int32) (hpl : pl ≤ 10) (hn : n ≤ 16) (sz : Nat) : Met l yX4_addBin wsX4_addBin rmX4_addBin (PZ g [.ref (cm 0), .int x, .int k, .int z, .int v] sz [(cm 0, .inr (5, [.int th, .int (nI pl), .ref (cm 1), .ref (cm 2), .ref (cm 3), .int (nI dy), .int (nI n), .ref (cm 4), .ref (cm 5), .ref (cm 6), .ref (cm 7), .ref (cm 8), .ref (cm 9), .ref (cm 10), .ref (cm 11), .ref (cm 12), .ref (cm 13), .ref (cm 14), .ref (cm 15), .int (nI sn), .ref (cm 16)])), (cm 4, .inl (g.2.1, 16, .inl (col B 0))), (cm 5, .inl (g.2.1, 16, .inl (col B 1))), (cm 6, .inl (g.2.1, 16, .inl (col B 2))), (cm 7, .inl (g.2.1, 16, .inl (col B 3))), (cm 8, .inl (g.2.1, 16, .inl (col B 4))), (cm 9, .inl (g.2.1, 16, .inl (col B 5))), (cm 10, .inl (g.2.1, 16, .inl (col B 6)))] []) (va_Qi (fun (r : Int32) (_ : Unit) => k3 (okI pl x && (decide (¬ x = 0) && okI 3 k)) (okR 10 1000 z && okR 0 200 v) (decide (n < 16)) = 0 → r = nI n) (BZ g [(cm 0, .inr (5, [.int th, .int (nI pl), .ref (cm 1), .ref (cm 2), .ref (cm 3), .int (nI dy), .int (nI n), .ref (cm 4), .ref (cm 5), .ref (cm 6), .ref (cm 7), .ref (cm 8), .ref (cm 9), .ref (cm 10), .ref (cm 11), .ref (cm 12), .ref (cm 13), .ref (cm 14), .ref (cm 15), .int (nI sn), .ref (cm 16)])), (cm 4, .inl (g.2.1, 16, .inl (col B 0))), (cm 5, .inl (g.2.1, 16, .inl (col B 1))), (cm 6, .inl (g.2.1, 16, .inl (col B 2))), (cm 7, .inl (g.2.1, 16, .inl (col B 3))), (cm 8, .inl (g.2.1, 16, .inl (col B 4))), (cm 9, .inl (g.2.1, 16, .inl (col B 5))), (cm 10, .inl (g.2.1, 16, .inl (col B 6)))] sz (fun (u : Unit) => [(cm 0, .inr (5, [.int (k3 (okI pl x && (decide (¬ x = 0) && okI 3 k)) (okR 10 1000 z && okR 0 200 v) (decide (n < 16))), .int (nI pl), .ref (cm 1), .ref (cm 2), .ref (cm 3), .int (nI dy), .int (nI (if k3 (okI pl x && (decide (¬ x = 0) && okI 3 k)) (okR 10 1000 z && okR 0 200 v) (decide (n < 16)) = 0 then n + 1 else n)), .ref (cm 4), .ref (cm 5), .ref (cm 6), .ref (cm 7), .ref (cm 8), .ref (cm 9), .ref (cm 10), .ref (cm 11), .ref (cm 12), .ref (cm 13), .ref (cm 14), .ref (cm 15), .int (nI sn), .ref (cm 16)])), (cm 4, .inl (g.2.1, 16, .inl (if k3 (okI pl x && (decide (¬ x = 0) && okI 3 k)) (okR 10 1000 z && okR 0 200 v) (decide (n < 16)) = 0 then upd (col B 0) n (x) else col B 0))), (cm 5, .inl (g.2.1, 16, .inl (if k3 (okI pl x && (decide (¬ x = 0) && okI 3 k)) (okR 10 1000 z && okR 0 200 v) (decide (n < 16)) = 0 then upd (col B 1) n (k) else col B 1))), (cm 6, .inl (g.2.1, 16, .inl (if k3 (okI pl x && (decide (¬ x = 0) && okI 3 k)) (okR 10 1000 z && okR 0 200 v) (decide (n < 16)) = 0 then upd (col B 2) n (z) else col B 2))), (cm 7, .inl (g.2.1, 16, .inl (if k3 (okI pl x && (decide (¬ x = 0) && okI 3 k)) (okR 10 1000 z && okR 0 200 v) (decide (n < 16)) = 0 then upd (col B 3) n (v) else col B 3))), (cm 8, .inl (g.2.1, 16, .inl (if k3 (okI pl x && (decide (¬ x = 0) && okI 3 k)) (okR 10 1000 z && okR 0 200 v) (decide (n < 16)) = 0 then upd (col B 4) n (0) else col B 4))), (cm 9, .inl (g.2.1, 16, .inl (if k3 (okI pl x && (decide (¬ x = 0) && okI 3 k)) (okR 10 1000 z && okR 0 200 v) (decide (n < 16)) = 0 then upd (col B 5) n (z / 2) else col B 5))), (cm 10, .inl (g.2.1, 16, .inl (if k3 (okI pl x && (decide (¬ x = 0) && okI 3 k)) (okR 10 1000 z && okR 0 200 v) (decide (n < 16)) = 0 then upd (col B 6) n (nI dy) else col B 6)))])) (va_A [(cm 0, .inr (5, [.int th, .int (nI pl), .ref (cm 1), .ref (cm 2), .ref (cm 3), .int (nI dy), .int (nI n), .ref (cm 4), .ref (cm 5), .ref (cm 6), .ref (cm 7), .ref (cm 8), .ref (cm 9), .ref (cm 10), .ref (cm 11), .ref (cm 12), .ref (cm 13), .ref (cm 14), .ref (cm 15), .int (nI sn), .ref (cm 16)])), (cm 4, .inl (g.2.1, 16, .inl (col B 0))), (cm 5, .inl (g.2.1, 16, .inl (col B 1))), (cm 6, .inl (g.2.1, 16, .inl (col B 2))), (cm 7, .inl (g.2.1, 16, .inl (col B 3))), (cm 8, .inl (g.2.1, 16, .inl (col B 4))), (cm 9, .inl (g.2.1, 16, .inl (col B 5))), (cm 10, .inl (g.2.1, 16, .inl (col B 6)))] sz)) 0 0 (va_A [(cm 0, .inr (5, [.int th, .int (nI pl), .ref (cm 1), .ref (cm 2), .ref (cm 3), .int (nI dy), .int (nI n), .ref (cm 4), .ref (cm 5), .ref (cm 6), .ref (cm 7), .ref (cm 8), .ref (cm 9), .ref (cm 10), .ref (cm 11), .ref (cm 12), .ref (cm 13), .ref (cm 14), .ref (cm 15), .int (nI sn), .ref (cm 16)])), (cm 4, .inl (g.2.1, 16, .inl (col B 0))), (cm 5, .inl (g.2.1, 16, .inl (col B 1))), (cm 6, .inl (g.2.1, 16, .inl (col B 2))), (cm 7, .inl (g.2.1, 16, .inl (col B 3))), (cm 8, .inl (g.2.1, 16, .inl (col B 4))), (cm 9, .inl (g.2.1, 16, .inl (col B 5))), (cm 10, .inl (g.2.1, 16, .inl (col B 6)))] sz) := by
  refine z_open_i (cc := cX4_addBin) (maxL := 5) (ret := .int) (own := RX4) (by decide) rfl rfl (Nat.le_of_ble_eq_true rfl) ?_
  intro p e s m args below meth c Q h hnm fin
  generalize hAe : va_A [(cm 0, .inr (5, [.int th, .int (nI pl), .ref (cm 1), .ref (cm 2), .ref (cm 3), .int (nI dy), .int (nI n), .ref (cm 4), .ref (cm 5), .ref (cm 6), .ref (cm 7), .ref (cm 8), .ref (cm 9), .ref (cm 10), .ref (cm 11), .ref (cm 12), .ref (cm 13), .ref (cm 14), .ref (cm 15), .int (nI sn), .ref (cm 16)])), (cm 4, .inl (g.2.1, 16, .inl (col B 0))), (cm 5, .inl (g.2.1, 16, .inl (col B 1))), (cm 6, .inl (g.2.1, 16, .inl (col B 2))), (cm 7, .inl (g.2.1, 16, .inl (col B 3))), (cm 8, .inl (g.2.1, 16, .inl (col B 4))), (cm 9, .inl (g.2.1, 16, .inl (col B 5))), (cm 10, .inl (g.2.1, 16, .inl (col B 6)))] s.heap.size = A at h fin ⊢
  refine z_lve (lv' := [(0, .ref (cm 0)), (1, .int x), (2, .int k), (3, .int z), (4, .int v)]) rfl ?_
  refine z_aload_n h dX4_addBin_0 rfl 0 rfl ?_
  refine z_iconst h (v := 0) dX4_addBin_1 (by decide) ?_
  refine z_put h in_X4_addBin_X4 0 tyX4 tyX4_ok nmX4 rfl rfl 0 (by decide) lk_X4_addBin_f64 rfl rfl rfl (Nat.le_of_ble_eq_true rfl) dX4_addBin_2 (wW' := [(cm 0, .inr (5, [.int 0, .int (nI pl), .ref (cm 1), .ref (cm 2), .ref (cm 3), .int (nI dy), .int (nI n), .ref (cm 4), .ref (cm 5), .ref (cm 6), .ref (cm 7), .ref (cm 8), .ref (cm 9), .ref (cm 10), .ref (cm 11), .ref (cm 12), .ref (cm 13), .ref (cm 14), .ref (cm 15), .int (nI sn), .ref (cm 16)])), (cm 4, .inl (g.2.1, 16, .inl (col B 0))), (cm 5, .inl (g.2.1, 16, .inl (col B 1))), (cm 6, .inl (g.2.1, 16, .inl (col B 2))), (cm 7, .inl (g.2.1, 16, .inl (col B 3))), (cm 8, .inl (g.2.1, 16, .inl (col B 4))), (cm 9, .inl (g.2.1, 16, .inl (col B 5))), (cm 10, .inl (g.2.1, 16, .inl (col B 6)))]) rfl ?_
  refine z_aload_n h dX4_addBin_5 rfl 0 rfl ?_
  refine z_iload_n h dX4_addBin_6 rfl 1 rfl ?_
  refine z_Vi h (As := [.int x]) (st := []) (fun sz => m_X4_isPlace l g cm 0 pl dy n sn x (by omega) sz) (cwV 1 h.ts gX4_addBin_X4_isPlace rfl rfl rfl (by decide +kernel) ⟨Nat.le_of_ble_eq_true rfl, Nat.le_of_ble_eq_true rfl⟩) rfl [] [0] rfl rfl rfl rfl 0 rfl rfl rfl rfl (Nat.le_of_ble_eq_true rfl) ⟨(Nat.le_of_ble_eq_true rfl), (Nat.le_of_ble_eq_true rfl)⟩ (fun _ => (Nat.le_of_ble_eq_true rfl)) (wN := fun u => [(cm 0, .inr (5, [.int 0, .int (nI pl), .ref (cm 1), .ref (cm 2), .ref (cm 3), .int (nI dy), .int (nI n), .ref (cm 4), .ref (cm 5), .ref (cm 6), .ref (cm 7), .ref (cm 8), .ref (cm 9), .ref (cm 10), .ref (cm 11), .ref (cm 12), .ref (cm 13), .ref (cm 14), .ref (cm 15), .int (nI sn), .ref (cm 16)])), (cm 4, .inl (g.2.1, 16, .inl (col B 0))), (cm 5, .inl (g.2.1, 16, .inl (col B 1))), (cm 6, .inl (g.2.1, 16, .inl (col B 2))), (cm 7, .inl (g.2.1, 16, .inl (col B 3))), (cm 8, .inl (g.2.1, 16, .inl (col B 4))), (cm 9, .inl (g.2.1, 16, .inl (col B 5))), (cm 10, .inl (g.2.1, 16, .inl (col B 6)))]) (fun _ => rfl) dX4_addBin_7 (fun r_7 u_7 h_7 => ?_)
  refine z_if_eq h (tgt := 24) dX4_addBin_10 (by decide) (fun c_10 => ?_) (fun c_10 => ?_)
  · have fx : okI pl x = false := b01_0 h_7 c_10
    have hk1 : (okI pl x && (decide (¬ x = 0) && okI 3 k)) = false := by first | exact and_f1 fx | exact and_f2 (and_f1 (decide_eq_false (fun q => q c_14))) | exact and_f2 (and_f2 fk)
    have hk : k3 (okI pl x && (decide (¬ x = 0) && okI 3 k)) (okR 10 1000 z && okR 0 200 v) (decide (n < 16)) = 1 := k3_1 hk1
    refine z_aload_n h dX4_addBin_24 rfl 0 rfl ?_
    refine z_iconst h (v := 1) dX4_addBin_25 (by decide) ?_
    refine z_Vi h (As := [.int 1]) (st := []) (fun sz => m_X4_fail l g cm 0 pl dy n sn 1  sz) (cwV 1 h.ts gX4_addBin_X4_fail rfl rfl rfl (by decide +kernel) ⟨Nat.le_of_ble_eq_true rfl, Nat.le_of_ble_eq_true rfl⟩) rfl [0] [] rfl rfl rfl rfl 0 rfl rfl rfl rfl (Nat.le_of_ble_eq_true rfl) ⟨(Nat.le_of_ble_eq_true rfl), (Nat.le_of_ble_eq_true rfl)⟩ (fun _ => (Nat.le_of_ble_eq_true rfl)) (wN := fun u => [(cm 0, .inr (5, [.int 1, .int (nI pl), .ref (cm 1), .ref (cm 2), .ref (cm 3), .int (nI dy), .int (nI n), .ref (cm 4), .ref (cm 5), .ref (cm 6), .ref (cm 7), .ref (cm 8), .ref (cm 9), .ref (cm 10), .ref (cm 11), .ref (cm 12), .ref (cm 13), .ref (cm 14), .ref (cm 15), .int (nI sn), .ref (cm 16)])), (cm 4, .inl (g.2.1, 16, .inl (col B 0))), (cm 5, .inl (g.2.1, 16, .inl (col B 1))), (cm 6, .inl (g.2.1, 16, .inl (col B 2))), (cm 7, .inl (g.2.1, 16, .inl (col B 3))), (cm 8, .inl (g.2.1, 16, .inl (col B 4))), (cm 9, .inl (g.2.1, 16, .inl (col B 5))), (cm 10, .inl (g.2.1, 16, .inl (col B 6)))]) (fun _ => rfl) dX4_addBin_26 (fun r_26 u_26 h_26 => ?_)
    exact fin _ _ _ () _ _ _ _ dX4_addBin_29 rfl (fun q => absurd (hk.symm.trans q) (by decide)) (by rw [hk]; rfl) (Nat.le_of_ble_eq_true rfl) (Nat.le_of_ble_eq_true rfl)
  · have hx : okI pl x = true := b01_1 h_7 c_10
    refine z_iload_n h dX4_addBin_13 rfl 1 rfl ?_
    refine z_if_eq h (tgt := 24) dX4_addBin_14 (by decide) (fun c_14 => ?_) (fun c_14 => ?_)
    · have hk1 : (okI pl x && (decide (¬ x = 0) && okI 3 k)) = false := by first | exact and_f1 fx | exact and_f2 (and_f1 (decide_eq_false (fun q => q c_14))) | exact and_f2 (and_f2 fk)
      have hk : k3 (okI pl x && (decide (¬ x = 0) && okI 3 k)) (okR 10 1000 z && okR 0 200 v) (decide (n < 16)) = 1 := k3_1 hk1
      refine z_aload_n h dX4_addBin_24 rfl 0 rfl ?_
      refine z_iconst h (v := 1) dX4_addBin_25 (by decide) ?_
      refine z_Vi h (As := [.int 1]) (st := []) (fun sz => m_X4_fail l g cm 0 pl dy n sn 1  sz) (cwV 1 h.ts gX4_addBin_X4_fail rfl rfl rfl (by decide +kernel) ⟨Nat.le_of_ble_eq_true rfl, Nat.le_of_ble_eq_true rfl⟩) rfl [0] [] rfl rfl rfl rfl 0 rfl rfl rfl rfl (Nat.le_of_ble_eq_true rfl) ⟨(Nat.le_of_ble_eq_true rfl), (Nat.le_of_ble_eq_true rfl)⟩ (fun _ => (Nat.le_of_ble_eq_true rfl)) (wN := fun u => [(cm 0, .inr (5, [.int 1, .int (nI pl), .ref (cm 1), .ref (cm 2), .ref (cm 3), .int (nI dy), .int (nI n), .ref (cm 4), .ref (cm 5), .ref (cm 6), .ref (cm 7), .ref (cm 8), .ref (cm 9), .ref (cm 10), .ref (cm 11), .ref (cm 12), .ref (cm 13), .ref (cm 14), .ref (cm 15), .int (nI sn), .ref (cm 16)])), (cm 4, .inl (g.2.1, 16, .inl (col B 0))), (cm 5, .inl (g.2.1, 16, .inl (col B 1))), (cm 6, .inl (g.2.1, 16, .inl (col B 2))), (cm 7, .inl (g.2.1, 16, .inl (col B 3))), (cm 8, .inl (g.2.1, 16, .inl (col B 4))), (cm 9, .inl (g.2.1, 16, .inl (col B 5))), (cm 10, .inl (g.2.1, 16, .inl (col B 6)))]) (fun _ => rfl) dX4_addBin_26 (fun r_26 u_26 h_26 => ?_)
      exact fin _ _ _ () _ _ _ _ dX4_addBin_29 rfl (fun q => absurd (hk.symm.trans q) (by decide)) (by rw [hk]; rfl) (Nat.le_of_ble_eq_true rfl) (Nat.le_of_ble_eq_true rfl)
    · refine z_iload_n h dX4_addBin_17 rfl 2 rfl ?_
      refine z_Si h (b := 0) (C := "") (As := [.int k]) (st := []) (fun sz => m_X4_isKind l g k  sz) (va_cwS 1 h.ts gX4_addBin_X4_isKind rfl rfl rfl (by decide +kernel) ⟨Nat.le_of_ble_eq_true rfl, Nat.le_of_ble_eq_true rfl⟩) rfl [] [] rfl rfl rfl rfl rfl (Nat.le_of_ble_eq_true rfl) ⟨(Nat.le_of_ble_eq_true rfl), (Nat.le_of_ble_eq_true rfl)⟩ (fun _ => (Nat.le_of_ble_eq_true rfl)) (wN := fun u => [(cm 0, .inr (5, [.int 0, .int (nI pl), .ref (cm 1), .ref (cm 2), .ref (cm 3), .int (nI dy), .int (nI n), .ref (cm 4), .ref (cm 5), .ref (cm 6), .ref (cm 7), .ref (cm 8), .ref (cm 9), .ref (cm 10), .ref (cm 11), .ref (cm 12), .ref (cm 13), .ref (cm 14), .ref (cm 15), .int (nI sn), .ref (cm 16)])), (cm 4, .inl (g.2.1, 16, .inl (col B 0))), (cm 5, .inl (g.2.1, 16, .inl (col B 1))), (cm 6, .inl (g.2.1, 16, .inl (col B 2))), (cm 7, .inl (g.2.1, 16, .inl (col B 3))), (cm 8, .inl (g.2.1, 16, .inl (col B 4))), (cm 9, .inl (g.2.1, 16, .inl (col B 5))), (cm 10, .inl (g.2.1, 16, .inl (col B 6)))]) (fun _ => rfl) dX4_addBin_18 (fun r_18 u_18 h_18 => ?_)
      refine z_if_ne h (tgt := 30) dX4_addBin_21 (by decide) (fun c_21 => ?_) (fun c_21 => ?_)
      · have hkd : okI 3 k = true := b01_1 h_18 c_21
        have hk1 := and_t hx (and_t (decide_eq_true c_14) hkd)
        refine z_iload_n h dX4_addBin_30 rfl 3 rfl ?_
        refine z_bipush h (v := 10) dX4_addBin_31 (by decide) ?_
        refine z_sipush h (v := 1000) dX4_addBin_33 (by decide) ?_
        refine z_Si h (b := 0) (C := "") (As := [.int z, .int 10, .int 1000]) (st := []) (fun sz => m_X4_isIn l g z 10 1000  sz) (va_cwS 3 h.ts gX4_addBin_X4_isIn rfl rfl rfl (by decide +kernel) ⟨Nat.le_of_ble_eq_true rfl, Nat.le_of_ble_eq_true rfl⟩) rfl [] [] rfl rfl rfl rfl rfl (Nat.le_of_ble_eq_true rfl) ⟨(Nat.le_of_ble_eq_true rfl), (Nat.le_of_ble_eq_true rfl)⟩ (fun _ => (Nat.le_of_ble_eq_true rfl)) (wN := fun u => [(cm 0, .inr (5, [.int 0, .int (nI pl), .ref (cm 1), .ref (cm 2), .ref (cm 3), .int (nI dy), .int (nI n), .ref (cm 4), .ref (cm 5), .ref (cm 6), .ref (cm 7), .ref (cm 8), .ref (cm 9), .ref (cm 10), .ref (cm 11), .ref (cm 12), .ref (cm 13), .ref (cm 14), .ref (cm 15), .int (nI sn), .ref (cm 16)])), (cm 4, .inl (g.2.1, 16, .inl (col B 0))), (cm 5, .inl (g.2.1, 16, .inl (col B 1))), (cm 6, .inl (g.2.1, 16, .inl (col B 2))), (cm 7, .inl (g.2.1, 16, .inl (col B 3))), (cm 8, .inl (g.2.1, 16, .inl (col B 4))), (cm 9, .inl (g.2.1, 16, .inl (col B 5))), (cm 10, .inl (g.2.1, 16, .inl (col B 6)))]) (fun _ => rfl) dX4_addBin_36 (fun r_36 u_36 h_36 => ?_)
        refine z_if_eq h (tgt := 54) dX4_addBin_39 (by decide) (fun c_39 => ?_) (fun c_39 => ?_)
        · have fz : okR 10 1000 z = false := b01_0 h_36 c_39
          have hk2 : (okR 10 1000 z && okR 0 200 v) = false := by first | exact and_f1 fz | exact and_f2 fv
          have hk : k3 (okI pl x && (decide (¬ x = 0) && okI 3 k)) (okR 10 1000 z && okR 0 200 v) (decide (n < 16)) = 2 := k3_2 hk1 hk2
          refine z_aload_n h dX4_addBin_54 rfl 0 rfl ?_
          refine z_iconst h (v := 2) dX4_addBin_55 (by decide) ?_
          refine z_Vi h (As := [.int 2]) (st := []) (fun sz => m_X4_fail l g cm 0 pl dy n sn 2  sz) (cwV 1 h.ts gX4_addBin_X4_fail rfl rfl rfl (by decide +kernel) ⟨Nat.le_of_ble_eq_true rfl, Nat.le_of_ble_eq_true rfl⟩) rfl [0] [] rfl rfl rfl rfl 0 rfl rfl rfl rfl (Nat.le_of_ble_eq_true rfl) ⟨(Nat.le_of_ble_eq_true rfl), (Nat.le_of_ble_eq_true rfl)⟩ (fun _ => (Nat.le_of_ble_eq_true rfl)) (wN := fun u => [(cm 0, .inr (5, [.int 2, .int (nI pl), .ref (cm 1), .ref (cm 2), .ref (cm 3), .int (nI dy), .int (nI n), .ref (cm 4), .ref (cm 5), .ref (cm 6), .ref (cm 7), .ref (cm 8), .ref (cm 9), .ref (cm 10), .ref (cm 11), .ref (cm 12), .ref (cm 13), .ref (cm 14), .ref (cm 15), .int (nI sn), .ref (cm 16)])), (cm 4, .inl (g.2.1, 16, .inl (col B 0))), (cm 5, .inl (g.2.1, 16, .inl (col B 1))), (cm 6, .inl (g.2.1, 16, .inl (col B 2))), (cm 7, .inl (g.2.1, 16, .inl (col B 3))), (cm 8, .inl (g.2.1, 16, .inl (col B 4))), (cm 9, .inl (g.2.1, 16, .inl (col B 5))), (cm 10, .inl (g.2.1, 16, .inl (col B 6)))]) (fun _ => rfl) dX4_addBin_56 (fun r_56 u_56 h_56 => ?_)
          exact fin _ _ _ () _ _ _ _ dX4_addBin_59 rfl (fun q => absurd (hk.symm.trans q) (by decide)) (by rw [hk]; rfl) (Nat.le_of_ble_eq_true rfl) (Nat.le_of_ble_eq_true rfl)
        · have hz : okR 10 1000 z = true := b01_1 h_36 c_39
          refine z_iload h dX4_addBin_42 4 rfl ?_
          refine z_iconst h (v := 0) dX4_addBin_44 (by decide) ?_
          refine z_sipush h (v := 200) dX4_addBin_45 (by decide) ?_
          refine z_Si h (b := 0) (C := "") (As := [.int v, .int 0, .int 200]) (st := []) (fun sz => m_X4_isIn l g v 0 200  sz) (va_cwS 3 h.ts gX4_addBin_X4_isIn rfl rfl rfl (by decide +kernel) ⟨Nat.le_of_ble_eq_true rfl, Nat.le_of_ble_eq_true rfl⟩) rfl [] [] rfl rfl rfl rfl rfl (Nat.le_of_ble_eq_true rfl) ⟨(Nat.le_of_ble_eq_true rfl), (Nat.le_of_ble_eq_true rfl)⟩ (fun _ => (Nat.le_of_ble_eq_true rfl)) (wN := fun u => [(cm 0, .inr (5, [.int 0, .int (nI pl), .ref (cm 1), .ref (cm 2), .ref (cm 3), .int (nI dy), .int (nI n), .ref (cm 4), .ref (cm 5), .ref (cm 6), .ref (cm 7), .ref (cm 8), .ref (cm 9), .ref (cm 10), .ref (cm 11), .ref (cm 12), .ref (cm 13), .ref (cm 14), .ref (cm 15), .int (nI sn), .ref (cm 16)])), (cm 4, .inl (g.2.1, 16, .inl (col B 0))), (cm 5, .inl (g.2.1, 16, .inl (col B 1))), (cm 6, .inl (g.2.1, 16, .inl (col B 2))), (cm 7, .inl (g.2.1, 16, .inl (col B 3))), (cm 8, .inl (g.2.1, 16, .inl (col B 4))), (cm 9, .inl (g.2.1, 16, .inl (col B 5))), (cm 10, .inl (g.2.1, 16, .inl (col B 6)))]) (fun _ => rfl) dX4_addBin_48 (fun r_48 u_48 h_48 => ?_)
          refine z_if_ne h (tgt := 60) dX4_addBin_51 (by decide) (fun c_51 => ?_) (fun c_51 => ?_)
          · have hv : okR 0 200 v = true := b01_1 h_48 c_51
            refine z_aload_n h dX4_addBin_60 rfl 0 rfl ?_
            refine z_get h in_X4_addBin_X4 0 rfl rfl 6 (by decide) lk_X4_addBin_f71 rfl dX4_addBin_61 ?_
            refine z_bipush h (v := 16) dX4_addBin_64 (by decide) ?_
            refine z_icmp_ne h (tgt := 75) dX4_addBin_66 (by decide) (fun c_66 => ?_) (fun c_66 => ?_)
            · have hlt : n < 16 := by rcases Nat.lt_or_ge n 16 with q | q; exact q; exact absurd (by rw [show n = 16 by omega]; rfl) c_66
              have hk : k3 (okI pl x && (decide (¬ x = 0) && okI 3 k)) (okR 10 1000 z && okR 0 200 v) (decide (n < 16)) = 0 := k3_0 hk1 (and_t hz hv) (decide_eq_true hlt)
              refine z_aload_n h dX4_addBin_75 rfl 0 rfl ?_
              refine z_get h in_X4_addBin_X4 0 rfl rfl 7 (by decide) lk_X4_addBin_f24 rfl dX4_addBin_76 ?_
              refine z_aload_n h dX4_addBin_79 rfl 0 rfl ?_
              refine z_get h in_X4_addBin_X4 0 rfl rfl 6 (by decide) lk_X4_addBin_f71 rfl dX4_addBin_80 ?_
              refine z_iload_n h dX4_addBin_83 rfl 1 rfl ?_
              refine z_iast h (j := n) 1 rfl (vp_in_nI (by omega) (by omega)) (by rw [nI_clamp (by omega)]) dX4_addBin_84 (wW' := [(cm 0, .inr (5, [.int 0, .int (nI pl), .ref (cm 1), .ref (cm 2), .ref (cm 3), .int (nI dy), .int (nI n), .ref (cm 4), .ref (cm 5), .ref (cm 6), .ref (cm 7), .ref (cm 8), .ref (cm 9), .ref (cm 10), .ref (cm 11), .ref (cm 12), .ref (cm 13), .ref (cm 14), .ref (cm 15), .int (nI sn), .ref (cm 16)])), (cm 4, .inl (g.2.1, 16, .inl (upd (col B 0) n x))), (cm 5, .inl (g.2.1, 16, .inl (col B 1))), (cm 6, .inl (g.2.1, 16, .inl (col B 2))), (cm 7, .inl (g.2.1, 16, .inl (col B 3))), (cm 8, .inl (g.2.1, 16, .inl (col B 4))), (cm 9, .inl (g.2.1, 16, .inl (col B 5))), (cm 10, .inl (g.2.1, 16, .inl (col B 6)))]) rfl ?_
              refine z_aload_n h dX4_addBin_85 rfl 0 rfl ?_
              refine z_get h in_X4_addBin_X4 0 rfl rfl 8 (by decide) lk_X4_addBin_f27 rfl dX4_addBin_86 ?_
              refine z_aload_n h dX4_addBin_89 rfl 0 rfl ?_
              refine z_get h in_X4_addBin_X4 0 rfl rfl 6 (by decide) lk_X4_addBin_f71 rfl dX4_addBin_90 ?_
              refine z_iload_n h dX4_addBin_93 rfl 2 rfl ?_
              refine z_iast h (j := n) 2 rfl (vp_in_nI (by omega) (by omega)) (by rw [nI_clamp (by omega)]) dX4_addBin_94 (wW' := [(cm 0, .inr (5, [.int 0, .int (nI pl), .ref (cm 1), .ref (cm 2), .ref (cm 3), .int (nI dy), .int (nI n), .ref (cm 4), .ref (cm 5), .ref (cm 6), .ref (cm 7), .ref (cm 8), .ref (cm 9), .ref (cm 10), .ref (cm 11), .ref (cm 12), .ref (cm 13), .ref (cm 14), .ref (cm 15), .int (nI sn), .ref (cm 16)])), (cm 4, .inl (g.2.1, 16, .inl (upd (col B 0) n x))), (cm 5, .inl (g.2.1, 16, .inl (upd (col B 1) n k))), (cm 6, .inl (g.2.1, 16, .inl (col B 2))), (cm 7, .inl (g.2.1, 16, .inl (col B 3))), (cm 8, .inl (g.2.1, 16, .inl (col B 4))), (cm 9, .inl (g.2.1, 16, .inl (col B 5))), (cm 10, .inl (g.2.1, 16, .inl (col B 6)))]) rfl ?_
              refine z_aload_n h dX4_addBin_95 rfl 0 rfl ?_
              refine z_get h in_X4_addBin_X4 0 rfl rfl 9 (by decide) lk_X4_addBin_f30 rfl dX4_addBin_96 ?_
              refine z_aload_n h dX4_addBin_99 rfl 0 rfl ?_
              refine z_get h in_X4_addBin_X4 0 rfl rfl 6 (by decide) lk_X4_addBin_f71 rfl dX4_addBin_100 ?_
              refine z_iload_n h dX4_addBin_103 rfl 3 rfl ?_
              refine z_iast h (j := n) 3 rfl (vp_in_nI (by omega) (by omega)) (by rw [nI_clamp (by omega)]) dX4_addBin_104 (wW' := [(cm 0, .inr (5, [.int 0, .int (nI pl), .ref (cm 1), .ref (cm 2), .ref (cm 3), .int (nI dy), .int (nI n), .ref (cm 4), .ref (cm 5), .ref (cm 6), .ref (cm 7), .ref (cm 8), .ref (cm 9), .ref (cm 10), .ref (cm 11), .ref (cm 12), .ref (cm 13), .ref (cm 14), .ref (cm 15), .int (nI sn), .ref (cm 16)])), (cm 4, .inl (g.2.1, 16, .inl (upd (col B 0) n x))), (cm 5, .inl (g.2.1, 16, .inl (upd (col B 1) n k))), (cm 6, .inl (g.2.1, 16, .inl (upd (col B 2) n z))), (cm 7, .inl (g.2.1, 16, .inl (col B 3))), (cm 8, .inl (g.2.1, 16, .inl (col B 4))), (cm 9, .inl (g.2.1, 16, .inl (col B 5))), (cm 10, .inl (g.2.1, 16, .inl (col B 6)))]) rfl ?_
              refine z_aload_n h dX4_addBin_105 rfl 0 rfl ?_
              refine z_get h in_X4_addBin_X4 0 rfl rfl 10 (by decide) lk_X4_addBin_f33 rfl dX4_addBin_106 ?_
              refine z_aload_n h dX4_addBin_109 rfl 0 rfl ?_
              refine z_get h in_X4_addBin_X4 0 rfl rfl 6 (by decide) lk_X4_addBin_f71 rfl dX4_addBin_110 ?_
              refine z_iload h dX4_addBin_113 4 rfl ?_
              refine z_iast h (j := n) 4 rfl (vp_in_nI (by omega) (by omega)) (by rw [nI_clamp (by omega)]) dX4_addBin_115 (wW' := [(cm 0, .inr (5, [.int 0, .int (nI pl), .ref (cm 1), .ref (cm 2), .ref (cm 3), .int (nI dy), .int (nI n), .ref (cm 4), .ref (cm 5), .ref (cm 6), .ref (cm 7), .ref (cm 8), .ref (cm 9), .ref (cm 10), .ref (cm 11), .ref (cm 12), .ref (cm 13), .ref (cm 14), .ref (cm 15), .int (nI sn), .ref (cm 16)])), (cm 4, .inl (g.2.1, 16, .inl (upd (col B 0) n x))), (cm 5, .inl (g.2.1, 16, .inl (upd (col B 1) n k))), (cm 6, .inl (g.2.1, 16, .inl (upd (col B 2) n z))), (cm 7, .inl (g.2.1, 16, .inl (upd (col B 3) n v))), (cm 8, .inl (g.2.1, 16, .inl (col B 4))), (cm 9, .inl (g.2.1, 16, .inl (col B 5))), (cm 10, .inl (g.2.1, 16, .inl (col B 6)))]) rfl ?_
              refine z_aload_n h dX4_addBin_116 rfl 0 rfl ?_
              refine z_get h in_X4_addBin_X4 0 rfl rfl 11 (by decide) lk_X4_addBin_f36 rfl dX4_addBin_117 ?_
              refine z_aload_n h dX4_addBin_120 rfl 0 rfl ?_
              refine z_get h in_X4_addBin_X4 0 rfl rfl 6 (by decide) lk_X4_addBin_f71 rfl dX4_addBin_121 ?_
              refine z_iconst h (v := 0) dX4_addBin_124 (by decide) ?_
              refine z_iast h (j := n) 5 rfl (vp_in_nI (by omega) (by omega)) (by rw [nI_clamp (by omega)]) dX4_addBin_125 (wW' := [(cm 0, .inr (5, [.int 0, .int (nI pl), .ref (cm 1), .ref (cm 2), .ref (cm 3), .int (nI dy), .int (nI n), .ref (cm 4), .ref (cm 5), .ref (cm 6), .ref (cm 7), .ref (cm 8), .ref (cm 9), .ref (cm 10), .ref (cm 11), .ref (cm 12), .ref (cm 13), .ref (cm 14), .ref (cm 15), .int (nI sn), .ref (cm 16)])), (cm 4, .inl (g.2.1, 16, .inl (upd (col B 0) n x))), (cm 5, .inl (g.2.1, 16, .inl (upd (col B 1) n k))), (cm 6, .inl (g.2.1, 16, .inl (upd (col B 2) n z))), (cm 7, .inl (g.2.1, 16, .inl (upd (col B 3) n v))), (cm 8, .inl (g.2.1, 16, .inl (upd (col B 4) n 0))), (cm 9, .inl (g.2.1, 16, .inl (col B 5))), (cm 10, .inl (g.2.1, 16, .inl (col B 6)))]) rfl ?_
              refine z_aload_n h dX4_addBin_126 rfl 0 rfl ?_
              refine z_get h in_X4_addBin_X4 0 rfl rfl 12 (by decide) lk_X4_addBin_f39 rfl dX4_addBin_127 ?_
              refine z_aload_n h dX4_addBin_130 rfl 0 rfl ?_
              refine z_get h in_X4_addBin_X4 0 rfl rfl 6 (by decide) lk_X4_addBin_f71 rfl dX4_addBin_131 ?_
              refine z_iload_n h dX4_addBin_134 rfl 3 rfl ?_
              refine z_iconst h (v := 2) dX4_addBin_135 (by decide) ?_
              refine z_idiv h dX4_addBin_136 (by decide) ?_
              refine z_iast h (j := n) 6 rfl (vp_in_nI (by omega) (by omega)) (by rw [nI_clamp (by omega)]) dX4_addBin_137 (wW' := [(cm 0, .inr (5, [.int 0, .int (nI pl), .ref (cm 1), .ref (cm 2), .ref (cm 3), .int (nI dy), .int (nI n), .ref (cm 4), .ref (cm 5), .ref (cm 6), .ref (cm 7), .ref (cm 8), .ref (cm 9), .ref (cm 10), .ref (cm 11), .ref (cm 12), .ref (cm 13), .ref (cm 14), .ref (cm 15), .int (nI sn), .ref (cm 16)])), (cm 4, .inl (g.2.1, 16, .inl (upd (col B 0) n x))), (cm 5, .inl (g.2.1, 16, .inl (upd (col B 1) n k))), (cm 6, .inl (g.2.1, 16, .inl (upd (col B 2) n z))), (cm 7, .inl (g.2.1, 16, .inl (upd (col B 3) n v))), (cm 8, .inl (g.2.1, 16, .inl (upd (col B 4) n 0))), (cm 9, .inl (g.2.1, 16, .inl (upd (col B 5) n (z / 2)))), (cm 10, .inl (g.2.1, 16, .inl (col B 6)))]) rfl ?_
              refine z_aload_n h dX4_addBin_138 rfl 0 rfl ?_
              refine z_get h in_X4_addBin_X4 0 rfl rfl 13 (by decide) lk_X4_addBin_f42 rfl dX4_addBin_139 ?_
              refine z_aload_n h dX4_addBin_142 rfl 0 rfl ?_
              refine z_get h in_X4_addBin_X4 0 rfl rfl 6 (by decide) lk_X4_addBin_f71 rfl dX4_addBin_143 ?_
              refine z_aload_n h dX4_addBin_146 rfl 0 rfl ?_
              refine z_get h in_X4_addBin_X4 0 rfl rfl 5 (by decide) lk_X4_addBin_f93 rfl dX4_addBin_147 ?_
              refine z_iast h (j := n) 7 rfl (vp_in_nI (by omega) (by omega)) (by rw [nI_clamp (by omega)]) dX4_addBin_150 (wW' := [(cm 0, .inr (5, [.int 0, .int (nI pl), .ref (cm 1), .ref (cm 2), .ref (cm 3), .int (nI dy), .int (nI n), .ref (cm 4), .ref (cm 5), .ref (cm 6), .ref (cm 7), .ref (cm 8), .ref (cm 9), .ref (cm 10), .ref (cm 11), .ref (cm 12), .ref (cm 13), .ref (cm 14), .ref (cm 15), .int (nI sn), .ref (cm 16)])), (cm 4, .inl (g.2.1, 16, .inl (upd (col B 0) n x))), (cm 5, .inl (g.2.1, 16, .inl (upd (col B 1) n k))), (cm 6, .inl (g.2.1, 16, .inl (upd (col B 2) n z))), (cm 7, .inl (g.2.1, 16, .inl (upd (col B 3) n v))), (cm 8, .inl (g.2.1, 16, .inl (upd (col B 4) n 0))), (cm 9, .inl (g.2.1, 16, .inl (upd (col B 5) n (z / 2)))), (cm 10, .inl (g.2.1, 16, .inl (upd (col B 6) n (nI dy))))]) rfl ?_
              refine z_aload_n h dX4_addBin_151 rfl 0 rfl ?_
              refine z_dup h dX4_addBin_152 rfl ?_
              refine z_get h in_X4_addBin_X4 0 rfl rfl 6 (by decide) lk_X4_addBin_f71 rfl dX4_addBin_153 ?_
              refine z_iconst h (v := 1) dX4_addBin_156 (by decide) ?_
              refine z_iadd h dX4_addBin_157 ?_
              refine z_topi (y := nI (n + 1)) (nI_1 n) ?_
              refine z_put h in_X4_addBin_X4 0 tyX4 tyX4_ok nmX4 rfl rfl 6 (by decide) lk_X4_addBin_f71 rfl rfl rfl (Nat.le_of_ble_eq_true rfl) dX4_addBin_158 (wW' := [(cm 0, .inr (5, [.int 0, .int (nI pl), .ref (cm 1), .ref (cm 2), .ref (cm 3), .int (nI dy), .int (nI (n + 1)), .ref (cm 4), .ref (cm 5), .ref (cm 6), .ref (cm 7), .ref (cm 8), .ref (cm 9), .ref (cm 10), .ref (cm 11), .ref (cm 12), .ref (cm 13), .ref (cm 14), .ref (cm 15), .int (nI sn), .ref (cm 16)])), (cm 4, .inl (g.2.1, 16, .inl (upd (col B 0) n x))), (cm 5, .inl (g.2.1, 16, .inl (upd (col B 1) n k))), (cm 6, .inl (g.2.1, 16, .inl (upd (col B 2) n z))), (cm 7, .inl (g.2.1, 16, .inl (upd (col B 3) n v))), (cm 8, .inl (g.2.1, 16, .inl (upd (col B 4) n 0))), (cm 9, .inl (g.2.1, 16, .inl (upd (col B 5) n (z / 2)))), (cm 10, .inl (g.2.1, 16, .inl (upd (col B 6) n (nI dy))))]) rfl ?_
              refine z_aload_n h dX4_addBin_161 rfl 0 rfl ?_
              refine z_get h in_X4_addBin_X4 0 rfl rfl 6 (by decide) lk_X4_addBin_f71 rfl dX4_addBin_162 ?_
              refine z_iconst h (v := 1) dX4_addBin_165 (by decide) ?_
              refine z_isub h dX4_addBin_166 ?_
              refine z_topi (y := nI n) (suc1 n (by omega)) ?_
              exact fin _ _ _ () _ _ _ _ dX4_addBin_167 rfl (fun _ => rfl) (by rw [hk]; rfl) (Nat.le_of_ble_eq_true rfl) (Nat.le_of_ble_eq_true rfl)
            · have hge : ¬ n < 16 := fun q => by have := (nI_ltI (b := 16) (by omega) (by omega)).mpr q; rw [c_66] at this; exact absurd this (by decide)
              have hk : k3 (okI pl x && (decide (¬ x = 0) && okI 3 k)) (okR 10 1000 z && okR 0 200 v) (decide (n < 16)) = 3 := k3_3 hk1 (and_t hz hv) (decide_eq_false hge)
              refine z_aload_n h dX4_addBin_69 rfl 0 rfl ?_
              refine z_iconst h (v := 3) dX4_addBin_70 (by decide) ?_
              refine z_Vi h (As := [.int 3]) (st := []) (fun sz => m_X4_fail l g cm 0 pl dy n sn 3  sz) (cwV 1 h.ts gX4_addBin_X4_fail rfl rfl rfl (by decide +kernel) ⟨Nat.le_of_ble_eq_true rfl, Nat.le_of_ble_eq_true rfl⟩) rfl [0] [] rfl rfl rfl rfl 0 rfl rfl rfl rfl (Nat.le_of_ble_eq_true rfl) ⟨(Nat.le_of_ble_eq_true rfl), (Nat.le_of_ble_eq_true rfl)⟩ (fun _ => (Nat.le_of_ble_eq_true rfl)) (wN := fun u => [(cm 0, .inr (5, [.int 3, .int (nI pl), .ref (cm 1), .ref (cm 2), .ref (cm 3), .int (nI dy), .int (nI n), .ref (cm 4), .ref (cm 5), .ref (cm 6), .ref (cm 7), .ref (cm 8), .ref (cm 9), .ref (cm 10), .ref (cm 11), .ref (cm 12), .ref (cm 13), .ref (cm 14), .ref (cm 15), .int (nI sn), .ref (cm 16)])), (cm 4, .inl (g.2.1, 16, .inl (col B 0))), (cm 5, .inl (g.2.1, 16, .inl (col B 1))), (cm 6, .inl (g.2.1, 16, .inl (col B 2))), (cm 7, .inl (g.2.1, 16, .inl (col B 3))), (cm 8, .inl (g.2.1, 16, .inl (col B 4))), (cm 9, .inl (g.2.1, 16, .inl (col B 5))), (cm 10, .inl (g.2.1, 16, .inl (col B 6)))]) (fun _ => rfl) dX4_addBin_71 (fun r_71 u_71 h_71 => ?_)
              exact fin _ _ _ () _ _ _ _ dX4_addBin_74 rfl (fun q => absurd (hk.symm.trans q) (by decide)) (by rw [hk]; rfl) (Nat.le_of_ble_eq_true rfl) (Nat.le_of_ble_eq_true rfl)
          · have fv : okR 0 200 v = false := b01_0 h_48 c_51
            have hk2 : (okR 10 1000 z && okR 0 200 v) = false := by first | exact and_f1 fz | exact and_f2 fv
            have hk : k3 (okI pl x && (decide (¬ x = 0) && okI 3 k)) (okR 10 1000 z && okR 0 200 v) (decide (n < 16)) = 2 := k3_2 hk1 hk2
            refine z_aload_n h dX4_addBin_54 rfl 0 rfl ?_
            refine z_iconst h (v := 2) dX4_addBin_55 (by decide) ?_
            refine z_Vi h (As := [.int 2]) (st := []) (fun sz => m_X4_fail l g cm 0 pl dy n sn 2  sz) (cwV 1 h.ts gX4_addBin_X4_fail rfl rfl rfl (by decide +kernel) ⟨Nat.le_of_ble_eq_true rfl, Nat.le_of_ble_eq_true rfl⟩) rfl [0] [] rfl rfl rfl rfl 0 rfl rfl rfl rfl (Nat.le_of_ble_eq_true rfl) ⟨(Nat.le_of_ble_eq_true rfl), (Nat.le_of_ble_eq_true rfl)⟩ (fun _ => (Nat.le_of_ble_eq_true rfl)) (wN := fun u => [(cm 0, .inr (5, [.int 2, .int (nI pl), .ref (cm 1), .ref (cm 2), .ref (cm 3), .int (nI dy), .int (nI n), .ref (cm 4), .ref (cm 5), .ref (cm 6), .ref (cm 7), .ref (cm 8), .ref (cm 9), .ref (cm 10), .ref (cm 11), .ref (cm 12), .ref (cm 13), .ref (cm 14), .ref (cm 15), .int (nI sn), .ref (cm 16)])), (cm 4, .inl (g.2.1, 16, .inl (col B 0))), (cm 5, .inl (g.2.1, 16, .inl (col B 1))), (cm 6, .inl (g.2.1, 16, .inl (col B 2))), (cm 7, .inl (g.2.1, 16, .inl (col B 3))), (cm 8, .inl (g.2.1, 16, .inl (col B 4))), (cm 9, .inl (g.2.1, 16, .inl (col B 5))), (cm 10, .inl (g.2.1, 16, .inl (col B 6)))]) (fun _ => rfl) dX4_addBin_56 (fun r_56 u_56 h_56 => ?_)
            exact fin _ _ _ () _ _ _ _ dX4_addBin_59 rfl (fun q => absurd (hk.symm.trans q) (by decide)) (by rw [hk]; rfl) (Nat.le_of_ble_eq_true rfl) (Nat.le_of_ble_eq_true rfl)
      · have fk : okI 3 k = false := b01_0 h_18 c_21
        have hk1 : (okI pl x && (decide (¬ x = 0) && okI 3 k)) = false := by first | exact and_f1 fx | exact and_f2 (and_f1 (decide_eq_false (fun q => q c_14))) | exact and_f2 (and_f2 fk)
        have hk : k3 (okI pl x && (decide (¬ x = 0) && okI 3 k)) (okR 10 1000 z && okR 0 200 v) (decide (n < 16)) = 1 := k3_1 hk1
        refine z_aload_n h dX4_addBin_24 rfl 0 rfl ?_
        refine z_iconst h (v := 1) dX4_addBin_25 (by decide) ?_
        refine z_Vi h (As := [.int 1]) (st := []) (fun sz => m_X4_fail l g cm 0 pl dy n sn 1  sz) (cwV 1 h.ts gX4_addBin_X4_fail rfl rfl rfl (by decide +kernel) ⟨Nat.le_of_ble_eq_true rfl, Nat.le_of_ble_eq_true rfl⟩) rfl [0] [] rfl rfl rfl rfl 0 rfl rfl rfl rfl (Nat.le_of_ble_eq_true rfl) ⟨(Nat.le_of_ble_eq_true rfl), (Nat.le_of_ble_eq_true rfl)⟩ (fun _ => (Nat.le_of_ble_eq_true rfl)) (wN := fun u => [(cm 0, .inr (5, [.int 1, .int (nI pl), .ref (cm 1), .ref (cm 2), .ref (cm 3), .int (nI dy), .int (nI n), .ref (cm 4), .ref (cm 5), .ref (cm 6), .ref (cm 7), .ref (cm 8), .ref (cm 9), .ref (cm 10), .ref (cm 11), .ref (cm 12), .ref (cm 13), .ref (cm 14), .ref (cm 15), .int (nI sn), .ref (cm 16)])), (cm 4, .inl (g.2.1, 16, .inl (col B 0))), (cm 5, .inl (g.2.1, 16, .inl (col B 1))), (cm 6, .inl (g.2.1, 16, .inl (col B 2))), (cm 7, .inl (g.2.1, 16, .inl (col B 3))), (cm 8, .inl (g.2.1, 16, .inl (col B 4))), (cm 9, .inl (g.2.1, 16, .inl (col B 5))), (cm 10, .inl (g.2.1, 16, .inl (col B 6)))]) (fun _ => rfl) dX4_addBin_26 (fun r_26 u_26 h_26 => ?_)
        exact fin _ _ _ () _ _ _ _ dX4_addBin_29 rfl (fun q => absurd (hk.symm.trans q) (by decide)) (by rw [hk]; rfl) (Nat.le_of_ble_eq_true rfl) (Nat.le_of_ble_eq_true rfl)
abbrev rmX4_init : Room := { frames := 1, cells := 16, slots := 800, locals := 20 }
set_option maxHeartbeats 4000000 in
set_option maxRecDepth 100000 in
theorem m_X4_init (l : Launch) (g : Gx) (pn : Nat)  (sz : Nat) : Met l yX4_init wsX4_init rmX4_init (PZ g [.ref pn] sz [(pn, .inr (5, [.int 0, .int 0, .null, .null, .null, .int 0, .int 0, .null, .null, .null, .null, .null, .null, .null, .null, .null, .null, .null, .null, .int 0, .null]))] []) (va_Qv (fun (_ : Nat → Nat) => True) (BZ g [(pn, .inr (5, [.int 0, .int 0, .null, .null, .null, .int 0, .int 0, .null, .null, .null, .null, .null, .null, .null, .null, .null, .null, .null, .null, .int 0, .null]))] sz (fun (u : Nat → Nat) => [(pn, .inr (5, [.int 0, .int 1, .ref (u 1), .ref (u 2), .ref (u 3), .int 0, .int 0, .ref (u 4), .ref (u 5), .ref (u 6), .ref (u 7), .ref (u 8), .ref (u 9), .ref (u 10), .ref (u 11), .ref (u 12), .ref (u 13), .ref (u 14), .ref (u 15), .int 0, .ref (u 16)])), (u 1, .inl (g.2.1, 100, .inl (mdM 100))), (u 2, .inl (g.2.1, 10, .inl (upd (fun _ => 0) 0 7))), (u 3, .inl (g.2.2.2.1, 400, .inl (fun _ => 0))), (u 4, .inl (g.2.1, 16, .inl (fun _ => 0))), (u 5, .inl (g.2.1, 16, .inl (fun _ => 0))), (u 6, .inl (g.2.1, 16, .inl (fun _ => 0))), (u 7, .inl (g.2.1, 16, .inl (fun _ => 0))), (u 8, .inl (g.2.1, 16, .inl (fun _ => 0))), (u 9, .inl (g.2.1, 16, .inl (fun _ => 0))), (u 10, .inl (g.2.1, 16, .inl (fun _ => 0))), (u 11, .inl (g.2.1, 16, .inl (fun _ => 0))), (u 12, .inl (g.2.1, 16, .inl (fun _ => 0))), (u 13, .inl (g.2.2.2.1, 16, .inl (fun _ => 0))), (u 14, .inl (g.2.2.1, 12, .inr (.inl (fun _ => 0)))), (u 15, .inl (g.2.2.1, 3, .inr (.inl (fun _ => 0)))), (u 16, .inl (g.2.1, 16, .inl (fun _ => 0)))])) (va_A [(pn, .inr (5, [.int 0, .int 0, .null, .null, .null, .int 0, .int 0, .null, .null, .null, .null, .null, .null, .null, .null, .null, .null, .null, .null, .int 0, .null]))] sz)) 16 800 (va_A [(pn, .inr (5, [.int 0, .int 0, .null, .null, .null, .int 0, .int 0, .null, .null, .null, .null, .null, .null, .null, .null, .null, .null, .null, .null, .int 0, .null]))] sz) := by
  refine z_open_v (cc := cX4_init) (maxL := 2) (own := RX4) (by decide) rfl rfl (Nat.le_of_ble_eq_true rfl) ?_
  intro p e s m args below meth c Q h hnm fin
  generalize hAe : va_A [(pn, .inr (5, [.int 0, .int 0, .null, .null, .null, .int 0, .int 0, .null, .null, .null, .null, .null, .null, .null, .null, .null, .null, .null, .null, .int 0, .null]))] s.heap.size = A at h fin ⊢
  refine z_lve (lv' := [(0, .ref pn)]) rfl ?_
  refine z_aload_n h dX4_init_0 rfl 0 rfl ?_
  refine z_objInit h lk_X4_init_m1 lk_X4_init_oi lk_X4_init_oc dX4_init_1 (Nat.le_of_ble_eq_true rfl) (Nat.le_of_ble_eq_true rfl) ?_
  refine z_aload_n h dX4_init_4 rfl 0 rfl ?_
  refine z_iconst h (v := 1) dX4_init_5 (by decide) ?_
  refine z_put h in_X4_init_X4 0 tyX4 tyX4_ok nmX4 rfl rfl 1 (by decide) lk_X4_init_f7 rfl rfl rfl (Nat.le_of_ble_eq_true rfl) dX4_init_6 (wW' := [(pn, .inr (5, [.int 0, .int 1, .null, .null, .null, .int 0, .int 0, .null, .null, .null, .null, .null, .null, .null, .null, .null, .null, .null, .null, .int 0, .null]))]) rfl ?_
  refine z_aload_n h dX4_init_9 rfl 0 rfl ?_
  refine z_bipush h (v := 100) dX4_init_10 (by decide) ?_
  refine z_newa h ac_X4_init_I (ty := .int) rfl (t0 := 0) rfl (fun C q => by cases q) (a0 := (100, .inl (fun _ => 0))) (fun cA => by rw [vp_cell_i]; rfl) (by decide) (N' := 100) (by decide) (by decide) (Nat.le_of_ble_eq_true rfl) (Nat.le_of_ble_eq_true rfl) dX4_init_12 (fun q1 => ?_)
  refine z_ws (wW' := [(pn, .inr (5, [.int 0, .int 1, .null, .null, .null, .int 0, .int 0, .null, .null, .null, .null, .null, .null, .null, .null, .null, .null, .null, .null, .int 0, .null])), (q1, .inl (g.2.1, 100, .inl (fun _ => 0)))]) rfl rfl ?_
  refine z_putF h in_X4_init_X4 0 tyX4 tyX4_ok nmX4 rfl rfl 2 (by decide) lk_X4_init_f13 rfl hnm rfl rfl rfl (Nat.le_of_ble_eq_true rfl) dX4_init_14 (wW' := [(pn, .inr (5, [.int 0, .int 1, .ref q1, .null, .null, .int 0, .int 0, .null, .null, .null, .null, .null, .null, .null, .null, .null, .null, .null, .null, .int 0, .null])), (q1, .inl (g.2.1, 100, .inl (fun _ => 0)))]) rfl ?_
  refine z_aload_n h dX4_init_17 rfl 0 rfl ?_
  refine z_bipush h (v := 10) dX4_init_18 (by decide) ?_
  refine z_newa h ac_X4_init_I (ty := .int) rfl (t0 := 0) rfl (fun C q => by cases q) (a0 := (10, .inl (fun _ => 0))) (fun cA => by rw [vp_cell_i]; rfl) (by decide) (N' := 10) (by decide) (by decide) (Nat.le_of_ble_eq_true rfl) (Nat.le_of_ble_eq_true rfl) dX4_init_20 (fun q2 => ?_)
  refine z_ws (wW' := [(pn, .inr (5, [.int 0, .int 1, .ref q1, .null, .null, .int 0, .int 0, .null, .null, .null, .null, .null, .null, .null, .null, .null, .null, .null, .null, .int 0, .null])), (q1, .inl (g.2.1, 100, .inl (fun _ => 0))), (q2, .inl (g.2.1, 10, .inl (fun _ => 0)))]) rfl rfl ?_
  refine z_putF h in_X4_init_X4 0 tyX4 tyX4_ok nmX4 rfl rfl 3 (by decide) lk_X4_init_f17 rfl hnm rfl rfl rfl (Nat.le_of_ble_eq_true rfl) dX4_init_22 (wW' := [(pn, .inr (5, [.int 0, .int 1, .ref q1, .ref q2, .null, .int 0, .int 0, .null, .null, .null, .null, .null, .null, .null, .null, .null, .null, .null, .null, .int 0, .null])), (q1, .inl (g.2.1, 100, .inl (fun _ => 0))), (q2, .inl (g.2.1, 10, .inl (fun _ => 0)))]) rfl ?_
  refine z_aload_n h dX4_init_25 rfl 0 rfl ?_
  refine z_sipush h (v := 400) dX4_init_26 (by decide) ?_
  refine z_newa h ac_X4_init_Z (ty := .boolean) rfl (t0 := 2) rfl (fun C q => by cases q) (a0 := (400, .inl (fun _ => 0))) (fun cA => by rw [vp_cell_i]; rfl) (by decide) (N' := 400) (by decide) (by decide) (Nat.le_of_ble_eq_true rfl) (Nat.le_of_ble_eq_true rfl) dX4_init_29 (fun q3 => ?_)
  refine z_ws (wW' := [(pn, .inr (5, [.int 0, .int 1, .ref q1, .ref q2, .null, .int 0, .int 0, .null, .null, .null, .null, .null, .null, .null, .null, .null, .null, .null, .null, .int 0, .null])), (q1, .inl (g.2.1, 100, .inl (fun _ => 0))), (q2, .inl (g.2.1, 10, .inl (fun _ => 0))), (q3, .inl (g.2.2.2.1, 400, .inl (fun _ => 0)))]) rfl rfl ?_
  refine z_putF h in_X4_init_X4 0 tyX4 tyX4_ok nmX4 rfl rfl 4 (by decide) lk_X4_init_f20 rfl hnm rfl rfl rfl (Nat.le_of_ble_eq_true rfl) dX4_init_31 (wW' := [(pn, .inr (5, [.int 0, .int 1, .ref q1, .ref q2, .ref q3, .int 0, .int 0, .null, .null, .null, .null, .null, .null, .null, .null, .null, .null, .null, .null, .int 0, .null])), (q1, .inl (g.2.1, 100, .inl (fun _ => 0))), (q2, .inl (g.2.1, 10, .inl (fun _ => 0))), (q3, .inl (g.2.2.2.1, 400, .inl (fun _ => 0)))]) rfl ?_
  refine z_aload_n h dX4_init_34 rfl 0 rfl ?_
  refine z_bipush h (v := 16) dX4_init_35 (by decide) ?_
  refine z_newa h ac_X4_init_I (ty := .int) rfl (t0 := 0) rfl (fun C q => by cases q) (a0 := (16, .inl (fun _ => 0))) (fun cA => by rw [vp_cell_i]; rfl) (by decide) (N' := 16) (by decide) (by decide) (Nat.le_of_ble_eq_true rfl) (Nat.le_of_ble_eq_true rfl) dX4_init_37 (fun q4 => ?_)
  refine z_ws (wW' := [(pn, .inr (5, [.int 0, .int 1, .ref q1, .ref q2, .ref q3, .int 0, .int 0, .null, .null, .null, .null, .null, .null, .null, .null, .null, .null, .null, .null, .int 0, .null])), (q1, .inl (g.2.1, 100, .inl (fun _ => 0))), (q2, .inl (g.2.1, 10, .inl (fun _ => 0))), (q3, .inl (g.2.2.2.1, 400, .inl (fun _ => 0))), (q4, .inl (g.2.1, 16, .inl (fun _ => 0)))]) rfl rfl ?_
  refine z_putF h in_X4_init_X4 0 tyX4 tyX4_ok nmX4 rfl rfl 7 (by decide) lk_X4_init_f24 rfl hnm rfl rfl rfl (Nat.le_of_ble_eq_true rfl) dX4_init_39 (wW' := [(pn, .inr (5, [.int 0, .int 1, .ref q1, .ref q2, .ref q3, .int 0, .int 0, .ref q4, .null, .null, .null, .null, .null, .null, .null, .null, .null, .null, .null, .int 0, .null])), (q1, .inl (g.2.1, 100, .inl (fun _ => 0))), (q2, .inl (g.2.1, 10, .inl (fun _ => 0))), (q3, .inl (g.2.2.2.1, 400, .inl (fun _ => 0))), (q4, .inl (g.2.1, 16, .inl (fun _ => 0)))]) rfl ?_
  refine z_aload_n h dX4_init_42 rfl 0 rfl ?_
  refine z_bipush h (v := 16) dX4_init_43 (by decide) ?_
  refine z_newa h ac_X4_init_I (ty := .int) rfl (t0 := 0) rfl (fun C q => by cases q) (a0 := (16, .inl (fun _ => 0))) (fun cA => by rw [vp_cell_i]; rfl) (by decide) (N' := 16) (by decide) (by decide) (Nat.le_of_ble_eq_true rfl) (Nat.le_of_ble_eq_true rfl) dX4_init_45 (fun q5 => ?_)
  refine z_ws (wW' := [(pn, .inr (5, [.int 0, .int 1, .ref q1, .ref q2, .ref q3, .int 0, .int 0, .ref q4, .null, .null, .null, .null, .null, .null, .null, .null, .null, .null, .null, .int 0, .null])), (q1, .inl (g.2.1, 100, .inl (fun _ => 0))), (q2, .inl (g.2.1, 10, .inl (fun _ => 0))), (q3, .inl (g.2.2.2.1, 400, .inl (fun _ => 0))), (q4, .inl (g.2.1, 16, .inl (fun _ => 0))), (q5, .inl (g.2.1, 16, .inl (fun _ => 0)))]) rfl rfl ?_
  refine z_putF h in_X4_init_X4 0 tyX4 tyX4_ok nmX4 rfl rfl 8 (by decide) lk_X4_init_f27 rfl hnm rfl rfl rfl (Nat.le_of_ble_eq_true rfl) dX4_init_47 (wW' := [(pn, .inr (5, [.int 0, .int 1, .ref q1, .ref q2, .ref q3, .int 0, .int 0, .ref q4, .ref q5, .null, .null, .null, .null, .null, .null, .null, .null, .null, .null, .int 0, .null])), (q1, .inl (g.2.1, 100, .inl (fun _ => 0))), (q2, .inl (g.2.1, 10, .inl (fun _ => 0))), (q3, .inl (g.2.2.2.1, 400, .inl (fun _ => 0))), (q4, .inl (g.2.1, 16, .inl (fun _ => 0))), (q5, .inl (g.2.1, 16, .inl (fun _ => 0)))]) rfl ?_
  refine z_aload_n h dX4_init_50 rfl 0 rfl ?_
  refine z_bipush h (v := 16) dX4_init_51 (by decide) ?_
  refine z_newa h ac_X4_init_I (ty := .int) rfl (t0 := 0) rfl (fun C q => by cases q) (a0 := (16, .inl (fun _ => 0))) (fun cA => by rw [vp_cell_i]; rfl) (by decide) (N' := 16) (by decide) (by decide) (Nat.le_of_ble_eq_true rfl) (Nat.le_of_ble_eq_true rfl) dX4_init_53 (fun q6 => ?_)
  refine z_ws (wW' := [(pn, .inr (5, [.int 0, .int 1, .ref q1, .ref q2, .ref q3, .int 0, .int 0, .ref q4, .ref q5, .null, .null, .null, .null, .null, .null, .null, .null, .null, .null, .int 0, .null])), (q1, .inl (g.2.1, 100, .inl (fun _ => 0))), (q2, .inl (g.2.1, 10, .inl (fun _ => 0))), (q3, .inl (g.2.2.2.1, 400, .inl (fun _ => 0))), (q4, .inl (g.2.1, 16, .inl (fun _ => 0))), (q5, .inl (g.2.1, 16, .inl (fun _ => 0))), (q6, .inl (g.2.1, 16, .inl (fun _ => 0)))]) rfl rfl ?_
  refine z_putF h in_X4_init_X4 0 tyX4 tyX4_ok nmX4 rfl rfl 9 (by decide) lk_X4_init_f30 rfl hnm rfl rfl rfl (Nat.le_of_ble_eq_true rfl) dX4_init_55 (wW' := [(pn, .inr (5, [.int 0, .int 1, .ref q1, .ref q2, .ref q3, .int 0, .int 0, .ref q4, .ref q5, .ref q6, .null, .null, .null, .null, .null, .null, .null, .null, .null, .int 0, .null])), (q1, .inl (g.2.1, 100, .inl (fun _ => 0))), (q2, .inl (g.2.1, 10, .inl (fun _ => 0))), (q3, .inl (g.2.2.2.1, 400, .inl (fun _ => 0))), (q4, .inl (g.2.1, 16, .inl (fun _ => 0))), (q5, .inl (g.2.1, 16, .inl (fun _ => 0))), (q6, .inl (g.2.1, 16, .inl (fun _ => 0)))]) rfl ?_
  refine z_aload_n h dX4_init_58 rfl 0 rfl ?_
  refine z_bipush h (v := 16) dX4_init_59 (by decide) ?_
  refine z_newa h ac_X4_init_I (ty := .int) rfl (t0 := 0) rfl (fun C q => by cases q) (a0 := (16, .inl (fun _ => 0))) (fun cA => by rw [vp_cell_i]; rfl) (by decide) (N' := 16) (by decide) (by decide) (Nat.le_of_ble_eq_true rfl) (Nat.le_of_ble_eq_true rfl) dX4_init_61 (fun q7 => ?_)
  refine z_ws (wW' := [(pn, .inr (5, [.int 0, .int 1, .ref q1, .ref q2, .ref q3, .int 0, .int 0, .ref q4, .ref q5, .ref q6, .null, .null, .null, .null, .null, .null, .null, .null, .null, .int 0, .null])), (q1, .inl (g.2.1, 100, .inl (fun _ => 0))), (q2, .inl (g.2.1, 10, .inl (fun _ => 0))), (q3, .inl (g.2.2.2.1, 400, .inl (fun _ => 0))), (q4, .inl (g.2.1, 16, .inl (fun _ => 0))), (q5, .inl (g.2.1, 16, .inl (fun _ => 0))), (q6, .inl (g.2.1, 16, .inl (fun _ => 0))), (q7, .inl (g.2.1, 16, .inl (fun _ => 0)))]) rfl rfl ?_
  refine z_putF h in_X4_init_X4 0 tyX4 tyX4_ok nmX4 rfl rfl 10 (by decide) lk_X4_init_f33 rfl hnm rfl rfl rfl (Nat.le_of_ble_eq_true rfl) dX4_init_63 (wW' := [(pn, .inr (5, [.int 0, .int 1, .ref q1, .ref q2, .ref q3, .int 0, .int 0, .ref q4, .ref q5, .ref q6, .ref q7, .null, .null, .null, .null, .null, .null, .null, .null, .int 0, .null])), (q1, .inl (g.2.1, 100, .inl (fun _ => 0))), (q2, .inl (g.2.1, 10, .inl (fun _ => 0))), (q3, .inl (g.2.2.2.1, 400, .inl (fun _ => 0))), (q4, .inl (g.2.1, 16, .inl (fun _ => 0))), (q5, .inl (g.2.1, 16, .inl (fun _ => 0))), (q6, .inl (g.2.1, 16, .inl (fun _ => 0))), (q7, .inl (g.2.1, 16, .inl (fun _ => 0)))]) rfl ?_
  refine z_aload_n h dX4_init_66 rfl 0 rfl ?_
  refine z_bipush h (v := 16) dX4_init_67 (by decide) ?_
  refine z_newa h ac_X4_init_I (ty := .int) rfl (t0 := 0) rfl (fun C q => by cases q) (a0 := (16, .inl (fun _ => 0))) (fun cA => by rw [vp_cell_i]; rfl) (by decide) (N' := 16) (by decide) (by decide) (Nat.le_of_ble_eq_true rfl) (Nat.le_of_ble_eq_true rfl) dX4_init_69 (fun q8 => ?_)
  refine z_ws (wW' := [(pn, .inr (5, [.int 0, .int 1, .ref q1, .ref q2, .ref q3, .int 0, .int 0, .ref q4, .ref q5, .ref q6, .ref q7, .null, .null, .null, .null, .null, .null, .null, .null, .int 0, .null])), (q1, .inl (g.2.1, 100, .inl (fun _ => 0))), (q2, .inl (g.2.1, 10, .inl (fun _ => 0))), (q3, .inl (g.2.2.2.1, 400, .inl (fun _ => 0))), (q4, .inl (g.2.1, 16, .inl (fun _ => 0))), (q5, .inl (g.2.1, 16, .inl (fun _ => 0))), (q6, .inl (g.2.1, 16, .inl (fun _ => 0))), (q7, .inl (g.2.1, 16, .inl (fun _ => 0))), (q8, .inl (g.2.1, 16, .inl (fun _ => 0)))]) rfl rfl ?_
  refine z_putF h in_X4_init_X4 0 tyX4 tyX4_ok nmX4 rfl rfl 11 (by decide) lk_X4_init_f36 rfl hnm rfl rfl rfl (Nat.le_of_ble_eq_true rfl) dX4_init_71 (wW' := [(pn, .inr (5, [.int 0, .int 1, .ref q1, .ref q2, .ref q3, .int 0, .int 0, .ref q4, .ref q5, .ref q6, .ref q7, .ref q8, .null, .null, .null, .null, .null, .null, .null, .int 0, .null])), (q1, .inl (g.2.1, 100, .inl (fun _ => 0))), (q2, .inl (g.2.1, 10, .inl (fun _ => 0))), (q3, .inl (g.2.2.2.1, 400, .inl (fun _ => 0))), (q4, .inl (g.2.1, 16, .inl (fun _ => 0))), (q5, .inl (g.2.1, 16, .inl (fun _ => 0))), (q6, .inl (g.2.1, 16, .inl (fun _ => 0))), (q7, .inl (g.2.1, 16, .inl (fun _ => 0))), (q8, .inl (g.2.1, 16, .inl (fun _ => 0)))]) rfl ?_
  refine z_aload_n h dX4_init_74 rfl 0 rfl ?_
  refine z_bipush h (v := 16) dX4_init_75 (by decide) ?_
  refine z_newa h ac_X4_init_I (ty := .int) rfl (t0 := 0) rfl (fun C q => by cases q) (a0 := (16, .inl (fun _ => 0))) (fun cA => by rw [vp_cell_i]; rfl) (by decide) (N' := 16) (by decide) (by decide) (Nat.le_of_ble_eq_true rfl) (Nat.le_of_ble_eq_true rfl) dX4_init_77 (fun q9 => ?_)
  refine z_ws (wW' := [(pn, .inr (5, [.int 0, .int 1, .ref q1, .ref q2, .ref q3, .int 0, .int 0, .ref q4, .ref q5, .ref q6, .ref q7, .ref q8, .null, .null, .null, .null, .null, .null, .null, .int 0, .null])), (q1, .inl (g.2.1, 100, .inl (fun _ => 0))), (q2, .inl (g.2.1, 10, .inl (fun _ => 0))), (q3, .inl (g.2.2.2.1, 400, .inl (fun _ => 0))), (q4, .inl (g.2.1, 16, .inl (fun _ => 0))), (q5, .inl (g.2.1, 16, .inl (fun _ => 0))), (q6, .inl (g.2.1, 16, .inl (fun _ => 0))), (q7, .inl (g.2.1, 16, .inl (fun _ => 0))), (q8, .inl (g.2.1, 16, .inl (fun _ => 0))), (q9, .inl (g.2.1, 16, .inl (fun _ => 0)))]) rfl rfl ?_
  refine z_putF h in_X4_init_X4 0 tyX4 tyX4_ok nmX4 rfl rfl 12 (by decide) lk_X4_init_f39 rfl hnm rfl rfl rfl (Nat.le_of_ble_eq_true rfl) dX4_init_79 (wW' := [(pn, .inr (5, [.int 0, .int 1, .ref q1, .ref q2, .ref q3, .int 0, .int 0, .ref q4, .ref q5, .ref q6, .ref q7, .ref q8, .ref q9, .null, .null, .null, .null, .null, .null, .int 0, .null])), (q1, .inl (g.2.1, 100, .inl (fun _ => 0))), (q2, .inl (g.2.1, 10, .inl (fun _ => 0))), (q3, .inl (g.2.2.2.1, 400, .inl (fun _ => 0))), (q4, .inl (g.2.1, 16, .inl (fun _ => 0))), (q5, .inl (g.2.1, 16, .inl (fun _ => 0))), (q6, .inl (g.2.1, 16, .inl (fun _ => 0))), (q7, .inl (g.2.1, 16, .inl (fun _ => 0))), (q8, .inl (g.2.1, 16, .inl (fun _ => 0))), (q9, .inl (g.2.1, 16, .inl (fun _ => 0)))]) rfl ?_
  refine z_aload_n h dX4_init_82 rfl 0 rfl ?_
  refine z_bipush h (v := 16) dX4_init_83 (by decide) ?_
  refine z_newa h ac_X4_init_I (ty := .int) rfl (t0 := 0) rfl (fun C q => by cases q) (a0 := (16, .inl (fun _ => 0))) (fun cA => by rw [vp_cell_i]; rfl) (by decide) (N' := 16) (by decide) (by decide) (Nat.le_of_ble_eq_true rfl) (Nat.le_of_ble_eq_true rfl) dX4_init_85 (fun q10 => ?_)
  refine z_ws (wW' := [(pn, .inr (5, [.int 0, .int 1, .ref q1, .ref q2, .ref q3, .int 0, .int 0, .ref q4, .ref q5, .ref q6, .ref q7, .ref q8, .ref q9, .null, .null, .null, .null, .null, .null, .int 0, .null])), (q1, .inl (g.2.1, 100, .inl (fun _ => 0))), (q2, .inl (g.2.1, 10, .inl (fun _ => 0))), (q3, .inl (g.2.2.2.1, 400, .inl (fun _ => 0))), (q4, .inl (g.2.1, 16, .inl (fun _ => 0))), (q5, .inl (g.2.1, 16, .inl (fun _ => 0))), (q6, .inl (g.2.1, 16, .inl (fun _ => 0))), (q7, .inl (g.2.1, 16, .inl (fun _ => 0))), (q8, .inl (g.2.1, 16, .inl (fun _ => 0))), (q9, .inl (g.2.1, 16, .inl (fun _ => 0))), (q10, .inl (g.2.1, 16, .inl (fun _ => 0)))]) rfl rfl ?_
  refine z_putF h in_X4_init_X4 0 tyX4 tyX4_ok nmX4 rfl rfl 13 (by decide) lk_X4_init_f42 rfl hnm rfl rfl rfl (Nat.le_of_ble_eq_true rfl) dX4_init_87 (wW' := [(pn, .inr (5, [.int 0, .int 1, .ref q1, .ref q2, .ref q3, .int 0, .int 0, .ref q4, .ref q5, .ref q6, .ref q7, .ref q8, .ref q9, .ref q10, .null, .null, .null, .null, .null, .int 0, .null])), (q1, .inl (g.2.1, 100, .inl (fun _ => 0))), (q2, .inl (g.2.1, 10, .inl (fun _ => 0))), (q3, .inl (g.2.2.2.1, 400, .inl (fun _ => 0))), (q4, .inl (g.2.1, 16, .inl (fun _ => 0))), (q5, .inl (g.2.1, 16, .inl (fun _ => 0))), (q6, .inl (g.2.1, 16, .inl (fun _ => 0))), (q7, .inl (g.2.1, 16, .inl (fun _ => 0))), (q8, .inl (g.2.1, 16, .inl (fun _ => 0))), (q9, .inl (g.2.1, 16, .inl (fun _ => 0))), (q10, .inl (g.2.1, 16, .inl (fun _ => 0)))]) rfl ?_
  refine z_aload_n h dX4_init_90 rfl 0 rfl ?_
  refine z_bipush h (v := 16) dX4_init_91 (by decide) ?_
  refine z_newa h ac_X4_init_I (ty := .int) rfl (t0 := 0) rfl (fun C q => by cases q) (a0 := (16, .inl (fun _ => 0))) (fun cA => by rw [vp_cell_i]; rfl) (by decide) (N' := 16) (by decide) (by decide) (Nat.le_of_ble_eq_true rfl) (Nat.le_of_ble_eq_true rfl) dX4_init_93 (fun q11 => ?_)
  refine z_ws (wW' := [(pn, .inr (5, [.int 0, .int 1, .ref q1, .ref q2, .ref q3, .int 0, .int 0, .ref q4, .ref q5, .ref q6, .ref q7, .ref q8, .ref q9, .ref q10, .null, .null, .null, .null, .null, .int 0, .null])), (q1, .inl (g.2.1, 100, .inl (fun _ => 0))), (q2, .inl (g.2.1, 10, .inl (fun _ => 0))), (q3, .inl (g.2.2.2.1, 400, .inl (fun _ => 0))), (q4, .inl (g.2.1, 16, .inl (fun _ => 0))), (q5, .inl (g.2.1, 16, .inl (fun _ => 0))), (q6, .inl (g.2.1, 16, .inl (fun _ => 0))), (q7, .inl (g.2.1, 16, .inl (fun _ => 0))), (q8, .inl (g.2.1, 16, .inl (fun _ => 0))), (q9, .inl (g.2.1, 16, .inl (fun _ => 0))), (q10, .inl (g.2.1, 16, .inl (fun _ => 0))), (q11, .inl (g.2.1, 16, .inl (fun _ => 0)))]) rfl rfl ?_
  refine z_putF h in_X4_init_X4 0 tyX4 tyX4_ok nmX4 rfl rfl 14 (by decide) lk_X4_init_f45 rfl hnm rfl rfl rfl (Nat.le_of_ble_eq_true rfl) dX4_init_95 (wW' := [(pn, .inr (5, [.int 0, .int 1, .ref q1, .ref q2, .ref q3, .int 0, .int 0, .ref q4, .ref q5, .ref q6, .ref q7, .ref q8, .ref q9, .ref q10, .ref q11, .null, .null, .null, .null, .int 0, .null])), (q1, .inl (g.2.1, 100, .inl (fun _ => 0))), (q2, .inl (g.2.1, 10, .inl (fun _ => 0))), (q3, .inl (g.2.2.2.1, 400, .inl (fun _ => 0))), (q4, .inl (g.2.1, 16, .inl (fun _ => 0))), (q5, .inl (g.2.1, 16, .inl (fun _ => 0))), (q6, .inl (g.2.1, 16, .inl (fun _ => 0))), (q7, .inl (g.2.1, 16, .inl (fun _ => 0))), (q8, .inl (g.2.1, 16, .inl (fun _ => 0))), (q9, .inl (g.2.1, 16, .inl (fun _ => 0))), (q10, .inl (g.2.1, 16, .inl (fun _ => 0))), (q11, .inl (g.2.1, 16, .inl (fun _ => 0)))]) rfl ?_
  refine z_aload_n h dX4_init_98 rfl 0 rfl ?_
  refine z_bipush h (v := 16) dX4_init_99 (by decide) ?_
  refine z_newa h ac_X4_init_I (ty := .int) rfl (t0 := 0) rfl (fun C q => by cases q) (a0 := (16, .inl (fun _ => 0))) (fun cA => by rw [vp_cell_i]; rfl) (by decide) (N' := 16) (by decide) (by decide) (Nat.le_of_ble_eq_true rfl) (Nat.le_of_ble_eq_true rfl) dX4_init_101 (fun q12 => ?_)
  refine z_ws (wW' := [(pn, .inr (5, [.int 0, .int 1, .ref q1, .ref q2, .ref q3, .int 0, .int 0, .ref q4, .ref q5, .ref q6, .ref q7, .ref q8, .ref q9, .ref q10, .ref q11, .null, .null, .null, .null, .int 0, .null])), (q1, .inl (g.2.1, 100, .inl (fun _ => 0))), (q2, .inl (g.2.1, 10, .inl (fun _ => 0))), (q3, .inl (g.2.2.2.1, 400, .inl (fun _ => 0))), (q4, .inl (g.2.1, 16, .inl (fun _ => 0))), (q5, .inl (g.2.1, 16, .inl (fun _ => 0))), (q6, .inl (g.2.1, 16, .inl (fun _ => 0))), (q7, .inl (g.2.1, 16, .inl (fun _ => 0))), (q8, .inl (g.2.1, 16, .inl (fun _ => 0))), (q9, .inl (g.2.1, 16, .inl (fun _ => 0))), (q10, .inl (g.2.1, 16, .inl (fun _ => 0))), (q11, .inl (g.2.1, 16, .inl (fun _ => 0))), (q12, .inl (g.2.1, 16, .inl (fun _ => 0)))]) rfl rfl ?_
  refine z_putF h in_X4_init_X4 0 tyX4 tyX4_ok nmX4 rfl rfl 15 (by decide) lk_X4_init_f48 rfl hnm rfl rfl rfl (Nat.le_of_ble_eq_true rfl) dX4_init_103 (wW' := [(pn, .inr (5, [.int 0, .int 1, .ref q1, .ref q2, .ref q3, .int 0, .int 0, .ref q4, .ref q5, .ref q6, .ref q7, .ref q8, .ref q9, .ref q10, .ref q11, .ref q12, .null, .null, .null, .int 0, .null])), (q1, .inl (g.2.1, 100, .inl (fun _ => 0))), (q2, .inl (g.2.1, 10, .inl (fun _ => 0))), (q3, .inl (g.2.2.2.1, 400, .inl (fun _ => 0))), (q4, .inl (g.2.1, 16, .inl (fun _ => 0))), (q5, .inl (g.2.1, 16, .inl (fun _ => 0))), (q6, .inl (g.2.1, 16, .inl (fun _ => 0))), (q7, .inl (g.2.1, 16, .inl (fun _ => 0))), (q8, .inl (g.2.1, 16, .inl (fun _ => 0))), (q9, .inl (g.2.1, 16, .inl (fun _ => 0))), (q10, .inl (g.2.1, 16, .inl (fun _ => 0))), (q11, .inl (g.2.1, 16, .inl (fun _ => 0))), (q12, .inl (g.2.1, 16, .inl (fun _ => 0)))]) rfl ?_
  refine z_aload_n h dX4_init_106 rfl 0 rfl ?_
  refine z_bipush h (v := 16) dX4_init_107 (by decide) ?_
  refine z_newa h ac_X4_init_Z (ty := .boolean) rfl (t0 := 2) rfl (fun C q => by cases q) (a0 := (16, .inl (fun _ => 0))) (fun cA => by rw [vp_cell_i]; rfl) (by decide) (N' := 16) (by decide) (by decide) (Nat.le_of_ble_eq_true rfl) (Nat.le_of_ble_eq_true rfl) dX4_init_109 (fun q13 => ?_)
  refine z_ws (wW' := [(pn, .inr (5, [.int 0, .int 1, .ref q1, .ref q2, .ref q3, .int 0, .int 0, .ref q4, .ref q5, .ref q6, .ref q7, .ref q8, .ref q9, .ref q10, .ref q11, .ref q12, .null, .null, .null, .int 0, .null])), (q1, .inl (g.2.1, 100, .inl (fun _ => 0))), (q2, .inl (g.2.1, 10, .inl (fun _ => 0))), (q3, .inl (g.2.2.2.1, 400, .inl (fun _ => 0))), (q4, .inl (g.2.1, 16, .inl (fun _ => 0))), (q5, .inl (g.2.1, 16, .inl (fun _ => 0))), (q6, .inl (g.2.1, 16, .inl (fun _ => 0))), (q7, .inl (g.2.1, 16, .inl (fun _ => 0))), (q8, .inl (g.2.1, 16, .inl (fun _ => 0))), (q9, .inl (g.2.1, 16, .inl (fun _ => 0))), (q10, .inl (g.2.1, 16, .inl (fun _ => 0))), (q11, .inl (g.2.1, 16, .inl (fun _ => 0))), (q12, .inl (g.2.1, 16, .inl (fun _ => 0))), (q13, .inl (g.2.2.2.1, 16, .inl (fun _ => 0)))]) rfl rfl ?_
  refine z_putF h in_X4_init_X4 0 tyX4 tyX4_ok nmX4 rfl rfl 16 (by decide) lk_X4_init_f51 rfl hnm rfl rfl rfl (Nat.le_of_ble_eq_true rfl) dX4_init_111 (wW' := [(pn, .inr (5, [.int 0, .int 1, .ref q1, .ref q2, .ref q3, .int 0, .int 0, .ref q4, .ref q5, .ref q6, .ref q7, .ref q8, .ref q9, .ref q10, .ref q11, .ref q12, .ref q13, .null, .null, .int 0, .null])), (q1, .inl (g.2.1, 100, .inl (fun _ => 0))), (q2, .inl (g.2.1, 10, .inl (fun _ => 0))), (q3, .inl (g.2.2.2.1, 400, .inl (fun _ => 0))), (q4, .inl (g.2.1, 16, .inl (fun _ => 0))), (q5, .inl (g.2.1, 16, .inl (fun _ => 0))), (q6, .inl (g.2.1, 16, .inl (fun _ => 0))), (q7, .inl (g.2.1, 16, .inl (fun _ => 0))), (q8, .inl (g.2.1, 16, .inl (fun _ => 0))), (q9, .inl (g.2.1, 16, .inl (fun _ => 0))), (q10, .inl (g.2.1, 16, .inl (fun _ => 0))), (q11, .inl (g.2.1, 16, .inl (fun _ => 0))), (q12, .inl (g.2.1, 16, .inl (fun _ => 0))), (q13, .inl (g.2.2.2.1, 16, .inl (fun _ => 0)))]) rfl ?_
  refine z_aload_n h dX4_init_114 rfl 0 rfl ?_
  refine z_bipush h (v := 12) dX4_init_115 (by decide) ?_
  refine z_newa h ac_X4_init_J (ty := .long) rfl (t0 := 1) rfl (fun C q => by cases q) (a0 := (12, .inr (.inl (fun _ => 0)))) (fun cA => by rw [vp_cell_l]; rfl) (by decide) (N' := 12) (by decide) (by decide) (Nat.le_of_ble_eq_true rfl) (Nat.le_of_ble_eq_true rfl) dX4_init_117 (fun q14 => ?_)
  refine z_ws (wW' := [(pn, .inr (5, [.int 0, .int 1, .ref q1, .ref q2, .ref q3, .int 0, .int 0, .ref q4, .ref q5, .ref q6, .ref q7, .ref q8, .ref q9, .ref q10, .ref q11, .ref q12, .ref q13, .null, .null, .int 0, .null])), (q1, .inl (g.2.1, 100, .inl (fun _ => 0))), (q2, .inl (g.2.1, 10, .inl (fun _ => 0))), (q3, .inl (g.2.2.2.1, 400, .inl (fun _ => 0))), (q4, .inl (g.2.1, 16, .inl (fun _ => 0))), (q5, .inl (g.2.1, 16, .inl (fun _ => 0))), (q6, .inl (g.2.1, 16, .inl (fun _ => 0))), (q7, .inl (g.2.1, 16, .inl (fun _ => 0))), (q8, .inl (g.2.1, 16, .inl (fun _ => 0))), (q9, .inl (g.2.1, 16, .inl (fun _ => 0))), (q10, .inl (g.2.1, 16, .inl (fun _ => 0))), (q11, .inl (g.2.1, 16, .inl (fun _ => 0))), (q12, .inl (g.2.1, 16, .inl (fun _ => 0))), (q13, .inl (g.2.2.2.1, 16, .inl (fun _ => 0))), (q14, .inl (g.2.2.1, 12, .inr (.inl (fun _ => 0))))]) rfl rfl ?_
  refine z_putF h in_X4_init_X4 0 tyX4 tyX4_ok nmX4 rfl rfl 17 (by decide) lk_X4_init_f54 rfl hnm rfl rfl rfl (Nat.le_of_ble_eq_true rfl) dX4_init_119 (wW' := [(pn, .inr (5, [.int 0, .int 1, .ref q1, .ref q2, .ref q3, .int 0, .int 0, .ref q4, .ref q5, .ref q6, .ref q7, .ref q8, .ref q9, .ref q10, .ref q11, .ref q12, .ref q13, .ref q14, .null, .int 0, .null])), (q1, .inl (g.2.1, 100, .inl (fun _ => 0))), (q2, .inl (g.2.1, 10, .inl (fun _ => 0))), (q3, .inl (g.2.2.2.1, 400, .inl (fun _ => 0))), (q4, .inl (g.2.1, 16, .inl (fun _ => 0))), (q5, .inl (g.2.1, 16, .inl (fun _ => 0))), (q6, .inl (g.2.1, 16, .inl (fun _ => 0))), (q7, .inl (g.2.1, 16, .inl (fun _ => 0))), (q8, .inl (g.2.1, 16, .inl (fun _ => 0))), (q9, .inl (g.2.1, 16, .inl (fun _ => 0))), (q10, .inl (g.2.1, 16, .inl (fun _ => 0))), (q11, .inl (g.2.1, 16, .inl (fun _ => 0))), (q12, .inl (g.2.1, 16, .inl (fun _ => 0))), (q13, .inl (g.2.2.2.1, 16, .inl (fun _ => 0))), (q14, .inl (g.2.2.1, 12, .inr (.inl (fun _ => 0))))]) rfl ?_
  refine z_aload_n h dX4_init_122 rfl 0 rfl ?_
  refine z_iconst h (v := 3) dX4_init_123 (by decide) ?_
  refine z_newa h ac_X4_init_J (ty := .long) rfl (t0 := 1) rfl (fun C q => by cases q) (a0 := (3, .inr (.inl (fun _ => 0)))) (fun cA => by rw [vp_cell_l]; rfl) (by decide) (N' := 3) (by decide) (by decide) (Nat.le_of_ble_eq_true rfl) (Nat.le_of_ble_eq_true rfl) dX4_init_124 (fun q15 => ?_)
  refine z_ws (wW' := [(pn, .inr (5, [.int 0, .int 1, .ref q1, .ref q2, .ref q3, .int 0, .int 0, .ref q4, .ref q5, .ref q6, .ref q7, .ref q8, .ref q9, .ref q10, .ref q11, .ref q12, .ref q13, .ref q14, .null, .int 0, .null])), (q1, .inl (g.2.1, 100, .inl (fun _ => 0))), (q2, .inl (g.2.1, 10, .inl (fun _ => 0))), (q3, .inl (g.2.2.2.1, 400, .inl (fun _ => 0))), (q4, .inl (g.2.1, 16, .inl (fun _ => 0))), (q5, .inl (g.2.1, 16, .inl (fun _ => 0))), (q6, .inl (g.2.1, 16, .inl (fun _ => 0))), (q7, .inl (g.2.1, 16, .inl (fun _ => 0))), (q8, .inl (g.2.1, 16, .inl (fun _ => 0))), (q9, .inl (g.2.1, 16, .inl (fun _ => 0))), (q10, .inl (g.2.1, 16, .inl (fun _ => 0))), (q11, .inl (g.2.1, 16, .inl (fun _ => 0))), (q12, .inl (g.2.1, 16, .inl (fun _ => 0))), (q13, .inl (g.2.2.2.1, 16, .inl (fun _ => 0))), (q14, .inl (g.2.2.1, 12, .inr (.inl (fun _ => 0)))), (q15, .inl (g.2.2.1, 3, .inr (.inl (fun _ => 0))))]) rfl rfl ?_
  refine z_putF h in_X4_init_X4 0 tyX4 tyX4_ok nmX4 rfl rfl 18 (by decide) lk_X4_init_f58 rfl hnm rfl rfl rfl (Nat.le_of_ble_eq_true rfl) dX4_init_126 (wW' := [(pn, .inr (5, [.int 0, .int 1, .ref q1, .ref q2, .ref q3, .int 0, .int 0, .ref q4, .ref q5, .ref q6, .ref q7, .ref q8, .ref q9, .ref q10, .ref q11, .ref q12, .ref q13, .ref q14, .ref q15, .int 0, .null])), (q1, .inl (g.2.1, 100, .inl (fun _ => 0))), (q2, .inl (g.2.1, 10, .inl (fun _ => 0))), (q3, .inl (g.2.2.2.1, 400, .inl (fun _ => 0))), (q4, .inl (g.2.1, 16, .inl (fun _ => 0))), (q5, .inl (g.2.1, 16, .inl (fun _ => 0))), (q6, .inl (g.2.1, 16, .inl (fun _ => 0))), (q7, .inl (g.2.1, 16, .inl (fun _ => 0))), (q8, .inl (g.2.1, 16, .inl (fun _ => 0))), (q9, .inl (g.2.1, 16, .inl (fun _ => 0))), (q10, .inl (g.2.1, 16, .inl (fun _ => 0))), (q11, .inl (g.2.1, 16, .inl (fun _ => 0))), (q12, .inl (g.2.1, 16, .inl (fun _ => 0))), (q13, .inl (g.2.2.2.1, 16, .inl (fun _ => 0))), (q14, .inl (g.2.2.1, 12, .inr (.inl (fun _ => 0)))), (q15, .inl (g.2.2.1, 3, .inr (.inl (fun _ => 0))))]) rfl ?_
  refine z_aload_n h dX4_init_129 rfl 0 rfl ?_
  refine z_bipush h (v := 16) dX4_init_130 (by decide) ?_
  refine z_newa h ac_X4_init_I (ty := .int) rfl (t0 := 0) rfl (fun C q => by cases q) (a0 := (16, .inl (fun _ => 0))) (fun cA => by rw [vp_cell_i]; rfl) (by decide) (N' := 16) (by decide) (by decide) (Nat.le_of_ble_eq_true rfl) (Nat.le_of_ble_eq_true rfl) dX4_init_132 (fun q16 => ?_)
  refine z_ws (wW' := [(pn, .inr (5, [.int 0, .int 1, .ref q1, .ref q2, .ref q3, .int 0, .int 0, .ref q4, .ref q5, .ref q6, .ref q7, .ref q8, .ref q9, .ref q10, .ref q11, .ref q12, .ref q13, .ref q14, .ref q15, .int 0, .null])), (q1, .inl (g.2.1, 100, .inl (fun _ => 0))), (q2, .inl (g.2.1, 10, .inl (fun _ => 0))), (q3, .inl (g.2.2.2.1, 400, .inl (fun _ => 0))), (q4, .inl (g.2.1, 16, .inl (fun _ => 0))), (q5, .inl (g.2.1, 16, .inl (fun _ => 0))), (q6, .inl (g.2.1, 16, .inl (fun _ => 0))), (q7, .inl (g.2.1, 16, .inl (fun _ => 0))), (q8, .inl (g.2.1, 16, .inl (fun _ => 0))), (q9, .inl (g.2.1, 16, .inl (fun _ => 0))), (q10, .inl (g.2.1, 16, .inl (fun _ => 0))), (q11, .inl (g.2.1, 16, .inl (fun _ => 0))), (q12, .inl (g.2.1, 16, .inl (fun _ => 0))), (q13, .inl (g.2.2.2.1, 16, .inl (fun _ => 0))), (q14, .inl (g.2.2.1, 12, .inr (.inl (fun _ => 0)))), (q15, .inl (g.2.2.1, 3, .inr (.inl (fun _ => 0)))), (q16, .inl (g.2.1, 16, .inl (fun _ => 0)))]) rfl rfl ?_
  refine z_putF h in_X4_init_X4 0 tyX4 tyX4_ok nmX4 rfl rfl 20 (by decide) lk_X4_init_f61 rfl hnm rfl rfl rfl (Nat.le_of_ble_eq_true rfl) dX4_init_134 (wW' := [(pn, .inr (5, [.int 0, .int 1, .ref q1, .ref q2, .ref q3, .int 0, .int 0, .ref q4, .ref q5, .ref q6, .ref q7, .ref q8, .ref q9, .ref q10, .ref q11, .ref q12, .ref q13, .ref q14, .ref q15, .int 0, .ref q16])), (q1, .inl (g.2.1, 100, .inl (fun _ => 0))), (q2, .inl (g.2.1, 10, .inl (fun _ => 0))), (q3, .inl (g.2.2.2.1, 400, .inl (fun _ => 0))), (q4, .inl (g.2.1, 16, .inl (fun _ => 0))), (q5, .inl (g.2.1, 16, .inl (fun _ => 0))), (q6, .inl (g.2.1, 16, .inl (fun _ => 0))), (q7, .inl (g.2.1, 16, .inl (fun _ => 0))), (q8, .inl (g.2.1, 16, .inl (fun _ => 0))), (q9, .inl (g.2.1, 16, .inl (fun _ => 0))), (q10, .inl (g.2.1, 16, .inl (fun _ => 0))), (q11, .inl (g.2.1, 16, .inl (fun _ => 0))), (q12, .inl (g.2.1, 16, .inl (fun _ => 0))), (q13, .inl (g.2.2.2.1, 16, .inl (fun _ => 0))), (q14, .inl (g.2.2.1, 12, .inr (.inl (fun _ => 0)))), (q15, .inl (g.2.2.1, 3, .inr (.inl (fun _ => 0)))), (q16, .inl (g.2.1, 16, .inl (fun _ => 0)))]) rfl ?_
  refine z_aload_n h dX4_init_137 rfl 0 rfl ?_
  refine z_get h in_X4_init_X4 0 rfl rfl 3 (by decide) lk_X4_init_f17 rfl dX4_init_138 ?_
  refine z_iconst h (v := 0) dX4_init_141 (by decide) ?_
  refine z_bipush h (v := 7) dX4_init_142 (by decide) ?_
  refine z_iast h (j := 0) 2 rfl (show vp_in (nI 0) 10 from vp_in_nI (by omega) (by omega)) (by rw [show ((0 : Int32)).toNatClampNeg = 0 from rfl]) dX4_init_144 (wW' := [(pn, .inr (5, [.int 0, .int 1, .ref q1, .ref q2, .ref q3, .int 0, .int 0, .ref q4, .ref q5, .ref q6, .ref q7, .ref q8, .ref q9, .ref q10, .ref q11, .ref q12, .ref q13, .ref q14, .ref q15, .int 0, .ref q16])), (q1, .inl (g.2.1, 100, .inl (fun _ => 0))), (q2, .inl (g.2.1, 10, .inl (upd (fun _ => 0) 0 7))), (q3, .inl (g.2.2.2.1, 400, .inl (fun _ => 0))), (q4, .inl (g.2.1, 16, .inl (fun _ => 0))), (q5, .inl (g.2.1, 16, .inl (fun _ => 0))), (q6, .inl (g.2.1, 16, .inl (fun _ => 0))), (q7, .inl (g.2.1, 16, .inl (fun _ => 0))), (q8, .inl (g.2.1, 16, .inl (fun _ => 0))), (q9, .inl (g.2.1, 16, .inl (fun _ => 0))), (q10, .inl (g.2.1, 16, .inl (fun _ => 0))), (q11, .inl (g.2.1, 16, .inl (fun _ => 0))), (q12, .inl (g.2.1, 16, .inl (fun _ => 0))), (q13, .inl (g.2.2.2.1, 16, .inl (fun _ => 0))), (q14, .inl (g.2.2.1, 12, .inr (.inl (fun _ => 0)))), (q15, .inl (g.2.2.1, 3, .inr (.inl (fun _ => 0)))), (q16, .inl (g.2.1, 16, .inl (fun _ => 0)))]) rfl ?_
  refine z_iconst h (v := 0) dX4_init_145 (by decide) ?_
  refine z_istore_n h dX4_init_146 rfl (by decide) (lv' := [(0, .ref pn), (1, .int 0)]) [1, 0] rfl ?_
  have L147 : ∀ (L147n i : Nat) , i ≤ 100 → 100 < L147n + i → Z p l e rmX4_init s m args below meth c Q A g 2 147 [(0, .ref pn), (1, .int (nI i))] [] [(pn, .inr (5, [.int 0, .int 1, .ref q1, .ref q2, .ref q3, .int 0, .int 0, .ref q4, .ref q5, .ref q6, .ref q7, .ref q8, .ref q9, .ref q10, .ref q11, .ref q12, .ref q13, .ref q14, .ref q15, .int 0, .ref q16])), (q1, .inl (g.2.1, 100, .inl (mdM i))), (q2, .inl (g.2.1, 10, .inl (upd (fun _ => 0) 0 7))), (q3, .inl (g.2.2.2.1, 400, .inl (fun _ => 0))), (q4, .inl (g.2.1, 16, .inl (fun _ => 0))), (q5, .inl (g.2.1, 16, .inl (fun _ => 0))), (q6, .inl (g.2.1, 16, .inl (fun _ => 0))), (q7, .inl (g.2.1, 16, .inl (fun _ => 0))), (q8, .inl (g.2.1, 16, .inl (fun _ => 0))), (q9, .inl (g.2.1, 16, .inl (fun _ => 0))), (q10, .inl (g.2.1, 16, .inl (fun _ => 0))), (q11, .inl (g.2.1, 16, .inl (fun _ => 0))), (q12, .inl (g.2.1, 16, .inl (fun _ => 0))), (q13, .inl (g.2.2.2.1, 16, .inl (fun _ => 0))), (q14, .inl (g.2.2.1, 12, .inr (.inl (fun _ => 0)))), (q15, .inl (g.2.2.1, 3, .inr (.inl (fun _ => 0)))), (q16, .inl (g.2.1, 16, .inl (fun _ => 0)))] [] 16 701 := by
    intro L147n
    induction L147n with
    | zero => intro i  hi hL147 ; exact absurd hL147 (by omega)
    | succ L147n ihL147 =>
      intro i  hi hL147 
      refine z_iload_n h dX4_init_147 rfl 1 rfl ?_
      refine z_bipush h (v := 100) dX4_init_148 (by decide) ?_
      refine z_icmp_ge h (tgt := 182) dX4_init_150 (by decide) (fun c_150 => ?_) (fun c_150 => ?_)
      · have hi1 : i = 100 := by have := ge_t (a := i) (b := 100) c_150 (by omega) (by omega); omega
        subst hi1
        exact fin _ _ (fun i => if i = 1 then q1 else if i = 2 then q2 else if i = 3 then q3 else if i = 4 then q4 else if i = 5 then q5 else if i = 6 then q6 else if i = 7 then q7 else if i = 8 then q8 else if i = 9 then q9 else if i = 10 then q10 else if i = 11 then q11 else if i = 12 then q12 else if i = 13 then q13 else if i = 14 then q14 else if i = 15 then q15 else q16) _ _ _ _ dX4_init_182 trivial rfl (Nat.le_of_ble_eq_true rfl) (Nat.le_of_ble_eq_true rfl)
      · have hl : i < 100 := ge_f (a := i) (b := 100) c_150 (by omega) (by omega)
        refine z_aload_n h dX4_init_153 rfl 0 rfl ?_
        refine z_get h in_X4_init_X4 0 rfl rfl 2 (by decide) lk_X4_init_f13 rfl dX4_init_154 ?_
        refine z_iload_n h dX4_init_157 rfl 1 rfl ?_
        refine z_iload_n h dX4_init_158 rfl 1 rfl ?_
        refine z_bipush h (v := 10) dX4_init_159 (by decide) ?_
        refine z_idiv h dX4_init_161 (by decide) ?_
        refine z_topi (y := nI (i / 10)) (div10 i hl) ?_
        refine z_iload_n h dX4_init_162 rfl 1 rfl ?_
        refine z_bipush h (v := 10) dX4_init_163 (by decide) ?_
        refine z_irem h dX4_init_165 (by decide) ?_
        refine z_topi (y := nI (i % 10)) (rem10 i hl) ?_
        refine z_icmp_ne h (tgt := 173) dX4_init_166 (by decide) (fun c_166 => ?_) (fun c_166 => ?_)
        · refine z_bipush h (v := 30) dX4_init_173 (by decide) ?_
          refine z_iast h (j := i) 1 rfl (vp_in_nI (by omega) (by omega)) (by rw [nI_clamp (by omega)]) dX4_init_175 (wW' := [(pn, .inr (5, [.int 0, .int 1, .ref q1, .ref q2, .ref q3, .int 0, .int 0, .ref q4, .ref q5, .ref q6, .ref q7, .ref q8, .ref q9, .ref q10, .ref q11, .ref q12, .ref q13, .ref q14, .ref q15, .int 0, .ref q16])), (q1, .inl (g.2.1, 100, .inl (upd (mdM i) i 30))), (q2, .inl (g.2.1, 10, .inl (upd (fun _ => 0) 0 7))), (q3, .inl (g.2.2.2.1, 400, .inl (fun _ => 0))), (q4, .inl (g.2.1, 16, .inl (fun _ => 0))), (q5, .inl (g.2.1, 16, .inl (fun _ => 0))), (q6, .inl (g.2.1, 16, .inl (fun _ => 0))), (q7, .inl (g.2.1, 16, .inl (fun _ => 0))), (q8, .inl (g.2.1, 16, .inl (fun _ => 0))), (q9, .inl (g.2.1, 16, .inl (fun _ => 0))), (q10, .inl (g.2.1, 16, .inl (fun _ => 0))), (q11, .inl (g.2.1, 16, .inl (fun _ => 0))), (q12, .inl (g.2.1, 16, .inl (fun _ => 0))), (q13, .inl (g.2.2.2.1, 16, .inl (fun _ => 0))), (q14, .inl (g.2.2.1, 12, .inr (.inl (fun _ => 0)))), (q15, .inl (g.2.2.1, 3, .inr (.inl (fun _ => 0)))), (q16, .inl (g.2.1, 16, .inl (fun _ => 0)))]) rfl ?_
          refine z_ws (wW' := [(pn, .inr (5, [.int 0, .int 1, .ref q1, .ref q2, .ref q3, .int 0, .int 0, .ref q4, .ref q5, .ref q6, .ref q7, .ref q8, .ref q9, .ref q10, .ref q11, .ref q12, .ref q13, .ref q14, .ref q15, .int 0, .ref q16])), (q1, .inl (g.2.1, 100, .inl (mdM (i + 1)))), (q2, .inl (g.2.1, 10, .inl (upd (fun _ => 0) 0 7))), (q3, .inl (g.2.2.2.1, 400, .inl (fun _ => 0))), (q4, .inl (g.2.1, 16, .inl (fun _ => 0))), (q5, .inl (g.2.1, 16, .inl (fun _ => 0))), (q6, .inl (g.2.1, 16, .inl (fun _ => 0))), (q7, .inl (g.2.1, 16, .inl (fun _ => 0))), (q8, .inl (g.2.1, 16, .inl (fun _ => 0))), (q9, .inl (g.2.1, 16, .inl (fun _ => 0))), (q10, .inl (g.2.1, 16, .inl (fun _ => 0))), (q11, .inl (g.2.1, 16, .inl (fun _ => 0))), (q12, .inl (g.2.1, 16, .inl (fun _ => 0))), (q13, .inl (g.2.2.2.1, 16, .inl (fun _ => 0))), (q14, .inl (g.2.2.1, 12, .inr (.inl (fun _ => 0)))), (q15, .inl (g.2.2.1, 3, .inr (.inl (fun _ => 0)))), (q16, .inl (g.2.1, 16, .inl (fun _ => 0)))]) (by first | rw [mdM, if_pos c_166] | rw [mdM, if_neg c_166]) rfl ?_
          refine z_iinc h (v := nI (i + 1)) dX4_init_176 (by decide) 1 rfl (by rw [show Int32.ofInt 1 = nI 1 from rfl, nI_add]) (lv' := [(0, .ref pn), (1, .int (nI (i + 1)))]) [1, 0] rfl ?_
          refine z_goto h (tgt := 147) dX4_init_179 (by decide) ?_
          exact ihL147 (i + 1)  (by omega) (by omega) 
        · refine z_iconst h (v := 0) dX4_init_169 (by decide) ?_
          refine z_goto h (tgt := 175) dX4_init_170 (by decide) ?_
          refine z_iast h (j := i) 1 rfl (vp_in_nI (by omega) (by omega)) (by rw [nI_clamp (by omega)]) dX4_init_175 (wW' := [(pn, .inr (5, [.int 0, .int 1, .ref q1, .ref q2, .ref q3, .int 0, .int 0, .ref q4, .ref q5, .ref q6, .ref q7, .ref q8, .ref q9, .ref q10, .ref q11, .ref q12, .ref q13, .ref q14, .ref q15, .int 0, .ref q16])), (q1, .inl (g.2.1, 100, .inl (upd (mdM i) i 0))), (q2, .inl (g.2.1, 10, .inl (upd (fun _ => 0) 0 7))), (q3, .inl (g.2.2.2.1, 400, .inl (fun _ => 0))), (q4, .inl (g.2.1, 16, .inl (fun _ => 0))), (q5, .inl (g.2.1, 16, .inl (fun _ => 0))), (q6, .inl (g.2.1, 16, .inl (fun _ => 0))), (q7, .inl (g.2.1, 16, .inl (fun _ => 0))), (q8, .inl (g.2.1, 16, .inl (fun _ => 0))), (q9, .inl (g.2.1, 16, .inl (fun _ => 0))), (q10, .inl (g.2.1, 16, .inl (fun _ => 0))), (q11, .inl (g.2.1, 16, .inl (fun _ => 0))), (q12, .inl (g.2.1, 16, .inl (fun _ => 0))), (q13, .inl (g.2.2.2.1, 16, .inl (fun _ => 0))), (q14, .inl (g.2.2.1, 12, .inr (.inl (fun _ => 0)))), (q15, .inl (g.2.2.1, 3, .inr (.inl (fun _ => 0)))), (q16, .inl (g.2.1, 16, .inl (fun _ => 0)))]) rfl ?_
          refine z_ws (wW' := [(pn, .inr (5, [.int 0, .int 1, .ref q1, .ref q2, .ref q3, .int 0, .int 0, .ref q4, .ref q5, .ref q6, .ref q7, .ref q8, .ref q9, .ref q10, .ref q11, .ref q12, .ref q13, .ref q14, .ref q15, .int 0, .ref q16])), (q1, .inl (g.2.1, 100, .inl (mdM (i + 1)))), (q2, .inl (g.2.1, 10, .inl (upd (fun _ => 0) 0 7))), (q3, .inl (g.2.2.2.1, 400, .inl (fun _ => 0))), (q4, .inl (g.2.1, 16, .inl (fun _ => 0))), (q5, .inl (g.2.1, 16, .inl (fun _ => 0))), (q6, .inl (g.2.1, 16, .inl (fun _ => 0))), (q7, .inl (g.2.1, 16, .inl (fun _ => 0))), (q8, .inl (g.2.1, 16, .inl (fun _ => 0))), (q9, .inl (g.2.1, 16, .inl (fun _ => 0))), (q10, .inl (g.2.1, 16, .inl (fun _ => 0))), (q11, .inl (g.2.1, 16, .inl (fun _ => 0))), (q12, .inl (g.2.1, 16, .inl (fun _ => 0))), (q13, .inl (g.2.2.2.1, 16, .inl (fun _ => 0))), (q14, .inl (g.2.2.1, 12, .inr (.inl (fun _ => 0)))), (q15, .inl (g.2.2.1, 3, .inr (.inl (fun _ => 0)))), (q16, .inl (g.2.1, 16, .inl (fun _ => 0)))]) (by first | rw [mdM, if_pos c_166] | rw [mdM, if_neg c_166]) rfl ?_
          refine z_iinc h (v := nI (i + 1)) dX4_init_176 (by decide) 1 rfl (by rw [show Int32.ofInt 1 = nI 1 from rfl, nI_add]) (lv' := [(0, .ref pn), (1, .int (nI (i + 1)))]) [1, 0] rfl ?_
          refine z_goto h (tgt := 147) dX4_init_179 (by decide) ?_
          exact ihL147 (i + 1)  (by omega) (by omega) 
  exact L147 (100 + 1 - 0) 0  (by omega) (by omega) 
abbrev rmX4_tipFor : Room := { frames := 1, cells := 0, slots := 0, locals := 22 }
set_option maxHeartbeats 4000000 in
set_option maxRecDepth 100000 in
theorem m_X4_tipFor (l : Launch) (g : Gx) (cm : Nat → Nat) (th : Int32) (pl : Nat) (dy : Nat) (n : Nat) (sn : Nat) (fm : Nat → Int32) (ft : Nat → Int32) (k : Int32) (fa : Nat) (fb : Nat) (hpl : pl ≤ 10) (ha : fa < 10) (hb : fb < 10) (sz : Nat) : Met l yX4_tipFor wsX4_tipFor rmX4_tipFor (PZ g [.ref (cm 0), .int k, .int (nI fa), .int (nI fb)] sz [] [(cm 0, .inr (5, [.int th, .int (nI pl), .ref (cm 1), .ref (cm 2), .ref (cm 3), .int (nI dy), .int (nI n), .ref (cm 4), .ref (cm 5), .ref (cm 6), .ref (cm 7), .ref (cm 8), .ref (cm 9), .ref (cm 10), .ref (cm 11), .ref (cm 12), .ref (cm 13), .ref (cm 14), .ref (cm 15), .int (nI sn), .ref (cm 16)])), (cm 1, .inl (g.2.1, 100, .inl fm)), (cm 2, .inl (g.2.1, 10, .inl ft))]) (va_Qi (fun (r : Int32) (_ : Unit) => r = obI (tfo fm ft k fa fb pl)) (BZ g [] sz (fun (u : Unit) => [])) (va_A [] sz)) 0 0 (va_A [] sz) := by
  refine z_open_i (cc := cX4_tipFor) (maxL := 6) (ret := .int) (own := RX4) (by decide) rfl rfl (Nat.le_of_ble_eq_true rfl) ?_
  intro p e s m args below meth c Q h hnm fin
  generalize hAe : va_A [] s.heap.size = A at h fin ⊢
  refine z_lve (lv' := [(0, .ref (cm 0)), (1, .int k), (2, .int (nI fa)), (3, .int (nI fb))]) rfl ?_
  refine z_iconst h (v := (-1)) dX4_tipFor_0 (by decide) ?_
  refine z_istore h dX4_tipFor_1 (by decide) (lv' := [(0, .ref (cm 0)), (1, .int k), (2, .int (nI fa)), (3, .int (nI fb)), (4, .int (-1))]) [1, 2, 3, 4, 0] rfl ?_
  refine z_iconst h (v := 0) dX4_tipFor_3 (by decide) ?_
  refine z_istore h dX4_tipFor_4 (by decide) (lv' := [(0, .ref (cm 0)), (1, .int k), (2, .int (nI fa)), (3, .int (nI fb)), (4, .int (-1)), (5, .int 0)]) [1, 2, 3, 4, 5, 0] rfl ?_
  have L6 : ∀ (L6n i : Nat) (bo : Option Nat), i ≤ pl → pl < L6n + i → bo = tfo fm ft k fa fb i → (∀ q, bo = some q → q < i) → Z p l e rmX4_tipFor s m args below meth c Q A g 6 6 [(0, .ref (cm 0)), (1, .int k), (2, .int (nI fa)), (3, .int (nI fb)), (4, .int (obI bo)), (5, .int (nI i))] [] [] [(cm 0, .inr (5, [.int th, .int (nI pl), .ref (cm 1), .ref (cm 2), .ref (cm 3), .int (nI dy), .int (nI n), .ref (cm 4), .ref (cm 5), .ref (cm 6), .ref (cm 7), .ref (cm 8), .ref (cm 9), .ref (cm 10), .ref (cm 11), .ref (cm 12), .ref (cm 13), .ref (cm 14), .ref (cm 15), .int (nI sn), .ref (cm 16)])), (cm 1, .inl (g.2.1, 100, .inl fm)), (cm 2, .inl (g.2.1, 10, .inl ft))] 0 0 := by
    intro L6n
    induction L6n with
    | zero => intro i bo hi hL6 e1 hq; exact absurd hL6 (by omega)
    | succ L6n ihL6 =>
      intro i bo hi hL6 e1 hq
      refine z_iload h dX4_tipFor_6 5 rfl ?_
      refine z_aload_n h dX4_tipFor_8 rfl 0 rfl ?_
      refine z_get h in_X4_tipFor_X4 0 rfl rfl 1 (by decide) lk_X4_tipFor_f7 rfl dX4_tipFor_9 ?_
      refine z_icmp_ge h (tgt := 81) dX4_tipFor_12 (by decide) (fun c_12 => ?_) (fun c_12 => ?_)
      · have hip : i = pl := by have := ge_t (a := i) (b := pl) c_12 (by omega) (by omega); omega
        refine z_iload h dX4_tipFor_81 4 rfl ?_
        exact fin _ _ _ () _ _ _ _ dX4_tipFor_83 rfl (by rw [e1, hip]) rfl (Nat.le_of_ble_eq_true rfl) (Nat.le_of_ble_eq_true rfl)
      · have hlt : i < pl := ge_f (a := i) (b := pl) c_12 (by omega) (by omega)
        refine z_aload_n h dX4_tipFor_15 rfl 0 rfl ?_
        refine z_get h in_X4_tipFor_X4 0 rfl rfl 3 (by decide) lk_X4_tipFor_f17 rfl dX4_tipFor_16 ?_
        refine z_iload h dX4_tipFor_19 5 rfl ?_
        refine z_iald h 2 rfl (vp_in_nI (by omega) (by omega)) dX4_tipFor_21 (v := ft i) (by rw [nI_clamp (by omega)]) ?_
        refine z_iload_n h dX4_tipFor_22 rfl 1 rfl ?_
        refine z_Si h (b := 0) (C := "") (As := [.int (ft i), .int k]) (st := []) (fun sz => m_X4_has l g (ft i) k  sz) (va_cwS 2 h.ts gX4_tipFor_X4_has rfl rfl rfl (by decide +kernel) ⟨Nat.le_of_ble_eq_true rfl, Nat.le_of_ble_eq_true rfl⟩) rfl [] [] rfl rfl rfl rfl rfl (Nat.le_of_ble_eq_true rfl) ⟨(Nat.le_of_ble_eq_true rfl), (Nat.le_of_ble_eq_true rfl)⟩ (fun _ => (Nat.le_of_ble_eq_true rfl)) (wN := fun u => []) (fun _ => rfl) dX4_tipFor_23 (fun r_23 u_23 h_23 => ?_)
        refine z_topi (y := hasT (ft i) k) h_23 ?_
        refine z_if_ne h (tgt := 32) dX4_tipFor_26 (by decide) (fun c_26 => ?_) (fun c_26 => ?_)
        · refine z_iload h dX4_tipFor_32 4 rfl ?_
          refine z_iconst h (v := (-1)) dX4_tipFor_34 (by decide) ?_
          refine z_icmp_eq h (tgt := 71) dX4_tipFor_35 (by decide) (fun c_35 => ?_) (fun c_35 => ?_)
          · have hbo := obI_eq (fun q h => by have := hq q h; omega) c_35
            have hw : some i = tfo fm ft k fa fb (i + 1) := by rw [tfo, if_neg c_26, ← e1, hbo]; rfl
            refine z_iload h dX4_tipFor_71 5 rfl ?_
            refine z_istore h dX4_tipFor_73 (by decide) (lv' := [(0, .ref (cm 0)), (1, .int k), (2, .int (nI fa)), (3, .int (nI fb)), (4, .int (nI i)), (5, .int (nI i))]) [1, 2, 3, 4, 0, 5] rfl ?_
            refine z_iinc h (v := nI (i + 1)) dX4_tipFor_75 (by decide) 5 rfl (by rw [show Int32.ofInt 1 = nI 1 from rfl, nI_add]) (lv' := [(0, .ref (cm 0)), (1, .int k), (2, .int (nI fa)), (3, .int (nI fb)), (4, .int (nI i)), (5, .int (nI (i + 1)))]) [1, 2, 3, 4, 5, 0] rfl ?_
            refine z_goto h (tgt := 6) dX4_tipFor_78 (by decide) ?_
            exact ihL6 (i + 1) (some i) (by omega) (by omega) (by first | exact hw | (rw [tfo, if_pos (Classical.not_not.mp c_26)]; exact e1) | (rw [tfo, if_pos c_26]; exact e1)) (fun q9 h9 => by first | (have := hq q9 h9; omega) | (cases h9; omega))
          · obtain ⟨q, rfl⟩ := obI_ne c_35
            have hq1 : q < i := hq q rfl
            refine z_lve (lv' := [(0, .ref (cm 0)), (1, .int k), (2, .int (nI fa)), (3, .int (nI fb)), (4, .int (nI q)), (5, .int (nI i))]) rfl ?_
            refine z_aload_n h dX4_tipFor_38 rfl 0 rfl ?_
            refine z_iload_n h dX4_tipFor_39 rfl 2 rfl ?_
            refine z_iload h dX4_tipFor_40 5 rfl ?_
            refine z_Vi h (As := [.int (nI fa), .int (nI i)]) (st := []) (fun sz => m_X4_drive l g cm th pl dy n sn fm fa i (by omega) (by omega) sz) (cwV 2 h.ts gX4_tipFor_X4_drive rfl rfl rfl (by decide +kernel) ⟨Nat.le_of_ble_eq_true rfl, Nat.le_of_ble_eq_true rfl⟩) rfl [] [0, 1] rfl rfl rfl rfl 0 rfl rfl rfl rfl (Nat.le_of_ble_eq_true rfl) ⟨(Nat.le_of_ble_eq_true rfl), (Nat.le_of_ble_eq_true rfl)⟩ (fun _ => (Nat.le_of_ble_eq_true rfl)) (wN := fun u => []) (fun _ => rfl) dX4_tipFor_42 (fun r_42 u_42 h_42 => ?_)
            refine z_aload_n h dX4_tipFor_45 rfl 0 rfl ?_
            refine z_iload h dX4_tipFor_46 5 rfl ?_
            refine z_iload_n h dX4_tipFor_48 rfl 3 rfl ?_
            refine z_Vi h (As := [.int (nI i), .int (nI fb)]) (st := [.int r_42]) (fun sz => m_X4_drive l g cm th pl dy n sn fm i fb (by omega) (by omega) sz) (cwV 2 h.ts gX4_tipFor_X4_drive rfl rfl rfl (by decide +kernel) ⟨Nat.le_of_ble_eq_true rfl, Nat.le_of_ble_eq_true rfl⟩) rfl [] [0, 1] rfl rfl rfl rfl 0 rfl rfl rfl rfl (Nat.le_of_ble_eq_true rfl) ⟨(Nat.le_of_ble_eq_true rfl), (Nat.le_of_ble_eq_true rfl)⟩ (fun _ => (Nat.le_of_ble_eq_true rfl)) (wN := fun u => []) (fun _ => rfl) dX4_tipFor_49 (fun r_49 u_49 h_49 => ?_)
            refine z_iadd h dX4_tipFor_52 ?_
            refine z_topi (y := dv2 fm fa fb i) (by rw [h_42, h_49]; rfl) ?_
            refine z_aload_n h dX4_tipFor_53 rfl 0 rfl ?_
            refine z_iload_n h dX4_tipFor_54 rfl 2 rfl ?_
            refine z_iload h dX4_tipFor_55 4 rfl ?_
            refine z_Vi h (As := [.int (nI fa), .int (nI q)]) (st := [.int (dv2 fm fa fb i)]) (fun sz => m_X4_drive l g cm th pl dy n sn fm fa q (by omega) (by omega) sz) (cwV 2 h.ts gX4_tipFor_X4_drive rfl rfl rfl (by decide +kernel) ⟨Nat.le_of_ble_eq_true rfl, Nat.le_of_ble_eq_true rfl⟩) rfl [] [0, 1] rfl rfl rfl rfl 0 rfl rfl rfl rfl (Nat.le_of_ble_eq_true rfl) ⟨(Nat.le_of_ble_eq_true rfl), (Nat.le_of_ble_eq_true rfl)⟩ (fun _ => (Nat.le_of_ble_eq_true rfl)) (wN := fun u => []) (fun _ => rfl) dX4_tipFor_57 (fun r_57 u_57 h_57 => ?_)
            refine z_aload_n h dX4_tipFor_60 rfl 0 rfl ?_
            refine z_iload h dX4_tipFor_61 4 rfl ?_
            refine z_iload_n h dX4_tipFor_63 rfl 3 rfl ?_
            refine z_Vi h (As := [.int (nI q), .int (nI fb)]) (st := [.int r_57, .int (dv2 fm fa fb i)]) (fun sz => m_X4_drive l g cm th pl dy n sn fm q fb (by omega) (by omega) sz) (cwV 2 h.ts gX4_tipFor_X4_drive rfl rfl rfl (by decide +kernel) ⟨Nat.le_of_ble_eq_true rfl, Nat.le_of_ble_eq_true rfl⟩) rfl [] [0, 1] rfl rfl rfl rfl 0 rfl rfl rfl rfl (Nat.le_of_ble_eq_true rfl) ⟨(Nat.le_of_ble_eq_true rfl), (Nat.le_of_ble_eq_true rfl)⟩ (fun _ => (Nat.le_of_ble_eq_true rfl)) (wN := fun u => []) (fun _ => rfl) dX4_tipFor_64 (fun r_64 u_64 h_64 => ?_)
            refine z_iadd h dX4_tipFor_67 ?_
            refine z_topi (y := dv2 fm fa fb q) (by rw [h_57, h_64]; rfl) ?_
            refine z_icmp_ge h (tgt := 75) dX4_tipFor_68 (by decide) (fun c_68 => ?_) (fun c_68 => ?_)
            · have hw : some q = tfo fm ft k fa fb (i + 1) := by rw [tfo, if_neg c_26, ← e1]; exact (if_neg (fun r => i32_nle r c_68)).symm
              refine z_iinc h (v := nI (i + 1)) dX4_tipFor_75 (by decide) 5 rfl (by rw [show Int32.ofInt 1 = nI 1 from rfl, nI_add]) (lv' := [(0, .ref (cm 0)), (1, .int k), (2, .int (nI fa)), (3, .int (nI fb)), (4, .int (nI q)), (5, .int (nI (i + 1)))]) [1, 2, 3, 4, 5, 0] rfl ?_
              refine z_goto h (tgt := 6) dX4_tipFor_78 (by decide) ?_
              exact ihL6 (i + 1) (some q) (by omega) (by omega) (by first | exact hw | (rw [tfo, if_pos (Classical.not_not.mp c_26)]; exact e1) | (rw [tfo, if_pos c_26]; exact e1)) (fun q9 h9 => by first | (have := hq q9 h9; omega) | (cases h9; omega))
            · have hw : some i = tfo fm ft k fa fb (i + 1) := by rw [tfo, if_neg c_26, ← e1]; exact (if_pos (i32_nlf c_68)).symm
              refine z_iload h dX4_tipFor_71 5 rfl ?_
              refine z_istore h dX4_tipFor_73 (by decide) (lv' := [(0, .ref (cm 0)), (1, .int k), (2, .int (nI fa)), (3, .int (nI fb)), (4, .int (nI i)), (5, .int (nI i))]) [1, 2, 3, 4, 0, 5] rfl ?_
              refine z_iinc h (v := nI (i + 1)) dX4_tipFor_75 (by decide) 5 rfl (by rw [show Int32.ofInt 1 = nI 1 from rfl, nI_add]) (lv' := [(0, .ref (cm 0)), (1, .int k), (2, .int (nI fa)), (3, .int (nI fb)), (4, .int (nI i)), (5, .int (nI (i + 1)))]) [1, 2, 3, 4, 5, 0] rfl ?_
              refine z_goto h (tgt := 6) dX4_tipFor_78 (by decide) ?_
              exact ihL6 (i + 1) (some i) (by omega) (by omega) (by first | exact hw | (rw [tfo, if_pos (Classical.not_not.mp c_26)]; exact e1) | (rw [tfo, if_pos c_26]; exact e1)) (fun q9 h9 => by first | (have := hq q9 h9; omega) | (cases h9; omega))
        · refine z_goto h (tgt := 75) dX4_tipFor_29 (by decide) ?_
          refine z_iinc h (v := nI (i + 1)) dX4_tipFor_75 (by decide) 5 rfl (by rw [show Int32.ofInt 1 = nI 1 from rfl, nI_add]) (lv' := [(0, .ref (cm 0)), (1, .int k), (2, .int (nI fa)), (3, .int (nI fb)), (4, .int (obI bo)), (5, .int (nI (i + 1)))]) [1, 2, 3, 4, 5, 0] rfl ?_
          refine z_goto h (tgt := 6) dX4_tipFor_78 (by decide) ?_
          exact ihL6 (i + 1) bo (by omega) (by omega) (by first | exact hw | (rw [tfo, if_pos (Classical.not_not.mp c_26)]; exact e1) | (rw [tfo, if_pos c_26]; exact e1)) (fun q9 h9 => by first | (have := hq q9 h9; omega) | (cases h9; omega))
  exact L6 (pl + 1 - 0) 0 none (by omega) (by omega) rfl (fun q h => by cases h)
abbrev rmX4_empty : Room := { frames := 0, cells := 0, slots := 0, locals := 0 }
set_option maxHeartbeats 4000000 in
set_option maxRecDepth 100000 in
theorem m_X4_empty (l : Launch) (g : Gx) (cm : Nat → Nat) (th : Int32) (pl : Nat) (dy : Nat) (n : Nat) (sn : Nat) (B : Nat → Nat → Int32) (j : Nat) (tk : Int32) (hj : j < 16) (sz : Nat) : Met l yX4_empty wsX4_empty rmX4_empty (PZ g [.ref (cm 0), .int (nI j), .int tk] sz [(cm 8, .inl (g.2.1, 16, .inl (col B 4))), (cm 9, .inl (g.2.1, 16, .inl (col B 5))), (cm 10, .inl (g.2.1, 16, .inl (col B 6)))] [(cm 0, .inr (5, [.int th, .int (nI pl), .ref (cm 1), .ref (cm 2), .ref (cm 3), .int (nI dy), .int (nI n), .ref (cm 4), .ref (cm 5), .ref (cm 6), .ref (cm 7), .ref (cm 8), .ref (cm 9), .ref (cm 10), .ref (cm 11), .ref (cm 12), .ref (cm 13), .ref (cm 14), .ref (cm 15), .int (nI sn), .ref (cm 16)]))]) (va_Qv (fun (_ : Unit) => True) (BZ g [(cm 8, .inl (g.2.1, 16, .inl (col B 4))), (cm 9, .inl (g.2.1, 16, .inl (col B 5))), (cm 10, .inl (g.2.1, 16, .inl (col B 6)))] sz (fun (u : Unit) => [(cm 8, .inl (g.2.1, 16, .inl (upd (col B 4) j (B j 4 - tk)))), (cm 9, .inl (g.2.1, 16, .inl (upd (col B 5) j (ratB (B j) (nI dy))))), (cm 10, .inl (g.2.1, 16, .inl (upd (col B 6) j (nI dy))))])) (va_A [(cm 8, .inl (g.2.1, 16, .inl (col B 4))), (cm 9, .inl (g.2.1, 16, .inl (col B 5))), (cm 10, .inl (g.2.1, 16, .inl (col B 6)))] sz)) 0 0 (va_A [(cm 8, .inl (g.2.1, 16, .inl (col B 4))), (cm 9, .inl (g.2.1, 16, .inl (col B 5))), (cm 10, .inl (g.2.1, 16, .inl (col B 6)))] sz) := by
  refine z_open_v (cc := cX4_empty) (maxL := 4) (own := RX4) (by decide) rfl rfl (Nat.le_of_ble_eq_true rfl) ?_
  intro p e s m args below meth c Q h hnm fin
  generalize hAe : va_A [(cm 8, .inl (g.2.1, 16, .inl (col B 4))), (cm 9, .inl (g.2.1, 16, .inl (col B 5))), (cm 10, .inl (g.2.1, 16, .inl (col B 6)))] s.heap.size = A at h fin ⊢
  refine z_lve (lv' := [(0, .ref (cm 0)), (1, .int (nI j)), (2, .int tk)]) rfl ?_
  refine z_aload_n h dX4_empty_0 rfl 0 rfl ?_
  refine z_get h in_X4_empty_X4 3 rfl rfl 5 (by decide) lk_X4_empty_f93 rfl dX4_empty_1 ?_
  refine z_aload_n h dX4_empty_4 rfl 0 rfl ?_
  refine z_get h in_X4_empty_X4 3 rfl rfl 13 (by decide) lk_X4_empty_f42 rfl dX4_empty_5 ?_
  refine z_iload_n h dX4_empty_8 rfl 1 rfl ?_
  refine z_iald h 2 rfl (vp_in_nI (by omega) (by omega)) dX4_empty_9 (v := (col B 6) j) (by rw [nI_clamp (by omega)]) ?_
  refine z_isub h dX4_empty_10 ?_
  refine z_istore_n h dX4_empty_11 rfl (by decide) (lv' := [(0, .ref (cm 0)), (1, .int (nI j)), (2, .int tk), (3, .int ((nI dy) - ((col B 6) j)))]) [1, 2, 3, 0] rfl ?_
  refine z_iload_n h dX4_empty_12 rfl 3 rfl ?_
  refine z_if_le h (tgt := 44) dX4_empty_13 (by decide) (fun c_13 => ?_) (fun c_13 => ?_)
  · have hr : upd (col B 5) j (ratB (B j) (nI dy)) = col B 5 := by rw [show ratB (B j) (nI dy) = col B 5 j from if_pos c_13]; exact upd_self
    refine z_aload_n h dX4_empty_44 rfl 0 rfl ?_
    refine z_get h in_X4_empty_X4 3 rfl rfl 13 (by decide) lk_X4_empty_f42 rfl dX4_empty_45 ?_
    refine z_iload_n h dX4_empty_48 rfl 1 rfl ?_
    refine z_aload_n h dX4_empty_49 rfl 0 rfl ?_
    refine z_get h in_X4_empty_X4 3 rfl rfl 5 (by decide) lk_X4_empty_f93 rfl dX4_empty_50 ?_
    refine z_iast h (j := j) 2 rfl (vp_in_nI (by omega) (by omega)) (by rw [nI_clamp (by omega)]) dX4_empty_53 (wW' := [(cm 8, .inl (g.2.1, 16, .inl (col B 4))), (cm 9, .inl (g.2.1, 16, .inl (col B 5))), (cm 10, .inl (g.2.1, 16, .inl (upd (col B 6) j (nI dy))))]) rfl ?_
    refine z_aload_n h dX4_empty_54 rfl 0 rfl ?_
    refine z_get h in_X4_empty_X4 3 rfl rfl 11 (by decide) lk_X4_empty_f36 rfl dX4_empty_55 ?_
    refine z_iload_n h dX4_empty_58 rfl 1 rfl ?_
    refine z_dup2 h dX4_empty_59 rfl rfl ?_
    refine z_iald h 0 rfl (vp_in_nI (by omega) (by omega)) dX4_empty_60 (v := (col B 4) j) (by rw [nI_clamp (by omega)]) ?_
    refine z_iload_n h dX4_empty_61 rfl 2 rfl ?_
    refine z_isub h dX4_empty_62 ?_
    refine z_iast h (j := j) 0 rfl (vp_in_nI (by omega) (by omega)) (by rw [nI_clamp (by omega)]) dX4_empty_63 (wW' := [(cm 8, .inl (g.2.1, 16, .inl (upd (col B 4) j (((col B 4) j) - tk)))), (cm 9, .inl (g.2.1, 16, .inl (col B 5))), (cm 10, .inl (g.2.1, 16, .inl (upd (col B 6) j (nI dy))))]) rfl ?_
    exact fin _ _ () _ _ _ _ dX4_empty_64 trivial (by rw [hr]; try rfl) (Nat.le_of_ble_eq_true rfl) (Nat.le_of_ble_eq_true rfl)
  · have hr : ratB (B j) (nI dy) = (3 * col B 5 j + 10 * col B 4 j / (nI dy - col B 6 j)) / 4 := by rw [Int32.mul_comm 3]; exact if_neg c_13
    refine z_aload_n h dX4_empty_16 rfl 0 rfl ?_
    refine z_get h in_X4_empty_X4 3 rfl rfl 12 (by decide) lk_X4_empty_f39 rfl dX4_empty_17 ?_
    refine z_iload_n h dX4_empty_20 rfl 1 rfl ?_
    refine z_iconst h (v := 3) dX4_empty_21 (by decide) ?_
    refine z_aload_n h dX4_empty_22 rfl 0 rfl ?_
    refine z_get h in_X4_empty_X4 3 rfl rfl 12 (by decide) lk_X4_empty_f39 rfl dX4_empty_23 ?_
    refine z_iload_n h dX4_empty_26 rfl 1 rfl ?_
    refine z_iald h 1 rfl (vp_in_nI (by omega) (by omega)) dX4_empty_27 (v := (col B 5) j) (by rw [nI_clamp (by omega)]) ?_
    refine z_imul h dX4_empty_28 ?_
    refine z_bipush h (v := 10) dX4_empty_29 (by decide) ?_
    refine z_aload_n h dX4_empty_31 rfl 0 rfl ?_
    refine z_get h in_X4_empty_X4 3 rfl rfl 11 (by decide) lk_X4_empty_f36 rfl dX4_empty_32 ?_
    refine z_iload_n h dX4_empty_35 rfl 1 rfl ?_
    refine z_iald h 0 rfl (vp_in_nI (by omega) (by omega)) dX4_empty_36 (v := (col B 4) j) (by rw [nI_clamp (by omega)]) ?_
    refine z_imul h dX4_empty_37 ?_
    refine z_iload_n h dX4_empty_38 rfl 3 rfl ?_
    refine z_idiv h dX4_empty_39 (fun q => c_13 (by rw [q]; decide)) ?_
    refine z_iadd h dX4_empty_40 ?_
    refine z_iconst h (v := 4) dX4_empty_41 (by decide) ?_
    refine z_idiv h dX4_empty_42 (by decide) ?_
    refine z_iast h (j := j) 1 rfl (vp_in_nI (by omega) (by omega)) (by rw [nI_clamp (by omega)]) dX4_empty_43 (wW' := [(cm 8, .inl (g.2.1, 16, .inl (col B 4))), (cm 9, .inl (g.2.1, 16, .inl (upd (col B 5) j (((3 * ((col B 5) j)) + ((10 * ((col B 4) j)) / ((nI dy) - ((col B 6) j)))) / 4)))), (cm 10, .inl (g.2.1, 16, .inl (col B 6)))]) rfl ?_
    refine z_aload_n h dX4_empty_44 rfl 0 rfl ?_
    refine z_get h in_X4_empty_X4 3 rfl rfl 13 (by decide) lk_X4_empty_f42 rfl dX4_empty_45 ?_
    refine z_iload_n h dX4_empty_48 rfl 1 rfl ?_
    refine z_aload_n h dX4_empty_49 rfl 0 rfl ?_
    refine z_get h in_X4_empty_X4 3 rfl rfl 5 (by decide) lk_X4_empty_f93 rfl dX4_empty_50 ?_
    refine z_iast h (j := j) 2 rfl (vp_in_nI (by omega) (by omega)) (by rw [nI_clamp (by omega)]) dX4_empty_53 (wW' := [(cm 8, .inl (g.2.1, 16, .inl (col B 4))), (cm 9, .inl (g.2.1, 16, .inl (upd (col B 5) j (((3 * ((col B 5) j)) + ((10 * ((col B 4) j)) / ((nI dy) - ((col B 6) j)))) / 4)))), (cm 10, .inl (g.2.1, 16, .inl (upd (col B 6) j (nI dy))))]) rfl ?_
    refine z_aload_n h dX4_empty_54 rfl 0 rfl ?_
    refine z_get h in_X4_empty_X4 3 rfl rfl 11 (by decide) lk_X4_empty_f36 rfl dX4_empty_55 ?_
    refine z_iload_n h dX4_empty_58 rfl 1 rfl ?_
    refine z_dup2 h dX4_empty_59 rfl rfl ?_
    refine z_iald h 0 rfl (vp_in_nI (by omega) (by omega)) dX4_empty_60 (v := (col B 4) j) (by rw [nI_clamp (by omega)]) ?_
    refine z_iload_n h dX4_empty_61 rfl 2 rfl ?_
    refine z_isub h dX4_empty_62 ?_
    refine z_iast h (j := j) 0 rfl (vp_in_nI (by omega) (by omega)) (by rw [nI_clamp (by omega)]) dX4_empty_63 (wW' := [(cm 8, .inl (g.2.1, 16, .inl (upd (col B 4) j (((col B 4) j) - tk)))), (cm 9, .inl (g.2.1, 16, .inl (upd (col B 5) j (((3 * ((col B 5) j)) + ((10 * ((col B 4) j)) / ((nI dy) - ((col B 6) j)))) / 4)))), (cm 10, .inl (g.2.1, 16, .inl (upd (col B 6) j (nI dy))))]) rfl ?_
    exact fin _ _ () _ _ _ _ dX4_empty_64 trivial (by rw [hr]; try rfl) (Nat.le_of_ble_eq_true rfl) (Nat.le_of_ble_eq_true rfl)
abbrev rmX4_digest : Room := { frames := 1, cells := 0, slots := 0, locals := 22 }
set_option maxHeartbeats 4000000 in
set_option maxRecDepth 100000 in
theorem m_X4_digest (l : Launch) (g : Gx) (cm : Nat → Nat) (th : Int32) (pl : Nat) (dy : Nat) (n : Nat) (sn : Nat) (fm : Nat → Int32) (ft : Nat → Int32) (B : Nat → Nat → Int32) (tf : Nat → Int64) (wf : Nat → Int64) (hpl : pl ≤ 10) (hn : n ≤ 16) (sz : Nat) : Met l yX4_digest wsX4_digest rmX4_digest (PZ g [.ref (cm 0)] sz [(cm 0, .inr (5, [.int th, .int (nI pl), .ref (cm 1), .ref (cm 2), .ref (cm 3), .int (nI dy), .int (nI n), .ref (cm 4), .ref (cm 5), .ref (cm 6), .ref (cm 7), .ref (cm 8), .ref (cm 9), .ref (cm 10), .ref (cm 11), .ref (cm 12), .ref (cm 13), .ref (cm 14), .ref (cm 15), .int (nI sn), .ref (cm 16)]))] [(cm 1, .inl (g.2.1, 100, .inl fm)), (cm 2, .inl (g.2.1, 10, .inl ft)), (cm 4, .inl (g.2.1, 16, .inl (col B 0))), (cm 5, .inl (g.2.1, 16, .inl (col B 1))), (cm 8, .inl (g.2.1, 16, .inl (col B 4))), (cm 9, .inl (g.2.1, 16, .inl (col B 5))), (cm 10, .inl (g.2.1, 16, .inl (col B 6))), (cm 11, .inl (g.2.1, 16, .inl (col B 7))), (cm 12, .inl (g.2.1, 16, .inl (col B 8))), (cm 13, .inl (g.2.2.2.1, 16, .inl (col B 9))), (cm 14, .inl (g.2.2.1, 12, .inr (.inl tf))), (cm 15, .inl (g.2.2.1, 3, .inr (.inl wf)))]) (va_Ql (fun (r : Int64) (_ : Unit) => r = dgst fm ft pl dy n B tf wf) (BZ g [(cm 0, .inr (5, [.int th, .int (nI pl), .ref (cm 1), .ref (cm 2), .ref (cm 3), .int (nI dy), .int (nI n), .ref (cm 4), .ref (cm 5), .ref (cm 6), .ref (cm 7), .ref (cm 8), .ref (cm 9), .ref (cm 10), .ref (cm 11), .ref (cm 12), .ref (cm 13), .ref (cm 14), .ref (cm 15), .int (nI sn), .ref (cm 16)]))] sz (fun (u : Unit) => [(cm 0, .inr (5, [.int 0, .int (nI pl), .ref (cm 1), .ref (cm 2), .ref (cm 3), .int (nI dy), .int (nI n), .ref (cm 4), .ref (cm 5), .ref (cm 6), .ref (cm 7), .ref (cm 8), .ref (cm 9), .ref (cm 10), .ref (cm 11), .ref (cm 12), .ref (cm 13), .ref (cm 14), .ref (cm 15), .int (nI sn), .ref (cm 16)]))])) (va_A [(cm 0, .inr (5, [.int th, .int (nI pl), .ref (cm 1), .ref (cm 2), .ref (cm 3), .int (nI dy), .int (nI n), .ref (cm 4), .ref (cm 5), .ref (cm 6), .ref (cm 7), .ref (cm 8), .ref (cm 9), .ref (cm 10), .ref (cm 11), .ref (cm 12), .ref (cm 13), .ref (cm 14), .ref (cm 15), .int (nI sn), .ref (cm 16)]))] sz)) 0 0 (va_A [(cm 0, .inr (5, [.int th, .int (nI pl), .ref (cm 1), .ref (cm 2), .ref (cm 3), .int (nI dy), .int (nI n), .ref (cm 4), .ref (cm 5), .ref (cm 6), .ref (cm 7), .ref (cm 8), .ref (cm 9), .ref (cm 10), .ref (cm 11), .ref (cm 12), .ref (cm 13), .ref (cm 14), .ref (cm 15), .int (nI sn), .ref (cm 16)]))] sz) := by
  refine z_open_l (cc := cX4_digest) (maxL := 5) (own := RX4) (by decide) rfl rfl (Nat.le_of_ble_eq_true rfl) ?_
  intro p e s m args below meth c Q h hnm fin
  generalize hAe : va_A [(cm 0, .inr (5, [.int th, .int (nI pl), .ref (cm 1), .ref (cm 2), .ref (cm 3), .int (nI dy), .int (nI n), .ref (cm 4), .ref (cm 5), .ref (cm 6), .ref (cm 7), .ref (cm 8), .ref (cm 9), .ref (cm 10), .ref (cm 11), .ref (cm 12), .ref (cm 13), .ref (cm 14), .ref (cm 15), .int (nI sn), .ref (cm 16)]))] s.heap.size = A at h fin ⊢
  refine z_lve (lv' := [(0, .ref (cm 0))]) rfl ?_
  refine z_aload_n h dX4_digest_0 rfl 0 rfl ?_
  refine z_iconst h (v := 0) dX4_digest_1 (by decide) ?_
  refine z_put h in_X4_digest_X4 0 tyX4 tyX4_ok nmX4 rfl rfl 0 (by decide) lk_X4_digest_f64 rfl rfl rfl (Nat.le_of_ble_eq_true rfl) dX4_digest_2 (wW' := [(cm 0, .inr (5, [.int 0, .int (nI pl), .ref (cm 1), .ref (cm 2), .ref (cm 3), .int (nI dy), .int (nI n), .ref (cm 4), .ref (cm 5), .ref (cm 6), .ref (cm 7), .ref (cm 8), .ref (cm 9), .ref (cm 10), .ref (cm 11), .ref (cm 12), .ref (cm 13), .ref (cm 14), .ref (cm 15), .int (nI sn), .ref (cm 16)]))]) rfl ?_
  refine z_ldc2 h lk_X4_digest_c145 dX4_digest_5 ?_
  refine z_aload_n h dX4_digest_8 rfl 0 rfl ?_
  refine z_get h in_X4_digest_X4 0 rfl rfl 5 (by decide) lk_X4_digest_f93 rfl dX4_digest_9 ?_
  refine z_i2l h dX4_digest_12 ?_
  refine z_ladd h dX4_digest_13 ?_
  refine z_ldc2 h lk_X4_digest_c147 dX4_digest_14 ?_
  refine z_lmul h dX4_digest_17 ?_
  refine z_aload_n h dX4_digest_18 rfl 0 rfl ?_
  refine z_get h in_X4_digest_X4 0 rfl rfl 1 (by decide) lk_X4_digest_f7 rfl dX4_digest_19 ?_
  refine z_i2l h dX4_digest_22 ?_
  refine z_ladd h dX4_digest_23 ?_
  refine z_topl (y := (197 * 31 + (nI dy).toInt64) * 31 + (nI pl).toInt64) (by rw [show (6107 : Int64) = 197 * 31 from by decide]) ?_
  refine z_lstore_n h dX4_digest_24 rfl (by decide) (lv' := [(0, .ref (cm 0)), (1, .long ((197 * 31 + (nI dy).toInt64) * 31 + (nI pl).toInt64))]) [1, 0] rfl ?_
  refine z_iconst h (v := 0) dX4_digest_25 (by decide) ?_
  refine z_istore_n h dX4_digest_26 rfl (by decide) (lv' := [(0, .ref (cm 0)), (1, .long ((197 * 31 + (nI dy).toInt64) * 31 + (nI pl).toInt64)), (3, .int 0)]) [1, 2, 0] rfl ?_
  have L27 : ∀ (L27n x : Nat) (d0 : Int64), x ≤ pl → pl < L27n + x → d0 = mrA fm pl ((197 * 31 + (nI dy).toInt64) * 31 + (nI pl).toInt64) x → Z p l e rmX4_digest s m args below meth c Q A g 5 27 [(0, .ref (cm 0)), (1, .long d0), (3, .int (nI x))] [] [(cm 0, .inr (5, [.int 0, .int (nI pl), .ref (cm 1), .ref (cm 2), .ref (cm 3), .int (nI dy), .int (nI n), .ref (cm 4), .ref (cm 5), .ref (cm 6), .ref (cm 7), .ref (cm 8), .ref (cm 9), .ref (cm 10), .ref (cm 11), .ref (cm 12), .ref (cm 13), .ref (cm 14), .ref (cm 15), .int (nI sn), .ref (cm 16)]))] [(cm 1, .inl (g.2.1, 100, .inl fm)), (cm 2, .inl (g.2.1, 10, .inl ft)), (cm 4, .inl (g.2.1, 16, .inl (col B 0))), (cm 5, .inl (g.2.1, 16, .inl (col B 1))), (cm 8, .inl (g.2.1, 16, .inl (col B 4))), (cm 9, .inl (g.2.1, 16, .inl (col B 5))), (cm 10, .inl (g.2.1, 16, .inl (col B 6))), (cm 11, .inl (g.2.1, 16, .inl (col B 7))), (cm 12, .inl (g.2.1, 16, .inl (col B 8))), (cm 13, .inl (g.2.2.2.1, 16, .inl (col B 9))), (cm 14, .inl (g.2.2.1, 12, .inr (.inl tf))), (cm 15, .inl (g.2.2.1, 3, .inr (.inl wf)))] 0 0 := by
    intro L27n
    induction L27n with
    | zero => intro x d0 hx hL27 e0; exact absurd hL27 (by omega)
    | succ L27n ihL27 =>
      intro x d0 hx hL27 e0
      refine z_iload_n h dX4_digest_27 rfl 2 rfl ?_
      refine z_aload_n h dX4_digest_28 rfl 0 rfl ?_
      refine z_get h in_X4_digest_X4 0 rfl rfl 1 (by decide) lk_X4_digest_f7 rfl dX4_digest_29 ?_
      refine z_icmp_ge h (tgt := 76) dX4_digest_32 (by decide) (fun c_32 => ?_) (fun c_32 => ?_)
      · have hx0 : x = pl := by have := ge_t (a := x) (b := pl) c_32 (by omega) (by omega); omega
        refine z_iconst h (v := 0) dX4_digest_76 (by decide) ?_
        refine z_istore_n h dX4_digest_77 rfl (by decide) (lv' := [(0, .ref (cm 0)), (1, .long d0), (3, .int 0)]) [1, 2, 0] rfl ?_
        have L78 : ∀ (L78n q : Nat) , q ≤ pl → pl < L78n + q → Z p l e rmX4_digest s m args below meth c Q A g 5 78 [(0, .ref (cm 0)), (1, .long (mrT ft d0 q)), (3, .int (nI q))] [] [(cm 0, .inr (5, [.int 0, .int (nI pl), .ref (cm 1), .ref (cm 2), .ref (cm 3), .int (nI dy), .int (nI n), .ref (cm 4), .ref (cm 5), .ref (cm 6), .ref (cm 7), .ref (cm 8), .ref (cm 9), .ref (cm 10), .ref (cm 11), .ref (cm 12), .ref (cm 13), .ref (cm 14), .ref (cm 15), .int (nI sn), .ref (cm 16)]))] [(cm 1, .inl (g.2.1, 100, .inl fm)), (cm 2, .inl (g.2.1, 10, .inl ft)), (cm 4, .inl (g.2.1, 16, .inl (col B 0))), (cm 5, .inl (g.2.1, 16, .inl (col B 1))), (cm 8, .inl (g.2.1, 16, .inl (col B 4))), (cm 9, .inl (g.2.1, 16, .inl (col B 5))), (cm 10, .inl (g.2.1, 16, .inl (col B 6))), (cm 11, .inl (g.2.1, 16, .inl (col B 7))), (cm 12, .inl (g.2.1, 16, .inl (col B 8))), (cm 13, .inl (g.2.2.2.1, 16, .inl (col B 9))), (cm 14, .inl (g.2.2.1, 12, .inr (.inl tf))), (cm 15, .inl (g.2.2.1, 3, .inr (.inl wf)))] 0 0 := by
          intro L78n
          induction L78n with
          | zero => intro q  hq hL78 ; exact absurd hL78 (by omega)
          | succ L78n ihL78 =>
            intro q  hq hL78 
            refine z_iload_n h dX4_digest_78 rfl 2 rfl ?_
            refine z_aload_n h dX4_digest_79 rfl 0 rfl ?_
            refine z_get h in_X4_digest_X4 0 rfl rfl 1 (by decide) lk_X4_digest_f7 rfl dX4_digest_80 ?_
            refine z_icmp_ge h (tgt := 106) dX4_digest_83 (by decide) (fun c_83 => ?_) (fun c_83 => ?_)
            · have hxq : q = pl := by have := ge_t (a := q) (b := pl) c_83 (by omega) (by omega); omega
              refine z_lload_n h dX4_digest_106 rfl 1 rfl ?_
              refine z_ldc2 h lk_X4_digest_c147 dX4_digest_107 ?_
              refine z_lmul h dX4_digest_110 ?_
              refine z_aload_n h dX4_digest_111 rfl 0 rfl ?_
              refine z_get h in_X4_digest_X4 0 rfl rfl 6 (by decide) lk_X4_digest_f71 rfl dX4_digest_112 ?_
              refine z_i2l h dX4_digest_115 ?_
              refine z_ladd h dX4_digest_116 ?_
              refine z_lstore_n h dX4_digest_117 rfl (by decide) (lv' := [(0, .ref (cm 0)), (1, .long (((mrT ft d0 q) * 31) + (Int32.toInt64 (nI n)))), (3, .int (nI q))]) [1, 0, 2] rfl ?_
              refine z_iconst h (v := 0) dX4_digest_118 (by decide) ?_
              refine z_istore_n h dX4_digest_119 rfl (by decide) (lv' := [(0, .ref (cm 0)), (1, .long (((mrT ft d0 q) * 31) + (Int32.toInt64 (nI n)))), (3, .int 0)]) [1, 2, 0] rfl ?_
              have L120 : ∀ (L120n i : Nat) , i ≤ n → n < L120n + i → Z p l e rmX4_digest s m args below meth c Q A g 5 120 [(0, .ref (cm 0)), (1, .long (mbA B (mrT ft d0 q * 31 + (nI n).toInt64) i)), (3, .int (nI i))] [] [(cm 0, .inr (5, [.int 0, .int (nI pl), .ref (cm 1), .ref (cm 2), .ref (cm 3), .int (nI dy), .int (nI n), .ref (cm 4), .ref (cm 5), .ref (cm 6), .ref (cm 7), .ref (cm 8), .ref (cm 9), .ref (cm 10), .ref (cm 11), .ref (cm 12), .ref (cm 13), .ref (cm 14), .ref (cm 15), .int (nI sn), .ref (cm 16)]))] [(cm 1, .inl (g.2.1, 100, .inl fm)), (cm 2, .inl (g.2.1, 10, .inl ft)), (cm 4, .inl (g.2.1, 16, .inl (col B 0))), (cm 5, .inl (g.2.1, 16, .inl (col B 1))), (cm 8, .inl (g.2.1, 16, .inl (col B 4))), (cm 9, .inl (g.2.1, 16, .inl (col B 5))), (cm 10, .inl (g.2.1, 16, .inl (col B 6))), (cm 11, .inl (g.2.1, 16, .inl (col B 7))), (cm 12, .inl (g.2.1, 16, .inl (col B 8))), (cm 13, .inl (g.2.2.2.1, 16, .inl (col B 9))), (cm 14, .inl (g.2.2.1, 12, .inr (.inl tf))), (cm 15, .inl (g.2.2.1, 3, .inr (.inl wf)))] 0 0 := by
                intro L120n
                induction L120n with
                | zero => intro i  hi hL120 ; exact absurd hL120 (by omega)
                | succ L120n ihL120 =>
                  intro i  hi hL120 
                  refine z_iload_n h dX4_digest_120 rfl 2 rfl ?_
                  refine z_aload_n h dX4_digest_121 rfl 0 rfl ?_
                  refine z_get h in_X4_digest_X4 0 rfl rfl 6 (by decide) lk_X4_digest_f71 rfl dX4_digest_122 ?_
                  refine z_icmp_ge h (tgt := 165) dX4_digest_125 (by decide) (fun c_125 => ?_) (fun c_125 => ?_)
                  · have hxi : i = n := by have := ge_t (a := i) (b := n) c_125 (by omega) (by omega); omega
                    refine z_iconst h (v := 0) dX4_digest_165 (by decide) ?_
                    refine z_istore_n h dX4_digest_166 rfl (by decide) (lv' := [(0, .ref (cm 0)), (1, .long (mbA B (mrT ft d0 q * 31 + (nI n).toInt64) i)), (3, .int 0)]) [1, 2, 0] rfl ?_
                    have L167 : ∀ (L167n kd : Nat) , kd ≤ 3 → 3 < L167n + kd → Z p l e rmX4_digest s m args below meth c Q A g 5 167 [(0, .ref (cm 0)), (1, .long (mtA tf wf (mbA B (mrT ft d0 q * 31 + (nI n).toInt64) i) kd)), (3, .int (nI kd))] [] [(cm 0, .inr (5, [.int 0, .int (nI pl), .ref (cm 1), .ref (cm 2), .ref (cm 3), .int (nI dy), .int (nI n), .ref (cm 4), .ref (cm 5), .ref (cm 6), .ref (cm 7), .ref (cm 8), .ref (cm 9), .ref (cm 10), .ref (cm 11), .ref (cm 12), .ref (cm 13), .ref (cm 14), .ref (cm 15), .int (nI sn), .ref (cm 16)]))] [(cm 1, .inl (g.2.1, 100, .inl fm)), (cm 2, .inl (g.2.1, 10, .inl ft)), (cm 4, .inl (g.2.1, 16, .inl (col B 0))), (cm 5, .inl (g.2.1, 16, .inl (col B 1))), (cm 8, .inl (g.2.1, 16, .inl (col B 4))), (cm 9, .inl (g.2.1, 16, .inl (col B 5))), (cm 10, .inl (g.2.1, 16, .inl (col B 6))), (cm 11, .inl (g.2.1, 16, .inl (col B 7))), (cm 12, .inl (g.2.1, 16, .inl (col B 8))), (cm 13, .inl (g.2.2.2.1, 16, .inl (col B 9))), (cm 14, .inl (g.2.2.1, 12, .inr (.inl tf))), (cm 15, .inl (g.2.2.1, 3, .inr (.inl wf)))] 0 0 := by
                      intro L167n
                      induction L167n with
                      | zero => intro kd  hkd hL167 ; exact absurd hL167 (by omega)
                      | succ L167n ihL167 =>
                        intro kd  hkd hL167 
                        refine z_iload_n h dX4_digest_167 rfl 2 rfl ?_
                        refine z_iconst h (v := 3) dX4_digest_168 (by decide) ?_
                        refine z_icmp_ge h (tgt := 224) dX4_digest_169 (by decide) (fun c_169 => ?_) (fun c_169 => ?_)
                        · have hxk : kd = 3 := by have := ge_t (a := kd) (b := 3) c_169 (by omega) (by omega); omega
                          refine z_lload_n h dX4_digest_224 rfl 1 rfl ?_
                          exact fin _ _ _ () _ _ _ _ dX4_digest_225 (by rw [hxk, hxi, hxq, e0, hx0]; rfl) rfl (Nat.le_of_ble_eq_true rfl) (Nat.le_of_ble_eq_true rfl)
                        · have hl5 : kd < 3 := ge_f (a := kd) (b := 3) c_169 (by omega) (by omega)
                          refine z_iconst h (v := 0) dX4_digest_172 (by decide) ?_
                          refine z_istore h dX4_digest_173 (by decide) (lv' := [(0, .ref (cm 0)), (1, .long (mtA tf wf (mbA B (mrT ft d0 q * 31 + (nI n).toInt64) i) kd)), (3, .int (nI kd)), (4, .int 0)]) [1, 2, 3, 0] rfl ?_
                          have L175 : ∀ (L175n w : Nat) , w ≤ 4 → 4 < L175n + w → Z p l e rmX4_digest s m args below meth c Q A g 5 175 [(0, .ref (cm 0)), (1, .long (mtW tf kd (mtA tf wf (mbA B (mrT ft d0 q * 31 + (nI n).toInt64) i) kd) w)), (3, .int (nI kd)), (4, .int (nI w))] [] [(cm 0, .inr (5, [.int 0, .int (nI pl), .ref (cm 1), .ref (cm 2), .ref (cm 3), .int (nI dy), .int (nI n), .ref (cm 4), .ref (cm 5), .ref (cm 6), .ref (cm 7), .ref (cm 8), .ref (cm 9), .ref (cm 10), .ref (cm 11), .ref (cm 12), .ref (cm 13), .ref (cm 14), .ref (cm 15), .int (nI sn), .ref (cm 16)]))] [(cm 1, .inl (g.2.1, 100, .inl fm)), (cm 2, .inl (g.2.1, 10, .inl ft)), (cm 4, .inl (g.2.1, 16, .inl (col B 0))), (cm 5, .inl (g.2.1, 16, .inl (col B 1))), (cm 8, .inl (g.2.1, 16, .inl (col B 4))), (cm 9, .inl (g.2.1, 16, .inl (col B 5))), (cm 10, .inl (g.2.1, 16, .inl (col B 6))), (cm 11, .inl (g.2.1, 16, .inl (col B 7))), (cm 12, .inl (g.2.1, 16, .inl (col B 8))), (cm 13, .inl (g.2.2.2.1, 16, .inl (col B 9))), (cm 14, .inl (g.2.2.1, 12, .inr (.inl tf))), (cm 15, .inl (g.2.2.1, 3, .inr (.inl wf)))] 0 0 := by
                            intro L175n
                            induction L175n with
                            | zero => intro w  hw hL175 ; exact absurd hL175 (by omega)
                            | succ L175n ihL175 =>
                              intro w  hw hL175 
                              refine z_iload h dX4_digest_175 3 rfl ?_
                              refine z_iconst h (v := 4) dX4_digest_177 (by decide) ?_
                              refine z_icmp_ge h (tgt := 205) dX4_digest_178 (by decide) (fun c_178 => ?_) (fun c_178 => ?_)
                              · have hx4 : w = 4 := by have := ge_t (a := w) (b := 4) c_178 (by omega) (by omega); omega
                                subst hx4
                                refine z_lload_n h dX4_digest_205 rfl 1 rfl ?_
                                refine z_ldc2 h lk_X4_digest_c147 dX4_digest_206 ?_
                                refine z_lmul h dX4_digest_209 ?_
                                refine z_aload_n h dX4_digest_210 rfl 0 rfl ?_
                                refine z_get h in_X4_digest_X4 0 rfl rfl 18 (by decide) lk_X4_digest_f58 rfl dX4_digest_211 ?_
                                refine z_iload_n h dX4_digest_214 rfl 2 rfl ?_
                                refine z_lald h 12 rfl (vp_in_nI (by omega) (by omega)) dX4_digest_215 (v := wf kd) (by rw [nI_clamp (by omega)]) ?_
                                refine z_ladd h dX4_digest_216 ?_
                                refine z_lstore_n h dX4_digest_217 rfl (by decide) (lv' := [(0, .ref (cm 0)), (1, .long (((mtW tf kd (mtA tf wf (mbA B (mrT ft d0 q * 31 + (nI n).toInt64) i) kd) 4) * 31) + (wf kd))), (3, .int (nI kd)), (4, .int (nI 4))]) [1, 0, 2, 3] rfl ?_
                                refine z_iinc h (v := nI (kd + 1)) dX4_digest_218 (by decide) 2 rfl (by rw [show Int32.ofInt 1 = nI 1 from rfl, nI_add]) (lv' := [(0, .ref (cm 0)), (1, .long (((mtW tf kd (mtA tf wf (mbA B (mrT ft d0 q * 31 + (nI n).toInt64) i) kd) 4) * 31) + (wf kd))), (3, .int (nI (kd + 1))), (4, .int (nI 4))]) [1, 2, 0, 3] rfl ?_
                                refine z_goto h (tgt := 167) dX4_digest_221 (by decide) ?_
                                refine z_lv [0, 1, 2] (lv' := [(0, .ref (cm 0)), (1, .long (((mtW tf kd (mtA tf wf (mbA B (mrT ft d0 q * 31 + (nI n).toInt64) i) kd) 4) * 31) + (wf kd))), (3, .int (nI (kd + 1)))]) rfl ?_
                                exact ihL167 (kd + 1)  (by omega) (by omega) 
                              · have hl6 : w < 4 := ge_f (a := w) (b := 4) c_178 (by omega) (by omega)
                                refine z_lload_n h dX4_digest_181 rfl 1 rfl ?_
                                refine z_ldc2 h lk_X4_digest_c147 dX4_digest_182 ?_
                                refine z_lmul h dX4_digest_185 ?_
                                refine z_aload_n h dX4_digest_186 rfl 0 rfl ?_
                                refine z_get h in_X4_digest_X4 0 rfl rfl 17 (by decide) lk_X4_digest_f54 rfl dX4_digest_187 ?_
                                refine z_iconst h (v := 4) dX4_digest_190 (by decide) ?_
                                refine z_iload_n h dX4_digest_191 rfl 2 rfl ?_
                                refine z_imul h dX4_digest_192 ?_
                                refine z_topi (y := nI (kd * 4)) (mul4' kd) ?_
                                refine z_iload h dX4_digest_193 3 rfl ?_
                                refine z_iadd h dX4_digest_195 ?_
                                refine z_topi (y := nI (kd * 4 + w)) (add4 kd w) ?_
                                refine z_lald h 11 rfl (vp_in_nI (by omega) (by omega)) dX4_digest_196 (v := tf (kd * 4 + w)) (by rw [nI_clamp (by omega)]) ?_
                                refine z_ladd h dX4_digest_197 ?_
                                refine z_lstore_n h dX4_digest_198 rfl (by decide) (lv' := [(0, .ref (cm 0)), (1, .long (((mtW tf kd (mtA tf wf (mbA B (mrT ft d0 q * 31 + (nI n).toInt64) i) kd) w) * 31) + (tf (kd * 4 + w)))), (3, .int (nI kd)), (4, .int (nI w))]) [1, 0, 2, 3] rfl ?_
                                refine z_iinc h (v := nI (w + 1)) dX4_digest_199 (by decide) 3 rfl (by rw [show Int32.ofInt 1 = nI 1 from rfl, nI_add]) (lv' := [(0, .ref (cm 0)), (1, .long (((mtW tf kd (mtA tf wf (mbA B (mrT ft d0 q * 31 + (nI n).toInt64) i) kd) w) * 31) + (tf (kd * 4 + w)))), (3, .int (nI kd)), (4, .int (nI (w + 1)))]) [1, 2, 3, 0] rfl ?_
                                refine z_goto h (tgt := 175) dX4_digest_202 (by decide) ?_
                                exact ihL175 (w + 1)  (by omega) (by omega) 
                          exact L175 (4 + 1 - 0) 0  (by omega) (by omega) 
                    exact L167 (3 + 1 - 0) 0  (by omega) (by omega) 
                  · have hl3 : i < n := ge_f (a := i) (b := n) c_125 (by omega) (by omega)
                    refine z_iconst h (v := 0) dX4_digest_128 (by decide) ?_
                    refine z_istore h dX4_digest_129 (by decide) (lv' := [(0, .ref (cm 0)), (1, .long (mbA B (mrT ft d0 q * 31 + (nI n).toInt64) i)), (3, .int (nI i)), (4, .int 0)]) [1, 2, 3, 0] rfl ?_
                    have L131 : ∀ (L131n w : Nat) , w ≤ 8 → 8 < L131n + w → Z p l e rmX4_digest s m args below meth c Q A g 5 131 [(0, .ref (cm 0)), (1, .long (mbW (B i) (mbA B (mrT ft d0 q * 31 + (nI n).toInt64) i) w)), (3, .int (nI i)), (4, .int (nI w))] [] [(cm 0, .inr (5, [.int 0, .int (nI pl), .ref (cm 1), .ref (cm 2), .ref (cm 3), .int (nI dy), .int (nI n), .ref (cm 4), .ref (cm 5), .ref (cm 6), .ref (cm 7), .ref (cm 8), .ref (cm 9), .ref (cm 10), .ref (cm 11), .ref (cm 12), .ref (cm 13), .ref (cm 14), .ref (cm 15), .int (nI sn), .ref (cm 16)]))] [(cm 1, .inl (g.2.1, 100, .inl fm)), (cm 2, .inl (g.2.1, 10, .inl ft)), (cm 4, .inl (g.2.1, 16, .inl (col B 0))), (cm 5, .inl (g.2.1, 16, .inl (col B 1))), (cm 8, .inl (g.2.1, 16, .inl (col B 4))), (cm 9, .inl (g.2.1, 16, .inl (col B 5))), (cm 10, .inl (g.2.1, 16, .inl (col B 6))), (cm 11, .inl (g.2.1, 16, .inl (col B 7))), (cm 12, .inl (g.2.1, 16, .inl (col B 8))), (cm 13, .inl (g.2.2.2.1, 16, .inl (col B 9))), (cm 14, .inl (g.2.2.1, 12, .inr (.inl tf))), (cm 15, .inl (g.2.2.1, 3, .inr (.inl wf)))] 0 0 := by
                      intro L131n
                      induction L131n with
                      | zero => intro w  hw hL131 ; exact absurd hL131 (by omega)
                      | succ L131n ihL131 =>
                        intro w  hw hL131 
                        refine z_iload h dX4_digest_131 3 rfl ?_
                        refine z_bipush h (v := 8) dX4_digest_133 (by decide) ?_
                        refine z_icmp_ge h (tgt := 159) dX4_digest_135 (by decide) (fun c_135 => ?_) (fun c_135 => ?_)
                        · have hx8 : w = 8 := by have := ge_t (a := w) (b := 8) c_135 (by omega) (by omega); omega
                          subst hx8
                          refine z_iinc h (v := nI (i + 1)) dX4_digest_159 (by decide) 2 rfl (by rw [show Int32.ofInt 1 = nI 1 from rfl, nI_add]) (lv' := [(0, .ref (cm 0)), (1, .long (mbW (B i) (mbA B (mrT ft d0 q * 31 + (nI n).toInt64) i) 8)), (3, .int (nI (i + 1))), (4, .int (nI 8))]) [1, 2, 0, 3] rfl ?_
                          refine z_goto h (tgt := 120) dX4_digest_162 (by decide) ?_
                          refine z_lv [0, 1, 2] (lv' := [(0, .ref (cm 0)), (1, .long (mbW (B i) (mbA B (mrT ft d0 q * 31 + (nI n).toInt64) i) 8)), (3, .int (nI (i + 1)))]) rfl ?_
                          exact ihL120 (i + 1)  (by omega) (by omega) 
                        · have hl4 : w < 8 := ge_f (a := w) (b := 8) c_135 (by omega) (by omega)
                          refine z_lload_n h dX4_digest_138 rfl 1 rfl ?_
                          refine z_ldc2 h lk_X4_digest_c147 dX4_digest_139 ?_
                          refine z_lmul h dX4_digest_142 ?_
                          refine z_aload_n h dX4_digest_143 rfl 0 rfl ?_
                          refine z_iload_n h dX4_digest_144 rfl 2 rfl ?_
                          refine z_iload h dX4_digest_145 3 rfl ?_
                          refine z_Vi h (As := [.int (nI i), .int (nI w)]) (st := [.long ((mbW (B i) (mbA B (mrT ft d0 q * 31 + (nI n).toInt64) i) w) * 31)]) (fun sz => m_X4_told l g cm 0 pl dy n sn B i w (by omega) hl4 sz) (cwV 2 h.ts gX4_digest_X4_told rfl rfl rfl (by decide +kernel) ⟨Nat.le_of_ble_eq_true rfl, Nat.le_of_ble_eq_true rfl⟩) rfl [] [0, 3, 4, 5, 6, 7, 8, 9, 10] rfl rfl rfl rfl 0 rfl rfl rfl rfl (Nat.le_of_ble_eq_true rfl) ⟨(Nat.le_of_ble_eq_true rfl), (Nat.le_of_ble_eq_true rfl)⟩ (fun _ => (Nat.le_of_ble_eq_true rfl)) (wN := fun u => [(cm 0, .inr (5, [.int 0, .int (nI pl), .ref (cm 1), .ref (cm 2), .ref (cm 3), .int (nI dy), .int (nI n), .ref (cm 4), .ref (cm 5), .ref (cm 6), .ref (cm 7), .ref (cm 8), .ref (cm 9), .ref (cm 10), .ref (cm 11), .ref (cm 12), .ref (cm 13), .ref (cm 14), .ref (cm 15), .int (nI sn), .ref (cm 16)]))]) (fun _ => rfl) dX4_digest_147 (fun r_147 u_147 h_147 => ?_)
                          refine z_topi (y := fct (B i) w) h_147 ?_
                          refine z_i2l h dX4_digest_150 ?_
                          refine z_ladd h dX4_digest_151 ?_
                          refine z_lstore_n h dX4_digest_152 rfl (by decide) (lv' := [(0, .ref (cm 0)), (1, .long (((mbW (B i) (mbA B (mrT ft d0 q * 31 + (nI n).toInt64) i) w) * 31) + (Int32.toInt64 (fct (B i) w)))), (3, .int (nI i)), (4, .int (nI w))]) [1, 0, 2, 3] rfl ?_
                          refine z_iinc h (v := nI (w + 1)) dX4_digest_153 (by decide) 3 rfl (by rw [show Int32.ofInt 1 = nI 1 from rfl, nI_add]) (lv' := [(0, .ref (cm 0)), (1, .long (((mbW (B i) (mbA B (mrT ft d0 q * 31 + (nI n).toInt64) i) w) * 31) + (Int32.toInt64 (fct (B i) w)))), (3, .int (nI i)), (4, .int (nI (w + 1)))]) [1, 2, 3, 0] rfl ?_
                          refine z_goto h (tgt := 131) dX4_digest_156 (by decide) ?_
                          exact ihL131 (w + 1)  (by omega) (by omega) 
                    exact L131 (8 + 1 - 0) 0  (by omega) (by omega) 
              exact L120 (n + 1 - 0) 0  (by omega) (by omega) 
            · have hl2 : q < pl := ge_f (a := q) (b := pl) c_83 (by omega) (by omega)
              refine z_lload_n h dX4_digest_86 rfl 1 rfl ?_
              refine z_ldc2 h lk_X4_digest_c147 dX4_digest_87 ?_
              refine z_lmul h dX4_digest_90 ?_
              refine z_aload_n h dX4_digest_91 rfl 0 rfl ?_
              refine z_get h in_X4_digest_X4 0 rfl rfl 3 (by decide) lk_X4_digest_f17 rfl dX4_digest_92 ?_
              refine z_iload_n h dX4_digest_95 rfl 2 rfl ?_
              refine z_iald h 2 rfl (vp_in_nI (by omega) (by omega)) dX4_digest_96 (v := ft q) (by rw [nI_clamp (by omega)]) ?_
              refine z_i2l h dX4_digest_97 ?_
              refine z_ladd h dX4_digest_98 ?_
              refine z_lstore_n h dX4_digest_99 rfl (by decide) (lv' := [(0, .ref (cm 0)), (1, .long (((mrT ft d0 q) * 31) + (Int32.toInt64 (ft q)))), (3, .int (nI q))]) [1, 0, 2] rfl ?_
              refine z_iinc h (v := nI (q + 1)) dX4_digest_100 (by decide) 2 rfl (by rw [show Int32.ofInt 1 = nI 1 from rfl, nI_add]) (lv' := [(0, .ref (cm 0)), (1, .long (((mrT ft d0 q) * 31) + (Int32.toInt64 (ft q)))), (3, .int (nI (q + 1)))]) [1, 2, 0] rfl ?_
              refine z_goto h (tgt := 78) dX4_digest_103 (by decide) ?_
              exact ihL78 (q + 1)  (by omega) (by omega) 
        exact L78 (pl + 1 - 0) 0  (by omega) (by omega) 
      · have hl0 : x < pl := ge_f (a := x) (b := pl) c_32 (by omega) (by omega)
        refine z_iload_n h dX4_digest_35 rfl 2 rfl ?_
        refine z_iconst h (v := 1) dX4_digest_36 (by decide) ?_
        refine z_iadd h dX4_digest_37 ?_
        refine z_topi (y := nI (x + 1)) (nI_1 x) ?_
        refine z_istore h dX4_digest_38 (by decide) (lv' := [(0, .ref (cm 0)), (1, .long d0), (3, .int (nI x)), (4, .int (nI (x + 1)))]) [1, 2, 3, 0] rfl ?_
        have L40 : ∀ (L40n y : Nat) (d1 : Int64), y ≤ pl → pl < L40n + y → x + 1 ≤ y → d1 = mrB fm x d0 (y - (x + 1)) → Z p l e rmX4_digest s m args below meth c Q A g 5 40 [(0, .ref (cm 0)), (1, .long d1), (3, .int (nI x)), (4, .int (nI y))] [] [(cm 0, .inr (5, [.int 0, .int (nI pl), .ref (cm 1), .ref (cm 2), .ref (cm 3), .int (nI dy), .int (nI n), .ref (cm 4), .ref (cm 5), .ref (cm 6), .ref (cm 7), .ref (cm 8), .ref (cm 9), .ref (cm 10), .ref (cm 11), .ref (cm 12), .ref (cm 13), .ref (cm 14), .ref (cm 15), .int (nI sn), .ref (cm 16)]))] [(cm 1, .inl (g.2.1, 100, .inl fm)), (cm 2, .inl (g.2.1, 10, .inl ft)), (cm 4, .inl (g.2.1, 16, .inl (col B 0))), (cm 5, .inl (g.2.1, 16, .inl (col B 1))), (cm 8, .inl (g.2.1, 16, .inl (col B 4))), (cm 9, .inl (g.2.1, 16, .inl (col B 5))), (cm 10, .inl (g.2.1, 16, .inl (col B 6))), (cm 11, .inl (g.2.1, 16, .inl (col B 7))), (cm 12, .inl (g.2.1, 16, .inl (col B 8))), (cm 13, .inl (g.2.2.2.1, 16, .inl (col B 9))), (cm 14, .inl (g.2.2.1, 12, .inr (.inl tf))), (cm 15, .inl (g.2.2.1, 3, .inr (.inl wf)))] 0 0 := by
          intro L40n
          induction L40n with
          | zero => intro y d1 hy hL40 hxy e1; exact absurd hL40 (by omega)
          | succ L40n ihL40 =>
            intro y d1 hy hL40 hxy e1
            refine z_iload h dX4_digest_40 3 rfl ?_
            refine z_aload_n h dX4_digest_42 rfl 0 rfl ?_
            refine z_get h in_X4_digest_X4 0 rfl rfl 1 (by decide) lk_X4_digest_f7 rfl dX4_digest_43 ?_
            refine z_icmp_ge h (tgt := 70) dX4_digest_46 (by decide) (fun c_46 => ?_) (fun c_46 => ?_)
            · have hx1 : y = pl := by have := ge_t (a := y) (b := pl) c_46 (by omega) (by omega); omega
              refine z_iinc h (v := nI (x + 1)) dX4_digest_70 (by decide) 2 rfl (by rw [show Int32.ofInt 1 = nI 1 from rfl, nI_add]) (lv' := [(0, .ref (cm 0)), (1, .long d1), (3, .int (nI (x + 1))), (4, .int (nI y))]) [1, 2, 0, 3] rfl ?_
              refine z_goto h (tgt := 27) dX4_digest_73 (by decide) ?_
              refine z_lv [0, 1, 2] (lv' := [(0, .ref (cm 0)), (1, .long d1), (3, .int (nI (x + 1)))]) rfl ?_
              exact ihL27 (x + 1) d1 (by omega) (by omega) (by rw [mrA, ← e0, e1, hx1])
            · have hl1 : y < pl := ge_f (a := y) (b := pl) c_46 (by omega) (by omega)
              refine z_lload_n h dX4_digest_49 rfl 1 rfl ?_
              refine z_ldc2 h lk_X4_digest_c147 dX4_digest_50 ?_
              refine z_lmul h dX4_digest_53 ?_
              refine z_aload_n h dX4_digest_54 rfl 0 rfl ?_
              refine z_iload_n h dX4_digest_55 rfl 2 rfl ?_
              refine z_iload h dX4_digest_56 3 rfl ?_
              refine z_Vi h (As := [.int (nI x), .int (nI y)]) (st := [.long (d1 * 31)]) (fun sz => m_X4_drive l g cm 0 pl dy n sn fm x y (by omega) (by omega) sz) (cwV 2 h.ts gX4_digest_X4_drive rfl rfl rfl (by decide +kernel) ⟨Nat.le_of_ble_eq_true rfl, Nat.le_of_ble_eq_true rfl⟩) rfl [] [0, 1] rfl rfl rfl rfl 0 rfl rfl rfl rfl (Nat.le_of_ble_eq_true rfl) ⟨(Nat.le_of_ble_eq_true rfl), (Nat.le_of_ble_eq_true rfl)⟩ (fun _ => (Nat.le_of_ble_eq_true rfl)) (wN := fun u => [(cm 0, .inr (5, [.int 0, .int (nI pl), .ref (cm 1), .ref (cm 2), .ref (cm 3), .int (nI dy), .int (nI n), .ref (cm 4), .ref (cm 5), .ref (cm 6), .ref (cm 7), .ref (cm 8), .ref (cm 9), .ref (cm 10), .ref (cm 11), .ref (cm 12), .ref (cm 13), .ref (cm 14), .ref (cm 15), .int (nI sn), .ref (cm 16)]))]) (fun _ => rfl) dX4_digest_58 (fun r_58 u_58 h_58 => ?_)
              refine z_topi (y := fm (x * 10 + y)) h_58 ?_
              refine z_i2l h dX4_digest_61 ?_
              refine z_ladd h dX4_digest_62 ?_
              refine z_lstore_n h dX4_digest_63 rfl (by decide) (lv' := [(0, .ref (cm 0)), (1, .long ((d1 * 31) + (Int32.toInt64 (fm (x * 10 + y))))), (3, .int (nI x)), (4, .int (nI y))]) [1, 0, 2, 3] rfl ?_
              refine z_iinc h (v := nI (y + 1)) dX4_digest_64 (by decide) 3 rfl (by rw [show Int32.ofInt 1 = nI 1 from rfl, nI_add]) (lv' := [(0, .ref (cm 0)), (1, .long ((d1 * 31) + (Int32.toInt64 (fm (x * 10 + y))))), (3, .int (nI x)), (4, .int (nI (y + 1)))]) [1, 2, 3, 0] rfl ?_
              refine z_goto h (tgt := 40) dX4_digest_67 (by decide) ?_
              exact ihL40 (y + 1) ((d1 * 31) + (Int32.toInt64 (fm (x * 10 + y)))) (by omega) (by omega) (by omega) (by rw [mrB_s hxy, ← e1])
        exact L40 (pl + 1 - (x + 1)) (x + 1) d0 (by omega) (by omega) (Nat.le_refl _) (by rw [Nat.sub_self]; rfl)
  exact L27 (pl + 1 - 0) 0 ((197 * 31 + (nI dy).toInt64) * 31 + (nI pl).toInt64) (by omega) (by omega) rfl
