section
-- ===== PART A: goes FIRST, ahead of the names: the tables' words, and 'selects' of the private methods out of them =====
/-- a private method of a class that the tables say can be made, by its rows of tables_1 -/
def lw_okq (q : MethodName × Nat) : Prop := (q.1.cls ≠ "java/lang/invoke/MethodHandle" ∧ q.1.cls ≠ "java/lang/invoke/VarHandle") ∧ Cond.instantiable q.1.cls q.2 ∈ tables_1 ∧ Cond.privateMethod q.1 ∈ tables_1 ∧ Cond.instanceMethod q.1 ∈ tables_1
theorem lw_p0 : lw_okq (⟨"RefusePlanner", "mixRegion", "(J)J"⟩, 8) := ⟨⟨by decide +kernel, by decide +kernel⟩, List.mem_of_getElem? (i := 22) (by decide +kernel), List.mem_of_getElem? (i := 156) (by decide +kernel), List.mem_of_getElem? (i := 157) (by decide +kernel)⟩
theorem lw_p1 : lw_okq (⟨"RefusePlanner", "mixBins", "(J)J"⟩, 8) := ⟨⟨by decide +kernel, by decide +kernel⟩, List.mem_of_getElem? (i := 22) (by decide +kernel), List.mem_of_getElem? (i := 164) (by decide +kernel), List.mem_of_getElem? (i := 165) (by decide +kernel)⟩
theorem lw_p2 : lw_okq (⟨"RefusePlanner", "mixTotals", "(J)J"⟩, 8) := ⟨⟨by decide +kernel, by decide +kernel⟩, List.mem_of_getElem? (i := 22) (by decide +kernel), List.mem_of_getElem? (i := 172) (by decide +kernel), List.mem_of_getElem? (i := 173) (by decide +kernel)⟩
theorem lw_p3 : lw_okq (⟨"java/lang/Throwable", "fillInStackTrace", "(I)Ljava/lang/Throwable;"⟩, 6) := ⟨⟨by decide +kernel, by decide +kernel⟩, List.mem_of_getElem? (i := 222) (by decide +kernel), List.mem_of_getElem? (i := 220) (by decide +kernel), List.mem_of_getElem? (i := 221) (by decide +kernel)⟩
theorem lw_p4 : lw_okq (⟨"RefusePlanner", "checkPlace", "(I)V"⟩, 8) := ⟨⟨by decide +kernel, by decide +kernel⟩, List.mem_of_getElem? (i := 22) (by decide +kernel), List.mem_of_getElem? (i := 265) (by decide +kernel), List.mem_of_getElem? (i := 266) (by decide +kernel)⟩
theorem lw_p5 : lw_okq (⟨"RefusePlanner", "checkRange", "(III)V"⟩, 8) := ⟨⟨by decide +kernel, by decide +kernel⟩, List.mem_of_getElem? (i := 22) (by decide +kernel), List.mem_of_getElem? (i := 301) (by decide +kernel), List.mem_of_getElem? (i := 302) (by decide +kernel)⟩
theorem lw_p6 : lw_okq (⟨"RefusePlanner", "checkKind", "(I)V"⟩, 8) := ⟨⟨by decide +kernel, by decide +kernel⟩, List.mem_of_getElem? (i := 22) (by decide +kernel), List.mem_of_getElem? (i := 317) (by decide +kernel), List.mem_of_getElem? (i := 318) (by decide +kernel)⟩
theorem lw_p7 : lw_okq (⟨"RefusePlanner", "passOneDay", "()I"⟩, 8) := ⟨⟨by decide +kernel, by decide +kernel⟩, List.mem_of_getElem? (i := 22) (by decide +kernel), List.mem_of_getElem? (i := 352) (by decide +kernel), List.mem_of_getElem? (i := 353) (by decide +kernel)⟩
theorem lw_p8 : lw_okq (⟨"java/util/ArrayList", "add", "(Ljava/lang/Object;[Ljava/lang/Object;I)V"⟩, 3) := ⟨⟨by decide +kernel, by decide +kernel⟩, List.mem_of_getElem? (i := 49) (by decide +kernel), List.mem_of_getElem? (i := 421) (by decide +kernel), List.mem_of_getElem? (i := 422) (by decide +kernel)⟩
theorem lw_p9 : lw_okq (⟨"java/util/ArrayList", "grow", "()[Ljava/lang/Object;"⟩, 3) := ⟨⟨by decide +kernel, by decide +kernel⟩, List.mem_of_getElem? (i := 49) (by decide +kernel), List.mem_of_getElem? (i := 425) (by decide +kernel), List.mem_of_getElem? (i := 426) (by decide +kernel)⟩
theorem lw_p10 : lw_okq (⟨"java/util/ArrayList", "grow", "(I)[Ljava/lang/Object;"⟩, 3) := ⟨⟨by decide +kernel, by decide +kernel⟩, List.mem_of_getElem? (i := 49) (by decide +kernel), List.mem_of_getElem? (i := 429) (by decide +kernel), List.mem_of_getElem? (i := 430) (by decide +kernel)⟩
theorem lw_p11 : lw_okq (⟨"RefusePlanner", "checkBin", "(I)V"⟩, 8) := ⟨⟨by decide +kernel, by decide +kernel⟩, List.mem_of_getElem? (i := 22) (by decide +kernel), List.mem_of_getElem? (i := 476) (by decide +kernel), List.mem_of_getElem? (i := 477) (by decide +kernel)⟩
theorem lw_p12 : lw_okq (⟨"RefusePlanner", "planRoute", "(I)V"⟩, 8) := ⟨⟨by decide +kernel, by decide +kernel⟩, List.mem_of_getElem? (i := 22) (by decide +kernel), List.mem_of_getElem? (i := 522) (by decide +kernel), List.mem_of_getElem? (i := 523) (by decide +kernel)⟩
theorem lw_p13 : lw_okq (⟨"RefusePlanner", "nearestStop", "(II)I"⟩, 8) := ⟨⟨by decide +kernel, by decide +kernel⟩, List.mem_of_getElem? (i := 22) (by decide +kernel), List.mem_of_getElem? (i := 532) (by decide +kernel), List.mem_of_getElem? (i := 533) (by decide +kernel)⟩
theorem lw_p14 : lw_okq (⟨"RefusePlanner", "checkWorkday", "()V"⟩, 8) := ⟨⟨by decide +kernel, by decide +kernel⟩, List.mem_of_getElem? (i := 22) (by decide +kernel), List.mem_of_getElem? (i := 551) (by decide +kernel), List.mem_of_getElem? (i := 552) (by decide +kernel)⟩
theorem lw_p15 : lw_okq (⟨"RefusePlanner", "makeTour", "(II)I"⟩, 8) := ⟨⟨by decide +kernel, by decide +kernel⟩, List.mem_of_getElem? (i := 22) (by decide +kernel), List.mem_of_getElem? (i := 556) (by decide +kernel), List.mem_of_getElem? (i := 557) (by decide +kernel)⟩
def lw_privs_1 : List (MethodName × Nat) := [(⟨"RefusePlanner", "mixRegion", "(J)J"⟩, 8), (⟨"RefusePlanner", "mixBins", "(J)J"⟩, 8), (⟨"RefusePlanner", "mixTotals", "(J)J"⟩, 8), (⟨"java/lang/Throwable", "fillInStackTrace", "(I)Ljava/lang/Throwable;"⟩, 6), (⟨"RefusePlanner", "checkPlace", "(I)V"⟩, 8), (⟨"RefusePlanner", "checkRange", "(III)V"⟩, 8), (⟨"RefusePlanner", "checkKind", "(I)V"⟩, 8), (⟨"RefusePlanner", "passOneDay", "()I"⟩, 8), (⟨"java/util/ArrayList", "add", "(Ljava/lang/Object;[Ljava/lang/Object;I)V"⟩, 3), (⟨"java/util/ArrayList", "grow", "()[Ljava/lang/Object;"⟩, 3), (⟨"java/util/ArrayList", "grow", "(I)[Ljava/lang/Object;"⟩, 3), (⟨"RefusePlanner", "checkBin", "(I)V"⟩, 8), (⟨"RefusePlanner", "planRoute", "(I)V"⟩, 8), (⟨"RefusePlanner", "nearestStop", "(II)I"⟩, 8), (⟨"RefusePlanner", "checkWorkday", "()V"⟩, 8), (⟨"RefusePlanner", "makeTour", "(II)I"⟩, 8)]
theorem lw_r1 : ∀ q ∈ lw_privs_1, lw_okq q := List.forall_mem_cons.mpr ⟨lw_p0, List.forall_mem_cons.mpr ⟨lw_p1, List.forall_mem_cons.mpr ⟨lw_p2, List.forall_mem_cons.mpr ⟨lw_p3, List.forall_mem_cons.mpr ⟨lw_p4, List.forall_mem_cons.mpr ⟨lw_p5, List.forall_mem_cons.mpr ⟨lw_p6, List.forall_mem_cons.mpr ⟨lw_p7, List.forall_mem_cons.mpr ⟨lw_p8, List.forall_mem_cons.mpr ⟨lw_p9, List.forall_mem_cons.mpr ⟨lw_p10, List.forall_mem_cons.mpr ⟨lw_p11, List.forall_mem_cons.mpr ⟨lw_p12, List.forall_mem_cons.mpr ⟨lw_p13, List.forall_mem_cons.mpr ⟨lw_p14, List.forall_mem_cons.mpr ⟨lw_p15, fun _ h => absurd h List.not_mem_nil⟩⟩⟩⟩⟩⟩⟩⟩⟩⟩⟩⟩⟩⟩⟩⟩
theorem lw_p16 : lw_okq (⟨"RefusePlanner$Tour", "driveTo", "(I)V"⟩, 8) := ⟨⟨by decide +kernel, by decide +kernel⟩, List.mem_of_getElem? (i := 560) (by decide +kernel), List.mem_of_getElem? (i := 598) (by decide +kernel), List.mem_of_getElem? (i := 599) (by decide +kernel)⟩
theorem lw_p17 : lw_okq (⟨"RefusePlanner$Tour", "unloadOnTheWayTo", "(I)V"⟩, 8) := ⟨⟨by decide +kernel, by decide +kernel⟩, List.mem_of_getElem? (i := 560) (by decide +kernel), List.mem_of_getElem? (i := 603) (by decide +kernel), List.mem_of_getElem? (i := 604) (by decide +kernel)⟩
theorem lw_p18 : lw_okq (⟨"RefusePlannerModel", "fail", "(I)I"⟩, 21) := ⟨⟨by decide +kernel, by decide +kernel⟩, List.mem_of_getElem? (i := 652) (by decide +kernel), List.mem_of_getElem? (i := 730) (by decide +kernel), List.mem_of_getElem? (i := 731) (by decide +kernel)⟩
theorem lw_p19 : lw_okq (⟨"RefusePlannerModel", "isPlace", "(I)Z"⟩, 21) := ⟨⟨by decide +kernel, by decide +kernel⟩, List.mem_of_getElem? (i := 652) (by decide +kernel), List.mem_of_getElem? (i := 738) (by decide +kernel), List.mem_of_getElem? (i := 739) (by decide +kernel)⟩
theorem lw_p20 : lw_okq (⟨"RefusePlannerModel", "drive", "(II)I"⟩, 21) := ⟨⟨by decide +kernel, by decide +kernel⟩, List.mem_of_getElem? (i := 652) (by decide +kernel), List.mem_of_getElem? (i := 745) (by decide +kernel), List.mem_of_getElem? (i := 746) (by decide +kernel)⟩
theorem lw_p21 : lw_okq (⟨"RefusePlannerModel", "workday", "()I"⟩, 21) := ⟨⟨by decide +kernel, by decide +kernel⟩, List.mem_of_getElem? (i := 652) (by decide +kernel), List.mem_of_getElem? (i := 776) (by decide +kernel), List.mem_of_getElem? (i := 777) (by decide +kernel)⟩
theorem lw_p22 : lw_okq (⟨"RefusePlannerModel", "isBin", "(I)Z"⟩, 21) := ⟨⟨by decide +kernel, by decide +kernel⟩, List.mem_of_getElem? (i := 652) (by decide +kernel), List.mem_of_getElem? (i := 788) (by decide +kernel), List.mem_of_getElem? (i := 789) (by decide +kernel)⟩
theorem lw_p23 : lw_okq (⟨"RefusePlannerModel", "told", "(II)I"⟩, 21) := ⟨⟨by decide +kernel, by decide +kernel⟩, List.mem_of_getElem? (i := 652) (by decide +kernel), List.mem_of_getElem? (i := 804) (by decide +kernel), List.mem_of_getElem? (i := 805) (by decide +kernel)⟩
theorem lw_p24 : lw_okq (⟨"RefusePlannerModel", "expectedOn", "(II)I"⟩, 21) := ⟨⟨by decide +kernel, by decide +kernel⟩, List.mem_of_getElem? (i := 652) (by decide +kernel), List.mem_of_getElem? (i := 812) (by decide +kernel), List.mem_of_getElem? (i := 813) (by decide +kernel)⟩
theorem lw_p25 : lw_okq (⟨"RefusePlannerModel", "makePlan", "(I)V"⟩, 21) := ⟨⟨by decide +kernel, by decide +kernel⟩, List.mem_of_getElem? (i := 652) (by decide +kernel), List.mem_of_getElem? (i := 825) (by decide +kernel), List.mem_of_getElem? (i := 826) (by decide +kernel)⟩
theorem lw_p26 : lw_okq (⟨"RefusePlannerModel", "isDue", "(I)Z"⟩, 21) := ⟨⟨by decide +kernel, by decide +kernel⟩, List.mem_of_getElem? (i := 652) (by decide +kernel), List.mem_of_getElem? (i := 829) (by decide +kernel), List.mem_of_getElem? (i := 830) (by decide +kernel)⟩
theorem lw_p27 : lw_okq (⟨"RefusePlannerModel", "tour", "(IIZ)I"⟩, 21) := ⟨⟨by decide +kernel, by decide +kernel⟩, List.mem_of_getElem? (i := 652) (by decide +kernel), List.mem_of_getElem? (i := 844) (by decide +kernel), List.mem_of_getElem? (i := 845) (by decide +kernel)⟩
theorem lw_p28 : lw_okq (⟨"RefusePlannerModel", "tipFor", "(III)I"⟩, 21) := ⟨⟨by decide +kernel, by decide +kernel⟩, List.mem_of_getElem? (i := 652) (by decide +kernel), List.mem_of_getElem? (i := 848) (by decide +kernel), List.mem_of_getElem? (i := 849) (by decide +kernel)⟩
theorem lw_p29 : lw_okq (⟨"RefusePlannerModel", "empty", "(II)V"⟩, 21) := ⟨⟨by decide +kernel, by decide +kernel⟩, List.mem_of_getElem? (i := 652) (by decide +kernel), List.mem_of_getElem? (i := 852) (by decide +kernel), List.mem_of_getElem? (i := 853) (by decide +kernel)⟩
def lw_privs_2 : List (MethodName × Nat) := [(⟨"RefusePlanner$Tour", "driveTo", "(I)V"⟩, 8), (⟨"RefusePlanner$Tour", "unloadOnTheWayTo", "(I)V"⟩, 8), (⟨"RefusePlannerModel", "fail", "(I)I"⟩, 21), (⟨"RefusePlannerModel", "isPlace", "(I)Z"⟩, 21), (⟨"RefusePlannerModel", "drive", "(II)I"⟩, 21), (⟨"RefusePlannerModel", "workday", "()I"⟩, 21), (⟨"RefusePlannerModel", "isBin", "(I)Z"⟩, 21), (⟨"RefusePlannerModel", "told", "(II)I"⟩, 21), (⟨"RefusePlannerModel", "expectedOn", "(II)I"⟩, 21), (⟨"RefusePlannerModel", "makePlan", "(I)V"⟩, 21), (⟨"RefusePlannerModel", "isDue", "(I)Z"⟩, 21), (⟨"RefusePlannerModel", "tour", "(IIZ)I"⟩, 21), (⟨"RefusePlannerModel", "tipFor", "(III)I"⟩, 21), (⟨"RefusePlannerModel", "empty", "(II)V"⟩, 21)]
theorem lw_r2 : ∀ q ∈ lw_privs_2, lw_okq q := List.forall_mem_cons.mpr ⟨lw_p16, List.forall_mem_cons.mpr ⟨lw_p17, List.forall_mem_cons.mpr ⟨lw_p18, List.forall_mem_cons.mpr ⟨lw_p19, List.forall_mem_cons.mpr ⟨lw_p20, List.forall_mem_cons.mpr ⟨lw_p21, List.forall_mem_cons.mpr ⟨lw_p22, List.forall_mem_cons.mpr ⟨lw_p23, List.forall_mem_cons.mpr ⟨lw_p24, List.forall_mem_cons.mpr ⟨lw_p25, List.forall_mem_cons.mpr ⟨lw_p26, List.forall_mem_cons.mpr ⟨lw_p27, List.forall_mem_cons.mpr ⟨lw_p28, List.forall_mem_cons.mpr ⟨lw_p29, fun _ h => absurd h List.not_mem_nil⟩⟩⟩⟩⟩⟩⟩⟩⟩⟩⟩⟩⟩⟩
def lw_privs : List (MethodName × Nat) := lw_privs_1 ++ (lw_privs_2)
def lw_tbl : List Cond := k2_sels lw_privs ++ tables_1
theorem lw_privs_ok : ∀ q ∈ lw_privs, lw_okq q := by
  show ∀ q ∈ lw_privs_1 ++ (lw_privs_2), lw_okq q
  exact List.forall_mem_append.mpr ⟨lw_r1, lw_r2⟩
/-- the streams that the claim lets the run draw from -/
abbrev lw_cs : List Choice := [Jvm.Choice.named "NaN.bits"]
theorem lw_bits : nanBits ∈ lw_cs := by first | decide | exact List.mem_cons_self | simp [lw_cs, nanBits]
-- ===== end of PART A; then your names; then what follows =====
end
section
/-! ===== BEGIN words of one list among another's, by their places ===== -/
theorem goodIn_r {big : List Cond} (ws : List Cond) (ps : List Nat) (hp : ws = ps.filterMap (fun i => big[i]?)) (h : ws.all goodWord = true) : GoodIn big ws := by
  intro w hw
  have h1 := List.all_eq_true.mp h w hw
  rw [hp] at hw
  obtain ⟨i, -, hi⟩ := List.mem_filterMap.mp hw
  have hm : w ∈ big := by first | exact List.mem_of_getElem? hi | exact List.getElem?_mem hi
  exact ⟨hm, good_of_word h1⟩
theorem goodIn_app {big a b : List Cond} (ha : GoodIn big a) (hb : GoodIn big b) : GoodIn big (a ++ b) := fun w h => (List.mem_append.mp h).elim (ha w) (hb w)
theorem goodIn_ca {big a b : List Cond} {c : Cond} (ha : GoodIn big (c :: a)) (hb : GoodIn big b) : GoodIn big (c :: (a ++ b)) := fun w h => (List.mem_cons.mp h).elim (fun e => ha w (List.mem_cons.mpr (Or.inl e))) (fun h => (List.mem_append.mp h).elim (fun h => ha w (List.mem_cons.mpr (Or.inr h))) (hb w))
theorem goodIn_sub {big ws : List Cond} (hm : ∀ w ∈ ws, w ∈ big) (h : ws.all goodWord = true) : GoodIn big ws := fun w hw => ⟨hm w hw, good_of_word (List.all_eq_true.mp h w hw)⟩
/-! ===== END ===== -/

/-! ===== BEGIN exceptions that leave a method, and their catching by the caller (launches without stack traces) ===== -/
section VXA
/-! The laws vx_back, vx_callV, vx_callS, vx_callSW, vx_throw0, vx_throwS follow proofs of the library, with one case more: JvmDerived/Free/Laws.lean (Back.of_free), Shelf42/LK1.lean (callV, callS), Shelf/KitTraced.lean (throwNew0V, throwNewS). -/
/-- where a method has thrown q: the class by its name, the cell, what was written, the world -/
def vx_T (XC : String → State → State → Prop) (st : State) (q : Addr) (t : State) (mc ms : Nat) (free : Addr → Prop) : Prop :=
  ∃ (E : String) (ce : Cell) (L : List Loc), XC E st t ∧ t.heap[q]? = some ce ∧ ce.vm = .none ∧ st.vm.findClass E = some ce.cls ∧ st.WarmedH t.vm ∧ st.sameButNew ({ t with vm := st.vm } : State) L mc ms ∧ ∀ z ∈ L, free z.base
def vx_Q (Qc : Array Value → State → Outcome → State → Prop) (XC : String → State → State → Prop) (mc ms : Nat) (free : Addr → Prop) : Array Value → State → Outcome → State → Prop := fun a st o t =>
  (Qc a st o t ∧ ∃ L, FrameEnd st o t L mc ms ∧ ∀ q ∈ L, free q.base) ∨ ∃ q, o = .threw q ∧ vx_T XC st q t mc ms free
/-- a callee that returns or throws -/
def vx_Met (l : Launch) (y : MethodName) (ws : List Cond) (rm : Room) (Pc : Array Value → State → Prop) (Qc : Array Value → State → Outcome → State → Prop) (XC : String → State → State → Prop) (mc ms : Nat) (free : Addr → Prop) : Prop :=
  MetFree l y (headSpec ws rm) Pc (fun _ _ _ _ _ => True) (vx_Q Qc XC mc ms free)
def vx_Post (XC : String → State → State → Prop) (mc ms : Nat) (free : Addr → Prop) : Pt → Array Value → Addr → Pt → Prop := fun A a q B =>
  ∃ (g : JFrame) (mk : MethodId) (t : State) (L : List Loc) (E : String) (ce : Cell), B.U.heap = t.heap ∧ B.U.vm = t.vm ∧ XC E (A.U.calling g mk a) t ∧ t.heap[q]? = some ce ∧ ce.vm = .none ∧ A.U.vm.findClass E = some ce.cls ∧ B.locs = A.locs ++ L ∧ (∀ z ∈ L, free z.base) ∧ B.cells = A.cells + mc ∧ B.slots = A.slots + ms
def vx_Back (l : Launch) (R : Room) (p : Program) (e : Env) (below : List Frame) (s : State) (sargs : Array Value) (y : MethodName) (len W9 : Nat)
    (Pre : Pt → Array Value → Prop) (Post : Pt → Array Value → Option Value → Pt → Prop) (PostX : Pt → Array Value → Addr → Pt → Prop) : Prop :=
  ∀ (m : MethodId) (meth : Method) (c : Code) (A : Pt) (g : JFrame) (ig : Instr) (mk : MethodId) (a : Array Value),
    Stand p l e R s m sargs below meth c A.U A.locs A.cells A.slots → g.method = m → g.locals.size = c.maxLocals → decode c.code g.pc = .ok (ig, len) →
    2 * g.monitorRoom + (g.stack.map fun v => v.category).sum ≤ W9 → A.U.methodNamed? y = some mk → Pre A a →
    (∃ (v : Option Value) (B : Pt), Stand p l e R s m sargs below meth c B.U B.locs B.cells B.slots ∧ Post A a v B ∧
      Steps p.tables e below (doInvoke e (A.U.setTop g) [] mk a).1 (B.U.setTop { g with pc := g.pc + len, stack := v.toList ++ g.stack })) ∨
    (∃ (q : Addr) (B : Pt), Stand p l e R s m sargs below meth c B.U B.locs B.cells B.slots ∧ PostX A a q B ∧
      Steps p.tables e below (doInvoke e (A.U.setTop g) [] mk a).1 ((B.U.setTop g).pushFrame (.throwing q)))
section Payer
variable {l : Launch} {R : Room} {p : Program} {e : Env} {below : List Frame} {s : State} {sargs : Array Value} {y : MethodName} {len W9 : Nat}
theorem vx_back {ws : List Cond} {rm : Room} {Pc : Array Value → State → Prop} {Qc : Array Value → State → Outcome → State → Prop} {XC : String → State → State → Prop} {mc ms : Nat} {free : Addr → Prop} {bytes : ByteArray} {maxL : Nat} {ret : Option FieldType}
    (hM : vx_Met l y ws rm Pc Qc XC mc ms free) (hblind : FrameBlind Pc) (hrc : rm.cells = mc) (hrs : rm.slots = ms)
    (hframes : rm.frames + 1 ≤ R.frames) (hlocals : W9 + (maxL + 11) + rm.locals ≤ R.locals)
    (hws : ∀ w ∈ ws, ∀ a' U, s.WarmedH U.vm → w.before a' U = true) (hcode : Cond.code y bytes maxL ret ∈ ws) (hinit : ∀ a' U, s.WarmedH U.vm → (Cond.initialized y.cls).before a' U = true) :
    vx_Back l R p e below s sargs y len W9 (PreOf R mc ms Pc) (PostOf Qc mc ms free) (vx_Post XC mc ms free) := by
  intro m meth c A g ig mk a X hg hsize hdg hW hn hp
  have h1 : (headSpec ws rm).pre.before a A.U = true := atoms_intro fun w hw => hws w hw _ _ X.warmed
  have h2 : (Cond.code y bytes maxL ret).before a A.U = true := hws _ hcode _ _ X.warmed
  have h3 : (Cond.initialized y.cls).before a A.U = true := hinit _ _ X.warmed
  have h4 : A.cells + (headSpec ws rm).room.cells ≤ R.cells := by rw [show (headSpec ws rm).room.cells = mc from hrc]; exact hp.1
  have h5 : A.slots + (headSpec ws rm).room.slots ≤ R.slots := by rw [show (headSpec ws rm).room.slots = ms from hrs]; exact hp.2.1
  have hPc : Pc a (A.U.calling g mk a) := hblind _ _ _ _ hp.2.2
  obtain ⟨U, Ls, c0, s0⟩ := A
  dsimp only [Pt.U, Pt.locs, Pt.cells, Pt.slots] at h1 h2 h3 h4 h5 X hn hPc ⊢
  obtain ⟨methY, cY, hmY, hcY, -, hlY, -, -, -, -⟩ := Cond.code_spec hn h2
  obtain ⟨kY, hkY, -⟩ := className_of_methodNamed hn
  have hinitY : kY.init = .initialized := Cond.initialized_spec (findClass_of_methodNamed hn) hkY h3
  have h : At U g.method c below := by rw [hg]; exact X.here
  have hlocals9 : W9 + (maxL + 11) + (headSpec ws rm).room.locals ≤ R.locals := hlocals
  have happ : (headSpec ws rm).appliesLoose y e.platform (U.calling g mk a) = true :=
    Spec.appliesLoose_calling (g := g) h hdg hn hkY hinitY
      (X.room_calling (g := g) (R' := (headSpec ws rm).room) hsize hmY hcY hframes (by rw [hlY]; omega) h4 h5) h1
  obtain ⟨mid, hmid⟩ := h.above
  have hfr : (U.setTop g).frames = (.java g :: mid) ++ below := by rw [State.frames_setTop' g h.top, hmid]; rfl
  obtain ⟨o, s₂, hsteps, -, hend, hq⟩ := Steps.callFree hM p X.admits X.cas X.clock (acts := []) hfr happ hPc trivial
  have hq' : vx_Q Qc XC mc ms free a (U.calling g mk a) o s₂ := hq
  rw [State.frames_setTop' g h.top] at hend
  obtain ⟨g₀, hg0⟩ := Option.isSome_iff_exists.mp h.top
  obtain ⟨r, hr⟩ := State.topJava?_eq_some.mp hg0
  have hr' : (({ U with heap := s₂.heap, slotsUsed := s₂.slotsUsed } : State).setVm s₂.vm).frames = .java g₀ :: r := hr
  rcases hq' with ⟨hqc, L, hfe, hL⟩ | ⟨q, rfl, E, ce, L, hx, hce, hcv, hcl, hW₂, hsm, hL⟩
  · obtain ⟨⟨v, rfl⟩, hW₂, e2, q2, q3, q4, q5, q6⟩ := id hfe
    have e3 : s₂ = ({ (U.calling g mk a).setFrames s₂.frames with heap := s₂.heap, slotsUsed := s₂.slotsUsed } : State).setVm s₂.vm := by
      have : s₂ = ({ s₂ with vm := (U.calling g mk a).vm } : State).setVm s₂.vm := rfl
      rw [e2] at this
      exact this
    obtain ⟨c₂, i₂, len₂, hc₂, hd₂, hf₂⟩ := hend
    have hW' : U.WarmedH s₂.vm := hW₂
    have hcc : c₂ = c := by
      have h1 : s₂.code? g.method = U.code? g.method := by
        rw [State.code?_eq, State.code?_eq, hW'.alike.method?]
      exact Option.some.inj (hc₂.symm.trans (h1.trans h.code))
    subst hcc
    have hlen : len₂ = len := by rw [hdg] at hd₂; cases hd₂; rfl
    subst hlen
    have hs₂ : s₂ = (({ U with heap := s₂.heap, slotsUsed := s₂.slotsUsed } : State).setVm s₂.vm).setTop { g with pc := g.pc + len₂, stack := v.toList ++ g.stack } := by
      refine e3.trans ?_
      rw [hf₂, State.calling_eq h.top, State.setFrames_setFrames, State.setTop_of_frames _ hr', hr]
      rfl
    have hsame : U.sameButNew ({ U with heap := s₂.heap, slotsUsed := s₂.slotsUsed } : State) L mc ms := by
      refine ⟨?_, q2, q3, q4, q5, q6⟩
      obtain ⟨t, ht, -⟩ := State.frames_cons hr
      show ({ U with heap := s₂.heap, slotsUsed := s₂.slotsUsed } : State) = { U.setFrames U.frames with heap := s₂.heap, slotsUsed := s₂.slotsUsed }
      rw [State.setFrames_self ht]
    subst hg
    refine Or.inl ⟨v, ⟨(({ U with heap := s₂.heap, slotsUsed := s₂.slotsUsed } : State).setVm s₂.vm), Ls ++ L, c0 + mc, s0 + ms⟩,
      ⟨X.admits, X.cas, X.clock, X.frames, X.room, X.hears, X.method, X.code, (X.here.setHeapUsed s₂.heap s₂.slotsUsed).setVm hW'.alike, X.tail, State.WarmedH.trans X.warmed hW', X.limits, X.bytes, X.same.trans (hsame.setVm s.vm)⟩,
      ⟨g, mk, s₂, L, rfl, rfl, hqc, rfl, hL, rfl, rfl⟩, ?_⟩
    show Steps p.tables e below _ ((({ U with heap := s₂.heap, slotsUsed := s₂.slotsUsed } : State).setVm s₂.vm).setTop { g with pc := g.pc + len₂, stack := v.toList ++ g.stack })
    rw [← hs₂]
    exact hsteps
  · obtain ⟨e2, q2, q3, q4, q5, q6⟩ := id hsm
    have e3 : s₂ = ({ (U.calling g mk a).setFrames s₂.frames with heap := s₂.heap, slotsUsed := s₂.slotsUsed } : State).setVm s₂.vm := by
      have : s₂ = ({ s₂ with vm := (U.calling g mk a).vm } : State).setVm s₂.vm := rfl
      rw [e2] at this
      exact this
    have hf₂ : s₂.frames = .throwing q :: .java g :: U.frames.tail := hend
    have hW' : U.WarmedH s₂.vm := hW₂
    have hs₂ : s₂ = ((({ U with heap := s₂.heap, slotsUsed := s₂.slotsUsed } : State).setVm s₂.vm).setTop g).pushFrame (.throwing q) := by
      refine e3.trans ?_
      rw [hf₂, State.calling_eq h.top, State.setFrames_setFrames, State.pushFrame, State.frames_setTop _ hr', State.setTop_of_frames _ hr', State.setFrames_setFrames, hr]
      rfl
    have hsame : U.sameButNew ({ U with heap := s₂.heap, slotsUsed := s₂.slotsUsed } : State) L mc ms := by
      refine ⟨?_, q2, q3, q4, q5, q6⟩
      obtain ⟨t, ht, -⟩ := State.frames_cons hr
      show ({ U with heap := s₂.heap, slotsUsed := s₂.slotsUsed } : State) = { U.setFrames U.frames with heap := s₂.heap, slotsUsed := s₂.slotsUsed }
      rw [State.setFrames_self ht]
    subst hg
    refine Or.inr ⟨q, ⟨(({ U with heap := s₂.heap, slotsUsed := s₂.slotsUsed } : State).setVm s₂.vm), Ls ++ L, c0 + mc, s0 + ms⟩,
      ⟨X.admits, X.cas, X.clock, X.frames, X.room, X.hears, X.method, X.code, (X.here.setHeapUsed s₂.heap s₂.slotsUsed).setVm hW'.alike, X.tail, State.WarmedH.trans X.warmed hW', X.limits, X.bytes, X.same.trans (hsame.setVm s.vm)⟩,
      ⟨g, mk, s₂, L, E, ce, rfl, rfl, hx, hce, hcv, hcl, rfl, hL, rfl, rfl⟩, ?_⟩
    show Steps p.tables e below _ (((({ U with heap := s₂.heap, slotsUsed := s₂.slotsUsed } : State).setVm s₂.vm).setTop g).pushFrame (.throwing q))
    rw [← hs₂]
    exact hsteps
end Payer
section Calls
variable {p : Program} {l : Launch} {e : Env} {R : Room} {s : State} {m : MethodId} {args : Array Value} {below : List Frame} {meth : Method} {c : Code} {T : State} {locs : List Loc} {cells slots : Nat}
theorem vx_callV (X : Stand p l e R s m args below meth c T locs cells slots) (hexec : p.tables.exec = Jvm.exec) {own C : String} {index : Nat} {y : MethodName} {bytes : ByteArray} {maxL : Nat} {ret : Option FieldType}
    (hown : s.vm.findClass own = some m.cls) (hlink : (Cond.methodLink own index y).before args s = true) (hinst : (Cond.instanceMethod y).before args s = true) (hsel : (Cond.selects C y y).before args s = true)
    (hcode : (Cond.code y bytes maxL ret).before args s = true) (hy : y.cls ≠ "java/lang/invoke/MethodHandle" ∧ y.cls ≠ "java/lang/invoke/VarHandle")
    {W9 : Nat} {Pre : Pt → Array Value → Prop} {Post : Pt → Array Value → Option Value → Pt → Prop} {PostX : Pt → Array Value → Addr → Pt → Prop} (hK : vx_Back l R p e below s args y 3 W9 Pre Post PostX)
    {b : Addr} {cellB : Cell} (hcell : T.heap[b]? = some cellB) (hobj : cellB.vm.isStatics = false) (hcls : s.vm.findClass C = some cellB.cls)
    {g : JFrame} (hg : g.method = m) (hsize : g.locals.size = c.maxLocals) {argsL rest : List Value} (hlen : ∀ sig, parseMethodDescriptor y.desc = some sig → argsL.length = sig.parameters.length)
    (hstack : g.stack = argsL.reverse ++ .ref b :: rest) (hW : 2 * g.monitorRoom + (rest.map fun v => v.category).sum ≤ W9) (hdg : decode c.code g.pc = .ok (.invokevirtual index, 3))
    (hpre : ∀ vm₁, s.WarmedH vm₁ → Pre ⟨T.setVm vm₁, locs, cells, slots⟩ (Value.ref b :: argsL).toArray) :
    (∃ (v : Option Value) (vm₁ : Vm) (B : Pt), s.WarmedH vm₁ ∧ Stand p l e R s m args below meth c B.U B.locs B.cells B.slots ∧ Post ⟨T.setVm vm₁, locs, cells, slots⟩ (Value.ref b :: argsL).toArray v B ∧
      ∀ target, Steps p.tables e below (B.U.setTop { g with pc := g.pc + 3, stack := v.toList ++ rest }) target → Steps p.tables e below (T.setTop g) target) ∨
    (∃ (q : Addr) (vm₁ : Vm) (B : Pt), s.WarmedH vm₁ ∧ Stand p l e R s m args below meth c B.U B.locs B.cells B.slots ∧ PostX ⟨T.setVm vm₁, locs, cells, slots⟩ (Value.ref b :: argsL).toArray q B ∧
      Steps p.tables e below (T.setTop g) ((B.U.setTop { g with stack := rest }).pushFrame (.throwing q))) := by
  obtain ⟨mk, methM, hnamed, hmethM, hstM, habM⟩ := Cond.instanceMethod_spec hinst
  obtain ⟨methM', cM, hmethM', -, -, -, -, -, -, hsigM⟩ := Cond.code_spec hnamed hcode
  cases hmethM.symm.trans hmethM'
  obtain ⟨c2, r2, m2, q1, q2, q3, q4, kP, hkP, hkPi⟩ := Cond.selects_spec hsel
  cases hcls.symm.trans q1
  cases (State.methodFound?_of_named hnamed hy).symm.trans q2
  cases hnamed.symm.trans q3
  have hselP : selectMethod e.platform s.vm cellB.cls mk = .method mk := by rw [Launch.admits_selectMethod X.admits]; exact q4
  obtain ⟨vm₁, X₁, hstep₁⟩ := X.invokevirtual hexec hown hlink hnamed hmethM hstM hkP hkPi hy (a := b) (cell := cellB) hcell
    (fun z h => by rw [h] at hobj; cases hobj) hselP hmethM habM hkP hkPi (g := g) hg (argsL := argsL) (rest := rest) (hlen _ hsigM) hstack hdg
  rcases hK m meth c ⟨T.setVm vm₁, locs, cells, slots⟩ { g with stack := rest } (.invokevirtual index) mk (Value.ref b :: argsL).toArray X₁ hg hsize hdg hW (X₁.named hnamed) (hpre vm₁ X₁.warmed) with ⟨v, B, X', hpost, hsteps⟩ | ⟨q, B, X', hpost, hsteps⟩
  · exact Or.inl ⟨v, vm₁, B, X₁.warmed, X', hpost, fun target h => hstep₁ _ fun acts => by rw [doInvoke_state]; exact hsteps.trans h⟩
  · exact Or.inr ⟨q, vm₁, B, X₁.warmed, X', hpost, hstep₁ _ fun acts => by rw [doInvoke_state]; exact hsteps⟩
theorem vx_callS (X : Stand p l e R s m args below meth c T locs cells slots) (hexec : p.tables.exec = Jvm.exec) {own : String} {index : Nat} {y : MethodName} {bytes : ByteArray} {maxL : Nat} {ret : Option FieldType}
    (hown : s.vm.findClass own = some m.cls) (hlink : (Cond.methodLink own index y).before args s = true) (hstat : (Cond.static y).before args s = true) (hinit : (Cond.initialized y.cls).before args s = true)
    (hcode : (Cond.code y bytes maxL ret).before args s = true) (hy : y.cls ≠ "java/lang/invoke/MethodHandle" ∧ y.cls ≠ "java/lang/invoke/VarHandle")
    {W9 : Nat} {Pre : Pt → Array Value → Prop} {Post : Pt → Array Value → Option Value → Pt → Prop} {PostX : Pt → Array Value → Addr → Pt → Prop} (hK : vx_Back l R p e below s args y 3 W9 Pre Post PostX)
    {g : JFrame} (hg : g.method = m) (hsize : g.locals.size = c.maxLocals) {argsL rest : List Value} (hlen : ∀ sig, parseMethodDescriptor y.desc = some sig → argsL.length = sig.parameters.length)
    (hstack : g.stack = argsL.reverse ++ rest) (hW : 2 * g.monitorRoom + (rest.map fun v => v.category).sum ≤ W9) (hdg : decode c.code g.pc = .ok (.invokestatic index, 3))
    (hpre : ∀ vm₁, s.WarmedH vm₁ → Pre ⟨T.setVm vm₁, locs, cells, slots⟩ argsL.toArray) :
    (∃ (v : Option Value) (vm₁ : Vm) (B : Pt), s.WarmedH vm₁ ∧ Stand p l e R s m args below meth c B.U B.locs B.cells B.slots ∧ Post ⟨T.setVm vm₁, locs, cells, slots⟩ argsL.toArray v B ∧
      ∀ target, Steps p.tables e below (B.U.setTop { g with pc := g.pc + 3, stack := v.toList ++ rest }) target → Steps p.tables e below (T.setTop g) target) ∨
    (∃ (q : Addr) (vm₁ : Vm) (B : Pt), s.WarmedH vm₁ ∧ Stand p l e R s m args below meth c B.U B.locs B.cells B.slots ∧ PostX ⟨T.setVm vm₁, locs, cells, slots⟩ argsL.toArray q B ∧
      Steps p.tables e below (T.setTop g) ((B.U.setTop { g with stack := rest }).pushFrame (.throwing q))) := by
  obtain ⟨mk, hnamed⟩ := Cond.code_named hcode
  obtain ⟨methM, cM, hmethM, -, -, -, -, -, -, hsigM⟩ := Cond.code_spec hnamed hcode
  have hstatic : methM.isStatic = true := Cond.static_spec hnamed hmethM hstat
  obtain ⟨kP, hkP, -⟩ := className_of_methodNamed hnamed
  have hinitP : kP.init = .initialized := Cond.initialized_spec (findClass_of_methodNamed hnamed) hkP hinit
  obtain ⟨vm₁, X₁, hstep₁⟩ := X.invokestatic hexec hown hlink hnamed hmethM hstatic hkP hinitP hy (g := g) hg (argsL := argsL) (rest := rest) (hlen _ hsigM) hstack hdg
  rcases hK m meth c ⟨T.setVm vm₁, locs, cells, slots⟩ { g with stack := rest } (.invokestatic index) mk argsL.toArray X₁ hg hsize hdg hW (X₁.named hnamed) (hpre vm₁ X₁.warmed) with ⟨v, B, X', hpost, hsteps⟩ | ⟨q, B, X', hpost, hsteps⟩
  · exact Or.inl ⟨v, vm₁, B, X₁.warmed, X', hpost, fun target h => hstep₁ _ fun acts => by rw [doInvoke_state]; exact hsteps.trans h⟩
  · exact Or.inr ⟨q, vm₁, B, X₁.warmed, X', hpost, hstep₁ _ fun acts => by rw [doInvoke_state]; exact hsteps⟩
end Calls
theorem vx_cls {s : State} {T : State} {vm₁ : Vm} {E : String} {k : ClassId} (hW : s.WarmedH vm₁) (h : (T.setVm vm₁).vm.findClass E = some k) : s.vm.findClass E = some k := by
  have h1 : vm₁.findClass E = some k := h
  rw [hW.alike.findClass] at h1
  exact h1
/-- the method's frame g, with q thrown over it -/
def vx_W (p : Program) (l : Launch) (e : Env) (R : Room) (s : State) (m : MethodId) (args : Array Value) (below : List Frame) (meth : Method) (c : Code) (H : Heap) (locs : List Loc) (cells slots : Nat) (Q : State → Prop) (g : JFrame) (q : Addr) : Prop :=
  ∀ T : State, T.heap = H → Stand p l e R s m args below meth c T locs cells slots → ∃ t, Steps p.tables e below ((T.setTop g).pushFrame (.throwing q)) t ∧ Q t
def vx_Run (p : Program) (l : Launch) (e : Env) (R : Room) (s : State) (m : MethodId) (args : Array Value) (below : List Frame) (meth : Method) (c : Code) (H : Heap) (locs : List Loc) (cells slots mc ms : Nat) (g : JFrame) (rest : List Value) (Qa : State → Outcome → State → Prop) (XC : String → State → State → Prop) (free : Addr → Prop) : Prop :=
  ∀ T : State, T.heap = H → Stand p l e R s m args below meth c T locs cells slots →
    (∃ (v : Option Value) (st₀ t T' : State) (L : List Loc), st₀.heap = H ∧ Stand p l e R s m args below meth c T' (locs ++ L) (cells + mc) (slots + ms) ∧ (∀ q ∈ L, free q.base) ∧ T'.heap = t.heap ∧ T'.vm = t.vm ∧ Qa st₀ (.returned v) t ∧
      Goes p e below T g T' { g with pc := g.pc + 3, stack := v.toList ++ rest }) ∨
    (∃ (q : Addr) (st₀ t T' : State) (L : List Loc) (E : String) (ce : Cell), st₀.heap = H ∧ Stand p l e R s m args below meth c T' (locs ++ L) (cells + mc) (slots + ms) ∧ (∀ z ∈ L, free z.base) ∧ T'.heap = t.heap ∧ T'.vm = t.vm ∧ XC E st₀ t ∧ t.heap[q]? = some ce ∧ ce.vm = .none ∧ s.vm.findClass E = some ce.cls ∧
      Steps p.tables e below (T.setTop g) ((T'.setTop { g with stack := rest }).pushFrame (.throwing q)))
def vx_X {S : Type} (px : S → Prop) (B : String → S → State → Prop) (A : Nat → Prop) : String → State → State → Prop := fun E st t => ∃ u : S, px u ∧ B E u t ∧ va_F A st t
section Runs
variable {p : Program} {l : Launch} {e : Env} {R : Room} {s : State} {m : MethodId} {args : Array Value} {below : List Frame} {meth : Method} {c : Code} {H : Heap} {locs : List Loc} {cells slots : Nat}
variable {y : MethodName} {bytes cc : ByteArray} {maxL nL mc ms n index : Nat} {ret : Option FieldType} {ws : List Cond} {rm : Room} {Pc : Array Value → State → Prop} {Qc : Array Value → State → Outcome → State → Prop} {XC : String → State → State → Prop} {free : Addr → Prop} {Ts : List Cond} {own C : String} {b : Addr} {As rest : List Value} {g : JFrame}
theorem vx_callBack (cb : CallB R s args own index y bytes maxL ret ws rm mc ms n) (hM : vx_Met l y ws rm Pc Qc XC mc ms free) (hbl : FrameBlind Pc) : vx_Back l R p e below s args y 3 8 (PreOf R mc ms Pc) (PostOf Qc mc ms free) (vx_Post XC mc ms free) := by
  obtain ⟨hrc, hrs, hfr, hlo, hws, hcw, -, hini, -⟩ := cb
  exact vx_back (bytes := bytes) (maxL := maxL) (ret := ret) hM hbl hrc hrs hfr hlo hws hcw (fun a' U hW => word_at hW (Or.inl (by first | rfl | simp [Cond.onTables, Cond.keeps, Cond.steady])) hini)
theorem vx_runV (S : CallFix p m c cc nL s args Ts own) (hM : vx_Met l y ws rm Pc Qc XC mc ms free) (cw : CallW R s args own C index y bytes maxL ret ws rm mc ms n) (hp : PreV s H C b Pc As)
    (hg : g.method = m) (hn : As.length = n) (hsize : g.locals.size = nL) (hstack : g.stack = As.reverse ++ .ref b :: rest) (hW : 2 * g.monitorRoom + (rest.map fun v => v.category).sum ≤ 8) (hdg : decode cc g.pc = .ok (.invokevirtual index, 3)) (hf : cells + mc ≤ R.cells ∧ slots + ms ≤ R.slots) :
    vx_Run p l e R s m args below meth c H locs cells slots mc ms g rest (Qc (Value.ref b :: As).toArray) XC free := by
  have hK : vx_Back l R p e below s args y 3 8 (PreOf R mc ms Pc) (PostOf Qc mc ms free) (vx_Post XC mc ms free) := vx_callBack cw.1 hM hp.1
  obtain ⟨⟨-, -, -, -, -, -, hcode, -, hy, hlen, hl⟩, hin, hse⟩ := cw
  obtain ⟨hx, hb, hml, ho, -⟩ := S
  obtain ⟨-, ⟨cellB, hcB, hoB, hclB⟩, hPc⟩ := hp
  intro T hT X
  rcases vx_callV X hx (C := C) (bytes := bytes) (maxL := maxL) (ret := ret) ho hl hin hse hcode hy hK (by rw [hT]; exact hcB) hoB hclB hg (hsize.trans hml.symm) (argsL := As) (rest := rest) (fun sig h => hn.trans (hlen sig h)) hstack hW (by rw [hb]; exact hdg)
    (fun vm₁ hW₁ => ⟨hf.1, hf.2, hPc (T.setVm vm₁) hT hW₁⟩) with ⟨v, vm₁, ⟨U', l2, c2, s2⟩, hW₁, X', ⟨g', mk, t, L, e1, e2, hq, h1, hL, h2, h3⟩, st⟩ | ⟨q, vm₁, ⟨U', l2, c2, s2⟩, hW₁, X', ⟨g', mk, t, L, E, ce, e1, e2, hq, hce, hcv, hcl, h1, hL, h2, h3⟩, st⟩
  · dsimp only [Pt.U, Pt.locs, Pt.cells, Pt.slots] at X' e1 e2 h1 h2 h3 st
    subst h1; subst h2; subst h3
    exact Or.inl ⟨v, (T.setVm vm₁).calling g' mk (Value.ref b :: As).toArray, t, U', L, hT, X', hL, e1, e2, hq, st⟩
  · dsimp only [Pt.U, Pt.locs, Pt.cells, Pt.slots] at X' e1 e2 h1 h2 h3 st hcl
    subst h1; subst h2; subst h3
    exact Or.inr ⟨q, (T.setVm vm₁).calling g' mk (Value.ref b :: As).toArray, t, U', L, E, ce, hT, X', hL, e1, e2, hq, hce, hcv, vx_cls hW₁ hcl, st⟩
theorem vx_runS (S : CallFix p m c cc nL s args Ts own) (hM : vx_Met l y ws rm Pc Qc XC mc ms free) (cw : CallB R s args own index y bytes maxL ret ws rm mc ms n ∧ (Cond.static y).before args s = true) (hp : PreS s H Pc As)
    (hg : g.method = m) (hn : As.length = n) (hsize : g.locals.size = nL) (hstack : g.stack = As.reverse ++ rest) (hW : 2 * g.monitorRoom + (rest.map fun v => v.category).sum ≤ 8) (hdg : decode cc g.pc = .ok (.invokestatic index, 3)) (hf : cells + mc ≤ R.cells ∧ slots + ms ≤ R.slots) :
    vx_Run p l e R s m args below meth c H locs cells slots mc ms g rest (Qc As.toArray) XC free := by
  have hK : vx_Back l R p e below s args y 3 8 (PreOf R mc ms Pc) (PostOf Qc mc ms free) (vx_Post XC mc ms free) := vx_callBack cw.1 hM hp.1
  obtain ⟨⟨-, -, -, -, -, -, hcode, hini, hy, hlen, hl⟩, hstt⟩ := cw
  obtain ⟨hx, hb, hml, ho, -⟩ := S
  intro T hT X
  rcases vx_callS X hx (bytes := bytes) (maxL := maxL) (ret := ret) ho hl hstt hini hcode hy hK hg (hsize.trans hml.symm) (argsL := As) (rest := rest) (fun sig h => hn.trans (hlen sig h)) hstack hW (by rw [hb]; exact hdg)
    (fun vm₁ hW₁ => ⟨hf.1, hf.2, hp.2 (T.setVm vm₁) hT hW₁⟩) with ⟨v, vm₁, ⟨U', l2, c2, s2⟩, hW₁, X', ⟨g', mk, t, L, e1, e2, hq, h1, hL, h2, h3⟩, st⟩ | ⟨q, vm₁, ⟨U', l2, c2, s2⟩, hW₁, X', ⟨g', mk, t, L, E, ce, e1, e2, hq, hce, hcv, hcl, h1, hL, h2, h3⟩, st⟩
  · dsimp only [Pt.U, Pt.locs, Pt.cells, Pt.slots] at X' e1 e2 h1 h2 h3 st
    subst h1; subst h2; subst h3
    exact Or.inl ⟨v, (T.setVm vm₁).calling g' mk As.toArray, t, U', L, hT, X', hL, e1, e2, hq, st⟩
  · dsimp only [Pt.U, Pt.locs, Pt.cells, Pt.slots] at X' e1 e2 h1 h2 h3 st hcl
    subst h1; subst h2; subst h3
    exact Or.inr ⟨q, (T.setVm vm₁).calling g' mk As.toArray, t, U', L, E, ce, hT, X', hL, e1, e2, hq, hce, hcv, vx_cls hW₁ hcl, st⟩
end Runs
section Rows
variable {p : Program} {l : Launch} {e : Env} {R : Room} {s : State} {m : MethodId} {args : Array Value} {below : List Frame} {meth : Method} {c : Code} {H : Heap} {locs : List Loc} {cells slots : Nat} {Q : State → Prop}
variable {mc ms : Nat} {free : Addr → Prop} {A0 A1 : Nat → Prop} {H0 : Heap} {a : Array Value} {pc : Nat} {ls : Array Slot} {st0 rest : List Value}
theorem vx_keep {st₀ t T' : State} {L : List Loc} (h0 : st₀.heap = H) (e1 : T'.heap = t.heap) (hS : va_S A0 H0 H locs) (hA : ∀ q, q < H.size → A1 q → A0 q) (hf : ∀ q, free q → A0 q) (hL : ∀ q ∈ L, free q.base) (hF : va_F A1 st₀ t) :
    H.size ≤ T'.heap.size ∧ (∀ q : Nat, q < H.size → ¬ A1 q → T'.heap[q]? = H[q]?) ∧ va_S A0 H0 T'.heap (locs ++ L) := by
  obtain ⟨hz, hk⟩ := hF
  rw [h0] at hz hk
  exact ⟨by rw [e1]; exact hz, fun q h1 h2 => by rw [e1]; exact hk q h1 h2,
    ⟨Nat.le_trans hS.1 (by rw [e1]; exact hz), fun q h1 h2 => by rw [e1, hk q (Nat.lt_of_lt_of_le h1 hS.1) (fun z => h2 (hA q (Nat.lt_of_lt_of_le h1 hS.1) z))]; exact hS.2.1 q h1 h2, fun q hq => by
      rcases List.mem_append.mp hq with h | h
      · exact hS.2.2 q h
      · exact hf _ (hL q h)⟩⟩
theorem vx_calli {S SX : Type} {post : Int32 → S → Prop} {px : SX → Prop} {B : S → State → Prop} {BX : String → SX → State → Prop} {AX : Nat → Prop} (hr : vx_Run p l e R s m args below meth c H locs cells slots mc ms (F0 m pc ls st0) rest (va_Qi post B A1 a) (vx_X px BX AX) free) (hS : va_S A0 H0 H locs) (hA : ∀ q, q < H.size → A1 q → A0 q) (hf : ∀ q, free q → A0 q) (hAX : ∀ q, q < H.size → AX q → A0 q)
    (kx : ∀ (E : String) (ce : Cell) (q9 : Addr) (u : SX) (t : State) (H1 : Heap) (locs1 : List Loc), t.heap = H1 → s.vm.Alike t.vm → px u → BX E u t → H.size ≤ H1.size → (∀ q : Nat, q < H.size → ¬ AX q → H1[q]? = H[q]?) → va_S A0 H0 H1 locs1 → H1[q9]? = some ce → ce.vm = .none → s.vm.findClass E = some ce.cls → vx_W p l e R s m args below meth c H1 locs1 (cells + mc) (slots + ms) Q (F0 m pc ls rest) q9)
    (kk : ∀ (r : Int32) (u : S) (t : State) (H1 : Heap) (locs1 : List Loc), t.heap = H1 → s.vm.Alike t.vm → post r u → B u t → H.size ≤ H1.size → (∀ q : Nat, q < H.size → ¬ A1 q → H1[q]? = H[q]?) → va_S A0 H0 H1 locs1 → W p l e R s m args below meth c H1 locs1 (cells + mc) (slots + ms) Q (F0 m (pc + 3) ls (.int r :: rest))) : W p l e R s m args below meth c H locs cells slots Q (F0 m pc ls st0) := by
  intro T hT X
  rcases hr T hT X with ⟨v, st₀, t, T', L, h0, X', hL, e1, e2, ⟨⟨r, u, hv, hp, hb⟩, hF⟩, st⟩ | ⟨q, st₀, t, T', L, E, ce, h0, X', hL, e1, e2, ⟨u, hp, hb, hF⟩, hce, hcv, hcl, st⟩
  · cases hv
    obtain ⟨k1, k2, k3⟩ := vx_keep h0 e1 hS hA hf hL hF
    obtain ⟨t2, a1, b1⟩ := kk r u t T'.heap (locs ++ L) e1.symm (by rw [← e2]; exact X'.warmed.alike) hp hb k1 k2 k3 T' rfl X'
    exact ⟨t2, st t2 a1, b1⟩
  · obtain ⟨k1, k2, k3⟩ := vx_keep h0 e1 hS hAX hf hL hF
    obtain ⟨t2, a1, b1⟩ := kx E ce q u t T'.heap (locs ++ L) e1.symm (by rw [← e2]; exact X'.warmed.alike) hp hb k1 k2 k3 (by rw [e1]; exact hce) hcv hcl T' rfl X'
    exact ⟨t2, st.trans a1, b1⟩
theorem vx_calll {S SX : Type} {post : Int64 → S → Prop} {px : SX → Prop} {B : S → State → Prop} {BX : String → SX → State → Prop} {AX : Nat → Prop} (hr : vx_Run p l e R s m args below meth c H locs cells slots mc ms (F0 m pc ls st0) rest (va_Ql post B A1 a) (vx_X px BX AX) free) (hS : va_S A0 H0 H locs) (hA : ∀ q, q < H.size → A1 q → A0 q) (hf : ∀ q, free q → A0 q) (hAX : ∀ q, q < H.size → AX q → A0 q)
    (kx : ∀ (E : String) (ce : Cell) (q9 : Addr) (u : SX) (t : State) (H1 : Heap) (locs1 : List Loc), t.heap = H1 → s.vm.Alike t.vm → px u → BX E u t → H.size ≤ H1.size → (∀ q : Nat, q < H.size → ¬ AX q → H1[q]? = H[q]?) → va_S A0 H0 H1 locs1 → H1[q9]? = some ce → ce.vm = .none → s.vm.findClass E = some ce.cls → vx_W p l e R s m args below meth c H1 locs1 (cells + mc) (slots + ms) Q (F0 m pc ls rest) q9)
    (kk : ∀ (r : Int64) (u : S) (t : State) (H1 : Heap) (locs1 : List Loc), t.heap = H1 → s.vm.Alike t.vm → post r u → B u t → H.size ≤ H1.size → (∀ q : Nat, q < H.size → ¬ A1 q → H1[q]? = H[q]?) → va_S A0 H0 H1 locs1 → W p l e R s m args below meth c H1 locs1 (cells + mc) (slots + ms) Q (F0 m (pc + 3) ls (.long r :: rest))) : W p l e R s m args below meth c H locs cells slots Q (F0 m pc ls st0) := by
  intro T hT X
  rcases hr T hT X with ⟨v, st₀, t, T', L, h0, X', hL, e1, e2, ⟨⟨r, u, hv, hp, hb⟩, hF⟩, st⟩ | ⟨q, st₀, t, T', L, E, ce, h0, X', hL, e1, e2, ⟨u, hp, hb, hF⟩, hce, hcv, hcl, st⟩
  · cases hv
    obtain ⟨k1, k2, k3⟩ := vx_keep h0 e1 hS hA hf hL hF
    obtain ⟨t2, a1, b1⟩ := kk r u t T'.heap (locs ++ L) e1.symm (by rw [← e2]; exact X'.warmed.alike) hp hb k1 k2 k3 T' rfl X'
    exact ⟨t2, st t2 a1, b1⟩
  · obtain ⟨k1, k2, k3⟩ := vx_keep h0 e1 hS hAX hf hL hF
    obtain ⟨t2, a1, b1⟩ := kx E ce q u t T'.heap (locs ++ L) e1.symm (by rw [← e2]; exact X'.warmed.alike) hp hb k1 k2 k3 (by rw [e1]; exact hce) hcv hcl T' rfl X'
    exact ⟨t2, st.trans a1, b1⟩
theorem vx_callf {S SX : Type} {post : UInt32 → S → Prop} {px : SX → Prop} {B : S → State → Prop} {BX : String → SX → State → Prop} {AX : Nat → Prop} (hr : vx_Run p l e R s m args below meth c H locs cells slots mc ms (F0 m pc ls st0) rest (va_Qf post B A1 a) (vx_X px BX AX) free) (hS : va_S A0 H0 H locs) (hA : ∀ q, q < H.size → A1 q → A0 q) (hf : ∀ q, free q → A0 q) (hAX : ∀ q, q < H.size → AX q → A0 q)
    (kx : ∀ (E : String) (ce : Cell) (q9 : Addr) (u : SX) (t : State) (H1 : Heap) (locs1 : List Loc), t.heap = H1 → s.vm.Alike t.vm → px u → BX E u t → H.size ≤ H1.size → (∀ q : Nat, q < H.size → ¬ AX q → H1[q]? = H[q]?) → va_S A0 H0 H1 locs1 → H1[q9]? = some ce → ce.vm = .none → s.vm.findClass E = some ce.cls → vx_W p l e R s m args below meth c H1 locs1 (cells + mc) (slots + ms) Q (F0 m pc ls rest) q9)
    (kk : ∀ (r : UInt32) (u : S) (t : State) (H1 : Heap) (locs1 : List Loc), t.heap = H1 → s.vm.Alike t.vm → post r u → B u t → H.size ≤ H1.size → (∀ q : Nat, q < H.size → ¬ A1 q → H1[q]? = H[q]?) → va_S A0 H0 H1 locs1 → W p l e R s m args below meth c H1 locs1 (cells + mc) (slots + ms) Q (F0 m (pc + 3) ls (.float r :: rest))) : W p l e R s m args below meth c H locs cells slots Q (F0 m pc ls st0) := by
  intro T hT X
  rcases hr T hT X with ⟨v, st₀, t, T', L, h0, X', hL, e1, e2, ⟨⟨r, u, hv, hp, hb⟩, hF⟩, st⟩ | ⟨q, st₀, t, T', L, E, ce, h0, X', hL, e1, e2, ⟨u, hp, hb, hF⟩, hce, hcv, hcl, st⟩
  · cases hv
    obtain ⟨k1, k2, k3⟩ := vx_keep h0 e1 hS hA hf hL hF
    obtain ⟨t2, a1, b1⟩ := kk r u t T'.heap (locs ++ L) e1.symm (by rw [← e2]; exact X'.warmed.alike) hp hb k1 k2 k3 T' rfl X'
    exact ⟨t2, st t2 a1, b1⟩
  · obtain ⟨k1, k2, k3⟩ := vx_keep h0 e1 hS hAX hf hL hF
    obtain ⟨t2, a1, b1⟩ := kx E ce q u t T'.heap (locs ++ L) e1.symm (by rw [← e2]; exact X'.warmed.alike) hp hb k1 k2 k3 (by rw [e1]; exact hce) hcv hcl T' rfl X'
    exact ⟨t2, st.trans a1, b1⟩
theorem vx_calld {S SX : Type} {post : UInt64 → S → Prop} {px : SX → Prop} {B : S → State → Prop} {BX : String → SX → State → Prop} {AX : Nat → Prop} (hr : vx_Run p l e R s m args below meth c H locs cells slots mc ms (F0 m pc ls st0) rest (va_Qd post B A1 a) (vx_X px BX AX) free) (hS : va_S A0 H0 H locs) (hA : ∀ q, q < H.size → A1 q → A0 q) (hf : ∀ q, free q → A0 q) (hAX : ∀ q, q < H.size → AX q → A0 q)
    (kx : ∀ (E : String) (ce : Cell) (q9 : Addr) (u : SX) (t : State) (H1 : Heap) (locs1 : List Loc), t.heap = H1 → s.vm.Alike t.vm → px u → BX E u t → H.size ≤ H1.size → (∀ q : Nat, q < H.size → ¬ AX q → H1[q]? = H[q]?) → va_S A0 H0 H1 locs1 → H1[q9]? = some ce → ce.vm = .none → s.vm.findClass E = some ce.cls → vx_W p l e R s m args below meth c H1 locs1 (cells + mc) (slots + ms) Q (F0 m pc ls rest) q9)
    (kk : ∀ (r : UInt64) (u : S) (t : State) (H1 : Heap) (locs1 : List Loc), t.heap = H1 → s.vm.Alike t.vm → post r u → B u t → H.size ≤ H1.size → (∀ q : Nat, q < H.size → ¬ A1 q → H1[q]? = H[q]?) → va_S A0 H0 H1 locs1 → W p l e R s m args below meth c H1 locs1 (cells + mc) (slots + ms) Q (F0 m (pc + 3) ls (.double r :: rest))) : W p l e R s m args below meth c H locs cells slots Q (F0 m pc ls st0) := by
  intro T hT X
  rcases hr T hT X with ⟨v, st₀, t, T', L, h0, X', hL, e1, e2, ⟨⟨r, u, hv, hp, hb⟩, hF⟩, st⟩ | ⟨q, st₀, t, T', L, E, ce, h0, X', hL, e1, e2, ⟨u, hp, hb, hF⟩, hce, hcv, hcl, st⟩
  · cases hv
    obtain ⟨k1, k2, k3⟩ := vx_keep h0 e1 hS hA hf hL hF
    obtain ⟨t2, a1, b1⟩ := kk r u t T'.heap (locs ++ L) e1.symm (by rw [← e2]; exact X'.warmed.alike) hp hb k1 k2 k3 T' rfl X'
    exact ⟨t2, st t2 a1, b1⟩
  · obtain ⟨k1, k2, k3⟩ := vx_keep h0 e1 hS hAX hf hL hF
    obtain ⟨t2, a1, b1⟩ := kx E ce q u t T'.heap (locs ++ L) e1.symm (by rw [← e2]; exact X'.warmed.alike) hp hb k1 k2 k3 (by rw [e1]; exact hce) hcv hcl T' rfl X'
    exact ⟨t2, st.trans a1, b1⟩
theorem vx_callv {S SX : Type} {post : S → Prop} {px : SX → Prop} {B : S → State → Prop} {BX : String → SX → State → Prop} {AX : Nat → Prop} (hr : vx_Run p l e R s m args below meth c H locs cells slots mc ms (F0 m pc ls st0) rest (va_Qv post B A1 a) (vx_X px BX AX) free) (hS : va_S A0 H0 H locs) (hA : ∀ q, q < H.size → A1 q → A0 q) (hf : ∀ q, free q → A0 q) (hAX : ∀ q, q < H.size → AX q → A0 q)
    (kx : ∀ (E : String) (ce : Cell) (q9 : Addr) (u : SX) (t : State) (H1 : Heap) (locs1 : List Loc), t.heap = H1 → s.vm.Alike t.vm → px u → BX E u t → H.size ≤ H1.size → (∀ q : Nat, q < H.size → ¬ AX q → H1[q]? = H[q]?) → va_S A0 H0 H1 locs1 → H1[q9]? = some ce → ce.vm = .none → s.vm.findClass E = some ce.cls → vx_W p l e R s m args below meth c H1 locs1 (cells + mc) (slots + ms) Q (F0 m pc ls rest) q9)
    (kk : ∀ (u : S) (t : State) (H1 : Heap) (locs1 : List Loc), t.heap = H1 → s.vm.Alike t.vm → post u → B u t → H.size ≤ H1.size → (∀ q : Nat, q < H.size → ¬ A1 q → H1[q]? = H[q]?) → va_S A0 H0 H1 locs1 → W p l e R s m args below meth c H1 locs1 (cells + mc) (slots + ms) Q (F0 m (pc + 3) ls (rest))) : W p l e R s m args below meth c H locs cells slots Q (F0 m pc ls st0) := by
  intro T hT X
  rcases hr T hT X with ⟨v, st₀, t, T', L, h0, X', hL, e1, e2, ⟨⟨u, hv, hp, hb⟩, hF⟩, st⟩ | ⟨q, st₀, t, T', L, E, ce, h0, X', hL, e1, e2, ⟨u, hp, hb, hF⟩, hce, hcv, hcl, st⟩
  · cases hv
    obtain ⟨k1, k2, k3⟩ := vx_keep h0 e1 hS hA hf hL hF
    obtain ⟨t2, a1, b1⟩ := kk u t T'.heap (locs ++ L) e1.symm (by rw [← e2]; exact X'.warmed.alike) hp hb k1 k2 k3 T' rfl X'
    exact ⟨t2, st t2 a1, b1⟩
  · obtain ⟨k1, k2, k3⟩ := vx_keep h0 e1 hS hAX hf hL hF
    obtain ⟨t2, a1, b1⟩ := kx E ce q u t T'.heap (locs ++ L) e1.symm (by rw [← e2]; exact X'.warmed.alike) hp hb k1 k2 k3 (by rw [e1]; exact hce) hcv hcl T' rfl X'
    exact ⟨t2, st.trans a1, b1⟩
/-- caught by the row x of this method's table; the rows ahead don't take it -/
theorem vx_catch {own name : String} {E : String} {ce : Cell} {q : Addr} (hown : s.vm.findClass own = some m.cls) (pre : List ExceptionTableEntry) (x : ExceptionTableEntry) (suf : List ExceptionTableEntry) (hsplit : c.exceptionTable.toList = pre ++ x :: suf)
    (hpass : ∀ z ∈ pre, covers z pc = false ∨ (z.catchType ≠ 0 ∧ ∃ nm : String, (Cond.classLink own z.catchType nm).before args s = true ∧ va_Nc E nm s)) (hx : covers x pc = true) (h0 : x.catchType ≠ 0)
    (hlink : (Cond.classLink own x.catchType name).before args s = true) (hcast : (Cond.castable E name).before args s = true) (hcell : H[q]? = some ce) (hv : ce.vm = .none) (hcl : s.vm.findClass E = some ce.cls)
    (kk : W p l e R s m args below meth c H locs cells slots Q (F0 m x.handlerPc ls [.ref q])) : vx_W p l e R s m args below meth c H locs cells slots Q (F0 m pc ls rest) q := by
  intro T hT X
  have hpl : e.platform.magicAccessors = ({} : Platform).magicAccessors := by rw [X.admits.platform]
  obtain ⟨c3, c4, hc3, hc4, hasg⟩ := Cond.castable_spec hcast
  cases Option.some.inj (hc3.symm.trans hcl)
  obtain ⟨c5, hc5, hcl5⟩ := Cond.classLink_spec hown hlink e.platform hpl
  cases Option.some.inj (hc4.symm.trans hc5)
  obtain ⟨vm', X', st⟩ := X.thenCaughtThrough q (g := F0 m pc ls rest) rfl (Steps.refl _) (by rw [hT]; exact hcell) (by rw [hv]; rfl) (by obtain ⟨k9, h9, -⟩ := Vm.findClass_spec hcl; exact ⟨k9, h9⟩) pre x suf hsplit
    (fun z hz => by
      rcases hpass z hz with h | ⟨hz0, nm, hl1, hn1⟩
      · exact Or.inl h
      · obtain ⟨c6, hc6, hcl6⟩ := Cond.classLink_spec hown hl1 e.platform hpl
        obtain ⟨a8, b8, h1, h2, h3⟩ := hn1
        cases Option.some.inj (h1.symm.trans hcl)
        cases Option.some.inj (h2.symm.trans hc6)
        exact Or.inr ⟨hz0, _, hcl6, h3⟩) hx (Or.inr ⟨h0, c4, hcl5, hasg⟩)
  obtain ⟨t, a1, b1⟩ := kk (T.setVm vm') hT X'
  exact ⟨t, st.trans a1, b1⟩
end Rows
section Ends
variable {p : Program} {l : Launch} {e : Env} {R : Room} {s : State} {m : MethodId} {args : Array Value} {below : List Frame} {meth : Method} {c : Code} {H : Heap} {locs : List Loc} {cells slots : Nat} {Q : State → Prop}
variable {mc ms : Nat} {free : Addr → Prop} {A0 A1 : Nat → Prop} {H0 : Heap} {a : Array Value} {ls : Array Slot} {st0 rest : List Value}
variable {Qc : Array Value → State → Outcome → State → Prop} {XC : String → State → State → Prop}
/-- what a body that may throw owes at its end -/
def vx_MQ (below : List Frame) (Qc : Array Value → State → Outcome → State → Prop) (XC : String → State → State → Prop) (a : Array Value) (s : State) (mc ms : Nat) (free : Addr → Prop) : State → Prop := fun t =>
  ∃ o, t.status = .running ∧ Ended t below o ∧ vx_Q Qc XC mc ms free a s o t
theorem vx_ret {g : JFrame} {mc ms : Nat} (k : W p l e R s m args below meth c H locs cells slots (MQ below Qc args s mc ms free) g) : W p l e R s m args below meth c H locs cells slots (vx_MQ below Qc XC args s mc ms free) g := by
  intro T hT X
  obtain ⟨t, a1, o, b1, b2, b3, b4⟩ := k T hT X
  exact ⟨t, a1, o, b1, b2, Or.inl ⟨b3, b4⟩⟩
/-- not caught here: it goes on to the caller -/
theorem vx_widen {g : JFrame} {q : Addr} {k n : Nat} (h1 : cells ≤ k) (h2 : slots ≤ n) (kk : vx_W p l e R s m args below meth c H locs k n Q g q) : vx_W p l e R s m args below meth c H locs cells slots Q g q := fun T hT X => kk T hT (stand_widen X h1 h2)
theorem vx_out {pc : Nat} {E : String} {ce : Cell} {q : Addr} {mc ms : Nat} (hout : ∀ x ∈ c.exceptionTable.toList, covers x pc = false) (hlocks : meth.locks = false) (hcell : H[q]? = some ce) (hv : ce.vm = .none) (hcl : s.vm.findClass E = some ce.cls)
    (hx : ∀ t : State, t.heap = H → s.vm.Alike t.vm → XC E s t) (hf : ∀ z ∈ locs, free z.base) (hc : cells ≤ mc) (hs : slots ≤ ms) :
    vx_W p l e R s m args below meth c H locs cells slots (vx_MQ below Qc XC args s mc ms free) (F0 m pc ls rest) q := by
  intro T hT X
  obtain ⟨st1, hrun, hend, hW, hsm⟩ := X.leaveThrown q (g := F0 m pc ls rest) rfl rfl rfl hout hlocks
  have hcell9 : (T.setFrames (.throwing q :: below)).heap[q]? = some ce := by
    show T.heap[q]? = some ce
    rw [hT]; exact hcell
  exact ⟨_, st1, .threw q, hrun, hend, Or.inr ⟨q, rfl, E, ce, locs, hx _ hT hW.alike, hcell9, hv, hcl, hW, hsm.mono hc hs, hf⟩⟩
theorem vx_frame {U : State} {k n : Nat} (h : s.sameButNew ({ U with vm := s.vm } : State) locs k n) : s.heap.size ≤ U.heap.size ∧ ∀ q : Nat, q < s.heap.size → (∀ z ∈ locs, z.base ≠ q) → U.heap[q]? = s.heap[q]? := by
  obtain ⟨-, h2, -, -, -, h6⟩ := h
  refine ⟨h2, fun q hq hz => ?_⟩
  obtain ⟨c9, e1, e2, e3, e4⟩ := h6 q _ (Array.getElem?_eq_getElem hq)
  have hs : c9.slots = (s.heap[q]).slots := Array.ext_getElem? fun i => e4 i fun hm => hz _ hm rfl
  have h9 : c9 = s.heap[q] := by
    rw [hs] at e2
    exact e2
  have e5 : U.heap[q]? = some c9 := e1
  rw [e5, h9, Array.getElem?_eq_getElem hq]
/-- the words of a throw but the four that speak of the heap -/
def vx_no (w : Cond) : Bool := decide (w ≠ .isRef (.static Bundle.tN "UNASSIGNED_STACK" Bundle.steD)) && decide (w ≠ .isRef (.static Bundle.tN "SUPPRESSED_SENTINEL" Bundle.listD)) && decide (w ≠ .laysStatic Bundle.tN "UNASSIGNED_STACK" Bundle.steD) && decide (w ≠ .laysStatic Bundle.tN "SUPPRESSED_SENTINEL" Bundle.listD)
def vx_at0 (own : String) (ic : Nat) (X : String) (names : List String) : List Cond := (Bundle.ownAtoms0 own ic X names).filter vx_no
def vx_atS (own : String) (ic : Nat) (X : String) (names : List String) : List Cond := (Bundle.ownAtoms own ic X names).filter vx_no
/-- a word that the tables alone decide, or a good one -/
def vx_ot (w : Cond) : Bool := w.onTables || goodWord w
theorem vx_ot_at {args a' : Array Value} {s U : State} {w : Cond} (hW : s.WarmedH U.vm) (hvm : s.vm = U.vm) (hg : vx_ot w = true) (h : w.before args s = true) : w.before a' U = true := by
  simp only [vx_ot, Bool.or_eq_true] at hg
  rcases hg with hg | hg
  · exact va_tabs hg hvm h
  · exact word_at hW (good_of_word hg) h
/-- a list's words: the good ones out of the method's own list, the others by premises of their own -/
theorem vx_hat {args : Array Value} {s : State} {L B : List Cond} (h1 : ∀ w ∈ L.filter goodWord, w.before args s = true) (h2 : ∀ w ∈ L.filter (fun w => !goodWord w), w ∈ B) (h3 : ∀ w ∈ B, w.before args s = true) : ∀ w ∈ L, w.before args s = true := by
  intro w hw
  by_cases g : goodWord w = true
  · exact h1 w (List.mem_filter.mpr ⟨hw, g⟩)
  · refine h3 w (h2 w (List.mem_filter.mpr ⟨hw, ?_⟩))
    show (!goodWord w) = true
    cases hgw : goodWord w
    · rfl
    · exact absurd hgw g
theorem vx_c {args : Array Value} {s : State} {w : Cond} {B : List Cond} (h : w.before args s = true) (t : ∀ w ∈ B, w.before args s = true) : ∀ w' ∈ w :: B, w'.before args s = true := fun w' h' => (List.mem_cons.mp h').elim (fun e => by rw [e]; exact h) (t w')
theorem vx_n {args : Array Value} {s : State} : ∀ w ∈ ([] : List Cond), w.before args s = true := fun _ h => nomatch h
theorem vx_own {args : Array Value} {s : State} {L : List Cond} (h1 : ∀ w ∈ L.filter vx_no, w.before args s = true)
    (hU : (Cond.isRef (.static Bundle.tN "UNASSIGNED_STACK" Bundle.steD)).before args s = true) (hN : (Cond.isRef (.static Bundle.tN "SUPPRESSED_SENTINEL" Bundle.listD)).before args s = true)
    (lU : (Cond.laysStatic Bundle.tN "UNASSIGNED_STACK" Bundle.steD).before args s = true) (lN : (Cond.laysStatic Bundle.tN "SUPPRESSED_SENTINEL" Bundle.listD).before args s = true) : ∀ w ∈ L, w.before args s = true := by
  intro w hw
  by_cases e1 : w = .isRef (.static Bundle.tN "UNASSIGNED_STACK" Bundle.steD)
  · rw [e1]; exact hU
  · by_cases e2 : w = .isRef (.static Bundle.tN "SUPPRESSED_SENTINEL" Bundle.listD)
    · rw [e2]; exact hN
    · by_cases e3 : w = .laysStatic Bundle.tN "UNASSIGNED_STACK" Bundle.steD
      · rw [e3]; exact lU
      · by_cases e4 : w = .laysStatic Bundle.tN "SUPPRESSED_SENTINEL" Bundle.listD
        · rw [e4]; exact lN
        · exact h1 w (List.mem_filter.mpr ⟨hw, by unfold vx_no; rw [decide_eq_true e1, decide_eq_true e2, decide_eq_true e3, decide_eq_true e4]; rfl⟩)
/-- where a static field lies, its class's statics cell in H -/
def vx_L (C n d : String) (A : Nat → Prop) (U : State) (H : Heap) : Prop := ∃ (c : ClassId) (k : Class) (i : Nat) (f : Field) (a : Nat) (cell : Cell), U.vm.findClass C = some c ∧ U.fieldFound? C n d = some (c, k, i, f) ∧ f.isStatic = true ∧ k.statics = some a ∧ H[a]? = some cell ∧ cell.vm.isStatics = true ∧ cell.cls = c ∧ f.slot < cell.slots.size ∧ k.staticTypes[f.slot]? = some f.type ∧ ¬ A a
theorem vx_L.moved {C n d : String} {A : Nat → Prop} {u U : State} {H : Heap} (hvm : u.vm.Alike U.vm) (h : vx_L C n d A u H) : vx_L C n d A U H := by
  obtain ⟨c, k, i, f, a, cell, h1, h2, h3, h4, h5, h6, h7, h8, h9, h10⟩ := h
  obtain ⟨k', hi', he⟩ := State.fieldFound?_setVm hvm h2
  exact ⟨c, k', i, f, a, cell, by rw [hvm.findClass]; exact h1, hi', h3, by rw [he]; exact h4, h5, h6, h7, h8, by rw [he]; exact h9, h10⟩
theorem vx_L.kept {C n d : String} {A : Nat → Prop} {U : State} {H H1 : Heap} (h : vx_L C n d A U H) (hq : ∀ a : Nat, a < H.size → ¬ A a → H1[a]? = H[a]?) : vx_L C n d A U H1 := by
  obtain ⟨c, k, i, f, a, cell, h1, h2, h3, h4, h5, h6, h7, h8, h9, h10⟩ := h
  exact ⟨c, k, i, f, a, cell, h1, h2, h3, h4, by rw [hq a (Array.getElem?_eq_some_iff.mp h5).1 h10]; exact h5, h6, h7, h8, h9, h10⟩
theorem vx_L.narrow {C n d : String} {A B : Nat → Prop} {U : State} {H : Heap} (h : vx_L C n d A U H) (hAB : ∀ q, B q → A q) : vx_L C n d B U H := by
  obtain ⟨c, k, i, f, a, cell, h1, h2, h3, h4, h5, h6, h7, h8, h9, h10⟩ := h
  exact ⟨c, k, i, f, a, cell, h1, h2, h3, h4, h5, h6, h7, h8, h9, fun z => h10 (hAB _ z)⟩
theorem vx_L.word {C n d : String} {A : Nat → Prop} {s : State} {args : Array Value} (h : vx_L C n d A s s.heap) : (Cond.laysStatic C n d).before args s = true := by
  obtain ⟨c, k, i, f, a, cell, h1, h2, h3, h4, h5, h6, h7, h8, h9, -⟩ := h
  show (Cond.laysStatic C n d).holds args s none s [] = true
  exact Cond.laysStatic_of h1 h2 h3 h4 h5 h6 h7 h8 h9
/-- .. and what it holds: null or some reference -/
def vx_Zq (C n d : String) (A : Nat → Prop) (U : State) (H : Heap) : Prop := va_Zq C n d A U H ∧ vx_L C n d A U H
theorem vx_Zq.moved {C n d : String} {A : Nat → Prop} {u U : State} {H : Heap} (hvm : u.vm.Alike U.vm) (h : vx_Zq C n d A u H) : vx_Zq C n d A U H := ⟨va_Zq.moved hvm h.1, vx_L.moved hvm h.2⟩
theorem vx_Zq.kept {C n d : String} {A : Nat → Prop} {U : State} {H H1 : Heap} (h : vx_Zq C n d A U H) (hq : ∀ a : Nat, a < H.size → ¬ A a → H1[a]? = H[a]?) : vx_Zq C n d A U H1 := ⟨va_Zq.kept h.1 hq, vx_L.kept h.2 hq⟩
theorem vx_Zq.narrow {C n d : String} {A B : Nat → Prop} {U : State} {H : Heap} (h : vx_Zq C n d A U H) (hAB : ∀ q, B q → A q) : vx_Zq C n d B U H := ⟨va_Zq.narrow h.1 hAB, vx_L.narrow h.2 hAB⟩
theorem vx_Zqof {args : Array Value} {s : State} {C n d : String} {A : Nat → Prop} (hl : (Cond.laysStatic C n d).before args s = true) (hini : (Cond.initialized C).before args s = true) (h : (Cond.isRef (.static C n d)).before args s = true) (hA : ∀ a : Nat, a < s.heap.size → ¬ A a) : vx_Zq C n d A s s.heap := by
  refine ⟨va_Zqof hl hini h hA, ?_⟩
  obtain ⟨c, k, i, f, a, cell, h1, h2, h3, h4, h5, h6, h7, h8, h9⟩ := Cond.laysStatic_spec hl
  exact ⟨c, k, i, f, a, cell, h1, h2, h3, h4, h5, h6, h7, h8, h9, hA a (Array.getElem?_eq_some_iff.mp h5).1⟩
theorem vx_isRef {C n d : String} {v : Value} {A : Nat → Prop} {s : State} {args : Array Value} (h : va_Z C n d v A s s.heap) (hv : v.isRef = true) : (Cond.isRef (.static C n d)).before args s = true := by
  obtain ⟨cf, kf, fi, f, a, cell, h1, h2, h3, h4, h5, h6, h7, -⟩ := h
  have he : (Term.static C n d).eval args s none [] s = some v := by
    simp [Term.eval, State.fieldNamed?, h1, h2, h4, h5, h6, h7]
  simp only [Cond.before, Cond.holds, Cond.value, he]
  cases v <;> simp_all [Value.isRef]
theorem vx_isRefq {C n d : String} {A : Nat → Prop} {s : State} {args : Array Value} (h : va_Zq C n d A s s.heap) : (Cond.isRef (.static C n d)).before args s = true := by
  rcases h with h | ⟨t, h⟩
  · exact vx_isRef h rfl
  · exact vx_isRef h rfl
/-- the same frame, seen from here: as if the method were called anew in this heap -/
theorem vx_rebase {T : State} (X : Stand p l e R s m args below meth c T locs cells slots) {R' : Room} (hf : R'.frames ≤ R.frames) (hl : R'.locals ≤ R.locals) (hc : cells + R'.cells ≤ R.cells) (hs : slots + R'.slots ≤ R.slots) :
    Stand p l e R' ((T.setVm s.vm).setFrames (.invoking m args :: below)) m args below meth c T [] 0 0 := by
  have htop : (T.setVm s.vm).topJava?.isSome := X.here.top
  have hF : ((T.setVm s.vm).setFrames (.invoking m args :: below)).frames = .invoking m args :: below := State.frames_setFrames _ (State.cur_lt_of_top htop)
  obtain ⟨g₀, hg0⟩ := Option.isSome_iff_exists.mp htop
  obtain ⟨r, hr⟩ := State.topJava?_eq_some.mp hg0
  have hl9 : e.platform.stackLimits (T.setVm s.vm).me = e.platform.stackLimits s.me := X.limits
  have hb9 : (T.setVm s.vm).me.stackBytes = s.me.stackBytes := X.bytes
  refine ⟨X.admits, X.cas, X.clock, hF, ?_, X.hears, X.method, X.code, X.here, X.tail, X.warmed, ?_, ?_, ?_⟩
  · have h := X.room
    have hU : ((T.setVm s.vm).setFrames (.invoking m args :: below)).localsInUse = s.localsInUse := by
      rw [State.localsInUse_invoking hF (meth := meth) (c := c) X.method X.code, State.localsInUse_invoking X.frames X.method X.code]
    simp only [State.hasRoom, Bool.and_eq_true, decide_eq_true_eq] at h ⊢
    obtain ⟨⟨⟨⟨h1, h2, h3, h4, h5, h6⟩, h7⟩, h8⟩, h9⟩ := h
    rw [X.frames, List.length_cons] at h2 h3
    have q1 := X.heapSize
    have q2 := X.used
    simp only [hF, hU, List.length_cons, State.stackLimits_setFrames, State.stackBytes_setFrames, hl9, hb9]
    refine ⟨⟨⟨⟨by omega, by omega, by omega, by omega, by omega, h6⟩, ?_⟩, ?_⟩, X.book⟩
    · show T.heap.size + R'.cells ≤ e.platform.maxCells
      omega
    · show T.slotsUsed + R'.slots ≤ e.platform.maxSlots
      omega
  · rw [State.stackLimits_setFrames]; rfl
  · rw [State.stackBytes_setFrames]; rfl
  · refine ⟨?_, Nat.le_refl _, Nat.le_refl _, ?_, ?_, fun a c9 h9 => ⟨c9, h9, rfl, rfl, fun _ _ => rfl⟩⟩
    · obtain ⟨t, ht, -⟩ := State.frames_cons hr
      show T.setVm s.vm = { ((T.setVm s.vm).setFrames (.invoking m args :: below)).setFrames (T.setVm s.vm).frames with heap := T.heap, slotsUsed := T.slotsUsed }
      rw [State.setFrames_setFrames, State.setFrames_self ht]
      rfl
    · show T.slotsUsed = T.slotsUsed + ((T.heap.toList.drop T.heap.size).map (·.slots.size)).sum
      rw [List.drop_eq_nil_of_le (Nat.le_of_eq Array.length_toList)]
      rfl
    · show ((T.heap.toList.drop T.heap.size).map (·.slots.size)).sum ≤ 0
      rw [List.drop_eq_nil_of_le (Nat.le_of_eq Array.length_toList)]
      exact Nat.le_refl _
/-- 'throw new E()': new; dup; invokespecial; athrow -/
theorem vx_throw0 {cc : ByteArray} {pc : Nat} (hexec : p.tables.exec = Jvm.exec) (hb : c.code = cc) (hl : l.stackTraces = false) {own cls : String} {names : List String} {ik ic mc ms : Nat} {A : Nat → Prop}
    (hown : s.vm.findClass own = some m.cls) (hcls : Bundle.fit cls = true) (hnames : ∀ n ∈ names, Bundle.fit n = true)
    (hk : (Cond.classLink own ik cls).before args s = true) (hini : (Cond.initialized cls).before args s = true) (hat : ∀ w ∈ vx_at0 own ic cls names, w.before args s = true)
    (hgood : ∀ w ∈ Cond.classLink own ik cls :: Cond.initialized cls :: vx_at0 own ic cls names, vx_ot w = true)
    (hU : vx_Zq Bundle.tN "UNASSIGNED_STACK" Bundle.steD A s s.heap) (hN : vx_Zq Bundle.tN "SUPPRESSED_SENTINEL" Bundle.listD A s s.heap) (hS : va_S A s.heap H locs) (hsize : ls.size = c.maxLocals)
    (d0 : decode cc pc = .ok (.new ik, 3)) (d3 : decode cc (pc + 3) = .ok (.dup, 1)) (d4 : decode cc (pc + 4) = .ok (.invokespecial ic, 3)) (d7 : decode cc (pc + 7) = .ok (.athrow, 1))
    (hout : ∀ x ∈ c.exceptionTable.toList, covers x (pc + 7) = false)
    (hRframes : names.length + 3 < R.frames) (hRlocals : (rest.map fun v => v.category).sum + (13 * (names.length + 1) + 42) ≤ R.locals) (hRcells : cells + 1 ≤ R.cells) (hRslots : slots + 6 ≤ R.slots) (hlocks : meth.locks = false)
    (hx : ∀ t : State, s.vm.Alike t.vm → H.size ≤ t.heap.size → (∀ q : Nat, q < H.size → t.heap[q]? = H[q]?) → XC cls s t)
    (hf : ∀ z ∈ locs, free z.base) (hc : cells + 1 ≤ mc) (hs : slots + 6 ≤ ms) :
    W p l e R s m args below meth c H locs cells slots (vx_MQ below Qc XC args s mc ms free) (F0 m pc ls rest) := by
  intro T hT X
  have htr : e.platform.stackTraces = false := (show e.platform.stackTraces = l.stackTraces by rw [X.admits.platform]).trans hl
  have Y := vx_rebase X (R' := { frames := R.frames, locals := R.locals, cells := 1, slots := 6 }) (Nat.le_refl _) (Nat.le_refl _) hRcells hRslots
  obtain ⟨s', hA⟩ : ∃ z, z = (T.setVm s.vm).setFrames (.invoking m args :: below) := ⟨_, rfl⟩
  rw [← hA] at Y
  have hvm : s'.vm = s.vm := by rw [hA]; rfl
  have hhp : s'.heap = H := by rw [hA]; exact hT
  have hW0 : s.WarmedH s'.vm := by rw [hvm]; exact State.WarmedH.refl s
  have hat' : ∀ w ∈ vx_at0 own ic cls names, w.before args s' = true := fun w hw => vx_ot_at hW0 hvm.symm (hgood w (List.mem_cons_of_mem _ (List.mem_cons_of_mem _ hw))) (hat w hw)
  have hk' : (Cond.classLink own ik cls).before args s' = true := vx_ot_at hW0 hvm.symm (hgood _ List.mem_cons_self) hk
  have hini' : (Cond.initialized cls).before args s' = true := vx_ot_at hW0 hvm.symm (hgood _ (List.mem_cons_of_mem _ List.mem_cons_self)) hini
  have hU' : vx_Zq Bundle.tN "UNASSIGNED_STACK" Bundle.steD A s' s'.heap := by rw [hhp]; exact vx_Zq.moved hW0.alike (hU.kept hS.2.1)
  have hN' : vx_Zq Bundle.tN "SUPPRESSED_SENTINEL" Bundle.listD A s' s'.heap := by rw [hhp]; exact vx_Zq.moved hW0.alike (hN.kept hS.2.1)
  have h : ∀ w ∈ Bundle.ownAtoms0 own ic cls names, w.before args s' = true := vx_own hat' (vx_isRefq hU'.1) (vx_isRefq hN'.1) hU'.2.word hN'.2.word
  have hown' : s'.vm.findClass own = some m.cls := by rw [hvm]; exact hown
  have hins : (Cond.instantiable cls 6).before args s' = true := h _ (by simp [Bundle.ownAtoms0])
  obtain ⟨vm₁, cX, kX, hfX, hkX, -, -, X₁, st1⟩ := Y.newCold hexec (own := own) (C := cls) (index := ik) (n := 6) hown' hk' hins hini'
    (g := F0 m pc ls rest) rfl (by rw [hb]; exact d0) (Nat.le_refl _) (Nat.le_refl _)
  generalize hT1 : (T.setVm vm₁).pushCell { cls := cX, slots := kX.instanceTypes.map defaultValue, vm := .none } = T1 at X₁ st1
  have hcat : (Value.ref T.heap.size).category = 1 := rfl
  have hcellA : T1.heap[T.heap.size]? = some (freshCell cX kX) := by rw [← hT1]; exact State.heap_pushCell_size _ _
  have d3' : decode c.code (pc + 3) = .ok (.dup, 1) := by rw [hb]; exact d3
  obtain ⟨U, hsteps, hrun, hend, hW, hsame, ce, hce, hO⟩ := X₁.ctorThrow0 hexec htr (own := own) (cls := cls) (names := names) (ic := ic) hown' hcls hnames h (fun x hx => nomatch hx) hfX hkX hcellA (by rw [hhp, hT]; exact Nat.le_refl _)
    (g := { method := m, pc := pc + 4, locals := ls, stack := .ref T.heap.size :: .ref T.heap.size :: rest, locked := none }) rfl hsize rfl rfl (rest := rest) rfl
    (by rw [hb]; exact d4) (by rw [hb]; exact d7) hout hRframes (by simp only [List.map_cons, List.sum_cons, hcat]; omega) hlocks
  obtain ⟨f1, f2⟩ := vx_frame hsame
  rw [hhp] at f1 f2
  have hWs : s.WarmedH U.vm := State.WarmedH.trans hW0 hW
  have hcl : s.vm.findClass cls = some ce.cls := by
    have h9 := hO.cls
    rw [hvm] at h9
    exact h9
  have hall : s.sameButNew ({ U with vm := s.vm } : State) locs mc ms := by
    subst hA
    obtain ⟨e1, e2⟩ := hsame
    rw [State.setFrames_setFrames] at e1
    have h2 : (T.setVm s.vm).sameButNew ({ U with vm := s.vm } : State) [] (0 + 1) (0 + 6) := ⟨e1, e2⟩
    have h3 := X.same.trans h2
    rw [List.append_nil] at h3
    exact h3.mono hc hs
  refine ⟨U, ?_, .threw T.heap.size, hrun, hend, Or.inr ⟨T.heap.size, rfl, cls, ce, locs, hx U hWs.alike f1 (fun q hq => f2 q hq (fun z hz => nomatch hz)), hce, hO.vm, hcl, hWs, hall, hf⟩⟩
  refine st1 _ ?_
  show Steps p.tables e below (T1.setTop { method := m, pc := pc + 3, locals := ls, stack := .ref T.heap.size :: rest, locked := none }) _
  jvm_step X₁.here [X₁.here.top, hexec, d3', Value.category]
  exact hsteps
/-- 'throw new E("text")': new; dup; ldc; invokespecial; athrow -/
theorem vx_throwS {cc : ByteArray} {pc : Nat} (hexec : p.tables.exec = Jvm.exec) (hb : c.code = cc) (hl : l.stackTraces = false) {own cls text : String} {names : List String} {ik is ic mc ms sa : Nat} {A : Nat → Prop}
    (hown : s.vm.findClass own = some m.cls) (hcls : Bundle.fit cls = true) (hnames : ∀ n ∈ names, Bundle.fit n = true)
    (hk : (Cond.classLink own ik cls).before args s = true) (hini : (Cond.initialized cls).before args s = true) (hstr : vk_R own is text sa s) (hat : ∀ w ∈ vx_atS own ic cls names, w.before args s = true)
    (hgood : ∀ w ∈ Cond.classLink own ik cls :: Cond.initialized cls :: vx_atS own ic cls names, vx_ot w = true)
    (hU : vx_Zq Bundle.tN "UNASSIGNED_STACK" Bundle.steD A s s.heap) (hN : vx_Zq Bundle.tN "SUPPRESSED_SENTINEL" Bundle.listD A s s.heap) (hS : va_S A s.heap H locs) (hsize : ls.size = c.maxLocals)
    (d0 : decode cc pc = .ok (.new ik, 3)) (d3 : decode cc (pc + 3) = .ok (.dup, 1)) (d4 : decode cc (pc + 4) = .ok (.ldc is, 2)) (d6 : decode cc (pc + 6) = .ok (.invokespecial ic, 3)) (d9 : decode cc (pc + 9) = .ok (.athrow, 1))
    (hout : ∀ x ∈ c.exceptionTable.toList, covers x (pc + 9) = false)
    (hRframes : names.length + 3 < R.frames) (hRlocals : (rest.map fun v => v.category).sum + (13 * (names.length + 1) + 43) ≤ R.locals) (hRcells : cells + 1 ≤ R.cells) (hRslots : slots + 6 ≤ R.slots) (hlocks : meth.locks = false)
    (hx : ∀ t : State, s.vm.Alike t.vm → H.size ≤ t.heap.size → (∀ q : Nat, q < H.size → t.heap[q]? = H[q]?) → XC cls s t)
    (hf : ∀ z ∈ locs, free z.base) (hc : cells + 1 ≤ mc) (hs : slots + 6 ≤ ms) :
    W p l e R s m args below meth c H locs cells slots (vx_MQ below Qc XC args s mc ms free) (F0 m pc ls rest) := by
  intro T hT X
  have htr : e.platform.stackTraces = false := (show e.platform.stackTraces = l.stackTraces by rw [X.admits.platform]).trans hl
  have Y := vx_rebase X (R' := { frames := R.frames, locals := R.locals, cells := 1, slots := 6 }) (Nat.le_refl _) (Nat.le_refl _) hRcells hRslots
  obtain ⟨s', hA⟩ : ∃ z, z = (T.setVm s.vm).setFrames (.invoking m args :: below) := ⟨_, rfl⟩
  rw [← hA] at Y
  have hvm : s'.vm = s.vm := by rw [hA]; rfl
  have hhp : s'.heap = H := by rw [hA]; exact hT
  have hW0 : s.WarmedH s'.vm := by rw [hvm]; exact State.WarmedH.refl s
  have hat' : ∀ w ∈ vx_atS own ic cls names, w.before args s' = true := fun w hw => vx_ot_at hW0 hvm.symm (hgood w (List.mem_cons_of_mem _ (List.mem_cons_of_mem _ hw))) (hat w hw)
  have hk' : (Cond.classLink own ik cls).before args s' = true := vx_ot_at hW0 hvm.symm (hgood _ List.mem_cons_self) hk
  have hini' : (Cond.initialized cls).before args s' = true := vx_ot_at hW0 hvm.symm (hgood _ (List.mem_cons_of_mem _ List.mem_cons_self)) hini
  have hU' : vx_Zq Bundle.tN "UNASSIGNED_STACK" Bundle.steD A s' s'.heap := by rw [hhp]; exact vx_Zq.moved hW0.alike (hU.kept hS.2.1)
  have hN' : vx_Zq Bundle.tN "SUPPRESSED_SENTINEL" Bundle.listD A s' s'.heap := by rw [hhp]; exact vx_Zq.moved hW0.alike (hN.kept hS.2.1)
  have h : ∀ w ∈ Bundle.ownAtoms own ic cls names, w.before args s' = true := vx_own hat' (vx_isRefq hU'.1) (vx_isRefq hN'.1) hU'.2.word hN'.2.word
  have hown' : s'.vm.findClass own = some m.cls := by rw [hvm]; exact hown
  have hins : (Cond.instantiable cls 6).before args s' = true := h _ (by simp [Bundle.ownAtoms])
  obtain ⟨vm₁, cX, kX, hfX, hkX, -, -, X₁, st1⟩ := Y.newCold hexec (own := own) (C := cls) (index := ik) (n := 6) hown' hk' hins hini'
    (g := F0 m pc ls rest) rfl (by rw [hb]; exact d0) (Nat.le_refl _) (Nat.le_refl _)
  generalize hT1 : (T.setVm vm₁).pushCell { cls := cX, slots := kX.instanceTypes.map defaultValue, vm := .none } = T1 at X₁ st1
  have hcat : (Value.ref T.heap.size).category = 1 := rfl
  have hcellA : T1.heap[T.heap.size]? = some (freshCell cX kX) := by rw [← hT1]; exact State.heap_pushCell_size _ _
  have d3' : decode c.code (pc + 3) = .ok (.dup, 1) := by rw [hb]; exact d3
  have d4' : decode c.code (pc + 4) = .ok (.ldc is, 2) := by rw [hb]; exact d4
  have hstr' : vk_R own is text sa s' := vk_R.warm hW0 hstr
  obtain ⟨U, hsteps, hrun, hend, hW, hsame, ce, hce, hO⟩ := X₁.ctorThrowS hexec htr (own := own) (cls := cls) (names := names) (ic := ic) hown' hcls hnames h (fun x hx => nomatch hx) hfX hkX hcellA (by rw [hhp, hT]; exact Nat.le_refl _) (msg := .ref sa) rfl
    (g := { method := m, pc := pc + 6, locals := ls, stack := .ref sa :: .ref T.heap.size :: .ref T.heap.size :: rest, locked := none }) rfl hsize rfl rfl (rest := rest) rfl
    (by rw [hb]; exact d6) (by rw [hb]; exact d9) hout hRframes (by simp only [List.map_cons, List.sum_cons, hcat]; omega) hlocks
  obtain ⟨f1, f2⟩ := vx_frame hsame
  rw [hhp] at f1 f2
  have hWs : s.WarmedH U.vm := State.WarmedH.trans hW0 hW
  have hcl : s.vm.findClass cls = some ce.cls := by
    have h9 := hO.cls
    rw [hvm] at h9
    exact h9
  have hall : s.sameButNew ({ U with vm := s.vm } : State) locs mc ms := by
    subst hA
    obtain ⟨e1, e2⟩ := hsame
    rw [State.setFrames_setFrames] at e1
    have h2 : (T.setVm s.vm).sameButNew ({ U with vm := s.vm } : State) [] (0 + 1) (0 + 6) := ⟨e1, e2⟩
    have h3 := X.same.trans h2
    rw [List.append_nil] at h3
    exact h3.mono hc hs
  refine ⟨U, ?_, .threw T.heap.size, hrun, hend, Or.inr ⟨T.heap.size, rfl, cls, ce, locs, hx U hWs.alike f1 (fun q hq => f2 q hq (fun z hz => nomatch hz)), hce, hO.vm, hcl, hWs, hall, hf⟩⟩
  refine st1 _ ?_
  show Steps p.tables e below (T1.setTop { method := m, pc := pc + 3, locals := ls, stack := .ref T.heap.size :: rest, locked := none }) _
  jvm_step X₁.here [X₁.here.top, hexec, d3', Value.category]
  exact X₁.ldcString hexec (own := own) (text := text) (index := is) (a := sa) hown' hstr'.1 hstr'.2
    (g := { method := m, pc := pc + 4, locals := ls, stack := .ref T.heap.size :: .ref T.heap.size :: rest, locked := none }) rfl d4' _ hsteps
/-- 'throw new E("text")', the text by a wide index -/
theorem vx_throwSW {cc : ByteArray} {pc : Nat} (hexec : p.tables.exec = Jvm.exec) (hb : c.code = cc) (hl : l.stackTraces = false) {own cls text : String} {names : List String} {ik is ic mc ms sa : Nat} {A : Nat → Prop}
    (hown : s.vm.findClass own = some m.cls) (hcls : Bundle.fit cls = true) (hnames : ∀ n ∈ names, Bundle.fit n = true)
    (hk : (Cond.classLink own ik cls).before args s = true) (hini : (Cond.initialized cls).before args s = true) (hstr : vk_R own is text sa s) (hat : ∀ w ∈ vx_atS own ic cls names, w.before args s = true)
    (hgood : ∀ w ∈ Cond.classLink own ik cls :: Cond.initialized cls :: vx_atS own ic cls names, vx_ot w = true)
    (hU : vx_Zq Bundle.tN "UNASSIGNED_STACK" Bundle.steD A s s.heap) (hN : vx_Zq Bundle.tN "SUPPRESSED_SENTINEL" Bundle.listD A s s.heap) (hS : va_S A s.heap H locs) (hsize : ls.size = c.maxLocals)
    (d0 : decode cc pc = .ok (.new ik, 3)) (d3 : decode cc (pc + 3) = .ok (.dup, 1)) (d4 : decode cc (pc + 4) = .ok (.ldc_w is, 3)) (d7 : decode cc (pc + 7) = .ok (.invokespecial ic, 3)) (d10 : decode cc (pc + 10) = .ok (.athrow, 1))
    (hout : ∀ x ∈ c.exceptionTable.toList, covers x (pc + 10) = false)
    (hRframes : names.length + 3 < R.frames) (hRlocals : (rest.map fun v => v.category).sum + (13 * (names.length + 1) + 43) ≤ R.locals) (hRcells : cells + 1 ≤ R.cells) (hRslots : slots + 6 ≤ R.slots) (hlocks : meth.locks = false)
    (hx : ∀ t : State, s.vm.Alike t.vm → H.size ≤ t.heap.size → (∀ q : Nat, q < H.size → t.heap[q]? = H[q]?) → XC cls s t)
    (hf : ∀ z ∈ locs, free z.base) (hc : cells + 1 ≤ mc) (hs : slots + 6 ≤ ms) :
    W p l e R s m args below meth c H locs cells slots (vx_MQ below Qc XC args s mc ms free) (F0 m pc ls rest) := by
  intro T hT X
  have htr : e.platform.stackTraces = false := (show e.platform.stackTraces = l.stackTraces by rw [X.admits.platform]).trans hl
  have Y := vx_rebase X (R' := { frames := R.frames, locals := R.locals, cells := 1, slots := 6 }) (Nat.le_refl _) (Nat.le_refl _) hRcells hRslots
  obtain ⟨s', hA⟩ : ∃ z, z = (T.setVm s.vm).setFrames (.invoking m args :: below) := ⟨_, rfl⟩
  rw [← hA] at Y
  have hvm : s'.vm = s.vm := by rw [hA]; rfl
  have hhp : s'.heap = H := by rw [hA]; exact hT
  have hW0 : s.WarmedH s'.vm := by rw [hvm]; exact State.WarmedH.refl s
  have hat' : ∀ w ∈ vx_atS own ic cls names, w.before args s' = true := fun w hw => vx_ot_at hW0 hvm.symm (hgood w (List.mem_cons_of_mem _ (List.mem_cons_of_mem _ hw))) (hat w hw)
  have hk' : (Cond.classLink own ik cls).before args s' = true := vx_ot_at hW0 hvm.symm (hgood _ List.mem_cons_self) hk
  have hini' : (Cond.initialized cls).before args s' = true := vx_ot_at hW0 hvm.symm (hgood _ (List.mem_cons_of_mem _ List.mem_cons_self)) hini
  have hU' : vx_Zq Bundle.tN "UNASSIGNED_STACK" Bundle.steD A s' s'.heap := by rw [hhp]; exact vx_Zq.moved hW0.alike (hU.kept hS.2.1)
  have hN' : vx_Zq Bundle.tN "SUPPRESSED_SENTINEL" Bundle.listD A s' s'.heap := by rw [hhp]; exact vx_Zq.moved hW0.alike (hN.kept hS.2.1)
  have h : ∀ w ∈ Bundle.ownAtoms own ic cls names, w.before args s' = true := vx_own hat' (vx_isRefq hU'.1) (vx_isRefq hN'.1) hU'.2.word hN'.2.word
  have hown' : s'.vm.findClass own = some m.cls := by rw [hvm]; exact hown
  have hins : (Cond.instantiable cls 6).before args s' = true := h _ (by simp [Bundle.ownAtoms])
  obtain ⟨vm₁, cX, kX, hfX, hkX, -, -, X₁, st1⟩ := Y.newCold hexec (own := own) (C := cls) (index := ik) (n := 6) hown' hk' hins hini'
    (g := F0 m pc ls rest) rfl (by rw [hb]; exact d0) (Nat.le_refl _) (Nat.le_refl _)
  generalize hT1 : (T.setVm vm₁).pushCell { cls := cX, slots := kX.instanceTypes.map defaultValue, vm := .none } = T1 at X₁ st1
  have hcat : (Value.ref T.heap.size).category = 1 := rfl
  have hcellA : T1.heap[T.heap.size]? = some (freshCell cX kX) := by rw [← hT1]; exact State.heap_pushCell_size _ _
  have d3' : decode c.code (pc + 3) = .ok (.dup, 1) := by rw [hb]; exact d3
  have d4' : decode c.code (pc + 4) = .ok (.ldc_w is, 3) := by rw [hb]; exact d4
  have hstr' : vk_R own is text sa s' := vk_R.warm hW0 hstr
  obtain ⟨U, hsteps, hrun, hend, hW, hsame, ce, hce, hO⟩ := X₁.ctorThrowS hexec htr (own := own) (cls := cls) (names := names) (ic := ic) hown' hcls hnames h (fun x hx => nomatch hx) hfX hkX hcellA (by rw [hhp, hT]; exact Nat.le_refl _) (msg := .ref sa) rfl
    (g := { method := m, pc := pc + 7, locals := ls, stack := .ref sa :: .ref T.heap.size :: .ref T.heap.size :: rest, locked := none }) rfl hsize rfl rfl (rest := rest) rfl
    (by rw [hb]; exact d7) (by rw [hb]; exact d10) hout hRframes (by simp only [List.map_cons, List.sum_cons, hcat]; omega) hlocks
  obtain ⟨f1, f2⟩ := vx_frame hsame
  rw [hhp] at f1 f2
  have hWs : s.WarmedH U.vm := State.WarmedH.trans hW0 hW
  have hcl : s.vm.findClass cls = some ce.cls := by
    have h9 := hO.cls
    rw [hvm] at h9
    exact h9
  have hall : s.sameButNew ({ U with vm := s.vm } : State) locs mc ms := by
    subst hA
    obtain ⟨e1, e2⟩ := hsame
    rw [State.setFrames_setFrames] at e1
    have h2 : (T.setVm s.vm).sameButNew ({ U with vm := s.vm } : State) [] (0 + 1) (0 + 6) := ⟨e1, e2⟩
    have h3 := X.same.trans h2
    rw [List.append_nil] at h3
    exact h3.mono hc hs
  refine ⟨U, ?_, .threw T.heap.size, hrun, hend, Or.inr ⟨T.heap.size, rfl, cls, ce, locs, hx U hWs.alike f1 (fun q hq => f2 q hq (fun z hz => nomatch hz)), hce, hO.vm, hcl, hWs, hall, hf⟩⟩
  refine st1 _ ?_
  show Steps p.tables e below (T1.setTop { method := m, pc := pc + 3, locals := ls, stack := .ref T.heap.size :: rest, locked := none }) _
  jvm_step X₁.here [X₁.here.top, hexec, d3', Value.category]
  exact X₁.ldcStringW hexec (own := own) (text := text) (index := is) (a := sa) hown' hstr'.1 hstr'.2
    (g := { method := m, pc := pc + 4, locals := ls, stack := .ref T.heap.size :: .ref T.heap.size :: rest, locked := none }) rfl d4' _ hsteps
end Ends
section Bodies
variable {l : Launch}
theorem vx_ofW {y : MethodName} {ws ws' : List Cond} {rm : Room} {Pc : Array Value → State → Prop} {Qc : Array Value → State → Outcome → State → Prop} {XC : String → State → State → Prop} {mc ms : Nat} {free : Addr → Prop} {cc : ByteArray} {maxL : Nat} {ret : Option FieldType}
    (hy : plainName y.cls = true) (hw : ws = Cond.code y cc maxL ret :: ws')
    (body : ∀ p e s m args below meth c s₁, BodyLoose p l y (headSpec ws rm) cc maxL ret e s m args below meth c s₁ → c.maxLocals = maxL → (∀ x ∈ c.exceptionTable.toList, False) → Pc args s →
      W p l e (headSpec ws rm).room s m args below meth c s.heap [] 0 0 (vx_MQ below Qc XC args s mc ms free) (entryFrame m args maxL)) : vx_Met l y ws rm Pc Qc XC mc ms free := by
  refine MetFree.of_bodyS (code := cc) (maxLocals := maxL) (ret := ret) hy ?_ ?_
  · intro args s m h hn
    obtain ⟨meth, c, h1, h2, h3, h4, h5, h6, -, -⟩ := Cond.code_spec hn (atoms_spec (ws := ws) h _ (by rw [hw]; exact List.mem_cons_self))
    exact ⟨meth, c, h1, h2, h3, h4, h5, h6⟩
  · intro p e s m args below meth c s₁ B hml hP _
    have hh0 : s₁.heap = s.heap := by rw [B.state]; rfl
    have ht : ∀ x ∈ c.exceptionTable.toList, False := by
      obtain ⟨meth9, c9, h1, h2, -, -, -, -, h7, -⟩ := Cond.code_spec B.named (atoms_spec (ws := ws) B.pre _ (by rw [hw]; exact List.mem_cons_self))
      cases Option.some.inj (h1.symm.trans B.method)
      cases Option.some.inj (h2.symm.trans (Stand.of_body B).code)
      intro x hx
      rw [Array.isEmpty_iff.mp h7] at hx
      cases hx
    obtain ⟨t, a1, o, b1, b2, b3⟩ := body p e s m args below meth c s₁ B hml ht hP s₁ hh0 (Stand.of_body B)
    exact ⟨t, o, a1, b1, b2, b3⟩
/-- the table of a body with handlers -/
theorem vx_table {p : Program} {x y : MethodName} {S : Spec} {cc bytes : ByteArray} {maxL maxL' : Nat} {ret ret' : Option FieldType} {e : Env} {s s₁ : State} {m : MethodId} {args : Array Value} {below : List Frame} {meth : Method} {c : Code} {hh : List (Nat × Nat × Nat × Nat)}
    (B : BodyLoose p l y S cc maxL ret e s m args below meth c s₁) (h : (Cond.codeWith y bytes maxL' ret' hh).before args s = true) : c.exceptionTable.toList = tableOf hh := by
  obtain ⟨m9, meth9, c9, hn9, h1, h2, -, -, h6, -⟩ := Cond.codeWith_spec h
  cases Option.some.inj (hn9.symm.trans B.named)
  cases Option.some.inj (h1.symm.trans B.method)
  cases Option.some.inj (h2.symm.trans (Stand.of_body B).code)
  rw [← h6, table_eq]
end Bodies
end VXA
/-! ===== END ===== -/
/-! ===== BEGIN a static call of a method with an exception table ===== -/
section VXS
variable {p : Program} {l : Launch} {e : Env} {R : Room} {s : State} {m : MethodId} {args : Array Value} {below : List Frame} {meth : Method} {c : Code} {T : State} {H : Heap} {locs : List Loc} {cells slots : Nat}
abbrev vx_CSW (R : Room) (s : State) (args : Array Value) (own : String) (index : Nat) (y : MethodName) (bytes : ByteArray) (maxL : Nat) (ret : Option FieldType) (hh : List (Nat × Nat × Nat × Nat)) (ws : List Cond) (rm : Room) (mc ms n : Nat) : Prop :=
  (rm.cells = mc ∧ rm.slots = ms ∧ rm.frames + 1 ≤ R.frames ∧ 8 + (maxL + 11) + rm.locals ≤ R.locals ∧ (∀ w ∈ ws, ∀ (a' : Array Value) (U : State), s.WarmedH U.vm → w.before a' U = true) ∧ Cond.codeWith y bytes maxL ret hh ∈ ws) ∧
  (Cond.codeWith y bytes maxL ret hh).before args s = true ∧ (Cond.initialized y.cls).before args s = true ∧ (y.cls ≠ "java/lang/invoke/MethodHandle" ∧ y.cls ≠ "java/lang/invoke/VarHandle") ∧
  (∀ sig, parseMethodDescriptor y.desc = some sig → n = sig.parameters.length) ∧ (Cond.methodLink own index y).before args s = true ∧ (Cond.static y).before args s = true
theorem vx_cwSW {own : String} {index maxL mc ms : Nat} {y : MethodName} {bytes : ByteArray} {ret : Option FieldType} {hh : List (Nat × Nat × Nat × Nat)} {Ts ws ws' : List Cond} {rm : Room} (n : Nat) (ht : ∀ w ∈ Ts, w.before args s = true) (hT : GoodIn Ts (va_wsS own index y ws)) (hw : ws = Cond.codeWith y bytes maxL ret hh :: ws') (hrc : rm.cells = mc) (hrs : rm.slots = ms)
    (hd : y.cls ≠ "java/lang/invoke/MethodHandle" ∧ y.cls ≠ "java/lang/invoke/VarHandle" ∧ (parseMethodDescriptor y.desc).map (fun d => d.parameters.length) = some n) (hR : rm.frames + 1 ≤ R.frames ∧ 8 + (maxL + 11) + rm.locals ≤ R.locals) :
    vx_CSW R s args own index y bytes maxL ret hh ws rm mc ms n := by
  have ok : ∀ w ∈ va_wsS own index y ws, w.before args s = true := fun w h => ht w (hT w h).1
  have hG : GoodIn Ts ws := fun w h => hT w (by unfold va_wsS; exact List.mem_append_right _ h)
  have hc : Cond.codeWith y bytes maxL ret hh ∈ ws := by rw [hw]; exact List.mem_cons_self
  refine ⟨⟨hrc, hrs, hR.1, hR.2, pay_in ht hG, hc⟩, ht _ (hG _ hc).1, ok _ (by simp [va_wsS]), ⟨hd.1, hd.2.1⟩, fun sig h => ?_, ok _ (by simp [va_wsS]), ok _ (by simp [va_wsS])⟩
  have h2 := hd.2.2
  rw [h] at h2
  exact (Option.some.inj h2).symm
theorem vx_callSW (X : Stand p l e R s m args below meth c T locs cells slots) (hexec : p.tables.exec = Jvm.exec) {own : String} {index : Nat} {y : MethodName} {bytes : ByteArray} {maxL : Nat} {ret : Option FieldType} {hh : List (Nat × Nat × Nat × Nat)}
    (hown : s.vm.findClass own = some m.cls) (hlink : (Cond.methodLink own index y).before args s = true) (hstat : (Cond.static y).before args s = true) (hinit : (Cond.initialized y.cls).before args s = true)
    (hcode : (Cond.codeWith y bytes maxL ret hh).before args s = true) (hy : y.cls ≠ "java/lang/invoke/MethodHandle" ∧ y.cls ≠ "java/lang/invoke/VarHandle")
    {W9 : Nat} {Pre : Pt → Array Value → Prop} {Post : Pt → Array Value → Option Value → Pt → Prop} (hK : Back l R p e below s args y 3 W9 Pre Post)
    {g : JFrame} (hg : g.method = m) (hsize : g.locals.size = c.maxLocals) {argsL rest : List Value} (hlen : ∀ sig, parseMethodDescriptor y.desc = some sig → argsL.length = sig.parameters.length)
    (hstack : g.stack = argsL.reverse ++ rest) (hW : 2 * g.monitorRoom + (rest.map fun v => v.category).sum ≤ W9) (hdg : decode c.code g.pc = .ok (.invokestatic index, 3))
    (hpre : ∀ vm₁, s.WarmedH vm₁ → Pre ⟨T.setVm vm₁, locs, cells, slots⟩ argsL.toArray) :
    ∃ (v : Option Value) (vm₁ : Vm) (B : Pt), s.WarmedH vm₁ ∧ Stand p l e R s m args below meth c B.U B.locs B.cells B.slots ∧ Post ⟨T.setVm vm₁, locs, cells, slots⟩ argsL.toArray v B ∧
      ∀ target, Steps p.tables e below (B.U.setTop { g with pc := g.pc + 3, stack := v.toList ++ rest }) target → Steps p.tables e below (T.setTop g) target := by
  obtain ⟨mk, methM, cM, hnamed, hmethM, -, -, -, -, -, -, hsigM⟩ := Cond.codeWith_spec hcode
  have hstatic : methM.isStatic = true := Cond.static_spec hnamed hmethM hstat
  obtain ⟨kP, hkP, -⟩ := className_of_methodNamed hnamed
  have hinitP : kP.init = .initialized := Cond.initialized_spec (findClass_of_methodNamed hnamed) hkP hinit
  obtain ⟨vm₁, X₁, hstep₁⟩ := X.invokestatic hexec hown hlink hnamed hmethM hstatic hkP hinitP hy (g := g) hg (argsL := argsL) (rest := rest) (hlen _ hsigM) hstack hdg
  obtain ⟨v, B, X', hpost, hsteps⟩ := hK m meth c ⟨T.setVm vm₁, locs, cells, slots⟩ { g with stack := rest } (.invokestatic index) mk argsL.toArray X₁ hg hsize hdg hW (X₁.named hnamed) (hpre vm₁ X₁.warmed)
  exact ⟨v, vm₁, B, X₁.warmed, X', hpost, fun target h => hstep₁ _ fun acts => by rw [doInvoke_state]; exact hsteps.trans h⟩
theorem vx_runSW {y : MethodName} {bytes cc : ByteArray} {maxL nL mc ms n index : Nat} {ret : Option FieldType} {hh : List (Nat × Nat × Nat × Nat)} {ws : List Cond} {rm : Room} {Pc : Array Value → State → Prop} {Qc : Array Value → State → Outcome → State → Prop} {free : Addr → Prop} {Ts : List Cond} {own : String} {As rest : List Value} {g : JFrame}
    (S : CallFix p m c cc nL s args Ts own) (hM : Met l y ws rm Pc Qc mc ms free) (cw : vx_CSW R s args own index y bytes maxL ret hh ws rm mc ms n) (hp : PreS s H Pc As)
    (hg : g.method = m) (hn : As.length = n) (hsize : g.locals.size = nL) (hstack : g.stack = As.reverse ++ rest) (hW : 2 * g.monitorRoom + (rest.map fun v => v.category).sum ≤ 8) (hdg : decode cc g.pc = .ok (.invokestatic index, 3)) (hf : cells + mc ≤ R.cells ∧ slots + ms ≤ R.slots) :
    va_Run p l e R s m args below meth c H locs cells slots mc ms g rest (Qc As.toArray) (free) := by
  obtain ⟨⟨hrc, hrs, hfr, hlo, hws, hcw⟩, hcode, hini, hy, hlen, hl, hstt⟩ := cw
  have hK : Back l R p e below s args y 3 8 (PreOf R mc ms Pc) (PostOf Qc mc ms free) := va_backW (hh := hh) (bytes := bytes) (maxL := maxL) (ret := ret) hM hp.1 hrc hrs hfr hlo hws hcw (fun a' U hW => word_at hW (Or.inl (by first | rfl | simp [Cond.onTables, Cond.keeps, Cond.steady])) hini)
  obtain ⟨hx, hb, hml, ho, -⟩ := S
  intro T hT X
  obtain ⟨v, vm₁, ⟨U', l2, c2, s2⟩, hW₁, X', ⟨g', mk, t, L, e1, e2, hq, h1, hL, h2, h3⟩, st⟩ := vx_callSW X hx (hh := hh) (bytes := bytes) (maxL := maxL) (ret := ret) ho hl hstt hini hcode hy hK hg (hsize.trans hml.symm) (argsL := As) (rest := rest) (fun sig h => hn.trans (hlen sig h)) hstack hW (by rw [hb]; exact hdg)
    (fun vm₁ hW₁ => ⟨hf.1, hf.2, hp.2 (T.setVm vm₁) hT hW₁⟩)
  dsimp only [Pt.U, Pt.locs, Pt.cells, Pt.slots] at X' e1 e2 h1 h2 h3 st
  subst h1; subst h2; subst h3
  exact ⟨v, (T.setVm vm₁).calling g' mk As.toArray, t, U', L, hT, X', hL, e1, e2, hq, st⟩
/-- not caught here, past rows that name other classes: it goes on to the caller -/
theorem vx_outP {p : Program} {l : Launch} {e : Env} {R : Room} {s : State} {m : MethodId} {args : Array Value} {below : List Frame} {meth : Method} {c : Code} {H : Heap} {locs : List Loc} {cells slots : Nat} {free : Addr → Prop} {ls : Array Slot} {rest : List Value} {Qc : Array Value → State → Outcome → State → Prop} {XC : String → State → State → Prop}
    {pc : Nat} {own E : String} {ce : Cell} {q : Addr} {mc ms : Nat} (hown : s.vm.findClass own = some m.cls) (hlocks : meth.locks = false)
    (hpass : ∀ z ∈ c.exceptionTable.toList, covers z pc = false ∨ (z.catchType ≠ 0 ∧ ∃ nm : String, (Cond.classLink own z.catchType nm).before args s = true ∧ va_Nc E nm s)) (hcell : H[q]? = some ce) (hv : ce.vm = .none) (hcl : s.vm.findClass E = some ce.cls)
    (hx : ∀ t : State, t.heap = H → s.vm.Alike t.vm → XC E s t) (hf : ∀ z ∈ locs, free z.base) (hc : cells ≤ mc) (hs : slots ≤ ms) :
    vx_W p l e R s m args below meth c H locs cells slots (vx_MQ below Qc XC args s mc ms free) (F0 m pc ls rest) q := by
  intro T hT X
  have hpl : e.platform.magicAccessors = ({} : Platform).magicAccessors := by rw [X.admits.platform]
  obtain ⟨vm', hW', X', st⟩ := X.outThrough hlocks q (g := F0 m pc ls rest) rfl rfl rfl (cell := ce) (by rw [hT]; exact hcell) (by rw [hv]; rfl)
    (by obtain ⟨k9, h9, -⟩ := Vm.findClass_spec hcl; exact ⟨k9, h9⟩) (fun z hz => by
      rcases hpass z hz with h | ⟨hz0, nm, hl1, hn1⟩
      · exact Or.inl h
      · obtain ⟨c6, hc6, hcl6⟩ := Cond.classLink_spec hown hl1 e.platform hpl
        obtain ⟨a8, b8, h1, h2, h3⟩ := hn1
        cases Option.some.inj (h1.symm.trans hcl)
        cases Option.some.inj (h2.symm.trans hc6)
        exact Or.inr ⟨hz0, _, hcl6, h3⟩)
  obtain ⟨g₀, hfr⟩ := X'.frames_eq
  have hcell9 : ((T.setVm vm').setFrames (.throwing q :: below)).heap[q]? = some ce := by
    show T.heap[q]? = some ce
    rw [hT]; exact hcell
  have hend : Ended ((T.setVm vm').setFrames (.throwing q :: below)) below (.threw q) := State.frames_setFrames _ (State.cur_lt_of_frames hfr)
  refine ⟨(T.setVm vm').setFrames (.throwing q :: below), ?_, .threw q, X'.here.running, hend, Or.inr ⟨q, rfl, E, ce, locs, hx _ hT (X'.ends _).1.alike, hcell9, hv, hcl, (X'.ends _).1, (X'.ends _).2.mono hc hs, hf⟩⟩
  rw [X.pushThrowing_eq]
  exact st
/-- a thing of a world lies in the heap -/
theorem vx_lt {D : va_G} {cl : List vw_C} {ws : va_W} {H1 : Heap} (h : va_P D cl ws H1) {k : Nat} {q : Nat × va_E} (hk : ws[k]? = some q) : q.1 < H1.size := (h k q hk).lt
end VXS
/-! ===== END ===== -/
/-! ===== BEGIN methods with a table of their own: called by a name, returning or throwing ===== -/
section VXH
/-! vx_backW, vx_callVX, vx_callSX, vx_callVW, vx_runVW, vx_runVX, vx_runSX, vx_ofWH follow the same proofs as their sisters above (Free/Laws.lean, Shelf42/LK1.lean); vx_outP calls Shelf42/NT130.lean (outThrough). -/
section
variable {l : Launch} {R : Room} {p : Program} {e : Env} {below : List Frame} {s : State} {sargs : Array Value} {y : MethodName} {len W9 : Nat}
theorem vx_backW {ws : List Cond} {rm : Room} {Pc : Array Value → State → Prop} {Qc : Array Value → State → Outcome → State → Prop} {XC : String → State → State → Prop} {mc ms : Nat} {free : Addr → Prop} {bytes : ByteArray} {maxL : Nat} {ret : Option FieldType} {hh : List (Nat × Nat × Nat × Nat)}
    (hM : vx_Met l y ws rm Pc Qc XC mc ms free) (hblind : FrameBlind Pc) (hrc : rm.cells = mc) (hrs : rm.slots = ms)
    (hframes : rm.frames + 1 ≤ R.frames) (hlocals : W9 + (maxL + 11) + rm.locals ≤ R.locals)
    (hws : ∀ w ∈ ws, ∀ a' U, s.WarmedH U.vm → w.before a' U = true) (hcode : Cond.codeWith y bytes maxL ret hh ∈ ws) (hinit : ∀ a' U, s.WarmedH U.vm → (Cond.initialized y.cls).before a' U = true) :
    vx_Back l R p e below s sargs y len W9 (PreOf R mc ms Pc) (PostOf Qc mc ms free) (vx_Post XC mc ms free) := by
  intro m meth c A g ig mk a X hg hsize hdg hW hn hp
  have h1 : (headSpec ws rm).pre.before a A.U = true := atoms_intro fun w hw => hws w hw _ _ X.warmed
  have h2 : (Cond.codeWith y bytes maxL ret hh).before a A.U = true := hws _ hcode _ _ X.warmed
  have h3 : (Cond.initialized y.cls).before a A.U = true := hinit _ _ X.warmed
  have h4 : A.cells + (headSpec ws rm).room.cells ≤ R.cells := by rw [show (headSpec ws rm).room.cells = mc from hrc]; exact hp.1
  have h5 : A.slots + (headSpec ws rm).room.slots ≤ R.slots := by rw [show (headSpec ws rm).room.slots = ms from hrs]; exact hp.2.1
  have hPc : Pc a (A.U.calling g mk a) := hblind _ _ _ _ hp.2.2
  obtain ⟨U, Ls, c0, s0⟩ := A
  dsimp only [Pt.U, Pt.locs, Pt.cells, Pt.slots] at h1 h2 h3 h4 h5 X hn hPc ⊢
  obtain ⟨m9, methY, cY, hn9, hmY, hcY, -, hlY, -⟩ := Cond.codeWith_spec h2
  cases Option.some.inj (hn9.symm.trans hn)
  obtain ⟨kY, hkY, -⟩ := className_of_methodNamed hn
  have hinitY : kY.init = .initialized := Cond.initialized_spec (findClass_of_methodNamed hn) hkY h3
  have h : At U g.method c below := by rw [hg]; exact X.here
  have hlocals9 : W9 + (maxL + 11) + (headSpec ws rm).room.locals ≤ R.locals := hlocals
  have happ : (headSpec ws rm).appliesLoose y e.platform (U.calling g mk a) = true :=
    Spec.appliesLoose_calling (g := g) h hdg hn hkY hinitY
      (X.room_calling (g := g) (R' := (headSpec ws rm).room) hsize hmY hcY hframes (by rw [hlY]; omega) h4 h5) h1
  obtain ⟨mid, hmid⟩ := h.above
  have hfr : (U.setTop g).frames = (.java g :: mid) ++ below := by rw [State.frames_setTop' g h.top, hmid]; rfl
  obtain ⟨o, s₂, hsteps, -, hend, hq⟩ := Steps.callFree hM p X.admits X.cas X.clock (acts := []) hfr happ hPc trivial
  have hq' : vx_Q Qc XC mc ms free a (U.calling g mk a) o s₂ := hq
  rw [State.frames_setTop' g h.top] at hend
  obtain ⟨g₀, hg0⟩ := Option.isSome_iff_exists.mp h.top
  obtain ⟨r, hr⟩ := State.topJava?_eq_some.mp hg0
  have hr' : (({ U with heap := s₂.heap, slotsUsed := s₂.slotsUsed } : State).setVm s₂.vm).frames = .java g₀ :: r := hr
  rcases hq' with ⟨hqc, L, hfe, hL⟩ | ⟨q, rfl, E, ce, L, hx, hce, hcv, hcl, hW₂, hsm, hL⟩
  · obtain ⟨⟨v, rfl⟩, hW₂, e2, q2, q3, q4, q5, q6⟩ := id hfe
    have e3 : s₂ = ({ (U.calling g mk a).setFrames s₂.frames with heap := s₂.heap, slotsUsed := s₂.slotsUsed } : State).setVm s₂.vm := by
      have : s₂ = ({ s₂ with vm := (U.calling g mk a).vm } : State).setVm s₂.vm := rfl
      rw [e2] at this
      exact this
    obtain ⟨c₂, i₂, len₂, hc₂, hd₂, hf₂⟩ := hend
    have hW' : U.WarmedH s₂.vm := hW₂
    have hcc : c₂ = c := by
      have h1 : s₂.code? g.method = U.code? g.method := by
        rw [State.code?_eq, State.code?_eq, hW'.alike.method?]
      exact Option.some.inj (hc₂.symm.trans (h1.trans h.code))
    subst hcc
    have hlen : len₂ = len := by rw [hdg] at hd₂; cases hd₂; rfl
    subst hlen
    have hs₂ : s₂ = (({ U with heap := s₂.heap, slotsUsed := s₂.slotsUsed } : State).setVm s₂.vm).setTop { g with pc := g.pc + len₂, stack := v.toList ++ g.stack } := by
      refine e3.trans ?_
      rw [hf₂, State.calling_eq h.top, State.setFrames_setFrames, State.setTop_of_frames _ hr', hr]
      rfl
    have hsame : U.sameButNew ({ U with heap := s₂.heap, slotsUsed := s₂.slotsUsed } : State) L mc ms := by
      refine ⟨?_, q2, q3, q4, q5, q6⟩
      obtain ⟨t, ht, -⟩ := State.frames_cons hr
      show ({ U with heap := s₂.heap, slotsUsed := s₂.slotsUsed } : State) = { U.setFrames U.frames with heap := s₂.heap, slotsUsed := s₂.slotsUsed }
      rw [State.setFrames_self ht]
    subst hg
    refine Or.inl ⟨v, ⟨(({ U with heap := s₂.heap, slotsUsed := s₂.slotsUsed } : State).setVm s₂.vm), Ls ++ L, c0 + mc, s0 + ms⟩,
      ⟨X.admits, X.cas, X.clock, X.frames, X.room, X.hears, X.method, X.code, (X.here.setHeapUsed s₂.heap s₂.slotsUsed).setVm hW'.alike, X.tail, State.WarmedH.trans X.warmed hW', X.limits, X.bytes, X.same.trans (hsame.setVm s.vm)⟩,
      ⟨g, mk, s₂, L, rfl, rfl, hqc, rfl, hL, rfl, rfl⟩, ?_⟩
    show Steps p.tables e below _ ((({ U with heap := s₂.heap, slotsUsed := s₂.slotsUsed } : State).setVm s₂.vm).setTop { g with pc := g.pc + len₂, stack := v.toList ++ g.stack })
    rw [← hs₂]
    exact hsteps
  · obtain ⟨e2, q2, q3, q4, q5, q6⟩ := id hsm
    have e3 : s₂ = ({ (U.calling g mk a).setFrames s₂.frames with heap := s₂.heap, slotsUsed := s₂.slotsUsed } : State).setVm s₂.vm := by
      have : s₂ = ({ s₂ with vm := (U.calling g mk a).vm } : State).setVm s₂.vm := rfl
      rw [e2] at this
      exact this
    have hf₂ : s₂.frames = .throwing q :: .java g :: U.frames.tail := hend
    have hW' : U.WarmedH s₂.vm := hW₂
    have hs₂ : s₂ = ((({ U with heap := s₂.heap, slotsUsed := s₂.slotsUsed } : State).setVm s₂.vm).setTop g).pushFrame (.throwing q) := by
      refine e3.trans ?_
      rw [hf₂, State.calling_eq h.top, State.setFrames_setFrames, State.pushFrame, State.frames_setTop _ hr', State.setTop_of_frames _ hr', State.setFrames_setFrames, hr]
      rfl
    have hsame : U.sameButNew ({ U with heap := s₂.heap, slotsUsed := s₂.slotsUsed } : State) L mc ms := by
      refine ⟨?_, q2, q3, q4, q5, q6⟩
      obtain ⟨t, ht, -⟩ := State.frames_cons hr
      show ({ U with heap := s₂.heap, slotsUsed := s₂.slotsUsed } : State) = { U.setFrames U.frames with heap := s₂.heap, slotsUsed := s₂.slotsUsed }
      rw [State.setFrames_self ht]
    subst hg
    refine Or.inr ⟨q, ⟨(({ U with heap := s₂.heap, slotsUsed := s₂.slotsUsed } : State).setVm s₂.vm), Ls ++ L, c0 + mc, s0 + ms⟩,
      ⟨X.admits, X.cas, X.clock, X.frames, X.room, X.hears, X.method, X.code, (X.here.setHeapUsed s₂.heap s₂.slotsUsed).setVm hW'.alike, X.tail, State.WarmedH.trans X.warmed hW', X.limits, X.bytes, X.same.trans (hsame.setVm s.vm)⟩,
      ⟨g, mk, s₂, L, E, ce, rfl, rfl, hx, hce, hcv, hcl, rfl, hL, rfl, rfl⟩, ?_⟩
    show Steps p.tables e below _ (((({ U with heap := s₂.heap, slotsUsed := s₂.slotsUsed } : State).setVm s₂.vm).setTop g).pushFrame (.throwing q))
    rw [← hs₂]
    exact hsteps
end
variable {p : Program} {l : Launch} {e : Env} {R : Room} {s : State} {m : MethodId} {args : Array Value} {below : List Frame} {meth : Method} {c : Code} {T : State} {H : Heap} {locs : List Loc} {cells slots : Nat}
theorem vx_callVX (X : Stand p l e R s m args below meth c T locs cells slots) (hexec : p.tables.exec = Jvm.exec) {own C : String} {index : Nat} {y : MethodName} {bytes : ByteArray} {maxL : Nat} {ret : Option FieldType} {hh : List (Nat × Nat × Nat × Nat)}
    (hown : s.vm.findClass own = some m.cls) (hlink : (Cond.methodLink own index y).before args s = true) (hinst : (Cond.instanceMethod y).before args s = true) (hsel : (Cond.selects C y y).before args s = true)
    (hcode : (Cond.codeWith y bytes maxL ret hh).before args s = true) (hy : y.cls ≠ "java/lang/invoke/MethodHandle" ∧ y.cls ≠ "java/lang/invoke/VarHandle")
    {W9 : Nat} {Pre : Pt → Array Value → Prop} {Post : Pt → Array Value → Option Value → Pt → Prop} {PostX : Pt → Array Value → Addr → Pt → Prop} (hK : vx_Back l R p e below s args y 3 W9 Pre Post PostX)
    {b : Addr} {cellB : Cell} (hcell : T.heap[b]? = some cellB) (hobj : cellB.vm.isStatics = false) (hcls : s.vm.findClass C = some cellB.cls)
    {g : JFrame} (hg : g.method = m) (hsize : g.locals.size = c.maxLocals) {argsL rest : List Value} (hlen : ∀ sig, parseMethodDescriptor y.desc = some sig → argsL.length = sig.parameters.length)
    (hstack : g.stack = argsL.reverse ++ .ref b :: rest) (hW : 2 * g.monitorRoom + (rest.map fun v => v.category).sum ≤ W9) (hdg : decode c.code g.pc = .ok (.invokevirtual index, 3))
    (hpre : ∀ vm₁, s.WarmedH vm₁ → Pre ⟨T.setVm vm₁, locs, cells, slots⟩ (Value.ref b :: argsL).toArray) :
    (∃ (v : Option Value) (vm₁ : Vm) (B : Pt), s.WarmedH vm₁ ∧ Stand p l e R s m args below meth c B.U B.locs B.cells B.slots ∧ Post ⟨T.setVm vm₁, locs, cells, slots⟩ (Value.ref b :: argsL).toArray v B ∧
      ∀ target, Steps p.tables e below (B.U.setTop { g with pc := g.pc + 3, stack := v.toList ++ rest }) target → Steps p.tables e below (T.setTop g) target) ∨
    (∃ (q : Addr) (vm₁ : Vm) (B : Pt), s.WarmedH vm₁ ∧ Stand p l e R s m args below meth c B.U B.locs B.cells B.slots ∧ PostX ⟨T.setVm vm₁, locs, cells, slots⟩ (Value.ref b :: argsL).toArray q B ∧
      Steps p.tables e below (T.setTop g) ((B.U.setTop { g with stack := rest }).pushFrame (.throwing q))) := by
  obtain ⟨mk, methM, hnamed, hmethM, hstM, habM⟩ := Cond.instanceMethod_spec hinst
  obtain ⟨m8, methM', cM, hn8, hmethM', -, -, -, -, -, -, hsigM⟩ := Cond.codeWith_spec hcode
  cases Option.some.inj (hn8.symm.trans hnamed)
  cases hmethM.symm.trans hmethM'
  obtain ⟨c2, r2, m2, q1, q2, q3, q4, kP, hkP, hkPi⟩ := Cond.selects_spec hsel
  cases hcls.symm.trans q1
  cases (State.methodFound?_of_named hnamed hy).symm.trans q2
  cases hnamed.symm.trans q3
  have hselP : selectMethod e.platform s.vm cellB.cls mk = .method mk := by rw [Launch.admits_selectMethod X.admits]; exact q4
  obtain ⟨vm₁, X₁, hstep₁⟩ := X.invokevirtual hexec hown hlink hnamed hmethM hstM hkP hkPi hy (a := b) (cell := cellB) hcell
    (fun z h => by rw [h] at hobj; cases hobj) hselP hmethM habM hkP hkPi (g := g) hg (argsL := argsL) (rest := rest) (hlen _ hsigM) hstack hdg
  rcases hK m meth c ⟨T.setVm vm₁, locs, cells, slots⟩ { g with stack := rest } (.invokevirtual index) mk (Value.ref b :: argsL).toArray X₁ hg hsize hdg hW (X₁.named hnamed) (hpre vm₁ X₁.warmed) with ⟨v, B, X', hpost, hsteps⟩ | ⟨q, B, X', hpost, hsteps⟩
  · exact Or.inl ⟨v, vm₁, B, X₁.warmed, X', hpost, fun target h => hstep₁ _ fun acts => by rw [doInvoke_state]; exact hsteps.trans h⟩
  · exact Or.inr ⟨q, vm₁, B, X₁.warmed, X', hpost, hstep₁ _ fun acts => by rw [doInvoke_state]; exact hsteps⟩
theorem vx_callSX (X : Stand p l e R s m args below meth c T locs cells slots) (hexec : p.tables.exec = Jvm.exec) {own : String} {index : Nat} {y : MethodName} {bytes : ByteArray} {maxL : Nat} {ret : Option FieldType} {hh : List (Nat × Nat × Nat × Nat)}
    (hown : s.vm.findClass own = some m.cls) (hlink : (Cond.methodLink own index y).before args s = true) (hstat : (Cond.static y).before args s = true) (hinit : (Cond.initialized y.cls).before args s = true)
    (hcode : (Cond.codeWith y bytes maxL ret hh).before args s = true) (hy : y.cls ≠ "java/lang/invoke/MethodHandle" ∧ y.cls ≠ "java/lang/invoke/VarHandle")
    {W9 : Nat} {Pre : Pt → Array Value → Prop} {Post : Pt → Array Value → Option Value → Pt → Prop} {PostX : Pt → Array Value → Addr → Pt → Prop} (hK : vx_Back l R p e below s args y 3 W9 Pre Post PostX)
    {g : JFrame} (hg : g.method = m) (hsize : g.locals.size = c.maxLocals) {argsL rest : List Value} (hlen : ∀ sig, parseMethodDescriptor y.desc = some sig → argsL.length = sig.parameters.length)
    (hstack : g.stack = argsL.reverse ++ rest) (hW : 2 * g.monitorRoom + (rest.map fun v => v.category).sum ≤ W9) (hdg : decode c.code g.pc = .ok (.invokestatic index, 3))
    (hpre : ∀ vm₁, s.WarmedH vm₁ → Pre ⟨T.setVm vm₁, locs, cells, slots⟩ argsL.toArray) :
    (∃ (v : Option Value) (vm₁ : Vm) (B : Pt), s.WarmedH vm₁ ∧ Stand p l e R s m args below meth c B.U B.locs B.cells B.slots ∧ Post ⟨T.setVm vm₁, locs, cells, slots⟩ argsL.toArray v B ∧
      ∀ target, Steps p.tables e below (B.U.setTop { g with pc := g.pc + 3, stack := v.toList ++ rest }) target → Steps p.tables e below (T.setTop g) target) ∨
    (∃ (q : Addr) (vm₁ : Vm) (B : Pt), s.WarmedH vm₁ ∧ Stand p l e R s m args below meth c B.U B.locs B.cells B.slots ∧ PostX ⟨T.setVm vm₁, locs, cells, slots⟩ argsL.toArray q B ∧
      Steps p.tables e below (T.setTop g) ((B.U.setTop { g with stack := rest }).pushFrame (.throwing q))) := by
  obtain ⟨mk, methM, cM, hnamed, hmethM, -, -, -, -, -, -, hsigM⟩ := Cond.codeWith_spec hcode
  have hstatic : methM.isStatic = true := Cond.static_spec hnamed hmethM hstat
  obtain ⟨kP, hkP, -⟩ := className_of_methodNamed hnamed
  have hinitP : kP.init = .initialized := Cond.initialized_spec (findClass_of_methodNamed hnamed) hkP hinit
  obtain ⟨vm₁, X₁, hstep₁⟩ := X.invokestatic hexec hown hlink hnamed hmethM hstatic hkP hinitP hy (g := g) hg (argsL := argsL) (rest := rest) (hlen _ hsigM) hstack hdg
  rcases hK m meth c ⟨T.setVm vm₁, locs, cells, slots⟩ { g with stack := rest } (.invokestatic index) mk argsL.toArray X₁ hg hsize hdg hW (X₁.named hnamed) (hpre vm₁ X₁.warmed) with ⟨v, B, X', hpost, hsteps⟩ | ⟨q, B, X', hpost, hsteps⟩
  · exact Or.inl ⟨v, vm₁, B, X₁.warmed, X', hpost, fun target h => hstep₁ _ fun acts => by rw [doInvoke_state]; exact hsteps.trans h⟩
  · exact Or.inr ⟨q, vm₁, B, X₁.warmed, X', hpost, hstep₁ _ fun acts => by rw [doInvoke_state]; exact hsteps⟩
theorem vx_callVW (X : Stand p l e R s m args below meth c T locs cells slots) (hexec : p.tables.exec = Jvm.exec) {own C : String} {index : Nat} {y : MethodName} {bytes : ByteArray} {maxL : Nat} {ret : Option FieldType} {hh : List (Nat × Nat × Nat × Nat)}
    (hown : s.vm.findClass own = some m.cls) (hlink : (Cond.methodLink own index y).before args s = true) (hinst : (Cond.instanceMethod y).before args s = true) (hsel : (Cond.selects C y y).before args s = true)
    (hcode : (Cond.codeWith y bytes maxL ret hh).before args s = true) (hy : y.cls ≠ "java/lang/invoke/MethodHandle" ∧ y.cls ≠ "java/lang/invoke/VarHandle")
    {W9 : Nat} {Pre : Pt → Array Value → Prop} {Post : Pt → Array Value → Option Value → Pt → Prop} (hK : Back l R p e below s args y 3 W9 Pre Post)
    {b : Addr} {cellB : Cell} (hcell : T.heap[b]? = some cellB) (hobj : cellB.vm.isStatics = false) (hcls : s.vm.findClass C = some cellB.cls)
    {g : JFrame} (hg : g.method = m) (hsize : g.locals.size = c.maxLocals) {argsL rest : List Value} (hlen : ∀ sig, parseMethodDescriptor y.desc = some sig → argsL.length = sig.parameters.length)
    (hstack : g.stack = argsL.reverse ++ .ref b :: rest) (hW : 2 * g.monitorRoom + (rest.map fun v => v.category).sum ≤ W9) (hdg : decode c.code g.pc = .ok (.invokevirtual index, 3))
    (hpre : ∀ vm₁, s.WarmedH vm₁ → Pre ⟨T.setVm vm₁, locs, cells, slots⟩ (Value.ref b :: argsL).toArray) :
    ∃ (v : Option Value) (vm₁ : Vm) (B : Pt), s.WarmedH vm₁ ∧ Stand p l e R s m args below meth c B.U B.locs B.cells B.slots ∧ Post ⟨T.setVm vm₁, locs, cells, slots⟩ (Value.ref b :: argsL).toArray v B ∧
      ∀ target, Steps p.tables e below (B.U.setTop { g with pc := g.pc + 3, stack := v.toList ++ rest }) target → Steps p.tables e below (T.setTop g) target := by
  obtain ⟨mk, methM, hnamed, hmethM, hstM, habM⟩ := Cond.instanceMethod_spec hinst
  obtain ⟨m8, methM', cM, hn8, hmethM', -, -, -, -, -, -, hsigM⟩ := Cond.codeWith_spec hcode
  cases Option.some.inj (hn8.symm.trans hnamed)
  cases hmethM.symm.trans hmethM'
  obtain ⟨c2, r2, m2, q1, q2, q3, q4, kP, hkP, hkPi⟩ := Cond.selects_spec hsel
  cases hcls.symm.trans q1
  cases (State.methodFound?_of_named hnamed hy).symm.trans q2
  cases hnamed.symm.trans q3
  have hselP : selectMethod e.platform s.vm cellB.cls mk = .method mk := by rw [Launch.admits_selectMethod X.admits]; exact q4
  obtain ⟨vm₁, X₁, hstep₁⟩ := X.invokevirtual hexec hown hlink hnamed hmethM hstM hkP hkPi hy (a := b) (cell := cellB) hcell
    (fun z h => by rw [h] at hobj; cases hobj) hselP hmethM habM hkP hkPi (g := g) hg (argsL := argsL) (rest := rest) (hlen _ hsigM) hstack hdg
  obtain ⟨v, B, X', hpost, hsteps⟩ := hK m meth c ⟨T.setVm vm₁, locs, cells, slots⟩ { g with stack := rest } (.invokevirtual index) mk (Value.ref b :: argsL).toArray X₁ hg hsize hdg hW (X₁.named hnamed) (hpre vm₁ X₁.warmed)
  exact ⟨v, vm₁, B, X₁.warmed, X', hpost, fun target h => hstep₁ _ fun acts => by rw [doInvoke_state]; exact hsteps.trans h⟩
abbrev vx_CVW (R : Room) (s : State) (args : Array Value) (own C : String) (index : Nat) (y : MethodName) (bytes : ByteArray) (maxL : Nat) (ret : Option FieldType) (hh : List (Nat × Nat × Nat × Nat)) (ws : List Cond) (rm : Room) (mc ms n : Nat) : Prop :=
  (rm.cells = mc ∧ rm.slots = ms ∧ rm.frames + 1 ≤ R.frames ∧ 8 + (maxL + 11) + rm.locals ≤ R.locals ∧ (∀ w ∈ ws, ∀ (a' : Array Value) (U : State), s.WarmedH U.vm → w.before a' U = true) ∧ Cond.codeWith y bytes maxL ret hh ∈ ws) ∧
  (Cond.codeWith y bytes maxL ret hh).before args s = true ∧ (Cond.initialized y.cls).before args s = true ∧ (y.cls ≠ "java/lang/invoke/MethodHandle" ∧ y.cls ≠ "java/lang/invoke/VarHandle") ∧
  (∀ sig, parseMethodDescriptor y.desc = some sig → n = sig.parameters.length) ∧ (Cond.methodLink own index y).before args s = true ∧ (Cond.instanceMethod y).before args s = true ∧ (Cond.selects C y y).before args s = true
theorem vx_cwVW {own C : String} {index maxL mc ms : Nat} {y : MethodName} {bytes : ByteArray} {ret : Option FieldType} {hh : List (Nat × Nat × Nat × Nat)} {Ts ws ws' : List Cond} {rm : Room} (n : Nat) (ht : ∀ w ∈ Ts, w.before args s = true) (hT : GoodIn Ts (wsV own index C y ws)) (hw : ws = Cond.codeWith y bytes maxL ret hh :: ws') (hrc : rm.cells = mc) (hrs : rm.slots = ms)
    (hd : y.cls = C ∧ y.cls ≠ "java/lang/invoke/MethodHandle" ∧ y.cls ≠ "java/lang/invoke/VarHandle" ∧ (parseMethodDescriptor y.desc).map (fun d => d.parameters.length) = some n) (hR : rm.frames + 1 ≤ R.frames ∧ 8 + (maxL + 11) + rm.locals ≤ R.locals) :
    vx_CVW R s args own C index y bytes maxL ret hh ws rm mc ms n := by
  obtain ⟨hC, hd⟩ := hd
  subst hC
  have ok : ∀ w ∈ wsV own index y.cls y ws, w.before args s = true := fun w h => ht w (hT w h).1
  have hG : GoodIn Ts ws := fun w h => hT w (by unfold wsV; exact List.mem_append_right _ h)
  have hc : Cond.codeWith y bytes maxL ret hh ∈ ws := by rw [hw]; exact List.mem_cons_self
  refine ⟨⟨hrc, hrs, hR.1, hR.2, pay_in ht hG, hc⟩, ht _ (hG _ hc).1, ok _ (by simp [wsV]), ⟨hd.1, hd.2.1⟩, fun sig h => ?_, ok _ (by simp [wsV]), ok _ (by simp [wsV]), ok _ (by simp [wsV])⟩
  have h2 := hd.2.2
  rw [h] at h2
  exact (Option.some.inj h2).symm
theorem vx_runVW {y : MethodName} {bytes cc : ByteArray} {maxL nL mc ms n index : Nat} {ret : Option FieldType} {hh : List (Nat × Nat × Nat × Nat)} {ws : List Cond} {rm : Room} {Pc : Array Value → State → Prop} {Qc : Array Value → State → Outcome → State → Prop} {free : Addr → Prop} {Ts : List Cond} {own C : String} {b : Addr} {As rest : List Value} {g : JFrame}
    (S : CallFix p m c cc nL s args Ts own) (hM : Met l y ws rm Pc Qc mc ms free) (cw : vx_CVW R s args own C index y bytes maxL ret hh ws rm mc ms n) (hp : PreV s H C b Pc As)
    (hg : g.method = m) (hn : As.length = n) (hsize : g.locals.size = nL) (hstack : g.stack = As.reverse ++ .ref b :: rest) (hW : 2 * g.monitorRoom + (rest.map fun v => v.category).sum ≤ 8) (hdg : decode cc g.pc = .ok (.invokevirtual index, 3)) (hf : cells + mc ≤ R.cells ∧ slots + ms ≤ R.slots) :
    va_Run p l e R s m args below meth c H locs cells slots mc ms g rest (Qc (Value.ref b :: As).toArray) free := by
  obtain ⟨⟨hrc, hrs, hfr, hlo, hws, hcw⟩, hcode, hini, hy, hlen, hl, hin, hse⟩ := cw
  have hK : Back l R p e below s args y 3 8 (PreOf R mc ms Pc) (PostOf Qc mc ms free) := va_backW (hh := hh) (bytes := bytes) (maxL := maxL) (ret := ret) hM hp.1 hrc hrs hfr hlo hws hcw (fun a' U hW => word_at hW (Or.inl (by first | rfl | simp [Cond.onTables, Cond.keeps, Cond.steady])) hini)
  obtain ⟨hx, hb, hml, ho, -⟩ := S
  obtain ⟨-, ⟨cellB, hcB, hoB, hclB⟩, hPc⟩ := hp
  intro T hT X
  obtain ⟨v, vm₁, ⟨U', l2, c2, s2⟩, hW₁, X', ⟨g', mk, t, L, e1, e2, hq, h1, hL, h2, h3⟩, st⟩ := vx_callVW X hx (C := C) (hh := hh) (bytes := bytes) (maxL := maxL) (ret := ret) ho hl hin hse hcode hy hK (by rw [hT]; exact hcB) hoB hclB hg (hsize.trans hml.symm) (argsL := As) (rest := rest) (fun sig h => hn.trans (hlen sig h)) hstack hW (by rw [hb]; exact hdg)
    (fun vm₁ hW₁ => ⟨hf.1, hf.2, hPc (T.setVm vm₁) hT hW₁⟩)
  dsimp only [Pt.U, Pt.locs, Pt.cells, Pt.slots] at X' e1 e2 h1 h2 h3 st
  subst h1; subst h2; subst h3
  exact ⟨v, (T.setVm vm₁).calling g' mk (Value.ref b :: As).toArray, t, U', L, hT, X', hL, e1, e2, hq, st⟩
section
variable {y : MethodName} {bytes cc : ByteArray} {maxL nL mc ms n index : Nat} {ret : Option FieldType} {ws : List Cond} {rm : Room} {Pc : Array Value → State → Prop} {Qc : Array Value → State → Outcome → State → Prop} {XC : String → State → State → Prop} {free : Addr → Prop} {Ts : List Cond} {own C : String} {b : Addr} {As rest : List Value} {g : JFrame}
theorem vx_runVX {hh : List (Nat × Nat × Nat × Nat)} (S : CallFix p m c cc nL s args Ts own) (hM : vx_Met l y ws rm Pc Qc XC mc ms free) (cw : vx_CVW R s args own C index y bytes maxL ret hh ws rm mc ms n) (hp : PreV s H C b Pc As)
    (hg : g.method = m) (hn : As.length = n) (hsize : g.locals.size = nL) (hstack : g.stack = As.reverse ++ .ref b :: rest) (hW : 2 * g.monitorRoom + (rest.map fun v => v.category).sum ≤ 8) (hdg : decode cc g.pc = .ok (.invokevirtual index, 3)) (hf : cells + mc ≤ R.cells ∧ slots + ms ≤ R.slots) :
    vx_Run p l e R s m args below meth c H locs cells slots mc ms g rest (Qc (Value.ref b :: As).toArray) XC free := by
  obtain ⟨⟨hrc, hrs, hfr, hlo, hws, hcw⟩, hcode, hini, hy, hlen, hl, hin, hse⟩ := cw
  have hK : vx_Back l R p e below s args y 3 8 (PreOf R mc ms Pc) (PostOf Qc mc ms free) (vx_Post XC mc ms free) := vx_backW (hh := hh) (bytes := bytes) (maxL := maxL) (ret := ret) hM hp.1 hrc hrs hfr hlo hws hcw (fun a' U hW => word_at hW (Or.inl (by first | rfl | simp [Cond.onTables, Cond.keeps, Cond.steady])) hini)
  obtain ⟨hx, hb, hml, ho, -⟩ := S
  obtain ⟨-, ⟨cellB, hcB, hoB, hclB⟩, hPc⟩ := hp
  intro T hT X
  rcases vx_callVX X hx (C := C) (hh := hh) (bytes := bytes) (maxL := maxL) (ret := ret) ho hl hin hse hcode hy hK (by rw [hT]; exact hcB) hoB hclB hg (hsize.trans hml.symm) (argsL := As) (rest := rest) (fun sig h => hn.trans (hlen sig h)) hstack hW (by rw [hb]; exact hdg)
    (fun vm₁ hW₁ => ⟨hf.1, hf.2, hPc (T.setVm vm₁) hT hW₁⟩) with ⟨v, vm₁, ⟨U', l2, c2, s2⟩, hW₁, X', ⟨g', mk, t, L, e1, e2, hq, h1, hL, h2, h3⟩, st⟩ | ⟨q, vm₁, ⟨U', l2, c2, s2⟩, hW₁, X', ⟨g', mk, t, L, E, ce, e1, e2, hq, hce, hcv, hcl, h1, hL, h2, h3⟩, st⟩
  · dsimp only [Pt.U, Pt.locs, Pt.cells, Pt.slots] at X' e1 e2 h1 h2 h3 st
    subst h1; subst h2; subst h3
    exact Or.inl ⟨v, (T.setVm vm₁).calling g' mk (Value.ref b :: As).toArray, t, U', L, hT, X', hL, e1, e2, hq, st⟩
  · dsimp only [Pt.U, Pt.locs, Pt.cells, Pt.slots] at X' e1 e2 h1 h2 h3 st hcl
    subst h1; subst h2; subst h3
    exact Or.inr ⟨q, (T.setVm vm₁).calling g' mk (Value.ref b :: As).toArray, t, U', L, E, ce, hT, X', hL, e1, e2, hq, hce, hcv, vx_cls hW₁ hcl, st⟩
theorem vx_runSX {hh : List (Nat × Nat × Nat × Nat)} (S : CallFix p m c cc nL s args Ts own) (hM : vx_Met l y ws rm Pc Qc XC mc ms free) (cw : vx_CSW R s args own index y bytes maxL ret hh ws rm mc ms n) (hp : PreS s H Pc As)
    (hg : g.method = m) (hn : As.length = n) (hsize : g.locals.size = nL) (hstack : g.stack = As.reverse ++ rest) (hW : 2 * g.monitorRoom + (rest.map fun v => v.category).sum ≤ 8) (hdg : decode cc g.pc = .ok (.invokestatic index, 3)) (hf : cells + mc ≤ R.cells ∧ slots + ms ≤ R.slots) :
    vx_Run p l e R s m args below meth c H locs cells slots mc ms g rest (Qc As.toArray) XC free := by
  obtain ⟨⟨hrc, hrs, hfr, hlo, hws, hcw⟩, hcode, hini, hy, hlen, hl, hstt⟩ := cw
  have hK : vx_Back l R p e below s args y 3 8 (PreOf R mc ms Pc) (PostOf Qc mc ms free) (vx_Post XC mc ms free) := vx_backW (hh := hh) (bytes := bytes) (maxL := maxL) (ret := ret) hM hp.1 hrc hrs hfr hlo hws hcw (fun a' U hW => word_at hW (Or.inl (by first | rfl | simp [Cond.onTables, Cond.keeps, Cond.steady])) hini)
  obtain ⟨hx, hb, hml, ho, -⟩ := S
  intro T hT X
  rcases vx_callSX X hx (hh := hh) (bytes := bytes) (maxL := maxL) (ret := ret) ho hl hstt hini hcode hy hK hg (hsize.trans hml.symm) (argsL := As) (rest := rest) (fun sig h => hn.trans (hlen sig h)) hstack hW (by rw [hb]; exact hdg)
    (fun vm₁ hW₁ => ⟨hf.1, hf.2, hp.2 (T.setVm vm₁) hT hW₁⟩) with ⟨v, vm₁, ⟨U', l2, c2, s2⟩, hW₁, X', ⟨g', mk, t, L, e1, e2, hq, h1, hL, h2, h3⟩, st⟩ | ⟨q, vm₁, ⟨U', l2, c2, s2⟩, hW₁, X', ⟨g', mk, t, L, E, ce, e1, e2, hq, hce, hcv, hcl, h1, hL, h2, h3⟩, st⟩
  · dsimp only [Pt.U, Pt.locs, Pt.cells, Pt.slots] at X' e1 e2 h1 h2 h3 st
    subst h1; subst h2; subst h3
    exact Or.inl ⟨v, (T.setVm vm₁).calling g' mk As.toArray, t, U', L, hT, X', hL, e1, e2, hq, st⟩
  · dsimp only [Pt.U, Pt.locs, Pt.cells, Pt.slots] at X' e1 e2 h1 h2 h3 st hcl
    subst h1; subst h2; subst h3
    exact Or.inr ⟨q, (T.setVm vm₁).calling g' mk As.toArray, t, U', L, E, ce, hT, X', hL, e1, e2, hq, hce, hcv, vx_cls hW₁ hcl, st⟩
end
end VXH
theorem vx_ofWH {l : Launch} {y : MethodName} {ws ws' : List Cond} {rm : Room} {Pc : Array Value → State → Prop} {Qc : Array Value → State → Outcome → State → Prop} {XC : String → State → State → Prop} {mc ms : Nat} {free : Addr → Prop} {cc : ByteArray} {maxL : Nat} {ret : Option FieldType} {hh : List (Nat × Nat × Nat × Nat)}
    (hy : plainName y.cls = true) (hw : ws = Cond.codeWith y cc maxL ret hh :: ws')
    (body : ∀ p e s m args below meth c s₁, BodyLoose p l y (headSpec ws rm) cc maxL ret e s m args below meth c s₁ → c.maxLocals = maxL → Pc args s →
      W p l e (headSpec ws rm).room s m args below meth c s.heap [] 0 0 (vx_MQ below Qc XC args s mc ms free) (entryFrame m args maxL)) : vx_Met l y ws rm Pc Qc XC mc ms free := by
  refine MetFree.of_bodyS (code := cc) (maxLocals := maxL) (ret := ret) hy ?_ ?_
  · intro args s m h hn
    obtain ⟨m9, meth, c, hn9, h1, h2, h3, h4, -, h5, h6, -⟩ := Cond.codeWith_spec (atoms_spec (ws := ws) h _ (by rw [hw]; exact List.mem_cons_self))
    cases hn.symm.trans hn9
    exact ⟨meth, c, h1, h2, h3, h4, h5, h6⟩
  · intro p e s m args below meth c s₁ B hml hP _
    have hh0 : s₁.heap = s.heap := by rw [B.state]; rfl
    obtain ⟨t, a1, o, b1, b2, b3⟩ := body p e s m args below meth c s₁ B hml hP s₁ hh0 (Stand.of_body B)
    exact ⟨t, o, a1, b1, b2, b3⟩
/-! ===== END ===== -/
end
section
/-! ===== BEGIN printed: names, fields, word lists, decode rows ===== -/
def RX0 : String := "RefusePlanner$Bin"
def TX0 : u_T := fun k => match k with
  | 0 => ("RefusePlanner$Bin", "place", "I", true)
  | 1 => ("RefusePlanner$Bin", "kind", "I", true)
  | 2 => ("RefusePlanner$Bin", "size", "I", true)
  | 3 => ("RefusePlanner$Bin", "growth", "I", false)
  | 4 => ("RefusePlanner$Bin", "content", "I", false)
  | 5 => ("RefusePlanner$Bin", "rate", "I", false)
  | 6 => ("RefusePlanner$Bin", "emptiedOn", "I", false)
  | 7 => ("RefusePlanner$Bin", "overflows", "I", false)
  | 8 => ("RefusePlanner$Bin", "warnings", "I", false)
  | _ => ("RefusePlanner$Bin", "dirty", "Z", false)
def tyX0 : Nat → FieldType := fun k => match k with
  | 0 => .int
  | 1 => .int
  | 2 => .int
  | 3 => .int
  | 4 => .int
  | 5 => .int
  | 6 => .int
  | 7 => .int
  | 8 => .int
  | _ => .boolean
abbrev wsX00 : List Cond := u_ws RX0 TX0 10
theorem nmX0 : ∀ a, a < 10 → ∀ b, b < 10 → a ≠ b → (TX0 a).2.1 ≠ (TX0 b).2.1 := by decide +kernel
theorem tyX0_ok : ∀ k, k < 10 → parseFieldDescriptor (TX0 k).2.2.1 = some (tyX0 k) := by decide +kernel
abbrev cX0_init : ByteArray := prog_2_method_1_code
def yX0_init : MethodName := ⟨RX0, "<init>", "(IIIII)V"⟩
abbrev cX0_fact : ByteArray := prog_2_method_2_code
def yX0_fact : MethodName := ⟨RX0, "fact", "(I)I"⟩
abbrev cX0_forecast : ByteArray := prog_2_method_3_code
def yX0_forecast : MethodName := ⟨RX0, "forecast", "(I)I"⟩
abbrev cX0_isFullOn : ByteArray := prog_2_method_4_code
def yX0_isFullOn : MethodName := ⟨RX0, "isFullOn", "(I)Z"⟩
abbrev cX0_isDue : ByteArray := prog_2_method_5_code
def yX0_isDue : MethodName := ⟨RX0, "isDue", "(II)Z"⟩
abbrev cX0_fill : ByteArray := prog_2_method_6_code
def yX0_fill : MethodName := ⟨RX0, "fill", "()I"⟩
abbrev cX0_endVisit : ByteArray := prog_2_method_7_code
def yX0_endVisit : MethodName := ⟨RX0, "endVisit", "(II)V"⟩
def RX1 : String := "RefusePlanner$Region"
def TX1 : u_T := fun k => match k with
  | 0 => ("RefusePlanner$Region", "minutes", "[I", true)
  | 1 => ("RefusePlanner$Region", "tips", "[I", true)
  | _ => ("RefusePlanner$Region", "places", "I", false)
def tyX1 : Nat → FieldType := fun k => match k with
  | 0 => .array .int
  | 1 => .array .int
  | _ => .int
abbrev wsX10 : List Cond := u_ws RX1 TX1 3
theorem nmX1 : ∀ a, a < 3 → ∀ b, b < 3 → a ≠ b → (TX1 a).2.1 ≠ (TX1 b).2.1 := by decide +kernel
theorem tyX1_ok : ∀ k, k < 3 → parseFieldDescriptor (TX1 k).2.2.1 = some (tyX1 k) := by decide +kernel
abbrev cX1_init : ByteArray := prog_3_method_1_code
def yX1_init : MethodName := ⟨RX1, "<init>", "()V"⟩
abbrev cX1_add : ByteArray := prog_3_method_2_code
def yX1_add : MethodName := ⟨RX1, "add", "()I"⟩
abbrev cX1_between : ByteArray := prog_3_method_3_code
def yX1_between : MethodName := ⟨RX1, "between", "(II)I"⟩
abbrev cX1_join : ByteArray := prog_3_method_4_code
def yX1_join : MethodName := ⟨RX1, "join", "(III)V"⟩
abbrev cX1_hasTip : ByteArray := prog_3_method_5_code
def yX1_hasTip : MethodName := ⟨RX1, "hasTip", "(II)Z"⟩
abbrev cX1_putTip : ByteArray := prog_3_method_6_code
def yX1_putTip : MethodName := ⟨RX1, "putTip", "(IIZ)V"⟩
abbrev cX1_countTips : ByteArray := prog_3_method_7_code
def yX1_countTips : MethodName := ⟨RX1, "countTips", "(I)I"⟩
abbrev cX1_overTip : ByteArray := prog_3_method_8_code
def yX1_overTip : MethodName := ⟨RX1, "overTip", "(III)I"⟩
def RX2 : String := "RefusePlanner$Tour"
def TX2 : u_T := fun k => match k with
  | 0 => ("RefusePlanner$Tour", "region", "LRefusePlanner$Region;", true)
  | 1 => ("RefusePlanner$Tour", "kind", "I", true)
  | 2 => ("RefusePlanner$Tour", "capacity", "I", true)
  | 3 => ("RefusePlanner$Tour", "at", "I", false)
  | 4 => ("RefusePlanner$Tour", "load", "I", false)
  | 5 => ("RefusePlanner$Tour", "minutes", "I", false)
  | 6 => ("RefusePlanner$Tour", "tipVisits", "I", false)
  | _ => ("RefusePlanner$Tour", "litres", "I", false)
def tyX2 : Nat → FieldType := fun k => match k with
  | 0 => .object "RefusePlanner$Region"
  | 1 => .int
  | 2 => .int
  | 3 => .int
  | 4 => .int
  | 5 => .int
  | 6 => .int
  | _ => .int
abbrev wsX20 : List Cond := u_ws RX2 TX2 8
theorem nmX2 : ∀ a, a < 8 → ∀ b, b < 8 → a ≠ b → (TX2 a).2.1 ≠ (TX2 b).2.1 := by decide +kernel
theorem tyX2_ok : ∀ k, k < 8 → parseFieldDescriptor (TX2 k).2.2.1 = some (tyX2 k) := by decide +kernel
abbrev cX2_init : ByteArray := prog_4_method_1_code
def yX2_init : MethodName := ⟨RX2, "<init>", "(LRefusePlanner$Region;II)V"⟩
abbrev cX2_visit : ByteArray := prog_4_method_2_code
def yX2_visit : MethodName := ⟨RX2, "visit", "(LRefusePlanner$Bin;)I"⟩
abbrev cX2_end : ByteArray := prog_4_method_3_code
def yX2_end : MethodName := ⟨RX2, "end", "()V"⟩
abbrev cX2_driveTo : ByteArray := prog_4_method_4_code
def yX2_driveTo : MethodName := ⟨RX2, "driveTo", "(I)V"⟩
abbrev cX2_unloadOnTheWayTo : ByteArray := prog_4_method_5_code
def yX2_unloadOnTheWayTo : MethodName := ⟨RX2, "unloadOnTheWayTo", "(I)V"⟩
def RX3 : String := "RefusePlanner"
def TX3 : u_T := fun k => match k with
  | 0 => ("RefusePlanner", "region", "LRefusePlanner$Region;", true)
  | 1 => ("RefusePlanner", "bins", "Ljava/util/ArrayList;", true)
  | 2 => ("RefusePlanner", "holidays", "[Z", true)
  | 3 => ("RefusePlanner", "totals", "[J", true)
  | 4 => ("RefusePlanner", "wastes", "[J", true)
  | 5 => ("RefusePlanner", "route", "[I", true)
  | 6 => ("RefusePlanner", "stops", "I", false)
  | _ => ("RefusePlanner", "day", "I", false)
def tyX3 : Nat → FieldType := fun k => match k with
  | 0 => .object "RefusePlanner$Region"
  | 1 => .object "java/util/ArrayList"
  | 2 => .array .boolean
  | 3 => .array .long
  | 4 => .array .long
  | 5 => .array .int
  | 6 => .int
  | _ => .int
abbrev wsX30 : List Cond := u_ws RX3 TX3 8
theorem nmX3 : ∀ a, a < 8 → ∀ b, b < 8 → a ≠ b → (TX3 a).2.1 ≠ (TX3 b).2.1 := by decide +kernel
theorem tyX3_ok : ∀ k, k < 8 → parseFieldDescriptor (TX3 k).2.2.1 = some (tyX3 k) := by decide +kernel
abbrev cX3_init : ByteArray := prog_1_method_1_code
def yX3_init : MethodName := ⟨RX3, "<init>", "()V"⟩
abbrev cX3_addPlace : ByteArray := prog_1_method_2_code
def yX3_addPlace : MethodName := ⟨RX3, "addPlace", "()I"⟩
abbrev cX3_setMinutes : ByteArray := prog_1_method_3_code
def yX3_setMinutes : MethodName := ⟨RX3, "setMinutes", "(III)I"⟩
abbrev cX3_setTip : ByteArray := prog_1_method_4_code
def yX3_setTip : MethodName := ⟨RX3, "setTip", "(IIZ)Z"⟩
abbrev cX3_setHoliday : ByteArray := prog_1_method_5_code
def yX3_setHoliday : MethodName := ⟨RX3, "setHoliday", "(IZ)Z"⟩
abbrev cX3_pass : ByteArray := prog_1_method_6_code
def yX3_pass : MethodName := ⟨RX3, "pass", "(I)I"⟩
abbrev cX3_today : ByteArray := prog_1_method_7_code
def yX3_today : MethodName := ⟨RX3, "today", "()I"⟩
abbrev cX3_nextWorkday : ByteArray := prog_1_method_8_code
def yX3_nextWorkday : MethodName := ⟨RX3, "nextWorkday", "()I"⟩
abbrev cX3_addBin : ByteArray := prog_1_method_9_code
def yX3_addBin : MethodName := ⟨RX3, "addBin", "(IIII)I"⟩
abbrev cX3_setGrowth : ByteArray := prog_1_method_10_code
def yX3_setGrowth : MethodName := ⟨RX3, "setGrowth", "(II)I"⟩
abbrev cX3_soil : ByteArray := prog_1_method_11_code
def yX3_soil : MethodName := ⟨RX3, "soil", "(I)Z"⟩
abbrev cX3_binCount : ByteArray := prog_1_method_12_code
def yX3_binCount : MethodName := ⟨RX3, "binCount", "()I"⟩
abbrev cX3_bin : ByteArray := prog_1_method_13_code
def yX3_bin : MethodName := ⟨RX3, "bin", "(II)I"⟩
abbrev cX3_expected : ByteArray := prog_1_method_14_code
def yX3_expected : MethodName := ⟨RX3, "expected", "(II)I"⟩
abbrev cX3_fullOn : ByteArray := prog_1_method_15_code
def yX3_fullOn : MethodName := ⟨RX3, "fullOn", "(I)I"⟩
abbrev cX3_planSize : ByteArray := prog_1_method_16_code
def yX3_planSize : MethodName := ⟨RX3, "planSize", "(I)I"⟩
abbrev cX3_planned : ByteArray := prog_1_method_17_code
def yX3_planned : MethodName := ⟨RX3, "planned", "(II)I"⟩
abbrev cX3_collect : ByteArray := prog_1_method_18_code
def yX3_collect : MethodName := ⟨RX3, "collect", "(II)I"⟩
abbrev cX3_fetch : ByteArray := prog_1_method_19_code
def yX3_fetch : MethodName := ⟨RX3, "fetch", "(II)I"⟩
abbrev cX3_wouldTake : ByteArray := prog_1_method_20_code
def yX3_wouldTake : MethodName := ⟨RX3, "wouldTake", "(II)I"⟩
abbrev cX3_total : ByteArray := prog_1_method_21_code
def yX3_total : MethodName := ⟨RX3, "total", "(II)J"⟩
abbrev cX3_wasted : ByteArray := prog_1_method_22_code
def yX3_wasted : MethodName := ⟨RX3, "wasted", "(I)J"⟩
abbrev cX3_error : ByteArray := prog_1_method_23_code
def yX3_error : MethodName := ⟨RX3, "error", "()D"⟩
abbrev cX3_digest : ByteArray := prog_1_method_24_code
def yX3_digest : MethodName := ⟨RX3, "digest", "()J"⟩
abbrev cX3_checkPlace : ByteArray := prog_1_method_25_code
def yX3_checkPlace : MethodName := ⟨RX3, "checkPlace", "(I)V"⟩
abbrev cX3_checkKind : ByteArray := prog_1_method_26_code
def yX3_checkKind : MethodName := ⟨RX3, "checkKind", "(I)V"⟩
abbrev cX3_checkBin : ByteArray := prog_1_method_27_code
def yX3_checkBin : MethodName := ⟨RX3, "checkBin", "(I)V"⟩
abbrev cX3_checkRange : ByteArray := prog_1_method_28_code
def yX3_checkRange : MethodName := ⟨RX3, "checkRange", "(III)V"⟩
abbrev cX3_checkWorkday : ByteArray := prog_1_method_29_code
def yX3_checkWorkday : MethodName := ⟨RX3, "checkWorkday", "()V"⟩
abbrev cX3_passOneDay : ByteArray := prog_1_method_30_code
def yX3_passOneDay : MethodName := ⟨RX3, "passOneDay", "()I"⟩
abbrev cX3_planRoute : ByteArray := prog_1_method_31_code
def yX3_planRoute : MethodName := ⟨RX3, "planRoute", "(I)V"⟩
abbrev cX3_nearestStop : ByteArray := prog_1_method_32_code
def yX3_nearestStop : MethodName := ⟨RX3, "nearestStop", "(II)I"⟩
abbrev cX3_makeTour : ByteArray := prog_1_method_33_code
def yX3_makeTour : MethodName := ⟨RX3, "makeTour", "(II)I"⟩
abbrev cX3_mixRegion : ByteArray := prog_1_method_34_code
def yX3_mixRegion : MethodName := ⟨RX3, "mixRegion", "(J)J"⟩
abbrev cX3_mixBins : ByteArray := prog_1_method_35_code
def yX3_mixBins : MethodName := ⟨RX3, "mixBins", "(J)J"⟩
abbrev cX3_mixTotals : ByteArray := prog_1_method_36_code
def yX3_mixTotals : MethodName := ⟨RX3, "mixTotals", "(J)J"⟩
abbrev cX3_mix : ByteArray := prog_1_method_37_code
def yX3_mix : MethodName := ⟨RX3, "mix", "(JJ)J"⟩
def RX4 : String := "RefusePlannerModel"
def TX4 : u_T := fun k => match k with
  | 0 => ("RefusePlannerModel", "thrown", "I", false)
  | 1 => ("RefusePlannerModel", "places", "I", false)
  | 2 => ("RefusePlannerModel", "minutes", "[I", true)
  | 3 => ("RefusePlannerModel", "tips", "[I", true)
  | 4 => ("RefusePlannerModel", "areHolidays", "[Z", true)
  | 5 => ("RefusePlannerModel", "day", "I", false)
  | 6 => ("RefusePlannerModel", "bins", "I", false)
  | 7 => ("RefusePlannerModel", "stands", "[I", true)
  | 8 => ("RefusePlannerModel", "kinds", "[I", true)
  | 9 => ("RefusePlannerModel", "sizes", "[I", true)
  | 10 => ("RefusePlannerModel", "growths", "[I", true)
  | 11 => ("RefusePlannerModel", "contents", "[I", true)
  | 12 => ("RefusePlannerModel", "rates", "[I", true)
  | 13 => ("RefusePlannerModel", "emptied", "[I", true)
  | 14 => ("RefusePlannerModel", "overflows", "[I", true)
  | 15 => ("RefusePlannerModel", "warnings", "[I", true)
  | 16 => ("RefusePlannerModel", "areDirty", "[Z", true)
  | 17 => ("RefusePlannerModel", "totals", "[J", true)
  | 18 => ("RefusePlannerModel", "waste", "[J", true)
  | 19 => ("RefusePlannerModel", "planned", "I", false)
  | _ => ("RefusePlannerModel", "plan", "[I", true)
def tyX4 : Nat → FieldType := fun k => match k with
  | 0 => .int
  | 1 => .int
  | 2 => .array .int
  | 3 => .array .int
  | 4 => .array .boolean
  | 5 => .int
  | 6 => .int
  | 7 => .array .int
  | 8 => .array .int
  | 9 => .array .int
  | 10 => .array .int
  | 11 => .array .int
  | 12 => .array .int
  | 13 => .array .int
  | 14 => .array .int
  | 15 => .array .int
  | 16 => .array .boolean
  | 17 => .array .long
  | 18 => .array .long
  | 19 => .int
  | _ => .array .int
abbrev wsX40 : List Cond := u_ws RX4 TX4 21
theorem nmX4 : ∀ a, a < 21 → ∀ b, b < 21 → a ≠ b → (TX4 a).2.1 ≠ (TX4 b).2.1 := by decide +kernel
theorem tyX4_ok : ∀ k, k < 21 → parseFieldDescriptor (TX4 k).2.2.1 = some (tyX4 k) := by decide +kernel
abbrev cX4_init : ByteArray := prog_6_method_1_code
def yX4_init : MethodName := ⟨RX4, "<init>", "()V"⟩
abbrev cX4_thrown : ByteArray := prog_6_method_2_code
def yX4_thrown : MethodName := ⟨RX4, "thrown", "()I"⟩
abbrev cX4_fail : ByteArray := prog_6_method_3_code
def yX4_fail : MethodName := ⟨RX4, "fail", "(I)I"⟩
abbrev cX4_isIn : ByteArray := prog_6_method_4_code
def yX4_isIn : MethodName := ⟨RX4, "isIn", "(III)Z"⟩
abbrev cX4_isPlace : ByteArray := prog_6_method_5_code
def yX4_isPlace : MethodName := ⟨RX4, "isPlace", "(I)Z"⟩
abbrev cX4_isKind : ByteArray := prog_6_method_6_code
def yX4_isKind : MethodName := ⟨RX4, "isKind", "(I)Z"⟩
abbrev cX4_isBin : ByteArray := prog_6_method_7_code
def yX4_isBin : MethodName := ⟨RX4, "isBin", "(I)Z"⟩
abbrev cX4_isCapacity : ByteArray := prog_6_method_8_code
def yX4_isCapacity : MethodName := ⟨RX4, "isCapacity", "(I)Z"⟩
abbrev cX4_has : ByteArray := prog_6_method_9_code
def yX4_has : MethodName := ⟨RX4, "has", "(II)Z"⟩
abbrev cX4_drive : ByteArray := prog_6_method_10_code
def yX4_drive : MethodName := ⟨RX4, "drive", "(II)I"⟩
abbrev cX4_addPlace : ByteArray := prog_6_method_11_code
def yX4_addPlace : MethodName := ⟨RX4, "addPlace", "()I"⟩
abbrev cX4_setMinutes : ByteArray := prog_6_method_12_code
def yX4_setMinutes : MethodName := ⟨RX4, "setMinutes", "(III)I"⟩
abbrev cX4_setTip : ByteArray := prog_6_method_13_code
def yX4_setTip : MethodName := ⟨RX4, "setTip", "(IIZ)Z"⟩
abbrev cX4_setHoliday : ByteArray := prog_6_method_14_code
def yX4_setHoliday : MethodName := ⟨RX4, "setHoliday", "(IZ)Z"⟩
abbrev cX4_pass : ByteArray := prog_6_method_15_code
def yX4_pass : MethodName := ⟨RX4, "pass", "(I)I"⟩
abbrev cX4_today : ByteArray := prog_6_method_16_code
def yX4_today : MethodName := ⟨RX4, "today", "()I"⟩
abbrev cX4_workday : ByteArray := prog_6_method_17_code
def yX4_workday : MethodName := ⟨RX4, "workday", "()I"⟩
abbrev cX4_nextWorkday : ByteArray := prog_6_method_18_code
def yX4_nextWorkday : MethodName := ⟨RX4, "nextWorkday", "()I"⟩
abbrev cX4_addBin : ByteArray := prog_6_method_19_code
def yX4_addBin : MethodName := ⟨RX4, "addBin", "(IIII)I"⟩
abbrev cX4_setGrowth : ByteArray := prog_6_method_20_code
def yX4_setGrowth : MethodName := ⟨RX4, "setGrowth", "(II)I"⟩
abbrev cX4_soil : ByteArray := prog_6_method_21_code
def yX4_soil : MethodName := ⟨RX4, "soil", "(I)Z"⟩
abbrev cX4_binCount : ByteArray := prog_6_method_22_code
def yX4_binCount : MethodName := ⟨RX4, "binCount", "()I"⟩
abbrev cX4_told : ByteArray := prog_6_method_23_code
def yX4_told : MethodName := ⟨RX4, "told", "(II)I"⟩
abbrev cX4_bin : ByteArray := prog_6_method_24_code
def yX4_bin : MethodName := ⟨RX4, "bin", "(II)I"⟩
abbrev cX4_expectedOn : ByteArray := prog_6_method_25_code
def yX4_expectedOn : MethodName := ⟨RX4, "expectedOn", "(II)I"⟩
abbrev cX4_expected : ByteArray := prog_6_method_26_code
def yX4_expected : MethodName := ⟨RX4, "expected", "(II)I"⟩
abbrev cX4_fullOn : ByteArray := prog_6_method_27_code
def yX4_fullOn : MethodName := ⟨RX4, "fullOn", "(I)I"⟩
abbrev cX4_isDue : ByteArray := prog_6_method_28_code
def yX4_isDue : MethodName := ⟨RX4, "isDue", "(I)Z"⟩
abbrev cX4_makePlan : ByteArray := prog_6_method_29_code
def yX4_makePlan : MethodName := ⟨RX4, "makePlan", "(I)V"⟩
abbrev cX4_planSize : ByteArray := prog_6_method_30_code
def yX4_planSize : MethodName := ⟨RX4, "planSize", "(I)I"⟩
abbrev cX4_planned : ByteArray := prog_6_method_31_code
def yX4_planned : MethodName := ⟨RX4, "planned", "(II)I"⟩
abbrev cX4_tipFor : ByteArray := prog_6_method_32_code
def yX4_tipFor : MethodName := ⟨RX4, "tipFor", "(III)I"⟩
abbrev cX4_tour : ByteArray := prog_6_method_33_code
def yX4_tour : MethodName := ⟨RX4, "tour", "(IIZ)I"⟩
abbrev cX4_empty : ByteArray := prog_6_method_34_code
def yX4_empty : MethodName := ⟨RX4, "empty", "(II)V"⟩
abbrev cX4_collect : ByteArray := prog_6_method_35_code
def yX4_collect : MethodName := ⟨RX4, "collect", "(II)I"⟩
abbrev cX4_fetch : ByteArray := prog_6_method_36_code
def yX4_fetch : MethodName := ⟨RX4, "fetch", "(II)I"⟩
abbrev cX4_wouldTake : ByteArray := prog_6_method_37_code
def yX4_wouldTake : MethodName := ⟨RX4, "wouldTake", "(II)I"⟩
abbrev cX4_total : ByteArray := prog_6_method_38_code
def yX4_total : MethodName := ⟨RX4, "total", "(II)J"⟩
abbrev cX4_wasted : ByteArray := prog_6_method_39_code
def yX4_wasted : MethodName := ⟨RX4, "wasted", "(I)J"⟩
abbrev cX4_error : ByteArray := prog_6_method_40_code
def yX4_error : MethodName := ⟨RX4, "error", "()D"⟩
abbrev cX4_digest : ByteArray := prog_6_method_41_code
def yX4_digest : MethodName := ⟨RX4, "digest", "()J"⟩
def RJx145de : String := "java/io/Serializable"
def TJx145de : u_T := fun k => match k with
  | _ => ("", "", "", false)
def tyJx145de : Nat → FieldType := fun k => match k with
  | _ => .int
abbrev wsJx145de0 : List Cond := u_ws RJx145de TJx145de 0
theorem nmJx145de : ∀ a, a < 0 → ∀ b, b < 0 → a ≠ b → (TJx145de a).2.1 ≠ (TJx145de b).2.1 := by decide +kernel
theorem tyJx145de_ok : ∀ k, k < 0 → parseFieldDescriptor (TJx145de k).2.2.1 = some (tyJx145de k) := by decide +kernel
def RJx8e188 : String := "java/lang/Cloneable"
def TJx8e188 : u_T := fun k => match k with
  | _ => ("", "", "", false)
def tyJx8e188 : Nat → FieldType := fun k => match k with
  | _ => .int
abbrev wsJx8e1880 : List Cond := u_ws RJx8e188 TJx8e188 0
theorem nmJx8e188 : ∀ a, a < 0 → ∀ b, b < 0 → a ≠ b → (TJx8e188 a).2.1 ≠ (TJx8e188 b).2.1 := by decide +kernel
theorem tyJx8e188_ok : ∀ k, k < 0 → parseFieldDescriptor (TJx8e188 k).2.2.1 = some (tyJx8e188 k) := by decide +kernel
def RJxab1ab : String := "java/lang/Iterable"
def TJxab1ab : u_T := fun k => match k with
  | _ => ("", "", "", false)
def tyJxab1ab : Nat → FieldType := fun k => match k with
  | _ => .int
abbrev wsJxab1ab0 : List Cond := u_ws RJxab1ab TJxab1ab 0
theorem nmJxab1ab : ∀ a, a < 0 → ∀ b, b < 0 → a ≠ b → (TJxab1ab a).2.1 ≠ (TJxab1ab b).2.1 := by decide +kernel
theorem tyJxab1ab_ok : ∀ k, k < 0 → parseFieldDescriptor (TJxab1ab k).2.2.1 = some (tyJxab1ab k) := by decide +kernel
def RJ9 : String := "java/lang/Math"
def TJ9 : u_T := fun k => match k with
  | _ => ("", "", "", false)
def tyJ9 : Nat → FieldType := fun k => match k with
  | _ => .int
abbrev wsJ90 : List Cond := u_ws RJ9 TJ9 0
theorem nmJ9 : ∀ a, a < 0 → ∀ b, b < 0 → a ≠ b → (TJ9 a).2.1 ≠ (TJ9 b).2.1 := by decide +kernel
theorem tyJ9_ok : ∀ k, k < 0 → parseFieldDescriptor (TJ9 k).2.2.1 = some (tyJ9 k) := by decide +kernel
abbrev cJ9_abs_0f7a4 : ByteArray := prog_14_method_59_code
def yJ9_abs_0f7a4 : MethodName := ⟨RJ9, "abs", "(I)I"⟩
abbrev cJ9_max_7cf53 : ByteArray := prog_14_method_65_code
def yJ9_max_7cf53 : MethodName := ⟨RJ9, "max", "(II)I"⟩
abbrev cJ9_min_7cf53 : ByteArray := prog_14_method_69_code
def yJ9_min_7cf53 : MethodName := ⟨RJ9, "min", "(II)I"⟩
def RJ0 : String := "java/lang/String"
def TJ0 : u_T := fun k => match k with
  | _ => ("", "", "", false)
def tyJ0 : Nat → FieldType := fun k => match k with
  | _ => .int
abbrev wsJ00 : List Cond := u_ws RJ0 TJ0 0
theorem nmJ0 : ∀ a, a < 0 → ∀ b, b < 0 → a ≠ b → (TJ0 a).2.1 ≠ (TJ0 b).2.1 := by decide +kernel
theorem tyJ0_ok : ∀ k, k < 0 → parseFieldDescriptor (TJ0 k).2.2.1 = some (tyJ0 k) := by decide +kernel
def RJ10 : String := "java/lang/System"
def TJ10 : u_T := fun k => match k with
  | _ => ("", "", "", false)
def tyJ10 : Nat → FieldType := fun k => match k with
  | _ => .int
abbrev wsJ100 : List Cond := u_ws RJ10 TJ10 0
theorem nmJ10 : ∀ a, a < 0 → ∀ b, b < 0 → a ≠ b → (TJ10 a).2.1 ≠ (TJ10 b).2.1 := by decide +kernel
theorem tyJ10_ok : ∀ k, k < 0 → parseFieldDescriptor (TJ10 k).2.2.1 = some (tyJ10 k) := by decide +kernel
def RJxa1e45 : String := "java/util/AbstractCollection"
def TJxa1e45 : u_T := fun k => match k with
  | _ => ("", "", "", false)
def tyJxa1e45 : Nat → FieldType := fun k => match k with
  | _ => .int
abbrev wsJxa1e450 : List Cond := u_ws RJxa1e45 TJxa1e45 0
theorem nmJxa1e45 : ∀ a, a < 0 → ∀ b, b < 0 → a ≠ b → (TJxa1e45 a).2.1 ≠ (TJxa1e45 b).2.1 := by decide +kernel
theorem tyJxa1e45_ok : ∀ k, k < 0 → parseFieldDescriptor (TJxa1e45 k).2.2.1 = some (tyJxa1e45 k) := by decide +kernel
abbrev cJxa1e45_init_da8c8 : ByteArray := prog_19_method_1_code
def yJxa1e45_init_da8c8 : MethodName := ⟨RJxa1e45, "<init>", "()V"⟩
def RJxc12de : String := "java/util/AbstractList"
def TJxc12de : u_T := fun k => match k with
  | _ => ("", "", "", false)
def tyJxc12de : Nat → FieldType := fun k => match k with
  | _ => .int
abbrev wsJxc12de0 : List Cond := u_ws RJxc12de TJxc12de 0
theorem nmJxc12de : ∀ a, a < 0 → ∀ b, b < 0 → a ≠ b → (TJxc12de a).2.1 ≠ (TJxc12de b).2.1 := by decide +kernel
theorem tyJxc12de_ok : ∀ k, k < 0 → parseFieldDescriptor (TJxc12de k).2.2.1 = some (tyJxc12de k) := by decide +kernel
abbrev cJxc12de_init_da8c8 : ByteArray := prog_20_method_1_code
def yJxc12de_init_da8c8 : MethodName := ⟨RJxc12de, "<init>", "()V"⟩
def RJx4a65c : String := "java/util/ArrayList"
def TJx4a65c : u_T := fun k => match k with
  | 0 => ("java/util/AbstractList", "modCount", "I", false)
  | 1 => ("java/util/ArrayList", "elementData", "[Ljava/lang/Object;", false)
  | _ => ("java/util/ArrayList", "size", "I", false)
def tyJx4a65c : Nat → FieldType := fun k => match k with
  | 0 => .int
  | 1 => .array (.object "java/lang/Object")
  | _ => .int
abbrev wsJx4a65c0 : List Cond := u_ws RJx4a65c TJx4a65c 3
theorem nmJx4a65c : ∀ a, a < 3 → ∀ b, b < 3 → a ≠ b → (TJx4a65c a).2.1 ≠ (TJx4a65c b).2.1 := by decide +kernel
theorem tyJx4a65c_ok : ∀ k, k < 3 → parseFieldDescriptor (TJx4a65c k).2.2.1 = some (tyJx4a65c k) := by decide +kernel
abbrev cJx4a65c_init_da8c8 : ByteArray := prog_21_method_2_code
def yJx4a65c_init_da8c8 : MethodName := ⟨RJx4a65c, "<init>", "()V"⟩
abbrev cJx4a65c_grow_92f84 : ByteArray := prog_21_method_6_code
def yJx4a65c_grow_92f84 : MethodName := ⟨RJx4a65c, "grow", "(I)[Ljava/lang/Object;"⟩
abbrev cJx4a65c_grow_d5877 : ByteArray := prog_21_method_7_code
def yJx4a65c_grow_d5877 : MethodName := ⟨RJx4a65c, "grow", "()[Ljava/lang/Object;"⟩
abbrev cJx4a65c_size_8abf5 : ByteArray := prog_21_method_8_code
def yJx4a65c_size_8abf5 : MethodName := ⟨RJx4a65c, "size", "()I"⟩
abbrev cJx4a65c_elementData_915e3 : ByteArray := prog_21_method_18_code
def yJx4a65c_elementData_915e3 : MethodName := ⟨RJx4a65c, "elementData", "(I)Ljava/lang/Object;"⟩
abbrev cJx4a65c_get_915e3 : ByteArray := prog_21_method_20_code
def yJx4a65c_get_915e3 : MethodName := ⟨RJx4a65c, "get", "(I)Ljava/lang/Object;"⟩
abbrev cJx4a65c_add_72be8 : ByteArray := prog_21_method_24_code
def yJx4a65c_add_72be8 : MethodName := ⟨RJx4a65c, "add", "(Ljava/lang/Object;[Ljava/lang/Object;I)V"⟩
abbrev cJx4a65c_add_9ea2d : ByteArray := prog_21_method_25_code
def yJx4a65c_add_9ea2d : MethodName := ⟨RJx4a65c, "add", "(Ljava/lang/Object;)Z"⟩
def RJ7 : String := "java/util/Arrays"
def TJ7 : u_T := fun k => match k with
  | _ => ("", "", "", false)
def tyJ7 : Nat → FieldType := fun k => match k with
  | _ => .int
abbrev wsJ70 : List Cond := u_ws RJ7 TJ7 0
theorem nmJ7 : ∀ a, a < 0 → ∀ b, b < 0 → a ≠ b → (TJ7 a).2.1 ≠ (TJ7 b).2.1 := by decide +kernel
theorem tyJ7_ok : ∀ k, k < 0 → parseFieldDescriptor (TJ7 k).2.2.1 = some (tyJ7 k) := by decide +kernel
abbrev cJ7_copyOf_1904c : ByteArray := prog_22_method_119_code
def yJ7_copyOf_1904c : MethodName := ⟨RJ7, "copyOf", "([Ljava/lang/Object;I)[Ljava/lang/Object;"⟩
abbrev cJ7_copyOf_6403c : ByteArray := prog_22_method_120_code
def yJ7_copyOf_6403c : MethodName := ⟨RJ7, "copyOf", "([Ljava/lang/Object;ILjava/lang/Class;)[Ljava/lang/Object;"⟩
def RJx5ef63 : String := "java/util/Collection"
def TJx5ef63 : u_T := fun k => match k with
  | _ => ("", "", "", false)
def tyJx5ef63 : Nat → FieldType := fun k => match k with
  | _ => .int
abbrev wsJx5ef630 : List Cond := u_ws RJx5ef63 TJx5ef63 0
theorem nmJx5ef63 : ∀ a, a < 0 → ∀ b, b < 0 → a ≠ b → (TJx5ef63 a).2.1 ≠ (TJx5ef63 b).2.1 := by decide +kernel
theorem tyJx5ef63_ok : ∀ k, k < 0 → parseFieldDescriptor (TJx5ef63 k).2.2.1 = some (tyJx5ef63 k) := by decide +kernel
def RJxbd725 : String := "java/util/List"
def TJxbd725 : u_T := fun k => match k with
  | _ => ("", "", "", false)
def tyJxbd725 : Nat → FieldType := fun k => match k with
  | _ => .int
abbrev wsJxbd7250 : List Cond := u_ws RJxbd725 TJxbd725 0
theorem nmJxbd725 : ∀ a, a < 0 → ∀ b, b < 0 → a ≠ b → (TJxbd725 a).2.1 ≠ (TJxbd725 b).2.1 := by decide +kernel
theorem tyJxbd725_ok : ∀ k, k < 0 → parseFieldDescriptor (TJxbd725 k).2.2.1 = some (tyJxbd725 k) := by decide +kernel
def RJ15 : String := "java/util/Objects"
def TJ15 : u_T := fun k => match k with
  | _ => ("", "", "", false)
def tyJ15 : Nat → FieldType := fun k => match k with
  | _ => .int
abbrev wsJ150 : List Cond := u_ws RJ15 TJ15 0
theorem nmJ15 : ∀ a, a < 0 → ∀ b, b < 0 → a ≠ b → (TJ15 a).2.1 ≠ (TJ15 b).2.1 := by decide +kernel
theorem tyJ15_ok : ∀ k, k < 0 → parseFieldDescriptor (TJ15 k).2.2.1 = some (tyJ15 k) := by decide +kernel
abbrev cJ15_checkIndex_7cf53 : ByteArray := prog_25_method_17_code
def yJ15_checkIndex_7cf53 : MethodName := ⟨RJ15, "checkIndex", "(II)I"⟩
def RJxf0a74 : String := "java/util/RandomAccess"
def TJxf0a74 : u_T := fun k => match k with
  | _ => ("", "", "", false)
def tyJxf0a74 : Nat → FieldType := fun k => match k with
  | _ => .int
abbrev wsJxf0a740 : List Cond := u_ws RJxf0a74 TJxf0a74 0
theorem nmJxf0a74 : ∀ a, a < 0 → ∀ b, b < 0 → a ≠ b → (TJxf0a74 a).2.1 ≠ (TJxf0a74 b).2.1 := by decide +kernel
theorem tyJxf0a74_ok : ∀ k, k < 0 → parseFieldDescriptor (TJxf0a74 k).2.2.1 = some (tyJxf0a74 k) := by decide +kernel
def RJxa66e6 : String := "java/util/SequencedCollection"
def TJxa66e6 : u_T := fun k => match k with
  | _ => ("", "", "", false)
def tyJxa66e6 : Nat → FieldType := fun k => match k with
  | _ => .int
abbrev wsJxa66e60 : List Cond := u_ws RJxa66e6 TJxa66e6 0
theorem nmJxa66e6 : ∀ a, a < 0 → ∀ b, b < 0 → a ≠ b → (TJxa66e6 a).2.1 ≠ (TJxa66e6 b).2.1 := by decide +kernel
theorem tyJxa66e6_ok : ∀ k, k < 0 → parseFieldDescriptor (TJxa66e6 k).2.2.1 = some (tyJxa66e6 k) := by decide +kernel
def RJ8 : String := "jdk/internal/util/ArraysSupport"
def TJ8 : u_T := fun k => match k with
  | _ => ("", "", "", false)
def tyJ8 : Nat → FieldType := fun k => match k with
  | _ => .int
abbrev wsJ80 : List Cond := u_ws RJ8 TJ8 0
theorem nmJ8 : ∀ a, a < 0 → ∀ b, b < 0 → a ≠ b → (TJ8 a).2.1 ≠ (TJ8 b).2.1 := by decide +kernel
theorem tyJ8_ok : ∀ k, k < 0 → parseFieldDescriptor (TJ8 k).2.2.1 = some (tyJ8 k) := by decide +kernel
abbrev cJ8_newLength_cabcc : ByteArray := prog_28_method_27_code
def yJ8_newLength_cabcc : MethodName := ⟨RJ8, "newLength", "(III)I"⟩
abbrev cJ8_hugeLength_7cf53 : ByteArray := prog_28_method_28_code
def yJ8_hugeLength_7cf53 : MethodName := ⟨RJ8, "hugeLength", "(II)I"⟩
def RJ3 : String := "jdk/internal/util/Preconditions"
def TJ3 : u_T := fun k => match k with
  | _ => ("", "", "", false)
def tyJ3 : Nat → FieldType := fun k => match k with
  | _ => .int
abbrev wsJ30 : List Cond := u_ws RJ3 TJ3 0
theorem nmJ3 : ∀ a, a < 0 → ∀ b, b < 0 → a ≠ b → (TJ3 a).2.1 ≠ (TJ3 b).2.1 := by decide +kernel
theorem tyJ3_ok : ∀ k, k < 0 → parseFieldDescriptor (TJ3 k).2.2.1 = some (tyJ3 k) := by decide +kernel
abbrev cJ3_checkIndex_8e157 : ByteArray := prog_29_method_11_code
def yJ3_checkIndex_8e157 : MethodName := ⟨RJ3, "checkIndex", "(IILjava/util/function/BiFunction;)I"⟩
def RL : String := "RefusePlannerLaw"
abbrev cL_addPlace : ByteArray := method_3_code
def yL_addPlace : MethodName := ⟨RL, "addPlace", "(LRefusePlanner;[J)I"⟩
abbrev cL_setMinutes : ByteArray := method_4_code
def yL_setMinutes : MethodName := ⟨RL, "setMinutes", "(LRefusePlanner;III[J)I"⟩
abbrev cL_setTip : ByteArray := method_5_code
def yL_setTip : MethodName := ⟨RL, "setTip", "(LRefusePlanner;IIZ[J)I"⟩
abbrev cL_setHoliday : ByteArray := method_6_code
def yL_setHoliday : MethodName := ⟨RL, "setHoliday", "(LRefusePlanner;IZ[J)I"⟩
abbrev cL_pass : ByteArray := method_7_code
def yL_pass : MethodName := ⟨RL, "pass", "(LRefusePlanner;I[J)I"⟩
abbrev cL_addBin : ByteArray := method_8_code
def yL_addBin : MethodName := ⟨RL, "addBin", "(LRefusePlanner;IIII[J)I"⟩
abbrev cL_setGrowth : ByteArray := method_9_code
def yL_setGrowth : MethodName := ⟨RL, "setGrowth", "(LRefusePlanner;II[J)I"⟩
abbrev cL_soil : ByteArray := method_10_code
def yL_soil : MethodName := ⟨RL, "soil", "(LRefusePlanner;I[J)I"⟩
abbrev cL_bin : ByteArray := method_11_code
def yL_bin : MethodName := ⟨RL, "bin", "(LRefusePlanner;II[J)I"⟩
abbrev cL_expected : ByteArray := method_12_code
def yL_expected : MethodName := ⟨RL, "expected", "(LRefusePlanner;II[J)I"⟩
abbrev cL_fullOn : ByteArray := method_13_code
def yL_fullOn : MethodName := ⟨RL, "fullOn", "(LRefusePlanner;I[J)I"⟩
abbrev cL_planSize : ByteArray := method_14_code
def yL_planSize : MethodName := ⟨RL, "planSize", "(LRefusePlanner;I[J)I"⟩
abbrev cL_planned : ByteArray := method_15_code
def yL_planned : MethodName := ⟨RL, "planned", "(LRefusePlanner;II[J)I"⟩
abbrev cL_collect : ByteArray := method_16_code
def yL_collect : MethodName := ⟨RL, "collect", "(LRefusePlanner;II[J)I"⟩
abbrev cL_fetch : ByteArray := method_17_code
def yL_fetch : MethodName := ⟨RL, "fetch", "(LRefusePlanner;II[J)I"⟩
abbrev cL_wouldTake : ByteArray := method_18_code
def yL_wouldTake : MethodName := ⟨RL, "wouldTake", "(LRefusePlanner;II[J)I"⟩
abbrev cL_total : ByteArray := method_19_code
def yL_total : MethodName := ⟨RL, "total", "(LRefusePlanner;II[J)I"⟩
abbrev cL_wasted : ByteArray := method_20_code
def yL_wasted : MethodName := ⟨RL, "wasted", "(LRefusePlanner;I[J)I"⟩
abbrev cL_law : ByteArray := code
def yL_law : MethodName := ⟨RL, "law", "([I)Z"⟩
abbrev vwCl : List vw_C := [(RJx4a65c, TJx4a65c, 3), (RX0, TX0, 10), (RX1, TX1, 3), (RX2, TX2, 8), (RX3, TX3, 8), (RX4, TX4, 21)]
end
section
def wsX0_init : List Cond := .code yX0_init cX0_init 6 none :: ([.methodLink RX0 1 objectInit, .instanceMethod objectInit, .code objectInit ⟨#[0xb1]⟩ 1 none, .fieldLink RX0 7 "RefusePlanner$Bin" "place" "I", .fieldLink RX0 13 "RefusePlanner$Bin" "kind" "I", .fieldLink RX0 16 "RefusePlanner$Bin" "size" "I", .fieldLink RX0 19 "RefusePlanner$Bin" "growth" "I", .fieldLink RX0 22 "RefusePlanner$Bin" "content" "I", .fieldLink RX0 25 "RefusePlanner$Bin" "rate" "I", .fieldLink RX0 28 "RefusePlanner$Bin" "emptiedOn" "I", .fieldLink RX0 31 "RefusePlanner$Bin" "overflows" "I", .fieldLink RX0 34 "RefusePlanner$Bin" "warnings" "I", .fieldLink RX0 37 "RefusePlanner$Bin" "dirty" "Z"] ++ wsX00)
def wsX0_fact : List Cond := .code yX0_fact cX0_fact 2 (some .int) :: ([.fieldLink RX0 7 "RefusePlanner$Bin" "place" "I", .fieldLink RX0 13 "RefusePlanner$Bin" "kind" "I", .fieldLink RX0 22 "RefusePlanner$Bin" "content" "I", .fieldLink RX0 25 "RefusePlanner$Bin" "rate" "I", .fieldLink RX0 28 "RefusePlanner$Bin" "emptiedOn" "I", .fieldLink RX0 31 "RefusePlanner$Bin" "overflows" "I", .fieldLink RX0 34 "RefusePlanner$Bin" "warnings" "I", .fieldLink RX0 37 "RefusePlanner$Bin" "dirty" "Z"] ++ wsX00)
def wsX0_forecast : List Cond := .code yX0_forecast cX0_forecast 2 (some .int) :: ([.fieldLink RX0 16 "RefusePlanner$Bin" "size" "I", .fieldLink RX0 25 "RefusePlanner$Bin" "rate" "I", .fieldLink RX0 28 "RefusePlanner$Bin" "emptiedOn" "I", .methodLink RX0 41 Lib.Math.min.name, .static Lib.Math.min.name, .initialized "java/lang/Math", .code Lib.Math.min.name Lib.Math.min.code 2 (some .int)] ++ wsX00)
def wsX0_isFullOn : List Cond := .code yX0_isFullOn cX0_isFullOn 2 (some .boolean) :: ([.fieldLink RX0 16 "RefusePlanner$Bin" "size" "I", .methodLink RX0 47 yX0_forecast, .instanceMethod yX0_forecast, .selects RX0 yX0_forecast yX0_forecast, .initialized RX0, .code yX0_forecast cX0_forecast 2 (some .int), .fieldLink RX0 25 "RefusePlanner$Bin" "rate" "I", .fieldLink RX0 28 "RefusePlanner$Bin" "emptiedOn" "I", .methodLink RX0 41 Lib.Math.min.name, .static Lib.Math.min.name, .initialized "java/lang/Math", .code Lib.Math.min.name Lib.Math.min.code 2 (some .int)] ++ wsX00)
def wsX0_isDue : List Cond := .code yX0_isDue cX0_isDue 3 (some .boolean) :: ([.fieldLink RX0 16 "RefusePlanner$Bin" "size" "I", .methodLink RX0 47 yX0_forecast, .instanceMethod yX0_forecast, .selects RX0 yX0_forecast yX0_forecast, .initialized RX0, .code yX0_forecast cX0_forecast 2 (some .int), .fieldLink RX0 25 "RefusePlanner$Bin" "rate" "I", .fieldLink RX0 28 "RefusePlanner$Bin" "emptiedOn" "I", .methodLink RX0 41 Lib.Math.min.name, .static Lib.Math.min.name, .initialized "java/lang/Math", .code Lib.Math.min.name Lib.Math.min.code 2 (some .int), .methodLink RX0 51 yX0_isFullOn, .instanceMethod yX0_isFullOn, .selects RX0 yX0_isFullOn yX0_isFullOn, .code yX0_isFullOn cX0_isFullOn 2 (some .boolean)] ++ wsX00)
def wsX0_fill : List Cond := .code yX0_fill cX0_fill 2 (some .int) :: ([.fieldLink RX0 22 "RefusePlanner$Bin" "content" "I", .fieldLink RX0 19 "RefusePlanner$Bin" "growth" "I", .fieldLink RX0 16 "RefusePlanner$Bin" "size" "I", .methodLink RX0 55 Lib.Math.max.name, .static Lib.Math.max.name, .initialized "java/lang/Math", .code Lib.Math.max.name Lib.Math.max.code 2 (some .int), .fieldLink RX0 31 "RefusePlanner$Bin" "overflows" "I"] ++ wsX00)
def wsX0_endVisit : List Cond := .code yX0_endVisit cX0_endVisit 5 none :: ([.fieldLink RX0 37 "RefusePlanner$Bin" "dirty" "Z", .fieldLink RX0 34 "RefusePlanner$Bin" "warnings" "I", .fieldLink RX0 28 "RefusePlanner$Bin" "emptiedOn" "I", .fieldLink RX0 22 "RefusePlanner$Bin" "content" "I", .fieldLink RX0 25 "RefusePlanner$Bin" "rate" "I"] ++ wsX00)
def wsX1_init : List Cond := .code yX1_init cX1_init 3 none :: ([.methodLink RX1 3 objectInit, .instanceMethod objectInit, .code objectInit ⟨#[0xb1]⟩ 1 none, .arrayClass .int, .fieldLink RX1 9 "RefusePlanner$Region" "minutes" "[I", .fieldLink RX1 15 "RefusePlanner$Region" "tips" "[I", .fieldLink RX1 18 "RefusePlanner$Region" "places" "I"] ++ wsX10)
def wsX1_add : List Cond := .code yX1_add cX1_add 2 (some .int) :: ([.fieldLink RX1 18 "RefusePlanner$Region" "places" "I"] ++ wsX10)
def wsX1_between : List Cond := .code yX1_between cX1_between 3 (some .int) :: ([.fieldLink RX1 9 "RefusePlanner$Region" "minutes" "[I"] ++ wsX10)
def wsX1_join : List Cond := .code yX1_join cX1_join 4 none :: ([.fieldLink RX1 9 "RefusePlanner$Region" "minutes" "[I"] ++ wsX10)
def wsX1_hasTip : List Cond := .code yX1_hasTip cX1_hasTip 3 (some .boolean) :: ([.fieldLink RX1 15 "RefusePlanner$Region" "tips" "[I"] ++ wsX10)
def wsX1_putTip : List Cond := .code yX1_putTip cX1_putTip 5 none :: ([.fieldLink RX1 15 "RefusePlanner$Region" "tips" "[I"] ++ wsX10)
def wsX1_countTips : List Cond := .code yX1_countTips cX1_countTips 4 (some .int) :: ([.fieldLink RX1 18 "RefusePlanner$Region" "places" "I", .methodLink RX1 22 yX1_hasTip, .instanceMethod yX1_hasTip, .selects RX1 yX1_hasTip yX1_hasTip, .initialized RX1, .code yX1_hasTip cX1_hasTip 3 (some .boolean), .fieldLink RX1 15 "RefusePlanner$Region" "tips" "[I"] ++ wsX10)
def wsX1_overTip : List Cond := .code yX1_overTip cX1_overTip 6 (some .int) :: ([.constant RX1 28 (2147483647), .fieldLink RX1 18 "RefusePlanner$Region" "places" "I", .methodLink RX1 33 Lib.Math.min.name, .static Lib.Math.min.name, .initialized "java/lang/Math", .code Lib.Math.min.name Lib.Math.min.code 2 (some .int), .methodLink RX1 22 yX1_hasTip, .instanceMethod yX1_hasTip, .selects RX1 yX1_hasTip yX1_hasTip, .initialized RX1, .code yX1_hasTip cX1_hasTip 3 (some .boolean), .fieldLink RX1 15 "RefusePlanner$Region" "tips" "[I", .methodLink RX1 29 yX1_between, .instanceMethod yX1_between, .selects RX1 yX1_between yX1_between, .code yX1_between cX1_between 3 (some .int), .fieldLink RX1 9 "RefusePlanner$Region" "minutes" "[I"] ++ wsX10)
def wsX2_init : List Cond := .code yX2_init cX2_init 4 none :: ([.methodLink RX2 3 objectInit, .instanceMethod objectInit, .code objectInit ⟨#[0xb1]⟩ 1 none, .fieldLink RX2 9 "RefusePlanner$Tour" "region" "LRefusePlanner$Region;", .fieldLink RX2 15 "RefusePlanner$Tour" "kind" "I", .fieldLink RX2 19 "RefusePlanner$Tour" "capacity" "I", .fieldLink RX2 22 "RefusePlanner$Tour" "at" "I", .fieldLink RX2 25 "RefusePlanner$Tour" "load" "I", .fieldLink RX2 28 "RefusePlanner$Tour" "minutes" "I", .fieldLink RX2 31 "RefusePlanner$Tour" "tipVisits" "I", .fieldLink RX2 34 "RefusePlanner$Tour" "litres" "I"] ++ wsX20)
def wsX2_driveTo : List Cond := .code yX2_driveTo cX2_driveTo 2 none :: ([.fieldLink RX2 28 "RefusePlanner$Tour" "minutes" "I", .fieldLink RX2 9 "RefusePlanner$Tour" "region" "LRefusePlanner$Region;", .fieldLink RX2 22 "RefusePlanner$Tour" "at" "I", .methodLink RX2 62 yX1_between, .instanceMethod yX1_between, .selects RX1 yX1_between yX1_between, .initialized RX1, .code yX1_between cX1_between 3 (some .int), .fieldLink RX1 9 "RefusePlanner$Region" "minutes" "[I"] ++ wsX20 ++ wsX10)
def wsX2_unloadOnTheWayTo_r1 : List Cond := [Cond.fieldLink RX2 28 "RefusePlanner$Tour" "minutes" "I", Cond.fieldLink RX2 9 "RefusePlanner$Tour" "region" "LRefusePlanner$Region;", Cond.fieldLink RX2 15 "RefusePlanner$Tour" "kind" "I", Cond.fieldLink RX2 22 "RefusePlanner$Tour" "at" "I", Cond.fieldLink RX2 31 "RefusePlanner$Tour" "tipVisits" "I", Cond.fieldLink RX2 34 "RefusePlanner$Tour" "litres" "I", Cond.fieldLink RX2 25 "RefusePlanner$Tour" "load" "I", Cond.methodLink RX2 67 yX1_overTip, Cond.instanceMethod yX1_overTip, Cond.selects RX1 yX1_overTip yX1_overTip, Cond.initialized RX1, Cond.code yX1_overTip cX1_overTip 6 (some .int), Cond.constant RX1 28 (2147483647), Cond.fieldLink RX1 18 "RefusePlanner$Region" "places" "I", Cond.methodLink RX1 33 Lib.Math.min.name, Cond.static Lib.Math.min.name, Cond.initialized "java/lang/Math", Cond.code Lib.Math.min.name Lib.Math.min.code 2 (some .int), Cond.methodLink RX1 22 yX1_hasTip, Cond.instanceMethod yX1_hasTip, Cond.selects RX1 yX1_hasTip yX1_hasTip, Cond.code yX1_hasTip cX1_hasTip 3 (some .boolean), Cond.fieldLink RX1 15 "RefusePlanner$Region" "tips" "[I", Cond.methodLink RX1 29 yX1_between]
def wsX2_unloadOnTheWayTo_r2 : List Cond := [Cond.instanceMethod yX1_between, Cond.selects RX1 yX1_between yX1_between, Cond.code yX1_between cX1_between 3 (some .int), Cond.fieldLink RX1 9 "RefusePlanner$Region" "minutes" "[I"]
def wsX2_unloadOnTheWayTo : List Cond := .code yX2_unloadOnTheWayTo cX2_unloadOnTheWayTo 2 none :: ((wsX2_unloadOnTheWayTo_r1 ++ wsX2_unloadOnTheWayTo_r2) ++ wsX20 ++ wsX10)
def wsX2_visit_r1 : List Cond := [Cond.fieldLink RX2 28 "RefusePlanner$Tour" "minutes" "I", Cond.fieldLink RX2 25 "RefusePlanner$Tour" "load" "I", Cond.fieldLink RX2 19 "RefusePlanner$Tour" "capacity" "I", Cond.fieldLink RX2 22 "RefusePlanner$Tour" "at" "I", Cond.methodLink RX2 56 Lib.Math.min.name, Cond.static Lib.Math.min.name, Cond.initialized "java/lang/Math", Cond.code Lib.Math.min.name Lib.Math.min.code 2 (some .int), Cond.methodLink RX2 42 yX2_driveTo, Cond.instanceMethod yX2_driveTo, Cond.selects RX2 yX2_driveTo yX2_driveTo, Cond.initialized RX2, Cond.code yX2_driveTo cX2_driveTo 2 none, Cond.fieldLink RX2 9 "RefusePlanner$Tour" "region" "LRefusePlanner$Region;", Cond.methodLink RX2 62 yX1_between, Cond.instanceMethod yX1_between, Cond.selects RX1 yX1_between yX1_between, Cond.initialized RX1, Cond.code yX1_between cX1_between 3 (some .int), Cond.fieldLink RX1 9 "RefusePlanner$Region" "minutes" "[I", Cond.methodLink RX2 53 yX2_unloadOnTheWayTo, Cond.instanceMethod yX2_unloadOnTheWayTo, Cond.selects RX2 yX2_unloadOnTheWayTo yX2_unloadOnTheWayTo, Cond.code yX2_unloadOnTheWayTo cX2_unloadOnTheWayTo 2 none]
def wsX2_visit_r2 : List Cond := [Cond.fieldLink RX2 15 "RefusePlanner$Tour" "kind" "I", Cond.fieldLink RX2 31 "RefusePlanner$Tour" "tipVisits" "I", Cond.fieldLink RX2 34 "RefusePlanner$Tour" "litres" "I", Cond.methodLink RX2 67 yX1_overTip, Cond.instanceMethod yX1_overTip, Cond.selects RX1 yX1_overTip yX1_overTip, Cond.code yX1_overTip cX1_overTip 6 (some .int), Cond.constant RX1 28 (2147483647), Cond.fieldLink RX1 18 "RefusePlanner$Region" "places" "I", Cond.methodLink RX1 33 Lib.Math.min.name, Cond.methodLink RX1 22 yX1_hasTip, Cond.instanceMethod yX1_hasTip, Cond.selects RX1 yX1_hasTip yX1_hasTip, Cond.code yX1_hasTip cX1_hasTip 3 (some .boolean), Cond.fieldLink RX1 15 "RefusePlanner$Region" "tips" "[I", Cond.methodLink RX1 29 yX1_between]
def wsX2_visit : List Cond := .code yX2_visit cX2_visit 3 (some .int) :: ((wsX2_visit_r1 ++ wsX2_visit_r2) ++ wsX00 ++ wsX20 ++ wsX10)
def wsX2_end_r1 : List Cond := [Cond.fieldLink RX2 25 "RefusePlanner$Tour" "load" "I", Cond.methodLink RX2 53 yX2_unloadOnTheWayTo, Cond.instanceMethod yX2_unloadOnTheWayTo, Cond.selects RX2 yX2_unloadOnTheWayTo yX2_unloadOnTheWayTo, Cond.initialized RX2, Cond.code yX2_unloadOnTheWayTo cX2_unloadOnTheWayTo 2 none, Cond.fieldLink RX2 28 "RefusePlanner$Tour" "minutes" "I", Cond.fieldLink RX2 9 "RefusePlanner$Tour" "region" "LRefusePlanner$Region;", Cond.fieldLink RX2 15 "RefusePlanner$Tour" "kind" "I", Cond.fieldLink RX2 22 "RefusePlanner$Tour" "at" "I", Cond.fieldLink RX2 31 "RefusePlanner$Tour" "tipVisits" "I", Cond.fieldLink RX2 34 "RefusePlanner$Tour" "litres" "I", Cond.methodLink RX2 67 yX1_overTip, Cond.instanceMethod yX1_overTip, Cond.selects RX1 yX1_overTip yX1_overTip, Cond.initialized RX1, Cond.code yX1_overTip cX1_overTip 6 (some .int), Cond.constant RX1 28 (2147483647), Cond.fieldLink RX1 18 "RefusePlanner$Region" "places" "I", Cond.methodLink RX1 33 Lib.Math.min.name, Cond.static Lib.Math.min.name, Cond.initialized "java/lang/Math", Cond.code Lib.Math.min.name Lib.Math.min.code 2 (some .int), Cond.methodLink RX1 22 yX1_hasTip]
def wsX2_end_r2 : List Cond := [Cond.instanceMethod yX1_hasTip, Cond.selects RX1 yX1_hasTip yX1_hasTip, Cond.code yX1_hasTip cX1_hasTip 3 (some .boolean), Cond.fieldLink RX1 15 "RefusePlanner$Region" "tips" "[I", Cond.methodLink RX1 29 yX1_between, Cond.instanceMethod yX1_between, Cond.selects RX1 yX1_between yX1_between, Cond.code yX1_between cX1_between 3 (some .int), Cond.fieldLink RX1 9 "RefusePlanner$Region" "minutes" "[I", Cond.methodLink RX2 42 yX2_driveTo, Cond.instanceMethod yX2_driveTo, Cond.selects RX2 yX2_driveTo yX2_driveTo, Cond.code yX2_driveTo cX2_driveTo 2 none, Cond.methodLink RX2 62 yX1_between]
def wsX2_end : List Cond := .code yX2_end cX2_end 1 none :: ((wsX2_end_r1 ++ wsX2_end_r2) ++ wsX20 ++ wsX10)
def wsJxa1e45_init_da8c8 : List Cond := .code yJxa1e45_init_da8c8 cJxa1e45_init_da8c8 1 none :: ([.methodLink RJxa1e45 1 objectInit, .instanceMethod objectInit, .code objectInit ⟨#[0xb1]⟩ 1 none])
def wsJxc12de_init_da8c8 : List Cond := .code yJxc12de_init_da8c8 cJxc12de_init_da8c8 1 none :: ([.fieldLink RJxc12de 7 "java/util/AbstractList" "modCount" "I", .methodLink RJxc12de 1 yJxa1e45_init_da8c8, .instanceMethod yJxa1e45_init_da8c8, .initialized RJxa1e45, .code yJxa1e45_init_da8c8 cJxa1e45_init_da8c8 1 none, .methodLink RJxa1e45 1 objectInit, .instanceMethod objectInit, .code objectInit ⟨#[0xb1]⟩ 1 none] ++ wsJx4a65c0)
def wsJx4a65c_init_da8c8 : List Cond := .code yJx4a65c_init_da8c8 cJx4a65c_init_da8c8 1 none :: ([.fieldLink RJx4a65c 39 "java/util/ArrayList" "DEFAULTCAPACITY_EMPTY_ELEMENTDATA" "[Ljava/lang/Object;", .fieldLink RJx4a65c 9 "java/util/ArrayList" "elementData" "[Ljava/lang/Object;", .methodLink RJx4a65c 1 yJxc12de_init_da8c8, .instanceMethod yJxc12de_init_da8c8, .initialized RJxc12de, .code yJxc12de_init_da8c8 cJxc12de_init_da8c8 1 none, .fieldLink RJxc12de 7 "java/util/AbstractList" "modCount" "I", .methodLink RJxc12de 1 yJxa1e45_init_da8c8, .instanceMethod yJxa1e45_init_da8c8, .initialized RJxa1e45, .code yJxa1e45_init_da8c8 cJxa1e45_init_da8c8 1 none, .methodLink RJxa1e45 1 objectInit, .instanceMethod objectInit, .code objectInit ⟨#[0xb1]⟩ 1 none] ++ wsJx4a65c0)
def wsX3_init_r1 : List Cond := [Cond.methodLink RX3 3 objectInit, Cond.instanceMethod objectInit, Cond.code objectInit ⟨#[0xb1]⟩ 1 none, Cond.classLink RX3 9 RX1, Cond.instantiable RX1 3, Cond.initialized RX1, Cond.fieldLink RX3 12 "RefusePlanner" "region" "LRefusePlanner$Region;", Cond.classLink RX3 16 RJx4a65c, Cond.instantiable RJx4a65c 3, Cond.initialized RJx4a65c, Cond.fieldLink RX3 19 "RefusePlanner" "bins" "Ljava/util/ArrayList;", Cond.arrayClass .boolean, Cond.fieldLink RX3 23 "RefusePlanner" "holidays" "[Z", Cond.arrayClass .long, Cond.fieldLink RX3 27 "RefusePlanner" "totals" "[J", Cond.fieldLink RX3 31 "RefusePlanner" "wastes" "[J", Cond.arrayClass .int, Cond.fieldLink RX3 34 "RefusePlanner" "route" "[I", Cond.fieldLink RX3 38 "RefusePlanner" "stops" "I", Cond.fieldLink RX3 42 "RefusePlanner" "day" "I", Cond.methodLink RX3 11 yX1_init, Cond.instanceMethod yX1_init, Cond.code yX1_init cX1_init 3 none, Cond.methodLink RX1 3 objectInit]
def wsX3_init_r2 : List Cond := [Cond.fieldLink RX1 9 "RefusePlanner$Region" "minutes" "[I", Cond.fieldLink RX1 15 "RefusePlanner$Region" "tips" "[I", Cond.fieldLink RX1 18 "RefusePlanner$Region" "places" "I", Cond.methodLink RX3 18 yJx4a65c_init_da8c8, Cond.instanceMethod yJx4a65c_init_da8c8, Cond.code yJx4a65c_init_da8c8 cJx4a65c_init_da8c8 1 none, Cond.fieldLink RJx4a65c 39 "java/util/ArrayList" "DEFAULTCAPACITY_EMPTY_ELEMENTDATA" "[Ljava/lang/Object;", Cond.fieldLink RJx4a65c 9 "java/util/ArrayList" "elementData" "[Ljava/lang/Object;", Cond.methodLink RJx4a65c 1 yJxc12de_init_da8c8, Cond.instanceMethod yJxc12de_init_da8c8, Cond.initialized RJxc12de, Cond.code yJxc12de_init_da8c8 cJxc12de_init_da8c8 1 none, Cond.fieldLink RJxc12de 7 "java/util/AbstractList" "modCount" "I", Cond.methodLink RJxc12de 1 yJxa1e45_init_da8c8, Cond.instanceMethod yJxa1e45_init_da8c8, Cond.initialized RJxa1e45, Cond.code yJxa1e45_init_da8c8 cJxa1e45_init_da8c8 1 none, Cond.methodLink RJxa1e45 1 objectInit]
def wsX3_init : List Cond := .code yX3_init cX3_init 1 none :: ((wsX3_init_r1 ++ wsX3_init_r2) ++ wsX10 ++ wsX30 ++ wsJx4a65c0)
def wsX3_addPlace : List Cond := .code yX3_addPlace cX3_addPlace 1 (some .int) :: ([.classLink RX3 48 "java/lang/IllegalStateException", .initialized "java/lang/IllegalStateException", .fieldLink RX3 12 "RefusePlanner" "region" "LRefusePlanner$Region;", .methodLink RX3 55 yX1_add, .instanceMethod yX1_add, .selects RX1 yX1_add yX1_add, .initialized RX1, .code yX1_add cX1_add 2 (some .int), .fieldLink RX1 18 "RefusePlanner$Region" "places" "I"] ++ wsX30 ++ wsX10 ++ (vx_atS RX3 52 "java/lang/IllegalStateException" ["java/lang/RuntimeException", "java/lang/Exception"]).filter goodWord)
def wsX3_checkPlace : List Cond := .code yX3_checkPlace cX3_checkPlace 2 none :: ([.classLink RX3 96 "java/lang/IndexOutOfBoundsException", .initialized "java/lang/IndexOutOfBoundsException", .fieldLink RX3 12 "RefusePlanner" "region" "LRefusePlanner$Region;"] ++ wsX30 ++ wsX10 ++ (vx_atS RX3 100 "java/lang/IndexOutOfBoundsException" ["java/lang/RuntimeException", "java/lang/Exception"]).filter goodWord)
def wsX3_checkRange : List Cond := .code yX3_checkRange cX3_checkRange 4 none :: ([.classLink RX3 63 "java/lang/IllegalArgumentException", .initialized "java/lang/IllegalArgumentException"] ++ (vx_atS RX3 67 "java/lang/IllegalArgumentException" ["java/lang/RuntimeException", "java/lang/Exception"]).filter goodWord)
def wsX3_setMinutes : List Cond := .code yX3_setMinutes cX3_setMinutes 5 (some .int) :: ([.classLink RX3 63 "java/lang/IllegalArgumentException", .initialized "java/lang/IllegalArgumentException", .fieldLink RX3 12 "RefusePlanner" "region" "LRefusePlanner$Region;", .methodLink RX3 59 yX3_checkPlace, .instanceMethod yX3_checkPlace, .selects RX3 yX3_checkPlace yX3_checkPlace, .initialized RX3, .code yX3_checkPlace cX3_checkPlace 2 none, .classLink RX3 96 "java/lang/IndexOutOfBoundsException", .initialized "java/lang/IndexOutOfBoundsException", .methodLink RX3 68 yX3_checkRange, .instanceMethod yX3_checkRange, .selects RX3 yX3_checkRange yX3_checkRange, .code yX3_checkRange cX3_checkRange 4 none, .methodLink RX3 72 yX1_between, .instanceMethod yX1_between, .selects RX1 yX1_between yX1_between, .initialized RX1, .code yX1_between cX1_between 3 (some .int), .fieldLink RX1 9 "RefusePlanner$Region" "minutes" "[I", .methodLink RX3 76 yX1_join, .instanceMethod yX1_join, .selects RX1 yX1_join yX1_join, .code yX1_join cX1_join 4 none] ++ wsX30 ++ wsX10 ++ (vx_atS RX3 67 "java/lang/IllegalArgumentException" ["java/lang/RuntimeException", "java/lang/Exception"]).filter goodWord ++ (vx_atS RX3 100 "java/lang/IndexOutOfBoundsException" ["java/lang/RuntimeException", "java/lang/Exception"]).filter goodWord)
def wsX3_checkKind : List Cond := .code yX3_checkKind cX3_checkKind 2 none :: ([.classLink RX3 96 "java/lang/IndexOutOfBoundsException", .initialized "java/lang/IndexOutOfBoundsException"] ++ (vx_atS RX3 100 "java/lang/IndexOutOfBoundsException" ["java/lang/RuntimeException", "java/lang/Exception"]).filter goodWord)
def wsX3_setTip_r1 : List Cond := [Cond.classLink RX3 63 "java/lang/IllegalArgumentException", Cond.initialized "java/lang/IllegalArgumentException", Cond.fieldLink RX3 12 "RefusePlanner" "region" "LRefusePlanner$Region;", Cond.methodLink RX3 59 yX3_checkPlace, Cond.instanceMethod yX3_checkPlace, Cond.selects RX3 yX3_checkPlace yX3_checkPlace, Cond.initialized RX3, Cond.code yX3_checkPlace cX3_checkPlace 2 none, Cond.classLink RX3 96 "java/lang/IndexOutOfBoundsException", Cond.initialized "java/lang/IndexOutOfBoundsException", Cond.methodLink RX3 79 yX3_checkKind, Cond.instanceMethod yX3_checkKind, Cond.selects RX3 yX3_checkKind yX3_checkKind, Cond.code yX3_checkKind cX3_checkKind 2 none, Cond.methodLink RX3 82 yX1_hasTip, Cond.instanceMethod yX1_hasTip, Cond.selects RX1 yX1_hasTip yX1_hasTip, Cond.initialized RX1, Cond.code yX1_hasTip cX1_hasTip 3 (some .boolean), Cond.fieldLink RX1 15 "RefusePlanner$Region" "tips" "[I", Cond.methodLink RX3 86 yX1_countTips, Cond.instanceMethod yX1_countTips, Cond.selects RX1 yX1_countTips yX1_countTips, Cond.code yX1_countTips cX1_countTips 4 (some .int)]
def wsX3_setTip_r2 : List Cond := [Cond.fieldLink RX1 18 "RefusePlanner$Region" "places" "I", Cond.methodLink RX1 22 yX1_hasTip, Cond.methodLink RX3 92 yX1_putTip, Cond.instanceMethod yX1_putTip, Cond.selects RX1 yX1_putTip yX1_putTip, Cond.code yX1_putTip cX1_putTip 5 none]
def wsX3_setTip : List Cond := .code yX3_setTip cX3_setTip 5 (some .boolean) :: ((wsX3_setTip_r1 ++ wsX3_setTip_r2) ++ wsX30 ++ wsX10 ++ (vx_atS RX3 67 "java/lang/IllegalArgumentException" ["java/lang/RuntimeException", "java/lang/Exception"]).filter goodWord ++ (vx_atS RX3 100 "java/lang/IndexOutOfBoundsException" ["java/lang/RuntimeException", "java/lang/Exception"]).filter goodWord)
def wsX3_setHoliday : List Cond := .code yX3_setHoliday cX3_setHoliday 4 (some .boolean) :: ([.classLink RX3 96 "java/lang/IndexOutOfBoundsException", .initialized "java/lang/IndexOutOfBoundsException", .fieldLink RX3 23 "RefusePlanner" "holidays" "[Z"] ++ wsX30 ++ (vx_atS RX3 100 "java/lang/IndexOutOfBoundsException" ["java/lang/RuntimeException", "java/lang/Exception"]).filter goodWord)
def wsJx4a65c_size_8abf5 : List Cond := .code yJx4a65c_size_8abf5 cJx4a65c_size_8abf5 1 (some .int) :: ([.fieldLink RJx4a65c 48 "java/util/ArrayList" "size" "I"] ++ wsJx4a65c0)
def wsJ3_checkIndex_8e157 : List Cond := .code yJ3_checkIndex_8e157 cJ3_checkIndex_8e157 3 (some .int) :: ([])
def wsJ15_checkIndex_7cf53 : List Cond := .code yJ15_checkIndex_7cf53 cJ15_checkIndex_7cf53 2 (some .int) :: ([.methodLink RJ15 105 yJ3_checkIndex_8e157, .static yJ3_checkIndex_8e157, .initialized RJ3, .code yJ3_checkIndex_8e157 cJ3_checkIndex_8e157 3 (some .int)])
def wsJx4a65c_elementData_915e3 : List Cond := .code yJx4a65c_elementData_915e3 cJx4a65c_elementData_915e3 2 (some (.object "java/lang/Object")) :: ([.fieldLink RJx4a65c 9 "java/util/ArrayList" "elementData" "[Ljava/lang/Object;"] ++ wsJx4a65c0)
def wsJx4a65c_get_915e3 : List Cond := .code yJx4a65c_get_915e3 cJx4a65c_get_915e3 2 (some (.object "java/lang/Object")) :: ([.fieldLink RJx4a65c 48 "java/util/ArrayList" "size" "I", .methodLink RJx4a65c 118 yJ15_checkIndex_7cf53, .static yJ15_checkIndex_7cf53, .initialized RJ15, .code yJ15_checkIndex_7cf53 cJ15_checkIndex_7cf53 2 (some .int), .methodLink RJ15 105 yJ3_checkIndex_8e157, .static yJ3_checkIndex_8e157, .initialized RJ3, .code yJ3_checkIndex_8e157 cJ3_checkIndex_8e157 3 (some .int), .methodLink RJx4a65c 123 yJx4a65c_elementData_915e3, .instanceMethod yJx4a65c_elementData_915e3, .selects RJx4a65c yJx4a65c_elementData_915e3 yJx4a65c_elementData_915e3, .initialized RJx4a65c, .code yJx4a65c_elementData_915e3 cJx4a65c_elementData_915e3 2 (some (.object "java/lang/Object")), .fieldLink RJx4a65c 9 "java/util/ArrayList" "elementData" "[Ljava/lang/Object;"] ++ wsJx4a65c0)
def wsX3_passOneDay_r1 : List Cond := [Cond.fieldLink RX3 42 "RefusePlanner" "day" "I", Cond.fieldLink RX3 19 "RefusePlanner" "bins" "Ljava/util/ArrayList;", Cond.classLink RX3 113 "RefusePlanner$Bin", Cond.fieldLink RX3 31 "RefusePlanner" "wastes" "[J", Cond.methodLink RX3 108 yJx4a65c_size_8abf5, Cond.instanceMethod yJx4a65c_size_8abf5, Cond.selects RJx4a65c yJx4a65c_size_8abf5 yJx4a65c_size_8abf5, Cond.initialized RJx4a65c, Cond.code yJx4a65c_size_8abf5 cJx4a65c_size_8abf5 1 (some .int), Cond.fieldLink RJx4a65c 48 "java/util/ArrayList" "size" "I", Cond.methodLink RX3 124 yJx4a65c_get_915e3, Cond.instanceMethod yJx4a65c_get_915e3, Cond.selects RJx4a65c yJx4a65c_get_915e3 yJx4a65c_get_915e3, Cond.code yJx4a65c_get_915e3 cJx4a65c_get_915e3 2 (some (.object "java/lang/Object")), Cond.methodLink RJx4a65c 118 yJ15_checkIndex_7cf53, Cond.static yJ15_checkIndex_7cf53, Cond.initialized RJ15, Cond.code yJ15_checkIndex_7cf53 cJ15_checkIndex_7cf53 2 (some .int), Cond.methodLink RJ15 105 yJ3_checkIndex_8e157, Cond.static yJ3_checkIndex_8e157, Cond.initialized RJ3, Cond.code yJ3_checkIndex_8e157 cJ3_checkIndex_8e157 3 (some .int), Cond.methodLink RJx4a65c 123 yJx4a65c_elementData_915e3, Cond.instanceMethod yJx4a65c_elementData_915e3]
def wsX3_passOneDay_r2 : List Cond := [Cond.selects RJx4a65c yJx4a65c_elementData_915e3 yJx4a65c_elementData_915e3, Cond.code yJx4a65c_elementData_915e3 cJx4a65c_elementData_915e3 2 (some (.object "java/lang/Object")), Cond.fieldLink RJx4a65c 9 "java/util/ArrayList" "elementData" "[Ljava/lang/Object;", Cond.methodLink RX3 214 yX0_fill, Cond.instanceMethod yX0_fill, Cond.selects RX0 yX0_fill yX0_fill, Cond.initialized RX0, Cond.code yX0_fill cX0_fill 2 (some .int), Cond.fieldLink RX0 22 "RefusePlanner$Bin" "content" "I", Cond.fieldLink RX0 19 "RefusePlanner$Bin" "growth" "I", Cond.fieldLink RX0 16 "RefusePlanner$Bin" "size" "I", Cond.methodLink RX0 55 Lib.Math.max.name, Cond.static Lib.Math.max.name, Cond.initialized "java/lang/Math", Cond.code Lib.Math.max.name Lib.Math.max.code 2 (some .int), Cond.fieldLink RX0 31 "RefusePlanner$Bin" "overflows" "I"]
def wsX3_passOneDay : List Cond := .code yX3_passOneDay cX3_passOneDay 5 (some .int) :: ((wsX3_passOneDay_r1 ++ wsX3_passOneDay_r2) ++ wsX30 ++ wsX00 ++ wsJx4a65c0)
def wsX3_pass_r1 : List Cond := [Cond.classLink RX3 48 "java/lang/IllegalStateException", Cond.initialized "java/lang/IllegalStateException", Cond.fieldLink RX3 42 "RefusePlanner" "day" "I", Cond.methodLink RX3 68 yX3_checkRange, Cond.instanceMethod yX3_checkRange, Cond.selects RX3 yX3_checkRange yX3_checkRange, Cond.initialized RX3, Cond.code yX3_checkRange cX3_checkRange 4 none, Cond.classLink RX3 63 "java/lang/IllegalArgumentException", Cond.initialized "java/lang/IllegalArgumentException", Cond.methodLink RX3 103 yX3_passOneDay, Cond.instanceMethod yX3_passOneDay, Cond.selects RX3 yX3_passOneDay yX3_passOneDay, Cond.code yX3_passOneDay cX3_passOneDay 5 (some .int), Cond.fieldLink RX3 19 "RefusePlanner" "bins" "Ljava/util/ArrayList;", Cond.classLink RX3 113 "RefusePlanner$Bin", Cond.fieldLink RX3 31 "RefusePlanner" "wastes" "[J", Cond.methodLink RX3 108 yJx4a65c_size_8abf5, Cond.instanceMethod yJx4a65c_size_8abf5, Cond.selects RJx4a65c yJx4a65c_size_8abf5 yJx4a65c_size_8abf5, Cond.initialized RJx4a65c, Cond.code yJx4a65c_size_8abf5 cJx4a65c_size_8abf5 1 (some .int), Cond.fieldLink RJx4a65c 48 "java/util/ArrayList" "size" "I", Cond.methodLink RX3 124 yJx4a65c_get_915e3]
def wsX3_pass_r2 : List Cond := [Cond.instanceMethod yJx4a65c_get_915e3, Cond.selects RJx4a65c yJx4a65c_get_915e3 yJx4a65c_get_915e3, Cond.code yJx4a65c_get_915e3 cJx4a65c_get_915e3 2 (some (.object "java/lang/Object")), Cond.methodLink RJx4a65c 118 yJ15_checkIndex_7cf53, Cond.static yJ15_checkIndex_7cf53, Cond.initialized RJ15, Cond.code yJ15_checkIndex_7cf53 cJ15_checkIndex_7cf53 2 (some .int), Cond.methodLink RJ15 105 yJ3_checkIndex_8e157, Cond.static yJ3_checkIndex_8e157, Cond.initialized RJ3, Cond.code yJ3_checkIndex_8e157 cJ3_checkIndex_8e157 3 (some .int), Cond.methodLink RJx4a65c 123 yJx4a65c_elementData_915e3, Cond.instanceMethod yJx4a65c_elementData_915e3, Cond.selects RJx4a65c yJx4a65c_elementData_915e3 yJx4a65c_elementData_915e3, Cond.code yJx4a65c_elementData_915e3 cJx4a65c_elementData_915e3 2 (some (.object "java/lang/Object")), Cond.fieldLink RJx4a65c 9 "java/util/ArrayList" "elementData" "[Ljava/lang/Object;", Cond.methodLink RX3 214 yX0_fill, Cond.instanceMethod yX0_fill, Cond.selects RX0 yX0_fill yX0_fill, Cond.initialized RX0, Cond.code yX0_fill cX0_fill 2 (some .int), Cond.fieldLink RX0 22 "RefusePlanner$Bin" "content" "I", Cond.fieldLink RX0 19 "RefusePlanner$Bin" "growth" "I", Cond.fieldLink RX0 16 "RefusePlanner$Bin" "size" "I"]
def wsX3_pass_r3 : List Cond := [Cond.methodLink RX0 55 Lib.Math.max.name, Cond.static Lib.Math.max.name, Cond.initialized "java/lang/Math", Cond.code Lib.Math.max.name Lib.Math.max.code 2 (some .int), Cond.fieldLink RX0 31 "RefusePlanner$Bin" "overflows" "I"]
def wsX3_pass : List Cond := .code yX3_pass cX3_pass 4 (some .int) :: ((wsX3_pass_r1 ++ (wsX3_pass_r2 ++ wsX3_pass_r3)) ++ wsX30 ++ wsX00 ++ wsJx4a65c0 ++ (vx_atS RX3 52 "java/lang/IllegalStateException" ["java/lang/RuntimeException", "java/lang/Exception"]).filter goodWord ++ (vx_atS RX3 67 "java/lang/IllegalArgumentException" ["java/lang/RuntimeException", "java/lang/Exception"]).filter goodWord)
def wsX3_today : List Cond := .code yX3_today cX3_today 1 (some .int) :: ([.fieldLink RX3 42 "RefusePlanner" "day" "I"] ++ wsX30)
def wsX3_nextWorkday : List Cond := .code yX3_nextWorkday cX3_nextWorkday 2 (some .int) :: ([.fieldLink RX3 42 "RefusePlanner" "day" "I", .fieldLink RX3 23 "RefusePlanner" "holidays" "[Z"] ++ wsX30)
def wsJ8_hugeLength_7cf53 : List Cond := .code yJ8_hugeLength_7cf53 cJ8_hugeLength_7cf53 3 (some .int) :: ([.constant RJ8 200 (2147483639)])
def wsJ8_newLength_cabcc : List Cond := .code yJ8_newLength_cabcc cJ8_newLength_cabcc 4 (some .int) :: ([.methodLink RJ8 194 Lib.Math.max.name, .static Lib.Math.max.name, .initialized "java/lang/Math", .code Lib.Math.max.name Lib.Math.max.code 2 (some .int), .constant RJ8 200 (2147483639), .methodLink RJ8 201 yJ8_hugeLength_7cf53, .static yJ8_hugeLength_7cf53, .initialized RJ8, .code yJ8_hugeLength_7cf53 cJ8_hugeLength_7cf53 3 (some .int)])
def wsJ7_copyOf_6403c : List Cond := .code yJ7_copyOf_6403c cJ7_copyOf_6403c 4 (some (.array (.object "java/lang/Object"))) :: ([.classLink RJ7 110 "[Ljava/lang/Object;", .classLink RJ7 2 "java/lang/Object", .methodLink RJ7 304 Lib.Math.min.name, .static Lib.Math.min.name, .initialized "java/lang/Math", .code Lib.Math.min.name Lib.Math.min.code 2 (some .int), .methodLink RJ7 150 arraycopyName, .native arraycopyName, .static arraycopyName, .initialized "java/lang/System"])
def wsJ7_copyOf_1904c : List Cond := .code yJ7_copyOf_1904c cJ7_copyOf_1904c 2 (some (.array (.object "java/lang/Object"))) :: ([.methodLink RJ7 86 ⟨"java/lang/Object", "getClass", "()Ljava/lang/Class;"⟩, .selects "[Ljava/lang/Object;" ⟨"java/lang/Object", "getClass", "()Ljava/lang/Class;"⟩ ⟨"java/lang/Object", "getClass", "()Ljava/lang/Class;"⟩, .instanceMethod ⟨"java/lang/Object", "getClass", "()Ljava/lang/Class;"⟩, .native ⟨"java/lang/Object", "getClass", "()Ljava/lang/Class;"⟩, .methodLink RJ7 300 yJ7_copyOf_6403c, .static yJ7_copyOf_6403c, .initialized RJ7, .code yJ7_copyOf_6403c cJ7_copyOf_6403c 4 (some (.array (.object "java/lang/Object"))), .classLink RJ7 110 "[Ljava/lang/Object;", .classLink RJ7 2 "java/lang/Object", .methodLink RJ7 304 Lib.Math.min.name, .static Lib.Math.min.name, .initialized "java/lang/Math", .code Lib.Math.min.name Lib.Math.min.code 2 (some .int), .methodLink RJ7 150 arraycopyName, .native arraycopyName, .static arraycopyName, .initialized "java/lang/System"])
def wsJx4a65c_grow_92f84_r1 : List Cond := [Cond.fieldLink RJx4a65c 9 "java/util/ArrayList" "elementData" "[Ljava/lang/Object;", Cond.fieldLink RJx4a65c 39 "java/util/ArrayList" "DEFAULTCAPACITY_EMPTY_ELEMENTDATA" "[Ljava/lang/Object;", Cond.methodLink RJx4a65c 79 Lib.Math.max.name, Cond.static Lib.Math.max.name, Cond.initialized "java/lang/Math", Cond.code Lib.Math.max.name Lib.Math.max.code 2 (some .int), Cond.classLink RJx4a65c 7 "java/lang/Object", Cond.methodLink RJx4a65c 73 yJ8_newLength_cabcc, Cond.static yJ8_newLength_cabcc, Cond.initialized RJ8, Cond.code yJ8_newLength_cabcc cJ8_newLength_cabcc 4 (some .int), Cond.methodLink RJ8 194 Lib.Math.max.name, Cond.constant RJ8 200 (2147483639), Cond.methodLink RJ8 201 yJ8_hugeLength_7cf53, Cond.static yJ8_hugeLength_7cf53, Cond.code yJ8_hugeLength_7cf53 cJ8_hugeLength_7cf53 3 (some .int), Cond.methodLink RJx4a65c 66 yJ7_copyOf_1904c, Cond.static yJ7_copyOf_1904c, Cond.initialized RJ7, Cond.code yJ7_copyOf_1904c cJ7_copyOf_1904c 2 (some (.array (.object "java/lang/Object"))), Cond.methodLink RJ7 86 ⟨"java/lang/Object", "getClass", "()Ljava/lang/Class;"⟩, Cond.selects "[Ljava/lang/Object;" ⟨"java/lang/Object", "getClass", "()Ljava/lang/Class;"⟩ ⟨"java/lang/Object", "getClass", "()Ljava/lang/Class;"⟩, Cond.instanceMethod ⟨"java/lang/Object", "getClass", "()Ljava/lang/Class;"⟩, Cond.native ⟨"java/lang/Object", "getClass", "()Ljava/lang/Class;"⟩]
def wsJx4a65c_grow_92f84_r2 : List Cond := [Cond.methodLink RJ7 300 yJ7_copyOf_6403c, Cond.static yJ7_copyOf_6403c, Cond.code yJ7_copyOf_6403c cJ7_copyOf_6403c 4 (some (.array (.object "java/lang/Object"))), Cond.classLink RJ7 110 "[Ljava/lang/Object;", Cond.classLink RJ7 2 "java/lang/Object", Cond.methodLink RJ7 304 Lib.Math.min.name, Cond.static Lib.Math.min.name, Cond.code Lib.Math.min.name Lib.Math.min.code 2 (some .int), Cond.methodLink RJ7 150 arraycopyName, Cond.native arraycopyName, Cond.static arraycopyName, Cond.initialized "java/lang/System"]
def wsJx4a65c_grow_92f84 : List Cond := .code yJx4a65c_grow_92f84 cJx4a65c_grow_92f84 4 (some (.array (.object "java/lang/Object"))) :: ((wsJx4a65c_grow_92f84_r1 ++ wsJx4a65c_grow_92f84_r2) ++ wsJx4a65c0)
def wsJx4a65c_grow_d5877_r1 : List Cond := [Cond.fieldLink RJx4a65c 48 "java/util/ArrayList" "size" "I", Cond.methodLink RJx4a65c 69 yJx4a65c_grow_92f84, Cond.instanceMethod yJx4a65c_grow_92f84, Cond.selects RJx4a65c yJx4a65c_grow_92f84 yJx4a65c_grow_92f84, Cond.initialized RJx4a65c, Cond.code yJx4a65c_grow_92f84 cJx4a65c_grow_92f84 4 (some (.array (.object "java/lang/Object"))), Cond.fieldLink RJx4a65c 9 "java/util/ArrayList" "elementData" "[Ljava/lang/Object;", Cond.fieldLink RJx4a65c 39 "java/util/ArrayList" "DEFAULTCAPACITY_EMPTY_ELEMENTDATA" "[Ljava/lang/Object;", Cond.methodLink RJx4a65c 79 Lib.Math.max.name, Cond.static Lib.Math.max.name, Cond.initialized "java/lang/Math", Cond.code Lib.Math.max.name Lib.Math.max.code 2 (some .int), Cond.classLink RJx4a65c 7 "java/lang/Object", Cond.methodLink RJx4a65c 73 yJ8_newLength_cabcc, Cond.static yJ8_newLength_cabcc, Cond.initialized RJ8, Cond.code yJ8_newLength_cabcc cJ8_newLength_cabcc 4 (some .int), Cond.methodLink RJ8 194 Lib.Math.max.name, Cond.constant RJ8 200 (2147483639), Cond.methodLink RJ8 201 yJ8_hugeLength_7cf53, Cond.static yJ8_hugeLength_7cf53, Cond.code yJ8_hugeLength_7cf53 cJ8_hugeLength_7cf53 3 (some .int), Cond.methodLink RJx4a65c 66 yJ7_copyOf_1904c, Cond.static yJ7_copyOf_1904c]
def wsJx4a65c_grow_d5877_r2 : List Cond := [Cond.initialized RJ7, Cond.code yJ7_copyOf_1904c cJ7_copyOf_1904c 2 (some (.array (.object "java/lang/Object"))), Cond.methodLink RJ7 86 ⟨"java/lang/Object", "getClass", "()Ljava/lang/Class;"⟩, Cond.selects "[Ljava/lang/Object;" ⟨"java/lang/Object", "getClass", "()Ljava/lang/Class;"⟩ ⟨"java/lang/Object", "getClass", "()Ljava/lang/Class;"⟩, Cond.instanceMethod ⟨"java/lang/Object", "getClass", "()Ljava/lang/Class;"⟩, Cond.native ⟨"java/lang/Object", "getClass", "()Ljava/lang/Class;"⟩, Cond.methodLink RJ7 300 yJ7_copyOf_6403c, Cond.static yJ7_copyOf_6403c, Cond.code yJ7_copyOf_6403c cJ7_copyOf_6403c 4 (some (.array (.object "java/lang/Object"))), Cond.classLink RJ7 110 "[Ljava/lang/Object;", Cond.classLink RJ7 2 "java/lang/Object", Cond.methodLink RJ7 304 Lib.Math.min.name, Cond.static Lib.Math.min.name, Cond.code Lib.Math.min.name Lib.Math.min.code 2 (some .int), Cond.methodLink RJ7 150 arraycopyName, Cond.native arraycopyName, Cond.static arraycopyName, Cond.initialized "java/lang/System"]
def wsJx4a65c_grow_d5877 : List Cond := .code yJx4a65c_grow_d5877 cJx4a65c_grow_d5877 1 (some (.array (.object "java/lang/Object"))) :: ((wsJx4a65c_grow_d5877_r1 ++ wsJx4a65c_grow_d5877_r2) ++ wsJx4a65c0)
def wsJx4a65c_add_72be8_r1 : List Cond := [Cond.fieldLink RJx4a65c 48 "java/util/ArrayList" "size" "I", Cond.methodLink RJx4a65c 129 yJx4a65c_grow_d5877, Cond.instanceMethod yJx4a65c_grow_d5877, Cond.selects RJx4a65c yJx4a65c_grow_d5877 yJx4a65c_grow_d5877, Cond.initialized RJx4a65c, Cond.code yJx4a65c_grow_d5877 cJx4a65c_grow_d5877 1 (some (.array (.object "java/lang/Object"))), Cond.methodLink RJx4a65c 69 yJx4a65c_grow_92f84, Cond.instanceMethod yJx4a65c_grow_92f84, Cond.selects RJx4a65c yJx4a65c_grow_92f84 yJx4a65c_grow_92f84, Cond.code yJx4a65c_grow_92f84 cJx4a65c_grow_92f84 4 (some (.array (.object "java/lang/Object"))), Cond.fieldLink RJx4a65c 9 "java/util/ArrayList" "elementData" "[Ljava/lang/Object;", Cond.fieldLink RJx4a65c 39 "java/util/ArrayList" "DEFAULTCAPACITY_EMPTY_ELEMENTDATA" "[Ljava/lang/Object;", Cond.methodLink RJx4a65c 79 Lib.Math.max.name, Cond.static Lib.Math.max.name, Cond.initialized "java/lang/Math", Cond.code Lib.Math.max.name Lib.Math.max.code 2 (some .int), Cond.classLink RJx4a65c 7 "java/lang/Object", Cond.methodLink RJx4a65c 73 yJ8_newLength_cabcc, Cond.static yJ8_newLength_cabcc, Cond.initialized RJ8, Cond.code yJ8_newLength_cabcc cJ8_newLength_cabcc 4 (some .int), Cond.methodLink RJ8 194 Lib.Math.max.name, Cond.constant RJ8 200 (2147483639), Cond.methodLink RJ8 201 yJ8_hugeLength_7cf53]
def wsJx4a65c_add_72be8_r2 : List Cond := [Cond.static yJ8_hugeLength_7cf53, Cond.code yJ8_hugeLength_7cf53 cJ8_hugeLength_7cf53 3 (some .int), Cond.methodLink RJx4a65c 66 yJ7_copyOf_1904c, Cond.static yJ7_copyOf_1904c, Cond.initialized RJ7, Cond.code yJ7_copyOf_1904c cJ7_copyOf_1904c 2 (some (.array (.object "java/lang/Object"))), Cond.methodLink RJ7 86 ⟨"java/lang/Object", "getClass", "()Ljava/lang/Class;"⟩, Cond.selects "[Ljava/lang/Object;" ⟨"java/lang/Object", "getClass", "()Ljava/lang/Class;"⟩ ⟨"java/lang/Object", "getClass", "()Ljava/lang/Class;"⟩, Cond.instanceMethod ⟨"java/lang/Object", "getClass", "()Ljava/lang/Class;"⟩, Cond.native ⟨"java/lang/Object", "getClass", "()Ljava/lang/Class;"⟩, Cond.methodLink RJ7 300 yJ7_copyOf_6403c, Cond.static yJ7_copyOf_6403c, Cond.code yJ7_copyOf_6403c cJ7_copyOf_6403c 4 (some (.array (.object "java/lang/Object"))), Cond.classLink RJ7 110 "[Ljava/lang/Object;", Cond.classLink RJ7 2 "java/lang/Object", Cond.methodLink RJ7 304 Lib.Math.min.name, Cond.static Lib.Math.min.name, Cond.code Lib.Math.min.name Lib.Math.min.code 2 (some .int), Cond.methodLink RJ7 150 arraycopyName, Cond.native arraycopyName, Cond.static arraycopyName, Cond.initialized "java/lang/System"]
def wsJx4a65c_add_72be8 : List Cond := .code yJx4a65c_add_72be8 cJx4a65c_add_72be8 4 none :: ((wsJx4a65c_add_72be8_r1 ++ wsJx4a65c_add_72be8_r2) ++ wsJx4a65c0)
def wsJx4a65c_add_9ea2d_r1 : List Cond := [Cond.fieldLink RJx4a65c 63 "java/util/ArrayList" "modCount" "I", Cond.sameField "java/util/ArrayList" "java/util/AbstractList" "modCount" "I", Cond.fieldLink RJx4a65c 9 "java/util/ArrayList" "elementData" "[Ljava/lang/Object;", Cond.fieldLink RJx4a65c 48 "java/util/ArrayList" "size" "I", Cond.methodLink RJx4a65c 131 yJx4a65c_add_72be8, Cond.instanceMethod yJx4a65c_add_72be8, Cond.selects RJx4a65c yJx4a65c_add_72be8 yJx4a65c_add_72be8, Cond.initialized RJx4a65c, Cond.code yJx4a65c_add_72be8 cJx4a65c_add_72be8 4 none, Cond.methodLink RJx4a65c 129 yJx4a65c_grow_d5877, Cond.instanceMethod yJx4a65c_grow_d5877, Cond.selects RJx4a65c yJx4a65c_grow_d5877 yJx4a65c_grow_d5877, Cond.code yJx4a65c_grow_d5877 cJx4a65c_grow_d5877 1 (some (.array (.object "java/lang/Object"))), Cond.methodLink RJx4a65c 69 yJx4a65c_grow_92f84, Cond.instanceMethod yJx4a65c_grow_92f84, Cond.selects RJx4a65c yJx4a65c_grow_92f84 yJx4a65c_grow_92f84, Cond.code yJx4a65c_grow_92f84 cJx4a65c_grow_92f84 4 (some (.array (.object "java/lang/Object"))), Cond.fieldLink RJx4a65c 39 "java/util/ArrayList" "DEFAULTCAPACITY_EMPTY_ELEMENTDATA" "[Ljava/lang/Object;", Cond.methodLink RJx4a65c 79 Lib.Math.max.name, Cond.static Lib.Math.max.name, Cond.initialized "java/lang/Math", Cond.code Lib.Math.max.name Lib.Math.max.code 2 (some .int), Cond.classLink RJx4a65c 7 "java/lang/Object", Cond.methodLink RJx4a65c 73 yJ8_newLength_cabcc]
def wsJx4a65c_add_9ea2d_r2 : List Cond := [Cond.static yJ8_newLength_cabcc, Cond.initialized RJ8, Cond.code yJ8_newLength_cabcc cJ8_newLength_cabcc 4 (some .int), Cond.methodLink RJ8 194 Lib.Math.max.name, Cond.constant RJ8 200 (2147483639), Cond.methodLink RJ8 201 yJ8_hugeLength_7cf53, Cond.static yJ8_hugeLength_7cf53, Cond.code yJ8_hugeLength_7cf53 cJ8_hugeLength_7cf53 3 (some .int), Cond.methodLink RJx4a65c 66 yJ7_copyOf_1904c, Cond.static yJ7_copyOf_1904c, Cond.initialized RJ7, Cond.code yJ7_copyOf_1904c cJ7_copyOf_1904c 2 (some (.array (.object "java/lang/Object"))), Cond.methodLink RJ7 86 ⟨"java/lang/Object", "getClass", "()Ljava/lang/Class;"⟩, Cond.selects "[Ljava/lang/Object;" ⟨"java/lang/Object", "getClass", "()Ljava/lang/Class;"⟩ ⟨"java/lang/Object", "getClass", "()Ljava/lang/Class;"⟩, Cond.instanceMethod ⟨"java/lang/Object", "getClass", "()Ljava/lang/Class;"⟩, Cond.native ⟨"java/lang/Object", "getClass", "()Ljava/lang/Class;"⟩, Cond.methodLink RJ7 300 yJ7_copyOf_6403c, Cond.static yJ7_copyOf_6403c, Cond.code yJ7_copyOf_6403c cJ7_copyOf_6403c 4 (some (.array (.object "java/lang/Object"))), Cond.classLink RJ7 110 "[Ljava/lang/Object;", Cond.classLink RJ7 2 "java/lang/Object", Cond.methodLink RJ7 304 Lib.Math.min.name, Cond.static Lib.Math.min.name, Cond.code Lib.Math.min.name Lib.Math.min.code 2 (some .int)]
def wsJx4a65c_add_9ea2d_r3 : List Cond := [Cond.methodLink RJ7 150 arraycopyName, Cond.native arraycopyName, Cond.static arraycopyName, Cond.initialized "java/lang/System"]
def wsJx4a65c_add_9ea2d : List Cond := .code yJx4a65c_add_9ea2d cJx4a65c_add_9ea2d 2 (some .boolean) :: ((wsJx4a65c_add_9ea2d_r1 ++ (wsJx4a65c_add_9ea2d_r2 ++ wsJx4a65c_add_9ea2d_r3)) ++ wsJx4a65c0)
def wsX3_addBin_r1 : List Cond := [Cond.classLink RX3 96 "java/lang/IndexOutOfBoundsException", Cond.initialized "java/lang/IndexOutOfBoundsException", Cond.classLink RX3 48 "java/lang/IllegalStateException", Cond.initialized "java/lang/IllegalStateException", Cond.fieldLink RX3 19 "RefusePlanner" "bins" "Ljava/util/ArrayList;", Cond.classLink RX3 113 RX0, Cond.instantiable RX0 10, Cond.initialized RX0, Cond.fieldLink RX3 42 "RefusePlanner" "day" "I", Cond.methodLink RX3 59 yX3_checkPlace, Cond.instanceMethod yX3_checkPlace, Cond.selects RX3 yX3_checkPlace yX3_checkPlace, Cond.initialized RX3, Cond.code yX3_checkPlace cX3_checkPlace 2 none, Cond.fieldLink RX3 12 "RefusePlanner" "region" "LRefusePlanner$Region;", Cond.methodLink RX3 79 yX3_checkKind, Cond.instanceMethod yX3_checkKind, Cond.selects RX3 yX3_checkKind yX3_checkKind, Cond.code yX3_checkKind cX3_checkKind 2 none, Cond.methodLink RX3 68 yX3_checkRange, Cond.instanceMethod yX3_checkRange, Cond.selects RX3 yX3_checkRange yX3_checkRange, Cond.code yX3_checkRange cX3_checkRange 4 none, Cond.classLink RX3 63 "java/lang/IllegalArgumentException"]
def wsX3_addBin_r2 : List Cond := [Cond.initialized "java/lang/IllegalArgumentException", Cond.methodLink RX3 108 yJx4a65c_size_8abf5, Cond.instanceMethod yJx4a65c_size_8abf5, Cond.selects RJx4a65c yJx4a65c_size_8abf5 yJx4a65c_size_8abf5, Cond.initialized RJx4a65c, Cond.code yJx4a65c_size_8abf5 cJx4a65c_size_8abf5 1 (some .int), Cond.fieldLink RJx4a65c 48 "java/util/ArrayList" "size" "I", Cond.methodLink RX3 115 yX0_init, Cond.instanceMethod yX0_init, Cond.code yX0_init cX0_init 6 none, Cond.methodLink RX0 1 objectInit, Cond.instanceMethod objectInit, Cond.code objectInit ⟨#[0xb1]⟩ 1 none, Cond.fieldLink RX0 7 "RefusePlanner$Bin" "place" "I", Cond.fieldLink RX0 13 "RefusePlanner$Bin" "kind" "I", Cond.fieldLink RX0 16 "RefusePlanner$Bin" "size" "I", Cond.fieldLink RX0 19 "RefusePlanner$Bin" "growth" "I", Cond.fieldLink RX0 22 "RefusePlanner$Bin" "content" "I", Cond.fieldLink RX0 25 "RefusePlanner$Bin" "rate" "I", Cond.fieldLink RX0 28 "RefusePlanner$Bin" "emptiedOn" "I", Cond.fieldLink RX0 31 "RefusePlanner$Bin" "overflows" "I", Cond.fieldLink RX0 34 "RefusePlanner$Bin" "warnings" "I", Cond.fieldLink RX0 37 "RefusePlanner$Bin" "dirty" "Z", Cond.methodLink RX3 118 yJx4a65c_add_9ea2d]
def wsX3_addBin_r3 : List Cond := [Cond.instanceMethod yJx4a65c_add_9ea2d, Cond.selects RJx4a65c yJx4a65c_add_9ea2d yJx4a65c_add_9ea2d, Cond.code yJx4a65c_add_9ea2d cJx4a65c_add_9ea2d 2 (some .boolean), Cond.fieldLink RJx4a65c 63 "java/util/ArrayList" "modCount" "I", Cond.sameField "java/util/ArrayList" "java/util/AbstractList" "modCount" "I", Cond.fieldLink RJx4a65c 9 "java/util/ArrayList" "elementData" "[Ljava/lang/Object;", Cond.methodLink RJx4a65c 131 yJx4a65c_add_72be8, Cond.instanceMethod yJx4a65c_add_72be8, Cond.selects RJx4a65c yJx4a65c_add_72be8 yJx4a65c_add_72be8, Cond.code yJx4a65c_add_72be8 cJx4a65c_add_72be8 4 none, Cond.methodLink RJx4a65c 129 yJx4a65c_grow_d5877, Cond.instanceMethod yJx4a65c_grow_d5877, Cond.selects RJx4a65c yJx4a65c_grow_d5877 yJx4a65c_grow_d5877, Cond.code yJx4a65c_grow_d5877 cJx4a65c_grow_d5877 1 (some (.array (.object "java/lang/Object"))), Cond.methodLink RJx4a65c 69 yJx4a65c_grow_92f84, Cond.instanceMethod yJx4a65c_grow_92f84, Cond.selects RJx4a65c yJx4a65c_grow_92f84 yJx4a65c_grow_92f84, Cond.code yJx4a65c_grow_92f84 cJx4a65c_grow_92f84 4 (some (.array (.object "java/lang/Object"))), Cond.fieldLink RJx4a65c 39 "java/util/ArrayList" "DEFAULTCAPACITY_EMPTY_ELEMENTDATA" "[Ljava/lang/Object;", Cond.methodLink RJx4a65c 79 Lib.Math.max.name, Cond.static Lib.Math.max.name, Cond.initialized "java/lang/Math", Cond.code Lib.Math.max.name Lib.Math.max.code 2 (some .int), Cond.classLink RJx4a65c 7 "java/lang/Object"]
def wsX3_addBin_r4 : List Cond := [Cond.methodLink RJx4a65c 73 yJ8_newLength_cabcc, Cond.static yJ8_newLength_cabcc, Cond.initialized RJ8, Cond.code yJ8_newLength_cabcc cJ8_newLength_cabcc 4 (some .int), Cond.methodLink RJ8 194 Lib.Math.max.name, Cond.constant RJ8 200 (2147483639), Cond.methodLink RJ8 201 yJ8_hugeLength_7cf53, Cond.static yJ8_hugeLength_7cf53, Cond.code yJ8_hugeLength_7cf53 cJ8_hugeLength_7cf53 3 (some .int), Cond.methodLink RJx4a65c 66 yJ7_copyOf_1904c, Cond.static yJ7_copyOf_1904c, Cond.initialized RJ7, Cond.code yJ7_copyOf_1904c cJ7_copyOf_1904c 2 (some (.array (.object "java/lang/Object"))), Cond.methodLink RJ7 86 ⟨"java/lang/Object", "getClass", "()Ljava/lang/Class;"⟩, Cond.selects "[Ljava/lang/Object;" ⟨"java/lang/Object", "getClass", "()Ljava/lang/Class;"⟩ ⟨"java/lang/Object", "getClass", "()Ljava/lang/Class;"⟩, Cond.instanceMethod ⟨"java/lang/Object", "getClass", "()Ljava/lang/Class;"⟩, Cond.native ⟨"java/lang/Object", "getClass", "()Ljava/lang/Class;"⟩, Cond.methodLink RJ7 300 yJ7_copyOf_6403c, Cond.static yJ7_copyOf_6403c, Cond.code yJ7_copyOf_6403c cJ7_copyOf_6403c 4 (some (.array (.object "java/lang/Object"))), Cond.classLink RJ7 110 "[Ljava/lang/Object;", Cond.classLink RJ7 2 "java/lang/Object", Cond.methodLink RJ7 304 Lib.Math.min.name, Cond.static Lib.Math.min.name]
def wsX3_addBin_r5 : List Cond := [Cond.code Lib.Math.min.name Lib.Math.min.code 2 (some .int), Cond.methodLink RJ7 150 arraycopyName, Cond.native arraycopyName, Cond.static arraycopyName, Cond.initialized "java/lang/System"]
def wsX3_addBin : List Cond := .code yX3_addBin cX3_addBin 6 (some .int) :: ((wsX3_addBin_r1 ++ (wsX3_addBin_r2 ++ (wsX3_addBin_r3 ++ (wsX3_addBin_r4 ++ wsX3_addBin_r5)))) ++ wsX30 ++ wsX00 ++ wsX10 ++ wsJx4a65c0 ++ (vx_atS RX3 100 "java/lang/IndexOutOfBoundsException" ["java/lang/RuntimeException", "java/lang/Exception"]).filter goodWord ++ (vx_atS RX3 52 "java/lang/IllegalStateException" ["java/lang/RuntimeException", "java/lang/Exception"]).filter goodWord ++ (vx_atS RX3 67 "java/lang/IllegalArgumentException" ["java/lang/RuntimeException", "java/lang/Exception"]).filter goodWord)
def wsX3_checkBin : List Cond := .code yX3_checkBin cX3_checkBin 2 none :: ([.classLink RX3 96 "java/lang/IndexOutOfBoundsException", .initialized "java/lang/IndexOutOfBoundsException", .fieldLink RX3 19 "RefusePlanner" "bins" "Ljava/util/ArrayList;", .methodLink RX3 108 yJx4a65c_size_8abf5, .instanceMethod yJx4a65c_size_8abf5, .selects RJx4a65c yJx4a65c_size_8abf5 yJx4a65c_size_8abf5, .initialized RJx4a65c, .code yJx4a65c_size_8abf5 cJx4a65c_size_8abf5 1 (some .int), .fieldLink RJx4a65c 48 "java/util/ArrayList" "size" "I"] ++ wsX30 ++ wsJx4a65c0 ++ (vx_atS RX3 100 "java/lang/IndexOutOfBoundsException" ["java/lang/RuntimeException", "java/lang/Exception"]).filter goodWord)
def wsX3_setGrowth_r1 : List Cond := [Cond.fieldLink RX3 19 "RefusePlanner" "bins" "Ljava/util/ArrayList;", Cond.classLink RX3 113 "RefusePlanner$Bin", Cond.methodLink RX3 121 yX3_checkBin, Cond.instanceMethod yX3_checkBin, Cond.selects RX3 yX3_checkBin yX3_checkBin, Cond.initialized RX3, Cond.code yX3_checkBin cX3_checkBin 2 none, Cond.classLink RX3 96 "java/lang/IndexOutOfBoundsException", Cond.initialized "java/lang/IndexOutOfBoundsException", Cond.methodLink RX3 108 yJx4a65c_size_8abf5, Cond.instanceMethod yJx4a65c_size_8abf5, Cond.selects RJx4a65c yJx4a65c_size_8abf5 yJx4a65c_size_8abf5, Cond.initialized RJx4a65c, Cond.code yJx4a65c_size_8abf5 cJx4a65c_size_8abf5 1 (some .int), Cond.fieldLink RJx4a65c 48 "java/util/ArrayList" "size" "I", Cond.methodLink RX3 68 yX3_checkRange, Cond.instanceMethod yX3_checkRange, Cond.selects RX3 yX3_checkRange yX3_checkRange, Cond.code yX3_checkRange cX3_checkRange 4 none, Cond.classLink RX3 63 "java/lang/IllegalArgumentException", Cond.initialized "java/lang/IllegalArgumentException", Cond.methodLink RX3 124 yJx4a65c_get_915e3, Cond.instanceMethod yJx4a65c_get_915e3, Cond.selects RJx4a65c yJx4a65c_get_915e3 yJx4a65c_get_915e3]
def wsX3_setGrowth_r2 : List Cond := [Cond.code yJx4a65c_get_915e3 cJx4a65c_get_915e3 2 (some (.object "java/lang/Object")), Cond.methodLink RJx4a65c 118 yJ15_checkIndex_7cf53, Cond.static yJ15_checkIndex_7cf53, Cond.initialized RJ15, Cond.code yJ15_checkIndex_7cf53 cJ15_checkIndex_7cf53 2 (some .int), Cond.methodLink RJ15 105 yJ3_checkIndex_8e157, Cond.static yJ3_checkIndex_8e157, Cond.initialized RJ3, Cond.code yJ3_checkIndex_8e157 cJ3_checkIndex_8e157 3 (some .int), Cond.methodLink RJx4a65c 123 yJx4a65c_elementData_915e3, Cond.instanceMethod yJx4a65c_elementData_915e3, Cond.selects RJx4a65c yJx4a65c_elementData_915e3 yJx4a65c_elementData_915e3, Cond.code yJx4a65c_elementData_915e3 cJx4a65c_elementData_915e3 2 (some (.object "java/lang/Object")), Cond.fieldLink RJx4a65c 9 "java/util/ArrayList" "elementData" "[Ljava/lang/Object;"]
def wsX3_setGrowth : List Cond := .code yX3_setGrowth cX3_setGrowth 5 (some .int) :: ((wsX3_setGrowth_r1 ++ wsX3_setGrowth_r2) ++ wsX30 ++ wsX00 ++ wsJx4a65c0 ++ (vx_atS RX3 100 "java/lang/IndexOutOfBoundsException" ["java/lang/RuntimeException", "java/lang/Exception"]).filter goodWord ++ (vx_atS RX3 67 "java/lang/IllegalArgumentException" ["java/lang/RuntimeException", "java/lang/Exception"]).filter goodWord)
def wsX3_soil_r1 : List Cond := [Cond.fieldLink RX3 19 "RefusePlanner" "bins" "Ljava/util/ArrayList;", Cond.classLink RX3 113 "RefusePlanner$Bin", Cond.methodLink RX3 121 yX3_checkBin, Cond.instanceMethod yX3_checkBin, Cond.selects RX3 yX3_checkBin yX3_checkBin, Cond.initialized RX3, Cond.code yX3_checkBin cX3_checkBin 2 none, Cond.classLink RX3 96 "java/lang/IndexOutOfBoundsException", Cond.initialized "java/lang/IndexOutOfBoundsException", Cond.methodLink RX3 108 yJx4a65c_size_8abf5, Cond.instanceMethod yJx4a65c_size_8abf5, Cond.selects RJx4a65c yJx4a65c_size_8abf5 yJx4a65c_size_8abf5, Cond.initialized RJx4a65c, Cond.code yJx4a65c_size_8abf5 cJx4a65c_size_8abf5 1 (some .int), Cond.fieldLink RJx4a65c 48 "java/util/ArrayList" "size" "I", Cond.methodLink RX3 124 yJx4a65c_get_915e3, Cond.instanceMethod yJx4a65c_get_915e3, Cond.selects RJx4a65c yJx4a65c_get_915e3 yJx4a65c_get_915e3, Cond.code yJx4a65c_get_915e3 cJx4a65c_get_915e3 2 (some (.object "java/lang/Object")), Cond.methodLink RJx4a65c 118 yJ15_checkIndex_7cf53, Cond.static yJ15_checkIndex_7cf53, Cond.initialized RJ15, Cond.code yJ15_checkIndex_7cf53 cJ15_checkIndex_7cf53 2 (some .int), Cond.methodLink RJ15 105 yJ3_checkIndex_8e157]
def wsX3_soil_r2 : List Cond := [Cond.static yJ3_checkIndex_8e157, Cond.initialized RJ3, Cond.code yJ3_checkIndex_8e157 cJ3_checkIndex_8e157 3 (some .int), Cond.methodLink RJx4a65c 123 yJx4a65c_elementData_915e3, Cond.instanceMethod yJx4a65c_elementData_915e3, Cond.selects RJx4a65c yJx4a65c_elementData_915e3 yJx4a65c_elementData_915e3, Cond.code yJx4a65c_elementData_915e3 cJx4a65c_elementData_915e3 2 (some (.object "java/lang/Object")), Cond.fieldLink RJx4a65c 9 "java/util/ArrayList" "elementData" "[Ljava/lang/Object;"]
def wsX3_soil : List Cond := .code yX3_soil cX3_soil 4 (some .boolean) :: ((wsX3_soil_r1 ++ wsX3_soil_r2) ++ wsX30 ++ wsX00 ++ wsJx4a65c0 ++ (vx_atS RX3 100 "java/lang/IndexOutOfBoundsException" ["java/lang/RuntimeException", "java/lang/Exception"]).filter goodWord)
def wsX3_binCount : List Cond := .code yX3_binCount cX3_binCount 1 (some .int) :: ([.fieldLink RX3 19 "RefusePlanner" "bins" "Ljava/util/ArrayList;", .methodLink RX3 108 yJx4a65c_size_8abf5, .instanceMethod yJx4a65c_size_8abf5, .selects RJx4a65c yJx4a65c_size_8abf5 yJx4a65c_size_8abf5, .initialized RJx4a65c, .code yJx4a65c_size_8abf5 cJx4a65c_size_8abf5 1 (some .int), .fieldLink RJx4a65c 48 "java/util/ArrayList" "size" "I"] ++ wsX30 ++ wsJx4a65c0)
def wsX3_bin_r1 : List Cond := [Cond.classLink RX3 96 "java/lang/IndexOutOfBoundsException", Cond.initialized "java/lang/IndexOutOfBoundsException", Cond.fieldLink RX3 19 "RefusePlanner" "bins" "Ljava/util/ArrayList;", Cond.classLink RX3 113 "RefusePlanner$Bin", Cond.methodLink RX3 121 yX3_checkBin, Cond.instanceMethod yX3_checkBin, Cond.selects RX3 yX3_checkBin yX3_checkBin, Cond.initialized RX3, Cond.code yX3_checkBin cX3_checkBin 2 none, Cond.methodLink RX3 108 yJx4a65c_size_8abf5, Cond.instanceMethod yJx4a65c_size_8abf5, Cond.selects RJx4a65c yJx4a65c_size_8abf5 yJx4a65c_size_8abf5, Cond.initialized RJx4a65c, Cond.code yJx4a65c_size_8abf5 cJx4a65c_size_8abf5 1 (some .int), Cond.fieldLink RJx4a65c 48 "java/util/ArrayList" "size" "I", Cond.methodLink RX3 124 yJx4a65c_get_915e3, Cond.instanceMethod yJx4a65c_get_915e3, Cond.selects RJx4a65c yJx4a65c_get_915e3 yJx4a65c_get_915e3, Cond.code yJx4a65c_get_915e3 cJx4a65c_get_915e3 2 (some (.object "java/lang/Object")), Cond.methodLink RJx4a65c 118 yJ15_checkIndex_7cf53, Cond.static yJ15_checkIndex_7cf53, Cond.initialized RJ15, Cond.code yJ15_checkIndex_7cf53 cJ15_checkIndex_7cf53 2 (some .int), Cond.methodLink RJ15 105 yJ3_checkIndex_8e157]
def wsX3_bin_r2 : List Cond := [Cond.static yJ3_checkIndex_8e157, Cond.initialized RJ3, Cond.code yJ3_checkIndex_8e157 cJ3_checkIndex_8e157 3 (some .int), Cond.methodLink RJx4a65c 123 yJx4a65c_elementData_915e3, Cond.instanceMethod yJx4a65c_elementData_915e3, Cond.selects RJx4a65c yJx4a65c_elementData_915e3 yJx4a65c_elementData_915e3, Cond.code yJx4a65c_elementData_915e3 cJx4a65c_elementData_915e3 2 (some (.object "java/lang/Object")), Cond.fieldLink RJx4a65c 9 "java/util/ArrayList" "elementData" "[Ljava/lang/Object;", Cond.methodLink RX3 137 yX0_fact, Cond.instanceMethod yX0_fact, Cond.selects RX0 yX0_fact yX0_fact, Cond.initialized RX0, Cond.code yX0_fact cX0_fact 2 (some .int), Cond.fieldLink RX0 7 "RefusePlanner$Bin" "place" "I", Cond.fieldLink RX0 13 "RefusePlanner$Bin" "kind" "I", Cond.fieldLink RX0 22 "RefusePlanner$Bin" "content" "I", Cond.fieldLink RX0 25 "RefusePlanner$Bin" "rate" "I", Cond.fieldLink RX0 28 "RefusePlanner$Bin" "emptiedOn" "I", Cond.fieldLink RX0 31 "RefusePlanner$Bin" "overflows" "I", Cond.fieldLink RX0 34 "RefusePlanner$Bin" "warnings" "I", Cond.fieldLink RX0 37 "RefusePlanner$Bin" "dirty" "Z"]
def wsX3_bin : List Cond := .code yX3_bin cX3_bin 3 (some .int) :: ((wsX3_bin_r1 ++ wsX3_bin_r2) ++ wsX30 ++ wsJx4a65c0 ++ wsX00 ++ (vx_atS RX3 100 "java/lang/IndexOutOfBoundsException" ["java/lang/RuntimeException", "java/lang/Exception"]).filter goodWord)
def wsX3_expected_r1 : List Cond := [Cond.fieldLink RX3 42 "RefusePlanner" "day" "I", Cond.fieldLink RX3 19 "RefusePlanner" "bins" "Ljava/util/ArrayList;", Cond.classLink RX3 113 "RefusePlanner$Bin", Cond.methodLink RX3 121 yX3_checkBin, Cond.instanceMethod yX3_checkBin, Cond.selects RX3 yX3_checkBin yX3_checkBin, Cond.initialized RX3, Cond.code yX3_checkBin cX3_checkBin 2 none, Cond.classLink RX3 96 "java/lang/IndexOutOfBoundsException", Cond.initialized "java/lang/IndexOutOfBoundsException", Cond.methodLink RX3 108 yJx4a65c_size_8abf5, Cond.instanceMethod yJx4a65c_size_8abf5, Cond.selects RJx4a65c yJx4a65c_size_8abf5 yJx4a65c_size_8abf5, Cond.initialized RJx4a65c, Cond.code yJx4a65c_size_8abf5 cJx4a65c_size_8abf5 1 (some .int), Cond.fieldLink RJx4a65c 48 "java/util/ArrayList" "size" "I", Cond.methodLink RX3 68 yX3_checkRange, Cond.instanceMethod yX3_checkRange, Cond.selects RX3 yX3_checkRange yX3_checkRange, Cond.code yX3_checkRange cX3_checkRange 4 none, Cond.classLink RX3 63 "java/lang/IllegalArgumentException", Cond.initialized "java/lang/IllegalArgumentException", Cond.methodLink RX3 124 yJx4a65c_get_915e3, Cond.instanceMethod yJx4a65c_get_915e3]
def wsX3_expected_r2 : List Cond := [Cond.selects RJx4a65c yJx4a65c_get_915e3 yJx4a65c_get_915e3, Cond.code yJx4a65c_get_915e3 cJx4a65c_get_915e3 2 (some (.object "java/lang/Object")), Cond.methodLink RJx4a65c 118 yJ15_checkIndex_7cf53, Cond.static yJ15_checkIndex_7cf53, Cond.initialized RJ15, Cond.code yJ15_checkIndex_7cf53 cJ15_checkIndex_7cf53 2 (some .int), Cond.methodLink RJ15 105 yJ3_checkIndex_8e157, Cond.static yJ3_checkIndex_8e157, Cond.initialized RJ3, Cond.code yJ3_checkIndex_8e157 cJ3_checkIndex_8e157 3 (some .int), Cond.methodLink RJx4a65c 123 yJx4a65c_elementData_915e3, Cond.instanceMethod yJx4a65c_elementData_915e3, Cond.selects RJx4a65c yJx4a65c_elementData_915e3 yJx4a65c_elementData_915e3, Cond.code yJx4a65c_elementData_915e3 cJx4a65c_elementData_915e3 2 (some (.object "java/lang/Object")), Cond.fieldLink RJx4a65c 9 "java/util/ArrayList" "elementData" "[Ljava/lang/Object;", Cond.methodLink RX3 140 yX0_forecast, Cond.instanceMethod yX0_forecast, Cond.selects RX0 yX0_forecast yX0_forecast, Cond.initialized RX0, Cond.code yX0_forecast cX0_forecast 2 (some .int), Cond.fieldLink RX0 16 "RefusePlanner$Bin" "size" "I", Cond.fieldLink RX0 25 "RefusePlanner$Bin" "rate" "I", Cond.fieldLink RX0 28 "RefusePlanner$Bin" "emptiedOn" "I", Cond.methodLink RX0 41 Lib.Math.min.name]
def wsX3_expected_r3 : List Cond := [Cond.static Lib.Math.min.name, Cond.initialized "java/lang/Math", Cond.code Lib.Math.min.name Lib.Math.min.code 2 (some .int)]
def wsX3_expected : List Cond := .code yX3_expected cX3_expected 3 (some .int) :: ((wsX3_expected_r1 ++ (wsX3_expected_r2 ++ wsX3_expected_r3)) ++ wsX30 ++ wsJx4a65c0 ++ wsX00 ++ (vx_atS RX3 100 "java/lang/IndexOutOfBoundsException" ["java/lang/RuntimeException", "java/lang/Exception"]).filter goodWord ++ (vx_atS RX3 67 "java/lang/IllegalArgumentException" ["java/lang/RuntimeException", "java/lang/Exception"]).filter goodWord)
def wsX3_fullOn_r1 : List Cond := [Cond.fieldLink RX3 19 "RefusePlanner" "bins" "Ljava/util/ArrayList;", Cond.classLink RX3 113 "RefusePlanner$Bin", Cond.fieldLink RX3 42 "RefusePlanner" "day" "I", Cond.methodLink RX3 121 yX3_checkBin, Cond.instanceMethod yX3_checkBin, Cond.selects RX3 yX3_checkBin yX3_checkBin, Cond.initialized RX3, Cond.code yX3_checkBin cX3_checkBin 2 none, Cond.classLink RX3 96 "java/lang/IndexOutOfBoundsException", Cond.initialized "java/lang/IndexOutOfBoundsException", Cond.methodLink RX3 108 yJx4a65c_size_8abf5, Cond.instanceMethod yJx4a65c_size_8abf5, Cond.selects RJx4a65c yJx4a65c_size_8abf5 yJx4a65c_size_8abf5, Cond.initialized RJx4a65c, Cond.code yJx4a65c_size_8abf5 cJx4a65c_size_8abf5 1 (some .int), Cond.fieldLink RJx4a65c 48 "java/util/ArrayList" "size" "I", Cond.methodLink RX3 124 yJx4a65c_get_915e3, Cond.instanceMethod yJx4a65c_get_915e3, Cond.selects RJx4a65c yJx4a65c_get_915e3 yJx4a65c_get_915e3, Cond.code yJx4a65c_get_915e3 cJx4a65c_get_915e3 2 (some (.object "java/lang/Object")), Cond.methodLink RJx4a65c 118 yJ15_checkIndex_7cf53, Cond.static yJ15_checkIndex_7cf53, Cond.initialized RJ15, Cond.code yJ15_checkIndex_7cf53 cJ15_checkIndex_7cf53 2 (some .int)]
def wsX3_fullOn_r2 : List Cond := [Cond.methodLink RJ15 105 yJ3_checkIndex_8e157, Cond.static yJ3_checkIndex_8e157, Cond.initialized RJ3, Cond.code yJ3_checkIndex_8e157 cJ3_checkIndex_8e157 3 (some .int), Cond.methodLink RJx4a65c 123 yJx4a65c_elementData_915e3, Cond.instanceMethod yJx4a65c_elementData_915e3, Cond.selects RJx4a65c yJx4a65c_elementData_915e3 yJx4a65c_elementData_915e3, Cond.code yJx4a65c_elementData_915e3 cJx4a65c_elementData_915e3 2 (some (.object "java/lang/Object")), Cond.fieldLink RJx4a65c 9 "java/util/ArrayList" "elementData" "[Ljava/lang/Object;", Cond.methodLink RX3 143 yX0_isFullOn, Cond.instanceMethod yX0_isFullOn, Cond.selects RX0 yX0_isFullOn yX0_isFullOn, Cond.initialized RX0, Cond.code yX0_isFullOn cX0_isFullOn 2 (some .boolean), Cond.fieldLink RX0 16 "RefusePlanner$Bin" "size" "I", Cond.methodLink RX0 47 yX0_forecast, Cond.instanceMethod yX0_forecast, Cond.selects RX0 yX0_forecast yX0_forecast, Cond.code yX0_forecast cX0_forecast 2 (some .int), Cond.fieldLink RX0 25 "RefusePlanner$Bin" "rate" "I", Cond.fieldLink RX0 28 "RefusePlanner$Bin" "emptiedOn" "I", Cond.methodLink RX0 41 Lib.Math.min.name, Cond.static Lib.Math.min.name, Cond.initialized "java/lang/Math"]
def wsX3_fullOn_r3 : List Cond := [Cond.code Lib.Math.min.name Lib.Math.min.code 2 (some .int)]
def wsX3_fullOn : List Cond := .code yX3_fullOn cX3_fullOn 4 (some .int) :: ((wsX3_fullOn_r1 ++ (wsX3_fullOn_r2 ++ wsX3_fullOn_r3)) ++ wsX30 ++ wsJx4a65c0 ++ wsX00 ++ (vx_atS RX3 100 "java/lang/IndexOutOfBoundsException" ["java/lang/RuntimeException", "java/lang/Exception"]).filter goodWord)
def wsX3_nearestStop_r1 : List Cond := [Cond.fieldLink RX3 12 "RefusePlanner" "region" "LRefusePlanner$Region;", Cond.fieldLink RX3 19 "RefusePlanner" "bins" "Ljava/util/ArrayList;", Cond.fieldLink RX3 34 "RefusePlanner" "route" "[I", Cond.classLink RX3 113 "RefusePlanner$Bin", Cond.fieldLink RX3 38 "RefusePlanner" "stops" "I", Cond.methodLink RX3 124 yJx4a65c_get_915e3, Cond.instanceMethod yJx4a65c_get_915e3, Cond.selects RJx4a65c yJx4a65c_get_915e3 yJx4a65c_get_915e3, Cond.initialized RJx4a65c, Cond.code yJx4a65c_get_915e3 cJx4a65c_get_915e3 2 (some (.object "java/lang/Object")), Cond.fieldLink RJx4a65c 48 "java/util/ArrayList" "size" "I", Cond.methodLink RJx4a65c 118 yJ15_checkIndex_7cf53, Cond.static yJ15_checkIndex_7cf53, Cond.initialized RJ15, Cond.code yJ15_checkIndex_7cf53 cJ15_checkIndex_7cf53 2 (some .int), Cond.methodLink RJ15 105 yJ3_checkIndex_8e157, Cond.static yJ3_checkIndex_8e157, Cond.initialized RJ3, Cond.code yJ3_checkIndex_8e157 cJ3_checkIndex_8e157 3 (some .int), Cond.methodLink RJx4a65c 123 yJx4a65c_elementData_915e3, Cond.instanceMethod yJx4a65c_elementData_915e3, Cond.selects RJx4a65c yJx4a65c_elementData_915e3 yJx4a65c_elementData_915e3, Cond.code yJx4a65c_elementData_915e3 cJx4a65c_elementData_915e3 2 (some (.object "java/lang/Object")), Cond.fieldLink RJx4a65c 9 "java/util/ArrayList" "elementData" "[Ljava/lang/Object;"]
def wsX3_nearestStop_r2 : List Cond := [Cond.methodLink RX3 72 yX1_between, Cond.instanceMethod yX1_between, Cond.selects RX1 yX1_between yX1_between, Cond.initialized RX1, Cond.code yX1_between cX1_between 3 (some .int), Cond.fieldLink RX1 9 "RefusePlanner$Region" "minutes" "[I"]
def wsX3_nearestStop : List Cond := .code yX3_nearestStop cX3_nearestStop 7 (some .int) :: ((wsX3_nearestStop_r1 ++ wsX3_nearestStop_r2) ++ wsX30 ++ wsX00 ++ wsJx4a65c0 ++ wsX10)
def wsX3_planRoute_r1 : List Cond := [Cond.fieldLink RX3 38 "RefusePlanner" "stops" "I", Cond.fieldLink RX3 19 "RefusePlanner" "bins" "Ljava/util/ArrayList;", Cond.classLink RX3 113 "RefusePlanner$Bin", Cond.fieldLink RX3 42 "RefusePlanner" "day" "I", Cond.fieldLink RX3 34 "RefusePlanner" "route" "[I", Cond.methodLink RX3 217 yX3_nextWorkday, Cond.instanceMethod yX3_nextWorkday, Cond.selects RX3 yX3_nextWorkday yX3_nextWorkday, Cond.initialized RX3, Cond.code yX3_nextWorkday cX3_nextWorkday 2 (some .int), Cond.fieldLink RX3 23 "RefusePlanner" "holidays" "[Z", Cond.methodLink RX3 108 yJx4a65c_size_8abf5, Cond.instanceMethod yJx4a65c_size_8abf5, Cond.selects RJx4a65c yJx4a65c_size_8abf5 yJx4a65c_size_8abf5, Cond.initialized RJx4a65c, Cond.code yJx4a65c_size_8abf5 cJx4a65c_size_8abf5 1 (some .int), Cond.fieldLink RJx4a65c 48 "java/util/ArrayList" "size" "I", Cond.methodLink RX3 124 yJx4a65c_get_915e3, Cond.instanceMethod yJx4a65c_get_915e3, Cond.selects RJx4a65c yJx4a65c_get_915e3 yJx4a65c_get_915e3, Cond.code yJx4a65c_get_915e3 cJx4a65c_get_915e3 2 (some (.object "java/lang/Object")), Cond.methodLink RJx4a65c 118 yJ15_checkIndex_7cf53, Cond.static yJ15_checkIndex_7cf53, Cond.initialized RJ15]
def wsX3_planRoute_r2 : List Cond := [Cond.code yJ15_checkIndex_7cf53 cJ15_checkIndex_7cf53 2 (some .int), Cond.methodLink RJ15 105 yJ3_checkIndex_8e157, Cond.static yJ3_checkIndex_8e157, Cond.initialized RJ3, Cond.code yJ3_checkIndex_8e157 cJ3_checkIndex_8e157 3 (some .int), Cond.methodLink RJx4a65c 123 yJx4a65c_elementData_915e3, Cond.instanceMethod yJx4a65c_elementData_915e3, Cond.selects RJx4a65c yJx4a65c_elementData_915e3 yJx4a65c_elementData_915e3, Cond.code yJx4a65c_elementData_915e3 cJx4a65c_elementData_915e3 2 (some (.object "java/lang/Object")), Cond.fieldLink RJx4a65c 9 "java/util/ArrayList" "elementData" "[Ljava/lang/Object;", Cond.methodLink RX3 220 yX0_isDue, Cond.instanceMethod yX0_isDue, Cond.selects RX0 yX0_isDue yX0_isDue, Cond.initialized RX0, Cond.code yX0_isDue cX0_isDue 3 (some .boolean), Cond.fieldLink RX0 16 "RefusePlanner$Bin" "size" "I", Cond.methodLink RX0 47 yX0_forecast, Cond.instanceMethod yX0_forecast, Cond.selects RX0 yX0_forecast yX0_forecast, Cond.code yX0_forecast cX0_forecast 2 (some .int), Cond.fieldLink RX0 25 "RefusePlanner$Bin" "rate" "I", Cond.fieldLink RX0 28 "RefusePlanner$Bin" "emptiedOn" "I", Cond.methodLink RX0 41 Lib.Math.min.name, Cond.static Lib.Math.min.name]
def wsX3_planRoute_r3 : List Cond := [Cond.initialized "java/lang/Math", Cond.code Lib.Math.min.name Lib.Math.min.code 2 (some .int), Cond.methodLink RX0 51 yX0_isFullOn, Cond.instanceMethod yX0_isFullOn, Cond.selects RX0 yX0_isFullOn yX0_isFullOn, Cond.code yX0_isFullOn cX0_isFullOn 2 (some .boolean), Cond.methodLink RX3 223 yX3_nearestStop, Cond.instanceMethod yX3_nearestStop, Cond.selects RX3 yX3_nearestStop yX3_nearestStop, Cond.code yX3_nearestStop cX3_nearestStop 7 (some .int), Cond.fieldLink RX3 12 "RefusePlanner" "region" "LRefusePlanner$Region;", Cond.methodLink RX3 72 yX1_between, Cond.instanceMethod yX1_between, Cond.selects RX1 yX1_between yX1_between, Cond.initialized RX1, Cond.code yX1_between cX1_between 3 (some .int), Cond.fieldLink RX1 9 "RefusePlanner$Region" "minutes" "[I"]
def wsX3_planRoute : List Cond := .code yX3_planRoute cX3_planRoute 7 none :: ((wsX3_planRoute_r1 ++ (wsX3_planRoute_r2 ++ wsX3_planRoute_r3)) ++ wsX30 ++ wsX00 ++ wsJx4a65c0 ++ wsX10)
def wsX3_planSize_r1 : List Cond := [Cond.fieldLink RX3 38 "RefusePlanner" "stops" "I", Cond.methodLink RX3 79 yX3_checkKind, Cond.instanceMethod yX3_checkKind, Cond.selects RX3 yX3_checkKind yX3_checkKind, Cond.initialized RX3, Cond.code yX3_checkKind cX3_checkKind 2 none, Cond.classLink RX3 96 "java/lang/IndexOutOfBoundsException", Cond.initialized "java/lang/IndexOutOfBoundsException", Cond.methodLink RX3 147 yX3_planRoute, Cond.instanceMethod yX3_planRoute, Cond.selects RX3 yX3_planRoute yX3_planRoute, Cond.code yX3_planRoute cX3_planRoute 7 none, Cond.fieldLink RX3 19 "RefusePlanner" "bins" "Ljava/util/ArrayList;", Cond.classLink RX3 113 "RefusePlanner$Bin", Cond.fieldLink RX3 42 "RefusePlanner" "day" "I", Cond.fieldLink RX3 34 "RefusePlanner" "route" "[I", Cond.methodLink RX3 217 yX3_nextWorkday, Cond.instanceMethod yX3_nextWorkday, Cond.selects RX3 yX3_nextWorkday yX3_nextWorkday, Cond.code yX3_nextWorkday cX3_nextWorkday 2 (some .int), Cond.fieldLink RX3 23 "RefusePlanner" "holidays" "[Z", Cond.methodLink RX3 108 yJx4a65c_size_8abf5, Cond.instanceMethod yJx4a65c_size_8abf5, Cond.selects RJx4a65c yJx4a65c_size_8abf5 yJx4a65c_size_8abf5]
def wsX3_planSize_r2 : List Cond := [Cond.initialized RJx4a65c, Cond.code yJx4a65c_size_8abf5 cJx4a65c_size_8abf5 1 (some .int), Cond.fieldLink RJx4a65c 48 "java/util/ArrayList" "size" "I", Cond.methodLink RX3 124 yJx4a65c_get_915e3, Cond.instanceMethod yJx4a65c_get_915e3, Cond.selects RJx4a65c yJx4a65c_get_915e3 yJx4a65c_get_915e3, Cond.code yJx4a65c_get_915e3 cJx4a65c_get_915e3 2 (some (.object "java/lang/Object")), Cond.methodLink RJx4a65c 118 yJ15_checkIndex_7cf53, Cond.static yJ15_checkIndex_7cf53, Cond.initialized RJ15, Cond.code yJ15_checkIndex_7cf53 cJ15_checkIndex_7cf53 2 (some .int), Cond.methodLink RJ15 105 yJ3_checkIndex_8e157, Cond.static yJ3_checkIndex_8e157, Cond.initialized RJ3, Cond.code yJ3_checkIndex_8e157 cJ3_checkIndex_8e157 3 (some .int), Cond.methodLink RJx4a65c 123 yJx4a65c_elementData_915e3, Cond.instanceMethod yJx4a65c_elementData_915e3, Cond.selects RJx4a65c yJx4a65c_elementData_915e3 yJx4a65c_elementData_915e3, Cond.code yJx4a65c_elementData_915e3 cJx4a65c_elementData_915e3 2 (some (.object "java/lang/Object")), Cond.fieldLink RJx4a65c 9 "java/util/ArrayList" "elementData" "[Ljava/lang/Object;", Cond.methodLink RX3 220 yX0_isDue, Cond.instanceMethod yX0_isDue, Cond.selects RX0 yX0_isDue yX0_isDue, Cond.initialized RX0]
def wsX3_planSize_r3 : List Cond := [Cond.code yX0_isDue cX0_isDue 3 (some .boolean), Cond.fieldLink RX0 16 "RefusePlanner$Bin" "size" "I", Cond.methodLink RX0 47 yX0_forecast, Cond.instanceMethod yX0_forecast, Cond.selects RX0 yX0_forecast yX0_forecast, Cond.code yX0_forecast cX0_forecast 2 (some .int), Cond.fieldLink RX0 25 "RefusePlanner$Bin" "rate" "I", Cond.fieldLink RX0 28 "RefusePlanner$Bin" "emptiedOn" "I", Cond.methodLink RX0 41 Lib.Math.min.name, Cond.static Lib.Math.min.name, Cond.initialized "java/lang/Math", Cond.code Lib.Math.min.name Lib.Math.min.code 2 (some .int), Cond.methodLink RX0 51 yX0_isFullOn, Cond.instanceMethod yX0_isFullOn, Cond.selects RX0 yX0_isFullOn yX0_isFullOn, Cond.code yX0_isFullOn cX0_isFullOn 2 (some .boolean), Cond.methodLink RX3 223 yX3_nearestStop, Cond.instanceMethod yX3_nearestStop, Cond.selects RX3 yX3_nearestStop yX3_nearestStop, Cond.code yX3_nearestStop cX3_nearestStop 7 (some .int), Cond.fieldLink RX3 12 "RefusePlanner" "region" "LRefusePlanner$Region;", Cond.methodLink RX3 72 yX1_between, Cond.instanceMethod yX1_between, Cond.selects RX1 yX1_between yX1_between]
def wsX3_planSize_r4 : List Cond := [Cond.initialized RX1, Cond.code yX1_between cX1_between 3 (some .int), Cond.fieldLink RX1 9 "RefusePlanner$Region" "minutes" "[I"]
def wsX3_planSize : List Cond := .code yX3_planSize cX3_planSize 2 (some .int) :: ((wsX3_planSize_r1 ++ (wsX3_planSize_r2 ++ (wsX3_planSize_r3 ++ wsX3_planSize_r4))) ++ wsX30 ++ wsX00 ++ wsJx4a65c0 ++ wsX10 ++ (vx_atS RX3 100 "java/lang/IndexOutOfBoundsException" ["java/lang/RuntimeException", "java/lang/Exception"]).filter goodWord)
def wsX3_planned_r1 : List Cond := [Cond.classLink RX3 96 "java/lang/IndexOutOfBoundsException", Cond.initialized "java/lang/IndexOutOfBoundsException", Cond.fieldLink RX3 38 "RefusePlanner" "stops" "I", Cond.fieldLink RX3 34 "RefusePlanner" "route" "[I", Cond.methodLink RX3 79 yX3_checkKind, Cond.instanceMethod yX3_checkKind, Cond.selects RX3 yX3_checkKind yX3_checkKind, Cond.initialized RX3, Cond.code yX3_checkKind cX3_checkKind 2 none, Cond.methodLink RX3 147 yX3_planRoute, Cond.instanceMethod yX3_planRoute, Cond.selects RX3 yX3_planRoute yX3_planRoute, Cond.code yX3_planRoute cX3_planRoute 7 none, Cond.fieldLink RX3 19 "RefusePlanner" "bins" "Ljava/util/ArrayList;", Cond.classLink RX3 113 "RefusePlanner$Bin", Cond.fieldLink RX3 42 "RefusePlanner" "day" "I", Cond.methodLink RX3 217 yX3_nextWorkday, Cond.instanceMethod yX3_nextWorkday, Cond.selects RX3 yX3_nextWorkday yX3_nextWorkday, Cond.code yX3_nextWorkday cX3_nextWorkday 2 (some .int), Cond.fieldLink RX3 23 "RefusePlanner" "holidays" "[Z", Cond.methodLink RX3 108 yJx4a65c_size_8abf5, Cond.instanceMethod yJx4a65c_size_8abf5, Cond.selects RJx4a65c yJx4a65c_size_8abf5 yJx4a65c_size_8abf5]
def wsX3_planned_r2 : List Cond := [Cond.initialized RJx4a65c, Cond.code yJx4a65c_size_8abf5 cJx4a65c_size_8abf5 1 (some .int), Cond.fieldLink RJx4a65c 48 "java/util/ArrayList" "size" "I", Cond.methodLink RX3 124 yJx4a65c_get_915e3, Cond.instanceMethod yJx4a65c_get_915e3, Cond.selects RJx4a65c yJx4a65c_get_915e3 yJx4a65c_get_915e3, Cond.code yJx4a65c_get_915e3 cJx4a65c_get_915e3 2 (some (.object "java/lang/Object")), Cond.methodLink RJx4a65c 118 yJ15_checkIndex_7cf53, Cond.static yJ15_checkIndex_7cf53, Cond.initialized RJ15, Cond.code yJ15_checkIndex_7cf53 cJ15_checkIndex_7cf53 2 (some .int), Cond.methodLink RJ15 105 yJ3_checkIndex_8e157, Cond.static yJ3_checkIndex_8e157, Cond.initialized RJ3, Cond.code yJ3_checkIndex_8e157 cJ3_checkIndex_8e157 3 (some .int), Cond.methodLink RJx4a65c 123 yJx4a65c_elementData_915e3, Cond.instanceMethod yJx4a65c_elementData_915e3, Cond.selects RJx4a65c yJx4a65c_elementData_915e3 yJx4a65c_elementData_915e3, Cond.code yJx4a65c_elementData_915e3 cJx4a65c_elementData_915e3 2 (some (.object "java/lang/Object")), Cond.fieldLink RJx4a65c 9 "java/util/ArrayList" "elementData" "[Ljava/lang/Object;", Cond.methodLink RX3 220 yX0_isDue, Cond.instanceMethod yX0_isDue, Cond.selects RX0 yX0_isDue yX0_isDue, Cond.initialized RX0]
def wsX3_planned_r3 : List Cond := [Cond.code yX0_isDue cX0_isDue 3 (some .boolean), Cond.fieldLink RX0 16 "RefusePlanner$Bin" "size" "I", Cond.methodLink RX0 47 yX0_forecast, Cond.instanceMethod yX0_forecast, Cond.selects RX0 yX0_forecast yX0_forecast, Cond.code yX0_forecast cX0_forecast 2 (some .int), Cond.fieldLink RX0 25 "RefusePlanner$Bin" "rate" "I", Cond.fieldLink RX0 28 "RefusePlanner$Bin" "emptiedOn" "I", Cond.methodLink RX0 41 Lib.Math.min.name, Cond.static Lib.Math.min.name, Cond.initialized "java/lang/Math", Cond.code Lib.Math.min.name Lib.Math.min.code 2 (some .int), Cond.methodLink RX0 51 yX0_isFullOn, Cond.instanceMethod yX0_isFullOn, Cond.selects RX0 yX0_isFullOn yX0_isFullOn, Cond.code yX0_isFullOn cX0_isFullOn 2 (some .boolean), Cond.methodLink RX3 223 yX3_nearestStop, Cond.instanceMethod yX3_nearestStop, Cond.selects RX3 yX3_nearestStop yX3_nearestStop, Cond.code yX3_nearestStop cX3_nearestStop 7 (some .int), Cond.fieldLink RX3 12 "RefusePlanner" "region" "LRefusePlanner$Region;", Cond.methodLink RX3 72 yX1_between, Cond.instanceMethod yX1_between, Cond.selects RX1 yX1_between yX1_between]
def wsX3_planned_r4 : List Cond := [Cond.initialized RX1, Cond.code yX1_between cX1_between 3 (some .int), Cond.fieldLink RX1 9 "RefusePlanner$Region" "minutes" "[I"]
def wsX3_planned : List Cond := .code yX3_planned cX3_planned 3 (some .int) :: ((wsX3_planned_r1 ++ (wsX3_planned_r2 ++ (wsX3_planned_r3 ++ wsX3_planned_r4))) ++ wsX30 ++ wsX00 ++ wsJx4a65c0 ++ wsX10 ++ (vx_atS RX3 100 "java/lang/IndexOutOfBoundsException" ["java/lang/RuntimeException", "java/lang/Exception"]).filter goodWord)
def wsX3_checkWorkday : List Cond := .code yX3_checkWorkday cX3_checkWorkday 1 none :: ([.classLink RX3 48 "java/lang/IllegalStateException", .initialized "java/lang/IllegalStateException", .fieldLink RX3 23 "RefusePlanner" "holidays" "[Z", .fieldLink RX3 42 "RefusePlanner" "day" "I"] ++ wsX30 ++ (vx_atS RX3 52 "java/lang/IllegalStateException" ["java/lang/RuntimeException", "java/lang/Exception"]).filter goodWord)
def wsX3_makeTour_r1 : List Cond := [Cond.classLink RX3 161 RX2, Cond.instantiable RX2 8, Cond.initialized RX2, Cond.fieldLink RX3 12 "RefusePlanner" "region" "LRefusePlanner$Region;", Cond.fieldLink RX3 38 "RefusePlanner" "stops" "I", Cond.fieldLink RX3 19 "RefusePlanner" "bins" "Ljava/util/ArrayList;", Cond.fieldLink RX3 34 "RefusePlanner" "route" "[I", Cond.classLink RX3 113 "RefusePlanner$Bin", Cond.fieldLink RX3 42 "RefusePlanner" "day" "I", Cond.fieldLink RX3 27 "RefusePlanner" "totals" "[J", Cond.methodLink RX3 163 yX2_init, Cond.instanceMethod yX2_init, Cond.code yX2_init cX2_init 4 none, Cond.methodLink RX2 3 objectInit, Cond.instanceMethod objectInit, Cond.code objectInit ⟨#[0xb1]⟩ 1 none, Cond.fieldLink RX2 9 "RefusePlanner$Tour" "region" "LRefusePlanner$Region;", Cond.fieldLink RX2 15 "RefusePlanner$Tour" "kind" "I", Cond.fieldLink RX2 19 "RefusePlanner$Tour" "capacity" "I", Cond.fieldLink RX2 22 "RefusePlanner$Tour" "at" "I", Cond.fieldLink RX2 25 "RefusePlanner$Tour" "load" "I", Cond.fieldLink RX2 28 "RefusePlanner$Tour" "minutes" "I", Cond.fieldLink RX2 31 "RefusePlanner$Tour" "tipVisits" "I", Cond.fieldLink RX2 34 "RefusePlanner$Tour" "litres" "I"]
def wsX3_makeTour_r2 : List Cond := [Cond.methodLink RX3 124 yJx4a65c_get_915e3, Cond.instanceMethod yJx4a65c_get_915e3, Cond.selects RJx4a65c yJx4a65c_get_915e3 yJx4a65c_get_915e3, Cond.initialized RJx4a65c, Cond.code yJx4a65c_get_915e3 cJx4a65c_get_915e3 2 (some (.object "java/lang/Object")), Cond.fieldLink RJx4a65c 48 "java/util/ArrayList" "size" "I", Cond.methodLink RJx4a65c 118 yJ15_checkIndex_7cf53, Cond.static yJ15_checkIndex_7cf53, Cond.initialized RJ15, Cond.code yJ15_checkIndex_7cf53 cJ15_checkIndex_7cf53 2 (some .int), Cond.methodLink RJ15 105 yJ3_checkIndex_8e157, Cond.static yJ3_checkIndex_8e157, Cond.initialized RJ3, Cond.code yJ3_checkIndex_8e157 cJ3_checkIndex_8e157 3 (some .int), Cond.methodLink RJx4a65c 123 yJx4a65c_elementData_915e3, Cond.instanceMethod yJx4a65c_elementData_915e3, Cond.selects RJx4a65c yJx4a65c_elementData_915e3 yJx4a65c_elementData_915e3, Cond.code yJx4a65c_elementData_915e3 cJx4a65c_elementData_915e3 2 (some (.object "java/lang/Object")), Cond.fieldLink RJx4a65c 9 "java/util/ArrayList" "elementData" "[Ljava/lang/Object;", Cond.methodLink RX3 166 yX2_visit, Cond.instanceMethod yX2_visit, Cond.selects RX2 yX2_visit yX2_visit, Cond.code yX2_visit cX2_visit 3 (some .int), Cond.methodLink RX2 56 Lib.Math.min.name]
def wsX3_makeTour_r3 : List Cond := [Cond.static Lib.Math.min.name, Cond.initialized "java/lang/Math", Cond.code Lib.Math.min.name Lib.Math.min.code 2 (some .int), Cond.methodLink RX2 42 yX2_driveTo, Cond.instanceMethod yX2_driveTo, Cond.selects RX2 yX2_driveTo yX2_driveTo, Cond.code yX2_driveTo cX2_driveTo 2 none, Cond.methodLink RX2 62 yX1_between, Cond.instanceMethod yX1_between, Cond.selects RX1 yX1_between yX1_between, Cond.initialized RX1, Cond.code yX1_between cX1_between 3 (some .int), Cond.fieldLink RX1 9 "RefusePlanner$Region" "minutes" "[I", Cond.methodLink RX2 53 yX2_unloadOnTheWayTo, Cond.instanceMethod yX2_unloadOnTheWayTo, Cond.selects RX2 yX2_unloadOnTheWayTo yX2_unloadOnTheWayTo, Cond.code yX2_unloadOnTheWayTo cX2_unloadOnTheWayTo 2 none, Cond.methodLink RX2 67 yX1_overTip, Cond.instanceMethod yX1_overTip, Cond.selects RX1 yX1_overTip yX1_overTip, Cond.code yX1_overTip cX1_overTip 6 (some .int), Cond.constant RX1 28 (2147483647), Cond.fieldLink RX1 18 "RefusePlanner$Region" "places" "I", Cond.methodLink RX1 33 Lib.Math.min.name]
def wsX3_makeTour_r4 : List Cond := [Cond.methodLink RX1 22 yX1_hasTip, Cond.instanceMethod yX1_hasTip, Cond.selects RX1 yX1_hasTip yX1_hasTip, Cond.code yX1_hasTip cX1_hasTip 3 (some .boolean), Cond.fieldLink RX1 15 "RefusePlanner$Region" "tips" "[I", Cond.methodLink RX1 29 yX1_between, Cond.methodLink RX3 229 yX0_endVisit, Cond.instanceMethod yX0_endVisit, Cond.selects RX0 yX0_endVisit yX0_endVisit, Cond.initialized RX0, Cond.code yX0_endVisit cX0_endVisit 5 none, Cond.fieldLink RX0 37 "RefusePlanner$Bin" "dirty" "Z", Cond.fieldLink RX0 34 "RefusePlanner$Bin" "warnings" "I", Cond.fieldLink RX0 28 "RefusePlanner$Bin" "emptiedOn" "I", Cond.fieldLink RX0 22 "RefusePlanner$Bin" "content" "I", Cond.fieldLink RX0 25 "RefusePlanner$Bin" "rate" "I", Cond.methodLink RX3 170 yX2_end, Cond.instanceMethod yX2_end, Cond.selects RX2 yX2_end yX2_end, Cond.code yX2_end cX2_end 1 none]
def wsX3_makeTour : List Cond := .code yX3_makeTour cX3_makeTour 7 (some .int) :: ((wsX3_makeTour_r1 ++ (wsX3_makeTour_r2 ++ (wsX3_makeTour_r3 ++ wsX3_makeTour_r4))) ++ wsX20 ++ wsX30 ++ wsJx4a65c0 ++ wsX00 ++ wsX10)
def wsX3_collect_r1 : List Cond := [Cond.fieldLink RX3 38 "RefusePlanner" "stops" "I", Cond.methodLink RX3 79 yX3_checkKind, Cond.instanceMethod yX3_checkKind, Cond.selects RX3 yX3_checkKind yX3_checkKind, Cond.initialized RX3, Cond.code yX3_checkKind cX3_checkKind 2 none, Cond.classLink RX3 96 "java/lang/IndexOutOfBoundsException", Cond.initialized "java/lang/IndexOutOfBoundsException", Cond.methodLink RX3 68 yX3_checkRange, Cond.instanceMethod yX3_checkRange, Cond.selects RX3 yX3_checkRange yX3_checkRange, Cond.code yX3_checkRange cX3_checkRange 4 none, Cond.classLink RX3 63 "java/lang/IllegalArgumentException", Cond.initialized "java/lang/IllegalArgumentException", Cond.methodLink RX3 152 yX3_checkWorkday, Cond.instanceMethod yX3_checkWorkday, Cond.selects RX3 yX3_checkWorkday yX3_checkWorkday, Cond.code yX3_checkWorkday cX3_checkWorkday 1 none, Cond.classLink RX3 48 "java/lang/IllegalStateException", Cond.initialized "java/lang/IllegalStateException", Cond.fieldLink RX3 23 "RefusePlanner" "holidays" "[Z", Cond.fieldLink RX3 42 "RefusePlanner" "day" "I", Cond.methodLink RX3 147 yX3_planRoute, Cond.instanceMethod yX3_planRoute]
def wsX3_collect_r2 : List Cond := [Cond.selects RX3 yX3_planRoute yX3_planRoute, Cond.code yX3_planRoute cX3_planRoute 7 none, Cond.fieldLink RX3 19 "RefusePlanner" "bins" "Ljava/util/ArrayList;", Cond.classLink RX3 113 "RefusePlanner$Bin", Cond.fieldLink RX3 34 "RefusePlanner" "route" "[I", Cond.methodLink RX3 217 yX3_nextWorkday, Cond.instanceMethod yX3_nextWorkday, Cond.selects RX3 yX3_nextWorkday yX3_nextWorkday, Cond.code yX3_nextWorkday cX3_nextWorkday 2 (some .int), Cond.methodLink RX3 108 yJx4a65c_size_8abf5, Cond.instanceMethod yJx4a65c_size_8abf5, Cond.selects RJx4a65c yJx4a65c_size_8abf5 yJx4a65c_size_8abf5, Cond.initialized RJx4a65c, Cond.code yJx4a65c_size_8abf5 cJx4a65c_size_8abf5 1 (some .int), Cond.fieldLink RJx4a65c 48 "java/util/ArrayList" "size" "I", Cond.methodLink RX3 124 yJx4a65c_get_915e3, Cond.instanceMethod yJx4a65c_get_915e3, Cond.selects RJx4a65c yJx4a65c_get_915e3 yJx4a65c_get_915e3, Cond.code yJx4a65c_get_915e3 cJx4a65c_get_915e3 2 (some (.object "java/lang/Object")), Cond.methodLink RJx4a65c 118 yJ15_checkIndex_7cf53, Cond.static yJ15_checkIndex_7cf53, Cond.initialized RJ15, Cond.code yJ15_checkIndex_7cf53 cJ15_checkIndex_7cf53 2 (some .int), Cond.methodLink RJ15 105 yJ3_checkIndex_8e157]
def wsX3_collect_r3 : List Cond := [Cond.static yJ3_checkIndex_8e157, Cond.initialized RJ3, Cond.code yJ3_checkIndex_8e157 cJ3_checkIndex_8e157 3 (some .int), Cond.methodLink RJx4a65c 123 yJx4a65c_elementData_915e3, Cond.instanceMethod yJx4a65c_elementData_915e3, Cond.selects RJx4a65c yJx4a65c_elementData_915e3 yJx4a65c_elementData_915e3, Cond.code yJx4a65c_elementData_915e3 cJx4a65c_elementData_915e3 2 (some (.object "java/lang/Object")), Cond.fieldLink RJx4a65c 9 "java/util/ArrayList" "elementData" "[Ljava/lang/Object;", Cond.methodLink RX3 220 yX0_isDue, Cond.instanceMethod yX0_isDue, Cond.selects RX0 yX0_isDue yX0_isDue, Cond.initialized RX0, Cond.code yX0_isDue cX0_isDue 3 (some .boolean), Cond.fieldLink RX0 16 "RefusePlanner$Bin" "size" "I", Cond.methodLink RX0 47 yX0_forecast, Cond.instanceMethod yX0_forecast, Cond.selects RX0 yX0_forecast yX0_forecast, Cond.code yX0_forecast cX0_forecast 2 (some .int), Cond.fieldLink RX0 25 "RefusePlanner$Bin" "rate" "I", Cond.fieldLink RX0 28 "RefusePlanner$Bin" "emptiedOn" "I", Cond.methodLink RX0 41 Lib.Math.min.name, Cond.static Lib.Math.min.name, Cond.initialized "java/lang/Math", Cond.code Lib.Math.min.name Lib.Math.min.code 2 (some .int)]
def wsX3_collect_r4 : List Cond := [Cond.methodLink RX0 51 yX0_isFullOn, Cond.instanceMethod yX0_isFullOn, Cond.selects RX0 yX0_isFullOn yX0_isFullOn, Cond.code yX0_isFullOn cX0_isFullOn 2 (some .boolean), Cond.methodLink RX3 223 yX3_nearestStop, Cond.instanceMethod yX3_nearestStop, Cond.selects RX3 yX3_nearestStop yX3_nearestStop, Cond.code yX3_nearestStop cX3_nearestStop 7 (some .int), Cond.fieldLink RX3 12 "RefusePlanner" "region" "LRefusePlanner$Region;", Cond.methodLink RX3 72 yX1_between, Cond.instanceMethod yX1_between, Cond.selects RX1 yX1_between yX1_between, Cond.initialized RX1, Cond.code yX1_between cX1_between 3 (some .int), Cond.fieldLink RX1 9 "RefusePlanner$Region" "minutes" "[I", Cond.methodLink RX3 155 yX3_makeTour, Cond.instanceMethod yX3_makeTour, Cond.selects RX3 yX3_makeTour yX3_makeTour, Cond.code yX3_makeTour cX3_makeTour 7 (some .int), Cond.classLink RX3 161 RX2, Cond.instantiable RX2 8, Cond.initialized RX2, Cond.fieldLink RX3 27 "RefusePlanner" "totals" "[J", Cond.methodLink RX3 163 yX2_init]
def wsX3_collect_r5 : List Cond := [Cond.instanceMethod yX2_init, Cond.code yX2_init cX2_init 4 none, Cond.methodLink RX2 3 objectInit, Cond.instanceMethod objectInit, Cond.code objectInit ⟨#[0xb1]⟩ 1 none, Cond.fieldLink RX2 9 "RefusePlanner$Tour" "region" "LRefusePlanner$Region;", Cond.fieldLink RX2 15 "RefusePlanner$Tour" "kind" "I", Cond.fieldLink RX2 19 "RefusePlanner$Tour" "capacity" "I", Cond.fieldLink RX2 22 "RefusePlanner$Tour" "at" "I", Cond.fieldLink RX2 25 "RefusePlanner$Tour" "load" "I", Cond.fieldLink RX2 28 "RefusePlanner$Tour" "minutes" "I", Cond.fieldLink RX2 31 "RefusePlanner$Tour" "tipVisits" "I", Cond.fieldLink RX2 34 "RefusePlanner$Tour" "litres" "I", Cond.methodLink RX3 166 yX2_visit, Cond.instanceMethod yX2_visit, Cond.selects RX2 yX2_visit yX2_visit, Cond.code yX2_visit cX2_visit 3 (some .int), Cond.methodLink RX2 56 Lib.Math.min.name, Cond.methodLink RX2 42 yX2_driveTo, Cond.instanceMethod yX2_driveTo, Cond.selects RX2 yX2_driveTo yX2_driveTo, Cond.code yX2_driveTo cX2_driveTo 2 none, Cond.methodLink RX2 62 yX1_between, Cond.methodLink RX2 53 yX2_unloadOnTheWayTo]
def wsX3_collect_r6 : List Cond := [Cond.instanceMethod yX2_unloadOnTheWayTo, Cond.selects RX2 yX2_unloadOnTheWayTo yX2_unloadOnTheWayTo, Cond.code yX2_unloadOnTheWayTo cX2_unloadOnTheWayTo 2 none, Cond.methodLink RX2 67 yX1_overTip, Cond.instanceMethod yX1_overTip, Cond.selects RX1 yX1_overTip yX1_overTip, Cond.code yX1_overTip cX1_overTip 6 (some .int), Cond.constant RX1 28 (2147483647), Cond.fieldLink RX1 18 "RefusePlanner$Region" "places" "I", Cond.methodLink RX1 33 Lib.Math.min.name, Cond.methodLink RX1 22 yX1_hasTip, Cond.instanceMethod yX1_hasTip, Cond.selects RX1 yX1_hasTip yX1_hasTip, Cond.code yX1_hasTip cX1_hasTip 3 (some .boolean), Cond.fieldLink RX1 15 "RefusePlanner$Region" "tips" "[I", Cond.methodLink RX1 29 yX1_between, Cond.methodLink RX3 229 yX0_endVisit, Cond.instanceMethod yX0_endVisit, Cond.selects RX0 yX0_endVisit yX0_endVisit, Cond.code yX0_endVisit cX0_endVisit 5 none, Cond.fieldLink RX0 37 "RefusePlanner$Bin" "dirty" "Z", Cond.fieldLink RX0 34 "RefusePlanner$Bin" "warnings" "I", Cond.fieldLink RX0 22 "RefusePlanner$Bin" "content" "I", Cond.methodLink RX3 170 yX2_end]
def wsX3_collect_r7 : List Cond := [Cond.instanceMethod yX2_end, Cond.selects RX2 yX2_end yX2_end, Cond.code yX2_end cX2_end 1 none]
def wsX3_collect : List Cond := .code yX3_collect cX3_collect 3 (some .int) :: ((wsX3_collect_r1 ++ (wsX3_collect_r2 ++ (wsX3_collect_r3 ++ (wsX3_collect_r4 ++ (wsX3_collect_r5 ++ (wsX3_collect_r6 ++ wsX3_collect_r7)))))) ++ wsX30 ++ wsX00 ++ wsJx4a65c0 ++ wsX10 ++ wsX20 ++ (vx_atS RX3 100 "java/lang/IndexOutOfBoundsException" ["java/lang/RuntimeException", "java/lang/Exception"]).filter goodWord ++ (vx_atS RX3 67 "java/lang/IllegalArgumentException" ["java/lang/RuntimeException", "java/lang/Exception"]).filter goodWord ++ (vx_atS RX3 52 "java/lang/IllegalStateException" ["java/lang/RuntimeException", "java/lang/Exception"]).filter goodWord)
def wsX3_fetch_r1 : List Cond := [Cond.fieldLink RX3 34 "RefusePlanner" "route" "[I", Cond.fieldLink RX3 38 "RefusePlanner" "stops" "I", Cond.fieldLink RX3 19 "RefusePlanner" "bins" "Ljava/util/ArrayList;", Cond.classLink RX3 113 "RefusePlanner$Bin", Cond.methodLink RX3 121 yX3_checkBin, Cond.instanceMethod yX3_checkBin, Cond.selects RX3 yX3_checkBin yX3_checkBin, Cond.initialized RX3, Cond.code yX3_checkBin cX3_checkBin 2 none, Cond.classLink RX3 96 "java/lang/IndexOutOfBoundsException", Cond.initialized "java/lang/IndexOutOfBoundsException", Cond.methodLink RX3 108 yJx4a65c_size_8abf5, Cond.instanceMethod yJx4a65c_size_8abf5, Cond.selects RJx4a65c yJx4a65c_size_8abf5 yJx4a65c_size_8abf5, Cond.initialized RJx4a65c, Cond.code yJx4a65c_size_8abf5 cJx4a65c_size_8abf5 1 (some .int), Cond.fieldLink RJx4a65c 48 "java/util/ArrayList" "size" "I", Cond.methodLink RX3 68 yX3_checkRange, Cond.instanceMethod yX3_checkRange, Cond.selects RX3 yX3_checkRange yX3_checkRange, Cond.code yX3_checkRange cX3_checkRange 4 none, Cond.classLink RX3 63 "java/lang/IllegalArgumentException", Cond.initialized "java/lang/IllegalArgumentException", Cond.methodLink RX3 152 yX3_checkWorkday]
def wsX3_fetch_r2 : List Cond := [Cond.instanceMethod yX3_checkWorkday, Cond.selects RX3 yX3_checkWorkday yX3_checkWorkday, Cond.code yX3_checkWorkday cX3_checkWorkday 1 none, Cond.classLink RX3 48 "java/lang/IllegalStateException", Cond.initialized "java/lang/IllegalStateException", Cond.fieldLink RX3 23 "RefusePlanner" "holidays" "[Z", Cond.fieldLink RX3 42 "RefusePlanner" "day" "I", Cond.methodLink RX3 124 yJx4a65c_get_915e3, Cond.instanceMethod yJx4a65c_get_915e3, Cond.selects RJx4a65c yJx4a65c_get_915e3 yJx4a65c_get_915e3, Cond.code yJx4a65c_get_915e3 cJx4a65c_get_915e3 2 (some (.object "java/lang/Object")), Cond.methodLink RJx4a65c 118 yJ15_checkIndex_7cf53, Cond.static yJ15_checkIndex_7cf53, Cond.initialized RJ15, Cond.code yJ15_checkIndex_7cf53 cJ15_checkIndex_7cf53 2 (some .int), Cond.methodLink RJ15 105 yJ3_checkIndex_8e157, Cond.static yJ3_checkIndex_8e157, Cond.initialized RJ3, Cond.code yJ3_checkIndex_8e157 cJ3_checkIndex_8e157 3 (some .int), Cond.methodLink RJx4a65c 123 yJx4a65c_elementData_915e3, Cond.instanceMethod yJx4a65c_elementData_915e3, Cond.selects RJx4a65c yJx4a65c_elementData_915e3 yJx4a65c_elementData_915e3, Cond.code yJx4a65c_elementData_915e3 cJx4a65c_elementData_915e3 2 (some (.object "java/lang/Object")), Cond.fieldLink RJx4a65c 9 "java/util/ArrayList" "elementData" "[Ljava/lang/Object;"]
def wsX3_fetch_r3 : List Cond := [Cond.methodLink RX3 155 yX3_makeTour, Cond.instanceMethod yX3_makeTour, Cond.selects RX3 yX3_makeTour yX3_makeTour, Cond.code yX3_makeTour cX3_makeTour 7 (some .int), Cond.classLink RX3 161 RX2, Cond.instantiable RX2 8, Cond.initialized RX2, Cond.fieldLink RX3 12 "RefusePlanner" "region" "LRefusePlanner$Region;", Cond.fieldLink RX3 27 "RefusePlanner" "totals" "[J", Cond.methodLink RX3 163 yX2_init, Cond.instanceMethod yX2_init, Cond.code yX2_init cX2_init 4 none, Cond.methodLink RX2 3 objectInit, Cond.instanceMethod objectInit, Cond.code objectInit ⟨#[0xb1]⟩ 1 none, Cond.fieldLink RX2 9 "RefusePlanner$Tour" "region" "LRefusePlanner$Region;", Cond.fieldLink RX2 15 "RefusePlanner$Tour" "kind" "I", Cond.fieldLink RX2 19 "RefusePlanner$Tour" "capacity" "I", Cond.fieldLink RX2 22 "RefusePlanner$Tour" "at" "I", Cond.fieldLink RX2 25 "RefusePlanner$Tour" "load" "I", Cond.fieldLink RX2 28 "RefusePlanner$Tour" "minutes" "I", Cond.fieldLink RX2 31 "RefusePlanner$Tour" "tipVisits" "I", Cond.fieldLink RX2 34 "RefusePlanner$Tour" "litres" "I", Cond.methodLink RX3 166 yX2_visit]
def wsX3_fetch_r4 : List Cond := [Cond.instanceMethod yX2_visit, Cond.selects RX2 yX2_visit yX2_visit, Cond.code yX2_visit cX2_visit 3 (some .int), Cond.methodLink RX2 56 Lib.Math.min.name, Cond.static Lib.Math.min.name, Cond.initialized "java/lang/Math", Cond.code Lib.Math.min.name Lib.Math.min.code 2 (some .int), Cond.methodLink RX2 42 yX2_driveTo, Cond.instanceMethod yX2_driveTo, Cond.selects RX2 yX2_driveTo yX2_driveTo, Cond.code yX2_driveTo cX2_driveTo 2 none, Cond.methodLink RX2 62 yX1_between, Cond.instanceMethod yX1_between, Cond.selects RX1 yX1_between yX1_between, Cond.initialized RX1, Cond.code yX1_between cX1_between 3 (some .int), Cond.fieldLink RX1 9 "RefusePlanner$Region" "minutes" "[I", Cond.methodLink RX2 53 yX2_unloadOnTheWayTo, Cond.instanceMethod yX2_unloadOnTheWayTo, Cond.selects RX2 yX2_unloadOnTheWayTo yX2_unloadOnTheWayTo, Cond.code yX2_unloadOnTheWayTo cX2_unloadOnTheWayTo 2 none, Cond.methodLink RX2 67 yX1_overTip, Cond.instanceMethod yX1_overTip, Cond.selects RX1 yX1_overTip yX1_overTip]
def wsX3_fetch_r5 : List Cond := [Cond.code yX1_overTip cX1_overTip 6 (some .int), Cond.constant RX1 28 (2147483647), Cond.fieldLink RX1 18 "RefusePlanner$Region" "places" "I", Cond.methodLink RX1 33 Lib.Math.min.name, Cond.methodLink RX1 22 yX1_hasTip, Cond.instanceMethod yX1_hasTip, Cond.selects RX1 yX1_hasTip yX1_hasTip, Cond.code yX1_hasTip cX1_hasTip 3 (some .boolean), Cond.fieldLink RX1 15 "RefusePlanner$Region" "tips" "[I", Cond.methodLink RX1 29 yX1_between, Cond.methodLink RX3 229 yX0_endVisit, Cond.instanceMethod yX0_endVisit, Cond.selects RX0 yX0_endVisit yX0_endVisit, Cond.initialized RX0, Cond.code yX0_endVisit cX0_endVisit 5 none, Cond.fieldLink RX0 37 "RefusePlanner$Bin" "dirty" "Z", Cond.fieldLink RX0 34 "RefusePlanner$Bin" "warnings" "I", Cond.fieldLink RX0 28 "RefusePlanner$Bin" "emptiedOn" "I", Cond.fieldLink RX0 22 "RefusePlanner$Bin" "content" "I", Cond.fieldLink RX0 25 "RefusePlanner$Bin" "rate" "I", Cond.methodLink RX3 170 yX2_end, Cond.instanceMethod yX2_end, Cond.selects RX2 yX2_end yX2_end, Cond.code yX2_end cX2_end 1 none]
def wsX3_fetch : List Cond := .code yX3_fetch cX3_fetch 3 (some .int) :: ((wsX3_fetch_r1 ++ (wsX3_fetch_r2 ++ (wsX3_fetch_r3 ++ (wsX3_fetch_r4 ++ wsX3_fetch_r5)))) ++ wsX30 ++ wsX00 ++ wsJx4a65c0 ++ wsX20 ++ wsX10 ++ (vx_atS RX3 100 "java/lang/IndexOutOfBoundsException" ["java/lang/RuntimeException", "java/lang/Exception"]).filter goodWord ++ (vx_atS RX3 67 "java/lang/IllegalArgumentException" ["java/lang/RuntimeException", "java/lang/Exception"]).filter goodWord ++ (vx_atS RX3 52 "java/lang/IllegalStateException" ["java/lang/RuntimeException", "java/lang/Exception"]).filter goodWord)
def wsX3_wouldTake_r1 : List Cond := [Cond.classLink RX3 161 RX2, Cond.instantiable RX2 8, Cond.initialized RX2, Cond.fieldLink RX3 12 "RefusePlanner" "region" "LRefusePlanner$Region;", Cond.fieldLink RX3 38 "RefusePlanner" "stops" "I", Cond.fieldLink RX3 19 "RefusePlanner" "bins" "Ljava/util/ArrayList;", Cond.fieldLink RX3 34 "RefusePlanner" "route" "[I", Cond.classLink RX3 113 "RefusePlanner$Bin", Cond.methodLink RX3 79 yX3_checkKind, Cond.instanceMethod yX3_checkKind, Cond.selects RX3 yX3_checkKind yX3_checkKind, Cond.initialized RX3, Cond.code yX3_checkKind cX3_checkKind 2 none, Cond.classLink RX3 96 "java/lang/IndexOutOfBoundsException", Cond.initialized "java/lang/IndexOutOfBoundsException", Cond.methodLink RX3 68 yX3_checkRange, Cond.instanceMethod yX3_checkRange, Cond.selects RX3 yX3_checkRange yX3_checkRange, Cond.code yX3_checkRange cX3_checkRange 4 none, Cond.classLink RX3 63 "java/lang/IllegalArgumentException", Cond.initialized "java/lang/IllegalArgumentException", Cond.methodLink RX3 147 yX3_planRoute, Cond.instanceMethod yX3_planRoute, Cond.selects RX3 yX3_planRoute yX3_planRoute]
def wsX3_wouldTake_r2 : List Cond := [Cond.code yX3_planRoute cX3_planRoute 7 none, Cond.fieldLink RX3 42 "RefusePlanner" "day" "I", Cond.methodLink RX3 217 yX3_nextWorkday, Cond.instanceMethod yX3_nextWorkday, Cond.selects RX3 yX3_nextWorkday yX3_nextWorkday, Cond.code yX3_nextWorkday cX3_nextWorkday 2 (some .int), Cond.fieldLink RX3 23 "RefusePlanner" "holidays" "[Z", Cond.methodLink RX3 108 yJx4a65c_size_8abf5, Cond.instanceMethod yJx4a65c_size_8abf5, Cond.selects RJx4a65c yJx4a65c_size_8abf5 yJx4a65c_size_8abf5, Cond.initialized RJx4a65c, Cond.code yJx4a65c_size_8abf5 cJx4a65c_size_8abf5 1 (some .int), Cond.fieldLink RJx4a65c 48 "java/util/ArrayList" "size" "I", Cond.methodLink RX3 124 yJx4a65c_get_915e3, Cond.instanceMethod yJx4a65c_get_915e3, Cond.selects RJx4a65c yJx4a65c_get_915e3 yJx4a65c_get_915e3, Cond.code yJx4a65c_get_915e3 cJx4a65c_get_915e3 2 (some (.object "java/lang/Object")), Cond.methodLink RJx4a65c 118 yJ15_checkIndex_7cf53, Cond.static yJ15_checkIndex_7cf53, Cond.initialized RJ15, Cond.code yJ15_checkIndex_7cf53 cJ15_checkIndex_7cf53 2 (some .int), Cond.methodLink RJ15 105 yJ3_checkIndex_8e157, Cond.static yJ3_checkIndex_8e157, Cond.initialized RJ3]
def wsX3_wouldTake_r3 : List Cond := [Cond.code yJ3_checkIndex_8e157 cJ3_checkIndex_8e157 3 (some .int), Cond.methodLink RJx4a65c 123 yJx4a65c_elementData_915e3, Cond.instanceMethod yJx4a65c_elementData_915e3, Cond.selects RJx4a65c yJx4a65c_elementData_915e3 yJx4a65c_elementData_915e3, Cond.code yJx4a65c_elementData_915e3 cJx4a65c_elementData_915e3 2 (some (.object "java/lang/Object")), Cond.fieldLink RJx4a65c 9 "java/util/ArrayList" "elementData" "[Ljava/lang/Object;", Cond.methodLink RX3 220 yX0_isDue, Cond.instanceMethod yX0_isDue, Cond.selects RX0 yX0_isDue yX0_isDue, Cond.initialized RX0, Cond.code yX0_isDue cX0_isDue 3 (some .boolean), Cond.fieldLink RX0 16 "RefusePlanner$Bin" "size" "I", Cond.methodLink RX0 47 yX0_forecast, Cond.instanceMethod yX0_forecast, Cond.selects RX0 yX0_forecast yX0_forecast, Cond.code yX0_forecast cX0_forecast 2 (some .int), Cond.fieldLink RX0 25 "RefusePlanner$Bin" "rate" "I", Cond.fieldLink RX0 28 "RefusePlanner$Bin" "emptiedOn" "I", Cond.methodLink RX0 41 Lib.Math.min.name, Cond.static Lib.Math.min.name, Cond.initialized "java/lang/Math", Cond.code Lib.Math.min.name Lib.Math.min.code 2 (some .int), Cond.methodLink RX0 51 yX0_isFullOn, Cond.instanceMethod yX0_isFullOn]
def wsX3_wouldTake_r4 : List Cond := [Cond.selects RX0 yX0_isFullOn yX0_isFullOn, Cond.code yX0_isFullOn cX0_isFullOn 2 (some .boolean), Cond.methodLink RX3 223 yX3_nearestStop, Cond.instanceMethod yX3_nearestStop, Cond.selects RX3 yX3_nearestStop yX3_nearestStop, Cond.code yX3_nearestStop cX3_nearestStop 7 (some .int), Cond.methodLink RX3 72 yX1_between, Cond.instanceMethod yX1_between, Cond.selects RX1 yX1_between yX1_between, Cond.initialized RX1, Cond.code yX1_between cX1_between 3 (some .int), Cond.fieldLink RX1 9 "RefusePlanner$Region" "minutes" "[I", Cond.methodLink RX3 163 yX2_init, Cond.instanceMethod yX2_init, Cond.code yX2_init cX2_init 4 none, Cond.methodLink RX2 3 objectInit, Cond.instanceMethod objectInit, Cond.code objectInit ⟨#[0xb1]⟩ 1 none, Cond.fieldLink RX2 9 "RefusePlanner$Tour" "region" "LRefusePlanner$Region;", Cond.fieldLink RX2 15 "RefusePlanner$Tour" "kind" "I", Cond.fieldLink RX2 19 "RefusePlanner$Tour" "capacity" "I", Cond.fieldLink RX2 22 "RefusePlanner$Tour" "at" "I", Cond.fieldLink RX2 25 "RefusePlanner$Tour" "load" "I", Cond.fieldLink RX2 28 "RefusePlanner$Tour" "minutes" "I"]
def wsX3_wouldTake_r5 : List Cond := [Cond.fieldLink RX2 31 "RefusePlanner$Tour" "tipVisits" "I", Cond.fieldLink RX2 34 "RefusePlanner$Tour" "litres" "I", Cond.methodLink RX3 166 yX2_visit, Cond.instanceMethod yX2_visit, Cond.selects RX2 yX2_visit yX2_visit, Cond.code yX2_visit cX2_visit 3 (some .int), Cond.methodLink RX2 56 Lib.Math.min.name, Cond.methodLink RX2 42 yX2_driveTo, Cond.instanceMethod yX2_driveTo, Cond.selects RX2 yX2_driveTo yX2_driveTo, Cond.code yX2_driveTo cX2_driveTo 2 none, Cond.methodLink RX2 62 yX1_between, Cond.methodLink RX2 53 yX2_unloadOnTheWayTo, Cond.instanceMethod yX2_unloadOnTheWayTo, Cond.selects RX2 yX2_unloadOnTheWayTo yX2_unloadOnTheWayTo, Cond.code yX2_unloadOnTheWayTo cX2_unloadOnTheWayTo 2 none, Cond.methodLink RX2 67 yX1_overTip, Cond.instanceMethod yX1_overTip, Cond.selects RX1 yX1_overTip yX1_overTip, Cond.code yX1_overTip cX1_overTip 6 (some .int), Cond.constant RX1 28 (2147483647), Cond.fieldLink RX1 18 "RefusePlanner$Region" "places" "I", Cond.methodLink RX1 33 Lib.Math.min.name, Cond.methodLink RX1 22 yX1_hasTip]
def wsX3_wouldTake_r6 : List Cond := [Cond.instanceMethod yX1_hasTip, Cond.selects RX1 yX1_hasTip yX1_hasTip, Cond.code yX1_hasTip cX1_hasTip 3 (some .boolean), Cond.fieldLink RX1 15 "RefusePlanner$Region" "tips" "[I", Cond.methodLink RX1 29 yX1_between, Cond.methodLink RX3 170 yX2_end, Cond.instanceMethod yX2_end, Cond.selects RX2 yX2_end yX2_end, Cond.code yX2_end cX2_end 1 none]
def wsX3_wouldTake : List Cond := .code yX3_wouldTake cX3_wouldTake 5 (some .int) :: ((wsX3_wouldTake_r1 ++ (wsX3_wouldTake_r2 ++ (wsX3_wouldTake_r3 ++ (wsX3_wouldTake_r4 ++ (wsX3_wouldTake_r5 ++ wsX3_wouldTake_r6))))) ++ wsX20 ++ wsX30 ++ wsX00 ++ wsJx4a65c0 ++ wsX10 ++ (vx_atS RX3 100 "java/lang/IndexOutOfBoundsException" ["java/lang/RuntimeException", "java/lang/Exception"]).filter goodWord ++ (vx_atS RX3 67 "java/lang/IllegalArgumentException" ["java/lang/RuntimeException", "java/lang/Exception"]).filter goodWord)
def wsX3_total : List Cond := .code yX3_total cX3_total 3 (some .long) :: ([.classLink RX3 96 "java/lang/IndexOutOfBoundsException", .initialized "java/lang/IndexOutOfBoundsException", .fieldLink RX3 27 "RefusePlanner" "totals" "[J", .methodLink RX3 79 yX3_checkKind, .instanceMethod yX3_checkKind, .selects RX3 yX3_checkKind yX3_checkKind, .initialized RX3, .code yX3_checkKind cX3_checkKind 2 none] ++ wsX30 ++ (vx_atS RX3 100 "java/lang/IndexOutOfBoundsException" ["java/lang/RuntimeException", "java/lang/Exception"]).filter goodWord)
def wsX3_wasted : List Cond := .code yX3_wasted cX3_wasted 2 (some .long) :: ([.fieldLink RX3 31 "RefusePlanner" "wastes" "[J", .methodLink RX3 79 yX3_checkKind, .instanceMethod yX3_checkKind, .selects RX3 yX3_checkKind yX3_checkKind, .initialized RX3, .code yX3_checkKind cX3_checkKind 2 none, .classLink RX3 96 "java/lang/IndexOutOfBoundsException", .initialized "java/lang/IndexOutOfBoundsException"] ++ wsX30 ++ (vx_atS RX3 100 "java/lang/IndexOutOfBoundsException" ["java/lang/RuntimeException", "java/lang/Exception"]).filter goodWord)
def wsX3_error_r1 : List Cond := [Cond.fieldLink RX3 19 "RefusePlanner" "bins" "Ljava/util/ArrayList;", Cond.classLink RX3 113 "RefusePlanner$Bin", Cond.fieldLink RX3 42 "RefusePlanner" "day" "I", Cond.methodLink RX3 181 Lib.Math.abs.name, Cond.static Lib.Math.abs.name, Cond.initialized "java/lang/Math", Cond.code Lib.Math.abs.name Lib.Math.abs.code 1 (some .int), Cond.methodLink RX3 108 yJx4a65c_size_8abf5, Cond.instanceMethod yJx4a65c_size_8abf5, Cond.selects RJx4a65c yJx4a65c_size_8abf5 yJx4a65c_size_8abf5, Cond.initialized RJx4a65c, Cond.code yJx4a65c_size_8abf5 cJx4a65c_size_8abf5 1 (some .int), Cond.fieldLink RJx4a65c 48 "java/util/ArrayList" "size" "I", Cond.methodLink RX3 124 yJx4a65c_get_915e3, Cond.instanceMethod yJx4a65c_get_915e3, Cond.selects RJx4a65c yJx4a65c_get_915e3 yJx4a65c_get_915e3, Cond.code yJx4a65c_get_915e3 cJx4a65c_get_915e3 2 (some (.object "java/lang/Object")), Cond.methodLink RJx4a65c 118 yJ15_checkIndex_7cf53, Cond.static yJ15_checkIndex_7cf53, Cond.initialized RJ15, Cond.code yJ15_checkIndex_7cf53 cJ15_checkIndex_7cf53 2 (some .int), Cond.methodLink RJ15 105 yJ3_checkIndex_8e157, Cond.static yJ3_checkIndex_8e157, Cond.initialized RJ3]
def wsX3_error_r2 : List Cond := [Cond.code yJ3_checkIndex_8e157 cJ3_checkIndex_8e157 3 (some .int), Cond.methodLink RJx4a65c 123 yJx4a65c_elementData_915e3, Cond.instanceMethod yJx4a65c_elementData_915e3, Cond.selects RJx4a65c yJx4a65c_elementData_915e3 yJx4a65c_elementData_915e3, Cond.code yJx4a65c_elementData_915e3 cJx4a65c_elementData_915e3 2 (some (.object "java/lang/Object")), Cond.fieldLink RJx4a65c 9 "java/util/ArrayList" "elementData" "[Ljava/lang/Object;", Cond.methodLink RX3 140 yX0_forecast, Cond.instanceMethod yX0_forecast, Cond.selects RX0 yX0_forecast yX0_forecast, Cond.initialized RX0, Cond.code yX0_forecast cX0_forecast 2 (some .int), Cond.fieldLink RX0 16 "RefusePlanner$Bin" "size" "I", Cond.fieldLink RX0 25 "RefusePlanner$Bin" "rate" "I", Cond.fieldLink RX0 28 "RefusePlanner$Bin" "emptiedOn" "I", Cond.methodLink RX0 41 Lib.Math.min.name, Cond.static Lib.Math.min.name, Cond.code Lib.Math.min.name Lib.Math.min.code 2 (some .int)]
def wsX3_error : List Cond := .code yX3_error cX3_error 5 (some .double) :: ((wsX3_error_r1 ++ wsX3_error_r2) ++ wsX30 ++ wsX00 ++ wsJx4a65c0)
def wsX3_mix : List Cond := .code yX3_mix cX3_mix 4 (some .long) :: ([.constantLong RX3 242 (31)])
def wsX3_mixRegion : List Cond := .code yX3_mixRegion cX3_mixRegion 7 (some .long) :: ([.fieldLink RX3 12 "RefusePlanner" "region" "LRefusePlanner$Region;", .methodLink RX3 190 yX3_mix, .static yX3_mix, .initialized RX3, .code yX3_mix cX3_mix 4 (some .long), .constantLong RX3 242 (31), .methodLink RX3 72 yX1_between, .instanceMethod yX1_between, .selects RX1 yX1_between yX1_between, .initialized RX1, .code yX1_between cX1_between 3 (some .int), .fieldLink RX1 9 "RefusePlanner$Region" "minutes" "[I"] ++ wsX30 ++ wsX10)
def wsX3_mixBins_r1 : List Cond := [Cond.fieldLink RX3 19 "RefusePlanner" "bins" "Ljava/util/ArrayList;", Cond.classLink RX3 113 "RefusePlanner$Bin", Cond.methodLink RX3 108 yJx4a65c_size_8abf5, Cond.instanceMethod yJx4a65c_size_8abf5, Cond.selects RJx4a65c yJx4a65c_size_8abf5 yJx4a65c_size_8abf5, Cond.initialized RJx4a65c, Cond.code yJx4a65c_size_8abf5 cJx4a65c_size_8abf5 1 (some .int), Cond.fieldLink RJx4a65c 48 "java/util/ArrayList" "size" "I", Cond.methodLink RX3 190 yX3_mix, Cond.static yX3_mix, Cond.initialized RX3, Cond.code yX3_mix cX3_mix 4 (some .long), Cond.constantLong RX3 242 (31), Cond.methodLink RX3 124 yJx4a65c_get_915e3, Cond.instanceMethod yJx4a65c_get_915e3, Cond.selects RJx4a65c yJx4a65c_get_915e3 yJx4a65c_get_915e3, Cond.code yJx4a65c_get_915e3 cJx4a65c_get_915e3 2 (some (.object "java/lang/Object")), Cond.methodLink RJx4a65c 118 yJ15_checkIndex_7cf53, Cond.static yJ15_checkIndex_7cf53, Cond.initialized RJ15, Cond.code yJ15_checkIndex_7cf53 cJ15_checkIndex_7cf53 2 (some .int), Cond.methodLink RJ15 105 yJ3_checkIndex_8e157, Cond.static yJ3_checkIndex_8e157, Cond.initialized RJ3]
def wsX3_mixBins_r2 : List Cond := [Cond.code yJ3_checkIndex_8e157 cJ3_checkIndex_8e157 3 (some .int), Cond.methodLink RJx4a65c 123 yJx4a65c_elementData_915e3, Cond.instanceMethod yJx4a65c_elementData_915e3, Cond.selects RJx4a65c yJx4a65c_elementData_915e3 yJx4a65c_elementData_915e3, Cond.code yJx4a65c_elementData_915e3 cJx4a65c_elementData_915e3 2 (some (.object "java/lang/Object")), Cond.fieldLink RJx4a65c 9 "java/util/ArrayList" "elementData" "[Ljava/lang/Object;", Cond.methodLink RX3 137 yX0_fact, Cond.instanceMethod yX0_fact, Cond.selects RX0 yX0_fact yX0_fact, Cond.initialized RX0, Cond.code yX0_fact cX0_fact 2 (some .int), Cond.fieldLink RX0 7 "RefusePlanner$Bin" "place" "I", Cond.fieldLink RX0 13 "RefusePlanner$Bin" "kind" "I", Cond.fieldLink RX0 22 "RefusePlanner$Bin" "content" "I", Cond.fieldLink RX0 25 "RefusePlanner$Bin" "rate" "I", Cond.fieldLink RX0 28 "RefusePlanner$Bin" "emptiedOn" "I", Cond.fieldLink RX0 31 "RefusePlanner$Bin" "overflows" "I", Cond.fieldLink RX0 34 "RefusePlanner$Bin" "warnings" "I", Cond.fieldLink RX0 37 "RefusePlanner$Bin" "dirty" "Z"]
def wsX3_mixBins : List Cond := .code yX3_mixBins cX3_mixBins 7 (some .long) :: ((wsX3_mixBins_r1 ++ wsX3_mixBins_r2) ++ wsX30 ++ wsJx4a65c0 ++ wsX00)
def wsX3_mixTotals : List Cond := .code yX3_mixTotals cX3_mixTotals 7 (some .long) :: ([.fieldLink RX3 27 "RefusePlanner" "totals" "[J", .fieldLink RX3 31 "RefusePlanner" "wastes" "[J", .methodLink RX3 190 yX3_mix, .static yX3_mix, .initialized RX3, .code yX3_mix cX3_mix 4 (some .long), .constantLong RX3 242 (31)] ++ wsX30)
def wsX3_digest_r1 : List Cond := [Cond.constantLong RX3 188 (197), Cond.fieldLink RX3 42 "RefusePlanner" "day" "I", Cond.methodLink RX3 190 yX3_mix, Cond.static yX3_mix, Cond.initialized RX3, Cond.code yX3_mix cX3_mix 4 (some .long), Cond.constantLong RX3 242 (31), Cond.methodLink RX3 194 yX3_mixRegion, Cond.instanceMethod yX3_mixRegion, Cond.selects RX3 yX3_mixRegion yX3_mixRegion, Cond.code yX3_mixRegion cX3_mixRegion 7 (some .long), Cond.fieldLink RX3 12 "RefusePlanner" "region" "LRefusePlanner$Region;", Cond.methodLink RX3 72 yX1_between, Cond.instanceMethod yX1_between, Cond.selects RX1 yX1_between yX1_between, Cond.initialized RX1, Cond.code yX1_between cX1_between 3 (some .int), Cond.fieldLink RX1 9 "RefusePlanner$Region" "minutes" "[I", Cond.methodLink RX3 198 yX3_mixBins, Cond.instanceMethod yX3_mixBins, Cond.selects RX3 yX3_mixBins yX3_mixBins, Cond.code yX3_mixBins cX3_mixBins 7 (some .long), Cond.fieldLink RX3 19 "RefusePlanner" "bins" "Ljava/util/ArrayList;", Cond.classLink RX3 113 "RefusePlanner$Bin"]
def wsX3_digest_r2 : List Cond := [Cond.methodLink RX3 108 yJx4a65c_size_8abf5, Cond.instanceMethod yJx4a65c_size_8abf5, Cond.selects RJx4a65c yJx4a65c_size_8abf5 yJx4a65c_size_8abf5, Cond.initialized RJx4a65c, Cond.code yJx4a65c_size_8abf5 cJx4a65c_size_8abf5 1 (some .int), Cond.fieldLink RJx4a65c 48 "java/util/ArrayList" "size" "I", Cond.methodLink RX3 124 yJx4a65c_get_915e3, Cond.instanceMethod yJx4a65c_get_915e3, Cond.selects RJx4a65c yJx4a65c_get_915e3 yJx4a65c_get_915e3, Cond.code yJx4a65c_get_915e3 cJx4a65c_get_915e3 2 (some (.object "java/lang/Object")), Cond.methodLink RJx4a65c 118 yJ15_checkIndex_7cf53, Cond.static yJ15_checkIndex_7cf53, Cond.initialized RJ15, Cond.code yJ15_checkIndex_7cf53 cJ15_checkIndex_7cf53 2 (some .int), Cond.methodLink RJ15 105 yJ3_checkIndex_8e157, Cond.static yJ3_checkIndex_8e157, Cond.initialized RJ3, Cond.code yJ3_checkIndex_8e157 cJ3_checkIndex_8e157 3 (some .int), Cond.methodLink RJx4a65c 123 yJx4a65c_elementData_915e3, Cond.instanceMethod yJx4a65c_elementData_915e3, Cond.selects RJx4a65c yJx4a65c_elementData_915e3 yJx4a65c_elementData_915e3, Cond.code yJx4a65c_elementData_915e3 cJx4a65c_elementData_915e3 2 (some (.object "java/lang/Object")), Cond.fieldLink RJx4a65c 9 "java/util/ArrayList" "elementData" "[Ljava/lang/Object;", Cond.methodLink RX3 137 yX0_fact]
def wsX3_digest_r3 : List Cond := [Cond.instanceMethod yX0_fact, Cond.selects RX0 yX0_fact yX0_fact, Cond.initialized RX0, Cond.code yX0_fact cX0_fact 2 (some .int), Cond.fieldLink RX0 7 "RefusePlanner$Bin" "place" "I", Cond.fieldLink RX0 13 "RefusePlanner$Bin" "kind" "I", Cond.fieldLink RX0 22 "RefusePlanner$Bin" "content" "I", Cond.fieldLink RX0 25 "RefusePlanner$Bin" "rate" "I", Cond.fieldLink RX0 28 "RefusePlanner$Bin" "emptiedOn" "I", Cond.fieldLink RX0 31 "RefusePlanner$Bin" "overflows" "I", Cond.fieldLink RX0 34 "RefusePlanner$Bin" "warnings" "I", Cond.fieldLink RX0 37 "RefusePlanner$Bin" "dirty" "Z", Cond.methodLink RX3 201 yX3_mixTotals, Cond.instanceMethod yX3_mixTotals, Cond.selects RX3 yX3_mixTotals yX3_mixTotals, Cond.code yX3_mixTotals cX3_mixTotals 7 (some .long), Cond.fieldLink RX3 27 "RefusePlanner" "totals" "[J", Cond.fieldLink RX3 31 "RefusePlanner" "wastes" "[J"]
def wsX3_digest : List Cond := .code yX3_digest cX3_digest 3 (some .long) :: ((wsX3_digest_r1 ++ (wsX3_digest_r2 ++ wsX3_digest_r3)) ++ wsX30 ++ wsX10 ++ wsJx4a65c0 ++ wsX00)
def wsX4_init : List Cond := .code yX4_init cX4_init 2 none :: ([.methodLink RX4 1 objectInit, .instanceMethod objectInit, .code objectInit ⟨#[0xb1]⟩ 1 none, .fieldLink RX4 7 "RefusePlannerModel" "places" "I", .arrayClass .int, .fieldLink RX4 13 "RefusePlannerModel" "minutes" "[I", .fieldLink RX4 17 "RefusePlannerModel" "tips" "[I", .arrayClass .boolean, .fieldLink RX4 20 "RefusePlannerModel" "areHolidays" "[Z", .fieldLink RX4 24 "RefusePlannerModel" "stands" "[I", .fieldLink RX4 27 "RefusePlannerModel" "kinds" "[I", .fieldLink RX4 30 "RefusePlannerModel" "sizes" "[I", .fieldLink RX4 33 "RefusePlannerModel" "growths" "[I", .fieldLink RX4 36 "RefusePlannerModel" "contents" "[I", .fieldLink RX4 39 "RefusePlannerModel" "rates" "[I", .fieldLink RX4 42 "RefusePlannerModel" "emptied" "[I", .fieldLink RX4 45 "RefusePlannerModel" "overflows" "[I", .fieldLink RX4 48 "RefusePlannerModel" "warnings" "[I", .fieldLink RX4 51 "RefusePlannerModel" "areDirty" "[Z", .arrayClass .long, .fieldLink RX4 54 "RefusePlannerModel" "totals" "[J", .fieldLink RX4 58 "RefusePlannerModel" "waste" "[J", .fieldLink RX4 61 "RefusePlannerModel" "plan" "[I"] ++ wsX40)
def wsX4_thrown : List Cond := .code yX4_thrown cX4_thrown 1 (some .int) :: ([.fieldLink RX4 64 "RefusePlannerModel" "thrown" "I"] ++ wsX40)
def wsX4_fail : List Cond := .code yX4_fail cX4_fail 2 (some .int) :: ([.fieldLink RX4 64 "RefusePlannerModel" "thrown" "I"] ++ wsX40)
def wsX4_isIn : List Cond := .code yX4_isIn cX4_isIn 3 (some .boolean) :: ([])
def wsX4_isPlace : List Cond := .code yX4_isPlace cX4_isPlace 2 (some .boolean) :: ([.fieldLink RX4 7 "RefusePlannerModel" "places" "I", .methodLink RX4 67 yX4_isIn, .static yX4_isIn, .initialized RX4, .code yX4_isIn cX4_isIn 3 (some .boolean)] ++ wsX40)
def wsX4_isKind : List Cond := .code yX4_isKind cX4_isKind 1 (some .boolean) :: ([.methodLink RX4 67 yX4_isIn, .static yX4_isIn, .initialized RX4, .code yX4_isIn cX4_isIn 3 (some .boolean)])
def wsX4_isBin : List Cond := .code yX4_isBin cX4_isBin 2 (some .boolean) :: ([.fieldLink RX4 71 "RefusePlannerModel" "bins" "I", .methodLink RX4 67 yX4_isIn, .static yX4_isIn, .initialized RX4, .code yX4_isIn cX4_isIn 3 (some .boolean)] ++ wsX40)
def wsX4_isCapacity : List Cond := .code yX4_isCapacity cX4_isCapacity 1 (some .boolean) :: ([.methodLink RX4 67 yX4_isIn, .static yX4_isIn, .initialized RX4, .code yX4_isIn cX4_isIn 3 (some .boolean)])
def wsX4_has : List Cond := .code yX4_has cX4_has 2 (some .boolean) :: ([])
def wsX4_drive : List Cond := .code yX4_drive cX4_drive 3 (some .int) :: ([.fieldLink RX4 13 "RefusePlannerModel" "minutes" "[I"] ++ wsX40)
def wsX4_addPlace : List Cond := .code yX4_addPlace cX4_addPlace 1 (some .int) :: ([.fieldLink RX4 64 "RefusePlannerModel" "thrown" "I", .fieldLink RX4 7 "RefusePlannerModel" "places" "I", .methodLink RX4 74 yX4_fail, .instanceMethod yX4_fail, .selects RX4 yX4_fail yX4_fail, .initialized RX4, .code yX4_fail cX4_fail 2 (some .int)] ++ wsX40)
def wsX4_setMinutes : List Cond := .code yX4_setMinutes cX4_setMinutes 5 (some .int) :: ([.fieldLink RX4 64 "RefusePlannerModel" "thrown" "I", .fieldLink RX4 13 "RefusePlannerModel" "minutes" "[I", .methodLink RX4 78 yX4_isPlace, .instanceMethod yX4_isPlace, .selects RX4 yX4_isPlace yX4_isPlace, .initialized RX4, .code yX4_isPlace cX4_isPlace 2 (some .boolean), .fieldLink RX4 7 "RefusePlannerModel" "places" "I", .methodLink RX4 67 yX4_isIn, .static yX4_isIn, .code yX4_isIn cX4_isIn 3 (some .boolean), .methodLink RX4 74 yX4_fail, .instanceMethod yX4_fail, .selects RX4 yX4_fail yX4_fail, .code yX4_fail cX4_fail 2 (some .int), .methodLink RX4 82 yX4_drive, .instanceMethod yX4_drive, .selects RX4 yX4_drive yX4_drive, .code yX4_drive cX4_drive 3 (some .int)] ++ wsX40)
def wsX4_setTip : List Cond := .code yX4_setTip cX4_setTip 7 (some .boolean) :: ([.fieldLink RX4 64 "RefusePlannerModel" "thrown" "I", .fieldLink RX4 17 "RefusePlannerModel" "tips" "[I", .fieldLink RX4 7 "RefusePlannerModel" "places" "I", .methodLink RX4 78 yX4_isPlace, .instanceMethod yX4_isPlace, .selects RX4 yX4_isPlace yX4_isPlace, .initialized RX4, .code yX4_isPlace cX4_isPlace 2 (some .boolean), .methodLink RX4 67 yX4_isIn, .static yX4_isIn, .code yX4_isIn cX4_isIn 3 (some .boolean), .methodLink RX4 86 yX4_isKind, .static yX4_isKind, .code yX4_isKind cX4_isKind 1 (some .boolean), .methodLink RX4 89 yX4_has, .static yX4_has, .code yX4_has cX4_has 2 (some .boolean)] ++ wsX40)
def wsX4_setHoliday : List Cond := .code yX4_setHoliday cX4_setHoliday 4 (some .boolean) :: ([.fieldLink RX4 64 "RefusePlannerModel" "thrown" "I", .fieldLink RX4 20 "RefusePlannerModel" "areHolidays" "[Z", .methodLink RX4 67 yX4_isIn, .static yX4_isIn, .initialized RX4, .code yX4_isIn cX4_isIn 3 (some .boolean)] ++ wsX40)
def wsX4_pass : List Cond := .code yX4_pass cX4_pass 6 (some .int) :: ([.fieldLink RX4 64 "RefusePlannerModel" "thrown" "I", .fieldLink RX4 93 "RefusePlannerModel" "day" "I", .fieldLink RX4 71 "RefusePlannerModel" "bins" "I", .fieldLink RX4 36 "RefusePlannerModel" "contents" "[I", .fieldLink RX4 33 "RefusePlannerModel" "growths" "[I", .fieldLink RX4 30 "RefusePlannerModel" "sizes" "[I", .methodLink RX4 96 Lib.Math.max.name, .static Lib.Math.max.name, .initialized "java/lang/Math", .code Lib.Math.max.name Lib.Math.max.code 2 (some .int), .fieldLink RX4 58 "RefusePlannerModel" "waste" "[J", .fieldLink RX4 27 "RefusePlannerModel" "kinds" "[I", .fieldLink RX4 45 "RefusePlannerModel" "overflows" "[I", .methodLink RX4 67 yX4_isIn, .static yX4_isIn, .initialized RX4, .code yX4_isIn cX4_isIn 3 (some .boolean), .methodLink RX4 74 yX4_fail, .instanceMethod yX4_fail, .selects RX4 yX4_fail yX4_fail, .code yX4_fail cX4_fail 2 (some .int)] ++ wsX40)
def wsX4_today : List Cond := .code yX4_today cX4_today 1 (some .int) :: ([.fieldLink RX4 64 "RefusePlannerModel" "thrown" "I", .fieldLink RX4 93 "RefusePlannerModel" "day" "I"] ++ wsX40)
def wsX4_workday : List Cond := .code yX4_workday cX4_workday 2 (some .int) :: ([.fieldLink RX4 93 "RefusePlannerModel" "day" "I", .fieldLink RX4 20 "RefusePlannerModel" "areHolidays" "[Z"] ++ wsX40)
def wsX4_nextWorkday : List Cond := .code yX4_nextWorkday cX4_nextWorkday 1 (some .int) :: ([.fieldLink RX4 64 "RefusePlannerModel" "thrown" "I", .methodLink RX4 101 yX4_workday, .instanceMethod yX4_workday, .selects RX4 yX4_workday yX4_workday, .initialized RX4, .code yX4_workday cX4_workday 2 (some .int), .fieldLink RX4 93 "RefusePlannerModel" "day" "I", .fieldLink RX4 20 "RefusePlannerModel" "areHolidays" "[Z"] ++ wsX40)
def wsX4_addBin_r1 : List Cond := [Cond.fieldLink RX4 64 "RefusePlannerModel" "thrown" "I", Cond.fieldLink RX4 71 "RefusePlannerModel" "bins" "I", Cond.fieldLink RX4 24 "RefusePlannerModel" "stands" "[I", Cond.fieldLink RX4 27 "RefusePlannerModel" "kinds" "[I", Cond.fieldLink RX4 30 "RefusePlannerModel" "sizes" "[I", Cond.fieldLink RX4 33 "RefusePlannerModel" "growths" "[I", Cond.fieldLink RX4 36 "RefusePlannerModel" "contents" "[I", Cond.fieldLink RX4 39 "RefusePlannerModel" "rates" "[I", Cond.fieldLink RX4 42 "RefusePlannerModel" "emptied" "[I", Cond.fieldLink RX4 93 "RefusePlannerModel" "day" "I", Cond.methodLink RX4 78 yX4_isPlace, Cond.instanceMethod yX4_isPlace, Cond.selects RX4 yX4_isPlace yX4_isPlace, Cond.initialized RX4, Cond.code yX4_isPlace cX4_isPlace 2 (some .boolean), Cond.fieldLink RX4 7 "RefusePlannerModel" "places" "I", Cond.methodLink RX4 67 yX4_isIn, Cond.static yX4_isIn, Cond.code yX4_isIn cX4_isIn 3 (some .boolean), Cond.methodLink RX4 86 yX4_isKind, Cond.static yX4_isKind, Cond.code yX4_isKind cX4_isKind 1 (some .boolean), Cond.methodLink RX4 74 yX4_fail, Cond.instanceMethod yX4_fail]
def wsX4_addBin_r2 : List Cond := [Cond.selects RX4 yX4_fail yX4_fail, Cond.code yX4_fail cX4_fail 2 (some .int)]
def wsX4_addBin : List Cond := .code yX4_addBin cX4_addBin 5 (some .int) :: ((wsX4_addBin_r1 ++ wsX4_addBin_r2) ++ wsX40)
def wsX4_setGrowth : List Cond := .code yX4_setGrowth cX4_setGrowth 4 (some .int) :: ([.fieldLink RX4 64 "RefusePlannerModel" "thrown" "I", .fieldLink RX4 33 "RefusePlannerModel" "growths" "[I", .methodLink RX4 105 yX4_isBin, .instanceMethod yX4_isBin, .selects RX4 yX4_isBin yX4_isBin, .initialized RX4, .code yX4_isBin cX4_isBin 2 (some .boolean), .fieldLink RX4 71 "RefusePlannerModel" "bins" "I", .methodLink RX4 67 yX4_isIn, .static yX4_isIn, .code yX4_isIn cX4_isIn 3 (some .boolean), .methodLink RX4 74 yX4_fail, .instanceMethod yX4_fail, .selects RX4 yX4_fail yX4_fail, .code yX4_fail cX4_fail 2 (some .int)] ++ wsX40)
def wsX4_soil : List Cond := .code yX4_soil cX4_soil 3 (some .boolean) :: ([.fieldLink RX4 64 "RefusePlannerModel" "thrown" "I", .fieldLink RX4 51 "RefusePlannerModel" "areDirty" "[Z", .methodLink RX4 105 yX4_isBin, .instanceMethod yX4_isBin, .selects RX4 yX4_isBin yX4_isBin, .initialized RX4, .code yX4_isBin cX4_isBin 2 (some .boolean), .fieldLink RX4 71 "RefusePlannerModel" "bins" "I", .methodLink RX4 67 yX4_isIn, .static yX4_isIn, .code yX4_isIn cX4_isIn 3 (some .boolean)] ++ wsX40)
def wsX4_binCount : List Cond := .code yX4_binCount cX4_binCount 1 (some .int) :: ([.fieldLink RX4 64 "RefusePlannerModel" "thrown" "I", .fieldLink RX4 71 "RefusePlannerModel" "bins" "I"] ++ wsX40)
def wsX4_told : List Cond := .code yX4_told cX4_told 3 (some .int) :: ([.fieldLink RX4 24 "RefusePlannerModel" "stands" "[I", .fieldLink RX4 27 "RefusePlannerModel" "kinds" "[I", .fieldLink RX4 36 "RefusePlannerModel" "contents" "[I", .fieldLink RX4 39 "RefusePlannerModel" "rates" "[I", .fieldLink RX4 42 "RefusePlannerModel" "emptied" "[I", .fieldLink RX4 45 "RefusePlannerModel" "overflows" "[I", .fieldLink RX4 48 "RefusePlannerModel" "warnings" "[I", .fieldLink RX4 51 "RefusePlannerModel" "areDirty" "[Z"] ++ wsX40)
def wsX4_bin_r1 : List Cond := [Cond.fieldLink RX4 64 "RefusePlannerModel" "thrown" "I", Cond.methodLink RX4 105 yX4_isBin, Cond.instanceMethod yX4_isBin, Cond.selects RX4 yX4_isBin yX4_isBin, Cond.initialized RX4, Cond.code yX4_isBin cX4_isBin 2 (some .boolean), Cond.fieldLink RX4 71 "RefusePlannerModel" "bins" "I", Cond.methodLink RX4 67 yX4_isIn, Cond.static yX4_isIn, Cond.code yX4_isIn cX4_isIn 3 (some .boolean), Cond.methodLink RX4 108 yX4_told, Cond.instanceMethod yX4_told, Cond.selects RX4 yX4_told yX4_told, Cond.code yX4_told cX4_told 3 (some .int), Cond.fieldLink RX4 24 "RefusePlannerModel" "stands" "[I", Cond.fieldLink RX4 27 "RefusePlannerModel" "kinds" "[I", Cond.fieldLink RX4 36 "RefusePlannerModel" "contents" "[I", Cond.fieldLink RX4 39 "RefusePlannerModel" "rates" "[I", Cond.fieldLink RX4 42 "RefusePlannerModel" "emptied" "[I", Cond.fieldLink RX4 45 "RefusePlannerModel" "overflows" "[I", Cond.fieldLink RX4 48 "RefusePlannerModel" "warnings" "[I", Cond.fieldLink RX4 51 "RefusePlannerModel" "areDirty" "[Z", Cond.methodLink RX4 74 yX4_fail, Cond.instanceMethod yX4_fail]
def wsX4_bin_r2 : List Cond := [Cond.selects RX4 yX4_fail yX4_fail, Cond.code yX4_fail cX4_fail 2 (some .int)]
def wsX4_bin : List Cond := .code yX4_bin cX4_bin 3 (some .int) :: ((wsX4_bin_r1 ++ wsX4_bin_r2) ++ wsX40)
def wsX4_expectedOn : List Cond := .code yX4_expectedOn cX4_expectedOn 3 (some .int) :: ([.fieldLink RX4 30 "RefusePlannerModel" "sizes" "[I", .fieldLink RX4 39 "RefusePlannerModel" "rates" "[I", .fieldLink RX4 42 "RefusePlannerModel" "emptied" "[I", .methodLink RX4 111 Lib.Math.min.name, .static Lib.Math.min.name, .initialized "java/lang/Math", .code Lib.Math.min.name Lib.Math.min.code 2 (some .int)] ++ wsX40)
def wsX4_expected_r1 : List Cond := [Cond.fieldLink RX4 64 "RefusePlannerModel" "thrown" "I", Cond.fieldLink RX4 93 "RefusePlannerModel" "day" "I", Cond.methodLink RX4 105 yX4_isBin, Cond.instanceMethod yX4_isBin, Cond.selects RX4 yX4_isBin yX4_isBin, Cond.initialized RX4, Cond.code yX4_isBin cX4_isBin 2 (some .boolean), Cond.fieldLink RX4 71 "RefusePlannerModel" "bins" "I", Cond.methodLink RX4 67 yX4_isIn, Cond.static yX4_isIn, Cond.code yX4_isIn cX4_isIn 3 (some .boolean), Cond.methodLink RX4 74 yX4_fail, Cond.instanceMethod yX4_fail, Cond.selects RX4 yX4_fail yX4_fail, Cond.code yX4_fail cX4_fail 2 (some .int), Cond.methodLink RX4 114 yX4_expectedOn, Cond.instanceMethod yX4_expectedOn, Cond.selects RX4 yX4_expectedOn yX4_expectedOn, Cond.code yX4_expectedOn cX4_expectedOn 3 (some .int), Cond.fieldLink RX4 30 "RefusePlannerModel" "sizes" "[I", Cond.fieldLink RX4 39 "RefusePlannerModel" "rates" "[I", Cond.fieldLink RX4 42 "RefusePlannerModel" "emptied" "[I", Cond.methodLink RX4 111 Lib.Math.min.name, Cond.static Lib.Math.min.name]
def wsX4_expected_r2 : List Cond := [Cond.initialized "java/lang/Math", Cond.code Lib.Math.min.name Lib.Math.min.code 2 (some .int)]
def wsX4_expected : List Cond := .code yX4_expected cX4_expected 3 (some .int) :: ((wsX4_expected_r1 ++ wsX4_expected_r2) ++ wsX40)
def wsX4_fullOn_r1 : List Cond := [Cond.fieldLink RX4 64 "RefusePlannerModel" "thrown" "I", Cond.fieldLink RX4 93 "RefusePlannerModel" "day" "I", Cond.fieldLink RX4 30 "RefusePlannerModel" "sizes" "[I", Cond.methodLink RX4 105 yX4_isBin, Cond.instanceMethod yX4_isBin, Cond.selects RX4 yX4_isBin yX4_isBin, Cond.initialized RX4, Cond.code yX4_isBin cX4_isBin 2 (some .boolean), Cond.fieldLink RX4 71 "RefusePlannerModel" "bins" "I", Cond.methodLink RX4 67 yX4_isIn, Cond.static yX4_isIn, Cond.code yX4_isIn cX4_isIn 3 (some .boolean), Cond.methodLink RX4 74 yX4_fail, Cond.instanceMethod yX4_fail, Cond.selects RX4 yX4_fail yX4_fail, Cond.code yX4_fail cX4_fail 2 (some .int), Cond.methodLink RX4 114 yX4_expectedOn, Cond.instanceMethod yX4_expectedOn, Cond.selects RX4 yX4_expectedOn yX4_expectedOn, Cond.code yX4_expectedOn cX4_expectedOn 3 (some .int), Cond.fieldLink RX4 39 "RefusePlannerModel" "rates" "[I", Cond.fieldLink RX4 42 "RefusePlannerModel" "emptied" "[I", Cond.methodLink RX4 111 Lib.Math.min.name, Cond.static Lib.Math.min.name]
def wsX4_fullOn_r2 : List Cond := [Cond.initialized "java/lang/Math", Cond.code Lib.Math.min.name Lib.Math.min.code 2 (some .int)]
def wsX4_fullOn : List Cond := .code yX4_fullOn cX4_fullOn 3 (some .int) :: ((wsX4_fullOn_r1 ++ wsX4_fullOn_r2) ++ wsX40)
def wsX4_isDue : List Cond := .code yX4_isDue cX4_isDue 2 (some .boolean) :: ([.fieldLink RX4 93 "RefusePlannerModel" "day" "I", .fieldLink RX4 30 "RefusePlannerModel" "sizes" "[I", .methodLink RX4 114 yX4_expectedOn, .instanceMethod yX4_expectedOn, .selects RX4 yX4_expectedOn yX4_expectedOn, .initialized RX4, .code yX4_expectedOn cX4_expectedOn 3 (some .int), .fieldLink RX4 39 "RefusePlannerModel" "rates" "[I", .fieldLink RX4 42 "RefusePlannerModel" "emptied" "[I", .methodLink RX4 111 Lib.Math.min.name, .static Lib.Math.min.name, .initialized "java/lang/Math", .code Lib.Math.min.name Lib.Math.min.code 2 (some .int), .methodLink RX4 101 yX4_workday, .instanceMethod yX4_workday, .selects RX4 yX4_workday yX4_workday, .code yX4_workday cX4_workday 2 (some .int), .fieldLink RX4 20 "RefusePlannerModel" "areHolidays" "[Z"] ++ wsX40)
def wsX4_makePlan_r1 : List Cond := [Cond.fieldLink RX4 117 "RefusePlannerModel" "planned" "I", Cond.fieldLink RX4 71 "RefusePlannerModel" "bins" "I", Cond.fieldLink RX4 27 "RefusePlannerModel" "kinds" "[I", Cond.fieldLink RX4 24 "RefusePlannerModel" "stands" "[I", Cond.fieldLink RX4 61 "RefusePlannerModel" "plan" "[I", Cond.methodLink RX4 89 yX4_has, Cond.static yX4_has, Cond.initialized RX4, Cond.code yX4_has cX4_has 2 (some .boolean), Cond.methodLink RX4 120 yX4_isDue, Cond.instanceMethod yX4_isDue, Cond.selects RX4 yX4_isDue yX4_isDue, Cond.code yX4_isDue cX4_isDue 2 (some .boolean), Cond.fieldLink RX4 93 "RefusePlannerModel" "day" "I", Cond.fieldLink RX4 30 "RefusePlannerModel" "sizes" "[I", Cond.methodLink RX4 114 yX4_expectedOn, Cond.instanceMethod yX4_expectedOn, Cond.selects RX4 yX4_expectedOn yX4_expectedOn, Cond.code yX4_expectedOn cX4_expectedOn 3 (some .int), Cond.fieldLink RX4 39 "RefusePlannerModel" "rates" "[I", Cond.fieldLink RX4 42 "RefusePlannerModel" "emptied" "[I", Cond.methodLink RX4 111 Lib.Math.min.name, Cond.static Lib.Math.min.name, Cond.initialized "java/lang/Math"]
def wsX4_makePlan_r2 : List Cond := [Cond.code Lib.Math.min.name Lib.Math.min.code 2 (some .int), Cond.methodLink RX4 101 yX4_workday, Cond.instanceMethod yX4_workday, Cond.selects RX4 yX4_workday yX4_workday, Cond.code yX4_workday cX4_workday 2 (some .int), Cond.fieldLink RX4 20 "RefusePlannerModel" "areHolidays" "[Z", Cond.methodLink RX4 82 yX4_drive, Cond.instanceMethod yX4_drive, Cond.selects RX4 yX4_drive yX4_drive, Cond.code yX4_drive cX4_drive 3 (some .int), Cond.fieldLink RX4 13 "RefusePlannerModel" "minutes" "[I"]
def wsX4_makePlan : List Cond := .code yX4_makePlan cX4_makePlan 7 none :: ((wsX4_makePlan_r1 ++ wsX4_makePlan_r2) ++ wsX40)
def wsX4_planSize_r1 : List Cond := [Cond.fieldLink RX4 64 "RefusePlannerModel" "thrown" "I", Cond.fieldLink RX4 117 "RefusePlannerModel" "planned" "I", Cond.methodLink RX4 86 yX4_isKind, Cond.static yX4_isKind, Cond.initialized RX4, Cond.code yX4_isKind cX4_isKind 1 (some .boolean), Cond.methodLink RX4 67 yX4_isIn, Cond.static yX4_isIn, Cond.code yX4_isIn cX4_isIn 3 (some .boolean), Cond.methodLink RX4 74 yX4_fail, Cond.instanceMethod yX4_fail, Cond.selects RX4 yX4_fail yX4_fail, Cond.code yX4_fail cX4_fail 2 (some .int), Cond.methodLink RX4 123 yX4_makePlan, Cond.instanceMethod yX4_makePlan, Cond.selects RX4 yX4_makePlan yX4_makePlan, Cond.code yX4_makePlan cX4_makePlan 7 none, Cond.fieldLink RX4 71 "RefusePlannerModel" "bins" "I", Cond.fieldLink RX4 27 "RefusePlannerModel" "kinds" "[I", Cond.fieldLink RX4 24 "RefusePlannerModel" "stands" "[I", Cond.fieldLink RX4 61 "RefusePlannerModel" "plan" "[I", Cond.methodLink RX4 89 yX4_has, Cond.static yX4_has, Cond.code yX4_has cX4_has 2 (some .boolean)]
def wsX4_planSize_r2 : List Cond := [Cond.methodLink RX4 120 yX4_isDue, Cond.instanceMethod yX4_isDue, Cond.selects RX4 yX4_isDue yX4_isDue, Cond.code yX4_isDue cX4_isDue 2 (some .boolean), Cond.fieldLink RX4 93 "RefusePlannerModel" "day" "I", Cond.fieldLink RX4 30 "RefusePlannerModel" "sizes" "[I", Cond.methodLink RX4 114 yX4_expectedOn, Cond.instanceMethod yX4_expectedOn, Cond.selects RX4 yX4_expectedOn yX4_expectedOn, Cond.code yX4_expectedOn cX4_expectedOn 3 (some .int), Cond.fieldLink RX4 39 "RefusePlannerModel" "rates" "[I", Cond.fieldLink RX4 42 "RefusePlannerModel" "emptied" "[I", Cond.methodLink RX4 111 Lib.Math.min.name, Cond.static Lib.Math.min.name, Cond.initialized "java/lang/Math", Cond.code Lib.Math.min.name Lib.Math.min.code 2 (some .int), Cond.methodLink RX4 101 yX4_workday, Cond.instanceMethod yX4_workday, Cond.selects RX4 yX4_workday yX4_workday, Cond.code yX4_workday cX4_workday 2 (some .int), Cond.fieldLink RX4 20 "RefusePlannerModel" "areHolidays" "[Z", Cond.methodLink RX4 82 yX4_drive, Cond.instanceMethod yX4_drive, Cond.selects RX4 yX4_drive yX4_drive]
def wsX4_planSize_r3 : List Cond := [Cond.code yX4_drive cX4_drive 3 (some .int), Cond.fieldLink RX4 13 "RefusePlannerModel" "minutes" "[I"]
def wsX4_planSize : List Cond := .code yX4_planSize cX4_planSize 2 (some .int) :: ((wsX4_planSize_r1 ++ (wsX4_planSize_r2 ++ wsX4_planSize_r3)) ++ wsX40)
def wsX4_planned_r1 : List Cond := [Cond.fieldLink RX4 64 "RefusePlannerModel" "thrown" "I", Cond.fieldLink RX4 117 "RefusePlannerModel" "planned" "I", Cond.fieldLink RX4 61 "RefusePlannerModel" "plan" "[I", Cond.methodLink RX4 86 yX4_isKind, Cond.static yX4_isKind, Cond.initialized RX4, Cond.code yX4_isKind cX4_isKind 1 (some .boolean), Cond.methodLink RX4 67 yX4_isIn, Cond.static yX4_isIn, Cond.code yX4_isIn cX4_isIn 3 (some .boolean), Cond.methodLink RX4 74 yX4_fail, Cond.instanceMethod yX4_fail, Cond.selects RX4 yX4_fail yX4_fail, Cond.code yX4_fail cX4_fail 2 (some .int), Cond.methodLink RX4 123 yX4_makePlan, Cond.instanceMethod yX4_makePlan, Cond.selects RX4 yX4_makePlan yX4_makePlan, Cond.code yX4_makePlan cX4_makePlan 7 none, Cond.fieldLink RX4 71 "RefusePlannerModel" "bins" "I", Cond.fieldLink RX4 27 "RefusePlannerModel" "kinds" "[I", Cond.fieldLink RX4 24 "RefusePlannerModel" "stands" "[I", Cond.methodLink RX4 89 yX4_has, Cond.static yX4_has, Cond.code yX4_has cX4_has 2 (some .boolean)]
def wsX4_planned_r2 : List Cond := [Cond.methodLink RX4 120 yX4_isDue, Cond.instanceMethod yX4_isDue, Cond.selects RX4 yX4_isDue yX4_isDue, Cond.code yX4_isDue cX4_isDue 2 (some .boolean), Cond.fieldLink RX4 93 "RefusePlannerModel" "day" "I", Cond.fieldLink RX4 30 "RefusePlannerModel" "sizes" "[I", Cond.methodLink RX4 114 yX4_expectedOn, Cond.instanceMethod yX4_expectedOn, Cond.selects RX4 yX4_expectedOn yX4_expectedOn, Cond.code yX4_expectedOn cX4_expectedOn 3 (some .int), Cond.fieldLink RX4 39 "RefusePlannerModel" "rates" "[I", Cond.fieldLink RX4 42 "RefusePlannerModel" "emptied" "[I", Cond.methodLink RX4 111 Lib.Math.min.name, Cond.static Lib.Math.min.name, Cond.initialized "java/lang/Math", Cond.code Lib.Math.min.name Lib.Math.min.code 2 (some .int), Cond.methodLink RX4 101 yX4_workday, Cond.instanceMethod yX4_workday, Cond.selects RX4 yX4_workday yX4_workday, Cond.code yX4_workday cX4_workday 2 (some .int), Cond.fieldLink RX4 20 "RefusePlannerModel" "areHolidays" "[Z", Cond.methodLink RX4 82 yX4_drive, Cond.instanceMethod yX4_drive, Cond.selects RX4 yX4_drive yX4_drive]
def wsX4_planned_r3 : List Cond := [Cond.code yX4_drive cX4_drive 3 (some .int), Cond.fieldLink RX4 13 "RefusePlannerModel" "minutes" "[I"]
def wsX4_planned : List Cond := .code yX4_planned cX4_planned 3 (some .int) :: ((wsX4_planned_r1 ++ (wsX4_planned_r2 ++ wsX4_planned_r3)) ++ wsX40)
def wsX4_tipFor : List Cond := .code yX4_tipFor cX4_tipFor 6 (some .int) :: ([.fieldLink RX4 7 "RefusePlannerModel" "places" "I", .fieldLink RX4 17 "RefusePlannerModel" "tips" "[I", .methodLink RX4 89 yX4_has, .static yX4_has, .initialized RX4, .code yX4_has cX4_has 2 (some .boolean), .methodLink RX4 82 yX4_drive, .instanceMethod yX4_drive, .selects RX4 yX4_drive yX4_drive, .code yX4_drive cX4_drive 3 (some .int), .fieldLink RX4 13 "RefusePlannerModel" "minutes" "[I"] ++ wsX40)
def wsX4_empty : List Cond := .code yX4_empty cX4_empty 4 none :: ([.fieldLink RX4 93 "RefusePlannerModel" "day" "I", .fieldLink RX4 42 "RefusePlannerModel" "emptied" "[I", .fieldLink RX4 39 "RefusePlannerModel" "rates" "[I", .fieldLink RX4 36 "RefusePlannerModel" "contents" "[I"] ++ wsX40)
def wsX4_tour_r1 : List Cond := [Cond.fieldLink RX4 117 "RefusePlannerModel" "planned" "I", Cond.fieldLink RX4 61 "RefusePlannerModel" "plan" "[I", Cond.fieldLink RX4 24 "RefusePlannerModel" "stands" "[I", Cond.fieldLink RX4 51 "RefusePlannerModel" "areDirty" "[Z", Cond.fieldLink RX4 48 "RefusePlannerModel" "warnings" "[I", Cond.fieldLink RX4 36 "RefusePlannerModel" "contents" "[I", Cond.methodLink RX4 111 Lib.Math.min.name, Cond.static Lib.Math.min.name, Cond.initialized "java/lang/Math", Cond.code Lib.Math.min.name Lib.Math.min.code 2 (some .int), Cond.fieldLink RX4 54 "RefusePlannerModel" "totals" "[J", Cond.methodLink RX4 82 yX4_drive, Cond.instanceMethod yX4_drive, Cond.selects RX4 yX4_drive yX4_drive, Cond.initialized RX4, Cond.code yX4_drive cX4_drive 3 (some .int), Cond.fieldLink RX4 13 "RefusePlannerModel" "minutes" "[I", Cond.methodLink RX4 127 yX4_tipFor, Cond.instanceMethod yX4_tipFor, Cond.selects RX4 yX4_tipFor yX4_tipFor, Cond.code yX4_tipFor cX4_tipFor 6 (some .int), Cond.fieldLink RX4 7 "RefusePlannerModel" "places" "I", Cond.fieldLink RX4 17 "RefusePlannerModel" "tips" "[I", Cond.methodLink RX4 89 yX4_has]
def wsX4_tour_r2 : List Cond := [Cond.static yX4_has, Cond.code yX4_has cX4_has 2 (some .boolean), Cond.methodLink RX4 131 yX4_empty, Cond.instanceMethod yX4_empty, Cond.selects RX4 yX4_empty yX4_empty, Cond.code yX4_empty cX4_empty 4 none, Cond.fieldLink RX4 93 "RefusePlannerModel" "day" "I", Cond.fieldLink RX4 42 "RefusePlannerModel" "emptied" "[I", Cond.fieldLink RX4 39 "RefusePlannerModel" "rates" "[I"]
def wsX4_tour : List Cond := .code yX4_tour cX4_tour 14 (some .int) :: ((wsX4_tour_r1 ++ wsX4_tour_r2) ++ wsX40)
def wsX4_collect_r1 : List Cond := [Cond.fieldLink RX4 64 "RefusePlannerModel" "thrown" "I", Cond.fieldLink RX4 20 "RefusePlannerModel" "areHolidays" "[Z", Cond.fieldLink RX4 93 "RefusePlannerModel" "day" "I", Cond.fieldLink RX4 117 "RefusePlannerModel" "planned" "I", Cond.methodLink RX4 86 yX4_isKind, Cond.static yX4_isKind, Cond.initialized RX4, Cond.code yX4_isKind cX4_isKind 1 (some .boolean), Cond.methodLink RX4 67 yX4_isIn, Cond.static yX4_isIn, Cond.code yX4_isIn cX4_isIn 3 (some .boolean), Cond.methodLink RX4 74 yX4_fail, Cond.instanceMethod yX4_fail, Cond.selects RX4 yX4_fail yX4_fail, Cond.code yX4_fail cX4_fail 2 (some .int), Cond.methodLink RX4 135 yX4_isCapacity, Cond.static yX4_isCapacity, Cond.code yX4_isCapacity cX4_isCapacity 1 (some .boolean), Cond.methodLink RX4 123 yX4_makePlan, Cond.instanceMethod yX4_makePlan, Cond.selects RX4 yX4_makePlan yX4_makePlan, Cond.code yX4_makePlan cX4_makePlan 7 none, Cond.fieldLink RX4 71 "RefusePlannerModel" "bins" "I", Cond.fieldLink RX4 27 "RefusePlannerModel" "kinds" "[I"]
def wsX4_collect_r2 : List Cond := [Cond.fieldLink RX4 24 "RefusePlannerModel" "stands" "[I", Cond.fieldLink RX4 61 "RefusePlannerModel" "plan" "[I", Cond.methodLink RX4 89 yX4_has, Cond.static yX4_has, Cond.code yX4_has cX4_has 2 (some .boolean), Cond.methodLink RX4 120 yX4_isDue, Cond.instanceMethod yX4_isDue, Cond.selects RX4 yX4_isDue yX4_isDue, Cond.code yX4_isDue cX4_isDue 2 (some .boolean), Cond.fieldLink RX4 30 "RefusePlannerModel" "sizes" "[I", Cond.methodLink RX4 114 yX4_expectedOn, Cond.instanceMethod yX4_expectedOn, Cond.selects RX4 yX4_expectedOn yX4_expectedOn, Cond.code yX4_expectedOn cX4_expectedOn 3 (some .int), Cond.fieldLink RX4 39 "RefusePlannerModel" "rates" "[I", Cond.fieldLink RX4 42 "RefusePlannerModel" "emptied" "[I", Cond.methodLink RX4 111 Lib.Math.min.name, Cond.static Lib.Math.min.name, Cond.initialized "java/lang/Math", Cond.code Lib.Math.min.name Lib.Math.min.code 2 (some .int), Cond.methodLink RX4 101 yX4_workday, Cond.instanceMethod yX4_workday, Cond.selects RX4 yX4_workday yX4_workday, Cond.code yX4_workday cX4_workday 2 (some .int)]
def wsX4_collect_r3 : List Cond := [Cond.methodLink RX4 82 yX4_drive, Cond.instanceMethod yX4_drive, Cond.selects RX4 yX4_drive yX4_drive, Cond.code yX4_drive cX4_drive 3 (some .int), Cond.fieldLink RX4 13 "RefusePlannerModel" "minutes" "[I", Cond.methodLink RX4 138 yX4_tour, Cond.instanceMethod yX4_tour, Cond.selects RX4 yX4_tour yX4_tour, Cond.code yX4_tour cX4_tour 14 (some .int), Cond.fieldLink RX4 51 "RefusePlannerModel" "areDirty" "[Z", Cond.fieldLink RX4 48 "RefusePlannerModel" "warnings" "[I", Cond.fieldLink RX4 36 "RefusePlannerModel" "contents" "[I", Cond.fieldLink RX4 54 "RefusePlannerModel" "totals" "[J", Cond.methodLink RX4 127 yX4_tipFor, Cond.instanceMethod yX4_tipFor, Cond.selects RX4 yX4_tipFor yX4_tipFor, Cond.code yX4_tipFor cX4_tipFor 6 (some .int), Cond.fieldLink RX4 7 "RefusePlannerModel" "places" "I", Cond.fieldLink RX4 17 "RefusePlannerModel" "tips" "[I", Cond.methodLink RX4 131 yX4_empty, Cond.instanceMethod yX4_empty, Cond.selects RX4 yX4_empty yX4_empty, Cond.code yX4_empty cX4_empty 4 none]
def wsX4_collect : List Cond := .code yX4_collect cX4_collect 3 (some .int) :: ((wsX4_collect_r1 ++ (wsX4_collect_r2 ++ wsX4_collect_r3)) ++ wsX40)
def wsX4_fetch_r1 : List Cond := [Cond.fieldLink RX4 64 "RefusePlannerModel" "thrown" "I", Cond.fieldLink RX4 20 "RefusePlannerModel" "areHolidays" "[Z", Cond.fieldLink RX4 93 "RefusePlannerModel" "day" "I", Cond.fieldLink RX4 117 "RefusePlannerModel" "planned" "I", Cond.fieldLink RX4 61 "RefusePlannerModel" "plan" "[I", Cond.fieldLink RX4 27 "RefusePlannerModel" "kinds" "[I", Cond.methodLink RX4 105 yX4_isBin, Cond.instanceMethod yX4_isBin, Cond.selects RX4 yX4_isBin yX4_isBin, Cond.initialized RX4, Cond.code yX4_isBin cX4_isBin 2 (some .boolean), Cond.fieldLink RX4 71 "RefusePlannerModel" "bins" "I", Cond.methodLink RX4 67 yX4_isIn, Cond.static yX4_isIn, Cond.code yX4_isIn cX4_isIn 3 (some .boolean), Cond.methodLink RX4 74 yX4_fail, Cond.instanceMethod yX4_fail, Cond.selects RX4 yX4_fail yX4_fail, Cond.code yX4_fail cX4_fail 2 (some .int), Cond.methodLink RX4 135 yX4_isCapacity, Cond.static yX4_isCapacity, Cond.code yX4_isCapacity cX4_isCapacity 1 (some .boolean), Cond.methodLink RX4 138 yX4_tour, Cond.instanceMethod yX4_tour]
def wsX4_fetch_r2 : List Cond := [Cond.selects RX4 yX4_tour yX4_tour, Cond.code yX4_tour cX4_tour 14 (some .int), Cond.fieldLink RX4 24 "RefusePlannerModel" "stands" "[I", Cond.fieldLink RX4 51 "RefusePlannerModel" "areDirty" "[Z", Cond.fieldLink RX4 48 "RefusePlannerModel" "warnings" "[I", Cond.fieldLink RX4 36 "RefusePlannerModel" "contents" "[I", Cond.methodLink RX4 111 Lib.Math.min.name, Cond.static Lib.Math.min.name, Cond.initialized "java/lang/Math", Cond.code Lib.Math.min.name Lib.Math.min.code 2 (some .int), Cond.fieldLink RX4 54 "RefusePlannerModel" "totals" "[J", Cond.methodLink RX4 82 yX4_drive, Cond.instanceMethod yX4_drive, Cond.selects RX4 yX4_drive yX4_drive, Cond.code yX4_drive cX4_drive 3 (some .int), Cond.fieldLink RX4 13 "RefusePlannerModel" "minutes" "[I", Cond.methodLink RX4 127 yX4_tipFor, Cond.instanceMethod yX4_tipFor, Cond.selects RX4 yX4_tipFor yX4_tipFor, Cond.code yX4_tipFor cX4_tipFor 6 (some .int), Cond.fieldLink RX4 7 "RefusePlannerModel" "places" "I", Cond.fieldLink RX4 17 "RefusePlannerModel" "tips" "[I", Cond.methodLink RX4 89 yX4_has, Cond.static yX4_has]
def wsX4_fetch_r3 : List Cond := [Cond.code yX4_has cX4_has 2 (some .boolean), Cond.methodLink RX4 131 yX4_empty, Cond.instanceMethod yX4_empty, Cond.selects RX4 yX4_empty yX4_empty, Cond.code yX4_empty cX4_empty 4 none, Cond.fieldLink RX4 42 "RefusePlannerModel" "emptied" "[I", Cond.fieldLink RX4 39 "RefusePlannerModel" "rates" "[I"]
def wsX4_fetch : List Cond := .code yX4_fetch cX4_fetch 3 (some .int) :: ((wsX4_fetch_r1 ++ (wsX4_fetch_r2 ++ wsX4_fetch_r3)) ++ wsX40)
def wsX4_wouldTake_r1 : List Cond := [Cond.fieldLink RX4 64 "RefusePlannerModel" "thrown" "I", Cond.fieldLink RX4 117 "RefusePlannerModel" "planned" "I", Cond.methodLink RX4 86 yX4_isKind, Cond.static yX4_isKind, Cond.initialized RX4, Cond.code yX4_isKind cX4_isKind 1 (some .boolean), Cond.methodLink RX4 67 yX4_isIn, Cond.static yX4_isIn, Cond.code yX4_isIn cX4_isIn 3 (some .boolean), Cond.methodLink RX4 74 yX4_fail, Cond.instanceMethod yX4_fail, Cond.selects RX4 yX4_fail yX4_fail, Cond.code yX4_fail cX4_fail 2 (some .int), Cond.methodLink RX4 135 yX4_isCapacity, Cond.static yX4_isCapacity, Cond.code yX4_isCapacity cX4_isCapacity 1 (some .boolean), Cond.methodLink RX4 123 yX4_makePlan, Cond.instanceMethod yX4_makePlan, Cond.selects RX4 yX4_makePlan yX4_makePlan, Cond.code yX4_makePlan cX4_makePlan 7 none, Cond.fieldLink RX4 71 "RefusePlannerModel" "bins" "I", Cond.fieldLink RX4 27 "RefusePlannerModel" "kinds" "[I", Cond.fieldLink RX4 24 "RefusePlannerModel" "stands" "[I", Cond.fieldLink RX4 61 "RefusePlannerModel" "plan" "[I"]
def wsX4_wouldTake_r2 : List Cond := [Cond.methodLink RX4 89 yX4_has, Cond.static yX4_has, Cond.code yX4_has cX4_has 2 (some .boolean), Cond.methodLink RX4 120 yX4_isDue, Cond.instanceMethod yX4_isDue, Cond.selects RX4 yX4_isDue yX4_isDue, Cond.code yX4_isDue cX4_isDue 2 (some .boolean), Cond.fieldLink RX4 93 "RefusePlannerModel" "day" "I", Cond.fieldLink RX4 30 "RefusePlannerModel" "sizes" "[I", Cond.methodLink RX4 114 yX4_expectedOn, Cond.instanceMethod yX4_expectedOn, Cond.selects RX4 yX4_expectedOn yX4_expectedOn, Cond.code yX4_expectedOn cX4_expectedOn 3 (some .int), Cond.fieldLink RX4 39 "RefusePlannerModel" "rates" "[I", Cond.fieldLink RX4 42 "RefusePlannerModel" "emptied" "[I", Cond.methodLink RX4 111 Lib.Math.min.name, Cond.static Lib.Math.min.name, Cond.initialized "java/lang/Math", Cond.code Lib.Math.min.name Lib.Math.min.code 2 (some .int), Cond.methodLink RX4 101 yX4_workday, Cond.instanceMethod yX4_workday, Cond.selects RX4 yX4_workday yX4_workday, Cond.code yX4_workday cX4_workday 2 (some .int), Cond.fieldLink RX4 20 "RefusePlannerModel" "areHolidays" "[Z"]
def wsX4_wouldTake_r3 : List Cond := [Cond.methodLink RX4 82 yX4_drive, Cond.instanceMethod yX4_drive, Cond.selects RX4 yX4_drive yX4_drive, Cond.code yX4_drive cX4_drive 3 (some .int), Cond.fieldLink RX4 13 "RefusePlannerModel" "minutes" "[I", Cond.methodLink RX4 138 yX4_tour, Cond.instanceMethod yX4_tour, Cond.selects RX4 yX4_tour yX4_tour, Cond.code yX4_tour cX4_tour 14 (some .int), Cond.fieldLink RX4 51 "RefusePlannerModel" "areDirty" "[Z", Cond.fieldLink RX4 48 "RefusePlannerModel" "warnings" "[I", Cond.fieldLink RX4 36 "RefusePlannerModel" "contents" "[I", Cond.fieldLink RX4 54 "RefusePlannerModel" "totals" "[J", Cond.methodLink RX4 127 yX4_tipFor, Cond.instanceMethod yX4_tipFor, Cond.selects RX4 yX4_tipFor yX4_tipFor, Cond.code yX4_tipFor cX4_tipFor 6 (some .int), Cond.fieldLink RX4 7 "RefusePlannerModel" "places" "I", Cond.fieldLink RX4 17 "RefusePlannerModel" "tips" "[I", Cond.methodLink RX4 131 yX4_empty, Cond.instanceMethod yX4_empty, Cond.selects RX4 yX4_empty yX4_empty, Cond.code yX4_empty cX4_empty 4 none]
def wsX4_wouldTake : List Cond := .code yX4_wouldTake cX4_wouldTake 3 (some .int) :: ((wsX4_wouldTake_r1 ++ (wsX4_wouldTake_r2 ++ wsX4_wouldTake_r3)) ++ wsX40)
def wsX4_total : List Cond := .code yX4_total cX4_total 3 (some .long) :: ([.fieldLink RX4 64 "RefusePlannerModel" "thrown" "I", .fieldLink RX4 54 "RefusePlannerModel" "totals" "[J", .methodLink RX4 86 yX4_isKind, .static yX4_isKind, .initialized RX4, .code yX4_isKind cX4_isKind 1 (some .boolean), .methodLink RX4 67 yX4_isIn, .static yX4_isIn, .code yX4_isIn cX4_isIn 3 (some .boolean)] ++ wsX40)
def wsX4_wasted : List Cond := .code yX4_wasted cX4_wasted 2 (some .long) :: ([.fieldLink RX4 64 "RefusePlannerModel" "thrown" "I", .fieldLink RX4 58 "RefusePlannerModel" "waste" "[J", .methodLink RX4 86 yX4_isKind, .static yX4_isKind, .initialized RX4, .code yX4_isKind cX4_isKind 1 (some .boolean), .methodLink RX4 67 yX4_isIn, .static yX4_isIn, .code yX4_isIn cX4_isIn 3 (some .boolean)] ++ wsX40)
def wsX4_error : List Cond := .code yX4_error cX4_error 4 (some .double) :: ([.fieldLink RX4 64 "RefusePlannerModel" "thrown" "I", .fieldLink RX4 71 "RefusePlannerModel" "bins" "I", .fieldLink RX4 93 "RefusePlannerModel" "day" "I", .fieldLink RX4 36 "RefusePlannerModel" "contents" "[I", .methodLink RX4 142 Lib.Math.abs.name, .static Lib.Math.abs.name, .initialized "java/lang/Math", .code Lib.Math.abs.name Lib.Math.abs.code 1 (some .int), .fieldLink RX4 30 "RefusePlannerModel" "sizes" "[I", .methodLink RX4 114 yX4_expectedOn, .instanceMethod yX4_expectedOn, .selects RX4 yX4_expectedOn yX4_expectedOn, .initialized RX4, .code yX4_expectedOn cX4_expectedOn 3 (some .int), .fieldLink RX4 39 "RefusePlannerModel" "rates" "[I", .fieldLink RX4 42 "RefusePlannerModel" "emptied" "[I", .methodLink RX4 111 Lib.Math.min.name, .static Lib.Math.min.name, .code Lib.Math.min.name Lib.Math.min.code 2 (some .int)] ++ wsX40)
def wsX4_digest_r1 : List Cond := [Cond.fieldLink RX4 64 "RefusePlannerModel" "thrown" "I", Cond.constantLong RX4 145 (6107), Cond.fieldLink RX4 93 "RefusePlannerModel" "day" "I", Cond.constantLong RX4 147 (31), Cond.fieldLink RX4 7 "RefusePlannerModel" "places" "I", Cond.fieldLink RX4 17 "RefusePlannerModel" "tips" "[I", Cond.fieldLink RX4 71 "RefusePlannerModel" "bins" "I", Cond.fieldLink RX4 54 "RefusePlannerModel" "totals" "[J", Cond.fieldLink RX4 58 "RefusePlannerModel" "waste" "[J", Cond.methodLink RX4 82 yX4_drive, Cond.instanceMethod yX4_drive, Cond.selects RX4 yX4_drive yX4_drive, Cond.initialized RX4, Cond.code yX4_drive cX4_drive 3 (some .int), Cond.fieldLink RX4 13 "RefusePlannerModel" "minutes" "[I", Cond.methodLink RX4 108 yX4_told, Cond.instanceMethod yX4_told, Cond.selects RX4 yX4_told yX4_told, Cond.code yX4_told cX4_told 3 (some .int), Cond.fieldLink RX4 24 "RefusePlannerModel" "stands" "[I", Cond.fieldLink RX4 27 "RefusePlannerModel" "kinds" "[I", Cond.fieldLink RX4 36 "RefusePlannerModel" "contents" "[I", Cond.fieldLink RX4 39 "RefusePlannerModel" "rates" "[I", Cond.fieldLink RX4 42 "RefusePlannerModel" "emptied" "[I"]
def wsX4_digest_r2 : List Cond := [Cond.fieldLink RX4 45 "RefusePlannerModel" "overflows" "[I", Cond.fieldLink RX4 48 "RefusePlannerModel" "warnings" "[I", Cond.fieldLink RX4 51 "RefusePlannerModel" "areDirty" "[Z"]
def wsX4_digest : List Cond := .code yX4_digest cX4_digest 5 (some .long) :: ((wsX4_digest_r1 ++ wsX4_digest_r2) ++ wsX40)
def wsJ9_abs_0f7a4 : List Cond := .code yJ9_abs_0f7a4 cJ9_abs_0f7a4 1 (some .int) :: ([])
def wsJ9_max_7cf53 : List Cond := .code yJ9_max_7cf53 cJ9_max_7cf53 2 (some .int) :: ([])
def wsJ9_min_7cf53 : List Cond := .code yJ9_min_7cf53 cJ9_min_7cf53 2 (some .int) :: ([])
def wsL_addPlace : List Cond := .codeWith yL_addPlace cL_addPlace 3 (some .int) [(0, 8, 11, 13)] :: ([.classLink RL 13 "java/lang/IllegalStateException", .methodLink RL 7 yX3_addPlace, .instanceMethod yX3_addPlace, .selects RX3 yX3_addPlace yX3_addPlace, .initialized RX3, .code yX3_addPlace cX3_addPlace 1 (some .int), .classLink RX3 48 "java/lang/IllegalStateException", .initialized "java/lang/IllegalStateException", .fieldLink RX3 12 "RefusePlanner" "region" "LRefusePlanner$Region;", .methodLink RX3 55 yX1_add, .instanceMethod yX1_add, .selects RX1 yX1_add yX1_add, .initialized RX1, .code yX1_add cX1_add 2 (some .int), .fieldLink RX1 18 "RefusePlanner$Region" "places" "I"] ++ wsX30 ++ wsX10 ++ (vx_atS RX3 52 "java/lang/IllegalStateException" ["java/lang/RuntimeException", "java/lang/Exception"]).filter goodWord)
def wsL_setMinutes_r1 : List Cond := [Cond.classLink RL 19 "java/lang/IndexOutOfBoundsException", Cond.classLink RL 21 "java/lang/IllegalArgumentException", Cond.methodLink RL 15 yX3_setMinutes, Cond.instanceMethod yX3_setMinutes, Cond.selects RX3 yX3_setMinutes yX3_setMinutes, Cond.initialized RX3, Cond.code yX3_setMinutes cX3_setMinutes 5 (some .int), Cond.classLink RX3 63 "java/lang/IllegalArgumentException", Cond.initialized "java/lang/IllegalArgumentException", Cond.fieldLink RX3 12 "RefusePlanner" "region" "LRefusePlanner$Region;", Cond.methodLink RX3 59 yX3_checkPlace, Cond.instanceMethod yX3_checkPlace, Cond.selects RX3 yX3_checkPlace yX3_checkPlace, Cond.code yX3_checkPlace cX3_checkPlace 2 none, Cond.classLink RX3 96 "java/lang/IndexOutOfBoundsException", Cond.initialized "java/lang/IndexOutOfBoundsException", Cond.methodLink RX3 68 yX3_checkRange, Cond.instanceMethod yX3_checkRange, Cond.selects RX3 yX3_checkRange yX3_checkRange, Cond.code yX3_checkRange cX3_checkRange 4 none, Cond.methodLink RX3 72 yX1_between, Cond.instanceMethod yX1_between, Cond.selects RX1 yX1_between yX1_between, Cond.initialized RX1]
def wsL_setMinutes_r2 : List Cond := [Cond.code yX1_between cX1_between 3 (some .int), Cond.fieldLink RX1 9 "RefusePlanner$Region" "minutes" "[I", Cond.methodLink RX3 76 yX1_join, Cond.instanceMethod yX1_join, Cond.selects RX1 yX1_join yX1_join, Cond.code yX1_join cX1_join 4 none]
def wsL_setMinutes : List Cond := .codeWith yL_setMinutes cL_setMinutes 6 (some .int) [(0, 12, 15, 19), (0, 12, 19, 21)] :: ((wsL_setMinutes_r1 ++ wsL_setMinutes_r2) ++ wsX30 ++ wsX10 ++ (vx_atS RX3 67 "java/lang/IllegalArgumentException" ["java/lang/RuntimeException", "java/lang/Exception"]).filter goodWord ++ (vx_atS RX3 100 "java/lang/IndexOutOfBoundsException" ["java/lang/RuntimeException", "java/lang/Exception"]).filter goodWord)
def wsL_setTip_r1 : List Cond := [Cond.classLink RL 19 "java/lang/IndexOutOfBoundsException", Cond.classLink RL 21 "java/lang/IllegalArgumentException", Cond.methodLink RL 23 yX3_setTip, Cond.instanceMethod yX3_setTip, Cond.selects RX3 yX3_setTip yX3_setTip, Cond.initialized RX3, Cond.code yX3_setTip cX3_setTip 5 (some .boolean), Cond.classLink RX3 63 "java/lang/IllegalArgumentException", Cond.initialized "java/lang/IllegalArgumentException", Cond.fieldLink RX3 12 "RefusePlanner" "region" "LRefusePlanner$Region;", Cond.methodLink RX3 59 yX3_checkPlace, Cond.instanceMethod yX3_checkPlace, Cond.selects RX3 yX3_checkPlace yX3_checkPlace, Cond.code yX3_checkPlace cX3_checkPlace 2 none, Cond.classLink RX3 96 "java/lang/IndexOutOfBoundsException", Cond.initialized "java/lang/IndexOutOfBoundsException", Cond.methodLink RX3 79 yX3_checkKind, Cond.instanceMethod yX3_checkKind, Cond.selects RX3 yX3_checkKind yX3_checkKind, Cond.code yX3_checkKind cX3_checkKind 2 none, Cond.methodLink RX3 82 yX1_hasTip, Cond.instanceMethod yX1_hasTip, Cond.selects RX1 yX1_hasTip yX1_hasTip, Cond.initialized RX1]
def wsL_setTip_r2 : List Cond := [Cond.code yX1_hasTip cX1_hasTip 3 (some .boolean), Cond.fieldLink RX1 15 "RefusePlanner$Region" "tips" "[I", Cond.methodLink RX3 86 yX1_countTips, Cond.instanceMethod yX1_countTips, Cond.selects RX1 yX1_countTips yX1_countTips, Cond.code yX1_countTips cX1_countTips 4 (some .int), Cond.fieldLink RX1 18 "RefusePlanner$Region" "places" "I", Cond.methodLink RX1 22 yX1_hasTip, Cond.methodLink RX3 92 yX1_putTip, Cond.instanceMethod yX1_putTip, Cond.selects RX1 yX1_putTip yX1_putTip, Cond.code yX1_putTip cX1_putTip 5 none]
def wsL_setTip : List Cond := .codeWith yL_setTip cL_setTip 6 (some .int) [(0, 19, 22, 19), (0, 19, 26, 21)] :: ((wsL_setTip_r1 ++ wsL_setTip_r2) ++ wsX30 ++ wsX10 ++ (vx_atS RX3 67 "java/lang/IllegalArgumentException" ["java/lang/RuntimeException", "java/lang/Exception"]).filter goodWord ++ (vx_atS RX3 100 "java/lang/IndexOutOfBoundsException" ["java/lang/RuntimeException", "java/lang/Exception"]).filter goodWord)
def wsL_setHoliday : List Cond := .codeWith yL_setHoliday cL_setHoliday 5 (some .int) [(0, 17, 20, 19)] :: ([.classLink RL 19 "java/lang/IndexOutOfBoundsException", .methodLink RL 27 yX3_setHoliday, .instanceMethod yX3_setHoliday, .selects RX3 yX3_setHoliday yX3_setHoliday, .initialized RX3, .code yX3_setHoliday cX3_setHoliday 4 (some .boolean), .classLink RX3 96 "java/lang/IndexOutOfBoundsException", .initialized "java/lang/IndexOutOfBoundsException", .fieldLink RX3 23 "RefusePlanner" "holidays" "[Z"] ++ wsX30 ++ (vx_atS RX3 100 "java/lang/IndexOutOfBoundsException" ["java/lang/RuntimeException", "java/lang/Exception"]).filter goodWord)
def wsL_pass_r1 : List Cond := [Cond.classLink RL 21 "java/lang/IllegalArgumentException", Cond.classLink RL 13 "java/lang/IllegalStateException", Cond.methodLink RL 31 yX3_pass, Cond.instanceMethod yX3_pass, Cond.selects RX3 yX3_pass yX3_pass, Cond.initialized RX3, Cond.code yX3_pass cX3_pass 4 (some .int), Cond.classLink RX3 48 "java/lang/IllegalStateException", Cond.initialized "java/lang/IllegalStateException", Cond.fieldLink RX3 42 "RefusePlanner" "day" "I", Cond.methodLink RX3 68 yX3_checkRange, Cond.instanceMethod yX3_checkRange, Cond.selects RX3 yX3_checkRange yX3_checkRange, Cond.code yX3_checkRange cX3_checkRange 4 none, Cond.classLink RX3 63 "java/lang/IllegalArgumentException", Cond.initialized "java/lang/IllegalArgumentException", Cond.methodLink RX3 103 yX3_passOneDay, Cond.instanceMethod yX3_passOneDay, Cond.selects RX3 yX3_passOneDay yX3_passOneDay, Cond.code yX3_passOneDay cX3_passOneDay 5 (some .int), Cond.fieldLink RX3 19 "RefusePlanner" "bins" "Ljava/util/ArrayList;", Cond.classLink RX3 113 "RefusePlanner$Bin", Cond.fieldLink RX3 31 "RefusePlanner" "wastes" "[J", Cond.methodLink RX3 108 yJx4a65c_size_8abf5]
def wsL_pass_r2 : List Cond := [Cond.instanceMethod yJx4a65c_size_8abf5, Cond.selects RJx4a65c yJx4a65c_size_8abf5 yJx4a65c_size_8abf5, Cond.initialized RJx4a65c, Cond.code yJx4a65c_size_8abf5 cJx4a65c_size_8abf5 1 (some .int), Cond.fieldLink RJx4a65c 48 "java/util/ArrayList" "size" "I", Cond.methodLink RX3 124 yJx4a65c_get_915e3, Cond.instanceMethod yJx4a65c_get_915e3, Cond.selects RJx4a65c yJx4a65c_get_915e3 yJx4a65c_get_915e3, Cond.code yJx4a65c_get_915e3 cJx4a65c_get_915e3 2 (some (.object "java/lang/Object")), Cond.methodLink RJx4a65c 118 yJ15_checkIndex_7cf53, Cond.static yJ15_checkIndex_7cf53, Cond.initialized RJ15, Cond.code yJ15_checkIndex_7cf53 cJ15_checkIndex_7cf53 2 (some .int), Cond.methodLink RJ15 105 yJ3_checkIndex_8e157, Cond.static yJ3_checkIndex_8e157, Cond.initialized RJ3, Cond.code yJ3_checkIndex_8e157 cJ3_checkIndex_8e157 3 (some .int), Cond.methodLink RJx4a65c 123 yJx4a65c_elementData_915e3, Cond.instanceMethod yJx4a65c_elementData_915e3, Cond.selects RJx4a65c yJx4a65c_elementData_915e3 yJx4a65c_elementData_915e3, Cond.code yJx4a65c_elementData_915e3 cJx4a65c_elementData_915e3 2 (some (.object "java/lang/Object")), Cond.fieldLink RJx4a65c 9 "java/util/ArrayList" "elementData" "[Ljava/lang/Object;", Cond.methodLink RX3 214 yX0_fill, Cond.instanceMethod yX0_fill]
def wsL_pass_r3 : List Cond := [Cond.selects RX0 yX0_fill yX0_fill, Cond.initialized RX0, Cond.code yX0_fill cX0_fill 2 (some .int), Cond.fieldLink RX0 22 "RefusePlanner$Bin" "content" "I", Cond.fieldLink RX0 19 "RefusePlanner$Bin" "growth" "I", Cond.fieldLink RX0 16 "RefusePlanner$Bin" "size" "I", Cond.methodLink RX0 55 Lib.Math.max.name, Cond.static Lib.Math.max.name, Cond.initialized "java/lang/Math", Cond.code Lib.Math.max.name Lib.Math.max.code 2 (some .int), Cond.fieldLink RX0 31 "RefusePlanner$Bin" "overflows" "I"]
def wsL_pass : List Cond := .codeWith yL_pass cL_pass 4 (some .int) [(0, 9, 12, 21), (0, 9, 15, 13)] :: ((wsL_pass_r1 ++ (wsL_pass_r2 ++ wsL_pass_r3)) ++ wsX30 ++ wsX00 ++ wsJx4a65c0 ++ (vx_atS RX3 52 "java/lang/IllegalStateException" ["java/lang/RuntimeException", "java/lang/Exception"]).filter goodWord ++ (vx_atS RX3 67 "java/lang/IllegalArgumentException" ["java/lang/RuntimeException", "java/lang/Exception"]).filter goodWord)
def wsL_addBin_r1 : List Cond := [Cond.classLink RL 19 "java/lang/IndexOutOfBoundsException", Cond.classLink RL 21 "java/lang/IllegalArgumentException", Cond.classLink RL 13 "java/lang/IllegalStateException", Cond.methodLink RL 35 yX3_addBin, Cond.instanceMethod yX3_addBin, Cond.selects RX3 yX3_addBin yX3_addBin, Cond.initialized RX3, Cond.code yX3_addBin cX3_addBin 6 (some .int), Cond.classLink RX3 96 "java/lang/IndexOutOfBoundsException", Cond.initialized "java/lang/IndexOutOfBoundsException", Cond.classLink RX3 48 "java/lang/IllegalStateException", Cond.initialized "java/lang/IllegalStateException", Cond.fieldLink RX3 19 "RefusePlanner" "bins" "Ljava/util/ArrayList;", Cond.classLink RX3 113 RX0, Cond.instantiable RX0 10, Cond.initialized RX0, Cond.fieldLink RX3 42 "RefusePlanner" "day" "I", Cond.methodLink RX3 59 yX3_checkPlace, Cond.instanceMethod yX3_checkPlace, Cond.selects RX3 yX3_checkPlace yX3_checkPlace, Cond.code yX3_checkPlace cX3_checkPlace 2 none, Cond.fieldLink RX3 12 "RefusePlanner" "region" "LRefusePlanner$Region;", Cond.methodLink RX3 79 yX3_checkKind, Cond.instanceMethod yX3_checkKind]
def wsL_addBin_r2 : List Cond := [Cond.selects RX3 yX3_checkKind yX3_checkKind, Cond.code yX3_checkKind cX3_checkKind 2 none, Cond.methodLink RX3 68 yX3_checkRange, Cond.instanceMethod yX3_checkRange, Cond.selects RX3 yX3_checkRange yX3_checkRange, Cond.code yX3_checkRange cX3_checkRange 4 none, Cond.classLink RX3 63 "java/lang/IllegalArgumentException", Cond.initialized "java/lang/IllegalArgumentException", Cond.methodLink RX3 108 yJx4a65c_size_8abf5, Cond.instanceMethod yJx4a65c_size_8abf5, Cond.selects RJx4a65c yJx4a65c_size_8abf5 yJx4a65c_size_8abf5, Cond.initialized RJx4a65c, Cond.code yJx4a65c_size_8abf5 cJx4a65c_size_8abf5 1 (some .int), Cond.fieldLink RJx4a65c 48 "java/util/ArrayList" "size" "I", Cond.methodLink RX3 115 yX0_init, Cond.instanceMethod yX0_init, Cond.code yX0_init cX0_init 6 none, Cond.methodLink RX0 1 objectInit, Cond.instanceMethod objectInit, Cond.code objectInit ⟨#[0xb1]⟩ 1 none, Cond.fieldLink RX0 7 "RefusePlanner$Bin" "place" "I", Cond.fieldLink RX0 13 "RefusePlanner$Bin" "kind" "I", Cond.fieldLink RX0 16 "RefusePlanner$Bin" "size" "I", Cond.fieldLink RX0 19 "RefusePlanner$Bin" "growth" "I"]
def wsL_addBin_r3 : List Cond := [Cond.fieldLink RX0 22 "RefusePlanner$Bin" "content" "I", Cond.fieldLink RX0 25 "RefusePlanner$Bin" "rate" "I", Cond.fieldLink RX0 28 "RefusePlanner$Bin" "emptiedOn" "I", Cond.fieldLink RX0 31 "RefusePlanner$Bin" "overflows" "I", Cond.fieldLink RX0 34 "RefusePlanner$Bin" "warnings" "I", Cond.fieldLink RX0 37 "RefusePlanner$Bin" "dirty" "Z", Cond.methodLink RX3 118 yJx4a65c_add_9ea2d, Cond.instanceMethod yJx4a65c_add_9ea2d, Cond.selects RJx4a65c yJx4a65c_add_9ea2d yJx4a65c_add_9ea2d, Cond.code yJx4a65c_add_9ea2d cJx4a65c_add_9ea2d 2 (some .boolean), Cond.fieldLink RJx4a65c 63 "java/util/ArrayList" "modCount" "I", Cond.sameField "java/util/ArrayList" "java/util/AbstractList" "modCount" "I", Cond.fieldLink RJx4a65c 9 "java/util/ArrayList" "elementData" "[Ljava/lang/Object;", Cond.methodLink RJx4a65c 131 yJx4a65c_add_72be8, Cond.instanceMethod yJx4a65c_add_72be8, Cond.selects RJx4a65c yJx4a65c_add_72be8 yJx4a65c_add_72be8, Cond.code yJx4a65c_add_72be8 cJx4a65c_add_72be8 4 none, Cond.methodLink RJx4a65c 129 yJx4a65c_grow_d5877, Cond.instanceMethod yJx4a65c_grow_d5877, Cond.selects RJx4a65c yJx4a65c_grow_d5877 yJx4a65c_grow_d5877, Cond.code yJx4a65c_grow_d5877 cJx4a65c_grow_d5877 1 (some (.array (.object "java/lang/Object"))), Cond.methodLink RJx4a65c 69 yJx4a65c_grow_92f84, Cond.instanceMethod yJx4a65c_grow_92f84, Cond.selects RJx4a65c yJx4a65c_grow_92f84 yJx4a65c_grow_92f84]
def wsL_addBin_r4 : List Cond := [Cond.code yJx4a65c_grow_92f84 cJx4a65c_grow_92f84 4 (some (.array (.object "java/lang/Object"))), Cond.fieldLink RJx4a65c 39 "java/util/ArrayList" "DEFAULTCAPACITY_EMPTY_ELEMENTDATA" "[Ljava/lang/Object;", Cond.methodLink RJx4a65c 79 Lib.Math.max.name, Cond.static Lib.Math.max.name, Cond.initialized "java/lang/Math", Cond.code Lib.Math.max.name Lib.Math.max.code 2 (some .int), Cond.classLink RJx4a65c 7 "java/lang/Object", Cond.methodLink RJx4a65c 73 yJ8_newLength_cabcc, Cond.static yJ8_newLength_cabcc, Cond.initialized RJ8, Cond.code yJ8_newLength_cabcc cJ8_newLength_cabcc 4 (some .int), Cond.methodLink RJ8 194 Lib.Math.max.name, Cond.constant RJ8 200 (2147483639), Cond.methodLink RJ8 201 yJ8_hugeLength_7cf53, Cond.static yJ8_hugeLength_7cf53, Cond.code yJ8_hugeLength_7cf53 cJ8_hugeLength_7cf53 3 (some .int), Cond.methodLink RJx4a65c 66 yJ7_copyOf_1904c, Cond.static yJ7_copyOf_1904c, Cond.initialized RJ7, Cond.code yJ7_copyOf_1904c cJ7_copyOf_1904c 2 (some (.array (.object "java/lang/Object"))), Cond.methodLink RJ7 86 ⟨"java/lang/Object", "getClass", "()Ljava/lang/Class;"⟩, Cond.selects "[Ljava/lang/Object;" ⟨"java/lang/Object", "getClass", "()Ljava/lang/Class;"⟩ ⟨"java/lang/Object", "getClass", "()Ljava/lang/Class;"⟩, Cond.instanceMethod ⟨"java/lang/Object", "getClass", "()Ljava/lang/Class;"⟩, Cond.native ⟨"java/lang/Object", "getClass", "()Ljava/lang/Class;"⟩]
def wsL_addBin_r5 : List Cond := [Cond.methodLink RJ7 300 yJ7_copyOf_6403c, Cond.static yJ7_copyOf_6403c, Cond.code yJ7_copyOf_6403c cJ7_copyOf_6403c 4 (some (.array (.object "java/lang/Object"))), Cond.classLink RJ7 110 "[Ljava/lang/Object;", Cond.classLink RJ7 2 "java/lang/Object", Cond.methodLink RJ7 304 Lib.Math.min.name, Cond.static Lib.Math.min.name, Cond.code Lib.Math.min.name Lib.Math.min.code 2 (some .int), Cond.methodLink RJ7 150 arraycopyName, Cond.native arraycopyName, Cond.static arraycopyName, Cond.initialized "java/lang/System"]
def wsL_addBin : List Cond := .codeWith yL_addBin cL_addBin 7 (some .int) [(0, 14, 17, 19), (0, 14, 21, 21), (0, 14, 25, 13)] :: ((wsL_addBin_r1 ++ (wsL_addBin_r2 ++ (wsL_addBin_r3 ++ (wsL_addBin_r4 ++ wsL_addBin_r5)))) ++ wsX30 ++ wsX00 ++ wsX10 ++ wsJx4a65c0 ++ (vx_atS RX3 100 "java/lang/IndexOutOfBoundsException" ["java/lang/RuntimeException", "java/lang/Exception"]).filter goodWord ++ (vx_atS RX3 52 "java/lang/IllegalStateException" ["java/lang/RuntimeException", "java/lang/Exception"]).filter goodWord ++ (vx_atS RX3 67 "java/lang/IllegalArgumentException" ["java/lang/RuntimeException", "java/lang/Exception"]).filter goodWord)
def wsL_setGrowth_r1 : List Cond := [Cond.classLink RL 19 "java/lang/IndexOutOfBoundsException", Cond.classLink RL 21 "java/lang/IllegalArgumentException", Cond.methodLink RL 39 yX3_setGrowth, Cond.instanceMethod yX3_setGrowth, Cond.selects RX3 yX3_setGrowth yX3_setGrowth, Cond.initialized RX3, Cond.code yX3_setGrowth cX3_setGrowth 5 (some .int), Cond.fieldLink RX3 19 "RefusePlanner" "bins" "Ljava/util/ArrayList;", Cond.classLink RX3 113 "RefusePlanner$Bin", Cond.methodLink RX3 121 yX3_checkBin, Cond.instanceMethod yX3_checkBin, Cond.selects RX3 yX3_checkBin yX3_checkBin, Cond.code yX3_checkBin cX3_checkBin 2 none, Cond.classLink RX3 96 "java/lang/IndexOutOfBoundsException", Cond.initialized "java/lang/IndexOutOfBoundsException", Cond.methodLink RX3 108 yJx4a65c_size_8abf5, Cond.instanceMethod yJx4a65c_size_8abf5, Cond.selects RJx4a65c yJx4a65c_size_8abf5 yJx4a65c_size_8abf5, Cond.initialized RJx4a65c, Cond.code yJx4a65c_size_8abf5 cJx4a65c_size_8abf5 1 (some .int), Cond.fieldLink RJx4a65c 48 "java/util/ArrayList" "size" "I", Cond.methodLink RX3 68 yX3_checkRange, Cond.instanceMethod yX3_checkRange, Cond.selects RX3 yX3_checkRange yX3_checkRange]
def wsL_setGrowth_r2 : List Cond := [Cond.code yX3_checkRange cX3_checkRange 4 none, Cond.classLink RX3 63 "java/lang/IllegalArgumentException", Cond.initialized "java/lang/IllegalArgumentException", Cond.methodLink RX3 124 yJx4a65c_get_915e3, Cond.instanceMethod yJx4a65c_get_915e3, Cond.selects RJx4a65c yJx4a65c_get_915e3 yJx4a65c_get_915e3, Cond.code yJx4a65c_get_915e3 cJx4a65c_get_915e3 2 (some (.object "java/lang/Object")), Cond.methodLink RJx4a65c 118 yJ15_checkIndex_7cf53, Cond.static yJ15_checkIndex_7cf53, Cond.initialized RJ15, Cond.code yJ15_checkIndex_7cf53 cJ15_checkIndex_7cf53 2 (some .int), Cond.methodLink RJ15 105 yJ3_checkIndex_8e157, Cond.static yJ3_checkIndex_8e157, Cond.initialized RJ3, Cond.code yJ3_checkIndex_8e157 cJ3_checkIndex_8e157 3 (some .int), Cond.methodLink RJx4a65c 123 yJx4a65c_elementData_915e3, Cond.instanceMethod yJx4a65c_elementData_915e3, Cond.selects RJx4a65c yJx4a65c_elementData_915e3 yJx4a65c_elementData_915e3, Cond.code yJx4a65c_elementData_915e3 cJx4a65c_elementData_915e3 2 (some (.object "java/lang/Object")), Cond.fieldLink RJx4a65c 9 "java/util/ArrayList" "elementData" "[Ljava/lang/Object;"]
def wsL_setGrowth : List Cond := .codeWith yL_setGrowth cL_setGrowth 5 (some .int) [(0, 10, 13, 19), (0, 10, 17, 21)] :: ((wsL_setGrowth_r1 ++ wsL_setGrowth_r2) ++ wsX30 ++ wsX00 ++ wsJx4a65c0 ++ (vx_atS RX3 100 "java/lang/IndexOutOfBoundsException" ["java/lang/RuntimeException", "java/lang/Exception"]).filter goodWord ++ (vx_atS RX3 67 "java/lang/IllegalArgumentException" ["java/lang/RuntimeException", "java/lang/Exception"]).filter goodWord)
def wsL_soil_r1 : List Cond := [Cond.classLink RL 19 "java/lang/IndexOutOfBoundsException", Cond.methodLink RL 43 yX3_soil, Cond.instanceMethod yX3_soil, Cond.selects RX3 yX3_soil yX3_soil, Cond.initialized RX3, Cond.code yX3_soil cX3_soil 4 (some .boolean), Cond.fieldLink RX3 19 "RefusePlanner" "bins" "Ljava/util/ArrayList;", Cond.classLink RX3 113 "RefusePlanner$Bin", Cond.methodLink RX3 121 yX3_checkBin, Cond.instanceMethod yX3_checkBin, Cond.selects RX3 yX3_checkBin yX3_checkBin, Cond.code yX3_checkBin cX3_checkBin 2 none, Cond.classLink RX3 96 "java/lang/IndexOutOfBoundsException", Cond.initialized "java/lang/IndexOutOfBoundsException", Cond.methodLink RX3 108 yJx4a65c_size_8abf5, Cond.instanceMethod yJx4a65c_size_8abf5, Cond.selects RJx4a65c yJx4a65c_size_8abf5 yJx4a65c_size_8abf5, Cond.initialized RJx4a65c, Cond.code yJx4a65c_size_8abf5 cJx4a65c_size_8abf5 1 (some .int), Cond.fieldLink RJx4a65c 48 "java/util/ArrayList" "size" "I", Cond.methodLink RX3 124 yJx4a65c_get_915e3, Cond.instanceMethod yJx4a65c_get_915e3, Cond.selects RJx4a65c yJx4a65c_get_915e3 yJx4a65c_get_915e3, Cond.code yJx4a65c_get_915e3 cJx4a65c_get_915e3 2 (some (.object "java/lang/Object"))]
def wsL_soil_r2 : List Cond := [Cond.methodLink RJx4a65c 118 yJ15_checkIndex_7cf53, Cond.static yJ15_checkIndex_7cf53, Cond.initialized RJ15, Cond.code yJ15_checkIndex_7cf53 cJ15_checkIndex_7cf53 2 (some .int), Cond.methodLink RJ15 105 yJ3_checkIndex_8e157, Cond.static yJ3_checkIndex_8e157, Cond.initialized RJ3, Cond.code yJ3_checkIndex_8e157 cJ3_checkIndex_8e157 3 (some .int), Cond.methodLink RJx4a65c 123 yJx4a65c_elementData_915e3, Cond.instanceMethod yJx4a65c_elementData_915e3, Cond.selects RJx4a65c yJx4a65c_elementData_915e3 yJx4a65c_elementData_915e3, Cond.code yJx4a65c_elementData_915e3 cJx4a65c_elementData_915e3 2 (some (.object "java/lang/Object")), Cond.fieldLink RJx4a65c 9 "java/util/ArrayList" "elementData" "[Ljava/lang/Object;"]
def wsL_soil : List Cond := .codeWith yL_soil cL_soil 4 (some .int) [(0, 16, 19, 19)] :: ((wsL_soil_r1 ++ wsL_soil_r2) ++ wsX30 ++ wsX00 ++ wsJx4a65c0 ++ (vx_atS RX3 100 "java/lang/IndexOutOfBoundsException" ["java/lang/RuntimeException", "java/lang/Exception"]).filter goodWord)
def wsL_bin_r1 : List Cond := [Cond.classLink RL 19 "java/lang/IndexOutOfBoundsException", Cond.methodLink RL 47 yX3_bin, Cond.instanceMethod yX3_bin, Cond.selects RX3 yX3_bin yX3_bin, Cond.initialized RX3, Cond.code yX3_bin cX3_bin 3 (some .int), Cond.classLink RX3 96 "java/lang/IndexOutOfBoundsException", Cond.initialized "java/lang/IndexOutOfBoundsException", Cond.fieldLink RX3 19 "RefusePlanner" "bins" "Ljava/util/ArrayList;", Cond.classLink RX3 113 "RefusePlanner$Bin", Cond.methodLink RX3 121 yX3_checkBin, Cond.instanceMethod yX3_checkBin, Cond.selects RX3 yX3_checkBin yX3_checkBin, Cond.code yX3_checkBin cX3_checkBin 2 none, Cond.methodLink RX3 108 yJx4a65c_size_8abf5, Cond.instanceMethod yJx4a65c_size_8abf5, Cond.selects RJx4a65c yJx4a65c_size_8abf5 yJx4a65c_size_8abf5, Cond.initialized RJx4a65c, Cond.code yJx4a65c_size_8abf5 cJx4a65c_size_8abf5 1 (some .int), Cond.fieldLink RJx4a65c 48 "java/util/ArrayList" "size" "I", Cond.methodLink RX3 124 yJx4a65c_get_915e3, Cond.instanceMethod yJx4a65c_get_915e3, Cond.selects RJx4a65c yJx4a65c_get_915e3 yJx4a65c_get_915e3, Cond.code yJx4a65c_get_915e3 cJx4a65c_get_915e3 2 (some (.object "java/lang/Object"))]
def wsL_bin_r2 : List Cond := [Cond.methodLink RJx4a65c 118 yJ15_checkIndex_7cf53, Cond.static yJ15_checkIndex_7cf53, Cond.initialized RJ15, Cond.code yJ15_checkIndex_7cf53 cJ15_checkIndex_7cf53 2 (some .int), Cond.methodLink RJ15 105 yJ3_checkIndex_8e157, Cond.static yJ3_checkIndex_8e157, Cond.initialized RJ3, Cond.code yJ3_checkIndex_8e157 cJ3_checkIndex_8e157 3 (some .int), Cond.methodLink RJx4a65c 123 yJx4a65c_elementData_915e3, Cond.instanceMethod yJx4a65c_elementData_915e3, Cond.selects RJx4a65c yJx4a65c_elementData_915e3 yJx4a65c_elementData_915e3, Cond.code yJx4a65c_elementData_915e3 cJx4a65c_elementData_915e3 2 (some (.object "java/lang/Object")), Cond.fieldLink RJx4a65c 9 "java/util/ArrayList" "elementData" "[Ljava/lang/Object;", Cond.methodLink RX3 137 yX0_fact, Cond.instanceMethod yX0_fact, Cond.selects RX0 yX0_fact yX0_fact, Cond.initialized RX0, Cond.code yX0_fact cX0_fact 2 (some .int), Cond.fieldLink RX0 7 "RefusePlanner$Bin" "place" "I", Cond.fieldLink RX0 13 "RefusePlanner$Bin" "kind" "I", Cond.fieldLink RX0 22 "RefusePlanner$Bin" "content" "I", Cond.fieldLink RX0 25 "RefusePlanner$Bin" "rate" "I", Cond.fieldLink RX0 28 "RefusePlanner$Bin" "emptiedOn" "I", Cond.fieldLink RX0 31 "RefusePlanner$Bin" "overflows" "I"]
def wsL_bin_r3 : List Cond := [Cond.fieldLink RX0 34 "RefusePlanner$Bin" "warnings" "I", Cond.fieldLink RX0 37 "RefusePlanner$Bin" "dirty" "Z"]
def wsL_bin : List Cond := .codeWith yL_bin cL_bin 5 (some .int) [(0, 10, 13, 19)] :: ((wsL_bin_r1 ++ (wsL_bin_r2 ++ wsL_bin_r3)) ++ wsX30 ++ wsJx4a65c0 ++ wsX00 ++ (vx_atS RX3 100 "java/lang/IndexOutOfBoundsException" ["java/lang/RuntimeException", "java/lang/Exception"]).filter goodWord)
def wsL_expected_r1 : List Cond := [Cond.classLink RL 19 "java/lang/IndexOutOfBoundsException", Cond.classLink RL 21 "java/lang/IllegalArgumentException", Cond.methodLink RL 50 yX3_expected, Cond.instanceMethod yX3_expected, Cond.selects RX3 yX3_expected yX3_expected, Cond.initialized RX3, Cond.code yX3_expected cX3_expected 3 (some .int), Cond.fieldLink RX3 42 "RefusePlanner" "day" "I", Cond.fieldLink RX3 19 "RefusePlanner" "bins" "Ljava/util/ArrayList;", Cond.classLink RX3 113 "RefusePlanner$Bin", Cond.methodLink RX3 121 yX3_checkBin, Cond.instanceMethod yX3_checkBin, Cond.selects RX3 yX3_checkBin yX3_checkBin, Cond.code yX3_checkBin cX3_checkBin 2 none, Cond.classLink RX3 96 "java/lang/IndexOutOfBoundsException", Cond.initialized "java/lang/IndexOutOfBoundsException", Cond.methodLink RX3 108 yJx4a65c_size_8abf5, Cond.instanceMethod yJx4a65c_size_8abf5, Cond.selects RJx4a65c yJx4a65c_size_8abf5 yJx4a65c_size_8abf5, Cond.initialized RJx4a65c, Cond.code yJx4a65c_size_8abf5 cJx4a65c_size_8abf5 1 (some .int), Cond.fieldLink RJx4a65c 48 "java/util/ArrayList" "size" "I", Cond.methodLink RX3 68 yX3_checkRange, Cond.instanceMethod yX3_checkRange]
def wsL_expected_r2 : List Cond := [Cond.selects RX3 yX3_checkRange yX3_checkRange, Cond.code yX3_checkRange cX3_checkRange 4 none, Cond.classLink RX3 63 "java/lang/IllegalArgumentException", Cond.initialized "java/lang/IllegalArgumentException", Cond.methodLink RX3 124 yJx4a65c_get_915e3, Cond.instanceMethod yJx4a65c_get_915e3, Cond.selects RJx4a65c yJx4a65c_get_915e3 yJx4a65c_get_915e3, Cond.code yJx4a65c_get_915e3 cJx4a65c_get_915e3 2 (some (.object "java/lang/Object")), Cond.methodLink RJx4a65c 118 yJ15_checkIndex_7cf53, Cond.static yJ15_checkIndex_7cf53, Cond.initialized RJ15, Cond.code yJ15_checkIndex_7cf53 cJ15_checkIndex_7cf53 2 (some .int), Cond.methodLink RJ15 105 yJ3_checkIndex_8e157, Cond.static yJ3_checkIndex_8e157, Cond.initialized RJ3, Cond.code yJ3_checkIndex_8e157 cJ3_checkIndex_8e157 3 (some .int), Cond.methodLink RJx4a65c 123 yJx4a65c_elementData_915e3, Cond.instanceMethod yJx4a65c_elementData_915e3, Cond.selects RJx4a65c yJx4a65c_elementData_915e3 yJx4a65c_elementData_915e3, Cond.code yJx4a65c_elementData_915e3 cJx4a65c_elementData_915e3 2 (some (.object "java/lang/Object")), Cond.fieldLink RJx4a65c 9 "java/util/ArrayList" "elementData" "[Ljava/lang/Object;", Cond.methodLink RX3 140 yX0_forecast, Cond.instanceMethod yX0_forecast, Cond.selects RX0 yX0_forecast yX0_forecast]
def wsL_expected_r3 : List Cond := [Cond.initialized RX0, Cond.code yX0_forecast cX0_forecast 2 (some .int), Cond.fieldLink RX0 16 "RefusePlanner$Bin" "size" "I", Cond.fieldLink RX0 25 "RefusePlanner$Bin" "rate" "I", Cond.fieldLink RX0 28 "RefusePlanner$Bin" "emptiedOn" "I", Cond.methodLink RX0 41 Lib.Math.min.name, Cond.static Lib.Math.min.name, Cond.initialized "java/lang/Math", Cond.code Lib.Math.min.name Lib.Math.min.code 2 (some .int)]
def wsL_expected : List Cond := .codeWith yL_expected cL_expected 5 (some .int) [(0, 10, 13, 19), (0, 10, 17, 21)] :: ((wsL_expected_r1 ++ (wsL_expected_r2 ++ wsL_expected_r3)) ++ wsX30 ++ wsJx4a65c0 ++ wsX00 ++ (vx_atS RX3 100 "java/lang/IndexOutOfBoundsException" ["java/lang/RuntimeException", "java/lang/Exception"]).filter goodWord ++ (vx_atS RX3 67 "java/lang/IllegalArgumentException" ["java/lang/RuntimeException", "java/lang/Exception"]).filter goodWord)
def wsL_fullOn_r1 : List Cond := [Cond.classLink RL 19 "java/lang/IndexOutOfBoundsException", Cond.methodLink RL 53 yX3_fullOn, Cond.instanceMethod yX3_fullOn, Cond.selects RX3 yX3_fullOn yX3_fullOn, Cond.initialized RX3, Cond.code yX3_fullOn cX3_fullOn 4 (some .int), Cond.fieldLink RX3 19 "RefusePlanner" "bins" "Ljava/util/ArrayList;", Cond.classLink RX3 113 "RefusePlanner$Bin", Cond.fieldLink RX3 42 "RefusePlanner" "day" "I", Cond.methodLink RX3 121 yX3_checkBin, Cond.instanceMethod yX3_checkBin, Cond.selects RX3 yX3_checkBin yX3_checkBin, Cond.code yX3_checkBin cX3_checkBin 2 none, Cond.classLink RX3 96 "java/lang/IndexOutOfBoundsException", Cond.initialized "java/lang/IndexOutOfBoundsException", Cond.methodLink RX3 108 yJx4a65c_size_8abf5, Cond.instanceMethod yJx4a65c_size_8abf5, Cond.selects RJx4a65c yJx4a65c_size_8abf5 yJx4a65c_size_8abf5, Cond.initialized RJx4a65c, Cond.code yJx4a65c_size_8abf5 cJx4a65c_size_8abf5 1 (some .int), Cond.fieldLink RJx4a65c 48 "java/util/ArrayList" "size" "I", Cond.methodLink RX3 124 yJx4a65c_get_915e3, Cond.instanceMethod yJx4a65c_get_915e3, Cond.selects RJx4a65c yJx4a65c_get_915e3 yJx4a65c_get_915e3]
def wsL_fullOn_r2 : List Cond := [Cond.code yJx4a65c_get_915e3 cJx4a65c_get_915e3 2 (some (.object "java/lang/Object")), Cond.methodLink RJx4a65c 118 yJ15_checkIndex_7cf53, Cond.static yJ15_checkIndex_7cf53, Cond.initialized RJ15, Cond.code yJ15_checkIndex_7cf53 cJ15_checkIndex_7cf53 2 (some .int), Cond.methodLink RJ15 105 yJ3_checkIndex_8e157, Cond.static yJ3_checkIndex_8e157, Cond.initialized RJ3, Cond.code yJ3_checkIndex_8e157 cJ3_checkIndex_8e157 3 (some .int), Cond.methodLink RJx4a65c 123 yJx4a65c_elementData_915e3, Cond.instanceMethod yJx4a65c_elementData_915e3, Cond.selects RJx4a65c yJx4a65c_elementData_915e3 yJx4a65c_elementData_915e3, Cond.code yJx4a65c_elementData_915e3 cJx4a65c_elementData_915e3 2 (some (.object "java/lang/Object")), Cond.fieldLink RJx4a65c 9 "java/util/ArrayList" "elementData" "[Ljava/lang/Object;", Cond.methodLink RX3 143 yX0_isFullOn, Cond.instanceMethod yX0_isFullOn, Cond.selects RX0 yX0_isFullOn yX0_isFullOn, Cond.initialized RX0, Cond.code yX0_isFullOn cX0_isFullOn 2 (some .boolean), Cond.fieldLink RX0 16 "RefusePlanner$Bin" "size" "I", Cond.methodLink RX0 47 yX0_forecast, Cond.instanceMethod yX0_forecast, Cond.selects RX0 yX0_forecast yX0_forecast, Cond.code yX0_forecast cX0_forecast 2 (some .int)]
def wsL_fullOn_r3 : List Cond := [Cond.fieldLink RX0 25 "RefusePlanner$Bin" "rate" "I", Cond.fieldLink RX0 28 "RefusePlanner$Bin" "emptiedOn" "I", Cond.methodLink RX0 41 Lib.Math.min.name, Cond.static Lib.Math.min.name, Cond.initialized "java/lang/Math", Cond.code Lib.Math.min.name Lib.Math.min.code 2 (some .int)]
def wsL_fullOn : List Cond := .codeWith yL_fullOn cL_fullOn 4 (some .int) [(0, 9, 12, 19)] :: ((wsL_fullOn_r1 ++ (wsL_fullOn_r2 ++ wsL_fullOn_r3)) ++ wsX30 ++ wsJx4a65c0 ++ wsX00 ++ (vx_atS RX3 100 "java/lang/IndexOutOfBoundsException" ["java/lang/RuntimeException", "java/lang/Exception"]).filter goodWord)
def wsL_planSize_r1 : List Cond := [Cond.classLink RL 19 "java/lang/IndexOutOfBoundsException", Cond.methodLink RL 56 yX3_planSize, Cond.instanceMethod yX3_planSize, Cond.selects RX3 yX3_planSize yX3_planSize, Cond.initialized RX3, Cond.code yX3_planSize cX3_planSize 2 (some .int), Cond.fieldLink RX3 38 "RefusePlanner" "stops" "I", Cond.methodLink RX3 79 yX3_checkKind, Cond.instanceMethod yX3_checkKind, Cond.selects RX3 yX3_checkKind yX3_checkKind, Cond.code yX3_checkKind cX3_checkKind 2 none, Cond.classLink RX3 96 "java/lang/IndexOutOfBoundsException", Cond.initialized "java/lang/IndexOutOfBoundsException", Cond.methodLink RX3 147 yX3_planRoute, Cond.instanceMethod yX3_planRoute, Cond.selects RX3 yX3_planRoute yX3_planRoute, Cond.code yX3_planRoute cX3_planRoute 7 none, Cond.fieldLink RX3 19 "RefusePlanner" "bins" "Ljava/util/ArrayList;", Cond.classLink RX3 113 "RefusePlanner$Bin", Cond.fieldLink RX3 42 "RefusePlanner" "day" "I", Cond.fieldLink RX3 34 "RefusePlanner" "route" "[I", Cond.methodLink RX3 217 yX3_nextWorkday, Cond.instanceMethod yX3_nextWorkday, Cond.selects RX3 yX3_nextWorkday yX3_nextWorkday]
def wsL_planSize_r2 : List Cond := [Cond.code yX3_nextWorkday cX3_nextWorkday 2 (some .int), Cond.fieldLink RX3 23 "RefusePlanner" "holidays" "[Z", Cond.methodLink RX3 108 yJx4a65c_size_8abf5, Cond.instanceMethod yJx4a65c_size_8abf5, Cond.selects RJx4a65c yJx4a65c_size_8abf5 yJx4a65c_size_8abf5, Cond.initialized RJx4a65c, Cond.code yJx4a65c_size_8abf5 cJx4a65c_size_8abf5 1 (some .int), Cond.fieldLink RJx4a65c 48 "java/util/ArrayList" "size" "I", Cond.methodLink RX3 124 yJx4a65c_get_915e3, Cond.instanceMethod yJx4a65c_get_915e3, Cond.selects RJx4a65c yJx4a65c_get_915e3 yJx4a65c_get_915e3, Cond.code yJx4a65c_get_915e3 cJx4a65c_get_915e3 2 (some (.object "java/lang/Object")), Cond.methodLink RJx4a65c 118 yJ15_checkIndex_7cf53, Cond.static yJ15_checkIndex_7cf53, Cond.initialized RJ15, Cond.code yJ15_checkIndex_7cf53 cJ15_checkIndex_7cf53 2 (some .int), Cond.methodLink RJ15 105 yJ3_checkIndex_8e157, Cond.static yJ3_checkIndex_8e157, Cond.initialized RJ3, Cond.code yJ3_checkIndex_8e157 cJ3_checkIndex_8e157 3 (some .int), Cond.methodLink RJx4a65c 123 yJx4a65c_elementData_915e3, Cond.instanceMethod yJx4a65c_elementData_915e3, Cond.selects RJx4a65c yJx4a65c_elementData_915e3 yJx4a65c_elementData_915e3, Cond.code yJx4a65c_elementData_915e3 cJx4a65c_elementData_915e3 2 (some (.object "java/lang/Object"))]
def wsL_planSize_r3 : List Cond := [Cond.fieldLink RJx4a65c 9 "java/util/ArrayList" "elementData" "[Ljava/lang/Object;", Cond.methodLink RX3 220 yX0_isDue, Cond.instanceMethod yX0_isDue, Cond.selects RX0 yX0_isDue yX0_isDue, Cond.initialized RX0, Cond.code yX0_isDue cX0_isDue 3 (some .boolean), Cond.fieldLink RX0 16 "RefusePlanner$Bin" "size" "I", Cond.methodLink RX0 47 yX0_forecast, Cond.instanceMethod yX0_forecast, Cond.selects RX0 yX0_forecast yX0_forecast, Cond.code yX0_forecast cX0_forecast 2 (some .int), Cond.fieldLink RX0 25 "RefusePlanner$Bin" "rate" "I", Cond.fieldLink RX0 28 "RefusePlanner$Bin" "emptiedOn" "I", Cond.methodLink RX0 41 Lib.Math.min.name, Cond.static Lib.Math.min.name, Cond.initialized "java/lang/Math", Cond.code Lib.Math.min.name Lib.Math.min.code 2 (some .int), Cond.methodLink RX0 51 yX0_isFullOn, Cond.instanceMethod yX0_isFullOn, Cond.selects RX0 yX0_isFullOn yX0_isFullOn, Cond.code yX0_isFullOn cX0_isFullOn 2 (some .boolean), Cond.methodLink RX3 223 yX3_nearestStop, Cond.instanceMethod yX3_nearestStop, Cond.selects RX3 yX3_nearestStop yX3_nearestStop]
def wsL_planSize_r4 : List Cond := [Cond.code yX3_nearestStop cX3_nearestStop 7 (some .int), Cond.fieldLink RX3 12 "RefusePlanner" "region" "LRefusePlanner$Region;", Cond.methodLink RX3 72 yX1_between, Cond.instanceMethod yX1_between, Cond.selects RX1 yX1_between yX1_between, Cond.initialized RX1, Cond.code yX1_between cX1_between 3 (some .int), Cond.fieldLink RX1 9 "RefusePlanner$Region" "minutes" "[I"]
def wsL_planSize : List Cond := .codeWith yL_planSize cL_planSize 4 (some .int) [(0, 9, 12, 19)] :: ((wsL_planSize_r1 ++ (wsL_planSize_r2 ++ (wsL_planSize_r3 ++ wsL_planSize_r4))) ++ wsX30 ++ wsX00 ++ wsJx4a65c0 ++ wsX10 ++ (vx_atS RX3 100 "java/lang/IndexOutOfBoundsException" ["java/lang/RuntimeException", "java/lang/Exception"]).filter goodWord)
def wsL_planned_r1 : List Cond := [Cond.classLink RL 19 "java/lang/IndexOutOfBoundsException", Cond.methodLink RL 59 yX3_planned, Cond.instanceMethod yX3_planned, Cond.selects RX3 yX3_planned yX3_planned, Cond.initialized RX3, Cond.code yX3_planned cX3_planned 3 (some .int), Cond.classLink RX3 96 "java/lang/IndexOutOfBoundsException", Cond.initialized "java/lang/IndexOutOfBoundsException", Cond.fieldLink RX3 38 "RefusePlanner" "stops" "I", Cond.fieldLink RX3 34 "RefusePlanner" "route" "[I", Cond.methodLink RX3 79 yX3_checkKind, Cond.instanceMethod yX3_checkKind, Cond.selects RX3 yX3_checkKind yX3_checkKind, Cond.code yX3_checkKind cX3_checkKind 2 none, Cond.methodLink RX3 147 yX3_planRoute, Cond.instanceMethod yX3_planRoute, Cond.selects RX3 yX3_planRoute yX3_planRoute, Cond.code yX3_planRoute cX3_planRoute 7 none, Cond.fieldLink RX3 19 "RefusePlanner" "bins" "Ljava/util/ArrayList;", Cond.classLink RX3 113 "RefusePlanner$Bin", Cond.fieldLink RX3 42 "RefusePlanner" "day" "I", Cond.methodLink RX3 217 yX3_nextWorkday, Cond.instanceMethod yX3_nextWorkday, Cond.selects RX3 yX3_nextWorkday yX3_nextWorkday]
def wsL_planned_r2 : List Cond := [Cond.code yX3_nextWorkday cX3_nextWorkday 2 (some .int), Cond.fieldLink RX3 23 "RefusePlanner" "holidays" "[Z", Cond.methodLink RX3 108 yJx4a65c_size_8abf5, Cond.instanceMethod yJx4a65c_size_8abf5, Cond.selects RJx4a65c yJx4a65c_size_8abf5 yJx4a65c_size_8abf5, Cond.initialized RJx4a65c, Cond.code yJx4a65c_size_8abf5 cJx4a65c_size_8abf5 1 (some .int), Cond.fieldLink RJx4a65c 48 "java/util/ArrayList" "size" "I", Cond.methodLink RX3 124 yJx4a65c_get_915e3, Cond.instanceMethod yJx4a65c_get_915e3, Cond.selects RJx4a65c yJx4a65c_get_915e3 yJx4a65c_get_915e3, Cond.code yJx4a65c_get_915e3 cJx4a65c_get_915e3 2 (some (.object "java/lang/Object")), Cond.methodLink RJx4a65c 118 yJ15_checkIndex_7cf53, Cond.static yJ15_checkIndex_7cf53, Cond.initialized RJ15, Cond.code yJ15_checkIndex_7cf53 cJ15_checkIndex_7cf53 2 (some .int), Cond.methodLink RJ15 105 yJ3_checkIndex_8e157, Cond.static yJ3_checkIndex_8e157, Cond.initialized RJ3, Cond.code yJ3_checkIndex_8e157 cJ3_checkIndex_8e157 3 (some .int), Cond.methodLink RJx4a65c 123 yJx4a65c_elementData_915e3, Cond.instanceMethod yJx4a65c_elementData_915e3, Cond.selects RJx4a65c yJx4a65c_elementData_915e3 yJx4a65c_elementData_915e3, Cond.code yJx4a65c_elementData_915e3 cJx4a65c_elementData_915e3 2 (some (.object "java/lang/Object"))]
def wsL_planned_r3 : List Cond := [Cond.fieldLink RJx4a65c 9 "java/util/ArrayList" "elementData" "[Ljava/lang/Object;", Cond.methodLink RX3 220 yX0_isDue, Cond.instanceMethod yX0_isDue, Cond.selects RX0 yX0_isDue yX0_isDue, Cond.initialized RX0, Cond.code yX0_isDue cX0_isDue 3 (some .boolean), Cond.fieldLink RX0 16 "RefusePlanner$Bin" "size" "I", Cond.methodLink RX0 47 yX0_forecast, Cond.instanceMethod yX0_forecast, Cond.selects RX0 yX0_forecast yX0_forecast, Cond.code yX0_forecast cX0_forecast 2 (some .int), Cond.fieldLink RX0 25 "RefusePlanner$Bin" "rate" "I", Cond.fieldLink RX0 28 "RefusePlanner$Bin" "emptiedOn" "I", Cond.methodLink RX0 41 Lib.Math.min.name, Cond.static Lib.Math.min.name, Cond.initialized "java/lang/Math", Cond.code Lib.Math.min.name Lib.Math.min.code 2 (some .int), Cond.methodLink RX0 51 yX0_isFullOn, Cond.instanceMethod yX0_isFullOn, Cond.selects RX0 yX0_isFullOn yX0_isFullOn, Cond.code yX0_isFullOn cX0_isFullOn 2 (some .boolean), Cond.methodLink RX3 223 yX3_nearestStop, Cond.instanceMethod yX3_nearestStop, Cond.selects RX3 yX3_nearestStop yX3_nearestStop]
def wsL_planned_r4 : List Cond := [Cond.code yX3_nearestStop cX3_nearestStop 7 (some .int), Cond.fieldLink RX3 12 "RefusePlanner" "region" "LRefusePlanner$Region;", Cond.methodLink RX3 72 yX1_between, Cond.instanceMethod yX1_between, Cond.selects RX1 yX1_between yX1_between, Cond.initialized RX1, Cond.code yX1_between cX1_between 3 (some .int), Cond.fieldLink RX1 9 "RefusePlanner$Region" "minutes" "[I"]
def wsL_planned : List Cond := .codeWith yL_planned cL_planned 5 (some .int) [(0, 10, 13, 19)] :: ((wsL_planned_r1 ++ (wsL_planned_r2 ++ (wsL_planned_r3 ++ wsL_planned_r4))) ++ wsX30 ++ wsX00 ++ wsJx4a65c0 ++ wsX10 ++ (vx_atS RX3 100 "java/lang/IndexOutOfBoundsException" ["java/lang/RuntimeException", "java/lang/Exception"]).filter goodWord)
def wsL_collect_r1 : List Cond := [Cond.classLink RL 19 "java/lang/IndexOutOfBoundsException", Cond.classLink RL 21 "java/lang/IllegalArgumentException", Cond.classLink RL 13 "java/lang/IllegalStateException", Cond.methodLink RL 62 yX3_collect, Cond.instanceMethod yX3_collect, Cond.selects RX3 yX3_collect yX3_collect, Cond.initialized RX3, Cond.code yX3_collect cX3_collect 3 (some .int), Cond.fieldLink RX3 38 "RefusePlanner" "stops" "I", Cond.methodLink RX3 79 yX3_checkKind, Cond.instanceMethod yX3_checkKind, Cond.selects RX3 yX3_checkKind yX3_checkKind, Cond.code yX3_checkKind cX3_checkKind 2 none, Cond.classLink RX3 96 "java/lang/IndexOutOfBoundsException", Cond.initialized "java/lang/IndexOutOfBoundsException", Cond.methodLink RX3 68 yX3_checkRange, Cond.instanceMethod yX3_checkRange, Cond.selects RX3 yX3_checkRange yX3_checkRange, Cond.code yX3_checkRange cX3_checkRange 4 none, Cond.classLink RX3 63 "java/lang/IllegalArgumentException", Cond.initialized "java/lang/IllegalArgumentException", Cond.methodLink RX3 152 yX3_checkWorkday, Cond.instanceMethod yX3_checkWorkday, Cond.selects RX3 yX3_checkWorkday yX3_checkWorkday]
def wsL_collect_r2 : List Cond := [Cond.code yX3_checkWorkday cX3_checkWorkday 1 none, Cond.classLink RX3 48 "java/lang/IllegalStateException", Cond.initialized "java/lang/IllegalStateException", Cond.fieldLink RX3 23 "RefusePlanner" "holidays" "[Z", Cond.fieldLink RX3 42 "RefusePlanner" "day" "I", Cond.methodLink RX3 147 yX3_planRoute, Cond.instanceMethod yX3_planRoute, Cond.selects RX3 yX3_planRoute yX3_planRoute, Cond.code yX3_planRoute cX3_planRoute 7 none, Cond.fieldLink RX3 19 "RefusePlanner" "bins" "Ljava/util/ArrayList;", Cond.classLink RX3 113 "RefusePlanner$Bin", Cond.fieldLink RX3 34 "RefusePlanner" "route" "[I", Cond.methodLink RX3 217 yX3_nextWorkday, Cond.instanceMethod yX3_nextWorkday, Cond.selects RX3 yX3_nextWorkday yX3_nextWorkday, Cond.code yX3_nextWorkday cX3_nextWorkday 2 (some .int), Cond.methodLink RX3 108 yJx4a65c_size_8abf5, Cond.instanceMethod yJx4a65c_size_8abf5, Cond.selects RJx4a65c yJx4a65c_size_8abf5 yJx4a65c_size_8abf5, Cond.initialized RJx4a65c, Cond.code yJx4a65c_size_8abf5 cJx4a65c_size_8abf5 1 (some .int), Cond.fieldLink RJx4a65c 48 "java/util/ArrayList" "size" "I", Cond.methodLink RX3 124 yJx4a65c_get_915e3, Cond.instanceMethod yJx4a65c_get_915e3]
def wsL_collect_r3 : List Cond := [Cond.selects RJx4a65c yJx4a65c_get_915e3 yJx4a65c_get_915e3, Cond.code yJx4a65c_get_915e3 cJx4a65c_get_915e3 2 (some (.object "java/lang/Object")), Cond.methodLink RJx4a65c 118 yJ15_checkIndex_7cf53, Cond.static yJ15_checkIndex_7cf53, Cond.initialized RJ15, Cond.code yJ15_checkIndex_7cf53 cJ15_checkIndex_7cf53 2 (some .int), Cond.methodLink RJ15 105 yJ3_checkIndex_8e157, Cond.static yJ3_checkIndex_8e157, Cond.initialized RJ3, Cond.code yJ3_checkIndex_8e157 cJ3_checkIndex_8e157 3 (some .int), Cond.methodLink RJx4a65c 123 yJx4a65c_elementData_915e3, Cond.instanceMethod yJx4a65c_elementData_915e3, Cond.selects RJx4a65c yJx4a65c_elementData_915e3 yJx4a65c_elementData_915e3, Cond.code yJx4a65c_elementData_915e3 cJx4a65c_elementData_915e3 2 (some (.object "java/lang/Object")), Cond.fieldLink RJx4a65c 9 "java/util/ArrayList" "elementData" "[Ljava/lang/Object;", Cond.methodLink RX3 220 yX0_isDue, Cond.instanceMethod yX0_isDue, Cond.selects RX0 yX0_isDue yX0_isDue, Cond.initialized RX0, Cond.code yX0_isDue cX0_isDue 3 (some .boolean), Cond.fieldLink RX0 16 "RefusePlanner$Bin" "size" "I", Cond.methodLink RX0 47 yX0_forecast, Cond.instanceMethod yX0_forecast, Cond.selects RX0 yX0_forecast yX0_forecast]
def wsL_collect_r4 : List Cond := [Cond.code yX0_forecast cX0_forecast 2 (some .int), Cond.fieldLink RX0 25 "RefusePlanner$Bin" "rate" "I", Cond.fieldLink RX0 28 "RefusePlanner$Bin" "emptiedOn" "I", Cond.methodLink RX0 41 Lib.Math.min.name, Cond.static Lib.Math.min.name, Cond.initialized "java/lang/Math", Cond.code Lib.Math.min.name Lib.Math.min.code 2 (some .int), Cond.methodLink RX0 51 yX0_isFullOn, Cond.instanceMethod yX0_isFullOn, Cond.selects RX0 yX0_isFullOn yX0_isFullOn, Cond.code yX0_isFullOn cX0_isFullOn 2 (some .boolean), Cond.methodLink RX3 223 yX3_nearestStop, Cond.instanceMethod yX3_nearestStop, Cond.selects RX3 yX3_nearestStop yX3_nearestStop, Cond.code yX3_nearestStop cX3_nearestStop 7 (some .int), Cond.fieldLink RX3 12 "RefusePlanner" "region" "LRefusePlanner$Region;", Cond.methodLink RX3 72 yX1_between, Cond.instanceMethod yX1_between, Cond.selects RX1 yX1_between yX1_between, Cond.initialized RX1, Cond.code yX1_between cX1_between 3 (some .int), Cond.fieldLink RX1 9 "RefusePlanner$Region" "minutes" "[I", Cond.methodLink RX3 155 yX3_makeTour, Cond.instanceMethod yX3_makeTour]
def wsL_collect_r5 : List Cond := [Cond.selects RX3 yX3_makeTour yX3_makeTour, Cond.code yX3_makeTour cX3_makeTour 7 (some .int), Cond.classLink RX3 161 RX2, Cond.instantiable RX2 8, Cond.initialized RX2, Cond.fieldLink RX3 27 "RefusePlanner" "totals" "[J", Cond.methodLink RX3 163 yX2_init, Cond.instanceMethod yX2_init, Cond.code yX2_init cX2_init 4 none, Cond.methodLink RX2 3 objectInit, Cond.instanceMethod objectInit, Cond.code objectInit ⟨#[0xb1]⟩ 1 none, Cond.fieldLink RX2 9 "RefusePlanner$Tour" "region" "LRefusePlanner$Region;", Cond.fieldLink RX2 15 "RefusePlanner$Tour" "kind" "I", Cond.fieldLink RX2 19 "RefusePlanner$Tour" "capacity" "I", Cond.fieldLink RX2 22 "RefusePlanner$Tour" "at" "I", Cond.fieldLink RX2 25 "RefusePlanner$Tour" "load" "I", Cond.fieldLink RX2 28 "RefusePlanner$Tour" "minutes" "I", Cond.fieldLink RX2 31 "RefusePlanner$Tour" "tipVisits" "I", Cond.fieldLink RX2 34 "RefusePlanner$Tour" "litres" "I", Cond.methodLink RX3 166 yX2_visit, Cond.instanceMethod yX2_visit, Cond.selects RX2 yX2_visit yX2_visit, Cond.code yX2_visit cX2_visit 3 (some .int)]
def wsL_collect_r6 : List Cond := [Cond.methodLink RX2 56 Lib.Math.min.name, Cond.methodLink RX2 42 yX2_driveTo, Cond.instanceMethod yX2_driveTo, Cond.selects RX2 yX2_driveTo yX2_driveTo, Cond.code yX2_driveTo cX2_driveTo 2 none, Cond.methodLink RX2 62 yX1_between, Cond.methodLink RX2 53 yX2_unloadOnTheWayTo, Cond.instanceMethod yX2_unloadOnTheWayTo, Cond.selects RX2 yX2_unloadOnTheWayTo yX2_unloadOnTheWayTo, Cond.code yX2_unloadOnTheWayTo cX2_unloadOnTheWayTo 2 none, Cond.methodLink RX2 67 yX1_overTip, Cond.instanceMethod yX1_overTip, Cond.selects RX1 yX1_overTip yX1_overTip, Cond.code yX1_overTip cX1_overTip 6 (some .int), Cond.constant RX1 28 (2147483647), Cond.fieldLink RX1 18 "RefusePlanner$Region" "places" "I", Cond.methodLink RX1 33 Lib.Math.min.name, Cond.methodLink RX1 22 yX1_hasTip, Cond.instanceMethod yX1_hasTip, Cond.selects RX1 yX1_hasTip yX1_hasTip, Cond.code yX1_hasTip cX1_hasTip 3 (some .boolean), Cond.fieldLink RX1 15 "RefusePlanner$Region" "tips" "[I", Cond.methodLink RX1 29 yX1_between, Cond.methodLink RX3 229 yX0_endVisit]
def wsL_collect_r7 : List Cond := [Cond.instanceMethod yX0_endVisit, Cond.selects RX0 yX0_endVisit yX0_endVisit, Cond.code yX0_endVisit cX0_endVisit 5 none, Cond.fieldLink RX0 37 "RefusePlanner$Bin" "dirty" "Z", Cond.fieldLink RX0 34 "RefusePlanner$Bin" "warnings" "I", Cond.fieldLink RX0 22 "RefusePlanner$Bin" "content" "I", Cond.methodLink RX3 170 yX2_end, Cond.instanceMethod yX2_end, Cond.selects RX2 yX2_end yX2_end, Cond.code yX2_end cX2_end 1 none]
def wsL_collect : List Cond := .codeWith yL_collect cL_collect 5 (some .int) [(0, 10, 13, 19), (0, 10, 17, 21), (0, 10, 21, 13)] :: ((wsL_collect_r1 ++ (wsL_collect_r2 ++ (wsL_collect_r3 ++ (wsL_collect_r4 ++ (wsL_collect_r5 ++ (wsL_collect_r6 ++ wsL_collect_r7)))))) ++ wsX30 ++ wsX00 ++ wsJx4a65c0 ++ wsX10 ++ wsX20 ++ (vx_atS RX3 100 "java/lang/IndexOutOfBoundsException" ["java/lang/RuntimeException", "java/lang/Exception"]).filter goodWord ++ (vx_atS RX3 67 "java/lang/IllegalArgumentException" ["java/lang/RuntimeException", "java/lang/Exception"]).filter goodWord ++ (vx_atS RX3 52 "java/lang/IllegalStateException" ["java/lang/RuntimeException", "java/lang/Exception"]).filter goodWord)
def wsL_fetch_r1 : List Cond := [Cond.classLink RL 19 "java/lang/IndexOutOfBoundsException", Cond.classLink RL 21 "java/lang/IllegalArgumentException", Cond.classLink RL 13 "java/lang/IllegalStateException", Cond.methodLink RL 65 yX3_fetch, Cond.instanceMethod yX3_fetch, Cond.selects RX3 yX3_fetch yX3_fetch, Cond.initialized RX3, Cond.code yX3_fetch cX3_fetch 3 (some .int), Cond.fieldLink RX3 34 "RefusePlanner" "route" "[I", Cond.fieldLink RX3 38 "RefusePlanner" "stops" "I", Cond.fieldLink RX3 19 "RefusePlanner" "bins" "Ljava/util/ArrayList;", Cond.classLink RX3 113 "RefusePlanner$Bin", Cond.methodLink RX3 121 yX3_checkBin, Cond.instanceMethod yX3_checkBin, Cond.selects RX3 yX3_checkBin yX3_checkBin, Cond.code yX3_checkBin cX3_checkBin 2 none, Cond.classLink RX3 96 "java/lang/IndexOutOfBoundsException", Cond.initialized "java/lang/IndexOutOfBoundsException", Cond.methodLink RX3 108 yJx4a65c_size_8abf5, Cond.instanceMethod yJx4a65c_size_8abf5, Cond.selects RJx4a65c yJx4a65c_size_8abf5 yJx4a65c_size_8abf5, Cond.initialized RJx4a65c, Cond.code yJx4a65c_size_8abf5 cJx4a65c_size_8abf5 1 (some .int), Cond.fieldLink RJx4a65c 48 "java/util/ArrayList" "size" "I"]
def wsL_fetch_r2 : List Cond := [Cond.methodLink RX3 68 yX3_checkRange, Cond.instanceMethod yX3_checkRange, Cond.selects RX3 yX3_checkRange yX3_checkRange, Cond.code yX3_checkRange cX3_checkRange 4 none, Cond.classLink RX3 63 "java/lang/IllegalArgumentException", Cond.initialized "java/lang/IllegalArgumentException", Cond.methodLink RX3 152 yX3_checkWorkday, Cond.instanceMethod yX3_checkWorkday, Cond.selects RX3 yX3_checkWorkday yX3_checkWorkday, Cond.code yX3_checkWorkday cX3_checkWorkday 1 none, Cond.classLink RX3 48 "java/lang/IllegalStateException", Cond.initialized "java/lang/IllegalStateException", Cond.fieldLink RX3 23 "RefusePlanner" "holidays" "[Z", Cond.fieldLink RX3 42 "RefusePlanner" "day" "I", Cond.methodLink RX3 124 yJx4a65c_get_915e3, Cond.instanceMethod yJx4a65c_get_915e3, Cond.selects RJx4a65c yJx4a65c_get_915e3 yJx4a65c_get_915e3, Cond.code yJx4a65c_get_915e3 cJx4a65c_get_915e3 2 (some (.object "java/lang/Object")), Cond.methodLink RJx4a65c 118 yJ15_checkIndex_7cf53, Cond.static yJ15_checkIndex_7cf53, Cond.initialized RJ15, Cond.code yJ15_checkIndex_7cf53 cJ15_checkIndex_7cf53 2 (some .int), Cond.methodLink RJ15 105 yJ3_checkIndex_8e157, Cond.static yJ3_checkIndex_8e157]
def wsL_fetch_r3 : List Cond := [Cond.initialized RJ3, Cond.code yJ3_checkIndex_8e157 cJ3_checkIndex_8e157 3 (some .int), Cond.methodLink RJx4a65c 123 yJx4a65c_elementData_915e3, Cond.instanceMethod yJx4a65c_elementData_915e3, Cond.selects RJx4a65c yJx4a65c_elementData_915e3 yJx4a65c_elementData_915e3, Cond.code yJx4a65c_elementData_915e3 cJx4a65c_elementData_915e3 2 (some (.object "java/lang/Object")), Cond.fieldLink RJx4a65c 9 "java/util/ArrayList" "elementData" "[Ljava/lang/Object;", Cond.methodLink RX3 155 yX3_makeTour, Cond.instanceMethod yX3_makeTour, Cond.selects RX3 yX3_makeTour yX3_makeTour, Cond.code yX3_makeTour cX3_makeTour 7 (some .int), Cond.classLink RX3 161 RX2, Cond.instantiable RX2 8, Cond.initialized RX2, Cond.fieldLink RX3 12 "RefusePlanner" "region" "LRefusePlanner$Region;", Cond.fieldLink RX3 27 "RefusePlanner" "totals" "[J", Cond.methodLink RX3 163 yX2_init, Cond.instanceMethod yX2_init, Cond.code yX2_init cX2_init 4 none, Cond.methodLink RX2 3 objectInit, Cond.instanceMethod objectInit, Cond.code objectInit ⟨#[0xb1]⟩ 1 none, Cond.fieldLink RX2 9 "RefusePlanner$Tour" "region" "LRefusePlanner$Region;", Cond.fieldLink RX2 15 "RefusePlanner$Tour" "kind" "I"]
def wsL_fetch_r4 : List Cond := [Cond.fieldLink RX2 19 "RefusePlanner$Tour" "capacity" "I", Cond.fieldLink RX2 22 "RefusePlanner$Tour" "at" "I", Cond.fieldLink RX2 25 "RefusePlanner$Tour" "load" "I", Cond.fieldLink RX2 28 "RefusePlanner$Tour" "minutes" "I", Cond.fieldLink RX2 31 "RefusePlanner$Tour" "tipVisits" "I", Cond.fieldLink RX2 34 "RefusePlanner$Tour" "litres" "I", Cond.methodLink RX3 166 yX2_visit, Cond.instanceMethod yX2_visit, Cond.selects RX2 yX2_visit yX2_visit, Cond.code yX2_visit cX2_visit 3 (some .int), Cond.methodLink RX2 56 Lib.Math.min.name, Cond.static Lib.Math.min.name, Cond.initialized "java/lang/Math", Cond.code Lib.Math.min.name Lib.Math.min.code 2 (some .int), Cond.methodLink RX2 42 yX2_driveTo, Cond.instanceMethod yX2_driveTo, Cond.selects RX2 yX2_driveTo yX2_driveTo, Cond.code yX2_driveTo cX2_driveTo 2 none, Cond.methodLink RX2 62 yX1_between, Cond.instanceMethod yX1_between, Cond.selects RX1 yX1_between yX1_between, Cond.initialized RX1, Cond.code yX1_between cX1_between 3 (some .int), Cond.fieldLink RX1 9 "RefusePlanner$Region" "minutes" "[I"]
def wsL_fetch_r5 : List Cond := [Cond.methodLink RX2 53 yX2_unloadOnTheWayTo, Cond.instanceMethod yX2_unloadOnTheWayTo, Cond.selects RX2 yX2_unloadOnTheWayTo yX2_unloadOnTheWayTo, Cond.code yX2_unloadOnTheWayTo cX2_unloadOnTheWayTo 2 none, Cond.methodLink RX2 67 yX1_overTip, Cond.instanceMethod yX1_overTip, Cond.selects RX1 yX1_overTip yX1_overTip, Cond.code yX1_overTip cX1_overTip 6 (some .int), Cond.constant RX1 28 (2147483647), Cond.fieldLink RX1 18 "RefusePlanner$Region" "places" "I", Cond.methodLink RX1 33 Lib.Math.min.name, Cond.methodLink RX1 22 yX1_hasTip, Cond.instanceMethod yX1_hasTip, Cond.selects RX1 yX1_hasTip yX1_hasTip, Cond.code yX1_hasTip cX1_hasTip 3 (some .boolean), Cond.fieldLink RX1 15 "RefusePlanner$Region" "tips" "[I", Cond.methodLink RX1 29 yX1_between, Cond.methodLink RX3 229 yX0_endVisit, Cond.instanceMethod yX0_endVisit, Cond.selects RX0 yX0_endVisit yX0_endVisit, Cond.initialized RX0, Cond.code yX0_endVisit cX0_endVisit 5 none, Cond.fieldLink RX0 37 "RefusePlanner$Bin" "dirty" "Z", Cond.fieldLink RX0 34 "RefusePlanner$Bin" "warnings" "I"]
def wsL_fetch_r6 : List Cond := [Cond.fieldLink RX0 28 "RefusePlanner$Bin" "emptiedOn" "I", Cond.fieldLink RX0 22 "RefusePlanner$Bin" "content" "I", Cond.fieldLink RX0 25 "RefusePlanner$Bin" "rate" "I", Cond.methodLink RX3 170 yX2_end, Cond.instanceMethod yX2_end, Cond.selects RX2 yX2_end yX2_end, Cond.code yX2_end cX2_end 1 none]
def wsL_fetch : List Cond := .codeWith yL_fetch cL_fetch 5 (some .int) [(0, 10, 13, 19), (0, 10, 17, 21), (0, 10, 21, 13)] :: ((wsL_fetch_r1 ++ (wsL_fetch_r2 ++ (wsL_fetch_r3 ++ (wsL_fetch_r4 ++ (wsL_fetch_r5 ++ wsL_fetch_r6))))) ++ wsX30 ++ wsX00 ++ wsJx4a65c0 ++ wsX20 ++ wsX10 ++ (vx_atS RX3 100 "java/lang/IndexOutOfBoundsException" ["java/lang/RuntimeException", "java/lang/Exception"]).filter goodWord ++ (vx_atS RX3 67 "java/lang/IllegalArgumentException" ["java/lang/RuntimeException", "java/lang/Exception"]).filter goodWord ++ (vx_atS RX3 52 "java/lang/IllegalStateException" ["java/lang/RuntimeException", "java/lang/Exception"]).filter goodWord)
def wsL_wouldTake_r1 : List Cond := [Cond.classLink RL 19 "java/lang/IndexOutOfBoundsException", Cond.classLink RL 21 "java/lang/IllegalArgumentException", Cond.methodLink RL 68 yX3_wouldTake, Cond.instanceMethod yX3_wouldTake, Cond.selects RX3 yX3_wouldTake yX3_wouldTake, Cond.initialized RX3, Cond.code yX3_wouldTake cX3_wouldTake 5 (some .int), Cond.classLink RX3 161 RX2, Cond.instantiable RX2 8, Cond.initialized RX2, Cond.fieldLink RX3 12 "RefusePlanner" "region" "LRefusePlanner$Region;", Cond.fieldLink RX3 38 "RefusePlanner" "stops" "I", Cond.fieldLink RX3 19 "RefusePlanner" "bins" "Ljava/util/ArrayList;", Cond.fieldLink RX3 34 "RefusePlanner" "route" "[I", Cond.classLink RX3 113 "RefusePlanner$Bin", Cond.methodLink RX3 79 yX3_checkKind, Cond.instanceMethod yX3_checkKind, Cond.selects RX3 yX3_checkKind yX3_checkKind, Cond.code yX3_checkKind cX3_checkKind 2 none, Cond.classLink RX3 96 "java/lang/IndexOutOfBoundsException", Cond.initialized "java/lang/IndexOutOfBoundsException", Cond.methodLink RX3 68 yX3_checkRange, Cond.instanceMethod yX3_checkRange, Cond.selects RX3 yX3_checkRange yX3_checkRange]
def wsL_wouldTake_r2 : List Cond := [Cond.code yX3_checkRange cX3_checkRange 4 none, Cond.classLink RX3 63 "java/lang/IllegalArgumentException", Cond.initialized "java/lang/IllegalArgumentException", Cond.methodLink RX3 147 yX3_planRoute, Cond.instanceMethod yX3_planRoute, Cond.selects RX3 yX3_planRoute yX3_planRoute, Cond.code yX3_planRoute cX3_planRoute 7 none, Cond.fieldLink RX3 42 "RefusePlanner" "day" "I", Cond.methodLink RX3 217 yX3_nextWorkday, Cond.instanceMethod yX3_nextWorkday, Cond.selects RX3 yX3_nextWorkday yX3_nextWorkday, Cond.code yX3_nextWorkday cX3_nextWorkday 2 (some .int), Cond.fieldLink RX3 23 "RefusePlanner" "holidays" "[Z", Cond.methodLink RX3 108 yJx4a65c_size_8abf5, Cond.instanceMethod yJx4a65c_size_8abf5, Cond.selects RJx4a65c yJx4a65c_size_8abf5 yJx4a65c_size_8abf5, Cond.initialized RJx4a65c, Cond.code yJx4a65c_size_8abf5 cJx4a65c_size_8abf5 1 (some .int), Cond.fieldLink RJx4a65c 48 "java/util/ArrayList" "size" "I", Cond.methodLink RX3 124 yJx4a65c_get_915e3, Cond.instanceMethod yJx4a65c_get_915e3, Cond.selects RJx4a65c yJx4a65c_get_915e3 yJx4a65c_get_915e3, Cond.code yJx4a65c_get_915e3 cJx4a65c_get_915e3 2 (some (.object "java/lang/Object")), Cond.methodLink RJx4a65c 118 yJ15_checkIndex_7cf53]
def wsL_wouldTake_r3 : List Cond := [Cond.static yJ15_checkIndex_7cf53, Cond.initialized RJ15, Cond.code yJ15_checkIndex_7cf53 cJ15_checkIndex_7cf53 2 (some .int), Cond.methodLink RJ15 105 yJ3_checkIndex_8e157, Cond.static yJ3_checkIndex_8e157, Cond.initialized RJ3, Cond.code yJ3_checkIndex_8e157 cJ3_checkIndex_8e157 3 (some .int), Cond.methodLink RJx4a65c 123 yJx4a65c_elementData_915e3, Cond.instanceMethod yJx4a65c_elementData_915e3, Cond.selects RJx4a65c yJx4a65c_elementData_915e3 yJx4a65c_elementData_915e3, Cond.code yJx4a65c_elementData_915e3 cJx4a65c_elementData_915e3 2 (some (.object "java/lang/Object")), Cond.fieldLink RJx4a65c 9 "java/util/ArrayList" "elementData" "[Ljava/lang/Object;", Cond.methodLink RX3 220 yX0_isDue, Cond.instanceMethod yX0_isDue, Cond.selects RX0 yX0_isDue yX0_isDue, Cond.initialized RX0, Cond.code yX0_isDue cX0_isDue 3 (some .boolean), Cond.fieldLink RX0 16 "RefusePlanner$Bin" "size" "I", Cond.methodLink RX0 47 yX0_forecast, Cond.instanceMethod yX0_forecast, Cond.selects RX0 yX0_forecast yX0_forecast, Cond.code yX0_forecast cX0_forecast 2 (some .int), Cond.fieldLink RX0 25 "RefusePlanner$Bin" "rate" "I", Cond.fieldLink RX0 28 "RefusePlanner$Bin" "emptiedOn" "I"]
def wsL_wouldTake_r4 : List Cond := [Cond.methodLink RX0 41 Lib.Math.min.name, Cond.static Lib.Math.min.name, Cond.initialized "java/lang/Math", Cond.code Lib.Math.min.name Lib.Math.min.code 2 (some .int), Cond.methodLink RX0 51 yX0_isFullOn, Cond.instanceMethod yX0_isFullOn, Cond.selects RX0 yX0_isFullOn yX0_isFullOn, Cond.code yX0_isFullOn cX0_isFullOn 2 (some .boolean), Cond.methodLink RX3 223 yX3_nearestStop, Cond.instanceMethod yX3_nearestStop, Cond.selects RX3 yX3_nearestStop yX3_nearestStop, Cond.code yX3_nearestStop cX3_nearestStop 7 (some .int), Cond.methodLink RX3 72 yX1_between, Cond.instanceMethod yX1_between, Cond.selects RX1 yX1_between yX1_between, Cond.initialized RX1, Cond.code yX1_between cX1_between 3 (some .int), Cond.fieldLink RX1 9 "RefusePlanner$Region" "minutes" "[I", Cond.methodLink RX3 163 yX2_init, Cond.instanceMethod yX2_init, Cond.code yX2_init cX2_init 4 none, Cond.methodLink RX2 3 objectInit, Cond.instanceMethod objectInit, Cond.code objectInit ⟨#[0xb1]⟩ 1 none]
def wsL_wouldTake_r5 : List Cond := [Cond.fieldLink RX2 9 "RefusePlanner$Tour" "region" "LRefusePlanner$Region;", Cond.fieldLink RX2 15 "RefusePlanner$Tour" "kind" "I", Cond.fieldLink RX2 19 "RefusePlanner$Tour" "capacity" "I", Cond.fieldLink RX2 22 "RefusePlanner$Tour" "at" "I", Cond.fieldLink RX2 25 "RefusePlanner$Tour" "load" "I", Cond.fieldLink RX2 28 "RefusePlanner$Tour" "minutes" "I", Cond.fieldLink RX2 31 "RefusePlanner$Tour" "tipVisits" "I", Cond.fieldLink RX2 34 "RefusePlanner$Tour" "litres" "I", Cond.methodLink RX3 166 yX2_visit, Cond.instanceMethod yX2_visit, Cond.selects RX2 yX2_visit yX2_visit, Cond.code yX2_visit cX2_visit 3 (some .int), Cond.methodLink RX2 56 Lib.Math.min.name, Cond.methodLink RX2 42 yX2_driveTo, Cond.instanceMethod yX2_driveTo, Cond.selects RX2 yX2_driveTo yX2_driveTo, Cond.code yX2_driveTo cX2_driveTo 2 none, Cond.methodLink RX2 62 yX1_between, Cond.methodLink RX2 53 yX2_unloadOnTheWayTo, Cond.instanceMethod yX2_unloadOnTheWayTo, Cond.selects RX2 yX2_unloadOnTheWayTo yX2_unloadOnTheWayTo, Cond.code yX2_unloadOnTheWayTo cX2_unloadOnTheWayTo 2 none, Cond.methodLink RX2 67 yX1_overTip, Cond.instanceMethod yX1_overTip]
def wsL_wouldTake_r6 : List Cond := [Cond.selects RX1 yX1_overTip yX1_overTip, Cond.code yX1_overTip cX1_overTip 6 (some .int), Cond.constant RX1 28 (2147483647), Cond.fieldLink RX1 18 "RefusePlanner$Region" "places" "I", Cond.methodLink RX1 33 Lib.Math.min.name, Cond.methodLink RX1 22 yX1_hasTip, Cond.instanceMethod yX1_hasTip, Cond.selects RX1 yX1_hasTip yX1_hasTip, Cond.code yX1_hasTip cX1_hasTip 3 (some .boolean), Cond.fieldLink RX1 15 "RefusePlanner$Region" "tips" "[I", Cond.methodLink RX1 29 yX1_between, Cond.methodLink RX3 170 yX2_end, Cond.instanceMethod yX2_end, Cond.selects RX2 yX2_end yX2_end, Cond.code yX2_end cX2_end 1 none]
def wsL_wouldTake : List Cond := .codeWith yL_wouldTake cL_wouldTake 5 (some .int) [(0, 10, 13, 19), (0, 10, 17, 21)] :: ((wsL_wouldTake_r1 ++ (wsL_wouldTake_r2 ++ (wsL_wouldTake_r3 ++ (wsL_wouldTake_r4 ++ (wsL_wouldTake_r5 ++ wsL_wouldTake_r6))))) ++ wsX20 ++ wsX30 ++ wsX00 ++ wsJx4a65c0 ++ wsX10 ++ (vx_atS RX3 100 "java/lang/IndexOutOfBoundsException" ["java/lang/RuntimeException", "java/lang/Exception"]).filter goodWord ++ (vx_atS RX3 67 "java/lang/IllegalArgumentException" ["java/lang/RuntimeException", "java/lang/Exception"]).filter goodWord)
def wsL_total : List Cond := .codeWith yL_total cL_total 5 (some .int) [(0, 9, 12, 19)] :: ([.classLink RL 19 "java/lang/IndexOutOfBoundsException", .methodLink RL 71 yX3_total, .instanceMethod yX3_total, .selects RX3 yX3_total yX3_total, .initialized RX3, .code yX3_total cX3_total 3 (some .long), .classLink RX3 96 "java/lang/IndexOutOfBoundsException", .initialized "java/lang/IndexOutOfBoundsException", .fieldLink RX3 27 "RefusePlanner" "totals" "[J", .methodLink RX3 79 yX3_checkKind, .instanceMethod yX3_checkKind, .selects RX3 yX3_checkKind yX3_checkKind, .code yX3_checkKind cX3_checkKind 2 none] ++ wsX30 ++ (vx_atS RX3 100 "java/lang/IndexOutOfBoundsException" ["java/lang/RuntimeException", "java/lang/Exception"]).filter goodWord)
def wsL_wasted : List Cond := .codeWith yL_wasted cL_wasted 4 (some .int) [(0, 8, 11, 19)] :: ([.classLink RL 19 "java/lang/IndexOutOfBoundsException", .methodLink RL 75 yX3_wasted, .instanceMethod yX3_wasted, .selects RX3 yX3_wasted yX3_wasted, .initialized RX3, .code yX3_wasted cX3_wasted 2 (some .long), .fieldLink RX3 31 "RefusePlanner" "wastes" "[J", .methodLink RX3 79 yX3_checkKind, .instanceMethod yX3_checkKind, .selects RX3 yX3_checkKind yX3_checkKind, .code yX3_checkKind cX3_checkKind 2 none, .classLink RX3 96 "java/lang/IndexOutOfBoundsException", .initialized "java/lang/IndexOutOfBoundsException"] ++ wsX30 ++ (vx_atS RX3 100 "java/lang/IndexOutOfBoundsException" ["java/lang/RuntimeException", "java/lang/Exception"]).filter goodWord)
end
section
def wsL_law0_r1 : List Cond := [Cond.classLink RL 8 RX3, Cond.instantiable RX3 8, Cond.initialized RX3, Cond.classLink RL 80 RX4, Cond.instantiable RX4 21, Cond.initialized RX4, Cond.arrayClass .long, Cond.methodLink RL 79 yX3_init, Cond.instanceMethod yX3_init, Cond.code yX3_init cX3_init 1 none, Cond.methodLink RX3 3 objectInit, Cond.instanceMethod objectInit, Cond.code objectInit ⟨#[0xb1]⟩ 1 none, Cond.classLink RX3 9 RX1, Cond.instantiable RX1 3, Cond.initialized RX1, Cond.fieldLink RX3 12 "RefusePlanner" "region" "LRefusePlanner$Region;", Cond.classLink RX3 16 RJx4a65c, Cond.instantiable RJx4a65c 3, Cond.initialized RJx4a65c, Cond.fieldLink RX3 19 "RefusePlanner" "bins" "Ljava/util/ArrayList;", Cond.arrayClass .boolean, Cond.fieldLink RX3 23 "RefusePlanner" "holidays" "[Z", Cond.fieldLink RX3 27 "RefusePlanner" "totals" "[J"]
def wsL_law0_r2 : List Cond := [Cond.fieldLink RX3 31 "RefusePlanner" "wastes" "[J", Cond.arrayClass .int, Cond.fieldLink RX3 34 "RefusePlanner" "route" "[I", Cond.fieldLink RX3 38 "RefusePlanner" "stops" "I", Cond.fieldLink RX3 42 "RefusePlanner" "day" "I", Cond.methodLink RX3 11 yX1_init, Cond.instanceMethod yX1_init, Cond.code yX1_init cX1_init 3 none, Cond.methodLink RX1 3 objectInit, Cond.fieldLink RX1 9 "RefusePlanner$Region" "minutes" "[I", Cond.fieldLink RX1 15 "RefusePlanner$Region" "tips" "[I", Cond.fieldLink RX1 18 "RefusePlanner$Region" "places" "I", Cond.methodLink RX3 18 yJx4a65c_init_da8c8, Cond.instanceMethod yJx4a65c_init_da8c8, Cond.code yJx4a65c_init_da8c8 cJx4a65c_init_da8c8 1 none, Cond.fieldLink RJx4a65c 39 "java/util/ArrayList" "DEFAULTCAPACITY_EMPTY_ELEMENTDATA" "[Ljava/lang/Object;", Cond.fieldLink RJx4a65c 9 "java/util/ArrayList" "elementData" "[Ljava/lang/Object;", Cond.methodLink RJx4a65c 1 yJxc12de_init_da8c8, Cond.instanceMethod yJxc12de_init_da8c8, Cond.initialized RJxc12de, Cond.code yJxc12de_init_da8c8 cJxc12de_init_da8c8 1 none, Cond.fieldLink RJxc12de 7 "java/util/AbstractList" "modCount" "I", Cond.methodLink RJxc12de 1 yJxa1e45_init_da8c8, Cond.instanceMethod yJxa1e45_init_da8c8]
def wsL_law0_r3 : List Cond := [Cond.initialized RJxa1e45, Cond.code yJxa1e45_init_da8c8 cJxa1e45_init_da8c8 1 none, Cond.methodLink RJxa1e45 1 objectInit, Cond.methodLink RL 82 yX4_init, Cond.instanceMethod yX4_init, Cond.code yX4_init cX4_init 2 none, Cond.methodLink RX4 1 objectInit, Cond.fieldLink RX4 7 "RefusePlannerModel" "places" "I", Cond.fieldLink RX4 13 "RefusePlannerModel" "minutes" "[I", Cond.fieldLink RX4 17 "RefusePlannerModel" "tips" "[I", Cond.fieldLink RX4 20 "RefusePlannerModel" "areHolidays" "[Z", Cond.fieldLink RX4 24 "RefusePlannerModel" "stands" "[I", Cond.fieldLink RX4 27 "RefusePlannerModel" "kinds" "[I", Cond.fieldLink RX4 30 "RefusePlannerModel" "sizes" "[I", Cond.fieldLink RX4 33 "RefusePlannerModel" "growths" "[I", Cond.fieldLink RX4 36 "RefusePlannerModel" "contents" "[I", Cond.fieldLink RX4 39 "RefusePlannerModel" "rates" "[I", Cond.fieldLink RX4 42 "RefusePlannerModel" "emptied" "[I", Cond.fieldLink RX4 45 "RefusePlannerModel" "overflows" "[I", Cond.fieldLink RX4 48 "RefusePlannerModel" "warnings" "[I", Cond.fieldLink RX4 51 "RefusePlannerModel" "areDirty" "[Z", Cond.fieldLink RX4 54 "RefusePlannerModel" "totals" "[J", Cond.fieldLink RX4 58 "RefusePlannerModel" "waste" "[J", Cond.fieldLink RX4 61 "RefusePlannerModel" "plan" "[I"]
def wsL_law0_r4 : List Cond := [Cond.methodLink RL 83 yL_addPlace, Cond.static yL_addPlace, Cond.initialized RL, Cond.codeWith yL_addPlace cL_addPlace 3 (some .int) [(0, 8, 11, 13)], Cond.classLink RL 13 "java/lang/IllegalStateException", Cond.methodLink RL 7 yX3_addPlace, Cond.instanceMethod yX3_addPlace, Cond.selects RX3 yX3_addPlace yX3_addPlace, Cond.code yX3_addPlace cX3_addPlace 1 (some .int), Cond.classLink RX3 48 "java/lang/IllegalStateException", Cond.initialized "java/lang/IllegalStateException", Cond.methodLink RX3 55 yX1_add, Cond.instanceMethod yX1_add, Cond.selects RX1 yX1_add yX1_add, Cond.code yX1_add cX1_add 2 (some .int), Cond.methodLink RL 88 yX4_addPlace, Cond.instanceMethod yX4_addPlace, Cond.selects RX4 yX4_addPlace yX4_addPlace, Cond.code yX4_addPlace cX4_addPlace 1 (some .int), Cond.fieldLink RX4 64 "RefusePlannerModel" "thrown" "I", Cond.methodLink RX4 74 yX4_fail, Cond.instanceMethod yX4_fail, Cond.selects RX4 yX4_fail yX4_fail, Cond.code yX4_fail cX4_fail 2 (some .int)]
def wsL_law0_r5 : List Cond := [Cond.methodLink RL 89 yX4_thrown, Cond.instanceMethod yX4_thrown, Cond.selects RX4 yX4_thrown yX4_thrown, Cond.code yX4_thrown cX4_thrown 1 (some .int), Cond.methodLink RL 92 yL_setMinutes, Cond.static yL_setMinutes, Cond.codeWith yL_setMinutes cL_setMinutes 6 (some .int) [(0, 12, 15, 19), (0, 12, 19, 21)], Cond.classLink RL 19 "java/lang/IndexOutOfBoundsException", Cond.classLink RL 21 "java/lang/IllegalArgumentException", Cond.methodLink RL 15 yX3_setMinutes, Cond.instanceMethod yX3_setMinutes, Cond.selects RX3 yX3_setMinutes yX3_setMinutes, Cond.code yX3_setMinutes cX3_setMinutes 5 (some .int), Cond.classLink RX3 63 "java/lang/IllegalArgumentException", Cond.initialized "java/lang/IllegalArgumentException", Cond.methodLink RX3 59 yX3_checkPlace, Cond.instanceMethod yX3_checkPlace, Cond.selects RX3 yX3_checkPlace yX3_checkPlace, Cond.code yX3_checkPlace cX3_checkPlace 2 none, Cond.classLink RX3 96 "java/lang/IndexOutOfBoundsException", Cond.initialized "java/lang/IndexOutOfBoundsException", Cond.methodLink RX3 68 yX3_checkRange, Cond.instanceMethod yX3_checkRange, Cond.selects RX3 yX3_checkRange yX3_checkRange]
def wsL_law0_r6 : List Cond := [Cond.code yX3_checkRange cX3_checkRange 4 none, Cond.methodLink RX3 72 yX1_between, Cond.instanceMethod yX1_between, Cond.selects RX1 yX1_between yX1_between, Cond.code yX1_between cX1_between 3 (some .int), Cond.methodLink RX3 76 yX1_join, Cond.instanceMethod yX1_join, Cond.selects RX1 yX1_join yX1_join, Cond.code yX1_join cX1_join 4 none, Cond.methodLink RL 95 yX4_setMinutes, Cond.instanceMethod yX4_setMinutes, Cond.selects RX4 yX4_setMinutes yX4_setMinutes, Cond.code yX4_setMinutes cX4_setMinutes 5 (some .int), Cond.methodLink RX4 78 yX4_isPlace, Cond.instanceMethod yX4_isPlace, Cond.selects RX4 yX4_isPlace yX4_isPlace, Cond.code yX4_isPlace cX4_isPlace 2 (some .boolean), Cond.methodLink RX4 67 yX4_isIn, Cond.static yX4_isIn, Cond.code yX4_isIn cX4_isIn 3 (some .boolean), Cond.methodLink RX4 82 yX4_drive, Cond.instanceMethod yX4_drive, Cond.selects RX4 yX4_drive yX4_drive, Cond.code yX4_drive cX4_drive 3 (some .int)]
def wsL_law0_r7 : List Cond := [Cond.methodLink RL 96 yL_setTip, Cond.static yL_setTip, Cond.codeWith yL_setTip cL_setTip 6 (some .int) [(0, 19, 22, 19), (0, 19, 26, 21)], Cond.methodLink RL 23 yX3_setTip, Cond.instanceMethod yX3_setTip, Cond.selects RX3 yX3_setTip yX3_setTip, Cond.code yX3_setTip cX3_setTip 5 (some .boolean), Cond.methodLink RX3 79 yX3_checkKind, Cond.instanceMethod yX3_checkKind, Cond.selects RX3 yX3_checkKind yX3_checkKind, Cond.code yX3_checkKind cX3_checkKind 2 none, Cond.methodLink RX3 82 yX1_hasTip, Cond.instanceMethod yX1_hasTip, Cond.selects RX1 yX1_hasTip yX1_hasTip, Cond.code yX1_hasTip cX1_hasTip 3 (some .boolean), Cond.methodLink RX3 86 yX1_countTips, Cond.instanceMethod yX1_countTips, Cond.selects RX1 yX1_countTips yX1_countTips, Cond.code yX1_countTips cX1_countTips 4 (some .int), Cond.methodLink RX1 22 yX1_hasTip, Cond.methodLink RX3 92 yX1_putTip, Cond.instanceMethod yX1_putTip, Cond.selects RX1 yX1_putTip yX1_putTip, Cond.code yX1_putTip cX1_putTip 5 none]
def wsL_law0_r8 : List Cond := [Cond.methodLink RL 99 yX4_setTip, Cond.instanceMethod yX4_setTip, Cond.selects RX4 yX4_setTip yX4_setTip, Cond.code yX4_setTip cX4_setTip 7 (some .boolean), Cond.methodLink RX4 86 yX4_isKind, Cond.static yX4_isKind, Cond.code yX4_isKind cX4_isKind 1 (some .boolean), Cond.methodLink RX4 89 yX4_has, Cond.static yX4_has, Cond.code yX4_has cX4_has 2 (some .boolean), Cond.methodLink RL 100 yL_setHoliday, Cond.static yL_setHoliday, Cond.codeWith yL_setHoliday cL_setHoliday 5 (some .int) [(0, 17, 20, 19)], Cond.methodLink RL 27 yX3_setHoliday, Cond.instanceMethod yX3_setHoliday, Cond.selects RX3 yX3_setHoliday yX3_setHoliday, Cond.code yX3_setHoliday cX3_setHoliday 4 (some .boolean), Cond.methodLink RL 103 yX4_setHoliday, Cond.instanceMethod yX4_setHoliday, Cond.selects RX4 yX4_setHoliday yX4_setHoliday, Cond.code yX4_setHoliday cX4_setHoliday 4 (some .boolean), Cond.methodLink RL 104 yL_pass, Cond.static yL_pass, Cond.codeWith yL_pass cL_pass 4 (some .int) [(0, 9, 12, 21), (0, 9, 15, 13)]]
def wsL_law0_r9 : List Cond := [Cond.methodLink RL 31 yX3_pass, Cond.instanceMethod yX3_pass, Cond.selects RX3 yX3_pass yX3_pass, Cond.code yX3_pass cX3_pass 4 (some .int), Cond.methodLink RX3 103 yX3_passOneDay, Cond.instanceMethod yX3_passOneDay, Cond.selects RX3 yX3_passOneDay yX3_passOneDay, Cond.code yX3_passOneDay cX3_passOneDay 5 (some .int), Cond.classLink RX3 113 "RefusePlanner$Bin", Cond.methodLink RX3 108 yJx4a65c_size_8abf5, Cond.instanceMethod yJx4a65c_size_8abf5, Cond.selects RJx4a65c yJx4a65c_size_8abf5 yJx4a65c_size_8abf5, Cond.code yJx4a65c_size_8abf5 cJx4a65c_size_8abf5 1 (some .int), Cond.fieldLink RJx4a65c 48 "java/util/ArrayList" "size" "I", Cond.methodLink RX3 124 yJx4a65c_get_915e3, Cond.instanceMethod yJx4a65c_get_915e3, Cond.selects RJx4a65c yJx4a65c_get_915e3 yJx4a65c_get_915e3, Cond.code yJx4a65c_get_915e3 cJx4a65c_get_915e3 2 (some (.object "java/lang/Object")), Cond.methodLink RJx4a65c 118 yJ15_checkIndex_7cf53, Cond.static yJ15_checkIndex_7cf53, Cond.initialized RJ15, Cond.code yJ15_checkIndex_7cf53 cJ15_checkIndex_7cf53 2 (some .int), Cond.methodLink RJ15 105 yJ3_checkIndex_8e157, Cond.static yJ3_checkIndex_8e157]
def wsL_law0_r10 : List Cond := [Cond.initialized RJ3, Cond.code yJ3_checkIndex_8e157 cJ3_checkIndex_8e157 3 (some .int), Cond.methodLink RJx4a65c 123 yJx4a65c_elementData_915e3, Cond.instanceMethod yJx4a65c_elementData_915e3, Cond.selects RJx4a65c yJx4a65c_elementData_915e3 yJx4a65c_elementData_915e3, Cond.code yJx4a65c_elementData_915e3 cJx4a65c_elementData_915e3 2 (some (.object "java/lang/Object")), Cond.methodLink RX3 214 yX0_fill, Cond.instanceMethod yX0_fill, Cond.selects RX0 yX0_fill yX0_fill, Cond.initialized RX0, Cond.code yX0_fill cX0_fill 2 (some .int), Cond.fieldLink RX0 22 "RefusePlanner$Bin" "content" "I", Cond.fieldLink RX0 19 "RefusePlanner$Bin" "growth" "I", Cond.fieldLink RX0 16 "RefusePlanner$Bin" "size" "I", Cond.methodLink RX0 55 Lib.Math.max.name, Cond.static Lib.Math.max.name, Cond.initialized "java/lang/Math", Cond.code Lib.Math.max.name Lib.Math.max.code 2 (some .int), Cond.fieldLink RX0 31 "RefusePlanner$Bin" "overflows" "I", Cond.methodLink RL 107 yX4_pass, Cond.instanceMethod yX4_pass, Cond.selects RX4 yX4_pass yX4_pass, Cond.code yX4_pass cX4_pass 6 (some .int), Cond.fieldLink RX4 93 "RefusePlannerModel" "day" "I"]
def wsL_law0_r11 : List Cond := [Cond.fieldLink RX4 71 "RefusePlannerModel" "bins" "I", Cond.methodLink RX4 96 Lib.Math.max.name, Cond.methodLink RL 108 yX3_today, Cond.instanceMethod yX3_today, Cond.selects RX3 yX3_today yX3_today, Cond.code yX3_today cX3_today 1 (some .int), Cond.methodLink RL 111 yX4_today, Cond.instanceMethod yX4_today, Cond.selects RX4 yX4_today yX4_today, Cond.code yX4_today cX4_today 1 (some .int), Cond.methodLink RL 112 yX3_nextWorkday, Cond.instanceMethod yX3_nextWorkday, Cond.selects RX3 yX3_nextWorkday yX3_nextWorkday, Cond.code yX3_nextWorkday cX3_nextWorkday 2 (some .int), Cond.methodLink RL 115 yX4_nextWorkday, Cond.instanceMethod yX4_nextWorkday, Cond.selects RX4 yX4_nextWorkday yX4_nextWorkday, Cond.code yX4_nextWorkday cX4_nextWorkday 1 (some .int), Cond.methodLink RX4 101 yX4_workday, Cond.instanceMethod yX4_workday, Cond.selects RX4 yX4_workday yX4_workday, Cond.code yX4_workday cX4_workday 2 (some .int), Cond.methodLink RL 116 yL_addBin, Cond.static yL_addBin]
def wsL_law0_r12 : List Cond := [Cond.codeWith yL_addBin cL_addBin 7 (some .int) [(0, 14, 17, 19), (0, 14, 21, 21), (0, 14, 25, 13)], Cond.methodLink RL 35 yX3_addBin, Cond.instanceMethod yX3_addBin, Cond.selects RX3 yX3_addBin yX3_addBin, Cond.code yX3_addBin cX3_addBin 6 (some .int), Cond.classLink RX3 113 RX0, Cond.instantiable RX0 10, Cond.methodLink RX3 115 yX0_init, Cond.instanceMethod yX0_init, Cond.code yX0_init cX0_init 6 none, Cond.methodLink RX0 1 objectInit, Cond.fieldLink RX0 7 "RefusePlanner$Bin" "place" "I", Cond.fieldLink RX0 13 "RefusePlanner$Bin" "kind" "I", Cond.fieldLink RX0 25 "RefusePlanner$Bin" "rate" "I", Cond.fieldLink RX0 28 "RefusePlanner$Bin" "emptiedOn" "I", Cond.fieldLink RX0 34 "RefusePlanner$Bin" "warnings" "I", Cond.fieldLink RX0 37 "RefusePlanner$Bin" "dirty" "Z", Cond.methodLink RX3 118 yJx4a65c_add_9ea2d, Cond.instanceMethod yJx4a65c_add_9ea2d, Cond.selects RJx4a65c yJx4a65c_add_9ea2d yJx4a65c_add_9ea2d, Cond.code yJx4a65c_add_9ea2d cJx4a65c_add_9ea2d 2 (some .boolean), Cond.fieldLink RJx4a65c 63 "java/util/ArrayList" "modCount" "I", Cond.sameField "java/util/ArrayList" "java/util/AbstractList" "modCount" "I", Cond.methodLink RJx4a65c 131 yJx4a65c_add_72be8]
def wsL_law0_r13 : List Cond := [Cond.instanceMethod yJx4a65c_add_72be8, Cond.selects RJx4a65c yJx4a65c_add_72be8 yJx4a65c_add_72be8, Cond.code yJx4a65c_add_72be8 cJx4a65c_add_72be8 4 none, Cond.methodLink RJx4a65c 129 yJx4a65c_grow_d5877, Cond.instanceMethod yJx4a65c_grow_d5877, Cond.selects RJx4a65c yJx4a65c_grow_d5877 yJx4a65c_grow_d5877, Cond.code yJx4a65c_grow_d5877 cJx4a65c_grow_d5877 1 (some (.array (.object "java/lang/Object"))), Cond.methodLink RJx4a65c 69 yJx4a65c_grow_92f84, Cond.instanceMethod yJx4a65c_grow_92f84, Cond.selects RJx4a65c yJx4a65c_grow_92f84 yJx4a65c_grow_92f84, Cond.code yJx4a65c_grow_92f84 cJx4a65c_grow_92f84 4 (some (.array (.object "java/lang/Object"))), Cond.methodLink RJx4a65c 79 Lib.Math.max.name, Cond.classLink RJx4a65c 7 "java/lang/Object", Cond.methodLink RJx4a65c 73 yJ8_newLength_cabcc, Cond.static yJ8_newLength_cabcc, Cond.initialized RJ8, Cond.code yJ8_newLength_cabcc cJ8_newLength_cabcc 4 (some .int), Cond.methodLink RJ8 194 Lib.Math.max.name, Cond.constant RJ8 200 (2147483639), Cond.methodLink RJ8 201 yJ8_hugeLength_7cf53, Cond.static yJ8_hugeLength_7cf53, Cond.code yJ8_hugeLength_7cf53 cJ8_hugeLength_7cf53 3 (some .int), Cond.methodLink RJx4a65c 66 yJ7_copyOf_1904c, Cond.static yJ7_copyOf_1904c]
def wsL_law0_r14 : List Cond := [Cond.initialized RJ7, Cond.code yJ7_copyOf_1904c cJ7_copyOf_1904c 2 (some (.array (.object "java/lang/Object"))), Cond.methodLink RJ7 86 ⟨"java/lang/Object", "getClass", "()Ljava/lang/Class;"⟩, Cond.selects "[Ljava/lang/Object;" ⟨"java/lang/Object", "getClass", "()Ljava/lang/Class;"⟩ ⟨"java/lang/Object", "getClass", "()Ljava/lang/Class;"⟩, Cond.instanceMethod ⟨"java/lang/Object", "getClass", "()Ljava/lang/Class;"⟩, Cond.native ⟨"java/lang/Object", "getClass", "()Ljava/lang/Class;"⟩, Cond.methodLink RJ7 300 yJ7_copyOf_6403c, Cond.static yJ7_copyOf_6403c, Cond.code yJ7_copyOf_6403c cJ7_copyOf_6403c 4 (some (.array (.object "java/lang/Object"))), Cond.classLink RJ7 110 "[Ljava/lang/Object;", Cond.classLink RJ7 2 "java/lang/Object", Cond.methodLink RJ7 304 Lib.Math.min.name, Cond.static Lib.Math.min.name, Cond.code Lib.Math.min.name Lib.Math.min.code 2 (some .int), Cond.methodLink RJ7 150 arraycopyName, Cond.native arraycopyName, Cond.static arraycopyName, Cond.initialized "java/lang/System", Cond.methodLink RL 119 yX4_addBin, Cond.instanceMethod yX4_addBin, Cond.selects RX4 yX4_addBin yX4_addBin, Cond.code yX4_addBin cX4_addBin 5 (some .int), Cond.methodLink RL 120 yL_setGrowth, Cond.static yL_setGrowth]
def wsL_law0_r15 : List Cond := [Cond.codeWith yL_setGrowth cL_setGrowth 5 (some .int) [(0, 10, 13, 19), (0, 10, 17, 21)], Cond.methodLink RL 39 yX3_setGrowth, Cond.instanceMethod yX3_setGrowth, Cond.selects RX3 yX3_setGrowth yX3_setGrowth, Cond.code yX3_setGrowth cX3_setGrowth 5 (some .int), Cond.methodLink RX3 121 yX3_checkBin, Cond.instanceMethod yX3_checkBin, Cond.selects RX3 yX3_checkBin yX3_checkBin, Cond.code yX3_checkBin cX3_checkBin 2 none, Cond.methodLink RL 123 yX4_setGrowth, Cond.instanceMethod yX4_setGrowth, Cond.selects RX4 yX4_setGrowth yX4_setGrowth, Cond.code yX4_setGrowth cX4_setGrowth 4 (some .int), Cond.methodLink RX4 105 yX4_isBin, Cond.instanceMethod yX4_isBin, Cond.selects RX4 yX4_isBin yX4_isBin, Cond.code yX4_isBin cX4_isBin 2 (some .boolean), Cond.methodLink RL 124 yL_soil, Cond.static yL_soil, Cond.codeWith yL_soil cL_soil 4 (some .int) [(0, 16, 19, 19)], Cond.methodLink RL 43 yX3_soil, Cond.instanceMethod yX3_soil, Cond.selects RX3 yX3_soil yX3_soil, Cond.code yX3_soil cX3_soil 4 (some .boolean)]
def wsL_law0_r16 : List Cond := [Cond.methodLink RL 126 yX4_soil, Cond.instanceMethod yX4_soil, Cond.selects RX4 yX4_soil yX4_soil, Cond.code yX4_soil cX4_soil 3 (some .boolean), Cond.methodLink RL 127 yX3_binCount, Cond.instanceMethod yX3_binCount, Cond.selects RX3 yX3_binCount yX3_binCount, Cond.code yX3_binCount cX3_binCount 1 (some .int), Cond.methodLink RL 130 yX4_binCount, Cond.instanceMethod yX4_binCount, Cond.selects RX4 yX4_binCount yX4_binCount, Cond.code yX4_binCount cX4_binCount 1 (some .int), Cond.methodLink RL 131 yL_bin, Cond.static yL_bin, Cond.codeWith yL_bin cL_bin 5 (some .int) [(0, 10, 13, 19)], Cond.methodLink RL 47 yX3_bin, Cond.instanceMethod yX3_bin, Cond.selects RX3 yX3_bin yX3_bin, Cond.code yX3_bin cX3_bin 3 (some .int), Cond.methodLink RX3 137 yX0_fact, Cond.instanceMethod yX0_fact, Cond.selects RX0 yX0_fact yX0_fact, Cond.code yX0_fact cX0_fact 2 (some .int), Cond.methodLink RL 133 yX4_bin]
def wsL_law0_r17 : List Cond := [Cond.instanceMethod yX4_bin, Cond.selects RX4 yX4_bin yX4_bin, Cond.code yX4_bin cX4_bin 3 (some .int), Cond.methodLink RX4 108 yX4_told, Cond.instanceMethod yX4_told, Cond.selects RX4 yX4_told yX4_told, Cond.code yX4_told cX4_told 3 (some .int), Cond.methodLink RL 134 yL_expected, Cond.static yL_expected, Cond.codeWith yL_expected cL_expected 5 (some .int) [(0, 10, 13, 19), (0, 10, 17, 21)], Cond.methodLink RL 50 yX3_expected, Cond.instanceMethod yX3_expected, Cond.selects RX3 yX3_expected yX3_expected, Cond.code yX3_expected cX3_expected 3 (some .int), Cond.methodLink RX3 140 yX0_forecast, Cond.instanceMethod yX0_forecast, Cond.selects RX0 yX0_forecast yX0_forecast, Cond.code yX0_forecast cX0_forecast 2 (some .int), Cond.methodLink RX0 41 Lib.Math.min.name, Cond.methodLink RL 136 yX4_expected, Cond.instanceMethod yX4_expected, Cond.selects RX4 yX4_expected yX4_expected, Cond.code yX4_expected cX4_expected 3 (some .int), Cond.methodLink RX4 114 yX4_expectedOn]
def wsL_law0_r18 : List Cond := [Cond.instanceMethod yX4_expectedOn, Cond.selects RX4 yX4_expectedOn yX4_expectedOn, Cond.code yX4_expectedOn cX4_expectedOn 3 (some .int), Cond.methodLink RX4 111 Lib.Math.min.name, Cond.methodLink RL 137 yL_fullOn, Cond.static yL_fullOn, Cond.codeWith yL_fullOn cL_fullOn 4 (some .int) [(0, 9, 12, 19)], Cond.methodLink RL 53 yX3_fullOn, Cond.instanceMethod yX3_fullOn, Cond.selects RX3 yX3_fullOn yX3_fullOn, Cond.code yX3_fullOn cX3_fullOn 4 (some .int), Cond.methodLink RX3 143 yX0_isFullOn, Cond.instanceMethod yX0_isFullOn, Cond.selects RX0 yX0_isFullOn yX0_isFullOn, Cond.code yX0_isFullOn cX0_isFullOn 2 (some .boolean), Cond.methodLink RX0 47 yX0_forecast, Cond.methodLink RL 139 yX4_fullOn, Cond.instanceMethod yX4_fullOn, Cond.selects RX4 yX4_fullOn yX4_fullOn, Cond.code yX4_fullOn cX4_fullOn 3 (some .int), Cond.methodLink RL 140 yL_planSize, Cond.static yL_planSize, Cond.codeWith yL_planSize cL_planSize 4 (some .int) [(0, 9, 12, 19)], Cond.methodLink RL 56 yX3_planSize]
def wsL_law0_r19 : List Cond := [Cond.instanceMethod yX3_planSize, Cond.selects RX3 yX3_planSize yX3_planSize, Cond.code yX3_planSize cX3_planSize 2 (some .int), Cond.methodLink RX3 147 yX3_planRoute, Cond.instanceMethod yX3_planRoute, Cond.selects RX3 yX3_planRoute yX3_planRoute, Cond.code yX3_planRoute cX3_planRoute 7 none, Cond.methodLink RX3 217 yX3_nextWorkday, Cond.methodLink RX3 220 yX0_isDue, Cond.instanceMethod yX0_isDue, Cond.selects RX0 yX0_isDue yX0_isDue, Cond.code yX0_isDue cX0_isDue 3 (some .boolean), Cond.methodLink RX0 51 yX0_isFullOn, Cond.methodLink RX3 223 yX3_nearestStop, Cond.instanceMethod yX3_nearestStop, Cond.selects RX3 yX3_nearestStop yX3_nearestStop, Cond.code yX3_nearestStop cX3_nearestStop 7 (some .int), Cond.methodLink RL 142 yX4_planSize, Cond.instanceMethod yX4_planSize, Cond.selects RX4 yX4_planSize yX4_planSize, Cond.code yX4_planSize cX4_planSize 2 (some .int), Cond.fieldLink RX4 117 "RefusePlannerModel" "planned" "I", Cond.methodLink RX4 123 yX4_makePlan, Cond.instanceMethod yX4_makePlan]
def wsL_law0_r20 : List Cond := [Cond.selects RX4 yX4_makePlan yX4_makePlan, Cond.code yX4_makePlan cX4_makePlan 7 none, Cond.methodLink RX4 120 yX4_isDue, Cond.instanceMethod yX4_isDue, Cond.selects RX4 yX4_isDue yX4_isDue, Cond.code yX4_isDue cX4_isDue 2 (some .boolean), Cond.methodLink RL 143 yL_planned, Cond.static yL_planned, Cond.codeWith yL_planned cL_planned 5 (some .int) [(0, 10, 13, 19)], Cond.methodLink RL 59 yX3_planned, Cond.instanceMethod yX3_planned, Cond.selects RX3 yX3_planned yX3_planned, Cond.code yX3_planned cX3_planned 3 (some .int), Cond.methodLink RL 145 yX4_planned, Cond.instanceMethod yX4_planned, Cond.selects RX4 yX4_planned yX4_planned, Cond.code yX4_planned cX4_planned 3 (some .int), Cond.methodLink RL 146 yL_collect, Cond.static yL_collect, Cond.codeWith yL_collect cL_collect 5 (some .int) [(0, 10, 13, 19), (0, 10, 17, 21), (0, 10, 21, 13)], Cond.methodLink RL 62 yX3_collect, Cond.instanceMethod yX3_collect, Cond.selects RX3 yX3_collect yX3_collect, Cond.code yX3_collect cX3_collect 3 (some .int)]
def wsL_law0_r21 : List Cond := [Cond.methodLink RX3 152 yX3_checkWorkday, Cond.instanceMethod yX3_checkWorkday, Cond.selects RX3 yX3_checkWorkday yX3_checkWorkday, Cond.code yX3_checkWorkday cX3_checkWorkday 1 none, Cond.methodLink RX3 155 yX3_makeTour, Cond.instanceMethod yX3_makeTour, Cond.selects RX3 yX3_makeTour yX3_makeTour, Cond.code yX3_makeTour cX3_makeTour 7 (some .int), Cond.classLink RX3 161 RX2, Cond.instantiable RX2 8, Cond.initialized RX2, Cond.methodLink RX3 163 yX2_init, Cond.instanceMethod yX2_init, Cond.code yX2_init cX2_init 4 none, Cond.methodLink RX2 3 objectInit, Cond.fieldLink RX2 9 "RefusePlanner$Tour" "region" "LRefusePlanner$Region;", Cond.fieldLink RX2 15 "RefusePlanner$Tour" "kind" "I", Cond.fieldLink RX2 19 "RefusePlanner$Tour" "capacity" "I", Cond.fieldLink RX2 22 "RefusePlanner$Tour" "at" "I", Cond.fieldLink RX2 25 "RefusePlanner$Tour" "load" "I", Cond.fieldLink RX2 28 "RefusePlanner$Tour" "minutes" "I", Cond.fieldLink RX2 31 "RefusePlanner$Tour" "tipVisits" "I", Cond.fieldLink RX2 34 "RefusePlanner$Tour" "litres" "I", Cond.methodLink RX3 166 yX2_visit]
def wsL_law0_r22 : List Cond := [Cond.instanceMethod yX2_visit, Cond.selects RX2 yX2_visit yX2_visit, Cond.code yX2_visit cX2_visit 3 (some .int), Cond.methodLink RX2 56 Lib.Math.min.name, Cond.methodLink RX2 42 yX2_driveTo, Cond.instanceMethod yX2_driveTo, Cond.selects RX2 yX2_driveTo yX2_driveTo, Cond.code yX2_driveTo cX2_driveTo 2 none, Cond.methodLink RX2 62 yX1_between, Cond.methodLink RX2 53 yX2_unloadOnTheWayTo, Cond.instanceMethod yX2_unloadOnTheWayTo, Cond.selects RX2 yX2_unloadOnTheWayTo yX2_unloadOnTheWayTo, Cond.code yX2_unloadOnTheWayTo cX2_unloadOnTheWayTo 2 none, Cond.methodLink RX2 67 yX1_overTip, Cond.instanceMethod yX1_overTip, Cond.selects RX1 yX1_overTip yX1_overTip, Cond.code yX1_overTip cX1_overTip 6 (some .int), Cond.constant RX1 28 (2147483647), Cond.methodLink RX1 33 Lib.Math.min.name, Cond.methodLink RX1 29 yX1_between, Cond.methodLink RX3 229 yX0_endVisit, Cond.instanceMethod yX0_endVisit, Cond.selects RX0 yX0_endVisit yX0_endVisit, Cond.code yX0_endVisit cX0_endVisit 5 none]
def wsL_law0_r23 : List Cond := [Cond.methodLink RX3 170 yX2_end, Cond.instanceMethod yX2_end, Cond.selects RX2 yX2_end yX2_end, Cond.code yX2_end cX2_end 1 none, Cond.methodLink RL 148 yX4_collect, Cond.instanceMethod yX4_collect, Cond.selects RX4 yX4_collect yX4_collect, Cond.code yX4_collect cX4_collect 3 (some .int), Cond.methodLink RX4 135 yX4_isCapacity, Cond.static yX4_isCapacity, Cond.code yX4_isCapacity cX4_isCapacity 1 (some .boolean), Cond.methodLink RX4 138 yX4_tour, Cond.instanceMethod yX4_tour, Cond.selects RX4 yX4_tour yX4_tour, Cond.code yX4_tour cX4_tour 14 (some .int), Cond.methodLink RX4 127 yX4_tipFor, Cond.instanceMethod yX4_tipFor, Cond.selects RX4 yX4_tipFor yX4_tipFor, Cond.code yX4_tipFor cX4_tipFor 6 (some .int), Cond.methodLink RX4 131 yX4_empty, Cond.instanceMethod yX4_empty, Cond.selects RX4 yX4_empty yX4_empty, Cond.code yX4_empty cX4_empty 4 none, Cond.methodLink RL 149 yL_fetch]
def wsL_law0_r24 : List Cond := [Cond.static yL_fetch, Cond.codeWith yL_fetch cL_fetch 5 (some .int) [(0, 10, 13, 19), (0, 10, 17, 21), (0, 10, 21, 13)], Cond.methodLink RL 65 yX3_fetch, Cond.instanceMethod yX3_fetch, Cond.selects RX3 yX3_fetch yX3_fetch, Cond.code yX3_fetch cX3_fetch 3 (some .int), Cond.methodLink RL 151 yX4_fetch, Cond.instanceMethod yX4_fetch, Cond.selects RX4 yX4_fetch yX4_fetch, Cond.code yX4_fetch cX4_fetch 3 (some .int), Cond.methodLink RL 152 yL_wouldTake, Cond.static yL_wouldTake, Cond.codeWith yL_wouldTake cL_wouldTake 5 (some .int) [(0, 10, 13, 19), (0, 10, 17, 21)], Cond.methodLink RL 68 yX3_wouldTake, Cond.instanceMethod yX3_wouldTake, Cond.selects RX3 yX3_wouldTake yX3_wouldTake, Cond.code yX3_wouldTake cX3_wouldTake 5 (some .int), Cond.methodLink RL 154 yX4_wouldTake, Cond.instanceMethod yX4_wouldTake, Cond.selects RX4 yX4_wouldTake yX4_wouldTake, Cond.code yX4_wouldTake cX4_wouldTake 3 (some .int), Cond.methodLink RL 155 yL_total, Cond.static yL_total, Cond.codeWith yL_total cL_total 5 (some .int) [(0, 9, 12, 19)]]
def wsL_law0_r25 : List Cond := [Cond.methodLink RL 71 yX3_total, Cond.instanceMethod yX3_total, Cond.selects RX3 yX3_total yX3_total, Cond.code yX3_total cX3_total 3 (some .long), Cond.methodLink RL 157 yX4_total, Cond.instanceMethod yX4_total, Cond.selects RX4 yX4_total yX4_total, Cond.code yX4_total cX4_total 3 (some .long), Cond.methodLink RL 158 yL_wasted, Cond.static yL_wasted, Cond.codeWith yL_wasted cL_wasted 4 (some .int) [(0, 8, 11, 19)], Cond.methodLink RL 75 yX3_wasted, Cond.instanceMethod yX3_wasted, Cond.selects RX3 yX3_wasted yX3_wasted, Cond.code yX3_wasted cX3_wasted 2 (some .long), Cond.methodLink RL 160 yX4_wasted, Cond.instanceMethod yX4_wasted, Cond.selects RX4 yX4_wasted yX4_wasted, Cond.code yX4_wasted cX4_wasted 2 (some .long), Cond.methodLink RL 161 yX3_error, Cond.instanceMethod yX3_error, Cond.selects RX3 yX3_error yX3_error, Cond.code yX3_error cX3_error 5 (some .double), Cond.methodLink RX3 181 Lib.Math.abs.name]
def wsL_law0_r26 : List Cond := [Cond.static Lib.Math.abs.name, Cond.code Lib.Math.abs.name Lib.Math.abs.code 1 (some .int), Cond.methodLink RL 165 yX4_error, Cond.instanceMethod yX4_error, Cond.selects RX4 yX4_error yX4_error, Cond.code yX4_error cX4_error 4 (some .double), Cond.methodLink RX4 142 Lib.Math.abs.name, Cond.methodLink RL 166 yX3_digest, Cond.instanceMethod yX3_digest, Cond.selects RX3 yX3_digest yX3_digest, Cond.code yX3_digest cX3_digest 3 (some .long), Cond.constantLong RX3 188 (197), Cond.methodLink RX3 190 yX3_mix, Cond.static yX3_mix, Cond.code yX3_mix cX3_mix 4 (some .long), Cond.constantLong RX3 242 (31), Cond.methodLink RX3 194 yX3_mixRegion, Cond.instanceMethod yX3_mixRegion, Cond.selects RX3 yX3_mixRegion yX3_mixRegion, Cond.code yX3_mixRegion cX3_mixRegion 7 (some .long), Cond.methodLink RX3 198 yX3_mixBins, Cond.instanceMethod yX3_mixBins, Cond.selects RX3 yX3_mixBins yX3_mixBins, Cond.code yX3_mixBins cX3_mixBins 7 (some .long)]
def wsL_law0_r27 : List Cond := [Cond.methodLink RX3 201 yX3_mixTotals, Cond.instanceMethod yX3_mixTotals, Cond.selects RX3 yX3_mixTotals yX3_mixTotals, Cond.code yX3_mixTotals cX3_mixTotals 7 (some .long), Cond.methodLink RL 170 yX4_digest, Cond.instanceMethod yX4_digest, Cond.selects RX4 yX4_digest yX4_digest, Cond.code yX4_digest cX4_digest 5 (some .long), Cond.constantLong RX4 145 (6107), Cond.constantLong RX4 147 (31)]
def wsL_law0 : List Cond := (wsL_law0_r1 ++ (wsL_law0_r2 ++ (wsL_law0_r3 ++ (wsL_law0_r4 ++ (wsL_law0_r5 ++ (wsL_law0_r6 ++ (wsL_law0_r7 ++ (wsL_law0_r8 ++ (wsL_law0_r9 ++ (wsL_law0_r10 ++ (wsL_law0_r11 ++ (wsL_law0_r12 ++ (wsL_law0_r13 ++ (wsL_law0_r14 ++ (wsL_law0_r15 ++ (wsL_law0_r16 ++ (wsL_law0_r17 ++ (wsL_law0_r18 ++ (wsL_law0_r19 ++ (wsL_law0_r20 ++ (wsL_law0_r21 ++ (wsL_law0_r22 ++ (wsL_law0_r23 ++ (wsL_law0_r24 ++ (wsL_law0_r25 ++ (wsL_law0_r26 ++ wsL_law0_r27)))))))))))))))))))))))))) ++ wsX30 ++ wsX40 ++ wsX10 ++ wsJx4a65c0 ++ wsX00 ++ wsX20 ++ ([] : List Cond)
def wsL_law : List Cond := wsL_law0 ++ (vx_atS RX3 52 "java/lang/IllegalStateException" ["java/lang/RuntimeException", "java/lang/Exception"]).filter goodWord ++ (vx_atS RX3 67 "java/lang/IllegalArgumentException" ["java/lang/RuntimeException", "java/lang/Exception"]).filter goodWord ++ (vx_atS RX3 100 "java/lang/IndexOutOfBoundsException" ["java/lang/RuntimeException", "java/lang/Exception"]).filter goodWord
set_option maxRecDepth 20000 in
theorem wsL_law0_r1_in : ∀ w ∈ wsL_law0_r1, w ∈ lw_tbl := fun w h => (goodIn_p (big := lw_tbl) wsL_law0_r1 [55, 58] rfl (by decide +kernel) w h).1
set_option maxRecDepth 20000 in
theorem wsL_law0_r2_in : ∀ w ∈ wsL_law0_r2, w ∈ lw_tbl := fun w h => (goodIn_p (big := lw_tbl) wsL_law0_r2 [63, 82, 85] rfl (by decide +kernel) w h).1
set_option maxRecDepth 20000 in
theorem wsL_law0_r3_in : ∀ w ∈ wsL_law0_r3, w ∈ lw_tbl := fun w h => (goodIn_p (big := lw_tbl) wsL_law0_r3 [88, 685] rfl (by decide +kernel) w h).1
set_option maxRecDepth 20000 in
theorem wsL_law0_r4_in : ∀ w ∈ wsL_law0_r4, w ∈ lw_tbl := fun w h => (goodIn_p (big := lw_tbl) wsL_law0_r4 [212, 284, 758, 762] rfl (by decide +kernel) w h).1
set_option maxRecDepth 20000 in
theorem wsL_law0_r5_in : ∀ w ∈ wsL_law0_r5, w ∈ lw_tbl := fun w h => (goodIn_p (big := lw_tbl) wsL_law0_r5 [754, 293, 297] rfl (by decide +kernel) w h).1
set_option maxRecDepth 20000 in
theorem wsL_law0_r6_in : ∀ w ∈ wsL_law0_r6, w ∈ lw_tbl := fun w h => (goodIn_p (big := lw_tbl) wsL_law0_r6 [333, 192, 338, 766, 770, 773, 777] rfl (by decide +kernel) w h).1
set_option maxRecDepth 20000 in
theorem wsL_law0_r7_in : ∀ w ∈ wsL_law0_r7, w ∈ lw_tbl := fun w h => (goodIn_p (big := lw_tbl) wsL_law0_r7 [345, 349, 354, 358, 364] rfl (by decide +kernel) w h).1
set_option maxRecDepth 20000 in
theorem wsL_law0_r8_in : ∀ w ∈ wsL_law0_r8, w ∈ lw_tbl := fun w h => (goodIn_p (big := lw_tbl) wsL_law0_r8 [781, 784, 787, 371, 791] rfl (by decide +kernel) w h).1
set_option maxRecDepth 20000 in
theorem wsL_law0_r9_in : ∀ w ∈ wsL_law0_r9, w ∈ lw_tbl := fun w h => (goodIn_p (big := lw_tbl) wsL_law0_r9 [379, 384, 146, 154, 157] rfl (by decide +kernel) w h).1
set_option maxRecDepth 20000 in
theorem wsL_law0_r10_in : ∀ w ∈ wsL_law0_r10, w ∈ lw_tbl := fun w h => (goodIn_p (big := lw_tbl) wsL_law0_r10 [160, 164, 388, 391, 795] rfl (by decide +kernel) w h).1
set_option maxRecDepth 20000 in
theorem wsL_law0_r11_in : ∀ w ∈ wsL_law0_r11, w ∈ lw_tbl := fun w h => (goodIn_p (big := lw_tbl) wsL_law0_r11 [134, 800, 138, 804, 808] rfl (by decide +kernel) w h).1
set_option maxRecDepth 20000 in
theorem wsL_law0_r12_in : ∀ w ∈ wsL_law0_r12, w ∈ lw_tbl := fun w h => (goodIn_p (big := lw_tbl) wsL_law0_r12 [398, 404, 449] rfl (by decide +kernel) w h).1
set_option maxRecDepth 20000 in
theorem wsL_law0_r13_in : ∀ w ∈ wsL_law0_r13, w ∈ lw_tbl := fun w h => (goodIn_p (big := lw_tbl) wsL_law0_r13 [453, 457, 461, 464, 469] rfl (by decide +kernel) w h).1
set_option maxRecDepth 20000 in
theorem wsL_law0_r14_in : ∀ w ∈ wsL_law0_r14, w ∈ lw_tbl := fun w h => (goodIn_p (big := lw_tbl) wsL_law0_r14 [472, 488, 172, 812] rfl (by decide +kernel) w h).1
set_option maxRecDepth 20000 in
theorem wsL_law0_r15_in : ∀ w ∈ wsL_law0_r15, w ∈ lw_tbl := fun w h => (goodIn_p (big := lw_tbl) wsL_law0_r15 [504, 508, 816, 820, 516] rfl (by decide +kernel) w h).1
set_option maxRecDepth 20000 in
theorem wsL_law0_r16_in : ∀ w ∈ wsL_law0_r16, w ∈ lw_tbl := fun w h => (goodIn_p (big := lw_tbl) wsL_law0_r16 [824, 142, 828, 523, 200] rfl (by decide +kernel) w h).1
set_option maxRecDepth 20000 in
theorem wsL_law0_r17_in : ∀ w ∈ wsL_law0_r17, w ∈ lw_tbl := fun w h => (goodIn_p (big := lw_tbl) wsL_law0_r17 [832, 836, 531, 169, 840] rfl (by decide +kernel) w h).1
set_option maxRecDepth 20000 in
theorem wsL_law0_r18_in : ∀ w ∈ wsL_law0_r18, w ∈ lw_tbl := fun w h => (goodIn_p (big := lw_tbl) wsL_law0_r18 [844, 538, 542, 849] rfl (by decide +kernel) w h).1
set_option maxRecDepth 20000 in
theorem wsL_law0_r19_in : ∀ w ∈ wsL_law0_r19, w ∈ lw_tbl := fun w h => (goodIn_p (big := lw_tbl) wsL_law0_r19 [550, 554, 559, 564, 853] rfl (by decide +kernel) w h).1
set_option maxRecDepth 20000 in
theorem wsL_law0_r20_in : ∀ w ∈ wsL_law0_r20, w ∈ lw_tbl := fun w h => (goodIn_p (big := lw_tbl) wsL_law0_r20 [857, 861, 571, 865, 579] rfl (by decide +kernel) w h).1
set_option maxRecDepth 20000 in
theorem wsL_law0_r21_in : ∀ w ∈ wsL_law0_r21, w ∈ lw_tbl := fun w h => (goodIn_p (big := lw_tbl) wsL_law0_r21 [583, 588, 593] rfl (by decide +kernel) w h).1
set_option maxRecDepth 20000 in
theorem wsL_law0_r22_in : ∀ w ∈ wsL_law0_r22, w ∈ lw_tbl := fun w h => (goodIn_p (big := lw_tbl) wsL_law0_r22 [626, 630, 635, 639, 647] rfl (by decide +kernel) w h).1
set_option maxRecDepth 20000 in
theorem wsL_law0_r23_in : ∀ w ∈ wsL_law0_r23, w ∈ lw_tbl := fun w h => (goodIn_p (big := lw_tbl) wsL_law0_r23 [651, 869, 872, 876, 880, 884] rfl (by decide +kernel) w h).1
set_option maxRecDepth 20000 in
theorem wsL_law0_r24_in : ∀ w ∈ wsL_law0_r24, w ∈ lw_tbl := fun w h => (goodIn_p (big := lw_tbl) wsL_law0_r24 [658, 888, 665, 892] rfl (by decide +kernel) w h).1
set_option maxRecDepth 20000 in
theorem wsL_law0_r25_in : ∀ w ∈ wsL_law0_r25, w ∈ lw_tbl := fun w h => (goodIn_p (big := lw_tbl) wsL_law0_r25 [672, 896, 680, 900, 150] rfl (by decide +kernel) w h).1
set_option maxRecDepth 20000 in
theorem wsL_law0_r26_in : ∀ w ∈ wsL_law0_r26, w ∈ lw_tbl := fun w h => (goodIn_p (big := lw_tbl) wsL_law0_r26 [175, 904, 179, 183, 188, 196] rfl (by decide +kernel) w h).1
set_option maxRecDepth 20000 in
theorem wsL_law0_r27_in : ∀ w ∈ wsL_law0_r27, w ∈ lw_tbl := fun w h => (goodIn_p (big := lw_tbl) wsL_law0_r27 [204, 909] rfl (by decide +kernel) w h).1
set_option maxRecDepth 100000 in
theorem wsL_law_in0 : ∀ w ∈ wsL_law0, w ∈ lw_tbl := (List.forall_mem_append.mpr ⟨wsL_law0_r1_in, (List.forall_mem_append.mpr ⟨wsL_law0_r2_in, (List.forall_mem_append.mpr ⟨wsL_law0_r3_in, (List.forall_mem_append.mpr ⟨wsL_law0_r4_in, (List.forall_mem_append.mpr ⟨wsL_law0_r5_in, (List.forall_mem_append.mpr ⟨wsL_law0_r6_in, (List.forall_mem_append.mpr ⟨wsL_law0_r7_in, (List.forall_mem_append.mpr ⟨wsL_law0_r8_in, (List.forall_mem_append.mpr ⟨wsL_law0_r9_in, (List.forall_mem_append.mpr ⟨wsL_law0_r10_in, (List.forall_mem_append.mpr ⟨wsL_law0_r11_in, (List.forall_mem_append.mpr ⟨wsL_law0_r12_in, (List.forall_mem_append.mpr ⟨wsL_law0_r13_in, (List.forall_mem_append.mpr ⟨wsL_law0_r14_in, (List.forall_mem_append.mpr ⟨wsL_law0_r15_in, (List.forall_mem_append.mpr ⟨wsL_law0_r16_in, (List.forall_mem_append.mpr ⟨wsL_law0_r17_in, (List.forall_mem_append.mpr ⟨wsL_law0_r18_in, (List.forall_mem_append.mpr ⟨wsL_law0_r19_in, (List.forall_mem_append.mpr ⟨wsL_law0_r20_in, (List.forall_mem_append.mpr ⟨wsL_law0_r21_in, (List.forall_mem_append.mpr ⟨wsL_law0_r22_in, (List.forall_mem_append.mpr ⟨wsL_law0_r23_in, (List.forall_mem_append.mpr ⟨wsL_law0_r24_in, (List.forall_mem_append.mpr ⟨wsL_law0_r25_in, (List.forall_mem_append.mpr ⟨wsL_law0_r26_in, wsL_law0_r27_in⟩)⟩)⟩)⟩)⟩)⟩)⟩)⟩)⟩)⟩)⟩)⟩)⟩)⟩)⟩)⟩)⟩)⟩)⟩)⟩)⟩)⟩)⟩)⟩)⟩)⟩)
theorem wsL_law_x0 : ∀ w ∈ (vx_atS RX3 52 "java/lang/IllegalStateException" ["java/lang/RuntimeException", "java/lang/Exception"]).filter goodWord, w ∈ lw_tbl := by decide +kernel
theorem wsL_law_x1 : ∀ w ∈ (vx_atS RX3 67 "java/lang/IllegalArgumentException" ["java/lang/RuntimeException", "java/lang/Exception"]).filter goodWord, w ∈ lw_tbl := by decide +kernel
theorem wsL_law_x2 : ∀ w ∈ (vx_atS RX3 100 "java/lang/IndexOutOfBoundsException" ["java/lang/RuntimeException", "java/lang/Exception"]).filter goodWord, w ∈ lw_tbl := by decide +kernel
theorem wsL_law_in : ∀ w ∈ wsL_law, w ∈ lw_tbl := fun w h => (List.mem_append.mp h).elim (fun h => (List.mem_append.mp h).elim (fun h => (List.mem_append.mp h).elim (fun h => wsL_law_in0 w h) (fun h => wsL_law_x0 w h)) (fun h => wsL_law_x1 w h)) (fun h => wsL_law_x2 w h)
theorem inlX0 : ∀ w ∈ wsX00, w ∈ wsL_law := fun _ h => List.mem_append_left _ (List.mem_append_left _ (List.mem_append_left _ (List.mem_append_left _ (List.mem_append_left _ (List.mem_append_right _ h)))))
theorem inX0 : ∀ w ∈ wsX00, w ∈ lw_tbl := fun w h => wsL_law_in w (inlX0 w h)
theorem inlX1 : ∀ w ∈ wsX10, w ∈ wsL_law := fun _ h => List.mem_append_left _ (List.mem_append_left _ (List.mem_append_left _ (List.mem_append_left _ (List.mem_append_left _ (List.mem_append_left _ (List.mem_append_left _ (List.mem_append_right _ h)))))))
theorem inX1 : ∀ w ∈ wsX10, w ∈ lw_tbl := fun w h => wsL_law_in w (inlX1 w h)
theorem inlX2 : ∀ w ∈ wsX20, w ∈ wsL_law := fun _ h => List.mem_append_left _ (List.mem_append_left _ (List.mem_append_left _ (List.mem_append_left _ (List.mem_append_right _ h))))
theorem inX2 : ∀ w ∈ wsX20, w ∈ lw_tbl := fun w h => wsL_law_in w (inlX2 w h)
theorem inlX3 : ∀ w ∈ wsX30, w ∈ wsL_law := fun _ h => List.mem_append_left _ (List.mem_append_left _ (List.mem_append_left _ (List.mem_append_left _ (List.mem_append_left _ (List.mem_append_left _ (List.mem_append_left _ (List.mem_append_left _ (List.mem_append_left _ (List.mem_append_right _ h)))))))))
theorem inX3 : ∀ w ∈ wsX30, w ∈ lw_tbl := fun w h => wsL_law_in w (inlX3 w h)
theorem inlX4 : ∀ w ∈ wsX40, w ∈ wsL_law := fun _ h => List.mem_append_left _ (List.mem_append_left _ (List.mem_append_left _ (List.mem_append_left _ (List.mem_append_left _ (List.mem_append_left _ (List.mem_append_left _ (List.mem_append_left _ (List.mem_append_right _ h))))))))
theorem inX4 : ∀ w ∈ wsX40, w ∈ lw_tbl := fun w h => wsL_law_in w (inlX4 w h)
theorem inJx145de : ∀ w ∈ wsJx145de0, w ∈ lw_tbl := by decide +kernel
theorem inJx8e188 : ∀ w ∈ wsJx8e1880, w ∈ lw_tbl := by decide +kernel
theorem inJxab1ab : ∀ w ∈ wsJxab1ab0, w ∈ lw_tbl := by decide +kernel
theorem inJ9 : ∀ w ∈ wsJ90, w ∈ lw_tbl := by decide +kernel
theorem inJ0 : ∀ w ∈ wsJ00, w ∈ lw_tbl := by decide +kernel
theorem inJ10 : ∀ w ∈ wsJ100, w ∈ lw_tbl := by decide +kernel
theorem inJxa1e45 : ∀ w ∈ wsJxa1e450, w ∈ lw_tbl := by decide +kernel
theorem inJxc12de : ∀ w ∈ wsJxc12de0, w ∈ lw_tbl := by decide +kernel
theorem inlJx4a65c : ∀ w ∈ wsJx4a65c0, w ∈ wsL_law := fun _ h => List.mem_append_left _ (List.mem_append_left _ (List.mem_append_left _ (List.mem_append_left _ (List.mem_append_left _ (List.mem_append_left _ (List.mem_append_right _ h))))))
theorem inJx4a65c : ∀ w ∈ wsJx4a65c0, w ∈ lw_tbl := fun w h => wsL_law_in w (inlJx4a65c w h)
theorem inJ7 : ∀ w ∈ wsJ70, w ∈ lw_tbl := by decide +kernel
theorem inJx5ef63 : ∀ w ∈ wsJx5ef630, w ∈ lw_tbl := by decide +kernel
theorem inJxbd725 : ∀ w ∈ wsJxbd7250, w ∈ lw_tbl := by decide +kernel
theorem inJ15 : ∀ w ∈ wsJ150, w ∈ lw_tbl := by decide +kernel
theorem inJxf0a74 : ∀ w ∈ wsJxf0a740, w ∈ lw_tbl := by decide +kernel
theorem inJxa66e6 : ∀ w ∈ wsJxa66e60, w ∈ lw_tbl := by decide +kernel
theorem inJ8 : ∀ w ∈ wsJ80, w ∈ lw_tbl := by decide +kernel
theorem inJ3 : ∀ w ∈ wsJ30, w ∈ lw_tbl := by decide +kernel
end
section
theorem dX0_init_0 : decode cX0_init 0 = .ok (.aload_n 0, 1) := by decide +kernel
theorem dX0_init_1 : decode cX0_init 1 = .ok (.invokespecial 1, 3) := by decide +kernel
theorem dX0_init_4 : decode cX0_init 4 = .ok (.aload_n 0, 1) := by decide +kernel
theorem dX0_init_5 : decode cX0_init 5 = .ok (.iload_n 1, 1) := by decide +kernel
theorem dX0_init_6 : decode cX0_init 6 = .ok (.putfield 7, 3) := by decide +kernel
theorem dX0_init_9 : decode cX0_init 9 = .ok (.aload_n 0, 1) := by decide +kernel
theorem dX0_init_10 : decode cX0_init 10 = .ok (.iload_n 2, 1) := by decide +kernel
theorem dX0_init_11 : decode cX0_init 11 = .ok (.putfield 13, 3) := by decide +kernel
theorem dX0_init_14 : decode cX0_init 14 = .ok (.aload_n 0, 1) := by decide +kernel
theorem dX0_init_15 : decode cX0_init 15 = .ok (.iload_n 3, 1) := by decide +kernel
theorem dX0_init_16 : decode cX0_init 16 = .ok (.putfield 16, 3) := by decide +kernel
theorem dX0_init_19 : decode cX0_init 19 = .ok (.aload_n 0, 1) := by decide +kernel
theorem dX0_init_20 : decode cX0_init 20 = .ok (.iload 4, 2) := by decide +kernel
theorem dX0_init_22 : decode cX0_init 22 = .ok (.putfield 19, 3) := by decide +kernel
theorem dX0_init_25 : decode cX0_init 25 = .ok (.aload_n 0, 1) := by decide +kernel
theorem dX0_init_26 : decode cX0_init 26 = .ok (.iconst 0, 1) := by decide +kernel
theorem dX0_init_27 : decode cX0_init 27 = .ok (.putfield 22, 3) := by decide +kernel
theorem dX0_init_30 : decode cX0_init 30 = .ok (.aload_n 0, 1) := by decide +kernel
theorem dX0_init_31 : decode cX0_init 31 = .ok (.iload_n 3, 1) := by decide +kernel
theorem dX0_init_32 : decode cX0_init 32 = .ok (.iconst 2, 1) := by decide +kernel
theorem dX0_init_33 : decode cX0_init 33 = .ok (.idiv, 1) := by decide +kernel
theorem dX0_init_34 : decode cX0_init 34 = .ok (.putfield 25, 3) := by decide +kernel
theorem dX0_init_37 : decode cX0_init 37 = .ok (.aload_n 0, 1) := by decide +kernel
theorem dX0_init_38 : decode cX0_init 38 = .ok (.iload 5, 2) := by decide +kernel
theorem dX0_init_40 : decode cX0_init 40 = .ok (.putfield 28, 3) := by decide +kernel
theorem dX0_init_43 : decode cX0_init 43 = .ok (.aload_n 0, 1) := by decide +kernel
theorem dX0_init_44 : decode cX0_init 44 = .ok (.iconst 0, 1) := by decide +kernel
theorem dX0_init_45 : decode cX0_init 45 = .ok (.putfield 31, 3) := by decide +kernel
theorem dX0_init_48 : decode cX0_init 48 = .ok (.aload_n 0, 1) := by decide +kernel
theorem dX0_init_49 : decode cX0_init 49 = .ok (.iconst 0, 1) := by decide +kernel
theorem dX0_init_50 : decode cX0_init 50 = .ok (.putfield 34, 3) := by decide +kernel
theorem dX0_init_53 : decode cX0_init 53 = .ok (.aload_n 0, 1) := by decide +kernel
theorem dX0_init_54 : decode cX0_init 54 = .ok (.iconst 0, 1) := by decide +kernel
theorem dX0_init_55 : decode cX0_init 55 = .ok (.putfield 37, 3) := by decide +kernel
theorem dX0_init_58 : decode cX0_init 58 = .ok (.return_, 1) := by decide +kernel
theorem dX0_fact_0 : decode cX0_fact 0 = .ok (.iload_n 1, 1) := by decide +kernel
theorem dX0_fact_1 : decode cX0_fact 1 = .ok (.tableswitch 78 0 6 #[43, 48, 53, 58, 63, 68, 73], 43) := by decide +kernel
theorem dX0_fact_44 : decode cX0_fact 44 = .ok (.aload_n 0, 1) := by decide +kernel
theorem dX0_fact_45 : decode cX0_fact 45 = .ok (.getfield 7, 3) := by decide +kernel
theorem dX0_fact_48 : decode cX0_fact 48 = .ok (.ireturn, 1) := by decide +kernel
theorem dX0_fact_49 : decode cX0_fact 49 = .ok (.aload_n 0, 1) := by decide +kernel
theorem dX0_fact_50 : decode cX0_fact 50 = .ok (.getfield 13, 3) := by decide +kernel
theorem dX0_fact_53 : decode cX0_fact 53 = .ok (.ireturn, 1) := by decide +kernel
theorem dX0_fact_54 : decode cX0_fact 54 = .ok (.aload_n 0, 1) := by decide +kernel
theorem dX0_fact_55 : decode cX0_fact 55 = .ok (.getfield 22, 3) := by decide +kernel
theorem dX0_fact_58 : decode cX0_fact 58 = .ok (.ireturn, 1) := by decide +kernel
theorem dX0_fact_59 : decode cX0_fact 59 = .ok (.aload_n 0, 1) := by decide +kernel
theorem dX0_fact_60 : decode cX0_fact 60 = .ok (.getfield 25, 3) := by decide +kernel
theorem dX0_fact_63 : decode cX0_fact 63 = .ok (.ireturn, 1) := by decide +kernel
theorem dX0_fact_64 : decode cX0_fact 64 = .ok (.aload_n 0, 1) := by decide +kernel
theorem dX0_fact_65 : decode cX0_fact 65 = .ok (.getfield 28, 3) := by decide +kernel
theorem dX0_fact_68 : decode cX0_fact 68 = .ok (.ireturn, 1) := by decide +kernel
theorem dX0_fact_69 : decode cX0_fact 69 = .ok (.aload_n 0, 1) := by decide +kernel
theorem dX0_fact_70 : decode cX0_fact 70 = .ok (.getfield 31, 3) := by decide +kernel
theorem dX0_fact_73 : decode cX0_fact 73 = .ok (.ireturn, 1) := by decide +kernel
theorem dX0_fact_74 : decode cX0_fact 74 = .ok (.aload_n 0, 1) := by decide +kernel
theorem dX0_fact_75 : decode cX0_fact 75 = .ok (.getfield 34, 3) := by decide +kernel
theorem dX0_fact_78 : decode cX0_fact 78 = .ok (.ireturn, 1) := by decide +kernel
theorem dX0_fact_79 : decode cX0_fact 79 = .ok (.aload_n 0, 1) := by decide +kernel
theorem dX0_fact_80 : decode cX0_fact 80 = .ok (.getfield 37, 3) := by decide +kernel
theorem dX0_fact_83 : decode cX0_fact 83 = .ok (.ifCond .eq 7, 3) := by decide +kernel
theorem dX0_fact_86 : decode cX0_fact 86 = .ok (.iconst 1, 1) := by decide +kernel
theorem dX0_fact_87 : decode cX0_fact 87 = .ok (.goto 4, 3) := by decide +kernel
theorem dX0_fact_90 : decode cX0_fact 90 = .ok (.iconst 0, 1) := by decide +kernel
theorem dX0_fact_91 : decode cX0_fact 91 = .ok (.ireturn, 1) := by decide +kernel
theorem dX0_forecast_0 : decode cX0_forecast 0 = .ok (.aload_n 0, 1) := by decide +kernel
theorem dX0_forecast_1 : decode cX0_forecast 1 = .ok (.getfield 16, 3) := by decide +kernel
theorem dX0_forecast_4 : decode cX0_forecast 4 = .ok (.aload_n 0, 1) := by decide +kernel
theorem dX0_forecast_5 : decode cX0_forecast 5 = .ok (.getfield 25, 3) := by decide +kernel
theorem dX0_forecast_8 : decode cX0_forecast 8 = .ok (.iload_n 1, 1) := by decide +kernel
theorem dX0_forecast_9 : decode cX0_forecast 9 = .ok (.aload_n 0, 1) := by decide +kernel
theorem dX0_forecast_10 : decode cX0_forecast 10 = .ok (.getfield 28, 3) := by decide +kernel
theorem dX0_forecast_13 : decode cX0_forecast 13 = .ok (.isub, 1) := by decide +kernel
theorem dX0_forecast_14 : decode cX0_forecast 14 = .ok (.imul, 1) := by decide +kernel
theorem dX0_forecast_15 : decode cX0_forecast 15 = .ok (.bipush 10, 2) := by decide +kernel
theorem dX0_forecast_17 : decode cX0_forecast 17 = .ok (.idiv, 1) := by decide +kernel
theorem dX0_forecast_18 : decode cX0_forecast 18 = .ok (.invokestatic 41, 3) := by decide +kernel
theorem dX0_forecast_21 : decode cX0_forecast 21 = .ok (.ireturn, 1) := by decide +kernel
set_option maxRecDepth 20000 in
theorem ggX0_isFullOn_X0_forecast : GoodIn wsX0_isFullOn wsX0_forecast := goodIn_r _ [6, 1, 7, 8, 9, 10, 11, 12, 13, 14, 15, 16, 17, 18, 19, 20, 21, 22] (by decide +kernel) (by decide +kernel)
set_option maxRecDepth 20000 in
theorem gX0_isFullOn_X0_forecast : GoodIn wsX0_isFullOn (wsV RX0 47 RX0 yX0_forecast wsX0_forecast) := goodIn_app (goodIn_of _ (by decide +kernel)) ggX0_isFullOn_X0_forecast
theorem dX0_isFullOn_0 : decode cX0_isFullOn 0 = .ok (.aload_n 0, 1) := by decide +kernel
theorem dX0_isFullOn_1 : decode cX0_isFullOn 1 = .ok (.iload_n 1, 1) := by decide +kernel
theorem dX0_isFullOn_2 : decode cX0_isFullOn 2 = .ok (.invokevirtual 47, 3) := by decide +kernel
theorem dX0_isFullOn_5 : decode cX0_isFullOn 5 = .ok (.aload_n 0, 1) := by decide +kernel
theorem dX0_isFullOn_6 : decode cX0_isFullOn 6 = .ok (.getfield 16, 3) := by decide +kernel
theorem dX0_isFullOn_9 : decode cX0_isFullOn 9 = .ok (.if_icmp .ne 7, 3) := by decide +kernel
theorem dX0_isFullOn_12 : decode cX0_isFullOn 12 = .ok (.iconst 1, 1) := by decide +kernel
theorem dX0_isFullOn_13 : decode cX0_isFullOn 13 = .ok (.goto 4, 3) := by decide +kernel
theorem dX0_isFullOn_16 : decode cX0_isFullOn 16 = .ok (.iconst 0, 1) := by decide +kernel
theorem dX0_isFullOn_17 : decode cX0_isFullOn 17 = .ok (.ireturn, 1) := by decide +kernel
set_option maxRecDepth 20000 in
theorem ggX0_isDue_X0_forecast : GoodIn wsX0_isDue wsX0_forecast := goodIn_r _ [6, 1, 7, 8, 9, 10, 11, 12, 17, 18, 19, 20, 21, 22, 23, 24, 25, 26] (by decide +kernel) (by decide +kernel)
set_option maxRecDepth 20000 in
theorem gX0_isDue_X0_forecast : GoodIn wsX0_isDue (wsV RX0 47 RX0 yX0_forecast wsX0_forecast) := goodIn_app (goodIn_of _ (by decide +kernel)) ggX0_isDue_X0_forecast
set_option maxRecDepth 20000 in
theorem ggX0_isDue_X0_isFullOn : GoodIn wsX0_isDue wsX0_isFullOn := goodIn_r _ [16, 1, 2, 3, 4, 5, 6, 7, 8, 9, 10, 11, 12, 17, 18, 19, 20, 21, 22, 23, 24, 25, 26] (by decide +kernel) (by decide +kernel)
set_option maxRecDepth 20000 in
theorem gX0_isDue_X0_isFullOn : GoodIn wsX0_isDue (wsV RX0 51 RX0 yX0_isFullOn wsX0_isFullOn) := goodIn_app (goodIn_of _ (by decide +kernel)) ggX0_isDue_X0_isFullOn
theorem dX0_isDue_0 : decode cX0_isDue 0 = .ok (.iconst 4, 1) := by decide +kernel
theorem dX0_isDue_1 : decode cX0_isDue 1 = .ok (.aload_n 0, 1) := by decide +kernel
theorem dX0_isDue_2 : decode cX0_isDue 2 = .ok (.iload_n 1, 1) := by decide +kernel
theorem dX0_isDue_3 : decode cX0_isDue 3 = .ok (.invokevirtual 47, 3) := by decide +kernel
theorem dX0_isDue_6 : decode cX0_isDue 6 = .ok (.imul, 1) := by decide +kernel
theorem dX0_isDue_7 : decode cX0_isDue 7 = .ok (.iconst 3, 1) := by decide +kernel
theorem dX0_isDue_8 : decode cX0_isDue 8 = .ok (.aload_n 0, 1) := by decide +kernel
theorem dX0_isDue_9 : decode cX0_isDue 9 = .ok (.getfield 16, 3) := by decide +kernel
theorem dX0_isDue_12 : decode cX0_isDue 12 = .ok (.imul, 1) := by decide +kernel
theorem dX0_isDue_13 : decode cX0_isDue 13 = .ok (.if_icmp .ge 11, 3) := by decide +kernel
theorem dX0_isDue_16 : decode cX0_isDue 16 = .ok (.aload_n 0, 1) := by decide +kernel
theorem dX0_isDue_17 : decode cX0_isDue 17 = .ok (.iload_n 2, 1) := by decide +kernel
theorem dX0_isDue_18 : decode cX0_isDue 18 = .ok (.invokevirtual 51, 3) := by decide +kernel
theorem dX0_isDue_21 : decode cX0_isDue 21 = .ok (.ifCond .eq 7, 3) := by decide +kernel
theorem dX0_isDue_24 : decode cX0_isDue 24 = .ok (.iconst 1, 1) := by decide +kernel
theorem dX0_isDue_25 : decode cX0_isDue 25 = .ok (.goto 4, 3) := by decide +kernel
theorem dX0_isDue_28 : decode cX0_isDue 28 = .ok (.iconst 0, 1) := by decide +kernel
theorem dX0_isDue_29 : decode cX0_isDue 29 = .ok (.ireturn, 1) := by decide +kernel
theorem dX0_fill_0 : decode cX0_fill 0 = .ok (.iconst 0, 1) := by decide +kernel
theorem dX0_fill_1 : decode cX0_fill 1 = .ok (.aload_n 0, 1) := by decide +kernel
theorem dX0_fill_2 : decode cX0_fill 2 = .ok (.getfield 22, 3) := by decide +kernel
theorem dX0_fill_5 : decode cX0_fill 5 = .ok (.aload_n 0, 1) := by decide +kernel
theorem dX0_fill_6 : decode cX0_fill 6 = .ok (.getfield 19, 3) := by decide +kernel
theorem dX0_fill_9 : decode cX0_fill 9 = .ok (.iadd, 1) := by decide +kernel
theorem dX0_fill_10 : decode cX0_fill 10 = .ok (.aload_n 0, 1) := by decide +kernel
theorem dX0_fill_11 : decode cX0_fill 11 = .ok (.getfield 16, 3) := by decide +kernel
theorem dX0_fill_14 : decode cX0_fill 14 = .ok (.isub, 1) := by decide +kernel
theorem dX0_fill_15 : decode cX0_fill 15 = .ok (.invokestatic 55, 3) := by decide +kernel
theorem dX0_fill_18 : decode cX0_fill 18 = .ok (.istore_n 1, 1) := by decide +kernel
theorem dX0_fill_19 : decode cX0_fill 19 = .ok (.aload_n 0, 1) := by decide +kernel
theorem dX0_fill_20 : decode cX0_fill 20 = .ok (.aload_n 0, 1) := by decide +kernel
theorem dX0_fill_21 : decode cX0_fill 21 = .ok (.getfield 22, 3) := by decide +kernel
theorem dX0_fill_24 : decode cX0_fill 24 = .ok (.aload_n 0, 1) := by decide +kernel
theorem dX0_fill_25 : decode cX0_fill 25 = .ok (.getfield 19, 3) := by decide +kernel
theorem dX0_fill_28 : decode cX0_fill 28 = .ok (.iadd, 1) := by decide +kernel
theorem dX0_fill_29 : decode cX0_fill 29 = .ok (.iload_n 1, 1) := by decide +kernel
theorem dX0_fill_30 : decode cX0_fill 30 = .ok (.isub, 1) := by decide +kernel
theorem dX0_fill_31 : decode cX0_fill 31 = .ok (.putfield 22, 3) := by decide +kernel
theorem dX0_fill_34 : decode cX0_fill 34 = .ok (.aload_n 0, 1) := by decide +kernel
theorem dX0_fill_35 : decode cX0_fill 35 = .ok (.dup, 1) := by decide +kernel
theorem dX0_fill_36 : decode cX0_fill 36 = .ok (.getfield 31, 3) := by decide +kernel
theorem dX0_fill_39 : decode cX0_fill 39 = .ok (.iload_n 1, 1) := by decide +kernel
theorem dX0_fill_40 : decode cX0_fill 40 = .ok (.ifCond .le 7, 3) := by decide +kernel
theorem dX0_fill_43 : decode cX0_fill 43 = .ok (.iconst 1, 1) := by decide +kernel
theorem dX0_fill_44 : decode cX0_fill 44 = .ok (.goto 4, 3) := by decide +kernel
theorem dX0_fill_47 : decode cX0_fill 47 = .ok (.iconst 0, 1) := by decide +kernel
theorem dX0_fill_48 : decode cX0_fill 48 = .ok (.iadd, 1) := by decide +kernel
theorem dX0_fill_49 : decode cX0_fill 49 = .ok (.putfield 31, 3) := by decide +kernel
theorem dX0_fill_52 : decode cX0_fill 52 = .ok (.iload_n 1, 1) := by decide +kernel
theorem dX0_fill_53 : decode cX0_fill 53 = .ok (.ireturn, 1) := by decide +kernel
theorem dX0_endVisit_0 : decode cX0_endVisit 0 = .ok (.aload_n 0, 1) := by decide +kernel
theorem dX0_endVisit_1 : decode cX0_endVisit 1 = .ok (.getfield 37, 3) := by decide +kernel
theorem dX0_endVisit_4 : decode cX0_endVisit 4 = .ok (.ifCond .eq 19, 3) := by decide +kernel
theorem dX0_endVisit_7 : decode cX0_endVisit 7 = .ok (.aload_n 0, 1) := by decide +kernel
theorem dX0_endVisit_8 : decode cX0_endVisit 8 = .ok (.iconst 0, 1) := by decide +kernel
theorem dX0_endVisit_9 : decode cX0_endVisit 9 = .ok (.putfield 37, 3) := by decide +kernel
theorem dX0_endVisit_12 : decode cX0_endVisit 12 = .ok (.aload_n 0, 1) := by decide +kernel
theorem dX0_endVisit_13 : decode cX0_endVisit 13 = .ok (.dup, 1) := by decide +kernel
theorem dX0_endVisit_14 : decode cX0_endVisit 14 = .ok (.getfield 34, 3) := by decide +kernel
theorem dX0_endVisit_17 : decode cX0_endVisit 17 = .ok (.iconst 1, 1) := by decide +kernel
theorem dX0_endVisit_18 : decode cX0_endVisit 18 = .ok (.iadd, 1) := by decide +kernel
theorem dX0_endVisit_19 : decode cX0_endVisit 19 = .ok (.putfield 34, 3) := by decide +kernel
theorem dX0_endVisit_22 : decode cX0_endVisit 22 = .ok (.return_, 1) := by decide +kernel
theorem dX0_endVisit_23 : decode cX0_endVisit 23 = .ok (.iload_n 2, 1) := by decide +kernel
theorem dX0_endVisit_24 : decode cX0_endVisit 24 = .ok (.aload_n 0, 1) := by decide +kernel
theorem dX0_endVisit_25 : decode cX0_endVisit 25 = .ok (.getfield 28, 3) := by decide +kernel
theorem dX0_endVisit_28 : decode cX0_endVisit 28 = .ok (.isub, 1) := by decide +kernel
theorem dX0_endVisit_29 : decode cX0_endVisit 29 = .ok (.istore_n 3, 1) := by decide +kernel
theorem dX0_endVisit_30 : decode cX0_endVisit 30 = .ok (.iload_n 3, 1) := by decide +kernel
theorem dX0_endVisit_31 : decode cX0_endVisit 31 = .ok (.ifCond .le 29, 3) := by decide +kernel
theorem dX0_endVisit_34 : decode cX0_endVisit 34 = .ok (.bipush 10, 2) := by decide +kernel
theorem dX0_endVisit_36 : decode cX0_endVisit 36 = .ok (.aload_n 0, 1) := by decide +kernel
theorem dX0_endVisit_37 : decode cX0_endVisit 37 = .ok (.getfield 22, 3) := by decide +kernel
theorem dX0_endVisit_40 : decode cX0_endVisit 40 = .ok (.imul, 1) := by decide +kernel
theorem dX0_endVisit_41 : decode cX0_endVisit 41 = .ok (.iload_n 3, 1) := by decide +kernel
theorem dX0_endVisit_42 : decode cX0_endVisit 42 = .ok (.idiv, 1) := by decide +kernel
theorem dX0_endVisit_43 : decode cX0_endVisit 43 = .ok (.istore 4, 2) := by decide +kernel
theorem dX0_endVisit_45 : decode cX0_endVisit 45 = .ok (.aload_n 0, 1) := by decide +kernel
theorem dX0_endVisit_46 : decode cX0_endVisit 46 = .ok (.aload_n 0, 1) := by decide +kernel
theorem dX0_endVisit_47 : decode cX0_endVisit 47 = .ok (.getfield 25, 3) := by decide +kernel
theorem dX0_endVisit_50 : decode cX0_endVisit 50 = .ok (.iconst 3, 1) := by decide +kernel
theorem dX0_endVisit_51 : decode cX0_endVisit 51 = .ok (.imul, 1) := by decide +kernel
theorem dX0_endVisit_52 : decode cX0_endVisit 52 = .ok (.iload 4, 2) := by decide +kernel
theorem dX0_endVisit_54 : decode cX0_endVisit 54 = .ok (.iadd, 1) := by decide +kernel
theorem dX0_endVisit_55 : decode cX0_endVisit 55 = .ok (.iconst 4, 1) := by decide +kernel
theorem dX0_endVisit_56 : decode cX0_endVisit 56 = .ok (.idiv, 1) := by decide +kernel
theorem dX0_endVisit_57 : decode cX0_endVisit 57 = .ok (.putfield 25, 3) := by decide +kernel
theorem dX0_endVisit_60 : decode cX0_endVisit 60 = .ok (.aload_n 0, 1) := by decide +kernel
theorem dX0_endVisit_61 : decode cX0_endVisit 61 = .ok (.iload_n 2, 1) := by decide +kernel
theorem dX0_endVisit_62 : decode cX0_endVisit 62 = .ok (.putfield 28, 3) := by decide +kernel
theorem dX0_endVisit_65 : decode cX0_endVisit 65 = .ok (.aload_n 0, 1) := by decide +kernel
theorem dX0_endVisit_66 : decode cX0_endVisit 66 = .ok (.dup, 1) := by decide +kernel
theorem dX0_endVisit_67 : decode cX0_endVisit 67 = .ok (.getfield 22, 3) := by decide +kernel
theorem dX0_endVisit_70 : decode cX0_endVisit 70 = .ok (.iload_n 1, 1) := by decide +kernel
theorem dX0_endVisit_71 : decode cX0_endVisit 71 = .ok (.isub, 1) := by decide +kernel
theorem dX0_endVisit_72 : decode cX0_endVisit 72 = .ok (.putfield 22, 3) := by decide +kernel
theorem dX0_endVisit_75 : decode cX0_endVisit 75 = .ok (.return_, 1) := by decide +kernel
theorem dX1_init_0 : decode cX1_init 0 = .ok (.aload_n 0, 1) := by decide +kernel
theorem dX1_init_1 : decode cX1_init 1 = .ok (.invokespecial 3, 3) := by decide +kernel
theorem dX1_init_4 : decode cX1_init 4 = .ok (.aload_n 0, 1) := by decide +kernel
theorem dX1_init_5 : decode cX1_init 5 = .ok (.bipush 100, 2) := by decide +kernel
theorem dX1_init_7 : decode cX1_init 7 = .ok (.newarray .int, 2) := by decide +kernel
theorem dX1_init_9 : decode cX1_init 9 = .ok (.putfield 9, 3) := by decide +kernel
theorem dX1_init_12 : decode cX1_init 12 = .ok (.iconst 0, 1) := by decide +kernel
theorem dX1_init_13 : decode cX1_init 13 = .ok (.istore_n 1, 1) := by decide +kernel
theorem dX1_init_14 : decode cX1_init 14 = .ok (.iload_n 1, 1) := by decide +kernel
theorem dX1_init_15 : decode cX1_init 15 = .ok (.bipush 10, 2) := by decide +kernel
theorem dX1_init_17 : decode cX1_init 17 = .ok (.if_icmp .ge 45, 3) := by decide +kernel
theorem dX1_init_20 : decode cX1_init 20 = .ok (.iconst 0, 1) := by decide +kernel
theorem dX1_init_21 : decode cX1_init 21 = .ok (.istore_n 2, 1) := by decide +kernel
theorem dX1_init_22 : decode cX1_init 22 = .ok (.iload_n 2, 1) := by decide +kernel
theorem dX1_init_23 : decode cX1_init 23 = .ok (.bipush 10, 2) := by decide +kernel
theorem dX1_init_25 : decode cX1_init 25 = .ok (.if_icmp .ge 31, 3) := by decide +kernel
theorem dX1_init_28 : decode cX1_init 28 = .ok (.aload_n 0, 1) := by decide +kernel
theorem dX1_init_29 : decode cX1_init 29 = .ok (.getfield 9, 3) := by decide +kernel
theorem dX1_init_32 : decode cX1_init 32 = .ok (.iload_n 1, 1) := by decide +kernel
theorem dX1_init_33 : decode cX1_init 33 = .ok (.bipush 10, 2) := by decide +kernel
theorem dX1_init_35 : decode cX1_init 35 = .ok (.imul, 1) := by decide +kernel
theorem dX1_init_36 : decode cX1_init 36 = .ok (.iload_n 2, 1) := by decide +kernel
theorem dX1_init_37 : decode cX1_init 37 = .ok (.iadd, 1) := by decide +kernel
theorem dX1_init_38 : decode cX1_init 38 = .ok (.iload_n 1, 1) := by decide +kernel
theorem dX1_init_39 : decode cX1_init 39 = .ok (.iload_n 2, 1) := by decide +kernel
theorem dX1_init_40 : decode cX1_init 40 = .ok (.if_icmp .ne 7, 3) := by decide +kernel
theorem dX1_init_43 : decode cX1_init 43 = .ok (.iconst 0, 1) := by decide +kernel
theorem dX1_init_44 : decode cX1_init 44 = .ok (.goto 5, 3) := by decide +kernel
theorem dX1_init_47 : decode cX1_init 47 = .ok (.bipush 30, 2) := by decide +kernel
theorem dX1_init_49 : decode cX1_init 49 = .ok (.iastore, 1) := by decide +kernel
theorem dX1_init_50 : decode cX1_init 50 = .ok (.iinc 2 1, 3) := by decide +kernel
theorem dX1_init_53 : decode cX1_init 53 = .ok (.goto (-31), 3) := by decide +kernel
theorem dX1_init_56 : decode cX1_init 56 = .ok (.iinc 1 1, 3) := by decide +kernel
theorem dX1_init_59 : decode cX1_init 59 = .ok (.goto (-45), 3) := by decide +kernel
theorem dX1_init_62 : decode cX1_init 62 = .ok (.aload_n 0, 1) := by decide +kernel
theorem dX1_init_63 : decode cX1_init 63 = .ok (.bipush 10, 2) := by decide +kernel
theorem dX1_init_65 : decode cX1_init 65 = .ok (.newarray .int, 2) := by decide +kernel
theorem dX1_init_67 : decode cX1_init 67 = .ok (.putfield 15, 3) := by decide +kernel
theorem dX1_init_70 : decode cX1_init 70 = .ok (.aload_n 0, 1) := by decide +kernel
theorem dX1_init_71 : decode cX1_init 71 = .ok (.getfield 15, 3) := by decide +kernel
theorem dX1_init_74 : decode cX1_init 74 = .ok (.iconst 0, 1) := by decide +kernel
theorem dX1_init_75 : decode cX1_init 75 = .ok (.bipush 7, 2) := by decide +kernel
theorem dX1_init_77 : decode cX1_init 77 = .ok (.iastore, 1) := by decide +kernel
theorem dX1_init_78 : decode cX1_init 78 = .ok (.aload_n 0, 1) := by decide +kernel
theorem dX1_init_79 : decode cX1_init 79 = .ok (.iconst 1, 1) := by decide +kernel
theorem dX1_init_80 : decode cX1_init 80 = .ok (.putfield 18, 3) := by decide +kernel
theorem dX1_init_83 : decode cX1_init 83 = .ok (.return_, 1) := by decide +kernel
theorem dX1_add_0 : decode cX1_add 0 = .ok (.aload_n 0, 1) := by decide +kernel
theorem dX1_add_1 : decode cX1_add 1 = .ok (.getfield 18, 3) := by decide +kernel
theorem dX1_add_4 : decode cX1_add 4 = .ok (.istore_n 1, 1) := by decide +kernel
theorem dX1_add_5 : decode cX1_add 5 = .ok (.aload_n 0, 1) := by decide +kernel
theorem dX1_add_6 : decode cX1_add 6 = .ok (.dup, 1) := by decide +kernel
theorem dX1_add_7 : decode cX1_add 7 = .ok (.getfield 18, 3) := by decide +kernel
theorem dX1_add_10 : decode cX1_add 10 = .ok (.iconst 1, 1) := by decide +kernel
theorem dX1_add_11 : decode cX1_add 11 = .ok (.iadd, 1) := by decide +kernel
theorem dX1_add_12 : decode cX1_add 12 = .ok (.putfield 18, 3) := by decide +kernel
theorem dX1_add_15 : decode cX1_add 15 = .ok (.iload_n 1, 1) := by decide +kernel
theorem dX1_add_16 : decode cX1_add 16 = .ok (.ireturn, 1) := by decide +kernel
theorem dX1_between_0 : decode cX1_between 0 = .ok (.aload_n 0, 1) := by decide +kernel
theorem dX1_between_1 : decode cX1_between 1 = .ok (.getfield 9, 3) := by decide +kernel
theorem dX1_between_4 : decode cX1_between 4 = .ok (.iload_n 1, 1) := by decide +kernel
theorem dX1_between_5 : decode cX1_between 5 = .ok (.bipush 10, 2) := by decide +kernel
theorem dX1_between_7 : decode cX1_between 7 = .ok (.imul, 1) := by decide +kernel
theorem dX1_between_8 : decode cX1_between 8 = .ok (.iload_n 2, 1) := by decide +kernel
theorem dX1_between_9 : decode cX1_between 9 = .ok (.iadd, 1) := by decide +kernel
theorem dX1_between_10 : decode cX1_between 10 = .ok (.iaload, 1) := by decide +kernel
theorem dX1_between_11 : decode cX1_between 11 = .ok (.ireturn, 1) := by decide +kernel
theorem dX1_join_0 : decode cX1_join 0 = .ok (.aload_n 0, 1) := by decide +kernel
theorem dX1_join_1 : decode cX1_join 1 = .ok (.getfield 9, 3) := by decide +kernel
theorem dX1_join_4 : decode cX1_join 4 = .ok (.iload_n 1, 1) := by decide +kernel
theorem dX1_join_5 : decode cX1_join 5 = .ok (.bipush 10, 2) := by decide +kernel
theorem dX1_join_7 : decode cX1_join 7 = .ok (.imul, 1) := by decide +kernel
theorem dX1_join_8 : decode cX1_join 8 = .ok (.iload_n 2, 1) := by decide +kernel
theorem dX1_join_9 : decode cX1_join 9 = .ok (.iadd, 1) := by decide +kernel
theorem dX1_join_10 : decode cX1_join 10 = .ok (.iload_n 3, 1) := by decide +kernel
theorem dX1_join_11 : decode cX1_join 11 = .ok (.iastore, 1) := by decide +kernel
theorem dX1_join_12 : decode cX1_join 12 = .ok (.aload_n 0, 1) := by decide +kernel
theorem dX1_join_13 : decode cX1_join 13 = .ok (.getfield 9, 3) := by decide +kernel
theorem dX1_join_16 : decode cX1_join 16 = .ok (.iload_n 2, 1) := by decide +kernel
theorem dX1_join_17 : decode cX1_join 17 = .ok (.bipush 10, 2) := by decide +kernel
theorem dX1_join_19 : decode cX1_join 19 = .ok (.imul, 1) := by decide +kernel
theorem dX1_join_20 : decode cX1_join 20 = .ok (.iload_n 1, 1) := by decide +kernel
theorem dX1_join_21 : decode cX1_join 21 = .ok (.iadd, 1) := by decide +kernel
theorem dX1_join_22 : decode cX1_join 22 = .ok (.iload_n 3, 1) := by decide +kernel
theorem dX1_join_23 : decode cX1_join 23 = .ok (.iastore, 1) := by decide +kernel
theorem dX1_join_24 : decode cX1_join 24 = .ok (.return_, 1) := by decide +kernel
theorem dX1_hasTip_0 : decode cX1_hasTip 0 = .ok (.aload_n 0, 1) := by decide +kernel
theorem dX1_hasTip_1 : decode cX1_hasTip 1 = .ok (.getfield 15, 3) := by decide +kernel
theorem dX1_hasTip_4 : decode cX1_hasTip 4 = .ok (.iload_n 1, 1) := by decide +kernel
theorem dX1_hasTip_5 : decode cX1_hasTip 5 = .ok (.iaload, 1) := by decide +kernel
theorem dX1_hasTip_6 : decode cX1_hasTip 6 = .ok (.iload_n 2, 1) := by decide +kernel
theorem dX1_hasTip_7 : decode cX1_hasTip 7 = .ok (.ishr, 1) := by decide +kernel
theorem dX1_hasTip_8 : decode cX1_hasTip 8 = .ok (.iconst 1, 1) := by decide +kernel
theorem dX1_hasTip_9 : decode cX1_hasTip 9 = .ok (.iand, 1) := by decide +kernel
theorem dX1_hasTip_10 : decode cX1_hasTip 10 = .ok (.iconst 1, 1) := by decide +kernel
theorem dX1_hasTip_11 : decode cX1_hasTip 11 = .ok (.if_icmp .ne 7, 3) := by decide +kernel
theorem dX1_hasTip_14 : decode cX1_hasTip 14 = .ok (.iconst 1, 1) := by decide +kernel
theorem dX1_hasTip_15 : decode cX1_hasTip 15 = .ok (.goto 4, 3) := by decide +kernel
theorem dX1_hasTip_18 : decode cX1_hasTip 18 = .ok (.iconst 0, 1) := by decide +kernel
theorem dX1_hasTip_19 : decode cX1_hasTip 19 = .ok (.ireturn, 1) := by decide +kernel
theorem dX1_putTip_0 : decode cX1_putTip 0 = .ok (.iconst 1, 1) := by decide +kernel
theorem dX1_putTip_1 : decode cX1_putTip 1 = .ok (.iload_n 2, 1) := by decide +kernel
theorem dX1_putTip_2 : decode cX1_putTip 2 = .ok (.ishl, 1) := by decide +kernel
theorem dX1_putTip_3 : decode cX1_putTip 3 = .ok (.istore 4, 2) := by decide +kernel
theorem dX1_putTip_5 : decode cX1_putTip 5 = .ok (.aload_n 0, 1) := by decide +kernel
theorem dX1_putTip_6 : decode cX1_putTip 6 = .ok (.getfield 15, 3) := by decide +kernel
theorem dX1_putTip_9 : decode cX1_putTip 9 = .ok (.iload_n 1, 1) := by decide +kernel
theorem dX1_putTip_10 : decode cX1_putTip 10 = .ok (.iload_n 3, 1) := by decide +kernel
theorem dX1_putTip_11 : decode cX1_putTip 11 = .ok (.ifCond .eq 15, 3) := by decide +kernel
theorem dX1_putTip_14 : decode cX1_putTip 14 = .ok (.aload_n 0, 1) := by decide +kernel
theorem dX1_putTip_15 : decode cX1_putTip 15 = .ok (.getfield 15, 3) := by decide +kernel
theorem dX1_putTip_18 : decode cX1_putTip 18 = .ok (.iload_n 1, 1) := by decide +kernel
theorem dX1_putTip_19 : decode cX1_putTip 19 = .ok (.iaload, 1) := by decide +kernel
theorem dX1_putTip_20 : decode cX1_putTip 20 = .ok (.iload 4, 2) := by decide +kernel
theorem dX1_putTip_22 : decode cX1_putTip 22 = .ok (.ior, 1) := by decide +kernel
theorem dX1_putTip_23 : decode cX1_putTip 23 = .ok (.goto 14, 3) := by decide +kernel
theorem dX1_putTip_26 : decode cX1_putTip 26 = .ok (.aload_n 0, 1) := by decide +kernel
theorem dX1_putTip_27 : decode cX1_putTip 27 = .ok (.getfield 15, 3) := by decide +kernel
theorem dX1_putTip_30 : decode cX1_putTip 30 = .ok (.iload_n 1, 1) := by decide +kernel
theorem dX1_putTip_31 : decode cX1_putTip 31 = .ok (.iaload, 1) := by decide +kernel
theorem dX1_putTip_32 : decode cX1_putTip 32 = .ok (.iload 4, 2) := by decide +kernel
theorem dX1_putTip_34 : decode cX1_putTip 34 = .ok (.iconst (-1), 1) := by decide +kernel
theorem dX1_putTip_35 : decode cX1_putTip 35 = .ok (.ixor, 1) := by decide +kernel
theorem dX1_putTip_36 : decode cX1_putTip 36 = .ok (.iand, 1) := by decide +kernel
theorem dX1_putTip_37 : decode cX1_putTip 37 = .ok (.iastore, 1) := by decide +kernel
theorem dX1_putTip_38 : decode cX1_putTip 38 = .ok (.return_, 1) := by decide +kernel
set_option maxRecDepth 20000 in
theorem ggX1_countTips_X1_hasTip : GoodIn wsX1_countTips wsX1_hasTip := goodIn_r _ [6, 7, 8, 9, 10] (by decide +kernel) (by decide +kernel)
set_option maxRecDepth 20000 in
theorem gX1_countTips_X1_hasTip : GoodIn wsX1_countTips (wsV RX1 22 RX1 yX1_hasTip wsX1_hasTip) := goodIn_app (goodIn_of _ (by decide +kernel)) ggX1_countTips_X1_hasTip
theorem dX1_countTips_0 : decode cX1_countTips 0 = .ok (.iconst 0, 1) := by decide +kernel
theorem dX1_countTips_1 : decode cX1_countTips 1 = .ok (.istore_n 2, 1) := by decide +kernel
theorem dX1_countTips_2 : decode cX1_countTips 2 = .ok (.iconst 0, 1) := by decide +kernel
theorem dX1_countTips_3 : decode cX1_countTips 3 = .ok (.istore_n 3, 1) := by decide +kernel
theorem dX1_countTips_4 : decode cX1_countTips 4 = .ok (.iload_n 3, 1) := by decide +kernel
theorem dX1_countTips_5 : decode cX1_countTips 5 = .ok (.aload_n 0, 1) := by decide +kernel
theorem dX1_countTips_6 : decode cX1_countTips 6 = .ok (.getfield 18, 3) := by decide +kernel
theorem dX1_countTips_9 : decode cX1_countTips 9 = .ok (.if_icmp .ge 26, 3) := by decide +kernel
theorem dX1_countTips_12 : decode cX1_countTips 12 = .ok (.iload_n 2, 1) := by decide +kernel
theorem dX1_countTips_13 : decode cX1_countTips 13 = .ok (.aload_n 0, 1) := by decide +kernel
theorem dX1_countTips_14 : decode cX1_countTips 14 = .ok (.iload_n 3, 1) := by decide +kernel
theorem dX1_countTips_15 : decode cX1_countTips 15 = .ok (.iload_n 1, 1) := by decide +kernel
theorem dX1_countTips_16 : decode cX1_countTips 16 = .ok (.invokevirtual 22, 3) := by decide +kernel
theorem dX1_countTips_19 : decode cX1_countTips 19 = .ok (.ifCond .eq 7, 3) := by decide +kernel
theorem dX1_countTips_22 : decode cX1_countTips 22 = .ok (.iconst 1, 1) := by decide +kernel
theorem dX1_countTips_23 : decode cX1_countTips 23 = .ok (.goto 4, 3) := by decide +kernel
theorem dX1_countTips_26 : decode cX1_countTips 26 = .ok (.iconst 0, 1) := by decide +kernel
theorem dX1_countTips_27 : decode cX1_countTips 27 = .ok (.iadd, 1) := by decide +kernel
theorem dX1_countTips_28 : decode cX1_countTips 28 = .ok (.istore_n 2, 1) := by decide +kernel
theorem dX1_countTips_29 : decode cX1_countTips 29 = .ok (.iinc 3 1, 3) := by decide +kernel
theorem dX1_countTips_32 : decode cX1_countTips 32 = .ok (.goto (-28), 3) := by decide +kernel
theorem dX1_countTips_35 : decode cX1_countTips 35 = .ok (.iload_n 2, 1) := by decide +kernel
theorem dX1_countTips_36 : decode cX1_countTips 36 = .ok (.ireturn, 1) := by decide +kernel
set_option maxRecDepth 20000 in
theorem ggX1_overTip_X1_hasTip : GoodIn wsX1_overTip wsX1_hasTip := goodIn_r _ [11, 12, 18, 19, 20] (by decide +kernel) (by decide +kernel)
set_option maxRecDepth 20000 in
theorem gX1_overTip_X1_hasTip : GoodIn wsX1_overTip (wsV RX1 22 RX1 yX1_hasTip wsX1_hasTip) := goodIn_app (goodIn_of _ (by decide +kernel)) ggX1_overTip_X1_hasTip
set_option maxRecDepth 20000 in
theorem ggX1_overTip_X1_between : GoodIn wsX1_overTip wsX1_between := goodIn_r _ [16, 17, 18, 19, 20] (by decide +kernel) (by decide +kernel)
set_option maxRecDepth 20000 in
theorem gX1_overTip_X1_between : GoodIn wsX1_overTip (wsV RX1 29 RX1 yX1_between wsX1_between) := goodIn_app (goodIn_of _ (by decide +kernel)) ggX1_overTip_X1_between
theorem dX1_overTip_0 : decode cX1_overTip 0 = .ok (.ldc 28, 2) := by decide +kernel
theorem dX1_overTip_2 : decode cX1_overTip 2 = .ok (.istore 4, 2) := by decide +kernel
theorem dX1_overTip_4 : decode cX1_overTip 4 = .ok (.iconst 0, 1) := by decide +kernel
theorem dX1_overTip_5 : decode cX1_overTip 5 = .ok (.istore 5, 2) := by decide +kernel
theorem dX1_overTip_7 : decode cX1_overTip 7 = .ok (.iload 5, 2) := by decide +kernel
theorem dX1_overTip_9 : decode cX1_overTip 9 = .ok (.aload_n 0, 1) := by decide +kernel
theorem dX1_overTip_10 : decode cX1_overTip 10 = .ok (.getfield 18, 3) := by decide +kernel
theorem dX1_overTip_13 : decode cX1_overTip 13 = .ok (.if_icmp .ge 41, 3) := by decide +kernel
theorem dX1_overTip_16 : decode cX1_overTip 16 = .ok (.aload_n 0, 1) := by decide +kernel
theorem dX1_overTip_17 : decode cX1_overTip 17 = .ok (.iload 5, 2) := by decide +kernel
theorem dX1_overTip_19 : decode cX1_overTip 19 = .ok (.iload_n 1, 1) := by decide +kernel
theorem dX1_overTip_20 : decode cX1_overTip 20 = .ok (.invokevirtual 22, 3) := by decide +kernel
theorem dX1_overTip_23 : decode cX1_overTip 23 = .ok (.ifCond .eq 25, 3) := by decide +kernel
theorem dX1_overTip_26 : decode cX1_overTip 26 = .ok (.iload 4, 2) := by decide +kernel
theorem dX1_overTip_28 : decode cX1_overTip 28 = .ok (.aload_n 0, 1) := by decide +kernel
theorem dX1_overTip_29 : decode cX1_overTip 29 = .ok (.iload_n 2, 1) := by decide +kernel
theorem dX1_overTip_30 : decode cX1_overTip 30 = .ok (.iload 5, 2) := by decide +kernel
theorem dX1_overTip_32 : decode cX1_overTip 32 = .ok (.invokevirtual 29, 3) := by decide +kernel
theorem dX1_overTip_35 : decode cX1_overTip 35 = .ok (.aload_n 0, 1) := by decide +kernel
theorem dX1_overTip_36 : decode cX1_overTip 36 = .ok (.iload 5, 2) := by decide +kernel
theorem dX1_overTip_38 : decode cX1_overTip 38 = .ok (.iload_n 3, 1) := by decide +kernel
theorem dX1_overTip_39 : decode cX1_overTip 39 = .ok (.invokevirtual 29, 3) := by decide +kernel
theorem dX1_overTip_42 : decode cX1_overTip 42 = .ok (.iadd, 1) := by decide +kernel
theorem dX1_overTip_43 : decode cX1_overTip 43 = .ok (.invokestatic 33, 3) := by decide +kernel
theorem dX1_overTip_46 : decode cX1_overTip 46 = .ok (.istore 4, 2) := by decide +kernel
theorem dX1_overTip_48 : decode cX1_overTip 48 = .ok (.iinc 5 1, 3) := by decide +kernel
theorem dX1_overTip_51 : decode cX1_overTip 51 = .ok (.goto (-44), 3) := by decide +kernel
theorem dX1_overTip_54 : decode cX1_overTip 54 = .ok (.iload 4, 2) := by decide +kernel
theorem dX1_overTip_56 : decode cX1_overTip 56 = .ok (.ireturn, 1) := by decide +kernel
theorem dX2_init_0 : decode cX2_init 0 = .ok (.aload_n 0, 1) := by decide +kernel
theorem dX2_init_1 : decode cX2_init 1 = .ok (.invokespecial 3, 3) := by decide +kernel
theorem dX2_init_4 : decode cX2_init 4 = .ok (.aload_n 0, 1) := by decide +kernel
theorem dX2_init_5 : decode cX2_init 5 = .ok (.aload_n 1, 1) := by decide +kernel
theorem dX2_init_6 : decode cX2_init 6 = .ok (.putfield 9, 3) := by decide +kernel
theorem dX2_init_9 : decode cX2_init 9 = .ok (.aload_n 0, 1) := by decide +kernel
theorem dX2_init_10 : decode cX2_init 10 = .ok (.iload_n 2, 1) := by decide +kernel
theorem dX2_init_11 : decode cX2_init 11 = .ok (.putfield 15, 3) := by decide +kernel
theorem dX2_init_14 : decode cX2_init 14 = .ok (.aload_n 0, 1) := by decide +kernel
theorem dX2_init_15 : decode cX2_init 15 = .ok (.iload_n 3, 1) := by decide +kernel
theorem dX2_init_16 : decode cX2_init 16 = .ok (.putfield 19, 3) := by decide +kernel
theorem dX2_init_19 : decode cX2_init 19 = .ok (.aload_n 0, 1) := by decide +kernel
theorem dX2_init_20 : decode cX2_init 20 = .ok (.iconst 0, 1) := by decide +kernel
theorem dX2_init_21 : decode cX2_init 21 = .ok (.putfield 22, 3) := by decide +kernel
theorem dX2_init_24 : decode cX2_init 24 = .ok (.aload_n 0, 1) := by decide +kernel
theorem dX2_init_25 : decode cX2_init 25 = .ok (.iconst 0, 1) := by decide +kernel
theorem dX2_init_26 : decode cX2_init 26 = .ok (.putfield 25, 3) := by decide +kernel
theorem dX2_init_29 : decode cX2_init 29 = .ok (.aload_n 0, 1) := by decide +kernel
theorem dX2_init_30 : decode cX2_init 30 = .ok (.iconst 0, 1) := by decide +kernel
theorem dX2_init_31 : decode cX2_init 31 = .ok (.putfield 28, 3) := by decide +kernel
theorem dX2_init_34 : decode cX2_init 34 = .ok (.aload_n 0, 1) := by decide +kernel
theorem dX2_init_35 : decode cX2_init 35 = .ok (.iconst 0, 1) := by decide +kernel
theorem dX2_init_36 : decode cX2_init 36 = .ok (.putfield 31, 3) := by decide +kernel
theorem dX2_init_39 : decode cX2_init 39 = .ok (.aload_n 0, 1) := by decide +kernel
theorem dX2_init_40 : decode cX2_init 40 = .ok (.iconst 0, 1) := by decide +kernel
theorem dX2_init_41 : decode cX2_init 41 = .ok (.putfield 34, 3) := by decide +kernel
theorem dX2_init_44 : decode cX2_init 44 = .ok (.return_, 1) := by decide +kernel
set_option maxRecDepth 20000 in
theorem ggX2_visit_X2_driveTo : GoodIn wsX2_visit wsX2_driveTo := goodIn_r _ [13, 1, 14, 4, 15, 16, 17, 18, 19, 20, 51, 52, 53, 54, 55, 56, 57, 58, 59, 60, 61] (by decide +kernel) (by decide +kernel)
set_option maxRecDepth 20000 in
theorem gX2_visit_X2_driveTo : GoodIn wsX2_visit (wsV RX2 42 RX2 yX2_driveTo wsX2_driveTo) := goodIn_app (goodIn_of _ (by decide +kernel)) ggX2_visit_X2_driveTo
set_option maxRecDepth 20000 in
theorem ggX2_visit_X2_unloadOnTheWayTo : GoodIn wsX2_visit wsX2_unloadOnTheWayTo := goodIn_r _ [24, 1, 14, 25, 4, 26, 27, 2, 28, 29, 30, 18, 31, 32, 33, 34, 6, 7, 8, 35, 36, 37, 38, 39, 40, 16, 17, 19, 20, 51, 52, 53, 54, 55, 56, 57, 58, 59, 60, 61] (by decide +kernel) (by decide +kernel)
set_option maxRecDepth 20000 in
theorem gX2_visit_X2_unloadOnTheWayTo : GoodIn wsX2_visit (wsV RX2 53 RX2 yX2_unloadOnTheWayTo wsX2_unloadOnTheWayTo) := goodIn_app (goodIn_of _ (by decide +kernel)) ggX2_visit_X2_unloadOnTheWayTo
theorem dX2_visit_0 : decode cX2_visit 0 = .ok (.aload_n 0, 1) := by decide +kernel
theorem dX2_visit_1 : decode cX2_visit 1 = .ok (.aload_n 1, 1) := by decide +kernel
theorem dX2_visit_2 : decode cX2_visit 2 = .ok (.getfield 37, 3) := by decide +kernel
theorem dX2_visit_5 : decode cX2_visit 5 = .ok (.invokevirtual 42, 3) := by decide +kernel
theorem dX2_visit_8 : decode cX2_visit 8 = .ok (.aload_n 1, 1) := by decide +kernel
theorem dX2_visit_9 : decode cX2_visit 9 = .ok (.getfield 46, 3) := by decide +kernel
theorem dX2_visit_12 : decode cX2_visit 12 = .ok (.ifCond .eq 15, 3) := by decide +kernel
theorem dX2_visit_15 : decode cX2_visit 15 = .ok (.aload_n 0, 1) := by decide +kernel
theorem dX2_visit_16 : decode cX2_visit 16 = .ok (.dup, 1) := by decide +kernel
theorem dX2_visit_17 : decode cX2_visit 17 = .ok (.getfield 28, 3) := by decide +kernel
theorem dX2_visit_20 : decode cX2_visit 20 = .ok (.iconst 2, 1) := by decide +kernel
theorem dX2_visit_21 : decode cX2_visit 21 = .ok (.iadd, 1) := by decide +kernel
theorem dX2_visit_22 : decode cX2_visit 22 = .ok (.putfield 28, 3) := by decide +kernel
theorem dX2_visit_25 : decode cX2_visit 25 = .ok (.iconst 0, 1) := by decide +kernel
theorem dX2_visit_26 : decode cX2_visit 26 = .ok (.ireturn, 1) := by decide +kernel
theorem dX2_visit_27 : decode cX2_visit 27 = .ok (.aload_n 0, 1) := by decide +kernel
theorem dX2_visit_28 : decode cX2_visit 28 = .ok (.getfield 25, 3) := by decide +kernel
theorem dX2_visit_31 : decode cX2_visit 31 = .ok (.ifCond .le 27, 3) := by decide +kernel
theorem dX2_visit_34 : decode cX2_visit 34 = .ok (.aload_n 0, 1) := by decide +kernel
theorem dX2_visit_35 : decode cX2_visit 35 = .ok (.getfield 19, 3) := by decide +kernel
theorem dX2_visit_38 : decode cX2_visit 38 = .ok (.aload_n 0, 1) := by decide +kernel
theorem dX2_visit_39 : decode cX2_visit 39 = .ok (.getfield 25, 3) := by decide +kernel
theorem dX2_visit_42 : decode cX2_visit 42 = .ok (.isub, 1) := by decide +kernel
theorem dX2_visit_43 : decode cX2_visit 43 = .ok (.aload_n 1, 1) := by decide +kernel
theorem dX2_visit_44 : decode cX2_visit 44 = .ok (.getfield 50, 3) := by decide +kernel
theorem dX2_visit_47 : decode cX2_visit 47 = .ok (.if_icmp .ge 11, 3) := by decide +kernel
theorem dX2_visit_50 : decode cX2_visit 50 = .ok (.aload_n 0, 1) := by decide +kernel
theorem dX2_visit_51 : decode cX2_visit 51 = .ok (.aload_n 0, 1) := by decide +kernel
theorem dX2_visit_52 : decode cX2_visit 52 = .ok (.getfield 22, 3) := by decide +kernel
theorem dX2_visit_55 : decode cX2_visit 55 = .ok (.invokevirtual 53, 3) := by decide +kernel
theorem dX2_visit_58 : decode cX2_visit 58 = .ok (.aload_n 0, 1) := by decide +kernel
theorem dX2_visit_59 : decode cX2_visit 59 = .ok (.dup, 1) := by decide +kernel
theorem dX2_visit_60 : decode cX2_visit 60 = .ok (.getfield 28, 3) := by decide +kernel
theorem dX2_visit_63 : decode cX2_visit 63 = .ok (.iconst 5, 1) := by decide +kernel
theorem dX2_visit_64 : decode cX2_visit 64 = .ok (.iadd, 1) := by decide +kernel
theorem dX2_visit_65 : decode cX2_visit 65 = .ok (.putfield 28, 3) := by decide +kernel
theorem dX2_visit_68 : decode cX2_visit 68 = .ok (.aload_n 1, 1) := by decide +kernel
theorem dX2_visit_69 : decode cX2_visit 69 = .ok (.getfield 50, 3) := by decide +kernel
theorem dX2_visit_72 : decode cX2_visit 72 = .ok (.aload_n 0, 1) := by decide +kernel
theorem dX2_visit_73 : decode cX2_visit 73 = .ok (.getfield 19, 3) := by decide +kernel
theorem dX2_visit_76 : decode cX2_visit 76 = .ok (.aload_n 0, 1) := by decide +kernel
theorem dX2_visit_77 : decode cX2_visit 77 = .ok (.getfield 25, 3) := by decide +kernel
theorem dX2_visit_80 : decode cX2_visit 80 = .ok (.isub, 1) := by decide +kernel
theorem dX2_visit_81 : decode cX2_visit 81 = .ok (.invokestatic 56, 3) := by decide +kernel
theorem dX2_visit_84 : decode cX2_visit 84 = .ok (.istore_n 2, 1) := by decide +kernel
theorem dX2_visit_85 : decode cX2_visit 85 = .ok (.aload_n 0, 1) := by decide +kernel
theorem dX2_visit_86 : decode cX2_visit 86 = .ok (.dup, 1) := by decide +kernel
theorem dX2_visit_87 : decode cX2_visit 87 = .ok (.getfield 25, 3) := by decide +kernel
theorem dX2_visit_90 : decode cX2_visit 90 = .ok (.iload_n 2, 1) := by decide +kernel
theorem dX2_visit_91 : decode cX2_visit 91 = .ok (.iadd, 1) := by decide +kernel
theorem dX2_visit_92 : decode cX2_visit 92 = .ok (.putfield 25, 3) := by decide +kernel
theorem dX2_visit_95 : decode cX2_visit 95 = .ok (.iload_n 2, 1) := by decide +kernel
theorem dX2_visit_96 : decode cX2_visit 96 = .ok (.ireturn, 1) := by decide +kernel
set_option maxRecDepth 20000 in
theorem ggX2_end_X2_unloadOnTheWayTo : GoodIn wsX2_end wsX2_unloadOnTheWayTo := goodIn_r _ [6, 7, 8, 9, 10, 11, 12, 1, 13, 14, 15, 16, 17, 18, 19, 20, 21, 22, 23, 24, 25, 26, 27, 28, 29, 30, 31, 32, 33, 39, 40, 41, 42, 43, 44, 45, 46, 47, 48, 49] (by decide +kernel) (by decide +kernel)
set_option maxRecDepth 20000 in
theorem gX2_end_X2_unloadOnTheWayTo : GoodIn wsX2_end (wsV RX2 53 RX2 yX2_unloadOnTheWayTo wsX2_unloadOnTheWayTo) := goodIn_app (goodIn_of _ (by decide +kernel)) ggX2_end_X2_unloadOnTheWayTo
set_option maxRecDepth 20000 in
theorem ggX2_end_X2_driveTo : GoodIn wsX2_end wsX2_driveTo := goodIn_r _ [37, 7, 8, 10, 38, 30, 31, 16, 32, 33, 39, 40, 41, 42, 43, 44, 45, 46, 47, 48, 49] (by decide +kernel) (by decide +kernel)
set_option maxRecDepth 20000 in
theorem gX2_end_X2_driveTo : GoodIn wsX2_end (wsV RX2 42 RX2 yX2_driveTo wsX2_driveTo) := goodIn_app (goodIn_of _ (by decide +kernel)) ggX2_end_X2_driveTo
theorem dX2_end_0 : decode cX2_end 0 = .ok (.aload_n 0, 1) := by decide +kernel
theorem dX2_end_1 : decode cX2_end 1 = .ok (.getfield 25, 3) := by decide +kernel
theorem dX2_end_4 : decode cX2_end 4 = .ok (.ifCond .le 8, 3) := by decide +kernel
theorem dX2_end_7 : decode cX2_end 7 = .ok (.aload_n 0, 1) := by decide +kernel
theorem dX2_end_8 : decode cX2_end 8 = .ok (.iconst 0, 1) := by decide +kernel
theorem dX2_end_9 : decode cX2_end 9 = .ok (.invokevirtual 53, 3) := by decide +kernel
theorem dX2_end_12 : decode cX2_end 12 = .ok (.aload_n 0, 1) := by decide +kernel
theorem dX2_end_13 : decode cX2_end 13 = .ok (.iconst 0, 1) := by decide +kernel
theorem dX2_end_14 : decode cX2_end 14 = .ok (.invokevirtual 42, 3) := by decide +kernel
theorem dX2_end_17 : decode cX2_end 17 = .ok (.return_, 1) := by decide +kernel
set_option maxRecDepth 20000 in
theorem ggX2_driveTo_X1_between : GoodIn wsX2_driveTo wsX1_between := goodIn_r _ [8, 9, 18, 19, 20] (by decide +kernel) (by decide +kernel)
set_option maxRecDepth 20000 in
theorem gX2_driveTo_X1_between : GoodIn wsX2_driveTo (wsV RX2 62 RX1 yX1_between wsX1_between) := goodIn_app (goodIn_of _ (by decide +kernel)) ggX2_driveTo_X1_between
theorem dX2_driveTo_0 : decode cX2_driveTo 0 = .ok (.aload_n 0, 1) := by decide +kernel
theorem dX2_driveTo_1 : decode cX2_driveTo 1 = .ok (.dup, 1) := by decide +kernel
theorem dX2_driveTo_2 : decode cX2_driveTo 2 = .ok (.getfield 28, 3) := by decide +kernel
theorem dX2_driveTo_5 : decode cX2_driveTo 5 = .ok (.aload_n 0, 1) := by decide +kernel
theorem dX2_driveTo_6 : decode cX2_driveTo 6 = .ok (.getfield 9, 3) := by decide +kernel
theorem dX2_driveTo_9 : decode cX2_driveTo 9 = .ok (.aload_n 0, 1) := by decide +kernel
theorem dX2_driveTo_10 : decode cX2_driveTo 10 = .ok (.getfield 22, 3) := by decide +kernel
theorem dX2_driveTo_13 : decode cX2_driveTo 13 = .ok (.iload_n 1, 1) := by decide +kernel
theorem dX2_driveTo_14 : decode cX2_driveTo 14 = .ok (.invokevirtual 62, 3) := by decide +kernel
theorem dX2_driveTo_17 : decode cX2_driveTo 17 = .ok (.iadd, 1) := by decide +kernel
theorem dX2_driveTo_18 : decode cX2_driveTo 18 = .ok (.putfield 28, 3) := by decide +kernel
theorem dX2_driveTo_21 : decode cX2_driveTo 21 = .ok (.aload_n 0, 1) := by decide +kernel
theorem dX2_driveTo_22 : decode cX2_driveTo 22 = .ok (.iload_n 1, 1) := by decide +kernel
theorem dX2_driveTo_23 : decode cX2_driveTo 23 = .ok (.putfield 22, 3) := by decide +kernel
theorem dX2_driveTo_26 : decode cX2_driveTo 26 = .ok (.return_, 1) := by decide +kernel
set_option maxRecDepth 20000 in
theorem ggX2_unloadOnTheWayTo_X1_overTip : GoodIn wsX2_unloadOnTheWayTo wsX1_overTip := goodIn_r _ [12, 13, 14, 15, 16, 17, 18, 19, 20, 21, 11, 22, 23, 24, 25, 26, 27, 28, 37, 38, 39] (by decide +kernel) (by decide +kernel)
set_option maxRecDepth 20000 in
theorem gX2_unloadOnTheWayTo_X1_overTip : GoodIn wsX2_unloadOnTheWayTo (wsV RX2 67 RX1 yX1_overTip wsX1_overTip) := goodIn_app (goodIn_of _ (by decide +kernel)) ggX2_unloadOnTheWayTo_X1_overTip
theorem dX2_unloadOnTheWayTo_0 : decode cX2_unloadOnTheWayTo 0 = .ok (.aload_n 0, 1) := by decide +kernel
theorem dX2_unloadOnTheWayTo_1 : decode cX2_unloadOnTheWayTo 1 = .ok (.dup, 1) := by decide +kernel
theorem dX2_unloadOnTheWayTo_2 : decode cX2_unloadOnTheWayTo 2 = .ok (.getfield 28, 3) := by decide +kernel
theorem dX2_unloadOnTheWayTo_5 : decode cX2_unloadOnTheWayTo 5 = .ok (.aload_n 0, 1) := by decide +kernel
theorem dX2_unloadOnTheWayTo_6 : decode cX2_unloadOnTheWayTo 6 = .ok (.getfield 9, 3) := by decide +kernel
theorem dX2_unloadOnTheWayTo_9 : decode cX2_unloadOnTheWayTo 9 = .ok (.aload_n 0, 1) := by decide +kernel
theorem dX2_unloadOnTheWayTo_10 : decode cX2_unloadOnTheWayTo 10 = .ok (.getfield 15, 3) := by decide +kernel
theorem dX2_unloadOnTheWayTo_13 : decode cX2_unloadOnTheWayTo 13 = .ok (.aload_n 0, 1) := by decide +kernel
theorem dX2_unloadOnTheWayTo_14 : decode cX2_unloadOnTheWayTo 14 = .ok (.getfield 22, 3) := by decide +kernel
theorem dX2_unloadOnTheWayTo_17 : decode cX2_unloadOnTheWayTo 17 = .ok (.iload_n 1, 1) := by decide +kernel
theorem dX2_unloadOnTheWayTo_18 : decode cX2_unloadOnTheWayTo 18 = .ok (.invokevirtual 67, 3) := by decide +kernel
theorem dX2_unloadOnTheWayTo_21 : decode cX2_unloadOnTheWayTo 21 = .ok (.bipush 10, 2) := by decide +kernel
theorem dX2_unloadOnTheWayTo_23 : decode cX2_unloadOnTheWayTo 23 = .ok (.iadd, 1) := by decide +kernel
theorem dX2_unloadOnTheWayTo_24 : decode cX2_unloadOnTheWayTo 24 = .ok (.iadd, 1) := by decide +kernel
theorem dX2_unloadOnTheWayTo_25 : decode cX2_unloadOnTheWayTo 25 = .ok (.putfield 28, 3) := by decide +kernel
theorem dX2_unloadOnTheWayTo_28 : decode cX2_unloadOnTheWayTo 28 = .ok (.aload_n 0, 1) := by decide +kernel
theorem dX2_unloadOnTheWayTo_29 : decode cX2_unloadOnTheWayTo 29 = .ok (.dup, 1) := by decide +kernel
theorem dX2_unloadOnTheWayTo_30 : decode cX2_unloadOnTheWayTo 30 = .ok (.getfield 31, 3) := by decide +kernel
theorem dX2_unloadOnTheWayTo_33 : decode cX2_unloadOnTheWayTo 33 = .ok (.iconst 1, 1) := by decide +kernel
theorem dX2_unloadOnTheWayTo_34 : decode cX2_unloadOnTheWayTo 34 = .ok (.iadd, 1) := by decide +kernel
theorem dX2_unloadOnTheWayTo_35 : decode cX2_unloadOnTheWayTo 35 = .ok (.putfield 31, 3) := by decide +kernel
theorem dX2_unloadOnTheWayTo_38 : decode cX2_unloadOnTheWayTo 38 = .ok (.aload_n 0, 1) := by decide +kernel
theorem dX2_unloadOnTheWayTo_39 : decode cX2_unloadOnTheWayTo 39 = .ok (.dup, 1) := by decide +kernel
theorem dX2_unloadOnTheWayTo_40 : decode cX2_unloadOnTheWayTo 40 = .ok (.getfield 34, 3) := by decide +kernel
theorem dX2_unloadOnTheWayTo_43 : decode cX2_unloadOnTheWayTo 43 = .ok (.aload_n 0, 1) := by decide +kernel
theorem dX2_unloadOnTheWayTo_44 : decode cX2_unloadOnTheWayTo 44 = .ok (.getfield 25, 3) := by decide +kernel
theorem dX2_unloadOnTheWayTo_47 : decode cX2_unloadOnTheWayTo 47 = .ok (.iadd, 1) := by decide +kernel
theorem dX2_unloadOnTheWayTo_48 : decode cX2_unloadOnTheWayTo 48 = .ok (.putfield 34, 3) := by decide +kernel
theorem dX2_unloadOnTheWayTo_51 : decode cX2_unloadOnTheWayTo 51 = .ok (.aload_n 0, 1) := by decide +kernel
theorem dX2_unloadOnTheWayTo_52 : decode cX2_unloadOnTheWayTo 52 = .ok (.iconst 0, 1) := by decide +kernel
theorem dX2_unloadOnTheWayTo_53 : decode cX2_unloadOnTheWayTo 53 = .ok (.putfield 25, 3) := by decide +kernel
theorem dX2_unloadOnTheWayTo_56 : decode cX2_unloadOnTheWayTo 56 = .ok (.aload_n 0, 1) := by decide +kernel
theorem dX2_unloadOnTheWayTo_57 : decode cX2_unloadOnTheWayTo 57 = .ok (.iload_n 1, 1) := by decide +kernel
theorem dX2_unloadOnTheWayTo_58 : decode cX2_unloadOnTheWayTo 58 = .ok (.putfield 22, 3) := by decide +kernel
theorem dX2_unloadOnTheWayTo_61 : decode cX2_unloadOnTheWayTo 61 = .ok (.return_, 1) := by decide +kernel
set_option maxRecDepth 20000 in
theorem ggX3_init_X1_init : GoodIn wsX3_init wsX1_init := goodIn_r _ [23, 24, 2, 3, 17, 25, 26, 27, 43, 44, 45] (by decide +kernel) (by decide +kernel)
set_option maxRecDepth 20000 in
theorem gX3_init_X1_init : GoodIn wsX3_init (wsX1_init) := ggX3_init_X1_init
set_option maxRecDepth 20000 in
theorem ggX3_init_Jx4a65c_init_da8c8 : GoodIn wsX3_init wsJx4a65c_init_da8c8 := goodIn_r _ [30, 31, 32, 33, 34, 35, 36, 37, 38, 39, 40, 41, 42, 2, 3, 54, 55, 56] (by decide +kernel) (by decide +kernel)
set_option maxRecDepth 20000 in
theorem gX3_init_Jx4a65c_init_da8c8 : GoodIn wsX3_init (wsJx4a65c_init_da8c8) := ggX3_init_Jx4a65c_init_da8c8
theorem dX3_init_0 : decode cX3_init 0 = .ok (.aload_n 0, 1) := by decide +kernel
theorem dX3_init_1 : decode cX3_init 1 = .ok (.invokespecial 3, 3) := by decide +kernel
theorem dX3_init_4 : decode cX3_init 4 = .ok (.aload_n 0, 1) := by decide +kernel
theorem dX3_init_5 : decode cX3_init 5 = .ok (.new 9, 3) := by decide +kernel
theorem dX3_init_8 : decode cX3_init 8 = .ok (.dup, 1) := by decide +kernel
theorem dX3_init_9 : decode cX3_init 9 = .ok (.invokespecial 11, 3) := by decide +kernel
theorem dX3_init_12 : decode cX3_init 12 = .ok (.putfield 12, 3) := by decide +kernel
theorem dX3_init_15 : decode cX3_init 15 = .ok (.aload_n 0, 1) := by decide +kernel
theorem dX3_init_16 : decode cX3_init 16 = .ok (.new 16, 3) := by decide +kernel
theorem dX3_init_19 : decode cX3_init 19 = .ok (.dup, 1) := by decide +kernel
theorem dX3_init_20 : decode cX3_init 20 = .ok (.invokespecial 18, 3) := by decide +kernel
theorem dX3_init_23 : decode cX3_init 23 = .ok (.putfield 19, 3) := by decide +kernel
theorem dX3_init_26 : decode cX3_init 26 = .ok (.aload_n 0, 1) := by decide +kernel
theorem dX3_init_27 : decode cX3_init 27 = .ok (.sipush 400, 3) := by decide +kernel
theorem dX3_init_30 : decode cX3_init 30 = .ok (.newarray .boolean, 2) := by decide +kernel
theorem dX3_init_32 : decode cX3_init 32 = .ok (.putfield 23, 3) := by decide +kernel
theorem dX3_init_35 : decode cX3_init 35 = .ok (.aload_n 0, 1) := by decide +kernel
theorem dX3_init_36 : decode cX3_init 36 = .ok (.bipush 12, 2) := by decide +kernel
theorem dX3_init_38 : decode cX3_init 38 = .ok (.newarray .long, 2) := by decide +kernel
theorem dX3_init_40 : decode cX3_init 40 = .ok (.putfield 27, 3) := by decide +kernel
theorem dX3_init_43 : decode cX3_init 43 = .ok (.aload_n 0, 1) := by decide +kernel
theorem dX3_init_44 : decode cX3_init 44 = .ok (.iconst 3, 1) := by decide +kernel
theorem dX3_init_45 : decode cX3_init 45 = .ok (.newarray .long, 2) := by decide +kernel
theorem dX3_init_47 : decode cX3_init 47 = .ok (.putfield 31, 3) := by decide +kernel
theorem dX3_init_50 : decode cX3_init 50 = .ok (.aload_n 0, 1) := by decide +kernel
theorem dX3_init_51 : decode cX3_init 51 = .ok (.bipush 16, 2) := by decide +kernel
theorem dX3_init_53 : decode cX3_init 53 = .ok (.newarray .int, 2) := by decide +kernel
theorem dX3_init_55 : decode cX3_init 55 = .ok (.putfield 34, 3) := by decide +kernel
theorem dX3_init_58 : decode cX3_init 58 = .ok (.aload_n 0, 1) := by decide +kernel
theorem dX3_init_59 : decode cX3_init 59 = .ok (.iconst 0, 1) := by decide +kernel
theorem dX3_init_60 : decode cX3_init 60 = .ok (.putfield 38, 3) := by decide +kernel
theorem dX3_init_63 : decode cX3_init 63 = .ok (.aload_n 0, 1) := by decide +kernel
theorem dX3_init_64 : decode cX3_init 64 = .ok (.iconst 0, 1) := by decide +kernel
theorem dX3_init_65 : decode cX3_init 65 = .ok (.putfield 42, 3) := by decide +kernel
theorem dX3_init_68 : decode cX3_init 68 = .ok (.return_, 1) := by decide +kernel
set_option maxRecDepth 20000 in
theorem ggX3_addPlace_X1_add : GoodIn wsX3_addPlace wsX1_add := goodIn_r _ [8, 9, 18, 19, 20] (by decide +kernel) (by decide +kernel)
set_option maxRecDepth 20000 in
theorem gX3_addPlace_X1_add : GoodIn wsX3_addPlace (wsV RX3 55 RX1 yX1_add wsX1_add) := goodIn_app (goodIn_of _ (by decide +kernel)) ggX3_addPlace_X1_add
theorem dX3_addPlace_0 : decode cX3_addPlace 0 = .ok (.aload_n 0, 1) := by decide +kernel
theorem dX3_addPlace_1 : decode cX3_addPlace 1 = .ok (.getfield 12, 3) := by decide +kernel
theorem dX3_addPlace_4 : decode cX3_addPlace 4 = .ok (.getfield 45, 3) := by decide +kernel
theorem dX3_addPlace_7 : decode cX3_addPlace 7 = .ok (.bipush 10, 2) := by decide +kernel
theorem dX3_addPlace_9 : decode cX3_addPlace 9 = .ok (.if_icmp .lt 13, 3) := by decide +kernel
theorem dX3_addPlace_12 : decode cX3_addPlace 12 = .ok (.new 48, 3) := by decide +kernel
theorem dX3_addPlace_15 : decode cX3_addPlace 15 = .ok (.dup, 1) := by decide +kernel
theorem dX3_addPlace_16 : decode cX3_addPlace 16 = .ok (.ldc 50, 2) := by decide +kernel
theorem dX3_addPlace_18 : decode cX3_addPlace 18 = .ok (.invokespecial 52, 3) := by decide +kernel
theorem dX3_addPlace_21 : decode cX3_addPlace 21 = .ok (.athrow, 1) := by decide +kernel
theorem dX3_addPlace_22 : decode cX3_addPlace 22 = .ok (.aload_n 0, 1) := by decide +kernel
theorem dX3_addPlace_23 : decode cX3_addPlace 23 = .ok (.getfield 12, 3) := by decide +kernel
theorem dX3_addPlace_26 : decode cX3_addPlace 26 = .ok (.invokevirtual 55, 3) := by decide +kernel
theorem dX3_addPlace_29 : decode cX3_addPlace 29 = .ok (.ireturn, 1) := by decide +kernel
set_option maxRecDepth 20000 in
theorem ggX3_setMinutes_X3_checkPlace : GoodIn wsX3_setMinutes wsX3_checkPlace := goodIn_ca (goodIn_r _ [8, 9, 10, 3, 25, 26, 27, 28, 29, 30, 31, 32, 33, 34, 35] (by decide +kernel) (by decide +kernel)) (goodIn_sub (fun _ h => List.mem_cons_of_mem _ (List.mem_append_right _ h)) (by decide +kernel))
set_option maxRecDepth 20000 in
theorem gX3_setMinutes_X3_checkPlace : GoodIn wsX3_setMinutes (wsV RX3 59 RX3 yX3_checkPlace wsX3_checkPlace) := goodIn_app (goodIn_of _ (by decide +kernel)) ggX3_setMinutes_X3_checkPlace
set_option maxRecDepth 20000 in
theorem ggX3_setMinutes_X3_checkRange : GoodIn wsX3_setMinutes wsX3_checkRange := goodIn_ca (goodIn_r _ [14, 1, 2] (by decide +kernel) (by decide +kernel)) (goodIn_sub (fun _ h => List.mem_cons_of_mem _ (List.mem_append_left _ (List.mem_append_right _ h))) (by decide +kernel))
set_option maxRecDepth 20000 in
theorem gX3_setMinutes_X3_checkRange : GoodIn wsX3_setMinutes (wsV RX3 68 RX3 yX3_checkRange wsX3_checkRange) := goodIn_app (goodIn_of _ (by decide +kernel)) ggX3_setMinutes_X3_checkRange
set_option maxRecDepth 20000 in
theorem ggX3_setMinutes_X1_between : GoodIn wsX3_setMinutes wsX1_between := goodIn_r _ [19, 20, 33, 34, 35] (by decide +kernel) (by decide +kernel)
set_option maxRecDepth 20000 in
theorem gX3_setMinutes_X1_between : GoodIn wsX3_setMinutes (wsV RX3 72 RX1 yX1_between wsX1_between) := goodIn_app (goodIn_of _ (by decide +kernel)) ggX3_setMinutes_X1_between
set_option maxRecDepth 20000 in
theorem ggX3_setMinutes_X1_join : GoodIn wsX3_setMinutes wsX1_join := goodIn_r _ [24, 20, 33, 34, 35] (by decide +kernel) (by decide +kernel)
set_option maxRecDepth 20000 in
theorem gX3_setMinutes_X1_join : GoodIn wsX3_setMinutes (wsV RX3 76 RX1 yX1_join wsX1_join) := goodIn_app (goodIn_of _ (by decide +kernel)) ggX3_setMinutes_X1_join
theorem dX3_setMinutes_0 : decode cX3_setMinutes 0 = .ok (.aload_n 0, 1) := by decide +kernel
theorem dX3_setMinutes_1 : decode cX3_setMinutes 1 = .ok (.iload_n 1, 1) := by decide +kernel
theorem dX3_setMinutes_2 : decode cX3_setMinutes 2 = .ok (.invokevirtual 59, 3) := by decide +kernel
theorem dX3_setMinutes_5 : decode cX3_setMinutes 5 = .ok (.aload_n 0, 1) := by decide +kernel
theorem dX3_setMinutes_6 : decode cX3_setMinutes 6 = .ok (.iload_n 2, 1) := by decide +kernel
theorem dX3_setMinutes_7 : decode cX3_setMinutes 7 = .ok (.invokevirtual 59, 3) := by decide +kernel
theorem dX3_setMinutes_10 : decode cX3_setMinutes 10 = .ok (.iload_n 1, 1) := by decide +kernel
theorem dX3_setMinutes_11 : decode cX3_setMinutes 11 = .ok (.iload_n 2, 1) := by decide +kernel
theorem dX3_setMinutes_12 : decode cX3_setMinutes 12 = .ok (.if_icmp .ne 13, 3) := by decide +kernel
theorem dX3_setMinutes_15 : decode cX3_setMinutes 15 = .ok (.new 63, 3) := by decide +kernel
theorem dX3_setMinutes_18 : decode cX3_setMinutes 18 = .ok (.dup, 1) := by decide +kernel
theorem dX3_setMinutes_19 : decode cX3_setMinutes 19 = .ok (.ldc 65, 2) := by decide +kernel
theorem dX3_setMinutes_21 : decode cX3_setMinutes 21 = .ok (.invokespecial 67, 3) := by decide +kernel
theorem dX3_setMinutes_24 : decode cX3_setMinutes 24 = .ok (.athrow, 1) := by decide +kernel
theorem dX3_setMinutes_25 : decode cX3_setMinutes 25 = .ok (.aload_n 0, 1) := by decide +kernel
theorem dX3_setMinutes_26 : decode cX3_setMinutes 26 = .ok (.iload_n 3, 1) := by decide +kernel
theorem dX3_setMinutes_27 : decode cX3_setMinutes 27 = .ok (.iconst 1, 1) := by decide +kernel
theorem dX3_setMinutes_28 : decode cX3_setMinutes 28 = .ok (.bipush 120, 2) := by decide +kernel
theorem dX3_setMinutes_30 : decode cX3_setMinutes 30 = .ok (.invokevirtual 68, 3) := by decide +kernel
theorem dX3_setMinutes_33 : decode cX3_setMinutes 33 = .ok (.aload_n 0, 1) := by decide +kernel
theorem dX3_setMinutes_34 : decode cX3_setMinutes 34 = .ok (.getfield 12, 3) := by decide +kernel
theorem dX3_setMinutes_37 : decode cX3_setMinutes 37 = .ok (.iload_n 1, 1) := by decide +kernel
theorem dX3_setMinutes_38 : decode cX3_setMinutes 38 = .ok (.iload_n 2, 1) := by decide +kernel
theorem dX3_setMinutes_39 : decode cX3_setMinutes 39 = .ok (.invokevirtual 72, 3) := by decide +kernel
theorem dX3_setMinutes_42 : decode cX3_setMinutes 42 = .ok (.istore 4, 2) := by decide +kernel
theorem dX3_setMinutes_44 : decode cX3_setMinutes 44 = .ok (.aload_n 0, 1) := by decide +kernel
theorem dX3_setMinutes_45 : decode cX3_setMinutes 45 = .ok (.getfield 12, 3) := by decide +kernel
theorem dX3_setMinutes_48 : decode cX3_setMinutes 48 = .ok (.iload_n 1, 1) := by decide +kernel
theorem dX3_setMinutes_49 : decode cX3_setMinutes 49 = .ok (.iload_n 2, 1) := by decide +kernel
theorem dX3_setMinutes_50 : decode cX3_setMinutes 50 = .ok (.iload_n 3, 1) := by decide +kernel
theorem dX3_setMinutes_51 : decode cX3_setMinutes 51 = .ok (.invokevirtual 76, 3) := by decide +kernel
theorem dX3_setMinutes_54 : decode cX3_setMinutes 54 = .ok (.iload 4, 2) := by decide +kernel
theorem dX3_setMinutes_56 : decode cX3_setMinutes 56 = .ok (.ireturn, 1) := by decide +kernel
set_option maxRecDepth 20000 in
theorem ggX3_setTip_X3_checkPlace : GoodIn wsX3_setTip wsX3_checkPlace := goodIn_ca (goodIn_r _ [8, 9, 10, 3, 31, 32, 33, 34, 35, 36, 37, 38, 39, 40, 41] (by decide +kernel) (by decide +kernel)) (goodIn_sub (fun _ h => List.mem_cons_of_mem _ (List.mem_append_right _ h)) (by decide +kernel))
set_option maxRecDepth 20000 in
theorem gX3_setTip_X3_checkPlace : GoodIn wsX3_setTip (wsV RX3 59 RX3 yX3_checkPlace wsX3_checkPlace) := goodIn_app (goodIn_of _ (by decide +kernel)) ggX3_setTip_X3_checkPlace
set_option maxRecDepth 20000 in
theorem ggX3_setTip_X3_checkKind : GoodIn wsX3_setTip wsX3_checkKind := goodIn_ca (goodIn_r _ [14, 9, 10] (by decide +kernel) (by decide +kernel)) (goodIn_sub (fun _ h => List.mem_cons_of_mem _ (List.mem_append_right _ h)) (by decide +kernel))
set_option maxRecDepth 20000 in
theorem gX3_setTip_X3_checkKind : GoodIn wsX3_setTip (wsV RX3 79 RX3 yX3_checkKind wsX3_checkKind) := goodIn_app (goodIn_of _ (by decide +kernel)) ggX3_setTip_X3_checkKind
set_option maxRecDepth 20000 in
theorem ggX3_setTip_X1_hasTip : GoodIn wsX3_setTip wsX1_hasTip := goodIn_r _ [19, 20, 39, 40, 41] (by decide +kernel) (by decide +kernel)
set_option maxRecDepth 20000 in
theorem gX3_setTip_X1_hasTip : GoodIn wsX3_setTip (wsV RX3 82 RX1 yX1_hasTip wsX1_hasTip) := goodIn_app (goodIn_of _ (by decide +kernel)) ggX3_setTip_X1_hasTip
set_option maxRecDepth 20000 in
theorem ggX3_setTip_X1_countTips : GoodIn wsX3_setTip wsX1_countTips := goodIn_r _ [24, 25, 26, 16, 17, 18, 19, 20, 39, 40, 41] (by decide +kernel) (by decide +kernel)
set_option maxRecDepth 20000 in
theorem gX3_setTip_X1_countTips : GoodIn wsX3_setTip (wsV RX3 86 RX1 yX1_countTips wsX1_countTips) := goodIn_app (goodIn_of _ (by decide +kernel)) ggX3_setTip_X1_countTips
set_option maxRecDepth 20000 in
theorem ggX3_setTip_X1_putTip : GoodIn wsX3_setTip wsX1_putTip := goodIn_r _ [30, 20, 39, 40, 41] (by decide +kernel) (by decide +kernel)
set_option maxRecDepth 20000 in
theorem gX3_setTip_X1_putTip : GoodIn wsX3_setTip (wsV RX3 92 RX1 yX1_putTip wsX1_putTip) := goodIn_app (goodIn_of _ (by decide +kernel)) ggX3_setTip_X1_putTip
theorem dX3_setTip_0 : decode cX3_setTip 0 = .ok (.aload_n 0, 1) := by decide +kernel
theorem dX3_setTip_1 : decode cX3_setTip 1 = .ok (.iload_n 1, 1) := by decide +kernel
theorem dX3_setTip_2 : decode cX3_setTip 2 = .ok (.invokevirtual 59, 3) := by decide +kernel
theorem dX3_setTip_5 : decode cX3_setTip 5 = .ok (.aload_n 0, 1) := by decide +kernel
theorem dX3_setTip_6 : decode cX3_setTip 6 = .ok (.iload_n 2, 1) := by decide +kernel
theorem dX3_setTip_7 : decode cX3_setTip 7 = .ok (.invokevirtual 79, 3) := by decide +kernel
theorem dX3_setTip_10 : decode cX3_setTip 10 = .ok (.aload_n 0, 1) := by decide +kernel
theorem dX3_setTip_11 : decode cX3_setTip 11 = .ok (.getfield 12, 3) := by decide +kernel
theorem dX3_setTip_14 : decode cX3_setTip 14 = .ok (.iload_n 1, 1) := by decide +kernel
theorem dX3_setTip_15 : decode cX3_setTip 15 = .ok (.iload_n 2, 1) := by decide +kernel
theorem dX3_setTip_16 : decode cX3_setTip 16 = .ok (.invokevirtual 82, 3) := by decide +kernel
theorem dX3_setTip_19 : decode cX3_setTip 19 = .ok (.istore 4, 2) := by decide +kernel
theorem dX3_setTip_21 : decode cX3_setTip 21 = .ok (.iload 4, 2) := by decide +kernel
theorem dX3_setTip_23 : decode cX3_setTip 23 = .ok (.ifCond .eq 29, 3) := by decide +kernel
theorem dX3_setTip_26 : decode cX3_setTip 26 = .ok (.iload_n 3, 1) := by decide +kernel
theorem dX3_setTip_27 : decode cX3_setTip 27 = .ok (.ifCond .ne 25, 3) := by decide +kernel
theorem dX3_setTip_30 : decode cX3_setTip 30 = .ok (.aload_n 0, 1) := by decide +kernel
theorem dX3_setTip_31 : decode cX3_setTip 31 = .ok (.getfield 12, 3) := by decide +kernel
theorem dX3_setTip_34 : decode cX3_setTip 34 = .ok (.iload_n 2, 1) := by decide +kernel
theorem dX3_setTip_35 : decode cX3_setTip 35 = .ok (.invokevirtual 86, 3) := by decide +kernel
theorem dX3_setTip_38 : decode cX3_setTip 38 = .ok (.iconst 1, 1) := by decide +kernel
theorem dX3_setTip_39 : decode cX3_setTip 39 = .ok (.if_icmp .ne 13, 3) := by decide +kernel
theorem dX3_setTip_42 : decode cX3_setTip 42 = .ok (.new 63, 3) := by decide +kernel
theorem dX3_setTip_45 : decode cX3_setTip 45 = .ok (.dup, 1) := by decide +kernel
theorem dX3_setTip_46 : decode cX3_setTip 46 = .ok (.ldc 90, 2) := by decide +kernel
theorem dX3_setTip_48 : decode cX3_setTip 48 = .ok (.invokespecial 67, 3) := by decide +kernel
theorem dX3_setTip_51 : decode cX3_setTip 51 = .ok (.athrow, 1) := by decide +kernel
theorem dX3_setTip_52 : decode cX3_setTip 52 = .ok (.aload_n 0, 1) := by decide +kernel
theorem dX3_setTip_53 : decode cX3_setTip 53 = .ok (.getfield 12, 3) := by decide +kernel
theorem dX3_setTip_56 : decode cX3_setTip 56 = .ok (.iload_n 1, 1) := by decide +kernel
theorem dX3_setTip_57 : decode cX3_setTip 57 = .ok (.iload_n 2, 1) := by decide +kernel
theorem dX3_setTip_58 : decode cX3_setTip 58 = .ok (.iload_n 3, 1) := by decide +kernel
theorem dX3_setTip_59 : decode cX3_setTip 59 = .ok (.invokevirtual 92, 3) := by decide +kernel
theorem dX3_setTip_62 : decode cX3_setTip 62 = .ok (.iload 4, 2) := by decide +kernel
theorem dX3_setTip_64 : decode cX3_setTip 64 = .ok (.ireturn, 1) := by decide +kernel
theorem dX3_setHoliday_0 : decode cX3_setHoliday 0 = .ok (.iload_n 1, 1) := by decide +kernel
theorem dX3_setHoliday_1 : decode cX3_setHoliday 1 = .ok (.ifCond .lt 10, 3) := by decide +kernel
theorem dX3_setHoliday_4 : decode cX3_setHoliday 4 = .ok (.iload_n 1, 1) := by decide +kernel
theorem dX3_setHoliday_5 : decode cX3_setHoliday 5 = .ok (.sipush 400, 3) := by decide +kernel
theorem dX3_setHoliday_8 : decode cX3_setHoliday 8 = .ok (.if_icmp .lt 13, 3) := by decide +kernel
theorem dX3_setHoliday_11 : decode cX3_setHoliday 11 = .ok (.new 96, 3) := by decide +kernel
theorem dX3_setHoliday_14 : decode cX3_setHoliday 14 = .ok (.dup, 1) := by decide +kernel
theorem dX3_setHoliday_15 : decode cX3_setHoliday 15 = .ok (.ldc 98, 2) := by decide +kernel
theorem dX3_setHoliday_17 : decode cX3_setHoliday 17 = .ok (.invokespecial 100, 3) := by decide +kernel
theorem dX3_setHoliday_20 : decode cX3_setHoliday 20 = .ok (.athrow, 1) := by decide +kernel
theorem dX3_setHoliday_21 : decode cX3_setHoliday 21 = .ok (.aload_n 0, 1) := by decide +kernel
theorem dX3_setHoliday_22 : decode cX3_setHoliday 22 = .ok (.getfield 23, 3) := by decide +kernel
theorem dX3_setHoliday_25 : decode cX3_setHoliday 25 = .ok (.iload_n 1, 1) := by decide +kernel
theorem dX3_setHoliday_26 : decode cX3_setHoliday 26 = .ok (.baload, 1) := by decide +kernel
theorem dX3_setHoliday_27 : decode cX3_setHoliday 27 = .ok (.istore_n 3, 1) := by decide +kernel
theorem dX3_setHoliday_28 : decode cX3_setHoliday 28 = .ok (.aload_n 0, 1) := by decide +kernel
theorem dX3_setHoliday_29 : decode cX3_setHoliday 29 = .ok (.getfield 23, 3) := by decide +kernel
theorem dX3_setHoliday_32 : decode cX3_setHoliday 32 = .ok (.iload_n 1, 1) := by decide +kernel
theorem dX3_setHoliday_33 : decode cX3_setHoliday 33 = .ok (.iload_n 2, 1) := by decide +kernel
theorem dX3_setHoliday_34 : decode cX3_setHoliday 34 = .ok (.bastore, 1) := by decide +kernel
theorem dX3_setHoliday_35 : decode cX3_setHoliday 35 = .ok (.iload_n 3, 1) := by decide +kernel
theorem dX3_setHoliday_36 : decode cX3_setHoliday 36 = .ok (.ireturn, 1) := by decide +kernel
set_option maxRecDepth 20000 in
theorem ggX3_pass_X3_checkRange : GoodIn wsX3_pass wsX3_checkRange := goodIn_ca (goodIn_r _ [8, 9, 10] (by decide +kernel) (by decide +kernel)) (goodIn_sub (fun _ h => List.mem_cons_of_mem _ (List.mem_append_right _ h)) (by decide +kernel))
set_option maxRecDepth 20000 in
theorem gX3_pass_X3_checkRange : GoodIn wsX3_pass (wsV RX3 68 RX3 yX3_checkRange wsX3_checkRange) := goodIn_app (goodIn_of _ (by decide +kernel)) ggX3_pass_X3_checkRange
set_option maxRecDepth 20000 in
theorem ggX3_pass_X3_passOneDay : GoodIn wsX3_pass wsX3_passOneDay := goodIn_r _ [14, 3, 15, 16, 17, 18, 19, 20, 21, 22, 23, 24, 25, 26, 27, 28, 29, 30, 31, 32, 33, 34, 35, 36, 37, 38, 39, 40, 41, 42, 43, 44, 45, 46, 47, 48, 49, 50, 51, 52, 53, 54, 55, 56, 57, 58, 59, 60, 61, 62, 63, 64, 65, 66, 67, 68, 69, 70, 71, 72, 73, 74] (by decide +kernel) (by decide +kernel)
set_option maxRecDepth 20000 in
theorem gX3_pass_X3_passOneDay : GoodIn wsX3_pass (wsV RX3 103 RX3 yX3_passOneDay wsX3_passOneDay) := goodIn_app (goodIn_of _ (by decide +kernel)) ggX3_pass_X3_passOneDay
theorem dX3_pass_0 : decode cX3_pass 0 = .ok (.aload_n 0, 1) := by decide +kernel
theorem dX3_pass_1 : decode cX3_pass 1 = .ok (.iload_n 1, 1) := by decide +kernel
theorem dX3_pass_2 : decode cX3_pass 2 = .ok (.iconst 1, 1) := by decide +kernel
theorem dX3_pass_3 : decode cX3_pass 3 = .ok (.bipush 60, 2) := by decide +kernel
theorem dX3_pass_5 : decode cX3_pass 5 = .ok (.invokevirtual 68, 3) := by decide +kernel
theorem dX3_pass_8 : decode cX3_pass 8 = .ok (.aload_n 0, 1) := by decide +kernel
theorem dX3_pass_9 : decode cX3_pass 9 = .ok (.getfield 42, 3) := by decide +kernel
theorem dX3_pass_12 : decode cX3_pass 12 = .ok (.iload_n 1, 1) := by decide +kernel
theorem dX3_pass_13 : decode cX3_pass 13 = .ok (.iadd, 1) := by decide +kernel
theorem dX3_pass_14 : decode cX3_pass 14 = .ok (.sipush 400, 3) := by decide +kernel
theorem dX3_pass_17 : decode cX3_pass 17 = .ok (.if_icmp .lt 13, 3) := by decide +kernel
theorem dX3_pass_20 : decode cX3_pass 20 = .ok (.new 48, 3) := by decide +kernel
theorem dX3_pass_23 : decode cX3_pass 23 = .ok (.dup, 1) := by decide +kernel
theorem dX3_pass_24 : decode cX3_pass 24 = .ok (.ldc 101, 2) := by decide +kernel
theorem dX3_pass_26 : decode cX3_pass 26 = .ok (.invokespecial 52, 3) := by decide +kernel
theorem dX3_pass_29 : decode cX3_pass 29 = .ok (.athrow, 1) := by decide +kernel
theorem dX3_pass_30 : decode cX3_pass 30 = .ok (.iconst 0, 1) := by decide +kernel
theorem dX3_pass_31 : decode cX3_pass 31 = .ok (.istore_n 2, 1) := by decide +kernel
theorem dX3_pass_32 : decode cX3_pass 32 = .ok (.iconst 0, 1) := by decide +kernel
theorem dX3_pass_33 : decode cX3_pass 33 = .ok (.istore_n 3, 1) := by decide +kernel
theorem dX3_pass_34 : decode cX3_pass 34 = .ok (.iload_n 3, 1) := by decide +kernel
theorem dX3_pass_35 : decode cX3_pass 35 = .ok (.iload_n 1, 1) := by decide +kernel
theorem dX3_pass_36 : decode cX3_pass 36 = .ok (.if_icmp .ge 16, 3) := by decide +kernel
theorem dX3_pass_39 : decode cX3_pass 39 = .ok (.iload_n 2, 1) := by decide +kernel
theorem dX3_pass_40 : decode cX3_pass 40 = .ok (.aload_n 0, 1) := by decide +kernel
theorem dX3_pass_41 : decode cX3_pass 41 = .ok (.invokevirtual 103, 3) := by decide +kernel
theorem dX3_pass_44 : decode cX3_pass 44 = .ok (.iadd, 1) := by decide +kernel
theorem dX3_pass_45 : decode cX3_pass 45 = .ok (.istore_n 2, 1) := by decide +kernel
theorem dX3_pass_46 : decode cX3_pass 46 = .ok (.iinc 3 1, 3) := by decide +kernel
theorem dX3_pass_49 : decode cX3_pass 49 = .ok (.goto (-15), 3) := by decide +kernel
theorem dX3_pass_52 : decode cX3_pass 52 = .ok (.iload_n 2, 1) := by decide +kernel
theorem dX3_pass_53 : decode cX3_pass 53 = .ok (.ireturn, 1) := by decide +kernel
theorem dX3_today_0 : decode cX3_today 0 = .ok (.aload_n 0, 1) := by decide +kernel
theorem dX3_today_1 : decode cX3_today 1 = .ok (.getfield 42, 3) := by decide +kernel
theorem dX3_today_4 : decode cX3_today 4 = .ok (.ireturn, 1) := by decide +kernel
theorem dX3_nextWorkday_0 : decode cX3_nextWorkday 0 = .ok (.aload_n 0, 1) := by decide +kernel
theorem dX3_nextWorkday_1 : decode cX3_nextWorkday 1 = .ok (.getfield 42, 3) := by decide +kernel
theorem dX3_nextWorkday_4 : decode cX3_nextWorkday 4 = .ok (.iconst 1, 1) := by decide +kernel
theorem dX3_nextWorkday_5 : decode cX3_nextWorkday 5 = .ok (.iadd, 1) := by decide +kernel
theorem dX3_nextWorkday_6 : decode cX3_nextWorkday 6 = .ok (.istore_n 1, 1) := by decide +kernel
theorem dX3_nextWorkday_7 : decode cX3_nextWorkday 7 = .ok (.iload_n 1, 1) := by decide +kernel
theorem dX3_nextWorkday_8 : decode cX3_nextWorkday 8 = .ok (.sipush 400, 3) := by decide +kernel
theorem dX3_nextWorkday_11 : decode cX3_nextWorkday 11 = .ok (.if_icmp .ge 20, 3) := by decide +kernel
theorem dX3_nextWorkday_14 : decode cX3_nextWorkday 14 = .ok (.aload_n 0, 1) := by decide +kernel
theorem dX3_nextWorkday_15 : decode cX3_nextWorkday 15 = .ok (.getfield 23, 3) := by decide +kernel
theorem dX3_nextWorkday_18 : decode cX3_nextWorkday 18 = .ok (.iload_n 1, 1) := by decide +kernel
theorem dX3_nextWorkday_19 : decode cX3_nextWorkday 19 = .ok (.baload, 1) := by decide +kernel
theorem dX3_nextWorkday_20 : decode cX3_nextWorkday 20 = .ok (.ifCond .ne 5, 3) := by decide +kernel
theorem dX3_nextWorkday_23 : decode cX3_nextWorkday 23 = .ok (.iload_n 1, 1) := by decide +kernel
theorem dX3_nextWorkday_24 : decode cX3_nextWorkday 24 = .ok (.ireturn, 1) := by decide +kernel
theorem dX3_nextWorkday_25 : decode cX3_nextWorkday 25 = .ok (.iinc 1 1, 3) := by decide +kernel
theorem dX3_nextWorkday_28 : decode cX3_nextWorkday 28 = .ok (.goto (-21), 3) := by decide +kernel
theorem dX3_nextWorkday_31 : decode cX3_nextWorkday 31 = .ok (.sipush 400, 3) := by decide +kernel
theorem dX3_nextWorkday_34 : decode cX3_nextWorkday 34 = .ok (.ireturn, 1) := by decide +kernel
set_option maxRecDepth 20000 in
theorem ggX3_addBin_X3_checkPlace : GoodIn wsX3_addBin wsX3_checkPlace := goodIn_ca (goodIn_r _ [14, 1, 2, 15, 102, 103, 104, 105, 106, 107, 108, 109, 120, 121, 122] (by decide +kernel) (by decide +kernel)) (goodIn_sub (fun _ h => List.mem_cons_of_mem _ (List.mem_append_left _ (List.mem_append_left _ (List.mem_append_right _ h)))) (by decide +kernel))
set_option maxRecDepth 20000 in
theorem gX3_addBin_X3_checkPlace : GoodIn wsX3_addBin (wsV RX3 59 RX3 yX3_checkPlace wsX3_checkPlace) := goodIn_app (goodIn_of _ (by decide +kernel)) ggX3_addBin_X3_checkPlace
set_option maxRecDepth 20000 in
theorem ggX3_addBin_X3_checkKind : GoodIn wsX3_addBin wsX3_checkKind := goodIn_ca (goodIn_r _ [19, 1, 2] (by decide +kernel) (by decide +kernel)) (goodIn_sub (fun _ h => List.mem_cons_of_mem _ (List.mem_append_left _ (List.mem_append_left _ (List.mem_append_right _ h)))) (by decide +kernel))
set_option maxRecDepth 20000 in
theorem gX3_addBin_X3_checkKind : GoodIn wsX3_addBin (wsV RX3 79 RX3 yX3_checkKind wsX3_checkKind) := goodIn_app (goodIn_of _ (by decide +kernel)) ggX3_addBin_X3_checkKind
set_option maxRecDepth 20000 in
theorem ggX3_addBin_X3_checkRange : GoodIn wsX3_addBin wsX3_checkRange := goodIn_ca (goodIn_r _ [23, 24, 25] (by decide +kernel) (by decide +kernel)) (goodIn_sub (fun _ h => List.mem_cons_of_mem _ (List.mem_append_right _ h)) (by decide +kernel))
set_option maxRecDepth 20000 in
theorem gX3_addBin_X3_checkRange : GoodIn wsX3_addBin (wsV RX3 68 RX3 yX3_checkRange wsX3_checkRange) := goodIn_app (goodIn_of _ (by decide +kernel)) ggX3_addBin_X3_checkRange
set_option maxRecDepth 20000 in
theorem ggX3_addBin_Jx4a65c_size_8abf5 : GoodIn wsX3_addBin wsJx4a65c_size_8abf5 := goodIn_r _ [30, 31, 123, 124, 125] (by decide +kernel) (by decide +kernel)
set_option maxRecDepth 20000 in
theorem gX3_addBin_Jx4a65c_size_8abf5 : GoodIn wsX3_addBin (wsV RX3 108 RJx4a65c yJx4a65c_size_8abf5 wsJx4a65c_size_8abf5) := goodIn_app (goodIn_of _ (by decide +kernel)) ggX3_addBin_Jx4a65c_size_8abf5
set_option maxRecDepth 20000 in
theorem ggX3_addBin_X0_init : GoodIn wsX3_addBin wsX0_init := goodIn_r _ [34, 35, 36, 37, 38, 39, 40, 41, 42, 43, 44, 45, 46, 47, 110, 111, 112, 113, 114, 115, 116, 117, 118, 119] (by decide +kernel) (by decide +kernel)
set_option maxRecDepth 20000 in
theorem gX3_addBin_X0_init : GoodIn wsX3_addBin (wsX0_init) := ggX3_addBin_X0_init
set_option maxRecDepth 20000 in
theorem ggX3_addBin_Jx4a65c_add_9ea2d : GoodIn wsX3_addBin wsJx4a65c_add_9ea2d := goodIn_r _ [51, 52, 53, 54, 31, 55, 56, 57, 29, 58, 59, 60, 61, 62, 63, 64, 65, 66, 67, 68, 69, 70, 71, 72, 73, 74, 75, 76, 77, 78, 79, 80, 81, 82, 83, 84, 85, 86, 87, 88, 89, 90, 91, 92, 93, 94, 95, 96, 97, 98, 99, 100, 101, 123, 124, 125] (by decide +kernel) (by decide +kernel)
set_option maxRecDepth 20000 in
theorem gX3_addBin_Jx4a65c_add_9ea2d : GoodIn wsX3_addBin (wsV RX3 118 RJx4a65c yJx4a65c_add_9ea2d wsJx4a65c_add_9ea2d) := goodIn_app (goodIn_of _ (by decide +kernel)) ggX3_addBin_Jx4a65c_add_9ea2d
theorem dX3_addBin_0 : decode cX3_addBin 0 = .ok (.aload_n 0, 1) := by decide +kernel
theorem dX3_addBin_1 : decode cX3_addBin 1 = .ok (.iload_n 1, 1) := by decide +kernel
theorem dX3_addBin_2 : decode cX3_addBin 2 = .ok (.invokevirtual 59, 3) := by decide +kernel
theorem dX3_addBin_5 : decode cX3_addBin 5 = .ok (.iload_n 1, 1) := by decide +kernel
theorem dX3_addBin_6 : decode cX3_addBin 6 = .ok (.ifCond .ne 13, 3) := by decide +kernel
theorem dX3_addBin_9 : decode cX3_addBin 9 = .ok (.new 96, 3) := by decide +kernel
theorem dX3_addBin_12 : decode cX3_addBin 12 = .ok (.dup, 1) := by decide +kernel
theorem dX3_addBin_13 : decode cX3_addBin 13 = .ok (.ldc 106, 2) := by decide +kernel
theorem dX3_addBin_15 : decode cX3_addBin 15 = .ok (.invokespecial 100, 3) := by decide +kernel
theorem dX3_addBin_18 : decode cX3_addBin 18 = .ok (.athrow, 1) := by decide +kernel
theorem dX3_addBin_19 : decode cX3_addBin 19 = .ok (.aload_n 0, 1) := by decide +kernel
theorem dX3_addBin_20 : decode cX3_addBin 20 = .ok (.iload_n 2, 1) := by decide +kernel
theorem dX3_addBin_21 : decode cX3_addBin 21 = .ok (.invokevirtual 79, 3) := by decide +kernel
theorem dX3_addBin_24 : decode cX3_addBin 24 = .ok (.aload_n 0, 1) := by decide +kernel
theorem dX3_addBin_25 : decode cX3_addBin 25 = .ok (.iload_n 3, 1) := by decide +kernel
theorem dX3_addBin_26 : decode cX3_addBin 26 = .ok (.bipush 10, 2) := by decide +kernel
theorem dX3_addBin_28 : decode cX3_addBin 28 = .ok (.sipush 1000, 3) := by decide +kernel
theorem dX3_addBin_31 : decode cX3_addBin 31 = .ok (.invokevirtual 68, 3) := by decide +kernel
theorem dX3_addBin_34 : decode cX3_addBin 34 = .ok (.aload_n 0, 1) := by decide +kernel
theorem dX3_addBin_35 : decode cX3_addBin 35 = .ok (.iload 4, 2) := by decide +kernel
theorem dX3_addBin_37 : decode cX3_addBin 37 = .ok (.iconst 0, 1) := by decide +kernel
theorem dX3_addBin_38 : decode cX3_addBin 38 = .ok (.sipush 200, 3) := by decide +kernel
theorem dX3_addBin_41 : decode cX3_addBin 41 = .ok (.invokevirtual 68, 3) := by decide +kernel
theorem dX3_addBin_44 : decode cX3_addBin 44 = .ok (.aload_n 0, 1) := by decide +kernel
theorem dX3_addBin_45 : decode cX3_addBin 45 = .ok (.getfield 19, 3) := by decide +kernel
theorem dX3_addBin_48 : decode cX3_addBin 48 = .ok (.invokevirtual 108, 3) := by decide +kernel
theorem dX3_addBin_51 : decode cX3_addBin 51 = .ok (.istore 5, 2) := by decide +kernel
theorem dX3_addBin_53 : decode cX3_addBin 53 = .ok (.iload 5, 2) := by decide +kernel
theorem dX3_addBin_55 : decode cX3_addBin 55 = .ok (.bipush 16, 2) := by decide +kernel
theorem dX3_addBin_57 : decode cX3_addBin 57 = .ok (.if_icmp .lt 13, 3) := by decide +kernel
theorem dX3_addBin_60 : decode cX3_addBin 60 = .ok (.new 48, 3) := by decide +kernel
theorem dX3_addBin_63 : decode cX3_addBin 63 = .ok (.dup, 1) := by decide +kernel
theorem dX3_addBin_64 : decode cX3_addBin 64 = .ok (.ldc 111, 2) := by decide +kernel
theorem dX3_addBin_66 : decode cX3_addBin 66 = .ok (.invokespecial 52, 3) := by decide +kernel
theorem dX3_addBin_69 : decode cX3_addBin 69 = .ok (.athrow, 1) := by decide +kernel
theorem dX3_addBin_70 : decode cX3_addBin 70 = .ok (.aload_n 0, 1) := by decide +kernel
theorem dX3_addBin_71 : decode cX3_addBin 71 = .ok (.getfield 19, 3) := by decide +kernel
theorem dX3_addBin_74 : decode cX3_addBin 74 = .ok (.new 113, 3) := by decide +kernel
theorem dX3_addBin_77 : decode cX3_addBin 77 = .ok (.dup, 1) := by decide +kernel
theorem dX3_addBin_78 : decode cX3_addBin 78 = .ok (.iload_n 1, 1) := by decide +kernel
theorem dX3_addBin_79 : decode cX3_addBin 79 = .ok (.iload_n 2, 1) := by decide +kernel
theorem dX3_addBin_80 : decode cX3_addBin 80 = .ok (.iload_n 3, 1) := by decide +kernel
theorem dX3_addBin_81 : decode cX3_addBin 81 = .ok (.iload 4, 2) := by decide +kernel
theorem dX3_addBin_83 : decode cX3_addBin 83 = .ok (.aload_n 0, 1) := by decide +kernel
theorem dX3_addBin_84 : decode cX3_addBin 84 = .ok (.getfield 42, 3) := by decide +kernel
theorem dX3_addBin_87 : decode cX3_addBin 87 = .ok (.invokespecial 115, 3) := by decide +kernel
theorem dX3_addBin_90 : decode cX3_addBin 90 = .ok (.invokevirtual 118, 3) := by decide +kernel
theorem dX3_addBin_93 : decode cX3_addBin 93 = .ok (.pop, 1) := by decide +kernel
theorem dX3_addBin_94 : decode cX3_addBin 94 = .ok (.iload 5, 2) := by decide +kernel
theorem dX3_addBin_96 : decode cX3_addBin 96 = .ok (.ireturn, 1) := by decide +kernel
set_option maxRecDepth 20000 in
theorem ggX3_setGrowth_X3_checkBin : GoodIn wsX3_setGrowth wsX3_checkBin := goodIn_ca (goodIn_r _ [7, 8, 9, 1, 10, 11, 12, 13, 14, 15, 39, 40, 41, 42, 43, 44, 45, 46, 57, 58, 59] (by decide +kernel) (by decide +kernel)) (goodIn_sub (fun _ h => List.mem_cons_of_mem _ (List.mem_append_left _ (List.mem_append_right _ h))) (by decide +kernel))
set_option maxRecDepth 20000 in
theorem gX3_setGrowth_X3_checkBin : GoodIn wsX3_setGrowth (wsV RX3 121 RX3 yX3_checkBin wsX3_checkBin) := goodIn_app (goodIn_of _ (by decide +kernel)) ggX3_setGrowth_X3_checkBin
set_option maxRecDepth 20000 in
theorem ggX3_setGrowth_X3_checkRange : GoodIn wsX3_setGrowth wsX3_checkRange := goodIn_ca (goodIn_r _ [19, 20, 21] (by decide +kernel) (by decide +kernel)) (goodIn_sub (fun _ h => List.mem_cons_of_mem _ (List.mem_append_right _ h)) (by decide +kernel))
set_option maxRecDepth 20000 in
theorem gX3_setGrowth_X3_checkRange : GoodIn wsX3_setGrowth (wsV RX3 68 RX3 yX3_checkRange wsX3_checkRange) := goodIn_app (goodIn_of _ (by decide +kernel)) ggX3_setGrowth_X3_checkRange
set_option maxRecDepth 20000 in
theorem ggX3_setGrowth_Jx4a65c_get_915e3 : GoodIn wsX3_setGrowth wsJx4a65c_get_915e3 := goodIn_r _ [25, 15, 26, 27, 28, 29, 30, 31, 32, 33, 34, 35, 36, 13, 37, 38, 57, 58, 59] (by decide +kernel) (by decide +kernel)
set_option maxRecDepth 20000 in
theorem gX3_setGrowth_Jx4a65c_get_915e3 : GoodIn wsX3_setGrowth (wsV RX3 124 RJx4a65c yJx4a65c_get_915e3 wsJx4a65c_get_915e3) := goodIn_app (goodIn_of _ (by decide +kernel)) ggX3_setGrowth_Jx4a65c_get_915e3
theorem dX3_setGrowth_0 : decode cX3_setGrowth 0 = .ok (.aload_n 0, 1) := by decide +kernel
theorem dX3_setGrowth_1 : decode cX3_setGrowth 1 = .ok (.iload_n 1, 1) := by decide +kernel
theorem dX3_setGrowth_2 : decode cX3_setGrowth 2 = .ok (.invokevirtual 121, 3) := by decide +kernel
theorem dX3_setGrowth_5 : decode cX3_setGrowth 5 = .ok (.aload_n 0, 1) := by decide +kernel
theorem dX3_setGrowth_6 : decode cX3_setGrowth 6 = .ok (.iload_n 2, 1) := by decide +kernel
theorem dX3_setGrowth_7 : decode cX3_setGrowth 7 = .ok (.iconst 0, 1) := by decide +kernel
theorem dX3_setGrowth_8 : decode cX3_setGrowth 8 = .ok (.sipush 200, 3) := by decide +kernel
theorem dX3_setGrowth_11 : decode cX3_setGrowth 11 = .ok (.invokevirtual 68, 3) := by decide +kernel
theorem dX3_setGrowth_14 : decode cX3_setGrowth 14 = .ok (.aload_n 0, 1) := by decide +kernel
theorem dX3_setGrowth_15 : decode cX3_setGrowth 15 = .ok (.getfield 19, 3) := by decide +kernel
theorem dX3_setGrowth_18 : decode cX3_setGrowth 18 = .ok (.iload_n 1, 1) := by decide +kernel
theorem dX3_setGrowth_19 : decode cX3_setGrowth 19 = .ok (.invokevirtual 124, 3) := by decide +kernel
theorem dX3_setGrowth_22 : decode cX3_setGrowth 22 = .ok (.checkcast 113, 3) := by decide +kernel
theorem dX3_setGrowth_25 : decode cX3_setGrowth 25 = .ok (.astore_n 3, 1) := by decide +kernel
theorem dX3_setGrowth_26 : decode cX3_setGrowth 26 = .ok (.aload_n 3, 1) := by decide +kernel
theorem dX3_setGrowth_27 : decode cX3_setGrowth 27 = .ok (.getfield 128, 3) := by decide +kernel
theorem dX3_setGrowth_30 : decode cX3_setGrowth 30 = .ok (.istore 4, 2) := by decide +kernel
theorem dX3_setGrowth_32 : decode cX3_setGrowth 32 = .ok (.aload_n 3, 1) := by decide +kernel
theorem dX3_setGrowth_33 : decode cX3_setGrowth 33 = .ok (.iload_n 2, 1) := by decide +kernel
theorem dX3_setGrowth_34 : decode cX3_setGrowth 34 = .ok (.putfield 128, 3) := by decide +kernel
theorem dX3_setGrowth_37 : decode cX3_setGrowth 37 = .ok (.iload 4, 2) := by decide +kernel
theorem dX3_setGrowth_39 : decode cX3_setGrowth 39 = .ok (.ireturn, 1) := by decide +kernel
set_option maxRecDepth 20000 in
theorem ggX3_soil_X3_checkBin : GoodIn wsX3_soil wsX3_checkBin := goodIn_ca (goodIn_r _ [7, 8, 9, 1, 10, 11, 12, 13, 14, 15, 33, 34, 35, 36, 37, 38, 39, 40, 51, 52, 53] (by decide +kernel) (by decide +kernel)) (goodIn_sub (fun _ h => List.mem_cons_of_mem _ (List.mem_append_right _ h)) (by decide +kernel))
set_option maxRecDepth 20000 in
theorem gX3_soil_X3_checkBin : GoodIn wsX3_soil (wsV RX3 121 RX3 yX3_checkBin wsX3_checkBin) := goodIn_app (goodIn_of _ (by decide +kernel)) ggX3_soil_X3_checkBin
set_option maxRecDepth 20000 in
theorem ggX3_soil_Jx4a65c_get_915e3 : GoodIn wsX3_soil wsJx4a65c_get_915e3 := goodIn_r _ [19, 15, 20, 21, 22, 23, 24, 25, 26, 27, 28, 29, 30, 13, 31, 32, 51, 52, 53] (by decide +kernel) (by decide +kernel)
set_option maxRecDepth 20000 in
theorem gX3_soil_Jx4a65c_get_915e3 : GoodIn wsX3_soil (wsV RX3 124 RJx4a65c yJx4a65c_get_915e3 wsJx4a65c_get_915e3) := goodIn_app (goodIn_of _ (by decide +kernel)) ggX3_soil_Jx4a65c_get_915e3
theorem dX3_soil_0 : decode cX3_soil 0 = .ok (.aload_n 0, 1) := by decide +kernel
theorem dX3_soil_1 : decode cX3_soil 1 = .ok (.iload_n 1, 1) := by decide +kernel
theorem dX3_soil_2 : decode cX3_soil 2 = .ok (.invokevirtual 121, 3) := by decide +kernel
theorem dX3_soil_5 : decode cX3_soil 5 = .ok (.aload_n 0, 1) := by decide +kernel
theorem dX3_soil_6 : decode cX3_soil 6 = .ok (.getfield 19, 3) := by decide +kernel
theorem dX3_soil_9 : decode cX3_soil 9 = .ok (.iload_n 1, 1) := by decide +kernel
theorem dX3_soil_10 : decode cX3_soil 10 = .ok (.invokevirtual 124, 3) := by decide +kernel
theorem dX3_soil_13 : decode cX3_soil 13 = .ok (.checkcast 113, 3) := by decide +kernel
theorem dX3_soil_16 : decode cX3_soil 16 = .ok (.astore_n 2, 1) := by decide +kernel
theorem dX3_soil_17 : decode cX3_soil 17 = .ok (.aload_n 2, 1) := by decide +kernel
theorem dX3_soil_18 : decode cX3_soil 18 = .ok (.getfield 131, 3) := by decide +kernel
theorem dX3_soil_21 : decode cX3_soil 21 = .ok (.ifCond .ne 7, 3) := by decide +kernel
theorem dX3_soil_24 : decode cX3_soil 24 = .ok (.iconst 1, 1) := by decide +kernel
theorem dX3_soil_25 : decode cX3_soil 25 = .ok (.goto 4, 3) := by decide +kernel
theorem dX3_soil_28 : decode cX3_soil 28 = .ok (.iconst 0, 1) := by decide +kernel
theorem dX3_soil_29 : decode cX3_soil 29 = .ok (.istore_n 3, 1) := by decide +kernel
theorem dX3_soil_30 : decode cX3_soil 30 = .ok (.aload_n 2, 1) := by decide +kernel
theorem dX3_soil_31 : decode cX3_soil 31 = .ok (.iconst 1, 1) := by decide +kernel
theorem dX3_soil_32 : decode cX3_soil 32 = .ok (.putfield 131, 3) := by decide +kernel
theorem dX3_soil_35 : decode cX3_soil 35 = .ok (.iload_n 3, 1) := by decide +kernel
theorem dX3_soil_36 : decode cX3_soil 36 = .ok (.ireturn, 1) := by decide +kernel
set_option maxRecDepth 20000 in
theorem ggX3_binCount_Jx4a65c_size_8abf5 : GoodIn wsX3_binCount wsJx4a65c_size_8abf5 := goodIn_r _ [6, 7, 16, 17, 18] (by decide +kernel) (by decide +kernel)
set_option maxRecDepth 20000 in
theorem gX3_binCount_Jx4a65c_size_8abf5 : GoodIn wsX3_binCount (wsV RX3 108 RJx4a65c yJx4a65c_size_8abf5 wsJx4a65c_size_8abf5) := goodIn_app (goodIn_of _ (by decide +kernel)) ggX3_binCount_Jx4a65c_size_8abf5
theorem dX3_binCount_0 : decode cX3_binCount 0 = .ok (.aload_n 0, 1) := by decide +kernel
theorem dX3_binCount_1 : decode cX3_binCount 1 = .ok (.getfield 19, 3) := by decide +kernel
theorem dX3_binCount_4 : decode cX3_binCount 4 = .ok (.invokevirtual 108, 3) := by decide +kernel
theorem dX3_binCount_7 : decode cX3_binCount 7 = .ok (.ireturn, 1) := by decide +kernel
set_option maxRecDepth 20000 in
theorem ggX3_bin_X3_checkBin : GoodIn wsX3_bin wsX3_checkBin := goodIn_ca (goodIn_r _ [9, 1, 2, 3, 10, 11, 12, 13, 14, 15, 46, 47, 48, 49, 50, 51, 52, 53, 54, 55, 56] (by decide +kernel) (by decide +kernel)) (goodIn_sub (fun _ h => List.mem_cons_of_mem _ (List.mem_append_right _ h)) (by decide +kernel))
set_option maxRecDepth 20000 in
theorem gX3_bin_X3_checkBin : GoodIn wsX3_bin (wsV RX3 121 RX3 yX3_checkBin wsX3_checkBin) := goodIn_app (goodIn_of _ (by decide +kernel)) ggX3_bin_X3_checkBin
set_option maxRecDepth 20000 in
theorem ggX3_bin_Jx4a65c_get_915e3 : GoodIn wsX3_bin wsJx4a65c_get_915e3 := goodIn_r _ [19, 15, 20, 21, 22, 23, 24, 25, 26, 27, 28, 29, 30, 13, 31, 32, 54, 55, 56] (by decide +kernel) (by decide +kernel)
set_option maxRecDepth 20000 in
theorem gX3_bin_Jx4a65c_get_915e3 : GoodIn wsX3_bin (wsV RX3 124 RJx4a65c yJx4a65c_get_915e3 wsJx4a65c_get_915e3) := goodIn_app (goodIn_of _ (by decide +kernel)) ggX3_bin_Jx4a65c_get_915e3
set_option maxRecDepth 20000 in
theorem ggX3_bin_X0_fact : GoodIn wsX3_bin wsX0_fact := goodIn_r _ [37, 38, 39, 40, 41, 42, 43, 44, 45, 57, 58, 59, 60, 61, 62, 63, 64, 65, 66] (by decide +kernel) (by decide +kernel)
set_option maxRecDepth 20000 in
theorem gX3_bin_X0_fact : GoodIn wsX3_bin (wsV RX3 137 RX0 yX0_fact wsX0_fact) := goodIn_app (goodIn_of _ (by decide +kernel)) ggX3_bin_X0_fact
theorem dX3_bin_0 : decode cX3_bin 0 = .ok (.aload_n 0, 1) := by decide +kernel
theorem dX3_bin_1 : decode cX3_bin 1 = .ok (.iload_n 1, 1) := by decide +kernel
theorem dX3_bin_2 : decode cX3_bin 2 = .ok (.invokevirtual 121, 3) := by decide +kernel
theorem dX3_bin_5 : decode cX3_bin 5 = .ok (.iload_n 2, 1) := by decide +kernel
theorem dX3_bin_6 : decode cX3_bin 6 = .ok (.ifCond .lt 9, 3) := by decide +kernel
theorem dX3_bin_9 : decode cX3_bin 9 = .ok (.iload_n 2, 1) := by decide +kernel
theorem dX3_bin_10 : decode cX3_bin 10 = .ok (.bipush 8, 2) := by decide +kernel
theorem dX3_bin_12 : decode cX3_bin 12 = .ok (.if_icmp .lt 13, 3) := by decide +kernel
theorem dX3_bin_15 : decode cX3_bin 15 = .ok (.new 96, 3) := by decide +kernel
theorem dX3_bin_18 : decode cX3_bin 18 = .ok (.dup, 1) := by decide +kernel
theorem dX3_bin_19 : decode cX3_bin 19 = .ok (.ldc 135, 2) := by decide +kernel
theorem dX3_bin_21 : decode cX3_bin 21 = .ok (.invokespecial 100, 3) := by decide +kernel
theorem dX3_bin_24 : decode cX3_bin 24 = .ok (.athrow, 1) := by decide +kernel
theorem dX3_bin_25 : decode cX3_bin 25 = .ok (.aload_n 0, 1) := by decide +kernel
theorem dX3_bin_26 : decode cX3_bin 26 = .ok (.getfield 19, 3) := by decide +kernel
theorem dX3_bin_29 : decode cX3_bin 29 = .ok (.iload_n 1, 1) := by decide +kernel
theorem dX3_bin_30 : decode cX3_bin 30 = .ok (.invokevirtual 124, 3) := by decide +kernel
theorem dX3_bin_33 : decode cX3_bin 33 = .ok (.checkcast 113, 3) := by decide +kernel
theorem dX3_bin_36 : decode cX3_bin 36 = .ok (.iload_n 2, 1) := by decide +kernel
theorem dX3_bin_37 : decode cX3_bin 37 = .ok (.invokevirtual 137, 3) := by decide +kernel
theorem dX3_bin_40 : decode cX3_bin 40 = .ok (.ireturn, 1) := by decide +kernel
set_option maxRecDepth 20000 in
theorem ggX3_expected_X3_checkBin : GoodIn wsX3_expected wsX3_checkBin := goodIn_ca (goodIn_r _ [8, 9, 10, 2, 11, 12, 13, 14, 15, 16, 52, 53, 54, 55, 56, 57, 58, 59, 60, 61, 62] (by decide +kernel) (by decide +kernel)) (goodIn_sub (fun _ h => List.mem_cons_of_mem _ (List.mem_append_left _ (List.mem_append_right _ h))) (by decide +kernel))
set_option maxRecDepth 20000 in
theorem gX3_expected_X3_checkBin : GoodIn wsX3_expected (wsV RX3 121 RX3 yX3_checkBin wsX3_checkBin) := goodIn_app (goodIn_of _ (by decide +kernel)) ggX3_expected_X3_checkBin
set_option maxRecDepth 20000 in
theorem ggX3_expected_X3_checkRange : GoodIn wsX3_expected wsX3_checkRange := goodIn_ca (goodIn_r _ [20, 21, 22] (by decide +kernel) (by decide +kernel)) (goodIn_sub (fun _ h => List.mem_cons_of_mem _ (List.mem_append_right _ h)) (by decide +kernel))
set_option maxRecDepth 20000 in
theorem gX3_expected_X3_checkRange : GoodIn wsX3_expected (wsV RX3 68 RX3 yX3_checkRange wsX3_checkRange) := goodIn_app (goodIn_of _ (by decide +kernel)) ggX3_expected_X3_checkRange
set_option maxRecDepth 20000 in
theorem ggX3_expected_Jx4a65c_get_915e3 : GoodIn wsX3_expected wsJx4a65c_get_915e3 := goodIn_r _ [26, 16, 27, 28, 29, 30, 31, 32, 33, 34, 35, 36, 37, 14, 38, 39, 60, 61, 62] (by decide +kernel) (by decide +kernel)
set_option maxRecDepth 20000 in
theorem gX3_expected_Jx4a65c_get_915e3 : GoodIn wsX3_expected (wsV RX3 124 RJx4a65c yJx4a65c_get_915e3 wsJx4a65c_get_915e3) := goodIn_app (goodIn_of _ (by decide +kernel)) ggX3_expected_Jx4a65c_get_915e3
set_option maxRecDepth 20000 in
theorem ggX3_expected_X0_forecast : GoodIn wsX3_expected wsX0_forecast := goodIn_r _ [44, 45, 46, 47, 48, 49, 50, 51, 63, 64, 65, 66, 67, 68, 69, 70, 71, 72] (by decide +kernel) (by decide +kernel)
set_option maxRecDepth 20000 in
theorem gX3_expected_X0_forecast : GoodIn wsX3_expected (wsV RX3 140 RX0 yX0_forecast wsX0_forecast) := goodIn_app (goodIn_of _ (by decide +kernel)) ggX3_expected_X0_forecast
theorem dX3_expected_0 : decode cX3_expected 0 = .ok (.aload_n 0, 1) := by decide +kernel
theorem dX3_expected_1 : decode cX3_expected 1 = .ok (.iload_n 1, 1) := by decide +kernel
theorem dX3_expected_2 : decode cX3_expected 2 = .ok (.invokevirtual 121, 3) := by decide +kernel
theorem dX3_expected_5 : decode cX3_expected 5 = .ok (.aload_n 0, 1) := by decide +kernel
theorem dX3_expected_6 : decode cX3_expected 6 = .ok (.iload_n 2, 1) := by decide +kernel
theorem dX3_expected_7 : decode cX3_expected 7 = .ok (.aload_n 0, 1) := by decide +kernel
theorem dX3_expected_8 : decode cX3_expected 8 = .ok (.getfield 42, 3) := by decide +kernel
theorem dX3_expected_11 : decode cX3_expected 11 = .ok (.sipush 999, 3) := by decide +kernel
theorem dX3_expected_14 : decode cX3_expected 14 = .ok (.invokevirtual 68, 3) := by decide +kernel
theorem dX3_expected_17 : decode cX3_expected 17 = .ok (.aload_n 0, 1) := by decide +kernel
theorem dX3_expected_18 : decode cX3_expected 18 = .ok (.getfield 19, 3) := by decide +kernel
theorem dX3_expected_21 : decode cX3_expected 21 = .ok (.iload_n 1, 1) := by decide +kernel
theorem dX3_expected_22 : decode cX3_expected 22 = .ok (.invokevirtual 124, 3) := by decide +kernel
theorem dX3_expected_25 : decode cX3_expected 25 = .ok (.checkcast 113, 3) := by decide +kernel
theorem dX3_expected_28 : decode cX3_expected 28 = .ok (.iload_n 2, 1) := by decide +kernel
theorem dX3_expected_29 : decode cX3_expected 29 = .ok (.invokevirtual 140, 3) := by decide +kernel
theorem dX3_expected_32 : decode cX3_expected 32 = .ok (.ireturn, 1) := by decide +kernel
set_option maxRecDepth 20000 in
theorem ggX3_fullOn_X3_checkBin : GoodIn wsX3_fullOn wsX3_checkBin := goodIn_ca (goodIn_r _ [8, 9, 10, 1, 11, 12, 13, 14, 15, 16, 50, 51, 52, 53, 54, 55, 56, 57, 58, 59, 60] (by decide +kernel) (by decide +kernel)) (goodIn_sub (fun _ h => List.mem_cons_of_mem _ (List.mem_append_right _ h)) (by decide +kernel))
set_option maxRecDepth 20000 in
theorem gX3_fullOn_X3_checkBin : GoodIn wsX3_fullOn (wsV RX3 121 RX3 yX3_checkBin wsX3_checkBin) := goodIn_app (goodIn_of _ (by decide +kernel)) ggX3_fullOn_X3_checkBin
set_option maxRecDepth 20000 in
theorem ggX3_fullOn_Jx4a65c_get_915e3 : GoodIn wsX3_fullOn wsJx4a65c_get_915e3 := goodIn_r _ [20, 16, 21, 22, 23, 24, 25, 26, 27, 28, 29, 30, 31, 14, 32, 33, 58, 59, 60] (by decide +kernel) (by decide +kernel)
set_option maxRecDepth 20000 in
theorem gX3_fullOn_Jx4a65c_get_915e3 : GoodIn wsX3_fullOn (wsV RX3 124 RJx4a65c yJx4a65c_get_915e3 wsJx4a65c_get_915e3) := goodIn_app (goodIn_of _ (by decide +kernel)) ggX3_fullOn_Jx4a65c_get_915e3
set_option maxRecDepth 20000 in
theorem ggX3_fullOn_X0_isFullOn : GoodIn wsX3_fullOn wsX0_isFullOn := goodIn_r _ [38, 39, 40, 41, 42, 37, 43, 44, 45, 46, 47, 48, 49, 61, 62, 63, 64, 65, 66, 67, 68, 69, 70] (by decide +kernel) (by decide +kernel)
set_option maxRecDepth 20000 in
theorem gX3_fullOn_X0_isFullOn : GoodIn wsX3_fullOn (wsV RX3 143 RX0 yX0_isFullOn wsX0_isFullOn) := goodIn_app (goodIn_of _ (by decide +kernel)) ggX3_fullOn_X0_isFullOn
theorem dX3_fullOn_0 : decode cX3_fullOn 0 = .ok (.aload_n 0, 1) := by decide +kernel
theorem dX3_fullOn_1 : decode cX3_fullOn 1 = .ok (.iload_n 1, 1) := by decide +kernel
theorem dX3_fullOn_2 : decode cX3_fullOn 2 = .ok (.invokevirtual 121, 3) := by decide +kernel
theorem dX3_fullOn_5 : decode cX3_fullOn 5 = .ok (.aload_n 0, 1) := by decide +kernel
theorem dX3_fullOn_6 : decode cX3_fullOn 6 = .ok (.getfield 19, 3) := by decide +kernel
theorem dX3_fullOn_9 : decode cX3_fullOn 9 = .ok (.iload_n 1, 1) := by decide +kernel
theorem dX3_fullOn_10 : decode cX3_fullOn 10 = .ok (.invokevirtual 124, 3) := by decide +kernel
theorem dX3_fullOn_13 : decode cX3_fullOn 13 = .ok (.checkcast 113, 3) := by decide +kernel
theorem dX3_fullOn_16 : decode cX3_fullOn 16 = .ok (.astore_n 2, 1) := by decide +kernel
theorem dX3_fullOn_17 : decode cX3_fullOn 17 = .ok (.aload_n 0, 1) := by decide +kernel
theorem dX3_fullOn_18 : decode cX3_fullOn 18 = .ok (.getfield 42, 3) := by decide +kernel
theorem dX3_fullOn_21 : decode cX3_fullOn 21 = .ok (.istore_n 3, 1) := by decide +kernel
theorem dX3_fullOn_22 : decode cX3_fullOn 22 = .ok (.iload_n 3, 1) := by decide +kernel
theorem dX3_fullOn_23 : decode cX3_fullOn 23 = .ok (.sipush 999, 3) := by decide +kernel
theorem dX3_fullOn_26 : decode cX3_fullOn 26 = .ok (.if_icmp .gt 19, 3) := by decide +kernel
theorem dX3_fullOn_29 : decode cX3_fullOn 29 = .ok (.aload_n 2, 1) := by decide +kernel
theorem dX3_fullOn_30 : decode cX3_fullOn 30 = .ok (.iload_n 3, 1) := by decide +kernel
theorem dX3_fullOn_31 : decode cX3_fullOn 31 = .ok (.invokevirtual 143, 3) := by decide +kernel
theorem dX3_fullOn_34 : decode cX3_fullOn 34 = .ok (.ifCond .eq 5, 3) := by decide +kernel
theorem dX3_fullOn_37 : decode cX3_fullOn 37 = .ok (.iload_n 3, 1) := by decide +kernel
theorem dX3_fullOn_38 : decode cX3_fullOn 38 = .ok (.ireturn, 1) := by decide +kernel
theorem dX3_fullOn_39 : decode cX3_fullOn 39 = .ok (.iinc 3 1, 3) := by decide +kernel
theorem dX3_fullOn_42 : decode cX3_fullOn 42 = .ok (.goto (-20), 3) := by decide +kernel
theorem dX3_fullOn_45 : decode cX3_fullOn 45 = .ok (.iconst (-1), 1) := by decide +kernel
theorem dX3_fullOn_46 : decode cX3_fullOn 46 = .ok (.ireturn, 1) := by decide +kernel
set_option maxRecDepth 20000 in
theorem ggX3_planSize_X3_checkKind : GoodIn wsX3_planSize wsX3_checkKind := goodIn_ca (goodIn_r _ [6, 7, 8] (by decide +kernel) (by decide +kernel)) (goodIn_sub (fun _ h => List.mem_cons_of_mem _ (List.mem_append_right _ h)) (by decide +kernel))
set_option maxRecDepth 20000 in
theorem gX3_planSize_X3_checkKind : GoodIn wsX3_planSize (wsV RX3 79 RX3 yX3_checkKind wsX3_checkKind) := goodIn_app (goodIn_of _ (by decide +kernel)) ggX3_planSize_X3_checkKind
set_option maxRecDepth 20000 in
theorem ggX3_planSize_X3_planRoute : GoodIn wsX3_planSize wsX3_planRoute := goodIn_r _ [12, 1, 13, 14, 15, 16, 17, 18, 19, 5, 20, 21, 22, 23, 24, 25, 26, 27, 28, 29, 30, 31, 32, 33, 34, 35, 36, 37, 38, 39, 40, 41, 42, 43, 44, 45, 46, 47, 48, 49, 50, 51, 52, 53, 54, 55, 56, 57, 58, 59, 60, 61, 62, 63, 64, 65, 66, 67, 68, 69, 70, 71, 72, 73, 74, 75, 76, 77, 78, 79, 80, 81, 82, 83, 84, 85, 86, 87, 88, 89, 90, 91, 92, 93, 94, 95, 96, 97, 98, 99] (by decide +kernel) (by decide +kernel)
set_option maxRecDepth 20000 in
theorem gX3_planSize_X3_planRoute : GoodIn wsX3_planSize (wsV RX3 147 RX3 yX3_planRoute wsX3_planRoute) := goodIn_app (goodIn_of _ (by decide +kernel)) ggX3_planSize_X3_planRoute
theorem dX3_planSize_0 : decode cX3_planSize 0 = .ok (.aload_n 0, 1) := by decide +kernel
theorem dX3_planSize_1 : decode cX3_planSize 1 = .ok (.iload_n 1, 1) := by decide +kernel
theorem dX3_planSize_2 : decode cX3_planSize 2 = .ok (.invokevirtual 79, 3) := by decide +kernel
theorem dX3_planSize_5 : decode cX3_planSize 5 = .ok (.aload_n 0, 1) := by decide +kernel
theorem dX3_planSize_6 : decode cX3_planSize 6 = .ok (.iload_n 1, 1) := by decide +kernel
theorem dX3_planSize_7 : decode cX3_planSize 7 = .ok (.invokevirtual 147, 3) := by decide +kernel
theorem dX3_planSize_10 : decode cX3_planSize 10 = .ok (.aload_n 0, 1) := by decide +kernel
theorem dX3_planSize_11 : decode cX3_planSize 11 = .ok (.getfield 38, 3) := by decide +kernel
theorem dX3_planSize_14 : decode cX3_planSize 14 = .ok (.ireturn, 1) := by decide +kernel
set_option maxRecDepth 20000 in
theorem ggX3_planned_X3_checkKind : GoodIn wsX3_planned wsX3_checkKind := goodIn_ca (goodIn_r _ [9, 1, 2] (by decide +kernel) (by decide +kernel)) (goodIn_sub (fun _ h => List.mem_cons_of_mem _ (List.mem_append_right _ h)) (by decide +kernel))
set_option maxRecDepth 20000 in
theorem gX3_planned_X3_checkKind : GoodIn wsX3_planned (wsV RX3 79 RX3 yX3_checkKind wsX3_checkKind) := goodIn_app (goodIn_of _ (by decide +kernel)) ggX3_planned_X3_checkKind
set_option maxRecDepth 20000 in
theorem ggX3_planned_X3_planRoute : GoodIn wsX3_planned wsX3_planRoute := goodIn_r _ [13, 3, 14, 15, 16, 4, 17, 18, 19, 8, 20, 21, 22, 23, 24, 25, 26, 27, 28, 29, 30, 31, 32, 33, 34, 35, 36, 37, 38, 39, 40, 41, 42, 43, 44, 45, 46, 47, 48, 49, 50, 51, 52, 53, 54, 55, 56, 57, 58, 59, 60, 61, 62, 63, 64, 65, 66, 67, 68, 69, 70, 71, 72, 73, 74, 75, 76, 77, 78, 79, 80, 81, 82, 83, 84, 85, 86, 87, 88, 89, 90, 91, 92, 93, 94, 95, 96, 97, 98, 99] (by decide +kernel) (by decide +kernel)
set_option maxRecDepth 20000 in
theorem gX3_planned_X3_planRoute : GoodIn wsX3_planned (wsV RX3 147 RX3 yX3_planRoute wsX3_planRoute) := goodIn_app (goodIn_of _ (by decide +kernel)) ggX3_planned_X3_planRoute
theorem dX3_planned_0 : decode cX3_planned 0 = .ok (.aload_n 0, 1) := by decide +kernel
theorem dX3_planned_1 : decode cX3_planned 1 = .ok (.iload_n 1, 1) := by decide +kernel
theorem dX3_planned_2 : decode cX3_planned 2 = .ok (.invokevirtual 79, 3) := by decide +kernel
theorem dX3_planned_5 : decode cX3_planned 5 = .ok (.aload_n 0, 1) := by decide +kernel
theorem dX3_planned_6 : decode cX3_planned 6 = .ok (.iload_n 1, 1) := by decide +kernel
theorem dX3_planned_7 : decode cX3_planned 7 = .ok (.invokevirtual 147, 3) := by decide +kernel
theorem dX3_planned_10 : decode cX3_planned 10 = .ok (.iload_n 2, 1) := by decide +kernel
theorem dX3_planned_11 : decode cX3_planned 11 = .ok (.ifCond .lt 11, 3) := by decide +kernel
theorem dX3_planned_14 : decode cX3_planned 14 = .ok (.iload_n 2, 1) := by decide +kernel
theorem dX3_planned_15 : decode cX3_planned 15 = .ok (.aload_n 0, 1) := by decide +kernel
theorem dX3_planned_16 : decode cX3_planned 16 = .ok (.getfield 38, 3) := by decide +kernel
theorem dX3_planned_19 : decode cX3_planned 19 = .ok (.if_icmp .lt 13, 3) := by decide +kernel
theorem dX3_planned_22 : decode cX3_planned 22 = .ok (.new 96, 3) := by decide +kernel
theorem dX3_planned_25 : decode cX3_planned 25 = .ok (.dup, 1) := by decide +kernel
theorem dX3_planned_26 : decode cX3_planned 26 = .ok (.ldc 150, 2) := by decide +kernel
theorem dX3_planned_28 : decode cX3_planned 28 = .ok (.invokespecial 100, 3) := by decide +kernel
theorem dX3_planned_31 : decode cX3_planned 31 = .ok (.athrow, 1) := by decide +kernel
theorem dX3_planned_32 : decode cX3_planned 32 = .ok (.aload_n 0, 1) := by decide +kernel
theorem dX3_planned_33 : decode cX3_planned 33 = .ok (.getfield 34, 3) := by decide +kernel
theorem dX3_planned_36 : decode cX3_planned 36 = .ok (.iload_n 2, 1) := by decide +kernel
theorem dX3_planned_37 : decode cX3_planned 37 = .ok (.iaload, 1) := by decide +kernel
theorem dX3_planned_38 : decode cX3_planned 38 = .ok (.ireturn, 1) := by decide +kernel
set_option maxRecDepth 20000 in
theorem ggX3_collect_X3_checkKind : GoodIn wsX3_collect wsX3_checkKind := goodIn_ca (goodIn_r _ [6, 7, 8] (by decide +kernel) (by decide +kernel)) (goodIn_sub (fun _ h => List.mem_cons_of_mem _ (List.mem_append_left _ (List.mem_append_left _ (List.mem_append_right _ h)))) (by decide +kernel))
set_option maxRecDepth 20000 in
theorem gX3_collect_X3_checkKind : GoodIn wsX3_collect (wsV RX3 79 RX3 yX3_checkKind wsX3_checkKind) := goodIn_app (goodIn_of _ (by decide +kernel)) ggX3_collect_X3_checkKind
set_option maxRecDepth 20000 in
theorem ggX3_collect_X3_checkRange : GoodIn wsX3_collect wsX3_checkRange := goodIn_ca (goodIn_r _ [12, 13, 14] (by decide +kernel) (by decide +kernel)) (goodIn_sub (fun _ h => List.mem_cons_of_mem _ (List.mem_append_left _ (List.mem_append_right _ h))) (by decide +kernel))
set_option maxRecDepth 20000 in
theorem gX3_collect_X3_checkRange : GoodIn wsX3_collect (wsV RX3 68 RX3 yX3_checkRange wsX3_checkRange) := goodIn_app (goodIn_of _ (by decide +kernel)) ggX3_collect_X3_checkRange
set_option maxRecDepth 20000 in
theorem ggX3_collect_X3_checkWorkday : GoodIn wsX3_collect wsX3_checkWorkday := goodIn_ca (goodIn_r _ [18, 19, 20, 21, 22, 148, 149, 150, 151, 152, 153, 154, 155] (by decide +kernel) (by decide +kernel)) (goodIn_sub (fun _ h => List.mem_cons_of_mem _ (List.mem_append_right _ h)) (by decide +kernel))
set_option maxRecDepth 20000 in
theorem gX3_collect_X3_checkWorkday : GoodIn wsX3_collect (wsV RX3 152 RX3 yX3_checkWorkday wsX3_checkWorkday) := goodIn_app (goodIn_of _ (by decide +kernel)) ggX3_collect_X3_checkWorkday
set_option maxRecDepth 20000 in
theorem ggX3_collect_X3_planRoute : GoodIn wsX3_collect wsX3_planRoute := goodIn_r _ [26, 1, 27, 28, 22, 29, 30, 31, 32, 5, 33, 21, 34, 35, 36, 37, 38, 39, 40, 41, 42, 43, 44, 45, 46, 47, 48, 49, 50, 51, 52, 53, 54, 55, 56, 57, 58, 59, 60, 61, 62, 63, 64, 65, 66, 67, 68, 69, 70, 71, 72, 73, 74, 75, 76, 77, 78, 79, 80, 81, 82, 83, 84, 85, 86, 87, 148, 149, 150, 151, 152, 153, 154, 155, 156, 157, 158, 159, 160, 161, 162, 163, 164, 165, 166, 167, 168, 169, 170, 171] (by decide +kernel) (by decide +kernel)
set_option maxRecDepth 20000 in
theorem gX3_collect_X3_planRoute : GoodIn wsX3_collect (wsV RX3 147 RX3 yX3_planRoute wsX3_planRoute) := goodIn_app (goodIn_of _ (by decide +kernel)) ggX3_collect_X3_planRoute
set_option maxRecDepth 20000 in
theorem ggX3_collect_X3_makeTour : GoodIn wsX3_collect wsX3_makeTour := goodIn_r _ [91, 92, 93, 94, 81, 1, 27, 29, 28, 22, 95, 96, 97, 98, 99, 100, 101, 102, 103, 104, 105, 106, 107, 108, 109, 40, 41, 42, 37, 43, 39, 44, 45, 46, 47, 48, 49, 50, 51, 52, 53, 54, 55, 56, 110, 111, 112, 113, 114, 70, 71, 72, 115, 116, 117, 118, 119, 83, 84, 85, 86, 87, 120, 121, 122, 123, 124, 125, 126, 127, 128, 129, 130, 131, 132, 133, 134, 135, 136, 137, 138, 139, 60, 140, 141, 142, 68, 143, 67, 144, 145, 146, 147, 172, 173, 174, 175, 176, 177, 178, 179, 148, 149, 150, 151, 152, 153, 154, 155, 166, 167, 168, 156, 157, 158, 159, 160, 161, 162, 163, 164, 165, 169, 170, 171] (by decide +kernel) (by decide +kernel)
set_option maxRecDepth 20000 in
theorem gX3_collect_X3_makeTour : GoodIn wsX3_collect (wsV RX3 155 RX3 yX3_makeTour wsX3_makeTour) := goodIn_app (goodIn_of _ (by decide +kernel)) ggX3_collect_X3_makeTour
theorem dX3_collect_0 : decode cX3_collect 0 = .ok (.aload_n 0, 1) := by decide +kernel
theorem dX3_collect_1 : decode cX3_collect 1 = .ok (.iload_n 1, 1) := by decide +kernel
theorem dX3_collect_2 : decode cX3_collect 2 = .ok (.invokevirtual 79, 3) := by decide +kernel
theorem dX3_collect_5 : decode cX3_collect 5 = .ok (.aload_n 0, 1) := by decide +kernel
theorem dX3_collect_6 : decode cX3_collect 6 = .ok (.iload_n 2, 1) := by decide +kernel
theorem dX3_collect_7 : decode cX3_collect 7 = .ok (.bipush 50, 2) := by decide +kernel
theorem dX3_collect_9 : decode cX3_collect 9 = .ok (.sipush 5000, 3) := by decide +kernel
theorem dX3_collect_12 : decode cX3_collect 12 = .ok (.invokevirtual 68, 3) := by decide +kernel
theorem dX3_collect_15 : decode cX3_collect 15 = .ok (.aload_n 0, 1) := by decide +kernel
theorem dX3_collect_16 : decode cX3_collect 16 = .ok (.invokevirtual 152, 3) := by decide +kernel
theorem dX3_collect_19 : decode cX3_collect 19 = .ok (.aload_n 0, 1) := by decide +kernel
theorem dX3_collect_20 : decode cX3_collect 20 = .ok (.iload_n 1, 1) := by decide +kernel
theorem dX3_collect_21 : decode cX3_collect 21 = .ok (.invokevirtual 147, 3) := by decide +kernel
theorem dX3_collect_24 : decode cX3_collect 24 = .ok (.aload_n 0, 1) := by decide +kernel
theorem dX3_collect_25 : decode cX3_collect 25 = .ok (.getfield 38, 3) := by decide +kernel
theorem dX3_collect_28 : decode cX3_collect 28 = .ok (.ifCond .ne 7, 3) := by decide +kernel
theorem dX3_collect_31 : decode cX3_collect 31 = .ok (.iconst 0, 1) := by decide +kernel
theorem dX3_collect_32 : decode cX3_collect 32 = .ok (.goto 9, 3) := by decide +kernel
theorem dX3_collect_35 : decode cX3_collect 35 = .ok (.aload_n 0, 1) := by decide +kernel
theorem dX3_collect_36 : decode cX3_collect 36 = .ok (.iload_n 1, 1) := by decide +kernel
theorem dX3_collect_37 : decode cX3_collect 37 = .ok (.iload_n 2, 1) := by decide +kernel
theorem dX3_collect_38 : decode cX3_collect 38 = .ok (.invokevirtual 155, 3) := by decide +kernel
theorem dX3_collect_41 : decode cX3_collect 41 = .ok (.ireturn, 1) := by decide +kernel
set_option maxRecDepth 20000 in
theorem ggX3_fetch_X3_checkBin : GoodIn wsX3_fetch wsX3_checkBin := goodIn_ca (goodIn_r _ [9, 10, 11, 3, 12, 13, 14, 15, 16, 17, 121, 122, 123, 124, 125, 126, 127, 128, 139, 140, 141] (by decide +kernel) (by decide +kernel)) (goodIn_sub (fun _ h => List.mem_cons_of_mem _ (List.mem_append_left _ (List.mem_append_left _ (List.mem_append_right _ h)))) (by decide +kernel))
set_option maxRecDepth 20000 in
theorem gX3_fetch_X3_checkBin : GoodIn wsX3_fetch (wsV RX3 121 RX3 yX3_checkBin wsX3_checkBin) := goodIn_app (goodIn_of _ (by decide +kernel)) ggX3_fetch_X3_checkBin
set_option maxRecDepth 20000 in
theorem ggX3_fetch_X3_checkRange : GoodIn wsX3_fetch wsX3_checkRange := goodIn_ca (goodIn_r _ [21, 22, 23] (by decide +kernel) (by decide +kernel)) (goodIn_sub (fun _ h => List.mem_cons_of_mem _ (List.mem_append_left _ (List.mem_append_right _ h))) (by decide +kernel))
set_option maxRecDepth 20000 in
theorem gX3_fetch_X3_checkRange : GoodIn wsX3_fetch (wsV RX3 68 RX3 yX3_checkRange wsX3_checkRange) := goodIn_app (goodIn_of _ (by decide +kernel)) ggX3_fetch_X3_checkRange
set_option maxRecDepth 20000 in
theorem ggX3_fetch_X3_checkWorkday : GoodIn wsX3_fetch wsX3_checkWorkday := goodIn_ca (goodIn_r _ [27, 28, 29, 30, 31, 121, 122, 123, 124, 125, 126, 127, 128] (by decide +kernel) (by decide +kernel)) (goodIn_sub (fun _ h => List.mem_cons_of_mem _ (List.mem_append_right _ h)) (by decide +kernel))
set_option maxRecDepth 20000 in
theorem gX3_fetch_X3_checkWorkday : GoodIn wsX3_fetch (wsV RX3 152 RX3 yX3_checkWorkday wsX3_checkWorkday) := goodIn_app (goodIn_of _ (by decide +kernel)) ggX3_fetch_X3_checkWorkday
set_option maxRecDepth 20000 in
theorem ggX3_fetch_Jx4a65c_get_915e3 : GoodIn wsX3_fetch wsJx4a65c_get_915e3 := goodIn_r _ [35, 17, 36, 37, 38, 39, 40, 41, 42, 43, 44, 45, 46, 15, 47, 48, 139, 140, 141] (by decide +kernel) (by decide +kernel)
set_option maxRecDepth 20000 in
theorem gX3_fetch_Jx4a65c_get_915e3 : GoodIn wsX3_fetch (wsV RX3 124 RJx4a65c yJx4a65c_get_915e3 wsJx4a65c_get_915e3) := goodIn_app (goodIn_of _ (by decide +kernel)) ggX3_fetch_Jx4a65c_get_915e3
set_option maxRecDepth 20000 in
theorem ggX3_fetch_X3_makeTour : GoodIn wsX3_fetch wsX3_makeTour := goodIn_r _ [52, 53, 54, 55, 56, 2, 3, 1, 4, 31, 57, 58, 59, 60, 61, 62, 63, 64, 65, 66, 67, 68, 69, 70, 71, 32, 33, 34, 15, 35, 17, 36, 37, 38, 39, 40, 41, 42, 43, 44, 45, 46, 47, 48, 72, 73, 74, 75, 76, 77, 78, 79, 80, 81, 82, 83, 84, 85, 86, 87, 88, 89, 90, 91, 92, 93, 94, 95, 96, 97, 98, 99, 100, 101, 102, 103, 104, 105, 106, 107, 108, 109, 110, 111, 112, 113, 114, 115, 116, 117, 118, 119, 120, 142, 143, 144, 145, 146, 147, 148, 149, 121, 122, 123, 124, 125, 126, 127, 128, 139, 140, 141, 129, 130, 131, 132, 133, 134, 135, 136, 137, 138, 150, 151, 152] (by decide +kernel) (by decide +kernel)
set_option maxRecDepth 20000 in
theorem gX3_fetch_X3_makeTour : GoodIn wsX3_fetch (wsV RX3 155 RX3 yX3_makeTour wsX3_makeTour) := goodIn_app (goodIn_of _ (by decide +kernel)) ggX3_fetch_X3_makeTour
theorem dX3_fetch_0 : decode cX3_fetch 0 = .ok (.aload_n 0, 1) := by decide +kernel
theorem dX3_fetch_1 : decode cX3_fetch 1 = .ok (.iload_n 1, 1) := by decide +kernel
theorem dX3_fetch_2 : decode cX3_fetch 2 = .ok (.invokevirtual 121, 3) := by decide +kernel
theorem dX3_fetch_5 : decode cX3_fetch 5 = .ok (.aload_n 0, 1) := by decide +kernel
theorem dX3_fetch_6 : decode cX3_fetch 6 = .ok (.iload_n 2, 1) := by decide +kernel
theorem dX3_fetch_7 : decode cX3_fetch 7 = .ok (.bipush 50, 2) := by decide +kernel
theorem dX3_fetch_9 : decode cX3_fetch 9 = .ok (.sipush 5000, 3) := by decide +kernel
theorem dX3_fetch_12 : decode cX3_fetch 12 = .ok (.invokevirtual 68, 3) := by decide +kernel
theorem dX3_fetch_15 : decode cX3_fetch 15 = .ok (.aload_n 0, 1) := by decide +kernel
theorem dX3_fetch_16 : decode cX3_fetch 16 = .ok (.invokevirtual 152, 3) := by decide +kernel
theorem dX3_fetch_19 : decode cX3_fetch 19 = .ok (.aload_n 0, 1) := by decide +kernel
theorem dX3_fetch_20 : decode cX3_fetch 20 = .ok (.getfield 34, 3) := by decide +kernel
theorem dX3_fetch_23 : decode cX3_fetch 23 = .ok (.iconst 0, 1) := by decide +kernel
theorem dX3_fetch_24 : decode cX3_fetch 24 = .ok (.iload_n 1, 1) := by decide +kernel
theorem dX3_fetch_25 : decode cX3_fetch 25 = .ok (.iastore, 1) := by decide +kernel
theorem dX3_fetch_26 : decode cX3_fetch 26 = .ok (.aload_n 0, 1) := by decide +kernel
theorem dX3_fetch_27 : decode cX3_fetch 27 = .ok (.iconst 1, 1) := by decide +kernel
theorem dX3_fetch_28 : decode cX3_fetch 28 = .ok (.putfield 38, 3) := by decide +kernel
theorem dX3_fetch_31 : decode cX3_fetch 31 = .ok (.aload_n 0, 1) := by decide +kernel
theorem dX3_fetch_32 : decode cX3_fetch 32 = .ok (.aload_n 0, 1) := by decide +kernel
theorem dX3_fetch_33 : decode cX3_fetch 33 = .ok (.getfield 19, 3) := by decide +kernel
theorem dX3_fetch_36 : decode cX3_fetch 36 = .ok (.iload_n 1, 1) := by decide +kernel
theorem dX3_fetch_37 : decode cX3_fetch 37 = .ok (.invokevirtual 124, 3) := by decide +kernel
theorem dX3_fetch_40 : decode cX3_fetch 40 = .ok (.checkcast 113, 3) := by decide +kernel
theorem dX3_fetch_43 : decode cX3_fetch 43 = .ok (.getfield 158, 3) := by decide +kernel
theorem dX3_fetch_46 : decode cX3_fetch 46 = .ok (.iload_n 2, 1) := by decide +kernel
theorem dX3_fetch_47 : decode cX3_fetch 47 = .ok (.invokevirtual 155, 3) := by decide +kernel
theorem dX3_fetch_50 : decode cX3_fetch 50 = .ok (.ireturn, 1) := by decide +kernel
set_option maxRecDepth 20000 in
theorem ggX3_wouldTake_X3_checkKind : GoodIn wsX3_wouldTake wsX3_checkKind := goodIn_ca (goodIn_r _ [13, 14, 15] (by decide +kernel) (by decide +kernel)) (goodIn_sub (fun _ h => List.mem_cons_of_mem _ (List.mem_append_left _ (List.mem_append_right _ h))) (by decide +kernel))
set_option maxRecDepth 20000 in
theorem gX3_wouldTake_X3_checkKind : GoodIn wsX3_wouldTake (wsV RX3 79 RX3 yX3_checkKind wsX3_checkKind) := goodIn_app (goodIn_of _ (by decide +kernel)) ggX3_wouldTake_X3_checkKind
set_option maxRecDepth 20000 in
theorem ggX3_wouldTake_X3_checkRange : GoodIn wsX3_wouldTake wsX3_checkRange := goodIn_ca (goodIn_r _ [19, 20, 21] (by decide +kernel) (by decide +kernel)) (goodIn_sub (fun _ h => List.mem_cons_of_mem _ (List.mem_append_right _ h)) (by decide +kernel))
set_option maxRecDepth 20000 in
theorem gX3_wouldTake_X3_checkRange : GoodIn wsX3_wouldTake (wsV RX3 68 RX3 yX3_checkRange wsX3_checkRange) := goodIn_app (goodIn_of _ (by decide +kernel)) ggX3_wouldTake_X3_checkRange
set_option maxRecDepth 20000 in
theorem ggX3_wouldTake_X3_planRoute : GoodIn wsX3_wouldTake wsX3_planRoute := goodIn_r _ [25, 5, 6, 8, 26, 7, 27, 28, 29, 12, 30, 31, 32, 33, 34, 35, 36, 37, 38, 39, 40, 41, 42, 43, 44, 45, 46, 47, 48, 49, 50, 51, 52, 53, 54, 55, 56, 57, 58, 59, 60, 61, 62, 63, 64, 65, 66, 67, 68, 69, 70, 71, 72, 73, 74, 75, 76, 77, 78, 4, 79, 80, 81, 82, 83, 84, 138, 139, 140, 141, 142, 143, 144, 145, 146, 147, 148, 149, 150, 151, 152, 153, 154, 155, 156, 157, 158, 159, 160, 161] (by decide +kernel) (by decide +kernel)
set_option maxRecDepth 20000 in
theorem gX3_wouldTake_X3_planRoute : GoodIn wsX3_wouldTake (wsV RX3 147 RX3 yX3_planRoute wsX3_planRoute) := goodIn_app (goodIn_of _ (by decide +kernel)) ggX3_wouldTake_X3_planRoute
set_option maxRecDepth 20000 in
theorem ggX3_wouldTake_X2_init : GoodIn wsX3_wouldTake wsX2_init := goodIn_r _ [87, 88, 89, 90, 91, 92, 93, 94, 95, 96, 97, 98, 130, 131, 132, 133, 134, 135, 136, 137] (by decide +kernel) (by decide +kernel)
set_option maxRecDepth 20000 in
theorem gX3_wouldTake_X2_init : GoodIn wsX3_wouldTake (wsX2_init) := ggX3_wouldTake_X2_init
set_option maxRecDepth 20000 in
theorem ggX3_wouldTake_Jx4a65c_get_915e3 : GoodIn wsX3_wouldTake wsJx4a65c_get_915e3 := goodIn_r _ [41, 37, 42, 43, 44, 45, 46, 47, 48, 49, 50, 51, 52, 35, 53, 54, 156, 157, 158] (by decide +kernel) (by decide +kernel)
set_option maxRecDepth 20000 in
theorem gX3_wouldTake_Jx4a65c_get_915e3 : GoodIn wsX3_wouldTake (wsV RX3 124 RJx4a65c yJx4a65c_get_915e3 wsJx4a65c_get_915e3) := goodIn_app (goodIn_of _ (by decide +kernel)) ggX3_wouldTake_Jx4a65c_get_915e3
set_option maxRecDepth 20000 in
theorem ggX3_wouldTake_X2_visit : GoodIn wsX3_wouldTake wsX2_visit := goodIn_r _ [102, 96, 95, 93, 94, 103, 68, 69, 70, 104, 105, 106, 3, 107, 91, 108, 80, 81, 82, 83, 84, 109, 110, 111, 112, 92, 97, 98, 113, 114, 115, 116, 117, 118, 119, 120, 121, 122, 123, 124, 125, 146, 147, 148, 149, 150, 151, 152, 153, 154, 155, 130, 131, 132, 133, 134, 135, 136, 137, 159, 160, 161] (by decide +kernel) (by decide +kernel)
set_option maxRecDepth 20000 in
theorem gX3_wouldTake_X2_visit : GoodIn wsX3_wouldTake (wsV RX3 166 RX2 yX2_visit wsX2_visit) := goodIn_app (goodIn_of _ (by decide +kernel)) ggX3_wouldTake_X2_visit
set_option maxRecDepth 20000 in
theorem ggX3_wouldTake_X2_end : GoodIn wsX3_wouldTake wsX2_end := goodIn_r _ [129, 95, 109, 110, 111, 3, 112, 96, 91, 92, 94, 97, 98, 113, 114, 115, 82, 116, 117, 118, 119, 68, 69, 70, 120, 121, 122, 123, 124, 125, 80, 81, 83, 84, 104, 105, 106, 107, 108, 130, 131, 132, 133, 134, 135, 136, 137, 159, 160, 161] (by decide +kernel) (by decide +kernel)
set_option maxRecDepth 20000 in
theorem gX3_wouldTake_X2_end : GoodIn wsX3_wouldTake (wsV RX3 170 RX2 yX2_end wsX2_end) := goodIn_app (goodIn_of _ (by decide +kernel)) ggX3_wouldTake_X2_end
theorem dX3_wouldTake_0 : decode cX3_wouldTake 0 = .ok (.aload_n 0, 1) := by decide +kernel
theorem dX3_wouldTake_1 : decode cX3_wouldTake 1 = .ok (.iload_n 1, 1) := by decide +kernel
theorem dX3_wouldTake_2 : decode cX3_wouldTake 2 = .ok (.invokevirtual 79, 3) := by decide +kernel
theorem dX3_wouldTake_5 : decode cX3_wouldTake 5 = .ok (.aload_n 0, 1) := by decide +kernel
theorem dX3_wouldTake_6 : decode cX3_wouldTake 6 = .ok (.iload_n 2, 1) := by decide +kernel
theorem dX3_wouldTake_7 : decode cX3_wouldTake 7 = .ok (.bipush 50, 2) := by decide +kernel
theorem dX3_wouldTake_9 : decode cX3_wouldTake 9 = .ok (.sipush 5000, 3) := by decide +kernel
theorem dX3_wouldTake_12 : decode cX3_wouldTake 12 = .ok (.invokevirtual 68, 3) := by decide +kernel
theorem dX3_wouldTake_15 : decode cX3_wouldTake 15 = .ok (.aload_n 0, 1) := by decide +kernel
theorem dX3_wouldTake_16 : decode cX3_wouldTake 16 = .ok (.iload_n 1, 1) := by decide +kernel
theorem dX3_wouldTake_17 : decode cX3_wouldTake 17 = .ok (.invokevirtual 147, 3) := by decide +kernel
theorem dX3_wouldTake_20 : decode cX3_wouldTake 20 = .ok (.new 161, 3) := by decide +kernel
theorem dX3_wouldTake_23 : decode cX3_wouldTake 23 = .ok (.dup, 1) := by decide +kernel
theorem dX3_wouldTake_24 : decode cX3_wouldTake 24 = .ok (.aload_n 0, 1) := by decide +kernel
theorem dX3_wouldTake_25 : decode cX3_wouldTake 25 = .ok (.getfield 12, 3) := by decide +kernel
theorem dX3_wouldTake_28 : decode cX3_wouldTake 28 = .ok (.iload_n 1, 1) := by decide +kernel
theorem dX3_wouldTake_29 : decode cX3_wouldTake 29 = .ok (.iload_n 2, 1) := by decide +kernel
theorem dX3_wouldTake_30 : decode cX3_wouldTake 30 = .ok (.invokespecial 163, 3) := by decide +kernel
theorem dX3_wouldTake_33 : decode cX3_wouldTake 33 = .ok (.astore_n 3, 1) := by decide +kernel
theorem dX3_wouldTake_34 : decode cX3_wouldTake 34 = .ok (.iconst 0, 1) := by decide +kernel
theorem dX3_wouldTake_35 : decode cX3_wouldTake 35 = .ok (.istore 4, 2) := by decide +kernel
theorem dX3_wouldTake_37 : decode cX3_wouldTake 37 = .ok (.iload 4, 2) := by decide +kernel
theorem dX3_wouldTake_39 : decode cX3_wouldTake 39 = .ok (.aload_n 0, 1) := by decide +kernel
theorem dX3_wouldTake_40 : decode cX3_wouldTake 40 = .ok (.getfield 38, 3) := by decide +kernel
theorem dX3_wouldTake_43 : decode cX3_wouldTake 43 = .ok (.if_icmp .ge 31, 3) := by decide +kernel
theorem dX3_wouldTake_46 : decode cX3_wouldTake 46 = .ok (.aload_n 3, 1) := by decide +kernel
theorem dX3_wouldTake_47 : decode cX3_wouldTake 47 = .ok (.aload_n 0, 1) := by decide +kernel
theorem dX3_wouldTake_48 : decode cX3_wouldTake 48 = .ok (.getfield 19, 3) := by decide +kernel
theorem dX3_wouldTake_51 : decode cX3_wouldTake 51 = .ok (.aload_n 0, 1) := by decide +kernel
theorem dX3_wouldTake_52 : decode cX3_wouldTake 52 = .ok (.getfield 34, 3) := by decide +kernel
theorem dX3_wouldTake_55 : decode cX3_wouldTake 55 = .ok (.iload 4, 2) := by decide +kernel
theorem dX3_wouldTake_57 : decode cX3_wouldTake 57 = .ok (.iaload, 1) := by decide +kernel
theorem dX3_wouldTake_58 : decode cX3_wouldTake 58 = .ok (.invokevirtual 124, 3) := by decide +kernel
theorem dX3_wouldTake_61 : decode cX3_wouldTake 61 = .ok (.checkcast 113, 3) := by decide +kernel
theorem dX3_wouldTake_64 : decode cX3_wouldTake 64 = .ok (.invokevirtual 166, 3) := by decide +kernel
theorem dX3_wouldTake_67 : decode cX3_wouldTake 67 = .ok (.pop, 1) := by decide +kernel
theorem dX3_wouldTake_68 : decode cX3_wouldTake 68 = .ok (.iinc 4 1, 3) := by decide +kernel
theorem dX3_wouldTake_71 : decode cX3_wouldTake 71 = .ok (.goto (-34), 3) := by decide +kernel
theorem dX3_wouldTake_74 : decode cX3_wouldTake 74 = .ok (.aload_n 3, 1) := by decide +kernel
theorem dX3_wouldTake_75 : decode cX3_wouldTake 75 = .ok (.invokevirtual 170, 3) := by decide +kernel
theorem dX3_wouldTake_78 : decode cX3_wouldTake 78 = .ok (.aload_n 3, 1) := by decide +kernel
theorem dX3_wouldTake_79 : decode cX3_wouldTake 79 = .ok (.getfield 173, 3) := by decide +kernel
theorem dX3_wouldTake_82 : decode cX3_wouldTake 82 = .ok (.ireturn, 1) := by decide +kernel
set_option maxRecDepth 20000 in
theorem ggX3_total_X3_checkKind : GoodIn wsX3_total wsX3_checkKind := goodIn_ca (goodIn_r _ [8, 1, 2] (by decide +kernel) (by decide +kernel)) (goodIn_sub (fun _ h => List.mem_cons_of_mem _ (List.mem_append_right _ h)) (by decide +kernel))
set_option maxRecDepth 20000 in
theorem gX3_total_X3_checkKind : GoodIn wsX3_total (wsV RX3 79 RX3 yX3_checkKind wsX3_checkKind) := goodIn_app (goodIn_of _ (by decide +kernel)) ggX3_total_X3_checkKind
theorem dX3_total_0 : decode cX3_total 0 = .ok (.aload_n 0, 1) := by decide +kernel
theorem dX3_total_1 : decode cX3_total 1 = .ok (.iload_n 1, 1) := by decide +kernel
theorem dX3_total_2 : decode cX3_total 2 = .ok (.invokevirtual 79, 3) := by decide +kernel
theorem dX3_total_5 : decode cX3_total 5 = .ok (.iload_n 2, 1) := by decide +kernel
theorem dX3_total_6 : decode cX3_total 6 = .ok (.ifCond .lt 8, 3) := by decide +kernel
theorem dX3_total_9 : decode cX3_total 9 = .ok (.iload_n 2, 1) := by decide +kernel
theorem dX3_total_10 : decode cX3_total 10 = .ok (.iconst 4, 1) := by decide +kernel
theorem dX3_total_11 : decode cX3_total 11 = .ok (.if_icmp .lt 13, 3) := by decide +kernel
theorem dX3_total_14 : decode cX3_total 14 = .ok (.new 96, 3) := by decide +kernel
theorem dX3_total_17 : decode cX3_total 17 = .ok (.dup, 1) := by decide +kernel
theorem dX3_total_18 : decode cX3_total 18 = .ok (.ldc 176, 2) := by decide +kernel
theorem dX3_total_20 : decode cX3_total 20 = .ok (.invokespecial 100, 3) := by decide +kernel
theorem dX3_total_23 : decode cX3_total 23 = .ok (.athrow, 1) := by decide +kernel
theorem dX3_total_24 : decode cX3_total 24 = .ok (.aload_n 0, 1) := by decide +kernel
theorem dX3_total_25 : decode cX3_total 25 = .ok (.getfield 27, 3) := by decide +kernel
theorem dX3_total_28 : decode cX3_total 28 = .ok (.iload_n 1, 1) := by decide +kernel
theorem dX3_total_29 : decode cX3_total 29 = .ok (.iconst 4, 1) := by decide +kernel
theorem dX3_total_30 : decode cX3_total 30 = .ok (.imul, 1) := by decide +kernel
theorem dX3_total_31 : decode cX3_total 31 = .ok (.iload_n 2, 1) := by decide +kernel
theorem dX3_total_32 : decode cX3_total 32 = .ok (.iadd, 1) := by decide +kernel
theorem dX3_total_33 : decode cX3_total 33 = .ok (.laload, 1) := by decide +kernel
theorem dX3_total_34 : decode cX3_total 34 = .ok (.lreturn, 1) := by decide +kernel
set_option maxRecDepth 20000 in
theorem ggX3_wasted_X3_checkKind : GoodIn wsX3_wasted wsX3_checkKind := goodIn_ca (goodIn_r _ [6, 7, 8] (by decide +kernel) (by decide +kernel)) (goodIn_sub (fun _ h => List.mem_cons_of_mem _ (List.mem_append_right _ h)) (by decide +kernel))
set_option maxRecDepth 20000 in
theorem gX3_wasted_X3_checkKind : GoodIn wsX3_wasted (wsV RX3 79 RX3 yX3_checkKind wsX3_checkKind) := goodIn_app (goodIn_of _ (by decide +kernel)) ggX3_wasted_X3_checkKind
theorem dX3_wasted_0 : decode cX3_wasted 0 = .ok (.aload_n 0, 1) := by decide +kernel
theorem dX3_wasted_1 : decode cX3_wasted 1 = .ok (.iload_n 1, 1) := by decide +kernel
theorem dX3_wasted_2 : decode cX3_wasted 2 = .ok (.invokevirtual 79, 3) := by decide +kernel
theorem dX3_wasted_5 : decode cX3_wasted 5 = .ok (.aload_n 0, 1) := by decide +kernel
theorem dX3_wasted_6 : decode cX3_wasted 6 = .ok (.getfield 31, 3) := by decide +kernel
theorem dX3_wasted_9 : decode cX3_wasted 9 = .ok (.iload_n 1, 1) := by decide +kernel
theorem dX3_wasted_10 : decode cX3_wasted 10 = .ok (.laload, 1) := by decide +kernel
theorem dX3_wasted_11 : decode cX3_wasted 11 = .ok (.lreturn, 1) := by decide +kernel
set_option maxRecDepth 20000 in
theorem ggX3_error_Jx4a65c_size_8abf5 : GoodIn wsX3_error wsJx4a65c_size_8abf5 := goodIn_r _ [12, 13, 60, 61, 62] (by decide +kernel) (by decide +kernel)
set_option maxRecDepth 20000 in
theorem gX3_error_Jx4a65c_size_8abf5 : GoodIn wsX3_error (wsV RX3 108 RJx4a65c yJx4a65c_size_8abf5 wsJx4a65c_size_8abf5) := goodIn_app (goodIn_of _ (by decide +kernel)) ggX3_error_Jx4a65c_size_8abf5
set_option maxRecDepth 20000 in
theorem ggX3_error_Jx4a65c_get_915e3 : GoodIn wsX3_error wsJx4a65c_get_915e3 := goodIn_r _ [17, 13, 18, 19, 20, 21, 22, 23, 24, 25, 26, 27, 28, 11, 29, 30, 60, 61, 62] (by decide +kernel) (by decide +kernel)
set_option maxRecDepth 20000 in
theorem gX3_error_Jx4a65c_get_915e3 : GoodIn wsX3_error (wsV RX3 124 RJx4a65c yJx4a65c_get_915e3 wsJx4a65c_get_915e3) := goodIn_app (goodIn_of _ (by decide +kernel)) ggX3_error_Jx4a65c_get_915e3
set_option maxRecDepth 20000 in
theorem ggX3_error_X0_forecast : GoodIn wsX3_error wsX0_forecast := goodIn_r _ [35, 36, 37, 38, 39, 40, 6, 41, 50, 51, 52, 53, 54, 55, 56, 57, 58, 59] (by decide +kernel) (by decide +kernel)
set_option maxRecDepth 20000 in
theorem gX3_error_X0_forecast : GoodIn wsX3_error (wsV RX3 140 RX0 yX0_forecast wsX0_forecast) := goodIn_app (goodIn_of _ (by decide +kernel)) ggX3_error_X0_forecast
theorem dX3_error_0 : decode cX3_error 0 = .ok (.iconst 0, 1) := by decide +kernel
theorem dX3_error_1 : decode cX3_error 1 = .ok (.istore_n 1, 1) := by decide +kernel
theorem dX3_error_2 : decode cX3_error 2 = .ok (.iconst 0, 1) := by decide +kernel
theorem dX3_error_3 : decode cX3_error 3 = .ok (.istore_n 2, 1) := by decide +kernel
theorem dX3_error_4 : decode cX3_error 4 = .ok (.iconst 0, 1) := by decide +kernel
theorem dX3_error_5 : decode cX3_error 5 = .ok (.istore_n 3, 1) := by decide +kernel
theorem dX3_error_6 : decode cX3_error 6 = .ok (.iload_n 3, 1) := by decide +kernel
theorem dX3_error_7 : decode cX3_error 7 = .ok (.aload_n 0, 1) := by decide +kernel
theorem dX3_error_8 : decode cX3_error 8 = .ok (.getfield 19, 3) := by decide +kernel
theorem dX3_error_11 : decode cX3_error 11 = .ok (.invokevirtual 108, 3) := by decide +kernel
theorem dX3_error_14 : decode cX3_error 14 = .ok (.if_icmp .ge 51, 3) := by decide +kernel
theorem dX3_error_17 : decode cX3_error 17 = .ok (.aload_n 0, 1) := by decide +kernel
theorem dX3_error_18 : decode cX3_error 18 = .ok (.getfield 19, 3) := by decide +kernel
theorem dX3_error_21 : decode cX3_error 21 = .ok (.iload_n 3, 1) := by decide +kernel
theorem dX3_error_22 : decode cX3_error 22 = .ok (.invokevirtual 124, 3) := by decide +kernel
theorem dX3_error_25 : decode cX3_error 25 = .ok (.checkcast 113, 3) := by decide +kernel
theorem dX3_error_28 : decode cX3_error 28 = .ok (.astore 4, 2) := by decide +kernel
theorem dX3_error_30 : decode cX3_error 30 = .ok (.iload_n 1, 1) := by decide +kernel
theorem dX3_error_31 : decode cX3_error 31 = .ok (.aload 4, 2) := by decide +kernel
theorem dX3_error_33 : decode cX3_error 33 = .ok (.aload_n 0, 1) := by decide +kernel
theorem dX3_error_34 : decode cX3_error 34 = .ok (.getfield 42, 3) := by decide +kernel
theorem dX3_error_37 : decode cX3_error 37 = .ok (.invokevirtual 140, 3) := by decide +kernel
theorem dX3_error_40 : decode cX3_error 40 = .ok (.aload 4, 2) := by decide +kernel
theorem dX3_error_42 : decode cX3_error 42 = .ok (.getfield 178, 3) := by decide +kernel
theorem dX3_error_45 : decode cX3_error 45 = .ok (.isub, 1) := by decide +kernel
theorem dX3_error_46 : decode cX3_error 46 = .ok (.invokestatic 181, 3) := by decide +kernel
theorem dX3_error_49 : decode cX3_error 49 = .ok (.iadd, 1) := by decide +kernel
theorem dX3_error_50 : decode cX3_error 50 = .ok (.istore_n 1, 1) := by decide +kernel
theorem dX3_error_51 : decode cX3_error 51 = .ok (.iload_n 2, 1) := by decide +kernel
theorem dX3_error_52 : decode cX3_error 52 = .ok (.aload 4, 2) := by decide +kernel
theorem dX3_error_54 : decode cX3_error 54 = .ok (.getfield 186, 3) := by decide +kernel
theorem dX3_error_57 : decode cX3_error 57 = .ok (.iadd, 1) := by decide +kernel
theorem dX3_error_58 : decode cX3_error 58 = .ok (.istore_n 2, 1) := by decide +kernel
theorem dX3_error_59 : decode cX3_error 59 = .ok (.iinc 3 1, 3) := by decide +kernel
theorem dX3_error_62 : decode cX3_error 62 = .ok (.goto (-56), 3) := by decide +kernel
theorem dX3_error_65 : decode cX3_error 65 = .ok (.iload_n 2, 1) := by decide +kernel
theorem dX3_error_66 : decode cX3_error 66 = .ok (.ifCond .ne 7, 3) := by decide +kernel
theorem dX3_error_69 : decode cX3_error 69 = .ok (.dconst 0, 1) := by decide +kernel
theorem dX3_error_70 : decode cX3_error 70 = .ok (.goto 8, 3) := by decide +kernel
theorem dX3_error_73 : decode cX3_error 73 = .ok (.iload_n 1, 1) := by decide +kernel
theorem dX3_error_74 : decode cX3_error 74 = .ok (.i2d, 1) := by decide +kernel
theorem dX3_error_75 : decode cX3_error 75 = .ok (.iload_n 2, 1) := by decide +kernel
theorem dX3_error_76 : decode cX3_error 76 = .ok (.i2d, 1) := by decide +kernel
theorem dX3_error_77 : decode cX3_error 77 = .ok (.ddiv, 1) := by decide +kernel
theorem dX3_error_78 : decode cX3_error 78 = .ok (.dreturn, 1) := by decide +kernel
set_option maxRecDepth 20000 in
theorem ggX3_digest_X3_mix : GoodIn wsX3_digest wsX3_mix := goodIn_r _ [6, 7] (by decide +kernel) (by decide +kernel)
set_option maxRecDepth 20000 in
theorem gX3_digest_X3_mix : GoodIn wsX3_digest (va_wsS RX3 190 yX3_mix wsX3_mix) := goodIn_app (goodIn_of _ (by decide +kernel)) ggX3_digest_X3_mix
set_option maxRecDepth 20000 in
theorem ggX3_digest_X3_mixRegion : GoodIn wsX3_digest wsX3_mixRegion := goodIn_r _ [11, 12, 3, 4, 5, 6, 7, 13, 14, 15, 16, 17, 18, 67, 68, 69, 70, 71, 72, 73, 74, 75, 76, 77] (by decide +kernel) (by decide +kernel)
set_option maxRecDepth 20000 in
theorem gX3_digest_X3_mixRegion : GoodIn wsX3_digest (wsV RX3 194 RX3 yX3_mixRegion wsX3_mixRegion) := goodIn_app (goodIn_of _ (by decide +kernel)) ggX3_digest_X3_mixRegion
set_option maxRecDepth 20000 in
theorem ggX3_digest_X3_mixBins : GoodIn wsX3_digest wsX3_mixBins := goodIn_r _ [22, 23, 24, 25, 26, 27, 28, 29, 30, 3, 4, 5, 6, 7, 31, 32, 33, 34, 35, 36, 37, 38, 39, 40, 41, 42, 43, 44, 45, 46, 47, 48, 49, 50, 51, 52, 53, 54, 55, 56, 57, 58, 59, 60, 67, 68, 69, 70, 71, 72, 73, 74, 78, 79, 80, 81, 82, 83, 84, 85, 86, 87, 88, 89, 90] (by decide +kernel) (by decide +kernel)
set_option maxRecDepth 20000 in
theorem gX3_digest_X3_mixBins : GoodIn wsX3_digest (wsV RX3 198 RX3 yX3_mixBins wsX3_mixBins) := goodIn_app (goodIn_of _ (by decide +kernel)) ggX3_digest_X3_mixBins
set_option maxRecDepth 20000 in
theorem ggX3_digest_X3_mixTotals : GoodIn wsX3_digest wsX3_mixTotals := goodIn_r _ [64, 65, 66, 3, 4, 5, 6, 7, 67, 68, 69, 70, 71, 72, 73, 74] (by decide +kernel) (by decide +kernel)
set_option maxRecDepth 20000 in
theorem gX3_digest_X3_mixTotals : GoodIn wsX3_digest (wsV RX3 201 RX3 yX3_mixTotals wsX3_mixTotals) := goodIn_app (goodIn_of _ (by decide +kernel)) ggX3_digest_X3_mixTotals
theorem dX3_digest_0 : decode cX3_digest 0 = .ok (.ldc2_w 188, 3) := by decide +kernel
theorem dX3_digest_3 : decode cX3_digest 3 = .ok (.aload_n 0, 1) := by decide +kernel
theorem dX3_digest_4 : decode cX3_digest 4 = .ok (.getfield 42, 3) := by decide +kernel
theorem dX3_digest_7 : decode cX3_digest 7 = .ok (.i2l, 1) := by decide +kernel
theorem dX3_digest_8 : decode cX3_digest 8 = .ok (.invokestatic 190, 3) := by decide +kernel
theorem dX3_digest_11 : decode cX3_digest 11 = .ok (.lstore_n 1, 1) := by decide +kernel
theorem dX3_digest_12 : decode cX3_digest 12 = .ok (.aload_n 0, 1) := by decide +kernel
theorem dX3_digest_13 : decode cX3_digest 13 = .ok (.lload_n 1, 1) := by decide +kernel
theorem dX3_digest_14 : decode cX3_digest 14 = .ok (.invokevirtual 194, 3) := by decide +kernel
theorem dX3_digest_17 : decode cX3_digest 17 = .ok (.lstore_n 1, 1) := by decide +kernel
theorem dX3_digest_18 : decode cX3_digest 18 = .ok (.aload_n 0, 1) := by decide +kernel
theorem dX3_digest_19 : decode cX3_digest 19 = .ok (.lload_n 1, 1) := by decide +kernel
theorem dX3_digest_20 : decode cX3_digest 20 = .ok (.invokevirtual 198, 3) := by decide +kernel
theorem dX3_digest_23 : decode cX3_digest 23 = .ok (.lstore_n 1, 1) := by decide +kernel
theorem dX3_digest_24 : decode cX3_digest 24 = .ok (.aload_n 0, 1) := by decide +kernel
theorem dX3_digest_25 : decode cX3_digest 25 = .ok (.lload_n 1, 1) := by decide +kernel
theorem dX3_digest_26 : decode cX3_digest 26 = .ok (.invokevirtual 201, 3) := by decide +kernel
theorem dX3_digest_29 : decode cX3_digest 29 = .ok (.lreturn, 1) := by decide +kernel
theorem dX3_checkPlace_0 : decode cX3_checkPlace 0 = .ok (.iload_n 1, 1) := by decide +kernel
theorem dX3_checkPlace_1 : decode cX3_checkPlace 1 = .ok (.ifCond .lt 14, 3) := by decide +kernel
theorem dX3_checkPlace_4 : decode cX3_checkPlace 4 = .ok (.iload_n 1, 1) := by decide +kernel
theorem dX3_checkPlace_5 : decode cX3_checkPlace 5 = .ok (.aload_n 0, 1) := by decide +kernel
theorem dX3_checkPlace_6 : decode cX3_checkPlace 6 = .ok (.getfield 12, 3) := by decide +kernel
theorem dX3_checkPlace_9 : decode cX3_checkPlace 9 = .ok (.getfield 45, 3) := by decide +kernel
theorem dX3_checkPlace_12 : decode cX3_checkPlace 12 = .ok (.if_icmp .lt 13, 3) := by decide +kernel
theorem dX3_checkPlace_15 : decode cX3_checkPlace 15 = .ok (.new 96, 3) := by decide +kernel
theorem dX3_checkPlace_18 : decode cX3_checkPlace 18 = .ok (.dup, 1) := by decide +kernel
theorem dX3_checkPlace_19 : decode cX3_checkPlace 19 = .ok (.ldc 204, 2) := by decide +kernel
theorem dX3_checkPlace_21 : decode cX3_checkPlace 21 = .ok (.invokespecial 100, 3) := by decide +kernel
theorem dX3_checkPlace_24 : decode cX3_checkPlace 24 = .ok (.athrow, 1) := by decide +kernel
theorem dX3_checkPlace_25 : decode cX3_checkPlace 25 = .ok (.return_, 1) := by decide +kernel
theorem dX3_checkKind_0 : decode cX3_checkKind 0 = .ok (.iload_n 1, 1) := by decide +kernel
end
section
theorem dX3_checkKind_1 : decode cX3_checkKind 1 = .ok (.ifCond .lt 8, 3) := by decide +kernel
theorem dX3_checkKind_4 : decode cX3_checkKind 4 = .ok (.iload_n 1, 1) := by decide +kernel
theorem dX3_checkKind_5 : decode cX3_checkKind 5 = .ok (.iconst 3, 1) := by decide +kernel
theorem dX3_checkKind_6 : decode cX3_checkKind 6 = .ok (.if_icmp .lt 13, 3) := by decide +kernel
theorem dX3_checkKind_9 : decode cX3_checkKind 9 = .ok (.new 96, 3) := by decide +kernel
theorem dX3_checkKind_12 : decode cX3_checkKind 12 = .ok (.dup, 1) := by decide +kernel
theorem dX3_checkKind_13 : decode cX3_checkKind 13 = .ok (.ldc 206, 2) := by decide +kernel
theorem dX3_checkKind_15 : decode cX3_checkKind 15 = .ok (.invokespecial 100, 3) := by decide +kernel
theorem dX3_checkKind_18 : decode cX3_checkKind 18 = .ok (.athrow, 1) := by decide +kernel
theorem dX3_checkKind_19 : decode cX3_checkKind 19 = .ok (.return_, 1) := by decide +kernel
set_option maxRecDepth 20000 in
theorem ggX3_checkBin_Jx4a65c_size_8abf5 : GoodIn wsX3_checkBin wsJx4a65c_size_8abf5 := goodIn_r _ [8, 9, 18, 19, 20] (by decide +kernel) (by decide +kernel)
set_option maxRecDepth 20000 in
theorem gX3_checkBin_Jx4a65c_size_8abf5 : GoodIn wsX3_checkBin (wsV RX3 108 RJx4a65c yJx4a65c_size_8abf5 wsJx4a65c_size_8abf5) := goodIn_app (goodIn_of _ (by decide +kernel)) ggX3_checkBin_Jx4a65c_size_8abf5
theorem dX3_checkBin_0 : decode cX3_checkBin 0 = .ok (.iload_n 1, 1) := by decide +kernel
theorem dX3_checkBin_1 : decode cX3_checkBin 1 = .ok (.ifCond .lt 14, 3) := by decide +kernel
theorem dX3_checkBin_4 : decode cX3_checkBin 4 = .ok (.iload_n 1, 1) := by decide +kernel
theorem dX3_checkBin_5 : decode cX3_checkBin 5 = .ok (.aload_n 0, 1) := by decide +kernel
theorem dX3_checkBin_6 : decode cX3_checkBin 6 = .ok (.getfield 19, 3) := by decide +kernel
theorem dX3_checkBin_9 : decode cX3_checkBin 9 = .ok (.invokevirtual 108, 3) := by decide +kernel
theorem dX3_checkBin_12 : decode cX3_checkBin 12 = .ok (.if_icmp .lt 13, 3) := by decide +kernel
theorem dX3_checkBin_15 : decode cX3_checkBin 15 = .ok (.new 96, 3) := by decide +kernel
theorem dX3_checkBin_18 : decode cX3_checkBin 18 = .ok (.dup, 1) := by decide +kernel
theorem dX3_checkBin_19 : decode cX3_checkBin 19 = .ok (.ldc 208, 2) := by decide +kernel
theorem dX3_checkBin_21 : decode cX3_checkBin 21 = .ok (.invokespecial 100, 3) := by decide +kernel
theorem dX3_checkBin_24 : decode cX3_checkBin 24 = .ok (.athrow, 1) := by decide +kernel
theorem dX3_checkBin_25 : decode cX3_checkBin 25 = .ok (.return_, 1) := by decide +kernel
theorem dX3_checkRange_0 : decode cX3_checkRange 0 = .ok (.iload_n 1, 1) := by decide +kernel
theorem dX3_checkRange_1 : decode cX3_checkRange 1 = .ok (.iload_n 2, 1) := by decide +kernel
theorem dX3_checkRange_2 : decode cX3_checkRange 2 = .ok (.if_icmp .lt 8, 3) := by decide +kernel
theorem dX3_checkRange_5 : decode cX3_checkRange 5 = .ok (.iload_n 1, 1) := by decide +kernel
theorem dX3_checkRange_6 : decode cX3_checkRange 6 = .ok (.iload_n 3, 1) := by decide +kernel
theorem dX3_checkRange_7 : decode cX3_checkRange 7 = .ok (.if_icmp .le 13, 3) := by decide +kernel
theorem dX3_checkRange_10 : decode cX3_checkRange 10 = .ok (.new 63, 3) := by decide +kernel
theorem dX3_checkRange_13 : decode cX3_checkRange 13 = .ok (.dup, 1) := by decide +kernel
theorem dX3_checkRange_14 : decode cX3_checkRange 14 = .ok (.ldc 210, 2) := by decide +kernel
theorem dX3_checkRange_16 : decode cX3_checkRange 16 = .ok (.invokespecial 67, 3) := by decide +kernel
theorem dX3_checkRange_19 : decode cX3_checkRange 19 = .ok (.athrow, 1) := by decide +kernel
theorem dX3_checkRange_20 : decode cX3_checkRange 20 = .ok (.return_, 1) := by decide +kernel
theorem dX3_checkWorkday_0 : decode cX3_checkWorkday 0 = .ok (.aload_n 0, 1) := by decide +kernel
theorem dX3_checkWorkday_1 : decode cX3_checkWorkday 1 = .ok (.getfield 23, 3) := by decide +kernel
theorem dX3_checkWorkday_4 : decode cX3_checkWorkday 4 = .ok (.aload_n 0, 1) := by decide +kernel
theorem dX3_checkWorkday_5 : decode cX3_checkWorkday 5 = .ok (.getfield 42, 3) := by decide +kernel
theorem dX3_checkWorkday_8 : decode cX3_checkWorkday 8 = .ok (.baload, 1) := by decide +kernel
theorem dX3_checkWorkday_9 : decode cX3_checkWorkday 9 = .ok (.ifCond .eq 13, 3) := by decide +kernel
theorem dX3_checkWorkday_12 : decode cX3_checkWorkday 12 = .ok (.new 48, 3) := by decide +kernel
theorem dX3_checkWorkday_15 : decode cX3_checkWorkday 15 = .ok (.dup, 1) := by decide +kernel
theorem dX3_checkWorkday_16 : decode cX3_checkWorkday 16 = .ok (.ldc 212, 2) := by decide +kernel
theorem dX3_checkWorkday_18 : decode cX3_checkWorkday 18 = .ok (.invokespecial 52, 3) := by decide +kernel
theorem dX3_checkWorkday_21 : decode cX3_checkWorkday 21 = .ok (.athrow, 1) := by decide +kernel
theorem dX3_checkWorkday_22 : decode cX3_checkWorkday 22 = .ok (.return_, 1) := by decide +kernel
set_option maxRecDepth 20000 in
theorem ggX3_passOneDay_Jx4a65c_size_8abf5 : GoodIn wsX3_passOneDay wsJx4a65c_size_8abf5 := goodIn_r _ [9, 10, 59, 60, 61] (by decide +kernel) (by decide +kernel)
set_option maxRecDepth 20000 in
theorem gX3_passOneDay_Jx4a65c_size_8abf5 : GoodIn wsX3_passOneDay (wsV RX3 108 RJx4a65c yJx4a65c_size_8abf5 wsJx4a65c_size_8abf5) := goodIn_app (goodIn_of _ (by decide +kernel)) ggX3_passOneDay_Jx4a65c_size_8abf5
set_option maxRecDepth 20000 in
theorem ggX3_passOneDay_Jx4a65c_get_915e3 : GoodIn wsX3_passOneDay wsJx4a65c_get_915e3 := goodIn_r _ [14, 10, 15, 16, 17, 18, 19, 20, 21, 22, 23, 24, 25, 8, 26, 27, 59, 60, 61] (by decide +kernel) (by decide +kernel)
set_option maxRecDepth 20000 in
theorem gX3_passOneDay_Jx4a65c_get_915e3 : GoodIn wsX3_passOneDay (wsV RX3 124 RJx4a65c yJx4a65c_get_915e3 wsJx4a65c_get_915e3) := goodIn_app (goodIn_of _ (by decide +kernel)) ggX3_passOneDay_Jx4a65c_get_915e3
set_option maxRecDepth 20000 in
theorem ggX3_passOneDay_X0_fill : GoodIn wsX3_passOneDay wsX0_fill := goodIn_r _ [32, 33, 34, 35, 36, 37, 38, 39, 40, 49, 50, 51, 52, 53, 54, 55, 56, 57, 58] (by decide +kernel) (by decide +kernel)
set_option maxRecDepth 20000 in
theorem gX3_passOneDay_X0_fill : GoodIn wsX3_passOneDay (wsV RX3 214 RX0 yX0_fill wsX0_fill) := goodIn_app (goodIn_of _ (by decide +kernel)) ggX3_passOneDay_X0_fill
theorem dX3_passOneDay_0 : decode cX3_passOneDay 0 = .ok (.aload_n 0, 1) := by decide +kernel
theorem dX3_passOneDay_1 : decode cX3_passOneDay 1 = .ok (.dup, 1) := by decide +kernel
theorem dX3_passOneDay_2 : decode cX3_passOneDay 2 = .ok (.getfield 42, 3) := by decide +kernel
theorem dX3_passOneDay_5 : decode cX3_passOneDay 5 = .ok (.iconst 1, 1) := by decide +kernel
theorem dX3_passOneDay_6 : decode cX3_passOneDay 6 = .ok (.iadd, 1) := by decide +kernel
theorem dX3_passOneDay_7 : decode cX3_passOneDay 7 = .ok (.putfield 42, 3) := by decide +kernel
theorem dX3_passOneDay_10 : decode cX3_passOneDay 10 = .ok (.iconst 0, 1) := by decide +kernel
theorem dX3_passOneDay_11 : decode cX3_passOneDay 11 = .ok (.istore_n 1, 1) := by decide +kernel
theorem dX3_passOneDay_12 : decode cX3_passOneDay 12 = .ok (.iconst 0, 1) := by decide +kernel
theorem dX3_passOneDay_13 : decode cX3_passOneDay 13 = .ok (.istore_n 2, 1) := by decide +kernel
theorem dX3_passOneDay_14 : decode cX3_passOneDay 14 = .ok (.iload_n 2, 1) := by decide +kernel
theorem dX3_passOneDay_15 : decode cX3_passOneDay 15 = .ok (.aload_n 0, 1) := by decide +kernel
theorem dX3_passOneDay_16 : decode cX3_passOneDay 16 = .ok (.getfield 19, 3) := by decide +kernel
theorem dX3_passOneDay_19 : decode cX3_passOneDay 19 = .ok (.invokevirtual 108, 3) := by decide +kernel
theorem dX3_passOneDay_22 : decode cX3_passOneDay 22 = .ok (.if_icmp .ge 55, 3) := by decide +kernel
theorem dX3_passOneDay_25 : decode cX3_passOneDay 25 = .ok (.aload_n 0, 1) := by decide +kernel
theorem dX3_passOneDay_26 : decode cX3_passOneDay 26 = .ok (.getfield 19, 3) := by decide +kernel
theorem dX3_passOneDay_29 : decode cX3_passOneDay 29 = .ok (.iload_n 2, 1) := by decide +kernel
theorem dX3_passOneDay_30 : decode cX3_passOneDay 30 = .ok (.invokevirtual 124, 3) := by decide +kernel
theorem dX3_passOneDay_33 : decode cX3_passOneDay 33 = .ok (.checkcast 113, 3) := by decide +kernel
theorem dX3_passOneDay_36 : decode cX3_passOneDay 36 = .ok (.astore_n 3, 1) := by decide +kernel
theorem dX3_passOneDay_37 : decode cX3_passOneDay 37 = .ok (.aload_n 3, 1) := by decide +kernel
theorem dX3_passOneDay_38 : decode cX3_passOneDay 38 = .ok (.invokevirtual 214, 3) := by decide +kernel
theorem dX3_passOneDay_41 : decode cX3_passOneDay 41 = .ok (.istore 4, 2) := by decide +kernel
theorem dX3_passOneDay_43 : decode cX3_passOneDay 43 = .ok (.aload_n 0, 1) := by decide +kernel
theorem dX3_passOneDay_44 : decode cX3_passOneDay 44 = .ok (.getfield 31, 3) := by decide +kernel
theorem dX3_passOneDay_47 : decode cX3_passOneDay 47 = .ok (.aload_n 3, 1) := by decide +kernel
theorem dX3_passOneDay_48 : decode cX3_passOneDay 48 = .ok (.getfield 158, 3) := by decide +kernel
theorem dX3_passOneDay_51 : decode cX3_passOneDay 51 = .ok (.dup2, 1) := by decide +kernel
theorem dX3_passOneDay_52 : decode cX3_passOneDay 52 = .ok (.laload, 1) := by decide +kernel
theorem dX3_passOneDay_53 : decode cX3_passOneDay 53 = .ok (.iload 4, 2) := by decide +kernel
theorem dX3_passOneDay_55 : decode cX3_passOneDay 55 = .ok (.i2l, 1) := by decide +kernel
theorem dX3_passOneDay_56 : decode cX3_passOneDay 56 = .ok (.ladd, 1) := by decide +kernel
theorem dX3_passOneDay_57 : decode cX3_passOneDay 57 = .ok (.lastore, 1) := by decide +kernel
theorem dX3_passOneDay_58 : decode cX3_passOneDay 58 = .ok (.iload_n 1, 1) := by decide +kernel
theorem dX3_passOneDay_59 : decode cX3_passOneDay 59 = .ok (.iload 4, 2) := by decide +kernel
theorem dX3_passOneDay_61 : decode cX3_passOneDay 61 = .ok (.ifCond .le 7, 3) := by decide +kernel
theorem dX3_passOneDay_64 : decode cX3_passOneDay 64 = .ok (.iconst 1, 1) := by decide +kernel
theorem dX3_passOneDay_65 : decode cX3_passOneDay 65 = .ok (.goto 4, 3) := by decide +kernel
theorem dX3_passOneDay_68 : decode cX3_passOneDay 68 = .ok (.iconst 0, 1) := by decide +kernel
theorem dX3_passOneDay_69 : decode cX3_passOneDay 69 = .ok (.iadd, 1) := by decide +kernel
theorem dX3_passOneDay_70 : decode cX3_passOneDay 70 = .ok (.istore_n 1, 1) := by decide +kernel
theorem dX3_passOneDay_71 : decode cX3_passOneDay 71 = .ok (.iinc 2 1, 3) := by decide +kernel
theorem dX3_passOneDay_74 : decode cX3_passOneDay 74 = .ok (.goto (-60), 3) := by decide +kernel
theorem dX3_passOneDay_77 : decode cX3_passOneDay 77 = .ok (.iload_n 1, 1) := by decide +kernel
theorem dX3_passOneDay_78 : decode cX3_passOneDay 78 = .ok (.ireturn, 1) := by decide +kernel
set_option maxRecDepth 20000 in
theorem ggX3_planRoute_X3_nextWorkday : GoodIn wsX3_planRoute wsX3_nextWorkday := goodIn_r _ [10, 4, 11, 66, 67, 68, 69, 70, 71, 72, 73] (by decide +kernel) (by decide +kernel)
set_option maxRecDepth 20000 in
theorem gX3_planRoute_X3_nextWorkday : GoodIn wsX3_planRoute (wsV RX3 217 RX3 yX3_nextWorkday wsX3_nextWorkday) := goodIn_app (goodIn_of _ (by decide +kernel)) ggX3_planRoute_X3_nextWorkday
set_option maxRecDepth 20000 in
theorem ggX3_planRoute_Jx4a65c_size_8abf5 : GoodIn wsX3_planRoute wsJx4a65c_size_8abf5 := goodIn_r _ [16, 17, 84, 85, 86] (by decide +kernel) (by decide +kernel)
set_option maxRecDepth 20000 in
theorem gX3_planRoute_Jx4a65c_size_8abf5 : GoodIn wsX3_planRoute (wsV RX3 108 RJx4a65c yJx4a65c_size_8abf5 wsJx4a65c_size_8abf5) := goodIn_app (goodIn_of _ (by decide +kernel)) ggX3_planRoute_Jx4a65c_size_8abf5
set_option maxRecDepth 20000 in
theorem ggX3_planRoute_Jx4a65c_get_915e3 : GoodIn wsX3_planRoute wsJx4a65c_get_915e3 := goodIn_r _ [21, 17, 22, 23, 24, 25, 26, 27, 28, 29, 30, 31, 32, 15, 33, 34, 84, 85, 86] (by decide +kernel) (by decide +kernel)
set_option maxRecDepth 20000 in
theorem gX3_planRoute_Jx4a65c_get_915e3 : GoodIn wsX3_planRoute (wsV RX3 124 RJx4a65c yJx4a65c_get_915e3 wsJx4a65c_get_915e3) := goodIn_app (goodIn_of _ (by decide +kernel)) ggX3_planRoute_Jx4a65c_get_915e3
set_option maxRecDepth 20000 in
theorem ggX3_planRoute_X0_isDue : GoodIn wsX3_planRoute wsX0_isDue := goodIn_r _ [39, 40, 41, 42, 43, 38, 44, 45, 46, 47, 48, 49, 50, 51, 52, 53, 54, 74, 75, 76, 77, 78, 79, 80, 81, 82, 83] (by decide +kernel) (by decide +kernel)
set_option maxRecDepth 20000 in
theorem gX3_planRoute_X0_isDue : GoodIn wsX3_planRoute (wsV RX3 220 RX0 yX0_isDue wsX0_isDue) := goodIn_app (goodIn_of _ (by decide +kernel)) ggX3_planRoute_X0_isDue
set_option maxRecDepth 20000 in
theorem ggX3_planRoute_X3_nearestStop : GoodIn wsX3_planRoute wsX3_nearestStop := goodIn_r _ [58, 59, 2, 5, 3, 1, 18, 19, 20, 15, 21, 17, 22, 23, 24, 25, 26, 27, 28, 29, 30, 31, 32, 33, 34, 60, 61, 62, 63, 64, 65, 66, 67, 68, 69, 70, 71, 72, 73, 74, 75, 76, 77, 78, 79, 80, 81, 82, 83, 84, 85, 86, 87, 88, 89] (by decide +kernel) (by decide +kernel)
set_option maxRecDepth 20000 in
theorem gX3_planRoute_X3_nearestStop : GoodIn wsX3_planRoute (wsV RX3 223 RX3 yX3_nearestStop wsX3_nearestStop) := goodIn_app (goodIn_of _ (by decide +kernel)) ggX3_planRoute_X3_nearestStop
theorem dX3_planRoute_0 : decode cX3_planRoute 0 = .ok (.aload_n 0, 1) := by decide +kernel
theorem dX3_planRoute_1 : decode cX3_planRoute 1 = .ok (.invokevirtual 217, 3) := by decide +kernel
theorem dX3_planRoute_4 : decode cX3_planRoute 4 = .ok (.istore_n 2, 1) := by decide +kernel
theorem dX3_planRoute_5 : decode cX3_planRoute 5 = .ok (.aload_n 0, 1) := by decide +kernel
theorem dX3_planRoute_6 : decode cX3_planRoute 6 = .ok (.iconst 0, 1) := by decide +kernel
theorem dX3_planRoute_7 : decode cX3_planRoute 7 = .ok (.putfield 38, 3) := by decide +kernel
theorem dX3_planRoute_10 : decode cX3_planRoute 10 = .ok (.iconst 0, 1) := by decide +kernel
theorem dX3_planRoute_11 : decode cX3_planRoute 11 = .ok (.istore_n 3, 1) := by decide +kernel
theorem dX3_planRoute_12 : decode cX3_planRoute 12 = .ok (.iload_n 3, 1) := by decide +kernel
theorem dX3_planRoute_13 : decode cX3_planRoute 13 = .ok (.aload_n 0, 1) := by decide +kernel
theorem dX3_planRoute_14 : decode cX3_planRoute 14 = .ok (.getfield 19, 3) := by decide +kernel
theorem dX3_planRoute_17 : decode cX3_planRoute 17 = .ok (.invokevirtual 108, 3) := by decide +kernel
theorem dX3_planRoute_20 : decode cX3_planRoute 20 = .ok (.if_icmp .ge 64, 3) := by decide +kernel
theorem dX3_planRoute_23 : decode cX3_planRoute 23 = .ok (.aload_n 0, 1) := by decide +kernel
theorem dX3_planRoute_24 : decode cX3_planRoute 24 = .ok (.getfield 19, 3) := by decide +kernel
theorem dX3_planRoute_27 : decode cX3_planRoute 27 = .ok (.iload_n 3, 1) := by decide +kernel
theorem dX3_planRoute_28 : decode cX3_planRoute 28 = .ok (.invokevirtual 124, 3) := by decide +kernel
theorem dX3_planRoute_31 : decode cX3_planRoute 31 = .ok (.checkcast 113, 3) := by decide +kernel
theorem dX3_planRoute_34 : decode cX3_planRoute 34 = .ok (.astore 4, 2) := by decide +kernel
theorem dX3_planRoute_36 : decode cX3_planRoute 36 = .ok (.aload 4, 2) := by decide +kernel
theorem dX3_planRoute_38 : decode cX3_planRoute 38 = .ok (.getfield 158, 3) := by decide +kernel
theorem dX3_planRoute_41 : decode cX3_planRoute 41 = .ok (.iload_n 1, 1) := by decide +kernel
theorem dX3_planRoute_42 : decode cX3_planRoute 42 = .ok (.if_icmp .ne 36, 3) := by decide +kernel
theorem dX3_planRoute_45 : decode cX3_planRoute 45 = .ok (.aload 4, 2) := by decide +kernel
theorem dX3_planRoute_47 : decode cX3_planRoute 47 = .ok (.aload_n 0, 1) := by decide +kernel
theorem dX3_planRoute_48 : decode cX3_planRoute 48 = .ok (.getfield 42, 3) := by decide +kernel
theorem dX3_planRoute_51 : decode cX3_planRoute 51 = .ok (.iload_n 2, 1) := by decide +kernel
theorem dX3_planRoute_52 : decode cX3_planRoute 52 = .ok (.invokevirtual 220, 3) := by decide +kernel
theorem dX3_planRoute_55 : decode cX3_planRoute 55 = .ok (.ifCond .eq 23, 3) := by decide +kernel
theorem dX3_planRoute_58 : decode cX3_planRoute 58 = .ok (.aload_n 0, 1) := by decide +kernel
theorem dX3_planRoute_59 : decode cX3_planRoute 59 = .ok (.getfield 34, 3) := by decide +kernel
theorem dX3_planRoute_62 : decode cX3_planRoute 62 = .ok (.aload_n 0, 1) := by decide +kernel
theorem dX3_planRoute_63 : decode cX3_planRoute 63 = .ok (.getfield 38, 3) := by decide +kernel
theorem dX3_planRoute_66 : decode cX3_planRoute 66 = .ok (.iload_n 3, 1) := by decide +kernel
theorem dX3_planRoute_67 : decode cX3_planRoute 67 = .ok (.iastore, 1) := by decide +kernel
theorem dX3_planRoute_68 : decode cX3_planRoute 68 = .ok (.aload_n 0, 1) := by decide +kernel
theorem dX3_planRoute_69 : decode cX3_planRoute 69 = .ok (.dup, 1) := by decide +kernel
theorem dX3_planRoute_70 : decode cX3_planRoute 70 = .ok (.getfield 38, 3) := by decide +kernel
theorem dX3_planRoute_73 : decode cX3_planRoute 73 = .ok (.iconst 1, 1) := by decide +kernel
theorem dX3_planRoute_74 : decode cX3_planRoute 74 = .ok (.iadd, 1) := by decide +kernel
theorem dX3_planRoute_75 : decode cX3_planRoute 75 = .ok (.putfield 38, 3) := by decide +kernel
theorem dX3_planRoute_78 : decode cX3_planRoute 78 = .ok (.iinc 3 1, 3) := by decide +kernel
theorem dX3_planRoute_81 : decode cX3_planRoute 81 = .ok (.goto (-69), 3) := by decide +kernel
theorem dX3_planRoute_84 : decode cX3_planRoute 84 = .ok (.iconst 0, 1) := by decide +kernel
theorem dX3_planRoute_85 : decode cX3_planRoute 85 = .ok (.istore_n 3, 1) := by decide +kernel
theorem dX3_planRoute_86 : decode cX3_planRoute 86 = .ok (.iconst 0, 1) := by decide +kernel
theorem dX3_planRoute_87 : decode cX3_planRoute 87 = .ok (.istore 4, 2) := by decide +kernel
theorem dX3_planRoute_89 : decode cX3_planRoute 89 = .ok (.iload 4, 2) := by decide +kernel
theorem dX3_planRoute_91 : decode cX3_planRoute 91 = .ok (.aload_n 0, 1) := by decide +kernel
theorem dX3_planRoute_92 : decode cX3_planRoute 92 = .ok (.getfield 38, 3) := by decide +kernel
theorem dX3_planRoute_95 : decode cX3_planRoute 95 = .ok (.if_icmp .ge 66, 3) := by decide +kernel
theorem dX3_planRoute_98 : decode cX3_planRoute 98 = .ok (.aload_n 0, 1) := by decide +kernel
theorem dX3_planRoute_99 : decode cX3_planRoute 99 = .ok (.iload 4, 2) := by decide +kernel
theorem dX3_planRoute_101 : decode cX3_planRoute 101 = .ok (.iload_n 3, 1) := by decide +kernel
theorem dX3_planRoute_102 : decode cX3_planRoute 102 = .ok (.invokevirtual 223, 3) := by decide +kernel
theorem dX3_planRoute_105 : decode cX3_planRoute 105 = .ok (.istore 5, 2) := by decide +kernel
theorem dX3_planRoute_107 : decode cX3_planRoute 107 = .ok (.aload_n 0, 1) := by decide +kernel
theorem dX3_planRoute_108 : decode cX3_planRoute 108 = .ok (.getfield 34, 3) := by decide +kernel
theorem dX3_planRoute_111 : decode cX3_planRoute 111 = .ok (.iload 5, 2) := by decide +kernel
theorem dX3_planRoute_113 : decode cX3_planRoute 113 = .ok (.iaload, 1) := by decide +kernel
theorem dX3_planRoute_114 : decode cX3_planRoute 114 = .ok (.istore 6, 2) := by decide +kernel
theorem dX3_planRoute_116 : decode cX3_planRoute 116 = .ok (.aload_n 0, 1) := by decide +kernel
theorem dX3_planRoute_117 : decode cX3_planRoute 117 = .ok (.getfield 34, 3) := by decide +kernel
theorem dX3_planRoute_120 : decode cX3_planRoute 120 = .ok (.iload 5, 2) := by decide +kernel
theorem dX3_planRoute_122 : decode cX3_planRoute 122 = .ok (.aload_n 0, 1) := by decide +kernel
theorem dX3_planRoute_123 : decode cX3_planRoute 123 = .ok (.getfield 34, 3) := by decide +kernel
theorem dX3_planRoute_126 : decode cX3_planRoute 126 = .ok (.iload 4, 2) := by decide +kernel
theorem dX3_planRoute_128 : decode cX3_planRoute 128 = .ok (.iaload, 1) := by decide +kernel
theorem dX3_planRoute_129 : decode cX3_planRoute 129 = .ok (.iastore, 1) := by decide +kernel
theorem dX3_planRoute_130 : decode cX3_planRoute 130 = .ok (.aload_n 0, 1) := by decide +kernel
theorem dX3_planRoute_131 : decode cX3_planRoute 131 = .ok (.getfield 34, 3) := by decide +kernel
theorem dX3_planRoute_134 : decode cX3_planRoute 134 = .ok (.iload 4, 2) := by decide +kernel
theorem dX3_planRoute_136 : decode cX3_planRoute 136 = .ok (.iload 6, 2) := by decide +kernel
theorem dX3_planRoute_138 : decode cX3_planRoute 138 = .ok (.iastore, 1) := by decide +kernel
theorem dX3_planRoute_139 : decode cX3_planRoute 139 = .ok (.aload_n 0, 1) := by decide +kernel
theorem dX3_planRoute_140 : decode cX3_planRoute 140 = .ok (.getfield 19, 3) := by decide +kernel
theorem dX3_planRoute_143 : decode cX3_planRoute 143 = .ok (.iload 6, 2) := by decide +kernel
theorem dX3_planRoute_145 : decode cX3_planRoute 145 = .ok (.invokevirtual 124, 3) := by decide +kernel
theorem dX3_planRoute_148 : decode cX3_planRoute 148 = .ok (.checkcast 113, 3) := by decide +kernel
theorem dX3_planRoute_151 : decode cX3_planRoute 151 = .ok (.getfield 226, 3) := by decide +kernel
theorem dX3_planRoute_154 : decode cX3_planRoute 154 = .ok (.istore_n 3, 1) := by decide +kernel
theorem dX3_planRoute_155 : decode cX3_planRoute 155 = .ok (.iinc 4 1, 3) := by decide +kernel
theorem dX3_planRoute_158 : decode cX3_planRoute 158 = .ok (.goto (-69), 3) := by decide +kernel
theorem dX3_planRoute_161 : decode cX3_planRoute 161 = .ok (.return_, 1) := by decide +kernel
set_option maxRecDepth 20000 in
theorem ggX3_nearestStop_Jx4a65c_get_915e3 : GoodIn wsX3_nearestStop wsJx4a65c_get_915e3 := goodIn_r _ [10, 11, 12, 13, 14, 15, 16, 17, 18, 19, 20, 21, 22, 9, 23, 24, 49, 50, 51] (by decide +kernel) (by decide +kernel)
set_option maxRecDepth 20000 in
theorem gX3_nearestStop_Jx4a65c_get_915e3 : GoodIn wsX3_nearestStop (wsV RX3 124 RJx4a65c yJx4a65c_get_915e3 wsJx4a65c_get_915e3) := goodIn_app (goodIn_of _ (by decide +kernel)) ggX3_nearestStop_Jx4a65c_get_915e3
set_option maxRecDepth 20000 in
theorem ggX3_nearestStop_X1_between : GoodIn wsX3_nearestStop wsX1_between := goodIn_r _ [29, 30, 52, 53, 54] (by decide +kernel) (by decide +kernel)
set_option maxRecDepth 20000 in
theorem gX3_nearestStop_X1_between : GoodIn wsX3_nearestStop (wsV RX3 72 RX1 yX1_between wsX1_between) := goodIn_app (goodIn_of _ (by decide +kernel)) ggX3_nearestStop_X1_between
theorem dX3_nearestStop_0 : decode cX3_nearestStop 0 = .ok (.iload_n 1, 1) := by decide +kernel
theorem dX3_nearestStop_1 : decode cX3_nearestStop 1 = .ok (.istore_n 3, 1) := by decide +kernel
theorem dX3_nearestStop_2 : decode cX3_nearestStop 2 = .ok (.aload_n 0, 1) := by decide +kernel
theorem dX3_nearestStop_3 : decode cX3_nearestStop 3 = .ok (.getfield 12, 3) := by decide +kernel
theorem dX3_nearestStop_6 : decode cX3_nearestStop 6 = .ok (.iload_n 2, 1) := by decide +kernel
theorem dX3_nearestStop_7 : decode cX3_nearestStop 7 = .ok (.aload_n 0, 1) := by decide +kernel
theorem dX3_nearestStop_8 : decode cX3_nearestStop 8 = .ok (.getfield 19, 3) := by decide +kernel
theorem dX3_nearestStop_11 : decode cX3_nearestStop 11 = .ok (.aload_n 0, 1) := by decide +kernel
theorem dX3_nearestStop_12 : decode cX3_nearestStop 12 = .ok (.getfield 34, 3) := by decide +kernel
theorem dX3_nearestStop_15 : decode cX3_nearestStop 15 = .ok (.iload_n 1, 1) := by decide +kernel
theorem dX3_nearestStop_16 : decode cX3_nearestStop 16 = .ok (.iaload, 1) := by decide +kernel
theorem dX3_nearestStop_17 : decode cX3_nearestStop 17 = .ok (.invokevirtual 124, 3) := by decide +kernel
theorem dX3_nearestStop_20 : decode cX3_nearestStop 20 = .ok (.checkcast 113, 3) := by decide +kernel
theorem dX3_nearestStop_23 : decode cX3_nearestStop 23 = .ok (.getfield 226, 3) := by decide +kernel
theorem dX3_nearestStop_26 : decode cX3_nearestStop 26 = .ok (.invokevirtual 72, 3) := by decide +kernel
theorem dX3_nearestStop_29 : decode cX3_nearestStop 29 = .ok (.istore 4, 2) := by decide +kernel
theorem dX3_nearestStop_31 : decode cX3_nearestStop 31 = .ok (.iload_n 1, 1) := by decide +kernel
theorem dX3_nearestStop_32 : decode cX3_nearestStop 32 = .ok (.iconst 1, 1) := by decide +kernel
theorem dX3_nearestStop_33 : decode cX3_nearestStop 33 = .ok (.iadd, 1) := by decide +kernel
theorem dX3_nearestStop_34 : decode cX3_nearestStop 34 = .ok (.istore 5, 2) := by decide +kernel
theorem dX3_nearestStop_36 : decode cX3_nearestStop 36 = .ok (.iload 5, 2) := by decide +kernel
theorem dX3_nearestStop_38 : decode cX3_nearestStop 38 = .ok (.aload_n 0, 1) := by decide +kernel
theorem dX3_nearestStop_39 : decode cX3_nearestStop 39 = .ok (.getfield 38, 3) := by decide +kernel
theorem dX3_nearestStop_42 : decode cX3_nearestStop 42 = .ok (.if_icmp .ge 76, 3) := by decide +kernel
theorem dX3_nearestStop_45 : decode cX3_nearestStop 45 = .ok (.aload_n 0, 1) := by decide +kernel
theorem dX3_nearestStop_46 : decode cX3_nearestStop 46 = .ok (.getfield 12, 3) := by decide +kernel
theorem dX3_nearestStop_49 : decode cX3_nearestStop 49 = .ok (.iload_n 2, 1) := by decide +kernel
theorem dX3_nearestStop_50 : decode cX3_nearestStop 50 = .ok (.aload_n 0, 1) := by decide +kernel
theorem dX3_nearestStop_51 : decode cX3_nearestStop 51 = .ok (.getfield 19, 3) := by decide +kernel
theorem dX3_nearestStop_54 : decode cX3_nearestStop 54 = .ok (.aload_n 0, 1) := by decide +kernel
theorem dX3_nearestStop_55 : decode cX3_nearestStop 55 = .ok (.getfield 34, 3) := by decide +kernel
theorem dX3_nearestStop_58 : decode cX3_nearestStop 58 = .ok (.iload 5, 2) := by decide +kernel
theorem dX3_nearestStop_60 : decode cX3_nearestStop 60 = .ok (.iaload, 1) := by decide +kernel
theorem dX3_nearestStop_61 : decode cX3_nearestStop 61 = .ok (.invokevirtual 124, 3) := by decide +kernel
theorem dX3_nearestStop_64 : decode cX3_nearestStop 64 = .ok (.checkcast 113, 3) := by decide +kernel
theorem dX3_nearestStop_67 : decode cX3_nearestStop 67 = .ok (.getfield 226, 3) := by decide +kernel
theorem dX3_nearestStop_70 : decode cX3_nearestStop 70 = .ok (.invokevirtual 72, 3) := by decide +kernel
theorem dX3_nearestStop_73 : decode cX3_nearestStop 73 = .ok (.istore 6, 2) := by decide +kernel
theorem dX3_nearestStop_75 : decode cX3_nearestStop 75 = .ok (.iload 6, 2) := by decide +kernel
theorem dX3_nearestStop_77 : decode cX3_nearestStop 77 = .ok (.iload 4, 2) := by decide +kernel
theorem dX3_nearestStop_79 : decode cX3_nearestStop 79 = .ok (.if_icmp .lt 26, 3) := by decide +kernel
theorem dX3_nearestStop_82 : decode cX3_nearestStop 82 = .ok (.iload 6, 2) := by decide +kernel
theorem dX3_nearestStop_84 : decode cX3_nearestStop 84 = .ok (.iload 4, 2) := by decide +kernel
theorem dX3_nearestStop_86 : decode cX3_nearestStop 86 = .ok (.if_icmp .ne 26, 3) := by decide +kernel
theorem dX3_nearestStop_89 : decode cX3_nearestStop 89 = .ok (.aload_n 0, 1) := by decide +kernel
theorem dX3_nearestStop_90 : decode cX3_nearestStop 90 = .ok (.getfield 34, 3) := by decide +kernel
theorem dX3_nearestStop_93 : decode cX3_nearestStop 93 = .ok (.iload 5, 2) := by decide +kernel
theorem dX3_nearestStop_95 : decode cX3_nearestStop 95 = .ok (.iaload, 1) := by decide +kernel
theorem dX3_nearestStop_96 : decode cX3_nearestStop 96 = .ok (.aload_n 0, 1) := by decide +kernel
theorem dX3_nearestStop_97 : decode cX3_nearestStop 97 = .ok (.getfield 34, 3) := by decide +kernel
theorem dX3_nearestStop_100 : decode cX3_nearestStop 100 = .ok (.iload_n 3, 1) := by decide +kernel
theorem dX3_nearestStop_101 : decode cX3_nearestStop 101 = .ok (.iaload, 1) := by decide +kernel
theorem dX3_nearestStop_102 : decode cX3_nearestStop 102 = .ok (.if_icmp .ge 10, 3) := by decide +kernel
theorem dX3_nearestStop_105 : decode cX3_nearestStop 105 = .ok (.iload 5, 2) := by decide +kernel
theorem dX3_nearestStop_107 : decode cX3_nearestStop 107 = .ok (.istore_n 3, 1) := by decide +kernel
theorem dX3_nearestStop_108 : decode cX3_nearestStop 108 = .ok (.iload 6, 2) := by decide +kernel
theorem dX3_nearestStop_110 : decode cX3_nearestStop 110 = .ok (.istore 4, 2) := by decide +kernel
theorem dX3_nearestStop_112 : decode cX3_nearestStop 112 = .ok (.iinc 5 1, 3) := by decide +kernel
theorem dX3_nearestStop_115 : decode cX3_nearestStop 115 = .ok (.goto (-79), 3) := by decide +kernel
theorem dX3_nearestStop_118 : decode cX3_nearestStop 118 = .ok (.iload_n 3, 1) := by decide +kernel
theorem dX3_nearestStop_119 : decode cX3_nearestStop 119 = .ok (.ireturn, 1) := by decide +kernel
set_option maxRecDepth 20000 in
theorem ggX3_makeTour_X2_init : GoodIn wsX3_makeTour wsX2_init := goodIn_r _ [13, 14, 15, 16, 17, 18, 19, 20, 21, 22, 23, 24, 93, 94, 95, 96, 97, 98, 99, 100] (by decide +kernel) (by decide +kernel)
set_option maxRecDepth 20000 in
theorem gX3_makeTour_X2_init : GoodIn wsX3_makeTour (wsX2_init) := ggX3_makeTour_X2_init
set_option maxRecDepth 20000 in
theorem ggX3_makeTour_Jx4a65c_get_915e3 : GoodIn wsX3_makeTour wsJx4a65c_get_915e3 := goodIn_r _ [29, 30, 31, 32, 33, 34, 35, 36, 37, 38, 39, 40, 41, 28, 42, 43, 109, 110, 111] (by decide +kernel) (by decide +kernel)
set_option maxRecDepth 20000 in
theorem gX3_makeTour_Jx4a65c_get_915e3 : GoodIn wsX3_makeTour (wsV RX3 124 RJx4a65c yJx4a65c_get_915e3 wsJx4a65c_get_915e3) := goodIn_app (goodIn_of _ (by decide +kernel)) ggX3_makeTour_Jx4a65c_get_915e3
set_option maxRecDepth 20000 in
theorem ggX3_makeTour_X2_visit : GoodIn wsX3_makeTour wsX2_visit := goodIn_r _ [47, 22, 21, 19, 20, 48, 49, 50, 51, 52, 53, 54, 3, 55, 17, 56, 57, 58, 59, 60, 61, 62, 63, 64, 65, 18, 23, 24, 66, 67, 68, 69, 70, 71, 72, 73, 74, 75, 76, 77, 78, 112, 113, 114, 115, 116, 117, 118, 119, 120, 121, 93, 94, 95, 96, 97, 98, 99, 100, 122, 123, 124] (by decide +kernel) (by decide +kernel)
set_option maxRecDepth 20000 in
theorem gX3_makeTour_X2_visit : GoodIn wsX3_makeTour (wsV RX3 166 RX2 yX2_visit wsX2_visit) := goodIn_app (goodIn_of _ (by decide +kernel)) ggX3_makeTour_X2_visit
set_option maxRecDepth 20000 in
theorem ggX3_makeTour_X0_endVisit : GoodIn wsX3_makeTour wsX0_endVisit := goodIn_r _ [83, 84, 85, 86, 87, 88, 112, 113, 114, 115, 116, 117, 118, 119, 120, 121] (by decide +kernel) (by decide +kernel)
set_option maxRecDepth 20000 in
theorem gX3_makeTour_X0_endVisit : GoodIn wsX3_makeTour (wsV RX3 229 RX0 yX0_endVisit wsX0_endVisit) := goodIn_app (goodIn_of _ (by decide +kernel)) ggX3_makeTour_X0_endVisit
set_option maxRecDepth 20000 in
theorem ggX3_makeTour_X2_end : GoodIn wsX3_makeTour wsX2_end := goodIn_r _ [92, 21, 62, 63, 64, 3, 65, 22, 17, 18, 20, 23, 24, 66, 67, 68, 59, 69, 70, 71, 72, 49, 50, 51, 73, 74, 75, 76, 77, 78, 57, 58, 60, 61, 52, 53, 54, 55, 56, 93, 94, 95, 96, 97, 98, 99, 100, 122, 123, 124] (by decide +kernel) (by decide +kernel)
set_option maxRecDepth 20000 in
theorem gX3_makeTour_X2_end : GoodIn wsX3_makeTour (wsV RX3 170 RX2 yX2_end wsX2_end) := goodIn_app (goodIn_of _ (by decide +kernel)) ggX3_makeTour_X2_end
theorem dX3_makeTour_0 : decode cX3_makeTour 0 = .ok (.new 161, 3) := by decide +kernel
theorem dX3_makeTour_3 : decode cX3_makeTour 3 = .ok (.dup, 1) := by decide +kernel
theorem dX3_makeTour_4 : decode cX3_makeTour 4 = .ok (.aload_n 0, 1) := by decide +kernel
theorem dX3_makeTour_5 : decode cX3_makeTour 5 = .ok (.getfield 12, 3) := by decide +kernel
theorem dX3_makeTour_8 : decode cX3_makeTour 8 = .ok (.iload_n 1, 1) := by decide +kernel
theorem dX3_makeTour_9 : decode cX3_makeTour 9 = .ok (.iload_n 2, 1) := by decide +kernel
theorem dX3_makeTour_10 : decode cX3_makeTour 10 = .ok (.invokespecial 163, 3) := by decide +kernel
theorem dX3_makeTour_13 : decode cX3_makeTour 13 = .ok (.astore_n 3, 1) := by decide +kernel
theorem dX3_makeTour_14 : decode cX3_makeTour 14 = .ok (.iconst 0, 1) := by decide +kernel
theorem dX3_makeTour_15 : decode cX3_makeTour 15 = .ok (.istore 4, 2) := by decide +kernel
theorem dX3_makeTour_17 : decode cX3_makeTour 17 = .ok (.iload 4, 2) := by decide +kernel
theorem dX3_makeTour_19 : decode cX3_makeTour 19 = .ok (.aload_n 0, 1) := by decide +kernel
theorem dX3_makeTour_20 : decode cX3_makeTour 20 = .ok (.getfield 38, 3) := by decide +kernel
theorem dX3_makeTour_23 : decode cX3_makeTour 23 = .ok (.if_icmp .ge 47, 3) := by decide +kernel
theorem dX3_makeTour_26 : decode cX3_makeTour 26 = .ok (.aload_n 0, 1) := by decide +kernel
theorem dX3_makeTour_27 : decode cX3_makeTour 27 = .ok (.getfield 19, 3) := by decide +kernel
theorem dX3_makeTour_30 : decode cX3_makeTour 30 = .ok (.aload_n 0, 1) := by decide +kernel
theorem dX3_makeTour_31 : decode cX3_makeTour 31 = .ok (.getfield 34, 3) := by decide +kernel
theorem dX3_makeTour_34 : decode cX3_makeTour 34 = .ok (.iload 4, 2) := by decide +kernel
theorem dX3_makeTour_36 : decode cX3_makeTour 36 = .ok (.iaload, 1) := by decide +kernel
theorem dX3_makeTour_37 : decode cX3_makeTour 37 = .ok (.invokevirtual 124, 3) := by decide +kernel
theorem dX3_makeTour_40 : decode cX3_makeTour 40 = .ok (.checkcast 113, 3) := by decide +kernel
theorem dX3_makeTour_43 : decode cX3_makeTour 43 = .ok (.astore 5, 2) := by decide +kernel
theorem dX3_makeTour_45 : decode cX3_makeTour 45 = .ok (.aload_n 3, 1) := by decide +kernel
theorem dX3_makeTour_46 : decode cX3_makeTour 46 = .ok (.aload 5, 2) := by decide +kernel
theorem dX3_makeTour_48 : decode cX3_makeTour 48 = .ok (.invokevirtual 166, 3) := by decide +kernel
theorem dX3_makeTour_51 : decode cX3_makeTour 51 = .ok (.istore 6, 2) := by decide +kernel
theorem dX3_makeTour_53 : decode cX3_makeTour 53 = .ok (.aload 5, 2) := by decide +kernel
theorem dX3_makeTour_55 : decode cX3_makeTour 55 = .ok (.iload 6, 2) := by decide +kernel
theorem dX3_makeTour_57 : decode cX3_makeTour 57 = .ok (.aload_n 0, 1) := by decide +kernel
theorem dX3_makeTour_58 : decode cX3_makeTour 58 = .ok (.getfield 42, 3) := by decide +kernel
theorem dX3_makeTour_61 : decode cX3_makeTour 61 = .ok (.invokevirtual 229, 3) := by decide +kernel
theorem dX3_makeTour_64 : decode cX3_makeTour 64 = .ok (.iinc 4 1, 3) := by decide +kernel
theorem dX3_makeTour_67 : decode cX3_makeTour 67 = .ok (.goto (-50), 3) := by decide +kernel
theorem dX3_makeTour_70 : decode cX3_makeTour 70 = .ok (.aload_n 3, 1) := by decide +kernel
theorem dX3_makeTour_71 : decode cX3_makeTour 71 = .ok (.invokevirtual 170, 3) := by decide +kernel
theorem dX3_makeTour_74 : decode cX3_makeTour 74 = .ok (.iload_n 1, 1) := by decide +kernel
theorem dX3_makeTour_75 : decode cX3_makeTour 75 = .ok (.iconst 4, 1) := by decide +kernel
theorem dX3_makeTour_76 : decode cX3_makeTour 76 = .ok (.imul, 1) := by decide +kernel
theorem dX3_makeTour_77 : decode cX3_makeTour 77 = .ok (.istore 4, 2) := by decide +kernel
theorem dX3_makeTour_79 : decode cX3_makeTour 79 = .ok (.aload_n 0, 1) := by decide +kernel
theorem dX3_makeTour_80 : decode cX3_makeTour 80 = .ok (.getfield 27, 3) := by decide +kernel
theorem dX3_makeTour_83 : decode cX3_makeTour 83 = .ok (.iload 4, 2) := by decide +kernel
theorem dX3_makeTour_85 : decode cX3_makeTour 85 = .ok (.iconst 0, 1) := by decide +kernel
theorem dX3_makeTour_86 : decode cX3_makeTour 86 = .ok (.iadd, 1) := by decide +kernel
theorem dX3_makeTour_87 : decode cX3_makeTour 87 = .ok (.dup2, 1) := by decide +kernel
theorem dX3_makeTour_88 : decode cX3_makeTour 88 = .ok (.laload, 1) := by decide +kernel
theorem dX3_makeTour_89 : decode cX3_makeTour 89 = .ok (.aload_n 3, 1) := by decide +kernel
theorem dX3_makeTour_90 : decode cX3_makeTour 90 = .ok (.getfield 233, 3) := by decide +kernel
theorem dX3_makeTour_93 : decode cX3_makeTour 93 = .ok (.i2l, 1) := by decide +kernel
theorem dX3_makeTour_94 : decode cX3_makeTour 94 = .ok (.ladd, 1) := by decide +kernel
theorem dX3_makeTour_95 : decode cX3_makeTour 95 = .ok (.lastore, 1) := by decide +kernel
theorem dX3_makeTour_96 : decode cX3_makeTour 96 = .ok (.aload_n 0, 1) := by decide +kernel
theorem dX3_makeTour_97 : decode cX3_makeTour 97 = .ok (.getfield 27, 3) := by decide +kernel
theorem dX3_makeTour_100 : decode cX3_makeTour 100 = .ok (.iload 4, 2) := by decide +kernel
theorem dX3_makeTour_102 : decode cX3_makeTour 102 = .ok (.iconst 1, 1) := by decide +kernel
theorem dX3_makeTour_103 : decode cX3_makeTour 103 = .ok (.iadd, 1) := by decide +kernel
theorem dX3_makeTour_104 : decode cX3_makeTour 104 = .ok (.dup2, 1) := by decide +kernel
theorem dX3_makeTour_105 : decode cX3_makeTour 105 = .ok (.laload, 1) := by decide +kernel
theorem dX3_makeTour_106 : decode cX3_makeTour 106 = .ok (.aload_n 3, 1) := by decide +kernel
theorem dX3_makeTour_107 : decode cX3_makeTour 107 = .ok (.getfield 236, 3) := by decide +kernel
theorem dX3_makeTour_110 : decode cX3_makeTour 110 = .ok (.i2l, 1) := by decide +kernel
theorem dX3_makeTour_111 : decode cX3_makeTour 111 = .ok (.ladd, 1) := by decide +kernel
theorem dX3_makeTour_112 : decode cX3_makeTour 112 = .ok (.lastore, 1) := by decide +kernel
theorem dX3_makeTour_113 : decode cX3_makeTour 113 = .ok (.aload_n 0, 1) := by decide +kernel
theorem dX3_makeTour_114 : decode cX3_makeTour 114 = .ok (.getfield 27, 3) := by decide +kernel
theorem dX3_makeTour_117 : decode cX3_makeTour 117 = .ok (.iload 4, 2) := by decide +kernel
theorem dX3_makeTour_119 : decode cX3_makeTour 119 = .ok (.iconst 2, 1) := by decide +kernel
theorem dX3_makeTour_120 : decode cX3_makeTour 120 = .ok (.iadd, 1) := by decide +kernel
theorem dX3_makeTour_121 : decode cX3_makeTour 121 = .ok (.dup2, 1) := by decide +kernel
theorem dX3_makeTour_122 : decode cX3_makeTour 122 = .ok (.laload, 1) := by decide +kernel
theorem dX3_makeTour_123 : decode cX3_makeTour 123 = .ok (.aload_n 3, 1) := by decide +kernel
theorem dX3_makeTour_124 : decode cX3_makeTour 124 = .ok (.getfield 173, 3) := by decide +kernel
theorem dX3_makeTour_127 : decode cX3_makeTour 127 = .ok (.i2l, 1) := by decide +kernel
theorem dX3_makeTour_128 : decode cX3_makeTour 128 = .ok (.ladd, 1) := by decide +kernel
theorem dX3_makeTour_129 : decode cX3_makeTour 129 = .ok (.lastore, 1) := by decide +kernel
theorem dX3_makeTour_130 : decode cX3_makeTour 130 = .ok (.aload_n 0, 1) := by decide +kernel
theorem dX3_makeTour_131 : decode cX3_makeTour 131 = .ok (.getfield 27, 3) := by decide +kernel
theorem dX3_makeTour_134 : decode cX3_makeTour 134 = .ok (.iload 4, 2) := by decide +kernel
theorem dX3_makeTour_136 : decode cX3_makeTour 136 = .ok (.iconst 3, 1) := by decide +kernel
theorem dX3_makeTour_137 : decode cX3_makeTour 137 = .ok (.iadd, 1) := by decide +kernel
theorem dX3_makeTour_138 : decode cX3_makeTour 138 = .ok (.dup2, 1) := by decide +kernel
theorem dX3_makeTour_139 : decode cX3_makeTour 139 = .ok (.laload, 1) := by decide +kernel
theorem dX3_makeTour_140 : decode cX3_makeTour 140 = .ok (.lconst 1, 1) := by decide +kernel
theorem dX3_makeTour_141 : decode cX3_makeTour 141 = .ok (.ladd, 1) := by decide +kernel
theorem dX3_makeTour_142 : decode cX3_makeTour 142 = .ok (.lastore, 1) := by decide +kernel
theorem dX3_makeTour_143 : decode cX3_makeTour 143 = .ok (.aload_n 3, 1) := by decide +kernel
theorem dX3_makeTour_144 : decode cX3_makeTour 144 = .ok (.getfield 173, 3) := by decide +kernel
theorem dX3_makeTour_147 : decode cX3_makeTour 147 = .ok (.ireturn, 1) := by decide +kernel
set_option maxRecDepth 20000 in
theorem ggX3_mixRegion_X3_mix : GoodIn wsX3_mixRegion wsX3_mix := goodIn_r _ [5, 6] (by decide +kernel) (by decide +kernel)
set_option maxRecDepth 20000 in
theorem gX3_mixRegion_X3_mix : GoodIn wsX3_mixRegion (va_wsS RX3 190 yX3_mix wsX3_mix) := goodIn_app (goodIn_of _ (by decide +kernel)) ggX3_mixRegion_X3_mix
set_option maxRecDepth 20000 in
theorem ggX3_mixRegion_X1_between : GoodIn wsX3_mixRegion wsX1_between := goodIn_r _ [11, 12, 21, 22, 23] (by decide +kernel) (by decide +kernel)
set_option maxRecDepth 20000 in
theorem gX3_mixRegion_X1_between : GoodIn wsX3_mixRegion (wsV RX3 72 RX1 yX1_between wsX1_between) := goodIn_app (goodIn_of _ (by decide +kernel)) ggX3_mixRegion_X1_between
theorem dX3_mixRegion_0 : decode cX3_mixRegion 0 = .ok (.lload_n 1, 1) := by decide +kernel
theorem dX3_mixRegion_1 : decode cX3_mixRegion 1 = .ok (.aload_n 0, 1) := by decide +kernel
theorem dX3_mixRegion_2 : decode cX3_mixRegion 2 = .ok (.getfield 12, 3) := by decide +kernel
theorem dX3_mixRegion_5 : decode cX3_mixRegion 5 = .ok (.getfield 45, 3) := by decide +kernel
theorem dX3_mixRegion_8 : decode cX3_mixRegion 8 = .ok (.i2l, 1) := by decide +kernel
theorem dX3_mixRegion_9 : decode cX3_mixRegion 9 = .ok (.invokestatic 190, 3) := by decide +kernel
theorem dX3_mixRegion_12 : decode cX3_mixRegion 12 = .ok (.lstore_n 3, 1) := by decide +kernel
theorem dX3_mixRegion_13 : decode cX3_mixRegion 13 = .ok (.iconst 0, 1) := by decide +kernel
theorem dX3_mixRegion_14 : decode cX3_mixRegion 14 = .ok (.istore 5, 2) := by decide +kernel
theorem dX3_mixRegion_16 : decode cX3_mixRegion 16 = .ok (.iload 5, 2) := by decide +kernel
theorem dX3_mixRegion_18 : decode cX3_mixRegion 18 = .ok (.aload_n 0, 1) := by decide +kernel
theorem dX3_mixRegion_19 : decode cX3_mixRegion 19 = .ok (.getfield 12, 3) := by decide +kernel
theorem dX3_mixRegion_22 : decode cX3_mixRegion 22 = .ok (.getfield 45, 3) := by decide +kernel
theorem dX3_mixRegion_25 : decode cX3_mixRegion 25 = .ok (.if_icmp .ge 50, 3) := by decide +kernel
theorem dX3_mixRegion_28 : decode cX3_mixRegion 28 = .ok (.iload 5, 2) := by decide +kernel
theorem dX3_mixRegion_30 : decode cX3_mixRegion 30 = .ok (.iconst 1, 1) := by decide +kernel
theorem dX3_mixRegion_31 : decode cX3_mixRegion 31 = .ok (.iadd, 1) := by decide +kernel
theorem dX3_mixRegion_32 : decode cX3_mixRegion 32 = .ok (.istore 6, 2) := by decide +kernel
theorem dX3_mixRegion_34 : decode cX3_mixRegion 34 = .ok (.iload 6, 2) := by decide +kernel
theorem dX3_mixRegion_36 : decode cX3_mixRegion 36 = .ok (.aload_n 0, 1) := by decide +kernel
theorem dX3_mixRegion_37 : decode cX3_mixRegion 37 = .ok (.getfield 12, 3) := by decide +kernel
theorem dX3_mixRegion_40 : decode cX3_mixRegion 40 = .ok (.getfield 45, 3) := by decide +kernel
theorem dX3_mixRegion_43 : decode cX3_mixRegion 43 = .ok (.if_icmp .ge 26, 3) := by decide +kernel
theorem dX3_mixRegion_46 : decode cX3_mixRegion 46 = .ok (.lload_n 3, 1) := by decide +kernel
theorem dX3_mixRegion_47 : decode cX3_mixRegion 47 = .ok (.aload_n 0, 1) := by decide +kernel
theorem dX3_mixRegion_48 : decode cX3_mixRegion 48 = .ok (.getfield 12, 3) := by decide +kernel
theorem dX3_mixRegion_51 : decode cX3_mixRegion 51 = .ok (.iload 5, 2) := by decide +kernel
theorem dX3_mixRegion_53 : decode cX3_mixRegion 53 = .ok (.iload 6, 2) := by decide +kernel
theorem dX3_mixRegion_55 : decode cX3_mixRegion 55 = .ok (.invokevirtual 72, 3) := by decide +kernel
theorem dX3_mixRegion_58 : decode cX3_mixRegion 58 = .ok (.i2l, 1) := by decide +kernel
theorem dX3_mixRegion_59 : decode cX3_mixRegion 59 = .ok (.invokestatic 190, 3) := by decide +kernel
theorem dX3_mixRegion_62 : decode cX3_mixRegion 62 = .ok (.lstore_n 3, 1) := by decide +kernel
theorem dX3_mixRegion_63 : decode cX3_mixRegion 63 = .ok (.iinc 6 1, 3) := by decide +kernel
theorem dX3_mixRegion_66 : decode cX3_mixRegion 66 = .ok (.goto (-32), 3) := by decide +kernel
theorem dX3_mixRegion_69 : decode cX3_mixRegion 69 = .ok (.iinc 5 1, 3) := by decide +kernel
theorem dX3_mixRegion_72 : decode cX3_mixRegion 72 = .ok (.goto (-56), 3) := by decide +kernel
theorem dX3_mixRegion_75 : decode cX3_mixRegion 75 = .ok (.iconst 0, 1) := by decide +kernel
theorem dX3_mixRegion_76 : decode cX3_mixRegion 76 = .ok (.istore 5, 2) := by decide +kernel
theorem dX3_mixRegion_78 : decode cX3_mixRegion 78 = .ok (.iload 5, 2) := by decide +kernel
theorem dX3_mixRegion_80 : decode cX3_mixRegion 80 = .ok (.aload_n 0, 1) := by decide +kernel
theorem dX3_mixRegion_81 : decode cX3_mixRegion 81 = .ok (.getfield 12, 3) := by decide +kernel
theorem dX3_mixRegion_84 : decode cX3_mixRegion 84 = .ok (.getfield 45, 3) := by decide +kernel
theorem dX3_mixRegion_87 : decode cX3_mixRegion 87 = .ok (.if_icmp .ge 25, 3) := by decide +kernel
theorem dX3_mixRegion_90 : decode cX3_mixRegion 90 = .ok (.lload_n 3, 1) := by decide +kernel
theorem dX3_mixRegion_91 : decode cX3_mixRegion 91 = .ok (.aload_n 0, 1) := by decide +kernel
theorem dX3_mixRegion_92 : decode cX3_mixRegion 92 = .ok (.getfield 12, 3) := by decide +kernel
theorem dX3_mixRegion_95 : decode cX3_mixRegion 95 = .ok (.getfield 239, 3) := by decide +kernel
theorem dX3_mixRegion_98 : decode cX3_mixRegion 98 = .ok (.iload 5, 2) := by decide +kernel
theorem dX3_mixRegion_100 : decode cX3_mixRegion 100 = .ok (.iaload, 1) := by decide +kernel
theorem dX3_mixRegion_101 : decode cX3_mixRegion 101 = .ok (.i2l, 1) := by decide +kernel
theorem dX3_mixRegion_102 : decode cX3_mixRegion 102 = .ok (.invokestatic 190, 3) := by decide +kernel
theorem dX3_mixRegion_105 : decode cX3_mixRegion 105 = .ok (.lstore_n 3, 1) := by decide +kernel
theorem dX3_mixRegion_106 : decode cX3_mixRegion 106 = .ok (.iinc 5 1, 3) := by decide +kernel
theorem dX3_mixRegion_109 : decode cX3_mixRegion 109 = .ok (.goto (-31), 3) := by decide +kernel
theorem dX3_mixRegion_112 : decode cX3_mixRegion 112 = .ok (.lload_n 3, 1) := by decide +kernel
theorem dX3_mixRegion_113 : decode cX3_mixRegion 113 = .ok (.lreturn, 1) := by decide +kernel
set_option maxRecDepth 20000 in
theorem ggX3_mixBins_Jx4a65c_size_8abf5 : GoodIn wsX3_mixBins wsJx4a65c_size_8abf5 := goodIn_r _ [7, 8, 52, 53, 54] (by decide +kernel) (by decide +kernel)
set_option maxRecDepth 20000 in
theorem gX3_mixBins_Jx4a65c_size_8abf5 : GoodIn wsX3_mixBins (wsV RX3 108 RJx4a65c yJx4a65c_size_8abf5 wsJx4a65c_size_8abf5) := goodIn_app (goodIn_of _ (by decide +kernel)) ggX3_mixBins_Jx4a65c_size_8abf5
set_option maxRecDepth 20000 in
theorem ggX3_mixBins_X3_mix : GoodIn wsX3_mixBins wsX3_mix := goodIn_r _ [12, 13] (by decide +kernel) (by decide +kernel)
set_option maxRecDepth 20000 in
theorem gX3_mixBins_X3_mix : GoodIn wsX3_mixBins (va_wsS RX3 190 yX3_mix wsX3_mix) := goodIn_app (goodIn_of _ (by decide +kernel)) ggX3_mixBins_X3_mix
set_option maxRecDepth 20000 in
theorem ggX3_mixBins_Jx4a65c_get_915e3 : GoodIn wsX3_mixBins wsJx4a65c_get_915e3 := goodIn_r _ [17, 8, 18, 19, 20, 21, 22, 23, 24, 25, 26, 27, 28, 6, 29, 30, 52, 53, 54] (by decide +kernel) (by decide +kernel)
set_option maxRecDepth 20000 in
theorem gX3_mixBins_Jx4a65c_get_915e3 : GoodIn wsX3_mixBins (wsV RX3 124 RJx4a65c yJx4a65c_get_915e3 wsJx4a65c_get_915e3) := goodIn_app (goodIn_of _ (by decide +kernel)) ggX3_mixBins_Jx4a65c_get_915e3
set_option maxRecDepth 20000 in
theorem ggX3_mixBins_X0_fact : GoodIn wsX3_mixBins wsX0_fact := goodIn_r _ [35, 36, 37, 38, 39, 40, 41, 42, 43, 55, 56, 57, 58, 59, 60, 61, 62, 63, 64] (by decide +kernel) (by decide +kernel)
set_option maxRecDepth 20000 in
theorem gX3_mixBins_X0_fact : GoodIn wsX3_mixBins (wsV RX3 137 RX0 yX0_fact wsX0_fact) := goodIn_app (goodIn_of _ (by decide +kernel)) ggX3_mixBins_X0_fact
theorem dX3_mixBins_0 : decode cX3_mixBins 0 = .ok (.lload_n 1, 1) := by decide +kernel
theorem dX3_mixBins_1 : decode cX3_mixBins 1 = .ok (.aload_n 0, 1) := by decide +kernel
theorem dX3_mixBins_2 : decode cX3_mixBins 2 = .ok (.getfield 19, 3) := by decide +kernel
theorem dX3_mixBins_5 : decode cX3_mixBins 5 = .ok (.invokevirtual 108, 3) := by decide +kernel
theorem dX3_mixBins_8 : decode cX3_mixBins 8 = .ok (.i2l, 1) := by decide +kernel
theorem dX3_mixBins_9 : decode cX3_mixBins 9 = .ok (.invokestatic 190, 3) := by decide +kernel
theorem dX3_mixBins_12 : decode cX3_mixBins 12 = .ok (.lstore_n 3, 1) := by decide +kernel
theorem dX3_mixBins_13 : decode cX3_mixBins 13 = .ok (.iconst 0, 1) := by decide +kernel
theorem dX3_mixBins_14 : decode cX3_mixBins 14 = .ok (.istore 5, 2) := by decide +kernel
theorem dX3_mixBins_16 : decode cX3_mixBins 16 = .ok (.iload 5, 2) := by decide +kernel
theorem dX3_mixBins_18 : decode cX3_mixBins 18 = .ok (.aload_n 0, 1) := by decide +kernel
theorem dX3_mixBins_19 : decode cX3_mixBins 19 = .ok (.getfield 19, 3) := by decide +kernel
theorem dX3_mixBins_22 : decode cX3_mixBins 22 = .ok (.invokevirtual 108, 3) := by decide +kernel
theorem dX3_mixBins_25 : decode cX3_mixBins 25 = .ok (.if_icmp .ge 48, 3) := by decide +kernel
theorem dX3_mixBins_28 : decode cX3_mixBins 28 = .ok (.iconst 0, 1) := by decide +kernel
theorem dX3_mixBins_29 : decode cX3_mixBins 29 = .ok (.istore 6, 2) := by decide +kernel
theorem dX3_mixBins_31 : decode cX3_mixBins 31 = .ok (.iload 6, 2) := by decide +kernel
theorem dX3_mixBins_33 : decode cX3_mixBins 33 = .ok (.bipush 8, 2) := by decide +kernel
theorem dX3_mixBins_35 : decode cX3_mixBins 35 = .ok (.if_icmp .ge 32, 3) := by decide +kernel
theorem dX3_mixBins_38 : decode cX3_mixBins 38 = .ok (.lload_n 3, 1) := by decide +kernel
theorem dX3_mixBins_39 : decode cX3_mixBins 39 = .ok (.aload_n 0, 1) := by decide +kernel
theorem dX3_mixBins_40 : decode cX3_mixBins 40 = .ok (.getfield 19, 3) := by decide +kernel
theorem dX3_mixBins_43 : decode cX3_mixBins 43 = .ok (.iload 5, 2) := by decide +kernel
theorem dX3_mixBins_45 : decode cX3_mixBins 45 = .ok (.invokevirtual 124, 3) := by decide +kernel
theorem dX3_mixBins_48 : decode cX3_mixBins 48 = .ok (.checkcast 113, 3) := by decide +kernel
theorem dX3_mixBins_51 : decode cX3_mixBins 51 = .ok (.iload 6, 2) := by decide +kernel
theorem dX3_mixBins_53 : decode cX3_mixBins 53 = .ok (.invokevirtual 137, 3) := by decide +kernel
theorem dX3_mixBins_56 : decode cX3_mixBins 56 = .ok (.i2l, 1) := by decide +kernel
theorem dX3_mixBins_57 : decode cX3_mixBins 57 = .ok (.invokestatic 190, 3) := by decide +kernel
theorem dX3_mixBins_60 : decode cX3_mixBins 60 = .ok (.lstore_n 3, 1) := by decide +kernel
theorem dX3_mixBins_61 : decode cX3_mixBins 61 = .ok (.iinc 6 1, 3) := by decide +kernel
theorem dX3_mixBins_64 : decode cX3_mixBins 64 = .ok (.goto (-33), 3) := by decide +kernel
theorem dX3_mixBins_67 : decode cX3_mixBins 67 = .ok (.iinc 5 1, 3) := by decide +kernel
theorem dX3_mixBins_70 : decode cX3_mixBins 70 = .ok (.goto (-54), 3) := by decide +kernel
theorem dX3_mixBins_73 : decode cX3_mixBins 73 = .ok (.lload_n 3, 1) := by decide +kernel
theorem dX3_mixBins_74 : decode cX3_mixBins 74 = .ok (.lreturn, 1) := by decide +kernel
set_option maxRecDepth 20000 in
theorem ggX3_mixTotals_X3_mix : GoodIn wsX3_mixTotals wsX3_mix := goodIn_r _ [6, 7] (by decide +kernel) (by decide +kernel)
set_option maxRecDepth 20000 in
theorem gX3_mixTotals_X3_mix : GoodIn wsX3_mixTotals (va_wsS RX3 190 yX3_mix wsX3_mix) := goodIn_app (goodIn_of _ (by decide +kernel)) ggX3_mixTotals_X3_mix
theorem dX3_mixTotals_0 : decode cX3_mixTotals 0 = .ok (.lload_n 1, 1) := by decide +kernel
theorem dX3_mixTotals_1 : decode cX3_mixTotals 1 = .ok (.lstore_n 3, 1) := by decide +kernel
theorem dX3_mixTotals_2 : decode cX3_mixTotals 2 = .ok (.iconst 0, 1) := by decide +kernel
theorem dX3_mixTotals_3 : decode cX3_mixTotals 3 = .ok (.istore 5, 2) := by decide +kernel
theorem dX3_mixTotals_5 : decode cX3_mixTotals 5 = .ok (.iload 5, 2) := by decide +kernel
theorem dX3_mixTotals_7 : decode cX3_mixTotals 7 = .ok (.iconst 3, 1) := by decide +kernel
theorem dX3_mixTotals_8 : decode cX3_mixTotals 8 = .ok (.if_icmp .ge 53, 3) := by decide +kernel
theorem dX3_mixTotals_11 : decode cX3_mixTotals 11 = .ok (.iconst 0, 1) := by decide +kernel
theorem dX3_mixTotals_12 : decode cX3_mixTotals 12 = .ok (.istore 6, 2) := by decide +kernel
theorem dX3_mixTotals_14 : decode cX3_mixTotals 14 = .ok (.iload 6, 2) := by decide +kernel
theorem dX3_mixTotals_16 : decode cX3_mixTotals 16 = .ok (.iconst 4, 1) := by decide +kernel
theorem dX3_mixTotals_17 : decode cX3_mixTotals 17 = .ok (.if_icmp .ge 26, 3) := by decide +kernel
theorem dX3_mixTotals_20 : decode cX3_mixTotals 20 = .ok (.lload_n 3, 1) := by decide +kernel
theorem dX3_mixTotals_21 : decode cX3_mixTotals 21 = .ok (.aload_n 0, 1) := by decide +kernel
theorem dX3_mixTotals_22 : decode cX3_mixTotals 22 = .ok (.getfield 27, 3) := by decide +kernel
theorem dX3_mixTotals_25 : decode cX3_mixTotals 25 = .ok (.iload 5, 2) := by decide +kernel
theorem dX3_mixTotals_27 : decode cX3_mixTotals 27 = .ok (.iconst 4, 1) := by decide +kernel
theorem dX3_mixTotals_28 : decode cX3_mixTotals 28 = .ok (.imul, 1) := by decide +kernel
theorem dX3_mixTotals_29 : decode cX3_mixTotals 29 = .ok (.iload 6, 2) := by decide +kernel
theorem dX3_mixTotals_31 : decode cX3_mixTotals 31 = .ok (.iadd, 1) := by decide +kernel
theorem dX3_mixTotals_32 : decode cX3_mixTotals 32 = .ok (.laload, 1) := by decide +kernel
theorem dX3_mixTotals_33 : decode cX3_mixTotals 33 = .ok (.invokestatic 190, 3) := by decide +kernel
theorem dX3_mixTotals_36 : decode cX3_mixTotals 36 = .ok (.lstore_n 3, 1) := by decide +kernel
theorem dX3_mixTotals_37 : decode cX3_mixTotals 37 = .ok (.iinc 6 1, 3) := by decide +kernel
theorem dX3_mixTotals_40 : decode cX3_mixTotals 40 = .ok (.goto (-26), 3) := by decide +kernel
theorem dX3_mixTotals_43 : decode cX3_mixTotals 43 = .ok (.lload_n 3, 1) := by decide +kernel
theorem dX3_mixTotals_44 : decode cX3_mixTotals 44 = .ok (.aload_n 0, 1) := by decide +kernel
theorem dX3_mixTotals_45 : decode cX3_mixTotals 45 = .ok (.getfield 31, 3) := by decide +kernel
theorem dX3_mixTotals_48 : decode cX3_mixTotals 48 = .ok (.iload 5, 2) := by decide +kernel
theorem dX3_mixTotals_50 : decode cX3_mixTotals 50 = .ok (.laload, 1) := by decide +kernel
theorem dX3_mixTotals_51 : decode cX3_mixTotals 51 = .ok (.invokestatic 190, 3) := by decide +kernel
theorem dX3_mixTotals_54 : decode cX3_mixTotals 54 = .ok (.lstore_n 3, 1) := by decide +kernel
theorem dX3_mixTotals_55 : decode cX3_mixTotals 55 = .ok (.iinc 5 1, 3) := by decide +kernel
theorem dX3_mixTotals_58 : decode cX3_mixTotals 58 = .ok (.goto (-53), 3) := by decide +kernel
theorem dX3_mixTotals_61 : decode cX3_mixTotals 61 = .ok (.lload_n 3, 1) := by decide +kernel
theorem dX3_mixTotals_62 : decode cX3_mixTotals 62 = .ok (.lreturn, 1) := by decide +kernel
theorem dX3_mix_0 : decode cX3_mix 0 = .ok (.lload_n 0, 1) := by decide +kernel
theorem dX3_mix_1 : decode cX3_mix 1 = .ok (.ldc2_w 242, 3) := by decide +kernel
theorem dX3_mix_4 : decode cX3_mix 4 = .ok (.lmul, 1) := by decide +kernel
theorem dX3_mix_5 : decode cX3_mix 5 = .ok (.lload_n 2, 1) := by decide +kernel
theorem dX3_mix_6 : decode cX3_mix 6 = .ok (.ladd, 1) := by decide +kernel
theorem dX3_mix_7 : decode cX3_mix 7 = .ok (.lreturn, 1) := by decide +kernel
theorem dX4_init_0 : decode cX4_init 0 = .ok (.aload_n 0, 1) := by decide +kernel
theorem dX4_init_1 : decode cX4_init 1 = .ok (.invokespecial 1, 3) := by decide +kernel
theorem dX4_init_4 : decode cX4_init 4 = .ok (.aload_n 0, 1) := by decide +kernel
theorem dX4_init_5 : decode cX4_init 5 = .ok (.iconst 1, 1) := by decide +kernel
theorem dX4_init_6 : decode cX4_init 6 = .ok (.putfield 7, 3) := by decide +kernel
theorem dX4_init_9 : decode cX4_init 9 = .ok (.aload_n 0, 1) := by decide +kernel
theorem dX4_init_10 : decode cX4_init 10 = .ok (.bipush 100, 2) := by decide +kernel
theorem dX4_init_12 : decode cX4_init 12 = .ok (.newarray .int, 2) := by decide +kernel
theorem dX4_init_14 : decode cX4_init 14 = .ok (.putfield 13, 3) := by decide +kernel
theorem dX4_init_17 : decode cX4_init 17 = .ok (.aload_n 0, 1) := by decide +kernel
theorem dX4_init_18 : decode cX4_init 18 = .ok (.bipush 10, 2) := by decide +kernel
theorem dX4_init_20 : decode cX4_init 20 = .ok (.newarray .int, 2) := by decide +kernel
theorem dX4_init_22 : decode cX4_init 22 = .ok (.putfield 17, 3) := by decide +kernel
theorem dX4_init_25 : decode cX4_init 25 = .ok (.aload_n 0, 1) := by decide +kernel
theorem dX4_init_26 : decode cX4_init 26 = .ok (.sipush 400, 3) := by decide +kernel
theorem dX4_init_29 : decode cX4_init 29 = .ok (.newarray .boolean, 2) := by decide +kernel
theorem dX4_init_31 : decode cX4_init 31 = .ok (.putfield 20, 3) := by decide +kernel
theorem dX4_init_34 : decode cX4_init 34 = .ok (.aload_n 0, 1) := by decide +kernel
theorem dX4_init_35 : decode cX4_init 35 = .ok (.bipush 16, 2) := by decide +kernel
theorem dX4_init_37 : decode cX4_init 37 = .ok (.newarray .int, 2) := by decide +kernel
theorem dX4_init_39 : decode cX4_init 39 = .ok (.putfield 24, 3) := by decide +kernel
theorem dX4_init_42 : decode cX4_init 42 = .ok (.aload_n 0, 1) := by decide +kernel
theorem dX4_init_43 : decode cX4_init 43 = .ok (.bipush 16, 2) := by decide +kernel
theorem dX4_init_45 : decode cX4_init 45 = .ok (.newarray .int, 2) := by decide +kernel
theorem dX4_init_47 : decode cX4_init 47 = .ok (.putfield 27, 3) := by decide +kernel
theorem dX4_init_50 : decode cX4_init 50 = .ok (.aload_n 0, 1) := by decide +kernel
theorem dX4_init_51 : decode cX4_init 51 = .ok (.bipush 16, 2) := by decide +kernel
theorem dX4_init_53 : decode cX4_init 53 = .ok (.newarray .int, 2) := by decide +kernel
theorem dX4_init_55 : decode cX4_init 55 = .ok (.putfield 30, 3) := by decide +kernel
theorem dX4_init_58 : decode cX4_init 58 = .ok (.aload_n 0, 1) := by decide +kernel
theorem dX4_init_59 : decode cX4_init 59 = .ok (.bipush 16, 2) := by decide +kernel
theorem dX4_init_61 : decode cX4_init 61 = .ok (.newarray .int, 2) := by decide +kernel
theorem dX4_init_63 : decode cX4_init 63 = .ok (.putfield 33, 3) := by decide +kernel
theorem dX4_init_66 : decode cX4_init 66 = .ok (.aload_n 0, 1) := by decide +kernel
theorem dX4_init_67 : decode cX4_init 67 = .ok (.bipush 16, 2) := by decide +kernel
theorem dX4_init_69 : decode cX4_init 69 = .ok (.newarray .int, 2) := by decide +kernel
theorem dX4_init_71 : decode cX4_init 71 = .ok (.putfield 36, 3) := by decide +kernel
theorem dX4_init_74 : decode cX4_init 74 = .ok (.aload_n 0, 1) := by decide +kernel
theorem dX4_init_75 : decode cX4_init 75 = .ok (.bipush 16, 2) := by decide +kernel
theorem dX4_init_77 : decode cX4_init 77 = .ok (.newarray .int, 2) := by decide +kernel
theorem dX4_init_79 : decode cX4_init 79 = .ok (.putfield 39, 3) := by decide +kernel
theorem dX4_init_82 : decode cX4_init 82 = .ok (.aload_n 0, 1) := by decide +kernel
theorem dX4_init_83 : decode cX4_init 83 = .ok (.bipush 16, 2) := by decide +kernel
theorem dX4_init_85 : decode cX4_init 85 = .ok (.newarray .int, 2) := by decide +kernel
theorem dX4_init_87 : decode cX4_init 87 = .ok (.putfield 42, 3) := by decide +kernel
theorem dX4_init_90 : decode cX4_init 90 = .ok (.aload_n 0, 1) := by decide +kernel
theorem dX4_init_91 : decode cX4_init 91 = .ok (.bipush 16, 2) := by decide +kernel
theorem dX4_init_93 : decode cX4_init 93 = .ok (.newarray .int, 2) := by decide +kernel
theorem dX4_init_95 : decode cX4_init 95 = .ok (.putfield 45, 3) := by decide +kernel
theorem dX4_init_98 : decode cX4_init 98 = .ok (.aload_n 0, 1) := by decide +kernel
theorem dX4_init_99 : decode cX4_init 99 = .ok (.bipush 16, 2) := by decide +kernel
theorem dX4_init_101 : decode cX4_init 101 = .ok (.newarray .int, 2) := by decide +kernel
theorem dX4_init_103 : decode cX4_init 103 = .ok (.putfield 48, 3) := by decide +kernel
theorem dX4_init_106 : decode cX4_init 106 = .ok (.aload_n 0, 1) := by decide +kernel
theorem dX4_init_107 : decode cX4_init 107 = .ok (.bipush 16, 2) := by decide +kernel
theorem dX4_init_109 : decode cX4_init 109 = .ok (.newarray .boolean, 2) := by decide +kernel
theorem dX4_init_111 : decode cX4_init 111 = .ok (.putfield 51, 3) := by decide +kernel
theorem dX4_init_114 : decode cX4_init 114 = .ok (.aload_n 0, 1) := by decide +kernel
theorem dX4_init_115 : decode cX4_init 115 = .ok (.bipush 12, 2) := by decide +kernel
theorem dX4_init_117 : decode cX4_init 117 = .ok (.newarray .long, 2) := by decide +kernel
theorem dX4_init_119 : decode cX4_init 119 = .ok (.putfield 54, 3) := by decide +kernel
theorem dX4_init_122 : decode cX4_init 122 = .ok (.aload_n 0, 1) := by decide +kernel
theorem dX4_init_123 : decode cX4_init 123 = .ok (.iconst 3, 1) := by decide +kernel
theorem dX4_init_124 : decode cX4_init 124 = .ok (.newarray .long, 2) := by decide +kernel
theorem dX4_init_126 : decode cX4_init 126 = .ok (.putfield 58, 3) := by decide +kernel
theorem dX4_init_129 : decode cX4_init 129 = .ok (.aload_n 0, 1) := by decide +kernel
theorem dX4_init_130 : decode cX4_init 130 = .ok (.bipush 16, 2) := by decide +kernel
theorem dX4_init_132 : decode cX4_init 132 = .ok (.newarray .int, 2) := by decide +kernel
theorem dX4_init_134 : decode cX4_init 134 = .ok (.putfield 61, 3) := by decide +kernel
theorem dX4_init_137 : decode cX4_init 137 = .ok (.aload_n 0, 1) := by decide +kernel
theorem dX4_init_138 : decode cX4_init 138 = .ok (.getfield 17, 3) := by decide +kernel
theorem dX4_init_141 : decode cX4_init 141 = .ok (.iconst 0, 1) := by decide +kernel
theorem dX4_init_142 : decode cX4_init 142 = .ok (.bipush 7, 2) := by decide +kernel
theorem dX4_init_144 : decode cX4_init 144 = .ok (.iastore, 1) := by decide +kernel
theorem dX4_init_145 : decode cX4_init 145 = .ok (.iconst 0, 1) := by decide +kernel
theorem dX4_init_146 : decode cX4_init 146 = .ok (.istore_n 1, 1) := by decide +kernel
theorem dX4_init_147 : decode cX4_init 147 = .ok (.iload_n 1, 1) := by decide +kernel
theorem dX4_init_148 : decode cX4_init 148 = .ok (.bipush 100, 2) := by decide +kernel
theorem dX4_init_150 : decode cX4_init 150 = .ok (.if_icmp .ge 32, 3) := by decide +kernel
theorem dX4_init_153 : decode cX4_init 153 = .ok (.aload_n 0, 1) := by decide +kernel
theorem dX4_init_154 : decode cX4_init 154 = .ok (.getfield 13, 3) := by decide +kernel
theorem dX4_init_157 : decode cX4_init 157 = .ok (.iload_n 1, 1) := by decide +kernel
theorem dX4_init_158 : decode cX4_init 158 = .ok (.iload_n 1, 1) := by decide +kernel
theorem dX4_init_159 : decode cX4_init 159 = .ok (.bipush 10, 2) := by decide +kernel
theorem dX4_init_161 : decode cX4_init 161 = .ok (.idiv, 1) := by decide +kernel
theorem dX4_init_162 : decode cX4_init 162 = .ok (.iload_n 1, 1) := by decide +kernel
theorem dX4_init_163 : decode cX4_init 163 = .ok (.bipush 10, 2) := by decide +kernel
theorem dX4_init_165 : decode cX4_init 165 = .ok (.irem, 1) := by decide +kernel
theorem dX4_init_166 : decode cX4_init 166 = .ok (.if_icmp .ne 7, 3) := by decide +kernel
theorem dX4_init_169 : decode cX4_init 169 = .ok (.iconst 0, 1) := by decide +kernel
theorem dX4_init_170 : decode cX4_init 170 = .ok (.goto 5, 3) := by decide +kernel
theorem dX4_init_173 : decode cX4_init 173 = .ok (.bipush 30, 2) := by decide +kernel
theorem dX4_init_175 : decode cX4_init 175 = .ok (.iastore, 1) := by decide +kernel
theorem dX4_init_176 : decode cX4_init 176 = .ok (.iinc 1 1, 3) := by decide +kernel
theorem dX4_init_179 : decode cX4_init 179 = .ok (.goto (-32), 3) := by decide +kernel
theorem dX4_init_182 : decode cX4_init 182 = .ok (.return_, 1) := by decide +kernel
theorem dX4_thrown_0 : decode cX4_thrown 0 = .ok (.aload_n 0, 1) := by decide +kernel
theorem dX4_thrown_1 : decode cX4_thrown 1 = .ok (.getfield 64, 3) := by decide +kernel
theorem dX4_thrown_4 : decode cX4_thrown 4 = .ok (.ireturn, 1) := by decide +kernel
theorem dX4_fail_0 : decode cX4_fail 0 = .ok (.aload_n 0, 1) := by decide +kernel
theorem dX4_fail_1 : decode cX4_fail 1 = .ok (.iload_n 1, 1) := by decide +kernel
theorem dX4_fail_2 : decode cX4_fail 2 = .ok (.putfield 64, 3) := by decide +kernel
theorem dX4_fail_5 : decode cX4_fail 5 = .ok (.iconst 0, 1) := by decide +kernel
theorem dX4_fail_6 : decode cX4_fail 6 = .ok (.ireturn, 1) := by decide +kernel
theorem dX4_isIn_0 : decode cX4_isIn 0 = .ok (.iload_n 0, 1) := by decide +kernel
theorem dX4_isIn_1 : decode cX4_isIn 1 = .ok (.iload_n 1, 1) := by decide +kernel
theorem dX4_isIn_2 : decode cX4_isIn 2 = .ok (.if_icmp .lt 12, 3) := by decide +kernel
theorem dX4_isIn_5 : decode cX4_isIn 5 = .ok (.iload_n 0, 1) := by decide +kernel
theorem dX4_isIn_6 : decode cX4_isIn 6 = .ok (.iload_n 2, 1) := by decide +kernel
theorem dX4_isIn_7 : decode cX4_isIn 7 = .ok (.if_icmp .gt 7, 3) := by decide +kernel
theorem dX4_isIn_10 : decode cX4_isIn 10 = .ok (.iconst 1, 1) := by decide +kernel
theorem dX4_isIn_11 : decode cX4_isIn 11 = .ok (.goto 4, 3) := by decide +kernel
theorem dX4_isIn_14 : decode cX4_isIn 14 = .ok (.iconst 0, 1) := by decide +kernel
theorem dX4_isIn_15 : decode cX4_isIn 15 = .ok (.ireturn, 1) := by decide +kernel
set_option maxRecDepth 20000 in
theorem ggX4_isPlace_X4_isIn : GoodIn wsX4_isPlace wsX4_isIn := goodIn_r _ [5] (by decide +kernel) (by decide +kernel)
set_option maxRecDepth 20000 in
theorem gX4_isPlace_X4_isIn : GoodIn wsX4_isPlace (va_wsS RX4 67 yX4_isIn wsX4_isIn) := goodIn_app (goodIn_of _ (by decide +kernel)) ggX4_isPlace_X4_isIn
theorem dX4_isPlace_0 : decode cX4_isPlace 0 = .ok (.iload_n 1, 1) := by decide +kernel
theorem dX4_isPlace_1 : decode cX4_isPlace 1 = .ok (.iconst 0, 1) := by decide +kernel
theorem dX4_isPlace_2 : decode cX4_isPlace 2 = .ok (.aload_n 0, 1) := by decide +kernel
theorem dX4_isPlace_3 : decode cX4_isPlace 3 = .ok (.getfield 7, 3) := by decide +kernel
theorem dX4_isPlace_6 : decode cX4_isPlace 6 = .ok (.iconst 1, 1) := by decide +kernel
theorem dX4_isPlace_7 : decode cX4_isPlace 7 = .ok (.isub, 1) := by decide +kernel
theorem dX4_isPlace_8 : decode cX4_isPlace 8 = .ok (.invokestatic 67, 3) := by decide +kernel
theorem dX4_isPlace_11 : decode cX4_isPlace 11 = .ok (.ireturn, 1) := by decide +kernel
set_option maxRecDepth 20000 in
theorem ggX4_isKind_X4_isIn : GoodIn wsX4_isKind wsX4_isIn := goodIn_r _ [4] (by decide +kernel) (by decide +kernel)
set_option maxRecDepth 20000 in
theorem gX4_isKind_X4_isIn : GoodIn wsX4_isKind (va_wsS RX4 67 yX4_isIn wsX4_isIn) := goodIn_app (goodIn_of _ (by decide +kernel)) ggX4_isKind_X4_isIn
theorem dX4_isKind_0 : decode cX4_isKind 0 = .ok (.iload_n 0, 1) := by decide +kernel
theorem dX4_isKind_1 : decode cX4_isKind 1 = .ok (.iconst 0, 1) := by decide +kernel
theorem dX4_isKind_2 : decode cX4_isKind 2 = .ok (.iconst 2, 1) := by decide +kernel
theorem dX4_isKind_3 : decode cX4_isKind 3 = .ok (.invokestatic 67, 3) := by decide +kernel
theorem dX4_isKind_6 : decode cX4_isKind 6 = .ok (.ireturn, 1) := by decide +kernel
set_option maxRecDepth 20000 in
theorem ggX4_isBin_X4_isIn : GoodIn wsX4_isBin wsX4_isIn := goodIn_r _ [5] (by decide +kernel) (by decide +kernel)
set_option maxRecDepth 20000 in
theorem gX4_isBin_X4_isIn : GoodIn wsX4_isBin (va_wsS RX4 67 yX4_isIn wsX4_isIn) := goodIn_app (goodIn_of _ (by decide +kernel)) ggX4_isBin_X4_isIn
theorem dX4_isBin_0 : decode cX4_isBin 0 = .ok (.iload_n 1, 1) := by decide +kernel
theorem dX4_isBin_1 : decode cX4_isBin 1 = .ok (.iconst 0, 1) := by decide +kernel
theorem dX4_isBin_2 : decode cX4_isBin 2 = .ok (.aload_n 0, 1) := by decide +kernel
theorem dX4_isBin_3 : decode cX4_isBin 3 = .ok (.getfield 71, 3) := by decide +kernel
theorem dX4_isBin_6 : decode cX4_isBin 6 = .ok (.iconst 1, 1) := by decide +kernel
theorem dX4_isBin_7 : decode cX4_isBin 7 = .ok (.isub, 1) := by decide +kernel
theorem dX4_isBin_8 : decode cX4_isBin 8 = .ok (.invokestatic 67, 3) := by decide +kernel
theorem dX4_isBin_11 : decode cX4_isBin 11 = .ok (.ireturn, 1) := by decide +kernel
set_option maxRecDepth 20000 in
theorem ggX4_isCapacity_X4_isIn : GoodIn wsX4_isCapacity wsX4_isIn := goodIn_r _ [4] (by decide +kernel) (by decide +kernel)
set_option maxRecDepth 20000 in
theorem gX4_isCapacity_X4_isIn : GoodIn wsX4_isCapacity (va_wsS RX4 67 yX4_isIn wsX4_isIn) := goodIn_app (goodIn_of _ (by decide +kernel)) ggX4_isCapacity_X4_isIn
theorem dX4_isCapacity_0 : decode cX4_isCapacity 0 = .ok (.iload_n 0, 1) := by decide +kernel
theorem dX4_isCapacity_1 : decode cX4_isCapacity 1 = .ok (.bipush 50, 2) := by decide +kernel
theorem dX4_isCapacity_3 : decode cX4_isCapacity 3 = .ok (.sipush 5000, 3) := by decide +kernel
theorem dX4_isCapacity_6 : decode cX4_isCapacity 6 = .ok (.invokestatic 67, 3) := by decide +kernel
theorem dX4_isCapacity_9 : decode cX4_isCapacity 9 = .ok (.ireturn, 1) := by decide +kernel
theorem dX4_has_0 : decode cX4_has 0 = .ok (.iload_n 0, 1) := by decide +kernel
theorem dX4_has_1 : decode cX4_has 1 = .ok (.iload_n 1, 1) := by decide +kernel
theorem dX4_has_2 : decode cX4_has 2 = .ok (.ishr, 1) := by decide +kernel
theorem dX4_has_3 : decode cX4_has 3 = .ok (.iconst 1, 1) := by decide +kernel
theorem dX4_has_4 : decode cX4_has 4 = .ok (.iand, 1) := by decide +kernel
theorem dX4_has_5 : decode cX4_has 5 = .ok (.iconst 1, 1) := by decide +kernel
theorem dX4_has_6 : decode cX4_has 6 = .ok (.if_icmp .ne 7, 3) := by decide +kernel
theorem dX4_has_9 : decode cX4_has 9 = .ok (.iconst 1, 1) := by decide +kernel
theorem dX4_has_10 : decode cX4_has 10 = .ok (.goto 4, 3) := by decide +kernel
theorem dX4_has_13 : decode cX4_has 13 = .ok (.iconst 0, 1) := by decide +kernel
theorem dX4_has_14 : decode cX4_has 14 = .ok (.ireturn, 1) := by decide +kernel
theorem dX4_drive_0 : decode cX4_drive 0 = .ok (.aload_n 0, 1) := by decide +kernel
theorem dX4_drive_1 : decode cX4_drive 1 = .ok (.getfield 13, 3) := by decide +kernel
theorem dX4_drive_4 : decode cX4_drive 4 = .ok (.bipush 10, 2) := by decide +kernel
theorem dX4_drive_6 : decode cX4_drive 6 = .ok (.iload_n 1, 1) := by decide +kernel
theorem dX4_drive_7 : decode cX4_drive 7 = .ok (.imul, 1) := by decide +kernel
theorem dX4_drive_8 : decode cX4_drive 8 = .ok (.iload_n 2, 1) := by decide +kernel
theorem dX4_drive_9 : decode cX4_drive 9 = .ok (.iadd, 1) := by decide +kernel
theorem dX4_drive_10 : decode cX4_drive 10 = .ok (.iaload, 1) := by decide +kernel
theorem dX4_drive_11 : decode cX4_drive 11 = .ok (.ireturn, 1) := by decide +kernel
set_option maxRecDepth 20000 in
theorem ggX4_addPlace_X4_fail : GoodIn wsX4_addPlace wsX4_fail := goodIn_r _ [7, 1, 8, 9, 10, 11, 12, 13, 14, 15, 16, 17, 18, 19, 20, 21, 22, 23, 24, 25, 26, 27, 28] (by decide +kernel) (by decide +kernel)
set_option maxRecDepth 20000 in
theorem gX4_addPlace_X4_fail : GoodIn wsX4_addPlace (wsV RX4 74 RX4 yX4_fail wsX4_fail) := goodIn_app (goodIn_of _ (by decide +kernel)) ggX4_addPlace_X4_fail
theorem dX4_addPlace_0 : decode cX4_addPlace 0 = .ok (.aload_n 0, 1) := by decide +kernel
theorem dX4_addPlace_1 : decode cX4_addPlace 1 = .ok (.iconst 0, 1) := by decide +kernel
theorem dX4_addPlace_2 : decode cX4_addPlace 2 = .ok (.putfield 64, 3) := by decide +kernel
theorem dX4_addPlace_5 : decode cX4_addPlace 5 = .ok (.aload_n 0, 1) := by decide +kernel
theorem dX4_addPlace_6 : decode cX4_addPlace 6 = .ok (.getfield 7, 3) := by decide +kernel
theorem dX4_addPlace_9 : decode cX4_addPlace 9 = .ok (.bipush 10, 2) := by decide +kernel
theorem dX4_addPlace_11 : decode cX4_addPlace 11 = .ok (.if_icmp .ne 9, 3) := by decide +kernel
theorem dX4_addPlace_14 : decode cX4_addPlace 14 = .ok (.aload_n 0, 1) := by decide +kernel
theorem dX4_addPlace_15 : decode cX4_addPlace 15 = .ok (.iconst 1, 1) := by decide +kernel
theorem dX4_addPlace_16 : decode cX4_addPlace 16 = .ok (.invokevirtual 74, 3) := by decide +kernel
theorem dX4_addPlace_19 : decode cX4_addPlace 19 = .ok (.ireturn, 1) := by decide +kernel
theorem dX4_addPlace_20 : decode cX4_addPlace 20 = .ok (.aload_n 0, 1) := by decide +kernel
theorem dX4_addPlace_21 : decode cX4_addPlace 21 = .ok (.dup, 1) := by decide +kernel
theorem dX4_addPlace_22 : decode cX4_addPlace 22 = .ok (.getfield 7, 3) := by decide +kernel
theorem dX4_addPlace_25 : decode cX4_addPlace 25 = .ok (.iconst 1, 1) := by decide +kernel
theorem dX4_addPlace_26 : decode cX4_addPlace 26 = .ok (.iadd, 1) := by decide +kernel
theorem dX4_addPlace_27 : decode cX4_addPlace 27 = .ok (.putfield 7, 3) := by decide +kernel
theorem dX4_addPlace_30 : decode cX4_addPlace 30 = .ok (.aload_n 0, 1) := by decide +kernel
theorem dX4_addPlace_31 : decode cX4_addPlace 31 = .ok (.getfield 7, 3) := by decide +kernel
theorem dX4_addPlace_34 : decode cX4_addPlace 34 = .ok (.iconst 1, 1) := by decide +kernel
theorem dX4_addPlace_35 : decode cX4_addPlace 35 = .ok (.isub, 1) := by decide +kernel
theorem dX4_addPlace_36 : decode cX4_addPlace 36 = .ok (.ireturn, 1) := by decide +kernel
set_option maxRecDepth 20000 in
theorem ggX4_setMinutes_X4_isPlace : GoodIn wsX4_setMinutes wsX4_isPlace := goodIn_r _ [7, 8, 9, 10, 6, 11, 20, 21, 22, 23, 24, 25, 26, 27, 28, 29, 30, 31, 32, 33, 34, 35, 36, 37, 38, 39, 40] (by decide +kernel) (by decide +kernel)
set_option maxRecDepth 20000 in
theorem gX4_setMinutes_X4_isPlace : GoodIn wsX4_setMinutes (wsV RX4 78 RX4 yX4_isPlace wsX4_isPlace) := goodIn_app (goodIn_of _ (by decide +kernel)) ggX4_setMinutes_X4_isPlace
set_option maxRecDepth 20000 in
theorem ggX4_setMinutes_X4_fail : GoodIn wsX4_setMinutes wsX4_fail := goodIn_r _ [15, 1, 20, 21, 22, 23, 24, 25, 26, 27, 28, 29, 30, 31, 32, 33, 34, 35, 36, 37, 38, 39, 40] (by decide +kernel) (by decide +kernel)
set_option maxRecDepth 20000 in
theorem gX4_setMinutes_X4_fail : GoodIn wsX4_setMinutes (wsV RX4 74 RX4 yX4_fail wsX4_fail) := goodIn_app (goodIn_of _ (by decide +kernel)) ggX4_setMinutes_X4_fail
set_option maxRecDepth 20000 in
theorem ggX4_setMinutes_X4_isIn : GoodIn wsX4_setMinutes wsX4_isIn := goodIn_r _ [11] (by decide +kernel) (by decide +kernel)
set_option maxRecDepth 20000 in
theorem gX4_setMinutes_X4_isIn : GoodIn wsX4_setMinutes (va_wsS RX4 67 yX4_isIn wsX4_isIn) := goodIn_app (goodIn_of _ (by decide +kernel)) ggX4_setMinutes_X4_isIn
set_option maxRecDepth 20000 in
theorem ggX4_setMinutes_X4_drive : GoodIn wsX4_setMinutes wsX4_drive := goodIn_r _ [19, 2, 20, 21, 22, 23, 24, 25, 26, 27, 28, 29, 30, 31, 32, 33, 34, 35, 36, 37, 38, 39, 40] (by decide +kernel) (by decide +kernel)
set_option maxRecDepth 20000 in
theorem gX4_setMinutes_X4_drive : GoodIn wsX4_setMinutes (wsV RX4 82 RX4 yX4_drive wsX4_drive) := goodIn_app (goodIn_of _ (by decide +kernel)) ggX4_setMinutes_X4_drive
theorem dX4_setMinutes_0 : decode cX4_setMinutes 0 = .ok (.aload_n 0, 1) := by decide +kernel
theorem dX4_setMinutes_1 : decode cX4_setMinutes 1 = .ok (.iconst 0, 1) := by decide +kernel
theorem dX4_setMinutes_2 : decode cX4_setMinutes 2 = .ok (.putfield 64, 3) := by decide +kernel
theorem dX4_setMinutes_5 : decode cX4_setMinutes 5 = .ok (.aload_n 0, 1) := by decide +kernel
theorem dX4_setMinutes_6 : decode cX4_setMinutes 6 = .ok (.iload_n 1, 1) := by decide +kernel
theorem dX4_setMinutes_7 : decode cX4_setMinutes 7 = .ok (.invokevirtual 78, 3) := by decide +kernel
theorem dX4_setMinutes_10 : decode cX4_setMinutes 10 = .ok (.ifCond .eq 11, 3) := by decide +kernel
theorem dX4_setMinutes_13 : decode cX4_setMinutes 13 = .ok (.aload_n 0, 1) := by decide +kernel
theorem dX4_setMinutes_14 : decode cX4_setMinutes 14 = .ok (.iload_n 2, 1) := by decide +kernel
theorem dX4_setMinutes_15 : decode cX4_setMinutes 15 = .ok (.invokevirtual 78, 3) := by decide +kernel
theorem dX4_setMinutes_18 : decode cX4_setMinutes 18 = .ok (.ifCond .ne 9, 3) := by decide +kernel
theorem dX4_setMinutes_21 : decode cX4_setMinutes 21 = .ok (.aload_n 0, 1) := by decide +kernel
theorem dX4_setMinutes_22 : decode cX4_setMinutes 22 = .ok (.iconst 1, 1) := by decide +kernel
theorem dX4_setMinutes_23 : decode cX4_setMinutes 23 = .ok (.invokevirtual 74, 3) := by decide +kernel
theorem dX4_setMinutes_26 : decode cX4_setMinutes 26 = .ok (.ireturn, 1) := by decide +kernel
theorem dX4_setMinutes_27 : decode cX4_setMinutes 27 = .ok (.iload_n 1, 1) := by decide +kernel
theorem dX4_setMinutes_28 : decode cX4_setMinutes 28 = .ok (.iload_n 2, 1) := by decide +kernel
theorem dX4_setMinutes_29 : decode cX4_setMinutes 29 = .ok (.if_icmp .eq 13, 3) := by decide +kernel
theorem dX4_setMinutes_32 : decode cX4_setMinutes 32 = .ok (.iload_n 3, 1) := by decide +kernel
theorem dX4_setMinutes_33 : decode cX4_setMinutes 33 = .ok (.iconst 1, 1) := by decide +kernel
theorem dX4_setMinutes_34 : decode cX4_setMinutes 34 = .ok (.bipush 120, 2) := by decide +kernel
theorem dX4_setMinutes_36 : decode cX4_setMinutes 36 = .ok (.invokestatic 67, 3) := by decide +kernel
theorem dX4_setMinutes_39 : decode cX4_setMinutes 39 = .ok (.ifCond .ne 9, 3) := by decide +kernel
theorem dX4_setMinutes_42 : decode cX4_setMinutes 42 = .ok (.aload_n 0, 1) := by decide +kernel
theorem dX4_setMinutes_43 : decode cX4_setMinutes 43 = .ok (.iconst 2, 1) := by decide +kernel
theorem dX4_setMinutes_44 : decode cX4_setMinutes 44 = .ok (.invokevirtual 74, 3) := by decide +kernel
theorem dX4_setMinutes_47 : decode cX4_setMinutes 47 = .ok (.ireturn, 1) := by decide +kernel
theorem dX4_setMinutes_48 : decode cX4_setMinutes 48 = .ok (.aload_n 0, 1) := by decide +kernel
theorem dX4_setMinutes_49 : decode cX4_setMinutes 49 = .ok (.iload_n 1, 1) := by decide +kernel
theorem dX4_setMinutes_50 : decode cX4_setMinutes 50 = .ok (.iload_n 2, 1) := by decide +kernel
theorem dX4_setMinutes_51 : decode cX4_setMinutes 51 = .ok (.invokevirtual 82, 3) := by decide +kernel
theorem dX4_setMinutes_54 : decode cX4_setMinutes 54 = .ok (.istore 4, 2) := by decide +kernel
theorem dX4_setMinutes_56 : decode cX4_setMinutes 56 = .ok (.aload_n 0, 1) := by decide +kernel
theorem dX4_setMinutes_57 : decode cX4_setMinutes 57 = .ok (.getfield 13, 3) := by decide +kernel
theorem dX4_setMinutes_60 : decode cX4_setMinutes 60 = .ok (.bipush 10, 2) := by decide +kernel
theorem dX4_setMinutes_62 : decode cX4_setMinutes 62 = .ok (.iload_n 1, 1) := by decide +kernel
theorem dX4_setMinutes_63 : decode cX4_setMinutes 63 = .ok (.imul, 1) := by decide +kernel
theorem dX4_setMinutes_64 : decode cX4_setMinutes 64 = .ok (.iload_n 2, 1) := by decide +kernel
theorem dX4_setMinutes_65 : decode cX4_setMinutes 65 = .ok (.iadd, 1) := by decide +kernel
theorem dX4_setMinutes_66 : decode cX4_setMinutes 66 = .ok (.iload_n 3, 1) := by decide +kernel
theorem dX4_setMinutes_67 : decode cX4_setMinutes 67 = .ok (.iastore, 1) := by decide +kernel
theorem dX4_setMinutes_68 : decode cX4_setMinutes 68 = .ok (.aload_n 0, 1) := by decide +kernel
theorem dX4_setMinutes_69 : decode cX4_setMinutes 69 = .ok (.getfield 13, 3) := by decide +kernel
theorem dX4_setMinutes_72 : decode cX4_setMinutes 72 = .ok (.bipush 10, 2) := by decide +kernel
theorem dX4_setMinutes_74 : decode cX4_setMinutes 74 = .ok (.iload_n 2, 1) := by decide +kernel
theorem dX4_setMinutes_75 : decode cX4_setMinutes 75 = .ok (.imul, 1) := by decide +kernel
theorem dX4_setMinutes_76 : decode cX4_setMinutes 76 = .ok (.iload_n 1, 1) := by decide +kernel
theorem dX4_setMinutes_77 : decode cX4_setMinutes 77 = .ok (.iadd, 1) := by decide +kernel
theorem dX4_setMinutes_78 : decode cX4_setMinutes 78 = .ok (.iload_n 3, 1) := by decide +kernel
theorem dX4_setMinutes_79 : decode cX4_setMinutes 79 = .ok (.iastore, 1) := by decide +kernel
theorem dX4_setMinutes_80 : decode cX4_setMinutes 80 = .ok (.iload 4, 2) := by decide +kernel
theorem dX4_setMinutes_82 : decode cX4_setMinutes 82 = .ok (.ireturn, 1) := by decide +kernel
set_option maxRecDepth 20000 in
theorem ggX4_setTip_X4_isPlace : GoodIn wsX4_setTip wsX4_isPlace := goodIn_r _ [8, 3, 9, 10, 7, 11, 18, 19, 20, 21, 22, 23, 24, 25, 26, 27, 28, 29, 30, 31, 32, 33, 34, 35, 36, 37, 38] (by decide +kernel) (by decide +kernel)
set_option maxRecDepth 20000 in
theorem gX4_setTip_X4_isPlace : GoodIn wsX4_setTip (wsV RX4 78 RX4 yX4_isPlace wsX4_isPlace) := goodIn_app (goodIn_of _ (by decide +kernel)) ggX4_setTip_X4_isPlace
set_option maxRecDepth 20000 in
theorem ggX4_setTip_X4_isKind : GoodIn wsX4_setTip wsX4_isKind := goodIn_r _ [14, 9, 10, 7, 11] (by decide +kernel) (by decide +kernel)
set_option maxRecDepth 20000 in
theorem gX4_setTip_X4_isKind : GoodIn wsX4_setTip (va_wsS RX4 86 yX4_isKind wsX4_isKind) := goodIn_app (goodIn_of _ (by decide +kernel)) ggX4_setTip_X4_isKind
set_option maxRecDepth 20000 in
theorem ggX4_setTip_X4_has : GoodIn wsX4_setTip wsX4_has := goodIn_r _ [17] (by decide +kernel) (by decide +kernel)
set_option maxRecDepth 20000 in
theorem gX4_setTip_X4_has : GoodIn wsX4_setTip (va_wsS RX4 89 yX4_has wsX4_has) := goodIn_app (goodIn_of _ (by decide +kernel)) ggX4_setTip_X4_has
theorem dX4_setTip_0 : decode cX4_setTip 0 = .ok (.aload_n 0, 1) := by decide +kernel
theorem dX4_setTip_1 : decode cX4_setTip 1 = .ok (.aload_n 0, 1) := by decide +kernel
theorem dX4_setTip_2 : decode cX4_setTip 2 = .ok (.iload_n 1, 1) := by decide +kernel
theorem dX4_setTip_3 : decode cX4_setTip 3 = .ok (.invokevirtual 78, 3) := by decide +kernel
theorem dX4_setTip_6 : decode cX4_setTip 6 = .ok (.ifCond .eq 14, 3) := by decide +kernel
theorem dX4_setTip_9 : decode cX4_setTip 9 = .ok (.iload_n 2, 1) := by decide +kernel
theorem dX4_setTip_10 : decode cX4_setTip 10 = .ok (.invokestatic 86, 3) := by decide +kernel
theorem dX4_setTip_13 : decode cX4_setTip 13 = .ok (.ifCond .eq 7, 3) := by decide +kernel
theorem dX4_setTip_16 : decode cX4_setTip 16 = .ok (.iconst 0, 1) := by decide +kernel
theorem dX4_setTip_17 : decode cX4_setTip 17 = .ok (.goto 4, 3) := by decide +kernel
theorem dX4_setTip_20 : decode cX4_setTip 20 = .ok (.iconst 1, 1) := by decide +kernel
theorem dX4_setTip_21 : decode cX4_setTip 21 = .ok (.putfield 64, 3) := by decide +kernel
theorem dX4_setTip_24 : decode cX4_setTip 24 = .ok (.aload_n 0, 1) := by decide +kernel
theorem dX4_setTip_25 : decode cX4_setTip 25 = .ok (.getfield 64, 3) := by decide +kernel
theorem dX4_setTip_28 : decode cX4_setTip 28 = .ok (.ifCond .eq 5, 3) := by decide +kernel
theorem dX4_setTip_31 : decode cX4_setTip 31 = .ok (.iconst 0, 1) := by decide +kernel
theorem dX4_setTip_32 : decode cX4_setTip 32 = .ok (.ireturn, 1) := by decide +kernel
theorem dX4_setTip_33 : decode cX4_setTip 33 = .ok (.aload_n 0, 1) := by decide +kernel
theorem dX4_setTip_34 : decode cX4_setTip 34 = .ok (.getfield 17, 3) := by decide +kernel
theorem dX4_setTip_37 : decode cX4_setTip 37 = .ok (.iload_n 1, 1) := by decide +kernel
theorem dX4_setTip_38 : decode cX4_setTip 38 = .ok (.iaload, 1) := by decide +kernel
theorem dX4_setTip_39 : decode cX4_setTip 39 = .ok (.iload_n 2, 1) := by decide +kernel
theorem dX4_setTip_40 : decode cX4_setTip 40 = .ok (.invokestatic 89, 3) := by decide +kernel
theorem dX4_setTip_43 : decode cX4_setTip 43 = .ok (.istore 4, 2) := by decide +kernel
theorem dX4_setTip_45 : decode cX4_setTip 45 = .ok (.iconst 0, 1) := by decide +kernel
theorem dX4_setTip_46 : decode cX4_setTip 46 = .ok (.istore 5, 2) := by decide +kernel
theorem dX4_setTip_48 : decode cX4_setTip 48 = .ok (.iconst 0, 1) := by decide +kernel
theorem dX4_setTip_49 : decode cX4_setTip 49 = .ok (.istore 6, 2) := by decide +kernel
theorem dX4_setTip_51 : decode cX4_setTip 51 = .ok (.iload 6, 2) := by decide +kernel
theorem dX4_setTip_53 : decode cX4_setTip 53 = .ok (.aload_n 0, 1) := by decide +kernel
theorem dX4_setTip_54 : decode cX4_setTip 54 = .ok (.getfield 7, 3) := by decide +kernel
theorem dX4_setTip_57 : decode cX4_setTip 57 = .ok (.if_icmp .ge 39, 3) := by decide +kernel
theorem dX4_setTip_60 : decode cX4_setTip 60 = .ok (.iload 5, 2) := by decide +kernel
theorem dX4_setTip_62 : decode cX4_setTip 62 = .ok (.iload 6, 2) := by decide +kernel
theorem dX4_setTip_64 : decode cX4_setTip 64 = .ok (.iload_n 1, 1) := by decide +kernel
theorem dX4_setTip_65 : decode cX4_setTip 65 = .ok (.if_icmp .eq 21, 3) := by decide +kernel
theorem dX4_setTip_68 : decode cX4_setTip 68 = .ok (.aload_n 0, 1) := by decide +kernel
theorem dX4_setTip_69 : decode cX4_setTip 69 = .ok (.getfield 17, 3) := by decide +kernel
theorem dX4_setTip_72 : decode cX4_setTip 72 = .ok (.iload 6, 2) := by decide +kernel
theorem dX4_setTip_74 : decode cX4_setTip 74 = .ok (.iaload, 1) := by decide +kernel
theorem dX4_setTip_75 : decode cX4_setTip 75 = .ok (.iload_n 2, 1) := by decide +kernel
theorem dX4_setTip_76 : decode cX4_setTip 76 = .ok (.invokestatic 89, 3) := by decide +kernel
theorem dX4_setTip_79 : decode cX4_setTip 79 = .ok (.ifCond .eq 7, 3) := by decide +kernel
theorem dX4_setTip_82 : decode cX4_setTip 82 = .ok (.iconst 1, 1) := by decide +kernel
theorem dX4_setTip_83 : decode cX4_setTip 83 = .ok (.goto 4, 3) := by decide +kernel
theorem dX4_setTip_86 : decode cX4_setTip 86 = .ok (.iconst 0, 1) := by decide +kernel
theorem dX4_setTip_87 : decode cX4_setTip 87 = .ok (.iadd, 1) := by decide +kernel
theorem dX4_setTip_88 : decode cX4_setTip 88 = .ok (.istore 5, 2) := by decide +kernel
theorem dX4_setTip_90 : decode cX4_setTip 90 = .ok (.iinc 6 1, 3) := by decide +kernel
theorem dX4_setTip_93 : decode cX4_setTip 93 = .ok (.goto (-42), 3) := by decide +kernel
theorem dX4_setTip_96 : decode cX4_setTip 96 = .ok (.iload 4, 2) := by decide +kernel
theorem dX4_setTip_98 : decode cX4_setTip 98 = .ok (.ifCond .eq 17, 3) := by decide +kernel
theorem dX4_setTip_101 : decode cX4_setTip 101 = .ok (.iload_n 3, 1) := by decide +kernel
theorem dX4_setTip_102 : decode cX4_setTip 102 = .ok (.ifCond .ne 13, 3) := by decide +kernel
theorem dX4_setTip_105 : decode cX4_setTip 105 = .ok (.iload 5, 2) := by decide +kernel
theorem dX4_setTip_107 : decode cX4_setTip 107 = .ok (.ifCond .ne 8, 3) := by decide +kernel
theorem dX4_setTip_110 : decode cX4_setTip 110 = .ok (.aload_n 0, 1) := by decide +kernel
theorem dX4_setTip_111 : decode cX4_setTip 111 = .ok (.iconst 2, 1) := by decide +kernel
theorem dX4_setTip_112 : decode cX4_setTip 112 = .ok (.putfield 64, 3) := by decide +kernel
theorem dX4_setTip_115 : decode cX4_setTip 115 = .ok (.aload_n 0, 1) := by decide +kernel
theorem dX4_setTip_116 : decode cX4_setTip 116 = .ok (.getfield 64, 3) := by decide +kernel
theorem dX4_setTip_119 : decode cX4_setTip 119 = .ok (.ifCond .eq 5, 3) := by decide +kernel
theorem dX4_setTip_122 : decode cX4_setTip 122 = .ok (.iconst 0, 1) := by decide +kernel
theorem dX4_setTip_123 : decode cX4_setTip 123 = .ok (.ireturn, 1) := by decide +kernel
theorem dX4_setTip_124 : decode cX4_setTip 124 = .ok (.aload_n 0, 1) := by decide +kernel
theorem dX4_setTip_125 : decode cX4_setTip 125 = .ok (.getfield 17, 3) := by decide +kernel
theorem dX4_setTip_128 : decode cX4_setTip 128 = .ok (.iload_n 1, 1) := by decide +kernel
theorem dX4_setTip_129 : decode cX4_setTip 129 = .ok (.iload_n 3, 1) := by decide +kernel
theorem dX4_setTip_130 : decode cX4_setTip 130 = .ok (.ifCond .eq 16, 3) := by decide +kernel
theorem dX4_setTip_133 : decode cX4_setTip 133 = .ok (.aload_n 0, 1) := by decide +kernel
theorem dX4_setTip_134 : decode cX4_setTip 134 = .ok (.getfield 17, 3) := by decide +kernel
theorem dX4_setTip_137 : decode cX4_setTip 137 = .ok (.iload_n 1, 1) := by decide +kernel
theorem dX4_setTip_138 : decode cX4_setTip 138 = .ok (.iaload, 1) := by decide +kernel
theorem dX4_setTip_139 : decode cX4_setTip 139 = .ok (.iconst 1, 1) := by decide +kernel
theorem dX4_setTip_140 : decode cX4_setTip 140 = .ok (.iload_n 2, 1) := by decide +kernel
theorem dX4_setTip_141 : decode cX4_setTip 141 = .ok (.ishl, 1) := by decide +kernel
theorem dX4_setTip_142 : decode cX4_setTip 142 = .ok (.ior, 1) := by decide +kernel
theorem dX4_setTip_143 : decode cX4_setTip 143 = .ok (.goto 15, 3) := by decide +kernel
theorem dX4_setTip_146 : decode cX4_setTip 146 = .ok (.aload_n 0, 1) := by decide +kernel
theorem dX4_setTip_147 : decode cX4_setTip 147 = .ok (.getfield 17, 3) := by decide +kernel
theorem dX4_setTip_150 : decode cX4_setTip 150 = .ok (.iload_n 1, 1) := by decide +kernel
theorem dX4_setTip_151 : decode cX4_setTip 151 = .ok (.iaload, 1) := by decide +kernel
theorem dX4_setTip_152 : decode cX4_setTip 152 = .ok (.iconst 1, 1) := by decide +kernel
theorem dX4_setTip_153 : decode cX4_setTip 153 = .ok (.iload_n 2, 1) := by decide +kernel
theorem dX4_setTip_154 : decode cX4_setTip 154 = .ok (.ishl, 1) := by decide +kernel
theorem dX4_setTip_155 : decode cX4_setTip 155 = .ok (.iconst (-1), 1) := by decide +kernel
theorem dX4_setTip_156 : decode cX4_setTip 156 = .ok (.ixor, 1) := by decide +kernel
theorem dX4_setTip_157 : decode cX4_setTip 157 = .ok (.iand, 1) := by decide +kernel
theorem dX4_setTip_158 : decode cX4_setTip 158 = .ok (.iastore, 1) := by decide +kernel
theorem dX4_setTip_159 : decode cX4_setTip 159 = .ok (.iload 4, 2) := by decide +kernel
theorem dX4_setTip_161 : decode cX4_setTip 161 = .ok (.ireturn, 1) := by decide +kernel
set_option maxRecDepth 20000 in
theorem ggX4_setHoliday_X4_isIn : GoodIn wsX4_setHoliday wsX4_isIn := goodIn_r _ [6] (by decide +kernel) (by decide +kernel)
set_option maxRecDepth 20000 in
theorem gX4_setHoliday_X4_isIn : GoodIn wsX4_setHoliday (va_wsS RX4 67 yX4_isIn wsX4_isIn) := goodIn_app (goodIn_of _ (by decide +kernel)) ggX4_setHoliday_X4_isIn
theorem dX4_setHoliday_0 : decode cX4_setHoliday 0 = .ok (.aload_n 0, 1) := by decide +kernel
theorem dX4_setHoliday_1 : decode cX4_setHoliday 1 = .ok (.iload_n 1, 1) := by decide +kernel
theorem dX4_setHoliday_2 : decode cX4_setHoliday 2 = .ok (.iconst 0, 1) := by decide +kernel
theorem dX4_setHoliday_3 : decode cX4_setHoliday 3 = .ok (.sipush 399, 3) := by decide +kernel
theorem dX4_setHoliday_6 : decode cX4_setHoliday 6 = .ok (.invokestatic 67, 3) := by decide +kernel
theorem dX4_setHoliday_9 : decode cX4_setHoliday 9 = .ok (.ifCond .eq 7, 3) := by decide +kernel
theorem dX4_setHoliday_12 : decode cX4_setHoliday 12 = .ok (.iconst 0, 1) := by decide +kernel
theorem dX4_setHoliday_13 : decode cX4_setHoliday 13 = .ok (.goto 4, 3) := by decide +kernel
theorem dX4_setHoliday_16 : decode cX4_setHoliday 16 = .ok (.iconst 1, 1) := by decide +kernel
theorem dX4_setHoliday_17 : decode cX4_setHoliday 17 = .ok (.putfield 64, 3) := by decide +kernel
theorem dX4_setHoliday_20 : decode cX4_setHoliday 20 = .ok (.aload_n 0, 1) := by decide +kernel
theorem dX4_setHoliday_21 : decode cX4_setHoliday 21 = .ok (.getfield 64, 3) := by decide +kernel
theorem dX4_setHoliday_24 : decode cX4_setHoliday 24 = .ok (.ifCond .eq 5, 3) := by decide +kernel
theorem dX4_setHoliday_27 : decode cX4_setHoliday 27 = .ok (.iconst 0, 1) := by decide +kernel
theorem dX4_setHoliday_28 : decode cX4_setHoliday 28 = .ok (.ireturn, 1) := by decide +kernel
theorem dX4_setHoliday_29 : decode cX4_setHoliday 29 = .ok (.aload_n 0, 1) := by decide +kernel
theorem dX4_setHoliday_30 : decode cX4_setHoliday 30 = .ok (.getfield 20, 3) := by decide +kernel
theorem dX4_setHoliday_33 : decode cX4_setHoliday 33 = .ok (.iload_n 1, 1) := by decide +kernel
theorem dX4_setHoliday_34 : decode cX4_setHoliday 34 = .ok (.baload, 1) := by decide +kernel
theorem dX4_setHoliday_35 : decode cX4_setHoliday 35 = .ok (.istore_n 3, 1) := by decide +kernel
theorem dX4_setHoliday_36 : decode cX4_setHoliday 36 = .ok (.aload_n 0, 1) := by decide +kernel
theorem dX4_setHoliday_37 : decode cX4_setHoliday 37 = .ok (.getfield 20, 3) := by decide +kernel
theorem dX4_setHoliday_40 : decode cX4_setHoliday 40 = .ok (.iload_n 1, 1) := by decide +kernel
theorem dX4_setHoliday_41 : decode cX4_setHoliday 41 = .ok (.iload_n 2, 1) := by decide +kernel
theorem dX4_setHoliday_42 : decode cX4_setHoliday 42 = .ok (.bastore, 1) := by decide +kernel
theorem dX4_setHoliday_43 : decode cX4_setHoliday 43 = .ok (.iload_n 3, 1) := by decide +kernel
theorem dX4_setHoliday_44 : decode cX4_setHoliday 44 = .ok (.ireturn, 1) := by decide +kernel
set_option maxRecDepth 20000 in
theorem ggX4_pass_X4_isIn : GoodIn wsX4_pass wsX4_isIn := goodIn_r _ [17] (by decide +kernel) (by decide +kernel)
set_option maxRecDepth 20000 in
theorem gX4_pass_X4_isIn : GoodIn wsX4_pass (va_wsS RX4 67 yX4_isIn wsX4_isIn) := goodIn_app (goodIn_of _ (by decide +kernel)) ggX4_pass_X4_isIn
set_option maxRecDepth 20000 in
theorem ggX4_pass_X4_fail : GoodIn wsX4_pass wsX4_fail := goodIn_r _ [21, 1, 22, 23, 24, 25, 26, 27, 28, 29, 30, 31, 32, 33, 34, 35, 36, 37, 38, 39, 40, 41, 42] (by decide +kernel) (by decide +kernel)
set_option maxRecDepth 20000 in
theorem gX4_pass_X4_fail : GoodIn wsX4_pass (wsV RX4 74 RX4 yX4_fail wsX4_fail) := goodIn_app (goodIn_of _ (by decide +kernel)) ggX4_pass_X4_fail
theorem dX4_pass_0 : decode cX4_pass 0 = .ok (.aload_n 0, 1) := by decide +kernel
theorem dX4_pass_1 : decode cX4_pass 1 = .ok (.iconst 0, 1) := by decide +kernel
theorem dX4_pass_2 : decode cX4_pass 2 = .ok (.putfield 64, 3) := by decide +kernel
theorem dX4_pass_5 : decode cX4_pass 5 = .ok (.iload_n 1, 1) := by decide +kernel
theorem dX4_pass_6 : decode cX4_pass 6 = .ok (.iconst 1, 1) := by decide +kernel
theorem dX4_pass_7 : decode cX4_pass 7 = .ok (.bipush 60, 2) := by decide +kernel
theorem dX4_pass_9 : decode cX4_pass 9 = .ok (.invokestatic 67, 3) := by decide +kernel
theorem dX4_pass_12 : decode cX4_pass 12 = .ok (.ifCond .ne 9, 3) := by decide +kernel
theorem dX4_pass_15 : decode cX4_pass 15 = .ok (.aload_n 0, 1) := by decide +kernel
theorem dX4_pass_16 : decode cX4_pass 16 = .ok (.iconst 1, 1) := by decide +kernel
theorem dX4_pass_17 : decode cX4_pass 17 = .ok (.invokevirtual 74, 3) := by decide +kernel
theorem dX4_pass_20 : decode cX4_pass 20 = .ok (.ireturn, 1) := by decide +kernel
theorem dX4_pass_21 : decode cX4_pass 21 = .ok (.aload_n 0, 1) := by decide +kernel
theorem dX4_pass_22 : decode cX4_pass 22 = .ok (.getfield 93, 3) := by decide +kernel
theorem dX4_pass_25 : decode cX4_pass 25 = .ok (.iload_n 1, 1) := by decide +kernel
theorem dX4_pass_26 : decode cX4_pass 26 = .ok (.iadd, 1) := by decide +kernel
theorem dX4_pass_27 : decode cX4_pass 27 = .ok (.sipush 399, 3) := by decide +kernel
theorem dX4_pass_30 : decode cX4_pass 30 = .ok (.if_icmp .le 9, 3) := by decide +kernel
theorem dX4_pass_33 : decode cX4_pass 33 = .ok (.aload_n 0, 1) := by decide +kernel
theorem dX4_pass_34 : decode cX4_pass 34 = .ok (.iconst 2, 1) := by decide +kernel
theorem dX4_pass_35 : decode cX4_pass 35 = .ok (.invokevirtual 74, 3) := by decide +kernel
theorem dX4_pass_38 : decode cX4_pass 38 = .ok (.ireturn, 1) := by decide +kernel
theorem dX4_pass_39 : decode cX4_pass 39 = .ok (.iconst 0, 1) := by decide +kernel
theorem dX4_pass_40 : decode cX4_pass 40 = .ok (.istore_n 2, 1) := by decide +kernel
theorem dX4_pass_41 : decode cX4_pass 41 = .ok (.iconst 0, 1) := by decide +kernel
theorem dX4_pass_42 : decode cX4_pass 42 = .ok (.istore_n 3, 1) := by decide +kernel
theorem dX4_pass_43 : decode cX4_pass 43 = .ok (.iload_n 3, 1) := by decide +kernel
theorem dX4_pass_44 : decode cX4_pass 44 = .ok (.iload_n 1, 1) := by decide +kernel
theorem dX4_pass_45 : decode cX4_pass 45 = .ok (.if_icmp .ge 127, 3) := by decide +kernel
theorem dX4_pass_48 : decode cX4_pass 48 = .ok (.iconst 0, 1) := by decide +kernel
theorem dX4_pass_49 : decode cX4_pass 49 = .ok (.istore 4, 2) := by decide +kernel
theorem dX4_pass_51 : decode cX4_pass 51 = .ok (.iload 4, 2) := by decide +kernel
theorem dX4_pass_53 : decode cX4_pass 53 = .ok (.aload_n 0, 1) := by decide +kernel
theorem dX4_pass_54 : decode cX4_pass 54 = .ok (.getfield 71, 3) := by decide +kernel
theorem dX4_pass_57 : decode cX4_pass 57 = .ok (.if_icmp .ge 109, 3) := by decide +kernel
theorem dX4_pass_60 : decode cX4_pass 60 = .ok (.iconst 0, 1) := by decide +kernel
theorem dX4_pass_61 : decode cX4_pass 61 = .ok (.aload_n 0, 1) := by decide +kernel
theorem dX4_pass_62 : decode cX4_pass 62 = .ok (.getfield 36, 3) := by decide +kernel
theorem dX4_pass_65 : decode cX4_pass 65 = .ok (.iload 4, 2) := by decide +kernel
theorem dX4_pass_67 : decode cX4_pass 67 = .ok (.iaload, 1) := by decide +kernel
theorem dX4_pass_68 : decode cX4_pass 68 = .ok (.aload_n 0, 1) := by decide +kernel
theorem dX4_pass_69 : decode cX4_pass 69 = .ok (.getfield 33, 3) := by decide +kernel
theorem dX4_pass_72 : decode cX4_pass 72 = .ok (.iload 4, 2) := by decide +kernel
theorem dX4_pass_74 : decode cX4_pass 74 = .ok (.iaload, 1) := by decide +kernel
theorem dX4_pass_75 : decode cX4_pass 75 = .ok (.iadd, 1) := by decide +kernel
theorem dX4_pass_76 : decode cX4_pass 76 = .ok (.aload_n 0, 1) := by decide +kernel
theorem dX4_pass_77 : decode cX4_pass 77 = .ok (.getfield 30, 3) := by decide +kernel
theorem dX4_pass_80 : decode cX4_pass 80 = .ok (.iload 4, 2) := by decide +kernel
theorem dX4_pass_82 : decode cX4_pass 82 = .ok (.iaload, 1) := by decide +kernel
theorem dX4_pass_83 : decode cX4_pass 83 = .ok (.isub, 1) := by decide +kernel
theorem dX4_pass_84 : decode cX4_pass 84 = .ok (.invokestatic 96, 3) := by decide +kernel
theorem dX4_pass_87 : decode cX4_pass 87 = .ok (.istore 5, 2) := by decide +kernel
theorem dX4_pass_89 : decode cX4_pass 89 = .ok (.aload_n 0, 1) := by decide +kernel
theorem dX4_pass_90 : decode cX4_pass 90 = .ok (.getfield 36, 3) := by decide +kernel
theorem dX4_pass_93 : decode cX4_pass 93 = .ok (.iload 4, 2) := by decide +kernel
theorem dX4_pass_95 : decode cX4_pass 95 = .ok (.dup2, 1) := by decide +kernel
theorem dX4_pass_96 : decode cX4_pass 96 = .ok (.iaload, 1) := by decide +kernel
theorem dX4_pass_97 : decode cX4_pass 97 = .ok (.aload_n 0, 1) := by decide +kernel
theorem dX4_pass_98 : decode cX4_pass 98 = .ok (.getfield 33, 3) := by decide +kernel
theorem dX4_pass_101 : decode cX4_pass 101 = .ok (.iload 4, 2) := by decide +kernel
theorem dX4_pass_103 : decode cX4_pass 103 = .ok (.iaload, 1) := by decide +kernel
theorem dX4_pass_104 : decode cX4_pass 104 = .ok (.iload 5, 2) := by decide +kernel
theorem dX4_pass_106 : decode cX4_pass 106 = .ok (.isub, 1) := by decide +kernel
theorem dX4_pass_107 : decode cX4_pass 107 = .ok (.iadd, 1) := by decide +kernel
theorem dX4_pass_108 : decode cX4_pass 108 = .ok (.iastore, 1) := by decide +kernel
theorem dX4_pass_109 : decode cX4_pass 109 = .ok (.aload_n 0, 1) := by decide +kernel
theorem dX4_pass_110 : decode cX4_pass 110 = .ok (.getfield 58, 3) := by decide +kernel
theorem dX4_pass_113 : decode cX4_pass 113 = .ok (.aload_n 0, 1) := by decide +kernel
theorem dX4_pass_114 : decode cX4_pass 114 = .ok (.getfield 27, 3) := by decide +kernel
theorem dX4_pass_117 : decode cX4_pass 117 = .ok (.iload 4, 2) := by decide +kernel
theorem dX4_pass_119 : decode cX4_pass 119 = .ok (.iaload, 1) := by decide +kernel
theorem dX4_pass_120 : decode cX4_pass 120 = .ok (.dup2, 1) := by decide +kernel
theorem dX4_pass_121 : decode cX4_pass 121 = .ok (.laload, 1) := by decide +kernel
theorem dX4_pass_122 : decode cX4_pass 122 = .ok (.iload 5, 2) := by decide +kernel
theorem dX4_pass_124 : decode cX4_pass 124 = .ok (.i2l, 1) := by decide +kernel
theorem dX4_pass_125 : decode cX4_pass 125 = .ok (.ladd, 1) := by decide +kernel
theorem dX4_pass_126 : decode cX4_pass 126 = .ok (.lastore, 1) := by decide +kernel
theorem dX4_pass_127 : decode cX4_pass 127 = .ok (.aload_n 0, 1) := by decide +kernel
theorem dX4_pass_128 : decode cX4_pass 128 = .ok (.getfield 45, 3) := by decide +kernel
theorem dX4_pass_131 : decode cX4_pass 131 = .ok (.iload 4, 2) := by decide +kernel
theorem dX4_pass_133 : decode cX4_pass 133 = .ok (.dup2, 1) := by decide +kernel
theorem dX4_pass_134 : decode cX4_pass 134 = .ok (.iaload, 1) := by decide +kernel
theorem dX4_pass_135 : decode cX4_pass 135 = .ok (.iload 5, 2) := by decide +kernel
theorem dX4_pass_137 : decode cX4_pass 137 = .ok (.ifCond .le 7, 3) := by decide +kernel
theorem dX4_pass_140 : decode cX4_pass 140 = .ok (.iconst 1, 1) := by decide +kernel
theorem dX4_pass_141 : decode cX4_pass 141 = .ok (.goto 4, 3) := by decide +kernel
theorem dX4_pass_144 : decode cX4_pass 144 = .ok (.iconst 0, 1) := by decide +kernel
theorem dX4_pass_145 : decode cX4_pass 145 = .ok (.iadd, 1) := by decide +kernel
theorem dX4_pass_146 : decode cX4_pass 146 = .ok (.iastore, 1) := by decide +kernel
theorem dX4_pass_147 : decode cX4_pass 147 = .ok (.iload_n 2, 1) := by decide +kernel
theorem dX4_pass_148 : decode cX4_pass 148 = .ok (.iload 5, 2) := by decide +kernel
theorem dX4_pass_150 : decode cX4_pass 150 = .ok (.ifCond .le 7, 3) := by decide +kernel
theorem dX4_pass_153 : decode cX4_pass 153 = .ok (.iconst 1, 1) := by decide +kernel
theorem dX4_pass_154 : decode cX4_pass 154 = .ok (.goto 4, 3) := by decide +kernel
theorem dX4_pass_157 : decode cX4_pass 157 = .ok (.iconst 0, 1) := by decide +kernel
theorem dX4_pass_158 : decode cX4_pass 158 = .ok (.iadd, 1) := by decide +kernel
theorem dX4_pass_159 : decode cX4_pass 159 = .ok (.istore_n 2, 1) := by decide +kernel
theorem dX4_pass_160 : decode cX4_pass 160 = .ok (.iinc 4 1, 3) := by decide +kernel
theorem dX4_pass_163 : decode cX4_pass 163 = .ok (.goto (-112), 3) := by decide +kernel
theorem dX4_pass_166 : decode cX4_pass 166 = .ok (.iinc 3 1, 3) := by decide +kernel
theorem dX4_pass_169 : decode cX4_pass 169 = .ok (.goto (-126), 3) := by decide +kernel
theorem dX4_pass_172 : decode cX4_pass 172 = .ok (.aload_n 0, 1) := by decide +kernel
theorem dX4_pass_173 : decode cX4_pass 173 = .ok (.dup, 1) := by decide +kernel
theorem dX4_pass_174 : decode cX4_pass 174 = .ok (.getfield 93, 3) := by decide +kernel
theorem dX4_pass_177 : decode cX4_pass 177 = .ok (.iload_n 1, 1) := by decide +kernel
theorem dX4_pass_178 : decode cX4_pass 178 = .ok (.iadd, 1) := by decide +kernel
theorem dX4_pass_179 : decode cX4_pass 179 = .ok (.putfield 93, 3) := by decide +kernel
theorem dX4_pass_182 : decode cX4_pass 182 = .ok (.iload_n 2, 1) := by decide +kernel
theorem dX4_pass_183 : decode cX4_pass 183 = .ok (.ireturn, 1) := by decide +kernel
theorem dX4_today_0 : decode cX4_today 0 = .ok (.aload_n 0, 1) := by decide +kernel
theorem dX4_today_1 : decode cX4_today 1 = .ok (.iconst 0, 1) := by decide +kernel
theorem dX4_today_2 : decode cX4_today 2 = .ok (.putfield 64, 3) := by decide +kernel
theorem dX4_today_5 : decode cX4_today 5 = .ok (.aload_n 0, 1) := by decide +kernel
theorem dX4_today_6 : decode cX4_today 6 = .ok (.getfield 93, 3) := by decide +kernel
theorem dX4_today_9 : decode cX4_today 9 = .ok (.ireturn, 1) := by decide +kernel
theorem dX4_workday_0 : decode cX4_workday 0 = .ok (.aload_n 0, 1) := by decide +kernel
theorem dX4_workday_1 : decode cX4_workday 1 = .ok (.getfield 93, 3) := by decide +kernel
theorem dX4_workday_4 : decode cX4_workday 4 = .ok (.iconst 1, 1) := by decide +kernel
theorem dX4_workday_5 : decode cX4_workday 5 = .ok (.iadd, 1) := by decide +kernel
theorem dX4_workday_6 : decode cX4_workday 6 = .ok (.istore_n 1, 1) := by decide +kernel
theorem dX4_workday_7 : decode cX4_workday 7 = .ok (.iload_n 1, 1) := by decide +kernel
theorem dX4_workday_8 : decode cX4_workday 8 = .ok (.sipush 399, 3) := by decide +kernel
theorem dX4_workday_11 : decode cX4_workday 11 = .ok (.if_icmp .gt 18, 3) := by decide +kernel
theorem dX4_workday_14 : decode cX4_workday 14 = .ok (.aload_n 0, 1) := by decide +kernel
theorem dX4_workday_15 : decode cX4_workday 15 = .ok (.getfield 20, 3) := by decide +kernel
theorem dX4_workday_18 : decode cX4_workday 18 = .ok (.iload_n 1, 1) := by decide +kernel
theorem dX4_workday_19 : decode cX4_workday 19 = .ok (.baload, 1) := by decide +kernel
theorem dX4_workday_20 : decode cX4_workday 20 = .ok (.ifCond .eq 9, 3) := by decide +kernel
theorem dX4_workday_23 : decode cX4_workday 23 = .ok (.iinc 1 1, 3) := by decide +kernel
theorem dX4_workday_26 : decode cX4_workday 26 = .ok (.goto (-19), 3) := by decide +kernel
theorem dX4_workday_29 : decode cX4_workday 29 = .ok (.iload_n 1, 1) := by decide +kernel
theorem dX4_workday_30 : decode cX4_workday 30 = .ok (.ireturn, 1) := by decide +kernel
set_option maxRecDepth 20000 in
theorem ggX4_nextWorkday_X4_workday : GoodIn wsX4_nextWorkday wsX4_workday := goodIn_r _ [6, 7, 8, 9, 10, 11, 12, 13, 14, 15, 16, 17, 18, 19, 20, 21, 22, 23, 24, 25, 26, 27, 28, 29] (by decide +kernel) (by decide +kernel)
set_option maxRecDepth 20000 in
theorem gX4_nextWorkday_X4_workday : GoodIn wsX4_nextWorkday (wsV RX4 101 RX4 yX4_workday wsX4_workday) := goodIn_app (goodIn_of _ (by decide +kernel)) ggX4_nextWorkday_X4_workday
theorem dX4_nextWorkday_0 : decode cX4_nextWorkday 0 = .ok (.aload_n 0, 1) := by decide +kernel
theorem dX4_nextWorkday_1 : decode cX4_nextWorkday 1 = .ok (.iconst 0, 1) := by decide +kernel
theorem dX4_nextWorkday_2 : decode cX4_nextWorkday 2 = .ok (.putfield 64, 3) := by decide +kernel
theorem dX4_nextWorkday_5 : decode cX4_nextWorkday 5 = .ok (.aload_n 0, 1) := by decide +kernel
theorem dX4_nextWorkday_6 : decode cX4_nextWorkday 6 = .ok (.invokevirtual 101, 3) := by decide +kernel
theorem dX4_nextWorkday_9 : decode cX4_nextWorkday 9 = .ok (.ireturn, 1) := by decide +kernel
set_option maxRecDepth 20000 in
theorem ggX4_addBin_X4_isPlace : GoodIn wsX4_addBin wsX4_isPlace := goodIn_r _ [15, 16, 17, 18, 14, 19, 27, 28, 29, 30, 31, 32, 33, 34, 35, 36, 37, 38, 39, 40, 41, 42, 43, 44, 45, 46, 47] (by decide +kernel) (by decide +kernel)
set_option maxRecDepth 20000 in
theorem gX4_addBin_X4_isPlace : GoodIn wsX4_addBin (wsV RX4 78 RX4 yX4_isPlace wsX4_isPlace) := goodIn_app (goodIn_of _ (by decide +kernel)) ggX4_addBin_X4_isPlace
set_option maxRecDepth 20000 in
theorem ggX4_addBin_X4_isKind : GoodIn wsX4_addBin wsX4_isKind := goodIn_r _ [22, 17, 18, 14, 19] (by decide +kernel) (by decide +kernel)
set_option maxRecDepth 20000 in
theorem gX4_addBin_X4_isKind : GoodIn wsX4_addBin (va_wsS RX4 86 yX4_isKind wsX4_isKind) := goodIn_app (goodIn_of _ (by decide +kernel)) ggX4_addBin_X4_isKind
set_option maxRecDepth 20000 in
theorem ggX4_addBin_X4_fail : GoodIn wsX4_addBin wsX4_fail := goodIn_r _ [26, 1, 27, 28, 29, 30, 31, 32, 33, 34, 35, 36, 37, 38, 39, 40, 41, 42, 43, 44, 45, 46, 47] (by decide +kernel) (by decide +kernel)
set_option maxRecDepth 20000 in
theorem gX4_addBin_X4_fail : GoodIn wsX4_addBin (wsV RX4 74 RX4 yX4_fail wsX4_fail) := goodIn_app (goodIn_of _ (by decide +kernel)) ggX4_addBin_X4_fail
set_option maxRecDepth 20000 in
theorem ggX4_addBin_X4_isIn : GoodIn wsX4_addBin wsX4_isIn := goodIn_r _ [19] (by decide +kernel) (by decide +kernel)
set_option maxRecDepth 20000 in
theorem gX4_addBin_X4_isIn : GoodIn wsX4_addBin (va_wsS RX4 67 yX4_isIn wsX4_isIn) := goodIn_app (goodIn_of _ (by decide +kernel)) ggX4_addBin_X4_isIn
theorem dX4_addBin_0 : decode cX4_addBin 0 = .ok (.aload_n 0, 1) := by decide +kernel
theorem dX4_addBin_1 : decode cX4_addBin 1 = .ok (.iconst 0, 1) := by decide +kernel
theorem dX4_addBin_2 : decode cX4_addBin 2 = .ok (.putfield 64, 3) := by decide +kernel
theorem dX4_addBin_5 : decode cX4_addBin 5 = .ok (.aload_n 0, 1) := by decide +kernel
theorem dX4_addBin_6 : decode cX4_addBin 6 = .ok (.iload_n 1, 1) := by decide +kernel
theorem dX4_addBin_7 : decode cX4_addBin 7 = .ok (.invokevirtual 78, 3) := by decide +kernel
theorem dX4_addBin_10 : decode cX4_addBin 10 = .ok (.ifCond .eq 14, 3) := by decide +kernel
theorem dX4_addBin_13 : decode cX4_addBin 13 = .ok (.iload_n 1, 1) := by decide +kernel
theorem dX4_addBin_14 : decode cX4_addBin 14 = .ok (.ifCond .eq 10, 3) := by decide +kernel
theorem dX4_addBin_17 : decode cX4_addBin 17 = .ok (.iload_n 2, 1) := by decide +kernel
theorem dX4_addBin_18 : decode cX4_addBin 18 = .ok (.invokestatic 86, 3) := by decide +kernel
theorem dX4_addBin_21 : decode cX4_addBin 21 = .ok (.ifCond .ne 9, 3) := by decide +kernel
theorem dX4_addBin_24 : decode cX4_addBin 24 = .ok (.aload_n 0, 1) := by decide +kernel
theorem dX4_addBin_25 : decode cX4_addBin 25 = .ok (.iconst 1, 1) := by decide +kernel
theorem dX4_addBin_26 : decode cX4_addBin 26 = .ok (.invokevirtual 74, 3) := by decide +kernel
theorem dX4_addBin_29 : decode cX4_addBin 29 = .ok (.ireturn, 1) := by decide +kernel
theorem dX4_addBin_30 : decode cX4_addBin 30 = .ok (.iload_n 3, 1) := by decide +kernel
theorem dX4_addBin_31 : decode cX4_addBin 31 = .ok (.bipush 10, 2) := by decide +kernel
theorem dX4_addBin_33 : decode cX4_addBin 33 = .ok (.sipush 1000, 3) := by decide +kernel
theorem dX4_addBin_36 : decode cX4_addBin 36 = .ok (.invokestatic 67, 3) := by decide +kernel
theorem dX4_addBin_39 : decode cX4_addBin 39 = .ok (.ifCond .eq 15, 3) := by decide +kernel
theorem dX4_addBin_42 : decode cX4_addBin 42 = .ok (.iload 4, 2) := by decide +kernel
theorem dX4_addBin_44 : decode cX4_addBin 44 = .ok (.iconst 0, 1) := by decide +kernel
theorem dX4_addBin_45 : decode cX4_addBin 45 = .ok (.sipush 200, 3) := by decide +kernel
theorem dX4_addBin_48 : decode cX4_addBin 48 = .ok (.invokestatic 67, 3) := by decide +kernel
theorem dX4_addBin_51 : decode cX4_addBin 51 = .ok (.ifCond .ne 9, 3) := by decide +kernel
theorem dX4_addBin_54 : decode cX4_addBin 54 = .ok (.aload_n 0, 1) := by decide +kernel
theorem dX4_addBin_55 : decode cX4_addBin 55 = .ok (.iconst 2, 1) := by decide +kernel
theorem dX4_addBin_56 : decode cX4_addBin 56 = .ok (.invokevirtual 74, 3) := by decide +kernel
theorem dX4_addBin_59 : decode cX4_addBin 59 = .ok (.ireturn, 1) := by decide +kernel
theorem dX4_addBin_60 : decode cX4_addBin 60 = .ok (.aload_n 0, 1) := by decide +kernel
theorem dX4_addBin_61 : decode cX4_addBin 61 = .ok (.getfield 71, 3) := by decide +kernel
theorem dX4_addBin_64 : decode cX4_addBin 64 = .ok (.bipush 16, 2) := by decide +kernel
theorem dX4_addBin_66 : decode cX4_addBin 66 = .ok (.if_icmp .ne 9, 3) := by decide +kernel
theorem dX4_addBin_69 : decode cX4_addBin 69 = .ok (.aload_n 0, 1) := by decide +kernel
theorem dX4_addBin_70 : decode cX4_addBin 70 = .ok (.iconst 3, 1) := by decide +kernel
theorem dX4_addBin_71 : decode cX4_addBin 71 = .ok (.invokevirtual 74, 3) := by decide +kernel
theorem dX4_addBin_74 : decode cX4_addBin 74 = .ok (.ireturn, 1) := by decide +kernel
theorem dX4_addBin_75 : decode cX4_addBin 75 = .ok (.aload_n 0, 1) := by decide +kernel
theorem dX4_addBin_76 : decode cX4_addBin 76 = .ok (.getfield 24, 3) := by decide +kernel
theorem dX4_addBin_79 : decode cX4_addBin 79 = .ok (.aload_n 0, 1) := by decide +kernel
theorem dX4_addBin_80 : decode cX4_addBin 80 = .ok (.getfield 71, 3) := by decide +kernel
theorem dX4_addBin_83 : decode cX4_addBin 83 = .ok (.iload_n 1, 1) := by decide +kernel
theorem dX4_addBin_84 : decode cX4_addBin 84 = .ok (.iastore, 1) := by decide +kernel
theorem dX4_addBin_85 : decode cX4_addBin 85 = .ok (.aload_n 0, 1) := by decide +kernel
theorem dX4_addBin_86 : decode cX4_addBin 86 = .ok (.getfield 27, 3) := by decide +kernel
theorem dX4_addBin_89 : decode cX4_addBin 89 = .ok (.aload_n 0, 1) := by decide +kernel
theorem dX4_addBin_90 : decode cX4_addBin 90 = .ok (.getfield 71, 3) := by decide +kernel
theorem dX4_addBin_93 : decode cX4_addBin 93 = .ok (.iload_n 2, 1) := by decide +kernel
theorem dX4_addBin_94 : decode cX4_addBin 94 = .ok (.iastore, 1) := by decide +kernel
theorem dX4_addBin_95 : decode cX4_addBin 95 = .ok (.aload_n 0, 1) := by decide +kernel
theorem dX4_addBin_96 : decode cX4_addBin 96 = .ok (.getfield 30, 3) := by decide +kernel
theorem dX4_addBin_99 : decode cX4_addBin 99 = .ok (.aload_n 0, 1) := by decide +kernel
theorem dX4_addBin_100 : decode cX4_addBin 100 = .ok (.getfield 71, 3) := by decide +kernel
theorem dX4_addBin_103 : decode cX4_addBin 103 = .ok (.iload_n 3, 1) := by decide +kernel
theorem dX4_addBin_104 : decode cX4_addBin 104 = .ok (.iastore, 1) := by decide +kernel
theorem dX4_addBin_105 : decode cX4_addBin 105 = .ok (.aload_n 0, 1) := by decide +kernel
theorem dX4_addBin_106 : decode cX4_addBin 106 = .ok (.getfield 33, 3) := by decide +kernel
theorem dX4_addBin_109 : decode cX4_addBin 109 = .ok (.aload_n 0, 1) := by decide +kernel
theorem dX4_addBin_110 : decode cX4_addBin 110 = .ok (.getfield 71, 3) := by decide +kernel
theorem dX4_addBin_113 : decode cX4_addBin 113 = .ok (.iload 4, 2) := by decide +kernel
theorem dX4_addBin_115 : decode cX4_addBin 115 = .ok (.iastore, 1) := by decide +kernel
theorem dX4_addBin_116 : decode cX4_addBin 116 = .ok (.aload_n 0, 1) := by decide +kernel
theorem dX4_addBin_117 : decode cX4_addBin 117 = .ok (.getfield 36, 3) := by decide +kernel
theorem dX4_addBin_120 : decode cX4_addBin 120 = .ok (.aload_n 0, 1) := by decide +kernel
theorem dX4_addBin_121 : decode cX4_addBin 121 = .ok (.getfield 71, 3) := by decide +kernel
theorem dX4_addBin_124 : decode cX4_addBin 124 = .ok (.iconst 0, 1) := by decide +kernel
theorem dX4_addBin_125 : decode cX4_addBin 125 = .ok (.iastore, 1) := by decide +kernel
theorem dX4_addBin_126 : decode cX4_addBin 126 = .ok (.aload_n 0, 1) := by decide +kernel
theorem dX4_addBin_127 : decode cX4_addBin 127 = .ok (.getfield 39, 3) := by decide +kernel
theorem dX4_addBin_130 : decode cX4_addBin 130 = .ok (.aload_n 0, 1) := by decide +kernel
theorem dX4_addBin_131 : decode cX4_addBin 131 = .ok (.getfield 71, 3) := by decide +kernel
theorem dX4_addBin_134 : decode cX4_addBin 134 = .ok (.iload_n 3, 1) := by decide +kernel
theorem dX4_addBin_135 : decode cX4_addBin 135 = .ok (.iconst 2, 1) := by decide +kernel
theorem dX4_addBin_136 : decode cX4_addBin 136 = .ok (.idiv, 1) := by decide +kernel
theorem dX4_addBin_137 : decode cX4_addBin 137 = .ok (.iastore, 1) := by decide +kernel
theorem dX4_addBin_138 : decode cX4_addBin 138 = .ok (.aload_n 0, 1) := by decide +kernel
theorem dX4_addBin_139 : decode cX4_addBin 139 = .ok (.getfield 42, 3) := by decide +kernel
theorem dX4_addBin_142 : decode cX4_addBin 142 = .ok (.aload_n 0, 1) := by decide +kernel
theorem dX4_addBin_143 : decode cX4_addBin 143 = .ok (.getfield 71, 3) := by decide +kernel
theorem dX4_addBin_146 : decode cX4_addBin 146 = .ok (.aload_n 0, 1) := by decide +kernel
theorem dX4_addBin_147 : decode cX4_addBin 147 = .ok (.getfield 93, 3) := by decide +kernel
theorem dX4_addBin_150 : decode cX4_addBin 150 = .ok (.iastore, 1) := by decide +kernel
theorem dX4_addBin_151 : decode cX4_addBin 151 = .ok (.aload_n 0, 1) := by decide +kernel
theorem dX4_addBin_152 : decode cX4_addBin 152 = .ok (.dup, 1) := by decide +kernel
theorem dX4_addBin_153 : decode cX4_addBin 153 = .ok (.getfield 71, 3) := by decide +kernel
theorem dX4_addBin_156 : decode cX4_addBin 156 = .ok (.iconst 1, 1) := by decide +kernel
theorem dX4_addBin_157 : decode cX4_addBin 157 = .ok (.iadd, 1) := by decide +kernel
theorem dX4_addBin_158 : decode cX4_addBin 158 = .ok (.putfield 71, 3) := by decide +kernel
theorem dX4_addBin_161 : decode cX4_addBin 161 = .ok (.aload_n 0, 1) := by decide +kernel
theorem dX4_addBin_162 : decode cX4_addBin 162 = .ok (.getfield 71, 3) := by decide +kernel
theorem dX4_addBin_165 : decode cX4_addBin 165 = .ok (.iconst 1, 1) := by decide +kernel
theorem dX4_addBin_166 : decode cX4_addBin 166 = .ok (.isub, 1) := by decide +kernel
theorem dX4_addBin_167 : decode cX4_addBin 167 = .ok (.ireturn, 1) := by decide +kernel
set_option maxRecDepth 20000 in
theorem ggX4_setGrowth_X4_isBin : GoodIn wsX4_setGrowth wsX4_isBin := goodIn_r _ [7, 8, 9, 10, 6, 11, 16, 17, 18, 19, 20, 21, 22, 23, 24, 25, 26, 27, 28, 29, 30, 31, 32, 33, 34, 35, 36] (by decide +kernel) (by decide +kernel)
set_option maxRecDepth 20000 in
theorem gX4_setGrowth_X4_isBin : GoodIn wsX4_setGrowth (wsV RX4 105 RX4 yX4_isBin wsX4_isBin) := goodIn_app (goodIn_of _ (by decide +kernel)) ggX4_setGrowth_X4_isBin
set_option maxRecDepth 20000 in
theorem ggX4_setGrowth_X4_fail : GoodIn wsX4_setGrowth wsX4_fail := goodIn_r _ [15, 1, 16, 17, 18, 19, 20, 21, 22, 23, 24, 25, 26, 27, 28, 29, 30, 31, 32, 33, 34, 35, 36] (by decide +kernel) (by decide +kernel)
set_option maxRecDepth 20000 in
theorem gX4_setGrowth_X4_fail : GoodIn wsX4_setGrowth (wsV RX4 74 RX4 yX4_fail wsX4_fail) := goodIn_app (goodIn_of _ (by decide +kernel)) ggX4_setGrowth_X4_fail
set_option maxRecDepth 20000 in
theorem ggX4_setGrowth_X4_isIn : GoodIn wsX4_setGrowth wsX4_isIn := goodIn_r _ [11] (by decide +kernel) (by decide +kernel)
set_option maxRecDepth 20000 in
theorem gX4_setGrowth_X4_isIn : GoodIn wsX4_setGrowth (va_wsS RX4 67 yX4_isIn wsX4_isIn) := goodIn_app (goodIn_of _ (by decide +kernel)) ggX4_setGrowth_X4_isIn
theorem dX4_setGrowth_0 : decode cX4_setGrowth 0 = .ok (.aload_n 0, 1) := by decide +kernel
theorem dX4_setGrowth_1 : decode cX4_setGrowth 1 = .ok (.iconst 0, 1) := by decide +kernel
theorem dX4_setGrowth_2 : decode cX4_setGrowth 2 = .ok (.putfield 64, 3) := by decide +kernel
theorem dX4_setGrowth_5 : decode cX4_setGrowth 5 = .ok (.aload_n 0, 1) := by decide +kernel
theorem dX4_setGrowth_6 : decode cX4_setGrowth 6 = .ok (.iload_n 1, 1) := by decide +kernel
theorem dX4_setGrowth_7 : decode cX4_setGrowth 7 = .ok (.invokevirtual 105, 3) := by decide +kernel
theorem dX4_setGrowth_10 : decode cX4_setGrowth 10 = .ok (.ifCond .ne 9, 3) := by decide +kernel
theorem dX4_setGrowth_13 : decode cX4_setGrowth 13 = .ok (.aload_n 0, 1) := by decide +kernel
theorem dX4_setGrowth_14 : decode cX4_setGrowth 14 = .ok (.iconst 1, 1) := by decide +kernel
theorem dX4_setGrowth_15 : decode cX4_setGrowth 15 = .ok (.invokevirtual 74, 3) := by decide +kernel
theorem dX4_setGrowth_18 : decode cX4_setGrowth 18 = .ok (.ireturn, 1) := by decide +kernel
theorem dX4_setGrowth_19 : decode cX4_setGrowth 19 = .ok (.iload_n 2, 1) := by decide +kernel
theorem dX4_setGrowth_20 : decode cX4_setGrowth 20 = .ok (.iconst 0, 1) := by decide +kernel
theorem dX4_setGrowth_21 : decode cX4_setGrowth 21 = .ok (.sipush 200, 3) := by decide +kernel
theorem dX4_setGrowth_24 : decode cX4_setGrowth 24 = .ok (.invokestatic 67, 3) := by decide +kernel
theorem dX4_setGrowth_27 : decode cX4_setGrowth 27 = .ok (.ifCond .ne 9, 3) := by decide +kernel
theorem dX4_setGrowth_30 : decode cX4_setGrowth 30 = .ok (.aload_n 0, 1) := by decide +kernel
theorem dX4_setGrowth_31 : decode cX4_setGrowth 31 = .ok (.iconst 2, 1) := by decide +kernel
theorem dX4_setGrowth_32 : decode cX4_setGrowth 32 = .ok (.invokevirtual 74, 3) := by decide +kernel
theorem dX4_setGrowth_35 : decode cX4_setGrowth 35 = .ok (.ireturn, 1) := by decide +kernel
theorem dX4_setGrowth_36 : decode cX4_setGrowth 36 = .ok (.aload_n 0, 1) := by decide +kernel
theorem dX4_setGrowth_37 : decode cX4_setGrowth 37 = .ok (.getfield 33, 3) := by decide +kernel
theorem dX4_setGrowth_40 : decode cX4_setGrowth 40 = .ok (.iload_n 1, 1) := by decide +kernel
theorem dX4_setGrowth_41 : decode cX4_setGrowth 41 = .ok (.iaload, 1) := by decide +kernel
theorem dX4_setGrowth_42 : decode cX4_setGrowth 42 = .ok (.istore_n 3, 1) := by decide +kernel
theorem dX4_setGrowth_43 : decode cX4_setGrowth 43 = .ok (.aload_n 0, 1) := by decide +kernel
theorem dX4_setGrowth_44 : decode cX4_setGrowth 44 = .ok (.getfield 33, 3) := by decide +kernel
theorem dX4_setGrowth_47 : decode cX4_setGrowth 47 = .ok (.iload_n 1, 1) := by decide +kernel
theorem dX4_setGrowth_48 : decode cX4_setGrowth 48 = .ok (.iload_n 2, 1) := by decide +kernel
theorem dX4_setGrowth_49 : decode cX4_setGrowth 49 = .ok (.iastore, 1) := by decide +kernel
theorem dX4_setGrowth_50 : decode cX4_setGrowth 50 = .ok (.iload_n 3, 1) := by decide +kernel
theorem dX4_setGrowth_51 : decode cX4_setGrowth 51 = .ok (.ireturn, 1) := by decide +kernel
set_option maxRecDepth 20000 in
theorem ggX4_soil_X4_isBin : GoodIn wsX4_soil wsX4_isBin := goodIn_r _ [7, 8, 9, 10, 6, 11, 12, 13, 14, 15, 16, 17, 18, 19, 20, 21, 22, 23, 24, 25, 26, 27, 28, 29, 30, 31, 32] (by decide +kernel) (by decide +kernel)
set_option maxRecDepth 20000 in
theorem gX4_soil_X4_isBin : GoodIn wsX4_soil (wsV RX4 105 RX4 yX4_isBin wsX4_isBin) := goodIn_app (goodIn_of _ (by decide +kernel)) ggX4_soil_X4_isBin
theorem dX4_soil_0 : decode cX4_soil 0 = .ok (.aload_n 0, 1) := by decide +kernel
theorem dX4_soil_1 : decode cX4_soil 1 = .ok (.aload_n 0, 1) := by decide +kernel
theorem dX4_soil_2 : decode cX4_soil 2 = .ok (.iload_n 1, 1) := by decide +kernel
theorem dX4_soil_3 : decode cX4_soil 3 = .ok (.invokevirtual 105, 3) := by decide +kernel
theorem dX4_soil_6 : decode cX4_soil 6 = .ok (.ifCond .eq 7, 3) := by decide +kernel
theorem dX4_soil_9 : decode cX4_soil 9 = .ok (.iconst 0, 1) := by decide +kernel
theorem dX4_soil_10 : decode cX4_soil 10 = .ok (.goto 4, 3) := by decide +kernel
theorem dX4_soil_13 : decode cX4_soil 13 = .ok (.iconst 1, 1) := by decide +kernel
theorem dX4_soil_14 : decode cX4_soil 14 = .ok (.putfield 64, 3) := by decide +kernel
theorem dX4_soil_17 : decode cX4_soil 17 = .ok (.aload_n 0, 1) := by decide +kernel
theorem dX4_soil_18 : decode cX4_soil 18 = .ok (.getfield 64, 3) := by decide +kernel
theorem dX4_soil_21 : decode cX4_soil 21 = .ok (.ifCond .eq 5, 3) := by decide +kernel
theorem dX4_soil_24 : decode cX4_soil 24 = .ok (.iconst 0, 1) := by decide +kernel
theorem dX4_soil_25 : decode cX4_soil 25 = .ok (.ireturn, 1) := by decide +kernel
theorem dX4_soil_26 : decode cX4_soil 26 = .ok (.aload_n 0, 1) := by decide +kernel
theorem dX4_soil_27 : decode cX4_soil 27 = .ok (.getfield 51, 3) := by decide +kernel
theorem dX4_soil_30 : decode cX4_soil 30 = .ok (.iload_n 1, 1) := by decide +kernel
theorem dX4_soil_31 : decode cX4_soil 31 = .ok (.baload, 1) := by decide +kernel
theorem dX4_soil_32 : decode cX4_soil 32 = .ok (.istore_n 2, 1) := by decide +kernel
theorem dX4_soil_33 : decode cX4_soil 33 = .ok (.aload_n 0, 1) := by decide +kernel
theorem dX4_soil_34 : decode cX4_soil 34 = .ok (.getfield 51, 3) := by decide +kernel
theorem dX4_soil_37 : decode cX4_soil 37 = .ok (.iload_n 1, 1) := by decide +kernel
theorem dX4_soil_38 : decode cX4_soil 38 = .ok (.iconst 1, 1) := by decide +kernel
theorem dX4_soil_39 : decode cX4_soil 39 = .ok (.bastore, 1) := by decide +kernel
theorem dX4_soil_40 : decode cX4_soil 40 = .ok (.iload_n 2, 1) := by decide +kernel
theorem dX4_soil_41 : decode cX4_soil 41 = .ok (.ifCond .ne 7, 3) := by decide +kernel
theorem dX4_soil_44 : decode cX4_soil 44 = .ok (.iconst 1, 1) := by decide +kernel
theorem dX4_soil_45 : decode cX4_soil 45 = .ok (.goto 4, 3) := by decide +kernel
theorem dX4_soil_48 : decode cX4_soil 48 = .ok (.iconst 0, 1) := by decide +kernel
theorem dX4_soil_49 : decode cX4_soil 49 = .ok (.ireturn, 1) := by decide +kernel
theorem dX4_binCount_0 : decode cX4_binCount 0 = .ok (.aload_n 0, 1) := by decide +kernel
theorem dX4_binCount_1 : decode cX4_binCount 1 = .ok (.iconst 0, 1) := by decide +kernel
theorem dX4_binCount_2 : decode cX4_binCount 2 = .ok (.putfield 64, 3) := by decide +kernel
theorem dX4_binCount_5 : decode cX4_binCount 5 = .ok (.aload_n 0, 1) := by decide +kernel
theorem dX4_binCount_6 : decode cX4_binCount 6 = .ok (.getfield 71, 3) := by decide +kernel
theorem dX4_binCount_9 : decode cX4_binCount 9 = .ok (.ireturn, 1) := by decide +kernel
theorem dX4_told_0 : decode cX4_told 0 = .ok (.iload_n 2, 1) := by decide +kernel
theorem dX4_told_1 : decode cX4_told 1 = .ok (.tableswitch 92 0 6 #[43, 50, 57, 64, 71, 78, 85], 43) := by decide +kernel
theorem dX4_told_44 : decode cX4_told 44 = .ok (.aload_n 0, 1) := by decide +kernel
theorem dX4_told_45 : decode cX4_told 45 = .ok (.getfield 24, 3) := by decide +kernel
theorem dX4_told_48 : decode cX4_told 48 = .ok (.iload_n 1, 1) := by decide +kernel
theorem dX4_told_49 : decode cX4_told 49 = .ok (.iaload, 1) := by decide +kernel
theorem dX4_told_50 : decode cX4_told 50 = .ok (.ireturn, 1) := by decide +kernel
theorem dX4_told_51 : decode cX4_told 51 = .ok (.aload_n 0, 1) := by decide +kernel
theorem dX4_told_52 : decode cX4_told 52 = .ok (.getfield 27, 3) := by decide +kernel
theorem dX4_told_55 : decode cX4_told 55 = .ok (.iload_n 1, 1) := by decide +kernel
theorem dX4_told_56 : decode cX4_told 56 = .ok (.iaload, 1) := by decide +kernel
theorem dX4_told_57 : decode cX4_told 57 = .ok (.ireturn, 1) := by decide +kernel
theorem dX4_told_58 : decode cX4_told 58 = .ok (.aload_n 0, 1) := by decide +kernel
theorem dX4_told_59 : decode cX4_told 59 = .ok (.getfield 36, 3) := by decide +kernel
theorem dX4_told_62 : decode cX4_told 62 = .ok (.iload_n 1, 1) := by decide +kernel
theorem dX4_told_63 : decode cX4_told 63 = .ok (.iaload, 1) := by decide +kernel
theorem dX4_told_64 : decode cX4_told 64 = .ok (.ireturn, 1) := by decide +kernel
theorem dX4_told_65 : decode cX4_told 65 = .ok (.aload_n 0, 1) := by decide +kernel
theorem dX4_told_66 : decode cX4_told 66 = .ok (.getfield 39, 3) := by decide +kernel
theorem dX4_told_69 : decode cX4_told 69 = .ok (.iload_n 1, 1) := by decide +kernel
theorem dX4_told_70 : decode cX4_told 70 = .ok (.iaload, 1) := by decide +kernel
theorem dX4_told_71 : decode cX4_told 71 = .ok (.ireturn, 1) := by decide +kernel
theorem dX4_told_72 : decode cX4_told 72 = .ok (.aload_n 0, 1) := by decide +kernel
theorem dX4_told_73 : decode cX4_told 73 = .ok (.getfield 42, 3) := by decide +kernel
theorem dX4_told_76 : decode cX4_told 76 = .ok (.iload_n 1, 1) := by decide +kernel
theorem dX4_told_77 : decode cX4_told 77 = .ok (.iaload, 1) := by decide +kernel
theorem dX4_told_78 : decode cX4_told 78 = .ok (.ireturn, 1) := by decide +kernel
theorem dX4_told_79 : decode cX4_told 79 = .ok (.aload_n 0, 1) := by decide +kernel
theorem dX4_told_80 : decode cX4_told 80 = .ok (.getfield 45, 3) := by decide +kernel
theorem dX4_told_83 : decode cX4_told 83 = .ok (.iload_n 1, 1) := by decide +kernel
theorem dX4_told_84 : decode cX4_told 84 = .ok (.iaload, 1) := by decide +kernel
theorem dX4_told_85 : decode cX4_told 85 = .ok (.ireturn, 1) := by decide +kernel
theorem dX4_told_86 : decode cX4_told 86 = .ok (.aload_n 0, 1) := by decide +kernel
theorem dX4_told_87 : decode cX4_told 87 = .ok (.getfield 48, 3) := by decide +kernel
theorem dX4_told_90 : decode cX4_told 90 = .ok (.iload_n 1, 1) := by decide +kernel
theorem dX4_told_91 : decode cX4_told 91 = .ok (.iaload, 1) := by decide +kernel
theorem dX4_told_92 : decode cX4_told 92 = .ok (.ireturn, 1) := by decide +kernel
theorem dX4_told_93 : decode cX4_told 93 = .ok (.aload_n 0, 1) := by decide +kernel
theorem dX4_told_94 : decode cX4_told 94 = .ok (.getfield 51, 3) := by decide +kernel
theorem dX4_told_97 : decode cX4_told 97 = .ok (.iload_n 1, 1) := by decide +kernel
theorem dX4_told_98 : decode cX4_told 98 = .ok (.baload, 1) := by decide +kernel
theorem dX4_told_99 : decode cX4_told 99 = .ok (.ifCond .eq 7, 3) := by decide +kernel
theorem dX4_told_102 : decode cX4_told 102 = .ok (.iconst 1, 1) := by decide +kernel
theorem dX4_told_103 : decode cX4_told 103 = .ok (.goto 4, 3) := by decide +kernel
theorem dX4_told_106 : decode cX4_told 106 = .ok (.iconst 0, 1) := by decide +kernel
theorem dX4_told_107 : decode cX4_told 107 = .ok (.ireturn, 1) := by decide +kernel
set_option maxRecDepth 20000 in
theorem ggX4_bin_X4_isBin : GoodIn wsX4_bin wsX4_isBin := goodIn_r _ [6, 7, 8, 9, 5, 10, 27, 28, 29, 30, 31, 32, 33, 34, 35, 36, 37, 38, 39, 40, 41, 42, 43, 44, 45, 46, 47] (by decide +kernel) (by decide +kernel)
set_option maxRecDepth 20000 in
theorem gX4_bin_X4_isBin : GoodIn wsX4_bin (wsV RX4 105 RX4 yX4_isBin wsX4_isBin) := goodIn_app (goodIn_of _ (by decide +kernel)) ggX4_bin_X4_isBin
set_option maxRecDepth 20000 in
theorem ggX4_bin_X4_isIn : GoodIn wsX4_bin wsX4_isIn := goodIn_r _ [10] (by decide +kernel) (by decide +kernel)
set_option maxRecDepth 20000 in
theorem gX4_bin_X4_isIn : GoodIn wsX4_bin (va_wsS RX4 67 yX4_isIn wsX4_isIn) := goodIn_app (goodIn_of _ (by decide +kernel)) ggX4_bin_X4_isIn
set_option maxRecDepth 20000 in
theorem ggX4_bin_X4_told : GoodIn wsX4_bin wsX4_told := goodIn_r _ [14, 15, 16, 17, 18, 19, 20, 21, 22, 27, 28, 29, 30, 31, 32, 33, 34, 35, 36, 37, 38, 39, 40, 41, 42, 43, 44, 45, 46, 47] (by decide +kernel) (by decide +kernel)
set_option maxRecDepth 20000 in
theorem gX4_bin_X4_told : GoodIn wsX4_bin (wsV RX4 108 RX4 yX4_told wsX4_told) := goodIn_app (goodIn_of _ (by decide +kernel)) ggX4_bin_X4_told
set_option maxRecDepth 20000 in
theorem ggX4_bin_X4_fail : GoodIn wsX4_bin wsX4_fail := goodIn_r _ [26, 1, 27, 28, 29, 30, 31, 32, 33, 34, 35, 36, 37, 38, 39, 40, 41, 42, 43, 44, 45, 46, 47] (by decide +kernel) (by decide +kernel)
set_option maxRecDepth 20000 in
theorem gX4_bin_X4_fail : GoodIn wsX4_bin (wsV RX4 74 RX4 yX4_fail wsX4_fail) := goodIn_app (goodIn_of _ (by decide +kernel)) ggX4_bin_X4_fail
theorem dX4_bin_0 : decode cX4_bin 0 = .ok (.aload_n 0, 1) := by decide +kernel
theorem dX4_bin_1 : decode cX4_bin 1 = .ok (.iconst 0, 1) := by decide +kernel
theorem dX4_bin_2 : decode cX4_bin 2 = .ok (.putfield 64, 3) := by decide +kernel
theorem dX4_bin_5 : decode cX4_bin 5 = .ok (.aload_n 0, 1) := by decide +kernel
theorem dX4_bin_6 : decode cX4_bin 6 = .ok (.iload_n 1, 1) := by decide +kernel
theorem dX4_bin_7 : decode cX4_bin 7 = .ok (.invokevirtual 105, 3) := by decide +kernel
theorem dX4_bin_10 : decode cX4_bin 10 = .ok (.ifCond .eq 22, 3) := by decide +kernel
theorem dX4_bin_13 : decode cX4_bin 13 = .ok (.iload_n 2, 1) := by decide +kernel
theorem dX4_bin_14 : decode cX4_bin 14 = .ok (.iconst 0, 1) := by decide +kernel
theorem dX4_bin_15 : decode cX4_bin 15 = .ok (.bipush 7, 2) := by decide +kernel
theorem dX4_bin_17 : decode cX4_bin 17 = .ok (.invokestatic 67, 3) := by decide +kernel
theorem dX4_bin_20 : decode cX4_bin 20 = .ok (.ifCond .eq 12, 3) := by decide +kernel
theorem dX4_bin_23 : decode cX4_bin 23 = .ok (.aload_n 0, 1) := by decide +kernel
theorem dX4_bin_24 : decode cX4_bin 24 = .ok (.iload_n 1, 1) := by decide +kernel
theorem dX4_bin_25 : decode cX4_bin 25 = .ok (.iload_n 2, 1) := by decide +kernel
theorem dX4_bin_26 : decode cX4_bin 26 = .ok (.invokevirtual 108, 3) := by decide +kernel
theorem dX4_bin_29 : decode cX4_bin 29 = .ok (.goto 8, 3) := by decide +kernel
theorem dX4_bin_32 : decode cX4_bin 32 = .ok (.aload_n 0, 1) := by decide +kernel
theorem dX4_bin_33 : decode cX4_bin 33 = .ok (.iconst 1, 1) := by decide +kernel
theorem dX4_bin_34 : decode cX4_bin 34 = .ok (.invokevirtual 74, 3) := by decide +kernel
theorem dX4_bin_37 : decode cX4_bin 37 = .ok (.ireturn, 1) := by decide +kernel
theorem dX4_expectedOn_0 : decode cX4_expectedOn 0 = .ok (.aload_n 0, 1) := by decide +kernel
theorem dX4_expectedOn_1 : decode cX4_expectedOn 1 = .ok (.getfield 30, 3) := by decide +kernel
theorem dX4_expectedOn_4 : decode cX4_expectedOn 4 = .ok (.iload_n 1, 1) := by decide +kernel
theorem dX4_expectedOn_5 : decode cX4_expectedOn 5 = .ok (.iaload, 1) := by decide +kernel
theorem dX4_expectedOn_6 : decode cX4_expectedOn 6 = .ok (.aload_n 0, 1) := by decide +kernel
theorem dX4_expectedOn_7 : decode cX4_expectedOn 7 = .ok (.getfield 39, 3) := by decide +kernel
theorem dX4_expectedOn_10 : decode cX4_expectedOn 10 = .ok (.iload_n 1, 1) := by decide +kernel
theorem dX4_expectedOn_11 : decode cX4_expectedOn 11 = .ok (.iaload, 1) := by decide +kernel
theorem dX4_expectedOn_12 : decode cX4_expectedOn 12 = .ok (.iload_n 2, 1) := by decide +kernel
theorem dX4_expectedOn_13 : decode cX4_expectedOn 13 = .ok (.aload_n 0, 1) := by decide +kernel
theorem dX4_expectedOn_14 : decode cX4_expectedOn 14 = .ok (.getfield 42, 3) := by decide +kernel
theorem dX4_expectedOn_17 : decode cX4_expectedOn 17 = .ok (.iload_n 1, 1) := by decide +kernel
theorem dX4_expectedOn_18 : decode cX4_expectedOn 18 = .ok (.iaload, 1) := by decide +kernel
theorem dX4_expectedOn_19 : decode cX4_expectedOn 19 = .ok (.isub, 1) := by decide +kernel
theorem dX4_expectedOn_20 : decode cX4_expectedOn 20 = .ok (.imul, 1) := by decide +kernel
theorem dX4_expectedOn_21 : decode cX4_expectedOn 21 = .ok (.bipush 10, 2) := by decide +kernel
end
section
theorem dX4_expectedOn_23 : decode cX4_expectedOn 23 = .ok (.idiv, 1) := by decide +kernel
theorem dX4_expectedOn_24 : decode cX4_expectedOn 24 = .ok (.invokestatic 111, 3) := by decide +kernel
theorem dX4_expectedOn_27 : decode cX4_expectedOn 27 = .ok (.ireturn, 1) := by decide +kernel
set_option maxRecDepth 20000 in
theorem ggX4_expected_X4_isBin : GoodIn wsX4_expected wsX4_isBin := goodIn_r _ [7, 8, 9, 10, 6, 11, 27, 28, 29, 30, 31, 32, 33, 34, 35, 36, 37, 38, 39, 40, 41, 42, 43, 44, 45, 46, 47] (by decide +kernel) (by decide +kernel)
set_option maxRecDepth 20000 in
theorem gX4_expected_X4_isBin : GoodIn wsX4_expected (wsV RX4 105 RX4 yX4_isBin wsX4_isBin) := goodIn_app (goodIn_of _ (by decide +kernel)) ggX4_expected_X4_isBin
set_option maxRecDepth 20000 in
theorem ggX4_expected_X4_fail : GoodIn wsX4_expected wsX4_fail := goodIn_r _ [15, 1, 27, 28, 29, 30, 31, 32, 33, 34, 35, 36, 37, 38, 39, 40, 41, 42, 43, 44, 45, 46, 47] (by decide +kernel) (by decide +kernel)
set_option maxRecDepth 20000 in
theorem gX4_expected_X4_fail : GoodIn wsX4_expected (wsV RX4 74 RX4 yX4_fail wsX4_fail) := goodIn_app (goodIn_of _ (by decide +kernel)) ggX4_expected_X4_fail
set_option maxRecDepth 20000 in
theorem ggX4_expected_X4_isIn : GoodIn wsX4_expected wsX4_isIn := goodIn_r _ [11] (by decide +kernel) (by decide +kernel)
set_option maxRecDepth 20000 in
theorem gX4_expected_X4_isIn : GoodIn wsX4_expected (va_wsS RX4 67 yX4_isIn wsX4_isIn) := goodIn_app (goodIn_of _ (by decide +kernel)) ggX4_expected_X4_isIn
set_option maxRecDepth 20000 in
theorem ggX4_expected_X4_expectedOn : GoodIn wsX4_expected wsX4_expectedOn := goodIn_r _ [19, 20, 21, 22, 23, 24, 25, 26, 27, 28, 29, 30, 31, 32, 33, 34, 35, 36, 37, 38, 39, 40, 41, 42, 43, 44, 45, 46, 47] (by decide +kernel) (by decide +kernel)
set_option maxRecDepth 20000 in
theorem gX4_expected_X4_expectedOn : GoodIn wsX4_expected (wsV RX4 114 RX4 yX4_expectedOn wsX4_expectedOn) := goodIn_app (goodIn_of _ (by decide +kernel)) ggX4_expected_X4_expectedOn
theorem dX4_expected_0 : decode cX4_expected 0 = .ok (.aload_n 0, 1) := by decide +kernel
theorem dX4_expected_1 : decode cX4_expected 1 = .ok (.iconst 0, 1) := by decide +kernel
theorem dX4_expected_2 : decode cX4_expected 2 = .ok (.putfield 64, 3) := by decide +kernel
theorem dX4_expected_5 : decode cX4_expected 5 = .ok (.aload_n 0, 1) := by decide +kernel
theorem dX4_expected_6 : decode cX4_expected 6 = .ok (.iload_n 1, 1) := by decide +kernel
theorem dX4_expected_7 : decode cX4_expected 7 = .ok (.invokevirtual 105, 3) := by decide +kernel
theorem dX4_expected_10 : decode cX4_expected 10 = .ok (.ifCond .ne 9, 3) := by decide +kernel
theorem dX4_expected_13 : decode cX4_expected 13 = .ok (.aload_n 0, 1) := by decide +kernel
theorem dX4_expected_14 : decode cX4_expected 14 = .ok (.iconst 1, 1) := by decide +kernel
theorem dX4_expected_15 : decode cX4_expected 15 = .ok (.invokevirtual 74, 3) := by decide +kernel
theorem dX4_expected_18 : decode cX4_expected 18 = .ok (.ireturn, 1) := by decide +kernel
theorem dX4_expected_19 : decode cX4_expected 19 = .ok (.iload_n 2, 1) := by decide +kernel
theorem dX4_expected_20 : decode cX4_expected 20 = .ok (.aload_n 0, 1) := by decide +kernel
theorem dX4_expected_21 : decode cX4_expected 21 = .ok (.getfield 93, 3) := by decide +kernel
theorem dX4_expected_24 : decode cX4_expected 24 = .ok (.sipush 999, 3) := by decide +kernel
theorem dX4_expected_27 : decode cX4_expected 27 = .ok (.invokestatic 67, 3) := by decide +kernel
theorem dX4_expected_30 : decode cX4_expected 30 = .ok (.ifCond .eq 12, 3) := by decide +kernel
theorem dX4_expected_33 : decode cX4_expected 33 = .ok (.aload_n 0, 1) := by decide +kernel
theorem dX4_expected_34 : decode cX4_expected 34 = .ok (.iload_n 1, 1) := by decide +kernel
theorem dX4_expected_35 : decode cX4_expected 35 = .ok (.iload_n 2, 1) := by decide +kernel
theorem dX4_expected_36 : decode cX4_expected 36 = .ok (.invokevirtual 114, 3) := by decide +kernel
theorem dX4_expected_39 : decode cX4_expected 39 = .ok (.goto 8, 3) := by decide +kernel
theorem dX4_expected_42 : decode cX4_expected 42 = .ok (.aload_n 0, 1) := by decide +kernel
theorem dX4_expected_43 : decode cX4_expected 43 = .ok (.iconst 2, 1) := by decide +kernel
theorem dX4_expected_44 : decode cX4_expected 44 = .ok (.invokevirtual 74, 3) := by decide +kernel
theorem dX4_expected_47 : decode cX4_expected 47 = .ok (.ireturn, 1) := by decide +kernel
set_option maxRecDepth 20000 in
theorem ggX4_fullOn_X4_isBin : GoodIn wsX4_fullOn wsX4_isBin := goodIn_r _ [8, 9, 10, 11, 7, 12, 27, 28, 29, 30, 31, 32, 33, 34, 35, 36, 37, 38, 39, 40, 41, 42, 43, 44, 45, 46, 47] (by decide +kernel) (by decide +kernel)
set_option maxRecDepth 20000 in
theorem gX4_fullOn_X4_isBin : GoodIn wsX4_fullOn (wsV RX4 105 RX4 yX4_isBin wsX4_isBin) := goodIn_app (goodIn_of _ (by decide +kernel)) ggX4_fullOn_X4_isBin
set_option maxRecDepth 20000 in
theorem ggX4_fullOn_X4_fail : GoodIn wsX4_fullOn wsX4_fail := goodIn_r _ [16, 1, 27, 28, 29, 30, 31, 32, 33, 34, 35, 36, 37, 38, 39, 40, 41, 42, 43, 44, 45, 46, 47] (by decide +kernel) (by decide +kernel)
set_option maxRecDepth 20000 in
theorem gX4_fullOn_X4_fail : GoodIn wsX4_fullOn (wsV RX4 74 RX4 yX4_fail wsX4_fail) := goodIn_app (goodIn_of _ (by decide +kernel)) ggX4_fullOn_X4_fail
set_option maxRecDepth 20000 in
theorem ggX4_fullOn_X4_expectedOn : GoodIn wsX4_fullOn wsX4_expectedOn := goodIn_r _ [20, 3, 21, 22, 23, 24, 25, 26, 27, 28, 29, 30, 31, 32, 33, 34, 35, 36, 37, 38, 39, 40, 41, 42, 43, 44, 45, 46, 47] (by decide +kernel) (by decide +kernel)
set_option maxRecDepth 20000 in
theorem gX4_fullOn_X4_expectedOn : GoodIn wsX4_fullOn (wsV RX4 114 RX4 yX4_expectedOn wsX4_expectedOn) := goodIn_app (goodIn_of _ (by decide +kernel)) ggX4_fullOn_X4_expectedOn
theorem dX4_fullOn_0 : decode cX4_fullOn 0 = .ok (.aload_n 0, 1) := by decide +kernel
theorem dX4_fullOn_1 : decode cX4_fullOn 1 = .ok (.iconst 0, 1) := by decide +kernel
theorem dX4_fullOn_2 : decode cX4_fullOn 2 = .ok (.putfield 64, 3) := by decide +kernel
theorem dX4_fullOn_5 : decode cX4_fullOn 5 = .ok (.aload_n 0, 1) := by decide +kernel
theorem dX4_fullOn_6 : decode cX4_fullOn 6 = .ok (.iload_n 1, 1) := by decide +kernel
theorem dX4_fullOn_7 : decode cX4_fullOn 7 = .ok (.invokevirtual 105, 3) := by decide +kernel
theorem dX4_fullOn_10 : decode cX4_fullOn 10 = .ok (.ifCond .ne 9, 3) := by decide +kernel
theorem dX4_fullOn_13 : decode cX4_fullOn 13 = .ok (.aload_n 0, 1) := by decide +kernel
theorem dX4_fullOn_14 : decode cX4_fullOn 14 = .ok (.iconst 1, 1) := by decide +kernel
theorem dX4_fullOn_15 : decode cX4_fullOn 15 = .ok (.invokevirtual 74, 3) := by decide +kernel
theorem dX4_fullOn_18 : decode cX4_fullOn 18 = .ok (.ireturn, 1) := by decide +kernel
theorem dX4_fullOn_19 : decode cX4_fullOn 19 = .ok (.aload_n 0, 1) := by decide +kernel
theorem dX4_fullOn_20 : decode cX4_fullOn 20 = .ok (.getfield 93, 3) := by decide +kernel
theorem dX4_fullOn_23 : decode cX4_fullOn 23 = .ok (.istore_n 2, 1) := by decide +kernel
theorem dX4_fullOn_24 : decode cX4_fullOn 24 = .ok (.iload_n 2, 1) := by decide +kernel
theorem dX4_fullOn_25 : decode cX4_fullOn 25 = .ok (.sipush 999, 3) := by decide +kernel
theorem dX4_fullOn_28 : decode cX4_fullOn 28 = .ok (.if_icmp .gt 26, 3) := by decide +kernel
theorem dX4_fullOn_31 : decode cX4_fullOn 31 = .ok (.aload_n 0, 1) := by decide +kernel
theorem dX4_fullOn_32 : decode cX4_fullOn 32 = .ok (.iload_n 1, 1) := by decide +kernel
theorem dX4_fullOn_33 : decode cX4_fullOn 33 = .ok (.iload_n 2, 1) := by decide +kernel
theorem dX4_fullOn_34 : decode cX4_fullOn 34 = .ok (.invokevirtual 114, 3) := by decide +kernel
theorem dX4_fullOn_37 : decode cX4_fullOn 37 = .ok (.aload_n 0, 1) := by decide +kernel
theorem dX4_fullOn_38 : decode cX4_fullOn 38 = .ok (.getfield 30, 3) := by decide +kernel
theorem dX4_fullOn_41 : decode cX4_fullOn 41 = .ok (.iload_n 1, 1) := by decide +kernel
theorem dX4_fullOn_42 : decode cX4_fullOn 42 = .ok (.iaload, 1) := by decide +kernel
theorem dX4_fullOn_43 : decode cX4_fullOn 43 = .ok (.if_icmp .ne 5, 3) := by decide +kernel
theorem dX4_fullOn_46 : decode cX4_fullOn 46 = .ok (.iload_n 2, 1) := by decide +kernel
theorem dX4_fullOn_47 : decode cX4_fullOn 47 = .ok (.ireturn, 1) := by decide +kernel
theorem dX4_fullOn_48 : decode cX4_fullOn 48 = .ok (.iinc 2 1, 3) := by decide +kernel
theorem dX4_fullOn_51 : decode cX4_fullOn 51 = .ok (.goto (-27), 3) := by decide +kernel
theorem dX4_fullOn_54 : decode cX4_fullOn 54 = .ok (.iconst (-1), 1) := by decide +kernel
theorem dX4_fullOn_55 : decode cX4_fullOn 55 = .ok (.ireturn, 1) := by decide +kernel
set_option maxRecDepth 20000 in
theorem ggX4_isDue_X4_expectedOn : GoodIn wsX4_isDue wsX4_expectedOn := goodIn_r _ [7, 2, 8, 9, 10, 11, 12, 13, 19, 20, 21, 22, 23, 24, 25, 26, 27, 28, 29, 30, 31, 32, 33, 34, 35, 36, 37, 38, 39] (by decide +kernel) (by decide +kernel)
set_option maxRecDepth 20000 in
theorem gX4_isDue_X4_expectedOn : GoodIn wsX4_isDue (wsV RX4 114 RX4 yX4_expectedOn wsX4_expectedOn) := goodIn_app (goodIn_of _ (by decide +kernel)) ggX4_isDue_X4_expectedOn
set_option maxRecDepth 20000 in
theorem ggX4_isDue_X4_workday : GoodIn wsX4_isDue wsX4_workday := goodIn_r _ [17, 1, 18, 19, 20, 21, 22, 23, 24, 25, 26, 27, 28, 29, 30, 31, 32, 33, 34, 35, 36, 37, 38, 39] (by decide +kernel) (by decide +kernel)
set_option maxRecDepth 20000 in
theorem gX4_isDue_X4_workday : GoodIn wsX4_isDue (wsV RX4 101 RX4 yX4_workday wsX4_workday) := goodIn_app (goodIn_of _ (by decide +kernel)) ggX4_isDue_X4_workday
theorem dX4_isDue_0 : decode cX4_isDue 0 = .ok (.iconst 4, 1) := by decide +kernel
theorem dX4_isDue_1 : decode cX4_isDue 1 = .ok (.aload_n 0, 1) := by decide +kernel
theorem dX4_isDue_2 : decode cX4_isDue 2 = .ok (.iload_n 1, 1) := by decide +kernel
theorem dX4_isDue_3 : decode cX4_isDue 3 = .ok (.aload_n 0, 1) := by decide +kernel
theorem dX4_isDue_4 : decode cX4_isDue 4 = .ok (.getfield 93, 3) := by decide +kernel
theorem dX4_isDue_7 : decode cX4_isDue 7 = .ok (.invokevirtual 114, 3) := by decide +kernel
theorem dX4_isDue_10 : decode cX4_isDue 10 = .ok (.imul, 1) := by decide +kernel
theorem dX4_isDue_11 : decode cX4_isDue 11 = .ok (.iconst 3, 1) := by decide +kernel
theorem dX4_isDue_12 : decode cX4_isDue 12 = .ok (.aload_n 0, 1) := by decide +kernel
theorem dX4_isDue_13 : decode cX4_isDue 13 = .ok (.getfield 30, 3) := by decide +kernel
theorem dX4_isDue_16 : decode cX4_isDue 16 = .ok (.iload_n 1, 1) := by decide +kernel
theorem dX4_isDue_17 : decode cX4_isDue 17 = .ok (.iaload, 1) := by decide +kernel
theorem dX4_isDue_18 : decode cX4_isDue 18 = .ok (.imul, 1) := by decide +kernel
theorem dX4_isDue_19 : decode cX4_isDue 19 = .ok (.if_icmp .ge 21, 3) := by decide +kernel
theorem dX4_isDue_22 : decode cX4_isDue 22 = .ok (.aload_n 0, 1) := by decide +kernel
theorem dX4_isDue_23 : decode cX4_isDue 23 = .ok (.iload_n 1, 1) := by decide +kernel
theorem dX4_isDue_24 : decode cX4_isDue 24 = .ok (.aload_n 0, 1) := by decide +kernel
theorem dX4_isDue_25 : decode cX4_isDue 25 = .ok (.invokevirtual 101, 3) := by decide +kernel
theorem dX4_isDue_28 : decode cX4_isDue 28 = .ok (.invokevirtual 114, 3) := by decide +kernel
theorem dX4_isDue_31 : decode cX4_isDue 31 = .ok (.aload_n 0, 1) := by decide +kernel
theorem dX4_isDue_32 : decode cX4_isDue 32 = .ok (.getfield 30, 3) := by decide +kernel
theorem dX4_isDue_35 : decode cX4_isDue 35 = .ok (.iload_n 1, 1) := by decide +kernel
theorem dX4_isDue_36 : decode cX4_isDue 36 = .ok (.iaload, 1) := by decide +kernel
theorem dX4_isDue_37 : decode cX4_isDue 37 = .ok (.if_icmp .ne 7, 3) := by decide +kernel
theorem dX4_isDue_40 : decode cX4_isDue 40 = .ok (.iconst 1, 1) := by decide +kernel
theorem dX4_isDue_41 : decode cX4_isDue 41 = .ok (.goto 4, 3) := by decide +kernel
theorem dX4_isDue_44 : decode cX4_isDue 44 = .ok (.iconst 0, 1) := by decide +kernel
theorem dX4_isDue_45 : decode cX4_isDue 45 = .ok (.ireturn, 1) := by decide +kernel
set_option maxRecDepth 20000 in
theorem ggX4_makePlan_X4_has : GoodIn wsX4_makePlan wsX4_has := goodIn_r _ [9] (by decide +kernel) (by decide +kernel)
set_option maxRecDepth 20000 in
theorem gX4_makePlan_X4_has : GoodIn wsX4_makePlan (va_wsS RX4 89 yX4_has wsX4_has) := goodIn_app (goodIn_of _ (by decide +kernel)) ggX4_makePlan_X4_has
set_option maxRecDepth 20000 in
theorem ggX4_makePlan_X4_isDue : GoodIn wsX4_makePlan wsX4_isDue := goodIn_r _ [13, 14, 15, 16, 17, 18, 8, 19, 20, 21, 22, 23, 24, 25, 26, 27, 28, 29, 30, 36, 37, 38, 39, 40, 41, 42, 43, 44, 45, 46, 47, 48, 49, 50, 51, 52, 53, 54, 55, 56] (by decide +kernel) (by decide +kernel)
set_option maxRecDepth 20000 in
theorem gX4_makePlan_X4_isDue : GoodIn wsX4_makePlan (wsV RX4 120 RX4 yX4_isDue wsX4_isDue) := goodIn_app (goodIn_of _ (by decide +kernel)) ggX4_makePlan_X4_isDue
set_option maxRecDepth 20000 in
theorem ggX4_makePlan_X4_drive : GoodIn wsX4_makePlan wsX4_drive := goodIn_r _ [34, 35, 36, 37, 38, 39, 40, 41, 42, 43, 44, 45, 46, 47, 48, 49, 50, 51, 52, 53, 54, 55, 56] (by decide +kernel) (by decide +kernel)
set_option maxRecDepth 20000 in
theorem gX4_makePlan_X4_drive : GoodIn wsX4_makePlan (wsV RX4 82 RX4 yX4_drive wsX4_drive) := goodIn_app (goodIn_of _ (by decide +kernel)) ggX4_makePlan_X4_drive
theorem dX4_makePlan_0 : decode cX4_makePlan 0 = .ok (.aload_n 0, 1) := by decide +kernel
theorem dX4_makePlan_1 : decode cX4_makePlan 1 = .ok (.iconst 0, 1) := by decide +kernel
theorem dX4_makePlan_2 : decode cX4_makePlan 2 = .ok (.putfield 117, 3) := by decide +kernel
theorem dX4_makePlan_5 : decode cX4_makePlan 5 = .ok (.iconst 0, 1) := by decide +kernel
theorem dX4_makePlan_6 : decode cX4_makePlan 6 = .ok (.istore_n 2, 1) := by decide +kernel
theorem dX4_makePlan_7 : decode cX4_makePlan 7 = .ok (.iconst 0, 1) := by decide +kernel
theorem dX4_makePlan_8 : decode cX4_makePlan 8 = .ok (.istore_n 3, 1) := by decide +kernel
theorem dX4_makePlan_9 : decode cX4_makePlan 9 = .ok (.iconst 1, 1) := by decide +kernel
theorem dX4_makePlan_10 : decode cX4_makePlan 10 = .ok (.istore 4, 2) := by decide +kernel
theorem dX4_makePlan_12 : decode cX4_makePlan 12 = .ok (.iload 4, 2) := by decide +kernel
theorem dX4_makePlan_14 : decode cX4_makePlan 14 = .ok (.ifCond .eq 153, 3) := by decide +kernel
theorem dX4_makePlan_17 : decode cX4_makePlan 17 = .ok (.iconst (-1), 1) := by decide +kernel
theorem dX4_makePlan_18 : decode cX4_makePlan 18 = .ok (.istore 5, 2) := by decide +kernel
theorem dX4_makePlan_20 : decode cX4_makePlan 20 = .ok (.iconst 0, 1) := by decide +kernel
theorem dX4_makePlan_21 : decode cX4_makePlan 21 = .ok (.istore 6, 2) := by decide +kernel
theorem dX4_makePlan_23 : decode cX4_makePlan 23 = .ok (.iload 6, 2) := by decide +kernel
theorem dX4_makePlan_25 : decode cX4_makePlan 25 = .ok (.aload_n 0, 1) := by decide +kernel
theorem dX4_makePlan_26 : decode cX4_makePlan 26 = .ok (.getfield 71, 3) := by decide +kernel
theorem dX4_makePlan_29 : decode cX4_makePlan 29 = .ok (.if_icmp .ge 78, 3) := by decide +kernel
theorem dX4_makePlan_32 : decode cX4_makePlan 32 = .ok (.aload_n 0, 1) := by decide +kernel
theorem dX4_makePlan_33 : decode cX4_makePlan 33 = .ok (.getfield 27, 3) := by decide +kernel
theorem dX4_makePlan_36 : decode cX4_makePlan 36 = .ok (.iload 6, 2) := by decide +kernel
theorem dX4_makePlan_38 : decode cX4_makePlan 38 = .ok (.iaload, 1) := by decide +kernel
theorem dX4_makePlan_39 : decode cX4_makePlan 39 = .ok (.iload_n 1, 1) := by decide +kernel
theorem dX4_makePlan_40 : decode cX4_makePlan 40 = .ok (.if_icmp .ne 61, 3) := by decide +kernel
theorem dX4_makePlan_43 : decode cX4_makePlan 43 = .ok (.iload_n 2, 1) := by decide +kernel
theorem dX4_makePlan_44 : decode cX4_makePlan 44 = .ok (.iload 6, 2) := by decide +kernel
theorem dX4_makePlan_46 : decode cX4_makePlan 46 = .ok (.invokestatic 89, 3) := by decide +kernel
theorem dX4_makePlan_49 : decode cX4_makePlan 49 = .ok (.ifCond .ne 52, 3) := by decide +kernel
theorem dX4_makePlan_52 : decode cX4_makePlan 52 = .ok (.aload_n 0, 1) := by decide +kernel
theorem dX4_makePlan_53 : decode cX4_makePlan 53 = .ok (.iload 6, 2) := by decide +kernel
theorem dX4_makePlan_55 : decode cX4_makePlan 55 = .ok (.invokevirtual 120, 3) := by decide +kernel
theorem dX4_makePlan_58 : decode cX4_makePlan 58 = .ok (.ifCond .ne 6, 3) := by decide +kernel
theorem dX4_makePlan_61 : decode cX4_makePlan 61 = .ok (.goto 40, 3) := by decide +kernel
theorem dX4_makePlan_64 : decode cX4_makePlan 64 = .ok (.iload 5, 2) := by decide +kernel
theorem dX4_makePlan_66 : decode cX4_makePlan 66 = .ok (.iconst (-1), 1) := by decide +kernel
theorem dX4_makePlan_67 : decode cX4_makePlan 67 = .ok (.if_icmp .eq 30, 3) := by decide +kernel
theorem dX4_makePlan_70 : decode cX4_makePlan 70 = .ok (.aload_n 0, 1) := by decide +kernel
theorem dX4_makePlan_71 : decode cX4_makePlan 71 = .ok (.iload_n 3, 1) := by decide +kernel
theorem dX4_makePlan_72 : decode cX4_makePlan 72 = .ok (.aload_n 0, 1) := by decide +kernel
theorem dX4_makePlan_73 : decode cX4_makePlan 73 = .ok (.getfield 24, 3) := by decide +kernel
theorem dX4_makePlan_76 : decode cX4_makePlan 76 = .ok (.iload 6, 2) := by decide +kernel
theorem dX4_makePlan_78 : decode cX4_makePlan 78 = .ok (.iaload, 1) := by decide +kernel
theorem dX4_makePlan_79 : decode cX4_makePlan 79 = .ok (.invokevirtual 82, 3) := by decide +kernel
theorem dX4_makePlan_82 : decode cX4_makePlan 82 = .ok (.aload_n 0, 1) := by decide +kernel
theorem dX4_makePlan_83 : decode cX4_makePlan 83 = .ok (.iload_n 3, 1) := by decide +kernel
theorem dX4_makePlan_84 : decode cX4_makePlan 84 = .ok (.aload_n 0, 1) := by decide +kernel
theorem dX4_makePlan_85 : decode cX4_makePlan 85 = .ok (.getfield 24, 3) := by decide +kernel
theorem dX4_makePlan_88 : decode cX4_makePlan 88 = .ok (.iload 5, 2) := by decide +kernel
theorem dX4_makePlan_90 : decode cX4_makePlan 90 = .ok (.iaload, 1) := by decide +kernel
theorem dX4_makePlan_91 : decode cX4_makePlan 91 = .ok (.invokevirtual 82, 3) := by decide +kernel
theorem dX4_makePlan_94 : decode cX4_makePlan 94 = .ok (.if_icmp .ge 7, 3) := by decide +kernel
theorem dX4_makePlan_97 : decode cX4_makePlan 97 = .ok (.iload 6, 2) := by decide +kernel
theorem dX4_makePlan_99 : decode cX4_makePlan 99 = .ok (.istore 5, 2) := by decide +kernel
theorem dX4_makePlan_101 : decode cX4_makePlan 101 = .ok (.iinc 6 1, 3) := by decide +kernel
theorem dX4_makePlan_104 : decode cX4_makePlan 104 = .ok (.goto (-81), 3) := by decide +kernel
theorem dX4_makePlan_107 : decode cX4_makePlan 107 = .ok (.iload 5, 2) := by decide +kernel
theorem dX4_makePlan_109 : decode cX4_makePlan 109 = .ok (.iconst (-1), 1) := by decide +kernel
theorem dX4_makePlan_110 : decode cX4_makePlan 110 = .ok (.if_icmp .eq 7, 3) := by decide +kernel
theorem dX4_makePlan_113 : decode cX4_makePlan 113 = .ok (.iconst 1, 1) := by decide +kernel
theorem dX4_makePlan_114 : decode cX4_makePlan 114 = .ok (.goto 4, 3) := by decide +kernel
theorem dX4_makePlan_117 : decode cX4_makePlan 117 = .ok (.iconst 0, 1) := by decide +kernel
theorem dX4_makePlan_118 : decode cX4_makePlan 118 = .ok (.istore 4, 2) := by decide +kernel
theorem dX4_makePlan_120 : decode cX4_makePlan 120 = .ok (.iload 4, 2) := by decide +kernel
theorem dX4_makePlan_122 : decode cX4_makePlan 122 = .ok (.ifCond .ne 6, 3) := by decide +kernel
theorem dX4_makePlan_125 : decode cX4_makePlan 125 = .ok (.goto (-113), 3) := by decide +kernel
theorem dX4_makePlan_128 : decode cX4_makePlan 128 = .ok (.aload_n 0, 1) := by decide +kernel
theorem dX4_makePlan_129 : decode cX4_makePlan 129 = .ok (.getfield 61, 3) := by decide +kernel
theorem dX4_makePlan_132 : decode cX4_makePlan 132 = .ok (.aload_n 0, 1) := by decide +kernel
theorem dX4_makePlan_133 : decode cX4_makePlan 133 = .ok (.getfield 117, 3) := by decide +kernel
theorem dX4_makePlan_136 : decode cX4_makePlan 136 = .ok (.iload 5, 2) := by decide +kernel
theorem dX4_makePlan_138 : decode cX4_makePlan 138 = .ok (.iastore, 1) := by decide +kernel
theorem dX4_makePlan_139 : decode cX4_makePlan 139 = .ok (.aload_n 0, 1) := by decide +kernel
theorem dX4_makePlan_140 : decode cX4_makePlan 140 = .ok (.dup, 1) := by decide +kernel
theorem dX4_makePlan_141 : decode cX4_makePlan 141 = .ok (.getfield 117, 3) := by decide +kernel
theorem dX4_makePlan_144 : decode cX4_makePlan 144 = .ok (.iconst 1, 1) := by decide +kernel
theorem dX4_makePlan_145 : decode cX4_makePlan 145 = .ok (.iadd, 1) := by decide +kernel
theorem dX4_makePlan_146 : decode cX4_makePlan 146 = .ok (.putfield 117, 3) := by decide +kernel
theorem dX4_makePlan_149 : decode cX4_makePlan 149 = .ok (.iload_n 2, 1) := by decide +kernel
theorem dX4_makePlan_150 : decode cX4_makePlan 150 = .ok (.iconst 1, 1) := by decide +kernel
theorem dX4_makePlan_151 : decode cX4_makePlan 151 = .ok (.iload 5, 2) := by decide +kernel
theorem dX4_makePlan_153 : decode cX4_makePlan 153 = .ok (.ishl, 1) := by decide +kernel
theorem dX4_makePlan_154 : decode cX4_makePlan 154 = .ok (.ior, 1) := by decide +kernel
theorem dX4_makePlan_155 : decode cX4_makePlan 155 = .ok (.istore_n 2, 1) := by decide +kernel
theorem dX4_makePlan_156 : decode cX4_makePlan 156 = .ok (.aload_n 0, 1) := by decide +kernel
theorem dX4_makePlan_157 : decode cX4_makePlan 157 = .ok (.getfield 24, 3) := by decide +kernel
theorem dX4_makePlan_160 : decode cX4_makePlan 160 = .ok (.iload 5, 2) := by decide +kernel
theorem dX4_makePlan_162 : decode cX4_makePlan 162 = .ok (.iaload, 1) := by decide +kernel
theorem dX4_makePlan_163 : decode cX4_makePlan 163 = .ok (.istore_n 3, 1) := by decide +kernel
theorem dX4_makePlan_164 : decode cX4_makePlan 164 = .ok (.goto (-152), 3) := by decide +kernel
theorem dX4_makePlan_167 : decode cX4_makePlan 167 = .ok (.return_, 1) := by decide +kernel
set_option maxRecDepth 20000 in
theorem ggX4_planSize_X4_isKind : GoodIn wsX4_planSize wsX4_isKind := goodIn_r _ [6, 7, 8, 5, 9] (by decide +kernel) (by decide +kernel)
set_option maxRecDepth 20000 in
theorem gX4_planSize_X4_isKind : GoodIn wsX4_planSize (va_wsS RX4 86 yX4_isKind wsX4_isKind) := goodIn_app (goodIn_of _ (by decide +kernel)) ggX4_planSize_X4_isKind
set_option maxRecDepth 20000 in
theorem ggX4_planSize_X4_fail : GoodIn wsX4_planSize wsX4_fail := goodIn_r _ [13, 1, 51, 52, 53, 54, 55, 56, 57, 58, 59, 60, 61, 62, 63, 64, 65, 66, 67, 68, 69, 70, 71] (by decide +kernel) (by decide +kernel)
set_option maxRecDepth 20000 in
theorem gX4_planSize_X4_fail : GoodIn wsX4_planSize (wsV RX4 74 RX4 yX4_fail wsX4_fail) := goodIn_app (goodIn_of _ (by decide +kernel)) ggX4_planSize_X4_fail
set_option maxRecDepth 20000 in
theorem ggX4_planSize_X4_makePlan : GoodIn wsX4_planSize wsX4_makePlan := goodIn_r _ [17, 2, 18, 19, 20, 21, 22, 23, 5, 24, 25, 26, 27, 28, 29, 30, 31, 32, 33, 34, 35, 36, 37, 38, 39, 40, 41, 42, 43, 44, 45, 46, 47, 48, 49, 50, 51, 52, 53, 54, 55, 56, 57, 58, 59, 60, 61, 62, 63, 64, 65, 66, 67, 68, 69, 70, 71] (by decide +kernel) (by decide +kernel)
set_option maxRecDepth 20000 in
theorem gX4_planSize_X4_makePlan : GoodIn wsX4_planSize (wsV RX4 123 RX4 yX4_makePlan wsX4_makePlan) := goodIn_app (goodIn_of _ (by decide +kernel)) ggX4_planSize_X4_makePlan
theorem dX4_planSize_0 : decode cX4_planSize 0 = .ok (.aload_n 0, 1) := by decide +kernel
theorem dX4_planSize_1 : decode cX4_planSize 1 = .ok (.iconst 0, 1) := by decide +kernel
theorem dX4_planSize_2 : decode cX4_planSize 2 = .ok (.putfield 64, 3) := by decide +kernel
theorem dX4_planSize_5 : decode cX4_planSize 5 = .ok (.iload_n 1, 1) := by decide +kernel
theorem dX4_planSize_6 : decode cX4_planSize 6 = .ok (.invokestatic 86, 3) := by decide +kernel
theorem dX4_planSize_9 : decode cX4_planSize 9 = .ok (.ifCond .ne 9, 3) := by decide +kernel
theorem dX4_planSize_12 : decode cX4_planSize 12 = .ok (.aload_n 0, 1) := by decide +kernel
theorem dX4_planSize_13 : decode cX4_planSize 13 = .ok (.iconst 1, 1) := by decide +kernel
theorem dX4_planSize_14 : decode cX4_planSize 14 = .ok (.invokevirtual 74, 3) := by decide +kernel
theorem dX4_planSize_17 : decode cX4_planSize 17 = .ok (.ireturn, 1) := by decide +kernel
theorem dX4_planSize_18 : decode cX4_planSize 18 = .ok (.aload_n 0, 1) := by decide +kernel
theorem dX4_planSize_19 : decode cX4_planSize 19 = .ok (.iload_n 1, 1) := by decide +kernel
theorem dX4_planSize_20 : decode cX4_planSize 20 = .ok (.invokevirtual 123, 3) := by decide +kernel
theorem dX4_planSize_23 : decode cX4_planSize 23 = .ok (.aload_n 0, 1) := by decide +kernel
theorem dX4_planSize_24 : decode cX4_planSize 24 = .ok (.getfield 117, 3) := by decide +kernel
theorem dX4_planSize_27 : decode cX4_planSize 27 = .ok (.ireturn, 1) := by decide +kernel
set_option maxRecDepth 20000 in
theorem ggX4_planned_X4_isKind : GoodIn wsX4_planned wsX4_isKind := goodIn_r _ [7, 8, 9, 6, 10] (by decide +kernel) (by decide +kernel)
set_option maxRecDepth 20000 in
theorem gX4_planned_X4_isKind : GoodIn wsX4_planned (va_wsS RX4 86 yX4_isKind wsX4_isKind) := goodIn_app (goodIn_of _ (by decide +kernel)) ggX4_planned_X4_isKind
set_option maxRecDepth 20000 in
theorem ggX4_planned_X4_fail : GoodIn wsX4_planned wsX4_fail := goodIn_r _ [14, 1, 51, 52, 53, 54, 55, 56, 57, 58, 59, 60, 61, 62, 63, 64, 65, 66, 67, 68, 69, 70, 71] (by decide +kernel) (by decide +kernel)
set_option maxRecDepth 20000 in
theorem gX4_planned_X4_fail : GoodIn wsX4_planned (wsV RX4 74 RX4 yX4_fail wsX4_fail) := goodIn_app (goodIn_of _ (by decide +kernel)) ggX4_planned_X4_fail
set_option maxRecDepth 20000 in
theorem ggX4_planned_X4_makePlan : GoodIn wsX4_planned wsX4_makePlan := goodIn_r _ [18, 2, 19, 20, 21, 3, 22, 23, 6, 24, 25, 26, 27, 28, 29, 30, 31, 32, 33, 34, 35, 36, 37, 38, 39, 40, 41, 42, 43, 44, 45, 46, 47, 48, 49, 50, 51, 52, 53, 54, 55, 56, 57, 58, 59, 60, 61, 62, 63, 64, 65, 66, 67, 68, 69, 70, 71] (by decide +kernel) (by decide +kernel)
set_option maxRecDepth 20000 in
theorem gX4_planned_X4_makePlan : GoodIn wsX4_planned (wsV RX4 123 RX4 yX4_makePlan wsX4_makePlan) := goodIn_app (goodIn_of _ (by decide +kernel)) ggX4_planned_X4_makePlan
set_option maxRecDepth 20000 in
theorem ggX4_planned_X4_isIn : GoodIn wsX4_planned wsX4_isIn := goodIn_r _ [10] (by decide +kernel) (by decide +kernel)
set_option maxRecDepth 20000 in
theorem gX4_planned_X4_isIn : GoodIn wsX4_planned (va_wsS RX4 67 yX4_isIn wsX4_isIn) := goodIn_app (goodIn_of _ (by decide +kernel)) ggX4_planned_X4_isIn
theorem dX4_planned_0 : decode cX4_planned 0 = .ok (.aload_n 0, 1) := by decide +kernel
theorem dX4_planned_1 : decode cX4_planned 1 = .ok (.iconst 0, 1) := by decide +kernel
theorem dX4_planned_2 : decode cX4_planned 2 = .ok (.putfield 64, 3) := by decide +kernel
theorem dX4_planned_5 : decode cX4_planned 5 = .ok (.iload_n 1, 1) := by decide +kernel
theorem dX4_planned_6 : decode cX4_planned 6 = .ok (.invokestatic 86, 3) := by decide +kernel
theorem dX4_planned_9 : decode cX4_planned 9 = .ok (.ifCond .ne 9, 3) := by decide +kernel
theorem dX4_planned_12 : decode cX4_planned 12 = .ok (.aload_n 0, 1) := by decide +kernel
theorem dX4_planned_13 : decode cX4_planned 13 = .ok (.iconst 1, 1) := by decide +kernel
theorem dX4_planned_14 : decode cX4_planned 14 = .ok (.invokevirtual 74, 3) := by decide +kernel
theorem dX4_planned_17 : decode cX4_planned 17 = .ok (.ireturn, 1) := by decide +kernel
theorem dX4_planned_18 : decode cX4_planned 18 = .ok (.aload_n 0, 1) := by decide +kernel
theorem dX4_planned_19 : decode cX4_planned 19 = .ok (.iload_n 1, 1) := by decide +kernel
theorem dX4_planned_20 : decode cX4_planned 20 = .ok (.invokevirtual 123, 3) := by decide +kernel
theorem dX4_planned_23 : decode cX4_planned 23 = .ok (.iload_n 2, 1) := by decide +kernel
theorem dX4_planned_24 : decode cX4_planned 24 = .ok (.iconst 0, 1) := by decide +kernel
theorem dX4_planned_25 : decode cX4_planned 25 = .ok (.aload_n 0, 1) := by decide +kernel
theorem dX4_planned_26 : decode cX4_planned 26 = .ok (.getfield 117, 3) := by decide +kernel
theorem dX4_planned_29 : decode cX4_planned 29 = .ok (.iconst 1, 1) := by decide +kernel
theorem dX4_planned_30 : decode cX4_planned 30 = .ok (.isub, 1) := by decide +kernel
theorem dX4_planned_31 : decode cX4_planned 31 = .ok (.invokestatic 67, 3) := by decide +kernel
theorem dX4_planned_34 : decode cX4_planned 34 = .ok (.ifCond .eq 12, 3) := by decide +kernel
theorem dX4_planned_37 : decode cX4_planned 37 = .ok (.aload_n 0, 1) := by decide +kernel
theorem dX4_planned_38 : decode cX4_planned 38 = .ok (.getfield 61, 3) := by decide +kernel
theorem dX4_planned_41 : decode cX4_planned 41 = .ok (.iload_n 2, 1) := by decide +kernel
theorem dX4_planned_42 : decode cX4_planned 42 = .ok (.iaload, 1) := by decide +kernel
theorem dX4_planned_43 : decode cX4_planned 43 = .ok (.goto 8, 3) := by decide +kernel
theorem dX4_planned_46 : decode cX4_planned 46 = .ok (.aload_n 0, 1) := by decide +kernel
theorem dX4_planned_47 : decode cX4_planned 47 = .ok (.iconst 1, 1) := by decide +kernel
theorem dX4_planned_48 : decode cX4_planned 48 = .ok (.invokevirtual 74, 3) := by decide +kernel
theorem dX4_planned_51 : decode cX4_planned 51 = .ok (.ireturn, 1) := by decide +kernel
set_option maxRecDepth 20000 in
theorem ggX4_tipFor_X4_has : GoodIn wsX4_tipFor wsX4_has := goodIn_r _ [6] (by decide +kernel) (by decide +kernel)
set_option maxRecDepth 20000 in
theorem gX4_tipFor_X4_has : GoodIn wsX4_tipFor (va_wsS RX4 89 yX4_has wsX4_has) := goodIn_app (goodIn_of _ (by decide +kernel)) ggX4_tipFor_X4_has
set_option maxRecDepth 20000 in
theorem ggX4_tipFor_X4_drive : GoodIn wsX4_tipFor wsX4_drive := goodIn_r _ [10, 11, 12, 13, 14, 15, 16, 17, 18, 19, 20, 21, 22, 23, 24, 25, 26, 27, 28, 29, 30, 31, 32] (by decide +kernel) (by decide +kernel)
set_option maxRecDepth 20000 in
theorem gX4_tipFor_X4_drive : GoodIn wsX4_tipFor (wsV RX4 82 RX4 yX4_drive wsX4_drive) := goodIn_app (goodIn_of _ (by decide +kernel)) ggX4_tipFor_X4_drive
theorem dX4_tipFor_0 : decode cX4_tipFor 0 = .ok (.iconst (-1), 1) := by decide +kernel
theorem dX4_tipFor_1 : decode cX4_tipFor 1 = .ok (.istore 4, 2) := by decide +kernel
theorem dX4_tipFor_3 : decode cX4_tipFor 3 = .ok (.iconst 0, 1) := by decide +kernel
theorem dX4_tipFor_4 : decode cX4_tipFor 4 = .ok (.istore 5, 2) := by decide +kernel
theorem dX4_tipFor_6 : decode cX4_tipFor 6 = .ok (.iload 5, 2) := by decide +kernel
theorem dX4_tipFor_8 : decode cX4_tipFor 8 = .ok (.aload_n 0, 1) := by decide +kernel
theorem dX4_tipFor_9 : decode cX4_tipFor 9 = .ok (.getfield 7, 3) := by decide +kernel
theorem dX4_tipFor_12 : decode cX4_tipFor 12 = .ok (.if_icmp .ge 69, 3) := by decide +kernel
theorem dX4_tipFor_15 : decode cX4_tipFor 15 = .ok (.aload_n 0, 1) := by decide +kernel
theorem dX4_tipFor_16 : decode cX4_tipFor 16 = .ok (.getfield 17, 3) := by decide +kernel
theorem dX4_tipFor_19 : decode cX4_tipFor 19 = .ok (.iload 5, 2) := by decide +kernel
theorem dX4_tipFor_21 : decode cX4_tipFor 21 = .ok (.iaload, 1) := by decide +kernel
theorem dX4_tipFor_22 : decode cX4_tipFor 22 = .ok (.iload_n 1, 1) := by decide +kernel
theorem dX4_tipFor_23 : decode cX4_tipFor 23 = .ok (.invokestatic 89, 3) := by decide +kernel
theorem dX4_tipFor_26 : decode cX4_tipFor 26 = .ok (.ifCond .ne 6, 3) := by decide +kernel
theorem dX4_tipFor_29 : decode cX4_tipFor 29 = .ok (.goto 46, 3) := by decide +kernel
theorem dX4_tipFor_32 : decode cX4_tipFor 32 = .ok (.iload 4, 2) := by decide +kernel
theorem dX4_tipFor_34 : decode cX4_tipFor 34 = .ok (.iconst (-1), 1) := by decide +kernel
theorem dX4_tipFor_35 : decode cX4_tipFor 35 = .ok (.if_icmp .eq 36, 3) := by decide +kernel
theorem dX4_tipFor_38 : decode cX4_tipFor 38 = .ok (.aload_n 0, 1) := by decide +kernel
theorem dX4_tipFor_39 : decode cX4_tipFor 39 = .ok (.iload_n 2, 1) := by decide +kernel
theorem dX4_tipFor_40 : decode cX4_tipFor 40 = .ok (.iload 5, 2) := by decide +kernel
theorem dX4_tipFor_42 : decode cX4_tipFor 42 = .ok (.invokevirtual 82, 3) := by decide +kernel
theorem dX4_tipFor_45 : decode cX4_tipFor 45 = .ok (.aload_n 0, 1) := by decide +kernel
theorem dX4_tipFor_46 : decode cX4_tipFor 46 = .ok (.iload 5, 2) := by decide +kernel
theorem dX4_tipFor_48 : decode cX4_tipFor 48 = .ok (.iload_n 3, 1) := by decide +kernel
theorem dX4_tipFor_49 : decode cX4_tipFor 49 = .ok (.invokevirtual 82, 3) := by decide +kernel
theorem dX4_tipFor_52 : decode cX4_tipFor 52 = .ok (.iadd, 1) := by decide +kernel
theorem dX4_tipFor_53 : decode cX4_tipFor 53 = .ok (.aload_n 0, 1) := by decide +kernel
theorem dX4_tipFor_54 : decode cX4_tipFor 54 = .ok (.iload_n 2, 1) := by decide +kernel
theorem dX4_tipFor_55 : decode cX4_tipFor 55 = .ok (.iload 4, 2) := by decide +kernel
theorem dX4_tipFor_57 : decode cX4_tipFor 57 = .ok (.invokevirtual 82, 3) := by decide +kernel
theorem dX4_tipFor_60 : decode cX4_tipFor 60 = .ok (.aload_n 0, 1) := by decide +kernel
theorem dX4_tipFor_61 : decode cX4_tipFor 61 = .ok (.iload 4, 2) := by decide +kernel
theorem dX4_tipFor_63 : decode cX4_tipFor 63 = .ok (.iload_n 3, 1) := by decide +kernel
theorem dX4_tipFor_64 : decode cX4_tipFor 64 = .ok (.invokevirtual 82, 3) := by decide +kernel
theorem dX4_tipFor_67 : decode cX4_tipFor 67 = .ok (.iadd, 1) := by decide +kernel
theorem dX4_tipFor_68 : decode cX4_tipFor 68 = .ok (.if_icmp .ge 7, 3) := by decide +kernel
theorem dX4_tipFor_71 : decode cX4_tipFor 71 = .ok (.iload 5, 2) := by decide +kernel
theorem dX4_tipFor_73 : decode cX4_tipFor 73 = .ok (.istore 4, 2) := by decide +kernel
theorem dX4_tipFor_75 : decode cX4_tipFor 75 = .ok (.iinc 5 1, 3) := by decide +kernel
theorem dX4_tipFor_78 : decode cX4_tipFor 78 = .ok (.goto (-72), 3) := by decide +kernel
theorem dX4_tipFor_81 : decode cX4_tipFor 81 = .ok (.iload 4, 2) := by decide +kernel
theorem dX4_tipFor_83 : decode cX4_tipFor 83 = .ok (.ireturn, 1) := by decide +kernel
set_option maxRecDepth 20000 in
theorem ggX4_tour_X4_drive : GoodIn wsX4_tour wsX4_drive := goodIn_r _ [16, 17, 34, 35, 36, 37, 38, 39, 40, 41, 42, 43, 44, 45, 46, 47, 48, 49, 50, 51, 52, 53, 54] (by decide +kernel) (by decide +kernel)
set_option maxRecDepth 20000 in
theorem gX4_tour_X4_drive : GoodIn wsX4_tour (wsV RX4 82 RX4 yX4_drive wsX4_drive) := goodIn_app (goodIn_of _ (by decide +kernel)) ggX4_tour_X4_drive
set_option maxRecDepth 20000 in
theorem ggX4_tour_X4_tipFor : GoodIn wsX4_tour wsX4_tipFor := goodIn_r _ [21, 22, 23, 24, 25, 15, 26, 12, 13, 14, 16, 17, 34, 35, 36, 37, 38, 39, 40, 41, 42, 43, 44, 45, 46, 47, 48, 49, 50, 51, 52, 53, 54] (by decide +kernel) (by decide +kernel)
set_option maxRecDepth 20000 in
theorem gX4_tour_X4_tipFor : GoodIn wsX4_tour (wsV RX4 127 RX4 yX4_tipFor wsX4_tipFor) := goodIn_app (goodIn_of _ (by decide +kernel)) ggX4_tour_X4_tipFor
set_option maxRecDepth 20000 in
theorem ggX4_tour_X4_empty : GoodIn wsX4_tour wsX4_empty := goodIn_r _ [30, 31, 32, 33, 6, 34, 35, 36, 37, 38, 39, 40, 41, 42, 43, 44, 45, 46, 47, 48, 49, 50, 51, 52, 53, 54] (by decide +kernel) (by decide +kernel)
set_option maxRecDepth 20000 in
theorem gX4_tour_X4_empty : GoodIn wsX4_tour (wsV RX4 131 RX4 yX4_empty wsX4_empty) := goodIn_app (goodIn_of _ (by decide +kernel)) ggX4_tour_X4_empty
theorem dX4_tour_0 : decode cX4_tour 0 = .ok (.iconst 0, 1) := by decide +kernel
theorem dX4_tour_1 : decode cX4_tour 1 = .ok (.istore 4, 2) := by decide +kernel
theorem dX4_tour_3 : decode cX4_tour 3 = .ok (.iconst 0, 1) := by decide +kernel
theorem dX4_tour_4 : decode cX4_tour 4 = .ok (.istore 5, 2) := by decide +kernel
theorem dX4_tour_6 : decode cX4_tour 6 = .ok (.iconst 0, 1) := by decide +kernel
theorem dX4_tour_7 : decode cX4_tour 7 = .ok (.istore 6, 2) := by decide +kernel
theorem dX4_tour_9 : decode cX4_tour 9 = .ok (.lconst 0, 1) := by decide +kernel
theorem dX4_tour_10 : decode cX4_tour 10 = .ok (.lstore 7, 2) := by decide +kernel
theorem dX4_tour_12 : decode cX4_tour 12 = .ok (.iconst 0, 1) := by decide +kernel
theorem dX4_tour_13 : decode cX4_tour 13 = .ok (.istore 9, 2) := by decide +kernel
theorem dX4_tour_15 : decode cX4_tour 15 = .ok (.iconst 0, 1) := by decide +kernel
theorem dX4_tour_16 : decode cX4_tour 16 = .ok (.istore 10, 2) := by decide +kernel
theorem dX4_tour_18 : decode cX4_tour 18 = .ok (.iload 10, 2) := by decide +kernel
theorem dX4_tour_20 : decode cX4_tour 20 = .ok (.aload_n 0, 1) := by decide +kernel
theorem dX4_tour_21 : decode cX4_tour 21 = .ok (.getfield 117, 3) := by decide +kernel
theorem dX4_tour_24 : decode cX4_tour 24 = .ok (.if_icmp .ge 202, 3) := by decide +kernel
theorem dX4_tour_27 : decode cX4_tour 27 = .ok (.aload_n 0, 1) := by decide +kernel
theorem dX4_tour_28 : decode cX4_tour 28 = .ok (.getfield 61, 3) := by decide +kernel
theorem dX4_tour_31 : decode cX4_tour 31 = .ok (.iload 10, 2) := by decide +kernel
theorem dX4_tour_33 : decode cX4_tour 33 = .ok (.iaload, 1) := by decide +kernel
theorem dX4_tour_34 : decode cX4_tour 34 = .ok (.istore 11, 2) := by decide +kernel
theorem dX4_tour_36 : decode cX4_tour 36 = .ok (.aload_n 0, 1) := by decide +kernel
theorem dX4_tour_37 : decode cX4_tour 37 = .ok (.getfield 24, 3) := by decide +kernel
theorem dX4_tour_40 : decode cX4_tour 40 = .ok (.iload 11, 2) := by decide +kernel
theorem dX4_tour_42 : decode cX4_tour 42 = .ok (.iaload, 1) := by decide +kernel
theorem dX4_tour_43 : decode cX4_tour 43 = .ok (.istore 12, 2) := by decide +kernel
theorem dX4_tour_45 : decode cX4_tour 45 = .ok (.iload 4, 2) := by decide +kernel
theorem dX4_tour_47 : decode cX4_tour 47 = .ok (.aload_n 0, 1) := by decide +kernel
theorem dX4_tour_48 : decode cX4_tour 48 = .ok (.iload 5, 2) := by decide +kernel
theorem dX4_tour_50 : decode cX4_tour 50 = .ok (.iload 12, 2) := by decide +kernel
theorem dX4_tour_52 : decode cX4_tour 52 = .ok (.invokevirtual 82, 3) := by decide +kernel
theorem dX4_tour_55 : decode cX4_tour 55 = .ok (.iadd, 1) := by decide +kernel
theorem dX4_tour_56 : decode cX4_tour 56 = .ok (.istore 4, 2) := by decide +kernel
theorem dX4_tour_58 : decode cX4_tour 58 = .ok (.iload 12, 2) := by decide +kernel
theorem dX4_tour_60 : decode cX4_tour 60 = .ok (.istore 5, 2) := by decide +kernel
theorem dX4_tour_62 : decode cX4_tour 62 = .ok (.aload_n 0, 1) := by decide +kernel
theorem dX4_tour_63 : decode cX4_tour 63 = .ok (.getfield 51, 3) := by decide +kernel
theorem dX4_tour_66 : decode cX4_tour 66 = .ok (.iload 11, 2) := by decide +kernel
theorem dX4_tour_68 : decode cX4_tour 68 = .ok (.baload, 1) := by decide +kernel
theorem dX4_tour_69 : decode cX4_tour 69 = .ok (.ifCond .eq 44, 3) := by decide +kernel
theorem dX4_tour_72 : decode cX4_tour 72 = .ok (.iinc 4 2, 3) := by decide +kernel
theorem dX4_tour_75 : decode cX4_tour 75 = .ok (.aload_n 0, 1) := by decide +kernel
theorem dX4_tour_76 : decode cX4_tour 76 = .ok (.getfield 51, 3) := by decide +kernel
theorem dX4_tour_79 : decode cX4_tour 79 = .ok (.iload 11, 2) := by decide +kernel
theorem dX4_tour_81 : decode cX4_tour 81 = .ok (.iload_n 3, 1) := by decide +kernel
theorem dX4_tour_82 : decode cX4_tour 82 = .ok (.ifCond .ne 7, 3) := by decide +kernel
theorem dX4_tour_85 : decode cX4_tour 85 = .ok (.iconst 1, 1) := by decide +kernel
theorem dX4_tour_86 : decode cX4_tour 86 = .ok (.goto 4, 3) := by decide +kernel
theorem dX4_tour_89 : decode cX4_tour 89 = .ok (.iconst 0, 1) := by decide +kernel
theorem dX4_tour_90 : decode cX4_tour 90 = .ok (.bastore, 1) := by decide +kernel
theorem dX4_tour_91 : decode cX4_tour 91 = .ok (.aload_n 0, 1) := by decide +kernel
theorem dX4_tour_92 : decode cX4_tour 92 = .ok (.getfield 48, 3) := by decide +kernel
theorem dX4_tour_95 : decode cX4_tour 95 = .ok (.iload 11, 2) := by decide +kernel
theorem dX4_tour_97 : decode cX4_tour 97 = .ok (.dup2, 1) := by decide +kernel
theorem dX4_tour_98 : decode cX4_tour 98 = .ok (.iaload, 1) := by decide +kernel
theorem dX4_tour_99 : decode cX4_tour 99 = .ok (.iload_n 3, 1) := by decide +kernel
theorem dX4_tour_100 : decode cX4_tour 100 = .ok (.ifCond .eq 7, 3) := by decide +kernel
theorem dX4_tour_103 : decode cX4_tour 103 = .ok (.iconst 1, 1) := by decide +kernel
theorem dX4_tour_104 : decode cX4_tour 104 = .ok (.goto 4, 3) := by decide +kernel
theorem dX4_tour_107 : decode cX4_tour 107 = .ok (.iconst 0, 1) := by decide +kernel
theorem dX4_tour_108 : decode cX4_tour 108 = .ok (.iadd, 1) := by decide +kernel
theorem dX4_tour_109 : decode cX4_tour 109 = .ok (.iastore, 1) := by decide +kernel
theorem dX4_tour_110 : decode cX4_tour 110 = .ok (.goto 110, 3) := by decide +kernel
theorem dX4_tour_113 : decode cX4_tour 113 = .ok (.iload 6, 2) := by decide +kernel
theorem dX4_tour_115 : decode cX4_tour 115 = .ok (.ifCond .le 67, 3) := by decide +kernel
theorem dX4_tour_118 : decode cX4_tour 118 = .ok (.iload_n 2, 1) := by decide +kernel
theorem dX4_tour_119 : decode cX4_tour 119 = .ok (.iload 6, 2) := by decide +kernel
theorem dX4_tour_121 : decode cX4_tour 121 = .ok (.isub, 1) := by decide +kernel
theorem dX4_tour_122 : decode cX4_tour 122 = .ok (.aload_n 0, 1) := by decide +kernel
theorem dX4_tour_123 : decode cX4_tour 123 = .ok (.getfield 36, 3) := by decide +kernel
theorem dX4_tour_126 : decode cX4_tour 126 = .ok (.iload 11, 2) := by decide +kernel
theorem dX4_tour_128 : decode cX4_tour 128 = .ok (.iaload, 1) := by decide +kernel
theorem dX4_tour_129 : decode cX4_tour 129 = .ok (.if_icmp .ge 53, 3) := by decide +kernel
theorem dX4_tour_132 : decode cX4_tour 132 = .ok (.aload_n 0, 1) := by decide +kernel
theorem dX4_tour_133 : decode cX4_tour 133 = .ok (.iload_n 1, 1) := by decide +kernel
theorem dX4_tour_134 : decode cX4_tour 134 = .ok (.iload 5, 2) := by decide +kernel
theorem dX4_tour_136 : decode cX4_tour 136 = .ok (.iload 5, 2) := by decide +kernel
theorem dX4_tour_138 : decode cX4_tour 138 = .ok (.invokevirtual 127, 3) := by decide +kernel
theorem dX4_tour_141 : decode cX4_tour 141 = .ok (.istore 13, 2) := by decide +kernel
theorem dX4_tour_143 : decode cX4_tour 143 = .ok (.iload 4, 2) := by decide +kernel
theorem dX4_tour_145 : decode cX4_tour 145 = .ok (.aload_n 0, 1) := by decide +kernel
theorem dX4_tour_146 : decode cX4_tour 146 = .ok (.iload 5, 2) := by decide +kernel
theorem dX4_tour_148 : decode cX4_tour 148 = .ok (.iload 13, 2) := by decide +kernel
theorem dX4_tour_150 : decode cX4_tour 150 = .ok (.invokevirtual 82, 3) := by decide +kernel
theorem dX4_tour_153 : decode cX4_tour 153 = .ok (.aload_n 0, 1) := by decide +kernel
theorem dX4_tour_154 : decode cX4_tour 154 = .ok (.iload 13, 2) := by decide +kernel
theorem dX4_tour_156 : decode cX4_tour 156 = .ok (.iload 5, 2) := by decide +kernel
theorem dX4_tour_158 : decode cX4_tour 158 = .ok (.invokevirtual 82, 3) := by decide +kernel
theorem dX4_tour_161 : decode cX4_tour 161 = .ok (.iadd, 1) := by decide +kernel
theorem dX4_tour_162 : decode cX4_tour 162 = .ok (.bipush 10, 2) := by decide +kernel
theorem dX4_tour_164 : decode cX4_tour 164 = .ok (.iadd, 1) := by decide +kernel
theorem dX4_tour_165 : decode cX4_tour 165 = .ok (.iadd, 1) := by decide +kernel
theorem dX4_tour_166 : decode cX4_tour 166 = .ok (.istore 4, 2) := by decide +kernel
theorem dX4_tour_168 : decode cX4_tour 168 = .ok (.lload 7, 2) := by decide +kernel
theorem dX4_tour_170 : decode cX4_tour 170 = .ok (.iload 6, 2) := by decide +kernel
theorem dX4_tour_172 : decode cX4_tour 172 = .ok (.i2l, 1) := by decide +kernel
theorem dX4_tour_173 : decode cX4_tour 173 = .ok (.ladd, 1) := by decide +kernel
theorem dX4_tour_174 : decode cX4_tour 174 = .ok (.lstore 7, 2) := by decide +kernel
theorem dX4_tour_176 : decode cX4_tour 176 = .ok (.iinc 9 1, 3) := by decide +kernel
theorem dX4_tour_179 : decode cX4_tour 179 = .ok (.iconst 0, 1) := by decide +kernel
theorem dX4_tour_180 : decode cX4_tour 180 = .ok (.istore 6, 2) := by decide +kernel
theorem dX4_tour_182 : decode cX4_tour 182 = .ok (.aload_n 0, 1) := by decide +kernel
theorem dX4_tour_183 : decode cX4_tour 183 = .ok (.getfield 36, 3) := by decide +kernel
theorem dX4_tour_186 : decode cX4_tour 186 = .ok (.iload 11, 2) := by decide +kernel
theorem dX4_tour_188 : decode cX4_tour 188 = .ok (.iaload, 1) := by decide +kernel
theorem dX4_tour_189 : decode cX4_tour 189 = .ok (.iload_n 2, 1) := by decide +kernel
theorem dX4_tour_190 : decode cX4_tour 190 = .ok (.iload 6, 2) := by decide +kernel
theorem dX4_tour_192 : decode cX4_tour 192 = .ok (.isub, 1) := by decide +kernel
theorem dX4_tour_193 : decode cX4_tour 193 = .ok (.invokestatic 111, 3) := by decide +kernel
theorem dX4_tour_196 : decode cX4_tour 196 = .ok (.istore 13, 2) := by decide +kernel
theorem dX4_tour_198 : decode cX4_tour 198 = .ok (.iload 6, 2) := by decide +kernel
theorem dX4_tour_200 : decode cX4_tour 200 = .ok (.iload 13, 2) := by decide +kernel
theorem dX4_tour_202 : decode cX4_tour 202 = .ok (.iadd, 1) := by decide +kernel
theorem dX4_tour_203 : decode cX4_tour 203 = .ok (.istore 6, 2) := by decide +kernel
theorem dX4_tour_205 : decode cX4_tour 205 = .ok (.iinc 4 5, 3) := by decide +kernel
theorem dX4_tour_208 : decode cX4_tour 208 = .ok (.iload_n 3, 1) := by decide +kernel
theorem dX4_tour_209 : decode cX4_tour 209 = .ok (.ifCond .eq 11, 3) := by decide +kernel
theorem dX4_tour_212 : decode cX4_tour 212 = .ok (.aload_n 0, 1) := by decide +kernel
theorem dX4_tour_213 : decode cX4_tour 213 = .ok (.iload 11, 2) := by decide +kernel
theorem dX4_tour_215 : decode cX4_tour 215 = .ok (.iload 13, 2) := by decide +kernel
theorem dX4_tour_217 : decode cX4_tour 217 = .ok (.invokevirtual 131, 3) := by decide +kernel
theorem dX4_tour_220 : decode cX4_tour 220 = .ok (.iinc 10 1, 3) := by decide +kernel
theorem dX4_tour_223 : decode cX4_tour 223 = .ok (.goto (-205), 3) := by decide +kernel
theorem dX4_tour_226 : decode cX4_tour 226 = .ok (.iload 6, 2) := by decide +kernel
theorem dX4_tour_228 : decode cX4_tour 228 = .ok (.ifCond .le 14, 3) := by decide +kernel
theorem dX4_tour_231 : decode cX4_tour 231 = .ok (.aload_n 0, 1) := by decide +kernel
theorem dX4_tour_232 : decode cX4_tour 232 = .ok (.iload_n 1, 1) := by decide +kernel
theorem dX4_tour_233 : decode cX4_tour 233 = .ok (.iload 5, 2) := by decide +kernel
theorem dX4_tour_235 : decode cX4_tour 235 = .ok (.iconst 0, 1) := by decide +kernel
theorem dX4_tour_236 : decode cX4_tour 236 = .ok (.invokevirtual 127, 3) := by decide +kernel
theorem dX4_tour_239 : decode cX4_tour 239 = .ok (.goto 5, 3) := by decide +kernel
theorem dX4_tour_242 : decode cX4_tour 242 = .ok (.iload 5, 2) := by decide +kernel
theorem dX4_tour_244 : decode cX4_tour 244 = .ok (.istore 10, 2) := by decide +kernel
theorem dX4_tour_246 : decode cX4_tour 246 = .ok (.iload 4, 2) := by decide +kernel
theorem dX4_tour_248 : decode cX4_tour 248 = .ok (.aload_n 0, 1) := by decide +kernel
theorem dX4_tour_249 : decode cX4_tour 249 = .ok (.iload 5, 2) := by decide +kernel
theorem dX4_tour_251 : decode cX4_tour 251 = .ok (.iload 10, 2) := by decide +kernel
theorem dX4_tour_253 : decode cX4_tour 253 = .ok (.invokevirtual 82, 3) := by decide +kernel
theorem dX4_tour_256 : decode cX4_tour 256 = .ok (.aload_n 0, 1) := by decide +kernel
theorem dX4_tour_257 : decode cX4_tour 257 = .ok (.iload 10, 2) := by decide +kernel
theorem dX4_tour_259 : decode cX4_tour 259 = .ok (.iconst 0, 1) := by decide +kernel
theorem dX4_tour_260 : decode cX4_tour 260 = .ok (.invokevirtual 82, 3) := by decide +kernel
theorem dX4_tour_263 : decode cX4_tour 263 = .ok (.iadd, 1) := by decide +kernel
theorem dX4_tour_264 : decode cX4_tour 264 = .ok (.iload 6, 2) := by decide +kernel
theorem dX4_tour_266 : decode cX4_tour 266 = .ok (.ifCond .le 8, 3) := by decide +kernel
theorem dX4_tour_269 : decode cX4_tour 269 = .ok (.bipush 10, 2) := by decide +kernel
theorem dX4_tour_271 : decode cX4_tour 271 = .ok (.goto 4, 3) := by decide +kernel
theorem dX4_tour_274 : decode cX4_tour 274 = .ok (.iconst 0, 1) := by decide +kernel
theorem dX4_tour_275 : decode cX4_tour 275 = .ok (.iadd, 1) := by decide +kernel
theorem dX4_tour_276 : decode cX4_tour 276 = .ok (.iadd, 1) := by decide +kernel
theorem dX4_tour_277 : decode cX4_tour 277 = .ok (.istore 4, 2) := by decide +kernel
theorem dX4_tour_279 : decode cX4_tour 279 = .ok (.lload 7, 2) := by decide +kernel
theorem dX4_tour_281 : decode cX4_tour 281 = .ok (.iload 6, 2) := by decide +kernel
theorem dX4_tour_283 : decode cX4_tour 283 = .ok (.i2l, 1) := by decide +kernel
theorem dX4_tour_284 : decode cX4_tour 284 = .ok (.ladd, 1) := by decide +kernel
theorem dX4_tour_285 : decode cX4_tour 285 = .ok (.lstore 7, 2) := by decide +kernel
theorem dX4_tour_287 : decode cX4_tour 287 = .ok (.iload 9, 2) := by decide +kernel
theorem dX4_tour_289 : decode cX4_tour 289 = .ok (.iload 6, 2) := by decide +kernel
theorem dX4_tour_291 : decode cX4_tour 291 = .ok (.ifCond .le 7, 3) := by decide +kernel
theorem dX4_tour_294 : decode cX4_tour 294 = .ok (.iconst 1, 1) := by decide +kernel
theorem dX4_tour_295 : decode cX4_tour 295 = .ok (.goto 4, 3) := by decide +kernel
theorem dX4_tour_298 : decode cX4_tour 298 = .ok (.iconst 0, 1) := by decide +kernel
theorem dX4_tour_299 : decode cX4_tour 299 = .ok (.iadd, 1) := by decide +kernel
theorem dX4_tour_300 : decode cX4_tour 300 = .ok (.istore 9, 2) := by decide +kernel
theorem dX4_tour_302 : decode cX4_tour 302 = .ok (.iload_n 3, 1) := by decide +kernel
theorem dX4_tour_303 : decode cX4_tour 303 = .ok (.ifCond .ne 6, 3) := by decide +kernel
theorem dX4_tour_306 : decode cX4_tour 306 = .ok (.iload 4, 2) := by decide +kernel
theorem dX4_tour_308 : decode cX4_tour 308 = .ok (.ireturn, 1) := by decide +kernel
theorem dX4_tour_309 : decode cX4_tour 309 = .ok (.aload_n 0, 1) := by decide +kernel
theorem dX4_tour_310 : decode cX4_tour 310 = .ok (.getfield 54, 3) := by decide +kernel
theorem dX4_tour_313 : decode cX4_tour 313 = .ok (.iconst 4, 1) := by decide +kernel
theorem dX4_tour_314 : decode cX4_tour 314 = .ok (.iload_n 1, 1) := by decide +kernel
theorem dX4_tour_315 : decode cX4_tour 315 = .ok (.imul, 1) := by decide +kernel
theorem dX4_tour_316 : decode cX4_tour 316 = .ok (.dup2, 1) := by decide +kernel
theorem dX4_tour_317 : decode cX4_tour 317 = .ok (.laload, 1) := by decide +kernel
theorem dX4_tour_318 : decode cX4_tour 318 = .ok (.lload 7, 2) := by decide +kernel
theorem dX4_tour_320 : decode cX4_tour 320 = .ok (.ladd, 1) := by decide +kernel
theorem dX4_tour_321 : decode cX4_tour 321 = .ok (.lastore, 1) := by decide +kernel
theorem dX4_tour_322 : decode cX4_tour 322 = .ok (.aload_n 0, 1) := by decide +kernel
theorem dX4_tour_323 : decode cX4_tour 323 = .ok (.getfield 54, 3) := by decide +kernel
theorem dX4_tour_326 : decode cX4_tour 326 = .ok (.iconst 4, 1) := by decide +kernel
theorem dX4_tour_327 : decode cX4_tour 327 = .ok (.iload_n 1, 1) := by decide +kernel
theorem dX4_tour_328 : decode cX4_tour 328 = .ok (.imul, 1) := by decide +kernel
theorem dX4_tour_329 : decode cX4_tour 329 = .ok (.iconst 1, 1) := by decide +kernel
theorem dX4_tour_330 : decode cX4_tour 330 = .ok (.iadd, 1) := by decide +kernel
theorem dX4_tour_331 : decode cX4_tour 331 = .ok (.dup2, 1) := by decide +kernel
theorem dX4_tour_332 : decode cX4_tour 332 = .ok (.laload, 1) := by decide +kernel
theorem dX4_tour_333 : decode cX4_tour 333 = .ok (.iload 9, 2) := by decide +kernel
theorem dX4_tour_335 : decode cX4_tour 335 = .ok (.i2l, 1) := by decide +kernel
theorem dX4_tour_336 : decode cX4_tour 336 = .ok (.ladd, 1) := by decide +kernel
theorem dX4_tour_337 : decode cX4_tour 337 = .ok (.lastore, 1) := by decide +kernel
theorem dX4_tour_338 : decode cX4_tour 338 = .ok (.aload_n 0, 1) := by decide +kernel
theorem dX4_tour_339 : decode cX4_tour 339 = .ok (.getfield 54, 3) := by decide +kernel
theorem dX4_tour_342 : decode cX4_tour 342 = .ok (.iconst 4, 1) := by decide +kernel
theorem dX4_tour_343 : decode cX4_tour 343 = .ok (.iload_n 1, 1) := by decide +kernel
theorem dX4_tour_344 : decode cX4_tour 344 = .ok (.imul, 1) := by decide +kernel
theorem dX4_tour_345 : decode cX4_tour 345 = .ok (.iconst 2, 1) := by decide +kernel
theorem dX4_tour_346 : decode cX4_tour 346 = .ok (.iadd, 1) := by decide +kernel
theorem dX4_tour_347 : decode cX4_tour 347 = .ok (.dup2, 1) := by decide +kernel
theorem dX4_tour_348 : decode cX4_tour 348 = .ok (.laload, 1) := by decide +kernel
theorem dX4_tour_349 : decode cX4_tour 349 = .ok (.iload 4, 2) := by decide +kernel
theorem dX4_tour_351 : decode cX4_tour 351 = .ok (.i2l, 1) := by decide +kernel
theorem dX4_tour_352 : decode cX4_tour 352 = .ok (.ladd, 1) := by decide +kernel
theorem dX4_tour_353 : decode cX4_tour 353 = .ok (.lastore, 1) := by decide +kernel
theorem dX4_tour_354 : decode cX4_tour 354 = .ok (.aload_n 0, 1) := by decide +kernel
theorem dX4_tour_355 : decode cX4_tour 355 = .ok (.getfield 54, 3) := by decide +kernel
theorem dX4_tour_358 : decode cX4_tour 358 = .ok (.iconst 4, 1) := by decide +kernel
theorem dX4_tour_359 : decode cX4_tour 359 = .ok (.iload_n 1, 1) := by decide +kernel
theorem dX4_tour_360 : decode cX4_tour 360 = .ok (.imul, 1) := by decide +kernel
theorem dX4_tour_361 : decode cX4_tour 361 = .ok (.iconst 3, 1) := by decide +kernel
theorem dX4_tour_362 : decode cX4_tour 362 = .ok (.iadd, 1) := by decide +kernel
theorem dX4_tour_363 : decode cX4_tour 363 = .ok (.dup2, 1) := by decide +kernel
theorem dX4_tour_364 : decode cX4_tour 364 = .ok (.laload, 1) := by decide +kernel
theorem dX4_tour_365 : decode cX4_tour 365 = .ok (.lconst 1, 1) := by decide +kernel
theorem dX4_tour_366 : decode cX4_tour 366 = .ok (.ladd, 1) := by decide +kernel
theorem dX4_tour_367 : decode cX4_tour 367 = .ok (.lastore, 1) := by decide +kernel
theorem dX4_tour_368 : decode cX4_tour 368 = .ok (.iload 4, 2) := by decide +kernel
theorem dX4_tour_370 : decode cX4_tour 370 = .ok (.ireturn, 1) := by decide +kernel
theorem dX4_empty_0 : decode cX4_empty 0 = .ok (.aload_n 0, 1) := by decide +kernel
theorem dX4_empty_1 : decode cX4_empty 1 = .ok (.getfield 93, 3) := by decide +kernel
theorem dX4_empty_4 : decode cX4_empty 4 = .ok (.aload_n 0, 1) := by decide +kernel
theorem dX4_empty_5 : decode cX4_empty 5 = .ok (.getfield 42, 3) := by decide +kernel
theorem dX4_empty_8 : decode cX4_empty 8 = .ok (.iload_n 1, 1) := by decide +kernel
theorem dX4_empty_9 : decode cX4_empty 9 = .ok (.iaload, 1) := by decide +kernel
theorem dX4_empty_10 : decode cX4_empty 10 = .ok (.isub, 1) := by decide +kernel
theorem dX4_empty_11 : decode cX4_empty 11 = .ok (.istore_n 3, 1) := by decide +kernel
theorem dX4_empty_12 : decode cX4_empty 12 = .ok (.iload_n 3, 1) := by decide +kernel
theorem dX4_empty_13 : decode cX4_empty 13 = .ok (.ifCond .le 31, 3) := by decide +kernel
theorem dX4_empty_16 : decode cX4_empty 16 = .ok (.aload_n 0, 1) := by decide +kernel
theorem dX4_empty_17 : decode cX4_empty 17 = .ok (.getfield 39, 3) := by decide +kernel
theorem dX4_empty_20 : decode cX4_empty 20 = .ok (.iload_n 1, 1) := by decide +kernel
theorem dX4_empty_21 : decode cX4_empty 21 = .ok (.iconst 3, 1) := by decide +kernel
theorem dX4_empty_22 : decode cX4_empty 22 = .ok (.aload_n 0, 1) := by decide +kernel
theorem dX4_empty_23 : decode cX4_empty 23 = .ok (.getfield 39, 3) := by decide +kernel
theorem dX4_empty_26 : decode cX4_empty 26 = .ok (.iload_n 1, 1) := by decide +kernel
theorem dX4_empty_27 : decode cX4_empty 27 = .ok (.iaload, 1) := by decide +kernel
theorem dX4_empty_28 : decode cX4_empty 28 = .ok (.imul, 1) := by decide +kernel
theorem dX4_empty_29 : decode cX4_empty 29 = .ok (.bipush 10, 2) := by decide +kernel
theorem dX4_empty_31 : decode cX4_empty 31 = .ok (.aload_n 0, 1) := by decide +kernel
theorem dX4_empty_32 : decode cX4_empty 32 = .ok (.getfield 36, 3) := by decide +kernel
theorem dX4_empty_35 : decode cX4_empty 35 = .ok (.iload_n 1, 1) := by decide +kernel
theorem dX4_empty_36 : decode cX4_empty 36 = .ok (.iaload, 1) := by decide +kernel
theorem dX4_empty_37 : decode cX4_empty 37 = .ok (.imul, 1) := by decide +kernel
theorem dX4_empty_38 : decode cX4_empty 38 = .ok (.iload_n 3, 1) := by decide +kernel
theorem dX4_empty_39 : decode cX4_empty 39 = .ok (.idiv, 1) := by decide +kernel
theorem dX4_empty_40 : decode cX4_empty 40 = .ok (.iadd, 1) := by decide +kernel
theorem dX4_empty_41 : decode cX4_empty 41 = .ok (.iconst 4, 1) := by decide +kernel
theorem dX4_empty_42 : decode cX4_empty 42 = .ok (.idiv, 1) := by decide +kernel
theorem dX4_empty_43 : decode cX4_empty 43 = .ok (.iastore, 1) := by decide +kernel
theorem dX4_empty_44 : decode cX4_empty 44 = .ok (.aload_n 0, 1) := by decide +kernel
theorem dX4_empty_45 : decode cX4_empty 45 = .ok (.getfield 42, 3) := by decide +kernel
theorem dX4_empty_48 : decode cX4_empty 48 = .ok (.iload_n 1, 1) := by decide +kernel
theorem dX4_empty_49 : decode cX4_empty 49 = .ok (.aload_n 0, 1) := by decide +kernel
theorem dX4_empty_50 : decode cX4_empty 50 = .ok (.getfield 93, 3) := by decide +kernel
theorem dX4_empty_53 : decode cX4_empty 53 = .ok (.iastore, 1) := by decide +kernel
theorem dX4_empty_54 : decode cX4_empty 54 = .ok (.aload_n 0, 1) := by decide +kernel
theorem dX4_empty_55 : decode cX4_empty 55 = .ok (.getfield 36, 3) := by decide +kernel
theorem dX4_empty_58 : decode cX4_empty 58 = .ok (.iload_n 1, 1) := by decide +kernel
theorem dX4_empty_59 : decode cX4_empty 59 = .ok (.dup2, 1) := by decide +kernel
theorem dX4_empty_60 : decode cX4_empty 60 = .ok (.iaload, 1) := by decide +kernel
theorem dX4_empty_61 : decode cX4_empty 61 = .ok (.iload_n 2, 1) := by decide +kernel
theorem dX4_empty_62 : decode cX4_empty 62 = .ok (.isub, 1) := by decide +kernel
theorem dX4_empty_63 : decode cX4_empty 63 = .ok (.iastore, 1) := by decide +kernel
theorem dX4_empty_64 : decode cX4_empty 64 = .ok (.return_, 1) := by decide +kernel
set_option maxRecDepth 20000 in
theorem ggX4_collect_X4_isKind : GoodIn wsX4_collect wsX4_isKind := goodIn_r _ [8, 9, 10, 7, 11] (by decide +kernel) (by decide +kernel)
set_option maxRecDepth 20000 in
theorem gX4_collect_X4_isKind : GoodIn wsX4_collect (va_wsS RX4 86 yX4_isKind wsX4_isKind) := goodIn_app (goodIn_of _ (by decide +kernel)) ggX4_collect_X4_isKind
set_option maxRecDepth 20000 in
theorem ggX4_collect_X4_fail : GoodIn wsX4_collect wsX4_fail := goodIn_r _ [15, 1, 72, 73, 74, 75, 76, 77, 78, 79, 80, 81, 82, 83, 84, 85, 86, 87, 88, 89, 90, 91, 92] (by decide +kernel) (by decide +kernel)
set_option maxRecDepth 20000 in
theorem gX4_collect_X4_fail : GoodIn wsX4_collect (wsV RX4 74 RX4 yX4_fail wsX4_fail) := goodIn_app (goodIn_of _ (by decide +kernel)) ggX4_collect_X4_fail
set_option maxRecDepth 20000 in
theorem ggX4_collect_X4_isCapacity : GoodIn wsX4_collect wsX4_isCapacity := goodIn_r _ [18, 9, 10, 7, 11] (by decide +kernel) (by decide +kernel)
set_option maxRecDepth 20000 in
theorem gX4_collect_X4_isCapacity : GoodIn wsX4_collect (va_wsS RX4 135 yX4_isCapacity wsX4_isCapacity) := goodIn_app (goodIn_of _ (by decide +kernel)) ggX4_collect_X4_isCapacity
set_option maxRecDepth 20000 in
theorem ggX4_collect_X4_makePlan : GoodIn wsX4_collect wsX4_makePlan := goodIn_r _ [22, 4, 23, 24, 25, 26, 27, 28, 7, 29, 30, 31, 32, 33, 3, 34, 35, 36, 37, 38, 39, 40, 41, 42, 43, 44, 45, 46, 47, 48, 2, 49, 50, 51, 52, 53, 72, 73, 74, 75, 76, 77, 78, 79, 80, 81, 82, 83, 84, 85, 86, 87, 88, 89, 90, 91, 92] (by decide +kernel) (by decide +kernel)
set_option maxRecDepth 20000 in
theorem gX4_collect_X4_makePlan : GoodIn wsX4_collect (wsV RX4 123 RX4 yX4_makePlan wsX4_makePlan) := goodIn_app (goodIn_of _ (by decide +kernel)) ggX4_collect_X4_makePlan
set_option maxRecDepth 20000 in
theorem ggX4_collect_X4_tour : GoodIn wsX4_collect wsX4_tour := goodIn_r _ [57, 4, 26, 25, 58, 59, 60, 41, 42, 43, 44, 61, 49, 50, 51, 7, 52, 53, 62, 63, 64, 65, 66, 67, 27, 28, 29, 68, 69, 70, 71, 3, 40, 39, 72, 73, 74, 75, 76, 77, 78, 79, 80, 81, 82, 83, 84, 85, 86, 87, 88, 89, 90, 91, 92] (by decide +kernel) (by decide +kernel)
set_option maxRecDepth 20000 in
theorem gX4_collect_X4_tour : GoodIn wsX4_collect (wsV RX4 138 RX4 yX4_tour wsX4_tour) := goodIn_app (goodIn_of _ (by decide +kernel)) ggX4_collect_X4_tour
theorem dX4_collect_0 : decode cX4_collect 0 = .ok (.aload_n 0, 1) := by decide +kernel
theorem dX4_collect_1 : decode cX4_collect 1 = .ok (.iconst 0, 1) := by decide +kernel
theorem dX4_collect_2 : decode cX4_collect 2 = .ok (.putfield 64, 3) := by decide +kernel
theorem dX4_collect_5 : decode cX4_collect 5 = .ok (.iload_n 1, 1) := by decide +kernel
theorem dX4_collect_6 : decode cX4_collect 6 = .ok (.invokestatic 86, 3) := by decide +kernel
theorem dX4_collect_9 : decode cX4_collect 9 = .ok (.ifCond .ne 9, 3) := by decide +kernel
theorem dX4_collect_12 : decode cX4_collect 12 = .ok (.aload_n 0, 1) := by decide +kernel
theorem dX4_collect_13 : decode cX4_collect 13 = .ok (.iconst 1, 1) := by decide +kernel
theorem dX4_collect_14 : decode cX4_collect 14 = .ok (.invokevirtual 74, 3) := by decide +kernel
theorem dX4_collect_17 : decode cX4_collect 17 = .ok (.ireturn, 1) := by decide +kernel
theorem dX4_collect_18 : decode cX4_collect 18 = .ok (.iload_n 2, 1) := by decide +kernel
theorem dX4_collect_19 : decode cX4_collect 19 = .ok (.invokestatic 135, 3) := by decide +kernel
theorem dX4_collect_22 : decode cX4_collect 22 = .ok (.ifCond .ne 9, 3) := by decide +kernel
theorem dX4_collect_25 : decode cX4_collect 25 = .ok (.aload_n 0, 1) := by decide +kernel
theorem dX4_collect_26 : decode cX4_collect 26 = .ok (.iconst 2, 1) := by decide +kernel
theorem dX4_collect_27 : decode cX4_collect 27 = .ok (.invokevirtual 74, 3) := by decide +kernel
theorem dX4_collect_30 : decode cX4_collect 30 = .ok (.ireturn, 1) := by decide +kernel
theorem dX4_collect_31 : decode cX4_collect 31 = .ok (.aload_n 0, 1) := by decide +kernel
theorem dX4_collect_32 : decode cX4_collect 32 = .ok (.getfield 20, 3) := by decide +kernel
theorem dX4_collect_35 : decode cX4_collect 35 = .ok (.aload_n 0, 1) := by decide +kernel
theorem dX4_collect_36 : decode cX4_collect 36 = .ok (.getfield 93, 3) := by decide +kernel
theorem dX4_collect_39 : decode cX4_collect 39 = .ok (.baload, 1) := by decide +kernel
theorem dX4_collect_40 : decode cX4_collect 40 = .ok (.ifCond .eq 9, 3) := by decide +kernel
theorem dX4_collect_43 : decode cX4_collect 43 = .ok (.aload_n 0, 1) := by decide +kernel
theorem dX4_collect_44 : decode cX4_collect 44 = .ok (.iconst 3, 1) := by decide +kernel
theorem dX4_collect_45 : decode cX4_collect 45 = .ok (.invokevirtual 74, 3) := by decide +kernel
theorem dX4_collect_48 : decode cX4_collect 48 = .ok (.ireturn, 1) := by decide +kernel
theorem dX4_collect_49 : decode cX4_collect 49 = .ok (.aload_n 0, 1) := by decide +kernel
theorem dX4_collect_50 : decode cX4_collect 50 = .ok (.iload_n 1, 1) := by decide +kernel
theorem dX4_collect_51 : decode cX4_collect 51 = .ok (.invokevirtual 123, 3) := by decide +kernel
theorem dX4_collect_54 : decode cX4_collect 54 = .ok (.aload_n 0, 1) := by decide +kernel
theorem dX4_collect_55 : decode cX4_collect 55 = .ok (.getfield 117, 3) := by decide +kernel
theorem dX4_collect_58 : decode cX4_collect 58 = .ok (.ifCond .ne 7, 3) := by decide +kernel
theorem dX4_collect_61 : decode cX4_collect 61 = .ok (.iconst 0, 1) := by decide +kernel
theorem dX4_collect_62 : decode cX4_collect 62 = .ok (.goto 10, 3) := by decide +kernel
theorem dX4_collect_65 : decode cX4_collect 65 = .ok (.aload_n 0, 1) := by decide +kernel
theorem dX4_collect_66 : decode cX4_collect 66 = .ok (.iload_n 1, 1) := by decide +kernel
theorem dX4_collect_67 : decode cX4_collect 67 = .ok (.iload_n 2, 1) := by decide +kernel
theorem dX4_collect_68 : decode cX4_collect 68 = .ok (.iconst 1, 1) := by decide +kernel
theorem dX4_collect_69 : decode cX4_collect 69 = .ok (.invokevirtual 138, 3) := by decide +kernel
theorem dX4_collect_72 : decode cX4_collect 72 = .ok (.ireturn, 1) := by decide +kernel
set_option maxRecDepth 20000 in
theorem ggX4_fetch_X4_isBin : GoodIn wsX4_fetch wsX4_isBin := goodIn_r _ [11, 12, 13, 14, 10, 15, 56, 57, 58, 59, 60, 61, 62, 63, 64, 65, 66, 67, 68, 69, 70, 71, 72, 73, 74, 75, 76] (by decide +kernel) (by decide +kernel)
set_option maxRecDepth 20000 in
theorem gX4_fetch_X4_isBin : GoodIn wsX4_fetch (wsV RX4 105 RX4 yX4_isBin wsX4_isBin) := goodIn_app (goodIn_of _ (by decide +kernel)) ggX4_fetch_X4_isBin
set_option maxRecDepth 20000 in
theorem ggX4_fetch_X4_fail : GoodIn wsX4_fetch wsX4_fail := goodIn_r _ [19, 1, 56, 57, 58, 59, 60, 61, 62, 63, 64, 65, 66, 67, 68, 69, 70, 71, 72, 73, 74, 75, 76] (by decide +kernel) (by decide +kernel)
set_option maxRecDepth 20000 in
theorem gX4_fetch_X4_fail : GoodIn wsX4_fetch (wsV RX4 74 RX4 yX4_fail wsX4_fail) := goodIn_app (goodIn_of _ (by decide +kernel)) ggX4_fetch_X4_fail
set_option maxRecDepth 20000 in
theorem ggX4_fetch_X4_isCapacity : GoodIn wsX4_fetch wsX4_isCapacity := goodIn_r _ [22, 13, 14, 10, 15] (by decide +kernel) (by decide +kernel)
set_option maxRecDepth 20000 in
theorem gX4_fetch_X4_isCapacity : GoodIn wsX4_fetch (va_wsS RX4 135 yX4_isCapacity wsX4_isCapacity) := goodIn_app (goodIn_of _ (by decide +kernel)) ggX4_fetch_X4_isCapacity
set_option maxRecDepth 20000 in
theorem ggX4_fetch_X4_tour : GoodIn wsX4_fetch wsX4_tour := goodIn_r _ [26, 4, 5, 27, 28, 29, 30, 31, 32, 33, 34, 35, 36, 37, 38, 10, 39, 40, 41, 42, 43, 44, 45, 46, 47, 48, 49, 50, 51, 52, 53, 3, 54, 55, 56, 57, 58, 59, 60, 61, 62, 63, 64, 65, 66, 67, 68, 69, 70, 71, 72, 73, 74, 75, 76] (by decide +kernel) (by decide +kernel)
set_option maxRecDepth 20000 in
theorem gX4_fetch_X4_tour : GoodIn wsX4_fetch (wsV RX4 138 RX4 yX4_tour wsX4_tour) := goodIn_app (goodIn_of _ (by decide +kernel)) ggX4_fetch_X4_tour
theorem dX4_fetch_0 : decode cX4_fetch 0 = .ok (.aload_n 0, 1) := by decide +kernel
theorem dX4_fetch_1 : decode cX4_fetch 1 = .ok (.iconst 0, 1) := by decide +kernel
theorem dX4_fetch_2 : decode cX4_fetch 2 = .ok (.putfield 64, 3) := by decide +kernel
theorem dX4_fetch_5 : decode cX4_fetch 5 = .ok (.aload_n 0, 1) := by decide +kernel
theorem dX4_fetch_6 : decode cX4_fetch 6 = .ok (.iload_n 1, 1) := by decide +kernel
theorem dX4_fetch_7 : decode cX4_fetch 7 = .ok (.invokevirtual 105, 3) := by decide +kernel
theorem dX4_fetch_10 : decode cX4_fetch 10 = .ok (.ifCond .ne 9, 3) := by decide +kernel
theorem dX4_fetch_13 : decode cX4_fetch 13 = .ok (.aload_n 0, 1) := by decide +kernel
theorem dX4_fetch_14 : decode cX4_fetch 14 = .ok (.iconst 1, 1) := by decide +kernel
theorem dX4_fetch_15 : decode cX4_fetch 15 = .ok (.invokevirtual 74, 3) := by decide +kernel
theorem dX4_fetch_18 : decode cX4_fetch 18 = .ok (.ireturn, 1) := by decide +kernel
theorem dX4_fetch_19 : decode cX4_fetch 19 = .ok (.iload_n 2, 1) := by decide +kernel
theorem dX4_fetch_20 : decode cX4_fetch 20 = .ok (.invokestatic 135, 3) := by decide +kernel
theorem dX4_fetch_23 : decode cX4_fetch 23 = .ok (.ifCond .ne 9, 3) := by decide +kernel
theorem dX4_fetch_26 : decode cX4_fetch 26 = .ok (.aload_n 0, 1) := by decide +kernel
theorem dX4_fetch_27 : decode cX4_fetch 27 = .ok (.iconst 2, 1) := by decide +kernel
theorem dX4_fetch_28 : decode cX4_fetch 28 = .ok (.invokevirtual 74, 3) := by decide +kernel
theorem dX4_fetch_31 : decode cX4_fetch 31 = .ok (.ireturn, 1) := by decide +kernel
theorem dX4_fetch_32 : decode cX4_fetch 32 = .ok (.aload_n 0, 1) := by decide +kernel
theorem dX4_fetch_33 : decode cX4_fetch 33 = .ok (.getfield 20, 3) := by decide +kernel
theorem dX4_fetch_36 : decode cX4_fetch 36 = .ok (.aload_n 0, 1) := by decide +kernel
theorem dX4_fetch_37 : decode cX4_fetch 37 = .ok (.getfield 93, 3) := by decide +kernel
theorem dX4_fetch_40 : decode cX4_fetch 40 = .ok (.baload, 1) := by decide +kernel
theorem dX4_fetch_41 : decode cX4_fetch 41 = .ok (.ifCond .eq 9, 3) := by decide +kernel
theorem dX4_fetch_44 : decode cX4_fetch 44 = .ok (.aload_n 0, 1) := by decide +kernel
theorem dX4_fetch_45 : decode cX4_fetch 45 = .ok (.iconst 3, 1) := by decide +kernel
theorem dX4_fetch_46 : decode cX4_fetch 46 = .ok (.invokevirtual 74, 3) := by decide +kernel
theorem dX4_fetch_49 : decode cX4_fetch 49 = .ok (.ireturn, 1) := by decide +kernel
theorem dX4_fetch_50 : decode cX4_fetch 50 = .ok (.aload_n 0, 1) := by decide +kernel
theorem dX4_fetch_51 : decode cX4_fetch 51 = .ok (.iconst 1, 1) := by decide +kernel
theorem dX4_fetch_52 : decode cX4_fetch 52 = .ok (.putfield 117, 3) := by decide +kernel
theorem dX4_fetch_55 : decode cX4_fetch 55 = .ok (.aload_n 0, 1) := by decide +kernel
theorem dX4_fetch_56 : decode cX4_fetch 56 = .ok (.getfield 61, 3) := by decide +kernel
theorem dX4_fetch_59 : decode cX4_fetch 59 = .ok (.iconst 0, 1) := by decide +kernel
theorem dX4_fetch_60 : decode cX4_fetch 60 = .ok (.iload_n 1, 1) := by decide +kernel
theorem dX4_fetch_61 : decode cX4_fetch 61 = .ok (.iastore, 1) := by decide +kernel
theorem dX4_fetch_62 : decode cX4_fetch 62 = .ok (.aload_n 0, 1) := by decide +kernel
theorem dX4_fetch_63 : decode cX4_fetch 63 = .ok (.aload_n 0, 1) := by decide +kernel
theorem dX4_fetch_64 : decode cX4_fetch 64 = .ok (.getfield 27, 3) := by decide +kernel
theorem dX4_fetch_67 : decode cX4_fetch 67 = .ok (.iload_n 1, 1) := by decide +kernel
theorem dX4_fetch_68 : decode cX4_fetch 68 = .ok (.iaload, 1) := by decide +kernel
theorem dX4_fetch_69 : decode cX4_fetch 69 = .ok (.iload_n 2, 1) := by decide +kernel
theorem dX4_fetch_70 : decode cX4_fetch 70 = .ok (.iconst 1, 1) := by decide +kernel
theorem dX4_fetch_71 : decode cX4_fetch 71 = .ok (.invokevirtual 138, 3) := by decide +kernel
theorem dX4_fetch_74 : decode cX4_fetch 74 = .ok (.ireturn, 1) := by decide +kernel
set_option maxRecDepth 20000 in
theorem ggX4_wouldTake_X4_isKind : GoodIn wsX4_wouldTake wsX4_isKind := goodIn_r _ [6, 7, 8, 5, 9] (by decide +kernel) (by decide +kernel)
set_option maxRecDepth 20000 in
theorem gX4_wouldTake_X4_isKind : GoodIn wsX4_wouldTake (va_wsS RX4 86 yX4_isKind wsX4_isKind) := goodIn_app (goodIn_of _ (by decide +kernel)) ggX4_wouldTake_X4_isKind
set_option maxRecDepth 20000 in
theorem ggX4_wouldTake_X4_fail : GoodIn wsX4_wouldTake wsX4_fail := goodIn_r _ [13, 1, 72, 73, 74, 75, 76, 77, 78, 79, 80, 81, 82, 83, 84, 85, 86, 87, 88, 89, 90, 91, 92] (by decide +kernel) (by decide +kernel)
set_option maxRecDepth 20000 in
theorem gX4_wouldTake_X4_fail : GoodIn wsX4_wouldTake (wsV RX4 74 RX4 yX4_fail wsX4_fail) := goodIn_app (goodIn_of _ (by decide +kernel)) ggX4_wouldTake_X4_fail
set_option maxRecDepth 20000 in
theorem ggX4_wouldTake_X4_isCapacity : GoodIn wsX4_wouldTake wsX4_isCapacity := goodIn_r _ [16, 7, 8, 5, 9] (by decide +kernel) (by decide +kernel)
set_option maxRecDepth 20000 in
theorem gX4_wouldTake_X4_isCapacity : GoodIn wsX4_wouldTake (va_wsS RX4 135 yX4_isCapacity wsX4_isCapacity) := goodIn_app (goodIn_of _ (by decide +kernel)) ggX4_wouldTake_X4_isCapacity
set_option maxRecDepth 20000 in
theorem ggX4_wouldTake_X4_makePlan : GoodIn wsX4_wouldTake wsX4_makePlan := goodIn_r _ [20, 2, 21, 22, 23, 24, 25, 26, 5, 27, 28, 29, 30, 31, 32, 33, 34, 35, 36, 37, 38, 39, 40, 41, 42, 43, 44, 45, 46, 47, 48, 49, 50, 51, 52, 53, 72, 73, 74, 75, 76, 77, 78, 79, 80, 81, 82, 83, 84, 85, 86, 87, 88, 89, 90, 91, 92] (by decide +kernel) (by decide +kernel)
set_option maxRecDepth 20000 in
theorem gX4_wouldTake_X4_makePlan : GoodIn wsX4_wouldTake (wsV RX4 123 RX4 yX4_makePlan wsX4_makePlan) := goodIn_app (goodIn_of _ (by decide +kernel)) ggX4_wouldTake_X4_makePlan
set_option maxRecDepth 20000 in
theorem ggX4_wouldTake_X4_tour : GoodIn wsX4_wouldTake wsX4_tour := goodIn_r _ [57, 2, 24, 23, 58, 59, 60, 40, 41, 42, 43, 61, 49, 50, 51, 5, 52, 53, 62, 63, 64, 65, 66, 67, 25, 26, 27, 68, 69, 70, 71, 32, 39, 38, 72, 73, 74, 75, 76, 77, 78, 79, 80, 81, 82, 83, 84, 85, 86, 87, 88, 89, 90, 91, 92] (by decide +kernel) (by decide +kernel)
set_option maxRecDepth 20000 in
theorem gX4_wouldTake_X4_tour : GoodIn wsX4_wouldTake (wsV RX4 138 RX4 yX4_tour wsX4_tour) := goodIn_app (goodIn_of _ (by decide +kernel)) ggX4_wouldTake_X4_tour
theorem dX4_wouldTake_0 : decode cX4_wouldTake 0 = .ok (.aload_n 0, 1) := by decide +kernel
theorem dX4_wouldTake_1 : decode cX4_wouldTake 1 = .ok (.iconst 0, 1) := by decide +kernel
theorem dX4_wouldTake_2 : decode cX4_wouldTake 2 = .ok (.putfield 64, 3) := by decide +kernel
theorem dX4_wouldTake_5 : decode cX4_wouldTake 5 = .ok (.iload_n 1, 1) := by decide +kernel
theorem dX4_wouldTake_6 : decode cX4_wouldTake 6 = .ok (.invokestatic 86, 3) := by decide +kernel
theorem dX4_wouldTake_9 : decode cX4_wouldTake 9 = .ok (.ifCond .ne 9, 3) := by decide +kernel
theorem dX4_wouldTake_12 : decode cX4_wouldTake 12 = .ok (.aload_n 0, 1) := by decide +kernel
theorem dX4_wouldTake_13 : decode cX4_wouldTake 13 = .ok (.iconst 1, 1) := by decide +kernel
theorem dX4_wouldTake_14 : decode cX4_wouldTake 14 = .ok (.invokevirtual 74, 3) := by decide +kernel
theorem dX4_wouldTake_17 : decode cX4_wouldTake 17 = .ok (.ireturn, 1) := by decide +kernel
theorem dX4_wouldTake_18 : decode cX4_wouldTake 18 = .ok (.iload_n 2, 1) := by decide +kernel
theorem dX4_wouldTake_19 : decode cX4_wouldTake 19 = .ok (.invokestatic 135, 3) := by decide +kernel
theorem dX4_wouldTake_22 : decode cX4_wouldTake 22 = .ok (.ifCond .ne 9, 3) := by decide +kernel
theorem dX4_wouldTake_25 : decode cX4_wouldTake 25 = .ok (.aload_n 0, 1) := by decide +kernel
theorem dX4_wouldTake_26 : decode cX4_wouldTake 26 = .ok (.iconst 2, 1) := by decide +kernel
theorem dX4_wouldTake_27 : decode cX4_wouldTake 27 = .ok (.invokevirtual 74, 3) := by decide +kernel
theorem dX4_wouldTake_30 : decode cX4_wouldTake 30 = .ok (.ireturn, 1) := by decide +kernel
theorem dX4_wouldTake_31 : decode cX4_wouldTake 31 = .ok (.aload_n 0, 1) := by decide +kernel
theorem dX4_wouldTake_32 : decode cX4_wouldTake 32 = .ok (.iload_n 1, 1) := by decide +kernel
theorem dX4_wouldTake_33 : decode cX4_wouldTake 33 = .ok (.invokevirtual 123, 3) := by decide +kernel
theorem dX4_wouldTake_36 : decode cX4_wouldTake 36 = .ok (.aload_n 0, 1) := by decide +kernel
theorem dX4_wouldTake_37 : decode cX4_wouldTake 37 = .ok (.getfield 117, 3) := by decide +kernel
theorem dX4_wouldTake_40 : decode cX4_wouldTake 40 = .ok (.ifCond .ne 7, 3) := by decide +kernel
theorem dX4_wouldTake_43 : decode cX4_wouldTake 43 = .ok (.iconst 0, 1) := by decide +kernel
theorem dX4_wouldTake_44 : decode cX4_wouldTake 44 = .ok (.goto 10, 3) := by decide +kernel
theorem dX4_wouldTake_47 : decode cX4_wouldTake 47 = .ok (.aload_n 0, 1) := by decide +kernel
theorem dX4_wouldTake_48 : decode cX4_wouldTake 48 = .ok (.iload_n 1, 1) := by decide +kernel
theorem dX4_wouldTake_49 : decode cX4_wouldTake 49 = .ok (.iload_n 2, 1) := by decide +kernel
theorem dX4_wouldTake_50 : decode cX4_wouldTake 50 = .ok (.iconst 0, 1) := by decide +kernel
theorem dX4_wouldTake_51 : decode cX4_wouldTake 51 = .ok (.invokevirtual 138, 3) := by decide +kernel
theorem dX4_wouldTake_54 : decode cX4_wouldTake 54 = .ok (.ireturn, 1) := by decide +kernel
set_option maxRecDepth 20000 in
theorem ggX4_total_X4_isKind : GoodIn wsX4_total wsX4_isKind := goodIn_r _ [6, 7, 8, 5, 9] (by decide +kernel) (by decide +kernel)
set_option maxRecDepth 20000 in
theorem gX4_total_X4_isKind : GoodIn wsX4_total (va_wsS RX4 86 yX4_isKind wsX4_isKind) := goodIn_app (goodIn_of _ (by decide +kernel)) ggX4_total_X4_isKind
set_option maxRecDepth 20000 in
theorem ggX4_total_X4_isIn : GoodIn wsX4_total wsX4_isIn := goodIn_r _ [9] (by decide +kernel) (by decide +kernel)
set_option maxRecDepth 20000 in
theorem gX4_total_X4_isIn : GoodIn wsX4_total (va_wsS RX4 67 yX4_isIn wsX4_isIn) := goodIn_app (goodIn_of _ (by decide +kernel)) ggX4_total_X4_isIn
theorem dX4_total_0 : decode cX4_total 0 = .ok (.aload_n 0, 1) := by decide +kernel
theorem dX4_total_1 : decode cX4_total 1 = .ok (.iload_n 1, 1) := by decide +kernel
theorem dX4_total_2 : decode cX4_total 2 = .ok (.invokestatic 86, 3) := by decide +kernel
theorem dX4_total_5 : decode cX4_total 5 = .ok (.ifCond .eq 16, 3) := by decide +kernel
theorem dX4_total_8 : decode cX4_total 8 = .ok (.iload_n 2, 1) := by decide +kernel
theorem dX4_total_9 : decode cX4_total 9 = .ok (.iconst 0, 1) := by decide +kernel
theorem dX4_total_10 : decode cX4_total 10 = .ok (.iconst 3, 1) := by decide +kernel
theorem dX4_total_11 : decode cX4_total 11 = .ok (.invokestatic 67, 3) := by decide +kernel
theorem dX4_total_14 : decode cX4_total 14 = .ok (.ifCond .eq 7, 3) := by decide +kernel
theorem dX4_total_17 : decode cX4_total 17 = .ok (.iconst 0, 1) := by decide +kernel
theorem dX4_total_18 : decode cX4_total 18 = .ok (.goto 4, 3) := by decide +kernel
theorem dX4_total_21 : decode cX4_total 21 = .ok (.iconst 1, 1) := by decide +kernel
theorem dX4_total_22 : decode cX4_total 22 = .ok (.putfield 64, 3) := by decide +kernel
theorem dX4_total_25 : decode cX4_total 25 = .ok (.aload_n 0, 1) := by decide +kernel
theorem dX4_total_26 : decode cX4_total 26 = .ok (.getfield 64, 3) := by decide +kernel
theorem dX4_total_29 : decode cX4_total 29 = .ok (.ifCond .ne 16, 3) := by decide +kernel
theorem dX4_total_32 : decode cX4_total 32 = .ok (.aload_n 0, 1) := by decide +kernel
theorem dX4_total_33 : decode cX4_total 33 = .ok (.getfield 54, 3) := by decide +kernel
theorem dX4_total_36 : decode cX4_total 36 = .ok (.iconst 4, 1) := by decide +kernel
theorem dX4_total_37 : decode cX4_total 37 = .ok (.iload_n 1, 1) := by decide +kernel
theorem dX4_total_38 : decode cX4_total 38 = .ok (.imul, 1) := by decide +kernel
theorem dX4_total_39 : decode cX4_total 39 = .ok (.iload_n 2, 1) := by decide +kernel
theorem dX4_total_40 : decode cX4_total 40 = .ok (.iadd, 1) := by decide +kernel
theorem dX4_total_41 : decode cX4_total 41 = .ok (.laload, 1) := by decide +kernel
theorem dX4_total_42 : decode cX4_total 42 = .ok (.goto 4, 3) := by decide +kernel
theorem dX4_total_45 : decode cX4_total 45 = .ok (.lconst 0, 1) := by decide +kernel
theorem dX4_total_46 : decode cX4_total 46 = .ok (.lreturn, 1) := by decide +kernel
set_option maxRecDepth 20000 in
theorem ggX4_wasted_X4_isKind : GoodIn wsX4_wasted wsX4_isKind := goodIn_r _ [6, 7, 8, 5, 9] (by decide +kernel) (by decide +kernel)
set_option maxRecDepth 20000 in
theorem gX4_wasted_X4_isKind : GoodIn wsX4_wasted (va_wsS RX4 86 yX4_isKind wsX4_isKind) := goodIn_app (goodIn_of _ (by decide +kernel)) ggX4_wasted_X4_isKind
theorem dX4_wasted_0 : decode cX4_wasted 0 = .ok (.aload_n 0, 1) := by decide +kernel
theorem dX4_wasted_1 : decode cX4_wasted 1 = .ok (.iload_n 1, 1) := by decide +kernel
theorem dX4_wasted_2 : decode cX4_wasted 2 = .ok (.invokestatic 86, 3) := by decide +kernel
theorem dX4_wasted_5 : decode cX4_wasted 5 = .ok (.ifCond .eq 7, 3) := by decide +kernel
theorem dX4_wasted_8 : decode cX4_wasted 8 = .ok (.iconst 0, 1) := by decide +kernel
theorem dX4_wasted_9 : decode cX4_wasted 9 = .ok (.goto 4, 3) := by decide +kernel
theorem dX4_wasted_12 : decode cX4_wasted 12 = .ok (.iconst 1, 1) := by decide +kernel
theorem dX4_wasted_13 : decode cX4_wasted 13 = .ok (.putfield 64, 3) := by decide +kernel
theorem dX4_wasted_16 : decode cX4_wasted 16 = .ok (.aload_n 0, 1) := by decide +kernel
theorem dX4_wasted_17 : decode cX4_wasted 17 = .ok (.getfield 64, 3) := by decide +kernel
theorem dX4_wasted_20 : decode cX4_wasted 20 = .ok (.ifCond .ne 12, 3) := by decide +kernel
theorem dX4_wasted_23 : decode cX4_wasted 23 = .ok (.aload_n 0, 1) := by decide +kernel
theorem dX4_wasted_24 : decode cX4_wasted 24 = .ok (.getfield 58, 3) := by decide +kernel
theorem dX4_wasted_27 : decode cX4_wasted 27 = .ok (.iload_n 1, 1) := by decide +kernel
theorem dX4_wasted_28 : decode cX4_wasted 28 = .ok (.laload, 1) := by decide +kernel
theorem dX4_wasted_29 : decode cX4_wasted 29 = .ok (.goto 4, 3) := by decide +kernel
theorem dX4_wasted_32 : decode cX4_wasted 32 = .ok (.lconst 0, 1) := by decide +kernel
theorem dX4_wasted_33 : decode cX4_wasted 33 = .ok (.lreturn, 1) := by decide +kernel
set_option maxRecDepth 20000 in
theorem ggX4_error_X4_expectedOn : GoodIn wsX4_error wsX4_expectedOn := goodIn_r _ [14, 9, 15, 16, 17, 18, 7, 19, 20, 21, 22, 23, 24, 25, 26, 27, 28, 29, 30, 31, 32, 33, 34, 35, 36, 37, 38, 39, 40] (by decide +kernel) (by decide +kernel)
set_option maxRecDepth 20000 in
theorem gX4_error_X4_expectedOn : GoodIn wsX4_error (wsV RX4 114 RX4 yX4_expectedOn wsX4_expectedOn) := goodIn_app (goodIn_of _ (by decide +kernel)) ggX4_error_X4_expectedOn
theorem dX4_error_0 : decode cX4_error 0 = .ok (.aload_n 0, 1) := by decide +kernel
theorem dX4_error_1 : decode cX4_error 1 = .ok (.iconst 0, 1) := by decide +kernel
theorem dX4_error_2 : decode cX4_error 2 = .ok (.putfield 64, 3) := by decide +kernel
theorem dX4_error_5 : decode cX4_error 5 = .ok (.iconst 0, 1) := by decide +kernel
theorem dX4_error_6 : decode cX4_error 6 = .ok (.istore_n 1, 1) := by decide +kernel
theorem dX4_error_7 : decode cX4_error 7 = .ok (.iconst 0, 1) := by decide +kernel
theorem dX4_error_8 : decode cX4_error 8 = .ok (.istore_n 2, 1) := by decide +kernel
theorem dX4_error_9 : decode cX4_error 9 = .ok (.iconst 0, 1) := by decide +kernel
theorem dX4_error_10 : decode cX4_error 10 = .ok (.istore_n 3, 1) := by decide +kernel
theorem dX4_error_11 : decode cX4_error 11 = .ok (.iload_n 3, 1) := by decide +kernel
theorem dX4_error_12 : decode cX4_error 12 = .ok (.aload_n 0, 1) := by decide +kernel
theorem dX4_error_13 : decode cX4_error 13 = .ok (.getfield 71, 3) := by decide +kernel
theorem dX4_error_16 : decode cX4_error 16 = .ok (.if_icmp .ge 40, 3) := by decide +kernel
theorem dX4_error_19 : decode cX4_error 19 = .ok (.iload_n 1, 1) := by decide +kernel
theorem dX4_error_20 : decode cX4_error 20 = .ok (.aload_n 0, 1) := by decide +kernel
theorem dX4_error_21 : decode cX4_error 21 = .ok (.iload_n 3, 1) := by decide +kernel
theorem dX4_error_22 : decode cX4_error 22 = .ok (.aload_n 0, 1) := by decide +kernel
theorem dX4_error_23 : decode cX4_error 23 = .ok (.getfield 93, 3) := by decide +kernel
theorem dX4_error_26 : decode cX4_error 26 = .ok (.invokevirtual 114, 3) := by decide +kernel
theorem dX4_error_29 : decode cX4_error 29 = .ok (.aload_n 0, 1) := by decide +kernel
theorem dX4_error_30 : decode cX4_error 30 = .ok (.getfield 36, 3) := by decide +kernel
theorem dX4_error_33 : decode cX4_error 33 = .ok (.iload_n 3, 1) := by decide +kernel
theorem dX4_error_34 : decode cX4_error 34 = .ok (.iaload, 1) := by decide +kernel
theorem dX4_error_35 : decode cX4_error 35 = .ok (.isub, 1) := by decide +kernel
theorem dX4_error_36 : decode cX4_error 36 = .ok (.invokestatic 142, 3) := by decide +kernel
theorem dX4_error_39 : decode cX4_error 39 = .ok (.iadd, 1) := by decide +kernel
theorem dX4_error_40 : decode cX4_error 40 = .ok (.istore_n 1, 1) := by decide +kernel
theorem dX4_error_41 : decode cX4_error 41 = .ok (.iload_n 2, 1) := by decide +kernel
theorem dX4_error_42 : decode cX4_error 42 = .ok (.aload_n 0, 1) := by decide +kernel
theorem dX4_error_43 : decode cX4_error 43 = .ok (.getfield 30, 3) := by decide +kernel
theorem dX4_error_46 : decode cX4_error 46 = .ok (.iload_n 3, 1) := by decide +kernel
theorem dX4_error_47 : decode cX4_error 47 = .ok (.iaload, 1) := by decide +kernel
theorem dX4_error_48 : decode cX4_error 48 = .ok (.iadd, 1) := by decide +kernel
theorem dX4_error_49 : decode cX4_error 49 = .ok (.istore_n 2, 1) := by decide +kernel
theorem dX4_error_50 : decode cX4_error 50 = .ok (.iinc 3 1, 3) := by decide +kernel
theorem dX4_error_53 : decode cX4_error 53 = .ok (.goto (-42), 3) := by decide +kernel
theorem dX4_error_56 : decode cX4_error 56 = .ok (.aload_n 0, 1) := by decide +kernel
theorem dX4_error_57 : decode cX4_error 57 = .ok (.getfield 71, 3) := by decide +kernel
theorem dX4_error_60 : decode cX4_error 60 = .ok (.ifCond .ne 7, 3) := by decide +kernel
theorem dX4_error_63 : decode cX4_error 63 = .ok (.dconst 0, 1) := by decide +kernel
theorem dX4_error_64 : decode cX4_error 64 = .ok (.goto 8, 3) := by decide +kernel
theorem dX4_error_67 : decode cX4_error 67 = .ok (.iload_n 1, 1) := by decide +kernel
theorem dX4_error_68 : decode cX4_error 68 = .ok (.i2d, 1) := by decide +kernel
theorem dX4_error_69 : decode cX4_error 69 = .ok (.iload_n 2, 1) := by decide +kernel
theorem dX4_error_70 : decode cX4_error 70 = .ok (.i2d, 1) := by decide +kernel
theorem dX4_error_71 : decode cX4_error 71 = .ok (.ddiv, 1) := by decide +kernel
theorem dX4_error_72 : decode cX4_error 72 = .ok (.dreturn, 1) := by decide +kernel
set_option maxRecDepth 20000 in
theorem ggX4_digest_X4_drive : GoodIn wsX4_digest wsX4_drive := goodIn_r _ [14, 15, 28, 29, 30, 31, 32, 33, 34, 35, 36, 37, 38, 39, 40, 41, 42, 43, 44, 45, 46, 47, 48] (by decide +kernel) (by decide +kernel)
set_option maxRecDepth 20000 in
theorem gX4_digest_X4_drive : GoodIn wsX4_digest (wsV RX4 82 RX4 yX4_drive wsX4_drive) := goodIn_app (goodIn_of _ (by decide +kernel)) ggX4_digest_X4_drive
set_option maxRecDepth 20000 in
theorem ggX4_digest_X4_told : GoodIn wsX4_digest wsX4_told := goodIn_r _ [19, 20, 21, 22, 23, 24, 25, 26, 27, 28, 29, 30, 31, 32, 33, 34, 35, 36, 37, 38, 39, 40, 41, 42, 43, 44, 45, 46, 47, 48] (by decide +kernel) (by decide +kernel)
set_option maxRecDepth 20000 in
theorem gX4_digest_X4_told : GoodIn wsX4_digest (wsV RX4 108 RX4 yX4_told wsX4_told) := goodIn_app (goodIn_of _ (by decide +kernel)) ggX4_digest_X4_told
theorem dX4_digest_0 : decode cX4_digest 0 = .ok (.aload_n 0, 1) := by decide +kernel
theorem dX4_digest_1 : decode cX4_digest 1 = .ok (.iconst 0, 1) := by decide +kernel
theorem dX4_digest_2 : decode cX4_digest 2 = .ok (.putfield 64, 3) := by decide +kernel
theorem dX4_digest_5 : decode cX4_digest 5 = .ok (.ldc2_w 145, 3) := by decide +kernel
theorem dX4_digest_8 : decode cX4_digest 8 = .ok (.aload_n 0, 1) := by decide +kernel
theorem dX4_digest_9 : decode cX4_digest 9 = .ok (.getfield 93, 3) := by decide +kernel
theorem dX4_digest_12 : decode cX4_digest 12 = .ok (.i2l, 1) := by decide +kernel
theorem dX4_digest_13 : decode cX4_digest 13 = .ok (.ladd, 1) := by decide +kernel
theorem dX4_digest_14 : decode cX4_digest 14 = .ok (.ldc2_w 147, 3) := by decide +kernel
theorem dX4_digest_17 : decode cX4_digest 17 = .ok (.lmul, 1) := by decide +kernel
theorem dX4_digest_18 : decode cX4_digest 18 = .ok (.aload_n 0, 1) := by decide +kernel
theorem dX4_digest_19 : decode cX4_digest 19 = .ok (.getfield 7, 3) := by decide +kernel
theorem dX4_digest_22 : decode cX4_digest 22 = .ok (.i2l, 1) := by decide +kernel
theorem dX4_digest_23 : decode cX4_digest 23 = .ok (.ladd, 1) := by decide +kernel
theorem dX4_digest_24 : decode cX4_digest 24 = .ok (.lstore_n 1, 1) := by decide +kernel
theorem dX4_digest_25 : decode cX4_digest 25 = .ok (.iconst 0, 1) := by decide +kernel
theorem dX4_digest_26 : decode cX4_digest 26 = .ok (.istore_n 3, 1) := by decide +kernel
theorem dX4_digest_27 : decode cX4_digest 27 = .ok (.iload_n 3, 1) := by decide +kernel
theorem dX4_digest_28 : decode cX4_digest 28 = .ok (.aload_n 0, 1) := by decide +kernel
theorem dX4_digest_29 : decode cX4_digest 29 = .ok (.getfield 7, 3) := by decide +kernel
theorem dX4_digest_32 : decode cX4_digest 32 = .ok (.if_icmp .ge 44, 3) := by decide +kernel
theorem dX4_digest_35 : decode cX4_digest 35 = .ok (.iload_n 3, 1) := by decide +kernel
theorem dX4_digest_36 : decode cX4_digest 36 = .ok (.iconst 1, 1) := by decide +kernel
theorem dX4_digest_37 : decode cX4_digest 37 = .ok (.iadd, 1) := by decide +kernel
theorem dX4_digest_38 : decode cX4_digest 38 = .ok (.istore 4, 2) := by decide +kernel
theorem dX4_digest_40 : decode cX4_digest 40 = .ok (.iload 4, 2) := by decide +kernel
theorem dX4_digest_42 : decode cX4_digest 42 = .ok (.aload_n 0, 1) := by decide +kernel
theorem dX4_digest_43 : decode cX4_digest 43 = .ok (.getfield 7, 3) := by decide +kernel
theorem dX4_digest_46 : decode cX4_digest 46 = .ok (.if_icmp .ge 24, 3) := by decide +kernel
theorem dX4_digest_49 : decode cX4_digest 49 = .ok (.lload_n 1, 1) := by decide +kernel
theorem dX4_digest_50 : decode cX4_digest 50 = .ok (.ldc2_w 147, 3) := by decide +kernel
theorem dX4_digest_53 : decode cX4_digest 53 = .ok (.lmul, 1) := by decide +kernel
theorem dX4_digest_54 : decode cX4_digest 54 = .ok (.aload_n 0, 1) := by decide +kernel
theorem dX4_digest_55 : decode cX4_digest 55 = .ok (.iload_n 3, 1) := by decide +kernel
theorem dX4_digest_56 : decode cX4_digest 56 = .ok (.iload 4, 2) := by decide +kernel
theorem dX4_digest_58 : decode cX4_digest 58 = .ok (.invokevirtual 82, 3) := by decide +kernel
theorem dX4_digest_61 : decode cX4_digest 61 = .ok (.i2l, 1) := by decide +kernel
theorem dX4_digest_62 : decode cX4_digest 62 = .ok (.ladd, 1) := by decide +kernel
theorem dX4_digest_63 : decode cX4_digest 63 = .ok (.lstore_n 1, 1) := by decide +kernel
theorem dX4_digest_64 : decode cX4_digest 64 = .ok (.iinc 4 1, 3) := by decide +kernel
theorem dX4_digest_67 : decode cX4_digest 67 = .ok (.goto (-27), 3) := by decide +kernel
theorem dX4_digest_70 : decode cX4_digest 70 = .ok (.iinc 3 1, 3) := by decide +kernel
theorem dX4_digest_73 : decode cX4_digest 73 = .ok (.goto (-46), 3) := by decide +kernel
theorem dX4_digest_76 : decode cX4_digest 76 = .ok (.iconst 0, 1) := by decide +kernel
theorem dX4_digest_77 : decode cX4_digest 77 = .ok (.istore_n 3, 1) := by decide +kernel
theorem dX4_digest_78 : decode cX4_digest 78 = .ok (.iload_n 3, 1) := by decide +kernel
theorem dX4_digest_79 : decode cX4_digest 79 = .ok (.aload_n 0, 1) := by decide +kernel
theorem dX4_digest_80 : decode cX4_digest 80 = .ok (.getfield 7, 3) := by decide +kernel
theorem dX4_digest_83 : decode cX4_digest 83 = .ok (.if_icmp .ge 23, 3) := by decide +kernel
theorem dX4_digest_86 : decode cX4_digest 86 = .ok (.lload_n 1, 1) := by decide +kernel
theorem dX4_digest_87 : decode cX4_digest 87 = .ok (.ldc2_w 147, 3) := by decide +kernel
theorem dX4_digest_90 : decode cX4_digest 90 = .ok (.lmul, 1) := by decide +kernel
theorem dX4_digest_91 : decode cX4_digest 91 = .ok (.aload_n 0, 1) := by decide +kernel
theorem dX4_digest_92 : decode cX4_digest 92 = .ok (.getfield 17, 3) := by decide +kernel
theorem dX4_digest_95 : decode cX4_digest 95 = .ok (.iload_n 3, 1) := by decide +kernel
theorem dX4_digest_96 : decode cX4_digest 96 = .ok (.iaload, 1) := by decide +kernel
theorem dX4_digest_97 : decode cX4_digest 97 = .ok (.i2l, 1) := by decide +kernel
theorem dX4_digest_98 : decode cX4_digest 98 = .ok (.ladd, 1) := by decide +kernel
theorem dX4_digest_99 : decode cX4_digest 99 = .ok (.lstore_n 1, 1) := by decide +kernel
theorem dX4_digest_100 : decode cX4_digest 100 = .ok (.iinc 3 1, 3) := by decide +kernel
theorem dX4_digest_103 : decode cX4_digest 103 = .ok (.goto (-25), 3) := by decide +kernel
theorem dX4_digest_106 : decode cX4_digest 106 = .ok (.lload_n 1, 1) := by decide +kernel
theorem dX4_digest_107 : decode cX4_digest 107 = .ok (.ldc2_w 147, 3) := by decide +kernel
theorem dX4_digest_110 : decode cX4_digest 110 = .ok (.lmul, 1) := by decide +kernel
theorem dX4_digest_111 : decode cX4_digest 111 = .ok (.aload_n 0, 1) := by decide +kernel
theorem dX4_digest_112 : decode cX4_digest 112 = .ok (.getfield 71, 3) := by decide +kernel
theorem dX4_digest_115 : decode cX4_digest 115 = .ok (.i2l, 1) := by decide +kernel
theorem dX4_digest_116 : decode cX4_digest 116 = .ok (.ladd, 1) := by decide +kernel
theorem dX4_digest_117 : decode cX4_digest 117 = .ok (.lstore_n 1, 1) := by decide +kernel
theorem dX4_digest_118 : decode cX4_digest 118 = .ok (.iconst 0, 1) := by decide +kernel
theorem dX4_digest_119 : decode cX4_digest 119 = .ok (.istore_n 3, 1) := by decide +kernel
theorem dX4_digest_120 : decode cX4_digest 120 = .ok (.iload_n 3, 1) := by decide +kernel
theorem dX4_digest_121 : decode cX4_digest 121 = .ok (.aload_n 0, 1) := by decide +kernel
theorem dX4_digest_122 : decode cX4_digest 122 = .ok (.getfield 71, 3) := by decide +kernel
theorem dX4_digest_125 : decode cX4_digest 125 = .ok (.if_icmp .ge 40, 3) := by decide +kernel
theorem dX4_digest_128 : decode cX4_digest 128 = .ok (.iconst 0, 1) := by decide +kernel
theorem dX4_digest_129 : decode cX4_digest 129 = .ok (.istore 4, 2) := by decide +kernel
theorem dX4_digest_131 : decode cX4_digest 131 = .ok (.iload 4, 2) := by decide +kernel
theorem dX4_digest_133 : decode cX4_digest 133 = .ok (.bipush 8, 2) := by decide +kernel
theorem dX4_digest_135 : decode cX4_digest 135 = .ok (.if_icmp .ge 24, 3) := by decide +kernel
theorem dX4_digest_138 : decode cX4_digest 138 = .ok (.lload_n 1, 1) := by decide +kernel
theorem dX4_digest_139 : decode cX4_digest 139 = .ok (.ldc2_w 147, 3) := by decide +kernel
theorem dX4_digest_142 : decode cX4_digest 142 = .ok (.lmul, 1) := by decide +kernel
theorem dX4_digest_143 : decode cX4_digest 143 = .ok (.aload_n 0, 1) := by decide +kernel
theorem dX4_digest_144 : decode cX4_digest 144 = .ok (.iload_n 3, 1) := by decide +kernel
theorem dX4_digest_145 : decode cX4_digest 145 = .ok (.iload 4, 2) := by decide +kernel
theorem dX4_digest_147 : decode cX4_digest 147 = .ok (.invokevirtual 108, 3) := by decide +kernel
theorem dX4_digest_150 : decode cX4_digest 150 = .ok (.i2l, 1) := by decide +kernel
theorem dX4_digest_151 : decode cX4_digest 151 = .ok (.ladd, 1) := by decide +kernel
theorem dX4_digest_152 : decode cX4_digest 152 = .ok (.lstore_n 1, 1) := by decide +kernel
theorem dX4_digest_153 : decode cX4_digest 153 = .ok (.iinc 4 1, 3) := by decide +kernel
theorem dX4_digest_156 : decode cX4_digest 156 = .ok (.goto (-25), 3) := by decide +kernel
theorem dX4_digest_159 : decode cX4_digest 159 = .ok (.iinc 3 1, 3) := by decide +kernel
theorem dX4_digest_162 : decode cX4_digest 162 = .ok (.goto (-42), 3) := by decide +kernel
theorem dX4_digest_165 : decode cX4_digest 165 = .ok (.iconst 0, 1) := by decide +kernel
theorem dX4_digest_166 : decode cX4_digest 166 = .ok (.istore_n 3, 1) := by decide +kernel
theorem dX4_digest_167 : decode cX4_digest 167 = .ok (.iload_n 3, 1) := by decide +kernel
theorem dX4_digest_168 : decode cX4_digest 168 = .ok (.iconst 3, 1) := by decide +kernel
theorem dX4_digest_169 : decode cX4_digest 169 = .ok (.if_icmp .ge 55, 3) := by decide +kernel
theorem dX4_digest_172 : decode cX4_digest 172 = .ok (.iconst 0, 1) := by decide +kernel
theorem dX4_digest_173 : decode cX4_digest 173 = .ok (.istore 4, 2) := by decide +kernel
theorem dX4_digest_175 : decode cX4_digest 175 = .ok (.iload 4, 2) := by decide +kernel
theorem dX4_digest_177 : decode cX4_digest 177 = .ok (.iconst 4, 1) := by decide +kernel
theorem dX4_digest_178 : decode cX4_digest 178 = .ok (.if_icmp .ge 27, 3) := by decide +kernel
theorem dX4_digest_181 : decode cX4_digest 181 = .ok (.lload_n 1, 1) := by decide +kernel
theorem dX4_digest_182 : decode cX4_digest 182 = .ok (.ldc2_w 147, 3) := by decide +kernel
theorem dX4_digest_185 : decode cX4_digest 185 = .ok (.lmul, 1) := by decide +kernel
theorem dX4_digest_186 : decode cX4_digest 186 = .ok (.aload_n 0, 1) := by decide +kernel
theorem dX4_digest_187 : decode cX4_digest 187 = .ok (.getfield 54, 3) := by decide +kernel
theorem dX4_digest_190 : decode cX4_digest 190 = .ok (.iconst 4, 1) := by decide +kernel
theorem dX4_digest_191 : decode cX4_digest 191 = .ok (.iload_n 3, 1) := by decide +kernel
theorem dX4_digest_192 : decode cX4_digest 192 = .ok (.imul, 1) := by decide +kernel
theorem dX4_digest_193 : decode cX4_digest 193 = .ok (.iload 4, 2) := by decide +kernel
theorem dX4_digest_195 : decode cX4_digest 195 = .ok (.iadd, 1) := by decide +kernel
theorem dX4_digest_196 : decode cX4_digest 196 = .ok (.laload, 1) := by decide +kernel
theorem dX4_digest_197 : decode cX4_digest 197 = .ok (.ladd, 1) := by decide +kernel
theorem dX4_digest_198 : decode cX4_digest 198 = .ok (.lstore_n 1, 1) := by decide +kernel
theorem dX4_digest_199 : decode cX4_digest 199 = .ok (.iinc 4 1, 3) := by decide +kernel
theorem dX4_digest_202 : decode cX4_digest 202 = .ok (.goto (-27), 3) := by decide +kernel
theorem dX4_digest_205 : decode cX4_digest 205 = .ok (.lload_n 1, 1) := by decide +kernel
theorem dX4_digest_206 : decode cX4_digest 206 = .ok (.ldc2_w 147, 3) := by decide +kernel
theorem dX4_digest_209 : decode cX4_digest 209 = .ok (.lmul, 1) := by decide +kernel
theorem dX4_digest_210 : decode cX4_digest 210 = .ok (.aload_n 0, 1) := by decide +kernel
theorem dX4_digest_211 : decode cX4_digest 211 = .ok (.getfield 58, 3) := by decide +kernel
theorem dX4_digest_214 : decode cX4_digest 214 = .ok (.iload_n 3, 1) := by decide +kernel
theorem dX4_digest_215 : decode cX4_digest 215 = .ok (.laload, 1) := by decide +kernel
theorem dX4_digest_216 : decode cX4_digest 216 = .ok (.ladd, 1) := by decide +kernel
theorem dX4_digest_217 : decode cX4_digest 217 = .ok (.lstore_n 1, 1) := by decide +kernel
theorem dX4_digest_218 : decode cX4_digest 218 = .ok (.iinc 3 1, 3) := by decide +kernel
theorem dX4_digest_221 : decode cX4_digest 221 = .ok (.goto (-54), 3) := by decide +kernel
theorem dX4_digest_224 : decode cX4_digest 224 = .ok (.lload_n 1, 1) := by decide +kernel
theorem dX4_digest_225 : decode cX4_digest 225 = .ok (.lreturn, 1) := by decide +kernel
theorem dJ9_abs_0f7a4_0 : decode cJ9_abs_0f7a4 0 = .ok (.iload_n 0, 1) := by decide +kernel
theorem dJ9_abs_0f7a4_1 : decode cJ9_abs_0f7a4 1 = .ok (.ifCond .ge 8, 3) := by decide +kernel
theorem dJ9_abs_0f7a4_4 : decode cJ9_abs_0f7a4 4 = .ok (.iload_n 0, 1) := by decide +kernel
theorem dJ9_abs_0f7a4_5 : decode cJ9_abs_0f7a4 5 = .ok (.ineg, 1) := by decide +kernel
theorem dJ9_abs_0f7a4_6 : decode cJ9_abs_0f7a4 6 = .ok (.goto 4, 3) := by decide +kernel
theorem dJ9_abs_0f7a4_9 : decode cJ9_abs_0f7a4 9 = .ok (.iload_n 0, 1) := by decide +kernel
theorem dJ9_abs_0f7a4_10 : decode cJ9_abs_0f7a4 10 = .ok (.ireturn, 1) := by decide +kernel
theorem dJ9_max_7cf53_0 : decode cJ9_max_7cf53 0 = .ok (.iload_n 0, 1) := by decide +kernel
theorem dJ9_max_7cf53_1 : decode cJ9_max_7cf53 1 = .ok (.iload_n 1, 1) := by decide +kernel
theorem dJ9_max_7cf53_2 : decode cJ9_max_7cf53 2 = .ok (.if_icmp .lt 7, 3) := by decide +kernel
theorem dJ9_max_7cf53_5 : decode cJ9_max_7cf53 5 = .ok (.iload_n 0, 1) := by decide +kernel
theorem dJ9_max_7cf53_6 : decode cJ9_max_7cf53 6 = .ok (.goto 4, 3) := by decide +kernel
theorem dJ9_max_7cf53_9 : decode cJ9_max_7cf53 9 = .ok (.iload_n 1, 1) := by decide +kernel
theorem dJ9_max_7cf53_10 : decode cJ9_max_7cf53 10 = .ok (.ireturn, 1) := by decide +kernel
theorem dJ9_min_7cf53_0 : decode cJ9_min_7cf53 0 = .ok (.iload_n 0, 1) := by decide +kernel
theorem dJ9_min_7cf53_1 : decode cJ9_min_7cf53 1 = .ok (.iload_n 1, 1) := by decide +kernel
theorem dJ9_min_7cf53_2 : decode cJ9_min_7cf53 2 = .ok (.if_icmp .gt 7, 3) := by decide +kernel
theorem dJ9_min_7cf53_5 : decode cJ9_min_7cf53 5 = .ok (.iload_n 0, 1) := by decide +kernel
theorem dJ9_min_7cf53_6 : decode cJ9_min_7cf53 6 = .ok (.goto 4, 3) := by decide +kernel
theorem dJ9_min_7cf53_9 : decode cJ9_min_7cf53 9 = .ok (.iload_n 1, 1) := by decide +kernel
theorem dJ9_min_7cf53_10 : decode cJ9_min_7cf53 10 = .ok (.ireturn, 1) := by decide +kernel
theorem dJxa1e45_init_da8c8_0 : decode cJxa1e45_init_da8c8 0 = .ok (.aload_n 0, 1) := by decide +kernel
theorem dJxa1e45_init_da8c8_1 : decode cJxa1e45_init_da8c8 1 = .ok (.invokespecial 1, 3) := by decide +kernel
theorem dJxa1e45_init_da8c8_4 : decode cJxa1e45_init_da8c8 4 = .ok (.return_, 1) := by decide +kernel
set_option maxRecDepth 20000 in
theorem ggJxc12de_init_da8c8_Jxa1e45_init_da8c8 : GoodIn wsJxc12de_init_da8c8 wsJxa1e45_init_da8c8 := goodIn_r _ [5, 6, 7, 8] (by decide +kernel) (by decide +kernel)
set_option maxRecDepth 20000 in
theorem gJxc12de_init_da8c8_Jxa1e45_init_da8c8 : GoodIn wsJxc12de_init_da8c8 (wsJxa1e45_init_da8c8) := ggJxc12de_init_da8c8_Jxa1e45_init_da8c8
theorem dJxc12de_init_da8c8_0 : decode cJxc12de_init_da8c8 0 = .ok (.aload_n 0, 1) := by decide +kernel
theorem dJxc12de_init_da8c8_1 : decode cJxc12de_init_da8c8 1 = .ok (.invokespecial 1, 3) := by decide +kernel
theorem dJxc12de_init_da8c8_4 : decode cJxc12de_init_da8c8 4 = .ok (.aload_n 0, 1) := by decide +kernel
theorem dJxc12de_init_da8c8_5 : decode cJxc12de_init_da8c8 5 = .ok (.iconst 0, 1) := by decide +kernel
theorem dJxc12de_init_da8c8_6 : decode cJxc12de_init_da8c8 6 = .ok (.putfield 7, 3) := by decide +kernel
theorem dJxc12de_init_da8c8_9 : decode cJxc12de_init_da8c8 9 = .ok (.return_, 1) := by decide +kernel
set_option maxRecDepth 20000 in
theorem ggJx4a65c_init_da8c8_Jxc12de_init_da8c8 : GoodIn wsJx4a65c_init_da8c8 wsJxc12de_init_da8c8 := goodIn_r _ [6, 7, 8, 9, 10, 11, 12, 13, 14, 15, 16, 17] (by decide +kernel) (by decide +kernel)
set_option maxRecDepth 20000 in
theorem gJx4a65c_init_da8c8_Jxc12de_init_da8c8 : GoodIn wsJx4a65c_init_da8c8 (wsJxc12de_init_da8c8) := ggJx4a65c_init_da8c8_Jxc12de_init_da8c8
theorem dJx4a65c_init_da8c8_0 : decode cJx4a65c_init_da8c8 0 = .ok (.aload_n 0, 1) := by decide +kernel
theorem dJx4a65c_init_da8c8_1 : decode cJx4a65c_init_da8c8 1 = .ok (.invokespecial 1, 3) := by decide +kernel
theorem dJx4a65c_init_da8c8_4 : decode cJx4a65c_init_da8c8 4 = .ok (.aload_n 0, 1) := by decide +kernel
theorem dJx4a65c_init_da8c8_5 : decode cJx4a65c_init_da8c8 5 = .ok (.getstatic 39, 3) := by decide +kernel
theorem dJx4a65c_init_da8c8_8 : decode cJx4a65c_init_da8c8 8 = .ok (.putfield 9, 3) := by decide +kernel
theorem dJx4a65c_init_da8c8_11 : decode cJx4a65c_init_da8c8 11 = .ok (.return_, 1) := by decide +kernel
set_option maxRecDepth 20000 in
theorem ggJx4a65c_grow_92f84_J8_newLength_cabcc : GoodIn wsJx4a65c_grow_92f84 wsJ8_newLength_cabcc := goodIn_r _ [11, 12, 4, 5, 6, 13, 14, 15, 10, 16] (by decide +kernel) (by decide +kernel)
set_option maxRecDepth 20000 in
theorem gJx4a65c_grow_92f84_J8_newLength_cabcc : GoodIn wsJx4a65c_grow_92f84 (va_wsS RJx4a65c 73 yJ8_newLength_cabcc wsJ8_newLength_cabcc) := goodIn_app (goodIn_of _ (by decide +kernel)) ggJx4a65c_grow_92f84_J8_newLength_cabcc
set_option maxRecDepth 20000 in
theorem ggJx4a65c_grow_92f84_J7_copyOf_1904c : GoodIn wsJx4a65c_grow_92f84 wsJ7_copyOf_1904c := goodIn_r _ [20, 21, 22, 23, 24, 25, 26, 19, 27, 28, 29, 30, 31, 5, 32, 33, 34, 35, 36] (by decide +kernel) (by decide +kernel)
set_option maxRecDepth 20000 in
theorem gJx4a65c_grow_92f84_J7_copyOf_1904c : GoodIn wsJx4a65c_grow_92f84 (va_wsS RJx4a65c 66 yJ7_copyOf_1904c wsJ7_copyOf_1904c) := goodIn_app (goodIn_of _ (by decide +kernel)) ggJx4a65c_grow_92f84_J7_copyOf_1904c
theorem dJx4a65c_grow_92f84_0 : decode cJx4a65c_grow_92f84 0 = .ok (.aload_n 0, 1) := by decide +kernel
theorem dJx4a65c_grow_92f84_1 : decode cJx4a65c_grow_92f84 1 = .ok (.getfield 9, 3) := by decide +kernel
theorem dJx4a65c_grow_92f84_4 : decode cJx4a65c_grow_92f84 4 = .ok (.arraylength, 1) := by decide +kernel
theorem dJx4a65c_grow_92f84_5 : decode cJx4a65c_grow_92f84 5 = .ok (.istore_n 2, 1) := by decide +kernel
theorem dJx4a65c_grow_92f84_6 : decode cJx4a65c_grow_92f84 6 = .ok (.iload_n 2, 1) := by decide +kernel
theorem dJx4a65c_grow_92f84_7 : decode cJx4a65c_grow_92f84 7 = .ok (.ifCond .gt 13, 3) := by decide +kernel
theorem dJx4a65c_grow_92f84_10 : decode cJx4a65c_grow_92f84 10 = .ok (.aload_n 0, 1) := by decide +kernel
theorem dJx4a65c_grow_92f84_11 : decode cJx4a65c_grow_92f84 11 = .ok (.getfield 9, 3) := by decide +kernel
theorem dJx4a65c_grow_92f84_14 : decode cJx4a65c_grow_92f84 14 = .ok (.getstatic 39, 3) := by decide +kernel
theorem dJx4a65c_grow_92f84_17 : decode cJx4a65c_grow_92f84 17 = .ok (.if_acmp .eq 28, 3) := by decide +kernel
theorem dJx4a65c_grow_92f84_20 : decode cJx4a65c_grow_92f84 20 = .ok (.iload_n 2, 1) := by decide +kernel
theorem dJx4a65c_grow_92f84_21 : decode cJx4a65c_grow_92f84 21 = .ok (.iload_n 1, 1) := by decide +kernel
theorem dJx4a65c_grow_92f84_22 : decode cJx4a65c_grow_92f84 22 = .ok (.iload_n 2, 1) := by decide +kernel
theorem dJx4a65c_grow_92f84_23 : decode cJx4a65c_grow_92f84 23 = .ok (.isub, 1) := by decide +kernel
theorem dJx4a65c_grow_92f84_24 : decode cJx4a65c_grow_92f84 24 = .ok (.iload_n 2, 1) := by decide +kernel
theorem dJx4a65c_grow_92f84_25 : decode cJx4a65c_grow_92f84 25 = .ok (.iconst 1, 1) := by decide +kernel
theorem dJx4a65c_grow_92f84_26 : decode cJx4a65c_grow_92f84 26 = .ok (.ishr, 1) := by decide +kernel
theorem dJx4a65c_grow_92f84_27 : decode cJx4a65c_grow_92f84 27 = .ok (.invokestatic 73, 3) := by decide +kernel
theorem dJx4a65c_grow_92f84_30 : decode cJx4a65c_grow_92f84 30 = .ok (.istore_n 3, 1) := by decide +kernel
theorem dJx4a65c_grow_92f84_31 : decode cJx4a65c_grow_92f84 31 = .ok (.aload_n 0, 1) := by decide +kernel
theorem dJx4a65c_grow_92f84_32 : decode cJx4a65c_grow_92f84 32 = .ok (.aload_n 0, 1) := by decide +kernel
theorem dJx4a65c_grow_92f84_33 : decode cJx4a65c_grow_92f84 33 = .ok (.getfield 9, 3) := by decide +kernel
theorem dJx4a65c_grow_92f84_36 : decode cJx4a65c_grow_92f84 36 = .ok (.iload_n 3, 1) := by decide +kernel
theorem dJx4a65c_grow_92f84_37 : decode cJx4a65c_grow_92f84 37 = .ok (.invokestatic 66, 3) := by decide +kernel
theorem dJx4a65c_grow_92f84_40 : decode cJx4a65c_grow_92f84 40 = .ok (.dup_x1, 1) := by decide +kernel
theorem dJx4a65c_grow_92f84_41 : decode cJx4a65c_grow_92f84 41 = .ok (.putfield 9, 3) := by decide +kernel
theorem dJx4a65c_grow_92f84_44 : decode cJx4a65c_grow_92f84 44 = .ok (.areturn, 1) := by decide +kernel
theorem dJx4a65c_grow_92f84_45 : decode cJx4a65c_grow_92f84 45 = .ok (.aload_n 0, 1) := by decide +kernel
theorem dJx4a65c_grow_92f84_46 : decode cJx4a65c_grow_92f84 46 = .ok (.bipush 10, 2) := by decide +kernel
theorem dJx4a65c_grow_92f84_48 : decode cJx4a65c_grow_92f84 48 = .ok (.iload_n 1, 1) := by decide +kernel
theorem dJx4a65c_grow_92f84_49 : decode cJx4a65c_grow_92f84 49 = .ok (.invokestatic 79, 3) := by decide +kernel
theorem dJx4a65c_grow_92f84_52 : decode cJx4a65c_grow_92f84 52 = .ok (.anewarray 7, 3) := by decide +kernel
theorem dJx4a65c_grow_92f84_55 : decode cJx4a65c_grow_92f84 55 = .ok (.dup_x1, 1) := by decide +kernel
theorem dJx4a65c_grow_92f84_56 : decode cJx4a65c_grow_92f84 56 = .ok (.putfield 9, 3) := by decide +kernel
theorem dJx4a65c_grow_92f84_59 : decode cJx4a65c_grow_92f84 59 = .ok (.areturn, 1) := by decide +kernel
set_option maxRecDepth 20000 in
theorem ggJx4a65c_grow_d5877_Jx4a65c_grow_92f84 : GoodIn wsJx4a65c_grow_d5877 wsJx4a65c_grow_92f84 := goodIn_r _ [6, 7, 8, 9, 10, 11, 12, 13, 14, 15, 16, 17, 18, 19, 20, 21, 22, 23, 24, 25, 26, 27, 28, 29, 30, 31, 32, 33, 34, 35, 36, 37, 38, 39, 40, 41, 42, 43, 44, 45] (by decide +kernel) (by decide +kernel)
set_option maxRecDepth 20000 in
theorem gJx4a65c_grow_d5877_Jx4a65c_grow_92f84 : GoodIn wsJx4a65c_grow_d5877 (wsV RJx4a65c 69 RJx4a65c yJx4a65c_grow_92f84 wsJx4a65c_grow_92f84) := goodIn_app (goodIn_of _ (by decide +kernel)) ggJx4a65c_grow_d5877_Jx4a65c_grow_92f84
theorem dJx4a65c_grow_d5877_0 : decode cJx4a65c_grow_d5877 0 = .ok (.aload_n 0, 1) := by decide +kernel
theorem dJx4a65c_grow_d5877_1 : decode cJx4a65c_grow_d5877 1 = .ok (.aload_n 0, 1) := by decide +kernel
theorem dJx4a65c_grow_d5877_2 : decode cJx4a65c_grow_d5877 2 = .ok (.getfield 48, 3) := by decide +kernel
theorem dJx4a65c_grow_d5877_5 : decode cJx4a65c_grow_d5877 5 = .ok (.iconst 1, 1) := by decide +kernel
theorem dJx4a65c_grow_d5877_6 : decode cJx4a65c_grow_d5877 6 = .ok (.iadd, 1) := by decide +kernel
theorem dJx4a65c_grow_d5877_7 : decode cJx4a65c_grow_d5877 7 = .ok (.invokevirtual 69, 3) := by decide +kernel
theorem dJx4a65c_grow_d5877_10 : decode cJx4a65c_grow_d5877 10 = .ok (.areturn, 1) := by decide +kernel
theorem dJx4a65c_size_8abf5_0 : decode cJx4a65c_size_8abf5 0 = .ok (.aload_n 0, 1) := by decide +kernel
theorem dJx4a65c_size_8abf5_1 : decode cJx4a65c_size_8abf5 1 = .ok (.getfield 48, 3) := by decide +kernel
theorem dJx4a65c_size_8abf5_4 : decode cJx4a65c_size_8abf5 4 = .ok (.ireturn, 1) := by decide +kernel
theorem dJx4a65c_elementData_915e3_0 : decode cJx4a65c_elementData_915e3 0 = .ok (.aload_n 0, 1) := by decide +kernel
theorem dJx4a65c_elementData_915e3_1 : decode cJx4a65c_elementData_915e3 1 = .ok (.getfield 9, 3) := by decide +kernel
theorem dJx4a65c_elementData_915e3_4 : decode cJx4a65c_elementData_915e3 4 = .ok (.iload_n 1, 1) := by decide +kernel
theorem dJx4a65c_elementData_915e3_5 : decode cJx4a65c_elementData_915e3 5 = .ok (.aaload, 1) := by decide +kernel
theorem dJx4a65c_elementData_915e3_6 : decode cJx4a65c_elementData_915e3 6 = .ok (.areturn, 1) := by decide +kernel
set_option maxRecDepth 20000 in
theorem ggJx4a65c_get_915e3_J15_checkIndex_7cf53 : GoodIn wsJx4a65c_get_915e3 wsJ15_checkIndex_7cf53 := goodIn_r _ [5, 6, 7, 8, 9] (by decide +kernel) (by decide +kernel)
set_option maxRecDepth 20000 in
theorem gJx4a65c_get_915e3_J15_checkIndex_7cf53 : GoodIn wsJx4a65c_get_915e3 (va_wsS RJx4a65c 118 yJ15_checkIndex_7cf53 wsJ15_checkIndex_7cf53) := goodIn_app (goodIn_of _ (by decide +kernel)) ggJx4a65c_get_915e3_J15_checkIndex_7cf53
set_option maxRecDepth 20000 in
theorem ggJx4a65c_get_915e3_Jx4a65c_elementData_915e3 : GoodIn wsJx4a65c_get_915e3 wsJx4a65c_elementData_915e3 := goodIn_r _ [14, 15, 16, 17, 18] (by decide +kernel) (by decide +kernel)
set_option maxRecDepth 20000 in
theorem gJx4a65c_get_915e3_Jx4a65c_elementData_915e3 : GoodIn wsJx4a65c_get_915e3 (wsV RJx4a65c 123 RJx4a65c yJx4a65c_elementData_915e3 wsJx4a65c_elementData_915e3) := goodIn_app (goodIn_of _ (by decide +kernel)) ggJx4a65c_get_915e3_Jx4a65c_elementData_915e3
theorem dJx4a65c_get_915e3_0 : decode cJx4a65c_get_915e3 0 = .ok (.iload_n 1, 1) := by decide +kernel
theorem dJx4a65c_get_915e3_1 : decode cJx4a65c_get_915e3 1 = .ok (.aload_n 0, 1) := by decide +kernel
theorem dJx4a65c_get_915e3_2 : decode cJx4a65c_get_915e3 2 = .ok (.getfield 48, 3) := by decide +kernel
theorem dJx4a65c_get_915e3_5 : decode cJx4a65c_get_915e3 5 = .ok (.invokestatic 118, 3) := by decide +kernel
theorem dJx4a65c_get_915e3_8 : decode cJx4a65c_get_915e3 8 = .ok (.pop, 1) := by decide +kernel
theorem dJx4a65c_get_915e3_9 : decode cJx4a65c_get_915e3 9 = .ok (.aload_n 0, 1) := by decide +kernel
theorem dJx4a65c_get_915e3_10 : decode cJx4a65c_get_915e3 10 = .ok (.iload_n 1, 1) := by decide +kernel
theorem dJx4a65c_get_915e3_11 : decode cJx4a65c_get_915e3 11 = .ok (.invokevirtual 123, 3) := by decide +kernel
theorem dJx4a65c_get_915e3_14 : decode cJx4a65c_get_915e3 14 = .ok (.areturn, 1) := by decide +kernel
set_option maxRecDepth 20000 in
theorem ggJx4a65c_add_72be8_Jx4a65c_grow_d5877 : GoodIn wsJx4a65c_add_72be8 wsJx4a65c_grow_d5877 := goodIn_r _ [6, 1, 7, 8, 9, 5, 10, 11, 12, 13, 14, 15, 16, 17, 18, 19, 20, 21, 22, 23, 24, 25, 26, 27, 28, 29, 30, 31, 32, 33, 34, 35, 36, 37, 38, 39, 40, 41, 42, 43, 44, 45, 46, 47, 48, 49] (by decide +kernel) (by decide +kernel)
set_option maxRecDepth 20000 in
theorem gJx4a65c_add_72be8_Jx4a65c_grow_d5877 : GoodIn wsJx4a65c_add_72be8 (wsV RJx4a65c 129 RJx4a65c yJx4a65c_grow_d5877 wsJx4a65c_grow_d5877) := goodIn_app (goodIn_of _ (by decide +kernel)) ggJx4a65c_add_72be8_Jx4a65c_grow_d5877
theorem dJx4a65c_add_72be8_0 : decode cJx4a65c_add_72be8 0 = .ok (.iload_n 3, 1) := by decide +kernel
theorem dJx4a65c_add_72be8_1 : decode cJx4a65c_add_72be8 1 = .ok (.aload_n 2, 1) := by decide +kernel
theorem dJx4a65c_add_72be8_2 : decode cJx4a65c_add_72be8 2 = .ok (.arraylength, 1) := by decide +kernel
theorem dJx4a65c_add_72be8_3 : decode cJx4a65c_add_72be8 3 = .ok (.if_icmp .ne 8, 3) := by decide +kernel
theorem dJx4a65c_add_72be8_6 : decode cJx4a65c_add_72be8 6 = .ok (.aload_n 0, 1) := by decide +kernel
theorem dJx4a65c_add_72be8_7 : decode cJx4a65c_add_72be8 7 = .ok (.invokevirtual 129, 3) := by decide +kernel
theorem dJx4a65c_add_72be8_10 : decode cJx4a65c_add_72be8 10 = .ok (.astore_n 2, 1) := by decide +kernel
theorem dJx4a65c_add_72be8_11 : decode cJx4a65c_add_72be8 11 = .ok (.aload_n 2, 1) := by decide +kernel
theorem dJx4a65c_add_72be8_12 : decode cJx4a65c_add_72be8 12 = .ok (.iload_n 3, 1) := by decide +kernel
theorem dJx4a65c_add_72be8_13 : decode cJx4a65c_add_72be8 13 = .ok (.aload_n 1, 1) := by decide +kernel
theorem dJx4a65c_add_72be8_14 : decode cJx4a65c_add_72be8 14 = .ok (.aastore, 1) := by decide +kernel
theorem dJx4a65c_add_72be8_15 : decode cJx4a65c_add_72be8 15 = .ok (.aload_n 0, 1) := by decide +kernel
theorem dJx4a65c_add_72be8_16 : decode cJx4a65c_add_72be8 16 = .ok (.iload_n 3, 1) := by decide +kernel
theorem dJx4a65c_add_72be8_17 : decode cJx4a65c_add_72be8 17 = .ok (.iconst 1, 1) := by decide +kernel
theorem dJx4a65c_add_72be8_18 : decode cJx4a65c_add_72be8 18 = .ok (.iadd, 1) := by decide +kernel
theorem dJx4a65c_add_72be8_19 : decode cJx4a65c_add_72be8 19 = .ok (.putfield 48, 3) := by decide +kernel
theorem dJx4a65c_add_72be8_22 : decode cJx4a65c_add_72be8 22 = .ok (.return_, 1) := by decide +kernel
set_option maxRecDepth 20000 in
theorem ggJx4a65c_add_9ea2d_Jx4a65c_add_72be8 : GoodIn wsJx4a65c_add_9ea2d wsJx4a65c_add_72be8 := goodIn_r _ [9, 4, 10, 11, 12, 8, 13, 14, 15, 16, 17, 3, 18, 19, 20, 21, 22, 23, 24, 25, 26, 27, 28, 29, 30, 31, 32, 33, 34, 35, 36, 37, 38, 39, 40, 41, 42, 43, 44, 45, 46, 47, 48, 49, 50, 51, 52, 53, 54, 55] (by decide +kernel) (by decide +kernel)
set_option maxRecDepth 20000 in
theorem gJx4a65c_add_9ea2d_Jx4a65c_add_72be8 : GoodIn wsJx4a65c_add_9ea2d (wsV RJx4a65c 131 RJx4a65c yJx4a65c_add_72be8 wsJx4a65c_add_72be8) := goodIn_app (goodIn_of _ (by decide +kernel)) ggJx4a65c_add_9ea2d_Jx4a65c_add_72be8
theorem dJx4a65c_add_9ea2d_0 : decode cJx4a65c_add_9ea2d 0 = .ok (.aload_n 0, 1) := by decide +kernel
theorem dJx4a65c_add_9ea2d_1 : decode cJx4a65c_add_9ea2d 1 = .ok (.dup, 1) := by decide +kernel
theorem dJx4a65c_add_9ea2d_2 : decode cJx4a65c_add_9ea2d 2 = .ok (.getfield 63, 3) := by decide +kernel
theorem dJx4a65c_add_9ea2d_5 : decode cJx4a65c_add_9ea2d 5 = .ok (.iconst 1, 1) := by decide +kernel
theorem dJx4a65c_add_9ea2d_6 : decode cJx4a65c_add_9ea2d 6 = .ok (.iadd, 1) := by decide +kernel
theorem dJx4a65c_add_9ea2d_7 : decode cJx4a65c_add_9ea2d 7 = .ok (.putfield 63, 3) := by decide +kernel
theorem dJx4a65c_add_9ea2d_10 : decode cJx4a65c_add_9ea2d 10 = .ok (.aload_n 0, 1) := by decide +kernel
theorem dJx4a65c_add_9ea2d_11 : decode cJx4a65c_add_9ea2d 11 = .ok (.aload_n 1, 1) := by decide +kernel
theorem dJx4a65c_add_9ea2d_12 : decode cJx4a65c_add_9ea2d 12 = .ok (.aload_n 0, 1) := by decide +kernel
theorem dJx4a65c_add_9ea2d_13 : decode cJx4a65c_add_9ea2d 13 = .ok (.getfield 9, 3) := by decide +kernel
theorem dJx4a65c_add_9ea2d_16 : decode cJx4a65c_add_9ea2d 16 = .ok (.aload_n 0, 1) := by decide +kernel
theorem dJx4a65c_add_9ea2d_17 : decode cJx4a65c_add_9ea2d 17 = .ok (.getfield 48, 3) := by decide +kernel
theorem dJx4a65c_add_9ea2d_20 : decode cJx4a65c_add_9ea2d 20 = .ok (.invokevirtual 131, 3) := by decide +kernel
theorem dJx4a65c_add_9ea2d_23 : decode cJx4a65c_add_9ea2d 23 = .ok (.iconst 1, 1) := by decide +kernel
theorem dJx4a65c_add_9ea2d_24 : decode cJx4a65c_add_9ea2d 24 = .ok (.ireturn, 1) := by decide +kernel
set_option maxRecDepth 20000 in
theorem ggJ7_copyOf_1904c_J7_copyOf_6403c : GoodIn wsJ7_copyOf_1904c wsJ7_copyOf_6403c := goodIn_r _ [8, 9, 10, 11, 12, 13, 14, 15, 16, 17, 18] (by decide +kernel) (by decide +kernel)
set_option maxRecDepth 20000 in
theorem gJ7_copyOf_1904c_J7_copyOf_6403c : GoodIn wsJ7_copyOf_1904c (va_wsS RJ7 300 yJ7_copyOf_6403c wsJ7_copyOf_6403c) := goodIn_app (goodIn_of _ (by decide +kernel)) ggJ7_copyOf_1904c_J7_copyOf_6403c
theorem dJ7_copyOf_1904c_0 : decode cJ7_copyOf_1904c 0 = .ok (.aload_n 0, 1) := by decide +kernel
theorem dJ7_copyOf_1904c_1 : decode cJ7_copyOf_1904c 1 = .ok (.iload_n 1, 1) := by decide +kernel
theorem dJ7_copyOf_1904c_2 : decode cJ7_copyOf_1904c 2 = .ok (.aload_n 0, 1) := by decide +kernel
theorem dJ7_copyOf_1904c_3 : decode cJ7_copyOf_1904c 3 = .ok (.invokevirtual 86, 3) := by decide +kernel
theorem dJ7_copyOf_1904c_6 : decode cJ7_copyOf_1904c 6 = .ok (.invokestatic 300, 3) := by decide +kernel
theorem dJ7_copyOf_1904c_9 : decode cJ7_copyOf_1904c 9 = .ok (.areturn, 1) := by decide +kernel
theorem dJ7_copyOf_6403c_0 : decode cJ7_copyOf_6403c 0 = .ok (.aload_n 2, 1) := by decide +kernel
theorem dJ7_copyOf_6403c_1 : decode cJ7_copyOf_6403c 1 = .ok (.ldc 110, 2) := by decide +kernel
theorem dJ7_copyOf_6403c_3 : decode cJ7_copyOf_6403c 3 = .ok (.if_acmp .ne 10, 3) := by decide +kernel
theorem dJ7_copyOf_6403c_6 : decode cJ7_copyOf_6403c 6 = .ok (.iload_n 1, 1) := by decide +kernel
theorem dJ7_copyOf_6403c_7 : decode cJ7_copyOf_6403c 7 = .ok (.anewarray 2, 3) := by decide +kernel
theorem dJ7_copyOf_6403c_10 : decode cJ7_copyOf_6403c 10 = .ok (.goto 14, 3) := by decide +kernel
theorem dJ7_copyOf_6403c_13 : decode cJ7_copyOf_6403c 13 = .ok (.aload_n 2, 1) := by decide +kernel
theorem dJ7_copyOf_6403c_14 : decode cJ7_copyOf_6403c 14 = .ok (.invokevirtual 90, 3) := by decide +kernel
theorem dJ7_copyOf_6403c_17 : decode cJ7_copyOf_6403c 17 = .ok (.iload_n 1, 1) := by decide +kernel
theorem dJ7_copyOf_6403c_18 : decode cJ7_copyOf_6403c 18 = .ok (.invokestatic 95, 3) := by decide +kernel
theorem dJ7_copyOf_6403c_21 : decode cJ7_copyOf_6403c 21 = .ok (.checkcast 110, 3) := by decide +kernel
theorem dJ7_copyOf_6403c_24 : decode cJ7_copyOf_6403c 24 = .ok (.astore_n 3, 1) := by decide +kernel
theorem dJ7_copyOf_6403c_25 : decode cJ7_copyOf_6403c 25 = .ok (.aload_n 0, 1) := by decide +kernel
theorem dJ7_copyOf_6403c_26 : decode cJ7_copyOf_6403c 26 = .ok (.iconst 0, 1) := by decide +kernel
theorem dJ7_copyOf_6403c_27 : decode cJ7_copyOf_6403c 27 = .ok (.aload_n 3, 1) := by decide +kernel
theorem dJ7_copyOf_6403c_28 : decode cJ7_copyOf_6403c 28 = .ok (.iconst 0, 1) := by decide +kernel
theorem dJ7_copyOf_6403c_29 : decode cJ7_copyOf_6403c 29 = .ok (.aload_n 0, 1) := by decide +kernel
theorem dJ7_copyOf_6403c_30 : decode cJ7_copyOf_6403c 30 = .ok (.arraylength, 1) := by decide +kernel
theorem dJ7_copyOf_6403c_31 : decode cJ7_copyOf_6403c 31 = .ok (.iload_n 1, 1) := by decide +kernel
theorem dJ7_copyOf_6403c_32 : decode cJ7_copyOf_6403c 32 = .ok (.invokestatic 304, 3) := by decide +kernel
theorem dJ7_copyOf_6403c_35 : decode cJ7_copyOf_6403c 35 = .ok (.invokestatic 150, 3) := by decide +kernel
theorem dJ7_copyOf_6403c_38 : decode cJ7_copyOf_6403c 38 = .ok (.aload_n 3, 1) := by decide +kernel
theorem dJ7_copyOf_6403c_39 : decode cJ7_copyOf_6403c 39 = .ok (.areturn, 1) := by decide +kernel
set_option maxRecDepth 20000 in
theorem ggJ15_checkIndex_7cf53_J3_checkIndex_8e157 : GoodIn wsJ15_checkIndex_7cf53 wsJ3_checkIndex_8e157 := goodIn_r _ [4] (by decide +kernel) (by decide +kernel)
set_option maxRecDepth 20000 in
theorem gJ15_checkIndex_7cf53_J3_checkIndex_8e157 : GoodIn wsJ15_checkIndex_7cf53 (va_wsS RJ15 105 yJ3_checkIndex_8e157 wsJ3_checkIndex_8e157) := goodIn_app (goodIn_of _ (by decide +kernel)) ggJ15_checkIndex_7cf53_J3_checkIndex_8e157
theorem dJ15_checkIndex_7cf53_0 : decode cJ15_checkIndex_7cf53 0 = .ok (.iload_n 0, 1) := by decide +kernel
theorem dJ15_checkIndex_7cf53_1 : decode cJ15_checkIndex_7cf53 1 = .ok (.iload_n 1, 1) := by decide +kernel
theorem dJ15_checkIndex_7cf53_2 : decode cJ15_checkIndex_7cf53 2 = .ok (.aconst_null, 1) := by decide +kernel
theorem dJ15_checkIndex_7cf53_3 : decode cJ15_checkIndex_7cf53 3 = .ok (.invokestatic 105, 3) := by decide +kernel
theorem dJ15_checkIndex_7cf53_6 : decode cJ15_checkIndex_7cf53 6 = .ok (.ireturn, 1) := by decide +kernel
set_option maxRecDepth 20000 in
theorem ggJ8_newLength_cabcc_J8_hugeLength_7cf53 : GoodIn wsJ8_newLength_cabcc wsJ8_hugeLength_7cf53 := goodIn_r _ [9, 5] (by decide +kernel) (by decide +kernel)
set_option maxRecDepth 20000 in
theorem gJ8_newLength_cabcc_J8_hugeLength_7cf53 : GoodIn wsJ8_newLength_cabcc (va_wsS RJ8 201 yJ8_hugeLength_7cf53 wsJ8_hugeLength_7cf53) := goodIn_app (goodIn_of _ (by decide +kernel)) ggJ8_newLength_cabcc_J8_hugeLength_7cf53
theorem dJ8_newLength_cabcc_0 : decode cJ8_newLength_cabcc 0 = .ok (.iload_n 0, 1) := by decide +kernel
theorem dJ8_newLength_cabcc_1 : decode cJ8_newLength_cabcc 1 = .ok (.iload_n 1, 1) := by decide +kernel
theorem dJ8_newLength_cabcc_2 : decode cJ8_newLength_cabcc 2 = .ok (.iload_n 2, 1) := by decide +kernel
theorem dJ8_newLength_cabcc_3 : decode cJ8_newLength_cabcc 3 = .ok (.invokestatic 194, 3) := by decide +kernel
theorem dJ8_newLength_cabcc_6 : decode cJ8_newLength_cabcc 6 = .ok (.iadd, 1) := by decide +kernel
theorem dJ8_newLength_cabcc_7 : decode cJ8_newLength_cabcc 7 = .ok (.istore_n 3, 1) := by decide +kernel
theorem dJ8_newLength_cabcc_8 : decode cJ8_newLength_cabcc 8 = .ok (.iconst 0, 1) := by decide +kernel
theorem dJ8_newLength_cabcc_9 : decode cJ8_newLength_cabcc 9 = .ok (.iload_n 3, 1) := by decide +kernel
theorem dJ8_newLength_cabcc_10 : decode cJ8_newLength_cabcc 10 = .ok (.if_icmp .ge 11, 3) := by decide +kernel
theorem dJ8_newLength_cabcc_13 : decode cJ8_newLength_cabcc 13 = .ok (.iload_n 3, 1) := by decide +kernel
theorem dJ8_newLength_cabcc_14 : decode cJ8_newLength_cabcc 14 = .ok (.ldc 200, 2) := by decide +kernel
theorem dJ8_newLength_cabcc_16 : decode cJ8_newLength_cabcc 16 = .ok (.if_icmp .gt 5, 3) := by decide +kernel
theorem dJ8_newLength_cabcc_19 : decode cJ8_newLength_cabcc 19 = .ok (.iload_n 3, 1) := by decide +kernel
theorem dJ8_newLength_cabcc_20 : decode cJ8_newLength_cabcc 20 = .ok (.ireturn, 1) := by decide +kernel
theorem dJ8_newLength_cabcc_21 : decode cJ8_newLength_cabcc 21 = .ok (.iload_n 0, 1) := by decide +kernel
theorem dJ8_newLength_cabcc_22 : decode cJ8_newLength_cabcc 22 = .ok (.iload_n 1, 1) := by decide +kernel
theorem dJ8_newLength_cabcc_23 : decode cJ8_newLength_cabcc 23 = .ok (.invokestatic 201, 3) := by decide +kernel
theorem dJ8_newLength_cabcc_26 : decode cJ8_newLength_cabcc 26 = .ok (.ireturn, 1) := by decide +kernel
theorem dJ8_hugeLength_7cf53_0 : decode cJ8_hugeLength_7cf53 0 = .ok (.iload_n 0, 1) := by decide +kernel
theorem dJ8_hugeLength_7cf53_1 : decode cJ8_hugeLength_7cf53 1 = .ok (.iload_n 1, 1) := by decide +kernel
theorem dJ8_hugeLength_7cf53_2 : decode cJ8_hugeLength_7cf53 2 = .ok (.iadd, 1) := by decide +kernel
theorem dJ8_hugeLength_7cf53_3 : decode cJ8_hugeLength_7cf53 3 = .ok (.istore_n 2, 1) := by decide +kernel
theorem dJ8_hugeLength_7cf53_4 : decode cJ8_hugeLength_7cf53 4 = .ok (.iload_n 2, 1) := by decide +kernel
theorem dJ8_hugeLength_7cf53_5 : decode cJ8_hugeLength_7cf53 5 = .ok (.ifCond .ge 44, 3) := by decide +kernel
theorem dJ8_hugeLength_7cf53_8 : decode cJ8_hugeLength_7cf53 8 = .ok (.new 204, 3) := by decide +kernel
theorem dJ8_hugeLength_7cf53_11 : decode cJ8_hugeLength_7cf53 11 = .ok (.dup, 1) := by decide +kernel
theorem dJ8_hugeLength_7cf53_12 : decode cJ8_hugeLength_7cf53 12 = .ok (.new 89, 3) := by decide +kernel
theorem dJ8_hugeLength_7cf53_15 : decode cJ8_hugeLength_7cf53 15 = .ok (.dup, 1) := by decide +kernel
theorem dJ8_hugeLength_7cf53_16 : decode cJ8_hugeLength_7cf53 16 = .ok (.invokespecial 91, 3) := by decide +kernel
theorem dJ8_hugeLength_7cf53_19 : decode cJ8_hugeLength_7cf53 19 = .ok (.ldc 206, 2) := by decide +kernel
theorem dJ8_hugeLength_7cf53_21 : decode cJ8_hugeLength_7cf53 21 = .ok (.invokevirtual 94, 3) := by decide +kernel
theorem dJ8_hugeLength_7cf53_24 : decode cJ8_hugeLength_7cf53 24 = .ok (.iload_n 0, 1) := by decide +kernel
theorem dJ8_hugeLength_7cf53_25 : decode cJ8_hugeLength_7cf53 25 = .ok (.invokevirtual 98, 3) := by decide +kernel
theorem dJ8_hugeLength_7cf53_28 : decode cJ8_hugeLength_7cf53 28 = .ok (.ldc 208, 2) := by decide +kernel
theorem dJ8_hugeLength_7cf53_30 : decode cJ8_hugeLength_7cf53 30 = .ok (.invokevirtual 94, 3) := by decide +kernel
theorem dJ8_hugeLength_7cf53_33 : decode cJ8_hugeLength_7cf53 33 = .ok (.iload_n 1, 1) := by decide +kernel
theorem dJ8_hugeLength_7cf53_34 : decode cJ8_hugeLength_7cf53 34 = .ok (.invokevirtual 98, 3) := by decide +kernel
theorem dJ8_hugeLength_7cf53_37 : decode cJ8_hugeLength_7cf53 37 = .ok (.ldc 210, 2) := by decide +kernel
theorem dJ8_hugeLength_7cf53_39 : decode cJ8_hugeLength_7cf53 39 = .ok (.invokevirtual 94, 3) := by decide +kernel
theorem dJ8_hugeLength_7cf53_42 : decode cJ8_hugeLength_7cf53 42 = .ok (.invokevirtual 101, 3) := by decide +kernel
theorem dJ8_hugeLength_7cf53_45 : decode cJ8_hugeLength_7cf53 45 = .ok (.invokespecial 212, 3) := by decide +kernel
theorem dJ8_hugeLength_7cf53_48 : decode cJ8_hugeLength_7cf53 48 = .ok (.athrow, 1) := by decide +kernel
theorem dJ8_hugeLength_7cf53_49 : decode cJ8_hugeLength_7cf53 49 = .ok (.iload_n 2, 1) := by decide +kernel
theorem dJ8_hugeLength_7cf53_50 : decode cJ8_hugeLength_7cf53 50 = .ok (.ldc 200, 2) := by decide +kernel
theorem dJ8_hugeLength_7cf53_52 : decode cJ8_hugeLength_7cf53 52 = .ok (.if_icmp .gt 6, 3) := by decide +kernel
theorem dJ8_hugeLength_7cf53_55 : decode cJ8_hugeLength_7cf53 55 = .ok (.ldc 200, 2) := by decide +kernel
theorem dJ8_hugeLength_7cf53_57 : decode cJ8_hugeLength_7cf53 57 = .ok (.ireturn, 1) := by decide +kernel
theorem dJ8_hugeLength_7cf53_58 : decode cJ8_hugeLength_7cf53 58 = .ok (.iload_n 2, 1) := by decide +kernel
theorem dJ8_hugeLength_7cf53_59 : decode cJ8_hugeLength_7cf53 59 = .ok (.ireturn, 1) := by decide +kernel
theorem dJ3_checkIndex_8e157_0 : decode cJ3_checkIndex_8e157 0 = .ok (.iload_n 0, 1) := by decide +kernel
theorem dJ3_checkIndex_8e157_1 : decode cJ3_checkIndex_8e157 1 = .ok (.ifCond .lt 8, 3) := by decide +kernel
theorem dJ3_checkIndex_8e157_4 : decode cJ3_checkIndex_8e157 4 = .ok (.iload_n 0, 1) := by decide +kernel
theorem dJ3_checkIndex_8e157_5 : decode cJ3_checkIndex_8e157 5 = .ok (.iload_n 1, 1) := by decide +kernel
theorem dJ3_checkIndex_8e157_6 : decode cJ3_checkIndex_8e157 6 = .ok (.if_icmp .lt 10, 3) := by decide +kernel
theorem dJ3_checkIndex_8e157_9 : decode cJ3_checkIndex_8e157 9 = .ok (.aload_n 2, 1) := by decide +kernel
theorem dJ3_checkIndex_8e157_10 : decode cJ3_checkIndex_8e157 10 = .ok (.iload_n 0, 1) := by decide +kernel
theorem dJ3_checkIndex_8e157_11 : decode cJ3_checkIndex_8e157 11 = .ok (.iload_n 1, 1) := by decide +kernel
theorem dJ3_checkIndex_8e157_12 : decode cJ3_checkIndex_8e157 12 = .ok (.invokestatic 95, 3) := by decide +kernel
theorem dJ3_checkIndex_8e157_15 : decode cJ3_checkIndex_8e157 15 = .ok (.athrow, 1) := by decide +kernel
theorem dJ3_checkIndex_8e157_16 : decode cJ3_checkIndex_8e157 16 = .ok (.iload_n 0, 1) := by decide +kernel
theorem dJ3_checkIndex_8e157_17 : decode cJ3_checkIndex_8e157 17 = .ok (.ireturn, 1) := by decide +kernel
end
section
set_option maxRecDepth 20000 in
theorem ggL_addPlace_X3_addPlace : GoodIn wsL_addPlace wsX3_addPlace := goodIn_ca (goodIn_r _ [6, 7, 8, 9, 10, 11, 12, 13, 14, 15, 16, 17, 18, 19, 20, 21, 22, 23, 24, 25, 26] (by decide +kernel) (by decide +kernel)) (goodIn_sub (fun _ h => List.mem_cons_of_mem _ (List.mem_append_right _ h)) (by decide +kernel))
set_option maxRecDepth 20000 in
theorem gL_addPlace_X3_addPlace : GoodIn wsL_addPlace (wsV RL 7 RX3 yX3_addPlace wsX3_addPlace) := goodIn_app (goodIn_of _ (by decide +kernel)) ggL_addPlace_X3_addPlace
theorem dL_addPlace_0 : decode cL_addPlace 0 = .ok (.aload_n 1, 1) := by decide +kernel
theorem dL_addPlace_1 : decode cL_addPlace 1 = .ok (.iconst 0, 1) := by decide +kernel
theorem dL_addPlace_2 : decode cL_addPlace 2 = .ok (.aload_n 0, 1) := by decide +kernel
theorem dL_addPlace_3 : decode cL_addPlace 3 = .ok (.invokevirtual 7, 3) := by decide +kernel
theorem dL_addPlace_6 : decode cL_addPlace 6 = .ok (.i2l, 1) := by decide +kernel
theorem dL_addPlace_7 : decode cL_addPlace 7 = .ok (.lastore, 1) := by decide +kernel
theorem dL_addPlace_8 : decode cL_addPlace 8 = .ok (.goto 6, 3) := by decide +kernel
theorem dL_addPlace_11 : decode cL_addPlace 11 = .ok (.astore_n 2, 1) := by decide +kernel
theorem dL_addPlace_12 : decode cL_addPlace 12 = .ok (.iconst 1, 1) := by decide +kernel
theorem dL_addPlace_13 : decode cL_addPlace 13 = .ok (.ireturn, 1) := by decide +kernel
theorem dL_addPlace_14 : decode cL_addPlace 14 = .ok (.iconst 0, 1) := by decide +kernel
theorem dL_addPlace_15 : decode cL_addPlace 15 = .ok (.ireturn, 1) := by decide +kernel
set_option maxRecDepth 20000 in
theorem ggL_setMinutes_X3_setMinutes : GoodIn wsL_setMinutes wsX3_setMinutes := goodIn_ca (goodIn_ca (goodIn_r _ [7, 8, 9, 10, 11, 12, 13, 6, 14, 15, 16, 17, 18, 19, 20, 21, 22, 23, 24, 25, 26, 27, 28, 29, 30, 31, 32, 33, 34, 35, 36, 37, 38, 39, 40, 41] (by decide +kernel) (by decide +kernel)) (goodIn_sub (fun _ h => List.mem_cons_of_mem _ (List.mem_append_left _ (List.mem_append_right _ h))) (by decide +kernel))) (goodIn_sub (fun _ h => List.mem_cons_of_mem _ (List.mem_append_right _ h)) (by decide +kernel))
set_option maxRecDepth 20000 in
theorem gL_setMinutes_X3_setMinutes : GoodIn wsL_setMinutes (wsV RL 15 RX3 yX3_setMinutes wsX3_setMinutes) := goodIn_app (goodIn_of _ (by decide +kernel)) ggL_setMinutes_X3_setMinutes
theorem dL_setMinutes_0 : decode cL_setMinutes 0 = .ok (.aload 4, 2) := by decide +kernel
theorem dL_setMinutes_2 : decode cL_setMinutes 2 = .ok (.iconst 0, 1) := by decide +kernel
theorem dL_setMinutes_3 : decode cL_setMinutes 3 = .ok (.aload_n 0, 1) := by decide +kernel
theorem dL_setMinutes_4 : decode cL_setMinutes 4 = .ok (.iload_n 1, 1) := by decide +kernel
theorem dL_setMinutes_5 : decode cL_setMinutes 5 = .ok (.iload_n 2, 1) := by decide +kernel
theorem dL_setMinutes_6 : decode cL_setMinutes 6 = .ok (.iload_n 3, 1) := by decide +kernel
theorem dL_setMinutes_7 : decode cL_setMinutes 7 = .ok (.invokevirtual 15, 3) := by decide +kernel
theorem dL_setMinutes_10 : decode cL_setMinutes 10 = .ok (.i2l, 1) := by decide +kernel
theorem dL_setMinutes_11 : decode cL_setMinutes 11 = .ok (.lastore, 1) := by decide +kernel
theorem dL_setMinutes_12 : decode cL_setMinutes 12 = .ok (.goto 11, 3) := by decide +kernel
theorem dL_setMinutes_15 : decode cL_setMinutes 15 = .ok (.astore 5, 2) := by decide +kernel
theorem dL_setMinutes_17 : decode cL_setMinutes 17 = .ok (.iconst 1, 1) := by decide +kernel
theorem dL_setMinutes_18 : decode cL_setMinutes 18 = .ok (.ireturn, 1) := by decide +kernel
theorem dL_setMinutes_19 : decode cL_setMinutes 19 = .ok (.astore 5, 2) := by decide +kernel
theorem dL_setMinutes_21 : decode cL_setMinutes 21 = .ok (.iconst 2, 1) := by decide +kernel
theorem dL_setMinutes_22 : decode cL_setMinutes 22 = .ok (.ireturn, 1) := by decide +kernel
theorem dL_setMinutes_23 : decode cL_setMinutes 23 = .ok (.iconst 0, 1) := by decide +kernel
theorem dL_setMinutes_24 : decode cL_setMinutes 24 = .ok (.ireturn, 1) := by decide +kernel
set_option maxRecDepth 20000 in
theorem ggL_setTip_X3_setTip : GoodIn wsL_setTip wsX3_setTip := goodIn_ca (goodIn_ca (goodIn_r _ [7, 8, 9, 10, 11, 12, 13, 6, 14, 15, 16, 17, 18, 19, 20, 21, 22, 23, 24, 25, 26, 27, 28, 29, 30, 31, 32, 33, 34, 35, 36, 37, 38, 39, 40, 41, 42, 43, 44, 45, 46, 47] (by decide +kernel) (by decide +kernel)) (goodIn_sub (fun _ h => List.mem_cons_of_mem _ (List.mem_append_left _ (List.mem_append_right _ h))) (by decide +kernel))) (goodIn_sub (fun _ h => List.mem_cons_of_mem _ (List.mem_append_right _ h)) (by decide +kernel))
set_option maxRecDepth 20000 in
theorem gL_setTip_X3_setTip : GoodIn wsL_setTip (wsV RL 23 RX3 yX3_setTip wsX3_setTip) := goodIn_app (goodIn_of _ (by decide +kernel)) ggL_setTip_X3_setTip
theorem dL_setTip_0 : decode cL_setTip 0 = .ok (.aload 4, 2) := by decide +kernel
theorem dL_setTip_2 : decode cL_setTip 2 = .ok (.iconst 0, 1) := by decide +kernel
theorem dL_setTip_3 : decode cL_setTip 3 = .ok (.aload_n 0, 1) := by decide +kernel
theorem dL_setTip_4 : decode cL_setTip 4 = .ok (.iload_n 1, 1) := by decide +kernel
theorem dL_setTip_5 : decode cL_setTip 5 = .ok (.iload_n 2, 1) := by decide +kernel
theorem dL_setTip_6 : decode cL_setTip 6 = .ok (.iload_n 3, 1) := by decide +kernel
theorem dL_setTip_7 : decode cL_setTip 7 = .ok (.invokevirtual 23, 3) := by decide +kernel
theorem dL_setTip_10 : decode cL_setTip 10 = .ok (.ifCond .eq 7, 3) := by decide +kernel
theorem dL_setTip_13 : decode cL_setTip 13 = .ok (.lconst 1, 1) := by decide +kernel
theorem dL_setTip_14 : decode cL_setTip 14 = .ok (.goto 4, 3) := by decide +kernel
theorem dL_setTip_17 : decode cL_setTip 17 = .ok (.lconst 0, 1) := by decide +kernel
theorem dL_setTip_18 : decode cL_setTip 18 = .ok (.lastore, 1) := by decide +kernel
theorem dL_setTip_19 : decode cL_setTip 19 = .ok (.goto 11, 3) := by decide +kernel
theorem dL_setTip_22 : decode cL_setTip 22 = .ok (.astore 5, 2) := by decide +kernel
theorem dL_setTip_24 : decode cL_setTip 24 = .ok (.iconst 1, 1) := by decide +kernel
theorem dL_setTip_25 : decode cL_setTip 25 = .ok (.ireturn, 1) := by decide +kernel
theorem dL_setTip_26 : decode cL_setTip 26 = .ok (.astore 5, 2) := by decide +kernel
theorem dL_setTip_28 : decode cL_setTip 28 = .ok (.iconst 2, 1) := by decide +kernel
theorem dL_setTip_29 : decode cL_setTip 29 = .ok (.ireturn, 1) := by decide +kernel
theorem dL_setTip_30 : decode cL_setTip 30 = .ok (.iconst 0, 1) := by decide +kernel
theorem dL_setTip_31 : decode cL_setTip 31 = .ok (.ireturn, 1) := by decide +kernel
set_option maxRecDepth 20000 in
theorem ggL_setHoliday_X3_setHoliday : GoodIn wsL_setHoliday wsX3_setHoliday := goodIn_ca (goodIn_r _ [6, 7, 8, 9, 10, 11, 12, 13, 14, 15, 16, 17] (by decide +kernel) (by decide +kernel)) (goodIn_sub (fun _ h => List.mem_cons_of_mem _ (List.mem_append_right _ h)) (by decide +kernel))
set_option maxRecDepth 20000 in
theorem gL_setHoliday_X3_setHoliday : GoodIn wsL_setHoliday (wsV RL 27 RX3 yX3_setHoliday wsX3_setHoliday) := goodIn_app (goodIn_of _ (by decide +kernel)) ggL_setHoliday_X3_setHoliday
theorem dL_setHoliday_0 : decode cL_setHoliday 0 = .ok (.aload_n 3, 1) := by decide +kernel
theorem dL_setHoliday_1 : decode cL_setHoliday 1 = .ok (.iconst 0, 1) := by decide +kernel
theorem dL_setHoliday_2 : decode cL_setHoliday 2 = .ok (.aload_n 0, 1) := by decide +kernel
theorem dL_setHoliday_3 : decode cL_setHoliday 3 = .ok (.iload_n 1, 1) := by decide +kernel
theorem dL_setHoliday_4 : decode cL_setHoliday 4 = .ok (.iload_n 2, 1) := by decide +kernel
theorem dL_setHoliday_5 : decode cL_setHoliday 5 = .ok (.invokevirtual 27, 3) := by decide +kernel
theorem dL_setHoliday_8 : decode cL_setHoliday 8 = .ok (.ifCond .eq 7, 3) := by decide +kernel
theorem dL_setHoliday_11 : decode cL_setHoliday 11 = .ok (.lconst 1, 1) := by decide +kernel
theorem dL_setHoliday_12 : decode cL_setHoliday 12 = .ok (.goto 4, 3) := by decide +kernel
theorem dL_setHoliday_15 : decode cL_setHoliday 15 = .ok (.lconst 0, 1) := by decide +kernel
theorem dL_setHoliday_16 : decode cL_setHoliday 16 = .ok (.lastore, 1) := by decide +kernel
theorem dL_setHoliday_17 : decode cL_setHoliday 17 = .ok (.goto 7, 3) := by decide +kernel
theorem dL_setHoliday_20 : decode cL_setHoliday 20 = .ok (.astore 4, 2) := by decide +kernel
theorem dL_setHoliday_22 : decode cL_setHoliday 22 = .ok (.iconst 1, 1) := by decide +kernel
theorem dL_setHoliday_23 : decode cL_setHoliday 23 = .ok (.ireturn, 1) := by decide +kernel
theorem dL_setHoliday_24 : decode cL_setHoliday 24 = .ok (.iconst 0, 1) := by decide +kernel
theorem dL_setHoliday_25 : decode cL_setHoliday 25 = .ok (.ireturn, 1) := by decide +kernel
set_option maxRecDepth 20000 in
theorem ggL_pass_X3_pass : GoodIn wsL_pass wsX3_pass := goodIn_ca (goodIn_ca (goodIn_r _ [7, 8, 9, 10, 11, 12, 13, 6, 14, 15, 16, 17, 18, 19, 20, 21, 22, 23, 24, 25, 26, 27, 28, 29, 30, 31, 32, 33, 34, 35, 36, 37, 38, 39, 40, 41, 42, 43, 44, 45, 46, 47, 48, 49, 50, 51, 52, 53, 54, 55, 56, 57, 58, 59, 60, 61, 62, 63, 64, 65, 66, 67, 68, 69, 70, 71, 72, 73, 74, 75, 76, 77, 78, 79, 80] (by decide +kernel) (by decide +kernel)) (goodIn_sub (fun _ h => List.mem_cons_of_mem _ (List.mem_append_left _ (List.mem_append_right _ h))) (by decide +kernel))) (goodIn_sub (fun _ h => List.mem_cons_of_mem _ (List.mem_append_right _ h)) (by decide +kernel))
set_option maxRecDepth 20000 in
theorem gL_pass_X3_pass : GoodIn wsL_pass (wsV RL 31 RX3 yX3_pass wsX3_pass) := goodIn_app (goodIn_of _ (by decide +kernel)) ggL_pass_X3_pass
theorem dL_pass_0 : decode cL_pass 0 = .ok (.aload_n 2, 1) := by decide +kernel
theorem dL_pass_1 : decode cL_pass 1 = .ok (.iconst 0, 1) := by decide +kernel
theorem dL_pass_2 : decode cL_pass 2 = .ok (.aload_n 0, 1) := by decide +kernel
theorem dL_pass_3 : decode cL_pass 3 = .ok (.iload_n 1, 1) := by decide +kernel
theorem dL_pass_4 : decode cL_pass 4 = .ok (.invokevirtual 31, 3) := by decide +kernel
theorem dL_pass_7 : decode cL_pass 7 = .ok (.i2l, 1) := by decide +kernel
theorem dL_pass_8 : decode cL_pass 8 = .ok (.lastore, 1) := by decide +kernel
theorem dL_pass_9 : decode cL_pass 9 = .ok (.goto 9, 3) := by decide +kernel
theorem dL_pass_12 : decode cL_pass 12 = .ok (.astore_n 3, 1) := by decide +kernel
theorem dL_pass_13 : decode cL_pass 13 = .ok (.iconst 1, 1) := by decide +kernel
theorem dL_pass_14 : decode cL_pass 14 = .ok (.ireturn, 1) := by decide +kernel
theorem dL_pass_15 : decode cL_pass 15 = .ok (.astore_n 3, 1) := by decide +kernel
theorem dL_pass_16 : decode cL_pass 16 = .ok (.iconst 2, 1) := by decide +kernel
theorem dL_pass_17 : decode cL_pass 17 = .ok (.ireturn, 1) := by decide +kernel
theorem dL_pass_18 : decode cL_pass 18 = .ok (.iconst 0, 1) := by decide +kernel
theorem dL_pass_19 : decode cL_pass 19 = .ok (.ireturn, 1) := by decide +kernel
set_option maxRecDepth 20000 in
theorem ggL_addBin_X3_addBin : GoodIn wsL_addBin wsX3_addBin := goodIn_ca (goodIn_ca (goodIn_ca (goodIn_r _ [8, 9, 10, 11, 12, 13, 14, 15, 16, 17, 18, 19, 20, 7, 21, 22, 23, 24, 25, 26, 27, 28, 29, 30, 31, 32, 33, 34, 35, 36, 37, 38, 39, 40, 41, 42, 43, 44, 45, 46, 47, 48, 49, 50, 51, 52, 53, 54, 55, 56, 57, 58, 59, 60, 61, 62, 63, 64, 65, 66, 67, 68, 69, 70, 71, 72, 73, 74, 75, 76, 77, 78, 79, 80, 81, 82, 83, 84, 85, 86, 87, 88, 89, 90, 91, 92, 93, 94, 95, 96, 97, 98, 99, 100, 101, 102, 103, 104, 105, 106, 107, 108, 109, 110, 111, 112, 113, 114, 115, 116, 117, 118, 119, 120, 121, 122, 123, 124, 125, 126, 127, 128, 129, 130, 131, 132] (by decide +kernel) (by decide +kernel)) (goodIn_sub (fun _ h => List.mem_cons_of_mem _ (List.mem_append_left _ (List.mem_append_left _ (List.mem_append_right _ h)))) (by decide +kernel))) (goodIn_sub (fun _ h => List.mem_cons_of_mem _ (List.mem_append_left _ (List.mem_append_right _ h))) (by decide +kernel))) (goodIn_sub (fun _ h => List.mem_cons_of_mem _ (List.mem_append_right _ h)) (by decide +kernel))
set_option maxRecDepth 20000 in
theorem gL_addBin_X3_addBin : GoodIn wsL_addBin (wsV RL 35 RX3 yX3_addBin wsX3_addBin) := goodIn_app (goodIn_of _ (by decide +kernel)) ggL_addBin_X3_addBin
theorem dL_addBin_0 : decode cL_addBin 0 = .ok (.aload 5, 2) := by decide +kernel
theorem dL_addBin_2 : decode cL_addBin 2 = .ok (.iconst 0, 1) := by decide +kernel
theorem dL_addBin_3 : decode cL_addBin 3 = .ok (.aload_n 0, 1) := by decide +kernel
theorem dL_addBin_4 : decode cL_addBin 4 = .ok (.iload_n 1, 1) := by decide +kernel
theorem dL_addBin_5 : decode cL_addBin 5 = .ok (.iload_n 2, 1) := by decide +kernel
theorem dL_addBin_6 : decode cL_addBin 6 = .ok (.iload_n 3, 1) := by decide +kernel
theorem dL_addBin_7 : decode cL_addBin 7 = .ok (.iload 4, 2) := by decide +kernel
theorem dL_addBin_9 : decode cL_addBin 9 = .ok (.invokevirtual 35, 3) := by decide +kernel
theorem dL_addBin_12 : decode cL_addBin 12 = .ok (.i2l, 1) := by decide +kernel
theorem dL_addBin_13 : decode cL_addBin 13 = .ok (.lastore, 1) := by decide +kernel
theorem dL_addBin_14 : decode cL_addBin 14 = .ok (.goto 15, 3) := by decide +kernel
theorem dL_addBin_17 : decode cL_addBin 17 = .ok (.astore 6, 2) := by decide +kernel
theorem dL_addBin_19 : decode cL_addBin 19 = .ok (.iconst 1, 1) := by decide +kernel
theorem dL_addBin_20 : decode cL_addBin 20 = .ok (.ireturn, 1) := by decide +kernel
theorem dL_addBin_21 : decode cL_addBin 21 = .ok (.astore 6, 2) := by decide +kernel
theorem dL_addBin_23 : decode cL_addBin 23 = .ok (.iconst 2, 1) := by decide +kernel
theorem dL_addBin_24 : decode cL_addBin 24 = .ok (.ireturn, 1) := by decide +kernel
theorem dL_addBin_25 : decode cL_addBin 25 = .ok (.astore 6, 2) := by decide +kernel
theorem dL_addBin_27 : decode cL_addBin 27 = .ok (.iconst 3, 1) := by decide +kernel
theorem dL_addBin_28 : decode cL_addBin 28 = .ok (.ireturn, 1) := by decide +kernel
theorem dL_addBin_29 : decode cL_addBin 29 = .ok (.iconst 0, 1) := by decide +kernel
theorem dL_addBin_30 : decode cL_addBin 30 = .ok (.ireturn, 1) := by decide +kernel
set_option maxRecDepth 20000 in
theorem ggL_setGrowth_X3_setGrowth : GoodIn wsL_setGrowth wsX3_setGrowth := goodIn_ca (goodIn_ca (goodIn_r _ [7, 8, 9, 10, 11, 12, 6, 13, 14, 15, 16, 17, 18, 19, 20, 21, 22, 23, 24, 25, 26, 27, 28, 29, 30, 31, 32, 33, 34, 35, 36, 37, 38, 39, 40, 41, 42, 43, 44, 45, 46, 47, 48, 49, 50, 51, 52, 53, 54, 55, 56, 57, 58, 59, 60, 61, 62, 63, 64, 65] (by decide +kernel) (by decide +kernel)) (goodIn_sub (fun _ h => List.mem_cons_of_mem _ (List.mem_append_left _ (List.mem_append_right _ h))) (by decide +kernel))) (goodIn_sub (fun _ h => List.mem_cons_of_mem _ (List.mem_append_right _ h)) (by decide +kernel))
set_option maxRecDepth 20000 in
theorem gL_setGrowth_X3_setGrowth : GoodIn wsL_setGrowth (wsV RL 39 RX3 yX3_setGrowth wsX3_setGrowth) := goodIn_app (goodIn_of _ (by decide +kernel)) ggL_setGrowth_X3_setGrowth
theorem dL_setGrowth_0 : decode cL_setGrowth 0 = .ok (.aload_n 3, 1) := by decide +kernel
theorem dL_setGrowth_1 : decode cL_setGrowth 1 = .ok (.iconst 0, 1) := by decide +kernel
theorem dL_setGrowth_2 : decode cL_setGrowth 2 = .ok (.aload_n 0, 1) := by decide +kernel
theorem dL_setGrowth_3 : decode cL_setGrowth 3 = .ok (.iload_n 1, 1) := by decide +kernel
theorem dL_setGrowth_4 : decode cL_setGrowth 4 = .ok (.iload_n 2, 1) := by decide +kernel
theorem dL_setGrowth_5 : decode cL_setGrowth 5 = .ok (.invokevirtual 39, 3) := by decide +kernel
theorem dL_setGrowth_8 : decode cL_setGrowth 8 = .ok (.i2l, 1) := by decide +kernel
theorem dL_setGrowth_9 : decode cL_setGrowth 9 = .ok (.lastore, 1) := by decide +kernel
theorem dL_setGrowth_10 : decode cL_setGrowth 10 = .ok (.goto 11, 3) := by decide +kernel
theorem dL_setGrowth_13 : decode cL_setGrowth 13 = .ok (.astore 4, 2) := by decide +kernel
theorem dL_setGrowth_15 : decode cL_setGrowth 15 = .ok (.iconst 1, 1) := by decide +kernel
theorem dL_setGrowth_16 : decode cL_setGrowth 16 = .ok (.ireturn, 1) := by decide +kernel
theorem dL_setGrowth_17 : decode cL_setGrowth 17 = .ok (.astore 4, 2) := by decide +kernel
theorem dL_setGrowth_19 : decode cL_setGrowth 19 = .ok (.iconst 2, 1) := by decide +kernel
theorem dL_setGrowth_20 : decode cL_setGrowth 20 = .ok (.ireturn, 1) := by decide +kernel
theorem dL_setGrowth_21 : decode cL_setGrowth 21 = .ok (.iconst 0, 1) := by decide +kernel
theorem dL_setGrowth_22 : decode cL_setGrowth 22 = .ok (.ireturn, 1) := by decide +kernel
set_option maxRecDepth 20000 in
theorem ggL_soil_X3_soil : GoodIn wsL_soil wsX3_soil := goodIn_ca (goodIn_r _ [6, 7, 8, 9, 10, 11, 5, 12, 13, 14, 15, 16, 17, 18, 19, 20, 21, 22, 23, 24, 25, 26, 27, 28, 29, 30, 31, 32, 33, 34, 35, 36, 37, 38, 39, 40, 41, 42, 43, 44, 45, 46, 47, 48, 49, 50, 51, 52, 53, 54, 55, 56, 57, 58] (by decide +kernel) (by decide +kernel)) (goodIn_sub (fun _ h => List.mem_cons_of_mem _ (List.mem_append_right _ h)) (by decide +kernel))
set_option maxRecDepth 20000 in
theorem gL_soil_X3_soil : GoodIn wsL_soil (wsV RL 43 RX3 yX3_soil wsX3_soil) := goodIn_app (goodIn_of _ (by decide +kernel)) ggL_soil_X3_soil
theorem dL_soil_0 : decode cL_soil 0 = .ok (.aload_n 2, 1) := by decide +kernel
theorem dL_soil_1 : decode cL_soil 1 = .ok (.iconst 0, 1) := by decide +kernel
theorem dL_soil_2 : decode cL_soil 2 = .ok (.aload_n 0, 1) := by decide +kernel
theorem dL_soil_3 : decode cL_soil 3 = .ok (.iload_n 1, 1) := by decide +kernel
theorem dL_soil_4 : decode cL_soil 4 = .ok (.invokevirtual 43, 3) := by decide +kernel
theorem dL_soil_7 : decode cL_soil 7 = .ok (.ifCond .eq 7, 3) := by decide +kernel
theorem dL_soil_10 : decode cL_soil 10 = .ok (.lconst 1, 1) := by decide +kernel
theorem dL_soil_11 : decode cL_soil 11 = .ok (.goto 4, 3) := by decide +kernel
theorem dL_soil_14 : decode cL_soil 14 = .ok (.lconst 0, 1) := by decide +kernel
theorem dL_soil_15 : decode cL_soil 15 = .ok (.lastore, 1) := by decide +kernel
theorem dL_soil_16 : decode cL_soil 16 = .ok (.goto 6, 3) := by decide +kernel
theorem dL_soil_19 : decode cL_soil 19 = .ok (.astore_n 3, 1) := by decide +kernel
theorem dL_soil_20 : decode cL_soil 20 = .ok (.iconst 1, 1) := by decide +kernel
theorem dL_soil_21 : decode cL_soil 21 = .ok (.ireturn, 1) := by decide +kernel
theorem dL_soil_22 : decode cL_soil 22 = .ok (.iconst 0, 1) := by decide +kernel
theorem dL_soil_23 : decode cL_soil 23 = .ok (.ireturn, 1) := by decide +kernel
set_option maxRecDepth 20000 in
theorem ggL_bin_X3_bin : GoodIn wsL_bin wsX3_bin := goodIn_ca (goodIn_r _ [6, 7, 8, 9, 10, 11, 12, 13, 5, 14, 15, 16, 17, 18, 19, 20, 21, 22, 23, 24, 25, 26, 27, 28, 29, 30, 31, 32, 33, 34, 35, 36, 37, 38, 39, 40, 41, 42, 43, 44, 45, 46, 47, 48, 49, 50, 51, 52, 53, 54, 55, 56, 57, 58, 59, 60, 61, 62, 63, 64, 65, 66, 67, 68, 69, 70, 71] (by decide +kernel) (by decide +kernel)) (goodIn_sub (fun _ h => List.mem_cons_of_mem _ (List.mem_append_right _ h)) (by decide +kernel))
set_option maxRecDepth 20000 in
theorem gL_bin_X3_bin : GoodIn wsL_bin (wsV RL 47 RX3 yX3_bin wsX3_bin) := goodIn_app (goodIn_of _ (by decide +kernel)) ggL_bin_X3_bin
theorem dL_bin_0 : decode cL_bin 0 = .ok (.aload_n 3, 1) := by decide +kernel
theorem dL_bin_1 : decode cL_bin 1 = .ok (.iconst 0, 1) := by decide +kernel
theorem dL_bin_2 : decode cL_bin 2 = .ok (.aload_n 0, 1) := by decide +kernel
theorem dL_bin_3 : decode cL_bin 3 = .ok (.iload_n 1, 1) := by decide +kernel
theorem dL_bin_4 : decode cL_bin 4 = .ok (.iload_n 2, 1) := by decide +kernel
theorem dL_bin_5 : decode cL_bin 5 = .ok (.invokevirtual 47, 3) := by decide +kernel
theorem dL_bin_8 : decode cL_bin 8 = .ok (.i2l, 1) := by decide +kernel
theorem dL_bin_9 : decode cL_bin 9 = .ok (.lastore, 1) := by decide +kernel
theorem dL_bin_10 : decode cL_bin 10 = .ok (.goto 7, 3) := by decide +kernel
theorem dL_bin_13 : decode cL_bin 13 = .ok (.astore 4, 2) := by decide +kernel
theorem dL_bin_15 : decode cL_bin 15 = .ok (.iconst 1, 1) := by decide +kernel
theorem dL_bin_16 : decode cL_bin 16 = .ok (.ireturn, 1) := by decide +kernel
theorem dL_bin_17 : decode cL_bin 17 = .ok (.iconst 0, 1) := by decide +kernel
theorem dL_bin_18 : decode cL_bin 18 = .ok (.ireturn, 1) := by decide +kernel
set_option maxRecDepth 20000 in
theorem ggL_expected_X3_expected : GoodIn wsL_expected wsX3_expected := goodIn_ca (goodIn_ca (goodIn_r _ [7, 8, 9, 10, 11, 12, 13, 6, 14, 15, 16, 17, 18, 19, 20, 21, 22, 23, 24, 25, 26, 27, 28, 29, 30, 31, 32, 33, 34, 35, 36, 37, 38, 39, 40, 41, 42, 43, 44, 45, 46, 47, 48, 49, 50, 51, 52, 53, 54, 55, 56, 57, 58, 59, 60, 61, 62, 63, 64, 65, 66, 67, 68, 69, 70, 71, 72, 73, 74, 75, 76, 77, 78] (by decide +kernel) (by decide +kernel)) (goodIn_sub (fun _ h => List.mem_cons_of_mem _ (List.mem_append_left _ (List.mem_append_right _ h))) (by decide +kernel))) (goodIn_sub (fun _ h => List.mem_cons_of_mem _ (List.mem_append_right _ h)) (by decide +kernel))
set_option maxRecDepth 20000 in
theorem gL_expected_X3_expected : GoodIn wsL_expected (wsV RL 50 RX3 yX3_expected wsX3_expected) := goodIn_app (goodIn_of _ (by decide +kernel)) ggL_expected_X3_expected
theorem dL_expected_0 : decode cL_expected 0 = .ok (.aload_n 3, 1) := by decide +kernel
theorem dL_expected_1 : decode cL_expected 1 = .ok (.iconst 0, 1) := by decide +kernel
theorem dL_expected_2 : decode cL_expected 2 = .ok (.aload_n 0, 1) := by decide +kernel
theorem dL_expected_3 : decode cL_expected 3 = .ok (.iload_n 1, 1) := by decide +kernel
theorem dL_expected_4 : decode cL_expected 4 = .ok (.iload_n 2, 1) := by decide +kernel
theorem dL_expected_5 : decode cL_expected 5 = .ok (.invokevirtual 50, 3) := by decide +kernel
theorem dL_expected_8 : decode cL_expected 8 = .ok (.i2l, 1) := by decide +kernel
theorem dL_expected_9 : decode cL_expected 9 = .ok (.lastore, 1) := by decide +kernel
theorem dL_expected_10 : decode cL_expected 10 = .ok (.goto 11, 3) := by decide +kernel
theorem dL_expected_13 : decode cL_expected 13 = .ok (.astore 4, 2) := by decide +kernel
theorem dL_expected_15 : decode cL_expected 15 = .ok (.iconst 1, 1) := by decide +kernel
theorem dL_expected_16 : decode cL_expected 16 = .ok (.ireturn, 1) := by decide +kernel
theorem dL_expected_17 : decode cL_expected 17 = .ok (.astore 4, 2) := by decide +kernel
theorem dL_expected_19 : decode cL_expected 19 = .ok (.iconst 2, 1) := by decide +kernel
theorem dL_expected_20 : decode cL_expected 20 = .ok (.ireturn, 1) := by decide +kernel
theorem dL_expected_21 : decode cL_expected 21 = .ok (.iconst 0, 1) := by decide +kernel
theorem dL_expected_22 : decode cL_expected 22 = .ok (.ireturn, 1) := by decide +kernel
set_option maxRecDepth 20000 in
theorem ggL_fullOn_X3_fullOn : GoodIn wsL_fullOn wsX3_fullOn := goodIn_ca (goodIn_r _ [6, 7, 8, 9, 10, 11, 12, 5, 13, 14, 15, 16, 17, 18, 19, 20, 21, 22, 23, 24, 25, 26, 27, 28, 29, 30, 31, 32, 33, 34, 35, 36, 37, 38, 39, 40, 41, 42, 43, 44, 45, 46, 47, 48, 49, 50, 51, 52, 53, 54, 55, 56, 57, 58, 59, 60, 61, 62, 63, 64, 65, 66, 67, 68, 69, 70, 71, 72, 73, 74, 75] (by decide +kernel) (by decide +kernel)) (goodIn_sub (fun _ h => List.mem_cons_of_mem _ (List.mem_append_right _ h)) (by decide +kernel))
set_option maxRecDepth 20000 in
theorem gL_fullOn_X3_fullOn : GoodIn wsL_fullOn (wsV RL 53 RX3 yX3_fullOn wsX3_fullOn) := goodIn_app (goodIn_of _ (by decide +kernel)) ggL_fullOn_X3_fullOn
theorem dL_fullOn_0 : decode cL_fullOn 0 = .ok (.aload_n 2, 1) := by decide +kernel
theorem dL_fullOn_1 : decode cL_fullOn 1 = .ok (.iconst 0, 1) := by decide +kernel
theorem dL_fullOn_2 : decode cL_fullOn 2 = .ok (.aload_n 0, 1) := by decide +kernel
theorem dL_fullOn_3 : decode cL_fullOn 3 = .ok (.iload_n 1, 1) := by decide +kernel
theorem dL_fullOn_4 : decode cL_fullOn 4 = .ok (.invokevirtual 53, 3) := by decide +kernel
theorem dL_fullOn_7 : decode cL_fullOn 7 = .ok (.i2l, 1) := by decide +kernel
theorem dL_fullOn_8 : decode cL_fullOn 8 = .ok (.lastore, 1) := by decide +kernel
theorem dL_fullOn_9 : decode cL_fullOn 9 = .ok (.goto 6, 3) := by decide +kernel
theorem dL_fullOn_12 : decode cL_fullOn 12 = .ok (.astore_n 3, 1) := by decide +kernel
theorem dL_fullOn_13 : decode cL_fullOn 13 = .ok (.iconst 1, 1) := by decide +kernel
theorem dL_fullOn_14 : decode cL_fullOn 14 = .ok (.ireturn, 1) := by decide +kernel
theorem dL_fullOn_15 : decode cL_fullOn 15 = .ok (.iconst 0, 1) := by decide +kernel
theorem dL_fullOn_16 : decode cL_fullOn 16 = .ok (.ireturn, 1) := by decide +kernel
set_option maxRecDepth 20000 in
theorem ggL_planSize_X3_planSize : GoodIn wsL_planSize wsX3_planSize := goodIn_ca (goodIn_r _ [6, 7, 8, 9, 10, 5, 11, 12, 13, 14, 15, 16, 17, 18, 19, 20, 21, 22, 23, 24, 25, 26, 27, 28, 29, 30, 31, 32, 33, 34, 35, 36, 37, 38, 39, 40, 41, 42, 43, 44, 45, 46, 47, 48, 49, 50, 51, 52, 53, 54, 55, 56, 57, 58, 59, 60, 61, 62, 63, 64, 65, 66, 67, 68, 69, 70, 71, 72, 73, 74, 75, 76, 77, 78, 79, 80, 81, 82, 83, 84, 85, 86, 87, 88, 89, 90, 91, 92, 93, 94, 95, 96, 97, 98, 99, 100, 101, 102, 103, 104] (by decide +kernel) (by decide +kernel)) (goodIn_sub (fun _ h => List.mem_cons_of_mem _ (List.mem_append_right _ h)) (by decide +kernel))
set_option maxRecDepth 20000 in
theorem gL_planSize_X3_planSize : GoodIn wsL_planSize (wsV RL 56 RX3 yX3_planSize wsX3_planSize) := goodIn_app (goodIn_of _ (by decide +kernel)) ggL_planSize_X3_planSize
theorem dL_planSize_0 : decode cL_planSize 0 = .ok (.aload_n 2, 1) := by decide +kernel
theorem dL_planSize_1 : decode cL_planSize 1 = .ok (.iconst 0, 1) := by decide +kernel
theorem dL_planSize_2 : decode cL_planSize 2 = .ok (.aload_n 0, 1) := by decide +kernel
theorem dL_planSize_3 : decode cL_planSize 3 = .ok (.iload_n 1, 1) := by decide +kernel
theorem dL_planSize_4 : decode cL_planSize 4 = .ok (.invokevirtual 56, 3) := by decide +kernel
theorem dL_planSize_7 : decode cL_planSize 7 = .ok (.i2l, 1) := by decide +kernel
theorem dL_planSize_8 : decode cL_planSize 8 = .ok (.lastore, 1) := by decide +kernel
theorem dL_planSize_9 : decode cL_planSize 9 = .ok (.goto 6, 3) := by decide +kernel
theorem dL_planSize_12 : decode cL_planSize 12 = .ok (.astore_n 3, 1) := by decide +kernel
theorem dL_planSize_13 : decode cL_planSize 13 = .ok (.iconst 1, 1) := by decide +kernel
theorem dL_planSize_14 : decode cL_planSize 14 = .ok (.ireturn, 1) := by decide +kernel
theorem dL_planSize_15 : decode cL_planSize 15 = .ok (.iconst 0, 1) := by decide +kernel
theorem dL_planSize_16 : decode cL_planSize 16 = .ok (.ireturn, 1) := by decide +kernel
set_option maxRecDepth 20000 in
theorem ggL_planned_X3_planned : GoodIn wsL_planned wsX3_planned := goodIn_ca (goodIn_r _ [6, 7, 8, 9, 10, 11, 12, 13, 5, 14, 15, 16, 17, 18, 19, 20, 21, 22, 23, 24, 25, 26, 27, 28, 29, 30, 31, 32, 33, 34, 35, 36, 37, 38, 39, 40, 41, 42, 43, 44, 45, 46, 47, 48, 49, 50, 51, 52, 53, 54, 55, 56, 57, 58, 59, 60, 61, 62, 63, 64, 65, 66, 67, 68, 69, 70, 71, 72, 73, 74, 75, 76, 77, 78, 79, 80, 81, 82, 83, 84, 85, 86, 87, 88, 89, 90, 91, 92, 93, 94, 95, 96, 97, 98, 99, 100, 101, 102, 103, 104] (by decide +kernel) (by decide +kernel)) (goodIn_sub (fun _ h => List.mem_cons_of_mem _ (List.mem_append_right _ h)) (by decide +kernel))
set_option maxRecDepth 20000 in
theorem gL_planned_X3_planned : GoodIn wsL_planned (wsV RL 59 RX3 yX3_planned wsX3_planned) := goodIn_app (goodIn_of _ (by decide +kernel)) ggL_planned_X3_planned
theorem dL_planned_0 : decode cL_planned 0 = .ok (.aload_n 3, 1) := by decide +kernel
theorem dL_planned_1 : decode cL_planned 1 = .ok (.iconst 0, 1) := by decide +kernel
theorem dL_planned_2 : decode cL_planned 2 = .ok (.aload_n 0, 1) := by decide +kernel
theorem dL_planned_3 : decode cL_planned 3 = .ok (.iload_n 1, 1) := by decide +kernel
theorem dL_planned_4 : decode cL_planned 4 = .ok (.iload_n 2, 1) := by decide +kernel
theorem dL_planned_5 : decode cL_planned 5 = .ok (.invokevirtual 59, 3) := by decide +kernel
theorem dL_planned_8 : decode cL_planned 8 = .ok (.i2l, 1) := by decide +kernel
theorem dL_planned_9 : decode cL_planned 9 = .ok (.lastore, 1) := by decide +kernel
theorem dL_planned_10 : decode cL_planned 10 = .ok (.goto 7, 3) := by decide +kernel
theorem dL_planned_13 : decode cL_planned 13 = .ok (.astore 4, 2) := by decide +kernel
theorem dL_planned_15 : decode cL_planned 15 = .ok (.iconst 1, 1) := by decide +kernel
theorem dL_planned_16 : decode cL_planned 16 = .ok (.ireturn, 1) := by decide +kernel
theorem dL_planned_17 : decode cL_planned 17 = .ok (.iconst 0, 1) := by decide +kernel
theorem dL_planned_18 : decode cL_planned 18 = .ok (.ireturn, 1) := by decide +kernel
set_option maxRecDepth 20000 in
theorem ggL_collect_X3_collect : GoodIn wsL_collect wsX3_collect := goodIn_ca (goodIn_ca (goodIn_ca (goodIn_r _ [8, 9, 10, 11, 12, 7, 13, 14, 15, 16, 17, 18, 19, 20, 21, 22, 23, 24, 25, 26, 27, 28, 29, 30, 31, 32, 33, 34, 35, 36, 37, 38, 39, 40, 41, 42, 43, 44, 45, 46, 47, 48, 49, 50, 51, 52, 53, 54, 55, 56, 57, 58, 59, 60, 61, 62, 63, 64, 65, 66, 67, 68, 69, 70, 71, 72, 73, 74, 75, 76, 77, 78, 79, 80, 81, 82, 83, 84, 85, 86, 87, 88, 89, 90, 91, 92, 93, 94, 95, 96, 97, 98, 99, 100, 101, 102, 103, 104, 105, 106, 107, 108, 109, 110, 111, 112, 113, 114, 115, 116, 117, 118, 119, 120, 121, 122, 123, 124, 125, 126, 127, 128, 129, 130, 131, 132, 133, 134, 135, 136, 137, 138, 139, 140, 141, 142, 143, 144, 145, 146, 147, 148, 149, 150, 151, 152, 153, 154, 155, 156, 157, 158, 159, 160, 161, 162, 163, 164, 165, 166, 167, 168, 169, 170, 171, 172, 173, 174, 175, 176, 177, 178, 179, 180, 181, 182, 183, 184, 185, 186] (by decide +kernel) (by decide +kernel)) (goodIn_sub (fun _ h => List.mem_cons_of_mem _ (List.mem_append_left _ (List.mem_append_left _ (List.mem_append_right _ h)))) (by decide +kernel))) (goodIn_sub (fun _ h => List.mem_cons_of_mem _ (List.mem_append_left _ (List.mem_append_right _ h))) (by decide +kernel))) (goodIn_sub (fun _ h => List.mem_cons_of_mem _ (List.mem_append_right _ h)) (by decide +kernel))
set_option maxRecDepth 20000 in
theorem gL_collect_X3_collect : GoodIn wsL_collect (wsV RL 62 RX3 yX3_collect wsX3_collect) := goodIn_app (goodIn_of _ (by decide +kernel)) ggL_collect_X3_collect
theorem dL_collect_0 : decode cL_collect 0 = .ok (.aload_n 3, 1) := by decide +kernel
theorem dL_collect_1 : decode cL_collect 1 = .ok (.iconst 0, 1) := by decide +kernel
theorem dL_collect_2 : decode cL_collect 2 = .ok (.aload_n 0, 1) := by decide +kernel
theorem dL_collect_3 : decode cL_collect 3 = .ok (.iload_n 1, 1) := by decide +kernel
theorem dL_collect_4 : decode cL_collect 4 = .ok (.iload_n 2, 1) := by decide +kernel
theorem dL_collect_5 : decode cL_collect 5 = .ok (.invokevirtual 62, 3) := by decide +kernel
theorem dL_collect_8 : decode cL_collect 8 = .ok (.i2l, 1) := by decide +kernel
theorem dL_collect_9 : decode cL_collect 9 = .ok (.lastore, 1) := by decide +kernel
theorem dL_collect_10 : decode cL_collect 10 = .ok (.goto 15, 3) := by decide +kernel
theorem dL_collect_13 : decode cL_collect 13 = .ok (.astore 4, 2) := by decide +kernel
theorem dL_collect_15 : decode cL_collect 15 = .ok (.iconst 1, 1) := by decide +kernel
theorem dL_collect_16 : decode cL_collect 16 = .ok (.ireturn, 1) := by decide +kernel
theorem dL_collect_17 : decode cL_collect 17 = .ok (.astore 4, 2) := by decide +kernel
theorem dL_collect_19 : decode cL_collect 19 = .ok (.iconst 2, 1) := by decide +kernel
theorem dL_collect_20 : decode cL_collect 20 = .ok (.ireturn, 1) := by decide +kernel
theorem dL_collect_21 : decode cL_collect 21 = .ok (.astore 4, 2) := by decide +kernel
theorem dL_collect_23 : decode cL_collect 23 = .ok (.iconst 3, 1) := by decide +kernel
theorem dL_collect_24 : decode cL_collect 24 = .ok (.ireturn, 1) := by decide +kernel
theorem dL_collect_25 : decode cL_collect 25 = .ok (.iconst 0, 1) := by decide +kernel
theorem dL_collect_26 : decode cL_collect 26 = .ok (.ireturn, 1) := by decide +kernel
set_option maxRecDepth 20000 in
theorem ggL_fetch_X3_fetch : GoodIn wsL_fetch wsX3_fetch := goodIn_ca (goodIn_ca (goodIn_ca (goodIn_r _ [8, 9, 10, 11, 12, 13, 14, 15, 7, 16, 17, 18, 19, 20, 21, 22, 23, 24, 25, 26, 27, 28, 29, 30, 31, 32, 33, 34, 35, 36, 37, 38, 39, 40, 41, 42, 43, 44, 45, 46, 47, 48, 49, 50, 51, 52, 53, 54, 55, 56, 57, 58, 59, 60, 61, 62, 63, 64, 65, 66, 67, 68, 69, 70, 71, 72, 73, 74, 75, 76, 77, 78, 79, 80, 81, 82, 83, 84, 85, 86, 87, 88, 89, 90, 91, 92, 93, 94, 95, 96, 97, 98, 99, 100, 101, 102, 103, 104, 105, 106, 107, 108, 109, 110, 111, 112, 113, 114, 115, 116, 117, 118, 119, 120, 121, 122, 123, 124, 125, 126, 127, 128, 129, 130, 131, 132, 133, 134, 135, 136, 137, 138, 139, 140, 141, 142, 143, 144, 145, 146, 147, 148, 149, 150, 151, 152, 153, 154, 155, 156, 157, 158, 159] (by decide +kernel) (by decide +kernel)) (goodIn_sub (fun _ h => List.mem_cons_of_mem _ (List.mem_append_left _ (List.mem_append_left _ (List.mem_append_right _ h)))) (by decide +kernel))) (goodIn_sub (fun _ h => List.mem_cons_of_mem _ (List.mem_append_left _ (List.mem_append_right _ h))) (by decide +kernel))) (goodIn_sub (fun _ h => List.mem_cons_of_mem _ (List.mem_append_right _ h)) (by decide +kernel))
set_option maxRecDepth 20000 in
theorem gL_fetch_X3_fetch : GoodIn wsL_fetch (wsV RL 65 RX3 yX3_fetch wsX3_fetch) := goodIn_app (goodIn_of _ (by decide +kernel)) ggL_fetch_X3_fetch
theorem dL_fetch_0 : decode cL_fetch 0 = .ok (.aload_n 3, 1) := by decide +kernel
theorem dL_fetch_1 : decode cL_fetch 1 = .ok (.iconst 0, 1) := by decide +kernel
theorem dL_fetch_2 : decode cL_fetch 2 = .ok (.aload_n 0, 1) := by decide +kernel
theorem dL_fetch_3 : decode cL_fetch 3 = .ok (.iload_n 1, 1) := by decide +kernel
theorem dL_fetch_4 : decode cL_fetch 4 = .ok (.iload_n 2, 1) := by decide +kernel
theorem dL_fetch_5 : decode cL_fetch 5 = .ok (.invokevirtual 65, 3) := by decide +kernel
theorem dL_fetch_8 : decode cL_fetch 8 = .ok (.i2l, 1) := by decide +kernel
theorem dL_fetch_9 : decode cL_fetch 9 = .ok (.lastore, 1) := by decide +kernel
theorem dL_fetch_10 : decode cL_fetch 10 = .ok (.goto 15, 3) := by decide +kernel
theorem dL_fetch_13 : decode cL_fetch 13 = .ok (.astore 4, 2) := by decide +kernel
theorem dL_fetch_15 : decode cL_fetch 15 = .ok (.iconst 1, 1) := by decide +kernel
theorem dL_fetch_16 : decode cL_fetch 16 = .ok (.ireturn, 1) := by decide +kernel
theorem dL_fetch_17 : decode cL_fetch 17 = .ok (.astore 4, 2) := by decide +kernel
theorem dL_fetch_19 : decode cL_fetch 19 = .ok (.iconst 2, 1) := by decide +kernel
theorem dL_fetch_20 : decode cL_fetch 20 = .ok (.ireturn, 1) := by decide +kernel
theorem dL_fetch_21 : decode cL_fetch 21 = .ok (.astore 4, 2) := by decide +kernel
theorem dL_fetch_23 : decode cL_fetch 23 = .ok (.iconst 3, 1) := by decide +kernel
theorem dL_fetch_24 : decode cL_fetch 24 = .ok (.ireturn, 1) := by decide +kernel
theorem dL_fetch_25 : decode cL_fetch 25 = .ok (.iconst 0, 1) := by decide +kernel
theorem dL_fetch_26 : decode cL_fetch 26 = .ok (.ireturn, 1) := by decide +kernel
set_option maxRecDepth 20000 in
theorem ggL_wouldTake_X3_wouldTake : GoodIn wsL_wouldTake wsX3_wouldTake := goodIn_ca (goodIn_ca (goodIn_r _ [7, 8, 9, 10, 11, 12, 13, 14, 15, 16, 17, 18, 6, 19, 20, 21, 22, 23, 24, 25, 26, 27, 28, 29, 30, 31, 32, 33, 34, 35, 36, 37, 38, 39, 40, 41, 42, 43, 44, 45, 46, 47, 48, 49, 50, 51, 52, 53, 54, 55, 56, 57, 58, 59, 60, 61, 62, 63, 64, 65, 66, 67, 68, 69, 70, 71, 72, 73, 74, 75, 76, 77, 78, 79, 80, 81, 82, 83, 84, 85, 86, 87, 88, 89, 90, 91, 92, 93, 94, 95, 96, 97, 98, 99, 100, 101, 102, 103, 104, 105, 106, 107, 108, 109, 110, 111, 112, 113, 114, 115, 116, 117, 118, 119, 120, 121, 122, 123, 124, 125, 126, 127, 128, 129, 130, 131, 132, 133, 134, 135, 136, 137, 138, 139, 140, 141, 142, 143, 144, 145, 146, 147, 148, 149, 150, 151, 152, 153, 154, 155, 156, 157, 158, 159, 160, 161, 162, 163, 164, 165, 166, 167] (by decide +kernel) (by decide +kernel)) (goodIn_sub (fun _ h => List.mem_cons_of_mem _ (List.mem_append_left _ (List.mem_append_right _ h))) (by decide +kernel))) (goodIn_sub (fun _ h => List.mem_cons_of_mem _ (List.mem_append_right _ h)) (by decide +kernel))
set_option maxRecDepth 20000 in
theorem gL_wouldTake_X3_wouldTake : GoodIn wsL_wouldTake (wsV RL 68 RX3 yX3_wouldTake wsX3_wouldTake) := goodIn_app (goodIn_of _ (by decide +kernel)) ggL_wouldTake_X3_wouldTake
theorem dL_wouldTake_0 : decode cL_wouldTake 0 = .ok (.aload_n 3, 1) := by decide +kernel
theorem dL_wouldTake_1 : decode cL_wouldTake 1 = .ok (.iconst 0, 1) := by decide +kernel
theorem dL_wouldTake_2 : decode cL_wouldTake 2 = .ok (.aload_n 0, 1) := by decide +kernel
theorem dL_wouldTake_3 : decode cL_wouldTake 3 = .ok (.iload_n 1, 1) := by decide +kernel
theorem dL_wouldTake_4 : decode cL_wouldTake 4 = .ok (.iload_n 2, 1) := by decide +kernel
theorem dL_wouldTake_5 : decode cL_wouldTake 5 = .ok (.invokevirtual 68, 3) := by decide +kernel
theorem dL_wouldTake_8 : decode cL_wouldTake 8 = .ok (.i2l, 1) := by decide +kernel
theorem dL_wouldTake_9 : decode cL_wouldTake 9 = .ok (.lastore, 1) := by decide +kernel
theorem dL_wouldTake_10 : decode cL_wouldTake 10 = .ok (.goto 11, 3) := by decide +kernel
theorem dL_wouldTake_13 : decode cL_wouldTake 13 = .ok (.astore 4, 2) := by decide +kernel
theorem dL_wouldTake_15 : decode cL_wouldTake 15 = .ok (.iconst 1, 1) := by decide +kernel
theorem dL_wouldTake_16 : decode cL_wouldTake 16 = .ok (.ireturn, 1) := by decide +kernel
theorem dL_wouldTake_17 : decode cL_wouldTake 17 = .ok (.astore 4, 2) := by decide +kernel
theorem dL_wouldTake_19 : decode cL_wouldTake 19 = .ok (.iconst 2, 1) := by decide +kernel
theorem dL_wouldTake_20 : decode cL_wouldTake 20 = .ok (.ireturn, 1) := by decide +kernel
theorem dL_wouldTake_21 : decode cL_wouldTake 21 = .ok (.iconst 0, 1) := by decide +kernel
theorem dL_wouldTake_22 : decode cL_wouldTake 22 = .ok (.ireturn, 1) := by decide +kernel
set_option maxRecDepth 20000 in
theorem ggL_total_X3_total : GoodIn wsL_total wsX3_total := goodIn_ca (goodIn_r _ [6, 7, 8, 9, 10, 11, 12, 5, 13, 14, 15, 16, 17, 18, 19, 20, 21] (by decide +kernel) (by decide +kernel)) (goodIn_sub (fun _ h => List.mem_cons_of_mem _ (List.mem_append_right _ h)) (by decide +kernel))
set_option maxRecDepth 20000 in
theorem gL_total_X3_total : GoodIn wsL_total (wsV RL 71 RX3 yX3_total wsX3_total) := goodIn_app (goodIn_of _ (by decide +kernel)) ggL_total_X3_total
theorem dL_total_0 : decode cL_total 0 = .ok (.aload_n 3, 1) := by decide +kernel
theorem dL_total_1 : decode cL_total 1 = .ok (.iconst 0, 1) := by decide +kernel
theorem dL_total_2 : decode cL_total 2 = .ok (.aload_n 0, 1) := by decide +kernel
theorem dL_total_3 : decode cL_total 3 = .ok (.iload_n 1, 1) := by decide +kernel
theorem dL_total_4 : decode cL_total 4 = .ok (.iload_n 2, 1) := by decide +kernel
theorem dL_total_5 : decode cL_total 5 = .ok (.invokevirtual 71, 3) := by decide +kernel
theorem dL_total_8 : decode cL_total 8 = .ok (.lastore, 1) := by decide +kernel
theorem dL_total_9 : decode cL_total 9 = .ok (.goto 7, 3) := by decide +kernel
theorem dL_total_12 : decode cL_total 12 = .ok (.astore 4, 2) := by decide +kernel
theorem dL_total_14 : decode cL_total 14 = .ok (.iconst 1, 1) := by decide +kernel
theorem dL_total_15 : decode cL_total 15 = .ok (.ireturn, 1) := by decide +kernel
theorem dL_total_16 : decode cL_total 16 = .ok (.iconst 0, 1) := by decide +kernel
theorem dL_total_17 : decode cL_total 17 = .ok (.ireturn, 1) := by decide +kernel
set_option maxRecDepth 20000 in
theorem ggL_wasted_X3_wasted : GoodIn wsL_wasted wsX3_wasted := goodIn_ca (goodIn_r _ [6, 7, 8, 9, 10, 5, 11, 12, 13, 14, 15, 16, 17, 18, 19, 20, 21] (by decide +kernel) (by decide +kernel)) (goodIn_sub (fun _ h => List.mem_cons_of_mem _ (List.mem_append_right _ h)) (by decide +kernel))
set_option maxRecDepth 20000 in
theorem gL_wasted_X3_wasted : GoodIn wsL_wasted (wsV RL 75 RX3 yX3_wasted wsX3_wasted) := goodIn_app (goodIn_of _ (by decide +kernel)) ggL_wasted_X3_wasted
theorem dL_wasted_0 : decode cL_wasted 0 = .ok (.aload_n 2, 1) := by decide +kernel
theorem dL_wasted_1 : decode cL_wasted 1 = .ok (.iconst 0, 1) := by decide +kernel
theorem dL_wasted_2 : decode cL_wasted 2 = .ok (.aload_n 0, 1) := by decide +kernel
theorem dL_wasted_3 : decode cL_wasted 3 = .ok (.iload_n 1, 1) := by decide +kernel
theorem dL_wasted_4 : decode cL_wasted 4 = .ok (.invokevirtual 75, 3) := by decide +kernel
theorem dL_wasted_7 : decode cL_wasted 7 = .ok (.lastore, 1) := by decide +kernel
theorem dL_wasted_8 : decode cL_wasted 8 = .ok (.goto 6, 3) := by decide +kernel
theorem dL_wasted_11 : decode cL_wasted 11 = .ok (.astore_n 3, 1) := by decide +kernel
theorem dL_wasted_12 : decode cL_wasted 12 = .ok (.iconst 1, 1) := by decide +kernel
theorem dL_wasted_13 : decode cL_wasted 13 = .ok (.ireturn, 1) := by decide +kernel
theorem dL_wasted_14 : decode cL_wasted 14 = .ok (.iconst 0, 1) := by decide +kernel
theorem dL_wasted_15 : decode cL_wasted 15 = .ok (.ireturn, 1) := by decide +kernel
set_option maxRecDepth 20000 in
theorem ggL_law_X3_init : GoodIn wsL_law wsX3_init := goodIn_r _ [9, 10, 11, 12, 13, 14, 15, 16, 17, 18, 19, 20, 21, 22, 6, 23, 24, 25, 26, 27, 28, 29, 30, 31, 32, 33, 34, 35, 36, 37, 38, 39, 40, 41, 42, 43, 44, 45, 46, 47, 48, 49, 50, 663, 664, 665, 634, 635, 636, 637, 638, 639, 640, 641, 666, 667, 668] (by decide +kernel) (by decide +kernel)
set_option maxRecDepth 20000 in
theorem gL_law_X3_init : GoodIn wsL_law (wsX3_init) := ggL_law_X3_init
set_option maxRecDepth 20000 in
theorem ggL_law_X4_init : GoodIn wsL_law wsX4_init := goodIn_r _ [53, 54, 11, 12, 55, 25, 56, 57, 21, 58, 59, 60, 61, 62, 63, 64, 65, 66, 67, 68, 6, 69, 70, 71, 642, 643, 644, 645, 646, 647, 648, 649, 650, 651, 652, 653, 654, 655, 656, 657, 658, 659, 660, 661, 662] (by decide +kernel) (by decide +kernel)
set_option maxRecDepth 20000 in
theorem gL_law_X4_init : GoodIn wsL_law (wsX4_init) := ggL_law_X4_init
set_option maxRecDepth 20000 in
theorem ggL_law_L_addPlace : GoodIn wsL_law wsL_addPlace := goodIn_ca (goodIn_r _ [75, 76, 77, 78, 79, 2, 80, 81, 82, 16, 83, 84, 85, 15, 86, 35, 634, 635, 636, 637, 638, 639, 640, 641, 663, 664, 665] (by decide +kernel) (by decide +kernel)) (goodIn_sub (fun _ h => List.mem_append_left _ (List.mem_append_left _ (List.mem_append_right _ h))) (by decide +kernel))
set_option maxRecDepth 20000 in
theorem gL_law_L_addPlace : GoodIn wsL_law (va_wsS RL 83 yL_addPlace wsL_addPlace) := goodIn_app (goodIn_of _ (by decide +kernel)) ggL_law_L_addPlace
set_option maxRecDepth 20000 in
theorem ggL_law_X4_addPlace : GoodIn wsL_law wsX4_addPlace := goodIn_r _ [90, 91, 55, 92, 93, 94, 5, 95, 642, 643, 644, 645, 646, 647, 648, 649, 650, 651, 652, 653, 654, 655, 656, 657, 658, 659, 660, 661, 662] (by decide +kernel) (by decide +kernel)
set_option maxRecDepth 20000 in
theorem gL_law_X4_addPlace : GoodIn wsL_law (wsV RL 88 RX4 yX4_addPlace wsX4_addPlace) := goodIn_app (goodIn_of _ (by decide +kernel)) ggL_law_X4_addPlace
set_option maxRecDepth 20000 in
theorem ggL_law_X4_thrown : GoodIn wsL_law wsX4_thrown := goodIn_r _ [99, 91, 642, 643, 644, 645, 646, 647, 648, 649, 650, 651, 652, 653, 654, 655, 656, 657, 658, 659, 660, 661, 662] (by decide +kernel) (by decide +kernel)
set_option maxRecDepth 20000 in
theorem gL_law_X4_thrown : GoodIn wsL_law (wsV RL 89 RX4 yX4_thrown wsX4_thrown) := goodIn_app (goodIn_of _ (by decide +kernel)) ggL_law_X4_thrown
set_option maxRecDepth 20000 in
theorem ggL_law_L_setMinutes : GoodIn wsL_law wsL_setMinutes := goodIn_ca (goodIn_ca (goodIn_r _ [102, 103, 104, 105, 106, 107, 2, 108, 109, 110, 16, 111, 112, 113, 114, 115, 116, 117, 118, 119, 120, 121, 122, 123, 15, 124, 33, 125, 126, 127, 128, 634, 635, 636, 637, 638, 639, 640, 641, 663, 664, 665] (by decide +kernel) (by decide +kernel)) (goodIn_sub (fun _ h => List.mem_append_left _ (List.mem_append_right _ h)) (by decide +kernel))) (goodIn_sub (fun _ h => List.mem_append_right _ h) (by decide +kernel))
set_option maxRecDepth 20000 in
theorem gL_law_L_setMinutes : GoodIn wsL_law (va_wsS RL 92 yL_setMinutes wsL_setMinutes) := goodIn_app (goodIn_of _ (by decide +kernel)) ggL_law_L_setMinutes
set_option maxRecDepth 20000 in
theorem ggL_law_X4_setMinutes : GoodIn wsL_law wsX4_setMinutes := goodIn_r _ [132, 91, 56, 133, 134, 135, 5, 136, 55, 137, 138, 139, 92, 93, 94, 95, 140, 141, 142, 143, 642, 643, 644, 645, 646, 647, 648, 649, 650, 651, 652, 653, 654, 655, 656, 657, 658, 659, 660, 661, 662] (by decide +kernel) (by decide +kernel)
set_option maxRecDepth 20000 in
theorem gL_law_X4_setMinutes : GoodIn wsL_law (wsV RL 95 RX4 yX4_setMinutes wsX4_setMinutes) := goodIn_app (goodIn_of _ (by decide +kernel)) ggL_law_X4_setMinutes
set_option maxRecDepth 20000 in
theorem ggL_law_L_setTip : GoodIn wsL_law wsL_setTip := goodIn_ca (goodIn_ca (goodIn_r _ [146, 103, 104, 147, 148, 149, 2, 150, 109, 110, 16, 111, 112, 113, 114, 115, 116, 151, 152, 153, 154, 155, 156, 157, 15, 158, 34, 159, 160, 161, 162, 35, 163, 164, 165, 166, 167, 634, 635, 636, 637, 638, 639, 640, 641, 663, 664, 665] (by decide +kernel) (by decide +kernel)) (goodIn_sub (fun _ h => List.mem_append_left _ (List.mem_append_right _ h)) (by decide +kernel))) (goodIn_sub (fun _ h => List.mem_append_right _ h) (by decide +kernel))
set_option maxRecDepth 20000 in
theorem gL_law_L_setTip : GoodIn wsL_law (va_wsS RL 96 yL_setTip wsL_setTip) := goodIn_app (goodIn_of _ (by decide +kernel)) ggL_law_L_setTip
set_option maxRecDepth 20000 in
theorem ggL_law_X4_setTip : GoodIn wsL_law wsX4_setTip := goodIn_r _ [171, 91, 57, 55, 133, 134, 135, 5, 136, 137, 138, 139, 172, 173, 174, 175, 176, 177, 642, 643, 644, 645, 646, 647, 648, 649, 650, 651, 652, 653, 654, 655, 656, 657, 658, 659, 660, 661, 662] (by decide +kernel) (by decide +kernel)
set_option maxRecDepth 20000 in
theorem gL_law_X4_setTip : GoodIn wsL_law (wsV RL 99 RX4 yX4_setTip wsX4_setTip) := goodIn_app (goodIn_of _ (by decide +kernel)) ggL_law_X4_setTip
set_option maxRecDepth 20000 in
theorem ggL_law_L_setHoliday : GoodIn wsL_law wsL_setHoliday := goodIn_ca (goodIn_r _ [180, 103, 181, 182, 183, 2, 184, 115, 116, 22, 634, 635, 636, 637, 638, 639, 640, 641] (by decide +kernel) (by decide +kernel)) (goodIn_sub (fun _ h => List.mem_append_right _ h) (by decide +kernel))
set_option maxRecDepth 20000 in
theorem gL_law_L_setHoliday : GoodIn wsL_law (va_wsS RL 100 yL_setHoliday wsL_setHoliday) := goodIn_app (goodIn_of _ (by decide +kernel)) ggL_law_L_setHoliday
set_option maxRecDepth 20000 in
theorem ggL_law_X4_setHoliday : GoodIn wsL_law wsX4_setHoliday := goodIn_r _ [188, 91, 58, 137, 138, 5, 139, 642, 643, 644, 645, 646, 647, 648, 649, 650, 651, 652, 653, 654, 655, 656, 657, 658, 659, 660, 661, 662] (by decide +kernel) (by decide +kernel)
set_option maxRecDepth 20000 in
theorem gL_law_X4_setHoliday : GoodIn wsL_law (wsV RL 103 RX4 yX4_setHoliday wsX4_setHoliday) := goodIn_app (goodIn_of _ (by decide +kernel)) ggL_law_X4_setHoliday
set_option maxRecDepth 20000 in
theorem ggL_law_L_pass : GoodIn wsL_law wsL_pass := goodIn_ca (goodIn_ca (goodIn_r _ [191, 104, 76, 192, 193, 194, 2, 195, 81, 82, 28, 117, 118, 119, 120, 109, 110, 196, 197, 198, 199, 20, 200, 24, 201, 202, 203, 19, 204, 205, 206, 207, 208, 209, 210, 211, 212, 213, 214, 215, 216, 217, 218, 219, 220, 221, 40, 222, 223, 224, 225, 226, 227, 228, 229, 230, 231, 232, 233, 234, 634, 635, 636, 637, 638, 639, 640, 641, 669, 670, 671, 672, 673, 674, 675, 676, 677, 678, 666, 667, 668] (by decide +kernel) (by decide +kernel)) (goodIn_sub (fun _ h => List.mem_append_left _ (List.mem_append_left _ (List.mem_append_right _ h))) (by decide +kernel))) (goodIn_sub (fun _ h => List.mem_append_left _ (List.mem_append_right _ h)) (by decide +kernel))
set_option maxRecDepth 20000 in
theorem gL_law_L_pass : GoodIn wsL_law (va_wsS RL 104 yL_pass wsL_pass) := goodIn_app (goodIn_of _ (by decide +kernel)) ggL_law_L_pass
set_option maxRecDepth 20000 in
theorem ggL_law_X4_pass : GoodIn wsL_law wsX4_pass := goodIn_r _ [238, 91, 239, 240, 63, 62, 61, 241, 231, 232, 233, 70, 60, 66, 137, 138, 5, 139, 92, 93, 94, 95, 642, 643, 644, 645, 646, 647, 648, 649, 650, 651, 652, 653, 654, 655, 656, 657, 658, 659, 660, 661, 662] (by decide +kernel) (by decide +kernel)
set_option maxRecDepth 20000 in
theorem gL_law_X4_pass : GoodIn wsL_law (wsV RL 107 RX4 yX4_pass wsX4_pass) := goodIn_app (goodIn_of _ (by decide +kernel)) ggL_law_X4_pass
set_option maxRecDepth 20000 in
theorem ggL_law_X3_today : GoodIn wsL_law wsX3_today := goodIn_r _ [245, 28, 634, 635, 636, 637, 638, 639, 640, 641] (by decide +kernel) (by decide +kernel)
set_option maxRecDepth 20000 in
theorem gL_law_X3_today : GoodIn wsL_law (wsV RL 108 RX3 yX3_today wsX3_today) := goodIn_app (goodIn_of _ (by decide +kernel)) ggL_law_X3_today
set_option maxRecDepth 20000 in
theorem ggL_law_X4_today : GoodIn wsL_law wsX4_today := goodIn_r _ [249, 91, 239, 642, 643, 644, 645, 646, 647, 648, 649, 650, 651, 652, 653, 654, 655, 656, 657, 658, 659, 660, 661, 662] (by decide +kernel) (by decide +kernel)
set_option maxRecDepth 20000 in
theorem gL_law_X4_today : GoodIn wsL_law (wsV RL 111 RX4 yX4_today wsX4_today) := goodIn_app (goodIn_of _ (by decide +kernel)) ggL_law_X4_today
set_option maxRecDepth 20000 in
theorem ggL_law_X3_nextWorkday : GoodIn wsL_law wsX3_nextWorkday := goodIn_r _ [253, 28, 22, 634, 635, 636, 637, 638, 639, 640, 641] (by decide +kernel) (by decide +kernel)
set_option maxRecDepth 20000 in
theorem gL_law_X3_nextWorkday : GoodIn wsL_law (wsV RL 112 RX3 yX3_nextWorkday wsX3_nextWorkday) := goodIn_app (goodIn_of _ (by decide +kernel)) ggL_law_X3_nextWorkday
set_option maxRecDepth 20000 in
theorem ggL_law_X4_nextWorkday : GoodIn wsL_law wsX4_nextWorkday := goodIn_r _ [257, 91, 258, 259, 260, 5, 261, 239, 58, 642, 643, 644, 645, 646, 647, 648, 649, 650, 651, 652, 653, 654, 655, 656, 657, 658, 659, 660, 661, 662] (by decide +kernel) (by decide +kernel)
set_option maxRecDepth 20000 in
theorem gL_law_X4_nextWorkday : GoodIn wsL_law (wsV RL 115 RX4 yX4_nextWorkday wsX4_nextWorkday) := goodIn_app (goodIn_of _ (by decide +kernel)) ggL_law_X4_nextWorkday
set_option maxRecDepth 20000 in
theorem ggL_law_L_addBin : GoodIn wsL_law wsL_addBin := goodIn_ca (goodIn_ca (goodIn_ca (goodIn_r _ [264, 103, 104, 76, 265, 266, 267, 2, 268, 115, 116, 81, 82, 20, 269, 270, 225, 28, 111, 112, 113, 114, 16, 151, 152, 153, 154, 117, 118, 119, 120, 109, 110, 201, 202, 203, 19, 204, 205, 271, 272, 273, 274, 11, 12, 275, 276, 229, 228, 227, 277, 278, 234, 279, 280, 281, 282, 283, 284, 285, 286, 40, 287, 288, 289, 290, 291, 292, 293, 294, 295, 296, 297, 298, 39, 299, 231, 232, 233, 300, 301, 302, 303, 304, 305, 306, 307, 308, 309, 310, 311, 312, 313, 314, 315, 316, 317, 318, 319, 320, 321, 322, 323, 324, 325, 326, 327, 328, 329, 634, 635, 636, 637, 638, 639, 640, 641, 669, 670, 671, 672, 673, 674, 675, 676, 677, 678, 663, 664, 665, 666, 667, 668] (by decide +kernel) (by decide +kernel)) (goodIn_sub (fun _ h => List.mem_append_right _ h) (by decide +kernel))) (goodIn_sub (fun _ h => List.mem_append_left _ (List.mem_append_left _ (List.mem_append_right _ h))) (by decide +kernel))) (goodIn_sub (fun _ h => List.mem_append_left _ (List.mem_append_right _ h)) (by decide +kernel))
set_option maxRecDepth 20000 in
theorem gL_law_L_addBin : GoodIn wsL_law (va_wsS RL 116 yL_addBin wsL_addBin) := goodIn_app (goodIn_of _ (by decide +kernel)) ggL_law_L_addBin
set_option maxRecDepth 20000 in
theorem ggL_law_X4_addBin : GoodIn wsL_law wsX4_addBin := goodIn_r _ [333, 91, 240, 59, 60, 61, 62, 63, 64, 65, 239, 133, 134, 135, 5, 136, 55, 137, 138, 139, 172, 173, 174, 92, 93, 94, 95, 642, 643, 644, 645, 646, 647, 648, 649, 650, 651, 652, 653, 654, 655, 656, 657, 658, 659, 660, 661, 662] (by decide +kernel) (by decide +kernel)
set_option maxRecDepth 20000 in
theorem gL_law_X4_addBin : GoodIn wsL_law (wsV RL 119 RX4 yX4_addBin wsX4_addBin) := goodIn_app (goodIn_of _ (by decide +kernel)) ggL_law_X4_addBin
set_option maxRecDepth 20000 in
theorem ggL_law_L_setGrowth : GoodIn wsL_law wsL_setGrowth := goodIn_ca (goodIn_ca (goodIn_r _ [336, 103, 104, 337, 338, 339, 2, 340, 20, 200, 341, 342, 343, 344, 115, 116, 201, 202, 203, 19, 204, 205, 117, 118, 119, 120, 109, 110, 206, 207, 208, 209, 210, 211, 212, 213, 214, 215, 216, 217, 218, 219, 220, 221, 40, 634, 635, 636, 637, 638, 639, 640, 641, 669, 670, 671, 672, 673, 674, 675, 676, 677, 678, 666, 667, 668] (by decide +kernel) (by decide +kernel)) (goodIn_sub (fun _ h => List.mem_append_right _ h) (by decide +kernel))) (goodIn_sub (fun _ h => List.mem_append_left _ (List.mem_append_right _ h)) (by decide +kernel))
set_option maxRecDepth 20000 in
theorem gL_law_L_setGrowth : GoodIn wsL_law (va_wsS RL 120 yL_setGrowth wsL_setGrowth) := goodIn_app (goodIn_of _ (by decide +kernel)) ggL_law_L_setGrowth
set_option maxRecDepth 20000 in
theorem ggL_law_X4_setGrowth : GoodIn wsL_law wsX4_setGrowth := goodIn_r _ [348, 91, 62, 349, 350, 351, 5, 352, 240, 137, 138, 139, 92, 93, 94, 95, 642, 643, 644, 645, 646, 647, 648, 649, 650, 651, 652, 653, 654, 655, 656, 657, 658, 659, 660, 661, 662] (by decide +kernel) (by decide +kernel)
set_option maxRecDepth 20000 in
theorem gL_law_X4_setGrowth : GoodIn wsL_law (wsV RL 123 RX4 yX4_setGrowth wsX4_setGrowth) := goodIn_app (goodIn_of _ (by decide +kernel)) ggL_law_X4_setGrowth
set_option maxRecDepth 20000 in
theorem ggL_law_L_soil : GoodIn wsL_law wsL_soil := goodIn_ca (goodIn_r _ [355, 103, 356, 357, 358, 2, 359, 20, 200, 341, 342, 343, 344, 115, 116, 201, 202, 203, 19, 204, 205, 206, 207, 208, 209, 210, 211, 212, 213, 214, 215, 216, 217, 218, 219, 220, 221, 40, 634, 635, 636, 637, 638, 639, 640, 641, 669, 670, 671, 672, 673, 674, 675, 676, 677, 678, 666, 667, 668] (by decide +kernel) (by decide +kernel)) (goodIn_sub (fun _ h => List.mem_append_right _ h) (by decide +kernel))
set_option maxRecDepth 20000 in
theorem gL_law_L_soil : GoodIn wsL_law (va_wsS RL 124 yL_soil wsL_soil) := goodIn_app (goodIn_of _ (by decide +kernel)) ggL_law_L_soil
set_option maxRecDepth 20000 in
theorem ggL_law_X4_soil : GoodIn wsL_law wsX4_soil := goodIn_r _ [363, 91, 68, 349, 350, 351, 5, 352, 240, 137, 138, 139, 642, 643, 644, 645, 646, 647, 648, 649, 650, 651, 652, 653, 654, 655, 656, 657, 658, 659, 660, 661, 662] (by decide +kernel) (by decide +kernel)
set_option maxRecDepth 20000 in
theorem gL_law_X4_soil : GoodIn wsL_law (wsV RL 126 RX4 yX4_soil wsX4_soil) := goodIn_app (goodIn_of _ (by decide +kernel)) ggL_law_X4_soil
set_option maxRecDepth 20000 in
theorem ggL_law_X3_binCount : GoodIn wsL_law wsX3_binCount := goodIn_r _ [367, 20, 201, 202, 203, 19, 204, 205, 634, 635, 636, 637, 638, 639, 640, 641, 666, 667, 668] (by decide +kernel) (by decide +kernel)
set_option maxRecDepth 20000 in
theorem gL_law_X3_binCount : GoodIn wsL_law (wsV RL 127 RX3 yX3_binCount wsX3_binCount) := goodIn_app (goodIn_of _ (by decide +kernel)) ggL_law_X3_binCount
set_option maxRecDepth 20000 in
theorem ggL_law_X4_binCount : GoodIn wsL_law wsX4_binCount := goodIn_r _ [371, 91, 240, 642, 643, 644, 645, 646, 647, 648, 649, 650, 651, 652, 653, 654, 655, 656, 657, 658, 659, 660, 661, 662] (by decide +kernel) (by decide +kernel)
set_option maxRecDepth 20000 in
theorem gL_law_X4_binCount : GoodIn wsL_law (wsV RL 130 RX4 yX4_binCount wsX4_binCount) := goodIn_app (goodIn_of _ (by decide +kernel)) ggL_law_X4_binCount
set_option maxRecDepth 20000 in
theorem ggL_law_L_bin : GoodIn wsL_law wsL_bin := goodIn_ca (goodIn_r _ [374, 103, 375, 376, 377, 2, 378, 115, 116, 20, 200, 341, 342, 343, 344, 201, 202, 203, 19, 204, 205, 206, 207, 208, 209, 210, 211, 212, 213, 214, 215, 216, 217, 218, 219, 220, 221, 40, 379, 380, 381, 225, 382, 275, 276, 227, 277, 278, 234, 279, 280, 634, 635, 636, 637, 638, 639, 640, 641, 666, 667, 668, 669, 670, 671, 672, 673, 674, 675, 676, 677, 678] (by decide +kernel) (by decide +kernel)) (goodIn_sub (fun _ h => List.mem_append_right _ h) (by decide +kernel))
set_option maxRecDepth 20000 in
theorem gL_law_L_bin : GoodIn wsL_law (va_wsS RL 131 yL_bin wsL_bin) := goodIn_app (goodIn_of _ (by decide +kernel)) ggL_law_L_bin
set_option maxRecDepth 20000 in
theorem ggL_law_X4_bin : GoodIn wsL_law wsX4_bin := goodIn_r _ [386, 91, 349, 350, 351, 5, 352, 240, 137, 138, 139, 387, 388, 389, 390, 59, 60, 63, 64, 65, 66, 67, 68, 92, 93, 94, 95, 642, 643, 644, 645, 646, 647, 648, 649, 650, 651, 652, 653, 654, 655, 656, 657, 658, 659, 660, 661, 662] (by decide +kernel) (by decide +kernel)
set_option maxRecDepth 20000 in
theorem gL_law_X4_bin : GoodIn wsL_law (wsV RL 133 RX4 yX4_bin wsX4_bin) := goodIn_app (goodIn_of _ (by decide +kernel)) ggL_law_X4_bin
set_option maxRecDepth 20000 in
theorem ggL_law_L_expected : GoodIn wsL_law wsL_expected := goodIn_ca (goodIn_ca (goodIn_r _ [393, 103, 104, 394, 395, 396, 2, 397, 28, 20, 200, 341, 342, 343, 344, 115, 116, 201, 202, 203, 19, 204, 205, 117, 118, 119, 120, 109, 110, 206, 207, 208, 209, 210, 211, 212, 213, 214, 215, 216, 217, 218, 219, 220, 221, 40, 398, 399, 400, 225, 401, 229, 277, 278, 402, 324, 232, 325, 634, 635, 636, 637, 638, 639, 640, 641, 666, 667, 668, 669, 670, 671, 672, 673, 674, 675, 676, 677, 678] (by decide +kernel) (by decide +kernel)) (goodIn_sub (fun _ h => List.mem_append_right _ h) (by decide +kernel))) (goodIn_sub (fun _ h => List.mem_append_left _ (List.mem_append_right _ h)) (by decide +kernel))
set_option maxRecDepth 20000 in
theorem gL_law_L_expected : GoodIn wsL_law (va_wsS RL 134 yL_expected wsL_expected) := goodIn_app (goodIn_of _ (by decide +kernel)) ggL_law_L_expected
set_option maxRecDepth 20000 in
theorem ggL_law_X4_expected : GoodIn wsL_law wsX4_expected := goodIn_r _ [406, 91, 239, 349, 350, 351, 5, 352, 240, 137, 138, 139, 92, 93, 94, 95, 407, 408, 409, 410, 61, 64, 65, 411, 324, 232, 325, 642, 643, 644, 645, 646, 647, 648, 649, 650, 651, 652, 653, 654, 655, 656, 657, 658, 659, 660, 661, 662] (by decide +kernel) (by decide +kernel)
set_option maxRecDepth 20000 in
theorem gL_law_X4_expected : GoodIn wsL_law (wsV RL 136 RX4 yX4_expected wsX4_expected) := goodIn_app (goodIn_of _ (by decide +kernel)) ggL_law_X4_expected
set_option maxRecDepth 20000 in
theorem ggL_law_L_fullOn : GoodIn wsL_law wsL_fullOn := goodIn_ca (goodIn_r _ [414, 103, 415, 416, 417, 2, 418, 20, 200, 28, 341, 342, 343, 344, 115, 116, 201, 202, 203, 19, 204, 205, 206, 207, 208, 209, 210, 211, 212, 213, 214, 215, 216, 217, 218, 219, 220, 221, 40, 419, 420, 421, 225, 422, 229, 423, 399, 400, 401, 277, 278, 402, 324, 232, 325, 634, 635, 636, 637, 638, 639, 640, 641, 666, 667, 668, 669, 670, 671, 672, 673, 674, 675, 676, 677, 678] (by decide +kernel) (by decide +kernel)) (goodIn_sub (fun _ h => List.mem_append_right _ h) (by decide +kernel))
set_option maxRecDepth 20000 in
theorem gL_law_L_fullOn : GoodIn wsL_law (va_wsS RL 137 yL_fullOn wsL_fullOn) := goodIn_app (goodIn_of _ (by decide +kernel)) ggL_law_L_fullOn
set_option maxRecDepth 20000 in
theorem ggL_law_X4_fullOn : GoodIn wsL_law wsX4_fullOn := goodIn_r _ [427, 91, 239, 61, 349, 350, 351, 5, 352, 240, 137, 138, 139, 92, 93, 94, 95, 407, 408, 409, 410, 64, 65, 411, 324, 232, 325, 642, 643, 644, 645, 646, 647, 648, 649, 650, 651, 652, 653, 654, 655, 656, 657, 658, 659, 660, 661, 662] (by decide +kernel) (by decide +kernel)
set_option maxRecDepth 20000 in
theorem gL_law_X4_fullOn : GoodIn wsL_law (wsV RL 139 RX4 yX4_fullOn wsX4_fullOn) := goodIn_app (goodIn_of _ (by decide +kernel)) ggL_law_X4_fullOn
set_option maxRecDepth 20000 in
theorem ggL_law_L_planSize : GoodIn wsL_law wsL_planSize := goodIn_ca (goodIn_r _ [430, 103, 431, 432, 433, 2, 434, 27, 151, 152, 153, 154, 115, 116, 435, 436, 437, 438, 20, 200, 28, 26, 439, 251, 252, 253, 22, 201, 202, 203, 19, 204, 205, 206, 207, 208, 209, 210, 211, 212, 213, 214, 215, 216, 217, 218, 219, 220, 221, 40, 440, 441, 442, 225, 443, 229, 423, 399, 400, 401, 277, 278, 402, 324, 232, 325, 444, 420, 421, 422, 445, 446, 447, 448, 16, 121, 122, 123, 15, 124, 33, 634, 635, 636, 637, 638, 639, 640, 641, 669, 670, 671, 672, 673, 674, 675, 676, 677, 678, 666, 667, 668, 663, 664, 665] (by decide +kernel) (by decide +kernel)) (goodIn_sub (fun _ h => List.mem_append_right _ h) (by decide +kernel))
set_option maxRecDepth 20000 in
theorem gL_law_L_planSize : GoodIn wsL_law (va_wsS RL 140 yL_planSize wsL_planSize) := goodIn_app (goodIn_of _ (by decide +kernel)) ggL_law_L_planSize
set_option maxRecDepth 20000 in
theorem ggL_law_X4_planSize : GoodIn wsL_law wsX4_planSize := goodIn_r _ [452, 91, 453, 172, 173, 5, 174, 137, 138, 139, 92, 93, 94, 95, 454, 455, 456, 457, 240, 60, 59, 71, 175, 176, 177, 458, 459, 460, 461, 239, 61, 407, 408, 409, 410, 64, 65, 411, 324, 232, 325, 258, 259, 260, 261, 58, 140, 141, 142, 143, 56, 642, 643, 644, 645, 646, 647, 648, 649, 650, 651, 652, 653, 654, 655, 656, 657, 658, 659, 660, 661, 662] (by decide +kernel) (by decide +kernel)
set_option maxRecDepth 20000 in
theorem gL_law_X4_planSize : GoodIn wsL_law (wsV RL 142 RX4 yX4_planSize wsX4_planSize) := goodIn_app (goodIn_of _ (by decide +kernel)) ggL_law_X4_planSize
set_option maxRecDepth 20000 in
theorem ggL_law_L_planned : GoodIn wsL_law wsL_planned := goodIn_ca (goodIn_r _ [464, 103, 465, 466, 467, 2, 468, 115, 116, 27, 26, 151, 152, 153, 154, 435, 436, 437, 438, 20, 200, 28, 439, 251, 252, 253, 22, 201, 202, 203, 19, 204, 205, 206, 207, 208, 209, 210, 211, 212, 213, 214, 215, 216, 217, 218, 219, 220, 221, 40, 440, 441, 442, 225, 443, 229, 423, 399, 400, 401, 277, 278, 402, 324, 232, 325, 444, 420, 421, 422, 445, 446, 447, 448, 16, 121, 122, 123, 15, 124, 33, 634, 635, 636, 637, 638, 639, 640, 641, 669, 670, 671, 672, 673, 674, 675, 676, 677, 678, 666, 667, 668, 663, 664, 665] (by decide +kernel) (by decide +kernel)) (goodIn_sub (fun _ h => List.mem_append_right _ h) (by decide +kernel))
set_option maxRecDepth 20000 in
theorem gL_law_L_planned : GoodIn wsL_law (va_wsS RL 143 yL_planned wsL_planned) := goodIn_app (goodIn_of _ (by decide +kernel)) ggL_law_L_planned
set_option maxRecDepth 20000 in
theorem ggL_law_X4_planned : GoodIn wsL_law wsX4_planned := goodIn_r _ [472, 91, 453, 71, 172, 173, 5, 174, 137, 138, 139, 92, 93, 94, 95, 454, 455, 456, 457, 240, 60, 59, 175, 176, 177, 458, 459, 460, 461, 239, 61, 407, 408, 409, 410, 64, 65, 411, 324, 232, 325, 258, 259, 260, 261, 58, 140, 141, 142, 143, 56, 642, 643, 644, 645, 646, 647, 648, 649, 650, 651, 652, 653, 654, 655, 656, 657, 658, 659, 660, 661, 662] (by decide +kernel) (by decide +kernel)
set_option maxRecDepth 20000 in
theorem gL_law_X4_planned : GoodIn wsL_law (wsV RL 145 RX4 yX4_planned wsX4_planned) := goodIn_app (goodIn_of _ (by decide +kernel)) ggL_law_X4_planned
set_option maxRecDepth 20000 in
theorem ggL_law_L_collect : GoodIn wsL_law wsL_collect := goodIn_ca (goodIn_ca (goodIn_ca (goodIn_r _ [475, 103, 104, 76, 476, 477, 478, 2, 479, 27, 151, 152, 153, 154, 115, 116, 117, 118, 119, 120, 109, 110, 480, 481, 482, 483, 81, 82, 22, 28, 435, 436, 437, 438, 20, 200, 26, 439, 251, 252, 253, 201, 202, 203, 19, 204, 205, 206, 207, 208, 209, 210, 211, 212, 213, 214, 215, 216, 217, 218, 219, 220, 221, 40, 440, 441, 442, 225, 443, 229, 423, 399, 400, 401, 277, 278, 402, 324, 232, 325, 444, 420, 421, 422, 445, 446, 447, 448, 16, 121, 122, 123, 15, 124, 33, 484, 485, 486, 487, 488, 489, 490, 23, 491, 492, 493, 494, 11, 12, 495, 496, 497, 498, 499, 500, 501, 502, 503, 504, 505, 506, 507, 508, 509, 510, 511, 512, 513, 514, 515, 516, 517, 518, 519, 520, 521, 35, 522, 163, 156, 157, 158, 34, 523, 524, 525, 526, 527, 280, 279, 227, 528, 529, 530, 531, 634, 635, 636, 637, 638, 639, 640, 641, 669, 670, 671, 672, 673, 674, 675, 676, 677, 678, 666, 667, 668, 663, 664, 665, 679, 680, 681, 682, 683, 684, 685, 686] (by decide +kernel) (by decide +kernel)) (goodIn_sub (fun _ h => List.mem_append_right _ h) (by decide +kernel))) (goodIn_sub (fun _ h => List.mem_append_left _ (List.mem_append_right _ h)) (by decide +kernel))) (goodIn_sub (fun _ h => List.mem_append_left _ (List.mem_append_left _ (List.mem_append_right _ h))) (by decide +kernel))
set_option maxRecDepth 20000 in
theorem gL_law_L_collect : GoodIn wsL_law (va_wsS RL 146 yL_collect wsL_collect) := goodIn_app (goodIn_of _ (by decide +kernel)) ggL_law_L_collect
set_option maxRecDepth 20000 in
theorem ggL_law_X4_collect : GoodIn wsL_law wsX4_collect := goodIn_r _ [535, 91, 58, 239, 453, 172, 173, 5, 174, 137, 138, 139, 92, 93, 94, 95, 536, 537, 538, 454, 455, 456, 457, 240, 60, 59, 71, 175, 176, 177, 458, 459, 460, 461, 61, 407, 408, 409, 410, 64, 65, 411, 324, 232, 325, 258, 259, 260, 261, 140, 141, 142, 143, 56, 539, 540, 541, 542, 68, 67, 63, 69, 543, 544, 545, 546, 55, 57, 547, 548, 549, 550, 642, 643, 644, 645, 646, 647, 648, 649, 650, 651, 652, 653, 654, 655, 656, 657, 658, 659, 660, 661, 662] (by decide +kernel) (by decide +kernel)
set_option maxRecDepth 20000 in
theorem gL_law_X4_collect : GoodIn wsL_law (wsV RL 148 RX4 yX4_collect wsX4_collect) := goodIn_app (goodIn_of _ (by decide +kernel)) ggL_law_X4_collect
set_option maxRecDepth 20000 in
theorem ggL_law_L_fetch : GoodIn wsL_law wsL_fetch := goodIn_ca (goodIn_ca (goodIn_ca (goodIn_r _ [553, 103, 104, 76, 554, 555, 556, 2, 557, 26, 27, 20, 200, 341, 342, 343, 344, 115, 116, 201, 202, 203, 19, 204, 205, 117, 118, 119, 120, 109, 110, 480, 481, 482, 483, 81, 82, 22, 28, 206, 207, 208, 209, 210, 211, 212, 213, 214, 215, 216, 217, 218, 219, 220, 221, 40, 484, 485, 486, 487, 488, 489, 490, 16, 23, 491, 492, 493, 494, 11, 12, 495, 496, 497, 498, 499, 500, 501, 502, 503, 504, 505, 506, 507, 324, 232, 325, 508, 509, 510, 511, 512, 122, 123, 15, 124, 33, 513, 514, 515, 516, 517, 518, 519, 520, 521, 35, 522, 163, 156, 157, 158, 34, 523, 524, 525, 526, 225, 527, 280, 279, 278, 227, 277, 528, 529, 530, 531, 634, 635, 636, 637, 638, 639, 640, 641, 669, 670, 671, 672, 673, 674, 675, 676, 677, 678, 666, 667, 668, 679, 680, 681, 682, 683, 684, 685, 686, 663, 664, 665] (by decide +kernel) (by decide +kernel)) (goodIn_sub (fun _ h => List.mem_append_right _ h) (by decide +kernel))) (goodIn_sub (fun _ h => List.mem_append_left _ (List.mem_append_right _ h)) (by decide +kernel))) (goodIn_sub (fun _ h => List.mem_append_left _ (List.mem_append_left _ (List.mem_append_right _ h))) (by decide +kernel))
set_option maxRecDepth 20000 in
theorem gL_law_L_fetch : GoodIn wsL_law (va_wsS RL 149 yL_fetch wsL_fetch) := goodIn_app (goodIn_of _ (by decide +kernel)) ggL_law_L_fetch
set_option maxRecDepth 20000 in
theorem ggL_law_X4_fetch : GoodIn wsL_law wsX4_fetch := goodIn_r _ [561, 91, 58, 239, 453, 71, 60, 349, 350, 351, 5, 352, 240, 137, 138, 139, 92, 93, 94, 95, 536, 537, 538, 539, 540, 541, 542, 59, 68, 67, 63, 411, 324, 232, 325, 69, 140, 141, 142, 143, 56, 543, 544, 545, 546, 55, 57, 175, 176, 177, 547, 548, 549, 550, 65, 64, 642, 643, 644, 645, 646, 647, 648, 649, 650, 651, 652, 653, 654, 655, 656, 657, 658, 659, 660, 661, 662] (by decide +kernel) (by decide +kernel)
set_option maxRecDepth 20000 in
theorem gL_law_X4_fetch : GoodIn wsL_law (wsV RL 151 RX4 yX4_fetch wsX4_fetch) := goodIn_app (goodIn_of _ (by decide +kernel)) ggL_law_X4_fetch
set_option maxRecDepth 20000 in
theorem ggL_law_L_wouldTake : GoodIn wsL_law wsL_wouldTake := goodIn_ca (goodIn_ca (goodIn_r _ [564, 103, 104, 565, 566, 567, 2, 568, 488, 489, 490, 16, 27, 20, 26, 200, 151, 152, 153, 154, 115, 116, 117, 118, 119, 120, 109, 110, 435, 436, 437, 438, 28, 439, 251, 252, 253, 22, 201, 202, 203, 19, 204, 205, 206, 207, 208, 209, 210, 211, 212, 213, 214, 215, 216, 217, 218, 219, 220, 221, 40, 440, 441, 442, 225, 443, 229, 423, 399, 400, 401, 277, 278, 402, 324, 232, 325, 444, 420, 421, 422, 445, 446, 447, 448, 121, 122, 123, 15, 124, 33, 491, 492, 493, 494, 11, 12, 495, 496, 497, 498, 499, 500, 501, 502, 503, 504, 505, 506, 507, 508, 509, 510, 511, 512, 513, 514, 515, 516, 517, 518, 519, 520, 521, 35, 522, 163, 156, 157, 158, 34, 523, 528, 529, 530, 531, 679, 680, 681, 682, 683, 684, 685, 686, 634, 635, 636, 637, 638, 639, 640, 641, 669, 670, 671, 672, 673, 674, 675, 676, 677, 678, 666, 667, 668, 663, 664, 665] (by decide +kernel) (by decide +kernel)) (goodIn_sub (fun _ h => List.mem_append_right _ h) (by decide +kernel))) (goodIn_sub (fun _ h => List.mem_append_left _ (List.mem_append_right _ h)) (by decide +kernel))
set_option maxRecDepth 20000 in
theorem gL_law_L_wouldTake : GoodIn wsL_law (va_wsS RL 152 yL_wouldTake wsL_wouldTake) := goodIn_app (goodIn_of _ (by decide +kernel)) ggL_law_L_wouldTake
set_option maxRecDepth 20000 in
theorem ggL_law_X4_wouldTake : GoodIn wsL_law wsX4_wouldTake := goodIn_r _ [572, 91, 453, 172, 173, 5, 174, 137, 138, 139, 92, 93, 94, 95, 536, 537, 538, 454, 455, 456, 457, 240, 60, 59, 71, 175, 176, 177, 458, 459, 460, 461, 239, 61, 407, 408, 409, 410, 64, 65, 411, 324, 232, 325, 258, 259, 260, 261, 58, 140, 141, 142, 143, 56, 539, 540, 541, 542, 68, 67, 63, 69, 543, 544, 545, 546, 55, 57, 547, 548, 549, 550, 642, 643, 644, 645, 646, 647, 648, 649, 650, 651, 652, 653, 654, 655, 656, 657, 658, 659, 660, 661, 662] (by decide +kernel) (by decide +kernel)
set_option maxRecDepth 20000 in
theorem gL_law_X4_wouldTake : GoodIn wsL_law (wsV RL 154 RX4 yX4_wouldTake wsX4_wouldTake) := goodIn_app (goodIn_of _ (by decide +kernel)) ggL_law_X4_wouldTake
set_option maxRecDepth 20000 in
theorem ggL_law_L_total : GoodIn wsL_law wsL_total := goodIn_ca (goodIn_r _ [575, 103, 576, 577, 578, 2, 579, 115, 116, 23, 151, 152, 153, 154, 634, 635, 636, 637, 638, 639, 640, 641] (by decide +kernel) (by decide +kernel)) (goodIn_sub (fun _ h => List.mem_append_right _ h) (by decide +kernel))
set_option maxRecDepth 20000 in
theorem gL_law_L_total : GoodIn wsL_law (va_wsS RL 155 yL_total wsL_total) := goodIn_app (goodIn_of _ (by decide +kernel)) ggL_law_L_total
set_option maxRecDepth 20000 in
theorem ggL_law_X4_total : GoodIn wsL_law wsX4_total := goodIn_r _ [583, 91, 69, 172, 173, 5, 174, 137, 138, 139, 642, 643, 644, 645, 646, 647, 648, 649, 650, 651, 652, 653, 654, 655, 656, 657, 658, 659, 660, 661, 662] (by decide +kernel) (by decide +kernel)
set_option maxRecDepth 20000 in
theorem gL_law_X4_total : GoodIn wsL_law (wsV RL 157 RX4 yX4_total wsX4_total) := goodIn_app (goodIn_of _ (by decide +kernel)) ggL_law_X4_total
set_option maxRecDepth 20000 in
theorem ggL_law_L_wasted : GoodIn wsL_law wsL_wasted := goodIn_ca (goodIn_r _ [586, 103, 587, 588, 589, 2, 590, 24, 151, 152, 153, 154, 115, 116, 634, 635, 636, 637, 638, 639, 640, 641] (by decide +kernel) (by decide +kernel)) (goodIn_sub (fun _ h => List.mem_append_right _ h) (by decide +kernel))
set_option maxRecDepth 20000 in
theorem gL_law_L_wasted : GoodIn wsL_law (va_wsS RL 158 yL_wasted wsL_wasted) := goodIn_app (goodIn_of _ (by decide +kernel)) ggL_law_L_wasted
set_option maxRecDepth 20000 in
theorem ggL_law_X4_wasted : GoodIn wsL_law wsX4_wasted := goodIn_r _ [594, 91, 70, 172, 173, 5, 174, 137, 138, 139, 642, 643, 644, 645, 646, 647, 648, 649, 650, 651, 652, 653, 654, 655, 656, 657, 658, 659, 660, 661, 662] (by decide +kernel) (by decide +kernel)
set_option maxRecDepth 20000 in
theorem gL_law_X4_wasted : GoodIn wsL_law (wsV RL 160 RX4 yX4_wasted wsX4_wasted) := goodIn_app (goodIn_of _ (by decide +kernel)) ggL_law_X4_wasted
set_option maxRecDepth 20000 in
theorem ggL_law_X3_error : GoodIn wsL_law wsX3_error := goodIn_r _ [598, 20, 200, 28, 599, 600, 232, 601, 201, 202, 203, 19, 204, 205, 206, 207, 208, 209, 210, 211, 212, 213, 214, 215, 216, 217, 218, 219, 220, 221, 40, 398, 399, 400, 225, 401, 229, 277, 278, 402, 324, 325, 634, 635, 636, 637, 638, 639, 640, 641, 669, 670, 671, 672, 673, 674, 675, 676, 677, 678, 666, 667, 668] (by decide +kernel) (by decide +kernel)
set_option maxRecDepth 20000 in
theorem gL_law_X3_error : GoodIn wsL_law (wsV RL 161 RX3 yX3_error wsX3_error) := goodIn_app (goodIn_of _ (by decide +kernel)) ggL_law_X3_error
set_option maxRecDepth 20000 in
theorem ggL_law_X4_error : GoodIn wsL_law wsX4_error := goodIn_r _ [605, 91, 240, 239, 63, 606, 600, 232, 601, 61, 407, 408, 409, 5, 410, 64, 65, 411, 324, 325, 642, 643, 644, 645, 646, 647, 648, 649, 650, 651, 652, 653, 654, 655, 656, 657, 658, 659, 660, 661, 662] (by decide +kernel) (by decide +kernel)
set_option maxRecDepth 20000 in
theorem gL_law_X4_error : GoodIn wsL_law (wsV RL 165 RX4 yX4_error wsX4_error) := goodIn_app (goodIn_of _ (by decide +kernel)) ggL_law_X4_error
set_option maxRecDepth 20000 in
theorem ggL_law_X3_digest : GoodIn wsL_law wsX3_digest := goodIn_r _ [610, 611, 28, 612, 613, 2, 614, 615, 616, 617, 618, 619, 16, 121, 122, 123, 15, 124, 33, 620, 621, 622, 623, 20, 200, 201, 202, 203, 19, 204, 205, 206, 207, 208, 209, 210, 211, 212, 213, 214, 215, 216, 217, 218, 219, 220, 221, 40, 379, 380, 381, 225, 382, 275, 276, 227, 277, 278, 234, 279, 280, 624, 625, 626, 627, 23, 24, 634, 635, 636, 637, 638, 639, 640, 641, 663, 664, 665, 666, 667, 668, 669, 670, 671, 672, 673, 674, 675, 676, 677, 678] (by decide +kernel) (by decide +kernel)
set_option maxRecDepth 20000 in
theorem gL_law_X3_digest : GoodIn wsL_law (wsV RL 166 RX3 yX3_digest wsX3_digest) := goodIn_app (goodIn_of _ (by decide +kernel)) ggL_law_X3_digest
set_option maxRecDepth 20000 in
theorem ggL_law_X4_digest : GoodIn wsL_law wsX4_digest := goodIn_r _ [631, 91, 632, 239, 633, 55, 57, 240, 69, 70, 140, 141, 142, 5, 143, 56, 387, 388, 389, 390, 59, 60, 63, 64, 65, 66, 67, 68, 642, 643, 644, 645, 646, 647, 648, 649, 650, 651, 652, 653, 654, 655, 656, 657, 658, 659, 660, 661, 662] (by decide +kernel) (by decide +kernel)
set_option maxRecDepth 20000 in
theorem gL_law_X4_digest : GoodIn wsL_law (wsV RL 170 RX4 yX4_digest wsX4_digest) := goodIn_app (goodIn_of _ (by decide +kernel)) ggL_law_X4_digest
theorem dL_law_0 : decode cL_law 0 = .ok (.new 8, 3) := by decide +kernel
theorem dL_law_3 : decode cL_law 3 = .ok (.dup, 1) := by decide +kernel
theorem dL_law_4 : decode cL_law 4 = .ok (.invokespecial 79, 3) := by decide +kernel
theorem dL_law_7 : decode cL_law 7 = .ok (.astore_n 1, 1) := by decide +kernel
theorem dL_law_8 : decode cL_law 8 = .ok (.new 80, 3) := by decide +kernel
theorem dL_law_11 : decode cL_law 11 = .ok (.dup, 1) := by decide +kernel
theorem dL_law_12 : decode cL_law 12 = .ok (.invokespecial 82, 3) := by decide +kernel
theorem dL_law_15 : decode cL_law 15 = .ok (.astore_n 2, 1) := by decide +kernel
theorem dL_law_16 : decode cL_law 16 = .ok (.iconst 1, 1) := by decide +kernel
theorem dL_law_17 : decode cL_law 17 = .ok (.newarray .long, 2) := by decide +kernel
theorem dL_law_19 : decode cL_law 19 = .ok (.astore_n 3, 1) := by decide +kernel
theorem dL_law_20 : decode cL_law 20 = .ok (.iconst 0, 1) := by decide +kernel
theorem dL_law_21 : decode cL_law 21 = .ok (.istore 4, 2) := by decide +kernel
theorem dL_law_23 : decode cL_law 23 = .ok (.iload 4, 2) := by decide +kernel
theorem dL_law_25 : decode cL_law 25 = .ok (.aload_n 0, 1) := by decide +kernel
theorem dL_law_26 : decode cL_law 26 = .ok (.arraylength, 1) := by decide +kernel
theorem dL_law_27 : decode cL_law 27 = .ok (.iconst 5, 1) := by decide +kernel
theorem dL_law_28 : decode cL_law 28 = .ok (.isub, 1) := by decide +kernel
theorem dL_law_29 : decode cL_law 29 = .ok (.if_icmp .gt 1454, 3) := by decide +kernel
theorem dL_law_32 : decode cL_law 32 = .ok (.aload_n 0, 1) := by decide +kernel
theorem dL_law_33 : decode cL_law 33 = .ok (.iload 4, 2) := by decide +kernel
theorem dL_law_35 : decode cL_law 35 = .ok (.iaload, 1) := by decide +kernel
theorem dL_law_36 : decode cL_law 36 = .ok (.bipush 31, 2) := by decide +kernel
theorem dL_law_38 : decode cL_law 38 = .ok (.iand, 1) := by decide +kernel
theorem dL_law_39 : decode cL_law 39 = .ok (.tableswitch 1438 0 22 #[105, 149, 229, 332, 423, 479, 492, 505, 597, 665, 728, 741, 809, 877, 933, 989, 1057, 1125, 1193, 1261, 1328, 1383, 1424], 105) := by decide +kernel
theorem dL_law_144 : decode cL_law 144 = .ok (.aload_n 1, 1) := by decide +kernel
theorem dL_law_145 : decode cL_law 145 = .ok (.aload_n 3, 1) := by decide +kernel
theorem dL_law_146 : decode cL_law 146 = .ok (.invokestatic 83, 3) := by decide +kernel
theorem dL_law_149 : decode cL_law 149 = .ok (.istore 5, 2) := by decide +kernel
theorem dL_law_151 : decode cL_law 151 = .ok (.aload_n 2, 1) := by decide +kernel
theorem dL_law_152 : decode cL_law 152 = .ok (.invokevirtual 88, 3) := by decide +kernel
theorem dL_law_155 : decode cL_law 155 = .ok (.istore 6, 2) := by decide +kernel
theorem dL_law_157 : decode cL_law 157 = .ok (.aload_n 2, 1) := by decide +kernel
theorem dL_law_158 : decode cL_law 158 = .ok (.invokevirtual 89, 3) := by decide +kernel
theorem dL_law_161 : decode cL_law 161 = .ok (.iload 5, 2) := by decide +kernel
theorem dL_law_163 : decode cL_law 163 = .ok (.if_icmp .eq 5, 3) := by decide +kernel
theorem dL_law_166 : decode cL_law 166 = .ok (.iconst 0, 1) := by decide +kernel
theorem dL_law_167 : decode cL_law 167 = .ok (.ireturn, 1) := by decide +kernel
theorem dL_law_168 : decode cL_law 168 = .ok (.iload 5, 2) := by decide +kernel
theorem dL_law_170 : decode cL_law 170 = .ok (.ifCond .ne 15, 3) := by decide +kernel
theorem dL_law_173 : decode cL_law 173 = .ok (.aload_n 3, 1) := by decide +kernel
theorem dL_law_174 : decode cL_law 174 = .ok (.iconst 0, 1) := by decide +kernel
theorem dL_law_175 : decode cL_law 175 = .ok (.laload, 1) := by decide +kernel
theorem dL_law_176 : decode cL_law 176 = .ok (.iload 6, 2) := by decide +kernel
theorem dL_law_178 : decode cL_law 178 = .ok (.i2l, 1) := by decide +kernel
theorem dL_law_179 : decode cL_law 179 = .ok (.lcmp, 1) := by decide +kernel
theorem dL_law_180 : decode cL_law 180 = .ok (.ifCond .eq 5, 3) := by decide +kernel
theorem dL_law_183 : decode cL_law 183 = .ok (.iconst 0, 1) := by decide +kernel
theorem dL_law_184 : decode cL_law 184 = .ok (.ireturn, 1) := by decide +kernel
theorem dL_law_185 : decode cL_law 185 = .ok (.goto 1292, 3) := by decide +kernel
theorem dL_law_188 : decode cL_law 188 = .ok (.aload_n 1, 1) := by decide +kernel
theorem dL_law_189 : decode cL_law 189 = .ok (.aload_n 0, 1) := by decide +kernel
theorem dL_law_190 : decode cL_law 190 = .ok (.iload 4, 2) := by decide +kernel
theorem dL_law_192 : decode cL_law 192 = .ok (.iconst 1, 1) := by decide +kernel
theorem dL_law_193 : decode cL_law 193 = .ok (.iadd, 1) := by decide +kernel
theorem dL_law_194 : decode cL_law 194 = .ok (.iaload, 1) := by decide +kernel
theorem dL_law_195 : decode cL_law 195 = .ok (.aload_n 0, 1) := by decide +kernel
theorem dL_law_196 : decode cL_law 196 = .ok (.iload 4, 2) := by decide +kernel
theorem dL_law_198 : decode cL_law 198 = .ok (.iconst 2, 1) := by decide +kernel
theorem dL_law_199 : decode cL_law 199 = .ok (.iadd, 1) := by decide +kernel
theorem dL_law_200 : decode cL_law 200 = .ok (.iaload, 1) := by decide +kernel
theorem dL_law_201 : decode cL_law 201 = .ok (.aload_n 0, 1) := by decide +kernel
theorem dL_law_202 : decode cL_law 202 = .ok (.iload 4, 2) := by decide +kernel
theorem dL_law_204 : decode cL_law 204 = .ok (.iconst 3, 1) := by decide +kernel
theorem dL_law_205 : decode cL_law 205 = .ok (.iadd, 1) := by decide +kernel
theorem dL_law_206 : decode cL_law 206 = .ok (.iaload, 1) := by decide +kernel
theorem dL_law_207 : decode cL_law 207 = .ok (.aload_n 3, 1) := by decide +kernel
theorem dL_law_208 : decode cL_law 208 = .ok (.invokestatic 92, 3) := by decide +kernel
theorem dL_law_211 : decode cL_law 211 = .ok (.istore 5, 2) := by decide +kernel
theorem dL_law_213 : decode cL_law 213 = .ok (.aload_n 2, 1) := by decide +kernel
theorem dL_law_214 : decode cL_law 214 = .ok (.aload_n 0, 1) := by decide +kernel
theorem dL_law_215 : decode cL_law 215 = .ok (.iload 4, 2) := by decide +kernel
theorem dL_law_217 : decode cL_law 217 = .ok (.iconst 1, 1) := by decide +kernel
theorem dL_law_218 : decode cL_law 218 = .ok (.iadd, 1) := by decide +kernel
theorem dL_law_219 : decode cL_law 219 = .ok (.iaload, 1) := by decide +kernel
theorem dL_law_220 : decode cL_law 220 = .ok (.aload_n 0, 1) := by decide +kernel
theorem dL_law_221 : decode cL_law 221 = .ok (.iload 4, 2) := by decide +kernel
theorem dL_law_223 : decode cL_law 223 = .ok (.iconst 2, 1) := by decide +kernel
theorem dL_law_224 : decode cL_law 224 = .ok (.iadd, 1) := by decide +kernel
theorem dL_law_225 : decode cL_law 225 = .ok (.iaload, 1) := by decide +kernel
theorem dL_law_226 : decode cL_law 226 = .ok (.aload_n 0, 1) := by decide +kernel
theorem dL_law_227 : decode cL_law 227 = .ok (.iload 4, 2) := by decide +kernel
theorem dL_law_229 : decode cL_law 229 = .ok (.iconst 3, 1) := by decide +kernel
theorem dL_law_230 : decode cL_law 230 = .ok (.iadd, 1) := by decide +kernel
theorem dL_law_231 : decode cL_law 231 = .ok (.iaload, 1) := by decide +kernel
theorem dL_law_232 : decode cL_law 232 = .ok (.invokevirtual 95, 3) := by decide +kernel
theorem dL_law_235 : decode cL_law 235 = .ok (.istore 6, 2) := by decide +kernel
theorem dL_law_237 : decode cL_law 237 = .ok (.aload_n 2, 1) := by decide +kernel
theorem dL_law_238 : decode cL_law 238 = .ok (.invokevirtual 89, 3) := by decide +kernel
theorem dL_law_241 : decode cL_law 241 = .ok (.iload 5, 2) := by decide +kernel
theorem dL_law_243 : decode cL_law 243 = .ok (.if_icmp .eq 5, 3) := by decide +kernel
theorem dL_law_246 : decode cL_law 246 = .ok (.iconst 0, 1) := by decide +kernel
theorem dL_law_247 : decode cL_law 247 = .ok (.ireturn, 1) := by decide +kernel
theorem dL_law_248 : decode cL_law 248 = .ok (.iload 5, 2) := by decide +kernel
theorem dL_law_250 : decode cL_law 250 = .ok (.ifCond .ne 15, 3) := by decide +kernel
theorem dL_law_253 : decode cL_law 253 = .ok (.aload_n 3, 1) := by decide +kernel
theorem dL_law_254 : decode cL_law 254 = .ok (.iconst 0, 1) := by decide +kernel
theorem dL_law_255 : decode cL_law 255 = .ok (.laload, 1) := by decide +kernel
theorem dL_law_256 : decode cL_law 256 = .ok (.iload 6, 2) := by decide +kernel
theorem dL_law_258 : decode cL_law 258 = .ok (.i2l, 1) := by decide +kernel
theorem dL_law_259 : decode cL_law 259 = .ok (.lcmp, 1) := by decide +kernel
theorem dL_law_260 : decode cL_law 260 = .ok (.ifCond .eq 5, 3) := by decide +kernel
theorem dL_law_263 : decode cL_law 263 = .ok (.iconst 0, 1) := by decide +kernel
theorem dL_law_264 : decode cL_law 264 = .ok (.ireturn, 1) := by decide +kernel
theorem dL_law_265 : decode cL_law 265 = .ok (.goto 1212, 3) := by decide +kernel
theorem dL_law_268 : decode cL_law 268 = .ok (.aload_n 1, 1) := by decide +kernel
theorem dL_law_269 : decode cL_law 269 = .ok (.aload_n 0, 1) := by decide +kernel
theorem dL_law_270 : decode cL_law 270 = .ok (.iload 4, 2) := by decide +kernel
theorem dL_law_272 : decode cL_law 272 = .ok (.iconst 1, 1) := by decide +kernel
theorem dL_law_273 : decode cL_law 273 = .ok (.iadd, 1) := by decide +kernel
theorem dL_law_274 : decode cL_law 274 = .ok (.iaload, 1) := by decide +kernel
theorem dL_law_275 : decode cL_law 275 = .ok (.aload_n 0, 1) := by decide +kernel
theorem dL_law_276 : decode cL_law 276 = .ok (.iload 4, 2) := by decide +kernel
theorem dL_law_278 : decode cL_law 278 = .ok (.iconst 2, 1) := by decide +kernel
theorem dL_law_279 : decode cL_law 279 = .ok (.iadd, 1) := by decide +kernel
theorem dL_law_280 : decode cL_law 280 = .ok (.iaload, 1) := by decide +kernel
theorem dL_law_281 : decode cL_law 281 = .ok (.aload_n 0, 1) := by decide +kernel
theorem dL_law_282 : decode cL_law 282 = .ok (.iload 4, 2) := by decide +kernel
theorem dL_law_284 : decode cL_law 284 = .ok (.iconst 3, 1) := by decide +kernel
theorem dL_law_285 : decode cL_law 285 = .ok (.iadd, 1) := by decide +kernel
theorem dL_law_286 : decode cL_law 286 = .ok (.iaload, 1) := by decide +kernel
theorem dL_law_287 : decode cL_law 287 = .ok (.ifCond .eq 7, 3) := by decide +kernel
theorem dL_law_290 : decode cL_law 290 = .ok (.iconst 1, 1) := by decide +kernel
theorem dL_law_291 : decode cL_law 291 = .ok (.goto 4, 3) := by decide +kernel
theorem dL_law_294 : decode cL_law 294 = .ok (.iconst 0, 1) := by decide +kernel
theorem dL_law_295 : decode cL_law 295 = .ok (.aload_n 3, 1) := by decide +kernel
theorem dL_law_296 : decode cL_law 296 = .ok (.invokestatic 96, 3) := by decide +kernel
theorem dL_law_299 : decode cL_law 299 = .ok (.istore 5, 2) := by decide +kernel
theorem dL_law_301 : decode cL_law 301 = .ok (.aload_n 2, 1) := by decide +kernel
theorem dL_law_302 : decode cL_law 302 = .ok (.aload_n 0, 1) := by decide +kernel
theorem dL_law_303 : decode cL_law 303 = .ok (.iload 4, 2) := by decide +kernel
theorem dL_law_305 : decode cL_law 305 = .ok (.iconst 1, 1) := by decide +kernel
theorem dL_law_306 : decode cL_law 306 = .ok (.iadd, 1) := by decide +kernel
theorem dL_law_307 : decode cL_law 307 = .ok (.iaload, 1) := by decide +kernel
theorem dL_law_308 : decode cL_law 308 = .ok (.aload_n 0, 1) := by decide +kernel
theorem dL_law_309 : decode cL_law 309 = .ok (.iload 4, 2) := by decide +kernel
theorem dL_law_311 : decode cL_law 311 = .ok (.iconst 2, 1) := by decide +kernel
theorem dL_law_312 : decode cL_law 312 = .ok (.iadd, 1) := by decide +kernel
theorem dL_law_313 : decode cL_law 313 = .ok (.iaload, 1) := by decide +kernel
theorem dL_law_314 : decode cL_law 314 = .ok (.aload_n 0, 1) := by decide +kernel
theorem dL_law_315 : decode cL_law 315 = .ok (.iload 4, 2) := by decide +kernel
theorem dL_law_317 : decode cL_law 317 = .ok (.iconst 3, 1) := by decide +kernel
theorem dL_law_318 : decode cL_law 318 = .ok (.iadd, 1) := by decide +kernel
theorem dL_law_319 : decode cL_law 319 = .ok (.iaload, 1) := by decide +kernel
theorem dL_law_320 : decode cL_law 320 = .ok (.ifCond .eq 7, 3) := by decide +kernel
theorem dL_law_323 : decode cL_law 323 = .ok (.iconst 1, 1) := by decide +kernel
theorem dL_law_324 : decode cL_law 324 = .ok (.goto 4, 3) := by decide +kernel
theorem dL_law_327 : decode cL_law 327 = .ok (.iconst 0, 1) := by decide +kernel
theorem dL_law_328 : decode cL_law 328 = .ok (.invokevirtual 99, 3) := by decide +kernel
theorem dL_law_331 : decode cL_law 331 = .ok (.istore 6, 2) := by decide +kernel
theorem dL_law_333 : decode cL_law 333 = .ok (.aload_n 2, 1) := by decide +kernel
theorem dL_law_334 : decode cL_law 334 = .ok (.invokevirtual 89, 3) := by decide +kernel
theorem dL_law_337 : decode cL_law 337 = .ok (.iload 5, 2) := by decide +kernel
theorem dL_law_339 : decode cL_law 339 = .ok (.if_icmp .eq 5, 3) := by decide +kernel
theorem dL_law_342 : decode cL_law 342 = .ok (.iconst 0, 1) := by decide +kernel
theorem dL_law_343 : decode cL_law 343 = .ok (.ireturn, 1) := by decide +kernel
theorem dL_law_344 : decode cL_law 344 = .ok (.iload 5, 2) := by decide +kernel
theorem dL_law_346 : decode cL_law 346 = .ok (.ifCond .ne 22, 3) := by decide +kernel
theorem dL_law_349 : decode cL_law 349 = .ok (.aload_n 3, 1) := by decide +kernel
theorem dL_law_350 : decode cL_law 350 = .ok (.iconst 0, 1) := by decide +kernel
theorem dL_law_351 : decode cL_law 351 = .ok (.laload, 1) := by decide +kernel
theorem dL_law_352 : decode cL_law 352 = .ok (.iload 6, 2) := by decide +kernel
theorem dL_law_354 : decode cL_law 354 = .ok (.ifCond .eq 7, 3) := by decide +kernel
theorem dL_law_357 : decode cL_law 357 = .ok (.lconst 1, 1) := by decide +kernel
theorem dL_law_358 : decode cL_law 358 = .ok (.goto 4, 3) := by decide +kernel
theorem dL_law_361 : decode cL_law 361 = .ok (.lconst 0, 1) := by decide +kernel
theorem dL_law_362 : decode cL_law 362 = .ok (.lcmp, 1) := by decide +kernel
theorem dL_law_363 : decode cL_law 363 = .ok (.ifCond .eq 5, 3) := by decide +kernel
theorem dL_law_366 : decode cL_law 366 = .ok (.iconst 0, 1) := by decide +kernel
theorem dL_law_367 : decode cL_law 367 = .ok (.ireturn, 1) := by decide +kernel
theorem dL_law_368 : decode cL_law 368 = .ok (.goto 1109, 3) := by decide +kernel
theorem dL_law_371 : decode cL_law 371 = .ok (.aload_n 1, 1) := by decide +kernel
theorem dL_law_372 : decode cL_law 372 = .ok (.aload_n 0, 1) := by decide +kernel
theorem dL_law_373 : decode cL_law 373 = .ok (.iload 4, 2) := by decide +kernel
theorem dL_law_375 : decode cL_law 375 = .ok (.iconst 1, 1) := by decide +kernel
theorem dL_law_376 : decode cL_law 376 = .ok (.iadd, 1) := by decide +kernel
theorem dL_law_377 : decode cL_law 377 = .ok (.iaload, 1) := by decide +kernel
theorem dL_law_378 : decode cL_law 378 = .ok (.aload_n 0, 1) := by decide +kernel
theorem dL_law_379 : decode cL_law 379 = .ok (.iload 4, 2) := by decide +kernel
theorem dL_law_381 : decode cL_law 381 = .ok (.iconst 2, 1) := by decide +kernel
theorem dL_law_382 : decode cL_law 382 = .ok (.iadd, 1) := by decide +kernel
theorem dL_law_383 : decode cL_law 383 = .ok (.iaload, 1) := by decide +kernel
theorem dL_law_384 : decode cL_law 384 = .ok (.ifCond .eq 7, 3) := by decide +kernel
theorem dL_law_387 : decode cL_law 387 = .ok (.iconst 1, 1) := by decide +kernel
theorem dL_law_388 : decode cL_law 388 = .ok (.goto 4, 3) := by decide +kernel
theorem dL_law_391 : decode cL_law 391 = .ok (.iconst 0, 1) := by decide +kernel
theorem dL_law_392 : decode cL_law 392 = .ok (.aload_n 3, 1) := by decide +kernel
theorem dL_law_393 : decode cL_law 393 = .ok (.invokestatic 100, 3) := by decide +kernel
theorem dL_law_396 : decode cL_law 396 = .ok (.istore 5, 2) := by decide +kernel
theorem dL_law_398 : decode cL_law 398 = .ok (.aload_n 2, 1) := by decide +kernel
theorem dL_law_399 : decode cL_law 399 = .ok (.aload_n 0, 1) := by decide +kernel
theorem dL_law_400 : decode cL_law 400 = .ok (.iload 4, 2) := by decide +kernel
theorem dL_law_402 : decode cL_law 402 = .ok (.iconst 1, 1) := by decide +kernel
theorem dL_law_403 : decode cL_law 403 = .ok (.iadd, 1) := by decide +kernel
theorem dL_law_404 : decode cL_law 404 = .ok (.iaload, 1) := by decide +kernel
theorem dL_law_405 : decode cL_law 405 = .ok (.aload_n 0, 1) := by decide +kernel
theorem dL_law_406 : decode cL_law 406 = .ok (.iload 4, 2) := by decide +kernel
theorem dL_law_408 : decode cL_law 408 = .ok (.iconst 2, 1) := by decide +kernel
theorem dL_law_409 : decode cL_law 409 = .ok (.iadd, 1) := by decide +kernel
theorem dL_law_410 : decode cL_law 410 = .ok (.iaload, 1) := by decide +kernel
theorem dL_law_411 : decode cL_law 411 = .ok (.ifCond .eq 7, 3) := by decide +kernel
theorem dL_law_414 : decode cL_law 414 = .ok (.iconst 1, 1) := by decide +kernel
theorem dL_law_415 : decode cL_law 415 = .ok (.goto 4, 3) := by decide +kernel
theorem dL_law_418 : decode cL_law 418 = .ok (.iconst 0, 1) := by decide +kernel
theorem dL_law_419 : decode cL_law 419 = .ok (.invokevirtual 103, 3) := by decide +kernel
theorem dL_law_422 : decode cL_law 422 = .ok (.istore 6, 2) := by decide +kernel
theorem dL_law_424 : decode cL_law 424 = .ok (.aload_n 2, 1) := by decide +kernel
theorem dL_law_425 : decode cL_law 425 = .ok (.invokevirtual 89, 3) := by decide +kernel
theorem dL_law_428 : decode cL_law 428 = .ok (.iload 5, 2) := by decide +kernel
theorem dL_law_430 : decode cL_law 430 = .ok (.if_icmp .eq 5, 3) := by decide +kernel
theorem dL_law_433 : decode cL_law 433 = .ok (.iconst 0, 1) := by decide +kernel
theorem dL_law_434 : decode cL_law 434 = .ok (.ireturn, 1) := by decide +kernel
theorem dL_law_435 : decode cL_law 435 = .ok (.iload 5, 2) := by decide +kernel
theorem dL_law_437 : decode cL_law 437 = .ok (.ifCond .ne 22, 3) := by decide +kernel
theorem dL_law_440 : decode cL_law 440 = .ok (.aload_n 3, 1) := by decide +kernel
theorem dL_law_441 : decode cL_law 441 = .ok (.iconst 0, 1) := by decide +kernel
theorem dL_law_442 : decode cL_law 442 = .ok (.laload, 1) := by decide +kernel
theorem dL_law_443 : decode cL_law 443 = .ok (.iload 6, 2) := by decide +kernel
theorem dL_law_445 : decode cL_law 445 = .ok (.ifCond .eq 7, 3) := by decide +kernel
theorem dL_law_448 : decode cL_law 448 = .ok (.lconst 1, 1) := by decide +kernel
theorem dL_law_449 : decode cL_law 449 = .ok (.goto 4, 3) := by decide +kernel
theorem dL_law_452 : decode cL_law 452 = .ok (.lconst 0, 1) := by decide +kernel
theorem dL_law_453 : decode cL_law 453 = .ok (.lcmp, 1) := by decide +kernel
theorem dL_law_454 : decode cL_law 454 = .ok (.ifCond .eq 5, 3) := by decide +kernel
theorem dL_law_457 : decode cL_law 457 = .ok (.iconst 0, 1) := by decide +kernel
theorem dL_law_458 : decode cL_law 458 = .ok (.ireturn, 1) := by decide +kernel
theorem dL_law_459 : decode cL_law 459 = .ok (.goto 1018, 3) := by decide +kernel
theorem dL_law_462 : decode cL_law 462 = .ok (.aload_n 1, 1) := by decide +kernel
theorem dL_law_463 : decode cL_law 463 = .ok (.aload_n 0, 1) := by decide +kernel
theorem dL_law_464 : decode cL_law 464 = .ok (.iload 4, 2) := by decide +kernel
theorem dL_law_466 : decode cL_law 466 = .ok (.iconst 1, 1) := by decide +kernel
theorem dL_law_467 : decode cL_law 467 = .ok (.iadd, 1) := by decide +kernel
theorem dL_law_468 : decode cL_law 468 = .ok (.iaload, 1) := by decide +kernel
theorem dL_law_469 : decode cL_law 469 = .ok (.aload_n 3, 1) := by decide +kernel
theorem dL_law_470 : decode cL_law 470 = .ok (.invokestatic 104, 3) := by decide +kernel
theorem dL_law_473 : decode cL_law 473 = .ok (.istore 5, 2) := by decide +kernel
theorem dL_law_475 : decode cL_law 475 = .ok (.aload_n 2, 1) := by decide +kernel
theorem dL_law_476 : decode cL_law 476 = .ok (.aload_n 0, 1) := by decide +kernel
theorem dL_law_477 : decode cL_law 477 = .ok (.iload 4, 2) := by decide +kernel
theorem dL_law_479 : decode cL_law 479 = .ok (.iconst 1, 1) := by decide +kernel
end
section
theorem dL_law_480 : decode cL_law 480 = .ok (.iadd, 1) := by decide +kernel
theorem dL_law_481 : decode cL_law 481 = .ok (.iaload, 1) := by decide +kernel
theorem dL_law_482 : decode cL_law 482 = .ok (.invokevirtual 107, 3) := by decide +kernel
theorem dL_law_485 : decode cL_law 485 = .ok (.istore 6, 2) := by decide +kernel
theorem dL_law_487 : decode cL_law 487 = .ok (.aload_n 2, 1) := by decide +kernel
theorem dL_law_488 : decode cL_law 488 = .ok (.invokevirtual 89, 3) := by decide +kernel
theorem dL_law_491 : decode cL_law 491 = .ok (.iload 5, 2) := by decide +kernel
theorem dL_law_493 : decode cL_law 493 = .ok (.if_icmp .eq 5, 3) := by decide +kernel
theorem dL_law_496 : decode cL_law 496 = .ok (.iconst 0, 1) := by decide +kernel
theorem dL_law_497 : decode cL_law 497 = .ok (.ireturn, 1) := by decide +kernel
theorem dL_law_498 : decode cL_law 498 = .ok (.iload 5, 2) := by decide +kernel
theorem dL_law_500 : decode cL_law 500 = .ok (.ifCond .ne 15, 3) := by decide +kernel
theorem dL_law_503 : decode cL_law 503 = .ok (.aload_n 3, 1) := by decide +kernel
theorem dL_law_504 : decode cL_law 504 = .ok (.iconst 0, 1) := by decide +kernel
theorem dL_law_505 : decode cL_law 505 = .ok (.laload, 1) := by decide +kernel
theorem dL_law_506 : decode cL_law 506 = .ok (.iload 6, 2) := by decide +kernel
theorem dL_law_508 : decode cL_law 508 = .ok (.i2l, 1) := by decide +kernel
theorem dL_law_509 : decode cL_law 509 = .ok (.lcmp, 1) := by decide +kernel
theorem dL_law_510 : decode cL_law 510 = .ok (.ifCond .eq 5, 3) := by decide +kernel
theorem dL_law_513 : decode cL_law 513 = .ok (.iconst 0, 1) := by decide +kernel
theorem dL_law_514 : decode cL_law 514 = .ok (.ireturn, 1) := by decide +kernel
theorem dL_law_515 : decode cL_law 515 = .ok (.goto 962, 3) := by decide +kernel
theorem dL_law_518 : decode cL_law 518 = .ok (.aload_n 1, 1) := by decide +kernel
theorem dL_law_519 : decode cL_law 519 = .ok (.invokevirtual 108, 3) := by decide +kernel
theorem dL_law_522 : decode cL_law 522 = .ok (.aload_n 2, 1) := by decide +kernel
theorem dL_law_523 : decode cL_law 523 = .ok (.invokevirtual 111, 3) := by decide +kernel
theorem dL_law_526 : decode cL_law 526 = .ok (.if_icmp .eq 951, 3) := by decide +kernel
theorem dL_law_529 : decode cL_law 529 = .ok (.iconst 0, 1) := by decide +kernel
theorem dL_law_530 : decode cL_law 530 = .ok (.ireturn, 1) := by decide +kernel
theorem dL_law_531 : decode cL_law 531 = .ok (.aload_n 1, 1) := by decide +kernel
theorem dL_law_532 : decode cL_law 532 = .ok (.invokevirtual 112, 3) := by decide +kernel
theorem dL_law_535 : decode cL_law 535 = .ok (.aload_n 2, 1) := by decide +kernel
theorem dL_law_536 : decode cL_law 536 = .ok (.invokevirtual 115, 3) := by decide +kernel
theorem dL_law_539 : decode cL_law 539 = .ok (.if_icmp .eq 938, 3) := by decide +kernel
theorem dL_law_542 : decode cL_law 542 = .ok (.iconst 0, 1) := by decide +kernel
theorem dL_law_543 : decode cL_law 543 = .ok (.ireturn, 1) := by decide +kernel
theorem dL_law_544 : decode cL_law 544 = .ok (.aload_n 1, 1) := by decide +kernel
theorem dL_law_545 : decode cL_law 545 = .ok (.aload_n 0, 1) := by decide +kernel
theorem dL_law_546 : decode cL_law 546 = .ok (.iload 4, 2) := by decide +kernel
theorem dL_law_548 : decode cL_law 548 = .ok (.iconst 1, 1) := by decide +kernel
theorem dL_law_549 : decode cL_law 549 = .ok (.iadd, 1) := by decide +kernel
theorem dL_law_550 : decode cL_law 550 = .ok (.iaload, 1) := by decide +kernel
theorem dL_law_551 : decode cL_law 551 = .ok (.aload_n 0, 1) := by decide +kernel
theorem dL_law_552 : decode cL_law 552 = .ok (.iload 4, 2) := by decide +kernel
theorem dL_law_554 : decode cL_law 554 = .ok (.iconst 2, 1) := by decide +kernel
theorem dL_law_555 : decode cL_law 555 = .ok (.iadd, 1) := by decide +kernel
theorem dL_law_556 : decode cL_law 556 = .ok (.iaload, 1) := by decide +kernel
theorem dL_law_557 : decode cL_law 557 = .ok (.aload_n 0, 1) := by decide +kernel
theorem dL_law_558 : decode cL_law 558 = .ok (.iload 4, 2) := by decide +kernel
theorem dL_law_560 : decode cL_law 560 = .ok (.iconst 3, 1) := by decide +kernel
theorem dL_law_561 : decode cL_law 561 = .ok (.iadd, 1) := by decide +kernel
theorem dL_law_562 : decode cL_law 562 = .ok (.iaload, 1) := by decide +kernel
theorem dL_law_563 : decode cL_law 563 = .ok (.aload_n 0, 1) := by decide +kernel
theorem dL_law_564 : decode cL_law 564 = .ok (.iload 4, 2) := by decide +kernel
theorem dL_law_566 : decode cL_law 566 = .ok (.iconst 4, 1) := by decide +kernel
theorem dL_law_567 : decode cL_law 567 = .ok (.iadd, 1) := by decide +kernel
theorem dL_law_568 : decode cL_law 568 = .ok (.iaload, 1) := by decide +kernel
theorem dL_law_569 : decode cL_law 569 = .ok (.aload_n 3, 1) := by decide +kernel
theorem dL_law_570 : decode cL_law 570 = .ok (.invokestatic 116, 3) := by decide +kernel
theorem dL_law_573 : decode cL_law 573 = .ok (.istore 5, 2) := by decide +kernel
theorem dL_law_575 : decode cL_law 575 = .ok (.aload_n 2, 1) := by decide +kernel
theorem dL_law_576 : decode cL_law 576 = .ok (.aload_n 0, 1) := by decide +kernel
theorem dL_law_577 : decode cL_law 577 = .ok (.iload 4, 2) := by decide +kernel
theorem dL_law_579 : decode cL_law 579 = .ok (.iconst 1, 1) := by decide +kernel
theorem dL_law_580 : decode cL_law 580 = .ok (.iadd, 1) := by decide +kernel
theorem dL_law_581 : decode cL_law 581 = .ok (.iaload, 1) := by decide +kernel
theorem dL_law_582 : decode cL_law 582 = .ok (.aload_n 0, 1) := by decide +kernel
theorem dL_law_583 : decode cL_law 583 = .ok (.iload 4, 2) := by decide +kernel
theorem dL_law_585 : decode cL_law 585 = .ok (.iconst 2, 1) := by decide +kernel
theorem dL_law_586 : decode cL_law 586 = .ok (.iadd, 1) := by decide +kernel
theorem dL_law_587 : decode cL_law 587 = .ok (.iaload, 1) := by decide +kernel
theorem dL_law_588 : decode cL_law 588 = .ok (.aload_n 0, 1) := by decide +kernel
theorem dL_law_589 : decode cL_law 589 = .ok (.iload 4, 2) := by decide +kernel
theorem dL_law_591 : decode cL_law 591 = .ok (.iconst 3, 1) := by decide +kernel
theorem dL_law_592 : decode cL_law 592 = .ok (.iadd, 1) := by decide +kernel
theorem dL_law_593 : decode cL_law 593 = .ok (.iaload, 1) := by decide +kernel
theorem dL_law_594 : decode cL_law 594 = .ok (.aload_n 0, 1) := by decide +kernel
theorem dL_law_595 : decode cL_law 595 = .ok (.iload 4, 2) := by decide +kernel
theorem dL_law_597 : decode cL_law 597 = .ok (.iconst 4, 1) := by decide +kernel
theorem dL_law_598 : decode cL_law 598 = .ok (.iadd, 1) := by decide +kernel
theorem dL_law_599 : decode cL_law 599 = .ok (.iaload, 1) := by decide +kernel
theorem dL_law_600 : decode cL_law 600 = .ok (.invokevirtual 119, 3) := by decide +kernel
theorem dL_law_603 : decode cL_law 603 = .ok (.istore 6, 2) := by decide +kernel
theorem dL_law_605 : decode cL_law 605 = .ok (.aload_n 2, 1) := by decide +kernel
theorem dL_law_606 : decode cL_law 606 = .ok (.invokevirtual 89, 3) := by decide +kernel
theorem dL_law_609 : decode cL_law 609 = .ok (.iload 5, 2) := by decide +kernel
theorem dL_law_611 : decode cL_law 611 = .ok (.if_icmp .eq 5, 3) := by decide +kernel
theorem dL_law_614 : decode cL_law 614 = .ok (.iconst 0, 1) := by decide +kernel
theorem dL_law_615 : decode cL_law 615 = .ok (.ireturn, 1) := by decide +kernel
theorem dL_law_616 : decode cL_law 616 = .ok (.iload 5, 2) := by decide +kernel
theorem dL_law_618 : decode cL_law 618 = .ok (.ifCond .ne 15, 3) := by decide +kernel
theorem dL_law_621 : decode cL_law 621 = .ok (.aload_n 3, 1) := by decide +kernel
theorem dL_law_622 : decode cL_law 622 = .ok (.iconst 0, 1) := by decide +kernel
theorem dL_law_623 : decode cL_law 623 = .ok (.laload, 1) := by decide +kernel
theorem dL_law_624 : decode cL_law 624 = .ok (.iload 6, 2) := by decide +kernel
theorem dL_law_626 : decode cL_law 626 = .ok (.i2l, 1) := by decide +kernel
theorem dL_law_627 : decode cL_law 627 = .ok (.lcmp, 1) := by decide +kernel
theorem dL_law_628 : decode cL_law 628 = .ok (.ifCond .eq 5, 3) := by decide +kernel
theorem dL_law_631 : decode cL_law 631 = .ok (.iconst 0, 1) := by decide +kernel
theorem dL_law_632 : decode cL_law 632 = .ok (.ireturn, 1) := by decide +kernel
theorem dL_law_633 : decode cL_law 633 = .ok (.goto 844, 3) := by decide +kernel
theorem dL_law_636 : decode cL_law 636 = .ok (.aload_n 1, 1) := by decide +kernel
theorem dL_law_637 : decode cL_law 637 = .ok (.aload_n 0, 1) := by decide +kernel
theorem dL_law_638 : decode cL_law 638 = .ok (.iload 4, 2) := by decide +kernel
theorem dL_law_640 : decode cL_law 640 = .ok (.iconst 1, 1) := by decide +kernel
theorem dL_law_641 : decode cL_law 641 = .ok (.iadd, 1) := by decide +kernel
theorem dL_law_642 : decode cL_law 642 = .ok (.iaload, 1) := by decide +kernel
theorem dL_law_643 : decode cL_law 643 = .ok (.aload_n 0, 1) := by decide +kernel
theorem dL_law_644 : decode cL_law 644 = .ok (.iload 4, 2) := by decide +kernel
theorem dL_law_646 : decode cL_law 646 = .ok (.iconst 2, 1) := by decide +kernel
theorem dL_law_647 : decode cL_law 647 = .ok (.iadd, 1) := by decide +kernel
theorem dL_law_648 : decode cL_law 648 = .ok (.iaload, 1) := by decide +kernel
theorem dL_law_649 : decode cL_law 649 = .ok (.aload_n 3, 1) := by decide +kernel
theorem dL_law_650 : decode cL_law 650 = .ok (.invokestatic 120, 3) := by decide +kernel
theorem dL_law_653 : decode cL_law 653 = .ok (.istore 5, 2) := by decide +kernel
theorem dL_law_655 : decode cL_law 655 = .ok (.aload_n 2, 1) := by decide +kernel
theorem dL_law_656 : decode cL_law 656 = .ok (.aload_n 0, 1) := by decide +kernel
theorem dL_law_657 : decode cL_law 657 = .ok (.iload 4, 2) := by decide +kernel
theorem dL_law_659 : decode cL_law 659 = .ok (.iconst 1, 1) := by decide +kernel
theorem dL_law_660 : decode cL_law 660 = .ok (.iadd, 1) := by decide +kernel
theorem dL_law_661 : decode cL_law 661 = .ok (.iaload, 1) := by decide +kernel
theorem dL_law_662 : decode cL_law 662 = .ok (.aload_n 0, 1) := by decide +kernel
theorem dL_law_663 : decode cL_law 663 = .ok (.iload 4, 2) := by decide +kernel
theorem dL_law_665 : decode cL_law 665 = .ok (.iconst 2, 1) := by decide +kernel
theorem dL_law_666 : decode cL_law 666 = .ok (.iadd, 1) := by decide +kernel
theorem dL_law_667 : decode cL_law 667 = .ok (.iaload, 1) := by decide +kernel
theorem dL_law_668 : decode cL_law 668 = .ok (.invokevirtual 123, 3) := by decide +kernel
theorem dL_law_671 : decode cL_law 671 = .ok (.istore 6, 2) := by decide +kernel
theorem dL_law_673 : decode cL_law 673 = .ok (.aload_n 2, 1) := by decide +kernel
theorem dL_law_674 : decode cL_law 674 = .ok (.invokevirtual 89, 3) := by decide +kernel
theorem dL_law_677 : decode cL_law 677 = .ok (.iload 5, 2) := by decide +kernel
theorem dL_law_679 : decode cL_law 679 = .ok (.if_icmp .eq 5, 3) := by decide +kernel
theorem dL_law_682 : decode cL_law 682 = .ok (.iconst 0, 1) := by decide +kernel
theorem dL_law_683 : decode cL_law 683 = .ok (.ireturn, 1) := by decide +kernel
theorem dL_law_684 : decode cL_law 684 = .ok (.iload 5, 2) := by decide +kernel
theorem dL_law_686 : decode cL_law 686 = .ok (.ifCond .ne 15, 3) := by decide +kernel
theorem dL_law_689 : decode cL_law 689 = .ok (.aload_n 3, 1) := by decide +kernel
theorem dL_law_690 : decode cL_law 690 = .ok (.iconst 0, 1) := by decide +kernel
theorem dL_law_691 : decode cL_law 691 = .ok (.laload, 1) := by decide +kernel
theorem dL_law_692 : decode cL_law 692 = .ok (.iload 6, 2) := by decide +kernel
theorem dL_law_694 : decode cL_law 694 = .ok (.i2l, 1) := by decide +kernel
theorem dL_law_695 : decode cL_law 695 = .ok (.lcmp, 1) := by decide +kernel
theorem dL_law_696 : decode cL_law 696 = .ok (.ifCond .eq 5, 3) := by decide +kernel
theorem dL_law_699 : decode cL_law 699 = .ok (.iconst 0, 1) := by decide +kernel
theorem dL_law_700 : decode cL_law 700 = .ok (.ireturn, 1) := by decide +kernel
theorem dL_law_701 : decode cL_law 701 = .ok (.goto 776, 3) := by decide +kernel
theorem dL_law_704 : decode cL_law 704 = .ok (.aload_n 1, 1) := by decide +kernel
theorem dL_law_705 : decode cL_law 705 = .ok (.aload_n 0, 1) := by decide +kernel
theorem dL_law_706 : decode cL_law 706 = .ok (.iload 4, 2) := by decide +kernel
theorem dL_law_708 : decode cL_law 708 = .ok (.iconst 1, 1) := by decide +kernel
theorem dL_law_709 : decode cL_law 709 = .ok (.iadd, 1) := by decide +kernel
theorem dL_law_710 : decode cL_law 710 = .ok (.iaload, 1) := by decide +kernel
theorem dL_law_711 : decode cL_law 711 = .ok (.aload_n 3, 1) := by decide +kernel
theorem dL_law_712 : decode cL_law 712 = .ok (.invokestatic 124, 3) := by decide +kernel
theorem dL_law_715 : decode cL_law 715 = .ok (.istore 5, 2) := by decide +kernel
theorem dL_law_717 : decode cL_law 717 = .ok (.aload_n 2, 1) := by decide +kernel
theorem dL_law_718 : decode cL_law 718 = .ok (.aload_n 0, 1) := by decide +kernel
theorem dL_law_719 : decode cL_law 719 = .ok (.iload 4, 2) := by decide +kernel
theorem dL_law_721 : decode cL_law 721 = .ok (.iconst 1, 1) := by decide +kernel
theorem dL_law_722 : decode cL_law 722 = .ok (.iadd, 1) := by decide +kernel
theorem dL_law_723 : decode cL_law 723 = .ok (.iaload, 1) := by decide +kernel
theorem dL_law_724 : decode cL_law 724 = .ok (.invokevirtual 126, 3) := by decide +kernel
theorem dL_law_727 : decode cL_law 727 = .ok (.istore 6, 2) := by decide +kernel
theorem dL_law_729 : decode cL_law 729 = .ok (.aload_n 2, 1) := by decide +kernel
theorem dL_law_730 : decode cL_law 730 = .ok (.invokevirtual 89, 3) := by decide +kernel
theorem dL_law_733 : decode cL_law 733 = .ok (.iload 5, 2) := by decide +kernel
theorem dL_law_735 : decode cL_law 735 = .ok (.if_icmp .eq 5, 3) := by decide +kernel
theorem dL_law_738 : decode cL_law 738 = .ok (.iconst 0, 1) := by decide +kernel
theorem dL_law_739 : decode cL_law 739 = .ok (.ireturn, 1) := by decide +kernel
theorem dL_law_740 : decode cL_law 740 = .ok (.iload 5, 2) := by decide +kernel
theorem dL_law_742 : decode cL_law 742 = .ok (.ifCond .ne 22, 3) := by decide +kernel
theorem dL_law_745 : decode cL_law 745 = .ok (.aload_n 3, 1) := by decide +kernel
theorem dL_law_746 : decode cL_law 746 = .ok (.iconst 0, 1) := by decide +kernel
theorem dL_law_747 : decode cL_law 747 = .ok (.laload, 1) := by decide +kernel
theorem dL_law_748 : decode cL_law 748 = .ok (.iload 6, 2) := by decide +kernel
theorem dL_law_750 : decode cL_law 750 = .ok (.ifCond .eq 7, 3) := by decide +kernel
theorem dL_law_753 : decode cL_law 753 = .ok (.lconst 1, 1) := by decide +kernel
theorem dL_law_754 : decode cL_law 754 = .ok (.goto 4, 3) := by decide +kernel
theorem dL_law_757 : decode cL_law 757 = .ok (.lconst 0, 1) := by decide +kernel
theorem dL_law_758 : decode cL_law 758 = .ok (.lcmp, 1) := by decide +kernel
theorem dL_law_759 : decode cL_law 759 = .ok (.ifCond .eq 5, 3) := by decide +kernel
theorem dL_law_762 : decode cL_law 762 = .ok (.iconst 0, 1) := by decide +kernel
theorem dL_law_763 : decode cL_law 763 = .ok (.ireturn, 1) := by decide +kernel
theorem dL_law_764 : decode cL_law 764 = .ok (.goto 713, 3) := by decide +kernel
theorem dL_law_767 : decode cL_law 767 = .ok (.aload_n 1, 1) := by decide +kernel
theorem dL_law_768 : decode cL_law 768 = .ok (.invokevirtual 127, 3) := by decide +kernel
theorem dL_law_771 : decode cL_law 771 = .ok (.aload_n 2, 1) := by decide +kernel
theorem dL_law_772 : decode cL_law 772 = .ok (.invokevirtual 130, 3) := by decide +kernel
theorem dL_law_775 : decode cL_law 775 = .ok (.if_icmp .eq 702, 3) := by decide +kernel
theorem dL_law_778 : decode cL_law 778 = .ok (.iconst 0, 1) := by decide +kernel
theorem dL_law_779 : decode cL_law 779 = .ok (.ireturn, 1) := by decide +kernel
theorem dL_law_780 : decode cL_law 780 = .ok (.aload_n 1, 1) := by decide +kernel
theorem dL_law_781 : decode cL_law 781 = .ok (.aload_n 0, 1) := by decide +kernel
theorem dL_law_782 : decode cL_law 782 = .ok (.iload 4, 2) := by decide +kernel
theorem dL_law_784 : decode cL_law 784 = .ok (.iconst 1, 1) := by decide +kernel
theorem dL_law_785 : decode cL_law 785 = .ok (.iadd, 1) := by decide +kernel
theorem dL_law_786 : decode cL_law 786 = .ok (.iaload, 1) := by decide +kernel
theorem dL_law_787 : decode cL_law 787 = .ok (.aload_n 0, 1) := by decide +kernel
theorem dL_law_788 : decode cL_law 788 = .ok (.iload 4, 2) := by decide +kernel
theorem dL_law_790 : decode cL_law 790 = .ok (.iconst 2, 1) := by decide +kernel
theorem dL_law_791 : decode cL_law 791 = .ok (.iadd, 1) := by decide +kernel
theorem dL_law_792 : decode cL_law 792 = .ok (.iaload, 1) := by decide +kernel
theorem dL_law_793 : decode cL_law 793 = .ok (.aload_n 3, 1) := by decide +kernel
theorem dL_law_794 : decode cL_law 794 = .ok (.invokestatic 131, 3) := by decide +kernel
theorem dL_law_797 : decode cL_law 797 = .ok (.istore 5, 2) := by decide +kernel
theorem dL_law_799 : decode cL_law 799 = .ok (.aload_n 2, 1) := by decide +kernel
theorem dL_law_800 : decode cL_law 800 = .ok (.aload_n 0, 1) := by decide +kernel
theorem dL_law_801 : decode cL_law 801 = .ok (.iload 4, 2) := by decide +kernel
theorem dL_law_803 : decode cL_law 803 = .ok (.iconst 1, 1) := by decide +kernel
theorem dL_law_804 : decode cL_law 804 = .ok (.iadd, 1) := by decide +kernel
theorem dL_law_805 : decode cL_law 805 = .ok (.iaload, 1) := by decide +kernel
theorem dL_law_806 : decode cL_law 806 = .ok (.aload_n 0, 1) := by decide +kernel
theorem dL_law_807 : decode cL_law 807 = .ok (.iload 4, 2) := by decide +kernel
theorem dL_law_809 : decode cL_law 809 = .ok (.iconst 2, 1) := by decide +kernel
theorem dL_law_810 : decode cL_law 810 = .ok (.iadd, 1) := by decide +kernel
theorem dL_law_811 : decode cL_law 811 = .ok (.iaload, 1) := by decide +kernel
theorem dL_law_812 : decode cL_law 812 = .ok (.invokevirtual 133, 3) := by decide +kernel
theorem dL_law_815 : decode cL_law 815 = .ok (.istore 6, 2) := by decide +kernel
theorem dL_law_817 : decode cL_law 817 = .ok (.aload_n 2, 1) := by decide +kernel
theorem dL_law_818 : decode cL_law 818 = .ok (.invokevirtual 89, 3) := by decide +kernel
theorem dL_law_821 : decode cL_law 821 = .ok (.iload 5, 2) := by decide +kernel
theorem dL_law_823 : decode cL_law 823 = .ok (.if_icmp .eq 5, 3) := by decide +kernel
theorem dL_law_826 : decode cL_law 826 = .ok (.iconst 0, 1) := by decide +kernel
theorem dL_law_827 : decode cL_law 827 = .ok (.ireturn, 1) := by decide +kernel
theorem dL_law_828 : decode cL_law 828 = .ok (.iload 5, 2) := by decide +kernel
theorem dL_law_830 : decode cL_law 830 = .ok (.ifCond .ne 15, 3) := by decide +kernel
theorem dL_law_833 : decode cL_law 833 = .ok (.aload_n 3, 1) := by decide +kernel
theorem dL_law_834 : decode cL_law 834 = .ok (.iconst 0, 1) := by decide +kernel
theorem dL_law_835 : decode cL_law 835 = .ok (.laload, 1) := by decide +kernel
theorem dL_law_836 : decode cL_law 836 = .ok (.iload 6, 2) := by decide +kernel
theorem dL_law_838 : decode cL_law 838 = .ok (.i2l, 1) := by decide +kernel
theorem dL_law_839 : decode cL_law 839 = .ok (.lcmp, 1) := by decide +kernel
theorem dL_law_840 : decode cL_law 840 = .ok (.ifCond .eq 5, 3) := by decide +kernel
theorem dL_law_843 : decode cL_law 843 = .ok (.iconst 0, 1) := by decide +kernel
theorem dL_law_844 : decode cL_law 844 = .ok (.ireturn, 1) := by decide +kernel
theorem dL_law_845 : decode cL_law 845 = .ok (.goto 632, 3) := by decide +kernel
theorem dL_law_848 : decode cL_law 848 = .ok (.aload_n 1, 1) := by decide +kernel
theorem dL_law_849 : decode cL_law 849 = .ok (.aload_n 0, 1) := by decide +kernel
theorem dL_law_850 : decode cL_law 850 = .ok (.iload 4, 2) := by decide +kernel
theorem dL_law_852 : decode cL_law 852 = .ok (.iconst 1, 1) := by decide +kernel
theorem dL_law_853 : decode cL_law 853 = .ok (.iadd, 1) := by decide +kernel
theorem dL_law_854 : decode cL_law 854 = .ok (.iaload, 1) := by decide +kernel
theorem dL_law_855 : decode cL_law 855 = .ok (.aload_n 0, 1) := by decide +kernel
theorem dL_law_856 : decode cL_law 856 = .ok (.iload 4, 2) := by decide +kernel
theorem dL_law_858 : decode cL_law 858 = .ok (.iconst 2, 1) := by decide +kernel
theorem dL_law_859 : decode cL_law 859 = .ok (.iadd, 1) := by decide +kernel
theorem dL_law_860 : decode cL_law 860 = .ok (.iaload, 1) := by decide +kernel
theorem dL_law_861 : decode cL_law 861 = .ok (.aload_n 3, 1) := by decide +kernel
theorem dL_law_862 : decode cL_law 862 = .ok (.invokestatic 134, 3) := by decide +kernel
theorem dL_law_865 : decode cL_law 865 = .ok (.istore 5, 2) := by decide +kernel
theorem dL_law_867 : decode cL_law 867 = .ok (.aload_n 2, 1) := by decide +kernel
theorem dL_law_868 : decode cL_law 868 = .ok (.aload_n 0, 1) := by decide +kernel
theorem dL_law_869 : decode cL_law 869 = .ok (.iload 4, 2) := by decide +kernel
theorem dL_law_871 : decode cL_law 871 = .ok (.iconst 1, 1) := by decide +kernel
theorem dL_law_872 : decode cL_law 872 = .ok (.iadd, 1) := by decide +kernel
theorem dL_law_873 : decode cL_law 873 = .ok (.iaload, 1) := by decide +kernel
theorem dL_law_874 : decode cL_law 874 = .ok (.aload_n 0, 1) := by decide +kernel
theorem dL_law_875 : decode cL_law 875 = .ok (.iload 4, 2) := by decide +kernel
theorem dL_law_877 : decode cL_law 877 = .ok (.iconst 2, 1) := by decide +kernel
theorem dL_law_878 : decode cL_law 878 = .ok (.iadd, 1) := by decide +kernel
theorem dL_law_879 : decode cL_law 879 = .ok (.iaload, 1) := by decide +kernel
theorem dL_law_880 : decode cL_law 880 = .ok (.invokevirtual 136, 3) := by decide +kernel
theorem dL_law_883 : decode cL_law 883 = .ok (.istore 6, 2) := by decide +kernel
theorem dL_law_885 : decode cL_law 885 = .ok (.aload_n 2, 1) := by decide +kernel
theorem dL_law_886 : decode cL_law 886 = .ok (.invokevirtual 89, 3) := by decide +kernel
theorem dL_law_889 : decode cL_law 889 = .ok (.iload 5, 2) := by decide +kernel
theorem dL_law_891 : decode cL_law 891 = .ok (.if_icmp .eq 5, 3) := by decide +kernel
theorem dL_law_894 : decode cL_law 894 = .ok (.iconst 0, 1) := by decide +kernel
theorem dL_law_895 : decode cL_law 895 = .ok (.ireturn, 1) := by decide +kernel
theorem dL_law_896 : decode cL_law 896 = .ok (.iload 5, 2) := by decide +kernel
theorem dL_law_898 : decode cL_law 898 = .ok (.ifCond .ne 15, 3) := by decide +kernel
theorem dL_law_901 : decode cL_law 901 = .ok (.aload_n 3, 1) := by decide +kernel
theorem dL_law_902 : decode cL_law 902 = .ok (.iconst 0, 1) := by decide +kernel
theorem dL_law_903 : decode cL_law 903 = .ok (.laload, 1) := by decide +kernel
theorem dL_law_904 : decode cL_law 904 = .ok (.iload 6, 2) := by decide +kernel
theorem dL_law_906 : decode cL_law 906 = .ok (.i2l, 1) := by decide +kernel
theorem dL_law_907 : decode cL_law 907 = .ok (.lcmp, 1) := by decide +kernel
theorem dL_law_908 : decode cL_law 908 = .ok (.ifCond .eq 5, 3) := by decide +kernel
theorem dL_law_911 : decode cL_law 911 = .ok (.iconst 0, 1) := by decide +kernel
theorem dL_law_912 : decode cL_law 912 = .ok (.ireturn, 1) := by decide +kernel
theorem dL_law_913 : decode cL_law 913 = .ok (.goto 564, 3) := by decide +kernel
theorem dL_law_916 : decode cL_law 916 = .ok (.aload_n 1, 1) := by decide +kernel
theorem dL_law_917 : decode cL_law 917 = .ok (.aload_n 0, 1) := by decide +kernel
theorem dL_law_918 : decode cL_law 918 = .ok (.iload 4, 2) := by decide +kernel
theorem dL_law_920 : decode cL_law 920 = .ok (.iconst 1, 1) := by decide +kernel
theorem dL_law_921 : decode cL_law 921 = .ok (.iadd, 1) := by decide +kernel
theorem dL_law_922 : decode cL_law 922 = .ok (.iaload, 1) := by decide +kernel
theorem dL_law_923 : decode cL_law 923 = .ok (.aload_n 3, 1) := by decide +kernel
theorem dL_law_924 : decode cL_law 924 = .ok (.invokestatic 137, 3) := by decide +kernel
theorem dL_law_927 : decode cL_law 927 = .ok (.istore 5, 2) := by decide +kernel
theorem dL_law_929 : decode cL_law 929 = .ok (.aload_n 2, 1) := by decide +kernel
theorem dL_law_930 : decode cL_law 930 = .ok (.aload_n 0, 1) := by decide +kernel
theorem dL_law_931 : decode cL_law 931 = .ok (.iload 4, 2) := by decide +kernel
theorem dL_law_933 : decode cL_law 933 = .ok (.iconst 1, 1) := by decide +kernel
theorem dL_law_934 : decode cL_law 934 = .ok (.iadd, 1) := by decide +kernel
theorem dL_law_935 : decode cL_law 935 = .ok (.iaload, 1) := by decide +kernel
theorem dL_law_936 : decode cL_law 936 = .ok (.invokevirtual 139, 3) := by decide +kernel
theorem dL_law_939 : decode cL_law 939 = .ok (.istore 6, 2) := by decide +kernel
theorem dL_law_941 : decode cL_law 941 = .ok (.aload_n 2, 1) := by decide +kernel
theorem dL_law_942 : decode cL_law 942 = .ok (.invokevirtual 89, 3) := by decide +kernel
theorem dL_law_945 : decode cL_law 945 = .ok (.iload 5, 2) := by decide +kernel
theorem dL_law_947 : decode cL_law 947 = .ok (.if_icmp .eq 5, 3) := by decide +kernel
theorem dL_law_950 : decode cL_law 950 = .ok (.iconst 0, 1) := by decide +kernel
theorem dL_law_951 : decode cL_law 951 = .ok (.ireturn, 1) := by decide +kernel
theorem dL_law_952 : decode cL_law 952 = .ok (.iload 5, 2) := by decide +kernel
theorem dL_law_954 : decode cL_law 954 = .ok (.ifCond .ne 15, 3) := by decide +kernel
theorem dL_law_957 : decode cL_law 957 = .ok (.aload_n 3, 1) := by decide +kernel
theorem dL_law_958 : decode cL_law 958 = .ok (.iconst 0, 1) := by decide +kernel
theorem dL_law_959 : decode cL_law 959 = .ok (.laload, 1) := by decide +kernel
theorem dL_law_960 : decode cL_law 960 = .ok (.iload 6, 2) := by decide +kernel
theorem dL_law_962 : decode cL_law 962 = .ok (.i2l, 1) := by decide +kernel
theorem dL_law_963 : decode cL_law 963 = .ok (.lcmp, 1) := by decide +kernel
theorem dL_law_964 : decode cL_law 964 = .ok (.ifCond .eq 5, 3) := by decide +kernel
theorem dL_law_967 : decode cL_law 967 = .ok (.iconst 0, 1) := by decide +kernel
theorem dL_law_968 : decode cL_law 968 = .ok (.ireturn, 1) := by decide +kernel
theorem dL_law_969 : decode cL_law 969 = .ok (.goto 508, 3) := by decide +kernel
theorem dL_law_972 : decode cL_law 972 = .ok (.aload_n 1, 1) := by decide +kernel
theorem dL_law_973 : decode cL_law 973 = .ok (.aload_n 0, 1) := by decide +kernel
theorem dL_law_974 : decode cL_law 974 = .ok (.iload 4, 2) := by decide +kernel
theorem dL_law_976 : decode cL_law 976 = .ok (.iconst 1, 1) := by decide +kernel
theorem dL_law_977 : decode cL_law 977 = .ok (.iadd, 1) := by decide +kernel
theorem dL_law_978 : decode cL_law 978 = .ok (.iaload, 1) := by decide +kernel
theorem dL_law_979 : decode cL_law 979 = .ok (.aload_n 3, 1) := by decide +kernel
theorem dL_law_980 : decode cL_law 980 = .ok (.invokestatic 140, 3) := by decide +kernel
theorem dL_law_983 : decode cL_law 983 = .ok (.istore 5, 2) := by decide +kernel
theorem dL_law_985 : decode cL_law 985 = .ok (.aload_n 2, 1) := by decide +kernel
theorem dL_law_986 : decode cL_law 986 = .ok (.aload_n 0, 1) := by decide +kernel
theorem dL_law_987 : decode cL_law 987 = .ok (.iload 4, 2) := by decide +kernel
theorem dL_law_989 : decode cL_law 989 = .ok (.iconst 1, 1) := by decide +kernel
theorem dL_law_990 : decode cL_law 990 = .ok (.iadd, 1) := by decide +kernel
theorem dL_law_991 : decode cL_law 991 = .ok (.iaload, 1) := by decide +kernel
theorem dL_law_992 : decode cL_law 992 = .ok (.invokevirtual 142, 3) := by decide +kernel
theorem dL_law_995 : decode cL_law 995 = .ok (.istore 6, 2) := by decide +kernel
theorem dL_law_997 : decode cL_law 997 = .ok (.aload_n 2, 1) := by decide +kernel
theorem dL_law_998 : decode cL_law 998 = .ok (.invokevirtual 89, 3) := by decide +kernel
theorem dL_law_1001 : decode cL_law 1001 = .ok (.iload 5, 2) := by decide +kernel
theorem dL_law_1003 : decode cL_law 1003 = .ok (.if_icmp .eq 5, 3) := by decide +kernel
theorem dL_law_1006 : decode cL_law 1006 = .ok (.iconst 0, 1) := by decide +kernel
theorem dL_law_1007 : decode cL_law 1007 = .ok (.ireturn, 1) := by decide +kernel
theorem dL_law_1008 : decode cL_law 1008 = .ok (.iload 5, 2) := by decide +kernel
theorem dL_law_1010 : decode cL_law 1010 = .ok (.ifCond .ne 15, 3) := by decide +kernel
theorem dL_law_1013 : decode cL_law 1013 = .ok (.aload_n 3, 1) := by decide +kernel
theorem dL_law_1014 : decode cL_law 1014 = .ok (.iconst 0, 1) := by decide +kernel
theorem dL_law_1015 : decode cL_law 1015 = .ok (.laload, 1) := by decide +kernel
theorem dL_law_1016 : decode cL_law 1016 = .ok (.iload 6, 2) := by decide +kernel
theorem dL_law_1018 : decode cL_law 1018 = .ok (.i2l, 1) := by decide +kernel
theorem dL_law_1019 : decode cL_law 1019 = .ok (.lcmp, 1) := by decide +kernel
theorem dL_law_1020 : decode cL_law 1020 = .ok (.ifCond .eq 5, 3) := by decide +kernel
theorem dL_law_1023 : decode cL_law 1023 = .ok (.iconst 0, 1) := by decide +kernel
theorem dL_law_1024 : decode cL_law 1024 = .ok (.ireturn, 1) := by decide +kernel
theorem dL_law_1025 : decode cL_law 1025 = .ok (.goto 452, 3) := by decide +kernel
theorem dL_law_1028 : decode cL_law 1028 = .ok (.aload_n 1, 1) := by decide +kernel
theorem dL_law_1029 : decode cL_law 1029 = .ok (.aload_n 0, 1) := by decide +kernel
theorem dL_law_1030 : decode cL_law 1030 = .ok (.iload 4, 2) := by decide +kernel
theorem dL_law_1032 : decode cL_law 1032 = .ok (.iconst 1, 1) := by decide +kernel
theorem dL_law_1033 : decode cL_law 1033 = .ok (.iadd, 1) := by decide +kernel
theorem dL_law_1034 : decode cL_law 1034 = .ok (.iaload, 1) := by decide +kernel
theorem dL_law_1035 : decode cL_law 1035 = .ok (.aload_n 0, 1) := by decide +kernel
theorem dL_law_1036 : decode cL_law 1036 = .ok (.iload 4, 2) := by decide +kernel
theorem dL_law_1038 : decode cL_law 1038 = .ok (.iconst 2, 1) := by decide +kernel
theorem dL_law_1039 : decode cL_law 1039 = .ok (.iadd, 1) := by decide +kernel
theorem dL_law_1040 : decode cL_law 1040 = .ok (.iaload, 1) := by decide +kernel
theorem dL_law_1041 : decode cL_law 1041 = .ok (.aload_n 3, 1) := by decide +kernel
theorem dL_law_1042 : decode cL_law 1042 = .ok (.invokestatic 143, 3) := by decide +kernel
theorem dL_law_1045 : decode cL_law 1045 = .ok (.istore 5, 2) := by decide +kernel
theorem dL_law_1047 : decode cL_law 1047 = .ok (.aload_n 2, 1) := by decide +kernel
theorem dL_law_1048 : decode cL_law 1048 = .ok (.aload_n 0, 1) := by decide +kernel
theorem dL_law_1049 : decode cL_law 1049 = .ok (.iload 4, 2) := by decide +kernel
theorem dL_law_1051 : decode cL_law 1051 = .ok (.iconst 1, 1) := by decide +kernel
theorem dL_law_1052 : decode cL_law 1052 = .ok (.iadd, 1) := by decide +kernel
theorem dL_law_1053 : decode cL_law 1053 = .ok (.iaload, 1) := by decide +kernel
theorem dL_law_1054 : decode cL_law 1054 = .ok (.aload_n 0, 1) := by decide +kernel
theorem dL_law_1055 : decode cL_law 1055 = .ok (.iload 4, 2) := by decide +kernel
theorem dL_law_1057 : decode cL_law 1057 = .ok (.iconst 2, 1) := by decide +kernel
theorem dL_law_1058 : decode cL_law 1058 = .ok (.iadd, 1) := by decide +kernel
theorem dL_law_1059 : decode cL_law 1059 = .ok (.iaload, 1) := by decide +kernel
theorem dL_law_1060 : decode cL_law 1060 = .ok (.invokevirtual 145, 3) := by decide +kernel
theorem dL_law_1063 : decode cL_law 1063 = .ok (.istore 6, 2) := by decide +kernel
theorem dL_law_1065 : decode cL_law 1065 = .ok (.aload_n 2, 1) := by decide +kernel
theorem dL_law_1066 : decode cL_law 1066 = .ok (.invokevirtual 89, 3) := by decide +kernel
theorem dL_law_1069 : decode cL_law 1069 = .ok (.iload 5, 2) := by decide +kernel
theorem dL_law_1071 : decode cL_law 1071 = .ok (.if_icmp .eq 5, 3) := by decide +kernel
theorem dL_law_1074 : decode cL_law 1074 = .ok (.iconst 0, 1) := by decide +kernel
theorem dL_law_1075 : decode cL_law 1075 = .ok (.ireturn, 1) := by decide +kernel
theorem dL_law_1076 : decode cL_law 1076 = .ok (.iload 5, 2) := by decide +kernel
theorem dL_law_1078 : decode cL_law 1078 = .ok (.ifCond .ne 15, 3) := by decide +kernel
theorem dL_law_1081 : decode cL_law 1081 = .ok (.aload_n 3, 1) := by decide +kernel
theorem dL_law_1082 : decode cL_law 1082 = .ok (.iconst 0, 1) := by decide +kernel
theorem dL_law_1083 : decode cL_law 1083 = .ok (.laload, 1) := by decide +kernel
theorem dL_law_1084 : decode cL_law 1084 = .ok (.iload 6, 2) := by decide +kernel
theorem dL_law_1086 : decode cL_law 1086 = .ok (.i2l, 1) := by decide +kernel
theorem dL_law_1087 : decode cL_law 1087 = .ok (.lcmp, 1) := by decide +kernel
theorem dL_law_1088 : decode cL_law 1088 = .ok (.ifCond .eq 5, 3) := by decide +kernel
theorem dL_law_1091 : decode cL_law 1091 = .ok (.iconst 0, 1) := by decide +kernel
theorem dL_law_1092 : decode cL_law 1092 = .ok (.ireturn, 1) := by decide +kernel
theorem dL_law_1093 : decode cL_law 1093 = .ok (.goto 384, 3) := by decide +kernel
theorem dL_law_1096 : decode cL_law 1096 = .ok (.aload_n 1, 1) := by decide +kernel
theorem dL_law_1097 : decode cL_law 1097 = .ok (.aload_n 0, 1) := by decide +kernel
theorem dL_law_1098 : decode cL_law 1098 = .ok (.iload 4, 2) := by decide +kernel
theorem dL_law_1100 : decode cL_law 1100 = .ok (.iconst 1, 1) := by decide +kernel
theorem dL_law_1101 : decode cL_law 1101 = .ok (.iadd, 1) := by decide +kernel
theorem dL_law_1102 : decode cL_law 1102 = .ok (.iaload, 1) := by decide +kernel
theorem dL_law_1103 : decode cL_law 1103 = .ok (.aload_n 0, 1) := by decide +kernel
theorem dL_law_1104 : decode cL_law 1104 = .ok (.iload 4, 2) := by decide +kernel
theorem dL_law_1106 : decode cL_law 1106 = .ok (.iconst 2, 1) := by decide +kernel
theorem dL_law_1107 : decode cL_law 1107 = .ok (.iadd, 1) := by decide +kernel
theorem dL_law_1108 : decode cL_law 1108 = .ok (.iaload, 1) := by decide +kernel
theorem dL_law_1109 : decode cL_law 1109 = .ok (.aload_n 3, 1) := by decide +kernel
theorem dL_law_1110 : decode cL_law 1110 = .ok (.invokestatic 146, 3) := by decide +kernel
theorem dL_law_1113 : decode cL_law 1113 = .ok (.istore 5, 2) := by decide +kernel
theorem dL_law_1115 : decode cL_law 1115 = .ok (.aload_n 2, 1) := by decide +kernel
theorem dL_law_1116 : decode cL_law 1116 = .ok (.aload_n 0, 1) := by decide +kernel
theorem dL_law_1117 : decode cL_law 1117 = .ok (.iload 4, 2) := by decide +kernel
theorem dL_law_1119 : decode cL_law 1119 = .ok (.iconst 1, 1) := by decide +kernel
theorem dL_law_1120 : decode cL_law 1120 = .ok (.iadd, 1) := by decide +kernel
theorem dL_law_1121 : decode cL_law 1121 = .ok (.iaload, 1) := by decide +kernel
theorem dL_law_1122 : decode cL_law 1122 = .ok (.aload_n 0, 1) := by decide +kernel
theorem dL_law_1123 : decode cL_law 1123 = .ok (.iload 4, 2) := by decide +kernel
theorem dL_law_1125 : decode cL_law 1125 = .ok (.iconst 2, 1) := by decide +kernel
theorem dL_law_1126 : decode cL_law 1126 = .ok (.iadd, 1) := by decide +kernel
theorem dL_law_1127 : decode cL_law 1127 = .ok (.iaload, 1) := by decide +kernel
theorem dL_law_1128 : decode cL_law 1128 = .ok (.invokevirtual 148, 3) := by decide +kernel
theorem dL_law_1131 : decode cL_law 1131 = .ok (.istore 6, 2) := by decide +kernel
theorem dL_law_1133 : decode cL_law 1133 = .ok (.aload_n 2, 1) := by decide +kernel
theorem dL_law_1134 : decode cL_law 1134 = .ok (.invokevirtual 89, 3) := by decide +kernel
theorem dL_law_1137 : decode cL_law 1137 = .ok (.iload 5, 2) := by decide +kernel
theorem dL_law_1139 : decode cL_law 1139 = .ok (.if_icmp .eq 5, 3) := by decide +kernel
theorem dL_law_1142 : decode cL_law 1142 = .ok (.iconst 0, 1) := by decide +kernel
theorem dL_law_1143 : decode cL_law 1143 = .ok (.ireturn, 1) := by decide +kernel
theorem dL_law_1144 : decode cL_law 1144 = .ok (.iload 5, 2) := by decide +kernel
theorem dL_law_1146 : decode cL_law 1146 = .ok (.ifCond .ne 15, 3) := by decide +kernel
theorem dL_law_1149 : decode cL_law 1149 = .ok (.aload_n 3, 1) := by decide +kernel
theorem dL_law_1150 : decode cL_law 1150 = .ok (.iconst 0, 1) := by decide +kernel
theorem dL_law_1151 : decode cL_law 1151 = .ok (.laload, 1) := by decide +kernel
theorem dL_law_1152 : decode cL_law 1152 = .ok (.iload 6, 2) := by decide +kernel
theorem dL_law_1154 : decode cL_law 1154 = .ok (.i2l, 1) := by decide +kernel
theorem dL_law_1155 : decode cL_law 1155 = .ok (.lcmp, 1) := by decide +kernel
theorem dL_law_1156 : decode cL_law 1156 = .ok (.ifCond .eq 5, 3) := by decide +kernel
theorem dL_law_1159 : decode cL_law 1159 = .ok (.iconst 0, 1) := by decide +kernel
theorem dL_law_1160 : decode cL_law 1160 = .ok (.ireturn, 1) := by decide +kernel
theorem dL_law_1161 : decode cL_law 1161 = .ok (.goto 316, 3) := by decide +kernel
theorem dL_law_1164 : decode cL_law 1164 = .ok (.aload_n 1, 1) := by decide +kernel
theorem dL_law_1165 : decode cL_law 1165 = .ok (.aload_n 0, 1) := by decide +kernel
theorem dL_law_1166 : decode cL_law 1166 = .ok (.iload 4, 2) := by decide +kernel
theorem dL_law_1168 : decode cL_law 1168 = .ok (.iconst 1, 1) := by decide +kernel
theorem dL_law_1169 : decode cL_law 1169 = .ok (.iadd, 1) := by decide +kernel
theorem dL_law_1170 : decode cL_law 1170 = .ok (.iaload, 1) := by decide +kernel
theorem dL_law_1171 : decode cL_law 1171 = .ok (.aload_n 0, 1) := by decide +kernel
theorem dL_law_1172 : decode cL_law 1172 = .ok (.iload 4, 2) := by decide +kernel
theorem dL_law_1174 : decode cL_law 1174 = .ok (.iconst 2, 1) := by decide +kernel
theorem dL_law_1175 : decode cL_law 1175 = .ok (.iadd, 1) := by decide +kernel
theorem dL_law_1176 : decode cL_law 1176 = .ok (.iaload, 1) := by decide +kernel
theorem dL_law_1177 : decode cL_law 1177 = .ok (.aload_n 3, 1) := by decide +kernel
theorem dL_law_1178 : decode cL_law 1178 = .ok (.invokestatic 149, 3) := by decide +kernel
theorem dL_law_1181 : decode cL_law 1181 = .ok (.istore 5, 2) := by decide +kernel
theorem dL_law_1183 : decode cL_law 1183 = .ok (.aload_n 2, 1) := by decide +kernel
theorem dL_law_1184 : decode cL_law 1184 = .ok (.aload_n 0, 1) := by decide +kernel
theorem dL_law_1185 : decode cL_law 1185 = .ok (.iload 4, 2) := by decide +kernel
theorem dL_law_1187 : decode cL_law 1187 = .ok (.iconst 1, 1) := by decide +kernel
theorem dL_law_1188 : decode cL_law 1188 = .ok (.iadd, 1) := by decide +kernel
theorem dL_law_1189 : decode cL_law 1189 = .ok (.iaload, 1) := by decide +kernel
theorem dL_law_1190 : decode cL_law 1190 = .ok (.aload_n 0, 1) := by decide +kernel
theorem dL_law_1191 : decode cL_law 1191 = .ok (.iload 4, 2) := by decide +kernel
theorem dL_law_1193 : decode cL_law 1193 = .ok (.iconst 2, 1) := by decide +kernel
theorem dL_law_1194 : decode cL_law 1194 = .ok (.iadd, 1) := by decide +kernel
theorem dL_law_1195 : decode cL_law 1195 = .ok (.iaload, 1) := by decide +kernel
theorem dL_law_1196 : decode cL_law 1196 = .ok (.invokevirtual 151, 3) := by decide +kernel
theorem dL_law_1199 : decode cL_law 1199 = .ok (.istore 6, 2) := by decide +kernel
theorem dL_law_1201 : decode cL_law 1201 = .ok (.aload_n 2, 1) := by decide +kernel
theorem dL_law_1202 : decode cL_law 1202 = .ok (.invokevirtual 89, 3) := by decide +kernel
theorem dL_law_1205 : decode cL_law 1205 = .ok (.iload 5, 2) := by decide +kernel
theorem dL_law_1207 : decode cL_law 1207 = .ok (.if_icmp .eq 5, 3) := by decide +kernel
theorem dL_law_1210 : decode cL_law 1210 = .ok (.iconst 0, 1) := by decide +kernel
theorem dL_law_1211 : decode cL_law 1211 = .ok (.ireturn, 1) := by decide +kernel
theorem dL_law_1212 : decode cL_law 1212 = .ok (.iload 5, 2) := by decide +kernel
theorem dL_law_1214 : decode cL_law 1214 = .ok (.ifCond .ne 15, 3) := by decide +kernel
theorem dL_law_1217 : decode cL_law 1217 = .ok (.aload_n 3, 1) := by decide +kernel
theorem dL_law_1218 : decode cL_law 1218 = .ok (.iconst 0, 1) := by decide +kernel
theorem dL_law_1219 : decode cL_law 1219 = .ok (.laload, 1) := by decide +kernel
theorem dL_law_1220 : decode cL_law 1220 = .ok (.iload 6, 2) := by decide +kernel
theorem dL_law_1222 : decode cL_law 1222 = .ok (.i2l, 1) := by decide +kernel
theorem dL_law_1223 : decode cL_law 1223 = .ok (.lcmp, 1) := by decide +kernel
theorem dL_law_1224 : decode cL_law 1224 = .ok (.ifCond .eq 5, 3) := by decide +kernel
theorem dL_law_1227 : decode cL_law 1227 = .ok (.iconst 0, 1) := by decide +kernel
theorem dL_law_1228 : decode cL_law 1228 = .ok (.ireturn, 1) := by decide +kernel
theorem dL_law_1229 : decode cL_law 1229 = .ok (.goto 248, 3) := by decide +kernel
theorem dL_law_1232 : decode cL_law 1232 = .ok (.aload_n 1, 1) := by decide +kernel
theorem dL_law_1233 : decode cL_law 1233 = .ok (.aload_n 0, 1) := by decide +kernel
theorem dL_law_1234 : decode cL_law 1234 = .ok (.iload 4, 2) := by decide +kernel
theorem dL_law_1236 : decode cL_law 1236 = .ok (.iconst 1, 1) := by decide +kernel
theorem dL_law_1237 : decode cL_law 1237 = .ok (.iadd, 1) := by decide +kernel
theorem dL_law_1238 : decode cL_law 1238 = .ok (.iaload, 1) := by decide +kernel
theorem dL_law_1239 : decode cL_law 1239 = .ok (.aload_n 0, 1) := by decide +kernel
theorem dL_law_1240 : decode cL_law 1240 = .ok (.iload 4, 2) := by decide +kernel
theorem dL_law_1242 : decode cL_law 1242 = .ok (.iconst 2, 1) := by decide +kernel
theorem dL_law_1243 : decode cL_law 1243 = .ok (.iadd, 1) := by decide +kernel
theorem dL_law_1244 : decode cL_law 1244 = .ok (.iaload, 1) := by decide +kernel
theorem dL_law_1245 : decode cL_law 1245 = .ok (.aload_n 3, 1) := by decide +kernel
theorem dL_law_1246 : decode cL_law 1246 = .ok (.invokestatic 152, 3) := by decide +kernel
theorem dL_law_1249 : decode cL_law 1249 = .ok (.istore 5, 2) := by decide +kernel
theorem dL_law_1251 : decode cL_law 1251 = .ok (.aload_n 2, 1) := by decide +kernel
theorem dL_law_1252 : decode cL_law 1252 = .ok (.aload_n 0, 1) := by decide +kernel
theorem dL_law_1253 : decode cL_law 1253 = .ok (.iload 4, 2) := by decide +kernel
theorem dL_law_1255 : decode cL_law 1255 = .ok (.iconst 1, 1) := by decide +kernel
theorem dL_law_1256 : decode cL_law 1256 = .ok (.iadd, 1) := by decide +kernel
theorem dL_law_1257 : decode cL_law 1257 = .ok (.iaload, 1) := by decide +kernel
theorem dL_law_1258 : decode cL_law 1258 = .ok (.aload_n 0, 1) := by decide +kernel
theorem dL_law_1259 : decode cL_law 1259 = .ok (.iload 4, 2) := by decide +kernel
theorem dL_law_1261 : decode cL_law 1261 = .ok (.iconst 2, 1) := by decide +kernel
theorem dL_law_1262 : decode cL_law 1262 = .ok (.iadd, 1) := by decide +kernel
theorem dL_law_1263 : decode cL_law 1263 = .ok (.iaload, 1) := by decide +kernel
theorem dL_law_1264 : decode cL_law 1264 = .ok (.invokevirtual 154, 3) := by decide +kernel
theorem dL_law_1267 : decode cL_law 1267 = .ok (.istore 6, 2) := by decide +kernel
theorem dL_law_1269 : decode cL_law 1269 = .ok (.aload_n 2, 1) := by decide +kernel
theorem dL_law_1270 : decode cL_law 1270 = .ok (.invokevirtual 89, 3) := by decide +kernel
theorem dL_law_1273 : decode cL_law 1273 = .ok (.iload 5, 2) := by decide +kernel
theorem dL_law_1275 : decode cL_law 1275 = .ok (.if_icmp .eq 5, 3) := by decide +kernel
theorem dL_law_1278 : decode cL_law 1278 = .ok (.iconst 0, 1) := by decide +kernel
theorem dL_law_1279 : decode cL_law 1279 = .ok (.ireturn, 1) := by decide +kernel
theorem dL_law_1280 : decode cL_law 1280 = .ok (.iload 5, 2) := by decide +kernel
theorem dL_law_1282 : decode cL_law 1282 = .ok (.ifCond .ne 15, 3) := by decide +kernel
theorem dL_law_1285 : decode cL_law 1285 = .ok (.aload_n 3, 1) := by decide +kernel
theorem dL_law_1286 : decode cL_law 1286 = .ok (.iconst 0, 1) := by decide +kernel
theorem dL_law_1287 : decode cL_law 1287 = .ok (.laload, 1) := by decide +kernel
theorem dL_law_1288 : decode cL_law 1288 = .ok (.iload 6, 2) := by decide +kernel
theorem dL_law_1290 : decode cL_law 1290 = .ok (.i2l, 1) := by decide +kernel
theorem dL_law_1291 : decode cL_law 1291 = .ok (.lcmp, 1) := by decide +kernel
theorem dL_law_1292 : decode cL_law 1292 = .ok (.ifCond .eq 5, 3) := by decide +kernel
theorem dL_law_1295 : decode cL_law 1295 = .ok (.iconst 0, 1) := by decide +kernel
theorem dL_law_1296 : decode cL_law 1296 = .ok (.ireturn, 1) := by decide +kernel
theorem dL_law_1297 : decode cL_law 1297 = .ok (.goto 180, 3) := by decide +kernel
theorem dL_law_1300 : decode cL_law 1300 = .ok (.aload_n 1, 1) := by decide +kernel
theorem dL_law_1301 : decode cL_law 1301 = .ok (.aload_n 0, 1) := by decide +kernel
theorem dL_law_1302 : decode cL_law 1302 = .ok (.iload 4, 2) := by decide +kernel
theorem dL_law_1304 : decode cL_law 1304 = .ok (.iconst 1, 1) := by decide +kernel
theorem dL_law_1305 : decode cL_law 1305 = .ok (.iadd, 1) := by decide +kernel
theorem dL_law_1306 : decode cL_law 1306 = .ok (.iaload, 1) := by decide +kernel
theorem dL_law_1307 : decode cL_law 1307 = .ok (.aload_n 0, 1) := by decide +kernel
theorem dL_law_1308 : decode cL_law 1308 = .ok (.iload 4, 2) := by decide +kernel
theorem dL_law_1310 : decode cL_law 1310 = .ok (.iconst 2, 1) := by decide +kernel
theorem dL_law_1311 : decode cL_law 1311 = .ok (.iadd, 1) := by decide +kernel
theorem dL_law_1312 : decode cL_law 1312 = .ok (.iaload, 1) := by decide +kernel
theorem dL_law_1313 : decode cL_law 1313 = .ok (.aload_n 3, 1) := by decide +kernel
theorem dL_law_1314 : decode cL_law 1314 = .ok (.invokestatic 155, 3) := by decide +kernel
theorem dL_law_1317 : decode cL_law 1317 = .ok (.istore 5, 2) := by decide +kernel
theorem dL_law_1319 : decode cL_law 1319 = .ok (.aload_n 2, 1) := by decide +kernel
theorem dL_law_1320 : decode cL_law 1320 = .ok (.aload_n 0, 1) := by decide +kernel
theorem dL_law_1321 : decode cL_law 1321 = .ok (.iload 4, 2) := by decide +kernel
theorem dL_law_1323 : decode cL_law 1323 = .ok (.iconst 1, 1) := by decide +kernel
theorem dL_law_1324 : decode cL_law 1324 = .ok (.iadd, 1) := by decide +kernel
theorem dL_law_1325 : decode cL_law 1325 = .ok (.iaload, 1) := by decide +kernel
theorem dL_law_1326 : decode cL_law 1326 = .ok (.aload_n 0, 1) := by decide +kernel
theorem dL_law_1327 : decode cL_law 1327 = .ok (.iload 4, 2) := by decide +kernel
theorem dL_law_1329 : decode cL_law 1329 = .ok (.iconst 2, 1) := by decide +kernel
theorem dL_law_1330 : decode cL_law 1330 = .ok (.iadd, 1) := by decide +kernel
theorem dL_law_1331 : decode cL_law 1331 = .ok (.iaload, 1) := by decide +kernel
theorem dL_law_1332 : decode cL_law 1332 = .ok (.invokevirtual 157, 3) := by decide +kernel
theorem dL_law_1335 : decode cL_law 1335 = .ok (.lstore 6, 2) := by decide +kernel
theorem dL_law_1337 : decode cL_law 1337 = .ok (.aload_n 2, 1) := by decide +kernel
theorem dL_law_1338 : decode cL_law 1338 = .ok (.invokevirtual 89, 3) := by decide +kernel
theorem dL_law_1341 : decode cL_law 1341 = .ok (.iload 5, 2) := by decide +kernel
theorem dL_law_1343 : decode cL_law 1343 = .ok (.if_icmp .eq 5, 3) := by decide +kernel
theorem dL_law_1346 : decode cL_law 1346 = .ok (.iconst 0, 1) := by decide +kernel
theorem dL_law_1347 : decode cL_law 1347 = .ok (.ireturn, 1) := by decide +kernel
theorem dL_law_1348 : decode cL_law 1348 = .ok (.iload 5, 2) := by decide +kernel
theorem dL_law_1350 : decode cL_law 1350 = .ok (.ifCond .ne 14, 3) := by decide +kernel
theorem dL_law_1353 : decode cL_law 1353 = .ok (.aload_n 3, 1) := by decide +kernel
theorem dL_law_1354 : decode cL_law 1354 = .ok (.iconst 0, 1) := by decide +kernel
theorem dL_law_1355 : decode cL_law 1355 = .ok (.laload, 1) := by decide +kernel
theorem dL_law_1356 : decode cL_law 1356 = .ok (.lload 6, 2) := by decide +kernel
theorem dL_law_1358 : decode cL_law 1358 = .ok (.lcmp, 1) := by decide +kernel
theorem dL_law_1359 : decode cL_law 1359 = .ok (.ifCond .eq 5, 3) := by decide +kernel
theorem dL_law_1362 : decode cL_law 1362 = .ok (.iconst 0, 1) := by decide +kernel
theorem dL_law_1363 : decode cL_law 1363 = .ok (.ireturn, 1) := by decide +kernel
theorem dL_law_1364 : decode cL_law 1364 = .ok (.goto 113, 3) := by decide +kernel
theorem dL_law_1367 : decode cL_law 1367 = .ok (.aload_n 1, 1) := by decide +kernel
theorem dL_law_1368 : decode cL_law 1368 = .ok (.aload_n 0, 1) := by decide +kernel
theorem dL_law_1369 : decode cL_law 1369 = .ok (.iload 4, 2) := by decide +kernel
theorem dL_law_1371 : decode cL_law 1371 = .ok (.iconst 1, 1) := by decide +kernel
theorem dL_law_1372 : decode cL_law 1372 = .ok (.iadd, 1) := by decide +kernel
theorem dL_law_1373 : decode cL_law 1373 = .ok (.iaload, 1) := by decide +kernel
theorem dL_law_1374 : decode cL_law 1374 = .ok (.aload_n 3, 1) := by decide +kernel
theorem dL_law_1375 : decode cL_law 1375 = .ok (.invokestatic 158, 3) := by decide +kernel
theorem dL_law_1378 : decode cL_law 1378 = .ok (.istore 5, 2) := by decide +kernel
theorem dL_law_1380 : decode cL_law 1380 = .ok (.aload_n 2, 1) := by decide +kernel
theorem dL_law_1381 : decode cL_law 1381 = .ok (.aload_n 0, 1) := by decide +kernel
theorem dL_law_1382 : decode cL_law 1382 = .ok (.iload 4, 2) := by decide +kernel
theorem dL_law_1384 : decode cL_law 1384 = .ok (.iconst 1, 1) := by decide +kernel
theorem dL_law_1385 : decode cL_law 1385 = .ok (.iadd, 1) := by decide +kernel
theorem dL_law_1386 : decode cL_law 1386 = .ok (.iaload, 1) := by decide +kernel
theorem dL_law_1387 : decode cL_law 1387 = .ok (.invokevirtual 160, 3) := by decide +kernel
theorem dL_law_1390 : decode cL_law 1390 = .ok (.lstore 6, 2) := by decide +kernel
theorem dL_law_1392 : decode cL_law 1392 = .ok (.aload_n 2, 1) := by decide +kernel
theorem dL_law_1393 : decode cL_law 1393 = .ok (.invokevirtual 89, 3) := by decide +kernel
theorem dL_law_1396 : decode cL_law 1396 = .ok (.iload 5, 2) := by decide +kernel
theorem dL_law_1398 : decode cL_law 1398 = .ok (.if_icmp .eq 5, 3) := by decide +kernel
theorem dL_law_1401 : decode cL_law 1401 = .ok (.iconst 0, 1) := by decide +kernel
theorem dL_law_1402 : decode cL_law 1402 = .ok (.ireturn, 1) := by decide +kernel
theorem dL_law_1403 : decode cL_law 1403 = .ok (.iload 5, 2) := by decide +kernel
theorem dL_law_1405 : decode cL_law 1405 = .ok (.ifCond .ne 14, 3) := by decide +kernel
theorem dL_law_1408 : decode cL_law 1408 = .ok (.aload_n 3, 1) := by decide +kernel
theorem dL_law_1409 : decode cL_law 1409 = .ok (.iconst 0, 1) := by decide +kernel
theorem dL_law_1410 : decode cL_law 1410 = .ok (.laload, 1) := by decide +kernel
theorem dL_law_1411 : decode cL_law 1411 = .ok (.lload 6, 2) := by decide +kernel
theorem dL_law_1413 : decode cL_law 1413 = .ok (.lcmp, 1) := by decide +kernel
theorem dL_law_1414 : decode cL_law 1414 = .ok (.ifCond .eq 5, 3) := by decide +kernel
theorem dL_law_1417 : decode cL_law 1417 = .ok (.iconst 0, 1) := by decide +kernel
theorem dL_law_1418 : decode cL_law 1418 = .ok (.ireturn, 1) := by decide +kernel
theorem dL_law_1419 : decode cL_law 1419 = .ok (.goto 58, 3) := by decide +kernel
theorem dL_law_1422 : decode cL_law 1422 = .ok (.aload_n 1, 1) := by decide +kernel
theorem dL_law_1423 : decode cL_law 1423 = .ok (.invokevirtual 161, 3) := by decide +kernel
theorem dL_law_1426 : decode cL_law 1426 = .ok (.dstore 5, 2) := by decide +kernel
theorem dL_law_1428 : decode cL_law 1428 = .ok (.aload_n 2, 1) := by decide +kernel
theorem dL_law_1429 : decode cL_law 1429 = .ok (.invokevirtual 165, 3) := by decide +kernel
theorem dL_law_1432 : decode cL_law 1432 = .ok (.dstore 7, 2) := by decide +kernel
theorem dL_law_1434 : decode cL_law 1434 = .ok (.dload 5, 2) := by decide +kernel
theorem dL_law_1436 : decode cL_law 1436 = .ok (.dload 7, 2) := by decide +kernel
theorem dL_law_1438 : decode cL_law 1438 = .ok (.dcmp .l, 1) := by decide +kernel
theorem dL_law_1439 : decode cL_law 1439 = .ok (.ifCond .eq 21, 3) := by decide +kernel
theorem dL_law_1442 : decode cL_law 1442 = .ok (.dload 5, 2) := by decide +kernel
theorem dL_law_1444 : decode cL_law 1444 = .ok (.dload 5, 2) := by decide +kernel
theorem dL_law_1446 : decode cL_law 1446 = .ok (.dcmp .l, 1) := by decide +kernel
theorem dL_law_1447 : decode cL_law 1447 = .ok (.ifCond .eq 11, 3) := by decide +kernel
theorem dL_law_1450 : decode cL_law 1450 = .ok (.dload 7, 2) := by decide +kernel
theorem dL_law_1452 : decode cL_law 1452 = .ok (.dload 7, 2) := by decide +kernel
theorem dL_law_1454 : decode cL_law 1454 = .ok (.dcmp .l, 1) := by decide +kernel
theorem dL_law_1455 : decode cL_law 1455 = .ok (.ifCond .ne 5, 3) := by decide +kernel
theorem dL_law_1458 : decode cL_law 1458 = .ok (.iconst 0, 1) := by decide +kernel
theorem dL_law_1459 : decode cL_law 1459 = .ok (.ireturn, 1) := by decide +kernel
theorem dL_law_1460 : decode cL_law 1460 = .ok (.goto 17, 3) := by decide +kernel
theorem dL_law_1463 : decode cL_law 1463 = .ok (.aload_n 1, 1) := by decide +kernel
theorem dL_law_1464 : decode cL_law 1464 = .ok (.invokevirtual 166, 3) := by decide +kernel
theorem dL_law_1467 : decode cL_law 1467 = .ok (.aload_n 2, 1) := by decide +kernel
theorem dL_law_1468 : decode cL_law 1468 = .ok (.invokevirtual 170, 3) := by decide +kernel
theorem dL_law_1471 : decode cL_law 1471 = .ok (.lcmp, 1) := by decide +kernel
theorem dL_law_1472 : decode cL_law 1472 = .ok (.ifCond .eq 5, 3) := by decide +kernel
theorem dL_law_1475 : decode cL_law 1475 = .ok (.iconst 0, 1) := by decide +kernel
theorem dL_law_1476 : decode cL_law 1476 = .ok (.ireturn, 1) := by decide +kernel
theorem dL_law_1477 : decode cL_law 1477 = .ok (.iinc 4 5, 3) := by decide +kernel
theorem dL_law_1480 : decode cL_law 1480 = .ok (.goto (-1457), 3) := by decide +kernel
theorem dL_law_1483 : decode cL_law 1483 = .ok (.iconst 1, 1) := by decide +kernel
theorem dL_law_1484 : decode cL_law 1484 = .ok (.ireturn, 1) := by decide +kernel
end
