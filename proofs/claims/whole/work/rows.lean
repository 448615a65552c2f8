section
-- ===== PART A: goes FIRST, ahead of the names: the tables' words, and 'selects' of the private methods out of them =====
/-- a private method of a class that the tables say can be made, by its rows of tables_1 -/
def lw_okq (q : MethodName × Nat) : Prop := (q.1.cls ≠ "java/lang/invoke/MethodHandle" ∧ q.1.cls ≠ "java/lang/invoke/VarHandle") ∧ Cond.instantiable q.1.cls q.2 ∈ tables_1 ∧ Cond.privateMethod q.1 ∈ tables_1 ∧ Cond.instanceMethod q.1 ∈ tables_1
theorem lw_p0 : lw_okq (⟨"RefusePlanner", "mixRegion", "(J)J"⟩, 8) := ⟨⟨by decide +kernel, by decide +kernel⟩, List.mem_of_getElem? (i := 22) (by decide +kernel), List.mem_of_getElem? (i := 156) (by decide +kernel), List.mem_of_getElem? (i := 157) (by decide +kernel)⟩
theorem lw_p1 : lw_okq (⟨"RefusePlanner", "mixBins", "(J)J"⟩, 8) := ⟨⟨by decide +kernel, by decide +kernel⟩, List.mem_of_getElem? (i := 22) (by decide +kernel), List.mem_of_getElem? (i := 164) (by decide +kernel), List.mem_of_getElem? (i := 165) (by decide +kernel)⟩
theorem lw_p2 : lw_okq (⟨"RefusePlanner", "mixTotals", "(J)J"⟩, 8) := ⟨⟨by decide +kernel, by decide +kernel⟩, List.mem_of_getElem? (i := 22) (by decide +kernel), List.mem_of_getElem? (i := 172) (by decide +kernel), List.mem_of_getElem? (i := 173) (by decide +kernel)⟩
theorem lw_p3 : lw_okq (⟨"java/lang/Throwable", "fillInStackTrace", "(I)Ljava/lang/Throwable;"⟩, 6) := ⟨⟨by decide +kernel, by decide +kernel⟩, List.mem_of_getElem? (i := 222) (by decide +kernel), List.mem_of_getElem? (i := 220) (by decide +kernel), List.mem_of_getElem? (i := 221) (by decide +kernel)⟩
theorem lw_p4 : lw_okq (⟨"RefusePlanner", "checkPlace", "(I)V"⟩, 8) := ⟨⟨by decide +kernel, by decide +kernel⟩, List.mem_of_getElem? (i := 22) (by decide +kernel), List.mem_of_getElem? (i := 265) (by decide +kernel), List.mem_of_getElem? (i := 266) (by decide +kernel)⟩
theorem lw_p5 : lw_okq (⟨"RefusePlanner", "checkRange", "(III)V"⟩, 8) := ⟨⟨by decide +kernel, by decide +kernel⟩, List.mem_of_getElem? (i := 22) (by decide +kernel), List.mem_of_getElem? (i := 301) (by decide +kernel), List.mem_of_getElem? (i := 302) (by decide +kernel)⟩
theorem lw_p6 : lw_okq (⟨"RefusePlanner", "checkKind", "(I)V"⟩, 8) := ⟨⟨by decide +kernel, by decide +kernel⟩, List.mem_of_getElem? (i := 22) (by decide +kernel), List.mem_of_getElem? (i := 317) (by decide +kernel), List.mem_of_getElem? (i := 318) (by decide +kernel)⟩
theorem lw_p7 : lw_okq (⟨"RefusePlanner", "passOneDay", "()I"⟩, 8) := ⟨⟨by decide +kernel, by decide +kernel⟩, List.mem_of_getElem? (i := 22) (by decide +kernel), List.mem_of_getElem? (i := 352) (by decide +kernel), List.mem_of_getElem? (i := 353) (by decide +kernel)⟩
theorem lw_p8 : lw_okq (⟨"java/util/ArrayList", "add", "(Ljava/lang/Object;[Ljava/lang/Object;I)V"⟩, 3) := ⟨⟨by decide +kernel, by decide +kernel⟩, List.mem_of_getElem? (i := 49) (by decide +kernel), List.mem_of_getElem? (i := 421) (by decide +kernel), List.mem_of_getElem? (i := 422) (by decide +kernel)⟩
theorem lw_p9 : lw_okq (⟨"java/util/ArrayList", "grow", "()[Ljava/lang/Object;"⟩, 3) := ⟨⟨by decide +kernel, by decide +kernel⟩, List.mem_of_getElem? (i := 49) (by decide +kernel), List.mem_of_getElem? (i := 425) (by decide +kernel), List.mem_of_getElem? (i := 426) (by decide +kernel)⟩
theorem lw_p10 : lw_okq (⟨"java/util/ArrayList", "grow", "(I)[Ljava/lang/Object;"⟩, 3) := ⟨⟨by decide +kernel, by decide +kernel⟩, List.mem_of_getElem? (i := 49) (by decide +kernel), List.mem_of_getElem? (i := 429) (by decide +kernel), List.mem_of_getElem? (i := 430) (by decide +kernel)⟩
theorem lw_p11 : lw_okq (⟨"RefusePlanner", "checkBin", "(I)V"⟩, 8) := ⟨⟨by decide +kernel, by decide +kernel⟩, List.mem_of_getElem? (i := 22) (by decide +kernel), List.mem_of_getElem? (i := 476) (by decide +kernel), List.mem_of_getElem? (i := 477) (by decide +kernel)⟩
theorem lw_p12 : lw_okq (⟨"RefusePlanner", "planRoute", "(I)V"⟩, 8) := ⟨⟨by decide +kernel, by decide +kernel⟩, List.mem_of_getElem? (i := 22) (by decide +kernel), List.mem_of_getElem? (i := 522) (by decide +kernel), List.mem_of_getElem? (i := 523) (by decide +kernel)⟩
theorem lw_p13 : lw_okq (⟨"RefusePlanner", "nearestStop", "(II)I"⟩, 8) := ⟨⟨by decide +kernel, by decide +kernel⟩, List.mem_of_getElem? (i := 22) (by decide +kernel), List.mem_of_getElem? (i := 532) (by decide +kernel), List.mem_of_getElem? (i := 533) (by decide +kernel)⟩
theorem lw_p14 : lw_okq (⟨"RefusePlanner", "checkWorkday", "()V"⟩, 8) := ⟨⟨by decide +kernel, by decide +kernel⟩, List.mem_of_getElem? (i := 22) (by decide +kernel), List.mem_of_getElem? (i := 551) (by decide +kernel), List.mem_of_getElem? (i := 552) (by decide +kernel)⟩
theorem lw_p15 : lw_okq (⟨"RefusePlanner", "makeTour", "(II)I"⟩, 8) := ⟨⟨by decide +kernel, by decide +kernel⟩, List.mem_of_getElem? (i := 22) (by decide +kernel), List.mem_of_getElem? (i := 556) (by decide +kernel), List.mem_of_getElem? (i := 557) (by decide +kernel)⟩
def lw_privs_1 : List (MethodName × Nat) := [(⟨"RefusePlanner", "mixRegion", "(J)J"⟩, 8), (⟨"RefusePlanner", "mixBins", "(J)J"⟩, 8), (⟨"RefusePlanner", "mixTotals", "(J)J"⟩, 8), (⟨"java/lang/Throwable", "fillInStackTrace", "(I)Ljava/lang/Throwable;"⟩, 6), (⟨"RefusePlanner", "checkPlace", "(I)V"⟩, 8), (⟨"RefusePlanner", "checkRange", "(III)V"⟩, 8), (⟨"RefusePlanner", "checkKind", "(I)V"⟩, 8), (⟨"RefusePlanner", "passOneDay", "()I"⟩, 8), (⟨"java/util/ArrayList", "add", "(Ljava/lang/Object;[Ljava/lang/Object;I)V"⟩, 3), (⟨"java/util/ArrayList", "grow", "()[Ljava/lang/Object;"⟩, 3), (⟨"java/util/ArrayList", "grow", "(I)[Ljava/lang/Object;"⟩, 3), (⟨"RefusePlanner", "checkBin", "(I)V"⟩, 8), (⟨"RefusePlanner", "planRoute", "(I)V"⟩, 8), (⟨"RefusePlanner", "nearestStop", "(II)I"⟩, 8), (⟨"RefusePlanner", "checkWorkday", "()V"⟩, 8), (⟨"RefusePlanner", "makeTour", "(II)I"⟩, 8)]
theorem lw_r1 : ∀ q ∈ lw_privs_1, lw_okq q := List.forall_mem_cons.mpr ⟨lw_p0, List.forall_mem_cons.mpr ⟨lw_p1, List.forall_mem_cons.mpr ⟨lw_p2, List.forall_mem_cons.mpr ⟨lw_p3, List.forall_mem_cons.mpr ⟨lw_p4, List.forall_mem_cons.mpr ⟨lw_p5, List.forall_mem_cons.mpr ⟨lw_p6, List.forall_mem_cons.mpr ⟨lw_p7, List.forall_mem_cons.mpr ⟨lw_p8, List.forall_mem_cons.mpr ⟨lw_p9, List.forall_mem_cons.mpr ⟨lw_p10, List.forall_mem_cons.mpr ⟨lw_p11, List.forall_mem_cons.mpr ⟨lw_p12, List.forall_mem_cons.mpr ⟨lw_p13, List.forall_mem_cons.mpr ⟨lw_p14, List.forall_mem_cons.mpr ⟨lw_p15, fun _ h => absurd h List.not_mem_nil⟩⟩⟩⟩⟩⟩⟩⟩⟩⟩⟩⟩⟩⟩⟩⟩
theorem lw_p16 : lw_okq (⟨"RefusePlanner$Tour", "driveTo", "(I)V"⟩, 8) := ⟨⟨by decide +kernel, by decide +kernel⟩, List.mem_of_getElem? (i := 560) (by decide +kernel), List.mem_of_getElem? (i := 598) (by decide +kernel), List.mem_of_getElem? (i := 599) (by decide +kernel)⟩
theorem lw_p17 : lw_okq (⟨"RefusePlanner$Tour", "unloadOnTheWayTo", "(I)V"⟩, 8) := ⟨⟨by decide +kernel, by decide +kernel⟩, List.mem_of_getElem? (i := 560) (by decide +kernel), List.mem_of_getElem? (i := 603) (by decide +kernel), List.mem_of_getElem? (i := 604) (by decide +kernel)⟩
theorem lw_p18 : lw_okq (⟨"RefusePlannerModel", "fail", "(I)I"⟩, 21) := ⟨⟨by decide +kernel, by decide +kernel⟩, List.mem_of_getElem? (i := 652) (by decide +kernel), List.mem_of_getElem? (i := 730) (by decide +kernel), List.mem_of_getElem? (i := 731) (by decide +kernel)⟩
theorem lw_p19 : lw_okq (⟨"RefusePlannerModel", "isPlace", "(I)Z"⟩, 21) := ⟨⟨by decide +kernel, by decide +kernel⟩, List.mem_of_getElem? (i := 652) (by decide +kernel), List.mem_of_getElem? (i := 738) (by decide +kernel), List.mem_of_getElem? (i := 739) (by decide +kernel)⟩
theorem lw_p20 : lw_okq (⟨"RefusePlannerModel", "drive", "(II)I"⟩, 21) := ⟨⟨by decide +kernel, by decide +kernel⟩, List.mem_of_getElem? (i := 652) (by decide +kernel), List.mem_of_getElem? (i := 745) (by decide +kernel), List.mem_of_getElem? (i := 746) (by decide +kernel)⟩
theorem lw_p21 : lw_okq (⟨"RefusePlannerModel", "workday", "()I"⟩, 21) := ⟨⟨by decide +kernel, by decide +kernel⟩, List.mem_of_getElem? (i := 652) (by decide +kernel), List.mem_of_getElem? (i := 776) (by decide +kernel), List.mem_of_getElem? (i := 777) (by decide +kernel)⟩
theorem lw_p22 : lw_okq (⟨"RefusePlannerModel", "isBin", "(I)Z"⟩, 21) := ⟨⟨by decide +kernel, by decide +kernel⟩, List.mem_of_getElem? (i := 652) (by decide +kernel), List.mem_of_getElem? (i := 788) (by decide +kernel), List.mem_of_getElem? (i := 789) (by decide +kernel)⟩
theorem lw_p23 : lw_okq (⟨"RefusePlannerModel", "told", "(II)I"⟩, 21) := ⟨⟨by decide +kernel, by decide +kernel⟩, List.mem_of_getElem? (i := 652) (by decide +kernel), List.mem_of_getElem? (i := 804) (by decide +kernel), List.mem_of_getElem? (i := 805) (by decide +kernel)⟩
theorem lw_p24 : lw_okq (⟨"RefusePlannerModel", "expectedOn", "(II)I"⟩, 21) := ⟨⟨by decide +kernel, by decide +kernel⟩, List.mem_of_getElem? (i := 652) (by decide +kernel), List.mem_of_getElem? (i := 812) (by decide +kernel), List.mem_of_getElem? (i := 813) (by decide +kernel)⟩
theorem lw_p25 : lw_okq (⟨"RefusePlannerModel", "makePlan", "(I)V"⟩, 21) := ⟨⟨by decide +kernel, by decide +kernel⟩, List.mem_of_getElem? (i := 652) (by decide +kernel), List.mem_of_getElem? (i := 825) (by decide +kernel), List.mem_of_getElem? (i := 826) (by decide +kernel)⟩
theorem lw_p26 : lw_okq (⟨"RefusePlannerModel", "isDue", "(I)Z"⟩, 21) := ⟨⟨by decide +kernel, by decide +kernel⟩, List.mem_of_getElem? (i := 652) (by decide +kernel), List.mem_of_getElem? (i := 829) (by decide +kernel), List.mem_of_getElem? (i := 830) (by decide +kernel)⟩
theorem lw_p27 : lw_okq (⟨"RefusePlannerModel", "tour", "(IIZ)I"⟩, 21) := ⟨⟨by decide +kernel, by decide +kernel⟩, List.mem_of_getElem? (i := 652) (by decide +kernel), List.mem_of_getElem? (i := 844) (by decide +kernel), List.mem_of_getElem? (i := 845) (by decide +kernel)⟩
theorem lw_p28 : lw_okq (⟨"RefusePlannerModel", "tipFor", "(III)I"⟩, 21) := ⟨⟨by decide +kernel, by decide +kernel⟩, List.mem_of_getElem? (i := 652) (by decide +kernel), List.mem_of_getElem? (i := 848) (by decide +kernel), List.mem_of_getElem? (i := 849) (by decide +kernel)⟩
theorem lw_p29 : lw_okq (⟨"RefusePlannerModel", "empty", "(II)V"⟩, 21) := ⟨⟨by decide +kernel, by decide +kernel⟩, List.mem_of_getElem? (i := 652) (by decide +kernel), List.mem_of_getElem? (i := 852) (by decide +kernel), List.mem_of_getElem? (i := 853) (by decide +kernel)⟩
def lw_privs_2 : List (MethodName × Nat) := [(⟨"RefusePlanner$Tour", "driveTo", "(I)V"⟩, 8), (⟨"RefusePlanner$Tour", "unloadOnTheWayTo", "(I)V"⟩, 8), (⟨"RefusePlannerModel", "fail", "(I)I"⟩, 21), (⟨"RefusePlannerModel", "isPlace", "(I)Z"⟩, 21), (⟨"RefusePlannerModel", "drive", "(II)I"⟩, 21), (⟨"RefusePlannerModel", "workday", "()I"⟩, 21), (⟨"RefusePlannerModel", "isBin", "(I)Z"⟩, 21), (⟨"RefusePlannerModel", "told", "(II)I"⟩, 21), (⟨"RefusePlannerModel", "expectedOn", "(II)I"⟩, 21), (⟨"RefusePlannerModel", "makePlan", "(I)V"⟩, 21), (⟨"RefusePlannerModel", "isDue", "(I)Z"⟩, 21), (⟨"RefusePlannerModel", "tour", "(IIZ)I"⟩, 21), (⟨"RefusePlannerModel", "tipFor", "(III)I"⟩, 21), (⟨"RefusePlannerModel", "empty", "(II)V"⟩, 21)]
theorem lw_r2 : ∀ q ∈ lw_privs_2, lw_okq q := List.forall_mem_cons.mpr ⟨lw_p16, List.forall_mem_cons.mpr ⟨lw_p17, List.forall_mem_cons.mpr ⟨lw_p18, List.forall_mem_cons.mpr ⟨lw_p19, List.forall_mem_cons.mpr ⟨lw_p20, List.forall_mem_cons.mpr ⟨lw_p21, List.forall_mem_cons.mpr ⟨lw_p22, List.forall_mem_cons.mpr ⟨lw_p23, List.forall_mem_cons.mpr ⟨lw_p24, List.forall_mem_cons.mpr ⟨lw_p25, List.forall_mem_cons.mpr ⟨lw_p26, List.forall_mem_cons.mpr ⟨lw_p27, List.forall_mem_cons.mpr ⟨lw_p28, List.forall_mem_cons.mpr ⟨lw_p29, fun _ h => absurd h List.not_mem_nil⟩⟩⟩⟩⟩⟩⟩⟩⟩⟩⟩⟩⟩⟩
def lw_privs : List (MethodName × Nat) := lw_privs_1 ++ (lw_privs_2)
def lw_tbl : List Cond := k2_sels lw_privs ++ tables_1
theorem lw_privs_ok : ∀ q ∈ lw_privs, lw_okq q := by
  show ∀ q ∈ lw_privs_1 ++ (lw_privs_2), lw_okq q
  exact List.forall_mem_append.mpr ⟨lw_r1, lw_r2⟩
/-- the streams that the claim lets the run draw from -/
abbrev lw_cs : List Choice := [Jvm.Choice.named "NaN.bits"]
theorem lw_bits : nanBits ∈ lw_cs := by first | decide | exact List.mem_cons_self | simp [lw_cs, nanBits]
-- ===== end of PART A; then your names; then what follows =====
end
section
/-! ===== BEGIN words of one list among another's, by their places ===== -/
theorem goodIn_r {big : List Cond} (ws : List Cond) (ps : List Nat) (hp : ws = ps.filterMap (fun i => big[i]?)) (h : ws.all goodWord = true) : GoodIn big ws := by
  intro w hw
  have h1 := List.all_eq_true.mp h w hw
  rw [hp] at hw
  obtain ⟨i, -, hi⟩ := List.mem_filterMap.mp hw
  have hm : w ∈ big := by first | exact List.mem_of_getElem? hi | exact List.getElem?_mem hi
  exact ⟨hm, good_of_word h1⟩
theorem goodIn_app {big a b : List Cond} (ha : GoodIn big a) (hb : GoodIn big b) : GoodIn big (a ++ b) := fun w h => (List.mem_append.mp h).elim (ha w) (hb w)
theorem goodIn_ca {big a b : List Cond} {c : Cond} (ha : GoodIn big (c :: a)) (hb : GoodIn big b) : GoodIn big (c :: (a ++ b)) := fun w h => (List.mem_cons.mp h).elim (fun e => ha w (List.mem_cons.mpr (Or.inl e))) (fun h => (List.mem_append.mp h).elim (fun h => ha w (List.mem_cons.mpr (Or.inr h))) (hb w))
theorem goodIn_sub {big ws : List Cond} (hm : ∀ w ∈ ws, w ∈ big) (h : ws.all goodWord = true) : GoodIn big ws := fun w hw => ⟨hm w hw, good_of_word (List.all_eq_true.mp h w hw)⟩
/-! ===== END ===== -/

/-! ===== BEGIN exceptions that leave a method, and their catching by the caller (launches without stack traces) ===== -/
section VXA
/-! The laws vx_back, vx_callV, vx_callS, vx_callSW, vx_throw0, vx_throwS follow proofs of the library, with one case more: JvmDerived/Free/Laws.lean (Back.of_free), Shelf42/LK1.lean (callV, callS), Shelf/KitTraced.lean (throwNew0V, throwNewS). -/
/-- where a method has thrown q: the class by its name, the cell, what was written, the world -/
def vx_T (XC : String → State → State → Prop) (st : State) (q : Addr) (t : State) (mc ms : Nat) (free : Addr → Prop) : Prop :=
  ∃ (E : String) (ce : Cell) (L : List Loc), XC E st t ∧ t.heap[q]? = some ce ∧ ce.vm = .none ∧ st.vm.findClass E = some ce.cls ∧ st.WarmedH t.vm ∧ st.sameButNew ({ t with vm := st.vm } : State) L mc ms ∧ ∀ z ∈ L, free z.base
def vx_Q (Qc : Array Value → State → Outcome → State → Prop) (XC : String → State → State → Prop) (mc ms : Nat) (free : Addr → Prop) : Array Value → State → Outcome → State → Prop := fun a st o t =>
  (Qc a st o t ∧ ∃ L, FrameEnd st o t L mc ms ∧ ∀ q ∈ L, free q.base) ∨ ∃ q, o = .threw q ∧ vx_T XC st q t mc ms free
/-- a callee that returns or throws -/
def vx_Met (l : Launch) (y : MethodName) (ws : List Cond) (rm : Room) (Pc : Array Value → State → Prop) (Qc : Array Value → State → Outcome → State → Prop) (XC : String → State → State → Prop) (mc ms : Nat) (free : Addr → Prop) : Prop :=
  MetFree l y (headSpec ws rm) Pc (fun _ _ _ _ _ => True) (vx_Q Qc XC mc ms free)
def vx_Post (XC : String → State → State → Prop) (mc ms : Nat) (free : Addr → Prop) : Pt → Array Value → Addr → Pt → Prop := fun A a q B =>
  ∃ (g : JFrame) (mk : MethodId) (t : State) (L : List Loc) (E : String) (ce : Cell), B.U.heap = t.heap ∧ B.U.vm = t.vm ∧ XC E (A.U.calling g mk a) t ∧ t.heap[q]? = some ce ∧ ce.vm = .none ∧ A.U.vm.findClass E = some ce.cls ∧ B.locs = A.locs ++ L ∧ (∀ z ∈ L, free z.base) ∧ B.cells = A.cells + mc ∧ B.slots = A.slots + ms
def vx_Back (l : Launch) (R : Room) (p : Program) (e : Env) (below : List Frame) (s : State) (sargs : Array Value) (y : MethodName) (len W9 : Nat)
    (Pre : Pt → Array Value → Prop) (Post : Pt → Array Value → Option Value → Pt → Prop) (PostX : Pt → Array Value → Addr → Pt → Prop) : Prop :=
  ∀ (m : MethodId) (meth : Method) (c : Code) (A : Pt) (g : JFrame) (ig : Instr) (mk : MethodId) (a : Array Value),
    Stand p l e R s m sargs below meth c A.U A.locs A.cells A.slots → g.method = m → g.locals.size = c.maxLocals → decode c.code g.pc = .ok (ig, len) →
    2 * g.monitorRoom + (g.stack.map fun v => v.category).sum ≤ W9 → A.U.methodNamed? y = some mk → Pre A a →
    (∃ (v : Option Value) (B : Pt), Stand p l e R s m sargs below meth c B.U B.locs B.cells B.slots ∧ Post A a v B ∧
      Steps p.tables e below (doInvoke e (A.U.setTop g) [] mk a).1 (B.U.setTop { g with pc := g.pc + len, stack := v.toList ++ g.stack })) ∨
    (∃ (q : Addr) (B : Pt), Stand p l e R s m sargs below meth c B.U B.locs B.cells B.slots ∧ PostX A a q B ∧
      Steps p.tables e below (doInvoke e (A.U.setTop g) [] mk a).1 ((B.U.setTop g).pushFrame (.throwing q)))
section Payer
variable {l : Launch} {R : Room} {p : Program} {e : Env} {below : List Frame} {s : State} {sargs : Array Value} {y : MethodName} {len W9 : Nat}
theorem vx_back {ws : List Cond} {rm : Room} {Pc : Array Value → State → Prop} {Qc : Array Value → State → Outcome → State → Prop} {XC : String → State → State → Prop} {mc ms : Nat} {free : Addr → Prop} {bytes : ByteArray} {maxL : Nat} {ret : Option FieldType}
    (hM : vx_Met l y ws rm Pc Qc XC mc ms free) (hblind : FrameBlind Pc) (hrc : rm.cells = mc) (hrs : rm.slots = ms)
    (hframes : rm.frames + 1 ≤ R.frames) (hlocals : W9 + (maxL + 11) + rm.locals ≤ R.locals)
    (hws : ∀ w ∈ ws, ∀ a' U, s.WarmedH U.vm → w.before a' U = true) (hcode : Cond.code y bytes maxL ret ∈ ws) (hinit : ∀ a' U, s.WarmedH U.vm → (Cond.initialized y.cls).before a' U = true) :
    vx_Back l R p e below s sargs y len W9 (PreOf R mc ms Pc) (PostOf Qc mc ms free) (vx_Post XC mc ms free) := by
  intro m meth c A g ig mk a X hg hsize hdg hW hn hp
  have h1 : (headSpec ws rm).pre.before a A.U = true := atoms_intro fun w hw => hws w hw _ _ X.warmed
  have h2 : (Cond.code y bytes maxL ret).before a A.U = true := hws _ hcode _ _ X.warmed
  have h3 : (Cond.initialized y.cls).before a A.U = true := hinit _ _ X.warmed
  have h4 : A.cells + (headSpec ws rm).room.cells ≤ R.cells := by rw [show (headSpec ws rm).room.cells = mc from hrc]; exact hp.1
  have h5 : A.slots + (headSpec ws rm).room.slots ≤ R.slots := by rw [show (headSpec ws rm).room.slots = ms from hrs]; exact hp.2.1
  have hPc : Pc a (A.U.calling g mk a) := hblind _ _ _ _ hp.2.2
  obtain ⟨U, Ls, c0, s0⟩ := A
  dsimp only [Pt.U, Pt.locs, Pt.cells, Pt.slots] at h1 h2 h3 h4 h5 X hn hPc ⊢
  obtain ⟨methY, cY, hmY, hcY, -, hlY, -, -, -, -⟩ := Cond.code_spec hn h2
  obtain ⟨kY, hkY, -⟩ := className_of_methodNamed hn
  have hinitY : kY.init = .initialized := Cond.initialized_spec (findClass_of_methodNamed hn) hkY h3
  have h : At U g.method c below := by rw [hg]; exact X.here
  have hlocals9 : W9 + (maxL + 11) + (headSpec ws rm).room.locals ≤ R.locals := hlocals
  have happ : (headSpec ws rm).appliesLoose y e.platform (U.calling g mk a) = true :=
    Spec.appliesLoose_calling (g := g) h hdg hn hkY hinitY
      (X.room_calling (g := g) (R' := (headSpec ws rm).room) hsize hmY hcY hframes (by rw [hlY]; omega) h4 h5) h1
  obtain ⟨mid, hmid⟩ := h.above
  have hfr : (U.setTop g).frames = (.java g :: mid) ++ below := by rw [State.frames_setTop' g h.top, hmid]; rfl
  obtain ⟨o, s₂, hsteps, -, hend, hq⟩ := Steps.callFree hM p X.admits X.cas X.clock (acts := []) hfr happ hPc trivial
  have hq' : vx_Q Qc XC mc ms free a (U.calling g mk a) o s₂ := hq
  rw [State.frames_setTop' g h.top] at hend
  obtain ⟨g₀, hg0⟩ := Option.isSome_iff_exists.mp h.top
  obtain ⟨r, hr⟩ := State.topJava?_eq_some.mp hg0
  have hr' : (({ U with heap := s₂.heap, slotsUsed := s₂.slotsUsed } : State).setVm s₂.vm).frames = .java g₀ :: r := hr
  rcases hq' with ⟨hqc, L, hfe, hL⟩ | ⟨q, rfl, E, ce, L, hx, hce, hcv, hcl, hW₂, hsm, hL⟩
  · obtain ⟨⟨v, rfl⟩, hW₂, e2, q2, q3, q4, q5, q6⟩ := id hfe
    have e3 : s₂ = ({ (U.calling g mk a).setFrames s₂.frames with heap := s₂.heap, slotsUsed := s₂.slotsUsed } : State).setVm s₂.vm := by
      have : s₂ = ({ s₂ with vm := (U.calling g mk a).vm } : State).setVm s₂.vm := rfl
      rw [e2] at this
      exact this
    obtain ⟨c₂, i₂, len₂, hc₂, hd₂, hf₂⟩ := hend
    have hW' : U.WarmedH s₂.vm := hW₂
    have hcc : c₂ = c := by
      have h1 : s₂.code? g.method = U.code? g.method := by
        rw [State.code?_eq, State.code?_eq, hW'.alike.method?]
      exact Option.some.inj (hc₂.symm.trans (h1.trans h.code))
    subst hcc
    have hlen : len₂ = len := by rw [hdg] at hd₂; cases hd₂; rfl
    subst hlen
    have hs₂ : s₂ = (({ U with heap := s₂.heap, slotsUsed := s₂.slotsUsed } : State).setVm s₂.vm).setTop { g with pc := g.pc + len₂, stack := v.toList ++ g.stack } := by
      refine e3.trans ?_
      rw [hf₂, State.calling_eq h.top, State.setFrames_setFrames, State.setTop_of_frames _ hr', hr]
      rfl
    have hsame : U.sameButNew ({ U with heap := s₂.heap, slotsUsed := s₂.slotsUsed } : State) L mc ms := by
      refine ⟨?_, q2, q3, q4, q5, q6⟩
      obtain ⟨t, ht, -⟩ := State.frames_cons hr
      show ({ U with heap := s₂.heap, slotsUsed := s₂.slotsUsed } : State) = { U.setFrames U.frames with heap := s₂.heap, slotsUsed := s₂.slotsUsed }
      rw [State.setFrames_self ht]
    subst hg
    refine Or.inl ⟨v, ⟨(({ U with heap := s₂.heap, slotsUsed := s₂.slotsUsed } : State).setVm s₂.vm), Ls ++ L, c0 + mc, s0 + ms⟩,
      ⟨X.admits, X.cas, X.clock, X.frames, X.room, X.hears, X.method, X.code, (X.here.setHeapUsed s₂.heap s₂.slotsUsed).setVm hW'.alike, X.tail, State.WarmedH.trans X.warmed hW', X.limits, X.bytes, X.same.trans (hsame.setVm s.vm)⟩,
      ⟨g, mk, s₂, L, rfl, rfl, hqc, rfl, hL, rfl, rfl⟩, ?_⟩
    show Steps p.tables e below _ ((({ U with heap := s₂.heap, slotsUsed := s₂.slotsUsed } : State).setVm s₂.vm).setTop { g with pc := g.pc + len₂, stack := v.toList ++ g.stack })
    rw [← hs₂]
    exact hsteps
  · obtain ⟨e2, q2, q3, q4, q5, q6⟩ := id hsm
    have e3 : s₂ = ({ (U.calling g mk a).setFrames s₂.frames with heap := s₂.heap, slotsUsed := s₂.slotsUsed } : State).setVm s₂.vm := by
      have : s₂ = ({ s₂ with vm := (U.calling g mk a).vm } : State).setVm s₂.vm := rfl
      rw [e2] at this
      exact this
    have hf₂ : s₂.frames = .throwing q :: .java g :: U.frames.tail := hend
    have hW' : U.WarmedH s₂.vm := hW₂
    have hs₂ : s₂ = ((({ U with heap := s₂.heap, slotsUsed := s₂.slotsUsed } : State).setVm s₂.vm).setTop g).pushFrame (.throwing q) := by
      refine e3.trans ?_
      rw [hf₂, State.calling_eq h.top, State.setFrames_setFrames, State.pushFrame, State.frames_setTop _ hr', State.setTop_of_frames _ hr', State.setFrames_setFrames, hr]
      rfl
    have hsame : U.sameButNew ({ U with heap := s₂.heap, slotsUsed := s₂.slotsUsed } : State) L mc ms := by
      refine ⟨?_, q2, q3, q4, q5, q6⟩
      obtain ⟨t, ht, -⟩ := State.frames_cons hr
      show ({ U with heap := s₂.heap, slotsUsed := s₂.slotsUsed } : State) = { U.setFrames U.frames with heap := s₂.heap, slotsUsed := s₂.slotsUsed }
      rw [State.setFrames_self ht]
    subst hg
    refine Or.inr ⟨q, ⟨(({ U with heap := s₂.heap, slotsUsed := s₂.slotsUsed } : State).setVm s₂.vm), Ls ++ L, c0 + mc, s0 + ms⟩,
      ⟨X.admits, X.cas, X.clock, X.frames, X.room, X.hears, X.method, X.code, (X.here.setHeapUsed s₂.heap s₂.slotsUsed).setVm hW'.alike, X.tail, State.WarmedH.trans X.warmed hW', X.limits, X.bytes, X.same.trans (hsame.setVm s.vm)⟩,
      ⟨g, mk, s₂, L, E, ce, rfl, rfl, hx, hce, hcv, hcl, rfl, hL, rfl, rfl⟩, ?_⟩
    show Steps p.tables e below _ (((({ U with heap := s₂.heap, slotsUsed := s₂.slotsUsed } : State).setVm s₂.vm).setTop g).pushFrame (.throwing q))
    rw [← hs₂]
    exact hsteps
end Payer
section Calls
variable {p : Program} {l : Launch} {e : Env} {R : Room} {s : State} {m : MethodId} {args : Array Value} {below : List Frame} {meth : Method} {c : Code} {T : State} {locs : List Loc} {cells slots : Nat}
theorem vx_callV (X : Stand p l e R s m args below meth c T locs cells slots) (hexec : p.tables.exec = Jvm.exec) {own C : String} {index : Nat} {y : MethodName} {bytes : ByteArray} {maxL : Nat} {ret : Option FieldType}
    (hown : s.vm.findClass own = some m.cls) (hlink : (Cond.methodLink own index y).before args s = true) (hinst : (Cond.instanceMethod y).before args s = true) (hsel : (Cond.selects C y y).before args s = true)
    (hcode : (Cond.code y bytes maxL ret).before args s = true) (hy : y.cls ≠ "java/lang/invoke/MethodHandle" ∧ y.cls ≠ "java/lang/invoke/VarHandle")
    {W9 : Nat} {Pre : Pt → Array Value → Prop} {Post : Pt → Array Value → Option Value → Pt → Prop} {PostX : Pt → Array Value → Addr → Pt → Prop} (hK : vx_Back l R p e below s args y 3 W9 Pre Post PostX)
    {b : Addr} {cellB : Cell} (hcell : T.heap[b]? = some cellB) (hobj : cellB.vm.isStatics = false) (hcls : s.vm.findClass C = some cellB.cls)
    {g : JFrame} (hg : g.method = m) (hsize : g.locals.size = c.maxLocals) {argsL rest : List Value} (hlen : ∀ sig, parseMethodDescriptor y.desc = some sig → argsL.length = sig.parameters.length)
    (hstack : g.stack = argsL.reverse ++ .ref b :: rest) (hW : 2 * g.monitorRoom + (rest.map fun v => v.category).sum ≤ W9) (hdg : decode c.code g.pc = .ok (.invokevirtual index, 3))
    (hpre : ∀ vm₁, s.WarmedH vm₁ → Pre ⟨T.setVm vm₁, locs, cells, slots⟩ (Value.ref b :: argsL).toArray) :
    (∃ (v : Option Value) (vm₁ : Vm) (B : Pt), s.WarmedH vm₁ ∧ Stand p l e R s m args below meth c B.U B.locs B.cells B.slots ∧ Post ⟨T.setVm vm₁, locs, cells, slots⟩ (Value.ref b :: argsL).toArray v B ∧
      ∀ target, Steps p.tables e below (B.U.setTop { g with pc := g.pc + 3, stack := v.toList ++ rest }) target → Steps p.tables e below (T.setTop g) target) ∨
    (∃ (q : Addr) (vm₁ : Vm) (B : Pt), s.WarmedH vm₁ ∧ Stand p l e R s m args below meth c B.U B.locs B.cells B.slots ∧ PostX ⟨T.setVm vm₁, locs, cells, slots⟩ (Value.ref b :: argsL).toArray q B ∧
      Steps p.tables e below (T.setTop g) ((B.U.setTop { g with stack := rest }).pushFrame (.throwing q))) := by
  obtain ⟨mk, methM, hnamed, hmethM, hstM, habM⟩ := Cond.instanceMethod_spec hinst
  obtain ⟨methM', cM, hmethM', -, -, -, -, -, -, hsigM⟩ := Cond.code_spec hnamed hcode
  cases hmethM.symm.trans hmethM'
  obtain ⟨c2, r2, m2, q1, q2, q3, q4, kP, hkP, hkPi⟩ := Cond.selects_spec hsel
  cases hcls.symm.trans q1
  cases (State.methodFound?_of_named hnamed hy).symm.trans q2
  cases hnamed.symm.trans q3
  have hselP : selectMethod e.platform s.vm cellB.cls mk = .method mk := by rw [Launch.admits_selectMethod X.admits]; exact q4
  obtain ⟨vm₁, X₁, hstep₁⟩ := X.invokevirtual hexec hown hlink hnamed hmethM hstM hkP hkPi hy (a := b) (cell := cellB) hcell
    (fun z h => by rw [h] at hobj; cases hobj) hselP hmethM habM hkP hkPi (g := g) hg (argsL := argsL) (rest := rest) (hlen _ hsigM) hstack hdg
  rcases hK m meth c ⟨T.setVm vm₁, locs, cells, slots⟩ { g with stack := rest } (.invokevirtual index) mk (Value.ref b :: argsL).toArray X₁ hg hsize hdg hW (X₁.named hnamed) (hpre vm₁ X₁.warmed) with ⟨v, B, X', hpost, hsteps⟩ | ⟨q, B, X', hpost, hsteps⟩
  · exact Or.inl ⟨v, vm₁, B, X₁.warmed, X', hpost, fun target h => hstep₁ _ fun acts => by rw [doInvoke_state]; exact hsteps.trans h⟩
  · exact Or.inr ⟨q, vm₁, B, X₁.warmed, X', hpost, hstep₁ _ fun acts => by rw [doInvoke_state]; exact hsteps⟩
theorem vx_callS (X : Stand p l e R s m args below meth c T locs cells slots) (hexec : p.tables.exec = Jvm.exec) {own : String} {index : Nat} {y : MethodName} {bytes : ByteArray} {maxL : Nat} {ret : Option FieldType}
    (hown : s.vm.findClass own = some m.cls) (hlink : (Cond.methodLink own index y).before args s = true) (hstat : (Cond.static y).before args s = true) (hinit : (Cond.initialized y.cls).before args s = true)
    (hcode : (Cond.code y bytes maxL ret).before args s = true) (hy : y.cls ≠ "java/lang/invoke/MethodHandle" ∧ y.cls ≠ "java/lang/invoke/VarHandle")
    {W9 : Nat} {Pre : Pt → Array Value → Prop} {Post : Pt → Array Value → Option Value → Pt → Prop} {PostX : Pt → Array Value → Addr → Pt → Prop} (hK : vx_Back l R p e below s args y 3 W9 Pre Post PostX)
    {g : JFrame} (hg : g.method = m) (hsize : g.locals.size = c.maxLocals) {argsL rest : List Value} (hlen : ∀ sig, parseMethodDescriptor y.desc = some sig → argsL.length = sig.parameters.length)
    (hstack : g.stack = argsL.reverse ++ rest) (hW : 2 * g.monitorRoom + (rest.map fun v => v.category).sum ≤ W9) (hdg : decode c.code g.pc = .ok (.invokestatic index, 3))
    (hpre : ∀ vm₁, s.WarmedH vm₁ → Pre ⟨T.setVm vm₁, locs, cells, slots⟩ argsL.toArray) :
    (∃ (v : Option Value) (vm₁ : Vm) (B : Pt), s.WarmedH vm₁ ∧ Stand p l e R s m args below meth c B.U B.locs B.cells B.slots ∧ Post ⟨T.setVm vm₁, locs, cells, slots⟩ argsL.toArray v B ∧
      ∀ target, Steps p.tables e below (B.U.setTop { g with pc := g.pc + 3, stack := v.toList ++ rest }) target → Steps p.tables e below (T.setTop g) target) ∨
    (∃ (q : Addr) (vm₁ : Vm) (B : Pt), s.WarmedH vm₁ ∧ Stand p l e R s m args below meth c B.U B.locs B.cells B.slots ∧ PostX ⟨T.setVm vm₁, locs, cells, slots⟩ argsL.toArray q B ∧
      Steps p.tables e below (T.setTop g) ((B.U.setTop { g with stack := rest }).pushFrame (.throwing q))) := by
  obtain ⟨mk, hnamed⟩ := Cond.code_named hcode
  obtain ⟨methM, cM, hmethM, -, -, -, -, -, -, hsigM⟩ := Cond.code_spec hnamed hcode
  have hstatic : methM.isStatic = true := Cond.static_spec hnamed hmethM hstat
  obtain ⟨kP, hkP, -⟩ := className_of_methodNamed hnamed
  have hinitP : kP.init = .initialized := Cond.initialized_spec (findClass_of_methodNamed hnamed) hkP hinit
  obtain ⟨vm₁, X₁, hstep₁⟩ := X.invokestatic hexec hown hlink hnamed hmethM hstatic hkP hinitP hy (g := g) hg (argsL := argsL) (rest := rest) (hlen _ hsigM) hstack hdg
  rcases hK m meth c ⟨T.setVm vm₁, locs, cells, slots⟩ { g with stack := rest } (.invokestatic index) mk argsL.toArray X₁ hg hsize hdg hW (X₁.named hnamed) (hpre vm₁ X₁.warmed) with ⟨v, B, X', hpost, hsteps⟩ | ⟨q, B, X', hpost, hsteps⟩
  · exact Or.inl ⟨v, vm₁, B, X₁.warmed, X', hpost, fun target h => hstep₁ _ fun acts => by rw [doInvoke_state]; exact hsteps.trans h⟩
  · exact Or.inr ⟨q, vm₁, B, X₁.warmed, X', hpost, hstep₁ _ fun acts => by rw [doInvoke_state]; exact hsteps⟩
end Calls
theorem vx_cls {s : State} {T : State} {vm₁ : Vm} {E : String} {k : ClassId} (hW : s.WarmedH vm₁) (h : (T.setVm vm₁).vm.findClass E = some k) : s.vm.findClass E = some k := by
  have h1 : vm₁.findClass E = some k := h
  rw [hW.alike.findClass] at h1
  exact h1
/-- the method's frame g, with q thrown over it -/
def vx_W (p : Program) (l : Launch) (e : Env) (R : Room) (s : State) (m : MethodId) (args : Array Value) (below : List Frame) (meth : Method) (c : Code) (H : Heap) (locs : List Loc) (cells slots : Nat) (Q : State → Prop) (g : JFrame) (q : Addr) : Prop :=
  ∀ T : State, T.heap = H → Stand p l e R s m args below meth c T locs cells slots → ∃ t, Steps p.tables e below ((T.setTop g).pushFrame (.throwing q)) t ∧ Q t
def vx_Run (p : Program) (l : Launch) (e : Env) (R : Room) (s : State) (m : MethodId) (args : Array Value) (below : List Frame) (meth : Method) (c : Code) (H : Heap) (locs : List Loc) (cells slots mc ms : Nat) (g : JFrame) (rest : List Value) (Qa : State → Outcome → State → Prop) (XC : String → State → State → Prop) (free : Addr → Prop) : Prop :=
  ∀ T : State, T.heap = H → Stand p l e R s m args below meth c T locs cells slots →
    (∃ (v : Option Value) (st₀ t T' : State) (L : List Loc), st₀.heap = H ∧ Stand p l e R s m args below meth c T' (locs ++ L) (cells + mc) (slots + ms) ∧ (∀ q ∈ L, free q.base) ∧ T'.heap = t.heap ∧ T'.vm = t.vm ∧ Qa st₀ (.returned v) t ∧
      Goes p e below T g T' { g with pc := g.pc + 3, stack := v.toList ++ rest }) ∨
    (∃ (q : Addr) (st₀ t T' : State) (L : List Loc) (E : String) (ce : Cell), st₀.heap = H ∧ Stand p l e R s m args below meth c T' (locs ++ L) (cells + mc) (slots + ms) ∧ (∀ z ∈ L, free z.base) ∧ T'.heap = t.heap ∧ T'.vm = t.vm ∧ XC E st₀ t ∧ t.heap[q]? = some ce ∧ ce.vm = .none ∧ s.vm.findClass E = some ce.cls ∧
      Steps p.tables e below (T.setTop g) ((T'.setTop { g with stack := rest }).pushFrame (.throwing q)))
def vx_X {S : Type} (px : S → Prop) (B : String → S → State → Prop) (A : Nat → Prop) : String → State → State → Prop := fun E st t => ∃ u : S, px u ∧ B E u t ∧ va_F A st t
section Runs
variable {p : Program} {l : Launch} {e : Env} {R : Room} {s : State} {m : MethodId} {args : Array Value} {below : List Frame} {meth : Method} {c : Code} {H : Heap} {locs : List Loc} {cells slots : Nat}
variable {y : MethodName} {bytes cc : ByteArray} {maxL nL mc ms n index : Nat} {ret : Option FieldType} {ws : List Cond} {rm : Room} {Pc : Array Value → State → Prop} {Qc : Array Value → State → Outcome → State → Prop} {XC : String → State → State → Prop} {free : Addr → Prop} {Ts : List Cond} {own C : String} {b : Addr} {As rest : List Value} {g : JFrame}
theorem vx_callBack (cb : CallB R s args own index y bytes maxL ret ws rm mc ms n) (hM : vx_Met l y ws rm Pc Qc XC mc ms free) (hbl : FrameBlind Pc) : vx_Back l R p e below s args y 3 8 (PreOf R mc ms Pc) (PostOf Qc mc ms free) (vx_Post XC mc ms free) := by
  obtain ⟨hrc, hrs, hfr, hlo, hws, hcw, -, hini, -⟩ := cb
  exact vx_back (bytes := bytes) (maxL := maxL) (ret := ret) hM hbl hrc hrs hfr hlo hws hcw (fun a' U hW => word_at hW (Or.inl (by first | rfl | simp [Cond.onTables, Cond.keeps, Cond.steady])) hini)
theorem vx_runV (S : CallFix p m c cc nL s args Ts own) (hM : vx_Met l y ws rm Pc Qc XC mc ms free) (cw : CallW R s args own C index y bytes maxL ret ws rm mc ms n) (hp : PreV s H C b Pc As)
    (hg : g.method = m) (hn : As.length = n) (hsize : g.locals.size = nL) (hstack : g.stack = As.reverse ++ .ref b :: rest) (hW : 2 * g.monitorRoom + (rest.map fun v => v.category).sum ≤ 8) (hdg : decode cc g.pc = .ok (.invokevirtual index, 3)) (hf : cells + mc ≤ R.cells ∧ slots + ms ≤ R.slots) :
    vx_Run p l e R s m args below meth c H locs cells slots mc ms g rest (Qc (Value.ref b :: As).toArray) XC free := by
  have hK : vx_Back l R p e below s args y 3 8 (PreOf R mc ms Pc) (PostOf Qc mc ms free) (vx_Post XC mc ms free) := vx_callBack cw.1 hM hp.1
  obtain ⟨⟨-, -, -, -, -, -, hcode, -, hy, hlen, hl⟩, hin, hse⟩ := cw
  obtain ⟨hx, hb, hml, ho, -⟩ := S
  obtain ⟨-, ⟨cellB, hcB, hoB, hclB⟩, hPc⟩ := hp
  intro T hT X
  rcases vx_callV X hx (C := C) (bytes := bytes) (maxL := maxL) (ret := ret) ho hl hin hse hcode hy hK (by rw [hT]; exact hcB) hoB hclB hg (hsize.trans hml.symm) (argsL := As) (rest := rest) (fun sig h => hn.trans (hlen sig h)) hstack hW (by rw [hb]; exact hdg)
    (fun vm₁ hW₁ => ⟨hf.1, hf.2, hPc (T.setVm vm₁) hT hW₁⟩) with ⟨v, vm₁, ⟨U', l2, c2, s2⟩, hW₁, X', ⟨g', mk, t, L, e1, e2, hq, h1, hL, h2, h3⟩, st⟩ | ⟨q, vm₁, ⟨U', l2, c2, s2⟩, hW₁, X', ⟨g', mk, t, L, E, ce, e1, e2, hq, hce, hcv, hcl, h1, hL, h2, h3⟩, st⟩
  · dsimp only [Pt.U, Pt.locs, Pt.cells, Pt.slots] at X' e1 e2 h1 h2 h3 st
    subst h1; subst h2; subst h3
    exact Or.inl ⟨v, (T.setVm vm₁).calling g' mk (Value.ref b :: As).toArray, t, U', L, hT, X', hL, e1, e2, hq, st⟩
  · dsimp only [Pt.U, Pt.locs, Pt.cells, Pt.slots] at X' e1 e2 h1 h2 h3 st hcl
    subst h1; subst h2; subst h3
    exact Or.inr ⟨q, (T.setVm vm₁).calling g' mk (Value.ref b :: As).toArray, t, U', L, E, ce, hT, X', hL, e1, e2, hq, hce, hcv, vx_cls hW₁ hcl, st⟩
theorem vx_runS (S : CallFix p m c cc nL s args Ts own) (hM : vx_Met l y ws rm Pc Qc XC mc ms free) (cw : CallB R s args own index y bytes maxL ret ws rm mc ms n ∧ (Cond.static y).before args s = true) (hp : PreS s H Pc As)
    (hg : g.method = m) (hn : As.length = n) (hsize : g.locals.size = nL) (hstack : g.stack = As.reverse ++ rest) (hW : 2 * g.monitorRoom + (rest.map fun v => v.category).sum ≤ 8) (hdg : decode cc g.pc = .ok (.invokestatic index, 3)) (hf : cells + mc ≤ R.cells ∧ slots + ms ≤ R.slots) :
    vx_Run p l e R s m args below meth c H locs cells slots mc ms g rest (Qc As.toArray) XC free := by
  have hK : vx_Back l R p e below s args y 3 8 (PreOf R mc ms Pc) (PostOf Qc mc ms free) (vx_Post XC mc ms free) := vx_callBack cw.1 hM hp.1
  obtain ⟨⟨-, -, -, -, -, -, hcode, hini, hy, hlen, hl⟩, hstt⟩ := cw
  obtain ⟨hx, hb, hml, ho, -⟩ := S
  intro T hT X
  rcases vx_callS X hx (bytes := bytes) (maxL := maxL) (ret := ret) ho hl hstt hini hcode hy hK hg (hsize.trans hml.symm) (argsL := As) (rest := rest) (fun sig h => hn.trans (hlen sig h)) hstack hW (by rw [hb]; exact hdg)
    (fun vm₁ hW₁ => ⟨hf.1, hf.2, hp.2 (T.setVm vm₁) hT hW₁⟩) with ⟨v, vm₁, ⟨U', l2, c2, s2⟩, hW₁, X', ⟨g', mk, t, L, e1, e2, hq, h1, hL, h2, h3⟩, st⟩ | ⟨q, vm₁, ⟨U', l2, c2, s2⟩, hW₁, X', ⟨g', mk, t, L, E, ce, e1, e2, hq, hce, hcv, hcl, h1, hL, h2, h3⟩, st⟩
  · dsimp only [Pt.U, Pt.locs, Pt.cells, Pt.slots] at X' e1 e2 h1 h2 h3 st
    subst h1; subst h2; subst h3
    exact Or.inl ⟨v, (T.setVm vm₁).calling g' mk As.toArray, t, U', L, hT, X', hL, e1, e2, hq, st⟩
  · dsimp only [Pt.U, Pt.locs, Pt.cells, Pt.slots] at X' e1 e2 h1 h2 h3 st hcl
    subst h1; subst h2; subst h3
    exact Or.inr ⟨q, (T.setVm vm₁).calling g' mk As.toArray, t, U', L, E, ce, hT, X', hL, e1, e2, hq, hce, hcv, vx_cls hW₁ hcl, st⟩
end Runs
section Rows
variable {p : Program} {l : Launch} {e : Env} {R : Room} {s : State} {m : MethodId} {args : Array Value} {below : List Frame} {meth : Method} {c : Code} {H : Heap} {locs : List Loc} {cells slots : Nat} {Q : State → Prop}
variable {mc ms : Nat} {free : Addr → Prop} {A0 A1 : Nat → Prop} {H0 : Heap} {a : Array Value} {pc : Nat} {ls : Array Slot} {st0 rest : List Value}
theorem vx_keep {st₀ t T' : State} {L : List Loc} (h0 : st₀.heap = H) (e1 : T'.heap = t.heap) (hS : va_S A0 H0 H locs) (hA : ∀ q, q < H.size → A1 q → A0 q) (hf : ∀ q, free q → A0 q) (hL : ∀ q ∈ L, free q.base) (hF : va_F A1 st₀ t) :
    H.size ≤ T'.heap.size ∧ (∀ q : Nat, q < H.size → ¬ A1 q → T'.heap[q]? = H[q]?) ∧ va_S A0 H0 T'.heap (locs ++ L) := by
  obtain ⟨hz, hk⟩ := hF
  rw [h0] at hz hk
  exact ⟨by rw [e1]; exact hz, fun q h1 h2 => by rw [e1]; exact hk q h1 h2,
    ⟨Nat.le_trans hS.1 (by rw [e1]; exact hz), fun q h1 h2 => by rw [e1, hk q (Nat.lt_of_lt_of_le h1 hS.1) (fun z => h2 (hA q (Nat.lt_of_lt_of_le h1 hS.1) z))]; exact hS.2.1 q h1 h2, fun q hq => by
      rcases List.mem_append.mp hq with h | h
      · exact hS.2.2 q h
      · exact hf _ (hL q h)⟩⟩
theorem vx_calli {S SX : Type} {post : Int32 → S → Prop} {px : SX → Prop} {B : S → State → Prop} {BX : String → SX → State → Prop} {AX : Nat → Prop} (hr : vx_Run p l e R s m args below meth c H locs cells slots mc ms (F0 m pc ls st0) rest (va_Qi post B A1 a) (vx_X px BX AX) free) (hS : va_S A0 H0 H locs) (hA : ∀ q, q < H.size → A1 q → A0 q) (hf : ∀ q, free q → A0 q) (hAX : ∀ q, q < H.size → AX q → A0 q)
    (kx : ∀ (E : String) (ce : Cell) (q9 : Addr) (u : SX) (t : State) (H1 : Heap) (locs1 : List Loc), t.heap = H1 → s.vm.Alike t.vm → px u → BX E u t → H.size ≤ H1.size → (∀ q : Nat, q < H.size → ¬ AX q → H1[q]? = H[q]?) → va_S A0 H0 H1 locs1 → H1[q9]? = some ce → ce.vm = .none → s.vm.findClass E = some ce.cls → vx_W p l e R s m args below meth c H1 locs1 (cells + mc) (slots + ms) Q (F0 m pc ls rest) q9)
    (kk : ∀ (r : Int32) (u : S) (t : State) (H1 : Heap) (locs1 : List Loc), t.heap = H1 → s.vm.Alike t.vm → post r u → B u t → H.size ≤ H1.size → (∀ q : Nat, q < H.size → ¬ A1 q → H1[q]? = H[q]?) → va_S A0 H0 H1 locs1 → W p l e R s m args below meth c H1 locs1 (cells + mc) (slots + ms) Q (F0 m (pc + 3) ls (.int r :: rest))) : W p l e R s m args below meth c H locs cells slots Q (F0 m pc ls st0) := by
  intro T hT X
  rcases hr T hT X with ⟨v, st₀, t, T', L, h0, X', hL, e1, e2, ⟨⟨r, u, hv, hp, hb⟩, hF⟩, st⟩ | ⟨q, st₀, t, T', L, E, ce, h0, X', hL, e1, e2, ⟨u, hp, hb, hF⟩, hce, hcv, hcl, st⟩
  · cases hv
    obtain ⟨k1, k2, k3⟩ := vx_keep h0 e1 hS hA hf hL hF
    obtain ⟨t2, a1, b1⟩ := kk r u t T'.heap (locs ++ L) e1.symm (by rw [← e2]; exact X'.warmed.alike) hp hb k1 k2 k3 T' rfl X'
    exact ⟨t2, st t2 a1, b1⟩
  · obtain ⟨k1, k2, k3⟩ := vx_keep h0 e1 hS hAX hf hL hF
    obtain ⟨t2, a1, b1⟩ := kx E ce q u t T'.heap (locs ++ L) e1.symm (by rw [← e2]; exact X'.warmed.alike) hp hb k1 k2 k3 (by rw [e1]; exact hce) hcv hcl T' rfl X'
    exact ⟨t2, st.trans a1, b1⟩
theorem vx_calll {S SX : Type} {post : Int64 → S → Prop} {px : SX → Prop} {B : S → State → Prop} {BX : String → SX → State → Prop} {AX : Nat → Prop} (hr : vx_Run p l e R s m args below meth c H locs cells slots mc ms (F0 m pc ls st0) rest (va_Ql post B A1 a) (vx_X px BX AX) free) (hS : va_S A0 H0 H locs) (hA : ∀ q, q < H.size → A1 q → A0 q) (hf : ∀ q, free q → A0 q) (hAX : ∀ q, q < H.size → AX q → A0 q)
    (kx : ∀ (E : String) (ce : Cell) (q9 : Addr) (u : SX) (t : State) (H1 : Heap) (locs1 : List Loc), t.heap = H1 → s.vm.Alike t.vm → px u → BX E u t → H.size ≤ H1.size → (∀ q : Nat, q < H.size → ¬ AX q → H1[q]? = H[q]?) → va_S A0 H0 H1 locs1 → H1[q9]? = some ce → ce.vm = .none → s.vm.findClass E = some ce.cls → vx_W p l e R s m args below meth c H1 locs1 (cells + mc) (slots + ms) Q (F0 m pc ls rest) q9)
    (kk : ∀ (r : Int64) (u : S) (t : State) (H1 : Heap) (locs1 : List Loc), t.heap = H1 → s.vm.Alike t.vm → post r u → B u t → H.size ≤ H1.size → (∀ q : Nat, q < H.size → ¬ A1 q → H1[q]? = H[q]?) → va_S A0 H0 H1 locs1 → W p l e R s m args below meth c H1 locs1 (cells + mc) (slots + ms) Q (F0 m (pc + 3) ls (.long r :: rest))) : W p l e R s m args below meth c H locs cells slots Q (F0 m pc ls st0) := by
  intro T hT X
  rcases hr T hT X with ⟨v, st₀, t, T', L, h0, X', hL, e1, e2, ⟨⟨r, u, hv, hp, hb⟩, hF⟩, st⟩ | ⟨q, st₀, t, T', L, E, ce, h0, X', hL, e1, e2, ⟨u, hp, hb, hF⟩, hce, hcv, hcl, st⟩
  · cases hv
    obtain ⟨k1, k2, k3⟩ := vx_keep h0 e1 hS hA hf hL hF
    obtain ⟨t2, a1, b1⟩ := kk r u t T'.heap (locs ++ L) e1.symm (by rw [← e2]; exact X'.warmed.alike) hp hb k1 k2 k3 T' rfl X'
    exact ⟨t2, st t2 a1, b1⟩
  · obtain ⟨k1, k2, k3⟩ := vx_keep h0 e1 hS hAX hf hL hF
    obtain ⟨t2, a1, b1⟩ := kx E ce q u t T'.heap (locs ++ L) e1.symm (by rw [← e2]; exact X'.warmed.alike) hp hb k1 k2 k3 (by rw [e1]; exact hce) hcv hcl T' rfl X'
    exact ⟨t2, st.trans a1, b1⟩
theorem vx_callf {S SX : Type} {post : UInt32 → S → Prop} {px : SX → Prop} {B : S → State → Prop} {BX : String → SX → State → Prop} {AX : Nat → Prop} (hr : vx_Run p l e R s m args below meth c H locs cells slots mc ms (F0 m pc ls st0) rest (va_Qf post B A1 a) (vx_X px BX AX) free) (hS : va_S A0 H0 H locs) (hA : ∀ q, q < H.size → A1 q → A0 q) (hf : ∀ q, free q → A0 q) (hAX : ∀ q, q < H.size → AX q → A0 q)
    (kx : ∀ (E : String) (ce : Cell) (q9 : Addr) (u : SX) (t : State) (H1 : Heap) (locs1 : List Loc), t.heap = H1 → s.vm.Alike t.vm → px u → BX E u t → H.size ≤ H1.size → (∀ q : Nat, q < H.size → ¬ AX q → H1[q]? = H[q]?) → va_S A0 H0 H1 locs1 → H1[q9]? = some ce → ce.vm = .none → s.vm.findClass E = some ce.cls → vx_W p l e R s m args below meth c H1 locs1 (cells + mc) (slots + ms) Q (F0 m pc ls rest) q9)
    (kk : ∀ (r : UInt32) (u : S) (t : State) (H1 : Heap) (locs1 : List Loc), t.heap = H1 → s.vm.Alike t.vm → post r u → B u t → H.size ≤ H1.size → (∀ q : Nat, q < H.size → ¬ A1 q → H1[q]? = H[q]?) → va_S A0 H0 H1 locs1 → W p l e R s m args below meth c H1 locs1 (cells + mc) (slots + ms) Q (F0 m (pc + 3) ls (.float r :: rest))) : W p l e R s m args below meth c H locs cells slots Q (F0 m pc ls st0) := by
  intro T hT X
  rcases hr T hT X with ⟨v, st₀, t, T', L, h0, X', hL, e1, e2, ⟨⟨r, u, hv, hp, hb⟩, hF⟩, st⟩ | ⟨q, st₀, t, T', L, E, ce, h0, X', hL, e1, e2, ⟨u, hp, hb, hF⟩, hce, hcv, hcl, st⟩
  · cases hv
    obtain ⟨k1, k2, k3⟩ := vx_keep h0 e1 hS hA hf hL hF
    obtain ⟨t2, a1, b1⟩ := kk r u t T'.heap (locs ++ L) e1.symm (by rw [← e2]; exact X'.warmed.alike) hp hb k1 k2 k3 T' rfl X'
    exact ⟨t2, st t2 a1, b1⟩
  · obtain ⟨k1, k2, k3⟩ := vx_keep h0 e1 hS hAX hf hL hF
    obtain ⟨t2, a1, b1⟩ := kx E ce q u t T'.heap (locs ++ L) e1.symm (by rw [← e2]; exact X'.warmed.alike) hp hb k1 k2 k3 (by rw [e1]; exact hce) hcv hcl T' rfl X'
    exact ⟨t2, st.trans a1, b1⟩
theorem vx_calld {S SX : Type} {post : UInt64 → S → Prop} {px : SX → Prop} {B : S → State → Prop} {BX : String → SX → State → Prop} {AX : Nat → Prop} (hr : vx_Run p l e R s m args below meth c H locs cells slots mc ms (F0 m pc ls st0) rest (va_Qd post B A1 a) (vx_X px BX AX) free) (hS : va_S A0 H0 H locs) (hA : ∀ q, q < H.size → A1 q → A0 q) (hf : ∀ q, free q → A0 q) (hAX : ∀ q, q < H.size → AX q → A0 q)
    (kx : ∀ (E : String) (ce : Cell) (q9 : Addr) (u : SX) (t : State) (H1 : Heap) (locs1 : List Loc), t.heap = H1 → s.vm.Alike t.vm → px u → BX E u t → H.size ≤ H1.size → (∀ q : Nat, q < H.size → ¬ AX q → H1[q]? = H[q]?) → va_S A0 H0 H1 locs1 → H1[q9]? = some ce → ce.vm = .none → s.vm.findClass E = some ce.cls → vx_W p l e R s m args below meth c H1 locs1 (cells + mc) (slots + ms) Q (F0 m pc ls rest) q9)
    (kk : ∀ (r : UInt64) (u : S) (t : State) (H1 : Heap) (locs1 : List Loc), t.heap = H1 → s.vm.Alike t.vm → post r u → B u t → H.size ≤ H1.size → (∀ q : Nat, q < H.size → ¬ A1 q → H1[q]? = H[q]?) → va_S A0 H0 H1 locs1 → W p l e R s m args below meth c H1 locs1 (cells + mc) (slots + ms) Q (F0 m (pc + 3) ls (.double r :: rest))) : W p l e R s m args below meth c H locs cells slots Q (F0 m pc ls st0) := by
  intro T hT X
  rcases hr T hT X with ⟨v, st₀, t, T', L, h0, X', hL, e1, e2, ⟨⟨r, u, hv, hp, hb⟩, hF⟩, st⟩ | ⟨q, st₀, t, T', L, E, ce, h0, X', hL, e1, e2, ⟨u, hp, hb, hF⟩, hce, hcv, hcl, st⟩
  · cases hv
    obtain ⟨k1, k2, k3⟩ := vx_keep h0 e1 hS hA hf hL hF
    obtain ⟨t2, a1, b1⟩ := kk r u t T'.heap (locs ++ L) e1.symm (by rw [← e2]; exact X'.warmed.alike) hp hb k1 k2 k3 T' rfl X'
    exact ⟨t2, st t2 a1, b1⟩
  · obtain ⟨k1, k2, k3⟩ := vx_keep h0 e1 hS hAX hf hL hF
    obtain ⟨t2, a1, b1⟩ := kx E ce q u t T'.heap (locs ++ L) e1.symm (by rw [← e2]; exact X'.warmed.alike) hp hb k1 k2 k3 (by rw [e1]; exact hce) hcv hcl T' rfl X'
    exact ⟨t2, st.trans a1, b1⟩
theorem vx_callv {S SX : Type} {post : S → Prop} {px : SX → Prop} {B : S → State → Prop} {BX : String → SX → State → Prop} {AX : Nat → Prop} (hr : vx_Run p l e R s m args below meth c H locs cells slots mc ms (F0 m pc ls st0) rest (va_Qv post B A1 a) (vx_X px BX AX) free) (hS : va_S A0 H0 H locs) (hA : ∀ q, q < H.size → A1 q → A0 q) (hf : ∀ q, free q → A0 q) (hAX : ∀ q, q < H.size → AX q → A0 q)
    (kx : ∀ (E : String) (ce : Cell) (q9 : Addr) (u : SX) (t : State) (H1 : Heap) (locs1 : List Loc), t.heap = H1 → s.vm.Alike t.vm → px u → BX E u t → H.size ≤ H1.size → (∀ q : Nat, q < H.size → ¬ AX q → H1[q]? = H[q]?) → va_S A0 H0 H1 locs1 → H1[q9]? = some ce → ce.vm = .none → s.vm.findClass E = some ce.cls → vx_W p l e R s m args below meth c H1 locs1 (cells + mc) (slots + ms) Q (F0 m pc ls rest) q9)
    (kk : ∀ (u : S) (t : State) (H1 : Heap) (locs1 : List Loc), t.heap = H1 → s.vm.Alike t.vm → post u → B u t → H.size ≤ H1.size → (∀ q : Nat, q < H.size → ¬ A1 q → H1[q]? = H[q]?) → va_S A0 H0 H1 locs1 → W p l e R s m args below meth c H1 locs1 (cells + mc) (slots + ms) Q (F0 m (pc + 3) ls (rest))) : W p l e R s m args below meth c H locs cells slots Q (F0 m pc ls st0) := by
  intro T hT X
  rcases hr T hT X with ⟨v, st₀, t, T', L, h0, X', hL, e1, e2, ⟨⟨u, hv, hp, hb⟩, hF⟩, st⟩ | ⟨q, st₀, t, T', L, E, ce, h0, X', hL, e1, e2, ⟨u, hp, hb, hF⟩, hce, hcv, hcl, st⟩
  · cases hv
    obtain ⟨k1, k2, k3⟩ := vx_keep h0 e1 hS hA hf hL hF
    obtain ⟨t2, a1, b1⟩ := kk u t T'.heap (locs ++ L) e1.symm (by rw [← e2]; exact X'.warmed.alike) hp hb k1 k2 k3 T' rfl X'
    exact ⟨t2, st t2 a1, b1⟩
  · obtain ⟨k1, k2, k3⟩ := vx_keep h0 e1 hS hAX hf hL hF
    obtain ⟨t2, a1, b1⟩ := kx E ce q u t T'.heap (locs ++ L) e1.symm (by rw [← e2]; exact X'.warmed.alike) hp hb k1 k2 k3 (by rw [e1]; exact hce) hcv hcl T' rfl X'
    exact ⟨t2, st.trans a1, b1⟩
/-- caught by the row x of this method's table; the rows ahead don't take it -/
theorem vx_catch {own name : String} {E : String} {ce : Cell} {q : Addr} (hown : s.vm.findClass own = some m.cls) (pre : List ExceptionTableEntry) (x : ExceptionTableEntry) (suf : List ExceptionTableEntry) (hsplit : c.exceptionTable.toList = pre ++ x :: suf)
    (hpass : ∀ z ∈ pre, covers z pc = false ∨ (z.catchType ≠ 0 ∧ ∃ nm : String, (Cond.classLink own z.catchType nm).before args s = true ∧ va_Nc E nm s)) (hx : covers x pc = true) (h0 : x.catchType ≠ 0)
    (hlink : (Cond.classLink own x.catchType name).before args s = true) (hcast : (Cond.castable E name).before args s = true) (hcell : H[q]? = some ce) (hv : ce.vm = .none) (hcl : s.vm.findClass E = some ce.cls)
    (kk : W p l e R s m args below meth c H locs cells slots Q (F0 m x.handlerPc ls [.ref q])) : vx_W p l e R s m args below meth c H locs cells slots Q (F0 m pc ls rest) q := by
  intro T hT X
  have hpl : e.platform.magicAccessors = ({} : Platform).magicAccessors := by rw [X.admits.platform]
  obtain ⟨c3, c4, hc3, hc4, hasg⟩ := Cond.castable_spec hcast
  cases Option.some.inj (hc3.symm.trans hcl)
  obtain ⟨c5, hc5, hcl5⟩ := Cond.classLink_spec hown hlink e.platform hpl
  cases Option.some.inj (hc4.symm.trans hc5)
  obtain ⟨vm', X', st⟩ := X.thenCaughtThrough q (g := F0 m pc ls rest) rfl (Steps.refl _) (by rw [hT]; exact hcell) (by rw [hv]; rfl) (by obtain ⟨k9, h9, -⟩ := Vm.findClass_spec hcl; exact ⟨k9, h9⟩) pre x suf hsplit
    (fun z hz => by
      rcases hpass z hz with h | ⟨hz0, nm, hl1, hn1⟩
      · exact Or.inl h
      · obtain ⟨c6, hc6, hcl6⟩ := Cond.classLink_spec hown hl1 e.platform hpl
        obtain ⟨a8, b8, h1, h2, h3⟩ := hn1
        cases Option.some.inj (h1.symm.trans hcl)
        cases Option.some.inj (h2.symm.trans hc6)
        exact Or.inr ⟨hz0, _, hcl6, h3⟩) hx (Or.inr ⟨h0, c4, hcl5, hasg⟩)
  obtain ⟨t, a1, b1⟩ := kk (T.setVm vm') hT X'
  exact ⟨t, st.trans a1, b1⟩
end Rows
section Ends
variable {p : Program} {l : Launch} {e : Env} {R : Room} {s : State} {m : MethodId} {args : Array Value} {below : List Frame} {meth : Method} {c : Code} {H : Heap} {locs : List Loc} {cells slots : Nat} {Q : State → Prop}
variable {mc ms : Nat} {free : Addr → Prop} {A0 A1 : Nat → Prop} {H0 : Heap} {a : Array Value} {ls : Array Slot} {st0 rest : List Value}
variable {Qc : Array Value → State → Outcome → State → Prop} {XC : String → State → State → Prop}
/-- what a body that may throw owes at its end -/
def vx_MQ (below : List Frame) (Qc : Array Value → State → Outcome → State → Prop) (XC : String → State → State → Prop) (a : Array Value) (s : State) (mc ms : Nat) (free : Addr → Prop) : State → Prop := fun t =>
  ∃ o, t.status = .running ∧ Ended t below o ∧ vx_Q Qc XC mc ms free a s o t
theorem vx_ret {g : JFrame} {mc ms : Nat} (k : W p l e R s m args below meth c H locs cells slots (MQ below Qc args s mc ms free) g) : W p l e R s m args below meth c H locs cells slots (vx_MQ below Qc XC args s mc ms free) g := by
  intro T hT X
  obtain ⟨t, a1, o, b1, b2, b3, b4⟩ := k T hT X
  exact ⟨t, a1, o, b1, b2, Or.inl ⟨b3, b4⟩⟩
/-- not caught here: it goes on to the caller -/
theorem vx_widen {g : JFrame} {q : Addr} {k n : Nat} (h1 : cells ≤ k) (h2 : slots ≤ n) (kk : vx_W p l e R s m args below meth c H locs k n Q g q) : vx_W p l e R s m args below meth c H locs cells slots Q g q := fun T hT X => kk T hT (stand_widen X h1 h2)
theorem vx_out {pc : Nat} {E : String} {ce : Cell} {q : Addr} {mc ms : Nat} (hout : ∀ x ∈ c.exceptionTable.toList, covers x pc = false) (hlocks : meth.locks = false) (hcell : H[q]? = some ce) (hv : ce.vm = .none) (hcl : s.vm.findClass E = some ce.cls)
    (hx : ∀ t : State, t.heap = H → s.vm.Alike t.vm → XC E s t) (hf : ∀ z ∈ locs, free z.base) (hc : cells ≤ mc) (hs : slots ≤ ms) :
    vx_W p l e R s m args below meth c H locs cells slots (vx_MQ below Qc XC args s mc ms free) (F0 m pc ls rest) q := by
  intro T hT X
  obtain ⟨st1, hrun, hend, hW, hsm⟩ := X.leaveThrown q (g := F0 m pc ls rest) rfl rfl rfl hout hlocks
  have hcell9 : (T.setFrames (.throwing q :: below)).heap[q]? = some ce := by
    show T.heap[q]? = some ce
    rw [hT]; exact hcell
  exact ⟨_, st1, .threw q, hrun, hend, Or.inr ⟨q, rfl, E, ce, locs, hx _ hT hW.alike, hcell9, hv, hcl, hW, hsm.mono hc hs, hf⟩⟩
theorem vx_frame {U : State} {k n : Nat} (h : s.sameButNew ({ U with vm := s.vm } : State) locs k n) : s.heap.size ≤ U.heap.size ∧ ∀ q : Nat, q < s.heap.size → (∀ z ∈ locs, z.base ≠ q) → U.heap[q]? = s.heap[q]? := by
  obtain ⟨-, h2, -, -, -, h6⟩ := h
  refine ⟨h2, fun q hq hz => ?_⟩
  obtain ⟨c9, e1, e2, e3, e4⟩ := h6 q _ (Array.getElem?_eq_getElem hq)
  have hs : c9.slots = (s.heap[q]).slots := Array.ext_getElem? fun i => e4 i fun hm => hz _ hm rfl
  have h9 : c9 = s.heap[q] := by
    rw [hs] at e2
    exact e2
  have e5 : U.heap[q]? = some c9 := e1
  rw [e5, h9, Array.getElem?_eq_getElem hq]
/-- the words of a throw but the four that speak of the heap -/
def vx_no (w : Cond) : Bool := decide (w ≠ .isRef (.static Bundle.tN "UNASSIGNED_STACK" Bundle.steD)) && decide (w ≠ .isRef (.static Bundle.tN "SUPPRESSED_SENTINEL" Bundle.listD)) && decide (w ≠ .laysStatic Bundle.tN "UNASSIGNED_STACK" Bundle.steD) && decide (w ≠ .laysStatic Bundle.tN "SUPPRESSED_SENTINEL" Bundle.listD)
def vx_at0 (own : String) (ic : Nat) (X : String) (names : List String) : List Cond := (Bundle.ownAtoms0 own ic X names).filter vx_no
def vx_atS (own : String) (ic : Nat) (X : String) (names : List String) : List Cond := (Bundle.ownAtoms own ic X names).filter vx_no
/-- a word that the tables alone decide, or a good one -/
def vx_ot (w : Cond) : Bool := w.onTables || goodWord w
theorem vx_ot_at {args a' : Array Value} {s U : State} {w : Cond} (hW : s.WarmedH U.vm) (hvm : s.vm = U.vm) (hg : vx_ot w = true) (h : w.before args s = true) : w.before a' U = true := by
  simp only [vx_ot, Bool.or_eq_true] at hg
  rcases hg with hg | hg
  · exact va_tabs hg hvm h
  · exact word_at hW (good_of_word hg) h
/-- a list's words: the good ones out of the method's own list, the others by premises of their own -/
theorem vx_hat {args : Array Value} {s : State} {L B : List Cond} (h1 : ∀ w ∈ L.filter goodWord, w.before args s = true) (h2 : ∀ w ∈ L.filter (fun w => !goodWord w), w ∈ B) (h3 : ∀ w ∈ B, w.before args s = true) : ∀ w ∈ L, w.before args s = true := by
  intro w hw
  by_cases g : goodWord w = true
  · exact h1 w (List.mem_filter.mpr ⟨hw, g⟩)
  · refine h3 w (h2 w (List.mem_filter.mpr ⟨hw, ?_⟩))
    show (!goodWord w) = true
    cases hgw : goodWord w
    · rfl
    · exact absurd hgw g
theorem vx_c {args : Array Value} {s : State} {w : Cond} {B : List Cond} (h : w.before args s = true) (t : ∀ w ∈ B, w.before args s = true) : ∀ w' ∈ w :: B, w'.before args s = true := fun w' h' => (List.mem_cons.mp h').elim (fun e => by rw [e]; exact h) (t w')
theorem vx_n {args : Array Value} {s : State} : ∀ w ∈ ([] : List Cond), w.before args s = true := fun _ h => nomatch h
theorem vx_own {args : Array Value} {s : State} {L : List Cond} (h1 : ∀ w ∈ L.filter vx_no, w.before args s = true)
    (hU : (Cond.isRef (.static Bundle.tN "UNASSIGNED_STACK" Bundle.steD)).before args s = true) (hN : (Cond.isRef (.static Bundle.tN "SUPPRESSED_SENTINEL" Bundle.listD)).before args s = true)
    (lU : (Cond.laysStatic Bundle.tN "UNASSIGNED_STACK" Bundle.steD).before args s = true) (lN : (Cond.laysStatic Bundle.tN "SUPPRESSED_SENTINEL" Bundle.listD).before args s = true) : ∀ w ∈ L, w.before args s = true := by
  intro w hw
  by_cases e1 : w = .isRef (.static Bundle.tN "UNASSIGNED_STACK" Bundle.steD)
  · rw [e1]; exact hU
  · by_cases e2 : w = .isRef (.static Bundle.tN "SUPPRESSED_SENTINEL" Bundle.listD)
    · rw [e2]; exact hN
    · by_cases e3 : w = .laysStatic Bundle.tN "UNASSIGNED_STACK" Bundle.steD
      · rw [e3]; exact lU
      · by_cases e4 : w = .laysStatic Bundle.tN "SUPPRESSED_SENTINEL" Bundle.listD
        · rw [e4]; exact lN
        · exact h1 w (List.mem_filter.mpr ⟨hw, by unfold vx_no; rw [decide_eq_true e1, decide_eq_true e2, decide_eq_true e3, decide_eq_true e4]; rfl⟩)
/-- where a static field lies, its class's statics cell in H -/
def vx_L (C n d : String) (A : Nat → Prop) (U : State) (H : Heap) : Prop := ∃ (c : ClassId) (k : Class) (i : Nat) (f : Field) (a : Nat) (cell : Cell), U.vm.findClass C = some c ∧ U.fieldFound? C n d = some (c, k, i, f) ∧ f.isStatic = true ∧ k.statics = some a ∧ H[a]? = some cell ∧ cell.vm.isStatics = true ∧ cell.cls = c ∧ f.slot < cell.slots.size ∧ k.staticTypes[f.slot]? = some f.type ∧ ¬ A a
theorem vx_L.moved {C n d : String} {A : Nat → Prop} {u U : State} {H : Heap} (hvm : u.vm.Alike U.vm) (h : vx_L C n d A u H) : vx_L C n d A U H := by
  obtain ⟨c, k, i, f, a, cell, h1, h2, h3, h4, h5, h6, h7, h8, h9, h10⟩ := h
  obtain ⟨k', hi', he⟩ := State.fieldFound?_setVm hvm h2
  exact ⟨c, k', i, f, a, cell, by rw [hvm.findClass]; exact h1, hi', h3, by rw [he]; exact h4, h5, h6, h7, h8, by rw [he]; exact h9, h10⟩
theorem vx_L.kept {C n d : String} {A : Nat → Prop} {U : State} {H H1 : Heap} (h : vx_L C n d A U H) (hq : ∀ a : Nat, a < H.size → ¬ A a → H1[a]? = H[a]?) : vx_L C n d A U H1 := by
  obtain ⟨c, k, i, f, a, cell, h1, h2, h3, h4, h5, h6, h7, h8, h9, h10⟩ := h
  exact ⟨c, k, i, f, a, cell, h1, h2, h3, h4, by rw [hq a (Array.getElem?_eq_some_iff.mp h5).1 h10]; exact h5, h6, h7, h8, h9, h10⟩
theorem vx_L.narrow {C n d : String} {A B : Nat → Prop} {U : State} {H : Heap} (h : vx_L C n d A U H) (hAB : ∀ q, B q → A q) : vx_L C n d B U H := by
  obtain ⟨c, k, i, f, a, cell, h1, h2, h3, h4, h5, h6, h7, h8, h9, h10⟩ := h
  exact ⟨c, k, i, f, a, cell, h1, h2, h3, h4, h5, h6, h7, h8, h9, fun z => h10 (hAB _ z)⟩
theorem vx_L.word {C n d : String} {A : Nat → Prop} {s : State} {args : Array Value} (h : vx_L C n d A s s.heap) : (Cond.laysStatic C n d).before args s = true := by
  obtain ⟨c, k, i, f, a, cell, h1, h2, h3, h4, h5, h6, h7, h8, h9, -⟩ := h
  show (Cond.laysStatic C n d).holds args s none s [] = true
  exact Cond.laysStatic_of h1 h2 h3 h4 h5 h6 h7 h8 h9
/-- .. and what it holds: null or some reference -/
def vx_Zq (C n d : String) (A : Nat → Prop) (U : State) (H : Heap) : Prop := va_Zq C n d A U H ∧ vx_L C n d A U H
theorem vx_Zq.moved {C n d : String} {A : Nat → Prop} {u U : State} {H : Heap} (hvm : u.vm.Alike U.vm) (h : vx_Zq C n d A u H) : vx_Zq C n d A U H := ⟨va_Zq.moved hvm h.1, vx_L.moved hvm h.2⟩
theorem vx_Zq.kept {C n d : String} {A : Nat → Prop} {U : State} {H H1 : Heap} (h : vx_Zq C n d A U H) (hq : ∀ a : Nat, a < H.size → ¬ A a → H1[a]? = H[a]?) : vx_Zq C n d A U H1 := ⟨va_Zq.kept h.1 hq, vx_L.kept h.2 hq⟩
theorem vx_Zq.narrow {C n d : String} {A B : Nat → Prop} {U : State} {H : Heap} (h : vx_Zq C n d A U H) (hAB : ∀ q, B q → A q) : vx_Zq C n d B U H := ⟨va_Zq.narrow h.1 hAB, vx_L.narrow h.2 hAB⟩
theorem vx_Zqof {args : Array Value} {s : State} {C n d : String} {A : Nat → Prop} (hl : (Cond.laysStatic C n d).before args s = true) (hini : (Cond.initialized C).before args s = true) (h : (Cond.isRef (.static C n d)).before args s = true) (hA : ∀ a : Nat, a < s.heap.size → ¬ A a) : vx_Zq C n d A s s.heap := by
  refine ⟨va_Zqof hl hini h hA, ?_⟩
  obtain ⟨c, k, i, f, a, cell, h1, h2, h3, h4, h5, h6, h7, h8, h9⟩ := Cond.laysStatic_spec hl
  exact ⟨c, k, i, f, a, cell, h1, h2, h3, h4, h5, h6, h7, h8, h9, hA a (Array.getElem?_eq_some_iff.mp h5).1⟩
theorem vx_isRef {C n d : String} {v : Value} {A : Nat → Prop} {s : State} {args : Array Value} (h : va_Z C n d v A s s.heap) (hv : v.isRef = true) : (Cond.isRef (.static C n d)).before args s = true := by
  obtain ⟨cf, kf, fi, f, a, cell, h1, h2, h3, h4, h5, h6, h7, -⟩ := h
  have he : (Term.static C n d).eval args s none [] s = some v := by
    simp [Term.eval, State.fieldNamed?, h1, h2, h4, h5, h6, h7]
  simp only [Cond.before, Cond.holds, Cond.value, he]
  cases v <;> simp_all [Value.isRef]
theorem vx_isRefq {C n d : String} {A : Nat → Prop} {s : State} {args : Array Value} (h : va_Zq C n d A s s.heap) : (Cond.isRef (.static C n d)).before args s = true := by
  rcases h with h | ⟨t, h⟩
  · exact vx_isRef h rfl
  · exact vx_isRef h rfl
/-- the same frame, seen from here: as if the method were called anew in this heap -/
theorem vx_rebase {T : State} (X : Stand p l e R s m args below meth c T locs cells slots) {R' : Room} (hf : R'.frames ≤ R.frames) (hl : R'.locals ≤ R.locals) (hc : cells + R'.cells ≤ R.cells) (hs : slots + R'.slots ≤ R.slots) :
    Stand p l e R' ((T.setVm s.vm).setFrames (.invoking m args :: below)) m args below meth c T [] 0 0 := by
  have htop : (T.setVm s.vm).topJava?.isSome := X.here.top
  have hF : ((T.setVm s.vm).setFrames (.invoking m args :: below)).frames = .invoking m args :: below := State.frames_setFrames _ (State.cur_lt_of_top htop)
  obtain ⟨g₀, hg0⟩ := Option.isSome_iff_exists.mp htop
  obtain ⟨r, hr⟩ := State.topJava?_eq_some.mp hg0
  have hl9 : e.platform.stackLimits (T.setVm s.vm).me = e.platform.stackLimits s.me := X.limits
  have hb9 : (T.setVm s.vm).me.stackBytes = s.me.stackBytes := X.bytes
  refine ⟨X.admits, X.cas, X.clock, hF, ?_, X.hears, X.method, X.code, X.here, X.tail, X.warmed, ?_, ?_, ?_⟩
  · have h := X.room
    have hU : ((T.setVm s.vm).setFrames (.invoking m args :: below)).localsInUse = s.localsInUse := by
      rw [State.localsInUse_invoking hF (meth := meth) (c := c) X.method X.code, State.localsInUse_invoking X.frames X.method X.code]
    simp only [State.hasRoom, Bool.and_eq_true, decide_eq_true_eq] at h ⊢
    obtain ⟨⟨⟨⟨h1, h2, h3, h4, h5, h6⟩, h7⟩, h8⟩, h9⟩ := h
    rw [X.frames, List.length_cons] at h2 h3
    have q1 := X.heapSize
    have q2 := X.used
    simp only [hF, hU, List.length_cons, State.stackLimits_setFrames, State.stackBytes_setFrames, hl9, hb9]
    refine ⟨⟨⟨⟨by omega, by omega, by omega, by omega, by omega, h6⟩, ?_⟩, ?_⟩, X.book⟩
    · show T.heap.size + R'.cells ≤ e.platform.maxCells
      omega
    · show T.slotsUsed + R'.slots ≤ e.platform.maxSlots
      omega
  · rw [State.stackLimits_setFrames]; rfl
  · rw [State.stackBytes_setFrames]; rfl
  · refine ⟨?_, Nat.le_refl _, Nat.le_refl _, ?_, ?_, fun a c9 h9 => ⟨c9, h9, rfl, rfl, fun _ _ => rfl⟩⟩
    · obtain ⟨t, ht, -⟩ := State.frames_cons hr
      show T.setVm s.vm = { ((T.setVm s.vm).setFrames (.invoking m args :: below)).setFrames (T.setVm s.vm).frames with heap := T.heap, slotsUsed := T.slotsUsed }
      rw [State.setFrames_setFrames, State.setFrames_self ht]
      rfl
    · show T.slotsUsed = T.slotsUsed + ((T.heap.toList.drop T.heap.size).map (·.slots.size)).sum
      rw [List.drop_eq_nil_of_le (Nat.le_of_eq Array.length_toList)]
      rfl
    · show ((T.heap.toList.drop T.heap.size).map (·.slots.size)).sum ≤ 0
      rw [List.drop_eq_nil_of_le (Nat.le_of_eq Array.length_toList)]
      exact Nat.le_refl _
/-- 'throw new E()': new; dup; invokespecial; athrow -/
theorem vx_throw0 {cc : ByteArray} {pc : Nat} (hexec : p.tables.exec = Jvm.exec) (hb : c.code = cc) (hl : l.stackTraces = false) {own cls : String} {names : List String} {ik ic mc ms : Nat} {A : Nat → Prop}
    (hown : s.vm.findClass own = some m.cls) (hcls : Bundle.fit cls = true) (hnames : ∀ n ∈ names, Bundle.fit n = true)
    (hk : (Cond.classLink own ik cls).before args s = true) (hini : (Cond.initialized cls).before args s = true) (hat : ∀ w ∈ vx_at0 own ic cls names, w.before args s = true)
    (hgood : ∀ w ∈ Cond.classLink own ik cls :: Cond.initialized cls :: vx_at0 own ic cls names, vx_ot w = true)
    (hU : vx_Zq Bundle.tN "UNASSIGNED_STACK" Bundle.steD A s s.heap) (hN : vx_Zq Bundle.tN "SUPPRESSED_SENTINEL" Bundle.listD A s s.heap) (hS : va_S A s.heap H locs) (hsize : ls.size = c.maxLocals)
    (d0 : decode cc pc = .ok (.new ik, 3)) (d3 : decode cc (pc + 3) = .ok (.dup, 1)) (d4 : decode cc (pc + 4) = .ok (.invokespecial ic, 3)) (d7 : decode cc (pc + 7) = .ok (.athrow, 1))
    (hout : ∀ x ∈ c.exceptionTable.toList, covers x (pc + 7) = false)
    (hRframes : names.length + 3 < R.frames) (hRlocals : (rest.map fun v => v.category).sum + (13 * (names.length + 1) + 42) ≤ R.locals) (hRcells : cells + 1 ≤ R.cells) (hRslots : slots + 6 ≤ R.slots) (hlocks : meth.locks = false)
    (hx : ∀ t : State, s.vm.Alike t.vm → H.size ≤ t.heap.size → (∀ q : Nat, q < H.size → t.heap[q]? = H[q]?) → XC cls s t)
    (hf : ∀ z ∈ locs, free z.base) (hc : cells + 1 ≤ mc) (hs : slots + 6 ≤ ms) :
    W p l e R s m args below meth c H locs cells slots (vx_MQ below Qc XC args s mc ms free) (F0 m pc ls rest) := by
  intro T hT X
  have htr : e.platform.stackTraces = false := (show e.platform.stackTraces = l.stackTraces by rw [X.admits.platform]).trans hl
  have Y := vx_rebase X (R' := { frames := R.frames, locals := R.locals, cells := 1, slots := 6 }) (Nat.le_refl _) (Nat.le_refl _) hRcells hRslots
  obtain ⟨s', hA⟩ : ∃ z, z = (T.setVm s.vm).setFrames (.invoking m args :: below) := ⟨_, rfl⟩
  rw [← hA] at Y
  have hvm : s'.vm = s.vm := by rw [hA]; rfl
  have hhp : s'.heap = H := by rw [hA]; exact hT
  have hW0 : s.WarmedH s'.vm := by rw [hvm]; exact State.WarmedH.refl s
  have hat' : ∀ w ∈ vx_at0 own ic cls names, w.before args s' = true := fun w hw => vx_ot_at hW0 hvm.symm (hgood w (List.mem_cons_of_mem _ (List.mem_cons_of_mem _ hw))) (hat w hw)
  have hk' : (Cond.classLink own ik cls).before args s' = true := vx_ot_at hW0 hvm.symm (hgood _ List.mem_cons_self) hk
  have hini' : (Cond.initialized cls).before args s' = true := vx_ot_at hW0 hvm.symm (hgood _ (List.mem_cons_of_mem _ List.mem_cons_self)) hini
  have hU' : vx_Zq Bundle.tN "UNASSIGNED_STACK" Bundle.steD A s' s'.heap := by rw [hhp]; exact vx_Zq.moved hW0.alike (hU.kept hS.2.1)
  have hN' : vx_Zq Bundle.tN "SUPPRESSED_SENTINEL" Bundle.listD A s' s'.heap := by rw [hhp]; exact vx_Zq.moved hW0.alike (hN.kept hS.2.1)
  have h : ∀ w ∈ Bundle.ownAtoms0 own ic cls names, w.before args s' = true := vx_own hat' (vx_isRefq hU'.1) (vx_isRefq hN'.1) hU'.2.word hN'.2.word
  have hown' : s'.vm.findClass own = some m.cls := by rw [hvm]; exact hown
  have hins : (Cond.instantiable cls 6).before args s' = true := h _ (by simp [Bundle.ownAtoms0])
  obtain ⟨vm₁, cX, kX, hfX, hkX, -, -, X₁, st1⟩ := Y.newCold hexec (own := own) (C := cls) (index := ik) (n := 6) hown' hk' hins hini'
    (g := F0 m pc ls rest) rfl (by rw [hb]; exact d0) (Nat.le_refl _) (Nat.le_refl _)
  generalize hT1 : (T.setVm vm₁).pushCell { cls := cX, slots := kX.instanceTypes.map defaultValue, vm := .none } = T1 at X₁ st1
  have hcat : (Value.ref T.heap.size).category = 1 := rfl
  have hcellA : T1.heap[T.heap.size]? = some (freshCell cX kX) := by rw [← hT1]; exact State.heap_pushCell_size _ _
  have d3' : decode c.code (pc + 3) = .ok (.dup, 1) := by rw [hb]; exact d3
  obtain ⟨U, hsteps, hrun, hend, hW, hsame, ce, hce, hO⟩ := X₁.ctorThrow0 hexec htr (own := own) (cls := cls) (names := names) (ic := ic) hown' hcls hnames h (fun x hx => nomatch hx) hfX hkX hcellA (by rw [hhp, hT]; exact Nat.le_refl _)
    (g := { method := m, pc := pc + 4, locals := ls, stack := .ref T.heap.size :: .ref T.heap.size :: rest, locked := none }) rfl hsize rfl rfl (rest := rest) rfl
    (by rw [hb]; exact d4) (by rw [hb]; exact d7) hout hRframes (by simp only [List.map_cons, List.sum_cons, hcat]; omega) hlocks
  obtain ⟨f1, f2⟩ := vx_frame hsame
  rw [hhp] at f1 f2
  have hWs : s.WarmedH U.vm := State.WarmedH.trans hW0 hW
  have hcl : s.vm.findClass cls = some ce.cls := by
    have h9 := hO.cls
    rw [hvm] at h9
    exact h9
  have hall : s.sameButNew ({ U with vm := s.vm } : State) locs mc ms := by
    subst hA
    obtain ⟨e1, e2⟩ := hsame
    rw [State.setFrames_setFrames] at e1
    have h2 : (T.setVm s.vm).sameButNew ({ U with vm := s.vm } : State) [] (0 + 1) (0 + 6) := ⟨e1, e2⟩
    have h3 := X.same.trans h2
    rw [List.append_nil] at h3
    exact h3.mono hc hs
  refine ⟨U, ?_, .threw T.heap.size, hrun, hend, Or.inr ⟨T.heap.size, rfl, cls, ce, locs, hx U hWs.alike f1 (fun q hq => f2 q hq (fun z hz => nomatch hz)), hce, hO.vm, hcl, hWs, hall, hf⟩⟩
  refine st1 _ ?_
  show Steps p.tables e below (T1.setTop { method := m, pc := pc + 3, locals := ls, stack := .ref T.heap.size :: rest, locked := none }) _
  jvm_step X₁.here [X₁.here.top, hexec, d3', Value.category]
  exact hsteps
/-- 'throw new E("text")': new; dup; ldc; invokespecial; athrow -/
theorem vx_throwS {cc : ByteArray} {pc : Nat} (hexec : p.tables.exec = Jvm.exec) (hb : c.code = cc) (hl : l.stackTraces = false) {own cls text : String} {names : List String} {ik is ic mc ms sa : Nat} {A : Nat → Prop}
    (hown : s.vm.findClass own = some m.cls) (hcls : Bundle.fit cls = true) (hnames : ∀ n ∈ names, Bundle.fit n = true)
    (hk : (Cond.classLink own ik cls).before args s = true) (hini : (Cond.initialized cls).before args s = true) (hstr : vk_R own is text sa s) (hat : ∀ w ∈ vx_atS own ic cls names, w.before args s = true)
    (hgood : ∀ w ∈ Cond.classLink own ik cls :: Cond.initialized cls :: vx_atS own ic cls names, vx_ot w = true)
    (hU : vx_Zq Bundle.tN "UNASSIGNED_STACK" Bundle.steD A s s.heap) (hN : vx_Zq Bundle.tN "SUPPRESSED_SENTINEL" Bundle.listD A s s.heap) (hS : va_S A s.heap H locs) (hsize : ls.size = c.maxLocals)
    (d0 : decode cc pc = .ok (.new ik, 3)) (d3 : decode cc (pc + 3) = .ok (.dup, 1)) (d4 : decode cc (pc + 4) = .ok (.ldc is, 2)) (d6 : decode cc (pc + 6) = .ok (.invokespecial ic, 3)) (d9 : decode cc (pc + 9) = .ok (.athrow, 1))
    (hout : ∀ x ∈ c.exceptionTable.toList, covers x (pc + 9) = false)
    (hRframes : names.length + 3 < R.frames) (hRlocals : (rest.map fun v => v.category).sum + (13 * (names.length + 1) + 43) ≤ R.locals) (hRcells : cells + 1 ≤ R.cells) (hRslots : slots + 6 ≤ R.slots) (hlocks : meth.locks = false)
    (hx : ∀ t : State, s.vm.Alike t.vm → H.size ≤ t.heap.size → (∀ q : Nat, q < H.size → t.heap[q]? = H[q]?) → XC cls s t)
    (hf : ∀ z ∈ locs, free z.base) (hc : cells + 1 ≤ mc) (hs : slots + 6 ≤ ms) :
    W p l e R s m args below meth c H locs cells slots (vx_MQ below Qc XC args s mc ms free) (F0 m pc ls rest) := by
  intro T hT X
  have htr : e.platform.stackTraces = false := (show e.platform.stackTraces = l.stackTraces by rw [X.admits.platform]).trans hl
  have Y := vx_rebase X (R' := { frames := R.frames, locals := R.locals, cells := 1, slots := 6 }) (Nat.le_refl _) (Nat.le_refl _) hRcells hRslots
  obtain ⟨s', hA⟩ : ∃ z, z = (T.setVm s.vm).setFrames (.invoking m args :: below) := ⟨_, rfl⟩
  rw [← hA] at Y
  have hvm : s'.vm = s.vm := by rw [hA]; rfl
  have hhp : s'.heap = H := by rw [hA]; exact hT
  have hW0 : s.WarmedH s'.vm := by rw [hvm]; exact State.WarmedH.refl s
  have hat' : ∀ w ∈ vx_atS own ic cls names, w.before args s' = true := fun w hw => vx_ot_at hW0 hvm.symm (hgood w (List.mem_cons_of_mem _ (List.mem_cons_of_mem _ hw))) (hat w hw)
  have hk' : (Cond.classLink own ik cls).before args s' = true := vx_ot_at hW0 hvm.symm (hgood _ List.mem_cons_self) hk
  have hini' : (Cond.initialized cls).before args s' = true := vx_ot_at hW0 hvm.symm (hgood _ (List.mem_cons_of_mem _ List.mem_cons_self)) hini
  have hU' : vx_Zq Bundle.tN "UNASSIGNED_STACK" Bundle.steD A s' s'.heap := by rw [hhp]; exact vx_Zq.moved hW0.alike (hU.kept hS.2.1)
  have hN' : vx_Zq Bundle.tN "SUPPRESSED_SENTINEL" Bundle.listD A s' s'.heap := by rw [hhp]; exact vx_Zq.moved hW0.alike (hN.kept hS.2.1)
  have h : ∀ w ∈ Bundle.ownAtoms own ic cls names, w.before args s' = true := vx_own hat' (vx_isRefq hU'.1) (vx_isRefq hN'.1) hU'.2.word hN'.2.word
  have hown' : s'.vm.findClass own = some m.cls := by rw [hvm]; exact hown
  have hins : (Cond.instantiable cls 6).before args s' = true := h _ (by simp [Bundle.ownAtoms])
  obtain ⟨vm₁, cX, kX, hfX, hkX, -, -, X₁, st1⟩ := Y.newCold hexec (own := own) (C := cls) (index := ik) (n := 6) hown' hk' hins hini'
    (g := F0 m pc ls rest) rfl (by rw [hb]; exact d0) (Nat.le_refl _) (Nat.le_refl _)
  generalize hT1 : (T.setVm vm₁).pushCell { cls := cX, slots := kX.instanceTypes.map defaultValue, vm := .none } = T1 at X₁ st1
  have hcat : (Value.ref T.heap.size).category = 1 := rfl
  have hcellA : T1.heap[T.heap.size]? = some (freshCell cX kX) := by rw [← hT1]; exact State.heap_pushCell_size _ _
  have d3' : decode c.code (pc + 3) = .ok (.dup, 1) := by rw [hb]; exact d3
  have d4' : decode c.code (pc + 4) = .ok (.ldc is, 2) := by rw [hb]; exact d4
  have hstr' : vk_R own is text sa s' := vk_R.warm hW0 hstr
  obtain ⟨U, hsteps, hrun, hend, hW, hsame, ce, hce, hO⟩ := X₁.ctorThrowS hexec htr (own := own) (cls := cls) (names := names) (ic := ic) hown' hcls hnames h (fun x hx => nomatch hx) hfX hkX hcellA (by rw [hhp, hT]; exact Nat.le_refl _) (msg := .ref sa) rfl
    (g := { method := m, pc := pc + 6, locals := ls, stack := .ref sa :: .ref T.heap.size :: .ref T.heap.size :: rest, locked := none }) rfl hsize rfl rfl (rest := rest) rfl
    (by rw [hb]; exact d6) (by rw [hb]; exact d9) hout hRframes (by simp only [List.map_cons, List.sum_cons, hcat]; omega) hlocks
  obtain ⟨f1, f2⟩ := vx_frame hsame
  rw [hhp] at f1 f2
  have hWs : s.WarmedH U.vm := State.WarmedH.trans hW0 hW
  have hcl : s.vm.findClass cls = some ce.cls := by
    have h9 := hO.cls
    rw [hvm] at h9
    exact h9
  have hall : s.sameButNew ({ U with vm := s.vm } : State) locs mc ms := by
    subst hA
    obtain ⟨e1, e2⟩ := hsame
    rw [State.setFrames_setFrames] at e1
    have h2 : (T.setVm s.vm).sameButNew ({ U with vm := s.vm } : State) [] (0 + 1) (0 + 6) := ⟨e1, e2⟩
    have h3 := X.same.trans h2
    rw [List.append_nil] at h3
    exact h3.mono hc hs
  refine ⟨U, ?_, .threw T.heap.size, hrun, hend, Or.inr ⟨T.heap.size, rfl, cls, ce, locs, hx U hWs.alike f1 (fun q hq => f2 q hq (fun z hz => nomatch hz)), hce, hO.vm, hcl, hWs, hall, hf⟩⟩
  refine st1 _ ?_
  show Steps p.tables e below (T1.setTop { method := m, pc := pc + 3, locals := ls, stack := .ref T.heap.size :: rest, locked := none }) _
  jvm_step X₁.here [X₁.here.top, hexec, d3', Value.category]
  exact X₁.ldcString hexec (own := own) (text := text) (index := is) (a := sa) hown' hstr'.1 hstr'.2
    (g := { method := m, pc := pc + 4, locals := ls, stack := .ref T.heap.size :: .ref T.heap.size :: rest, locked := none }) rfl d4' _ hsteps
/-- 'throw new E("text")', the text by a wide index -/
theorem vx_throwSW {cc : ByteArray} {pc : Nat} (hexec : p.tables.exec = Jvm.exec) (hb : c.code = cc) (hl : l.stackTraces = false) {own cls text : String} {names : List String} {ik is ic mc ms sa : Nat} {A : Nat → Prop}
    (hown : s.vm.findClass own = some m.cls) (hcls : Bundle.fit cls = true) (hnames : ∀ n ∈ names, Bundle.fit n = true)
    (hk : (Cond.classLink own ik cls).before args s = true) (hini : (Cond.initialized cls).before args s = true) (hstr : vk_R own is text sa s) (hat : ∀ w ∈ vx_atS own ic cls names, w.before args s = true)
    (hgood : ∀ w ∈ Cond.classLink own ik cls :: Cond.initialized cls :: vx_atS own ic cls names, vx_ot w = true)
    (hU : vx_Zq Bundle.tN "UNASSIGNED_STACK" Bundle.steD A s s.heap) (hN : vx_Zq Bundle.tN "SUPPRESSED_SENTINEL" Bundle.listD A s s.heap) (hS : va_S A s.heap H locs) (hsize : ls.size = c.maxLocals)
    (d0 : decode cc pc = .ok (.new ik, 3)) (d3 : decode cc (pc + 3) = .ok (.dup, 1)) (d4 : decode cc (pc + 4) = .ok (.ldc_w is, 3)) (d7 : decode cc (pc + 7) = .ok (.invokespecial ic, 3)) (d10 : decode cc (pc + 10) = .ok (.athrow, 1))
    (hout : ∀ x ∈ c.exceptionTable.toList, covers x (pc + 10) = false)
    (hRframes : names.length + 3 < R.frames) (hRlocals : (rest.map fun v => v.category).sum + (13 * (names.length + 1) + 43) ≤ R.locals) (hRcells : cells + 1 ≤ R.cells) (hRslots : slots + 6 ≤ R.slots) (hlocks : meth.locks = false)
    (hx : ∀ t : State, s.vm.Alike t.vm → H.size ≤ t.heap.size → (∀ q : Nat, q < H.size → t.heap[q]? = H[q]?) → XC cls s t)
    (hf : ∀ z ∈ locs, free z.base) (hc : cells + 1 ≤ mc) (hs : slots + 6 ≤ ms) :
    W p l e R s m args below meth c H locs cells slots (vx_MQ below Qc XC args s mc ms free) (F0 m pc ls rest) := by
  intro T hT X
  have htr : e.platform.stackTraces = false := (show e.platform.stackTraces = l.stackTraces by rw [X.admits.platform]).trans hl
  have Y := vx_rebase X (R' := { frames := R.frames, locals := R.locals, cells := 1, slots := 6 }) (Nat.le_refl _) (Nat.le_refl _) hRcells hRslots
  obtain ⟨s', hA⟩ : ∃ z, z = (T.setVm s.vm).setFrames (.invoking m args :: below) := ⟨_, rfl⟩
  rw [← hA] at Y
  have hvm : s'.vm = s.vm := by rw [hA]; rfl
  have hhp : s'.heap = H := by rw [hA]; exact hT
  have hW0 : s.WarmedH s'.vm := by rw [hvm]; exact State.WarmedH.refl s
  have hat' : ∀ w ∈ vx_atS own ic cls names, w.before args s' = true := fun w hw => vx_ot_at hW0 hvm.symm (hgood w (List.mem_cons_of_mem _ (List.mem_cons_of_mem _ hw))) (hat w hw)
  have hk' : (Cond.classLink own ik cls).before args s' = true := vx_ot_at hW0 hvm.symm (hgood _ List.mem_cons_self) hk
  have hini' : (Cond.initialized cls).before args s' = true := vx_ot_at hW0 hvm.symm (hgood _ (List.mem_cons_of_mem _ List.mem_cons_self)) hini
  have hU' : vx_Zq Bundle.tN "UNASSIGNED_STACK" Bundle.steD A s' s'.heap := by rw [hhp]; exact vx_Zq.moved hW0.alike (hU.kept hS.2.1)
  have hN' : vx_Zq Bundle.tN "SUPPRESSED_SENTINEL" Bundle.listD A s' s'.heap := by rw [hhp]; exact vx_Zq.moved hW0.alike (hN.kept hS.2.1)
  have h : ∀ w ∈ Bundle.ownAtoms own ic cls names, w.before args s' = true := vx_own hat' (vx_isRefq hU'.1) (vx_isRefq hN'.1) hU'.2.word hN'.2.word
  have hown' : s'.vm.findClass own = some m.cls := by rw [hvm]; exact hown
  have hins : (Cond.instantiable cls 6).before args s' = true := h _ (by simp [Bundle.ownAtoms])
  obtain ⟨vm₁, cX, kX, hfX, hkX, -, -, X₁, st1⟩ := Y.newCold hexec (own := own) (C := cls) (index := ik) (n := 6) hown' hk' hins hini'
    (g := F0 m pc ls rest) rfl (by rw [hb]; exact d0) (Nat.le_refl _) (Nat.le_refl _)
  generalize hT1 : (T.setVm vm₁).pushCell { cls := cX, slots := kX.instanceTypes.map defaultValue, vm := .none } = T1 at X₁ st1
  have hcat : (Value.ref T.heap.size).category = 1 := rfl
  have hcellA : T1.heap[T.heap.size]? = some (freshCell cX kX) := by rw [← hT1]; exact State.heap_pushCell_size _ _
  have d3' : decode c.code (pc + 3) = .ok (.dup, 1) := by rw [hb]; exact d3
  have d4' : decode c.code (pc + 4) = .ok (.ldc_w is, 3) := by rw [hb]; exact d4
  have hstr' : vk_R own is text sa s' := vk_R.warm hW0 hstr
  obtain ⟨U, hsteps, hrun, hend, hW, hsame, ce, hce, hO⟩ := X₁.ctorThrowS hexec htr (own := own) (cls := cls) (names := names) (ic := ic) hown' hcls hnames h (fun x hx => nomatch hx) hfX hkX hcellA (by rw [hhp, hT]; exact Nat.le_refl _) (msg := .ref sa) rfl
    (g := { method := m, pc := pc + 7, locals := ls, stack := .ref sa :: .ref T.heap.size :: .ref T.heap.size :: rest, locked := none }) rfl hsize rfl rfl (rest := rest) rfl
    (by rw [hb]; exact d7) (by rw [hb]; exact d10) hout hRframes (by simp only [List.map_cons, List.sum_cons, hcat]; omega) hlocks
  obtain ⟨f1, f2⟩ := vx_frame hsame
  rw [hhp] at f1 f2
  have hWs : s.WarmedH U.vm := State.WarmedH.trans hW0 hW
  have hcl : s.vm.findClass cls = some ce.cls := by
    have h9 := hO.cls
    rw [hvm] at h9
    exact h9
  have hall : s.sameButNew ({ U with vm := s.vm } : State) locs mc ms := by
    subst hA
    obtain ⟨e1, e2⟩ := hsame
    rw [State.setFrames_setFrames] at e1
    have h2 : (T.setVm s.vm).sameButNew ({ U with vm := s.vm } : State) [] (0 + 1) (0 + 6) := ⟨e1, e2⟩
    have h3 := X.same.trans h2
    rw [List.append_nil] at h3
    exact h3.mono hc hs
  refine ⟨U, ?_, .threw T.heap.size, hrun, hend, Or.inr ⟨T.heap.size, rfl, cls, ce, locs, hx U hWs.alike f1 (fun q hq => f2 q hq (fun z hz => nomatch hz)), hce, hO.vm, hcl, hWs, hall, hf⟩⟩
  refine st1 _ ?_
  show Steps p.tables e below (T1.setTop { method := m, pc := pc + 3, locals := ls, stack := .ref T.heap.size :: rest, locked := none }) _
  jvm_step X₁.here [X₁.here.top, hexec, d3', Value.category]
  exact X₁.ldcStringW hexec (own := own) (text := text) (index := is) (a := sa) hown' hstr'.1 hstr'.2
    (g := { method := m, pc := pc + 4, locals := ls, stack := .ref T.heap.size :: .ref T.heap.size :: rest, locked := none }) rfl d4' _ hsteps
end Ends
section Bodies
variable {l : Launch}
theorem vx_ofW {y : MethodName} {ws ws' : List Cond} {rm : Room} {Pc : Array Value → State → Prop} {Qc : Array Value → State → Outcome → State → Prop} {XC : String → State → State → Prop} {mc ms : Nat} {free : Addr → Prop} {cc : ByteArray} {maxL : Nat} {ret : Option FieldType}
    (hy : plainName y.cls = true) (hw : ws = Cond.code y cc maxL ret :: ws')
    (body : ∀ p e s m args below meth c s₁, BodyLoose p l y (headSpec ws rm) cc maxL ret e s m args below meth c s₁ → c.maxLocals = maxL → (∀ x ∈ c.exceptionTable.toList, False) → Pc args s →
      W p l e (headSpec ws rm).room s m args below meth c s.heap [] 0 0 (vx_MQ below Qc XC args s mc ms free) (entryFrame m args maxL)) : vx_Met l y ws rm Pc Qc XC mc ms free := by
  refine MetFree.of_bodyS (code := cc) (maxLocals := maxL) (ret := ret) hy ?_ ?_
  · intro args s m h hn
    obtain ⟨meth, c, h1, h2, h3, h4, h5, h6, -, -⟩ := Cond.code_spec hn (atoms_spec (ws := ws) h _ (by rw [hw]; exact List.mem_cons_self))
    exact ⟨meth, c, h1, h2, h3, h4, h5, h6⟩
  · intro p e s m args below meth c s₁ B hml hP _
    have hh0 : s₁.heap = s.heap := by rw [B.state]; rfl
    have ht : ∀ x ∈ c.exceptionTable.toList, False := by
      obtain ⟨meth9, c9, h1, h2, -, -, -, -, h7, -⟩ := Cond.code_spec B.named (atoms_spec (ws := ws) B.pre _ (by rw [hw]; exact List.mem_cons_self))
      cases Option.some.inj (h1.symm.trans B.method)
      cases Option.some.inj (h2.symm.trans (Stand.of_body B).code)
      intro x hx
      rw [Array.isEmpty_iff.mp h7] at hx
      cases hx
    obtain ⟨t, a1, o, b1, b2, b3⟩ := body p e s m args below meth c s₁ B hml ht hP s₁ hh0 (Stand.of_body B)
    exact ⟨t, o, a1, b1, b2, b3⟩
/-- the table of a body with handlers -/
theorem vx_table {p : Program} {x y : MethodName} {S : Spec} {cc bytes : ByteArray} {maxL maxL' : Nat} {ret ret' : Option FieldType} {e : Env} {s s₁ : State} {m : MethodId} {args : Array Value} {below : List Frame} {meth : Method} {c : Code} {hh : List (Nat × Nat × Nat × Nat)}
    (B : BodyLoose p l y S cc maxL ret e s m args below meth c s₁) (h : (Cond.codeWith y bytes maxL' ret' hh).before args s = true) : c.exceptionTable.toList = tableOf hh := by
  obtain ⟨m9, meth9, c9, hn9, h1, h2, -, -, h6, -⟩ := Cond.codeWith_spec h
  cases Option.some.inj (hn9.symm.trans B.named)
  cases Option.some.inj (h1.symm.trans B.method)
  cases Option.some.inj (h2.symm.trans (Stand.of_body B).code)
  rw [← h6, table_eq]
end Bodies
end VXA
/-! ===== END ===== -/
/-! ===== BEGIN a static call of a method with an exception table ===== -/
section VXS
variable {p : Program} {l : Launch} {e : Env} {R : Room} {s : State} {m : MethodId} {args : Array Value} {below : List Frame} {meth : Method} {c : Code} {T : State} {H : Heap} {locs : List Loc} {cells slots : Nat}
abbrev vx_CSW (R : Room) (s : State) (args : Array Value) (own : String) (index : Nat) (y : MethodName) (bytes : ByteArray) (maxL : Nat) (ret : Option FieldType) (hh : List (Nat × Nat × Nat × Nat)) (ws : List Cond) (rm : Room) (mc ms n : Nat) : Prop :=
  (rm.cells = mc ∧ rm.slots = ms ∧ rm.frames + 1 ≤ R.frames ∧ 8 + (maxL + 11) + rm.locals ≤ R.locals ∧ (∀ w ∈ ws, ∀ (a' : Array Value) (U : State), s.WarmedH U.vm → w.before a' U = true) ∧ Cond.codeWith y bytes maxL ret hh ∈ ws) ∧
  (Cond.codeWith y bytes maxL ret hh).before args s = true ∧ (Cond.initialized y.cls).before args s = true ∧ (y.cls ≠ "java/lang/invoke/MethodHandle" ∧ y.cls ≠ "java/lang/invoke/VarHandle") ∧
  (∀ sig, parseMethodDescriptor y.desc = some sig → n = sig.parameters.length) ∧ (Cond.methodLink own index y).before args s = true ∧ (Cond.static y).before args s = true
theorem vx_cwSW {own : String} {index maxL mc ms : Nat} {y : MethodName} {bytes : ByteArray} {ret : Option FieldType} {hh : List (Nat × Nat × Nat × Nat)} {Ts ws ws' : List Cond} {rm : Room} (n : Nat) (ht : ∀ w ∈ Ts, w.before args s = true) (hT : GoodIn Ts (va_wsS own index y ws)) (hw : ws = Cond.codeWith y bytes maxL ret hh :: ws') (hrc : rm.cells = mc) (hrs : rm.slots = ms)
    (hd : y.cls ≠ "java/lang/invoke/MethodHandle" ∧ y.cls ≠ "java/lang/invoke/VarHandle" ∧ (parseMethodDescriptor y.desc).map (fun d => d.parameters.length) = some n) (hR : rm.frames + 1 ≤ R.frames ∧ 8 + (maxL + 11) + rm.locals ≤ R.locals) :
    vx_CSW R s args own index y bytes maxL ret hh ws rm mc ms n := by
  have ok : ∀ w ∈ va_wsS own index y ws, w.before args s = true := fun w h => ht w (hT w h).1
  have hG : GoodIn Ts ws := fun w h => hT w (by unfold va_wsS; exact List.mem_append_right _ h)
  have hc : Cond.codeWith y bytes maxL ret hh ∈ ws := by rw [hw]; exact List.mem_cons_self
  refine ⟨⟨hrc, hrs, hR.1, hR.2, pay_in ht hG, hc⟩, ht _ (hG _ hc).1, ok _ (by simp [va_wsS]), ⟨hd.1, hd.2.1⟩, fun sig h => ?_, ok _ (by simp [va_wsS]), ok _ (by simp [va_wsS])⟩
  have h2 := hd.2.2
  rw [h] at h2
  exact (Option.some.inj h2).symm
theorem vx_callSW (X : Stand p l e R s m args below meth c T locs cells slots) (hexec : p.tables.exec = Jvm.exec) {own : String} {index : Nat} {y : MethodName} {bytes : ByteArray} {maxL : Nat} {ret : Option FieldType} {hh : List (Nat × Nat × Nat × Nat)}
    (hown : s.vm.findClass own = some m.cls) (hlink : (Cond.methodLink own index y).before args s = true) (hstat : (Cond.static y).before args s = true) (hinit : (Cond.initialized y.cls).before args s = true)
    (hcode : (Cond.codeWith y bytes maxL ret hh).before args s = true) (hy : y.cls ≠ "java/lang/invoke/MethodHandle" ∧ y.cls ≠ "java/lang/invoke/VarHandle")
    {W9 : Nat} {Pre : Pt → Array Value → Prop} {Post : Pt → Array Value → Option Value → Pt → Prop} (hK : Back l R p e below s args y 3 W9 Pre Post)
    {g : JFrame} (hg : g.method = m) (hsize : g.locals.size = c.maxLocals) {argsL rest : List Value} (hlen : ∀ sig, parseMethodDescriptor y.desc = some sig → argsL.length = sig.parameters.length)
    (hstack : g.stack = argsL.reverse ++ rest) (hW : 2 * g.monitorRoom + (rest.map fun v => v.category).sum ≤ W9) (hdg : decode c.code g.pc = .ok (.invokestatic index, 3))
    (hpre : ∀ vm₁, s.WarmedH vm₁ → Pre ⟨T.setVm vm₁, locs, cells, slots⟩ argsL.toArray) :
    ∃ (v : Option Value) (vm₁ : Vm) (B : Pt), s.WarmedH vm₁ ∧ Stand p l e R s m args below meth c B.U B.locs B.cells B.slots ∧ Post ⟨T.setVm vm₁, locs, cells, slots⟩ argsL.toArray v B ∧
      ∀ target, Steps p.tables e below (B.U.setTop { g with pc := g.pc + 3, stack := v.toList ++ rest }) target → Steps p.tables e below (T.setTop g) target := by
  obtain ⟨mk, methM, cM, hnamed, hmethM, -, -, -, -, -, -, hsigM⟩ := Cond.codeWith_spec hcode
  have hstatic : methM.isStatic = true := Cond.static_spec hnamed hmethM hstat
  obtain ⟨kP, hkP, -⟩ := className_of_methodNamed hnamed
  have hinitP : kP.init = .initialized := Cond.initialized_spec (findClass_of_methodNamed hnamed) hkP hinit
  obtain ⟨vm₁, X₁, hstep₁⟩ := X.invokestatic hexec hown hlink hnamed hmethM hstatic hkP hinitP hy (g := g) hg (argsL := argsL) (rest := rest) (hlen _ hsigM) hstack hdg
  obtain ⟨v, B, X', hpost, hsteps⟩ := hK m meth c ⟨T.setVm vm₁, locs, cells, slots⟩ { g with stack := rest } (.invokestatic index) mk argsL.toArray X₁ hg hsize hdg hW (X₁.named hnamed) (hpre vm₁ X₁.warmed)
  exact ⟨v, vm₁, B, X₁.warmed, X', hpost, fun target h => hstep₁ _ fun acts => by rw [doInvoke_state]; exact hsteps.trans h⟩
theorem vx_runSW {y : MethodName} {bytes cc : ByteArray} {maxL nL mc ms n index : Nat} {ret : Option FieldType} {hh : List (Nat × Nat × Nat × Nat)} {ws : List Cond} {rm : Room} {Pc : Array Value → State → Prop} {Qc : Array Value → State → Outcome → State → Prop} {free : Addr → Prop} {Ts : List Cond} {own : String} {As rest : List Value} {g : JFrame}
    (S : CallFix p m c cc nL s args Ts own) (hM : Met l y ws rm Pc Qc mc ms free) (cw : vx_CSW R s args own index y bytes maxL ret hh ws rm mc ms n) (hp : PreS s H Pc As)
    (hg : g.method = m) (hn : As.length = n) (hsize : g.locals.size = nL) (hstack : g.stack = As.reverse ++ rest) (hW : 2 * g.monitorRoom + (rest.map fun v => v.category).sum ≤ 8) (hdg : decode cc g.pc = .ok (.invokestatic index, 3)) (hf : cells + mc ≤ R.cells ∧ slots + ms ≤ R.slots) :
    va_Run p l e R s m args below meth c H locs cells slots mc ms g rest (Qc As.toArray) (free) := by
  obtain ⟨⟨hrc, hrs, hfr, hlo, hws, hcw⟩, hcode, hini, hy, hlen, hl, hstt⟩ := cw
  have hK : Back l R p e below s args y 3 8 (PreOf R mc ms Pc) (PostOf Qc mc ms free) := va_backW (hh := hh) (bytes := bytes) (maxL := maxL) (ret := ret) hM hp.1 hrc hrs hfr hlo hws hcw (fun a' U hW => word_at hW (Or.inl (by first | rfl | simp [Cond.onTables, Cond.keeps, Cond.steady])) hini)
  obtain ⟨hx, hb, hml, ho, -⟩ := S
  intro T hT X
  obtain ⟨v, vm₁, ⟨U', l2, c2, s2⟩, hW₁, X', ⟨g', mk, t, L, e1, e2, hq, h1, hL, h2, h3⟩, st⟩ := vx_callSW X hx (hh := hh) (bytes := bytes) (maxL := maxL) (ret := ret) ho hl hstt hini hcode hy hK hg (hsize.trans hml.symm) (argsL := As) (rest := rest) (fun sig h => hn.trans (hlen sig h)) hstack hW (by rw [hb]; exact hdg)
    (fun vm₁ hW₁ => ⟨hf.1, hf.2, hp.2 (T.setVm vm₁) hT hW₁⟩)
  dsimp only [Pt.U, Pt.locs, Pt.cells, Pt.slots] at X' e1 e2 h1 h2 h3 st
  subst h1; subst h2; subst h3
  exact ⟨v, (T.setVm vm₁).calling g' mk As.toArray, t, U', L, hT, X', hL, e1, e2, hq, st⟩
/-- not caught here, past rows that name other classes: it goes on to the caller -/
theorem vx_outP {p : Program} {l : Launch} {e : Env} {R : Room} {s : State} {m : MethodId} {args : Array Value} {below : List Frame} {meth : Method} {c : Code} {H : Heap} {locs : List Loc} {cells slots : Nat} {free : Addr → Prop} {ls : Array Slot} {rest : List Value} {Qc : Array Value → State → Outcome → State → Prop} {XC : String → State → State → Prop}
    {pc : Nat} {own E : String} {ce : Cell} {q : Addr} {mc ms : Nat} (hown : s.vm.findClass own = some m.cls) (hlocks : meth.locks = false)
    (hpass : ∀ z ∈ c.exceptionTable.toList, covers z pc = false ∨ (z.catchType ≠ 0 ∧ ∃ nm : String, (Cond.classLink own z.catchType nm).before args s = true ∧ va_Nc E nm s)) (hcell : H[q]? = some ce) (hv : ce.vm = .none) (hcl : s.vm.findClass E = some ce.cls)
    (hx : ∀ t : State, t.heap = H → s.vm.Alike t.vm → XC E s t) (hf : ∀ z ∈ locs, free z.base) (hc : cells ≤ mc) (hs : slots ≤ ms) :
    vx_W p l e R s m args below meth c H locs cells slots (vx_MQ below Qc XC args s mc ms free) (F0 m pc ls rest) q := by
  intro T hT X
  have hpl : e.platform.magicAccessors = ({} : Platform).magicAccessors := by rw [X.admits.platform]
  obtain ⟨vm', hW', X', st⟩ := X.outThrough hlocks q (g := F0 m pc ls rest) rfl rfl rfl (cell := ce) (by rw [hT]; exact hcell) (by rw [hv]; rfl)
    (by obtain ⟨k9, h9, -⟩ := Vm.findClass_spec hcl; exact ⟨k9, h9⟩) (fun z hz => by
      rcases hpass z hz with h | ⟨hz0, nm, hl1, hn1⟩
      · exact Or.inl h
      · obtain ⟨c6, hc6, hcl6⟩ := Cond.classLink_spec hown hl1 e.platform hpl
        obtain ⟨a8, b8, h1, h2, h3⟩ := hn1
        cases Option.some.inj (h1.symm.trans hcl)
        cases Option.some.inj (h2.symm.trans hc6)
        exact Or.inr ⟨hz0, _, hcl6, h3⟩)
  obtain ⟨g₀, hfr⟩ := X'.frames_eq
  have hcell9 : ((T.setVm vm').setFrames (.throwing q :: below)).heap[q]? = some ce := by
    show T.heap[q]? = some ce
    rw [hT]; exact hcell
  have hend : Ended ((T.setVm vm').setFrames (.throwing q :: below)) below (.threw q) := State.frames_setFrames _ (State.cur_lt_of_frames hfr)
  refine ⟨(T.setVm vm').setFrames (.throwing q :: below), ?_, .threw q, X'.here.running, hend, Or.inr ⟨q, rfl, E, ce, locs, hx _ hT (X'.ends _).1.alike, hcell9, hv, hcl, (X'.ends _).1, (X'.ends _).2.mono hc hs, hf⟩⟩
  rw [X.pushThrowing_eq]
  exact st
/-- a thing of a world lies in the heap -/
theorem vx_lt {D : va_G} {cl : List vw_C} {ws : va_W} {H1 : Heap} (h : va_P D cl ws H1) {k : Nat} {q : Nat × va_E} (hk : ws[k]? = some q) : q.1 < H1.size := (h k q hk).lt
end VXS
/-! ===== END ===== -/
/-! ===== BEGIN methods with a table of their own: called by a name, returning or throwing ===== -/
section VXH
/-! vx_backW, vx_callVX, vx_callSX, vx_callVW, vx_runVW, vx_runVX, vx_runSX, vx_ofWH follow the same proofs as their sisters above (Free/Laws.lean, Shelf42/LK1.lean); vx_outP calls Shelf42/NT130.lean (outThrough). -/
section
variable {l : Launch} {R : Room} {p : Program} {e : Env} {below : List Frame} {s : State} {sargs : Array Value} {y : MethodName} {len W9 : Nat}
theorem vx_backW {ws : List Cond} {rm : Room} {Pc : Array Value → State → Prop} {Qc : Array Value → State → Outcome → State → Prop} {XC : String → State → State → Prop} {mc ms : Nat} {free : Addr → Prop} {bytes : ByteArray} {maxL : Nat} {ret : Option FieldType} {hh : List (Nat × Nat × Nat × Nat)}
    (hM : vx_Met l y ws rm Pc Qc XC mc ms free) (hblind : FrameBlind Pc) (hrc : rm.cells = mc) (hrs : rm.slots = ms)
    (hframes : rm.frames + 1 ≤ R.frames) (hlocals : W9 + (maxL + 11) + rm.locals ≤ R.locals)
    (hws : ∀ w ∈ ws, ∀ a' U, s.WarmedH U.vm → w.before a' U = true) (hcode : Cond.codeWith y bytes maxL ret hh ∈ ws) (hinit : ∀ a' U, s.WarmedH U.vm → (Cond.initialized y.cls).before a' U = true) :
    vx_Back l R p e below s sargs y len W9 (PreOf R mc ms Pc) (PostOf Qc mc ms free) (vx_Post XC mc ms free) := by
  intro m meth c A g ig mk a X hg hsize hdg hW hn hp
  have h1 : (headSpec ws rm).pre.before a A.U = true := atoms_intro fun w hw => hws w hw _ _ X.warmed
  have h2 : (Cond.codeWith y bytes maxL ret hh).before a A.U = true := hws _ hcode _ _ X.warmed
  have h3 : (Cond.initialized y.cls).before a A.U = true := hinit _ _ X.warmed
  have h4 : A.cells + (headSpec ws rm).room.cells ≤ R.cells := by rw [show (headSpec ws rm).room.cells = mc from hrc]; exact hp.1
  have h5 : A.slots + (headSpec ws rm).room.slots ≤ R.slots := by rw [show (headSpec ws rm).room.slots = ms from hrs]; exact hp.2.1
  have hPc : Pc a (A.U.calling g mk a) := hblind _ _ _ _ hp.2.2
  obtain ⟨U, Ls, c0, s0⟩ := A
  dsimp only [Pt.U, Pt.locs, Pt.cells, Pt.slots] at h1 h2 h3 h4 h5 X hn hPc ⊢
  obtain ⟨m9, methY, cY, hn9, hmY, hcY, -, hlY, -⟩ := Cond.codeWith_spec h2
  cases Option.some.inj (hn9.symm.trans hn)
  obtain ⟨kY, hkY, -⟩ := className_of_methodNamed hn
  have hinitY : kY.init = .initialized := Cond.initialized_spec (findClass_of_methodNamed hn) hkY h3
  have h : At U g.method c below := by rw [hg]; exact X.here
  have hlocals9 : W9 + (maxL + 11) + (headSpec ws rm).room.locals ≤ R.locals := hlocals
  have happ : (headSpec ws rm).appliesLoose y e.platform (U.calling g mk a) = true :=
    Spec.appliesLoose_calling (g := g) h hdg hn hkY hinitY
      (X.room_calling (g := g) (R' := (headSpec ws rm).room) hsize hmY hcY hframes (by rw [hlY]; omega) h4 h5) h1
  obtain ⟨mid, hmid⟩ := h.above
  have hfr : (U.setTop g).frames = (.java g :: mid) ++ below := by rw [State.frames_setTop' g h.top, hmid]; rfl
  obtain ⟨o, s₂, hsteps, -, hend, hq⟩ := Steps.callFree hM p X.admits X.cas X.clock (acts := []) hfr happ hPc trivial
  have hq' : vx_Q Qc XC mc ms free a (U.calling g mk a) o s₂ := hq
  rw [State.frames_setTop' g h.top] at hend
  obtain ⟨g₀, hg0⟩ := Option.isSome_iff_exists.mp h.top
  obtain ⟨r, hr⟩ := State.topJava?_eq_some.mp hg0
  have hr' : (({ U with heap := s₂.heap, slotsUsed := s₂.slotsUsed } : State).setVm s₂.vm).frames = .java g₀ :: r := hr
  rcases hq' with ⟨hqc, L, hfe, hL⟩ | ⟨q, rfl, E, ce, L, hx, hce, hcv, hcl, hW₂, hsm, hL⟩
  · obtain ⟨⟨v, rfl⟩, hW₂, e2, q2, q3, q4, q5, q6⟩ := id hfe
    have e3 : s₂ = ({ (U.calling g mk a).setFrames s₂.frames with heap := s₂.heap, slotsUsed := s₂.slotsUsed } : State).setVm s₂.vm := by
      have : s₂ = ({ s₂ with vm := (U.calling g mk a).vm } : State).setVm s₂.vm := rfl
      rw [e2] at this
      exact this
    obtain ⟨c₂, i₂, len₂, hc₂, hd₂, hf₂⟩ := hend
    have hW' : U.WarmedH s₂.vm := hW₂
    have hcc : c₂ = c := by
      have h1 : s₂.code? g.method = U.code? g.method := by
        rw [State.code?_eq, State.code?_eq, hW'.alike.method?]
      exact Option.some.inj (hc₂.symm.trans (h1.trans h.code))
    subst hcc
    have hlen : len₂ = len := by rw [hdg] at hd₂; cases hd₂; rfl
    subst hlen
    have hs₂ : s₂ = (({ U with heap := s₂.heap, slotsUsed := s₂.slotsUsed } : State).setVm s₂.vm).setTop { g with pc := g.pc + len₂, stack := v.toList ++ g.stack } := by
      refine e3.trans ?_
      rw [hf₂, State.calling_eq h.top, State.setFrames_setFrames, State.setTop_of_frames _ hr', hr]
      rfl
    have hsame : U.sameButNew ({ U with heap := s₂.heap, slotsUsed := s₂.slotsUsed } : State) L mc ms := by
      refine ⟨?_, q2, q3, q4, q5, q6⟩
      obtain ⟨t, ht, -⟩ := State.frames_cons hr
      show ({ U with heap := s₂.heap, slotsUsed := s₂.slotsUsed } : State) = { U.setFrames U.frames with heap := s₂.heap, slotsUsed := s₂.slotsUsed }
      rw [State.setFrames_self ht]
    subst hg
    refine Or.inl ⟨v, ⟨(({ U with heap := s₂.heap, slotsUsed := s₂.slotsUsed } : State).setVm s₂.vm), Ls ++ L, c0 + mc, s0 + ms⟩,
      ⟨X.admits, X.cas, X.clock, X.frames, X.room, X.hears, X.method, X.code, (X.here.setHeapUsed s₂.heap s₂.slotsUsed).setVm hW'.alike, X.tail, State.WarmedH.trans X.warmed hW', X.limits, X.bytes, X.same.trans (hsame.setVm s.vm)⟩,
      ⟨g, mk, s₂, L, rfl, rfl, hqc, rfl, hL, rfl, rfl⟩, ?_⟩
    show Steps p.tables e below _ ((({ U with heap := s₂.heap, slotsUsed := s₂.slotsUsed } : State).setVm s₂.vm).setTop { g with pc := g.pc + len₂, stack := v.toList ++ g.stack })
    rw [← hs₂]
    exact hsteps
  · obtain ⟨e2, q2, q3, q4, q5, q6⟩ := id hsm
    have e3 : s₂ = ({ (U.calling g mk a).setFrames s₂.frames with heap := s₂.heap, slotsUsed := s₂.slotsUsed } : State).setVm s₂.vm := by
      have : s₂ = ({ s₂ with vm := (U.calling g mk a).vm } : State).setVm s₂.vm := rfl
      rw [e2] at this
      exact this
    have hf₂ : s₂.frames = .throwing q :: .java g :: U.frames.tail := hend
    have hW' : U.WarmedH s₂.vm := hW₂
    have hs₂ : s₂ = ((({ U with heap := s₂.heap, slotsUsed := s₂.slotsUsed } : State).setVm s₂.vm).setTop g).pushFrame (.throwing q) := by
      refine e3.trans ?_
      rw [hf₂, State.calling_eq h.top, State.setFrames_setFrames, State.pushFrame, State.frames_setTop _ hr', State.setTop_of_frames _ hr', State.setFrames_setFrames, hr]
      rfl
    have hsame : U.sameButNew ({ U with heap := s₂.heap, slotsUsed := s₂.slotsUsed } : State) L mc ms := by
      refine ⟨?_, q2, q3, q4, q5, q6⟩
      obtain ⟨t, ht, -⟩ := State.frames_cons hr
      show ({ U with heap := s₂.heap, slotsUsed := s₂.slotsUsed } : State) = { U.setFrames U.frames with heap := s₂.heap, slotsUsed := s₂.slotsUsed }
      rw [State.setFrames_self ht]
    subst hg
    refine Or.inr ⟨q, ⟨(({ U with heap := s₂.heap, slotsUsed := s₂.slotsUsed } : State).setVm s₂.vm), Ls ++ L, c0 + mc, s0 + ms⟩,
      ⟨X.admits, X.cas, X.clock, X.frames, X.room, X.hears, X.method, X.code, (X.here.setHeapUsed s₂.heap s₂.slotsUsed).setVm hW'.alike, X.tail, State.WarmedH.trans X.warmed hW', X.limits, X.bytes, X.same.trans (hsame.setVm s.vm)⟩,
      ⟨g, mk, s₂, L, E, ce, rfl, rfl, hx, hce, hcv, hcl, rfl, hL, rfl, rfl⟩, ?_⟩
    show Steps p.tables e below _ (((({ U with heap := s₂.heap, slotsUsed := s₂.slotsUsed } : State).setVm s₂.vm).setTop g).pushFrame (.throwing q))
    rw [← hs₂]
    exact hsteps
end
variable {p : Program} {l : Launch} {e : Env} {R : Room} {s : State} {m : MethodId} {args : Array Value} {below : List Frame} {meth : Method} {c : Code} {T : State} {H : Heap} {locs : List Loc} {cells slots : Nat}
theorem vx_callVX (X : Stand p l e R s m args below meth c T locs cells slots) (hexec : p.tables.exec = Jvm.exec) {own C : String} {index : Nat} {y : MethodName} {bytes : ByteArray} {maxL : Nat} {ret : Option FieldType} {hh : List (Nat × Nat × Nat × Nat)}
    (hown : s.vm.findClass own = some m.cls) (hlink : (Cond.methodLink own index y).before args s = true) (hinst : (Cond.instanceMethod y).before args s = true) (hsel : (Cond.selects C y y).before args s = true)
    (hcode : (Cond.codeWith y bytes maxL ret hh).before args s = true) (hy : y.cls ≠ "java/lang/invoke/MethodHandle" ∧ y.cls ≠ "java/lang/invoke/VarHandle")
    {W9 : Nat} {Pre : Pt → Array Value → Prop} {Post : Pt → Array Value → Option Value → Pt → Prop} {PostX : Pt → Array Value → Addr → Pt → Prop} (hK : vx_Back l R p e below s args y 3 W9 Pre Post PostX)
    {b : Addr} {cellB : Cell} (hcell : T.heap[b]? = some cellB) (hobj : cellB.vm.isStatics = false) (hcls : s.vm.findClass C = some cellB.cls)
    {g : JFrame} (hg : g.method = m) (hsize : g.locals.size = c.maxLocals) {argsL rest : List Value} (hlen : ∀ sig, parseMethodDescriptor y.desc = some sig → argsL.length = sig.parameters.length)
    (hstack : g.stack = argsL.reverse ++ .ref b :: rest) (hW : 2 * g.monitorRoom + (rest.map fun v => v.category).sum ≤ W9) (hdg : decode c.code g.pc = .ok (.invokevirtual index, 3))
    (hpre : ∀ vm₁, s.WarmedH vm₁ → Pre ⟨T.setVm vm₁, locs, cells, slots⟩ (Value.ref b :: argsL).toArray) :
    (∃ (v : Option Value) (vm₁ : Vm) (B : Pt), s.WarmedH vm₁ ∧ Stand p l e R s m args below meth c B.U B.locs B.cells B.slots ∧ Post ⟨T.setVm vm₁, locs, cells, slots⟩ (Value.ref b :: argsL).toArray v B ∧
      ∀ target, Steps p.tables e below (B.U.setTop { g with pc := g.pc + 3, stack := v.toList ++ rest }) target → Steps p.tables e below (T.setTop g) target) ∨
    (∃ (q : Addr) (vm₁ : Vm) (B : Pt), s.WarmedH vm₁ ∧ Stand p l e R s m args below meth c B.U B.locs B.cells B.slots ∧ PostX ⟨T.setVm vm₁, locs, cells, slots⟩ (Value.ref b :: argsL).toArray q B ∧
      Steps p.tables e below (T.setTop g) ((B.U.setTop { g with stack := rest }).pushFrame (.throwing q))) := by
  obtain ⟨mk, methM, hnamed, hmethM, hstM, habM⟩ := Cond.instanceMethod_spec hinst
  obtain ⟨m8, methM', cM, hn8, hmethM', -, -, -, -, -, -, hsigM⟩ := Cond.codeWith_spec hcode
  cases Option.some.inj (hn8.symm.trans hnamed)
  cases hmethM.symm.trans hmethM'
  obtain ⟨c2, r2, m2, q1, q2, q3, q4, kP, hkP, hkPi⟩ := Cond.selects_spec hsel
  cases hcls.symm.trans q1
  cases (State.methodFound?_of_named hnamed hy).symm.trans q2
  cases hnamed.symm.trans q3
  have hselP : selectMethod e.platform s.vm cellB.cls mk = .method mk := by rw [Launch.admits_selectMethod X.admits]; exact q4
  obtain ⟨vm₁, X₁, hstep₁⟩ := X.invokevirtual hexec hown hlink hnamed hmethM hstM hkP hkPi hy (a := b) (cell := cellB) hcell
    (fun z h => by rw [h] at hobj; cases hobj) hselP hmethM habM hkP hkPi (g := g) hg (argsL := argsL) (rest := rest) (hlen _ hsigM) hstack hdg
  rcases hK m meth c ⟨T.setVm vm₁, locs, cells, slots⟩ { g with stack := rest } (.invokevirtual index) mk (Value.ref b :: argsL).toArray X₁ hg hsize hdg hW (X₁.named hnamed) (hpre vm₁ X₁.warmed) with ⟨v, B, X', hpost, hsteps⟩ | ⟨q, B, X', hpost, hsteps⟩
  · exact Or.inl ⟨v, vm₁, B, X₁.warmed, X', hpost, fun target h => hstep₁ _ fun acts => by rw [doInvoke_state]; exact hsteps.trans h⟩
  · exact Or.inr ⟨q, vm₁, B, X₁.warmed, X', hpost, hstep₁ _ fun acts => by rw [doInvoke_state]; exact hsteps⟩
theorem vx_callSX (X : Stand p l e R s m args below meth c T locs cells slots) (hexec : p.tables.exec = Jvm.exec) {own : String} {index : Nat} {y : MethodName} {bytes : ByteArray} {maxL : Nat} {ret : Option FieldType} {hh : List (Nat × Nat × Nat × Nat)}
    (hown : s.vm.findClass own = some m.cls) (hlink : (Cond.methodLink own index y).before args s = true) (hstat : (Cond.static y).before args s = true) (hinit : (Cond.initialized y.cls).before args s = true)
    (hcode : (Cond.codeWith y bytes maxL ret hh).before args s = true) (hy : y.cls ≠ "java/lang/invoke/MethodHandle" ∧ y.cls ≠ "java/lang/invoke/VarHandle")
    {W9 : Nat} {Pre : Pt → Array Value → Prop} {Post : Pt → Array Value → Option Value → Pt → Prop} {PostX : Pt → Array Value → Addr → Pt → Prop} (hK : vx_Back l R p e below s args y 3 W9 Pre Post PostX)
    {g : JFrame} (hg : g.method = m) (hsize : g.locals.size = c.maxLocals) {argsL rest : List Value} (hlen : ∀ sig, parseMethodDescriptor y.desc = some sig → argsL.length = sig.parameters.length)
    (hstack : g.stack = argsL.reverse ++ rest) (hW : 2 * g.monitorRoom + (rest.map fun v => v.category).sum ≤ W9) (hdg : decode c.code g.pc = .ok (.invokestatic index, 3))
    (hpre : ∀ vm₁, s.WarmedH vm₁ → Pre ⟨T.setVm vm₁, locs, cells, slots⟩ argsL.toArray) :
    (∃ (v : Option Value) (vm₁ : Vm) (B : Pt), s.WarmedH vm₁ ∧ Stand p l e R s m args below meth c B.U B.locs B.cells B.slots ∧ Post ⟨T.setVm vm₁, locs, cells, slots⟩ argsL.toArray v B ∧
      ∀ target, Steps p.tables e below (B.U.setTop { g with pc := g.pc + 3, stack := v.toList ++ rest }) target → Steps p.tables e below (T.setTop g) target) ∨
    (∃ (q : Addr) (vm₁ : Vm) (B : Pt), s.WarmedH vm₁ ∧ Stand p l e R s m args below meth c B.U B.locs B.cells B.slots ∧ PostX ⟨T.setVm vm₁, locs, cells, slots⟩ argsL.toArray q B ∧
      Steps p.tables e below (T.setTop g) ((B.U.setTop { g with stack := rest }).pushFrame (.throwing q))) := by
  obtain ⟨mk, methM, cM, hnamed, hmethM, -, -, -, -, -, -, hsigM⟩ := Cond.codeWith_spec hcode
  have hstatic : methM.isStatic = true := Cond.static_spec hnamed hmethM hstat
  obtain ⟨kP, hkP, -⟩ := className_of_methodNamed hnamed
  have hinitP : kP.init = .initialized := Cond.initialized_spec (findClass_of_methodNamed hnamed) hkP hinit
  obtain ⟨vm₁, X₁, hstep₁⟩ := X.invokestatic hexec hown hlink hnamed hmethM hstatic hkP hinitP hy (g := g) hg (argsL := argsL) (rest := rest) (hlen _ hsigM) hstack hdg
  rcases hK m meth c ⟨T.setVm vm₁, locs, cells, slots⟩ { g with stack := rest } (.invokestatic index) mk argsL.toArray X₁ hg hsize hdg hW (X₁.named hnamed) (hpre vm₁ X₁.warmed) with ⟨v, B, X', hpost, hsteps⟩ | ⟨q, B, X', hpost, hsteps⟩
  · exact Or.inl ⟨v, vm₁, B, X₁.warmed, X', hpost, fun target h => hstep₁ _ fun acts => by rw [doInvoke_state]; exact hsteps.trans h⟩
  · exact Or.inr ⟨q, vm₁, B, X₁.warmed, X', hpost, hstep₁ _ fun acts => by rw [doInvoke_state]; exact hsteps⟩
theorem vx_callVW (X : Stand p l e R s m args below meth c T locs cells slots) (hexec : p.tables.exec = Jvm.exec) {own C : String} {index : Nat} {y : MethodName} {bytes : ByteArray} {maxL : Nat} {ret : Option FieldType} {hh : List (Nat × Nat × Nat × Nat)}
    (hown : s.vm.findClass own = some m.cls) (hlink : (Cond.methodLink own index y).before args s = true) (hinst : (Cond.instanceMethod y).before args s = true) (hsel : (Cond.selects C y y).before args s = true)
    (hcode : (Cond.codeWith y bytes maxL ret hh).before args s = true) (hy : y.cls ≠ "java/lang/invoke/MethodHandle" ∧ y.cls ≠ "java/lang/invoke/VarHandle")
    {W9 : Nat} {Pre : Pt → Array Value → Prop} {Post : Pt → Array Value → Option Value → Pt → Prop} (hK : Back l R p e below s args y 3 W9 Pre Post)
    {b : Addr} {cellB : Cell} (hcell : T.heap[b]? = some cellB) (hobj : cellB.vm.isStatics = false) (hcls : s.vm.findClass C = some cellB.cls)
    {g : JFrame} (hg : g.method = m) (hsize : g.locals.size = c.maxLocals) {argsL rest : List Value} (hlen : ∀ sig, parseMethodDescriptor y.desc = some sig → argsL.length = sig.parameters.length)
    (hstack : g.stack = argsL.reverse ++ .ref b :: rest) (hW : 2 * g.monitorRoom + (rest.map fun v => v.category).sum ≤ W9) (hdg : decode c.code g.pc = .ok (.invokevirtual index, 3))
    (hpre : ∀ vm₁, s.WarmedH vm₁ → Pre ⟨T.setVm vm₁, locs, cells, slots⟩ (Value.ref b :: argsL).toArray) :
    ∃ (v : Option Value) (vm₁ : Vm) (B : Pt), s.WarmedH vm₁ ∧ Stand p l e R s m args below meth c B.U B.locs B.cells B.slots ∧ Post ⟨T.setVm vm₁, locs, cells, slots⟩ (Value.ref b :: argsL).toArray v B ∧
      ∀ target, Steps p.tables e below (B.U.setTop { g with pc := g.pc + 3, stack := v.toList ++ rest }) target → Steps p.tables e below (T.setTop g) target := by
  obtain ⟨mk, methM, hnamed, hmethM, hstM, habM⟩ := Cond.instanceMethod_spec hinst
  obtain ⟨m8, methM', cM, hn8, hmethM', -, -, -, -, -, -, hsigM⟩ := Cond.codeWith_spec hcode
  cases Option.some.inj (hn8.symm.trans hnamed)
  cases hmethM.symm.trans hmethM'
  obtain ⟨c2, r2, m2, q1, q2, q3, q4, kP, hkP, hkPi⟩ := Cond.selects_spec hsel
  cases hcls.symm.trans q1
  cases (State.methodFound?_of_named hnamed hy).symm.trans q2
  cases hnamed.symm.trans q3
  have hselP : selectMethod e.platform s.vm cellB.cls mk = .method mk := by rw [Launch.admits_selectMethod X.admits]; exact q4
  obtain ⟨vm₁, X₁, hstep₁⟩ := X.invokevirtual hexec hown hlink hnamed hmethM hstM hkP hkPi hy (a := b) (cell := cellB) hcell
    (fun z h => by rw [h] at hobj; cases hobj) hselP hmethM habM hkP hkPi (g := g) hg (argsL := argsL) (rest := rest) (hlen _ hsigM) hstack hdg
  obtain ⟨v, B, X', hpost, hsteps⟩ := hK m meth c ⟨T.setVm vm₁, locs, cells, slots⟩ { g with stack := rest } (.invokevirtual index) mk (Value.ref b :: argsL).toArray X₁ hg hsize hdg hW (X₁.named hnamed) (hpre vm₁ X₁.warmed)
  exact ⟨v, vm₁, B, X₁.warmed, X', hpost, fun target h => hstep₁ _ fun acts => by rw [doInvoke_state]; exact hsteps.trans h⟩
abbrev vx_CVW (R : Room) (s : State) (args : Array Value) (own C : String) (index : Nat) (y : MethodName) (bytes : ByteArray) (maxL : Nat) (ret : Option FieldType) (hh : List (Nat × Nat × Nat × Nat)) (ws : List Cond) (rm : Room) (mc ms n : Nat) : Prop :=
  (rm.cells = mc ∧ rm.slots = ms ∧ rm.frames + 1 ≤ R.frames ∧ 8 + (maxL + 11) + rm.locals ≤ R.locals ∧ (∀ w ∈ ws, ∀ (a' : Array Value) (U : State), s.WarmedH U.vm → w.before a' U = true) ∧ Cond.codeWith y bytes maxL ret hh ∈ ws) ∧
  (Cond.codeWith y bytes maxL ret hh).before args s = true ∧ (Cond.initialized y.cls).before args s = true ∧ (y.cls ≠ "java/lang/invoke/MethodHandle" ∧ y.cls ≠ "java/lang/invoke/VarHandle") ∧
  (∀ sig, parseMethodDescriptor y.desc = some sig → n = sig.parameters.length) ∧ (Cond.methodLink own index y).before args s = true ∧ (Cond.instanceMethod y).before args s = true ∧ (Cond.selects C y y).before args s = true
theorem vx_cwVW {own C : String} {index maxL mc ms : Nat} {y : MethodName} {bytes : ByteArray} {ret : Option FieldType} {hh : List (Nat × Nat × Nat × Nat)} {Ts ws ws' : List Cond} {rm : Room} (n : Nat) (ht : ∀ w ∈ Ts, w.before args s = true) (hT : GoodIn Ts (wsV own index C y ws)) (hw : ws = Cond.codeWith y bytes maxL ret hh :: ws') (hrc : rm.cells = mc) (hrs : rm.slots = ms)
    (hd : y.cls = C ∧ y.cls ≠ "java/lang/invoke/MethodHandle" ∧ y.cls ≠ "java/lang/invoke/VarHandle" ∧ (parseMethodDescriptor y.desc).map (fun d => d.parameters.length) = some n) (hR : rm.frames + 1 ≤ R.frames ∧ 8 + (maxL + 11) + rm.locals ≤ R.locals) :
    vx_CVW R s args own C index y bytes maxL ret hh ws rm mc ms n := by
  obtain ⟨hC, hd⟩ := hd
  subst hC
  have ok : ∀ w ∈ wsV own index y.cls y ws, w.before args s = true := fun w h => ht w (hT w h).1
  have hG : GoodIn Ts ws := fun w h => hT w (by unfold wsV; exact List.mem_append_right _ h)
  have hc : Cond.codeWith y bytes maxL ret hh ∈ ws := by rw [hw]; exact List.mem_cons_self
  refine ⟨⟨hrc, hrs, hR.1, hR.2, pay_in ht hG, hc⟩, ht _ (hG _ hc).1, ok _ (by simp [wsV]), ⟨hd.1, hd.2.1⟩, fun sig h => ?_, ok _ (by simp [wsV]), ok _ (by simp [wsV]), ok _ (by simp [wsV])⟩
  have h2 := hd.2.2
  rw [h] at h2
  exact (Option.some.inj h2).symm
theorem vx_runVW {y : MethodName} {bytes cc : ByteArray} {maxL nL mc ms n index : Nat} {ret : Option FieldType} {hh : List (Nat × Nat × Nat × Nat)} {ws : List Cond} {rm : Room} {Pc : Array Value → State → Prop} {Qc : Array Value → State → Outcome → State → Prop} {free : Addr → Prop} {Ts : List Cond} {own C : String} {b : Addr} {As rest : List Value} {g : JFrame}
    (S : CallFix p m c cc nL s args Ts own) (hM : Met l y ws rm Pc Qc mc ms free) (cw : vx_CVW R s args own C index y bytes maxL ret hh ws rm mc ms n) (hp : PreV s H C b Pc As)
    (hg : g.method = m) (hn : As.length = n) (hsize : g.locals.size = nL) (hstack : g.stack = As.reverse ++ .ref b :: rest) (hW : 2 * g.monitorRoom + (rest.map fun v => v.category).sum ≤ 8) (hdg : decode cc g.pc = .ok (.invokevirtual index, 3)) (hf : cells + mc ≤ R.cells ∧ slots + ms ≤ R.slots) :
    va_Run p l e R s m args below meth c H locs cells slots mc ms g rest (Qc (Value.ref b :: As).toArray) free := by
  obtain ⟨⟨hrc, hrs, hfr, hlo, hws, hcw⟩, hcode, hini, hy, hlen, hl, hin, hse⟩ := cw
  have hK : Back l R p e below s args y 3 8 (PreOf R mc ms Pc) (PostOf Qc mc ms free) := va_backW (hh := hh) (bytes := bytes) (maxL := maxL) (ret := ret) hM hp.1 hrc hrs hfr hlo hws hcw (fun a' U hW => word_at hW (Or.inl (by first | rfl | simp [Cond.onTables, Cond.keeps, Cond.steady])) hini)
  obtain ⟨hx, hb, hml, ho, -⟩ := S
  obtain ⟨-, ⟨cellB, hcB, hoB, hclB⟩, hPc⟩ := hp
  intro T hT X
  obtain ⟨v, vm₁, ⟨U', l2, c2, s2⟩, hW₁, X', ⟨g', mk, t, L, e1, e2, hq, h1, hL, h2, h3⟩, st⟩ := vx_callVW X hx (C := C) (hh := hh) (bytes := bytes) (maxL := maxL) (ret := ret) ho hl hin hse hcode hy hK (by rw [hT]; exact hcB) hoB hclB hg (hsize.trans hml.symm) (argsL := As) (rest := rest) (fun sig h => hn.trans (hlen sig h)) hstack hW (by rw [hb]; exact hdg)
    (fun vm₁ hW₁ => ⟨hf.1, hf.2, hPc (T.setVm vm₁) hT hW₁⟩)
  dsimp only [Pt.U, Pt.locs, Pt.cells, Pt.slots] at X' e1 e2 h1 h2 h3 st
  subst h1; subst h2; subst h3
  exact ⟨v, (T.setVm vm₁).calling g' mk (Value.ref b :: As).toArray, t, U', L, hT, X', hL, e1, e2, hq, st⟩
section
variable {y : MethodName} {bytes cc : ByteArray} {maxL nL mc ms n index : Nat} {ret : Option FieldType} {ws : List Cond} {rm : Room} {Pc : Array Value → State → Prop} {Qc : Array Value → State → Outcome → State → Prop} {XC : String → State → State → Prop} {free : Addr → Prop} {Ts : List Cond} {own C : String} {b : Addr} {As rest : List Value} {g : JFrame}
theorem vx_runVX {hh : List (Nat × Nat × Nat × Nat)} (S : CallFix p m c cc nL s args Ts own) (hM : vx_Met l y ws rm Pc Qc XC mc ms free) (cw : vx_CVW R s args own C index y bytes maxL ret hh ws rm mc ms n) (hp : PreV s H C b Pc As)
    (hg : g.method = m) (hn : As.length = n) (hsize : g.locals.size = nL) (hstack : g.stack = As.reverse ++ .ref b :: rest) (hW : 2 * g.monitorRoom + (rest.map fun v => v.category).sum ≤ 8) (hdg : decode cc g.pc = .ok (.invokevirtual index, 3)) (hf : cells + mc ≤ R.cells ∧ slots + ms ≤ R.slots) :
    vx_Run p l e R s m args below meth c H locs cells slots mc ms g rest (Qc (Value.ref b :: As).toArray) XC free := by
  obtain ⟨⟨hrc, hrs, hfr, hlo, hws, hcw⟩, hcode, hini, hy, hlen, hl, hin, hse⟩ := cw
  have hK : vx_Back l R p e below s args y 3 8 (PreOf R mc ms Pc) (PostOf Qc mc ms free) (vx_Post XC mc ms free) := vx_backW (hh := hh) (bytes := bytes) (maxL := maxL) (ret := ret) hM hp.1 hrc hrs hfr hlo hws hcw (fun a' U hW => word_at hW (Or.inl (by first | rfl | simp [Cond.onTables, Cond.keeps, Cond.steady])) hini)
  obtain ⟨hx, hb, hml, ho, -⟩ := S
  obtain ⟨-, ⟨cellB, hcB, hoB, hclB⟩, hPc⟩ := hp
  intro T hT X
  rcases vx_callVX X hx (C := C) (hh := hh) (bytes := bytes) (maxL := maxL) (ret := ret) ho hl hin hse hcode hy hK (by rw [hT]; exact hcB) hoB hclB hg (hsize.trans hml.symm) (argsL := As) (rest := rest) (fun sig h => hn.trans (hlen sig h)) hstack hW (by rw [hb]; exact hdg)
    (fun vm₁ hW₁ => ⟨hf.1, hf.2, hPc (T.setVm vm₁) hT hW₁⟩) with ⟨v, vm₁, ⟨U', l2, c2, s2⟩, hW₁, X', ⟨g', mk, t, L, e1, e2, hq, h1, hL, h2, h3⟩, st⟩ | ⟨q, vm₁, ⟨U', l2, c2, s2⟩, hW₁, X', ⟨g', mk, t, L, E, ce, e1, e2, hq, hce, hcv, hcl, h1, hL, h2, h3⟩, st⟩
  · dsimp only [Pt.U, Pt.locs, Pt.cells, Pt.slots] at X' e1 e2 h1 h2 h3 st
    subst h1; subst h2; subst h3
    exact Or.inl ⟨v, (T.setVm vm₁).calling g' mk (Value.ref b :: As).toArray, t, U', L, hT, X', hL, e1, e2, hq, st⟩
  · dsimp only [Pt.U, Pt.locs, Pt.cells, Pt.slots] at X' e1 e2 h1 h2 h3 st hcl
    subst h1; subst h2; subst h3
    exact Or.inr ⟨q, (T.setVm vm₁).calling g' mk (Value.ref b :: As).toArray, t, U', L, E, ce, hT, X', hL, e1, e2, hq, hce, hcv, vx_cls hW₁ hcl, st⟩
theorem vx_runSX {hh : List (Nat × Nat × Nat × Nat)} (S : CallFix p m c cc nL s args Ts own) (hM : vx_Met l y ws rm Pc Qc XC mc ms free) (cw : vx_CSW R s args own index y bytes maxL ret hh ws rm mc ms n) (hp : PreS s H Pc As)
    (hg : g.method = m) (hn : As.length = n) (hsize : g.locals.size = nL) (hstack : g.stack = As.reverse ++ rest) (hW : 2 * g.monitorRoom + (rest.map fun v => v.category).sum ≤ 8) (hdg : decode cc g.pc = .ok (.invokestatic index, 3)) (hf : cells + mc ≤ R.cells ∧ slots + ms ≤ R.slots) :
    vx_Run p l e R s m args below meth c H locs cells slots mc ms g rest (Qc As.toArray) XC free := by
  obtain ⟨⟨hrc, hrs, hfr, hlo, hws, hcw⟩, hcode, hini, hy, hlen, hl, hstt⟩ := cw
  have hK : vx_Back l R p e below s args y 3 8 (PreOf R mc ms Pc) (PostOf Qc mc ms free) (vx_Post XC mc ms free) := vx_backW (hh := hh) (bytes := bytes) (maxL := maxL) (ret := ret) hM hp.1 hrc hrs hfr hlo hws hcw (fun a' U hW => word_at hW (Or.inl (by first | rfl | simp [Cond.onTables, Cond.keeps, Cond.steady])) hini)
  obtain ⟨hx, hb, hml, ho, -⟩ := S
  intro T hT X
  rcases vx_callSX X hx (hh := hh) (bytes := bytes) (maxL := maxL) (ret := ret) ho hl hstt hini hcode hy hK hg (hsize.trans hml.symm) (argsL := As) (rest := rest) (fun sig h => hn.trans (hlen sig h)) hstack hW (by rw [hb]; exact hdg)
    (fun vm₁ hW₁ => ⟨hf.1, hf.2, hp.2 (T.setVm vm₁) hT hW₁⟩) with ⟨v, vm₁, ⟨U', l2, c2, s2⟩, hW₁, X', ⟨g', mk, t, L, e1, e2, hq, h1, hL, h2, h3⟩, st⟩ | ⟨q, vm₁, ⟨U', l2, c2, s2⟩, hW₁, X', ⟨g', mk, t, L, E, ce, e1, e2, hq, hce, hcv, hcl, h1, hL, h2, h3⟩, st⟩
  · dsimp only [Pt.U, Pt.locs, Pt.cells, Pt.slots] at X' e1 e2 h1 h2 h3 st
    subst h1; subst h2; subst h3
    exact Or.inl ⟨v, (T.setVm vm₁).calling g' mk As.toArray, t, U', L, hT, X', hL, e1, e2, hq, st⟩
  · dsimp only [Pt.U, Pt.locs, Pt.cells, Pt.slots] at X' e1 e2 h1 h2 h3 st hcl
    subst h1; subst h2; subst h3
    exact Or.inr ⟨q, (T.setVm vm₁).calling g' mk As.toArray, t, U', L, E, ce, hT, X', hL, e1, e2, hq, hce, hcv, vx_cls hW₁ hcl, st⟩
end
end VXH
theorem vx_ofWH {l : Launch} {y : MethodName} {ws ws' : List Cond} {rm : Room} {Pc : Array Value → State → Prop} {Qc : Array Value → State → Outcome → State → Prop} {XC : String → State → State → Prop} {mc ms : Nat} {free : Addr → Prop} {cc : ByteArray} {maxL : Nat} {ret : Option FieldType} {hh : List (Nat × Nat × Nat × Nat)}
    (hy : plainName y.cls = true) (hw : ws = Cond.codeWith y cc maxL ret hh :: ws')
    (body : ∀ p e s m args below meth c s₁, BodyLoose p l y (headSpec ws rm) cc maxL ret e s m args below meth c s₁ → c.maxLocals = maxL → Pc args s →
      W p l e (headSpec ws rm).room s m args below meth c s.heap [] 0 0 (vx_MQ below Qc XC args s mc ms free) (entryFrame m args maxL)) : vx_Met l y ws rm Pc Qc XC mc ms free := by
  refine MetFree.of_bodyS (code := cc) (maxLocals := maxL) (ret := ret) hy ?_ ?_
  · intro args s m h hn
    obtain ⟨m9, meth, c, hn9, h1, h2, h3, h4, -, h5, h6, -⟩ := Cond.codeWith_spec (atoms_spec (ws := ws) h _ (by rw [hw]; exact List.mem_cons_self))
    cases hn.symm.trans hn9
    exact ⟨meth, c, h1, h2, h3, h4, h5, h6⟩
  · intro p e s m args below meth c s₁ B hml hP _
    have hh0 : s₁.heap = s.heap := by rw [B.state]; rfl
    obtain ⟨t, a1, o, b1, b2, b3⟩ := body p e s m args below meth c s₁ B hml hP s₁ hh0 (Stand.of_body B)
    exact ⟨t, o, a1, b1, b2, b3⟩
/-! ===== END ===== -/
end
section
/-! ===== BEGIN printed: names, fields, word lists, decode rows ===== -/
def RX0 : String := "RefusePlanner$Bin"
def TX0 : u_T := fun k => match k with
  | 0 => ("RefusePlanner$Bin", "place", "I", true)
  | 1 => ("RefusePlanner$Bin", "kind", "I", true)
  | 2 => ("RefusePlanner$Bin", "size", "I", true)
  | 3 => ("RefusePlanner$Bin", "growth", "I", false)
  | 4 => ("RefusePlanner$Bin", "content", "I", false)
  | 5 => ("RefusePlanner$Bin", "rate", "I", false)
  | 6 => ("RefusePlanner$Bin", "emptiedOn", "I", false)
  | 7 => ("RefusePlanner$Bin", "overflows", "I", false)
  | 8 => ("RefusePlanner$Bin", "warnings", "I", false)
  | _ => ("RefusePlanner$Bin", "dirty", "Z", false)
def tyX0 : Nat → FieldType := fun k => match k with
  | 0 => .int
  | 1 => .int
  | 2 => .int
  | 3 => .int
  | 4 => .int
  | 5 => .int
  | 6 => .int
  | 7 => .int
  | 8 => .int
  | _ => .boolean
abbrev wsX00 : List Cond := u_ws RX0 TX0 10
theorem nmX0 : ∀ a, a < 10 → ∀ b, b < 10 → a ≠ b → (TX0 a).2.1 ≠ (TX0 b).2.1 := by decide +kernel
theorem tyX0_ok : ∀ k, k < 10 → parseFieldDescriptor (TX0 k).2.2.1 = some (tyX0 k) := by decide +kernel
abbrev cX0_init : ByteArray := prog_2_method_1_code
def yX0_init : MethodName := ⟨RX0, "<init>", "(IIIII)V"⟩
abbrev cX0_fact : ByteArray := prog_2_method_2_code
def yX0_fact : MethodName := ⟨RX0, "fact", "(I)I"⟩
abbrev cX0_forecast : ByteArray := prog_2_method_3_code
def yX0_forecast : MethodName := ⟨RX0, "forecast", "(I)I"⟩
abbrev cX0_isFullOn : ByteArray := prog_2_method_4_code
def yX0_isFullOn : MethodName := ⟨RX0, "isFullOn", "(I)Z"⟩
abbrev cX0_isDue : ByteArray := prog_2_method_5_code
def yX0_isDue : MethodName := ⟨RX0, "isDue", "(II)Z"⟩
abbrev cX0_fill : ByteArray := prog_2_method_6_code
def yX0_fill : MethodName := ⟨RX0, "fill", "()I"⟩
abbrev cX0_endVisit : ByteArray := prog_2_method_7_code
def yX0_endVisit : MethodName := ⟨RX0, "endVisit", "(II)V"⟩
def RX1 : String := "RefusePlanner$Region"
def TX1 : u_T := fun k => match k with
  | 0 => ("RefusePlanner$Region", "minutes", "[I", true)
  | 1 => ("RefusePlanner$Region", "tips", "[I", true)
  | _ => ("RefusePlanner$Region", "places", "I", false)
def tyX1 : Nat → FieldType := fun k => match k with
  | 0 => .array .int
  | 1 => .array .int
  | _ => .int
abbrev wsX10 : List Cond := u_ws RX1 TX1 3
theorem nmX1 : ∀ a, a < 3 → ∀ b, b < 3 → a ≠ b → (TX1 a).2.1 ≠ (TX1 b).2.1 := by decide +kernel
theorem tyX1_ok : ∀ k, k < 3 → parseFieldDescriptor (TX1 k).2.2.1 = some (tyX1 k) := by decide +kernel
abbrev cX1_init : ByteArray := prog_3_method_1_code
def yX1_init : MethodName := ⟨RX1, "<init>", "()V"⟩
abbrev cX1_add : ByteArray := prog_3_method_2_code
def yX1_add : MethodName := ⟨RX1, "add", "()I"⟩
abbrev cX1_between : ByteArray := prog_3_method_3_code
def yX1_between : MethodName := ⟨RX1, "between", "(II)I"⟩
abbrev cX1_join : ByteArray := prog_3_method_4_code
def yX1_join : MethodName := ⟨RX1, "join", "(III)V"⟩
abbrev cX1_hasTip : ByteArray := prog_3_method_5_code
def yX1_hasTip : MethodName := ⟨RX1, "hasTip", "(II)Z"⟩
abbrev cX1_putTip : ByteArray := prog_3_method_6_code
def yX1_putTip : MethodName := ⟨RX1, "putTip", "(IIZ)V"⟩
abbrev cX1_countTips : ByteArray := prog_3_method_7_code
def yX1_countTips : MethodName := ⟨RX1, "countTips", "(I)I"⟩
abbrev cX1_overTip : ByteArray := prog_3_method_8_code
def yX1_overTip : MethodName := ⟨RX1, "overTip", "(III)I"⟩
def RX2 : String := "RefusePlanner$Tour"
def TX2 : u_T := fun k => match k with
  | 0 => ("RefusePlanner$Tour", "region", "LRefusePlanner$Region;", true)
  | 1 => ("RefusePlanner$Tour", "kind", "I", true)
  | 2 => ("RefusePlanner$Tour", "capacity", "I", true)
  | 3 => ("RefusePlanner$Tour", "at", "I", false)
  | 4 => ("RefusePlanner$Tour", "load", "I", false)
  | 5 => ("RefusePlanner$Tour", "minutes", "I", false)
  | 6 => ("RefusePlanner$Tour", "tipVisits", "I", false)
  | _ => ("RefusePlanner$Tour", "litres", "I", false)
def tyX2 : Nat → FieldType := fun k => match k with
  | 0 => .object "RefusePlanner$Region"
  | 1 => .int
  | 2 => .int
  | 3 => .int
  | 4 => .int
  | 5 => .int
  | 6 => .int
  | _ => .int
abbrev wsX20 : List Cond := u_ws RX2 TX2 8
theorem nmX2 : ∀ a, a < 8 → ∀ b, b < 8 → a ≠ b → (TX2 a).2.1 ≠ (TX2 b).2.1 := by decide +kernel
theorem tyX2_ok : ∀ k, k < 8 → parseFieldDescriptor (TX2 k).2.2.1 = some (tyX2 k) := by decide +kernel
abbrev cX2_init : ByteArray := prog_4_method_1_code
def yX2_init : MethodName := ⟨RX2, "<init>", "(LRefusePlanner$Region;II)V"⟩
abbrev cX2_visit : ByteArray := prog_4_method_2_code
def yX2_visit : MethodName := ⟨RX2, "visit", "(LRefusePlanner$Bin;)I"⟩
abbrev cX2_end : ByteArray := prog_4_method_3_code
def yX2_end : MethodName := ⟨RX2, "end", "()V"⟩
abbrev cX2_driveTo : ByteArray := prog_4_method_4_code
def yX2_driveTo : MethodName := ⟨RX2, "driveTo", "(I)V"⟩
abbrev cX2_unloadOnTheWayTo : ByteArray := prog_4_method_5_code
def yX2_unloadOnTheWayTo : MethodName := ⟨RX2, "unloadOnTheWayTo", "(I)V"⟩
def RX3 : String := "RefusePlanner"
def TX3 : u_T := fun k => match k with
  | 0 => ("RefusePlanner", "region", "LRefusePlanner$Region;", true)
  | 1 => ("RefusePlanner", "bins", "Ljava/util/ArrayList;", true)
  | 2 => ("RefusePlanner", "holidays", "[Z", true)
  | 3 => ("RefusePlanner", "totals", "[J", true)
  | 4 => ("RefusePlanner", "wastes", "[J", true)
  | 5 => ("RefusePlanner", "route", "[I", true)
  | 6 => ("RefusePlanner", "stops", "I", false)
  | _ => ("RefusePlanner", "day", "I", false)
def tyX3 : Nat → FieldType := fun k => match k with
  | 0 => .object "RefusePlanner$Region"
  | 1 => .object "java/util/ArrayList"
  | 2 => .array .boolean
  | 3 => .array .long
  | 4 => .array .long
  | 5 => .array .int
  | 6 => .int
  | _ => .int
abbrev wsX30 : List Cond := u_ws RX3 TX3 8
theorem nmX3 : ∀ a, a < 8 → ∀ b, b < 8 → a ≠ b → (TX3 a).2.1 ≠ (TX3 b).2.1 := by decide +kernel
theorem tyX3_ok : ∀ k, k < 8 → parseFieldDescriptor (TX3 k).2.2.1 = some (tyX3 k) := by decide +kernel
abbrev cX3_init : ByteArray := prog_1_method_1_code
def yX3_init : MethodName := ⟨RX3, "<init>", "()V"⟩
abbrev cX3_addPlace : ByteArray := prog_1_method_2_code
def yX3_addPlace : MethodName := ⟨RX3, "addPlace", "()I"⟩
abbrev cX3_setMinutes : ByteArray := prog_1_method_3_code
def yX3_setMinutes : MethodName := ⟨RX3, "setMinutes", "(III)I"⟩
abbrev cX3_setTip : ByteArray := prog_1_method_4_code
def yX3_setTip : MethodName := ⟨RX3, "setTip", "(IIZ)Z"⟩
abbrev cX3_setHoliday : ByteArray := prog_1_method_5_code
def yX3_setHoliday : MethodName := ⟨RX3, "setHoliday", "(IZ)Z"⟩
abbrev cX3_pass : ByteArray := prog_1_method_6_code
def yX3_pass : MethodName := ⟨RX3, "pass", "(I)I"⟩
abbrev cX3_today : ByteArray := prog_1_method_7_code
def yX3_today : MethodName := ⟨RX3, "today", "()I"⟩
abbrev cX3_nextWorkday : ByteArray := prog_1_method_8_code
def yX3_nextWorkday : MethodName := ⟨RX3, "nextWorkday", "()I"⟩
abbrev cX3_addBin : ByteArray := prog_1_method_9_code
def yX3_addBin : MethodName := ⟨RX3, "addBin", "(IIII)I"⟩
abbrev cX3_setGrowth : ByteArray := prog_1_method_10_code
def yX3_setGrowth : MethodName := ⟨RX3, "setGrowth", "(II)I"⟩
abbrev cX3_soil : ByteArray := prog_1_method_11_code
def yX3_soil : MethodName := ⟨RX3, "soil", "(I)Z"⟩
abbrev cX3_binCount : ByteArray := prog_1_method_12_code
def yX3_binCount : MethodName := ⟨RX3, "binCount", "()I"⟩
abbrev cX3_bin : ByteArray := prog_1_method_13_code
def yX3_bin : MethodName := ⟨RX3, "bin", "(II)I"⟩
abbrev cX3_expected : ByteArray := prog_1_method_14_code
def yX3_expected : MethodName := ⟨RX3, "expected", "(II)I"⟩
abbrev cX3_fullOn : ByteArray := prog_1_method_15_code
def yX3_fullOn : MethodName := ⟨RX3, "fullOn", "(I)I"⟩
abbrev cX3_planSize : ByteArray := prog_1_method_16_code
def yX3_planSize : MethodName := ⟨RX3, "planSize", "(I)I"⟩
abbrev cX3_planned : ByteArray := prog_1_method_17_code
def yX3_planned : MethodName := ⟨RX3, "planned", "(II)I"⟩
abbrev cX3_collect : ByteArray := prog_1_method_18_code
def yX3_collect : MethodName := ⟨RX3, "collect", "(II)I"⟩
abbrev cX3_fetch : ByteArray := prog_1_method_19_code
def yX3_fetch : MethodName := ⟨RX3, "fetch", "(II)I"⟩
abbrev cX3_wouldTake : ByteArray := prog_1_method_20_code
def yX3_wouldTake : MethodName := ⟨RX3, "wouldTake", "(II)I"⟩
abbrev cX3_total : ByteArray := prog_1_method_21_code
def yX3_total : MethodName := ⟨RX3, "total", "(II)J"⟩
abbrev cX3_wasted : ByteArray := prog_1_method_22_code
def yX3_wasted : MethodName := ⟨RX3, "wasted", "(I)J"⟩
abbrev cX3_error : ByteArray := prog_1_method_23_code
def yX3_error : MethodName := ⟨RX3, "error", "()D"⟩
abbrev cX3_digest : ByteArray := prog_1_method_24_code
def yX3_digest : MethodName := ⟨RX3, "digest", "()J"⟩
abbrev cX3_checkPlace : ByteArray := prog_1_method_25_code
def yX3_checkPlace : MethodName := ⟨RX3, "checkPlace", "(I)V"⟩
abbrev cX3_checkKind : ByteArray := prog_1_method_26_code
def yX3_checkKind : MethodName := ⟨RX3, "checkKind", "(I)V"⟩
abbrev cX3_checkBin : ByteArray := prog_1_method_27_code
def yX3_checkBin : MethodName := ⟨RX3, "checkBin", "(I)V"⟩
abbrev cX3_checkRange : ByteArray := prog_1_method_28_code
def yX3_checkRange : MethodName := ⟨RX3, "checkRange", "(III)V"⟩
abbrev cX3_checkWorkday : ByteArray := prog_1_method_29_code
def yX3_checkWorkday : MethodName := ⟨RX3, "checkWorkday", "()V"⟩
abbrev cX3_passOneDay : ByteArray := prog_1_method_30_code
def yX3_passOneDay : MethodName := ⟨RX3, "passOneDay", "()I"⟩
abbrev cX3_planRoute : ByteArray := prog_1_method_31_code
def yX3_planRoute : MethodName := ⟨RX3, "planRoute", "(I)V"⟩
abbrev cX3_nearestStop : ByteArray := prog_1_method_32_code
def yX3_nearestStop : MethodName := ⟨RX3, "nearestStop", "(II)I"⟩
abbrev cX3_makeTour : ByteArray := prog_1_method_33_code
def yX3_makeTour : MethodName := ⟨RX3, "makeTour", "(II)I"⟩
abbrev cX3_mixRegion : ByteArray := prog_1_method_34_code
def yX3_mixRegion : MethodName := ⟨RX3, "mixRegion", "(J)J"⟩
abbrev cX3_mixBins : ByteArray := prog_1_method_35_code
def yX3_mixBins : MethodName := ⟨RX3, "mixBins", "(J)J"⟩
abbrev cX3_mixTotals : ByteArray := prog_1_method_36_code
def yX3_mixTotals : MethodName := ⟨RX3, "mixTotals", "(J)J"⟩
abbrev cX3_mix : ByteArray := prog_1_method_37_code
def yX3_mix : MethodName := ⟨RX3, "mix", "(JJ)J"⟩
def RX4 : String := "RefusePlannerModel"
def TX4 : u_T := fun k => match k with
  | 0 => ("RefusePlannerModel", "thrown", "I", false)
  | 1 => ("RefusePlannerModel", "places", "I", false)
  | 2 => ("RefusePlannerModel", "minutes", "[I", true)
  | 3 => ("RefusePlannerModel", "tips", "[I", true)
  | 4 => ("RefusePlannerModel", "areHolidays", "[Z", true)
  | 5 => ("RefusePlannerModel", "day", "I", false)
  | 6 => ("RefusePlannerModel", "bins", "I", false)
  | 7 => ("RefusePlannerModel", "stands", "[I", true)
  | 8 => ("RefusePlannerModel", "kinds", "[I", true)
  | 9 => ("RefusePlannerModel", "sizes", "[I", true)
  | 10 => ("RefusePlannerModel", "growths", "[I", true)
  | 11 => ("RefusePlannerModel", "contents", "[I", true)
  | 12 => ("RefusePlannerModel", "rates", "[I", true)
  | 13 => ("RefusePlannerModel", "emptied", "[I", true)
  | 14 => ("RefusePlannerModel", "overflows", "[I", true)
  | 15 => ("RefusePlannerModel", "warnings", "[I", true)
  | 16 => ("RefusePlannerModel", "areDirty", "[Z", true)
  | 17 => ("RefusePlannerModel", "totals", "[J", true)
  | 18 => ("RefusePlannerModel", "waste", "[J", true)
  | 19 => ("RefusePlannerModel", "planned", "I", false)
  | _ => ("RefusePlannerModel", "plan", "[I", true)
def tyX4 : Nat → FieldType := fun k => match k with
  | 0 => .int
  | 1 => .int
  | 2 => .array .int
  | 3 => .array .int
  | 4 => .array .boolean
  | 5 => .int
  | 6 => .int
  | 7 => .array .int
  | 8 => .array .int
  | 9 => .array .int
  | 10 => .array .int
  | 11 => .array .int
  | 12 => .array .int
  | 13 => .array .int
  | 14 => .array .int
  | 15 => .array .int
  | 16 => .array .boolean
  | 17 => .array .long
  | 18 => .array .long
  | 19 => .int
  | _ => .array .int
abbrev wsX40 : List Cond := u_ws RX4 TX4 21
theorem nmX4 : ∀ a, a < 21 → ∀ b, b < 21 → a ≠ b → (TX4 a).2.1 ≠ (TX4 b).2.1 := by decide +kernel
theorem tyX4_ok : ∀ k, k < 21 → parseFieldDescriptor (TX4 k).2.2.1 = some (tyX4 k) := by decide +kernel
abbrev cX4_init : ByteArray := prog_6_method_1_code
def yX4_init : MethodName := ⟨RX4, "<init>", "()V"⟩
abbrev cX4_thrown : ByteArray := prog_6_method_2_code
def yX4_thrown : MethodName := ⟨RX4, "thrown", "()I"⟩
abbrev cX4_fail : ByteArray := prog_6_method_3_code
def yX4_fail : MethodName := ⟨RX4, "fail", "(I)I"⟩
abbrev cX4_isIn : ByteArray := prog_6_method_4_code
def yX4_isIn : MethodName := ⟨RX4, "isIn", "(III)Z"⟩
abbrev cX4_isPlace : ByteArray := prog_6_method_5_code
def yX4_isPlace : MethodName := ⟨RX4, "isPlace", "(I)Z"⟩
abbrev cX4_isKind : ByteArray := prog_6_method_6_code
def yX4_isKind : MethodName := ⟨RX4, "isKind", "(I)Z"⟩
abbrev cX4_isBin : ByteArray := prog_6_method_7_code
def yX4_isBin : MethodName := ⟨RX4, "isBin", "(I)Z"⟩
abbrev cX4_isCapacity : ByteArray := prog_6_method_8_code
def yX4_isCapacity : MethodName := ⟨RX4, "isCapacity", "(I)Z"⟩
abbrev cX4_has : ByteArray := prog_6_method_9_code
def yX4_has : MethodName := ⟨RX4, "has", "(II)Z"⟩
abbrev cX4_drive : ByteArray := prog_6_method_10_code
def yX4_drive : MethodName := ⟨RX4, "drive", "(II)I"⟩
abbrev cX4_addPlace : ByteArray := prog_6_method_11_code
def yX4_addPlace : MethodName := ⟨RX4, "addPlace", "()I"⟩
abbrev cX4_setMinutes : ByteArray := prog_6_method_12_code
def yX4_setMinutes : MethodName := ⟨RX4, "setMinutes", "(III)I"⟩
abbrev cX4_setTip : ByteArray := prog_6_method_13_code
def yX4_setTip : MethodName := ⟨RX4, "setTip", "(IIZ)Z"⟩
abbrev cX4_setHoliday : ByteArray := prog_6_method_14_code
def yX4_setHoliday : MethodName := ⟨RX4, "setHoliday", "(IZ)Z"⟩
abbrev cX4_pass : ByteArray := prog_6_method_15_code
def yX4_pass : MethodName := ⟨RX4, "pass", "(I)I"⟩
abbrev cX4_today : ByteArray := prog_6_method_16_code
def yX4_today : MethodName := ⟨RX4, "today", "()I"⟩
abbrev cX4_workday : ByteArray := prog_6_method_17_code
def yX4_workday : MethodName := ⟨RX4, "workday", "()I"⟩
abbrev cX4_nextWorkday : ByteArray := prog_6_method_18_code
def yX4_nextWorkday : MethodName := ⟨RX4, "nextWorkday", "()I"⟩
abbrev cX4_addBin : ByteArray := prog_6_method_19_code
def yX4_addBin : MethodName := ⟨RX4, "addBin", "(IIII)I"⟩
abbrev cX4_setGrowth : ByteArray := prog_6_method_20_code
def yX4_setGrowth : MethodName := ⟨RX4, "setGrowth", "(II)I"⟩
abbrev cX4_soil : ByteArray := prog_6_method_21_code
def yX4_soil : MethodName := ⟨RX4, "soil", "(I)Z"⟩
abbrev cX4_binCount : ByteArray := prog_6_method_22_code
def yX4_binCount : MethodName := ⟨RX4, "binCount", "()I"⟩
abbrev cX4_told : ByteArray := prog_6_method_23_code
def yX4_told : MethodName := ⟨RX4, "told", "(II)I"⟩
abbrev cX4_bin : ByteArray := prog_6_method_24_code
def yX4_bin : MethodName := ⟨RX4, "bin", "(II)I"⟩
abbrev cX4_expectedOn : ByteArray := prog_6_method_25_code
def yX4_expectedOn : MethodName := ⟨RX4, "expectedOn", "(II)I"⟩
abbrev cX4_expected : ByteArray := prog_6_method_26_code
def yX4_expected : MethodName := ⟨RX4, "expected", "(II)I"⟩
abbrev cX4_fullOn : ByteArray := prog_6_method_27_code
def yX4_fullOn : MethodName := ⟨RX4, "fullOn", "(I)I"⟩
abbrev cX4_isDue : ByteArray := prog_6_method_28_code
def yX4_isDue : MethodName := ⟨RX4, "isDue", "(I)Z"⟩
abbrev cX4_makePlan : ByteArray := prog_6_method_29_code
def yX4_makePlan : MethodName := ⟨RX4, "makePlan", "(I)V"⟩
abbrev cX4_planSize : ByteArray := prog_6_method_30_code
def yX4_planSize : MethodName := ⟨RX4, "planSize", "(I)I"⟩
abbrev cX4_planned : ByteArray := prog_6_method_31_code
def yX4_planned : MethodName := ⟨RX4, "planned", "(II)I"⟩
abbrev cX4_tipFor : ByteArray := prog_6_method_32_code
def yX4_tipFor : MethodName := ⟨RX4, "tipFor", "(III)I"⟩
abbrev cX4_tour : ByteArray := prog_6_method_33_code
def yX4_tour : MethodName := ⟨RX4, "tour", "(IIZ)I"⟩
abbrev cX4_empty : ByteArray := prog_6_method_34_code
def yX4_empty : MethodName := ⟨RX4, "empty", "(II)V"⟩
abbrev cX4_collect : ByteArray := prog_6_method_35_code
def yX4_collect : MethodName := ⟨RX4, "collect", "(II)I"⟩
abbrev cX4_fetch : ByteArray := prog_6_method_36_code
def yX4_fetch : MethodName := ⟨RX4, "fetch", "(II)I"⟩
abbrev cX4_wouldTake : ByteArray := prog_6_method_37_code
def yX4_wouldTake : MethodName := ⟨RX4, "wouldTake", "(II)I"⟩
abbrev cX4_total : ByteArray := prog_6_method_38_code
def yX4_total : MethodName := ⟨RX4, "total", "(II)J"⟩
abbrev cX4_wasted : ByteArray := prog_6_method_39_code
def yX4_wasted : MethodName := ⟨RX4, "wasted", "(I)J"⟩
abbrev cX4_error : ByteArray := prog_6_method_40_code
def yX4_error : MethodName := ⟨RX4, "error", "()D"⟩
abbrev cX4_digest : ByteArray := prog_6_method_41_code
def yX4_digest : MethodName := ⟨RX4, "digest", "()J"⟩
def RJx145de : String := "java/io/Serializable"
def TJx145de : u_T := fun k => match k with
  | _ => ("", "", "", false)
def tyJx145de : Nat → FieldType := fun k => match k with
  | _ => .int
abbrev wsJx145de0 : List Cond := u_ws RJx145de TJx145de 0
theorem nmJx145de : ∀ a, a < 0 → ∀ b, b < 0 → a ≠ b → (TJx145de a).2.1 ≠ (TJx145de b).2.1 := by decide +kernel
theorem tyJx145de_ok : ∀ k, k < 0 → parseFieldDescriptor (TJx145de k).2.2.1 = some (tyJx145de k) := by decide +kernel
def RJx8e188 : String := "java/lang/Cloneable"
def TJx8e188 : u_T := fun k => match k with
  | _ => ("", "", "", false)
def tyJx8e188 : Nat → FieldType := fun k => match k with
  | _ => .int
abbrev wsJx8e1880 : List Cond := u_ws RJx8e188 TJx8e188 0
theorem nmJx8e188 : ∀ a, a < 0 → ∀ b, b < 0 → a ≠ b → (TJx8e188 a).2.1 ≠ (TJx8e188 b).2.1 := by decide +kernel
theorem tyJx8e188_ok : ∀ k, k < 0 → parseFieldDescriptor (TJx8e188 k).2.2.1 = some (tyJx8e188 k) := by decide +kernel
def RJxab1ab : String := "java/lang/Iterable"
def TJxab1ab : u_T := fun k => match k with
  | _ => ("", "", "", false)
def tyJxab1ab : Nat → FieldType := fun k => match k with
  | _ => .int
abbrev wsJxab1ab0 : List Cond := u_ws RJxab1ab TJxab1ab 0
theorem nmJxab1ab : ∀ a, a < 0 → ∀ b, b < 0 → a ≠ b → (TJxab1ab a).2.1 ≠ (TJxab1ab b).2.1 := by decide +kernel
theorem tyJxab1ab_ok : ∀ k, k < 0 → parseFieldDescriptor (TJxab1ab k).2.2.1 = some (tyJxab1ab k) := by decide +kernel
def RJ9 : String := "java/lang/Math"
def TJ9 : u_T := fun k => match k with
  | _ => ("", "", "", false)
def tyJ9 : Nat → FieldType := fun k => match k with
  | _ => .int
abbrev wsJ90 : List Cond := u_ws RJ9 TJ9 0
theorem nmJ9 : ∀ a, a < 0 → ∀ b, b < 0 → a ≠ b → (TJ9 a).2.1 ≠ (TJ9 b).2.1 := by decide +kernel
theorem tyJ9_ok : ∀ k, k < 0 → parseFieldDescriptor (TJ9 k).2.2.1 = some (tyJ9 k) := by decide +kernel
abbrev cJ9_abs_0f7a4 : ByteArray := prog_14_method_59_code
def yJ9_abs_0f7a4 : MethodName := ⟨RJ9, "abs", "(I)I"⟩
abbrev cJ9_max_7cf53 : ByteArray := prog_14_method_65_code
def yJ9_max_7cf53 : MethodName := ⟨RJ9, "max", "(II)I"⟩
abbrev cJ9_min_7cf53 : ByteArray := prog_14_method_69_code
def yJ9_min_7cf53 : MethodName := ⟨RJ9, "min", "(II)I"⟩
def RJ0 : String := "java/lang/String"
def TJ0 : u_T := fun k => match k with
  | _ => ("", "", "", false)
def tyJ0 : Nat → FieldType := fun k => match k with
  | _ => .int
abbrev wsJ00 : List Cond := u_ws RJ0 TJ0 0
theorem nmJ0 : ∀ a, a < 0 → ∀ b, b < 0 → a ≠ b → (TJ0 a).2.1 ≠ (TJ0 b).2.1 := by decide +kernel
theorem tyJ0_ok : ∀ k, k < 0 → parseFieldDescriptor (TJ0 k).2.2.1 = some (tyJ0 k) := by decide +kernel
def RJ10 : String := "java/lang/System"
def TJ10 : u_T := fun k => match k with
  | _ => ("", "", "", false)
def tyJ10 : Nat → FieldType := fun k => match k with
  | _ => .int
abbrev wsJ100 : List Cond := u_ws RJ10 TJ10 0
theorem nmJ10 : ∀ a, a < 0 → ∀ b, b < 0 → a ≠ b → (TJ10 a).2.1 ≠ (TJ10 b).2.1 := by decide +kernel
theorem tyJ10_ok : ∀ k, k < 0 → parseFieldDescriptor (TJ10 k).2.2.1 = some (tyJ10 k) := by decide +kernel
def RJxa1e45 : String := "java/util/AbstractCollection"
def TJxa1e45 : u_T := fun k => match k with
  | _ => ("", "", "", false)
def tyJxa1e45 : Nat → FieldType := fun k => match k with
  | _ => .int
abbrev wsJxa1e450 : List Cond := u_ws RJxa1e45 TJxa1e45 0
theorem nmJxa1e45 : ∀ a, a < 0 → ∀ b, b < 0 → a ≠ b → (TJxa1e45 a).2.1 ≠ (TJxa1e45 b).2.1 := by decide +kernel
theorem tyJxa1e45_ok : ∀ k, k < 0 → parseFieldDescriptor (TJxa1e45 k).2.2.1 = some (tyJxa1e45 k) := by decide +kernel
abbrev cJxa1e45_init_da8c8 : ByteArray := prog_19_method_1_code
def yJxa1e45_init_da8c8 : MethodName := ⟨RJxa1e45, "<init>", "()V"⟩
def RJxc12de : String := "java/util/AbstractList"
def TJxc12de : u_T := fun k => match k with
  | _ => ("", "", "", false)
def tyJxc12de : Nat → FieldType := fun k => match k with
  | _ => .int
abbrev wsJxc12de0 : List Cond := u_ws RJxc12de TJxc12de 0
theorem nmJxc12de : ∀ a, a < 0 → ∀ b, b < 0 → a ≠ b → (TJxc12de a).2.1 ≠ (TJxc12de b).2.1 := by decide +kernel
theorem tyJxc12de_ok : ∀ k, k < 0 → parseFieldDescriptor (TJxc12de k).2.2.1 = some (tyJxc12de k) := by decide +kernel
abbrev cJxc12de_init_da8c8 : ByteArray := prog_20_method_1_code
def yJxc12de_init_da8c8 : MethodName := ⟨RJxc12de, "<init>", "()V"⟩
def RJx4a65c : String := "java/util/ArrayList"
def TJx4a65c : u_T := fun k => match k with
  | 0 => ("java/util/AbstractList", "modCount", "I", false)
  | 1 => ("java/util/ArrayList", "elementData", "[Ljava/lang/Object;", false)
  | _ => ("java/util/ArrayList", "size", "I", false)
def tyJx4a65c : Nat → FieldType := fun k => match k with
  | 0 => .int
  | 1 => .array (.object "java/lang/Object")
  | _ => .int
abbrev wsJx4a65c0 : List Cond := u_ws RJx4a65c TJx4a65c 3
theorem nmJx4a65c : ∀ a, a < 3 → ∀ b, b < 3 → a ≠ b → (TJx4a65c a).2.1 ≠ (TJx4a65c b).2.1 := by decide +kernel
theorem tyJx4a65c_ok : ∀ k, k < 3 → parseFieldDescriptor (TJx4a65c k).2.2.1 = some (tyJx4a65c k) := by decide +kernel
abbrev cJx4a65c_init_da8c8 : ByteArray := prog_21_method_2_code
def yJx4a65c_init_da8c8 : MethodName := ⟨RJx4a65c, "<init>", "()V"⟩
abbrev cJx4a65c_grow_92f84 : ByteArray := prog_21_method_6_code
def yJx4a65c_grow_92f84 : MethodName := ⟨RJx4a65c, "grow", "(I)[Ljava/lang/Object;"⟩
abbrev cJx4a65c_grow_d5877 : ByteArray := prog_21_method_7_code
def yJx4a65c_grow_d5877 : MethodName := ⟨RJx4a65c, "grow", "()[Ljava/lang/Object;"⟩
abbrev cJx4a65c_size_8abf5 : ByteArray := prog_21_method_8_code
def yJx4a65c_size_8abf5 : MethodName := ⟨RJx4a65c, "size", "()I"⟩
abbrev cJx4a65c_elementData_915e3 : ByteArray := prog_21_method_18_code
def yJx4a65c_elementData_915e3 : MethodName := ⟨RJx4a65c, "elementData", "(I)Ljava/lang/Object;"⟩
abbrev cJx4a65c_get_915e3 : ByteArray := prog_21_method_20_code
def yJx4a65c_get_915e3 : MethodName := ⟨RJx4a65c, "get", "(I)Ljava/lang/Object;"⟩
abbrev cJx4a65c_add_72be8 : ByteArray := prog_21_method_24_code
def yJx4a65c_add_72be8 : MethodName := ⟨RJx4a65c, "add", "(Ljava/lang/Object;[Ljava/lang/Object;I)V"⟩
abbrev cJx4a65c_add_9ea2d : ByteArray := prog_21_method_25_code
def yJx4a65c_add_9ea2d : MethodName := ⟨RJx4a65c, "add", "(Ljava/lang/Object;)Z"⟩
def RJ7 : String := "java/util/Arrays"
def TJ7 : u_T := fun k => match k with
  | _ => ("", "", "", false)
def tyJ7 : Nat → FieldType := fun k => match k with
  | _ => .int
abbrev wsJ70 : List Cond := u_ws RJ7 TJ7 0
theorem nmJ7 : ∀ a, a < 0 → ∀ b, b < 0 → a ≠ b → (TJ7 a).2.1 ≠ (TJ7 b).2.1 := by decide +kernel
theorem tyJ7_ok : ∀ k, k < 0 → parseFieldDescriptor (TJ7 k).2.2.1 = some (tyJ7 k) := by decide +kernel
abbrev cJ7_copyOf_1904c : ByteArray := prog_22_method_119_code
def yJ7_copyOf_1904c : MethodName := ⟨RJ7, "copyOf", "([Ljava/lang/Object;I)[Ljava/lang/Object;"⟩
abbrev cJ7_copyOf_6403c : ByteArray := prog_22_method_120_code
def yJ7_copyOf_6403c : MethodName := ⟨RJ7, "copyOf", "([Ljava/lang/Object;ILjava/lang/Class;)[Ljava/lang/Object;"⟩
def RJx5ef63 : String := "java/util/Collection"
def TJx5ef63 : u_T := fun k => match k with
  | _ => ("", "", "", false)
def tyJx5ef63 : Nat → FieldType := fun k => match k with
  | _ => .int
abbrev wsJx5ef630 : List Cond := u_ws RJx5ef63 TJx5ef63 0
theorem nmJx5ef63 : ∀ a, a < 0 → ∀ b, b < 0 → a ≠ b → (TJx5ef63 a).2.1 ≠ (TJx5ef63 b).2.1 := by decide +kernel
theorem tyJx5ef63_ok : ∀ k, k < 0 → parseFieldDescriptor (TJx5ef63 k).2.2.1 = some (tyJx5ef63 k) := by decide +kernel
def RJxbd725 : String := "java/util/List"
def TJxbd725 : u_T := fun k => match k with
  | _ => ("", "", "", false)
def tyJxbd725 : Nat → FieldType := fun k => match k with
  | _ => .int
abbrev wsJxbd7250 : List Cond := u_ws RJxbd725 TJxbd725 0
theorem nmJxbd725 : ∀ a, a < 0 → ∀ b, b < 0 → a ≠ b → (TJxbd725 a).2.1 ≠ (TJxbd725 b).2.1 := by decide +kernel
theorem tyJxbd725_ok : ∀ k, k < 0 → parseFieldDescriptor (TJxbd725 k).2.2.1 = some (tyJxbd725 k) := by decide +kernel
def RJ15 : String := "java/util/Objects"
def TJ15 : u_T := fun k => match k with
  | _ => ("", "", "", false)
def tyJ15 : Nat → FieldType := fun k => match k with
  | _ => .int
abbrev wsJ150 : List Cond := u_ws RJ15 TJ15 0
theorem nmJ15 : ∀ a, a < 0 → ∀ b, b < 0 → a ≠ b → (TJ15 a).2.1 ≠ (TJ15 b).2.1 := by decide +kernel
theorem tyJ15_ok : ∀ k, k < 0 → parseFieldDescriptor (TJ15 k).2.2.1 = some (tyJ15 k) := by decide +kernel
abbrev cJ15_checkIndex_7cf53 : ByteArray := prog_25_method_17_code
def yJ15_checkIndex_7cf53 : MethodName := ⟨RJ15, "checkIndex", "(II)I"⟩
def RJxf0a74 : String := "java/util/RandomAccess"
def TJxf0a74 : u_T := fun k => match k with
  | _ => ("", "", "", false)
def tyJxf0a74 : Nat → FieldType := fun k => match k with
  | _ => .int
abbrev wsJxf0a740 : List Cond := u_ws RJxf0a74 TJxf0a74 0
theorem nmJxf0a74 : ∀ a, a < 0 → ∀ b, b < 0 → a ≠ b → (TJxf0a74 a).2.1 ≠ (TJxf0a74 b).2.1 := by decide +kernel
theorem tyJxf0a74_ok : ∀ k, k < 0 → parseFieldDescriptor (TJxf0a74 k).2.2.1 = some (tyJxf0a74 k) := by decide +kernel
def RJxa66e6 : String := "java/util/SequencedCollection"
def TJxa66e6 : u_T := fun k => match k with
  | _ => ("", "", "", false)
def tyJxa66e6 : Nat → FieldType := fun k => match k with
  | _ => .int
abbrev wsJxa66e60 : List Cond := u_ws RJxa66e6 TJxa66e6 0
theorem nmJxa66e6 : ∀ a, a < 0 → ∀ b, b < 0 → a ≠ b → (TJxa66e6 a).2.1 ≠ (TJxa66e6 b).2.1 := by decide +kernel
theorem tyJxa66e6_ok : ∀ k, k < 0 → parseFieldDescriptor (TJxa66e6 k).2.2.1 = some (tyJxa66e6 k) := by decide +kernel
def RJ8 : String := "jdk/internal/util/ArraysSupport"
def TJ8 : u_T := fun k => match k with
  | _ => ("", "", "", false)
def tyJ8 : Nat → FieldType := fun k => match k with
  | _ => .int
abbrev wsJ80 : List Cond := u_ws RJ8 TJ8 0
theorem nmJ8 : ∀ a, a < 0 → ∀ b, b < 0 → a ≠ b → (TJ8 a).2.1 ≠ (TJ8 b).2.1 := by decide +kernel
theorem tyJ8_ok : ∀ k, k < 0 → parseFieldDescriptor (TJ8 k).2.2.1 = some (tyJ8 k) := by decide +kernel
abbrev cJ8_newLength_cabcc : ByteArray := prog_28_method_27_code
def yJ8_newLength_cabcc : MethodName := ⟨RJ8, "newLength", "(III)I"⟩
abbrev cJ8_hugeLength_7cf53 : ByteArray := prog_28_method_28_code
def yJ8_hugeLength_7cf53 : MethodName := ⟨RJ8, "hugeLength", "(II)I"⟩
def RJ3 : String := "jdk/internal/util/Preconditions"
def TJ3 : u_T := fun k => match k with
  | _ => ("", "", "", false)
def tyJ3 : Nat → FieldType := fun k => match k with
  | _ => .int
abbrev wsJ30 : List Cond := u_ws RJ3 TJ3 0
theorem nmJ3 : ∀ a, a < 0 → ∀ b, b < 0 → a ≠ b → (TJ3 a).2.1 ≠ (TJ3 b).2.1 := by decide +kernel
theorem tyJ3_ok : ∀ k, k < 0 → parseFieldDescriptor (TJ3 k).2.2.1 = some (tyJ3 k) := by decide +kernel
abbrev cJ3_checkIndex_8e157 : ByteArray := prog_29_method_11_code
def yJ3_checkIndex_8e157 : MethodName := ⟨RJ3, "checkIndex", "(IILjava/util/function/BiFunction;)I"⟩
def RL : String := "RefusePlannerLaw"
abbrev cL_addPlace : ByteArray := method_3_code
def yL_addPlace : MethodName := ⟨RL, "addPlace", "(LRefusePlanner;[J)I"⟩
abbrev cL_setMinutes : ByteArray := method_4_code
def yL_setMinutes : MethodName := ⟨RL, "setMinutes", "(LRefusePlanner;III[J)I"⟩
abbrev cL_setTip : ByteArray := method_5_code
def yL_setTip : MethodName := ⟨RL, "setTip", "(LRefusePlanner;IIZ[J)I"⟩
abbrev cL_setHoliday : ByteArray := method_6_code
def yL_setHoliday : MethodName := ⟨RL, "setHoliday", "(LRefusePlanner;IZ[J)I"⟩
abbrev cL_pass : ByteArray := method_7_code
def yL_pass : MethodName := ⟨RL, "pass", "(LRefusePlanner;I[J)I"⟩
abbrev cL_addBin : ByteArray := method_8_code
def yL_addBin : MethodName := ⟨RL, "addBin", "(LRefusePlanner;IIII[J)I"⟩
abbrev cL_setGrowth : ByteArray := method_9_code
def yL_setGrowth : MethodName := ⟨RL, "setGrowth", "(LRefusePlanner;II[J)I"⟩
abbrev cL_soil : ByteArray := method_10_code
def yL_soil : MethodName := ⟨RL, "soil", "(LRefusePlanner;I[J)I"⟩
abbrev cL_bin : ByteArray := method_11_code
def yL_bin : MethodName := ⟨RL, "bin", "(LRefusePlanner;II[J)I"⟩
abbrev cL_expected : ByteArray := method_12_code
def yL_expected : MethodName := ⟨RL, "expected", "(LRefusePlanner;II[J)I"⟩
abbrev cL_fullOn : ByteArray := method_13_code
def yL_fullOn : MethodName := ⟨RL, "fullOn", "(LRefusePlanner;I[J)I"⟩
abbrev cL_planSize : ByteArray := method_14_code
def yL_planSize : MethodName := ⟨RL, "planSize", "(LRefusePlanner;I[J)I"⟩
abbrev cL_planned : ByteArray := method_15_code
def yL_planned : MethodName := ⟨RL, "planned", "(LRefusePlanner;II[J)I"⟩
abbrev cL_collect : ByteArray := method_16_code
def yL_collect : MethodName := ⟨RL, "collect", "(LRefusePlanner;II[J)I"⟩
abbrev cL_fetch : ByteArray := method_17_code
def yL_fetch : MethodName := ⟨RL, "fetch", "(LRefusePlanner;II[J)I"⟩
abbrev cL_wouldTake : ByteArray := method_18_code
def yL_wouldTake : MethodName := ⟨RL, "wouldTake", "(LRefusePlanner;II[J)I"⟩
abbrev cL_total : ByteArray := method_19_code
def yL_total : MethodName := ⟨RL, "total", "(LRefusePlanner;II[J)I"⟩
abbrev cL_wasted : ByteArray := method_20_code
def yL_wasted : MethodName := ⟨RL, "wasted", "(LRefusePlanner;I[J)I"⟩
abbrev cL_law : ByteArray := code
def yL_law : MethodName := ⟨RL, "law", "([I)Z"⟩
abbrev vwCl : List vw_C := [(RJx4a65c, TJx4a65c, 3), (RX0, TX0, 10), (RX1, TX1, 3), (RX2, TX2, 8), (RX3, TX3, 8), (RX4, TX4, 21)]
end
section
/-! Z: a walk's state as plain terms: locals and operand stack as lists, the world as two lists of cells (wW: may be written; wR: only read). Heap, frame and locals array are bound inside. -/
abbrev Gx : Type := va_G × ClassId × ClassId × ClassId × ClassId
abbrev tyL (g : Gx) : List (ClassId × FieldType) := [(g.2.1, .int), (g.2.2.1, .long), (g.2.2.2.1, .boolean), (g.2.2.2.2, .object "java/lang/Object")]
/-- links of private members of nest mates: the class that links, the place in its pool, the member's class, name and type -/
def nestQ : List (String × Nat × String × String × String) := [("RefusePlanner", 128, "RefusePlanner$Bin", "growth", "I"), ("RefusePlanner", 131, "RefusePlanner$Bin", "dirty", "Z"), ("RefusePlanner", 158, "RefusePlanner$Bin", "kind", "I"), ("RefusePlanner", 173, "RefusePlanner$Tour", "minutes", "I"), ("RefusePlanner", 178, "RefusePlanner$Bin", "content", "I"), ("RefusePlanner", 186, "RefusePlanner$Bin", "size", "I"), ("RefusePlanner", 226, "RefusePlanner$Bin", "place", "I"), ("RefusePlanner", 233, "RefusePlanner$Tour", "litres", "I"), ("RefusePlanner", 236, "RefusePlanner$Tour", "tipVisits", "I"), ("RefusePlanner", 239, "RefusePlanner$Region", "tips", "[I"), ("RefusePlanner", 45, "RefusePlanner$Region", "places", "I"), ("RefusePlanner$Tour", 37, "RefusePlanner$Bin", "place", "I"), ("RefusePlanner$Tour", 46, "RefusePlanner$Bin", "dirty", "Z"), ("RefusePlanner$Tour", 50, "RefusePlanner$Bin", "content", "I")]
def castQ : List (String × String) := [("RefusePlanner$Bin", "java/lang/Object"), ("java/lang/IndexOutOfBoundsException", "java/lang/IndexOutOfBoundsException"), ("java/lang/IllegalArgumentException", "java/lang/IllegalArgumentException"), ("java/lang/IllegalStateException", "java/lang/IllegalStateException")]
def ncQ : List (String × String) := [("java/lang/IllegalArgumentException", "java/lang/IndexOutOfBoundsException"), ("java/lang/IllegalStateException", "java/lang/IndexOutOfBoundsException"), ("java/lang/IllegalStateException", "java/lang/IllegalArgumentException")]
/-- what the methods need of the tables beside their word lists -/
def NX (U : State) : Prop := (∀ q ∈ nestQ, va_Nw (.fieldLinkNest q.1 q.2.1 q.2.2.1 q.2.2.2.1 q.2.2.2.2 "RefusePlanner") U) ∧ (∀ q ∈ castQ, va_Nw (.castable q.1 q.2) U) ∧ ∀ q ∈ ncQ, va_Nc q.1 q.2 U
theorem nw_cast {C T : String} {u U : State} (hvm : u.vm.Alike U.vm) (h : va_Nw (.castable C T) u) : va_Nw (.castable C T) U := by
  simp only [va_Nw, Cond.before, Cond.holds, Cond.value] at h ⊢
  simpa only [hvm.findClass, hvm.assignable] using h
theorem NX.warm {s U : State} (hW : s.WarmedH U.vm) (h : NX s) : NX U := ⟨fun q hq => va_Nw.warmF hW (h.1 q hq), fun q hq => nw_cast hW.alike (h.2.1 q hq), fun q hq => (h.2.2 q hq).moved hW.alike⟩
theorem NX.same {s U : State} (hv : s.vm = U.vm) (h : NX s) : NX U := ⟨fun q hq => va_Nw.same rfl hv (h.1 q hq), fun q hq => va_Nw.same rfl hv (h.2.1 q hq), fun q hq => (h.2.2 q hq).moved (by rw [← hv]; exact Vm.Alike.refl _)⟩
def KX (g : Gx) (U : State) : Prop := va_K g.1 vwCl (tyL g) U ∧ NX U
theorem KX.warm {g : Gx} {s U : State} (hW : s.WarmedH U.vm) (h : KX g s) : KX g U := ⟨va_K.moved hW.alike h.1, h.2.warm hW⟩
def CX (p : Program) (s : State) (m : MethodId) (args : Array Value) (meth : Method) (c : Code) (A : Nat → Prop) (g : Gx) (nL : Nat) (cc : ByteArray) (Ts : List Cond) (own : String) : Prop :=
  p.tables.exec = Jvm.exec ∧ c.code = cc ∧ c.maxLocals = nL ∧ s.vm.findClass own = some m.cls ∧ (∀ w ∈ Ts, w.before args s = true) ∧ KX g s ∧ (∀ q, s.heap.size ≤ q → A q) ∧ meth.locks = false
/-- the world at a heap: the cells, all apart, those of wW in A, nothing outside A changed since the start -/
def WD (A : Nat → Prop) (g : Gx) (H0 : Heap) (wW wR : va_W) (H : Heap) (locs : List Loc) : Prop :=
  va_P g.1 vwCl (wW ++ wR) H ∧ va_D (fun _ => True) (wW ++ wR) ∧ (∀ (k : Nat) (q : Nat × va_E), wW[k]? = some q → A q.1) ∧ va_S A H0 H locs
def Z (p : Program) (l : Launch) (e : Env) (R : Room) (s : State) (m : MethodId) (args : Array Value) (below : List Frame) (meth : Method) (c : Code) (Q : State → Prop) (A : Nat → Prop) (g : Gx) (nL pc : Nat) (lv : List (Nat × Value)) (st : List Value) (wW wR : va_W) (kc ks : Nat) : Prop :=
  ∀ (H : Heap) (locs : List Loc) (ls : Array Slot), WD A g s.heap wW wR H locs → lv_has ls nL lv → W p l e R s m args below meth c H locs kc ks Q (F0 m pc ls st)
section ZL
variable {p : Program} {l : Launch} {e : Env} {R : Room} {s : State} {m : MethodId} {args : Array Value} {below : List Frame} {meth : Method} {c : Code} {Q : State → Prop} {A : Nat → Prop} {g : Gx} {nL : Nat} {cc : ByteArray} {Ts : List Cond} {own : String} {pc : Nat} {lv : List (Nat × Value)} {st : List Value} {wW wR : va_W} {kc ks : Nat}
theorem z_iconst (h : CX p s m args meth c A g nL cc Ts own) {n : Int} {v : Int32} (hdg : decode cc pc = .ok (.iconst n, 1)) (hv : Int32.ofInt n = v) (k : Z p l e R s m args below meth c Q A g nL (pc + 1) lv (.int v :: st) wW wR kc ks) : Z p l e R s m args below meth c Q A g nL pc lv st wW wR kc ks := fun H locs ls hw hl => lv_iconst h.1 h.2.1 hdg hv (k H locs ls hw hl)
theorem z_bipush (h : CX p s m args meth c A g nL cc Ts own) {n : Int} {v : Int32} (hdg : decode cc pc = .ok (.bipush n, 2)) (hv : (Int8.ofInt n).toInt32 = v) (k : Z p l e R s m args below meth c Q A g nL (pc + 2) lv (.int v :: st) wW wR kc ks) : Z p l e R s m args below meth c Q A g nL pc lv st wW wR kc ks := fun H locs ls hw hl => lv_bipush h.1 h.2.1 hdg hv (k H locs ls hw hl)
theorem z_sipush (h : CX p s m args meth c A g nL cc Ts own) {n : Int} {v : Int32} (hdg : decode cc pc = .ok (.sipush n, 3)) (hv : (Int16.ofInt n).toInt32 = v) (k : Z p l e R s m args below meth c Q A g nL (pc + 3) lv (.int v :: st) wW wR kc ks) : Z p l e R s m args below meth c Q A g nL pc lv st wW wR kc ks := fun H locs ls hw hl => lv_sipush h.1 h.2.1 hdg hv (k H locs ls hw hl)
theorem z_lconst (h : CX p s m args meth c A g nL cc Ts own) {n : Fin 2} {v : Int64} (hdg : decode cc pc = .ok (.lconst n, 1)) (hv : Int64.ofNat (n : Nat) = v) (k : Z p l e R s m args below meth c Q A g nL (pc + 1) lv (.long v :: st) wW wR kc ks) : Z p l e R s m args below meth c Q A g nL pc lv st wW wR kc ks := fun H locs ls hw hl => lv_lconst h.1 h.2.1 hdg hv (k H locs ls hw hl)
theorem z_ldc (h : CX p s m args meth c A g nL cc Ts own) {index : Nat} {v : Int32} (hconst : Jvm.Cond.constant own index v ∈ Ts) (hdg : decode cc pc = .ok (.ldc index, 2)) (k : Z p l e R s m args below meth c Q A g nL (pc + 2) lv (.int v :: st) wW wR kc ks) : Z p l e R s m args below meth c Q A g nL pc lv st wW wR kc ks := fun H locs ls hw hl => lv_ldc h.1 h.2.1 h.2.2.2.1 (h.2.2.2.2.1 _ hconst) hdg (k H locs ls hw hl)
theorem z_ldc2 (h : CX p s m args meth c A g nL cc Ts own) {index : Nat} {v : Int64} (hconst : Jvm.Cond.constantLong own index v ∈ Ts) (hdg : decode cc pc = .ok (.ldc2_w index, 3)) (k : Z p l e R s m args below meth c Q A g nL (pc + 3) lv (.long v :: st) wW wR kc ks) : Z p l e R s m args below meth c Q A g nL pc lv st wW wR kc ks := fun H locs ls hw hl => lv_ldc2 h.1 h.2.1 h.2.2.2.1 (h.2.2.2.2.1 _ hconst) hdg (k H locs ls hw hl)
theorem z_null (h : CX p s m args meth c A g nL cc Ts own) (hdg : decode cc pc = .ok (.aconst_null, 1)) (k : Z p l e R s m args below meth c Q A g nL (pc + 1) lv (.null :: st) wW wR kc ks) : Z p l e R s m args below meth c Q A g nL pc lv st wW wR kc ks := fun H locs ls hw hl => lv_null h.1 h.2.1 hdg (k H locs ls hw hl)
theorem z_iload_n (h : CX p s m args meth c A g nL cc Ts own) {k4 : Fin 4} {i : Nat} {x : Int32} (hdg : decode cc pc = .ok (.iload_n k4, 1)) (hi : (k4 : Nat) = i) (j : Nat) (hj : lv[j]? = some (i, .int x)) (k : Z p l e R s m args below meth c Q A g nL (pc + 1) lv (.int x :: st) wW wR kc ks) : Z p l e R s m args below meth c Q A g nL pc lv st wW wR kc ks := fun H locs ls hw hl => lv_iload_n h.1 h.2.1 hdg hi (lv_at hl j hj) (k H locs ls hw hl)
theorem z_iload (h : CX p s m args meth c A g nL cc Ts own) {i : Nat} {x : Int32} (hdg : decode cc pc = .ok (.iload i, 2)) (j : Nat) (hj : lv[j]? = some (i, .int x)) (k : Z p l e R s m args below meth c Q A g nL (pc + 2) lv (.int x :: st) wW wR kc ks) : Z p l e R s m args below meth c Q A g nL pc lv st wW wR kc ks := fun H locs ls hw hl => lv_iload h.1 h.2.1 hdg (lv_at hl j hj) (k H locs ls hw hl)
theorem z_istore_n (h : CX p s m args meth c A g nL cc Ts own) {k4 : Fin 4} {i : Nat} {x : Int32} (hdg : decode cc pc = .ok (.istore_n k4, 1)) (hi : (k4 : Nat) = i) (hn : i < nL) {lv' : List (Nat × Value)} (js : List Nat) (hjs : lv_pick ((i, Value.int x) :: lv.filter (fun q => !(q.1 == i) && !(q.1 + 1 == i && q.2.category == 2))) js = lv') (k : Z p l e R s m args below meth c Q A g nL (pc + 1) lv' st wW wR kc ks) : Z p l e R s m args below meth c Q A g nL pc lv (.int x :: st) wW wR kc ks := fun H locs ls hw hl => lv_istore_n h.1 h.2.1 hdg hi hl hn rfl (fun ls' hl' => k H locs ls' hw (lv_sub hl' js hjs))
theorem z_istore (h : CX p s m args meth c A g nL cc Ts own) {i : Nat} {x : Int32} (hdg : decode cc pc = .ok (.istore i, 2)) (hn : i < nL) {lv' : List (Nat × Value)} (js : List Nat) (hjs : lv_pick ((i, Value.int x) :: lv.filter (fun q => !(q.1 == i) && !(q.1 + 1 == i && q.2.category == 2))) js = lv') (k : Z p l e R s m args below meth c Q A g nL (pc + 2) lv' st wW wR kc ks) : Z p l e R s m args below meth c Q A g nL pc lv (.int x :: st) wW wR kc ks := fun H locs ls hw hl => lv_istore h.1 h.2.1 hdg hl hn rfl (fun ls' hl' => k H locs ls' hw (lv_sub hl' js hjs))
theorem z_lload_n (h : CX p s m args meth c A g nL cc Ts own) {k4 : Fin 4} {i : Nat} {x : Int64} (hdg : decode cc pc = .ok (.lload_n k4, 1)) (hi : (k4 : Nat) = i) (j : Nat) (hj : lv[j]? = some (i, .long x)) (k : Z p l e R s m args below meth c Q A g nL (pc + 1) lv (.long x :: st) wW wR kc ks) : Z p l e R s m args below meth c Q A g nL pc lv st wW wR kc ks := fun H locs ls hw hl => lv_lload_n h.1 h.2.1 hdg hi (lv_at hl j hj) (k H locs ls hw hl)
theorem z_lload (h : CX p s m args meth c A g nL cc Ts own) {i : Nat} {x : Int64} (hdg : decode cc pc = .ok (.lload i, 2)) (j : Nat) (hj : lv[j]? = some (i, .long x)) (k : Z p l e R s m args below meth c Q A g nL (pc + 2) lv (.long x :: st) wW wR kc ks) : Z p l e R s m args below meth c Q A g nL pc lv st wW wR kc ks := fun H locs ls hw hl => lv_lload h.1 h.2.1 hdg (lv_at hl j hj) (k H locs ls hw hl)
theorem z_lstore_n (h : CX p s m args meth c A g nL cc Ts own) {k4 : Fin 4} {i : Nat} {x : Int64} (hdg : decode cc pc = .ok (.lstore_n k4, 1)) (hi : (k4 : Nat) = i) (hn : i + 1 < nL) {lv' : List (Nat × Value)} (js : List Nat) (hjs : lv_pick ((i, Value.long x) :: lv.filter (fun q => !(q.1 == i) && (!(q.1 == i + 1) && !(q.1 + 1 == i && q.2.category == 2)))) js = lv') (k : Z p l e R s m args below meth c Q A g nL (pc + 1) lv' st wW wR kc ks) : Z p l e R s m args below meth c Q A g nL pc lv (.long x :: st) wW wR kc ks := fun H locs ls hw hl => lv_lstore_n h.1 h.2.1 hdg hi hl hn rfl (fun ls' hl' => k H locs ls' hw (lv_sub hl' js hjs))
theorem z_lstore (h : CX p s m args meth c A g nL cc Ts own) {i : Nat} {x : Int64} (hdg : decode cc pc = .ok (.lstore i, 2)) (hn : i + 1 < nL) {lv' : List (Nat × Value)} (js : List Nat) (hjs : lv_pick ((i, Value.long x) :: lv.filter (fun q => !(q.1 == i) && (!(q.1 == i + 1) && !(q.1 + 1 == i && q.2.category == 2)))) js = lv') (k : Z p l e R s m args below meth c Q A g nL (pc + 2) lv' st wW wR kc ks) : Z p l e R s m args below meth c Q A g nL pc lv (.long x :: st) wW wR kc ks := fun H locs ls hw hl => lv_lstore h.1 h.2.1 hdg hl hn rfl (fun ls' hl' => k H locs ls' hw (lv_sub hl' js hjs))
theorem z_aload_n (h : CX p s m args meth c A g nL cc Ts own) {k4 : Fin 4} {i : Nat} {x : Nat} (hdg : decode cc pc = .ok (.aload_n k4, 1)) (hi : (k4 : Nat) = i) (j : Nat) (hj : lv[j]? = some (i, .ref x)) (k : Z p l e R s m args below meth c Q A g nL (pc + 1) lv (.ref x :: st) wW wR kc ks) : Z p l e R s m args below meth c Q A g nL pc lv st wW wR kc ks := fun H locs ls hw hl => lv_aload_n h.1 h.2.1 hdg hi (lv_at hl j hj) (k H locs ls hw hl)
theorem z_aload (h : CX p s m args meth c A g nL cc Ts own) {i : Nat} {x : Nat} (hdg : decode cc pc = .ok (.aload i, 2)) (j : Nat) (hj : lv[j]? = some (i, .ref x)) (k : Z p l e R s m args below meth c Q A g nL (pc + 2) lv (.ref x :: st) wW wR kc ks) : Z p l e R s m args below meth c Q A g nL pc lv st wW wR kc ks := fun H locs ls hw hl => lv_aload h.1 h.2.1 hdg (lv_at hl j hj) (k H locs ls hw hl)
theorem z_astore_n (h : CX p s m args meth c A g nL cc Ts own) {k4 : Fin 4} {i : Nat} {x : Nat} (hdg : decode cc pc = .ok (.astore_n k4, 1)) (hi : (k4 : Nat) = i) (hn : i < nL) {lv' : List (Nat × Value)} (js : List Nat) (hjs : lv_pick ((i, Value.ref x) :: lv.filter (fun q => !(q.1 == i) && !(q.1 + 1 == i && q.2.category == 2))) js = lv') (k : Z p l e R s m args below meth c Q A g nL (pc + 1) lv' st wW wR kc ks) : Z p l e R s m args below meth c Q A g nL pc lv (.ref x :: st) wW wR kc ks := fun H locs ls hw hl => lv_astore_n h.1 h.2.1 hdg hi hl hn rfl (fun ls' hl' => k H locs ls' hw (lv_sub hl' js hjs))
theorem z_astore (h : CX p s m args meth c A g nL cc Ts own) {i : Nat} {x : Nat} (hdg : decode cc pc = .ok (.astore i, 2)) (hn : i < nL) {lv' : List (Nat × Value)} (js : List Nat) (hjs : lv_pick ((i, Value.ref x) :: lv.filter (fun q => !(q.1 == i) && !(q.1 + 1 == i && q.2.category == 2))) js = lv') (k : Z p l e R s m args below meth c Q A g nL (pc + 2) lv' st wW wR kc ks) : Z p l e R s m args below meth c Q A g nL pc lv (.ref x :: st) wW wR kc ks := fun H locs ls hw hl => lv_astore h.1 h.2.1 hdg hl hn rfl (fun ls' hl' => k H locs ls' hw (lv_sub hl' js hjs))
theorem z_dload_n (h : CX p s m args meth c A g nL cc Ts own) {k4 : Fin 4} {i : Nat} {x : UInt64} (hdg : decode cc pc = .ok (.dload_n k4, 1)) (hi : (k4 : Nat) = i) (j : Nat) (hj : lv[j]? = some (i, .double x)) (k : Z p l e R s m args below meth c Q A g nL (pc + 1) lv (.double x :: st) wW wR kc ks) : Z p l e R s m args below meth c Q A g nL pc lv st wW wR kc ks := fun H locs ls hw hl => lv_dload_n h.1 h.2.1 hdg hi (lv_at hl j hj) (k H locs ls hw hl)
theorem z_dload (h : CX p s m args meth c A g nL cc Ts own) {i : Nat} {x : UInt64} (hdg : decode cc pc = .ok (.dload i, 2)) (j : Nat) (hj : lv[j]? = some (i, .double x)) (k : Z p l e R s m args below meth c Q A g nL (pc + 2) lv (.double x :: st) wW wR kc ks) : Z p l e R s m args below meth c Q A g nL pc lv st wW wR kc ks := fun H locs ls hw hl => lv_dload h.1 h.2.1 hdg (lv_at hl j hj) (k H locs ls hw hl)
theorem z_dstore_n (h : CX p s m args meth c A g nL cc Ts own) {k4 : Fin 4} {i : Nat} {x : UInt64} (hdg : decode cc pc = .ok (.dstore_n k4, 1)) (hi : (k4 : Nat) = i) (hn : i + 1 < nL) {lv' : List (Nat × Value)} (js : List Nat) (hjs : lv_pick ((i, Value.double x) :: lv.filter (fun q => !(q.1 == i) && (!(q.1 == i + 1) && !(q.1 + 1 == i && q.2.category == 2)))) js = lv') (k : Z p l e R s m args below meth c Q A g nL (pc + 1) lv' st wW wR kc ks) : Z p l e R s m args below meth c Q A g nL pc lv (.double x :: st) wW wR kc ks := fun H locs ls hw hl => lv_dstore_n h.1 h.2.1 hdg hi hl hn rfl (fun ls' hl' => k H locs ls' hw (lv_sub hl' js hjs))
theorem z_dstore (h : CX p s m args meth c A g nL cc Ts own) {i : Nat} {x : UInt64} (hdg : decode cc pc = .ok (.dstore i, 2)) (hn : i + 1 < nL) {lv' : List (Nat × Value)} (js : List Nat) (hjs : lv_pick ((i, Value.double x) :: lv.filter (fun q => !(q.1 == i) && (!(q.1 == i + 1) && !(q.1 + 1 == i && q.2.category == 2)))) js = lv') (k : Z p l e R s m args below meth c Q A g nL (pc + 2) lv' st wW wR kc ks) : Z p l e R s m args below meth c Q A g nL pc lv (.double x :: st) wW wR kc ks := fun H locs ls hw hl => lv_dstore h.1 h.2.1 hdg hl hn rfl (fun ls' hl' => k H locs ls' hw (lv_sub hl' js hjs))
theorem z_iinc (h : CX p s m args meth c A g nL cc Ts own) {i : Nat} {n : Int} {x v : Int32} (hdg : decode cc pc = .ok (.iinc i n, 3)) (hn : i < nL) (j : Nat) (hj : lv[j]? = some (i, .int x)) (hv : x + Int32.ofInt n = v) {lv' : List (Nat × Value)} (js : List Nat) (hjs : lv_pick ((i, Value.int v) :: lv.filter (fun q => !(q.1 == i) && !(q.1 + 1 == i && q.2.category == 2))) js = lv') (k : Z p l e R s m args below meth c Q A g nL (pc + 3) lv' st wW wR kc ks) : Z p l e R s m args below meth c Q A g nL pc lv st wW wR kc ks := fun H locs ls hw hl => lv_iinc h.1 h.2.1 hdg hl hj hv hn rfl (fun ls' hl' => k H locs ls' hw (lv_sub hl' js hjs))
theorem z_iadd (h : CX p s m args meth c A g nL cc Ts own) {x y : Int32} (hdg : decode cc pc = .ok (.iadd, 1)) (k : Z p l e R s m args below meth c Q A g nL (pc + 1) lv (.int (x + y) :: st) wW wR kc ks) : Z p l e R s m args below meth c Q A g nL pc lv (.int y :: .int x :: st) wW wR kc ks := fun H locs ls hw hl => lv_iadd h.1 h.2.1 hdg (k H locs ls hw hl)
theorem z_isub (h : CX p s m args meth c A g nL cc Ts own) {x y : Int32} (hdg : decode cc pc = .ok (.isub, 1)) (k : Z p l e R s m args below meth c Q A g nL (pc + 1) lv (.int (x - y) :: st) wW wR kc ks) : Z p l e R s m args below meth c Q A g nL pc lv (.int y :: .int x :: st) wW wR kc ks := fun H locs ls hw hl => lv_isub h.1 h.2.1 hdg (k H locs ls hw hl)
theorem z_imul (h : CX p s m args meth c A g nL cc Ts own) {x y : Int32} (hdg : decode cc pc = .ok (.imul, 1)) (k : Z p l e R s m args below meth c Q A g nL (pc + 1) lv (.int (x * y) :: st) wW wR kc ks) : Z p l e R s m args below meth c Q A g nL pc lv (.int y :: .int x :: st) wW wR kc ks := fun H locs ls hw hl => lv_imul h.1 h.2.1 hdg (k H locs ls hw hl)
theorem z_iand (h : CX p s m args meth c A g nL cc Ts own) {x y : Int32} (hdg : decode cc pc = .ok (.iand, 1)) (k : Z p l e R s m args below meth c Q A g nL (pc + 1) lv (.int (x &&& y) :: st) wW wR kc ks) : Z p l e R s m args below meth c Q A g nL pc lv (.int y :: .int x :: st) wW wR kc ks := fun H locs ls hw hl => lv_iand h.1 h.2.1 hdg (k H locs ls hw hl)
theorem z_ior (h : CX p s m args meth c A g nL cc Ts own) {x y : Int32} (hdg : decode cc pc = .ok (.ior, 1)) (k : Z p l e R s m args below meth c Q A g nL (pc + 1) lv (.int (x ||| y) :: st) wW wR kc ks) : Z p l e R s m args below meth c Q A g nL pc lv (.int y :: .int x :: st) wW wR kc ks := fun H locs ls hw hl => lv_ior h.1 h.2.1 hdg (k H locs ls hw hl)
theorem z_ixor (h : CX p s m args meth c A g nL cc Ts own) {x y : Int32} (hdg : decode cc pc = .ok (.ixor, 1)) (k : Z p l e R s m args below meth c Q A g nL (pc + 1) lv (.int (x ^^^ y) :: st) wW wR kc ks) : Z p l e R s m args below meth c Q A g nL pc lv (.int y :: .int x :: st) wW wR kc ks := fun H locs ls hw hl => lv_ixor h.1 h.2.1 hdg (k H locs ls hw hl)
theorem z_ladd (h : CX p s m args meth c A g nL cc Ts own) {x y : Int64} (hdg : decode cc pc = .ok (.ladd, 1)) (k : Z p l e R s m args below meth c Q A g nL (pc + 1) lv (.long (x + y) :: st) wW wR kc ks) : Z p l e R s m args below meth c Q A g nL pc lv (.long y :: .long x :: st) wW wR kc ks := fun H locs ls hw hl => lv_ladd h.1 h.2.1 hdg (k H locs ls hw hl)
theorem z_lsub (h : CX p s m args meth c A g nL cc Ts own) {x y : Int64} (hdg : decode cc pc = .ok (.lsub, 1)) (k : Z p l e R s m args below meth c Q A g nL (pc + 1) lv (.long (x - y) :: st) wW wR kc ks) : Z p l e R s m args below meth c Q A g nL pc lv (.long y :: .long x :: st) wW wR kc ks := fun H locs ls hw hl => lv_lsub h.1 h.2.1 hdg (k H locs ls hw hl)
theorem z_lmul (h : CX p s m args meth c A g nL cc Ts own) {x y : Int64} (hdg : decode cc pc = .ok (.lmul, 1)) (k : Z p l e R s m args below meth c Q A g nL (pc + 1) lv (.long (x * y) :: st) wW wR kc ks) : Z p l e R s m args below meth c Q A g nL pc lv (.long y :: .long x :: st) wW wR kc ks := fun H locs ls hw hl => lv_lmul h.1 h.2.1 hdg (k H locs ls hw hl)
theorem z_idiv (h : CX p s m args meth c A g nL cc Ts own) {x y : Int32} (hdg : decode cc pc = .ok (.idiv, 1)) (hne : ¬ y = 0) (k : Z p l e R s m args below meth c Q A g nL (pc + 1) lv (.int (x / y) :: st) wW wR kc ks) : Z p l e R s m args below meth c Q A g nL pc lv (.int y :: .int x :: st) wW wR kc ks := fun H locs ls hw hl => lv_idiv h.1 h.2.1 hdg hne (k H locs ls hw hl)
theorem z_irem (h : CX p s m args meth c A g nL cc Ts own) {x y : Int32} (hdg : decode cc pc = .ok (.irem, 1)) (hne : ¬ y = 0) (k : Z p l e R s m args below meth c Q A g nL (pc + 1) lv (.int (x - x / y * y) :: st) wW wR kc ks) : Z p l e R s m args below meth c Q A g nL pc lv (.int y :: .int x :: st) wW wR kc ks := fun H locs ls hw hl => lv_irem h.1 h.2.1 hdg hne (k H locs ls hw hl)
theorem z_ineg (h : CX p s m args meth c A g nL cc Ts own) {x : Int32} (hdg : decode cc pc = .ok (.ineg, 1)) (k : Z p l e R s m args below meth c Q A g nL (pc + 1) lv (.int (0 - x) :: st) wW wR kc ks) : Z p l e R s m args below meth c Q A g nL pc lv (.int x :: st) wW wR kc ks := fun H locs ls hw hl => lv_ineg h.1 h.2.1 hdg (k H locs ls hw hl)
theorem z_ishl (h : CX p s m args meth c A g nL cc Ts own) {x y : Int32} (hdg : decode cc pc = .ok (.ishl, 1)) (k : Z p l e R s m args below meth c Q A g nL (pc + 1) lv (.int (x <<< (y &&& 31)) :: st) wW wR kc ks) : Z p l e R s m args below meth c Q A g nL pc lv (.int y :: .int x :: st) wW wR kc ks := fun H locs ls hw hl => lv_ishl h.1 h.2.1 hdg (k H locs ls hw hl)
theorem z_ishr (h : CX p s m args meth c A g nL cc Ts own) {x y : Int32} (hdg : decode cc pc = .ok (.ishr, 1)) (k : Z p l e R s m args below meth c Q A g nL (pc + 1) lv (.int (x >>> (y &&& 31)) :: st) wW wR kc ks) : Z p l e R s m args below meth c Q A g nL pc lv (.int y :: .int x :: st) wW wR kc ks := fun H locs ls hw hl => lv_ishr h.1 h.2.1 hdg (k H locs ls hw hl)
theorem z_i2l (h : CX p s m args meth c A g nL cc Ts own) {x : Int32} (hdg : decode cc pc = .ok (.i2l, 1)) (k : Z p l e R s m args below meth c Q A g nL (pc + 1) lv (.long x.toInt64 :: st) wW wR kc ks) : Z p l e R s m args below meth c Q A g nL pc lv (.int x :: st) wW wR kc ks := fun H locs ls hw hl => lv_i2l h.1 h.2.1 hdg rfl (k H locs ls hw hl)
theorem z_i2d (h : CX p s m args meth c A g nL cc Ts own) {x : Int32} (hdg : decode cc pc = .ok (.i2d, 1)) (k : Z p l e R s m args below meth c Q A g nL (pc + 1) lv (.double (FP.i2d x) :: st) wW wR kc ks) : Z p l e R s m args below meth c Q A g nL pc lv (.int x :: st) wW wR kc ks := fun H locs ls hw hl => lv_i2d h.1 h.2.1 hdg (k H locs ls hw hl)
theorem z_lcmp (h : CX p s m args meth c A g nL cc Ts own) {x y : Int64} (hdg : decode cc pc = .ok (.lcmp, 1)) (k : Z p l e R s m args below meth c Q A g nL (pc + 1) lv (.int (lg_cmp x y) :: st) wW wR kc ks) : Z p l e R s m args below meth c Q A g nL pc lv (.long y :: .long x :: st) wW wR kc ks := fun H locs ls hw hl => W.lcmp h.1 h.2.1 hdg (k H locs ls hw hl)
theorem z_dcmp (h : CX p s m args meth c A g nL cc Ts own) {x y : UInt64} {op : CmpOp} (hdg : decode cc pc = .ok (.dcmp op, 1)) (k : Z p l e R s m args below meth c Q A g nL (pc + 1) lv (.int (Op.cmpValue (FP.dcmp x y) op) :: st) wW wR kc ks) : Z p l e R s m args below meth c Q A g nL pc lv (.double y :: .double x :: st) wW wR kc ks := fun H locs ls hw hl => lv_dcmp h.1 h.2.1 hdg (k H locs ls hw hl)
theorem z_dup (h : CX p s m args meth c A g nL cc Ts own) {va : Value} (hdg : decode cc pc = .ok (.dup, 1)) (hva : va.category = 1) (k : Z p l e R s m args below meth c Q A g nL (pc + 1) lv (va :: va :: st) wW wR kc ks) : Z p l e R s m args below meth c Q A g nL pc lv (va :: st) wW wR kc ks := fun H locs ls hw hl => lv_dup h.1 h.2.1 hdg hva (k H locs ls hw hl)
theorem z_pop (h : CX p s m args meth c A g nL cc Ts own) {va : Value} (hdg : decode cc pc = .ok (.pop, 1)) (hva : va.category = 1) (k : Z p l e R s m args below meth c Q A g nL (pc + 1) lv st wW wR kc ks) : Z p l e R s m args below meth c Q A g nL pc lv (va :: st) wW wR kc ks := fun H locs ls hw hl => lv_pop h.1 h.2.1 hdg hva (k H locs ls hw hl)
theorem z_dup2 (h : CX p s m args meth c A g nL cc Ts own) {va vb : Value} (hdg : decode cc pc = .ok (.dup2, 1)) (hva : va.category = 1) (hvb : vb.category = 1) (k : Z p l e R s m args below meth c Q A g nL (pc + 1) lv (va :: vb :: va :: vb :: st) wW wR kc ks) : Z p l e R s m args below meth c Q A g nL pc lv (va :: vb :: st) wW wR kc ks := fun H locs ls hw hl => lv_dup2_11 h.1 h.2.1 hdg hva hvb (k H locs ls hw hl)
theorem z_goto (h : CX p s m args meth c A g nL cc Ts own) {off : Int} {tgt : Nat} (hdg : decode cc pc = .ok (.goto off, 3)) (ht : (pc : Int) + off = (tgt : Int)) (k : Z p l e R s m args below meth c Q A g nL tgt lv st wW wR kc ks) : Z p l e R s m args below meth c Q A g nL pc lv st wW wR kc ks := fun H locs ls hw hl => lv_goto h.1 h.2.1 hdg ht (k H locs ls hw hl)
theorem z_if_eq (h : CX p s m args meth c A g nL cc Ts own) {x : Int32} {off : Int} {tgt : Nat} (hdg : decode cc pc = .ok (.ifCond .eq off, 3)) (ht : (pc : Int) + off = (tgt : Int)) (kt : x = 0 → Z p l e R s m args below meth c Q A g nL tgt lv st wW wR kc ks) (kf : ¬ (x = 0) → Z p l e R s m args below meth c Q A g nL (pc + 3) lv st wW wR kc ks) : Z p l e R s m args below meth c Q A g nL pc lv (.int x :: st) wW wR kc ks := fun H locs ls hw hl => lv_if_eq h.1 h.2.1 hdg ht (fun q => kt q H locs ls hw hl) (fun q => kf q H locs ls hw hl)
theorem z_if_ne (h : CX p s m args meth c A g nL cc Ts own) {x : Int32} {off : Int} {tgt : Nat} (hdg : decode cc pc = .ok (.ifCond .ne off, 3)) (ht : (pc : Int) + off = (tgt : Int)) (kt : ¬ x = 0 → Z p l e R s m args below meth c Q A g nL tgt lv st wW wR kc ks) (kf : x = 0 → Z p l e R s m args below meth c Q A g nL (pc + 3) lv st wW wR kc ks) : Z p l e R s m args below meth c Q A g nL pc lv (.int x :: st) wW wR kc ks := fun H locs ls hw hl => lv_if_ne h.1 h.2.1 hdg ht (fun q => kt q H locs ls hw hl) (fun q => kf q H locs ls hw hl)
theorem z_if_lt (h : CX p s m args meth c A g nL cc Ts own) {x : Int32} {off : Int} {tgt : Nat} (hdg : decode cc pc = .ok (.ifCond .lt off, 3)) (ht : (pc : Int) + off = (tgt : Int)) (kt : x < 0 → Z p l e R s m args below meth c Q A g nL tgt lv st wW wR kc ks) (kf : ¬ (x < 0) → Z p l e R s m args below meth c Q A g nL (pc + 3) lv st wW wR kc ks) : Z p l e R s m args below meth c Q A g nL pc lv (.int x :: st) wW wR kc ks := fun H locs ls hw hl => lv_if_lt h.1 h.2.1 hdg ht (fun q => kt q H locs ls hw hl) (fun q => kf q H locs ls hw hl)
theorem z_if_ge (h : CX p s m args meth c A g nL cc Ts own) {x : Int32} {off : Int} {tgt : Nat} (hdg : decode cc pc = .ok (.ifCond .ge off, 3)) (ht : (pc : Int) + off = (tgt : Int)) (kt : 0 ≤ x → Z p l e R s m args below meth c Q A g nL tgt lv st wW wR kc ks) (kf : ¬ (0 ≤ x) → Z p l e R s m args below meth c Q A g nL (pc + 3) lv st wW wR kc ks) : Z p l e R s m args below meth c Q A g nL pc lv (.int x :: st) wW wR kc ks := fun H locs ls hw hl => lv_if_ge h.1 h.2.1 hdg ht (fun q => kt q H locs ls hw hl) (fun q => kf q H locs ls hw hl)
theorem z_if_gt (h : CX p s m args meth c A g nL cc Ts own) {x : Int32} {off : Int} {tgt : Nat} (hdg : decode cc pc = .ok (.ifCond .gt off, 3)) (ht : (pc : Int) + off = (tgt : Int)) (kt : 0 < x → Z p l e R s m args below meth c Q A g nL tgt lv st wW wR kc ks) (kf : ¬ (0 < x) → Z p l e R s m args below meth c Q A g nL (pc + 3) lv st wW wR kc ks) : Z p l e R s m args below meth c Q A g nL pc lv (.int x :: st) wW wR kc ks := fun H locs ls hw hl => lv_if_gt h.1 h.2.1 hdg ht (fun q => kt q H locs ls hw hl) (fun q => kf q H locs ls hw hl)
theorem z_if_le (h : CX p s m args meth c A g nL cc Ts own) {x : Int32} {off : Int} {tgt : Nat} (hdg : decode cc pc = .ok (.ifCond .le off, 3)) (ht : (pc : Int) + off = (tgt : Int)) (kt : x ≤ 0 → Z p l e R s m args below meth c Q A g nL tgt lv st wW wR kc ks) (kf : ¬ (x ≤ 0) → Z p l e R s m args below meth c Q A g nL (pc + 3) lv st wW wR kc ks) : Z p l e R s m args below meth c Q A g nL pc lv (.int x :: st) wW wR kc ks := fun H locs ls hw hl => lv_if_le h.1 h.2.1 hdg ht (fun q => kt q H locs ls hw hl) (fun q => kf q H locs ls hw hl)
theorem z_icmp_eq (h : CX p s m args meth c A g nL cc Ts own) {x y : Int32} {off : Int} {tgt : Nat} (hdg : decode cc pc = .ok (.if_icmp .eq off, 3)) (ht : (pc : Int) + off = (tgt : Int)) (kt : x = y → Z p l e R s m args below meth c Q A g nL tgt lv st wW wR kc ks) (kf : ¬ (x = y) → Z p l e R s m args below meth c Q A g nL (pc + 3) lv st wW wR kc ks) : Z p l e R s m args below meth c Q A g nL pc lv (.int y :: .int x :: st) wW wR kc ks := fun H locs ls hw hl => lv_icmp_eq h.1 h.2.1 hdg ht (fun q => kt q H locs ls hw hl) (fun q => kf q H locs ls hw hl)
theorem z_icmp_ne (h : CX p s m args meth c A g nL cc Ts own) {x y : Int32} {off : Int} {tgt : Nat} (hdg : decode cc pc = .ok (.if_icmp .ne off, 3)) (ht : (pc : Int) + off = (tgt : Int)) (kt : ¬ x = y → Z p l e R s m args below meth c Q A g nL tgt lv st wW wR kc ks) (kf : x = y → Z p l e R s m args below meth c Q A g nL (pc + 3) lv st wW wR kc ks) : Z p l e R s m args below meth c Q A g nL pc lv (.int y :: .int x :: st) wW wR kc ks := fun H locs ls hw hl => lv_icmp_ne h.1 h.2.1 hdg ht (fun q => kt q H locs ls hw hl) (fun q => kf q H locs ls hw hl)
theorem z_icmp_lt (h : CX p s m args meth c A g nL cc Ts own) {x y : Int32} {off : Int} {tgt : Nat} (hdg : decode cc pc = .ok (.if_icmp .lt off, 3)) (ht : (pc : Int) + off = (tgt : Int)) (kt : x < y → Z p l e R s m args below meth c Q A g nL tgt lv st wW wR kc ks) (kf : ¬ (x < y) → Z p l e R s m args below meth c Q A g nL (pc + 3) lv st wW wR kc ks) : Z p l e R s m args below meth c Q A g nL pc lv (.int y :: .int x :: st) wW wR kc ks := fun H locs ls hw hl => lv_icmp_lt h.1 h.2.1 hdg ht (fun q => kt q H locs ls hw hl) (fun q => kf q H locs ls hw hl)
theorem z_icmp_ge (h : CX p s m args meth c A g nL cc Ts own) {x y : Int32} {off : Int} {tgt : Nat} (hdg : decode cc pc = .ok (.if_icmp .ge off, 3)) (ht : (pc : Int) + off = (tgt : Int)) (kt : y ≤ x → Z p l e R s m args below meth c Q A g nL tgt lv st wW wR kc ks) (kf : ¬ (y ≤ x) → Z p l e R s m args below meth c Q A g nL (pc + 3) lv st wW wR kc ks) : Z p l e R s m args below meth c Q A g nL pc lv (.int y :: .int x :: st) wW wR kc ks := fun H locs ls hw hl => lv_icmp_ge h.1 h.2.1 hdg ht (fun q => kt q H locs ls hw hl) (fun q => kf q H locs ls hw hl)
theorem z_icmp_gt (h : CX p s m args meth c A g nL cc Ts own) {x y : Int32} {off : Int} {tgt : Nat} (hdg : decode cc pc = .ok (.if_icmp .gt off, 3)) (ht : (pc : Int) + off = (tgt : Int)) (kt : y < x → Z p l e R s m args below meth c Q A g nL tgt lv st wW wR kc ks) (kf : ¬ (y < x) → Z p l e R s m args below meth c Q A g nL (pc + 3) lv st wW wR kc ks) : Z p l e R s m args below meth c Q A g nL pc lv (.int y :: .int x :: st) wW wR kc ks := fun H locs ls hw hl => lv_icmp_gt h.1 h.2.1 hdg ht (fun q => kt q H locs ls hw hl) (fun q => kf q H locs ls hw hl)
theorem z_icmp_le (h : CX p s m args meth c A g nL cc Ts own) {x y : Int32} {off : Int} {tgt : Nat} (hdg : decode cc pc = .ok (.if_icmp .le off, 3)) (ht : (pc : Int) + off = (tgt : Int)) (kt : x ≤ y → Z p l e R s m args below meth c Q A g nL tgt lv st wW wR kc ks) (kf : ¬ (x ≤ y) → Z p l e R s m args below meth c Q A g nL (pc + 3) lv st wW wR kc ks) : Z p l e R s m args below meth c Q A g nL pc lv (.int y :: .int x :: st) wW wR kc ks := fun H locs ls hw hl => lv_icmp_le h.1 h.2.1 hdg ht (fun q => kt q H locs ls hw hl) (fun q => kf q H locs ls hw hl)
theorem z_tableOut (h : CX p s m args meth c A g nL cc Ts own) {dflt lo hi : Int} {offs : Array Int} {len : Nat} {x : Int32} {tgt : Nat} (hdg : decode cc pc = .ok (.tableswitch dflt lo hi offs, len)) (hx : x.toInt < lo ∨ hi < x.toInt) (ht : (pc : Int) + dflt = (tgt : Int)) (k : Z p l e R s m args below meth c Q A g nL tgt lv st wW wR kc ks) : Z p l e R s m args below meth c Q A g nL pc lv (.int x :: st) wW wR kc ks := fun H locs ls hw hl => lv_tableOut h.1 h.2.1 hdg hx ht (k H locs ls hw hl)
theorem z_tableIn (h : CX p s m args meth c A g nL cc Ts own) {dflt lo hi : Int} {offs : Array Int} {len : Nat} {x : Int32} {off : Int} {tgt : Nat} (hdg : decode cc pc = .ok (.tableswitch dflt lo hi offs, len)) (h1 : ¬ x.toInt < lo) (h2 : ¬ hi < x.toInt) (ho : offs[(x.toInt - lo).toNat]? = some off) (ht : (pc : Int) + off = (tgt : Int)) (k : Z p l e R s m args below meth c Q A g nL tgt lv st wW wR kc ks) : Z p l e R s m args below meth c Q A g nL pc lv (.int x :: st) wW wR kc ks := fun H locs ls hw hl => lv_tableIn h.1 h.2.1 hdg h1 h2 ho ht (k H locs ls hw hl)
theorem z_topi {x y : Int32} (e9 : x = y) (k : Z p l e R s m args below meth c Q A g nL pc lv (.int y :: st) wW wR kc ks) : Z p l e R s m args below meth c Q A g nL pc lv (.int x :: st) wW wR kc ks := e9 ▸ k
theorem z_topl {x y : Int64} (e9 : x = y) (k : Z p l e R s m args below meth c Q A g nL pc lv (.long y :: st) wW wR kc ks) : Z p l e R s m args below meth c Q A g nL pc lv (.long x :: st) wW wR kc ks := e9 ▸ k
theorem z_lv {lv' : List (Nat × Value)} (js : List Nat) (hjs : lv_pick lv js = lv') (k : Z p l e R s m args below meth c Q A g nL pc lv' st wW wR kc ks) : Z p l e R s m args below meth c Q A g nL pc lv st wW wR kc ks := fun H locs ls hw hl => k H locs ls hw (lv_sub hl js hjs)
theorem z_st {st' : List Value} (e9 : st = st') (k : Z p l e R s m args below meth c Q A g nL pc lv st' wW wR kc ks) : Z p l e R s m args below meth c Q A g nL pc lv st wW wR kc ks := e9 ▸ k
theorem z_ws {wW' wR' : va_W} (e9 : wW = wW') (e8 : wR = wR') (k : Z p l e R s m args below meth c Q A g nL pc lv st wW' wR' kc ks) : Z p l e R s m args below meth c Q A g nL pc lv st wW wR kc ks := e9 ▸ e8 ▸ k
theorem z_widen {kc' ks' : Nat} (h1 : kc ≤ kc') (h2 : ks ≤ ks') (k : Z p l e R s m args below meth c Q A g nL pc lv st wW wR kc' ks') : Z p l e R s m args below meth c Q A g nL pc lv st wW wR kc ks := fun H locs ls hw hl => W.widen h1 h2 (k H locs ls hw hl)
theorem z_getG (h : CX p s m args meth c A g nL cc Ts own) {ref C : String} {T : u_T} {N ci index a : Nat} (hin : ∀ w ∈ u_ws C T N, w ∈ Ts) (q0 : Nat) {fs : List Value} (he : (wW ++ wR)[q0]? = some (a, .inr (ci, fs))) (hc : vwCl[ci]? = some (C, T, N)) (k9 : Nat) (hk : k9 < N) (hlink : Cond.fieldLink own index ref (T k9).2.1 (T k9).2.2.1 ∈ Ts) (hsame : ∀ x, s.fieldFound? (T k9).1 (T k9).2.1 (T k9).2.2.1 = some x → s.fieldFound? ref (T k9).2.1 (T k9).2.2.1 = some x) {v : Value} (hv : fs[k9]? = some v) (hdg : decode cc pc = .ok (.getfield index, 3)) (k : Z p l e R s m args below meth c Q A g nL (pc + 3) lv (v :: st) wW wR kc ks) : Z p l e R s m args below meth c Q A g nL pc lv (.ref a :: st) wW wR kc ks :=
  fun H locs ls hw hl => va_get h.1 h.2.1 h.2.2.2.2.1 hin h.2.2.2.1 h.2.2.2.2.2.1.1 hw.1 q0 he hc k9 hk (h.2.2.2.2.1 _ hlink) hsame hv hdg (k H locs ls hw hl)
theorem z_get (h : CX p s m args meth c A g nL cc Ts own) {C : String} {T : u_T} {N ci index a : Nat} (hin : ∀ w ∈ u_ws C T N, w ∈ Ts) (q0 : Nat) {fs : List Value} (he : (wW ++ wR)[q0]? = some (a, .inr (ci, fs))) (hc : vwCl[ci]? = some (C, T, N)) (k9 : Nat) (hk : k9 < N) (hlink : Cond.fieldLink own index (T k9).1 (T k9).2.1 (T k9).2.2.1 ∈ Ts) {v : Value} (hv : fs[k9]? = some v) (hdg : decode cc pc = .ok (.getfield index, 3)) (k : Z p l e R s m args below meth c Q A g nL (pc + 3) lv (v :: st) wW wR kc ks) : Z p l e R s m args below meth c Q A g nL pc lv (.ref a :: st) wW wR kc ks := z_getG h hin q0 he hc k9 hk hlink (fun _ h9 => h9) hv hdg k
theorem WD.setW {A : Nat → Prop} {g : Gx} {H0 H H1 : Heap} {wW wR : va_W} {locs : List Loc} {q0 a j : Nat} {e0 e1 : va_E} (hw : WD A g H0 wW wR H locs) (he : wW[q0]? = some (a, e0)) (hat : va_at g.1 vwCl (a, e1) H1) (hz : H1.size = H.size) (oq : ∀ q : Nat, q ≠ a → H1[q]? = H[q]?) : WD A g H0 (wW.set q0 (a, e1)) wR H1 (locs ++ [⟨a, j⟩]) := by
  obtain ⟨hP, hD, hA, hS⟩ := hw
  have hl : q0 < wW.length := (List.getElem?_eq_some_iff.mp he).1
  have he' : (wW ++ wR)[q0]? = some (a, e0) := by rw [List.getElem?_append_left hl]; exact he
  have hset : wW.set q0 (a, e1) ++ wR = (wW ++ wR).set q0 (a, e1) := (List.set_append_left _ _ hl).symm
  refine ⟨by rw [hset]; exact hP.set hD he' hat oq, by rw [hset]; exact hD.set he', fun k q hk => ?_, hS.put hz oq (hA q0 _ he)⟩
  by_cases hkq : k = q0
  · subst hkq
    rw [List.getElem?_set_self hl] at hk
    cases hk
    exact hA _ (a, e0) he
  · rw [List.getElem?_set_ne (Ne.symm hkq)] at hk
    exact hA k q hk
theorem z_putG (h : CX p s m args meth c A g nL cc Ts own) {ref C : String} {T : u_T} {N ci index a : Nat} (hin : ∀ w ∈ u_ws C T N, w ∈ Ts) (q0 : Nat) {fs : List Value} (ty0 : Nat → FieldType) (hty : ∀ k, k < N → parseFieldDescriptor (T k).2.2.1 = some (ty0 k)) (hnm : ∀ a, a < N → ∀ b, b < N → a ≠ b → (T a).2.1 ≠ (T b).2.1) (he : wW[q0]? = some (a, .inr (ci, fs))) (hc : vwCl[ci]? = some (C, T, N)) (k9 : Nat) (hk : k9 < N) (hlink : Cond.fieldLink own index ref (T k9).2.1 (T k9).2.2.1 ∈ Ts) (hsame : ∀ x, s.fieldFound? (T k9).1 (T k9).2.1 (T k9).2.2.1 = some x → s.fieldFound? ref (T k9).2.1 (T k9).2.2.1 = some x) (hfin : (T k9).2.2.2 = false) {ty : FieldType} {v : Value} (hd : parseFieldDescriptor (T k9).2.2.1 = some ty) (hn : narrow ty v = v) (hfit : fits ty v = true) (hl9 : k9 < fs.length) (hdg : decode cc pc = .ok (.putfield index, 3))
    {wW' : va_W} (hws : wW.set q0 (a, .inr (ci, fs.set k9 v)) = wW') (k : Z p l e R s m args below meth c Q A g nL (pc + 3) lv st wW' wR kc ks) : Z p l e R s m args below meth c Q A g nL pc lv (v :: .ref a :: st) wW wR kc ks := by
  intro H locs ls hw hl
  have he' : (wW ++ wR)[q0]? = some (a, .inr (ci, fs)) := by rw [List.getElem?_append_left (List.getElem?_eq_some_iff.mp he).1]; exact he
  have hK := h.2.2.2.2.2.1.1
  have hts := h.2.2.2.2.1
  have hap := va_apart (own := own) hts hin ty0 hty hnm hK hc
  obtain ⟨r, h1, cell, q1, q2, q3, q4⟩ := hw.1 q0 _ he'
  have hr : r = (C, T, N) := Option.some.inj (h1.symm.trans hc)
  subst hr
  obtain ⟨hSl, hfc, kC, hkC, hkind⟩ := hK.1 ci _ hc
  obtain ⟨cf, kf, fi, f, hi, hsl⟩ := hSl k9 hk
  have hlay := hts _ (hin _ (u_in_lay hk))
  unfold u_lay at hlay
  rw [if_neg (by rw [hfin]; decide)] at hlay
  have hst := (u_facts hfc hkC (u_lays hts hin hk) hi).1
  have h6 := u_store hfc hkC hkind hlay hi hd hn hfit
  refine W.putK h.1 h.2.1 (f := f) ⟨h.2.2.2.1, hts _ hlink, ⟨_, _, _, hsame _ hi⟩, hst⟩ (by rw [q2]; exact h6) q1 q3 (by rw [hsl]; exact k2_hasslot (q4 k9 hk)) rfl rfl hdg fun H' e1 e2 e3 => ?_
  rw [hsl] at e1 ⊢
  subst hws
  exact k H' _ ls (hw.setW he ⟨_, hc, t_OB.to (V := updV (vp_V fs) k9 v) ⟨_, e1, q2, q3, t_set q4 hap hk v⟩ (fun j _ => vp_updV_set hl9 v j)⟩ e2 e3) hl
theorem z_put (h : CX p s m args meth c A g nL cc Ts own) {C : String} {T : u_T} {N ci index a : Nat} (hin : ∀ w ∈ u_ws C T N, w ∈ Ts) (q0 : Nat) {fs : List Value} (ty0 : Nat → FieldType) (hty : ∀ k, k < N → parseFieldDescriptor (T k).2.2.1 = some (ty0 k)) (hnm : ∀ a, a < N → ∀ b, b < N → a ≠ b → (T a).2.1 ≠ (T b).2.1) (he : wW[q0]? = some (a, .inr (ci, fs))) (hc : vwCl[ci]? = some (C, T, N)) (k9 : Nat) (hk : k9 < N) (hlink : Cond.fieldLink own index (T k9).1 (T k9).2.1 (T k9).2.2.1 ∈ Ts) (hfin : (T k9).2.2.2 = false) {v : Value} (hn : narrow (ty0 k9) v = v) (hfit : fits (ty0 k9) v = true) (hl9 : k9 < fs.length) (hdg : decode cc pc = .ok (.putfield index, 3))
    {wW' : va_W} (hws : wW.set q0 (a, .inr (ci, fs.set k9 v)) = wW') (k : Z p l e R s m args below meth c Q A g nL (pc + 3) lv st wW' wR kc ks) : Z p l e R s m args below meth c Q A g nL pc lv (v :: .ref a :: st) wW wR kc ks := z_putG h hin q0 ty0 hty hnm he hc k9 hk hlink (fun _ h9 => h9) hfin (hty k9 hk) hn hfit hl9 hdg hws k
theorem z_putF (h : CX p s m args meth c A g nL cc Ts own) {C : String} {T : u_T} {N ci index a : Nat} (hin : ∀ w ∈ u_ws C T N, w ∈ Ts) (q0 : Nat) {fs : List Value} (ty0 : Nat → FieldType) (hty : ∀ k, k < N → parseFieldDescriptor (T k).2.2.1 = some (ty0 k)) (hnm : ∀ a, a < N → ∀ b, b < N → a ≠ b → (T a).2.1 ≠ (T b).2.1) (he : wW[q0]? = some (a, .inr (ci, fs))) (hc : vwCl[ci]? = some (C, T, N)) (k9 : Nat) (hk : k9 < N) (hlink : Cond.fieldLink own index (T k9).1 (T k9).2.1 (T k9).2.2.1 ∈ Ts) (hfin : (T k9).2.2.2 = true) (hin2 : meth.name = "<init>") (hdecl : (T k9).1 = own) {v : Value} (hn : narrow (ty0 k9) v = v) (hfit : fits (ty0 k9) v = true) (hl9 : k9 < fs.length) (hdg : decode cc pc = .ok (.putfield index, 3))
    {wW' : va_W} (hws : wW.set q0 (a, .inr (ci, fs.set k9 v)) = wW') (k : Z p l e R s m args below meth c Q A g nL (pc + 3) lv st wW' wR kc ks) : Z p l e R s m args below meth c Q A g nL pc lv (v :: .ref a :: st) wW wR kc ks := by
  intro H locs ls hw hl
  have he' : (wW ++ wR)[q0]? = some (a, .inr (ci, fs)) := by rw [List.getElem?_append_left (List.getElem?_eq_some_iff.mp he).1]; exact he
  have hK := h.2.2.2.2.2.1.1
  have hts := h.2.2.2.2.1
  have hd := hty k9 hk
  have hap := va_apart (own := own) hts hin ty0 hty hnm hK hc
  obtain ⟨r, h1, cell, q1, q2, q3, q4⟩ := hw.1 q0 _ he'
  have hr : r = (C, T, N) := Option.some.inj (h1.symm.trans hc)
  subst hr
  obtain ⟨hSl, hfc, kC, hkC, hkind⟩ := hK.1 ci _ hc
  obtain ⟨cf, kf, fi, f, hi, hsl⟩ := hSl k9 hk
  have hlay := hts _ (hin _ (u_in_lay hk))
  unfold u_lay at hlay
  rw [if_pos hfin] at hlay
  have hst := (u_facts hfc hkC (u_lays hts hin hk) hi).1
  have hcf : m.cls = cf := by
    obtain ⟨_, _, c', _, _, _, -, -, hf', -, -, -, hown2, -⟩ := Cond.laysFinal_spec hlay
    have e1 : c' = cf := by have := hi.symm.trans hf'; simp at this; exact this.1.symm
    rw [hdecl] at hown2
    rw [← e1]; exact Option.some.inj (h.2.2.2.1.symm.trans hown2)
  have h6 := u_fits hfc hkC hkind (Or.inr hlay) hi hd hn hfit
  refine W.putFinK h.1 h.2.1 h.2.2.2.1 (hts _ hlink) hi hst hcf hin2 (by rw [q2]; exact h6) q1 q3 (by rw [hsl]; exact k2_hasslot (q4 k9 hk)) rfl rfl hdg fun H' e1 e2 e3 => ?_
  rw [hsl] at e1 ⊢
  subst hws
  exact k H' _ ls (hw.setW he ⟨_, hc, t_OB.to (V := updV (vp_V fs) k9 v) ⟨_, e1, q2, q3, t_set q4 hap hk v⟩ (fun j _ => vp_updV_set hl9 v j)⟩ e2 e3) hl
theorem z_getN (h : CX p s m args meth c A g nL cc Ts own) {C : String} {T : u_T} {N ci index a : Nat} (hin : ∀ w ∈ u_ws C T N, w ∈ Ts) (q0 : Nat) {fs : List Value} (he : (wW ++ wR)[q0]? = some (a, .inr (ci, fs))) (hc : vwCl[ci]? = some (C, T, N)) (k9 : Nat) (hk : k9 < N) (hq : (own, index, (T k9).1, (T k9).2.1, (T k9).2.2.1) ∈ nestQ) {v : Value} (hv : fs[k9]? = some v) (hdg : decode cc pc = .ok (.getfield index, 3)) (k : Z p l e R s m args below meth c Q A g nL (pc + 3) lv (v :: st) wW wR kc ks) : Z p l e R s m args below meth c Q A g nL pc lv (.ref a :: st) wW wR kc ks :=
  fun H locs ls hw hl => va_getN h.1 h.2.1 h.2.2.2.2.1 hin h.2.2.2.1 h.2.2.2.2.2.1.1 hw.1 q0 he hc k9 hk (va_Nw.use rfl (h.2.2.2.2.2.1.2.1 _ hq)) (fun _ h9 => h9) hv hdg (k H locs ls hw hl)
theorem z_putN (h : CX p s m args meth c A g nL cc Ts own) {C : String} {T : u_T} {N ci index a : Nat} (hin : ∀ w ∈ u_ws C T N, w ∈ Ts) (q0 : Nat) {fs : List Value} (ty0 : Nat → FieldType) (hty : ∀ k, k < N → parseFieldDescriptor (T k).2.2.1 = some (ty0 k)) (hnm : ∀ a, a < N → ∀ b, b < N → a ≠ b → (T a).2.1 ≠ (T b).2.1) (he : wW[q0]? = some (a, .inr (ci, fs))) (hc : vwCl[ci]? = some (C, T, N)) (k9 : Nat) (hk : k9 < N) (hq : (own, index, (T k9).1, (T k9).2.1, (T k9).2.2.1) ∈ nestQ) (hfin : (T k9).2.2.2 = false) {v : Value} (hn : narrow (ty0 k9) v = v) (hfit : fits (ty0 k9) v = true) (hl9 : k9 < fs.length) (hdg : decode cc pc = .ok (.putfield index, 3))
    {wW' : va_W} (hws : wW.set q0 (a, .inr (ci, fs.set k9 v)) = wW') (k : Z p l e R s m args below meth c Q A g nL (pc + 3) lv st wW' wR kc ks) : Z p l e R s m args below meth c Q A g nL pc lv (v :: .ref a :: st) wW wR kc ks := by
  intro H locs ls hw hl
  have he' : (wW ++ wR)[q0]? = some (a, .inr (ci, fs)) := by rw [List.getElem?_append_left (List.getElem?_eq_some_iff.mp he).1]; exact he
  have hK := h.2.2.2.2.2.1.1
  have hts := h.2.2.2.2.1
  have hd := hty k9 hk
  have hap := va_apart (own := own) hts hin ty0 hty hnm hK hc
  obtain ⟨r, h1, cell, q1, q2, q3, q4⟩ := hw.1 q0 _ he'
  have hr : r = (C, T, N) := Option.some.inj (h1.symm.trans hc)
  subst hr
  obtain ⟨hSl, hfc, kC, hkC, hkind⟩ := hK.1 ci _ hc
  obtain ⟨cf, kf, fi, f, hi, hsl⟩ := hSl k9 hk
  have hlay := hts _ (hin _ (u_in_lay hk))
  unfold u_lay at hlay
  rw [if_neg (by rw [hfin]; decide)] at hlay
  have hst := (u_facts hfc hkC (u_lays hts hin hk) hi).1
  have h6 := u_store hfc hkC hkind hlay hi hd hn hfit
  refine va_WputK h.1 h.2.1 (f := f) h.2.2.2.1 (va_Nw.use rfl (h.2.2.2.2.2.1.2.1 _ hq)) hi hst (by rw [q2]; exact h6) q1 q3 (by rw [hsl]; exact k2_hasslot (q4 k9 hk)) rfl rfl hdg fun H' e1 e2 e3 => ?_
  rw [hsl] at e1 ⊢
  subst hws
  exact k H' _ ls (hw.setW he ⟨_, hc, t_OB.to (V := updV (vp_V fs) k9 v) ⟨_, e1, q2, q3, t_set q4 hap hk v⟩ (fun j _ => vp_updV_set hl9 v j)⟩ e2 e3) hl
theorem z_cast (h : CX p s m args meth c A g nL cc Ts own) {C : String} {T : u_T} {N ci index a : Nat} (hlink : Cond.classLink own index C ∈ Ts) (q0 : Nat) {fs : List Value} (he : (wW ++ wR)[q0]? = some (a, .inr (ci, fs))) (hc : vwCl[ci]? = some (C, T, N)) (hdg : decode cc pc = .ok (.checkcast index, 3)) (k : Z p l e R s m args below meth c Q A g nL (pc + 3) lv (.ref a :: st) wW wR kc ks) : Z p l e R s m args below meth c Q A g nL pc lv (.ref a :: st) wW wR kc ks :=
  fun H locs ls hw hl => va_castS h.1 h.2.1 h.2.2.2.1 (h.2.2.2.2.1 _ hlink) (h.2.2.2.2.2.1.1.1 ci _ hc).2 (va_recv h.2.2.2.2.2.1.1 hw.1 hc he) hdg (k H locs ls hw hl)
theorem z_iald (h : CX p s m args meth c A g nL cc Ts own) {a n : Nat} {f : Nat → Int32} (q0 : Nat) (ha : (wW ++ wR)[q0]? = some (a, .inl (g.2.1, n, .inl f))) {i : Int32} (hin : vp_in i n) (hdg : decode cc pc = .ok (.iaload, 1)) {v : Int32} (hv : f i.toNatClampNeg = v) (k : Z p l e R s m args below meth c Q A g nL (pc + 1) lv (.int v :: st) wW wR kc ks) : Z p l e R s m args below meth c Q A g nL pc lv (.int i :: .ref a :: st) wW wR kc ks := by
  subst hv
  exact fun H locs ls hw hl => va_iald h.1 h.2.1 h.2.2.2.2.2.1.1 hw.1 q0 0 ha rfl hin hdg (k H locs ls hw hl)
theorem z_lald (h : CX p s m args meth c A g nL cc Ts own) {a n : Nat} {f : Nat → Int64} (q0 : Nat) (ha : (wW ++ wR)[q0]? = some (a, .inl (g.2.2.1, n, .inr (.inl f)))) {i : Int32} (hin : vp_in i n) (hdg : decode cc pc = .ok (.laload, 1)) {v : Int64} (hv : f i.toNatClampNeg = v) (k : Z p l e R s m args below meth c Q A g nL (pc + 1) lv (.long v :: st) wW wR kc ks) : Z p l e R s m args below meth c Q A g nL pc lv (.int i :: .ref a :: st) wW wR kc ks := by
  subst hv
  exact fun H locs ls hw hl => va_lald h.1 h.2.1 h.2.2.2.2.2.1.1 hw.1 q0 1 ha rfl hin hdg (k H locs ls hw hl)
theorem z_zald (h : CX p s m args meth c A g nL cc Ts own) {a n : Nat} {f : Nat → Int32} (q0 : Nat) (ha : (wW ++ wR)[q0]? = some (a, .inl (g.2.2.2.1, n, .inl f))) {i : Int32} (hin : vp_in i n) (hdg : decode cc pc = .ok (.baload, 1)) {v : Int32} (hv : f i.toNatClampNeg = v) (k : Z p l e R s m args below meth c Q A g nL (pc + 1) lv (.int v :: st) wW wR kc ks) : Z p l e R s m args below meth c Q A g nL pc lv (.int i :: .ref a :: st) wW wR kc ks := by
  subst hv
  exact fun H locs ls hw hl => va_zald h.1 h.2.1 h.2.2.2.2.2.1.1 hw.1 q0 2 ha rfl hin hdg (k H locs ls hw hl)
theorem z_aldq (h : CX p s m args meth c A g nL cc Ts own) {a n : Nat} {f : Nat → Option Nat} (q0 : Nat) (ha : (wW ++ wR)[q0]? = some (a, .inl (g.2.2.2.2, n, .inr (.inr (.inr (.inr f)))))) {i : Int32} (hin : vp_in i n) (hdg : decode cc pc = .ok (.aaload, 1)) {b : Nat} (hv : f i.toNatClampNeg = some b) (k : Z p l e R s m args below meth c Q A g nL (pc + 1) lv (.ref b :: st) wW wR kc ks) : Z p l e R s m args below meth c Q A g nL pc lv (.int i :: .ref a :: st) wW wR kc ks :=
  fun H locs ls hw hl => va_aldq h.1 h.2.1 h.2.2.2.2.2.1.1 hw.1 q0 3 ha rfl hin hdg (by rw [hv]; exact k H locs ls hw hl)
theorem z_alen (h : CX p s m args meth c A g nL cc Ts own) {a : Nat} {cA : ClassId} {x : vp_A} {ty : FieldType} (q0 t0 : Nat) (ha : (wW ++ wR)[q0]? = some (a, .inl (cA, x))) (ht : (tyL g)[t0]? = some (cA, ty)) {v : Int32} (hv : Int32.ofNat x.1 = v) (hdg : decode cc pc = .ok (.arraylength, 1)) (k : Z p l e R s m args below meth c Q A g nL (pc + 1) lv (.int v :: st) wW wR kc ks) : Z p l e R s m args below meth c Q A g nL pc lv (.ref a :: st) wW wR kc ks :=
  fun H locs ls hw hl => va_alen h.1 h.2.1 h.2.2.2.2.2.1.1 hw.1 q0 t0 ha ht hv hdg (k H locs ls hw hl)
theorem z_iast (h : CX p s m args meth c A g nL cc Ts own) {a n j : Nat} {f : Nat → Int32} (q0 : Nat) (ha : wW[q0]? = some (a, .inl (g.2.1, n, .inl f))) {i : Int32} {x : Int32} (hin : vp_in i n) (hj : i.toNatClampNeg = j) (hdg : decode cc pc = .ok (.iastore, 1)) {wW' : va_W} (hws : wW.set q0 (a, .inl (g.2.1, n, .inl (upd f j x))) = wW') (k : Z p l e R s m args below meth c Q A g nL (pc + 1) lv st wW' wR kc ks) : Z p l e R s m args below meth c Q A g nL pc lv (.int x :: .int i :: .ref a :: st) wW wR kc ks := by
  intro H locs ls hw hl
  subst hj
  have ha' : (wW ++ wR)[q0]? = some (a, .inl (g.2.1, n, .inl f)) := by rw [List.getElem?_append_left (List.getElem?_eq_some_iff.mp ha).1]; exact ha
  refine W.iast h.1 h.2.1 (hw.1 q0 _ ha') ((h.2.2.2.2.2.1.1.2 0 _ rfl).1 n (fun j => .int (f j))) (fun q => by cases q) (by show ¬ (i < 0 ∨ (arrV _ _ _).slots.size ≤ _); rw [arrV_size]; exact hin) rfl rfl hdg fun H1 e z oq => ?_
  subst hws
  refine k H1 _ ls (hw.setW ha ?_ z oq) hl
  show H1[a]? = some (vp_cell _ _)
  rw [e, vp_cell_i, vp_cell_i, arrV_store]
  congr 2
  funext q
  by_cases hq : q = i.toNatClampNeg
  · subst hq
    simp [updV, upd]
    try rfl
  · simp [updV, upd, hq]
theorem z_zast (h : CX p s m args meth c A g nL cc Ts own) {a n j : Nat} {f : Nat → Int32} (q0 : Nat) (ha : wW[q0]? = some (a, .inl (g.2.2.2.1, n, .inl f))) {i : Int32} {x : Int32} (hin : vp_in i n) (hj : i.toNatClampNeg = j) (hdg : decode cc pc = .ok (.bastore, 1)) {wW' : va_W} (hws : wW.set q0 (a, .inl (g.2.2.2.1, n, .inl (upd f j (vp_nar .boolean x)))) = wW') (k : Z p l e R s m args below meth c Q A g nL (pc + 1) lv st wW' wR kc ks) : Z p l e R s m args below meth c Q A g nL pc lv (.int x :: .int i :: .ref a :: st) wW wR kc ks := by
  intro H locs ls hw hl
  subst hj
  have ha' : (wW ++ wR)[q0]? = some (a, .inl (g.2.2.2.1, n, .inl f)) := by rw [List.getElem?_append_left (List.getElem?_eq_some_iff.mp ha).1]; exact ha
  refine W.zast h.1 h.2.1 (hw.1 q0 _ ha') ((h.2.2.2.2.2.1.1.2 2 _ rfl).1 n (fun j => .int (f j))) (fun q => by cases q) (by show ¬ (i < 0 ∨ (arrV _ _ _).slots.size ≤ _); rw [arrV_size]; exact hin) rfl rfl hdg fun H1 e z oq => ?_
  subst hws
  refine k H1 _ ls (hw.setW ha ?_ z oq) hl
  show H1[a]? = some (vp_cell _ _)
  rw [e, vp_cell_i, vp_cell_i, arrV_store]
  congr 2
  funext q
  by_cases hq : q = i.toNatClampNeg
  · subst hq
    simp [updV, upd, vp_nar]
    try rfl
  · simp [updV, upd, vp_nar, hq]
theorem z_last (h : CX p s m args meth c A g nL cc Ts own) {a n j : Nat} {f : Nat → Int64} (q0 : Nat) (ha : wW[q0]? = some (a, .inl (g.2.2.1, n, .inr (.inl f)))) {i : Int32} {x : Int64} (hin : vp_in i n) (hj : i.toNatClampNeg = j) (hdg : decode cc pc = .ok (.lastore, 1)) {wW' : va_W} (hws : wW.set q0 (a, .inl (g.2.2.1, n, .inr (.inl (vp_updL f j x)))) = wW') (k : Z p l e R s m args below meth c Q A g nL (pc + 1) lv st wW' wR kc ks) : Z p l e R s m args below meth c Q A g nL pc lv (.long x :: .int i :: .ref a :: st) wW wR kc ks := by
  intro H locs ls hw hl
  subst hj
  have ha' : (wW ++ wR)[q0]? = some (a, .inl (g.2.2.1, n, .inr (.inl f))) := by rw [List.getElem?_append_left (List.getElem?_eq_some_iff.mp ha).1]; exact ha
  refine W.last h.1 h.2.1 (hw.1 q0 _ ha') ((h.2.2.2.2.2.1.1.2 1 _ rfl).1 n (fun j => .long (f j))) (fun q => by cases q) (by show ¬ (i < 0 ∨ (arrV _ _ _).slots.size ≤ _); rw [arrV_size]; exact hin) rfl rfl hdg fun H1 e z oq => ?_
  subst hws
  refine k H1 _ ls (hw.setW ha ?_ z oq) hl
  show H1[a]? = some (vp_cell _ _)
  rw [e, vp_cell_l, vp_cell_l, arrV_store]
  congr 2
  funext q
  by_cases hq : q = i.toNatClampNeg
  · subst hq
    simp [updV, vp_updL]
    try rfl
  · simp [updV, vp_updL, hq]
theorem z_astq (h : CX p s m args meth c A g nL cc Ts own) {a n j v ci : Nat} {f : Nat → Option Nat} {vs : List Value} {r : vw_C} (q0 qk : Nat) (ha : wW[q0]? = some (a, .inl (g.2.2.2.2, n, .inr (.inr (.inr (.inr f)))))) (hca : (r.1, "java/lang/Object") ∈ castQ) (hv : (wW ++ wR)[qk]? = some (v, .inr (ci, vs))) (hc : vwCl[ci]? = some r) {i : Int32} (hin : vp_in i n) (hj : i.toNatClampNeg = j) (hdg : decode cc pc = .ok (.aastore, 1)) {wW' : va_W} (hws : wW.set q0 (a, .inl (g.2.2.2.2, n, .inr (.inr (.inr (.inr (va_up f j (some v))))))) = wW') (k : Z p l e R s m args below meth c Q A g nL (pc + 1) lv st wW' wR kc ks) : Z p l e R s m args below meth c Q A g nL pc lv (.ref v :: .int i :: .ref a :: st) wW wR kc ks := by
  intro H locs ls hw hl
  subst hj
  have ha' : (wW ++ wR)[q0]? = some (a, .inl (g.2.2.2.2, n, .inr (.inr (.inr (.inr f))))) := by rw [List.getElem?_append_left (List.getElem?_eq_some_iff.mp ha).1]; exact ha
  have hK := h.2.2.2.2.2.1.1
  have hlt : i.toNatClampNeg < n := Nat.not_le.mp fun q => hin (Or.inr q)
  have h0 : ¬ i < 0 := fun q => hin (Or.inl q)
  obtain ⟨r', hr', cellV, g1, g2, g3, -⟩ := hw.1 qk _ hv
  have hcls := (hK.1 ci r hc).2
  obtain ⟨kA, comp, k1, k2, k3, -⟩ := (hK.2 3 _ rfl).2
  obtain ⟨kE, hkE, -⟩ := Vm.findClass_spec k3
  obtain ⟨c0, t1, f1, f2, f3⟩ := Cond.castable_spec (va_Nw.use (A := args) rfl (h.2.2.2.2.2.1.2.2.1 _ hca))
  cases hcls.1.symm.trans f1
  cases k3.symm.trans f2
  obtain ⟨kC, hkC, -⟩ := hcls.2
  refine W.aast h.1 h.2.1 (hw.1 q0 _ ha') (fun q h => by cases h) (fun h => by cases h) k1 k2 rfl hkE ⟨h0, by show _ < (arrV _ _ _).slots.size; rw [arrV_size]; exact hlt⟩ g1 (fun q h => by rw [g3] at h; cases h) (by rw [g2]; exact hkC) (by rw [g2]; exact f3) rfl rfl hdg fun H1 e z oq => ?_
  subst hws
  refine k H1 _ ls (hw.setW ha ?_ z oq) hl
  show H1[a]? = some (vp_cell _ _)
  rw [e, vp_cell_q, vp_cell_q, arrV_store]
  congr 2
  funext q
  by_cases hq : q = i.toNatClampNeg
  · subst hq
    simp [updV, va_up, va_rf]
  · simp [updV, va_up, hq]
/-- a new cell at the end of those that may be written -/
theorem WD.push {A : Nat → Prop} {g : Gx} {H0 H H1 : Heap} {wW wR : va_W} {locs : List Loc} {e : va_E} (hw : WD A g H0 wW wR H locs) (hA : ∀ q, H0.size ≤ q → A q) (z1 : H1.size = H.size + 1) (o1 : ∀ q, q < H.size → H1[q]? = H[q]?) (he : va_at g.1 vwCl (H.size, e) H1) : WD A g H0 (wW ++ [(H.size, e)]) wR H1 locs := by
  obtain ⟨hP, hD, hAw, hS⟩ := hw
  have key : ∀ (k : Nat) (q : Nat × va_E), ((wW ++ [(H.size, e)]) ++ wR)[k]? = some q → (∃ k0, (wW ++ wR)[k0]? = some q ∧ k = (if k0 < wW.length then k0 else k0 + 1)) ∨ (q = (H.size, e) ∧ k = wW.length) := by
    intro k q hq
    by_cases h1 : k < wW.length
    · rw [List.getElem?_append_left (by rw [List.length_append]; omega), List.getElem?_append_left h1] at hq
      exact Or.inl ⟨k, by rw [List.getElem?_append_left h1]; exact hq, by rw [if_pos h1]⟩
    · by_cases h2 : k = wW.length
      · subst h2
        rw [List.getElem?_append_left (by simp), List.getElem?_append_right (Nat.le_refl _), Nat.sub_self] at hq
        exact Or.inr ⟨(Option.some.inj hq).symm, rfl⟩
      · rw [List.getElem?_append_right (by simp; omega)] at hq
        refine Or.inl ⟨k - 1, ?_, by rw [if_neg (by omega)]; omega⟩
        rw [List.getElem?_append_right (by omega)]
        rw [show k - (wW ++ [(H.size, e)]).length = k - 1 - wW.length by simp; omega] at hq
        exact hq
  refine ⟨fun k q hq => ?_, ⟨fun i j x y hx hy hxy => ?_, fun _ _ _ => trivial⟩, fun k q hq => ?_, ⟨Nat.le_trans hS.1 (by omega), fun q h1 h2 => (o1 q (Nat.lt_of_lt_of_le h1 hS.1)).trans (hS.2.1 q h1 h2), hS.2.2⟩⟩
  · rcases key k q hq with ⟨k0, h1, -⟩ | ⟨rfl, -⟩
    · exact (hP k0 q h1).kept (o1 q.1 (hP k0 q h1).lt)
    · exact he
  · rcases key i x hx with ⟨a, a1, a2⟩ | ⟨rfl, a2⟩ <;> rcases key j y hy with ⟨b, b1, b2⟩ | ⟨rfl, b2⟩
    · have hab := hD.1 a b x y a1 b1 hxy
      rw [a2, b2, hab]
    · have := (hP a x a1).lt
      have : x.1 = H.size := hxy
      omega
    · have := (hP b y b1).lt
      have : H.size = y.1 := hxy
      omega
    · rw [a2, b2]
  · by_cases h1 : k < wW.length
    · rw [List.getElem?_append_left h1] at hq
      exact hAw k q hq
    · rw [List.getElem?_append_right (by omega)] at hq
      have hz : k - wW.length < 1 := (List.getElem?_eq_some_iff.mp hq).1
      rw [show k - wW.length = 0 by omega] at hq
      cases hq
      exact hA _ hS.1
theorem z_lve {lv' : List (Nat × Value)} (e9 : lv = lv') (k : Z p l e R s m args below meth c Q A g nL pc lv' st wW wR kc ks) : Z p l e R s m args below meth c Q A g nL pc lv st wW wR kc ks := e9 ▸ k
theorem z_mmax (h : CX p s m args meth c A g nL cc Ts own) {index : Nat} {x y : Int32} (hlink : Cond.methodLink own index Lib.Math.max.name ∈ Ts) (hstat : Cond.static Lib.Math.max.name ∈ Ts) (hini : Cond.initialized "java/lang/Math" ∈ Ts) (hcode : Cond.code Lib.Math.max.name Lib.Math.max.code 2 (some .int) ∈ Ts) (hframes : 1 ≤ R.frames) (hlocals : (st.map fun v => v.category).sum + 13 ≤ R.locals) (hc : kc ≤ R.cells) (hs : ks ≤ R.slots) (hdg : decode cc pc = .ok (.invokestatic index, 3)) (k : Z p l e R s m args below meth c Q A g nL (pc + 3) lv (.int (if x < y then y else x) :: st) wW wR kc ks) : Z p l e R s m args below meth c Q A g nL pc lv (.int y :: .int x :: st) wW wR kc ks := fun H locs ls hw hl => va_mmax h.1 h.2.1 (h.2.2.1.trans hl.1.symm) h.2.2.2.1 (h.2.2.2.2.1 _ hlink) (h.2.2.2.2.1 _ hstat) (h.2.2.2.2.1 _ hini) (h.2.2.2.2.1 _ hcode) hframes hlocals hc hs hdg (k H locs ls hw hl)
theorem z_mmin (h : CX p s m args meth c A g nL cc Ts own) {index : Nat} {x y : Int32} (hlink : Cond.methodLink own index Lib.Math.min.name ∈ Ts) (hstat : Cond.static Lib.Math.min.name ∈ Ts) (hini : Cond.initialized "java/lang/Math" ∈ Ts) (hcode : Cond.code Lib.Math.min.name Lib.Math.min.code 2 (some .int) ∈ Ts) (hframes : 1 ≤ R.frames) (hlocals : (st.map fun v => v.category).sum + 13 ≤ R.locals) (hc : kc ≤ R.cells) (hs : ks ≤ R.slots) (hdg : decode cc pc = .ok (.invokestatic index, 3)) (k : Z p l e R s m args below meth c Q A g nL (pc + 3) lv (.int (if y < x then y else x) :: st) wW wR kc ks) : Z p l e R s m args below meth c Q A g nL pc lv (.int y :: .int x :: st) wW wR kc ks := fun H locs ls hw hl => va_mmin h.1 h.2.1 (h.2.2.1.trans hl.1.symm) h.2.2.2.1 (h.2.2.2.2.1 _ hlink) (h.2.2.2.2.1 _ hstat) (h.2.2.2.2.1 _ hini) (h.2.2.2.2.1 _ hcode) hframes hlocals hc hs hdg (k H locs ls hw hl)
theorem z_mabs (h : CX p s m args meth c A g nL cc Ts own) {index : Nat} {x : Int32} (hlink : Cond.methodLink own index Lib.Math.abs.name ∈ Ts) (hstat : Cond.static Lib.Math.abs.name ∈ Ts) (hini : Cond.initialized "java/lang/Math" ∈ Ts) (hcode : Cond.code Lib.Math.abs.name Lib.Math.abs.code 1 (some .int) ∈ Ts) (hframes : 1 ≤ R.frames) (hlocals : (st.map fun v => v.category).sum + 13 ≤ R.locals) (hc : kc ≤ R.cells) (hs : ks ≤ R.slots) (hdg : decode cc pc = .ok (.invokestatic index, 3)) (k : Z p l e R s m args below meth c Q A g nL (pc + 3) lv (.int (if 0 ≤ x then x else 0 - x) :: st) wW wR kc ks) : Z p l e R s m args below meth c Q A g nL pc lv (.int x :: st) wW wR kc ks := fun H locs ls hw hl => va_mabs h.1 h.2.1 (h.2.2.1.trans hl.1.symm) h.2.2.2.1 (h.2.2.2.2.1 _ hlink) (h.2.2.2.2.1 _ hstat) (h.2.2.2.2.1 _ hini) (h.2.2.2.2.1 _ hcode) hframes hlocals hc hs hdg (k H locs ls hw hl)
theorem z_objInit (h : CX p s m args meth c A g nL cc Ts own) {idx a : Nat} (hlink : Cond.methodLink own idx Lib.objectInit ∈ Ts) (hinst : Cond.instanceMethod Lib.objectInit ∈ Ts) (hcode : Cond.code Lib.objectInit ⟨#[0xb1]⟩ 1 none ∈ Ts) (hdg : decode cc pc = .ok (.invokespecial idx, 3)) (hframes : 1 ≤ R.frames) (hlocals : (st.map fun v => v.category).sum + 12 ≤ R.locals) (k : Z p l e R s m args below meth c Q A g nL (pc + 3) lv st wW wR kc ks) : Z p l e R s m args below meth c Q A g nL pc lv (.ref a :: st) wW wR kc ks := fun H locs ls hw hl =>
  W.objInit h.1 h.2.1 h.2.2.2.1 (h.2.2.2.2.1 _ hlink) (h.2.2.2.2.1 _ hinst) (h.2.2.2.2.1 _ hcode) rfl (hl.1.trans h.2.2.1.symm) rfl hdg hframes (by show 2 * 0 + _ + 12 ≤ _; omega) (k H locs ls hw hl)
theorem z_new (h : CX p s m args meth c A g nL cc Ts own) {C : String} {T : u_T} {N ci index : Nat} (hin : ∀ w ∈ u_ws C T N, w ∈ Ts) (ty : Nat → FieldType) (hty : ∀ k, k < N → parseFieldDescriptor (T k).2.2.1 = some (ty k)) (hcl : Cond.classLink own index C ∈ Ts) (hinst : Cond.instantiable C N ∈ Ts) (hini : Cond.initialized C ∈ Ts) (hc : vwCl[ci]? = some (C, T, N)) {fs : List Value} (hfs : ∀ j, j < N → defaultValue (ty j) = vp_V fs j) (hcells : kc + 1 ≤ R.cells) (hslots : ks + N ≤ R.slots) (hdg : decode cc pc = .ok (.new index, 3))
    (k : ∀ q : Nat, Z p l e R s m args below meth c Q A g nL (pc + 3) lv (.ref q :: st) (wW ++ [(q, .inr (ci, fs))]) wR (kc + 1) (ks + N)) : Z p l e R s m args below meth c Q A g nL pc lv st wW wR kc ks := by
  intro H locs ls hw hl
  obtain ⟨hP, hD, hA, hS⟩ := hw
  have hKn := h.2.2.2.2.2.1.1.1 ci _ hc
  refine W.newcK h.1 h.2.1 h.2.2.2.1 (h.2.2.2.2.1 _ hcl) (h.2.2.2.2.1 _ hinst) (h.2.2.2.2.1 _ hini) rfl hdg hcells hslots hKn.2.1 rfl fun H1 kC hkC e1 z1 o1 => ?_
  refine k H.size H1 locs ls (WD.push ⟨hP, hD, hA, hS⟩ h.2.2.2.2.2.2.1 z1 o1 ⟨_, hc, (u_born ty h.2.2.2.2.1 hin hKn hkC e1 hty).to hfs⟩) hl
theorem z_newa (h : CX p s m args meth c A g nL cc Ts own) {atype : ArrayType} {ty : FieldType} {n : Int32} {N' t0 : Nat} {a0 : vp_A} {cA : ClassId} (harr : Cond.arrayClass (newarray.typeOf atype) ∈ Ts) (hty : newarray.typeOf atype = ty) (ht : (tyL g)[t0]? = some (cA, ty)) (hpr : ∀ C, ty ≠ .object C) (ha : ∀ cA : ClassId, vp_cell cA a0 = arrV cA N' (fun _ => defaultValue ty)) (hn : ¬ n < 0) (hN : n.toNatClampNeg = N') (hbytes : N' * componentBytes ty ≤ 536870912) (hcells : kc + 1 ≤ R.cells) (hslots : ks + N' ≤ R.slots) (hdg : decode cc pc = .ok (.newarray atype, 2))
    (k : ∀ q : Nat, Z p l e R s m args below meth c Q A g nL (pc + 2) lv (.ref q :: st) (wW ++ [(q, .inl (cA, a0))]) wR (kc + 1) (ks + N')) : Z p l e R s m args below meth c Q A g nL pc lv (.int n :: st) wW wR kc ks := by
  intro H locs ls hw hl
  obtain ⟨hP, hD, hA, hS⟩ := hw
  subst hty
  refine va_newaK h.1 h.2.1 (h.2.2.2.2.1 _ harr) rfl hdg rfl hn hN hbytes hcells hslots rfl fun H1 cB e1 z1 o1 hAr hNm => ?_
  have hcB : cB = cA := by
    have h2 := (h.2.2.2.2.2.1.1.2 t0 _ ht).2
    have h3 : s.vm.findClass ("[" ++ (newarray.typeOf atype).toString) = some cA := by
      cases atype <;> exact h2
    exact Option.some.inj (hNm.symm.trans h3)
  subst hcB
  refine k H.size H1 locs ls (WD.push ⟨hP, hD, hA, hS⟩ h.2.2.2.2.2.2.1 z1 o1 ?_) hl
  show H1[H.size]? = some (vp_cell _ _)
  rw [ha]
  exact e1
end ZL
end
section
/-! worlds behind calls: what came back is put in its places -/
theorem CX.K {p : Program} {s : State} {m : MethodId} {args : Array Value} {meth : Method} {c : Code} {A : Nat → Prop} {g : Gx} {nL : Nat} {cc : ByteArray} {Ts : List Cond} {own : String} (h : CX p s m args meth c A g nL cc Ts own) : va_K g.1 vwCl (tyL g) s := h.2.2.2.2.2.1.1
theorem CX.KN {p : Program} {s : State} {m : MethodId} {args : Array Value} {meth : Method} {c : Code} {A : Nat → Prop} {g : Gx} {nL : Nat} {cc : ByteArray} {Ts : List Cond} {own : String} (h : CX p s m args meth c A g nL cc Ts own) : KX g s := h.2.2.2.2.2.1
theorem CX.ts {p : Program} {s : State} {m : MethodId} {args : Array Value} {meth : Method} {c : Code} {A : Nat → Prop} {g : Gx} {nL : Nat} {cc : ByteArray} {Ts : List Cond} {own : String} (h : CX p s m args meth c A g nL cc Ts own) : ∀ w ∈ Ts, w.before args s = true := h.2.2.2.2.1
theorem CX.arm {p : Program} {s : State} {m : MethodId} {args : Array Value} {meth : Method} {c : Code} {A B : Nat → Prop} {g : Gx} {nL : Nat} {cc : ByteArray} {Ts : List Cond} {own : String} (h : CX p s m args meth c A g nL cc Ts own) (hB : ∀ q, s.heap.size ≤ q → B q) : CX p s m args meth c B g nL cc Ts own := ⟨h.1, h.2.1, h.2.2.1, h.2.2.2.1, h.2.2.2.2.1, h.2.2.2.2.2.1, hB, h.2.2.2.2.2.2.2⟩
def putL : va_W → List Nat → va_W → va_W
  | ws, [], es => ws ++ es
  | ws, _ :: _, [] => ws
  | ws, j :: js, e :: es => putL (ws.set j e) js es
theorem putL_spec : ∀ (js : List Nat) (es ws : va_W), va_nd js = true → (∀ j ∈ js, j < ws.length) → js.length ≤ es.length → ∀ (k : Nat) (q : Nat × va_E), (putL ws js es)[k]? = some q → (k < ws.length ∧ k ∉ js ∧ ws[k]? = some q) ∨ (∃ i, i < js.length ∧ js[i]? = some k ∧ es[i]? = some q) ∨ (ws.length ≤ k ∧ es[js.length + (k - ws.length)]? = some q)
  | [], es, ws, _, _, _, k, q, h => by
    simp only [putL] at h
    by_cases hk : k < ws.length
    · rw [List.getElem?_append_left hk] at h
      exact Or.inl ⟨hk, List.not_mem_nil, h⟩
    · rw [List.getElem?_append_right (by omega)] at h
      refine Or.inr (Or.inr ⟨by omega, ?_⟩)
      simpa using h
  | j :: js, [], ws, _, _, hl, k, q, h => by simp at hl
  | j :: js, e :: es, ws, hn, hj, hl, k, q, h => by
    simp only [va_nd, Bool.and_eq_true, decide_eq_true_eq] at hn
    simp only [putL] at h
    have hl' : js.length ≤ es.length := by simpa using hl
    have ih := putL_spec js es (ws.set j e) hn.2 (fun x hx => by rw [List.length_set]; exact hj x (List.mem_cons_of_mem _ hx)) hl' k q h
    rw [List.length_set] at ih
    rcases ih with ⟨h1, h2, h3⟩ | ⟨i, h1, h2, h3⟩ | ⟨h1, h3⟩
    · by_cases hkj : k = j
      · subst hkj
        rw [List.getElem?_set_self h1] at h3
        exact Or.inr (Or.inl ⟨0, Nat.succ_pos _, rfl, h3⟩)
      · rw [List.getElem?_set_ne (Ne.symm hkj)] at h3
        exact Or.inl ⟨h1, fun z => (List.mem_cons.mp z).elim hkj h2, h3⟩
    · exact Or.inr (Or.inl ⟨i + 1, Nat.succ_lt_succ h1, h2, h3⟩)
    · refine Or.inr (Or.inr ⟨h1, ?_⟩)
      have e9 : (j :: js).length + (k - ws.length) = (js.length + (k - ws.length)) + 1 := by
        show js.length + 1 + (k - ws.length) = _
        omega
      rw [e9, List.getElem?_cons_succ]
      exact h3
theorem at_of_map {is : List Nat} {X w : va_W} (hs : is.map (fun i => X[i]?) = w.map some) {k : Nat} {q : Nat × va_E} (hq : w[k]? = some q) : ∃ i, is[k]? = some i ∧ X[i]? = some q := by
  have h1 : (is.map (fun i => X[i]?))[k]? = some (some q) := by rw [hs, List.getElem?_map, hq]; rfl
  rw [List.getElem?_map] at h1
  cases hi : is[k]? with
  | none => rw [hi] at h1; cases h1
  | some i => rw [hi] at h1; exact ⟨i, rfl, Option.some.inj h1⟩
theorem map_at {is : List Nat} {X w : va_W} (hs : is.map (fun i => X[i]?) = w.map some) {k i : Nat} (hi : is[k]? = some i) : ∃ q, w[k]? = some q ∧ X[i]? = some q := by
  have h1 : (w.map some)[k]? = some (X[i]?) := by rw [← hs, List.getElem?_map, hi]; rfl
  rw [List.getElem?_map] at h1
  cases hq : w[k]? with
  | none => rw [hq] at h1; cases h1
  | some q => rw [hq] at h1; exact ⟨q, rfl, (Option.some.inj h1).symm⟩
theorem P_map {D : va_G} {cl : List vw_C} {X w : va_W} {H : Heap} (h : va_P D cl X H) (is : List Nat) (hs : is.map (fun i => X[i]?) = w.map some) : va_P D cl w H := fun k q hq => by
  obtain ⟨i, -, hi⟩ := at_of_map hs hq
  exact h i q hi
theorem WD.sub {A : Nat → Prop} {g : Gx} {H0 H : Heap} {wW wR cW cR : va_W} {locs : List Loc} (hw : WD A g H0 wW wR H locs) (is : List Nat) (hs : is.map (fun i => (wW ++ wR)[i]?) = (cW ++ cR).map some) (hn : va_nd is = true) : va_P g.1 vwCl (cW ++ cR) H ∧ va_D (fun _ => True) (cW ++ cR) := ⟨P_map hw.1 is hs, hw.2.1.sub is hn hs⟩
theorem WD.cA {A : Nat → Prop} {g : Gx} {H0 H : Heap} {wW wR cW : va_W} {locs : List Loc} (hw : WD A g H0 wW wR H locs) (hA : ∀ q, H0.size ≤ q → A q) {js : List Nat} (hjs : js.map (fun i => wW[i]?) = cW.map some) : ∀ q, va_A cW H.size q → A q := by
  rintro q (⟨i, e, h⟩ | h)
  · obtain ⟨k2, -, h2⟩ := at_of_map hjs h
    exact hw.2.2.1 k2 _ h2
  · exact hA q (Nat.le_trans hw.2.2.2.1 h)
theorem WD.back {A : Nat → Prop} {g : Gx} {H0 H H1 : Heap} {wW wR cW w1 : va_W} {locs locs1 : List Loc} {js : List Nat} (hw : WD A g H0 wW wR H locs) (hA : ∀ q, H0.size ≤ q → A q) (hjs : js.map (fun i => wW[i]?) = cW.map some) (hnd : va_nd js = true) (hlen : js.length ≤ w1.length)
    (hk : ∀ q : Nat, q < H.size → ¬ va_A cW H.size q → H1[q]? = H[q]?) (hP1 : va_P g.1 vwCl w1 H1) (hD1 : va_D (va_A cW H.size) w1) (hS1 : va_S A H0 H1 locs1) : WD A g H0 (putL wW js w1) wR H1 locs1 := by
  have hA1 := hw.cA hA hjs
  obtain ⟨hP, hD, hAw, hS⟩ := hw
  have hjl : ∀ j ∈ js, j < wW.length := fun j hj => by
    obtain ⟨i, hi⟩ := List.getElem?_of_mem hj
    obtain ⟨q, -, h2⟩ := map_at hjs hi
    exact (List.getElem?_eq_some_iff.mp h2).1
  have unch : ∀ (k : Nat) (q : Nat × va_E), (wW ++ wR)[k]? = some q → k ∉ js → q.1 < H.size ∧ ¬ va_A cW H.size q.1 := by
    intro k q hkq hkj
    have hl := (hP k q hkq).lt
    refine ⟨hl, fun h => ?_⟩
    rcases h with ⟨i, e, h⟩ | h
    · obtain ⟨k2, h1, h2⟩ := at_of_map hjs h
      have h2' : (wW ++ wR)[k2]? = some (q.1, e) := by rw [List.getElem?_append_left (List.getElem?_eq_some_iff.mp h2).1]; exact h2
      have hij := hD.1 k k2 q (q.1, e) hkq h2' rfl
      subst hij
      exact hkj (List.mem_of_getElem? h1)
    · omega
  have cls : ∀ (k : Nat) (q : Nat × va_E), (putL wW js w1 ++ wR)[k]? = some q → (∃ k0, k0 ∉ js ∧ (wW ++ wR)[k0]? = some q ∧ k = (if k0 < wW.length then k0 else k0 - wW.length + (putL wW js w1).length)) ∨ (∃ i, w1[i]? = some q ∧ k = (if i < js.length then (js[i]?).getD 0 else wW.length + (i - js.length))) := by
    intro k q hq
    by_cases hkl : k < (putL wW js w1).length
    · rw [List.getElem?_append_left hkl] at hq
      rcases putL_spec js w1 wW hnd hjl hlen k q hq with ⟨h1, h2, h3⟩ | ⟨i, h1, h2, h3⟩ | ⟨h1, h3⟩
      · exact Or.inl ⟨k, h2, by rw [List.getElem?_append_left h1]; exact h3, by rw [if_pos h1]⟩
      · exact Or.inr ⟨i, h3, by rw [if_pos h1, h2]; rfl⟩
      · exact Or.inr ⟨_, h3, by rw [if_neg (by omega)]; omega⟩
    · rw [List.getElem?_append_right (by omega)] at hq
      refine Or.inl ⟨wW.length + (k - (putL wW js w1).length), fun z => by have := hjl _ z; omega, ?_, by rw [if_neg (by omega)]; omega⟩
      rw [List.getElem?_append_right (by omega), Nat.add_sub_cancel_left]
      exact hq
  refine ⟨fun k q hq => ?_, ⟨fun i j x y hx hy hxy => ?_, fun _ _ _ => trivial⟩, fun k q hq => ?_, hS1⟩
  · rcases cls k q hq with ⟨k0, h1, h2, -⟩ | ⟨i, h1, -⟩
    · obtain ⟨g1, g2⟩ := unch k0 q h2 h1
      exact (hP k0 q h2).kept (hk q.1 g1 g2)
    · exact hP1 i q h1
  · rcases cls i x hx with ⟨a, a1, a2, a3⟩ | ⟨a, a1, a2⟩ <;> rcases cls j y hy with ⟨b, b1, b2, b3⟩ | ⟨b, b1, b2⟩
    · have hab := hD.1 a b x y a2 b2 hxy
      rw [a3, b3, hab]
    · exact absurd (by rw [hxy]; exact hD1.2 b y b1) (unch a x a2 a1).2
    · exact absurd (by rw [← hxy]; exact hD1.2 a x a1) (unch b y b2 b1).2
    · have hab := hD1.1 a b x y a1 b1 hxy
      rw [a2, b2, hab]
  · rcases putL_spec js w1 wW hnd hjl hlen k q hq with ⟨h1, h2, h3⟩ | ⟨i, h1, h2, h3⟩ | ⟨h1, h3⟩
    · exact hAw k q h3
    · exact hA1 _ (hD1.2 i q h3)
    · exact hA1 _ (hD1.2 _ q h3)
/-- nothing of the world was changed, the heap may have grown -/
theorem WD.grow {A : Nat → Prop} {g : Gx} {H0 H H1 : Heap} {wW wR : va_W} {locs locs1 : List Loc} (hw : WD A g H0 wW wR H locs) (hk : ∀ q : Nat, q < H.size → ¬ H.size ≤ q → H1[q]? = H[q]?) (hS1 : va_S A H0 H1 locs1) : WD A g H0 wW wR H1 locs1 :=
  ⟨fun k q hq => (hw.1 k q hq).kept (hk q.1 (hw.1 k q hq).lt (Nat.not_le.mpr (hw.1 k q hq).lt)), hw.2.1, hw.2.2.1, hS1⟩
/-- fewer cells, or in another order; a cell that was for writing may be for reading -/
theorem WD.perm {A : Nat → Prop} {g : Gx} {H0 H : Heap} {wW wR vW vR : va_W} {locs : List Loc} (hw : WD A g H0 wW wR H locs) (js jr : List Nat) (hs : (js ++ jr).map (fun i => (wW ++ wR)[i]?) = (vW ++ vR).map some) (hjs : js.map (fun i => wW[i]?) = vW.map some) (hn : va_nd (js ++ jr) = true) : WD A g H0 vW vR H locs := by
  obtain ⟨h1, h2⟩ := hw.sub (js ++ jr) hs hn
  refine ⟨h1, h2, fun k q hq => ?_, hw.2.2.2⟩
  obtain ⟨i, -, hi⟩ := at_of_map hjs hq
  exact hw.2.2.1 i q hi
/-- the cells that may be written are so from here on -/
theorem WD.arm {g : Gx} {H0 H : Heap} {wW wR : va_W} {locs : List Loc} (hw : WD (fun q => H0.size ≤ q) g H0 [] (wW ++ wR) H locs) : WD (va_A wW H0.size) g H0 wW wR H locs :=
  ⟨hw.1, hw.2.1, fun k q hq => va_A.in hq, ⟨hw.2.2.2.1, fun q h1 h2 => hw.2.2.2.2.1 q h1 (fun z => h2 (Or.inr z)), fun z hz => Or.inr (hw.2.2.2.2.2 z hz)⟩⟩

theorem WD.suf {A : Nat → Prop} {g : Gx} {H0 H : Heap} {Y cW : va_W} {locs : List Loc} (hw : WD A g H0 (Y ++ cW) [] H locs) : va_P g.1 vwCl (cW ++ []) H ∧ va_D (fun _ => True) (cW ++ []) := by
  obtain ⟨hP, hD, -, -⟩ := hw
  rw [List.append_nil] at hP hD ⊢
  have hg : ∀ (k : Nat) (q : Nat × va_E), cW[k]? = some q → (Y ++ cW)[Y.length + k]? = some q := fun k q hk => by
    rw [List.getElem?_append_right (Nat.le_add_right _ _), Nat.add_sub_cancel_left]; exact hk
  exact ⟨hP.by _ hg, hD.by _ hg (fun i j _ _ e => Nat.add_left_cancel e)⟩
theorem WD.sufA {A : Nat → Prop} {g : Gx} {H0 H : Heap} {Y cW : va_W} {locs : List Loc} (hw : WD A g H0 (Y ++ cW) [] H locs) (hA : ∀ q, H0.size ≤ q → A q) : ∀ q, va_A cW H.size q → A q := by
  rintro q (⟨i, e, h⟩ | h)
  · exact hw.2.2.1 (Y.length + i) (q, e) (by rw [List.getElem?_append_right (Nat.le_add_right _ _), Nat.add_sub_cancel_left]; exact h)
  · exact hA q (Nat.le_trans hw.2.2.2.1 h)
theorem WD.sufBack {A : Nat → Prop} {g : Gx} {H0 H H1 : Heap} {Y cW w1 : va_W} {locs locs1 : List Loc} (hw : WD A g H0 (Y ++ cW) [] H locs) (hA : ∀ q, H0.size ≤ q → A q) (hk : ∀ q : Nat, q < H.size → ¬ va_A cW H.size q → H1[q]? = H[q]?) (hP1 : va_P g.1 vwCl w1 H1) (hD1 : va_D (va_A cW H.size) w1) (hS1 : va_S A H0 H1 locs1) : WD A g H0 (Y ++ w1) [] H1 locs1 := by
  have hA1 := hw.sufA hA
  obtain ⟨hP, hD, hAw, hS⟩ := hw
  rw [List.append_nil] at hP hD
  have unch : ∀ (k : Nat) (q : Nat × va_E), Y[k]? = some q → q.1 < H.size ∧ ¬ va_A cW H.size q.1 := by
    intro k q hkq
    have hk1 := (List.getElem?_eq_some_iff.mp hkq).1
    have hkq' : (Y ++ cW)[k]? = some q := by rw [List.getElem?_append_left hk1]; exact hkq
    have hl := (hP k q hkq').lt
    refine ⟨hl, fun h => ?_⟩
    rcases h with ⟨i, e, h⟩ | h
    · have h2' : (Y ++ cW)[Y.length + i]? = some (q.1, e) := by rw [List.getElem?_append_right (Nat.le_add_right _ _), Nat.add_sub_cancel_left]; exact h
      have := hD.1 k (Y.length + i) q (q.1, e) hkq' h2' rfl
      omega
    · omega
  refine ⟨?_, ?_, fun k q hq => ?_, hS1⟩
  · rw [List.append_nil]
    refine va_P.app (fun k q hq => ?_) hP1
    have hk1 := (List.getElem?_eq_some_iff.mp hq).1
    obtain ⟨g1, g2⟩ := unch k q hq
    exact (hP k q (by rw [List.getElem?_append_left hk1]; exact hq)).kept (hk q.1 g1 g2)
  · rw [List.append_nil]
    refine va_D.app ⟨fun i j x y hi hj => hD.1 i j x y (by rw [List.getElem?_append_left (List.getElem?_eq_some_iff.mp hi).1]; exact hi) (by rw [List.getElem?_append_left (List.getElem?_eq_some_iff.mp hj).1]; exact hj), fun _ _ _ => trivial⟩ (hD1.weaken (fun _ _ _ _ => trivial)) (fun i j x y hx hy hxy => ?_)
    exact (unch i x hx).2 (by rw [hxy]; exact hD1.2 j y hy)
  · by_cases h1 : k < Y.length
    · rw [List.getElem?_append_left h1] at hq
      exact hAw k q (by rw [List.getElem?_append_left h1]; exact hq)
    · rw [List.getElem?_append_right (by omega)] at hq
      exact hA1 _ (hD1.2 _ q hq)
/-- a cell at the end goes to the front, or back -/
theorem WD.rot {A : Nat → Prop} {g : Gx} {H0 H : Heap} {wW : va_W} {x : Nat × va_E} {locs : List Loc} (hw : WD A g H0 (wW ++ [x]) [] H locs) : WD A g H0 (x :: wW) [] H locs := by
  obtain ⟨hP, hD, hAw, hS⟩ := hw
  rw [List.append_nil] at hP hD
  have hg : ∀ (k : Nat) (q : Nat × va_E), (x :: wW)[k]? = some q → (wW ++ [x])[if k = 0 then wW.length else k - 1]? = some q := by
    intro k q hk
    cases k with
    | zero =>
      rw [if_pos rfl, List.getElem?_append_right (Nat.le_refl _), Nat.sub_self]
      exact hk
    | succ k =>
      rw [if_neg (by omega), Nat.add_sub_cancel, List.getElem?_append_left (List.getElem?_eq_some_iff.mp (show wW[k]? = some q from hk)).1]
      exact hk
  refine ⟨by rw [List.append_nil]; exact hP.by _ hg, ?_, fun k q hk => hAw _ q (hg k q hk), hS⟩
  rw [List.append_nil]
  refine hD.by _ hg (fun i j hi hj e => ?_)
  have hi' : i < wW.length + 1 := hi
  have hj' : j < wW.length + 1 := hj
  by_cases h1 : i = 0 <;> by_cases h2 : j = 0
  · omega
  · rw [if_pos h1, if_neg h2] at e; omega
  · rw [if_neg h1, if_pos h2] at e; omega
  · rw [if_neg h1, if_neg h2] at e; omega
theorem WD.tail {A : Nat → Prop} {g : Gx} {H0 H : Heap} {wW : va_W} {x : Nat × va_E} {locs : List Loc} (hw : WD A g H0 (x :: wW) [] H locs) : WD A g H0 wW [] H locs := by
  obtain ⟨hP, hD, hAw, hS⟩ := hw
  rw [List.append_nil] at hP hD
  refine ⟨by rw [List.append_nil]; exact fun k q hq => hP (k + 1) q hq, ?_, fun k q hq => hAw (k + 1) q hq, hS⟩
  rw [List.append_nil]
  exact hD.by (fun k => k + 1) (fun k q hq => hq) (fun i j _ _ e => Nat.succ.inj e)
theorem WD.arm0 {g : Gx} {H0 H : Heap} {wW : va_W} {locs : List Loc} (hw : WD (fun q => H0.size ≤ q) g H0 [] wW H locs) : WD (va_A wW H0.size) g H0 wW [] H locs := by
  have h1 : WD (fun q => H0.size ≤ q) g H0 [] (wW ++ []) H locs := by rw [List.append_nil]; exact hw
  exact h1.arm
/-! the bins: the list's row and the bins themselves -/
def bE (b : Nat → Int32) : va_E := .inr (1, [.int (b 0), .int (b 1), .int (b 2), .int (b 3), .int (b 4), .int (b 5), .int (b 6), .int (b 7), .int (b 8), .int (b 9)])
def elf (n : Nat) (ad : Nat → Nat) : Nat → Option Nat := fun i => if i < n then some (ad i) else none
def bins (n : Nat) (ad : Nat → Nat) (B : Nat → Nat → Int32) : va_W := (List.range n).map (fun i => (ad i, bE (B i)))
def bp (g : Gx) : Nat → Nat → Nat → (Nat → Nat) → (Nat → Nat → Int32) → va_W
  | 0, _, _, _, _ => []
  | n + 1, ed, cap, ad, B => (ed, .inl (g.2.2.2.2, cap, .inr (.inr (.inr (.inr (elf (n + 1) ad)))))) :: bins (n + 1) ad B
def updB (B : Nat → Nat → Int32) (i : Nat) (b : Nat → Int32) : Nat → Nat → Int32 := fun j => if j = i then b else B j
theorem bp_el {g : Gx} {X : va_W} {n ed cap : Nat} {ad : Nat → Nat} {B : Nat → Nat → Int32} (hn : 0 < n) : (X ++ bp g n ed cap ad B)[X.length]? = some (ed, .inl (g.2.2.2.2, cap, .inr (.inr (.inr (.inr (elf n ad)))))) := by
  cases n with
  | zero => omega
  | succ n => rw [List.getElem?_append_right (Nat.le_refl _), Nat.sub_self]; rfl
theorem bp_at {g : Gx} {X : va_W} {n ed cap i : Nat} {ad : Nat → Nat} {B : Nat → Nat → Int32} (hi : i < n) : (X ++ bp g n ed cap ad B)[X.length + (i + 1)]? = some (ad i, bE (B i)) := by
  cases n with
  | zero => omega
  | succ n =>
    rw [List.getElem?_append_right (Nat.le_add_right _ _), Nat.add_sub_cancel_left]
    show (bins (n + 1) ad B)[i]? = _
    unfold bins
    rw [List.getElem?_map, List.getElem?_range hi]
    rfl
theorem bp_elW {g : Gx} {X : va_W} {n ed cap : Nat} {ad : Nat → Nat} {B : Nat → Nat → Int32} (hn : 0 < n) : ((X ++ bp g n ed cap ad B) ++ [])[X.length]? = some (ed, .inl (g.2.2.2.2, cap, .inr (.inr (.inr (.inr (elf n ad)))))) := by rw [List.append_nil]; exact bp_el hn
theorem bp_atW {g : Gx} {X : va_W} {n ed cap i : Nat} {ad : Nat → Nat} {B : Nat → Nat → Int32} (hi : i < n) : ((X ++ bp g n ed cap ad B) ++ [])[X.length + (i + 1)]? = some (ad i, bE (B i)) := by rw [List.append_nil]; exact bp_at hi
theorem bp_set {g : Gx} {X : va_W} {n ed cap i : Nat} {ad : Nat → Nat} {B : Nat → Nat → Int32} {b : Nat → Int32} (hi : i < n) : (X ++ bp g n ed cap ad B).set (X.length + (i + 1)) (ad i, bE b) = X ++ bp g n ed cap ad (updB B i b) := by
  cases n with
  | zero => omega
  | succ n =>
    rw [List.set_append_right _ _ (Nat.le_add_right _ _), Nat.add_sub_cancel_left]
    congr 1
    show _ :: (bins (n + 1) ad B).set i (ad i, bE b) = _ :: bins (n + 1) ad (updB B i b)
    congr 1
    apply List.ext_getElem?
    intro j
    by_cases hj : j = i
    · subst hj
      rw [List.getElem?_set_self (by unfold bins; simpa using hi)]
      unfold bins
      rw [List.getElem?_map, List.getElem?_range hi]
      simp [updB]
    · rw [List.getElem?_set_ne (Ne.symm hj)]
      unfold bins
      rw [List.getElem?_map, List.getElem?_map]
      cases hc : (List.range (n + 1))[j]? with
      | none => rfl
      | some x =>
        have hx : x = j := by
          obtain ⟨h1, h2⟩ := List.getElem?_eq_some_iff.mp hc
          simpa using h2.symm
        subst hx
        simp [updB, hj]
theorem bp_put {g : Gx} {X : va_W} {n ed cap i : Nat} {ad : Nat → Nat} {B : Nat → Nat → Int32} {b : Nat → Int32} (hi : i < n) : putL (X ++ bp g n ed cap ad B) [X.length + (i + 1)] [(ad i, bE b)] = X ++ bp g n ed cap ad (updB B i b) := by
  show (X ++ bp g n ed cap ad B).set (X.length + (i + 1)) (ad i, bE b) ++ [] = _
  rw [List.append_nil, bp_set hi]
theorem lc {α : Type} {a b : α} {as bs : List α} (h1 : a = b) (h2 : as = bs) : a :: as = b :: bs := by rw [h1, h2]
/-! contracts -/
def PZ (g : Gx) (av : List Value) (sz : Nat) (wW wR : va_W) : Array Value → State → Prop := va_Pc av (fun U => U.heap.size = sz ∧ va_P g.1 vwCl (wW ++ wR) U.heap ∧ KX g U ∧ va_D (fun _ => True) (wW ++ wR))
theorem pz_blind {g : Gx} {av : List Value} {sz : Nat} {wW wR : va_W} : FrameBlind (PZ g av sz wW wR) := fun a U gg mk q => ⟨q.1, q.2.1, q.2.2.1, ⟨va_K.moved (u := U) (U := U.calling gg mk a) (Vm.Alike.refl U.vm) q.2.2.2.1.1, q.2.2.2.1.2.same rfl⟩, q.2.2.2.2⟩
def BZ {S : Type} (g : Gx) (wW : va_W) (sz : Nat) (w1 : S → va_W) : S → State → Prop := fun u t => va_P g.1 vwCl (w1 u) t.heap ∧ va_D (va_A wW sz) (w1 u)
def BZr {S : Type} (g : Gx) (wW : va_W) (sz : Nat) (w1 : S → va_W) (ad : S → Nat) : S → Nat → State → Prop := fun u a t => a = ad u ∧ va_P g.1 vwCl (w1 u) t.heap ∧ va_D (va_A wW sz) (w1 u)
abbrev steU : Heap → State → (Nat → Prop) → Prop := fun H U A => vx_Zq Bundle.tN "UNASSIGNED_STACK" Bundle.steD A U H ∧ vx_Zq Bundle.tN "SUPPRESSED_SENTINEL" Bundle.listD A U H
/-- what a method that throws needs of the launch: where two of Throwable's statics lie, and the texts -/
def TH (sl : List (Nat × String)) (A : Nat → Prop) (U : State) (H : Heap) : Prop := steU H U A ∧ ∀ q ∈ sl, ∃ a, vk_R RX3 q.1 q.2 a U
theorem TH.to {sl : List (Nat × String)} {A B : Nat → Prop} {s U : State} {H0 H : Heap} {locs : List Loc} (h : TH sl A s H0) (hW : s.WarmedH U.vm) (hS : va_S A H0 H locs) (hBA : ∀ q, B q → A q) (sl' : List (Nat × String)) (hsl : ∀ q ∈ sl', q ∈ sl) : TH sl' B U H :=
  ⟨⟨vx_Zq.moved hW.alike ((h.1.1.kept hS.2.1).narrow hBA), vx_Zq.moved hW.alike ((h.1.2.kept hS.2.1).narrow hBA)⟩, fun q hq => by obtain ⟨a, ha⟩ := h.2 q (hsl q hq); exact ⟨a, ha.warm hW⟩⟩
def PX (sl : List (Nat × String)) (g : Gx) (av : List Value) (sz : Nat) (wW wR : va_W) : Array Value → State → Prop := va_Pc av (fun U => U.heap.size = sz ∧ va_P g.1 vwCl (wW ++ wR) U.heap ∧ KX g U ∧ va_D (fun _ => True) (wW ++ wR) ∧ TH sl (va_A wW sz) U U.heap)
theorem px_blind {sl : List (Nat × String)} {g : Gx} {av : List Value} {sz : Nat} {wW wR : va_W} : FrameBlind (PX sl g av sz wW wR) := fun a U gg mk q => ⟨q.1, q.2.1, q.2.2.1, ⟨va_K.moved (u := U) (U := U.calling gg mk a) (Vm.Alike.refl U.vm) q.2.2.2.1.1, q.2.2.2.1.2.same rfl⟩, q.2.2.2.2.1, ⟨vx_Zq.moved (u := U) (U := U.calling gg mk a) (Vm.Alike.refl U.vm) q.2.2.2.2.2.1.1, vx_Zq.moved (u := U) (U := U.calling gg mk a) (Vm.Alike.refl U.vm) q.2.2.2.2.2.1.2⟩, fun x hx => by obtain ⟨y, hy⟩ := q.2.2.2.2.2.2 x hx; exact ⟨y, hy.same (u := U) (U := U.calling gg mk a) rfl⟩⟩
/-- what is thrown, and that nothing old was changed -/
def XZ (pe : String → Prop) (sz : Nat) : String → State → State → Prop := vx_X (S := Unit) (fun _ => True) (fun E _ _ => pe E) (fun q => sz ≤ q)
section ZC
variable {p : Program} {l : Launch} {e : Env} {R : Room} {s : State} {m : MethodId} {args : Array Value} {below : List Frame} {meth : Method} {c : Code} {Q : State → Prop} {A : Nat → Prop} {g : Gx} {nL : Nat} {cc : ByteArray} {Ts : List Cond} {own : String} {pc : Nat} {lv : List (Nat × Value)} {st : List Value} {wW wR : va_W} {kc ks : Nat}
theorem z_perm {vW vR : va_W} (js jr : List Nat) (hs : (js ++ jr).map (fun i => (wW ++ wR)[i]?) = (vW ++ vR).map some) (hjs : js.map (fun i => wW[i]?) = vW.map some) (hn : va_nd (js ++ jr) = true) (k : Z p l e R s m args below meth c Q A g nL pc lv st vW vR kc ks) : Z p l e R s m args below meth c Q A g nL pc lv st wW wR kc ks := fun H locs ls hw hl => k H locs ls (hw.perm js jr hs hjs hn) hl
theorem z_arm (k : Z p l e R s m args below meth c Q (va_A wW s.heap.size) g nL pc lv st wW wR kc ks) : Z p l e R s m args below meth c Q (fun q => s.heap.size ≤ q) g nL pc lv st [] (wW ++ wR) kc ks := fun H locs ls hw hl => k H locs ls hw.arm hl
theorem z_arm0 (k : Z p l e R s m args below meth c Q (va_A wW s.heap.size) g nL pc lv st wW [] kc ks) : Z p l e R s m args below meth c Q (fun q => s.heap.size ≤ q) g nL pc lv st [] wW kc ks := fun H locs ls hw hl => k H locs ls hw.arm0 hl
theorem z_rot {x : Nat × va_E} (k : Z p l e R s m args below meth c Q A g nL pc lv st (x :: wW) [] kc ks) : Z p l e R s m args below meth c Q A g nL pc lv st (wW ++ [x]) [] kc ks := fun H locs ls hw hl => k H locs ls hw.rot hl
theorem z_tail {x : Nat × va_E} (k : Z p l e R s m args below meth c Q A g nL pc lv st wW [] kc ks) : Z p l e R s m args below meth c Q A g nL pc lv st (x :: wW) [] kc ks := fun H locs ls hw hl => k H locs ls hw.tail hl
theorem z_Vi (h : CX p s m args meth c A g nL cc Ts own) {y : MethodName} {C : String} {bytes : ByteArray} {maxL : Nat} {ret : Option FieldType} {ws : List Cond} {rm : Room} {mc ms n index : Nat} {cW cR : va_W} {b : Nat} {As : List Value} {S : Type} {w1 wN : S → va_W} {post : Int32 → S → Prop} (hM : ∀ sz, Met l y ws rm (PZ g (.ref b :: As) sz cW cR) (va_Qi post (BZ g cW sz w1) (va_A cW sz)) mc ms (va_A cW sz)) (cw : CallW R s args own C index y bytes maxL ret ws rm mc ms n) (hn : As.length = n) (js jr : List Nat) (hs : (js ++ jr).map (fun i => (wW ++ wR)[i]?) = (cW ++ cR).map some) (hjs : js.map (fun i => wW[i]?) = cW.map some) (hnd : va_nd (js ++ jr) = true) (hndj : va_nd js = true) (q0 : Nat) {ci : Nat} {fs : List Value} {qC : vw_C} (he : (wW ++ wR)[q0]? = some (b, .inr (ci, fs))) (hc : vwCl[ci]? = some qC) (hqC : qC.1 = C) {st0 : List Value} (hst : st0 = As.reverse ++ .ref b :: st) (hcat : (st.map fun v => v.category).sum ≤ 8) (hroom : kc + mc ≤ R.cells ∧ ks + ms ≤ R.slots) (hlen : ∀ u, js.length ≤ (w1 u).length) (hN : ∀ u, putL wW js (w1 u) = wN u) (hdg : decode cc pc = .ok (.invokevirtual index, 3))
    (kk : ∀ (r : Int32) (u : S), post r u → Z p l e R s m args below meth c Q A g nL (pc + 3) lv (.int r :: st) (wN u) wR (kc + mc) (ks + ms)) : Z p l e R s m args below meth c Q A g nL pc lv st0 wW wR kc ks := by
  intro H locs ls hw hl
  subst hst
  have hsub := hw.sub (js ++ jr) hs hnd
  have hA1 := hw.cA h.2.2.2.2.2.2.1 hjs
  refine va_calli (A1 := va_A cW H.size) (va_runV (As := As) (rest := st) ⟨h.1, h.2.1, h.2.2.1, h.2.2.2.1, h.ts⟩ (hM H.size) cw ⟨pz_blind, by rw [← hqC]; exact va_recv h.K hw.1 hc he, fun U hU hW => ⟨rfl, by rw [hU], by rw [hU]; exact hsub.1, h.KN.warm hW, hsub.2⟩⟩ rfl hn hl.1 rfl (lv_room hcat) hdg hroom) hw.2.2.2 (fun q _ hq => hA1 q hq) hA1 (fun r u t H1 locs1 ht hvm hp hB hz hk hS => ?_)
  obtain ⟨hP1, hD1⟩ := hB
  rw [ht] at hP1
  have hB : _ ∧ _ := ⟨hP1, hD1⟩
  exact kk r u hp H1 locs1 ls (hN u ▸ hw.back h.2.2.2.2.2.2.1 hjs hndj (hlen u) hk hB.1 hB.2 hS) hl
theorem z_Vl (h : CX p s m args meth c A g nL cc Ts own) {y : MethodName} {C : String} {bytes : ByteArray} {maxL : Nat} {ret : Option FieldType} {ws : List Cond} {rm : Room} {mc ms n index : Nat} {cW cR : va_W} {b : Nat} {As : List Value} {S : Type} {w1 wN : S → va_W} {post : Int64 → S → Prop} (hM : ∀ sz, Met l y ws rm (PZ g (.ref b :: As) sz cW cR) (va_Ql post (BZ g cW sz w1) (va_A cW sz)) mc ms (va_A cW sz)) (cw : CallW R s args own C index y bytes maxL ret ws rm mc ms n) (hn : As.length = n) (js jr : List Nat) (hs : (js ++ jr).map (fun i => (wW ++ wR)[i]?) = (cW ++ cR).map some) (hjs : js.map (fun i => wW[i]?) = cW.map some) (hnd : va_nd (js ++ jr) = true) (hndj : va_nd js = true) (q0 : Nat) {ci : Nat} {fs : List Value} {qC : vw_C} (he : (wW ++ wR)[q0]? = some (b, .inr (ci, fs))) (hc : vwCl[ci]? = some qC) (hqC : qC.1 = C) {st0 : List Value} (hst : st0 = As.reverse ++ .ref b :: st) (hcat : (st.map fun v => v.category).sum ≤ 8) (hroom : kc + mc ≤ R.cells ∧ ks + ms ≤ R.slots) (hlen : ∀ u, js.length ≤ (w1 u).length) (hN : ∀ u, putL wW js (w1 u) = wN u) (hdg : decode cc pc = .ok (.invokevirtual index, 3))
    (kk : ∀ (r : Int64) (u : S), post r u → Z p l e R s m args below meth c Q A g nL (pc + 3) lv (.long r :: st) (wN u) wR (kc + mc) (ks + ms)) : Z p l e R s m args below meth c Q A g nL pc lv st0 wW wR kc ks := by
  intro H locs ls hw hl
  subst hst
  have hsub := hw.sub (js ++ jr) hs hnd
  have hA1 := hw.cA h.2.2.2.2.2.2.1 hjs
  refine va_calll (A1 := va_A cW H.size) (va_runV (As := As) (rest := st) ⟨h.1, h.2.1, h.2.2.1, h.2.2.2.1, h.ts⟩ (hM H.size) cw ⟨pz_blind, by rw [← hqC]; exact va_recv h.K hw.1 hc he, fun U hU hW => ⟨rfl, by rw [hU], by rw [hU]; exact hsub.1, h.KN.warm hW, hsub.2⟩⟩ rfl hn hl.1 rfl (lv_room hcat) hdg hroom) hw.2.2.2 (fun q _ hq => hA1 q hq) hA1 (fun r u t H1 locs1 ht hvm hp hB hz hk hS => ?_)
  obtain ⟨hP1, hD1⟩ := hB
  rw [ht] at hP1
  have hB : _ ∧ _ := ⟨hP1, hD1⟩
  exact kk r u hp H1 locs1 ls (hN u ▸ hw.back h.2.2.2.2.2.2.1 hjs hndj (hlen u) hk hB.1 hB.2 hS) hl
theorem z_Vv (h : CX p s m args meth c A g nL cc Ts own) {y : MethodName} {C : String} {bytes : ByteArray} {maxL : Nat} {ret : Option FieldType} {ws : List Cond} {rm : Room} {mc ms n index : Nat} {cW cR : va_W} {b : Nat} {As : List Value} {S : Type} {w1 wN : S → va_W} {post : S → Prop} (hM : ∀ sz, Met l y ws rm (PZ g (.ref b :: As) sz cW cR) (va_Qv post (BZ g cW sz w1) (va_A cW sz)) mc ms (va_A cW sz)) (cw : CallW R s args own C index y bytes maxL ret ws rm mc ms n) (hn : As.length = n) (js jr : List Nat) (hs : (js ++ jr).map (fun i => (wW ++ wR)[i]?) = (cW ++ cR).map some) (hjs : js.map (fun i => wW[i]?) = cW.map some) (hnd : va_nd (js ++ jr) = true) (hndj : va_nd js = true) (q0 : Nat) {ci : Nat} {fs : List Value} {qC : vw_C} (he : (wW ++ wR)[q0]? = some (b, .inr (ci, fs))) (hc : vwCl[ci]? = some qC) (hqC : qC.1 = C) {st0 : List Value} (hst : st0 = As.reverse ++ .ref b :: st) (hcat : (st.map fun v => v.category).sum ≤ 8) (hroom : kc + mc ≤ R.cells ∧ ks + ms ≤ R.slots) (hlen : ∀ u, js.length ≤ (w1 u).length) (hN : ∀ u, putL wW js (w1 u) = wN u) (hdg : decode cc pc = .ok (.invokevirtual index, 3))
    (kk : ∀ (u : S), post u → Z p l e R s m args below meth c Q A g nL (pc + 3) lv st (wN u) wR (kc + mc) (ks + ms)) : Z p l e R s m args below meth c Q A g nL pc lv st0 wW wR kc ks := by
  intro H locs ls hw hl
  subst hst
  have hsub := hw.sub (js ++ jr) hs hnd
  have hA1 := hw.cA h.2.2.2.2.2.2.1 hjs
  refine va_callv (A1 := va_A cW H.size) (va_runV (As := As) (rest := st) ⟨h.1, h.2.1, h.2.2.1, h.2.2.2.1, h.ts⟩ (hM H.size) cw ⟨pz_blind, by rw [← hqC]; exact va_recv h.K hw.1 hc he, fun U hU hW => ⟨rfl, by rw [hU], by rw [hU]; exact hsub.1, h.KN.warm hW, hsub.2⟩⟩ rfl hn hl.1 rfl (lv_room hcat) hdg hroom) hw.2.2.2 (fun q _ hq => hA1 q hq) hA1 (fun u t H1 locs1 ht hvm hp hB hz hk hS => ?_)
  obtain ⟨hP1, hD1⟩ := hB
  rw [ht] at hP1
  have hB : _ ∧ _ := ⟨hP1, hD1⟩
  exact kk u hp H1 locs1 ls (hN u ▸ hw.back h.2.2.2.2.2.2.1 hjs hndj (hlen u) hk hB.1 hB.2 hS) hl
theorem z_Vr (h : CX p s m args meth c A g nL cc Ts own) {y : MethodName} {C : String} {bytes : ByteArray} {maxL : Nat} {ret : Option FieldType} {ws : List Cond} {rm : Room} {mc ms n index : Nat} {cW cR : va_W} {b : Nat} {As : List Value} {S : Type} {w1 wN : S → va_W} {post : S → Prop} {ad : S → Nat} (hM : ∀ sz, Met l y ws rm (PZ g (.ref b :: As) sz cW cR) (va_Qr post (BZr g cW sz w1 ad) (va_A cW sz)) mc ms (va_A cW sz)) (cw : CallW R s args own C index y bytes maxL ret ws rm mc ms n) (hn : As.length = n) (js jr : List Nat) (hs : (js ++ jr).map (fun i => (wW ++ wR)[i]?) = (cW ++ cR).map some) (hjs : js.map (fun i => wW[i]?) = cW.map some) (hnd : va_nd (js ++ jr) = true) (hndj : va_nd js = true) (q0 : Nat) {ci : Nat} {fs : List Value} {qC : vw_C} (he : (wW ++ wR)[q0]? = some (b, .inr (ci, fs))) (hc : vwCl[ci]? = some qC) (hqC : qC.1 = C) {st0 : List Value} (hst : st0 = As.reverse ++ .ref b :: st) (hcat : (st.map fun v => v.category).sum ≤ 8) (hroom : kc + mc ≤ R.cells ∧ ks + ms ≤ R.slots) (hlen : ∀ u, js.length ≤ (w1 u).length) (hN : ∀ u, putL wW js (w1 u) = wN u) (hdg : decode cc pc = .ok (.invokevirtual index, 3))
    (kk : ∀ (u : S), post u → Z p l e R s m args below meth c Q A g nL (pc + 3) lv (.ref (ad u) :: st) (wN u) wR (kc + mc) (ks + ms)) : Z p l e R s m args below meth c Q A g nL pc lv st0 wW wR kc ks := by
  intro H locs ls hw hl
  subst hst
  have hsub := hw.sub (js ++ jr) hs hnd
  have hA1 := hw.cA h.2.2.2.2.2.2.1 hjs
  refine va_callr (A1 := va_A cW H.size) (va_runV (As := As) (rest := st) ⟨h.1, h.2.1, h.2.2.1, h.2.2.2.1, h.ts⟩ (hM H.size) cw ⟨pz_blind, by rw [← hqC]; exact va_recv h.K hw.1 hc he, fun U hU hW => ⟨rfl, by rw [hU], by rw [hU]; exact hsub.1, h.KN.warm hW, hsub.2⟩⟩ rfl hn hl.1 rfl (lv_room hcat) hdg hroom) hw.2.2.2 (fun q _ hq => hA1 q hq) hA1 (fun u a t H1 locs1 ht hvm hp hB hz hk hS => ?_)
  obtain ⟨ha, hP1, hD1⟩ := hB
  rw [ht] at hP1
  have hB : _ ∧ _ := ⟨hP1, hD1⟩
  subst ha
  exact kk u hp H1 locs1 ls (hN u ▸ hw.back h.2.2.2.2.2.2.1 hjs hndj (hlen u) hk hB.1 hB.2 hS) hl
theorem z_Si (h : CX p s m args meth c A g nL cc Ts own) {y : MethodName} {C : String} {bytes : ByteArray} {maxL : Nat} {ret : Option FieldType} {ws : List Cond} {rm : Room} {mc ms n index : Nat} {cW cR : va_W} {b : Nat} {As : List Value} {S : Type} {w1 wN : S → va_W} {post : Int32 → S → Prop} (hM : ∀ sz, Met l y ws rm (PZ g As sz cW cR) (va_Qi post (BZ g cW sz w1) (va_A cW sz)) mc ms (va_A cW sz)) (cw : (CallB R s args own index y bytes maxL ret ws rm mc ms n ∧ (Cond.static y).before args s = true)) (hn : As.length = n) (js jr : List Nat) (hs : (js ++ jr).map (fun i => (wW ++ wR)[i]?) = (cW ++ cR).map some) (hjs : js.map (fun i => wW[i]?) = cW.map some) (hnd : va_nd (js ++ jr) = true) (hndj : va_nd js = true)  {st0 : List Value} (hst : st0 = As.reverse ++ st) (hcat : (st.map fun v => v.category).sum ≤ 8) (hroom : kc + mc ≤ R.cells ∧ ks + ms ≤ R.slots) (hlen : ∀ u, js.length ≤ (w1 u).length) (hN : ∀ u, putL wW js (w1 u) = wN u) (hdg : decode cc pc = .ok (.invokestatic index, 3))
    (kk : ∀ (r : Int32) (u : S), post r u → Z p l e R s m args below meth c Q A g nL (pc + 3) lv (.int r :: st) (wN u) wR (kc + mc) (ks + ms)) : Z p l e R s m args below meth c Q A g nL pc lv st0 wW wR kc ks := by
  intro H locs ls hw hl
  subst hst
  have hsub := hw.sub (js ++ jr) hs hnd
  have hA1 := hw.cA h.2.2.2.2.2.2.1 hjs
  refine va_calli (A1 := va_A cW H.size) (va_runS (As := As) (rest := st) ⟨h.1, h.2.1, h.2.2.1, h.2.2.2.1, h.ts⟩ (hM H.size) cw ⟨pz_blind, fun U hU hW => ⟨rfl, by rw [hU], by rw [hU]; exact hsub.1, h.KN.warm hW, hsub.2⟩⟩ rfl hn hl.1 rfl (lv_room hcat) hdg hroom) hw.2.2.2 (fun q _ hq => hA1 q hq) hA1 (fun r u t H1 locs1 ht hvm hp hB hz hk hS => ?_)
  obtain ⟨hP1, hD1⟩ := hB
  rw [ht] at hP1
  have hB : _ ∧ _ := ⟨hP1, hD1⟩
  exact kk r u hp H1 locs1 ls (hN u ▸ hw.back h.2.2.2.2.2.2.1 hjs hndj (hlen u) hk hB.1 hB.2 hS) hl
theorem z_Sl (h : CX p s m args meth c A g nL cc Ts own) {y : MethodName} {C : String} {bytes : ByteArray} {maxL : Nat} {ret : Option FieldType} {ws : List Cond} {rm : Room} {mc ms n index : Nat} {cW cR : va_W} {b : Nat} {As : List Value} {S : Type} {w1 wN : S → va_W} {post : Int64 → S → Prop} (hM : ∀ sz, Met l y ws rm (PZ g As sz cW cR) (va_Ql post (BZ g cW sz w1) (va_A cW sz)) mc ms (va_A cW sz)) (cw : (CallB R s args own index y bytes maxL ret ws rm mc ms n ∧ (Cond.static y).before args s = true)) (hn : As.length = n) (js jr : List Nat) (hs : (js ++ jr).map (fun i => (wW ++ wR)[i]?) = (cW ++ cR).map some) (hjs : js.map (fun i => wW[i]?) = cW.map some) (hnd : va_nd (js ++ jr) = true) (hndj : va_nd js = true)  {st0 : List Value} (hst : st0 = As.reverse ++ st) (hcat : (st.map fun v => v.category).sum ≤ 8) (hroom : kc + mc ≤ R.cells ∧ ks + ms ≤ R.slots) (hlen : ∀ u, js.length ≤ (w1 u).length) (hN : ∀ u, putL wW js (w1 u) = wN u) (hdg : decode cc pc = .ok (.invokestatic index, 3))
    (kk : ∀ (r : Int64) (u : S), post r u → Z p l e R s m args below meth c Q A g nL (pc + 3) lv (.long r :: st) (wN u) wR (kc + mc) (ks + ms)) : Z p l e R s m args below meth c Q A g nL pc lv st0 wW wR kc ks := by
  intro H locs ls hw hl
  subst hst
  have hsub := hw.sub (js ++ jr) hs hnd
  have hA1 := hw.cA h.2.2.2.2.2.2.1 hjs
  refine va_calll (A1 := va_A cW H.size) (va_runS (As := As) (rest := st) ⟨h.1, h.2.1, h.2.2.1, h.2.2.2.1, h.ts⟩ (hM H.size) cw ⟨pz_blind, fun U hU hW => ⟨rfl, by rw [hU], by rw [hU]; exact hsub.1, h.KN.warm hW, hsub.2⟩⟩ rfl hn hl.1 rfl (lv_room hcat) hdg hroom) hw.2.2.2 (fun q _ hq => hA1 q hq) hA1 (fun r u t H1 locs1 ht hvm hp hB hz hk hS => ?_)
  obtain ⟨hP1, hD1⟩ := hB
  rw [ht] at hP1
  have hB : _ ∧ _ := ⟨hP1, hD1⟩
  exact kk r u hp H1 locs1 ls (hN u ▸ hw.back h.2.2.2.2.2.2.1 hjs hndj (hlen u) hk hB.1 hB.2 hS) hl
theorem z_Iv (h : CX p s m args meth c A g nL cc Ts own) {y : MethodName} {C : String} {bytes : ByteArray} {maxL : Nat} {ret : Option FieldType} {ws : List Cond} {rm : Room} {mc ms n index : Nat} {cW cR : va_W} {b : Nat} {As : List Value} {S : Type} {w1 wN : S → va_W} {post : S → Prop} (hM : ∀ sz, Met l y ws rm (PZ g (.ref b :: As) sz cW cR) (va_Qv post (BZ g cW sz w1) (va_A cW sz)) mc ms (va_A cW sz)) (cw : (CallB R s args own index y bytes maxL none ws rm mc ms n ∧ y.name = "<init>" ∧ (Cond.instanceMethod y).before args s = true)) (hn : As.length = n) (js jr : List Nat) (hs : (js ++ jr).map (fun i => (wW ++ wR)[i]?) = (cW ++ cR).map some) (hjs : js.map (fun i => wW[i]?) = cW.map some) (hnd : va_nd (js ++ jr) = true) (hndj : va_nd js = true)  {st0 : List Value} (hst : st0 = As.reverse ++ .ref b :: st) (hcat : (st.map fun v => v.category).sum ≤ 8) (hroom : kc + mc ≤ R.cells ∧ ks + ms ≤ R.slots) (hlen : ∀ u, js.length ≤ (w1 u).length) (hN : ∀ u, putL wW js (w1 u) = wN u) (hdg : decode cc pc = .ok (.invokespecial index, 3))
    (kk : ∀ (u : S), post u → Z p l e R s m args below meth c Q A g nL (pc + 3) lv st (wN u) wR (kc + mc) (ks + ms)) : Z p l e R s m args below meth c Q A g nL pc lv st0 wW wR kc ks := by
  intro H locs ls hw hl
  subst hst
  have hsub := hw.sub (js ++ jr) hs hnd
  have hA1 := hw.cA h.2.2.2.2.2.2.1 hjs
  refine va_callv (A1 := va_A cW H.size) (va_runI (As := As) (rest := st) ⟨h.1, h.2.1, h.2.2.1, h.2.2.2.1, h.ts⟩ (hM H.size) cw ⟨pz_blind, fun U hU hW => ⟨rfl, by rw [hU], by rw [hU]; exact hsub.1, h.KN.warm hW, hsub.2⟩⟩ rfl hn hl.1 rfl (lv_room hcat) hdg hroom) hw.2.2.2 (fun q _ hq => hA1 q hq) hA1 (fun u t H1 locs1 ht hvm hp hB hz hk hS => ?_)
  obtain ⟨hP1, hD1⟩ := hB
  rw [ht] at hP1
  have hB : _ ∧ _ := ⟨hP1, hD1⟩
  exact kk u hp H1 locs1 ls (hN u ▸ hw.back h.2.2.2.2.2.2.1 hjs hndj (hlen u) hk hB.1 hB.2 hS) hl
/-- q, an object of class E, is thrown in this frame -/
def ZX (p : Program) (l : Launch) (e : Env) (R : Room) (s : State) (m : MethodId) (args : Array Value) (below : List Frame) (meth : Method) (c : Code) (Q : State → Prop) (A : Nat → Prop) (g : Gx) (nL : Nat) (E : String) (pc : Nat) (lv : List (Nat × Value)) (st : List Value) (wW wR : va_W) (kc ks : Nat) : Prop :=
  ∀ (H : Heap) (locs : List Loc) (ls : Array Slot) (q : Addr) (ce : Cell), WD A g s.heap wW wR H locs → lv_has ls nL lv → H[q]? = some ce → ce.vm = .none → s.vm.findClass E = some ce.cls → vx_W p l e R s m args below meth c H locs kc ks Q (F0 m pc ls st) q
theorem x_Vi (h : CX p s m args meth c A g nL cc Ts own) {y : MethodName} {C : String} {bytes : ByteArray} {maxL : Nat} {ret : Option FieldType} {ws : List Cond} {rm : Room} {mc ms n index : Nat} {cW cR : va_W} {b : Nat} {As : List Value} {S : Type} {w1 wN : S → va_W} {post : Int32 → S → Prop} {pe : String → Prop} {sl sl0 : List (Nat × String)} (hT : TH sl0 A s s.heap) (hsl : ∀ q ∈ sl, q ∈ sl0) (hM : ∀ sz, vx_Met l y ws rm (PX sl g (.ref b :: As) sz cW cR) (va_Qi post (BZ g cW sz w1) (va_A cW sz)) (XZ pe sz) mc ms (va_A cW sz)) (cw : CallW R s args own C index y bytes maxL ret ws rm mc ms n) (hn : As.length = n) (js jr : List Nat) (hs : (js ++ jr).map (fun i => (wW ++ wR)[i]?) = (cW ++ cR).map some) (hjs : js.map (fun i => wW[i]?) = cW.map some) (hnd : va_nd (js ++ jr) = true) (hndj : va_nd js = true) (q0 : Nat) {ci : Nat} {fs : List Value} {qC : vw_C} (he : (wW ++ wR)[q0]? = some (b, .inr (ci, fs))) (hc : vwCl[ci]? = some qC) (hqC : qC.1 = C) {st0 : List Value} (hst : st0 = As.reverse ++ .ref b :: st) (hcat : (st.map fun v => v.category).sum ≤ 8) (hroom : kc + mc ≤ R.cells ∧ ks + ms ≤ R.slots) (hlen : ∀ u, js.length ≤ (w1 u).length) (hN : ∀ u, putL wW js (w1 u) = wN u) (hdg : decode cc pc = .ok (.invokevirtual index, 3))
    (kx : ∀ E, pe E → ZX p l e R s m args below meth c Q A g nL E pc lv st wW wR (kc + mc) (ks + ms)) (kk : ∀ (r : Int32) (u : S), post r u → Z p l e R s m args below meth c Q A g nL (pc + 3) lv (.int r :: st) (wN u) wR (kc + mc) (ks + ms)) : Z p l e R s m args below meth c Q A g nL pc lv st0 wW wR kc ks := by
  intro H locs ls hw hl
  subst hst
  have hsub := hw.sub (js ++ jr) hs hnd
  have hA1 := hw.cA h.2.2.2.2.2.2.1 hjs
  refine vx_calli (A1 := va_A cW H.size) (vx_runV (As := As) (rest := st) ⟨h.1, h.2.1, h.2.2.1, h.2.2.2.1, h.ts⟩ (hM H.size) cw ⟨px_blind, by rw [← hqC]; exact va_recv h.K hw.1 hc he, fun U hU hW => ⟨rfl, by rw [hU], by rw [hU]; exact hsub.1, h.KN.warm hW, hsub.2, by rw [hU]; exact hT.to hW hw.2.2.2 hA1 sl hsl⟩⟩ rfl hn hl.1 rfl (lv_room hcat) hdg hroom) hw.2.2.2 (fun q _ hq => hA1 q hq) hA1 (fun q hq hz => absurd hz (Nat.not_le.mpr hq)) (fun E ce q9 u t H1 locs1 ht hvm hp hB hz hk hS hce hcv hcl => ?_) (fun r u t H1 locs1 ht hvm hp hB hz hk hS => ?_)
  · exact kx E hB H1 locs1 ls q9 ce (hw.grow hk hS) hl hce hcv hcl
  · obtain ⟨hP1, hD1⟩ := hB
    rw [ht] at hP1
    exact kk r u hp H1 locs1 ls (hN u ▸ hw.back h.2.2.2.2.2.2.1 hjs hndj (hlen u) hk hP1 hD1 hS) hl
theorem x_Vl (h : CX p s m args meth c A g nL cc Ts own) {y : MethodName} {C : String} {bytes : ByteArray} {maxL : Nat} {ret : Option FieldType} {ws : List Cond} {rm : Room} {mc ms n index : Nat} {cW cR : va_W} {b : Nat} {As : List Value} {S : Type} {w1 wN : S → va_W} {post : Int64 → S → Prop} {pe : String → Prop} {sl sl0 : List (Nat × String)} (hT : TH sl0 A s s.heap) (hsl : ∀ q ∈ sl, q ∈ sl0) (hM : ∀ sz, vx_Met l y ws rm (PX sl g (.ref b :: As) sz cW cR) (va_Ql post (BZ g cW sz w1) (va_A cW sz)) (XZ pe sz) mc ms (va_A cW sz)) (cw : CallW R s args own C index y bytes maxL ret ws rm mc ms n) (hn : As.length = n) (js jr : List Nat) (hs : (js ++ jr).map (fun i => (wW ++ wR)[i]?) = (cW ++ cR).map some) (hjs : js.map (fun i => wW[i]?) = cW.map some) (hnd : va_nd (js ++ jr) = true) (hndj : va_nd js = true) (q0 : Nat) {ci : Nat} {fs : List Value} {qC : vw_C} (he : (wW ++ wR)[q0]? = some (b, .inr (ci, fs))) (hc : vwCl[ci]? = some qC) (hqC : qC.1 = C) {st0 : List Value} (hst : st0 = As.reverse ++ .ref b :: st) (hcat : (st.map fun v => v.category).sum ≤ 8) (hroom : kc + mc ≤ R.cells ∧ ks + ms ≤ R.slots) (hlen : ∀ u, js.length ≤ (w1 u).length) (hN : ∀ u, putL wW js (w1 u) = wN u) (hdg : decode cc pc = .ok (.invokevirtual index, 3))
    (kx : ∀ E, pe E → ZX p l e R s m args below meth c Q A g nL E pc lv st wW wR (kc + mc) (ks + ms)) (kk : ∀ (r : Int64) (u : S), post r u → Z p l e R s m args below meth c Q A g nL (pc + 3) lv (.long r :: st) (wN u) wR (kc + mc) (ks + ms)) : Z p l e R s m args below meth c Q A g nL pc lv st0 wW wR kc ks := by
  intro H locs ls hw hl
  subst hst
  have hsub := hw.sub (js ++ jr) hs hnd
  have hA1 := hw.cA h.2.2.2.2.2.2.1 hjs
  refine vx_calll (A1 := va_A cW H.size) (vx_runV (As := As) (rest := st) ⟨h.1, h.2.1, h.2.2.1, h.2.2.2.1, h.ts⟩ (hM H.size) cw ⟨px_blind, by rw [← hqC]; exact va_recv h.K hw.1 hc he, fun U hU hW => ⟨rfl, by rw [hU], by rw [hU]; exact hsub.1, h.KN.warm hW, hsub.2, by rw [hU]; exact hT.to hW hw.2.2.2 hA1 sl hsl⟩⟩ rfl hn hl.1 rfl (lv_room hcat) hdg hroom) hw.2.2.2 (fun q _ hq => hA1 q hq) hA1 (fun q hq hz => absurd hz (Nat.not_le.mpr hq)) (fun E ce q9 u t H1 locs1 ht hvm hp hB hz hk hS hce hcv hcl => ?_) (fun r u t H1 locs1 ht hvm hp hB hz hk hS => ?_)
  · exact kx E hB H1 locs1 ls q9 ce (hw.grow hk hS) hl hce hcv hcl
  · obtain ⟨hP1, hD1⟩ := hB
    rw [ht] at hP1
    exact kk r u hp H1 locs1 ls (hN u ▸ hw.back h.2.2.2.2.2.2.1 hjs hndj (hlen u) hk hP1 hD1 hS) hl
theorem x_Vv (h : CX p s m args meth c A g nL cc Ts own) {y : MethodName} {C : String} {bytes : ByteArray} {maxL : Nat} {ret : Option FieldType} {ws : List Cond} {rm : Room} {mc ms n index : Nat} {cW cR : va_W} {b : Nat} {As : List Value} {S : Type} {w1 wN : S → va_W} {post : S → Prop} {pe : String → Prop} {sl sl0 : List (Nat × String)} (hT : TH sl0 A s s.heap) (hsl : ∀ q ∈ sl, q ∈ sl0) (hM : ∀ sz, vx_Met l y ws rm (PX sl g (.ref b :: As) sz cW cR) (va_Qv post (BZ g cW sz w1) (va_A cW sz)) (XZ pe sz) mc ms (va_A cW sz)) (cw : CallW R s args own C index y bytes maxL ret ws rm mc ms n) (hn : As.length = n) (js jr : List Nat) (hs : (js ++ jr).map (fun i => (wW ++ wR)[i]?) = (cW ++ cR).map some) (hjs : js.map (fun i => wW[i]?) = cW.map some) (hnd : va_nd (js ++ jr) = true) (hndj : va_nd js = true) (q0 : Nat) {ci : Nat} {fs : List Value} {qC : vw_C} (he : (wW ++ wR)[q0]? = some (b, .inr (ci, fs))) (hc : vwCl[ci]? = some qC) (hqC : qC.1 = C) {st0 : List Value} (hst : st0 = As.reverse ++ .ref b :: st) (hcat : (st.map fun v => v.category).sum ≤ 8) (hroom : kc + mc ≤ R.cells ∧ ks + ms ≤ R.slots) (hlen : ∀ u, js.length ≤ (w1 u).length) (hN : ∀ u, putL wW js (w1 u) = wN u) (hdg : decode cc pc = .ok (.invokevirtual index, 3))
    (kx : ∀ E, pe E → ZX p l e R s m args below meth c Q A g nL E pc lv st wW wR (kc + mc) (ks + ms)) (kk : ∀ (u : S), post u → Z p l e R s m args below meth c Q A g nL (pc + 3) lv st (wN u) wR (kc + mc) (ks + ms)) : Z p l e R s m args below meth c Q A g nL pc lv st0 wW wR kc ks := by
  intro H locs ls hw hl
  subst hst
  have hsub := hw.sub (js ++ jr) hs hnd
  have hA1 := hw.cA h.2.2.2.2.2.2.1 hjs
  refine vx_callv (A1 := va_A cW H.size) (vx_runV (As := As) (rest := st) ⟨h.1, h.2.1, h.2.2.1, h.2.2.2.1, h.ts⟩ (hM H.size) cw ⟨px_blind, by rw [← hqC]; exact va_recv h.K hw.1 hc he, fun U hU hW => ⟨rfl, by rw [hU], by rw [hU]; exact hsub.1, h.KN.warm hW, hsub.2, by rw [hU]; exact hT.to hW hw.2.2.2 hA1 sl hsl⟩⟩ rfl hn hl.1 rfl (lv_room hcat) hdg hroom) hw.2.2.2 (fun q _ hq => hA1 q hq) hA1 (fun q hq hz => absurd hz (Nat.not_le.mpr hq)) (fun E ce q9 u t H1 locs1 ht hvm hp hB hz hk hS hce hcv hcl => ?_) (fun u t H1 locs1 ht hvm hp hB hz hk hS => ?_)
  · exact kx E hB H1 locs1 ls q9 ce (hw.grow hk hS) hl hce hcv hcl
  · obtain ⟨hP1, hD1⟩ := hB
    rw [ht] at hP1
    exact kk u hp H1 locs1 ls (hN u ▸ hw.back h.2.2.2.2.2.2.1 hjs hndj (hlen u) hk hP1 hD1 hS) hl
theorem z_Yi (h : CX p s m args meth c A g nL cc Ts own) {y : MethodName} {C : String} {bytes : ByteArray} {maxL : Nat} {ret : Option FieldType} {ws : List Cond} {rm : Room} {mc ms n index : Nat} {Y cW : va_W} {b : Nat} {As : List Value} {S : Type} {w1 wN : S → va_W} {post : Int32 → S → Prop}  (hM : ∀ sz, Met l y ws rm (PZ g (.ref b :: As) sz cW []) (va_Qi post (BZ g cW sz w1) (va_A cW sz)) mc ms (va_A cW sz)) (cw : CallW R s args own C index y bytes maxL ret ws rm mc ms n) (hn : As.length = n) (hY : wW = Y ++ cW) (q0 : Nat) {ci : Nat} {fs : List Value} {qC : vw_C} (he : (wW ++ [])[q0]? = some (b, .inr (ci, fs))) (hc : vwCl[ci]? = some qC) (hqC : qC.1 = C) {st0 : List Value} (hst : st0 = As.reverse ++ .ref b :: st) (hcat : (st.map fun v => v.category).sum ≤ 8) (hroom : kc + mc ≤ R.cells ∧ ks + ms ≤ R.slots) (hN : ∀ u, Y ++ w1 u = wN u) (hdg : decode cc pc = .ok (.invokevirtual index, 3)) 
    (kk : ∀ (r : Int32) (u : S), post r u → Z p l e R s m args below meth c Q A g nL (pc + 3) lv (.int r :: st) (wN u) [] (kc + mc) (ks + ms)) : Z p l e R s m args below meth c Q A g nL pc lv st0 wW [] kc ks := by
  intro H locs ls hw hl
  subst hst
  subst hY
  have hsub := hw.suf
  have hA1 := hw.sufA h.2.2.2.2.2.2.1
  refine va_calli (A1 := va_A cW H.size) (va_runV (As := As) (rest := st) ⟨h.1, h.2.1, h.2.2.1, h.2.2.2.1, h.ts⟩ (hM H.size) cw ⟨pz_blind, by rw [← hqC]; exact va_recv h.K hw.1 hc he, fun U hU hW => ⟨rfl, by rw [hU], by rw [hU]; exact hsub.1, h.KN.warm hW, hsub.2⟩⟩ rfl hn hl.1 rfl (lv_room hcat) hdg hroom) hw.2.2.2 (fun q _ hq => hA1 q hq) hA1  (fun r u t H1 locs1 ht hvm hp hB hz hk hS => ?_)
  obtain ⟨hP1, hD1⟩ := hB
  rw [ht] at hP1
  exact kk r u hp H1 locs1 ls (hN u ▸ hw.sufBack h.2.2.2.2.2.2.1 hk hP1 hD1 hS) hl
theorem z_Yl (h : CX p s m args meth c A g nL cc Ts own) {y : MethodName} {C : String} {bytes : ByteArray} {maxL : Nat} {ret : Option FieldType} {ws : List Cond} {rm : Room} {mc ms n index : Nat} {Y cW : va_W} {b : Nat} {As : List Value} {S : Type} {w1 wN : S → va_W} {post : Int64 → S → Prop}  (hM : ∀ sz, Met l y ws rm (PZ g (.ref b :: As) sz cW []) (va_Ql post (BZ g cW sz w1) (va_A cW sz)) mc ms (va_A cW sz)) (cw : CallW R s args own C index y bytes maxL ret ws rm mc ms n) (hn : As.length = n) (hY : wW = Y ++ cW) (q0 : Nat) {ci : Nat} {fs : List Value} {qC : vw_C} (he : (wW ++ [])[q0]? = some (b, .inr (ci, fs))) (hc : vwCl[ci]? = some qC) (hqC : qC.1 = C) {st0 : List Value} (hst : st0 = As.reverse ++ .ref b :: st) (hcat : (st.map fun v => v.category).sum ≤ 8) (hroom : kc + mc ≤ R.cells ∧ ks + ms ≤ R.slots) (hN : ∀ u, Y ++ w1 u = wN u) (hdg : decode cc pc = .ok (.invokevirtual index, 3)) 
    (kk : ∀ (r : Int64) (u : S), post r u → Z p l e R s m args below meth c Q A g nL (pc + 3) lv (.long r :: st) (wN u) [] (kc + mc) (ks + ms)) : Z p l e R s m args below meth c Q A g nL pc lv st0 wW [] kc ks := by
  intro H locs ls hw hl
  subst hst
  subst hY
  have hsub := hw.suf
  have hA1 := hw.sufA h.2.2.2.2.2.2.1
  refine va_calll (A1 := va_A cW H.size) (va_runV (As := As) (rest := st) ⟨h.1, h.2.1, h.2.2.1, h.2.2.2.1, h.ts⟩ (hM H.size) cw ⟨pz_blind, by rw [← hqC]; exact va_recv h.K hw.1 hc he, fun U hU hW => ⟨rfl, by rw [hU], by rw [hU]; exact hsub.1, h.KN.warm hW, hsub.2⟩⟩ rfl hn hl.1 rfl (lv_room hcat) hdg hroom) hw.2.2.2 (fun q _ hq => hA1 q hq) hA1  (fun r u t H1 locs1 ht hvm hp hB hz hk hS => ?_)
  obtain ⟨hP1, hD1⟩ := hB
  rw [ht] at hP1
  exact kk r u hp H1 locs1 ls (hN u ▸ hw.sufBack h.2.2.2.2.2.2.1 hk hP1 hD1 hS) hl
theorem z_Yv (h : CX p s m args meth c A g nL cc Ts own) {y : MethodName} {C : String} {bytes : ByteArray} {maxL : Nat} {ret : Option FieldType} {ws : List Cond} {rm : Room} {mc ms n index : Nat} {Y cW : va_W} {b : Nat} {As : List Value} {S : Type} {w1 wN : S → va_W} {post : S → Prop}  (hM : ∀ sz, Met l y ws rm (PZ g (.ref b :: As) sz cW []) (va_Qv post (BZ g cW sz w1) (va_A cW sz)) mc ms (va_A cW sz)) (cw : CallW R s args own C index y bytes maxL ret ws rm mc ms n) (hn : As.length = n) (hY : wW = Y ++ cW) (q0 : Nat) {ci : Nat} {fs : List Value} {qC : vw_C} (he : (wW ++ [])[q0]? = some (b, .inr (ci, fs))) (hc : vwCl[ci]? = some qC) (hqC : qC.1 = C) {st0 : List Value} (hst : st0 = As.reverse ++ .ref b :: st) (hcat : (st.map fun v => v.category).sum ≤ 8) (hroom : kc + mc ≤ R.cells ∧ ks + ms ≤ R.slots) (hN : ∀ u, Y ++ w1 u = wN u) (hdg : decode cc pc = .ok (.invokevirtual index, 3)) 
    (kk : ∀ (u : S), post u → Z p l e R s m args below meth c Q A g nL (pc + 3) lv st (wN u) [] (kc + mc) (ks + ms)) : Z p l e R s m args below meth c Q A g nL pc lv st0 wW [] kc ks := by
  intro H locs ls hw hl
  subst hst
  subst hY
  have hsub := hw.suf
  have hA1 := hw.sufA h.2.2.2.2.2.2.1
  refine va_callv (A1 := va_A cW H.size) (va_runV (As := As) (rest := st) ⟨h.1, h.2.1, h.2.2.1, h.2.2.2.1, h.ts⟩ (hM H.size) cw ⟨pz_blind, by rw [← hqC]; exact va_recv h.K hw.1 hc he, fun U hU hW => ⟨rfl, by rw [hU], by rw [hU]; exact hsub.1, h.KN.warm hW, hsub.2⟩⟩ rfl hn hl.1 rfl (lv_room hcat) hdg hroom) hw.2.2.2 (fun q _ hq => hA1 q hq) hA1  (fun u t H1 locs1 ht hvm hp hB hz hk hS => ?_)
  obtain ⟨hP1, hD1⟩ := hB
  rw [ht] at hP1
  exact kk u hp H1 locs1 ls (hN u ▸ hw.sufBack h.2.2.2.2.2.2.1 hk hP1 hD1 hS) hl
theorem x_Yi (h : CX p s m args meth c A g nL cc Ts own) {y : MethodName} {C : String} {bytes : ByteArray} {maxL : Nat} {ret : Option FieldType} {ws : List Cond} {rm : Room} {mc ms n index : Nat} {Y cW : va_W} {b : Nat} {As : List Value} {S : Type} {w1 wN : S → va_W} {post : Int32 → S → Prop} {pe : String → Prop} {sl sl0 : List (Nat × String)} (hT : TH sl0 A s s.heap) (hsl : ∀ q ∈ sl, q ∈ sl0) (hM : ∀ sz, vx_Met l y ws rm (PX sl g (.ref b :: As) sz cW []) (va_Qi post (BZ g cW sz w1) (va_A cW sz)) (XZ pe sz) mc ms (va_A cW sz)) (cw : CallW R s args own C index y bytes maxL ret ws rm mc ms n) (hn : As.length = n) (hY : wW = Y ++ cW) (q0 : Nat) {ci : Nat} {fs : List Value} {qC : vw_C} (he : (wW ++ [])[q0]? = some (b, .inr (ci, fs))) (hc : vwCl[ci]? = some qC) (hqC : qC.1 = C) {st0 : List Value} (hst : st0 = As.reverse ++ .ref b :: st) (hcat : (st.map fun v => v.category).sum ≤ 8) (hroom : kc + mc ≤ R.cells ∧ ks + ms ≤ R.slots) (hN : ∀ u, Y ++ w1 u = wN u) (hdg : decode cc pc = .ok (.invokevirtual index, 3)) (kx : ∀ E, pe E → ZX p l e R s m args below meth c Q A g nL E pc lv st wW [] (kc + mc) (ks + ms))
    (kk : ∀ (r : Int32) (u : S), post r u → Z p l e R s m args below meth c Q A g nL (pc + 3) lv (.int r :: st) (wN u) [] (kc + mc) (ks + ms)) : Z p l e R s m args below meth c Q A g nL pc lv st0 wW [] kc ks := by
  intro H locs ls hw hl
  subst hst
  subst hY
  have hsub := hw.suf
  have hA1 := hw.sufA h.2.2.2.2.2.2.1
  refine vx_calli (A1 := va_A cW H.size) (vx_runV (As := As) (rest := st) ⟨h.1, h.2.1, h.2.2.1, h.2.2.2.1, h.ts⟩ (hM H.size) cw ⟨px_blind, by rw [← hqC]; exact va_recv h.K hw.1 hc he, fun U hU hW => ⟨rfl, by rw [hU], by rw [hU]; exact hsub.1, h.KN.warm hW, hsub.2, by rw [hU]; exact hT.to hW hw.2.2.2 hA1 sl hsl⟩⟩ rfl hn hl.1 rfl (lv_room hcat) hdg hroom) hw.2.2.2 (fun q _ hq => hA1 q hq) hA1 (fun q hq hz => absurd hz (Nat.not_le.mpr hq)) (fun E ce q9 u t H1 locs1 ht hvm hp hB hz hk hS hce hcv hcl => kx E hB H1 locs1 ls q9 ce (hw.grow hk hS) hl hce hcv hcl) (fun r u t H1 locs1 ht hvm hp hB hz hk hS => ?_)
  obtain ⟨hP1, hD1⟩ := hB
  rw [ht] at hP1
  exact kk r u hp H1 locs1 ls (hN u ▸ hw.sufBack h.2.2.2.2.2.2.1 hk hP1 hD1 hS) hl
theorem x_Yl (h : CX p s m args meth c A g nL cc Ts own) {y : MethodName} {C : String} {bytes : ByteArray} {maxL : Nat} {ret : Option FieldType} {ws : List Cond} {rm : Room} {mc ms n index : Nat} {Y cW : va_W} {b : Nat} {As : List Value} {S : Type} {w1 wN : S → va_W} {post : Int64 → S → Prop} {pe : String → Prop} {sl sl0 : List (Nat × String)} (hT : TH sl0 A s s.heap) (hsl : ∀ q ∈ sl, q ∈ sl0) (hM : ∀ sz, vx_Met l y ws rm (PX sl g (.ref b :: As) sz cW []) (va_Ql post (BZ g cW sz w1) (va_A cW sz)) (XZ pe sz) mc ms (va_A cW sz)) (cw : CallW R s args own C index y bytes maxL ret ws rm mc ms n) (hn : As.length = n) (hY : wW = Y ++ cW) (q0 : Nat) {ci : Nat} {fs : List Value} {qC : vw_C} (he : (wW ++ [])[q0]? = some (b, .inr (ci, fs))) (hc : vwCl[ci]? = some qC) (hqC : qC.1 = C) {st0 : List Value} (hst : st0 = As.reverse ++ .ref b :: st) (hcat : (st.map fun v => v.category).sum ≤ 8) (hroom : kc + mc ≤ R.cells ∧ ks + ms ≤ R.slots) (hN : ∀ u, Y ++ w1 u = wN u) (hdg : decode cc pc = .ok (.invokevirtual index, 3)) (kx : ∀ E, pe E → ZX p l e R s m args below meth c Q A g nL E pc lv st wW [] (kc + mc) (ks + ms))
    (kk : ∀ (r : Int64) (u : S), post r u → Z p l e R s m args below meth c Q A g nL (pc + 3) lv (.long r :: st) (wN u) [] (kc + mc) (ks + ms)) : Z p l e R s m args below meth c Q A g nL pc lv st0 wW [] kc ks := by
  intro H locs ls hw hl
  subst hst
  subst hY
  have hsub := hw.suf
  have hA1 := hw.sufA h.2.2.2.2.2.2.1
  refine vx_calll (A1 := va_A cW H.size) (vx_runV (As := As) (rest := st) ⟨h.1, h.2.1, h.2.2.1, h.2.2.2.1, h.ts⟩ (hM H.size) cw ⟨px_blind, by rw [← hqC]; exact va_recv h.K hw.1 hc he, fun U hU hW => ⟨rfl, by rw [hU], by rw [hU]; exact hsub.1, h.KN.warm hW, hsub.2, by rw [hU]; exact hT.to hW hw.2.2.2 hA1 sl hsl⟩⟩ rfl hn hl.1 rfl (lv_room hcat) hdg hroom) hw.2.2.2 (fun q _ hq => hA1 q hq) hA1 (fun q hq hz => absurd hz (Nat.not_le.mpr hq)) (fun E ce q9 u t H1 locs1 ht hvm hp hB hz hk hS hce hcv hcl => kx E hB H1 locs1 ls q9 ce (hw.grow hk hS) hl hce hcv hcl) (fun r u t H1 locs1 ht hvm hp hB hz hk hS => ?_)
  obtain ⟨hP1, hD1⟩ := hB
  rw [ht] at hP1
  exact kk r u hp H1 locs1 ls (hN u ▸ hw.sufBack h.2.2.2.2.2.2.1 hk hP1 hD1 hS) hl
theorem x_Yv (h : CX p s m args meth c A g nL cc Ts own) {y : MethodName} {C : String} {bytes : ByteArray} {maxL : Nat} {ret : Option FieldType} {ws : List Cond} {rm : Room} {mc ms n index : Nat} {Y cW : va_W} {b : Nat} {As : List Value} {S : Type} {w1 wN : S → va_W} {post : S → Prop} {pe : String → Prop} {sl sl0 : List (Nat × String)} (hT : TH sl0 A s s.heap) (hsl : ∀ q ∈ sl, q ∈ sl0) (hM : ∀ sz, vx_Met l y ws rm (PX sl g (.ref b :: As) sz cW []) (va_Qv post (BZ g cW sz w1) (va_A cW sz)) (XZ pe sz) mc ms (va_A cW sz)) (cw : CallW R s args own C index y bytes maxL ret ws rm mc ms n) (hn : As.length = n) (hY : wW = Y ++ cW) (q0 : Nat) {ci : Nat} {fs : List Value} {qC : vw_C} (he : (wW ++ [])[q0]? = some (b, .inr (ci, fs))) (hc : vwCl[ci]? = some qC) (hqC : qC.1 = C) {st0 : List Value} (hst : st0 = As.reverse ++ .ref b :: st) (hcat : (st.map fun v => v.category).sum ≤ 8) (hroom : kc + mc ≤ R.cells ∧ ks + ms ≤ R.slots) (hN : ∀ u, Y ++ w1 u = wN u) (hdg : decode cc pc = .ok (.invokevirtual index, 3)) (kx : ∀ E, pe E → ZX p l e R s m args below meth c Q A g nL E pc lv st wW [] (kc + mc) (ks + ms))
    (kk : ∀ (u : S), post u → Z p l e R s m args below meth c Q A g nL (pc + 3) lv st (wN u) [] (kc + mc) (ks + ms)) : Z p l e R s m args below meth c Q A g nL pc lv st0 wW [] kc ks := by
  intro H locs ls hw hl
  subst hst
  subst hY
  have hsub := hw.suf
  have hA1 := hw.sufA h.2.2.2.2.2.2.1
  refine vx_callv (A1 := va_A cW H.size) (vx_runV (As := As) (rest := st) ⟨h.1, h.2.1, h.2.2.1, h.2.2.2.1, h.ts⟩ (hM H.size) cw ⟨px_blind, by rw [← hqC]; exact va_recv h.K hw.1 hc he, fun U hU hW => ⟨rfl, by rw [hU], by rw [hU]; exact hsub.1, h.KN.warm hW, hsub.2, by rw [hU]; exact hT.to hW hw.2.2.2 hA1 sl hsl⟩⟩ rfl hn hl.1 rfl (lv_room hcat) hdg hroom) hw.2.2.2 (fun q _ hq => hA1 q hq) hA1 (fun q hq hz => absurd hz (Nat.not_le.mpr hq)) (fun E ce q9 u t H1 locs1 ht hvm hp hB hz hk hS hce hcv hcl => kx E hB H1 locs1 ls q9 ce (hw.grow hk hS) hl hce hcv hcl) (fun u t H1 locs1 ht hvm hp hB hz hk hS => ?_)
  obtain ⟨hP1, hD1⟩ := hB
  rw [ht] at hP1
  exact kk u hp H1 locs1 ls (hN u ▸ hw.sufBack h.2.2.2.2.2.2.1 hk hP1 hD1 hS) hl
theorem zx_catch (h : CX p s m args meth c A g nL cc Ts own) {E name : String} (pre : List ExceptionTableEntry) (x : ExceptionTableEntry) (suf : List ExceptionTableEntry) (hsplit : c.exceptionTable.toList = pre ++ x :: suf) (hpass : ∀ z ∈ pre, covers z pc = false ∨ (z.catchType ≠ 0 ∧ ∃ nm : String, Cond.classLink own z.catchType nm ∈ Ts ∧ va_Nc E nm s)) (hx : covers x pc = true) (h0 : x.catchType ≠ 0) (hlink : Cond.classLink own x.catchType name ∈ Ts) (hcast : (Cond.castable E name).before args s = true) {hpc : Nat} (hh : x.handlerPc = hpc)
    (kk : ∀ q, Z p l e R s m args below meth c Q A g nL hpc lv [.ref q] wW wR kc ks) : ZX p l e R s m args below meth c Q A g nL E pc lv st wW wR kc ks := by
  intro H locs ls q ce hw hl hce hcv hcl
  subst hh
  exact vx_catch h.2.2.2.1 pre x suf hsplit (fun z hz => (hpass z hz).imp id (fun ⟨a, nm, b1, b2⟩ => ⟨a, nm, h.ts _ b1, b2⟩)) hx h0 (h.ts _ hlink) hcast hce hcv hcl (kk q H locs ls hw hl)
end ZC
theorem z_open_i {l : Launch} {y : MethodName} {ws ws' : List Cond} {rm : Room} {cc : ByteArray} {maxL : Nat} {ret : FieldType} {av : List Value} {sz : Nat} {wW wR : va_W} {g : Gx} {S : Type} {post : Int32 → S → Prop} {w1 : S → va_W} {mc ms : Nat} {own : String}  (hy : plainName y.cls = true) (hw : ws = Cond.code y cc maxL (some ret) :: ws') (hown : y.cls = own) (hlen : (lg_sl av).length ≤ maxL)
    (body : ∀ (p : Program) (e : Env) (s : State) (m : MethodId) (args : Array Value) (below : List Frame) (meth : Method) (c : Code) (Q : State → Prop), CX p s m args meth c (va_A wW s.heap.size) g maxL cc ws own → meth.name = y.name → (∀ (pc : Nat) (lv : List (Nat × Value)) (v : Int32) (u : S) (vW vR : va_W) (kc ks : Nat), decode cc pc = .ok (.ireturn, 1) → narrow ret (.int v) = .int v → post v u → w1 u = vW → kc ≤ mc → ks ≤ ms → Z p l e rm s m args below meth c Q (va_A wW s.heap.size) g maxL pc lv [.int v] vW vR kc ks) → Z p l e rm s m args below meth c Q (va_A wW s.heap.size) g maxL 0 (lv_args 0 av) [] wW wR 0 0) :
    Met l y ws rm (PZ g av sz wW wR) (va_Qi post (BZ g wW sz w1) (va_A wW sz)) mc ms (va_A wW sz) := by
  refine Met.ofW (cc := cc) (maxL := maxL) (ret := (some ret)) hy hw ?_
  intro p e s m args below meth c s₁ B hml hv
  obtain ⟨rfl, hsz, hP, hK, hD⟩ := hv
  subst hsz
  have hC : CX p s m av.toArray meth c (va_A wW s.heap.size) g maxL cc ws own := ⟨B.exec, B.bytes, hml, by rw [← hown]; exact findClass_of_methodNamed B.named, atoms_spec (ws := ws) B.pre, hK, fun q h => Or.inr h, B.notSynchronized⟩
  have hl := lv_entry av (n := maxL) hlen
  rw [lg_entry_eq]
  refine body p e s m _ below meth c _ hC (name_of_methodNamed B.named B.method).1 ?_ s.heap [] _ ⟨hP, hD, fun k q hk => va_A.in hk, va_S.rf⟩ hl
  · intro pc lv v u vW vR kc ks hdg hnr hp hu hk1 hk2 H locs ls hw9 hl9
    subst hu
    have hPw : va_P g.1 vwCl (w1 u) H := fun k q hq => hw9.1 k q (by rw [List.getElem?_append_left (List.getElem?_eq_some_iff.mp hq).1]; exact hq)
    have hDw : va_D (va_A wW s.heap.size) (w1 u) := ⟨fun i j x y hi hj => hw9.2.1.1 i j x y (by rw [List.getElem?_append_left (List.getElem?_eq_some_iff.mp hi).1]; exact hi) (by rw [List.getElem?_append_left (List.getElem?_eq_some_iff.mp hj).1]; exact hj), hw9.2.2.1⟩
    refine W.widen hk1 hk2 ?_
    exact W.zret hC.1 hC.2.1 B.returns hnr (fun t ht hW => ⟨⟨v, u, rfl, hp, by rw [ht]; exact hPw, hDw⟩, hw9.2.2.2.F ht⟩) hw9.2.2.2.2.2 hdg B.notSynchronized
theorem z_open_l {l : Launch} {y : MethodName} {ws ws' : List Cond} {rm : Room} {cc : ByteArray} {maxL : Nat}  {av : List Value} {sz : Nat} {wW wR : va_W} {g : Gx} {S : Type} {post : Int64 → S → Prop} {w1 : S → va_W} {mc ms : Nat} {own : String}  (hy : plainName y.cls = true) (hw : ws = Cond.code y cc maxL (some .long) :: ws') (hown : y.cls = own) (hlen : (lg_sl av).length ≤ maxL)
    (body : ∀ (p : Program) (e : Env) (s : State) (m : MethodId) (args : Array Value) (below : List Frame) (meth : Method) (c : Code) (Q : State → Prop), CX p s m args meth c (va_A wW s.heap.size) g maxL cc ws own → meth.name = y.name → (∀ (pc : Nat) (lv : List (Nat × Value)) (v : Int64) (u : S) (vW vR : va_W) (kc ks : Nat), decode cc pc = .ok (.lreturn, 1) → post v u → w1 u = vW → kc ≤ mc → ks ≤ ms → Z p l e rm s m args below meth c Q (va_A wW s.heap.size) g maxL pc lv [.long v] vW vR kc ks) → Z p l e rm s m args below meth c Q (va_A wW s.heap.size) g maxL 0 (lv_args 0 av) [] wW wR 0 0) :
    Met l y ws rm (PZ g av sz wW wR) (va_Ql post (BZ g wW sz w1) (va_A wW sz)) mc ms (va_A wW sz) := by
  refine Met.ofW (cc := cc) (maxL := maxL) (ret := (some .long)) hy hw ?_
  intro p e s m args below meth c s₁ B hml hv
  obtain ⟨rfl, hsz, hP, hK, hD⟩ := hv
  subst hsz
  have hC : CX p s m av.toArray meth c (va_A wW s.heap.size) g maxL cc ws own := ⟨B.exec, B.bytes, hml, by rw [← hown]; exact findClass_of_methodNamed B.named, atoms_spec (ws := ws) B.pre, hK, fun q h => Or.inr h, B.notSynchronized⟩
  have hl := lv_entry av (n := maxL) hlen
  rw [lg_entry_eq]
  refine body p e s m _ below meth c _ hC (name_of_methodNamed B.named B.method).1 ?_ s.heap [] _ ⟨hP, hD, fun k q hk => va_A.in hk, va_S.rf⟩ hl
  · intro pc lv v u vW vR kc ks hdg hp hu hk1 hk2 H locs ls hw9 hl9
    subst hu
    have hPw : va_P g.1 vwCl (w1 u) H := fun k q hq => hw9.1 k q (by rw [List.getElem?_append_left (List.getElem?_eq_some_iff.mp hq).1]; exact hq)
    have hDw : va_D (va_A wW s.heap.size) (w1 u) := ⟨fun i j x y hi hj => hw9.2.1.1 i j x y (by rw [List.getElem?_append_left (List.getElem?_eq_some_iff.mp hi).1]; exact hi) (by rw [List.getElem?_append_left (List.getElem?_eq_some_iff.mp hj).1]; exact hj), hw9.2.2.1⟩
    refine W.widen hk1 hk2 ?_
    exact W.lret hC.1 hC.2.1 B.returns (fun t ht hW => ⟨⟨v, u, rfl, hp, by rw [ht]; exact hPw, hDw⟩, hw9.2.2.2.F ht⟩) hw9.2.2.2.2.2 hdg B.notSynchronized
theorem z_open_v {l : Launch} {y : MethodName} {ws ws' : List Cond} {rm : Room} {cc : ByteArray} {maxL : Nat}  {av : List Value} {sz : Nat} {wW wR : va_W} {g : Gx} {S : Type} {post : S → Prop} {w1 : S → va_W} {mc ms : Nat} {own : String}  (hy : plainName y.cls = true) (hw : ws = Cond.code y cc maxL none :: ws') (hown : y.cls = own) (hlen : (lg_sl av).length ≤ maxL)
    (body : ∀ (p : Program) (e : Env) (s : State) (m : MethodId) (args : Array Value) (below : List Frame) (meth : Method) (c : Code) (Q : State → Prop), CX p s m args meth c (va_A wW s.heap.size) g maxL cc ws own → meth.name = y.name → (∀ (pc : Nat) (lv : List (Nat × Value)) (u : S) (vW vR : va_W) (kc ks : Nat), decode cc pc = .ok (.return_, 1) → post u → w1 u = vW → kc ≤ mc → ks ≤ ms → Z p l e rm s m args below meth c Q (va_A wW s.heap.size) g maxL pc lv [] vW vR kc ks) → Z p l e rm s m args below meth c Q (va_A wW s.heap.size) g maxL 0 (lv_args 0 av) [] wW wR 0 0) :
    Met l y ws rm (PZ g av sz wW wR) (va_Qv post (BZ g wW sz w1) (va_A wW sz)) mc ms (va_A wW sz) := by
  refine Met.ofW (cc := cc) (maxL := maxL) (ret := none) hy hw ?_
  intro p e s m args below meth c s₁ B hml hv
  obtain ⟨rfl, hsz, hP, hK, hD⟩ := hv
  subst hsz
  have hC : CX p s m av.toArray meth c (va_A wW s.heap.size) g maxL cc ws own := ⟨B.exec, B.bytes, hml, by rw [← hown]; exact findClass_of_methodNamed B.named, atoms_spec (ws := ws) B.pre, hK, fun q h => Or.inr h, B.notSynchronized⟩
  have hl := lv_entry av (n := maxL) hlen
  rw [lg_entry_eq]
  refine body p e s m _ below meth c _ hC (name_of_methodNamed B.named B.method).1 ?_ s.heap [] _ ⟨hP, hD, fun k q hk => va_A.in hk, va_S.rf⟩ hl
  · intro pc lv u vW vR kc ks hdg hp hu hk1 hk2 H locs ls hw9 hl9
    subst hu
    have hPw : va_P g.1 vwCl (w1 u) H := fun k q hq => hw9.1 k q (by rw [List.getElem?_append_left (List.getElem?_eq_some_iff.mp hq).1]; exact hq)
    have hDw : va_D (va_A wW s.heap.size) (w1 u) := ⟨fun i j x y hi hj => hw9.2.1.1 i j x y (by rw [List.getElem?_append_left (List.getElem?_eq_some_iff.mp hi).1]; exact hi) (by rw [List.getElem?_append_left (List.getElem?_eq_some_iff.mp hj).1]; exact hj), hw9.2.2.1⟩
    refine W.widen hk1 hk2 ?_
    exact W.vret hC.1 hC.2.1 B.returns (fun t ht hW => ⟨⟨u, rfl, hp, by rw [ht]; exact hPw, hDw⟩, hw9.2.2.2.F ht⟩) hw9.2.2.2.2.2 hdg B.notSynchronized
theorem z_open_r {l : Launch} {y : MethodName} {ws ws' : List Cond} {rm : Room} {cc : ByteArray} {maxL : Nat} {ret : FieldType} {av : List Value} {sz : Nat} {wW wR : va_W} {g : Gx} {S : Type} {post : S → Prop} {ad : S → Nat} {w1 : S → va_W} {mc ms : Nat} {own : String} (hrt : (∃ n, ret = .object n) ∨ ∃ t, ret = .array t) (hy : plainName y.cls = true) (hw : ws = Cond.code y cc maxL (some ret) :: ws') (hown : y.cls = own) (hlen : (lg_sl av).length ≤ maxL)
    (body : ∀ (p : Program) (e : Env) (s : State) (m : MethodId) (args : Array Value) (below : List Frame) (meth : Method) (c : Code) (Q : State → Prop), CX p s m args meth c (va_A wW s.heap.size) g maxL cc ws own → meth.name = y.name → (∀ (pc : Nat) (lv : List (Nat × Value)) (u : S) (vW vR : va_W) (kc ks : Nat), decode cc pc = .ok (.areturn, 1) → post u → w1 u = vW → kc ≤ mc → ks ≤ ms → Z p l e rm s m args below meth c Q (va_A wW s.heap.size) g maxL pc lv [.ref (ad u)] vW vR kc ks) → Z p l e rm s m args below meth c Q (va_A wW s.heap.size) g maxL 0 (lv_args 0 av) [] wW wR 0 0) :
    Met l y ws rm (PZ g av sz wW wR) (va_Qr post (BZr g wW sz w1 ad) (va_A wW sz)) mc ms (va_A wW sz) := by
  refine Met.ofW (cc := cc) (maxL := maxL) (ret := (some ret)) hy hw ?_
  intro p e s m args below meth c s₁ B hml hv
  obtain ⟨rfl, hsz, hP, hK, hD⟩ := hv
  subst hsz
  have hC : CX p s m av.toArray meth c (va_A wW s.heap.size) g maxL cc ws own := ⟨B.exec, B.bytes, hml, by rw [← hown]; exact findClass_of_methodNamed B.named, atoms_spec (ws := ws) B.pre, hK, fun q h => Or.inr h, B.notSynchronized⟩
  have hl := lv_entry av (n := maxL) hlen
  rw [lg_entry_eq]
  refine body p e s m _ below meth c _ hC (name_of_methodNamed B.named B.method).1 ?_ s.heap [] _ ⟨hP, hD, fun k q hk => va_A.in hk, va_S.rf⟩ hl
  · intro pc lv u vW vR kc ks hdg hp hu hk1 hk2 H locs ls hw9 hl9
    subst hu
    have hPw : va_P g.1 vwCl (w1 u) H := fun k q hq => hw9.1 k q (by rw [List.getElem?_append_left (List.getElem?_eq_some_iff.mp hq).1]; exact hq)
    have hDw : va_D (va_A wW s.heap.size) (w1 u) := ⟨fun i j x y hi hj => hw9.2.1.1 i j x y (by rw [List.getElem?_append_left (List.getElem?_eq_some_iff.mp hi).1]; exact hi) (by rw [List.getElem?_append_left (List.getElem?_eq_some_iff.mp hj).1]; exact hj), hw9.2.2.1⟩
    refine W.widen hk1 hk2 ?_
    exact W.aret hC.1 hC.2.1 B.returns hrt (Or.inr ⟨_, rfl⟩) (fun t ht hW => ⟨⟨u, ad u, rfl, hp, rfl, by rw [ht]; exact hPw, hDw⟩, hw9.2.2.2.F ht⟩) hw9.2.2.2.2.2 hdg B.notSynchronized
theorem x_open_i {l : Launch} {y : MethodName} {ws ws' : List Cond} {rm : Room} {cc : ByteArray} {maxL : Nat} {ret : FieldType} {av : List Value} {sz : Nat} {wW wR : va_W} {g : Gx} {S : Type} {post : Int32 → S → Prop} {w1 : S → va_W} {mc ms : Nat} {own : String} {sl : List (Nat × String)} {pe : String → Prop}  (hy : plainName y.cls = true) (hw : ws = Cond.code y cc maxL (some ret) :: ws') (hown : y.cls = own) (hlen : (lg_sl av).length ≤ maxL) (hlf : l.stackTraces = false) (hsown : RX3 = own)
    (body : ∀ (p : Program) (e : Env) (s : State) (m : MethodId) (args : Array Value) (below : List Frame) (meth : Method) (c : Code) (Q : State → Prop), CX p s m args meth c (fun q => s.heap.size ≤ q) g maxL cc ws own → TH sl (fun q => s.heap.size ≤ q) s s.heap → (∀ (pc : Nat) (lv : List (Nat × Value)) (v : Int32) (u : S) (vW vR : va_W) (kc ks : Nat), decode cc pc = .ok (.ireturn, 1) → narrow ret (.int v) = .int v → post v u → w1 u = vW → kc ≤ mc → ks ≤ ms → Z p l e rm s m args below meth c Q (va_A wW s.heap.size) g maxL pc lv [.int v] vW vR kc ks) →
      (∀ (E : String) (pc : Nat) (lv : List (Nat × Value)) (st : List Value) (kc ks : Nat), pe E → kc ≤ mc → ks ≤ ms → ZX p l e rm s m args below meth c Q (fun q => s.heap.size ≤ q) g maxL E pc lv st [] (wW ++ wR) kc ks) →
      (∀ (pc : Nat) (lv : List (Nat × Value)) (st : List Value) (kc ks : Nat) (cls text : String) (names : List String) (ik is ic : Nat), Bundle.fit cls = true → (∀ n ∈ names, Bundle.fit n = true) → Cond.classLink own ik cls ∈ ws → Cond.initialized cls ∈ ws → (is, text) ∈ sl → (∀ w ∈ vx_atS own ic cls names, w ∈ ws) → (∀ w ∈ Cond.classLink own ik cls :: Cond.initialized cls :: vx_atS own ic cls names, vx_ot w = true) →
        decode cc pc = .ok (.new ik, 3) → decode cc (pc + 3) = .ok (.dup, 1) → decode cc (pc + 4) = .ok (.ldc is, 2) → decode cc (pc + 6) = .ok (.invokespecial ic, 3) → decode cc (pc + 9) = .ok (.athrow, 1) → names.length + 3 < rm.frames → (st.map fun v => v.category).sum + (13 * (names.length + 1) + 43) ≤ rm.locals → kc + 1 ≤ rm.cells → ks + 6 ≤ rm.slots → pe cls → kc + 1 ≤ mc → ks + 6 ≤ ms → Z p l e rm s m args below meth c Q (fun q => s.heap.size ≤ q) g maxL pc lv st [] (wW ++ wR) kc ks) →
      Z p l e rm s m args below meth c Q (fun q => s.heap.size ≤ q) g maxL 0 (lv_args 0 av) [] [] (wW ++ wR) 0 0) :
    vx_Met l y ws rm (PX sl g av sz wW wR) (va_Qi post (BZ g wW sz w1) (va_A wW sz)) (XZ pe sz) mc ms (va_A wW sz) := by
  refine vx_ofW (cc := cc) (maxL := maxL) (ret := (some ret)) hy hw ?_
  intro p e s m args below meth c s₁ B hml hnt hv
  obtain ⟨rfl, hsz, hP, hK, hD, hT⟩ := hv
  subst hsz
  have hC : CX p s m av.toArray meth c (fun q => s.heap.size ≤ q) g maxL cc ws own := ⟨B.exec, B.bytes, hml, by rw [← hown]; exact findClass_of_methodNamed B.named, atoms_spec (ws := ws) B.pre, hK, fun q h => h, B.notSynchronized⟩
  have hl := lv_entry av (n := maxL) hlen
  have hT1 : TH sl (fun q => s.heap.size ≤ q) s s.heap := ⟨⟨hT.1.1.narrow (fun q h => Or.inr h), hT.1.2.narrow (fun q h => Or.inr h)⟩, hT.2⟩
  rw [lg_entry_eq]
  refine body p e s m _ below meth c _ hC hT1 ?_ ?_ ?_ s.heap [] _ ⟨hP, hD, (fun k q hk => by cases hk), va_S.rf⟩ hl
  · intro pc lv v u vW vR kc ks hdg hnr hp hu hk1 hk2 H locs ls hw9 hl9
    subst hu
    have hPw : va_P g.1 vwCl (w1 u) H := fun k q hq => hw9.1 k q (by rw [List.getElem?_append_left (List.getElem?_eq_some_iff.mp hq).1]; exact hq)
    have hDw : va_D (va_A wW s.heap.size) (w1 u) := ⟨fun i j x y hi hj => hw9.2.1.1 i j x y (by rw [List.getElem?_append_left (List.getElem?_eq_some_iff.mp hi).1]; exact hi) (by rw [List.getElem?_append_left (List.getElem?_eq_some_iff.mp hj).1]; exact hj), hw9.2.2.1⟩
    refine W.widen hk1 hk2 ?_
    exact vx_ret (W.zret hC.1 hC.2.1 B.returns hnr (fun t ht hW => ⟨⟨v, u, rfl, hp, by rw [ht]; exact hPw, hDw⟩, hw9.2.2.2.F ht⟩) hw9.2.2.2.2.2 hdg B.notSynchronized)
  · intro E pc lv st kc ks hpe hk1 hk2 H locs ls q ce hw9 hl9 hce hcv hcl
    exact vx_out (fun x hx => (hnt x hx).elim) B.notSynchronized hce hcv hcl (fun t ht hvm => ⟨(), trivial, hpe, hw9.2.2.2.F ht⟩) (fun z hz => Or.inr (hw9.2.2.2.2.2 z hz)) hk1 hk2
  · intro pc lv st kc ks cls text names ik is ic hfc hfn hk hini hsl hat hgood d0 d3 d4 d6 d9 hRf hRl hRc hRs hpe hk1 hk2 H locs ls hw9 hl9
    obtain ⟨sa, hsa⟩ := hT.2 (is, text) hsl
    exact vx_throwS (A := (fun q => s.heap.size ≤ q)) hC.1 hC.2.1 hlf hC.2.2.2.1 hfc hfn (hC.ts _ hk) (hC.ts _ hini) (by rw [show RX3 = own from hsown] at hsa; exact hsa) (fun w hw => hC.ts w (hat w hw)) hgood hT1.1.1 hT1.1.2 hw9.2.2.2 (hl9.1.trans hml.symm) d0 d3 d4 d6 d9 (fun x hx => (hnt x hx).elim) hRf hRl hRc hRs B.notSynchronized (fun t hvm hz hq => ⟨(), trivial, hpe, ⟨Nat.le_trans hw9.2.2.2.1 hz, fun q h1 h2 => (hq q (Nat.lt_of_lt_of_le h1 hw9.2.2.2.1)).trans (hw9.2.2.2.2.1 q h1 h2)⟩⟩) (fun z hz => Or.inr (hw9.2.2.2.2.2 z hz)) hk1 hk2
theorem x_open_l {l : Launch} {y : MethodName} {ws ws' : List Cond} {rm : Room} {cc : ByteArray} {maxL : Nat}  {av : List Value} {sz : Nat} {wW wR : va_W} {g : Gx} {S : Type} {post : Int64 → S → Prop} {w1 : S → va_W} {mc ms : Nat} {own : String} {sl : List (Nat × String)} {pe : String → Prop}  (hy : plainName y.cls = true) (hw : ws = Cond.code y cc maxL (some .long) :: ws') (hown : y.cls = own) (hlen : (lg_sl av).length ≤ maxL) (hlf : l.stackTraces = false) (hsown : RX3 = own)
    (body : ∀ (p : Program) (e : Env) (s : State) (m : MethodId) (args : Array Value) (below : List Frame) (meth : Method) (c : Code) (Q : State → Prop), CX p s m args meth c (fun q => s.heap.size ≤ q) g maxL cc ws own → TH sl (fun q => s.heap.size ≤ q) s s.heap → (∀ (pc : Nat) (lv : List (Nat × Value)) (v : Int64) (u : S) (vW vR : va_W) (kc ks : Nat), decode cc pc = .ok (.lreturn, 1) → post v u → w1 u = vW → kc ≤ mc → ks ≤ ms → Z p l e rm s m args below meth c Q (va_A wW s.heap.size) g maxL pc lv [.long v] vW vR kc ks) →
      (∀ (E : String) (pc : Nat) (lv : List (Nat × Value)) (st : List Value) (kc ks : Nat), pe E → kc ≤ mc → ks ≤ ms → ZX p l e rm s m args below meth c Q (fun q => s.heap.size ≤ q) g maxL E pc lv st [] (wW ++ wR) kc ks) →
      (∀ (pc : Nat) (lv : List (Nat × Value)) (st : List Value) (kc ks : Nat) (cls text : String) (names : List String) (ik is ic : Nat), Bundle.fit cls = true → (∀ n ∈ names, Bundle.fit n = true) → Cond.classLink own ik cls ∈ ws → Cond.initialized cls ∈ ws → (is, text) ∈ sl → (∀ w ∈ vx_atS own ic cls names, w ∈ ws) → (∀ w ∈ Cond.classLink own ik cls :: Cond.initialized cls :: vx_atS own ic cls names, vx_ot w = true) →
        decode cc pc = .ok (.new ik, 3) → decode cc (pc + 3) = .ok (.dup, 1) → decode cc (pc + 4) = .ok (.ldc is, 2) → decode cc (pc + 6) = .ok (.invokespecial ic, 3) → decode cc (pc + 9) = .ok (.athrow, 1) → names.length + 3 < rm.frames → (st.map fun v => v.category).sum + (13 * (names.length + 1) + 43) ≤ rm.locals → kc + 1 ≤ rm.cells → ks + 6 ≤ rm.slots → pe cls → kc + 1 ≤ mc → ks + 6 ≤ ms → Z p l e rm s m args below meth c Q (fun q => s.heap.size ≤ q) g maxL pc lv st [] (wW ++ wR) kc ks) →
      Z p l e rm s m args below meth c Q (fun q => s.heap.size ≤ q) g maxL 0 (lv_args 0 av) [] [] (wW ++ wR) 0 0) :
    vx_Met l y ws rm (PX sl g av sz wW wR) (va_Ql post (BZ g wW sz w1) (va_A wW sz)) (XZ pe sz) mc ms (va_A wW sz) := by
  refine vx_ofW (cc := cc) (maxL := maxL) (ret := (some .long)) hy hw ?_
  intro p e s m args below meth c s₁ B hml hnt hv
  obtain ⟨rfl, hsz, hP, hK, hD, hT⟩ := hv
  subst hsz
  have hC : CX p s m av.toArray meth c (fun q => s.heap.size ≤ q) g maxL cc ws own := ⟨B.exec, B.bytes, hml, by rw [← hown]; exact findClass_of_methodNamed B.named, atoms_spec (ws := ws) B.pre, hK, fun q h => h, B.notSynchronized⟩
  have hl := lv_entry av (n := maxL) hlen
  have hT1 : TH sl (fun q => s.heap.size ≤ q) s s.heap := ⟨⟨hT.1.1.narrow (fun q h => Or.inr h), hT.1.2.narrow (fun q h => Or.inr h)⟩, hT.2⟩
  rw [lg_entry_eq]
  refine body p e s m _ below meth c _ hC hT1 ?_ ?_ ?_ s.heap [] _ ⟨hP, hD, (fun k q hk => by cases hk), va_S.rf⟩ hl
  · intro pc lv v u vW vR kc ks hdg hp hu hk1 hk2 H locs ls hw9 hl9
    subst hu
    have hPw : va_P g.1 vwCl (w1 u) H := fun k q hq => hw9.1 k q (by rw [List.getElem?_append_left (List.getElem?_eq_some_iff.mp hq).1]; exact hq)
    have hDw : va_D (va_A wW s.heap.size) (w1 u) := ⟨fun i j x y hi hj => hw9.2.1.1 i j x y (by rw [List.getElem?_append_left (List.getElem?_eq_some_iff.mp hi).1]; exact hi) (by rw [List.getElem?_append_left (List.getElem?_eq_some_iff.mp hj).1]; exact hj), hw9.2.2.1⟩
    refine W.widen hk1 hk2 ?_
    exact vx_ret (W.lret hC.1 hC.2.1 B.returns (fun t ht hW => ⟨⟨v, u, rfl, hp, by rw [ht]; exact hPw, hDw⟩, hw9.2.2.2.F ht⟩) hw9.2.2.2.2.2 hdg B.notSynchronized)
  · intro E pc lv st kc ks hpe hk1 hk2 H locs ls q ce hw9 hl9 hce hcv hcl
    exact vx_out (fun x hx => (hnt x hx).elim) B.notSynchronized hce hcv hcl (fun t ht hvm => ⟨(), trivial, hpe, hw9.2.2.2.F ht⟩) (fun z hz => Or.inr (hw9.2.2.2.2.2 z hz)) hk1 hk2
  · intro pc lv st kc ks cls text names ik is ic hfc hfn hk hini hsl hat hgood d0 d3 d4 d6 d9 hRf hRl hRc hRs hpe hk1 hk2 H locs ls hw9 hl9
    obtain ⟨sa, hsa⟩ := hT.2 (is, text) hsl
    exact vx_throwS (A := (fun q => s.heap.size ≤ q)) hC.1 hC.2.1 hlf hC.2.2.2.1 hfc hfn (hC.ts _ hk) (hC.ts _ hini) (by rw [show RX3 = own from hsown] at hsa; exact hsa) (fun w hw => hC.ts w (hat w hw)) hgood hT1.1.1 hT1.1.2 hw9.2.2.2 (hl9.1.trans hml.symm) d0 d3 d4 d6 d9 (fun x hx => (hnt x hx).elim) hRf hRl hRc hRs B.notSynchronized (fun t hvm hz hq => ⟨(), trivial, hpe, ⟨Nat.le_trans hw9.2.2.2.1 hz, fun q h1 h2 => (hq q (Nat.lt_of_lt_of_le h1 hw9.2.2.2.1)).trans (hw9.2.2.2.2.1 q h1 h2)⟩⟩) (fun z hz => Or.inr (hw9.2.2.2.2.2 z hz)) hk1 hk2
theorem x_open_v {l : Launch} {y : MethodName} {ws ws' : List Cond} {rm : Room} {cc : ByteArray} {maxL : Nat}  {av : List Value} {sz : Nat} {wW wR : va_W} {g : Gx} {S : Type} {post : S → Prop} {w1 : S → va_W} {mc ms : Nat} {own : String} {sl : List (Nat × String)} {pe : String → Prop}  (hy : plainName y.cls = true) (hw : ws = Cond.code y cc maxL none :: ws') (hown : y.cls = own) (hlen : (lg_sl av).length ≤ maxL) (hlf : l.stackTraces = false) (hsown : RX3 = own)
    (body : ∀ (p : Program) (e : Env) (s : State) (m : MethodId) (args : Array Value) (below : List Frame) (meth : Method) (c : Code) (Q : State → Prop), CX p s m args meth c (fun q => s.heap.size ≤ q) g maxL cc ws own → TH sl (fun q => s.heap.size ≤ q) s s.heap → (∀ (pc : Nat) (lv : List (Nat × Value)) (u : S) (vW vR : va_W) (kc ks : Nat), decode cc pc = .ok (.return_, 1) → post u → w1 u = vW → kc ≤ mc → ks ≤ ms → Z p l e rm s m args below meth c Q (va_A wW s.heap.size) g maxL pc lv [] vW vR kc ks) →
      (∀ (E : String) (pc : Nat) (lv : List (Nat × Value)) (st : List Value) (kc ks : Nat), pe E → kc ≤ mc → ks ≤ ms → ZX p l e rm s m args below meth c Q (fun q => s.heap.size ≤ q) g maxL E pc lv st [] (wW ++ wR) kc ks) →
      (∀ (pc : Nat) (lv : List (Nat × Value)) (st : List Value) (kc ks : Nat) (cls text : String) (names : List String) (ik is ic : Nat), Bundle.fit cls = true → (∀ n ∈ names, Bundle.fit n = true) → Cond.classLink own ik cls ∈ ws → Cond.initialized cls ∈ ws → (is, text) ∈ sl → (∀ w ∈ vx_atS own ic cls names, w ∈ ws) → (∀ w ∈ Cond.classLink own ik cls :: Cond.initialized cls :: vx_atS own ic cls names, vx_ot w = true) →
        decode cc pc = .ok (.new ik, 3) → decode cc (pc + 3) = .ok (.dup, 1) → decode cc (pc + 4) = .ok (.ldc is, 2) → decode cc (pc + 6) = .ok (.invokespecial ic, 3) → decode cc (pc + 9) = .ok (.athrow, 1) → names.length + 3 < rm.frames → (st.map fun v => v.category).sum + (13 * (names.length + 1) + 43) ≤ rm.locals → kc + 1 ≤ rm.cells → ks + 6 ≤ rm.slots → pe cls → kc + 1 ≤ mc → ks + 6 ≤ ms → Z p l e rm s m args below meth c Q (fun q => s.heap.size ≤ q) g maxL pc lv st [] (wW ++ wR) kc ks) →
      Z p l e rm s m args below meth c Q (fun q => s.heap.size ≤ q) g maxL 0 (lv_args 0 av) [] [] (wW ++ wR) 0 0) :
    vx_Met l y ws rm (PX sl g av sz wW wR) (va_Qv post (BZ g wW sz w1) (va_A wW sz)) (XZ pe sz) mc ms (va_A wW sz) := by
  refine vx_ofW (cc := cc) (maxL := maxL) (ret := none) hy hw ?_
  intro p e s m args below meth c s₁ B hml hnt hv
  obtain ⟨rfl, hsz, hP, hK, hD, hT⟩ := hv
  subst hsz
  have hC : CX p s m av.toArray meth c (fun q => s.heap.size ≤ q) g maxL cc ws own := ⟨B.exec, B.bytes, hml, by rw [← hown]; exact findClass_of_methodNamed B.named, atoms_spec (ws := ws) B.pre, hK, fun q h => h, B.notSynchronized⟩
  have hl := lv_entry av (n := maxL) hlen
  have hT1 : TH sl (fun q => s.heap.size ≤ q) s s.heap := ⟨⟨hT.1.1.narrow (fun q h => Or.inr h), hT.1.2.narrow (fun q h => Or.inr h)⟩, hT.2⟩
  rw [lg_entry_eq]
  refine body p e s m _ below meth c _ hC hT1 ?_ ?_ ?_ s.heap [] _ ⟨hP, hD, (fun k q hk => by cases hk), va_S.rf⟩ hl
  · intro pc lv u vW vR kc ks hdg hp hu hk1 hk2 H locs ls hw9 hl9
    subst hu
    have hPw : va_P g.1 vwCl (w1 u) H := fun k q hq => hw9.1 k q (by rw [List.getElem?_append_left (List.getElem?_eq_some_iff.mp hq).1]; exact hq)
    have hDw : va_D (va_A wW s.heap.size) (w1 u) := ⟨fun i j x y hi hj => hw9.2.1.1 i j x y (by rw [List.getElem?_append_left (List.getElem?_eq_some_iff.mp hi).1]; exact hi) (by rw [List.getElem?_append_left (List.getElem?_eq_some_iff.mp hj).1]; exact hj), hw9.2.2.1⟩
    refine W.widen hk1 hk2 ?_
    exact vx_ret (W.vret hC.1 hC.2.1 B.returns (fun t ht hW => ⟨⟨u, rfl, hp, by rw [ht]; exact hPw, hDw⟩, hw9.2.2.2.F ht⟩) hw9.2.2.2.2.2 hdg B.notSynchronized)
  · intro E pc lv st kc ks hpe hk1 hk2 H locs ls q ce hw9 hl9 hce hcv hcl
    exact vx_out (fun x hx => (hnt x hx).elim) B.notSynchronized hce hcv hcl (fun t ht hvm => ⟨(), trivial, hpe, hw9.2.2.2.F ht⟩) (fun z hz => Or.inr (hw9.2.2.2.2.2 z hz)) hk1 hk2
  · intro pc lv st kc ks cls text names ik is ic hfc hfn hk hini hsl hat hgood d0 d3 d4 d6 d9 hRf hRl hRc hRs hpe hk1 hk2 H locs ls hw9 hl9
    obtain ⟨sa, hsa⟩ := hT.2 (is, text) hsl
    exact vx_throwS (A := (fun q => s.heap.size ≤ q)) hC.1 hC.2.1 hlf hC.2.2.2.1 hfc hfn (hC.ts _ hk) (hC.ts _ hini) (by rw [show RX3 = own from hsown] at hsa; exact hsa) (fun w hw => hC.ts w (hat w hw)) hgood hT1.1.1 hT1.1.2 hw9.2.2.2 (hl9.1.trans hml.symm) d0 d3 d4 d6 d9 (fun x hx => (hnt x hx).elim) hRf hRl hRc hRs B.notSynchronized (fun t hvm hz hq => ⟨(), trivial, hpe, ⟨Nat.le_trans hw9.2.2.2.1 hz, fun q h1 h2 => (hq q (Nat.lt_of_lt_of_le h1 hw9.2.2.2.1)).trans (hw9.2.2.2.2.1 q h1 h2)⟩⟩) (fun z hz => Or.inr (hw9.2.2.2.2.2 z hz)) hk1 hk2
theorem x_open0_i {l : Launch} {y : MethodName} {ws ws' : List Cond} {rm : Room} {cc : ByteArray} {maxL : Nat} {ret : FieldType} {av : List Value} {sz : Nat} {wW : va_W} {g : Gx} {S : Type} {post : Int32 → S → Prop} {w1 : S → va_W} {mc ms : Nat} {own : String} {sl : List (Nat × String)} {pe : String → Prop}  (hy : plainName y.cls = true) (hw : ws = Cond.code y cc maxL (some ret) :: ws') (hown : y.cls = own) (hlen : (lg_sl av).length ≤ maxL) (hlf : l.stackTraces = false) (hsown : RX3 = own)
    (body : ∀ (p : Program) (e : Env) (s : State) (m : MethodId) (args : Array Value) (below : List Frame) (meth : Method) (c : Code) (Q : State → Prop), CX p s m args meth c (fun q => s.heap.size ≤ q) g maxL cc ws own → TH sl (fun q => s.heap.size ≤ q) s s.heap → (∀ (pc : Nat) (lv : List (Nat × Value)) (v : Int32) (u : S) (vW vR : va_W) (kc ks : Nat), decode cc pc = .ok (.ireturn, 1) → narrow ret (.int v) = .int v → post v u → w1 u = vW → kc ≤ mc → ks ≤ ms → Z p l e rm s m args below meth c Q (va_A wW s.heap.size) g maxL pc lv [.int v] vW vR kc ks) →
      (∀ (E : String) (pc : Nat) (lv : List (Nat × Value)) (st : List Value) (kc ks : Nat), pe E → kc ≤ mc → ks ≤ ms → ZX p l e rm s m args below meth c Q (fun q => s.heap.size ≤ q) g maxL E pc lv st [] wW kc ks) →
      (∀ (pc : Nat) (lv : List (Nat × Value)) (st : List Value) (kc ks : Nat) (cls text : String) (names : List String) (ik is ic : Nat), Bundle.fit cls = true → (∀ n ∈ names, Bundle.fit n = true) → Cond.classLink own ik cls ∈ ws → Cond.initialized cls ∈ ws → (is, text) ∈ sl → (∀ w ∈ vx_atS own ic cls names, w ∈ ws) → (∀ w ∈ Cond.classLink own ik cls :: Cond.initialized cls :: vx_atS own ic cls names, vx_ot w = true) →
        decode cc pc = .ok (.new ik, 3) → decode cc (pc + 3) = .ok (.dup, 1) → decode cc (pc + 4) = .ok (.ldc is, 2) → decode cc (pc + 6) = .ok (.invokespecial ic, 3) → decode cc (pc + 9) = .ok (.athrow, 1) → names.length + 3 < rm.frames → (st.map fun v => v.category).sum + (13 * (names.length + 1) + 43) ≤ rm.locals → kc + 1 ≤ rm.cells → ks + 6 ≤ rm.slots → pe cls → kc + 1 ≤ mc → ks + 6 ≤ ms → Z p l e rm s m args below meth c Q (fun q => s.heap.size ≤ q) g maxL pc lv st [] wW kc ks) →
      Z p l e rm s m args below meth c Q (fun q => s.heap.size ≤ q) g maxL 0 (lv_args 0 av) [] [] wW 0 0) :
    vx_Met l y ws rm (PX sl g av sz wW []) (va_Qi post (BZ g wW sz w1) (va_A wW sz)) (XZ pe sz) mc ms (va_A wW sz) := by
  refine vx_ofW (cc := cc) (maxL := maxL) (ret := (some ret)) hy hw ?_
  intro p e s m args below meth c s₁ B hml hnt hv
  obtain ⟨rfl, hsz, hP, hK, hD, hT⟩ := hv
  rw [List.append_nil] at hP hD
  subst hsz
  have hC : CX p s m av.toArray meth c (fun q => s.heap.size ≤ q) g maxL cc ws own := ⟨B.exec, B.bytes, hml, by rw [← hown]; exact findClass_of_methodNamed B.named, atoms_spec (ws := ws) B.pre, hK, fun q h => h, B.notSynchronized⟩
  have hl := lv_entry av (n := maxL) hlen
  have hT1 : TH sl (fun q => s.heap.size ≤ q) s s.heap := ⟨⟨hT.1.1.narrow (fun q h => Or.inr h), hT.1.2.narrow (fun q h => Or.inr h)⟩, hT.2⟩
  rw [lg_entry_eq]
  refine body p e s m _ below meth c _ hC hT1 ?_ ?_ ?_ s.heap [] _ ⟨hP, hD, (fun k q hk => by cases hk), va_S.rf⟩ hl
  · intro pc lv v u vW vR kc ks hdg hnr hp hu hk1 hk2 H locs ls hw9 hl9
    subst hu
    have hPw : va_P g.1 vwCl (w1 u) H := fun k q hq => hw9.1 k q (by rw [List.getElem?_append_left (List.getElem?_eq_some_iff.mp hq).1]; exact hq)
    have hDw : va_D (va_A wW s.heap.size) (w1 u) := ⟨fun i j x y hi hj => hw9.2.1.1 i j x y (by rw [List.getElem?_append_left (List.getElem?_eq_some_iff.mp hi).1]; exact hi) (by rw [List.getElem?_append_left (List.getElem?_eq_some_iff.mp hj).1]; exact hj), hw9.2.2.1⟩
    refine W.widen hk1 hk2 ?_
    exact vx_ret (W.zret hC.1 hC.2.1 B.returns hnr (fun t ht hW => ⟨⟨v, u, rfl, hp, by rw [ht]; exact hPw, hDw⟩, hw9.2.2.2.F ht⟩) hw9.2.2.2.2.2 hdg B.notSynchronized)
  · intro E pc lv st kc ks hpe hk1 hk2 H locs ls q ce hw9 hl9 hce hcv hcl
    exact vx_out (fun x hx => (hnt x hx).elim) B.notSynchronized hce hcv hcl (fun t ht hvm => ⟨(), trivial, hpe, hw9.2.2.2.F ht⟩) (fun z hz => Or.inr (hw9.2.2.2.2.2 z hz)) hk1 hk2
  · intro pc lv st kc ks cls text names ik is ic hfc hfn hk hini hsl hat hgood d0 d3 d4 d6 d9 hRf hRl hRc hRs hpe hk1 hk2 H locs ls hw9 hl9
    obtain ⟨sa, hsa⟩ := hT.2 (is, text) hsl
    exact vx_throwS (A := (fun q => s.heap.size ≤ q)) hC.1 hC.2.1 hlf hC.2.2.2.1 hfc hfn (hC.ts _ hk) (hC.ts _ hini) (by rw [show RX3 = own from hsown] at hsa; exact hsa) (fun w hw => hC.ts w (hat w hw)) hgood hT1.1.1 hT1.1.2 hw9.2.2.2 (hl9.1.trans hml.symm) d0 d3 d4 d6 d9 (fun x hx => (hnt x hx).elim) hRf hRl hRc hRs B.notSynchronized (fun t hvm hz hq => ⟨(), trivial, hpe, ⟨Nat.le_trans hw9.2.2.2.1 hz, fun q h1 h2 => (hq q (Nat.lt_of_lt_of_le h1 hw9.2.2.2.1)).trans (hw9.2.2.2.2.1 q h1 h2)⟩⟩) (fun z hz => Or.inr (hw9.2.2.2.2.2 z hz)) hk1 hk2
theorem x_open0_l {l : Launch} {y : MethodName} {ws ws' : List Cond} {rm : Room} {cc : ByteArray} {maxL : Nat}  {av : List Value} {sz : Nat} {wW : va_W} {g : Gx} {S : Type} {post : Int64 → S → Prop} {w1 : S → va_W} {mc ms : Nat} {own : String} {sl : List (Nat × String)} {pe : String → Prop}  (hy : plainName y.cls = true) (hw : ws = Cond.code y cc maxL (some .long) :: ws') (hown : y.cls = own) (hlen : (lg_sl av).length ≤ maxL) (hlf : l.stackTraces = false) (hsown : RX3 = own)
    (body : ∀ (p : Program) (e : Env) (s : State) (m : MethodId) (args : Array Value) (below : List Frame) (meth : Method) (c : Code) (Q : State → Prop), CX p s m args meth c (fun q => s.heap.size ≤ q) g maxL cc ws own → TH sl (fun q => s.heap.size ≤ q) s s.heap → (∀ (pc : Nat) (lv : List (Nat × Value)) (v : Int64) (u : S) (vW vR : va_W) (kc ks : Nat), decode cc pc = .ok (.lreturn, 1) → post v u → w1 u = vW → kc ≤ mc → ks ≤ ms → Z p l e rm s m args below meth c Q (va_A wW s.heap.size) g maxL pc lv [.long v] vW vR kc ks) →
      (∀ (E : String) (pc : Nat) (lv : List (Nat × Value)) (st : List Value) (kc ks : Nat), pe E → kc ≤ mc → ks ≤ ms → ZX p l e rm s m args below meth c Q (fun q => s.heap.size ≤ q) g maxL E pc lv st [] wW kc ks) →
      (∀ (pc : Nat) (lv : List (Nat × Value)) (st : List Value) (kc ks : Nat) (cls text : String) (names : List String) (ik is ic : Nat), Bundle.fit cls = true → (∀ n ∈ names, Bundle.fit n = true) → Cond.classLink own ik cls ∈ ws → Cond.initialized cls ∈ ws → (is, text) ∈ sl → (∀ w ∈ vx_atS own ic cls names, w ∈ ws) → (∀ w ∈ Cond.classLink own ik cls :: Cond.initialized cls :: vx_atS own ic cls names, vx_ot w = true) →
        decode cc pc = .ok (.new ik, 3) → decode cc (pc + 3) = .ok (.dup, 1) → decode cc (pc + 4) = .ok (.ldc is, 2) → decode cc (pc + 6) = .ok (.invokespecial ic, 3) → decode cc (pc + 9) = .ok (.athrow, 1) → names.length + 3 < rm.frames → (st.map fun v => v.category).sum + (13 * (names.length + 1) + 43) ≤ rm.locals → kc + 1 ≤ rm.cells → ks + 6 ≤ rm.slots → pe cls → kc + 1 ≤ mc → ks + 6 ≤ ms → Z p l e rm s m args below meth c Q (fun q => s.heap.size ≤ q) g maxL pc lv st [] wW kc ks) →
      Z p l e rm s m args below meth c Q (fun q => s.heap.size ≤ q) g maxL 0 (lv_args 0 av) [] [] wW 0 0) :
    vx_Met l y ws rm (PX sl g av sz wW []) (va_Ql post (BZ g wW sz w1) (va_A wW sz)) (XZ pe sz) mc ms (va_A wW sz) := by
  refine vx_ofW (cc := cc) (maxL := maxL) (ret := (some .long)) hy hw ?_
  intro p e s m args below meth c s₁ B hml hnt hv
  obtain ⟨rfl, hsz, hP, hK, hD, hT⟩ := hv
  rw [List.append_nil] at hP hD
  subst hsz
  have hC : CX p s m av.toArray meth c (fun q => s.heap.size ≤ q) g maxL cc ws own := ⟨B.exec, B.bytes, hml, by rw [← hown]; exact findClass_of_methodNamed B.named, atoms_spec (ws := ws) B.pre, hK, fun q h => h, B.notSynchronized⟩
  have hl := lv_entry av (n := maxL) hlen
  have hT1 : TH sl (fun q => s.heap.size ≤ q) s s.heap := ⟨⟨hT.1.1.narrow (fun q h => Or.inr h), hT.1.2.narrow (fun q h => Or.inr h)⟩, hT.2⟩
  rw [lg_entry_eq]
  refine body p e s m _ below meth c _ hC hT1 ?_ ?_ ?_ s.heap [] _ ⟨hP, hD, (fun k q hk => by cases hk), va_S.rf⟩ hl
  · intro pc lv v u vW vR kc ks hdg hp hu hk1 hk2 H locs ls hw9 hl9
    subst hu
    have hPw : va_P g.1 vwCl (w1 u) H := fun k q hq => hw9.1 k q (by rw [List.getElem?_append_left (List.getElem?_eq_some_iff.mp hq).1]; exact hq)
    have hDw : va_D (va_A wW s.heap.size) (w1 u) := ⟨fun i j x y hi hj => hw9.2.1.1 i j x y (by rw [List.getElem?_append_left (List.getElem?_eq_some_iff.mp hi).1]; exact hi) (by rw [List.getElem?_append_left (List.getElem?_eq_some_iff.mp hj).1]; exact hj), hw9.2.2.1⟩
    refine W.widen hk1 hk2 ?_
    exact vx_ret (W.lret hC.1 hC.2.1 B.returns (fun t ht hW => ⟨⟨v, u, rfl, hp, by rw [ht]; exact hPw, hDw⟩, hw9.2.2.2.F ht⟩) hw9.2.2.2.2.2 hdg B.notSynchronized)
  · intro E pc lv st kc ks hpe hk1 hk2 H locs ls q ce hw9 hl9 hce hcv hcl
    exact vx_out (fun x hx => (hnt x hx).elim) B.notSynchronized hce hcv hcl (fun t ht hvm => ⟨(), trivial, hpe, hw9.2.2.2.F ht⟩) (fun z hz => Or.inr (hw9.2.2.2.2.2 z hz)) hk1 hk2
  · intro pc lv st kc ks cls text names ik is ic hfc hfn hk hini hsl hat hgood d0 d3 d4 d6 d9 hRf hRl hRc hRs hpe hk1 hk2 H locs ls hw9 hl9
    obtain ⟨sa, hsa⟩ := hT.2 (is, text) hsl
    exact vx_throwS (A := (fun q => s.heap.size ≤ q)) hC.1 hC.2.1 hlf hC.2.2.2.1 hfc hfn (hC.ts _ hk) (hC.ts _ hini) (by rw [show RX3 = own from hsown] at hsa; exact hsa) (fun w hw => hC.ts w (hat w hw)) hgood hT1.1.1 hT1.1.2 hw9.2.2.2 (hl9.1.trans hml.symm) d0 d3 d4 d6 d9 (fun x hx => (hnt x hx).elim) hRf hRl hRc hRs B.notSynchronized (fun t hvm hz hq => ⟨(), trivial, hpe, ⟨Nat.le_trans hw9.2.2.2.1 hz, fun q h1 h2 => (hq q (Nat.lt_of_lt_of_le h1 hw9.2.2.2.1)).trans (hw9.2.2.2.2.1 q h1 h2)⟩⟩) (fun z hz => Or.inr (hw9.2.2.2.2.2 z hz)) hk1 hk2
theorem x_open0_v {l : Launch} {y : MethodName} {ws ws' : List Cond} {rm : Room} {cc : ByteArray} {maxL : Nat}  {av : List Value} {sz : Nat} {wW : va_W} {g : Gx} {S : Type} {post : S → Prop} {w1 : S → va_W} {mc ms : Nat} {own : String} {sl : List (Nat × String)} {pe : String → Prop}  (hy : plainName y.cls = true) (hw : ws = Cond.code y cc maxL none :: ws') (hown : y.cls = own) (hlen : (lg_sl av).length ≤ maxL) (hlf : l.stackTraces = false) (hsown : RX3 = own)
    (body : ∀ (p : Program) (e : Env) (s : State) (m : MethodId) (args : Array Value) (below : List Frame) (meth : Method) (c : Code) (Q : State → Prop), CX p s m args meth c (fun q => s.heap.size ≤ q) g maxL cc ws own → TH sl (fun q => s.heap.size ≤ q) s s.heap → (∀ (pc : Nat) (lv : List (Nat × Value)) (u : S) (vW vR : va_W) (kc ks : Nat), decode cc pc = .ok (.return_, 1) → post u → w1 u = vW → kc ≤ mc → ks ≤ ms → Z p l e rm s m args below meth c Q (va_A wW s.heap.size) g maxL pc lv [] vW vR kc ks) →
      (∀ (E : String) (pc : Nat) (lv : List (Nat × Value)) (st : List Value) (kc ks : Nat), pe E → kc ≤ mc → ks ≤ ms → ZX p l e rm s m args below meth c Q (fun q => s.heap.size ≤ q) g maxL E pc lv st [] wW kc ks) →
      (∀ (pc : Nat) (lv : List (Nat × Value)) (st : List Value) (kc ks : Nat) (cls text : String) (names : List String) (ik is ic : Nat), Bundle.fit cls = true → (∀ n ∈ names, Bundle.fit n = true) → Cond.classLink own ik cls ∈ ws → Cond.initialized cls ∈ ws → (is, text) ∈ sl → (∀ w ∈ vx_atS own ic cls names, w ∈ ws) → (∀ w ∈ Cond.classLink own ik cls :: Cond.initialized cls :: vx_atS own ic cls names, vx_ot w = true) →
        decode cc pc = .ok (.new ik, 3) → decode cc (pc + 3) = .ok (.dup, 1) → decode cc (pc + 4) = .ok (.ldc is, 2) → decode cc (pc + 6) = .ok (.invokespecial ic, 3) → decode cc (pc + 9) = .ok (.athrow, 1) → names.length + 3 < rm.frames → (st.map fun v => v.category).sum + (13 * (names.length + 1) + 43) ≤ rm.locals → kc + 1 ≤ rm.cells → ks + 6 ≤ rm.slots → pe cls → kc + 1 ≤ mc → ks + 6 ≤ ms → Z p l e rm s m args below meth c Q (fun q => s.heap.size ≤ q) g maxL pc lv st [] wW kc ks) →
      Z p l e rm s m args below meth c Q (fun q => s.heap.size ≤ q) g maxL 0 (lv_args 0 av) [] [] wW 0 0) :
    vx_Met l y ws rm (PX sl g av sz wW []) (va_Qv post (BZ g wW sz w1) (va_A wW sz)) (XZ pe sz) mc ms (va_A wW sz) := by
  refine vx_ofW (cc := cc) (maxL := maxL) (ret := none) hy hw ?_
  intro p e s m args below meth c s₁ B hml hnt hv
  obtain ⟨rfl, hsz, hP, hK, hD, hT⟩ := hv
  rw [List.append_nil] at hP hD
  subst hsz
  have hC : CX p s m av.toArray meth c (fun q => s.heap.size ≤ q) g maxL cc ws own := ⟨B.exec, B.bytes, hml, by rw [← hown]; exact findClass_of_methodNamed B.named, atoms_spec (ws := ws) B.pre, hK, fun q h => h, B.notSynchronized⟩
  have hl := lv_entry av (n := maxL) hlen
  have hT1 : TH sl (fun q => s.heap.size ≤ q) s s.heap := ⟨⟨hT.1.1.narrow (fun q h => Or.inr h), hT.1.2.narrow (fun q h => Or.inr h)⟩, hT.2⟩
  rw [lg_entry_eq]
  refine body p e s m _ below meth c _ hC hT1 ?_ ?_ ?_ s.heap [] _ ⟨hP, hD, (fun k q hk => by cases hk), va_S.rf⟩ hl
  · intro pc lv u vW vR kc ks hdg hp hu hk1 hk2 H locs ls hw9 hl9
    subst hu
    have hPw : va_P g.1 vwCl (w1 u) H := fun k q hq => hw9.1 k q (by rw [List.getElem?_append_left (List.getElem?_eq_some_iff.mp hq).1]; exact hq)
    have hDw : va_D (va_A wW s.heap.size) (w1 u) := ⟨fun i j x y hi hj => hw9.2.1.1 i j x y (by rw [List.getElem?_append_left (List.getElem?_eq_some_iff.mp hi).1]; exact hi) (by rw [List.getElem?_append_left (List.getElem?_eq_some_iff.mp hj).1]; exact hj), hw9.2.2.1⟩
    refine W.widen hk1 hk2 ?_
    exact vx_ret (W.vret hC.1 hC.2.1 B.returns (fun t ht hW => ⟨⟨u, rfl, hp, by rw [ht]; exact hPw, hDw⟩, hw9.2.2.2.F ht⟩) hw9.2.2.2.2.2 hdg B.notSynchronized)
  · intro E pc lv st kc ks hpe hk1 hk2 H locs ls q ce hw9 hl9 hce hcv hcl
    exact vx_out (fun x hx => (hnt x hx).elim) B.notSynchronized hce hcv hcl (fun t ht hvm => ⟨(), trivial, hpe, hw9.2.2.2.F ht⟩) (fun z hz => Or.inr (hw9.2.2.2.2.2 z hz)) hk1 hk2
  · intro pc lv st kc ks cls text names ik is ic hfc hfn hk hini hsl hat hgood d0 d3 d4 d6 d9 hRf hRl hRc hRs hpe hk1 hk2 H locs ls hw9 hl9
    obtain ⟨sa, hsa⟩ := hT.2 (is, text) hsl
    exact vx_throwS (A := (fun q => s.heap.size ≤ q)) hC.1 hC.2.1 hlf hC.2.2.2.1 hfc hfn (hC.ts _ hk) (hC.ts _ hini) (by rw [show RX3 = own from hsown] at hsa; exact hsa) (fun w hw => hC.ts w (hat w hw)) hgood hT1.1.1 hT1.1.2 hw9.2.2.2 (hl9.1.trans hml.symm) d0 d3 d4 d6 d9 (fun x hx => (hnt x hx).elim) hRf hRl hRc hRs B.notSynchronized (fun t hvm hz hq => ⟨(), trivial, hpe, ⟨Nat.le_trans hw9.2.2.2.1 hz, fun q h1 h2 => (hq q (Nat.lt_of_lt_of_le h1 hw9.2.2.2.1)).trans (hw9.2.2.2.2.1 q h1 h2)⟩⟩) (fun z hz => Or.inr (hw9.2.2.2.2.2 z hz)) hk1 hk2
end
