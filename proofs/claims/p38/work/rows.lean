section
-- ===== PART A: goes FIRST, ahead of the names: the tables' words, and 'selects' of the private methods out of them =====
/-- a private method of a class that the tables say can be made, by its rows of tables_1 -/
def lw_okq (q : MethodName × Nat) : Prop := (q.1.cls ≠ "java/lang/invoke/MethodHandle" ∧ q.1.cls ≠ "java/lang/invoke/VarHandle") ∧ Cond.instantiable q.1.cls q.2 ∈ tables_1 ∧ Cond.privateMethod q.1 ∈ tables_1 ∧ Cond.instanceMethod q.1 ∈ tables_1
theorem lw_p0 : lw_okq (⟨"NetworkCenters$Survey", "measureNodes", "()V"⟩, 17) := ⟨⟨by decide +kernel, by decide +kernel⟩, List.mem_of_getElem? (i := 103) (by decide +kernel), List.mem_of_getElem? (i := 324) (by decide +kernel), List.mem_of_getElem? (i := 325) (by decide +kernel)⟩
theorem lw_p1 : lw_okq (⟨"NetworkCenters$Survey", "shortenBy", "(I)V"⟩, 17) := ⟨⟨by decide +kernel, by decide +kernel⟩, List.mem_of_getElem? (i := 103) (by decide +kernel), List.mem_of_getElem? (i := 334) (by decide +kernel), List.mem_of_getElem? (i := 335) (by decide +kernel)⟩
theorem lw_p2 : lw_okq (⟨"NetworkCenters$Survey", "measureEdges", "()V"⟩, 17) := ⟨⟨by decide +kernel, by decide +kernel⟩, List.mem_of_getElem? (i := 103) (by decide +kernel), List.mem_of_getElem? (i := 342) (by decide +kernel), List.mem_of_getElem? (i := 343) (by decide +kernel)⟩
theorem lw_p3 : lw_okq (⟨"NetworkCenters$Survey", "gather", "()V"⟩, 17) := ⟨⟨by decide +kernel, by decide +kernel⟩, List.mem_of_getElem? (i := 103) (by decide +kernel), List.mem_of_getElem? (i := 346) (by decide +kernel), List.mem_of_getElem? (i := 347) (by decide +kernel)⟩
theorem lw_p4 : lw_okq (⟨"NetworkCenters$Survey", "addPoint", "(III)V"⟩, 17) := ⟨⟨by decide +kernel, by decide +kernel⟩, List.mem_of_getElem? (i := 103) (by decide +kernel), List.mem_of_getElem? (i := 350) (by decide +kernel), List.mem_of_getElem? (i := 351) (by decide +kernel)⟩
theorem lw_p5 : lw_okq (⟨"NetworkCenters$Survey", "addCrossing", "(III)V"⟩, 17) := ⟨⟨by decide +kernel, by decide +kernel⟩, List.mem_of_getElem? (i := 103) (by decide +kernel), List.mem_of_getElem? (i := 359) (by decide +kernel), List.mem_of_getElem? (i := 360) (by decide +kernel)⟩
theorem lw_p6 : lw_okq (⟨"NetworkCenters$Survey", "lead", "(IIII)I"⟩, 17) := ⟨⟨by decide +kernel, by decide +kernel⟩, List.mem_of_getElem? (i := 103) (by decide +kernel), List.mem_of_getElem? (i := 371) (by decide +kernel), List.mem_of_getElem? (i := 372) (by decide +kernel)⟩
theorem lw_p7 : lw_okq (⟨"java/lang/Throwable", "fillInStackTrace", "(I)Ljava/lang/Throwable;"⟩, 6) := ⟨⟨by decide +kernel, by decide +kernel⟩, List.mem_of_getElem? (i := 439) (by decide +kernel), List.mem_of_getElem? (i := 437) (by decide +kernel), List.mem_of_getElem? (i := 438) (by decide +kernel)⟩
theorem lw_p8 : lw_okq (⟨"NetworkCenters", "remember", "()V"⟩, 8) := ⟨⟨by decide +kernel, by decide +kernel⟩, List.mem_of_getElem? (i := 16) (by decide +kernel), List.mem_of_getElem? (i := 469) (by decide +kernel), List.mem_of_getElem? (i := 470) (by decide +kernel)⟩
theorem lw_p9 : lw_okq (⟨"NetworkCenters", "dropOldestRecord", "()V"⟩, 8) := ⟨⟨by decide +kernel, by decide +kernel⟩, List.mem_of_getElem? (i := 16) (by decide +kernel), List.mem_of_getElem? (i := 473) (by decide +kernel), List.mem_of_getElem? (i := 474) (by decide +kernel)⟩
theorem lw_p10 : lw_okq (⟨"NetworkCenters", "recordAt", "(I)LNetworkCenters$Network;"⟩, 8) := ⟨⟨by decide +kernel, by decide +kernel⟩, List.mem_of_getElem? (i := 16) (by decide +kernel), List.mem_of_getElem? (i := 477) (by decide +kernel), List.mem_of_getElem? (i := 478) (by decide +kernel)⟩
theorem lw_p11 : lw_okq (⟨"NetworkCenters", "networkFact", "(I)I"⟩, 8) := ⟨⟨by decide +kernel, by decide +kernel⟩, List.mem_of_getElem? (i := 16) (by decide +kernel), List.mem_of_getElem? (i := 628) (by decide +kernel), List.mem_of_getElem? (i := 629) (by decide +kernel)⟩
theorem lw_p12 : lw_okq (⟨"NetworkCenters$Survey", "startSeeking", "()V"⟩, 17) := ⟨⟨by decide +kernel, by decide +kernel⟩, List.mem_of_getElem? (i := 103) (by decide +kernel), List.mem_of_getElem? (i := 654) (by decide +kernel), List.mem_of_getElem? (i := 655) (by decide +kernel)⟩
theorem lw_p13 : lw_okq (⟨"NetworkCenters$Survey", "offer", "(II)V"⟩, 17) := ⟨⟨by decide +kernel, by decide +kernel⟩, List.mem_of_getElem? (i := 103) (by decide +kernel), List.mem_of_getElem? (i := 673) (by decide +kernel), List.mem_of_getElem? (i := 674) (by decide +kernel)⟩
theorem lw_p14 : lw_okq (⟨"NetworkCenters$Survey", "comesBeforeBest", "(I)Z"⟩, 17) := ⟨⟨by decide +kernel, by decide +kernel⟩, List.mem_of_getElem? (i := 103) (by decide +kernel), List.mem_of_getElem? (i := 677) (by decide +kernel), List.mem_of_getElem? (i := 678) (by decide +kernel)⟩
theorem lw_p15 : lw_okq (⟨"NetworkCenters", "mixNetwork", "(J)J"⟩, 8) := ⟨⟨by decide +kernel, by decide +kernel⟩, List.mem_of_getElem? (i := 16) (by decide +kernel), List.mem_of_getElem? (i := 732) (by decide +kernel), List.mem_of_getElem? (i := 733) (by decide +kernel)⟩
def lw_privs_1 : List (MethodName × Nat) := [(⟨"NetworkCenters$Survey", "measureNodes", "()V"⟩, 17), (⟨"NetworkCenters$Survey", "shortenBy", "(I)V"⟩, 17), (⟨"NetworkCenters$Survey", "measureEdges", "()V"⟩, 17), (⟨"NetworkCenters$Survey", "gather", "()V"⟩, 17), (⟨"NetworkCenters$Survey", "addPoint", "(III)V"⟩, 17), (⟨"NetworkCenters$Survey", "addCrossing", "(III)V"⟩, 17), (⟨"NetworkCenters$Survey", "lead", "(IIII)I"⟩, 17), (⟨"java/lang/Throwable", "fillInStackTrace", "(I)Ljava/lang/Throwable;"⟩, 6), (⟨"NetworkCenters", "remember", "()V"⟩, 8), (⟨"NetworkCenters", "dropOldestRecord", "()V"⟩, 8), (⟨"NetworkCenters", "recordAt", "(I)LNetworkCenters$Network;"⟩, 8), (⟨"NetworkCenters", "networkFact", "(I)I"⟩, 8), (⟨"NetworkCenters$Survey", "startSeeking", "()V"⟩, 17), (⟨"NetworkCenters$Survey", "offer", "(II)V"⟩, 17), (⟨"NetworkCenters$Survey", "comesBeforeBest", "(I)Z"⟩, 17), (⟨"NetworkCenters", "mixNetwork", "(J)J"⟩, 8)]
theorem lw_r1 : ∀ q ∈ lw_privs_1, lw_okq q := List.forall_mem_cons.mpr ⟨lw_p0, List.forall_mem_cons.mpr ⟨lw_p1, List.forall_mem_cons.mpr ⟨lw_p2, List.forall_mem_cons.mpr ⟨lw_p3, List.forall_mem_cons.mpr ⟨lw_p4, List.forall_mem_cons.mpr ⟨lw_p5, List.forall_mem_cons.mpr ⟨lw_p6, List.forall_mem_cons.mpr ⟨lw_p7, List.forall_mem_cons.mpr ⟨lw_p8, List.forall_mem_cons.mpr ⟨lw_p9, List.forall_mem_cons.mpr ⟨lw_p10, List.forall_mem_cons.mpr ⟨lw_p11, List.forall_mem_cons.mpr ⟨lw_p12, List.forall_mem_cons.mpr ⟨lw_p13, List.forall_mem_cons.mpr ⟨lw_p14, List.forall_mem_cons.mpr ⟨lw_p15, fun _ h => absurd h List.not_mem_nil⟩⟩⟩⟩⟩⟩⟩⟩⟩⟩⟩⟩⟩⟩⟩⟩
theorem lw_p16 : lw_okq (⟨"NetworkCenters", "mixCenters", "(J)J"⟩, 8) := ⟨⟨by decide +kernel, by decide +kernel⟩, List.mem_of_getElem? (i := 16) (by decide +kernel), List.mem_of_getElem? (i := 748) (by decide +kernel), List.mem_of_getElem? (i := 749) (by decide +kernel)⟩
theorem lw_p17 : lw_okq (⟨"NetworkCenters", "bestFact", "(I)I"⟩, 8) := ⟨⟨by decide +kernel, by decide +kernel⟩, List.mem_of_getElem? (i := 16) (by decide +kernel), List.mem_of_getElem? (i := 752) (by decide +kernel), List.mem_of_getElem? (i := 753) (by decide +kernel)⟩
theorem lw_p18 : lw_okq (⟨"NetworkCenters$Groups", "lowerRadii", "(III)V"⟩, 7) := ⟨⟨by decide +kernel, by decide +kernel⟩, List.mem_of_getElem? (i := 209) (by decide +kernel), List.mem_of_getElem? (i := 779) (by decide +kernel), List.mem_of_getElem? (i := 780) (by decide +kernel)⟩
theorem lw_p19 : lw_okq (⟨"NetworkCenters$Groups", "lowerRadius", "(III)V"⟩, 7) := ⟨⟨by decide +kernel, by decide +kernel⟩, List.mem_of_getElem? (i := 209) (by decide +kernel), List.mem_of_getElem? (i := 783) (by decide +kernel), List.mem_of_getElem? (i := 784) (by decide +kernel)⟩
theorem lw_p20 : lw_okq (⟨"NetworkCenters$Groups", "divide", "(II)V"⟩, 7) := ⟨⟨by decide +kernel, by decide +kernel⟩, List.mem_of_getElem? (i := 209) (by decide +kernel), List.mem_of_getElem? (i := 794) (by decide +kernel), List.mem_of_getElem? (i := 795) (by decide +kernel)⟩
theorem lw_p21 : lw_okq (⟨"NetworkCenters$Groups", "isLess", "(II)Z"⟩, 7) := ⟨⟨by decide +kernel, by decide +kernel⟩, List.mem_of_getElem? (i := 209) (by decide +kernel), List.mem_of_getElem? (i := 801) (by decide +kernel), List.mem_of_getElem? (i := 802) (by decide +kernel)⟩
theorem lw_p22 : lw_okq (⟨"NetworkCenters", "groupRadius", "(II)I"⟩, 8) := ⟨⟨by decide +kernel, by decide +kernel⟩, List.mem_of_getElem? (i := 16) (by decide +kernel), List.mem_of_getElem? (i := 805) (by decide +kernel), List.mem_of_getElem? (i := 806) (by decide +kernel)⟩
theorem lw_p23 : lw_okq (⟨"NetworkCenters$Outline", "addEnd", "(I)V"⟩, 7) := ⟨⟨by decide +kernel, by decide +kernel⟩, List.mem_of_getElem? (i := 175) (by decide +kernel), List.mem_of_getElem? (i := 815) (by decide +kernel), List.mem_of_getElem? (i := 816) (by decide +kernel)⟩
theorem lw_p24 : lw_okq (⟨"NetworkCenters$Outline", "turnsAt", "(II)Z"⟩, 7) := ⟨⟨by decide +kernel, by decide +kernel⟩, List.mem_of_getElem? (i := 175) (by decide +kernel), List.mem_of_getElem? (i := 819) (by decide +kernel), List.mem_of_getElem? (i := 820) (by decide +kernel)⟩
theorem lw_p25 : lw_okq (⟨"NetworkCenters$Outline", "insert", "(II)V"⟩, 7) := ⟨⟨by decide +kernel, by decide +kernel⟩, List.mem_of_getElem? (i := 175) (by decide +kernel), List.mem_of_getElem? (i := 831) (by decide +kernel), List.mem_of_getElem? (i := 832) (by decide +kernel)⟩
theorem lw_p26 : lw_okq (⟨"NetworkCenters$Outline", "addCrossing", "(II)V"⟩, 7) := ⟨⟨by decide +kernel, by decide +kernel⟩, List.mem_of_getElem? (i := 175) (by decide +kernel), List.mem_of_getElem? (i := 845) (by decide +kernel), List.mem_of_getElem? (i := 846) (by decide +kernel)⟩
theorem lw_p27 : lw_okq (⟨"NetworkCenters$Outline", "slopeOf", "(I)I"⟩, 7) := ⟨⟨by decide +kernel, by decide +kernel⟩, List.mem_of_getElem? (i := 175) (by decide +kernel), List.mem_of_getElem? (i := 849) (by decide +kernel), List.mem_of_getElem? (i := 850) (by decide +kernel)⟩
theorem lw_p28 : lw_okq (⟨"NetworkCenters$Outline", "startOf", "(I)I"⟩, 7) := ⟨⟨by decide +kernel, by decide +kernel⟩, List.mem_of_getElem? (i := 175) (by decide +kernel), List.mem_of_getElem? (i := 853) (by decide +kernel), List.mem_of_getElem? (i := 854) (by decide +kernel)⟩
theorem lw_p29 : lw_okq (⟨"NetworkCenters", "cornerFact", "(II)I"⟩, 8) := ⟨⟨by decide +kernel, by decide +kernel⟩, List.mem_of_getElem? (i := 16) (by decide +kernel), List.mem_of_getElem? (i := 857) (by decide +kernel), List.mem_of_getElem? (i := 858) (by decide +kernel)⟩
theorem lw_p30 : lw_okq (⟨"NetworkCenters$Groups", "greatestGroup", "(III)I"⟩, 7) := ⟨⟨by decide +kernel, by decide +kernel⟩, List.mem_of_getElem? (i := 209) (by decide +kernel), List.mem_of_getElem? (i := 978) (by decide +kernel), List.mem_of_getElem? (i := 979) (by decide +kernel)⟩
theorem lw_p31 : lw_okq (⟨"NetworkCenters$Groups", "isWithin", "(III)Z"⟩, 7) := ⟨⟨by decide +kernel, by decide +kernel⟩, List.mem_of_getElem? (i := 209) (by decide +kernel), List.mem_of_getElem? (i := 993) (by decide +kernel), List.mem_of_getElem? (i := 994) (by decide +kernel)⟩
def lw_privs_2 : List (MethodName × Nat) := [(⟨"NetworkCenters", "mixCenters", "(J)J"⟩, 8), (⟨"NetworkCenters", "bestFact", "(I)I"⟩, 8), (⟨"NetworkCenters$Groups", "lowerRadii", "(III)V"⟩, 7), (⟨"NetworkCenters$Groups", "lowerRadius", "(III)V"⟩, 7), (⟨"NetworkCenters$Groups", "divide", "(II)V"⟩, 7), (⟨"NetworkCenters$Groups", "isLess", "(II)Z"⟩, 7), (⟨"NetworkCenters", "groupRadius", "(II)I"⟩, 8), (⟨"NetworkCenters$Outline", "addEnd", "(I)V"⟩, 7), (⟨"NetworkCenters$Outline", "turnsAt", "(II)Z"⟩, 7), (⟨"NetworkCenters$Outline", "insert", "(II)V"⟩, 7), (⟨"NetworkCenters$Outline", "addCrossing", "(II)V"⟩, 7), (⟨"NetworkCenters$Outline", "slopeOf", "(I)I"⟩, 7), (⟨"NetworkCenters$Outline", "startOf", "(I)I"⟩, 7), (⟨"NetworkCenters", "cornerFact", "(II)I"⟩, 8), (⟨"NetworkCenters$Groups", "greatestGroup", "(III)I"⟩, 7), (⟨"NetworkCenters$Groups", "isWithin", "(III)Z"⟩, 7)]
theorem lw_r2 : ∀ q ∈ lw_privs_2, lw_okq q := List.forall_mem_cons.mpr ⟨lw_p16, List.forall_mem_cons.mpr ⟨lw_p17, List.forall_mem_cons.mpr ⟨lw_p18, List.forall_mem_cons.mpr ⟨lw_p19, List.forall_mem_cons.mpr ⟨lw_p20, List.forall_mem_cons.mpr ⟨lw_p21, List.forall_mem_cons.mpr ⟨lw_p22, List.forall_mem_cons.mpr ⟨lw_p23, List.forall_mem_cons.mpr ⟨lw_p24, List.forall_mem_cons.mpr ⟨lw_p25, List.forall_mem_cons.mpr ⟨lw_p26, List.forall_mem_cons.mpr ⟨lw_p27, List.forall_mem_cons.mpr ⟨lw_p28, List.forall_mem_cons.mpr ⟨lw_p29, List.forall_mem_cons.mpr ⟨lw_p30, List.forall_mem_cons.mpr ⟨lw_p31, fun _ h => absurd h List.not_mem_nil⟩⟩⟩⟩⟩⟩⟩⟩⟩⟩⟩⟩⟩⟩⟩⟩
def lw_privs : List (MethodName × Nat) := lw_privs_1 ++ (lw_privs_2)
def lw_tbl : List Cond := k2_sels lw_privs ++ tables_1
theorem lw_privs_ok : ∀ q ∈ lw_privs, lw_okq q := by
  show ∀ q ∈ lw_privs_1 ++ (lw_privs_2), lw_okq q
  exact List.forall_mem_append.mpr ⟨lw_r1, lw_r2⟩
-- ===== end of PART A; then your names; then what follows =====
end
section
/-! ===== BEGIN words of one list among another's, by their places ===== -/
theorem goodIn_r {big : List Cond} (ws : List Cond) (ps : List Nat) (hp : ws = ps.filterMap (fun i => big[i]?)) (h : ws.all goodWord = true) : GoodIn big ws := by
  intro w hw
  have h1 := List.all_eq_true.mp h w hw
  rw [hp] at hw
  obtain ⟨i, -, hi⟩ := List.mem_filterMap.mp hw
  have hm : w ∈ big := by first | exact List.mem_of_getElem? hi | exact List.getElem?_mem hi
  exact ⟨hm, good_of_word h1⟩
theorem goodIn_app {big a b : List Cond} (ha : GoodIn big a) (hb : GoodIn big b) : GoodIn big (a ++ b) := fun w h => (List.mem_append.mp h).elim (ha w) (hb w)
theorem goodIn_ca {big a b : List Cond} {c : Cond} (ha : GoodIn big (c :: a)) (hb : GoodIn big b) : GoodIn big (c :: (a ++ b)) := fun w h => (List.mem_cons.mp h).elim (fun e => ha w (List.mem_cons.mpr (Or.inl e))) (fun h => (List.mem_append.mp h).elim (fun h => ha w (List.mem_cons.mpr (Or.inr h))) (hb w))
theorem goodIn_sub {big ws : List Cond} (hm : ∀ w ∈ ws, w ∈ big) (h : ws.all goodWord = true) : GoodIn big ws := fun w hw => ⟨hm w hw, good_of_word (List.all_eq_true.mp h w hw)⟩
/-! ===== END ===== -/

/-! ===== BEGIN exceptions that leave a method, and their catching by the caller (launches without stack traces) ===== -/
section VXA
/-! The laws vx_back, vx_callV, vx_callS, vx_callSW, vx_throw0, vx_throwS follow proofs of the library, with one case more: JvmDerived/Free/Laws.lean (Back.of_free), Shelf42/LK1.lean (callV, callS), Shelf/KitTraced.lean (throwNew0V, throwNewS). -/
/-- where a method has thrown q: the class by its name, the cell, what was written, the world -/
def vx_T (XC : String → State → State → Prop) (st : State) (q : Addr) (t : State) (mc ms : Nat) (free : Addr → Prop) : Prop :=
  ∃ (E : String) (ce : Cell) (L : List Loc), XC E st t ∧ t.heap[q]? = some ce ∧ ce.vm = .none ∧ st.vm.findClass E = some ce.cls ∧ st.WarmedH t.vm ∧ st.sameButNew ({ t with vm := st.vm } : State) L mc ms ∧ ∀ z ∈ L, free z.base
def vx_Q (Qc : Array Value → State → Outcome → State → Prop) (XC : String → State → State → Prop) (mc ms : Nat) (free : Addr → Prop) : Array Value → State → Outcome → State → Prop := fun a st o t =>
  (Qc a st o t ∧ ∃ L, FrameEnd st o t L mc ms ∧ ∀ q ∈ L, free q.base) ∨ ∃ q, o = .threw q ∧ vx_T XC st q t mc ms free
/-- a callee that returns or throws -/
def vx_Met (l : Launch) (y : MethodName) (ws : List Cond) (rm : Room) (Pc : Array Value → State → Prop) (Qc : Array Value → State → Outcome → State → Prop) (XC : String → State → State → Prop) (mc ms : Nat) (free : Addr → Prop) : Prop :=
  MetFree l y (headSpec ws rm) Pc (fun _ _ _ _ _ => True) (vx_Q Qc XC mc ms free)
def vx_Post (XC : String → State → State → Prop) (mc ms : Nat) (free : Addr → Prop) : Pt → Array Value → Addr → Pt → Prop := fun A a q B =>
  ∃ (g : JFrame) (mk : MethodId) (t : State) (L : List Loc) (E : String) (ce : Cell), B.U.heap = t.heap ∧ B.U.vm = t.vm ∧ XC E (A.U.calling g mk a) t ∧ t.heap[q]? = some ce ∧ ce.vm = .none ∧ A.U.vm.findClass E = some ce.cls ∧ B.locs = A.locs ++ L ∧ (∀ z ∈ L, free z.base) ∧ B.cells = A.cells + mc ∧ B.slots = A.slots + ms
def vx_Back (l : Launch) (R : Room) (p : Program) (e : Env) (below : List Frame) (s : State) (sargs : Array Value) (y : MethodName) (len W9 : Nat)
    (Pre : Pt → Array Value → Prop) (Post : Pt → Array Value → Option Value → Pt → Prop) (PostX : Pt → Array Value → Addr → Pt → Prop) : Prop :=
  ∀ (m : MethodId) (meth : Method) (c : Code) (A : Pt) (g : JFrame) (ig : Instr) (mk : MethodId) (a : Array Value),
    Stand p l e R s m sargs below meth c A.U A.locs A.cells A.slots → g.method = m → g.locals.size = c.maxLocals → decode c.code g.pc = .ok (ig, len) →
    2 * g.monitorRoom + (g.stack.map fun v => v.category).sum ≤ W9 → A.U.methodNamed? y = some mk → Pre A a →
    (∃ (v : Option Value) (B : Pt), Stand p l e R s m sargs below meth c B.U B.locs B.cells B.slots ∧ Post A a v B ∧
      Steps p.tables e below (doInvoke e (A.U.setTop g) [] mk a).1 (B.U.setTop { g with pc := g.pc + len, stack := v.toList ++ g.stack })) ∨
    (∃ (q : Addr) (B : Pt), Stand p l e R s m sargs below meth c B.U B.locs B.cells B.slots ∧ PostX A a q B ∧
      Steps p.tables e below (doInvoke e (A.U.setTop g) [] mk a).1 ((B.U.setTop g).pushFrame (.throwing q)))
section Payer
variable {l : Launch} {R : Room} {p : Program} {e : Env} {below : List Frame} {s : State} {sargs : Array Value} {y : MethodName} {len W9 : Nat}
theorem vx_back {ws : List Cond} {rm : Room} {Pc : Array Value → State → Prop} {Qc : Array Value → State → Outcome → State → Prop} {XC : String → State → State → Prop} {mc ms : Nat} {free : Addr → Prop} {bytes : ByteArray} {maxL : Nat} {ret : Option FieldType}
    (hM : vx_Met l y ws rm Pc Qc XC mc ms free) (hblind : FrameBlind Pc) (hrc : rm.cells = mc) (hrs : rm.slots = ms)
    (hframes : rm.frames + 1 ≤ R.frames) (hlocals : W9 + (maxL + 11) + rm.locals ≤ R.locals)
    (hws : ∀ w ∈ ws, ∀ a' U, s.WarmedH U.vm → w.before a' U = true) (hcode : Cond.code y bytes maxL ret ∈ ws) (hinit : ∀ a' U, s.WarmedH U.vm → (Cond.initialized y.cls).before a' U = true) :
    vx_Back l R p e below s sargs y len W9 (PreOf R mc ms Pc) (PostOf Qc mc ms free) (vx_Post XC mc ms free) := by
  intro m meth c A g ig mk a X hg hsize hdg hW hn hp
  have h1 : (headSpec ws rm).pre.before a A.U = true := atoms_intro fun w hw => hws w hw _ _ X.warmed
  have h2 : (Cond.code y bytes maxL ret).before a A.U = true := hws _ hcode _ _ X.warmed
  have h3 : (Cond.initialized y.cls).before a A.U = true := hinit _ _ X.warmed
  have h4 : A.cells + (headSpec ws rm).room.cells ≤ R.cells := by rw [show (headSpec ws rm).room.cells = mc from hrc]; exact hp.1
  have h5 : A.slots + (headSpec ws rm).room.slots ≤ R.slots := by rw [show (headSpec ws rm).room.slots = ms from hrs]; exact hp.2.1
  have hPc : Pc a (A.U.calling g mk a) := hblind _ _ _ _ hp.2.2
  obtain ⟨U, Ls, c0, s0⟩ := A
  dsimp only [Pt.U, Pt.locs, Pt.cells, Pt.slots] at h1 h2 h3 h4 h5 X hn hPc ⊢
  obtain ⟨methY, cY, hmY, hcY, -, hlY, -, -, -, -⟩ := Cond.code_spec hn h2
  obtain ⟨kY, hkY, -⟩ := className_of_methodNamed hn
  have hinitY : kY.init = .initialized := Cond.initialized_spec (findClass_of_methodNamed hn) hkY h3
  have h : At U g.method c below := by rw [hg]; exact X.here
  have hlocals9 : W9 + (maxL + 11) + (headSpec ws rm).room.locals ≤ R.locals := hlocals
  have happ : (headSpec ws rm).appliesLoose y e.platform (U.calling g mk a) = true :=
    Spec.appliesLoose_calling (g := g) h hdg hn hkY hinitY
      (X.room_calling (g := g) (R' := (headSpec ws rm).room) hsize hmY hcY hframes (by rw [hlY]; omega) h4 h5) h1
  obtain ⟨mid, hmid⟩ := h.above
  have hfr : (U.setTop g).frames = (.java g :: mid) ++ below := by rw [State.frames_setTop' g h.top, hmid]; rfl
  obtain ⟨o, s₂, hsteps, -, hend, hq⟩ := Steps.callFree hM p X.admits X.cas X.clock (acts := []) hfr happ hPc trivial
  have hq' : vx_Q Qc XC mc ms free a (U.calling g mk a) o s₂ := hq
  rw [State.frames_setTop' g h.top] at hend
  obtain ⟨g₀, hg0⟩ := Option.isSome_iff_exists.mp h.top
  obtain ⟨r, hr⟩ := State.topJava?_eq_some.mp hg0
  have hr' : (({ U with heap := s₂.heap, slotsUsed := s₂.slotsUsed } : State).setVm s₂.vm).frames = .java g₀ :: r := hr
  rcases hq' with ⟨hqc, L, hfe, hL⟩ | ⟨q, rfl, E, ce, L, hx, hce, hcv, hcl, hW₂, hsm, hL⟩
  · obtain ⟨⟨v, rfl⟩, hW₂, e2, q2, q3, q4, q5, q6⟩ := id hfe
    have e3 : s₂ = ({ (U.calling g mk a).setFrames s₂.frames with heap := s₂.heap, slotsUsed := s₂.slotsUsed } : State).setVm s₂.vm := by
      have : s₂ = ({ s₂ with vm := (U.calling g mk a).vm } : State).setVm s₂.vm := rfl
      rw [e2] at this
      exact this
    obtain ⟨c₂, i₂, len₂, hc₂, hd₂, hf₂⟩ := hend
    have hW' : U.WarmedH s₂.vm := hW₂
    have hcc : c₂ = c := by
      have h1 : s₂.code? g.method = U.code? g.method := by
        rw [State.code?_eq, State.code?_eq, hW'.alike.method?]
      exact Option.some.inj (hc₂.symm.trans (h1.trans h.code))
    subst hcc
    have hlen : len₂ = len := by rw [hdg] at hd₂; cases hd₂; rfl
    subst hlen
    have hs₂ : s₂ = (({ U with heap := s₂.heap, slotsUsed := s₂.slotsUsed } : State).setVm s₂.vm).setTop { g with pc := g.pc + len₂, stack := v.toList ++ g.stack } := by
      refine e3.trans ?_
      rw [hf₂, State.calling_eq h.top, State.setFrames_setFrames, State.setTop_of_frames _ hr', hr]
      rfl
    have hsame : U.sameButNew ({ U with heap := s₂.heap, slotsUsed := s₂.slotsUsed } : State) L mc ms := by
      refine ⟨?_, q2, q3, q4, q5, q6⟩
      obtain ⟨t, ht, -⟩ := State.frames_cons hr
      show ({ U with heap := s₂.heap, slotsUsed := s₂.slotsUsed } : State) = { U.setFrames U.frames with heap := s₂.heap, slotsUsed := s₂.slotsUsed }
      rw [State.setFrames_self ht]
    subst hg
    refine Or.inl ⟨v, ⟨(({ U with heap := s₂.heap, slotsUsed := s₂.slotsUsed } : State).setVm s₂.vm), Ls ++ L, c0 + mc, s0 + ms⟩,
      ⟨X.admits, X.cas, X.clock, X.frames, X.room, X.hears, X.method, X.code, (X.here.setHeapUsed s₂.heap s₂.slotsUsed).setVm hW'.alike, X.tail, State.WarmedH.trans X.warmed hW', X.limits, X.bytes, X.same.trans (hsame.setVm s.vm)⟩,
      ⟨g, mk, s₂, L, rfl, rfl, hqc, rfl, hL, rfl, rfl⟩, ?_⟩
    show Steps p.tables e below _ ((({ U with heap := s₂.heap, slotsUsed := s₂.slotsUsed } : State).setVm s₂.vm).setTop { g with pc := g.pc + len₂, stack := v.toList ++ g.stack })
    rw [← hs₂]
    exact hsteps
  · obtain ⟨e2, q2, q3, q4, q5, q6⟩ := id hsm
    have e3 : s₂ = ({ (U.calling g mk a).setFrames s₂.frames with heap := s₂.heap, slotsUsed := s₂.slotsUsed } : State).setVm s₂.vm := by
      have : s₂ = ({ s₂ with vm := (U.calling g mk a).vm } : State).setVm s₂.vm := rfl
      rw [e2] at this
      exact this
    have hf₂ : s₂.frames = .throwing q :: .java g :: U.frames.tail := hend
    have hW' : U.WarmedH s₂.vm := hW₂
    have hs₂ : s₂ = ((({ U with heap := s₂.heap, slotsUsed := s₂.slotsUsed } : State).setVm s₂.vm).setTop g).pushFrame (.throwing q) := by
      refine e3.trans ?_
      rw [hf₂, State.calling_eq h.top, State.setFrames_setFrames, State.pushFrame, State.frames_setTop _ hr', State.setTop_of_frames _ hr', State.setFrames_setFrames, hr]
      rfl
    have hsame : U.sameButNew ({ U with heap := s₂.heap, slotsUsed := s₂.slotsUsed } : State) L mc ms := by
      refine ⟨?_, q2, q3, q4, q5, q6⟩
      obtain ⟨t, ht, -⟩ := State.frames_cons hr
      show ({ U with heap := s₂.heap, slotsUsed := s₂.slotsUsed } : State) = { U.setFrames U.frames with heap := s₂.heap, slotsUsed := s₂.slotsUsed }
      rw [State.setFrames_self ht]
    subst hg
    refine Or.inr ⟨q, ⟨(({ U with heap := s₂.heap, slotsUsed := s₂.slotsUsed } : State).setVm s₂.vm), Ls ++ L, c0 + mc, s0 + ms⟩,
      ⟨X.admits, X.cas, X.clock, X.frames, X.room, X.hears, X.method, X.code, (X.here.setHeapUsed s₂.heap s₂.slotsUsed).setVm hW'.alike, X.tail, State.WarmedH.trans X.warmed hW', X.limits, X.bytes, X.same.trans (hsame.setVm s.vm)⟩,
      ⟨g, mk, s₂, L, E, ce, rfl, rfl, hx, hce, hcv, hcl, rfl, hL, rfl, rfl⟩, ?_⟩
    show Steps p.tables e below _ (((({ U with heap := s₂.heap, slotsUsed := s₂.slotsUsed } : State).setVm s₂.vm).setTop g).pushFrame (.throwing q))
    rw [← hs₂]
    exact hsteps
end Payer
section Calls
variable {p : Program} {l : Launch} {e : Env} {R : Room} {s : State} {m : MethodId} {args : Array Value} {below : List Frame} {meth : Method} {c : Code} {T : State} {locs : List Loc} {cells slots : Nat}
theorem vx_callV (X : Stand p l e R s m args below meth c T locs cells slots) (hexec : p.tables.exec = Jvm.exec) {own C : String} {index : Nat} {y : MethodName} {bytes : ByteArray} {maxL : Nat} {ret : Option FieldType}
    (hown : s.vm.findClass own = some m.cls) (hlink : (Cond.methodLink own index y).before args s = true) (hinst : (Cond.instanceMethod y).before args s = true) (hsel : (Cond.selects C y y).before args s = true)
    (hcode : (Cond.code y bytes maxL ret).before args s = true) (hy : y.cls ≠ "java/lang/invoke/MethodHandle" ∧ y.cls ≠ "java/lang/invoke/VarHandle")
    {W9 : Nat} {Pre : Pt → Array Value → Prop} {Post : Pt → Array Value → Option Value → Pt → Prop} {PostX : Pt → Array Value → Addr → Pt → Prop} (hK : vx_Back l R p e below s args y 3 W9 Pre Post PostX)
    {b : Addr} {cellB : Cell} (hcell : T.heap[b]? = some cellB) (hobj : cellB.vm.isStatics = false) (hcls : s.vm.findClass C = some cellB.cls)
    {g : JFrame} (hg : g.method = m) (hsize : g.locals.size = c.maxLocals) {argsL rest : List Value} (hlen : ∀ sig, parseMethodDescriptor y.desc = some sig → argsL.length = sig.parameters.length)
    (hstack : g.stack = argsL.reverse ++ .ref b :: rest) (hW : 2 * g.monitorRoom + (rest.map fun v => v.category).sum ≤ W9) (hdg : decode c.code g.pc = .ok (.invokevirtual index, 3))
    (hpre : ∀ vm₁, s.WarmedH vm₁ → Pre ⟨T.setVm vm₁, locs, cells, slots⟩ (Value.ref b :: argsL).toArray) :
    (∃ (v : Option Value) (vm₁ : Vm) (B : Pt), s.WarmedH vm₁ ∧ Stand p l e R s m args below meth c B.U B.locs B.cells B.slots ∧ Post ⟨T.setVm vm₁, locs, cells, slots⟩ (Value.ref b :: argsL).toArray v B ∧
      ∀ target, Steps p.tables e below (B.U.setTop { g with pc := g.pc + 3, stack := v.toList ++ rest }) target → Steps p.tables e below (T.setTop g) target) ∨
    (∃ (q : Addr) (vm₁ : Vm) (B : Pt), s.WarmedH vm₁ ∧ Stand p l e R s m args below meth c B.U B.locs B.cells B.slots ∧ PostX ⟨T.setVm vm₁, locs, cells, slots⟩ (Value.ref b :: argsL).toArray q B ∧
      Steps p.tables e below (T.setTop g) ((B.U.setTop { g with stack := rest }).pushFrame (.throwing q))) := by
  obtain ⟨mk, methM, hnamed, hmethM, hstM, habM⟩ := Cond.instanceMethod_spec hinst
  obtain ⟨methM', cM, hmethM', -, -, -, -, -, -, hsigM⟩ := Cond.code_spec hnamed hcode
  cases hmethM.symm.trans hmethM'
  obtain ⟨c2, r2, m2, q1, q2, q3, q4, kP, hkP, hkPi⟩ := Cond.selects_spec hsel
  cases hcls.symm.trans q1
  cases (State.methodFound?_of_named hnamed hy).symm.trans q2
  cases hnamed.symm.trans q3
  have hselP : selectMethod e.platform s.vm cellB.cls mk = .method mk := by rw [Launch.admits_selectMethod X.admits]; exact q4
  obtain ⟨vm₁, X₁, hstep₁⟩ := X.invokevirtual hexec hown hlink hnamed hmethM hstM hkP hkPi hy (a := b) (cell := cellB) hcell
    (fun z h => by rw [h] at hobj; cases hobj) hselP hmethM habM hkP hkPi (g := g) hg (argsL := argsL) (rest := rest) (hlen _ hsigM) hstack hdg
  rcases hK m meth c ⟨T.setVm vm₁, locs, cells, slots⟩ { g with stack := rest } (.invokevirtual index) mk (Value.ref b :: argsL).toArray X₁ hg hsize hdg hW (X₁.named hnamed) (hpre vm₁ X₁.warmed) with ⟨v, B, X', hpost, hsteps⟩ | ⟨q, B, X', hpost, hsteps⟩
  · exact Or.inl ⟨v, vm₁, B, X₁.warmed, X', hpost, fun target h => hstep₁ _ fun acts => by rw [doInvoke_state]; exact hsteps.trans h⟩
  · exact Or.inr ⟨q, vm₁, B, X₁.warmed, X', hpost, hstep₁ _ fun acts => by rw [doInvoke_state]; exact hsteps⟩
theorem vx_callS (X : Stand p l e R s m args below meth c T locs cells slots) (hexec : p.tables.exec = Jvm.exec) {own : String} {index : Nat} {y : MethodName} {bytes : ByteArray} {maxL : Nat} {ret : Option FieldType}
    (hown : s.vm.findClass own = some m.cls) (hlink : (Cond.methodLink own index y).before args s = true) (hstat : (Cond.static y).before args s = true) (hinit : (Cond.initialized y.cls).before args s = true)
    (hcode : (Cond.code y bytes maxL ret).before args s = true) (hy : y.cls ≠ "java/lang/invoke/MethodHandle" ∧ y.cls ≠ "java/lang/invoke/VarHandle")
    {W9 : Nat} {Pre : Pt → Array Value → Prop} {Post : Pt → Array Value → Option Value → Pt → Prop} {PostX : Pt → Array Value → Addr → Pt → Prop} (hK : vx_Back l R p e below s args y 3 W9 Pre Post PostX)
    {g : JFrame} (hg : g.method = m) (hsize : g.locals.size = c.maxLocals) {argsL rest : List Value} (hlen : ∀ sig, parseMethodDescriptor y.desc = some sig → argsL.length = sig.parameters.length)
    (hstack : g.stack = argsL.reverse ++ rest) (hW : 2 * g.monitorRoom + (rest.map fun v => v.category).sum ≤ W9) (hdg : decode c.code g.pc = .ok (.invokestatic index, 3))
    (hpre : ∀ vm₁, s.WarmedH vm₁ → Pre ⟨T.setVm vm₁, locs, cells, slots⟩ argsL.toArray) :
    (∃ (v : Option Value) (vm₁ : Vm) (B : Pt), s.WarmedH vm₁ ∧ Stand p l e R s m args below meth c B.U B.locs B.cells B.slots ∧ Post ⟨T.setVm vm₁, locs, cells, slots⟩ argsL.toArray v B ∧
      ∀ target, Steps p.tables e below (B.U.setTop { g with pc := g.pc + 3, stack := v.toList ++ rest }) target → Steps p.tables e below (T.setTop g) target) ∨
    (∃ (q : Addr) (vm₁ : Vm) (B : Pt), s.WarmedH vm₁ ∧ Stand p l e R s m args below meth c B.U B.locs B.cells B.slots ∧ PostX ⟨T.setVm vm₁, locs, cells, slots⟩ argsL.toArray q B ∧
      Steps p.tables e below (T.setTop g) ((B.U.setTop { g with stack := rest }).pushFrame (.throwing q))) := by
  obtain ⟨mk, hnamed⟩ := Cond.code_named hcode
  obtain ⟨methM, cM, hmethM, -, -, -, -, -, -, hsigM⟩ := Cond.code_spec hnamed hcode
  have hstatic : methM.isStatic = true := Cond.static_spec hnamed hmethM hstat
  obtain ⟨kP, hkP, -⟩ := className_of_methodNamed hnamed
  have hinitP : kP.init = .initialized := Cond.initialized_spec (findClass_of_methodNamed hnamed) hkP hinit
  obtain ⟨vm₁, X₁, hstep₁⟩ := X.invokestatic hexec hown hlink hnamed hmethM hstatic hkP hinitP hy (g := g) hg (argsL := argsL) (rest := rest) (hlen _ hsigM) hstack hdg
  rcases hK m meth c ⟨T.setVm vm₁, locs, cells, slots⟩ { g with stack := rest } (.invokestatic index) mk argsL.toArray X₁ hg hsize hdg hW (X₁.named hnamed) (hpre vm₁ X₁.warmed) with ⟨v, B, X', hpost, hsteps⟩ | ⟨q, B, X', hpost, hsteps⟩
  · exact Or.inl ⟨v, vm₁, B, X₁.warmed, X', hpost, fun target h => hstep₁ _ fun acts => by rw [doInvoke_state]; exact hsteps.trans h⟩
  · exact Or.inr ⟨q, vm₁, B, X₁.warmed, X', hpost, hstep₁ _ fun acts => by rw [doInvoke_state]; exact hsteps⟩
end Calls
theorem vx_cls {s : State} {T : State} {vm₁ : Vm} {E : String} {k : ClassId} (hW : s.WarmedH vm₁) (h : (T.setVm vm₁).vm.findClass E = some k) : s.vm.findClass E = some k := by
  have h1 : vm₁.findClass E = some k := h
  rw [hW.alike.findClass] at h1
  exact h1
/-- the method's frame g, with q thrown over it -/
def vx_W (p : Program) (l : Launch) (e : Env) (R : Room) (s : State) (m : MethodId) (args : Array Value) (below : List Frame) (meth : Method) (c : Code) (H : Heap) (locs : List Loc) (cells slots : Nat) (Q : State → Prop) (g : JFrame) (q : Addr) : Prop :=
  ∀ T : State, T.heap = H → Stand p l e R s m args below meth c T locs cells slots → ∃ t, Steps p.tables e below ((T.setTop g).pushFrame (.throwing q)) t ∧ Q t
def vx_Run (p : Program) (l : Launch) (e : Env) (R : Room) (s : State) (m : MethodId) (args : Array Value) (below : List Frame) (meth : Method) (c : Code) (H : Heap) (locs : List Loc) (cells slots mc ms : Nat) (g : JFrame) (rest : List Value) (Qa : State → Outcome → State → Prop) (XC : String → State → State → Prop) (free : Addr → Prop) : Prop :=
  ∀ T : State, T.heap = H → Stand p l e R s m args below meth c T locs cells slots →
    (∃ (v : Option Value) (st₀ t T' : State) (L : List Loc), st₀.heap = H ∧ Stand p l e R s m args below meth c T' (locs ++ L) (cells + mc) (slots + ms) ∧ (∀ q ∈ L, free q.base) ∧ T'.heap = t.heap ∧ T'.vm = t.vm ∧ Qa st₀ (.returned v) t ∧
      Goes p e below T g T' { g with pc := g.pc + 3, stack := v.toList ++ rest }) ∨
    (∃ (q : Addr) (st₀ t T' : State) (L : List Loc) (E : String) (ce : Cell), st₀.heap = H ∧ Stand p l e R s m args below meth c T' (locs ++ L) (cells + mc) (slots + ms) ∧ (∀ z ∈ L, free z.base) ∧ T'.heap = t.heap ∧ T'.vm = t.vm ∧ XC E st₀ t ∧ t.heap[q]? = some ce ∧ ce.vm = .none ∧ s.vm.findClass E = some ce.cls ∧
      Steps p.tables e below (T.setTop g) ((T'.setTop { g with stack := rest }).pushFrame (.throwing q)))
def vx_X {S : Type} (px : S → Prop) (B : String → S → State → Prop) (A : Nat → Prop) : String → State → State → Prop := fun E st t => ∃ u : S, px u ∧ B E u t ∧ va_F A st t
section Runs
variable {p : Program} {l : Launch} {e : Env} {R : Room} {s : State} {m : MethodId} {args : Array Value} {below : List Frame} {meth : Method} {c : Code} {H : Heap} {locs : List Loc} {cells slots : Nat}
variable {y : MethodName} {bytes cc : ByteArray} {maxL nL mc ms n index : Nat} {ret : Option FieldType} {ws : List Cond} {rm : Room} {Pc : Array Value → State → Prop} {Qc : Array Value → State → Outcome → State → Prop} {XC : String → State → State → Prop} {free : Addr → Prop} {Ts : List Cond} {own C : String} {b : Addr} {As rest : List Value} {g : JFrame}
theorem vx_callBack (cb : CallB R s args own index y bytes maxL ret ws rm mc ms n) (hM : vx_Met l y ws rm Pc Qc XC mc ms free) (hbl : FrameBlind Pc) : vx_Back l R p e below s args y 3 8 (PreOf R mc ms Pc) (PostOf Qc mc ms free) (vx_Post XC mc ms free) := by
  obtain ⟨hrc, hrs, hfr, hlo, hws, hcw, -, hini, -⟩ := cb
  exact vx_back (bytes := bytes) (maxL := maxL) (ret := ret) hM hbl hrc hrs hfr hlo hws hcw (fun a' U hW => word_at hW (Or.inl (by first | rfl | simp [Cond.onTables, Cond.keeps, Cond.steady])) hini)
theorem vx_runV (S : CallFix p m c cc nL s args Ts own) (hM : vx_Met l y ws rm Pc Qc XC mc ms free) (cw : CallW R s args own C index y bytes maxL ret ws rm mc ms n) (hp : PreV s H C b Pc As)
    (hg : g.method = m) (hn : As.length = n) (hsize : g.locals.size = nL) (hstack : g.stack = As.reverse ++ .ref b :: rest) (hW : 2 * g.monitorRoom + (rest.map fun v => v.category).sum ≤ 8) (hdg : decode cc g.pc = .ok (.invokevirtual index, 3)) (hf : cells + mc ≤ R.cells ∧ slots + ms ≤ R.slots) :
    vx_Run p l e R s m args below meth c H locs cells slots mc ms g rest (Qc (Value.ref b :: As).toArray) XC free := by
  have hK : vx_Back l R p e below s args y 3 8 (PreOf R mc ms Pc) (PostOf Qc mc ms free) (vx_Post XC mc ms free) := vx_callBack cw.1 hM hp.1
  obtain ⟨⟨-, -, -, -, -, -, hcode, -, hy, hlen, hl⟩, hin, hse⟩ := cw
  obtain ⟨hx, hb, hml, ho, -⟩ := S
  obtain ⟨-, ⟨cellB, hcB, hoB, hclB⟩, hPc⟩ := hp
  intro T hT X
  rcases vx_callV X hx (C := C) (bytes := bytes) (maxL := maxL) (ret := ret) ho hl hin hse hcode hy hK (by rw [hT]; exact hcB) hoB hclB hg (hsize.trans hml.symm) (argsL := As) (rest := rest) (fun sig h => hn.trans (hlen sig h)) hstack hW (by rw [hb]; exact hdg)
    (fun vm₁ hW₁ => ⟨hf.1, hf.2, hPc (T.setVm vm₁) hT hW₁⟩) with ⟨v, vm₁, ⟨U', l2, c2, s2⟩, hW₁, X', ⟨g', mk, t, L, e1, e2, hq, h1, hL, h2, h3⟩, st⟩ | ⟨q, vm₁, ⟨U', l2, c2, s2⟩, hW₁, X', ⟨g', mk, t, L, E, ce, e1, e2, hq, hce, hcv, hcl, h1, hL, h2, h3⟩, st⟩
  · dsimp only [Pt.U, Pt.locs, Pt.cells, Pt.slots] at X' e1 e2 h1 h2 h3 st
    subst h1; subst h2; subst h3
    exact Or.inl ⟨v, (T.setVm vm₁).calling g' mk (Value.ref b :: As).toArray, t, U', L, hT, X', hL, e1, e2, hq, st⟩
  · dsimp only [Pt.U, Pt.locs, Pt.cells, Pt.slots] at X' e1 e2 h1 h2 h3 st hcl
    subst h1; subst h2; subst h3
    exact Or.inr ⟨q, (T.setVm vm₁).calling g' mk (Value.ref b :: As).toArray, t, U', L, E, ce, hT, X', hL, e1, e2, hq, hce, hcv, vx_cls hW₁ hcl, st⟩
theorem vx_runS (S : CallFix p m c cc nL s args Ts own) (hM : vx_Met l y ws rm Pc Qc XC mc ms free) (cw : CallB R s args own index y bytes maxL ret ws rm mc ms n ∧ (Cond.static y).before args s = true) (hp : PreS s H Pc As)
    (hg : g.method = m) (hn : As.length = n) (hsize : g.locals.size = nL) (hstack : g.stack = As.reverse ++ rest) (hW : 2 * g.monitorRoom + (rest.map fun v => v.category).sum ≤ 8) (hdg : decode cc g.pc = .ok (.invokestatic index, 3)) (hf : cells + mc ≤ R.cells ∧ slots + ms ≤ R.slots) :
    vx_Run p l e R s m args below meth c H locs cells slots mc ms g rest (Qc As.toArray) XC free := by
  have hK : vx_Back l R p e below s args y 3 8 (PreOf R mc ms Pc) (PostOf Qc mc ms free) (vx_Post XC mc ms free) := vx_callBack cw.1 hM hp.1
  obtain ⟨⟨-, -, -, -, -, -, hcode, hini, hy, hlen, hl⟩, hstt⟩ := cw
  obtain ⟨hx, hb, hml, ho, -⟩ := S
  intro T hT X
  rcases vx_callS X hx (bytes := bytes) (maxL := maxL) (ret := ret) ho hl hstt hini hcode hy hK hg (hsize.trans hml.symm) (argsL := As) (rest := rest) (fun sig h => hn.trans (hlen sig h)) hstack hW (by rw [hb]; exact hdg)
    (fun vm₁ hW₁ => ⟨hf.1, hf.2, hp.2 (T.setVm vm₁) hT hW₁⟩) with ⟨v, vm₁, ⟨U', l2, c2, s2⟩, hW₁, X', ⟨g', mk, t, L, e1, e2, hq, h1, hL, h2, h3⟩, st⟩ | ⟨q, vm₁, ⟨U', l2, c2, s2⟩, hW₁, X', ⟨g', mk, t, L, E, ce, e1, e2, hq, hce, hcv, hcl, h1, hL, h2, h3⟩, st⟩
  · dsimp only [Pt.U, Pt.locs, Pt.cells, Pt.slots] at X' e1 e2 h1 h2 h3 st
    subst h1; subst h2; subst h3
    exact Or.inl ⟨v, (T.setVm vm₁).calling g' mk As.toArray, t, U', L, hT, X', hL, e1, e2, hq, st⟩
  · dsimp only [Pt.U, Pt.locs, Pt.cells, Pt.slots] at X' e1 e2 h1 h2 h3 st hcl
    subst h1; subst h2; subst h3
    exact Or.inr ⟨q, (T.setVm vm₁).calling g' mk As.toArray, t, U', L, E, ce, hT, X', hL, e1, e2, hq, hce, hcv, vx_cls hW₁ hcl, st⟩
end Runs
section Rows
variable {p : Program} {l : Launch} {e : Env} {R : Room} {s : State} {m : MethodId} {args : Array Value} {below : List Frame} {meth : Method} {c : Code} {H : Heap} {locs : List Loc} {cells slots : Nat} {Q : State → Prop}
variable {mc ms : Nat} {free : Addr → Prop} {A0 A1 : Nat → Prop} {H0 : Heap} {a : Array Value} {pc : Nat} {ls : Array Slot} {st0 rest : List Value}
theorem vx_keep {st₀ t T' : State} {L : List Loc} (h0 : st₀.heap = H) (e1 : T'.heap = t.heap) (hS : va_S A0 H0 H locs) (hA : ∀ q, q < H.size → A1 q → A0 q) (hf : ∀ q, free q → A0 q) (hL : ∀ q ∈ L, free q.base) (hF : va_F A1 st₀ t) :
    H.size ≤ T'.heap.size ∧ (∀ q : Nat, q < H.size → ¬ A1 q → T'.heap[q]? = H[q]?) ∧ va_S A0 H0 T'.heap (locs ++ L) := by
  obtain ⟨hz, hk⟩ := hF
  rw [h0] at hz hk
  exact ⟨by rw [e1]; exact hz, fun q h1 h2 => by rw [e1]; exact hk q h1 h2,
    ⟨Nat.le_trans hS.1 (by rw [e1]; exact hz), fun q h1 h2 => by rw [e1, hk q (Nat.lt_of_lt_of_le h1 hS.1) (fun z => h2 (hA q (Nat.lt_of_lt_of_le h1 hS.1) z))]; exact hS.2.1 q h1 h2, fun q hq => by
      rcases List.mem_append.mp hq with h | h
      · exact hS.2.2 q h
      · exact hf _ (hL q h)⟩⟩
theorem vx_calli {S SX : Type} {post : Int32 → S → Prop} {px : SX → Prop} {B : S → State → Prop} {BX : String → SX → State → Prop} {AX : Nat → Prop} (hr : vx_Run p l e R s m args below meth c H locs cells slots mc ms (F0 m pc ls st0) rest (va_Qi post B A1 a) (vx_X px BX AX) free) (hS : va_S A0 H0 H locs) (hA : ∀ q, q < H.size → A1 q → A0 q) (hf : ∀ q, free q → A0 q) (hAX : ∀ q, q < H.size → AX q → A0 q)
    (kx : ∀ (E : String) (ce : Cell) (q9 : Addr) (u : SX) (t : State) (H1 : Heap) (locs1 : List Loc), t.heap = H1 → s.vm.Alike t.vm → px u → BX E u t → H.size ≤ H1.size → (∀ q : Nat, q < H.size → ¬ AX q → H1[q]? = H[q]?) → va_S A0 H0 H1 locs1 → H1[q9]? = some ce → ce.vm = .none → s.vm.findClass E = some ce.cls → vx_W p l e R s m args below meth c H1 locs1 (cells + mc) (slots + ms) Q (F0 m pc ls rest) q9)
    (kk : ∀ (r : Int32) (u : S) (t : State) (H1 : Heap) (locs1 : List Loc), t.heap = H1 → s.vm.Alike t.vm → post r u → B u t → H.size ≤ H1.size → (∀ q : Nat, q < H.size → ¬ A1 q → H1[q]? = H[q]?) → va_S A0 H0 H1 locs1 → W p l e R s m args below meth c H1 locs1 (cells + mc) (slots + ms) Q (F0 m (pc + 3) ls (.int r :: rest))) : W p l e R s m args below meth c H locs cells slots Q (F0 m pc ls st0) := by
  intro T hT X
  rcases hr T hT X with ⟨v, st₀, t, T', L, h0, X', hL, e1, e2, ⟨⟨r, u, hv, hp, hb⟩, hF⟩, st⟩ | ⟨q, st₀, t, T', L, E, ce, h0, X', hL, e1, e2, ⟨u, hp, hb, hF⟩, hce, hcv, hcl, st⟩
  · cases hv
    obtain ⟨k1, k2, k3⟩ := vx_keep h0 e1 hS hA hf hL hF
    obtain ⟨t2, a1, b1⟩ := kk r u t T'.heap (locs ++ L) e1.symm (by rw [← e2]; exact X'.warmed.alike) hp hb k1 k2 k3 T' rfl X'
    exact ⟨t2, st t2 a1, b1⟩
  · obtain ⟨k1, k2, k3⟩ := vx_keep h0 e1 hS hAX hf hL hF
    obtain ⟨t2, a1, b1⟩ := kx E ce q u t T'.heap (locs ++ L) e1.symm (by rw [← e2]; exact X'.warmed.alike) hp hb k1 k2 k3 (by rw [e1]; exact hce) hcv hcl T' rfl X'
    exact ⟨t2, st.trans a1, b1⟩
theorem vx_calll {S SX : Type} {post : Int64 → S → Prop} {px : SX → Prop} {B : S → State → Prop} {BX : String → SX → State → Prop} {AX : Nat → Prop} (hr : vx_Run p l e R s m args below meth c H locs cells slots mc ms (F0 m pc ls st0) rest (va_Ql post B A1 a) (vx_X px BX AX) free) (hS : va_S A0 H0 H locs) (hA : ∀ q, q < H.size → A1 q → A0 q) (hf : ∀ q, free q → A0 q) (hAX : ∀ q, q < H.size → AX q → A0 q)
    (kx : ∀ (E : String) (ce : Cell) (q9 : Addr) (u : SX) (t : State) (H1 : Heap) (locs1 : List Loc), t.heap = H1 → s.vm.Alike t.vm → px u → BX E u t → H.size ≤ H1.size → (∀ q : Nat, q < H.size → ¬ AX q → H1[q]? = H[q]?) → va_S A0 H0 H1 locs1 → H1[q9]? = some ce → ce.vm = .none → s.vm.findClass E = some ce.cls → vx_W p l e R s m args below meth c H1 locs1 (cells + mc) (slots + ms) Q (F0 m pc ls rest) q9)
    (kk : ∀ (r : Int64) (u : S) (t : State) (H1 : Heap) (locs1 : List Loc), t.heap = H1 → s.vm.Alike t.vm → post r u → B u t → H.size ≤ H1.size → (∀ q : Nat, q < H.size → ¬ A1 q → H1[q]? = H[q]?) → va_S A0 H0 H1 locs1 → W p l e R s m args below meth c H1 locs1 (cells + mc) (slots + ms) Q (F0 m (pc + 3) ls (.long r :: rest))) : W p l e R s m args below meth c H locs cells slots Q (F0 m pc ls st0) := by
  intro T hT X
  rcases hr T hT X with ⟨v, st₀, t, T', L, h0, X', hL, e1, e2, ⟨⟨r, u, hv, hp, hb⟩, hF⟩, st⟩ | ⟨q, st₀, t, T', L, E, ce, h0, X', hL, e1, e2, ⟨u, hp, hb, hF⟩, hce, hcv, hcl, st⟩
  · cases hv
    obtain ⟨k1, k2, k3⟩ := vx_keep h0 e1 hS hA hf hL hF
    obtain ⟨t2, a1, b1⟩ := kk r u t T'.heap (locs ++ L) e1.symm (by rw [← e2]; exact X'.warmed.alike) hp hb k1 k2 k3 T' rfl X'
    exact ⟨t2, st t2 a1, b1⟩
  · obtain ⟨k1, k2, k3⟩ := vx_keep h0 e1 hS hAX hf hL hF
    obtain ⟨t2, a1, b1⟩ := kx E ce q u t T'.heap (locs ++ L) e1.symm (by rw [← e2]; exact X'.warmed.alike) hp hb k1 k2 k3 (by rw [e1]; exact hce) hcv hcl T' rfl X'
    exact ⟨t2, st.trans a1, b1⟩
theorem vx_callf {S SX : Type} {post : UInt32 → S → Prop} {px : SX → Prop} {B : S → State → Prop} {BX : String → SX → State → Prop} {AX : Nat → Prop} (hr : vx_Run p l e R s m args below meth c H locs cells slots mc ms (F0 m pc ls st0) rest (va_Qf post B A1 a) (vx_X px BX AX) free) (hS : va_S A0 H0 H locs) (hA : ∀ q, q < H.size → A1 q → A0 q) (hf : ∀ q, free q → A0 q) (hAX : ∀ q, q < H.size → AX q → A0 q)
    (kx : ∀ (E : String) (ce : Cell) (q9 : Addr) (u : SX) (t : State) (H1 : Heap) (locs1 : List Loc), t.heap = H1 → s.vm.Alike t.vm → px u → BX E u t → H.size ≤ H1.size → (∀ q : Nat, q < H.size → ¬ AX q → H1[q]? = H[q]?) → va_S A0 H0 H1 locs1 → H1[q9]? = some ce → ce.vm = .none → s.vm.findClass E = some ce.cls → vx_W p l e R s m args below meth c H1 locs1 (cells + mc) (slots + ms) Q (F0 m pc ls rest) q9)
    (kk : ∀ (r : UInt32) (u : S) (t : State) (H1 : Heap) (locs1 : List Loc), t.heap = H1 → s.vm.Alike t.vm → post r u → B u t → H.size ≤ H1.size → (∀ q : Nat, q < H.size → ¬ A1 q → H1[q]? = H[q]?) → va_S A0 H0 H1 locs1 → W p l e R s m args below meth c H1 locs1 (cells + mc) (slots + ms) Q (F0 m (pc + 3) ls (.float r :: rest))) : W p l e R s m args below meth c H locs cells slots Q (F0 m pc ls st0) := by
  intro T hT X
  rcases hr T hT X with ⟨v, st₀, t, T', L, h0, X', hL, e1, e2, ⟨⟨r, u, hv, hp, hb⟩, hF⟩, st⟩ | ⟨q, st₀, t, T', L, E, ce, h0, X', hL, e1, e2, ⟨u, hp, hb, hF⟩, hce, hcv, hcl, st⟩
  · cases hv
    obtain ⟨k1, k2, k3⟩ := vx_keep h0 e1 hS hA hf hL hF
    obtain ⟨t2, a1, b1⟩ := kk r u t T'.heap (locs ++ L) e1.symm (by rw [← e2]; exact X'.warmed.alike) hp hb k1 k2 k3 T' rfl X'
    exact ⟨t2, st t2 a1, b1⟩
  · obtain ⟨k1, k2, k3⟩ := vx_keep h0 e1 hS hAX hf hL hF
    obtain ⟨t2, a1, b1⟩ := kx E ce q u t T'.heap (locs ++ L) e1.symm (by rw [← e2]; exact X'.warmed.alike) hp hb k1 k2 k3 (by rw [e1]; exact hce) hcv hcl T' rfl X'
    exact ⟨t2, st.trans a1, b1⟩
theorem vx_calld {S SX : Type} {post : UInt64 → S → Prop} {px : SX → Prop} {B : S → State → Prop} {BX : String → SX → State → Prop} {AX : Nat → Prop} (hr : vx_Run p l e R s m args below meth c H locs cells slots mc ms (F0 m pc ls st0) rest (va_Qd post B A1 a) (vx_X px BX AX) free) (hS : va_S A0 H0 H locs) (hA : ∀ q, q < H.size → A1 q → A0 q) (hf : ∀ q, free q → A0 q) (hAX : ∀ q, q < H.size → AX q → A0 q)
    (kx : ∀ (E : String) (ce : Cell) (q9 : Addr) (u : SX) (t : State) (H1 : Heap) (locs1 : List Loc), t.heap = H1 → s.vm.Alike t.vm → px u → BX E u t → H.size ≤ H1.size → (∀ q : Nat, q < H.size → ¬ AX q → H1[q]? = H[q]?) → va_S A0 H0 H1 locs1 → H1[q9]? = some ce → ce.vm = .none → s.vm.findClass E = some ce.cls → vx_W p l e R s m args below meth c H1 locs1 (cells + mc) (slots + ms) Q (F0 m pc ls rest) q9)
    (kk : ∀ (r : UInt64) (u : S) (t : State) (H1 : Heap) (locs1 : List Loc), t.heap = H1 → s.vm.Alike t.vm → post r u → B u t → H.size ≤ H1.size → (∀ q : Nat, q < H.size → ¬ A1 q → H1[q]? = H[q]?) → va_S A0 H0 H1 locs1 → W p l e R s m args below meth c H1 locs1 (cells + mc) (slots + ms) Q (F0 m (pc + 3) ls (.double r :: rest))) : W p l e R s m args below meth c H locs cells slots Q (F0 m pc ls st0) := by
  intro T hT X
  rcases hr T hT X with ⟨v, st₀, t, T', L, h0, X', hL, e1, e2, ⟨⟨r, u, hv, hp, hb⟩, hF⟩, st⟩ | ⟨q, st₀, t, T', L, E, ce, h0, X', hL, e1, e2, ⟨u, hp, hb, hF⟩, hce, hcv, hcl, st⟩
  · cases hv
    obtain ⟨k1, k2, k3⟩ := vx_keep h0 e1 hS hA hf hL hF
    obtain ⟨t2, a1, b1⟩ := kk r u t T'.heap (locs ++ L) e1.symm (by rw [← e2]; exact X'.warmed.alike) hp hb k1 k2 k3 T' rfl X'
    exact ⟨t2, st t2 a1, b1⟩
  · obtain ⟨k1, k2, k3⟩ := vx_keep h0 e1 hS hAX hf hL hF
    obtain ⟨t2, a1, b1⟩ := kx E ce q u t T'.heap (locs ++ L) e1.symm (by rw [← e2]; exact X'.warmed.alike) hp hb k1 k2 k3 (by rw [e1]; exact hce) hcv hcl T' rfl X'
    exact ⟨t2, st.trans a1, b1⟩
theorem vx_callv {S SX : Type} {post : S → Prop} {px : SX → Prop} {B : S → State → Prop} {BX : String → SX → State → Prop} {AX : Nat → Prop} (hr : vx_Run p l e R s m args below meth c H locs cells slots mc ms (F0 m pc ls st0) rest (va_Qv post B A1 a) (vx_X px BX AX) free) (hS : va_S A0 H0 H locs) (hA : ∀ q, q < H.size → A1 q → A0 q) (hf : ∀ q, free q → A0 q) (hAX : ∀ q, q < H.size → AX q → A0 q)
    (kx : ∀ (E : String) (ce : Cell) (q9 : Addr) (u : SX) (t : State) (H1 : Heap) (locs1 : List Loc), t.heap = H1 → s.vm.Alike t.vm → px u → BX E u t → H.size ≤ H1.size → (∀ q : Nat, q < H.size → ¬ AX q → H1[q]? = H[q]?) → va_S A0 H0 H1 locs1 → H1[q9]? = some ce → ce.vm = .none → s.vm.findClass E = some ce.cls → vx_W p l e R s m args below meth c H1 locs1 (cells + mc) (slots + ms) Q (F0 m pc ls rest) q9)
    (kk : ∀ (u : S) (t : State) (H1 : Heap) (locs1 : List Loc), t.heap = H1 → s.vm.Alike t.vm → post u → B u t → H.size ≤ H1.size → (∀ q : Nat, q < H.size → ¬ A1 q → H1[q]? = H[q]?) → va_S A0 H0 H1 locs1 → W p l e R s m args below meth c H1 locs1 (cells + mc) (slots + ms) Q (F0 m (pc + 3) ls (rest))) : W p l e R s m args below meth c H locs cells slots Q (F0 m pc ls st0) := by
  intro T hT X
  rcases hr T hT X with ⟨v, st₀, t, T', L, h0, X', hL, e1, e2, ⟨⟨u, hv, hp, hb⟩, hF⟩, st⟩ | ⟨q, st₀, t, T', L, E, ce, h0, X', hL, e1, e2, ⟨u, hp, hb, hF⟩, hce, hcv, hcl, st⟩
  · cases hv
    obtain ⟨k1, k2, k3⟩ := vx_keep h0 e1 hS hA hf hL hF
    obtain ⟨t2, a1, b1⟩ := kk u t T'.heap (locs ++ L) e1.symm (by rw [← e2]; exact X'.warmed.alike) hp hb k1 k2 k3 T' rfl X'
    exact ⟨t2, st t2 a1, b1⟩
  · obtain ⟨k1, k2, k3⟩ := vx_keep h0 e1 hS hAX hf hL hF
    obtain ⟨t2, a1, b1⟩ := kx E ce q u t T'.heap (locs ++ L) e1.symm (by rw [← e2]; exact X'.warmed.alike) hp hb k1 k2 k3 (by rw [e1]; exact hce) hcv hcl T' rfl X'
    exact ⟨t2, st.trans a1, b1⟩
/-- caught by the row x of this method's table; the rows ahead don't take it -/
theorem vx_catch {own name : String} {E : String} {ce : Cell} {q : Addr} (hown : s.vm.findClass own = some m.cls) (pre : List ExceptionTableEntry) (x : ExceptionTableEntry) (suf : List ExceptionTableEntry) (hsplit : c.exceptionTable.toList = pre ++ x :: suf)
    (hpass : ∀ z ∈ pre, covers z pc = false ∨ (z.catchType ≠ 0 ∧ ∃ nm : String, (Cond.classLink own z.catchType nm).before args s = true ∧ va_Nc E nm s)) (hx : covers x pc = true) (h0 : x.catchType ≠ 0)
    (hlink : (Cond.classLink own x.catchType name).before args s = true) (hcast : (Cond.castable E name).before args s = true) (hcell : H[q]? = some ce) (hv : ce.vm = .none) (hcl : s.vm.findClass E = some ce.cls)
    (kk : W p l e R s m args below meth c H locs cells slots Q (F0 m x.handlerPc ls [.ref q])) : vx_W p l e R s m args below meth c H locs cells slots Q (F0 m pc ls rest) q := by
  intro T hT X
  have hpl : e.platform.magicAccessors = ({} : Platform).magicAccessors := by rw [X.admits.platform]
  obtain ⟨c3, c4, hc3, hc4, hasg⟩ := Cond.castable_spec hcast
  cases Option.some.inj (hc3.symm.trans hcl)
  obtain ⟨c5, hc5, hcl5⟩ := Cond.classLink_spec hown hlink e.platform hpl
  cases Option.some.inj (hc4.symm.trans hc5)
  obtain ⟨vm', X', st⟩ := X.thenCaughtThrough q (g := F0 m pc ls rest) rfl (Steps.refl _) (by rw [hT]; exact hcell) (by rw [hv]; rfl) (by obtain ⟨k9, h9, -⟩ := Vm.findClass_spec hcl; exact ⟨k9, h9⟩) pre x suf hsplit
    (fun z hz => by
      rcases hpass z hz with h | ⟨hz0, nm, hl1, hn1⟩
      · exact Or.inl h
      · obtain ⟨c6, hc6, hcl6⟩ := Cond.classLink_spec hown hl1 e.platform hpl
        obtain ⟨a8, b8, h1, h2, h3⟩ := hn1
        cases Option.some.inj (h1.symm.trans hcl)
        cases Option.some.inj (h2.symm.trans hc6)
        exact Or.inr ⟨hz0, _, hcl6, h3⟩) hx (Or.inr ⟨h0, c4, hcl5, hasg⟩)
  obtain ⟨t, a1, b1⟩ := kk (T.setVm vm') hT X'
  exact ⟨t, st.trans a1, b1⟩
end Rows
section Ends
variable {p : Program} {l : Launch} {e : Env} {R : Room} {s : State} {m : MethodId} {args : Array Value} {below : List Frame} {meth : Method} {c : Code} {H : Heap} {locs : List Loc} {cells slots : Nat} {Q : State → Prop}
variable {mc ms : Nat} {free : Addr → Prop} {A0 A1 : Nat → Prop} {H0 : Heap} {a : Array Value} {ls : Array Slot} {st0 rest : List Value}
variable {Qc : Array Value → State → Outcome → State → Prop} {XC : String → State → State → Prop}
/-- what a body that may throw owes at its end -/
def vx_MQ (below : List Frame) (Qc : Array Value → State → Outcome → State → Prop) (XC : String → State → State → Prop) (a : Array Value) (s : State) (mc ms : Nat) (free : Addr → Prop) : State → Prop := fun t =>
  ∃ o, t.status = .running ∧ Ended t below o ∧ vx_Q Qc XC mc ms free a s o t
theorem vx_ret {g : JFrame} {mc ms : Nat} (k : W p l e R s m args below meth c H locs cells slots (MQ below Qc args s mc ms free) g) : W p l e R s m args below meth c H locs cells slots (vx_MQ below Qc XC args s mc ms free) g := by
  intro T hT X
  obtain ⟨t, a1, o, b1, b2, b3, b4⟩ := k T hT X
  exact ⟨t, a1, o, b1, b2, Or.inl ⟨b3, b4⟩⟩
/-- not caught here: it goes on to the caller -/
theorem vx_widen {g : JFrame} {q : Addr} {k n : Nat} (h1 : cells ≤ k) (h2 : slots ≤ n) (kk : vx_W p l e R s m args below meth c H locs k n Q g q) : vx_W p l e R s m args below meth c H locs cells slots Q g q := fun T hT X => kk T hT (stand_widen X h1 h2)
theorem vx_out {pc : Nat} {E : String} {ce : Cell} {q : Addr} {mc ms : Nat} (hout : ∀ x ∈ c.exceptionTable.toList, covers x pc = false) (hlocks : meth.locks = false) (hcell : H[q]? = some ce) (hv : ce.vm = .none) (hcl : s.vm.findClass E = some ce.cls)
    (hx : ∀ t : State, t.heap = H → s.vm.Alike t.vm → XC E s t) (hf : ∀ z ∈ locs, free z.base) (hc : cells ≤ mc) (hs : slots ≤ ms) :
    vx_W p l e R s m args below meth c H locs cells slots (vx_MQ below Qc XC args s mc ms free) (F0 m pc ls rest) q := by
  intro T hT X
  obtain ⟨st1, hrun, hend, hW, hsm⟩ := X.leaveThrown q (g := F0 m pc ls rest) rfl rfl rfl hout hlocks
  have hcell9 : (T.setFrames (.throwing q :: below)).heap[q]? = some ce := by
    show T.heap[q]? = some ce
    rw [hT]; exact hcell
  exact ⟨_, st1, .threw q, hrun, hend, Or.inr ⟨q, rfl, E, ce, locs, hx _ hT hW.alike, hcell9, hv, hcl, hW, hsm.mono hc hs, hf⟩⟩
theorem vx_frame {U : State} {k n : Nat} (h : s.sameButNew ({ U with vm := s.vm } : State) locs k n) : s.heap.size ≤ U.heap.size ∧ ∀ q : Nat, q < s.heap.size → (∀ z ∈ locs, z.base ≠ q) → U.heap[q]? = s.heap[q]? := by
  obtain ⟨-, h2, -, -, -, h6⟩ := h
  refine ⟨h2, fun q hq hz => ?_⟩
  obtain ⟨c9, e1, e2, e3, e4⟩ := h6 q _ (Array.getElem?_eq_getElem hq)
  have hs : c9.slots = (s.heap[q]).slots := Array.ext_getElem? fun i => e4 i fun hm => hz _ hm rfl
  have h9 : c9 = s.heap[q] := by
    rw [hs] at e2
    exact e2
  have e5 : U.heap[q]? = some c9 := e1
  rw [e5, h9, Array.getElem?_eq_getElem hq]
/-- the words of a throw but the four that speak of the heap -/
def vx_no (w : Cond) : Bool := decide (w ≠ .isRef (.static Bundle.tN "UNASSIGNED_STACK" Bundle.steD)) && decide (w ≠ .isRef (.static Bundle.tN "SUPPRESSED_SENTINEL" Bundle.listD)) && decide (w ≠ .laysStatic Bundle.tN "UNASSIGNED_STACK" Bundle.steD) && decide (w ≠ .laysStatic Bundle.tN "SUPPRESSED_SENTINEL" Bundle.listD)
def vx_at0 (own : String) (ic : Nat) (X : String) (names : List String) : List Cond := (Bundle.ownAtoms0 own ic X names).filter vx_no
def vx_atS (own : String) (ic : Nat) (X : String) (names : List String) : List Cond := (Bundle.ownAtoms own ic X names).filter vx_no
/-- a word that the tables alone decide, or a good one -/
def vx_ot (w : Cond) : Bool := w.onTables || goodWord w
theorem vx_ot_at {args a' : Array Value} {s U : State} {w : Cond} (hW : s.WarmedH U.vm) (hvm : s.vm = U.vm) (hg : vx_ot w = true) (h : w.before args s = true) : w.before a' U = true := by
  simp only [vx_ot, Bool.or_eq_true] at hg
  rcases hg with hg | hg
  · exact va_tabs hg hvm h
  · exact word_at hW (good_of_word hg) h
/-- a list's words: the good ones out of the method's own list, the others by premises of their own -/
theorem vx_hat {args : Array Value} {s : State} {L B : List Cond} (h1 : ∀ w ∈ L.filter goodWord, w.before args s = true) (h2 : ∀ w ∈ L.filter (fun w => !goodWord w), w ∈ B) (h3 : ∀ w ∈ B, w.before args s = true) : ∀ w ∈ L, w.before args s = true := by
  intro w hw
  by_cases g : goodWord w = true
  · exact h1 w (List.mem_filter.mpr ⟨hw, g⟩)
  · refine h3 w (h2 w (List.mem_filter.mpr ⟨hw, ?_⟩))
    show (!goodWord w) = true
    cases hgw : goodWord w
    · rfl
    · exact absurd hgw g
theorem vx_c {args : Array Value} {s : State} {w : Cond} {B : List Cond} (h : w.before args s = true) (t : ∀ w ∈ B, w.before args s = true) : ∀ w' ∈ w :: B, w'.before args s = true := fun w' h' => (List.mem_cons.mp h').elim (fun e => by rw [e]; exact h) (t w')
theorem vx_n {args : Array Value} {s : State} : ∀ w ∈ ([] : List Cond), w.before args s = true := fun _ h => nomatch h
theorem vx_own {args : Array Value} {s : State} {L : List Cond} (h1 : ∀ w ∈ L.filter vx_no, w.before args s = true)
    (hU : (Cond.isRef (.static Bundle.tN "UNASSIGNED_STACK" Bundle.steD)).before args s = true) (hN : (Cond.isRef (.static Bundle.tN "SUPPRESSED_SENTINEL" Bundle.listD)).before args s = true)
    (lU : (Cond.laysStatic Bundle.tN "UNASSIGNED_STACK" Bundle.steD).before args s = true) (lN : (Cond.laysStatic Bundle.tN "SUPPRESSED_SENTINEL" Bundle.listD).before args s = true) : ∀ w ∈ L, w.before args s = true := by
  intro w hw
  by_cases e1 : w = .isRef (.static Bundle.tN "UNASSIGNED_STACK" Bundle.steD)
  · rw [e1]; exact hU
  · by_cases e2 : w = .isRef (.static Bundle.tN "SUPPRESSED_SENTINEL" Bundle.listD)
    · rw [e2]; exact hN
    · by_cases e3 : w = .laysStatic Bundle.tN "UNASSIGNED_STACK" Bundle.steD
      · rw [e3]; exact lU
      · by_cases e4 : w = .laysStatic Bundle.tN "SUPPRESSED_SENTINEL" Bundle.listD
        · rw [e4]; exact lN
        · exact h1 w (List.mem_filter.mpr ⟨hw, by unfold vx_no; rw [decide_eq_true e1, decide_eq_true e2, decide_eq_true e3, decide_eq_true e4]; rfl⟩)
/-- where a static field lies, its class's statics cell in H -/
def vx_L (C n d : String) (A : Nat → Prop) (U : State) (H : Heap) : Prop := ∃ (c : ClassId) (k : Class) (i : Nat) (f : Field) (a : Nat) (cell : Cell), U.vm.findClass C = some c ∧ U.fieldFound? C n d = some (c, k, i, f) ∧ f.isStatic = true ∧ k.statics = some a ∧ H[a]? = some cell ∧ cell.vm.isStatics = true ∧ cell.cls = c ∧ f.slot < cell.slots.size ∧ k.staticTypes[f.slot]? = some f.type ∧ ¬ A a
theorem vx_L.moved {C n d : String} {A : Nat → Prop} {u U : State} {H : Heap} (hvm : u.vm.Alike U.vm) (h : vx_L C n d A u H) : vx_L C n d A U H := by
  obtain ⟨c, k, i, f, a, cell, h1, h2, h3, h4, h5, h6, h7, h8, h9, h10⟩ := h
  obtain ⟨k', hi', he⟩ := State.fieldFound?_setVm hvm h2
  exact ⟨c, k', i, f, a, cell, by rw [hvm.findClass]; exact h1, hi', h3, by rw [he]; exact h4, h5, h6, h7, h8, by rw [he]; exact h9, h10⟩
theorem vx_L.kept {C n d : String} {A : Nat → Prop} {U : State} {H H1 : Heap} (h : vx_L C n d A U H) (hq : ∀ a : Nat, a < H.size → ¬ A a → H1[a]? = H[a]?) : vx_L C n d A U H1 := by
  obtain ⟨c, k, i, f, a, cell, h1, h2, h3, h4, h5, h6, h7, h8, h9, h10⟩ := h
  exact ⟨c, k, i, f, a, cell, h1, h2, h3, h4, by rw [hq a (Array.getElem?_eq_some_iff.mp h5).1 h10]; exact h5, h6, h7, h8, h9, h10⟩
theorem vx_L.narrow {C n d : String} {A B : Nat → Prop} {U : State} {H : Heap} (h : vx_L C n d A U H) (hAB : ∀ q, B q → A q) : vx_L C n d B U H := by
  obtain ⟨c, k, i, f, a, cell, h1, h2, h3, h4, h5, h6, h7, h8, h9, h10⟩ := h
  exact ⟨c, k, i, f, a, cell, h1, h2, h3, h4, h5, h6, h7, h8, h9, fun z => h10 (hAB _ z)⟩
theorem vx_L.word {C n d : String} {A : Nat → Prop} {s : State} {args : Array Value} (h : vx_L C n d A s s.heap) : (Cond.laysStatic C n d).before args s = true := by
  obtain ⟨c, k, i, f, a, cell, h1, h2, h3, h4, h5, h6, h7, h8, h9, -⟩ := h
  show (Cond.laysStatic C n d).holds args s none s [] = true
  exact Cond.laysStatic_of h1 h2 h3 h4 h5 h6 h7 h8 h9
/-- .. and what it holds: null or some reference -/
def vx_Zq (C n d : String) (A : Nat → Prop) (U : State) (H : Heap) : Prop := va_Zq C n d A U H ∧ vx_L C n d A U H
theorem vx_Zq.moved {C n d : String} {A : Nat → Prop} {u U : State} {H : Heap} (hvm : u.vm.Alike U.vm) (h : vx_Zq C n d A u H) : vx_Zq C n d A U H := ⟨va_Zq.moved hvm h.1, vx_L.moved hvm h.2⟩
theorem vx_Zq.kept {C n d : String} {A : Nat → Prop} {U : State} {H H1 : Heap} (h : vx_Zq C n d A U H) (hq : ∀ a : Nat, a < H.size → ¬ A a → H1[a]? = H[a]?) : vx_Zq C n d A U H1 := ⟨va_Zq.kept h.1 hq, vx_L.kept h.2 hq⟩
theorem vx_Zq.narrow {C n d : String} {A B : Nat → Prop} {U : State} {H : Heap} (h : vx_Zq C n d A U H) (hAB : ∀ q, B q → A q) : vx_Zq C n d B U H := ⟨va_Zq.narrow h.1 hAB, vx_L.narrow h.2 hAB⟩
theorem vx_Zqof {args : Array Value} {s : State} {C n d : String} {A : Nat → Prop} (hl : (Cond.laysStatic C n d).before args s = true) (hini : (Cond.initialized C).before args s = true) (h : (Cond.isRef (.static C n d)).before args s = true) (hA : ∀ a : Nat, a < s.heap.size → ¬ A a) : vx_Zq C n d A s s.heap := by
  refine ⟨va_Zqof hl hini h hA, ?_⟩
  obtain ⟨c, k, i, f, a, cell, h1, h2, h3, h4, h5, h6, h7, h8, h9⟩ := Cond.laysStatic_spec hl
  exact ⟨c, k, i, f, a, cell, h1, h2, h3, h4, h5, h6, h7, h8, h9, hA a (Array.getElem?_eq_some_iff.mp h5).1⟩
theorem vx_isRef {C n d : String} {v : Value} {A : Nat → Prop} {s : State} {args : Array Value} (h : va_Z C n d v A s s.heap) (hv : v.isRef = true) : (Cond.isRef (.static C n d)).before args s = true := by
  obtain ⟨cf, kf, fi, f, a, cell, h1, h2, h3, h4, h5, h6, h7, -⟩ := h
  have he : (Term.static C n d).eval args s none [] s = some v := by
    simp [Term.eval, State.fieldNamed?, h1, h2, h4, h5, h6, h7]
  simp only [Cond.before, Cond.holds, Cond.value, he]
  cases v <;> simp_all [Value.isRef]
theorem vx_isRefq {C n d : String} {A : Nat → Prop} {s : State} {args : Array Value} (h : va_Zq C n d A s s.heap) : (Cond.isRef (.static C n d)).before args s = true := by
  rcases h with h | ⟨t, h⟩
  · exact vx_isRef h rfl
  · exact vx_isRef h rfl
/-- the same frame, seen from here: as if the method were called anew in this heap -/
theorem vx_rebase {T : State} (X : Stand p l e R s m args below meth c T locs cells slots) {R' : Room} (hf : R'.frames ≤ R.frames) (hl : R'.locals ≤ R.locals) (hc : cells + R'.cells ≤ R.cells) (hs : slots + R'.slots ≤ R.slots) :
    Stand p l e R' ((T.setVm s.vm).setFrames (.invoking m args :: below)) m args below meth c T [] 0 0 := by
  have htop : (T.setVm s.vm).topJava?.isSome := X.here.top
  have hF : ((T.setVm s.vm).setFrames (.invoking m args :: below)).frames = .invoking m args :: below := State.frames_setFrames _ (State.cur_lt_of_top htop)
  obtain ⟨g₀, hg0⟩ := Option.isSome_iff_exists.mp htop
  obtain ⟨r, hr⟩ := State.topJava?_eq_some.mp hg0
  have hl9 : e.platform.stackLimits (T.setVm s.vm).me = e.platform.stackLimits s.me := X.limits
  have hb9 : (T.setVm s.vm).me.stackBytes = s.me.stackBytes := X.bytes
  refine ⟨X.admits, X.cas, X.clock, hF, ?_, X.hears, X.method, X.code, X.here, X.tail, X.warmed, ?_, ?_, ?_⟩
  · have h := X.room
    have hU : ((T.setVm s.vm).setFrames (.invoking m args :: below)).localsInUse = s.localsInUse := by
      rw [State.localsInUse_invoking hF (meth := meth) (c := c) X.method X.code, State.localsInUse_invoking X.frames X.method X.code]
    simp only [State.hasRoom, Bool.and_eq_true, decide_eq_true_eq] at h ⊢
    obtain ⟨⟨⟨⟨h1, h2, h3, h4, h5, h6⟩, h7⟩, h8⟩, h9⟩ := h
    rw [X.frames, List.length_cons] at h2 h3
    have q1 := X.heapSize
    have q2 := X.used
    simp only [hF, hU, List.length_cons, State.stackLimits_setFrames, State.stackBytes_setFrames, hl9, hb9]
    refine ⟨⟨⟨⟨by omega, by omega, by omega, by omega, by omega, h6⟩, ?_⟩, ?_⟩, X.book⟩
    · show T.heap.size + R'.cells ≤ e.platform.maxCells
      omega
    · show T.slotsUsed + R'.slots ≤ e.platform.maxSlots
      omega
  · rw [State.stackLimits_setFrames]; rfl
  · rw [State.stackBytes_setFrames]; rfl
  · refine ⟨?_, Nat.le_refl _, Nat.le_refl _, ?_, ?_, fun a c9 h9 => ⟨c9, h9, rfl, rfl, fun _ _ => rfl⟩⟩
    · obtain ⟨t, ht, -⟩ := State.frames_cons hr
      show T.setVm s.vm = { ((T.setVm s.vm).setFrames (.invoking m args :: below)).setFrames (T.setVm s.vm).frames with heap := T.heap, slotsUsed := T.slotsUsed }
      rw [State.setFrames_setFrames, State.setFrames_self ht]
      rfl
    · show T.slotsUsed = T.slotsUsed + ((T.heap.toList.drop T.heap.size).map (·.slots.size)).sum
      rw [List.drop_eq_nil_of_le (Nat.le_of_eq Array.length_toList)]
      rfl
    · show ((T.heap.toList.drop T.heap.size).map (·.slots.size)).sum ≤ 0
      rw [List.drop_eq_nil_of_le (Nat.le_of_eq Array.length_toList)]
      exact Nat.le_refl _
/-- 'throw new E()': new; dup; invokespecial; athrow -/
theorem vx_throw0 {cc : ByteArray} {pc : Nat} (hexec : p.tables.exec = Jvm.exec) (hb : c.code = cc) (hl : l.stackTraces = false) {own cls : String} {names : List String} {ik ic mc ms : Nat} {A : Nat → Prop}
    (hown : s.vm.findClass own = some m.cls) (hcls : Bundle.fit cls = true) (hnames : ∀ n ∈ names, Bundle.fit n = true)
    (hk : (Cond.classLink own ik cls).before args s = true) (hini : (Cond.initialized cls).before args s = true) (hat : ∀ w ∈ vx_at0 own ic cls names, w.before args s = true)
    (hgood : ∀ w ∈ Cond.classLink own ik cls :: Cond.initialized cls :: vx_at0 own ic cls names, vx_ot w = true)
    (hU : vx_Zq Bundle.tN "UNASSIGNED_STACK" Bundle.steD A s s.heap) (hN : vx_Zq Bundle.tN "SUPPRESSED_SENTINEL" Bundle.listD A s s.heap) (hS : va_S A s.heap H locs) (hsize : ls.size = c.maxLocals)
    (d0 : decode cc pc = .ok (.new ik, 3)) (d3 : decode cc (pc + 3) = .ok (.dup, 1)) (d4 : decode cc (pc + 4) = .ok (.invokespecial ic, 3)) (d7 : decode cc (pc + 7) = .ok (.athrow, 1))
    (hout : ∀ x ∈ c.exceptionTable.toList, covers x (pc + 7) = false)
    (hRframes : names.length + 3 < R.frames) (hRlocals : (rest.map fun v => v.category).sum + (13 * (names.length + 1) + 42) ≤ R.locals) (hRcells : cells + 1 ≤ R.cells) (hRslots : slots + 6 ≤ R.slots) (hlocks : meth.locks = false)
    (hx : ∀ t : State, s.vm.Alike t.vm → H.size ≤ t.heap.size → (∀ q : Nat, q < H.size → t.heap[q]? = H[q]?) → XC cls s t)
    (hf : ∀ z ∈ locs, free z.base) (hc : cells + 1 ≤ mc) (hs : slots + 6 ≤ ms) :
    W p l e R s m args below meth c H locs cells slots (vx_MQ below Qc XC args s mc ms free) (F0 m pc ls rest) := by
  intro T hT X
  have htr : e.platform.stackTraces = false := (show e.platform.stackTraces = l.stackTraces by rw [X.admits.platform]).trans hl
  have Y := vx_rebase X (R' := { frames := R.frames, locals := R.locals, cells := 1, slots := 6 }) (Nat.le_refl _) (Nat.le_refl _) hRcells hRslots
  obtain ⟨s', hA⟩ : ∃ z, z = (T.setVm s.vm).setFrames (.invoking m args :: below) := ⟨_, rfl⟩
  rw [← hA] at Y
  have hvm : s'.vm = s.vm := by rw [hA]; rfl
  have hhp : s'.heap = H := by rw [hA]; exact hT
  have hW0 : s.WarmedH s'.vm := by rw [hvm]; exact State.WarmedH.refl s
  have hat' : ∀ w ∈ vx_at0 own ic cls names, w.before args s' = true := fun w hw => vx_ot_at hW0 hvm.symm (hgood w (List.mem_cons_of_mem _ (List.mem_cons_of_mem _ hw))) (hat w hw)
  have hk' : (Cond.classLink own ik cls).before args s' = true := vx_ot_at hW0 hvm.symm (hgood _ List.mem_cons_self) hk
  have hini' : (Cond.initialized cls).before args s' = true := vx_ot_at hW0 hvm.symm (hgood _ (List.mem_cons_of_mem _ List.mem_cons_self)) hini
  have hU' : vx_Zq Bundle.tN "UNASSIGNED_STACK" Bundle.steD A s' s'.heap := by rw [hhp]; exact vx_Zq.moved hW0.alike (hU.kept hS.2.1)
  have hN' : vx_Zq Bundle.tN "SUPPRESSED_SENTINEL" Bundle.listD A s' s'.heap := by rw [hhp]; exact vx_Zq.moved hW0.alike (hN.kept hS.2.1)
  have h : ∀ w ∈ Bundle.ownAtoms0 own ic cls names, w.before args s' = true := vx_own hat' (vx_isRefq hU'.1) (vx_isRefq hN'.1) hU'.2.word hN'.2.word
  have hown' : s'.vm.findClass own = some m.cls := by rw [hvm]; exact hown
  have hins : (Cond.instantiable cls 6).before args s' = true := h _ (by simp [Bundle.ownAtoms0])
  obtain ⟨vm₁, cX, kX, hfX, hkX, -, -, X₁, st1⟩ := Y.newCold hexec (own := own) (C := cls) (index := ik) (n := 6) hown' hk' hins hini'
    (g := F0 m pc ls rest) rfl (by rw [hb]; exact d0) (Nat.le_refl _) (Nat.le_refl _)
  generalize hT1 : (T.setVm vm₁).pushCell { cls := cX, slots := kX.instanceTypes.map defaultValue, vm := .none } = T1 at X₁ st1
  have hcat : (Value.ref T.heap.size).category = 1 := rfl
  have hcellA : T1.heap[T.heap.size]? = some (freshCell cX kX) := by rw [← hT1]; exact State.heap_pushCell_size _ _
  have d3' : decode c.code (pc + 3) = .ok (.dup, 1) := by rw [hb]; exact d3
  obtain ⟨U, hsteps, hrun, hend, hW, hsame, ce, hce, hO⟩ := X₁.ctorThrow0 hexec htr (own := own) (cls := cls) (names := names) (ic := ic) hown' hcls hnames h (fun x hx => nomatch hx) hfX hkX hcellA (by rw [hhp, hT]; exact Nat.le_refl _)
    (g := { method := m, pc := pc + 4, locals := ls, stack := .ref T.heap.size :: .ref T.heap.size :: rest, locked := none }) rfl hsize rfl rfl (rest := rest) rfl
    (by rw [hb]; exact d4) (by rw [hb]; exact d7) hout hRframes (by simp only [List.map_cons, List.sum_cons, hcat]; omega) hlocks
  obtain ⟨f1, f2⟩ := vx_frame hsame
  rw [hhp] at f1 f2
  have hWs : s.WarmedH U.vm := State.WarmedH.trans hW0 hW
  have hcl : s.vm.findClass cls = some ce.cls := by
    have h9 := hO.cls
    rw [hvm] at h9
    exact h9
  have hall : s.sameButNew ({ U with vm := s.vm } : State) locs mc ms := by
    subst hA
    obtain ⟨e1, e2⟩ := hsame
    rw [State.setFrames_setFrames] at e1
    have h2 : (T.setVm s.vm).sameButNew ({ U with vm := s.vm } : State) [] (0 + 1) (0 + 6) := ⟨e1, e2⟩
    have h3 := X.same.trans h2
    rw [List.append_nil] at h3
    exact h3.mono hc hs
  refine ⟨U, ?_, .threw T.heap.size, hrun, hend, Or.inr ⟨T.heap.size, rfl, cls, ce, locs, hx U hWs.alike f1 (fun q hq => f2 q hq (fun z hz => nomatch hz)), hce, hO.vm, hcl, hWs, hall, hf⟩⟩
  refine st1 _ ?_
  show Steps p.tables e below (T1.setTop { method := m, pc := pc + 3, locals := ls, stack := .ref T.heap.size :: rest, locked := none }) _
  jvm_step X₁.here [X₁.here.top, hexec, d3', Value.category]
  exact hsteps
/-- 'throw new E("text")': new; dup; ldc; invokespecial; athrow -/
theorem vx_throwS {cc : ByteArray} {pc : Nat} (hexec : p.tables.exec = Jvm.exec) (hb : c.code = cc) (hl : l.stackTraces = false) {own cls text : String} {names : List String} {ik is ic mc ms sa : Nat} {A : Nat → Prop}
    (hown : s.vm.findClass own = some m.cls) (hcls : Bundle.fit cls = true) (hnames : ∀ n ∈ names, Bundle.fit n = true)
    (hk : (Cond.classLink own ik cls).before args s = true) (hini : (Cond.initialized cls).before args s = true) (hstr : vk_R own is text sa s) (hat : ∀ w ∈ vx_atS own ic cls names, w.before args s = true)
    (hgood : ∀ w ∈ Cond.classLink own ik cls :: Cond.initialized cls :: vx_atS own ic cls names, vx_ot w = true)
    (hU : vx_Zq Bundle.tN "UNASSIGNED_STACK" Bundle.steD A s s.heap) (hN : vx_Zq Bundle.tN "SUPPRESSED_SENTINEL" Bundle.listD A s s.heap) (hS : va_S A s.heap H locs) (hsize : ls.size = c.maxLocals)
    (d0 : decode cc pc = .ok (.new ik, 3)) (d3 : decode cc (pc + 3) = .ok (.dup, 1)) (d4 : decode cc (pc + 4) = .ok (.ldc is, 2)) (d6 : decode cc (pc + 6) = .ok (.invokespecial ic, 3)) (d9 : decode cc (pc + 9) = .ok (.athrow, 1))
    (hout : ∀ x ∈ c.exceptionTable.toList, covers x (pc + 9) = false)
    (hRframes : names.length + 3 < R.frames) (hRlocals : (rest.map fun v => v.category).sum + (13 * (names.length + 1) + 43) ≤ R.locals) (hRcells : cells + 1 ≤ R.cells) (hRslots : slots + 6 ≤ R.slots) (hlocks : meth.locks = false)
    (hx : ∀ t : State, s.vm.Alike t.vm → H.size ≤ t.heap.size → (∀ q : Nat, q < H.size → t.heap[q]? = H[q]?) → XC cls s t)
    (hf : ∀ z ∈ locs, free z.base) (hc : cells + 1 ≤ mc) (hs : slots + 6 ≤ ms) :
    W p l e R s m args below meth c H locs cells slots (vx_MQ below Qc XC args s mc ms free) (F0 m pc ls rest) := by
  intro T hT X
  have htr : e.platform.stackTraces = false := (show e.platform.stackTraces = l.stackTraces by rw [X.admits.platform]).trans hl
  have Y := vx_rebase X (R' := { frames := R.frames, locals := R.locals, cells := 1, slots := 6 }) (Nat.le_refl _) (Nat.le_refl _) hRcells hRslots
  obtain ⟨s', hA⟩ : ∃ z, z = (T.setVm s.vm).setFrames (.invoking m args :: below) := ⟨_, rfl⟩
  rw [← hA] at Y
  have hvm : s'.vm = s.vm := by rw [hA]; rfl
  have hhp : s'.heap = H := by rw [hA]; exact hT
  have hW0 : s.WarmedH s'.vm := by rw [hvm]; exact State.WarmedH.refl s
  have hat' : ∀ w ∈ vx_atS own ic cls names, w.before args s' = true := fun w hw => vx_ot_at hW0 hvm.symm (hgood w (List.mem_cons_of_mem _ (List.mem_cons_of_mem _ hw))) (hat w hw)
  have hk' : (Cond.classLink own ik cls).before args s' = true := vx_ot_at hW0 hvm.symm (hgood _ List.mem_cons_self) hk
  have hini' : (Cond.initialized cls).before args s' = true := vx_ot_at hW0 hvm.symm (hgood _ (List.mem_cons_of_mem _ List.mem_cons_self)) hini
  have hU' : vx_Zq Bundle.tN "UNASSIGNED_STACK" Bundle.steD A s' s'.heap := by rw [hhp]; exact vx_Zq.moved hW0.alike (hU.kept hS.2.1)
  have hN' : vx_Zq Bundle.tN "SUPPRESSED_SENTINEL" Bundle.listD A s' s'.heap := by rw [hhp]; exact vx_Zq.moved hW0.alike (hN.kept hS.2.1)
  have h : ∀ w ∈ Bundle.ownAtoms own ic cls names, w.before args s' = true := vx_own hat' (vx_isRefq hU'.1) (vx_isRefq hN'.1) hU'.2.word hN'.2.word
  have hown' : s'.vm.findClass own = some m.cls := by rw [hvm]; exact hown
  have hins : (Cond.instantiable cls 6).before args s' = true := h _ (by simp [Bundle.ownAtoms])
  obtain ⟨vm₁, cX, kX, hfX, hkX, -, -, X₁, st1⟩ := Y.newCold hexec (own := own) (C := cls) (index := ik) (n := 6) hown' hk' hins hini'
    (g := F0 m pc ls rest) rfl (by rw [hb]; exact d0) (Nat.le_refl _) (Nat.le_refl _)
  generalize hT1 : (T.setVm vm₁).pushCell { cls := cX, slots := kX.instanceTypes.map defaultValue, vm := .none } = T1 at X₁ st1
  have hcat : (Value.ref T.heap.size).category = 1 := rfl
  have hcellA : T1.heap[T.heap.size]? = some (freshCell cX kX) := by rw [← hT1]; exact State.heap_pushCell_size _ _
  have d3' : decode c.code (pc + 3) = .ok (.dup, 1) := by rw [hb]; exact d3
  have d4' : decode c.code (pc + 4) = .ok (.ldc is, 2) := by rw [hb]; exact d4
  have hstr' : vk_R own is text sa s' := vk_R.warm hW0 hstr
  obtain ⟨U, hsteps, hrun, hend, hW, hsame, ce, hce, hO⟩ := X₁.ctorThrowS hexec htr (own := own) (cls := cls) (names := names) (ic := ic) hown' hcls hnames h (fun x hx => nomatch hx) hfX hkX hcellA (by rw [hhp, hT]; exact Nat.le_refl _) (msg := .ref sa) rfl
    (g := { method := m, pc := pc + 6, locals := ls, stack := .ref sa :: .ref T.heap.size :: .ref T.heap.size :: rest, locked := none }) rfl hsize rfl rfl (rest := rest) rfl
    (by rw [hb]; exact d6) (by rw [hb]; exact d9) hout hRframes (by simp only [List.map_cons, List.sum_cons, hcat]; omega) hlocks
  obtain ⟨f1, f2⟩ := vx_frame hsame
  rw [hhp] at f1 f2
  have hWs : s.WarmedH U.vm := State.WarmedH.trans hW0 hW
  have hcl : s.vm.findClass cls = some ce.cls := by
    have h9 := hO.cls
    rw [hvm] at h9
    exact h9
  have hall : s.sameButNew ({ U with vm := s.vm } : State) locs mc ms := by
    subst hA
    obtain ⟨e1, e2⟩ := hsame
    rw [State.setFrames_setFrames] at e1
    have h2 : (T.setVm s.vm).sameButNew ({ U with vm := s.vm } : State) [] (0 + 1) (0 + 6) := ⟨e1, e2⟩
    have h3 := X.same.trans h2
    rw [List.append_nil] at h3
    exact h3.mono hc hs
  refine ⟨U, ?_, .threw T.heap.size, hrun, hend, Or.inr ⟨T.heap.size, rfl, cls, ce, locs, hx U hWs.alike f1 (fun q hq => f2 q hq (fun z hz => nomatch hz)), hce, hO.vm, hcl, hWs, hall, hf⟩⟩
  refine st1 _ ?_
  show Steps p.tables e below (T1.setTop { method := m, pc := pc + 3, locals := ls, stack := .ref T.heap.size :: rest, locked := none }) _
  jvm_step X₁.here [X₁.here.top, hexec, d3', Value.category]
  exact X₁.ldcString hexec (own := own) (text := text) (index := is) (a := sa) hown' hstr'.1 hstr'.2
    (g := { method := m, pc := pc + 4, locals := ls, stack := .ref T.heap.size :: .ref T.heap.size :: rest, locked := none }) rfl d4' _ hsteps
/-- 'throw new E("text")', the text by a wide index -/
theorem vx_throwSW {cc : ByteArray} {pc : Nat} (hexec : p.tables.exec = Jvm.exec) (hb : c.code = cc) (hl : l.stackTraces = false) {own cls text : String} {names : List String} {ik is ic mc ms sa : Nat} {A : Nat → Prop}
    (hown : s.vm.findClass own = some m.cls) (hcls : Bundle.fit cls = true) (hnames : ∀ n ∈ names, Bundle.fit n = true)
    (hk : (Cond.classLink own ik cls).before args s = true) (hini : (Cond.initialized cls).before args s = true) (hstr : vk_R own is text sa s) (hat : ∀ w ∈ vx_atS own ic cls names, w.before args s = true)
    (hgood : ∀ w ∈ Cond.classLink own ik cls :: Cond.initialized cls :: vx_atS own ic cls names, vx_ot w = true)
    (hU : vx_Zq Bundle.tN "UNASSIGNED_STACK" Bundle.steD A s s.heap) (hN : vx_Zq Bundle.tN "SUPPRESSED_SENTINEL" Bundle.listD A s s.heap) (hS : va_S A s.heap H locs) (hsize : ls.size = c.maxLocals)
    (d0 : decode cc pc = .ok (.new ik, 3)) (d3 : decode cc (pc + 3) = .ok (.dup, 1)) (d4 : decode cc (pc + 4) = .ok (.ldc_w is, 3)) (d7 : decode cc (pc + 7) = .ok (.invokespecial ic, 3)) (d10 : decode cc (pc + 10) = .ok (.athrow, 1))
    (hout : ∀ x ∈ c.exceptionTable.toList, covers x (pc + 10) = false)
    (hRframes : names.length + 3 < R.frames) (hRlocals : (rest.map fun v => v.category).sum + (13 * (names.length + 1) + 43) ≤ R.locals) (hRcells : cells + 1 ≤ R.cells) (hRslots : slots + 6 ≤ R.slots) (hlocks : meth.locks = false)
    (hx : ∀ t : State, s.vm.Alike t.vm → H.size ≤ t.heap.size → (∀ q : Nat, q < H.size → t.heap[q]? = H[q]?) → XC cls s t)
    (hf : ∀ z ∈ locs, free z.base) (hc : cells + 1 ≤ mc) (hs : slots + 6 ≤ ms) :
    W p l e R s m args below meth c H locs cells slots (vx_MQ below Qc XC args s mc ms free) (F0 m pc ls rest) := by
  intro T hT X
  have htr : e.platform.stackTraces = false := (show e.platform.stackTraces = l.stackTraces by rw [X.admits.platform]).trans hl
  have Y := vx_rebase X (R' := { frames := R.frames, locals := R.locals, cells := 1, slots := 6 }) (Nat.le_refl _) (Nat.le_refl _) hRcells hRslots
  obtain ⟨s', hA⟩ : ∃ z, z = (T.setVm s.vm).setFrames (.invoking m args :: below) := ⟨_, rfl⟩
  rw [← hA] at Y
  have hvm : s'.vm = s.vm := by rw [hA]; rfl
  have hhp : s'.heap = H := by rw [hA]; exact hT
  have hW0 : s.WarmedH s'.vm := by rw [hvm]; exact State.WarmedH.refl s
  have hat' : ∀ w ∈ vx_atS own ic cls names, w.before args s' = true := fun w hw => vx_ot_at hW0 hvm.symm (hgood w (List.mem_cons_of_mem _ (List.mem_cons_of_mem _ hw))) (hat w hw)
  have hk' : (Cond.classLink own ik cls).before args s' = true := vx_ot_at hW0 hvm.symm (hgood _ List.mem_cons_self) hk
  have hini' : (Cond.initialized cls).before args s' = true := vx_ot_at hW0 hvm.symm (hgood _ (List.mem_cons_of_mem _ List.mem_cons_self)) hini
  have hU' : vx_Zq Bundle.tN "UNASSIGNED_STACK" Bundle.steD A s' s'.heap := by rw [hhp]; exact vx_Zq.moved hW0.alike (hU.kept hS.2.1)
  have hN' : vx_Zq Bundle.tN "SUPPRESSED_SENTINEL" Bundle.listD A s' s'.heap := by rw [hhp]; exact vx_Zq.moved hW0.alike (hN.kept hS.2.1)
  have h : ∀ w ∈ Bundle.ownAtoms own ic cls names, w.before args s' = true := vx_own hat' (vx_isRefq hU'.1) (vx_isRefq hN'.1) hU'.2.word hN'.2.word
  have hown' : s'.vm.findClass own = some m.cls := by rw [hvm]; exact hown
  have hins : (Cond.instantiable cls 6).before args s' = true := h _ (by simp [Bundle.ownAtoms])
  obtain ⟨vm₁, cX, kX, hfX, hkX, -, -, X₁, st1⟩ := Y.newCold hexec (own := own) (C := cls) (index := ik) (n := 6) hown' hk' hins hini'
    (g := F0 m pc ls rest) rfl (by rw [hb]; exact d0) (Nat.le_refl _) (Nat.le_refl _)
  generalize hT1 : (T.setVm vm₁).pushCell { cls := cX, slots := kX.instanceTypes.map defaultValue, vm := .none } = T1 at X₁ st1
  have hcat : (Value.ref T.heap.size).category = 1 := rfl
  have hcellA : T1.heap[T.heap.size]? = some (freshCell cX kX) := by rw [← hT1]; exact State.heap_pushCell_size _ _
  have d3' : decode c.code (pc + 3) = .ok (.dup, 1) := by rw [hb]; exact d3
  have d4' : decode c.code (pc + 4) = .ok (.ldc_w is, 3) := by rw [hb]; exact d4
  have hstr' : vk_R own is text sa s' := vk_R.warm hW0 hstr
  obtain ⟨U, hsteps, hrun, hend, hW, hsame, ce, hce, hO⟩ := X₁.ctorThrowS hexec htr (own := own) (cls := cls) (names := names) (ic := ic) hown' hcls hnames h (fun x hx => nomatch hx) hfX hkX hcellA (by rw [hhp, hT]; exact Nat.le_refl _) (msg := .ref sa) rfl
    (g := { method := m, pc := pc + 7, locals := ls, stack := .ref sa :: .ref T.heap.size :: .ref T.heap.size :: rest, locked := none }) rfl hsize rfl rfl (rest := rest) rfl
    (by rw [hb]; exact d7) (by rw [hb]; exact d10) hout hRframes (by simp only [List.map_cons, List.sum_cons, hcat]; omega) hlocks
  obtain ⟨f1, f2⟩ := vx_frame hsame
  rw [hhp] at f1 f2
  have hWs : s.WarmedH U.vm := State.WarmedH.trans hW0 hW
  have hcl : s.vm.findClass cls = some ce.cls := by
    have h9 := hO.cls
    rw [hvm] at h9
    exact h9
  have hall : s.sameButNew ({ U with vm := s.vm } : State) locs mc ms := by
    subst hA
    obtain ⟨e1, e2⟩ := hsame
    rw [State.setFrames_setFrames] at e1
    have h2 : (T.setVm s.vm).sameButNew ({ U with vm := s.vm } : State) [] (0 + 1) (0 + 6) := ⟨e1, e2⟩
    have h3 := X.same.trans h2
    rw [List.append_nil] at h3
    exact h3.mono hc hs
  refine ⟨U, ?_, .threw T.heap.size, hrun, hend, Or.inr ⟨T.heap.size, rfl, cls, ce, locs, hx U hWs.alike f1 (fun q hq => f2 q hq (fun z hz => nomatch hz)), hce, hO.vm, hcl, hWs, hall, hf⟩⟩
  refine st1 _ ?_
  show Steps p.tables e below (T1.setTop { method := m, pc := pc + 3, locals := ls, stack := .ref T.heap.size :: rest, locked := none }) _
  jvm_step X₁.here [X₁.here.top, hexec, d3', Value.category]
  exact X₁.ldcStringW hexec (own := own) (text := text) (index := is) (a := sa) hown' hstr'.1 hstr'.2
    (g := { method := m, pc := pc + 4, locals := ls, stack := .ref T.heap.size :: .ref T.heap.size :: rest, locked := none }) rfl d4' _ hsteps
end Ends
section Bodies
variable {l : Launch}
theorem vx_ofW {y : MethodName} {ws ws' : List Cond} {rm : Room} {Pc : Array Value → State → Prop} {Qc : Array Value → State → Outcome → State → Prop} {XC : String → State → State → Prop} {mc ms : Nat} {free : Addr → Prop} {cc : ByteArray} {maxL : Nat} {ret : Option FieldType}
    (hy : plainName y.cls = true) (hw : ws = Cond.code y cc maxL ret :: ws')
    (body : ∀ p e s m args below meth c s₁, BodyLoose p l y (headSpec ws rm) cc maxL ret e s m args below meth c s₁ → c.maxLocals = maxL → (∀ x ∈ c.exceptionTable.toList, False) → Pc args s →
      W p l e (headSpec ws rm).room s m args below meth c s.heap [] 0 0 (vx_MQ below Qc XC args s mc ms free) (entryFrame m args maxL)) : vx_Met l y ws rm Pc Qc XC mc ms free := by
  refine MetFree.of_bodyS (code := cc) (maxLocals := maxL) (ret := ret) hy ?_ ?_
  · intro args s m h hn
    obtain ⟨meth, c, h1, h2, h3, h4, h5, h6, -, -⟩ := Cond.code_spec hn (atoms_spec (ws := ws) h _ (by rw [hw]; exact List.mem_cons_self))
    exact ⟨meth, c, h1, h2, h3, h4, h5, h6⟩
  · intro p e s m args below meth c s₁ B hml hP _
    have hh0 : s₁.heap = s.heap := by rw [B.state]; rfl
    have ht : ∀ x ∈ c.exceptionTable.toList, False := by
      obtain ⟨meth9, c9, h1, h2, -, -, -, -, h7, -⟩ := Cond.code_spec B.named (atoms_spec (ws := ws) B.pre _ (by rw [hw]; exact List.mem_cons_self))
      cases Option.some.inj (h1.symm.trans B.method)
      cases Option.some.inj (h2.symm.trans (Stand.of_body B).code)
      intro x hx
      rw [Array.isEmpty_iff.mp h7] at hx
      cases hx
    obtain ⟨t, a1, o, b1, b2, b3⟩ := body p e s m args below meth c s₁ B hml ht hP s₁ hh0 (Stand.of_body B)
    exact ⟨t, o, a1, b1, b2, b3⟩
/-- the table of a body with handlers -/
theorem vx_table {p : Program} {x y : MethodName} {S : Spec} {cc bytes : ByteArray} {maxL maxL' : Nat} {ret ret' : Option FieldType} {e : Env} {s s₁ : State} {m : MethodId} {args : Array Value} {below : List Frame} {meth : Method} {c : Code} {hh : List (Nat × Nat × Nat × Nat)}
    (B : BodyLoose p l y S cc maxL ret e s m args below meth c s₁) (h : (Cond.codeWith y bytes maxL' ret' hh).before args s = true) : c.exceptionTable.toList = tableOf hh := by
  obtain ⟨m9, meth9, c9, hn9, h1, h2, -, -, h6, -⟩ := Cond.codeWith_spec h
  cases Option.some.inj (hn9.symm.trans B.named)
  cases Option.some.inj (h1.symm.trans B.method)
  cases Option.some.inj (h2.symm.trans (Stand.of_body B).code)
  rw [← h6, table_eq]
end Bodies
end VXA
/-! ===== END ===== -/
/-! ===== BEGIN a static call of a method with an exception table ===== -/
section VXS
variable {p : Program} {l : Launch} {e : Env} {R : Room} {s : State} {m : MethodId} {args : Array Value} {below : List Frame} {meth : Method} {c : Code} {T : State} {H : Heap} {locs : List Loc} {cells slots : Nat}
abbrev vx_CSW (R : Room) (s : State) (args : Array Value) (own : String) (index : Nat) (y : MethodName) (bytes : ByteArray) (maxL : Nat) (ret : Option FieldType) (hh : List (Nat × Nat × Nat × Nat)) (ws : List Cond) (rm : Room) (mc ms n : Nat) : Prop :=
  (rm.cells = mc ∧ rm.slots = ms ∧ rm.frames + 1 ≤ R.frames ∧ 8 + (maxL + 11) + rm.locals ≤ R.locals ∧ (∀ w ∈ ws, ∀ (a' : Array Value) (U : State), s.WarmedH U.vm → w.before a' U = true) ∧ Cond.codeWith y bytes maxL ret hh ∈ ws) ∧
  (Cond.codeWith y bytes maxL ret hh).before args s = true ∧ (Cond.initialized y.cls).before args s = true ∧ (y.cls ≠ "java/lang/invoke/MethodHandle" ∧ y.cls ≠ "java/lang/invoke/VarHandle") ∧
  (∀ sig, parseMethodDescriptor y.desc = some sig → n = sig.parameters.length) ∧ (Cond.methodLink own index y).before args s = true ∧ (Cond.static y).before args s = true
theorem vx_cwSW {own : String} {index maxL mc ms : Nat} {y : MethodName} {bytes : ByteArray} {ret : Option FieldType} {hh : List (Nat × Nat × Nat × Nat)} {Ts ws ws' : List Cond} {rm : Room} (n : Nat) (ht : ∀ w ∈ Ts, w.before args s = true) (hT : GoodIn Ts (va_wsS own index y ws)) (hw : ws = Cond.codeWith y bytes maxL ret hh :: ws') (hrc : rm.cells = mc) (hrs : rm.slots = ms)
    (hd : y.cls ≠ "java/lang/invoke/MethodHandle" ∧ y.cls ≠ "java/lang/invoke/VarHandle" ∧ (parseMethodDescriptor y.desc).map (fun d => d.parameters.length) = some n) (hR : rm.frames + 1 ≤ R.frames ∧ 8 + (maxL + 11) + rm.locals ≤ R.locals) :
    vx_CSW R s args own index y bytes maxL ret hh ws rm mc ms n := by
  have ok : ∀ w ∈ va_wsS own index y ws, w.before args s = true := fun w h => ht w (hT w h).1
  have hG : GoodIn Ts ws := fun w h => hT w (by unfold va_wsS; exact List.mem_append_right _ h)
  have hc : Cond.codeWith y bytes maxL ret hh ∈ ws := by rw [hw]; exact List.mem_cons_self
  refine ⟨⟨hrc, hrs, hR.1, hR.2, pay_in ht hG, hc⟩, ht _ (hG _ hc).1, ok _ (by simp [va_wsS]), ⟨hd.1, hd.2.1⟩, fun sig h => ?_, ok _ (by simp [va_wsS]), ok _ (by simp [va_wsS])⟩
  have h2 := hd.2.2
  rw [h] at h2
  exact (Option.some.inj h2).symm
theorem vx_callSW (X : Stand p l e R s m args below meth c T locs cells slots) (hexec : p.tables.exec = Jvm.exec) {own : String} {index : Nat} {y : MethodName} {bytes : ByteArray} {maxL : Nat} {ret : Option FieldType} {hh : List (Nat × Nat × Nat × Nat)}
    (hown : s.vm.findClass own = some m.cls) (hlink : (Cond.methodLink own index y).before args s = true) (hstat : (Cond.static y).before args s = true) (hinit : (Cond.initialized y.cls).before args s = true)
    (hcode : (Cond.codeWith y bytes maxL ret hh).before args s = true) (hy : y.cls ≠ "java/lang/invoke/MethodHandle" ∧ y.cls ≠ "java/lang/invoke/VarHandle")
    {W9 : Nat} {Pre : Pt → Array Value → Prop} {Post : Pt → Array Value → Option Value → Pt → Prop} (hK : Back l R p e below s args y 3 W9 Pre Post)
    {g : JFrame} (hg : g.method = m) (hsize : g.locals.size = c.maxLocals) {argsL rest : List Value} (hlen : ∀ sig, parseMethodDescriptor y.desc = some sig → argsL.length = sig.parameters.length)
    (hstack : g.stack = argsL.reverse ++ rest) (hW : 2 * g.monitorRoom + (rest.map fun v => v.category).sum ≤ W9) (hdg : decode c.code g.pc = .ok (.invokestatic index, 3))
    (hpre : ∀ vm₁, s.WarmedH vm₁ → Pre ⟨T.setVm vm₁, locs, cells, slots⟩ argsL.toArray) :
    ∃ (v : Option Value) (vm₁ : Vm) (B : Pt), s.WarmedH vm₁ ∧ Stand p l e R s m args below meth c B.U B.locs B.cells B.slots ∧ Post ⟨T.setVm vm₁, locs, cells, slots⟩ argsL.toArray v B ∧
      ∀ target, Steps p.tables e below (B.U.setTop { g with pc := g.pc + 3, stack := v.toList ++ rest }) target → Steps p.tables e below (T.setTop g) target := by
  obtain ⟨mk, methM, cM, hnamed, hmethM, -, -, -, -, -, -, hsigM⟩ := Cond.codeWith_spec hcode
  have hstatic : methM.isStatic = true := Cond.static_spec hnamed hmethM hstat
  obtain ⟨kP, hkP, -⟩ := className_of_methodNamed hnamed
  have hinitP : kP.init = .initialized := Cond.initialized_spec (findClass_of_methodNamed hnamed) hkP hinit
  obtain ⟨vm₁, X₁, hstep₁⟩ := X.invokestatic hexec hown hlink hnamed hmethM hstatic hkP hinitP hy (g := g) hg (argsL := argsL) (rest := rest) (hlen _ hsigM) hstack hdg
  obtain ⟨v, B, X', hpost, hsteps⟩ := hK m meth c ⟨T.setVm vm₁, locs, cells, slots⟩ { g with stack := rest } (.invokestatic index) mk argsL.toArray X₁ hg hsize hdg hW (X₁.named hnamed) (hpre vm₁ X₁.warmed)
  exact ⟨v, vm₁, B, X₁.warmed, X', hpost, fun target h => hstep₁ _ fun acts => by rw [doInvoke_state]; exact hsteps.trans h⟩
theorem vx_runSW {y : MethodName} {bytes cc : ByteArray} {maxL nL mc ms n index : Nat} {ret : Option FieldType} {hh : List (Nat × Nat × Nat × Nat)} {ws : List Cond} {rm : Room} {Pc : Array Value → State → Prop} {Qc : Array Value → State → Outcome → State → Prop} {free : Addr → Prop} {Ts : List Cond} {own : String} {As rest : List Value} {g : JFrame}
    (S : CallFix p m c cc nL s args Ts own) (hM : Met l y ws rm Pc Qc mc ms free) (cw : vx_CSW R s args own index y bytes maxL ret hh ws rm mc ms n) (hp : PreS s H Pc As)
    (hg : g.method = m) (hn : As.length = n) (hsize : g.locals.size = nL) (hstack : g.stack = As.reverse ++ rest) (hW : 2 * g.monitorRoom + (rest.map fun v => v.category).sum ≤ 8) (hdg : decode cc g.pc = .ok (.invokestatic index, 3)) (hf : cells + mc ≤ R.cells ∧ slots + ms ≤ R.slots) :
    va_Run p l e R s m args below meth c H locs cells slots mc ms g rest (Qc As.toArray) (free) := by
  obtain ⟨⟨hrc, hrs, hfr, hlo, hws, hcw⟩, hcode, hini, hy, hlen, hl, hstt⟩ := cw
  have hK : Back l R p e below s args y 3 8 (PreOf R mc ms Pc) (PostOf Qc mc ms free) := va_backW (hh := hh) (bytes := bytes) (maxL := maxL) (ret := ret) hM hp.1 hrc hrs hfr hlo hws hcw (fun a' U hW => word_at hW (Or.inl (by first | rfl | simp [Cond.onTables, Cond.keeps, Cond.steady])) hini)
  obtain ⟨hx, hb, hml, ho, -⟩ := S
  intro T hT X
  obtain ⟨v, vm₁, ⟨U', l2, c2, s2⟩, hW₁, X', ⟨g', mk, t, L, e1, e2, hq, h1, hL, h2, h3⟩, st⟩ := vx_callSW X hx (hh := hh) (bytes := bytes) (maxL := maxL) (ret := ret) ho hl hstt hini hcode hy hK hg (hsize.trans hml.symm) (argsL := As) (rest := rest) (fun sig h => hn.trans (hlen sig h)) hstack hW (by rw [hb]; exact hdg)
    (fun vm₁ hW₁ => ⟨hf.1, hf.2, hp.2 (T.setVm vm₁) hT hW₁⟩)
  dsimp only [Pt.U, Pt.locs, Pt.cells, Pt.slots] at X' e1 e2 h1 h2 h3 st
  subst h1; subst h2; subst h3
  exact ⟨v, (T.setVm vm₁).calling g' mk As.toArray, t, U', L, hT, X', hL, e1, e2, hq, st⟩
/-- not caught here, past rows that name other classes: it goes on to the caller -/
theorem vx_outP {p : Program} {l : Launch} {e : Env} {R : Room} {s : State} {m : MethodId} {args : Array Value} {below : List Frame} {meth : Method} {c : Code} {H : Heap} {locs : List Loc} {cells slots : Nat} {free : Addr → Prop} {ls : Array Slot} {rest : List Value} {Qc : Array Value → State → Outcome → State → Prop} {XC : String → State → State → Prop}
    {pc : Nat} {own E : String} {ce : Cell} {q : Addr} {mc ms : Nat} (hown : s.vm.findClass own = some m.cls) (hlocks : meth.locks = false)
    (hpass : ∀ z ∈ c.exceptionTable.toList, covers z pc = false ∨ (z.catchType ≠ 0 ∧ ∃ nm : String, (Cond.classLink own z.catchType nm).before args s = true ∧ va_Nc E nm s)) (hcell : H[q]? = some ce) (hv : ce.vm = .none) (hcl : s.vm.findClass E = some ce.cls)
    (hx : ∀ t : State, t.heap = H → s.vm.Alike t.vm → XC E s t) (hf : ∀ z ∈ locs, free z.base) (hc : cells ≤ mc) (hs : slots ≤ ms) :
    vx_W p l e R s m args below meth c H locs cells slots (vx_MQ below Qc XC args s mc ms free) (F0 m pc ls rest) q := by
  intro T hT X
  have hpl : e.platform.magicAccessors = ({} : Platform).magicAccessors := by rw [X.admits.platform]
  obtain ⟨vm', hW', X', st⟩ := X.outThrough hlocks q (g := F0 m pc ls rest) rfl rfl rfl (cell := ce) (by rw [hT]; exact hcell) (by rw [hv]; rfl)
    (by obtain ⟨k9, h9, -⟩ := Vm.findClass_spec hcl; exact ⟨k9, h9⟩) (fun z hz => by
      rcases hpass z hz with h | ⟨hz0, nm, hl1, hn1⟩
      · exact Or.inl h
      · obtain ⟨c6, hc6, hcl6⟩ := Cond.classLink_spec hown hl1 e.platform hpl
        obtain ⟨a8, b8, h1, h2, h3⟩ := hn1
        cases Option.some.inj (h1.symm.trans hcl)
        cases Option.some.inj (h2.symm.trans hc6)
        exact Or.inr ⟨hz0, _, hcl6, h3⟩)
  obtain ⟨g₀, hfr⟩ := X'.frames_eq
  have hcell9 : ((T.setVm vm').setFrames (.throwing q :: below)).heap[q]? = some ce := by
    show T.heap[q]? = some ce
    rw [hT]; exact hcell
  have hend : Ended ((T.setVm vm').setFrames (.throwing q :: below)) below (.threw q) := State.frames_setFrames _ (State.cur_lt_of_frames hfr)
  refine ⟨(T.setVm vm').setFrames (.throwing q :: below), ?_, .threw q, X'.here.running, hend, Or.inr ⟨q, rfl, E, ce, locs, hx _ hT (X'.ends _).1.alike, hcell9, hv, hcl, (X'.ends _).1, (X'.ends _).2.mono hc hs, hf⟩⟩
  rw [X.pushThrowing_eq]
  exact st
/-- a thing of a world lies in the heap -/
theorem vx_lt {D : va_G} {cl : List vw_C} {ws : va_W} {H1 : Heap} (h : va_P D cl ws H1) {k : Nat} {q : Nat × va_E} (hk : ws[k]? = some q) : q.1 < H1.size := (h k q hk).lt
end VXS
/-! ===== END ===== -/
/-! ===== BEGIN methods with a table of their own: called by a name, returning or throwing ===== -/
section VXH
/-! vx_backW, vx_callVX, vx_callSX, vx_callVW, vx_runVW, vx_runVX, vx_runSX, vx_ofWH follow the same proofs as their sisters above (Free/Laws.lean, Shelf42/LK1.lean); vx_outP calls Shelf42/NT130.lean (outThrough). -/
section
variable {l : Launch} {R : Room} {p : Program} {e : Env} {below : List Frame} {s : State} {sargs : Array Value} {y : MethodName} {len W9 : Nat}
theorem vx_backW {ws : List Cond} {rm : Room} {Pc : Array Value → State → Prop} {Qc : Array Value → State → Outcome → State → Prop} {XC : String → State → State → Prop} {mc ms : Nat} {free : Addr → Prop} {bytes : ByteArray} {maxL : Nat} {ret : Option FieldType} {hh : List (Nat × Nat × Nat × Nat)}
    (hM : vx_Met l y ws rm Pc Qc XC mc ms free) (hblind : FrameBlind Pc) (hrc : rm.cells = mc) (hrs : rm.slots = ms)
    (hframes : rm.frames + 1 ≤ R.frames) (hlocals : W9 + (maxL + 11) + rm.locals ≤ R.locals)
    (hws : ∀ w ∈ ws, ∀ a' U, s.WarmedH U.vm → w.before a' U = true) (hcode : Cond.codeWith y bytes maxL ret hh ∈ ws) (hinit : ∀ a' U, s.WarmedH U.vm → (Cond.initialized y.cls).before a' U = true) :
    vx_Back l R p e below s sargs y len W9 (PreOf R mc ms Pc) (PostOf Qc mc ms free) (vx_Post XC mc ms free) := by
  intro m meth c A g ig mk a X hg hsize hdg hW hn hp
  have h1 : (headSpec ws rm).pre.before a A.U = true := atoms_intro fun w hw => hws w hw _ _ X.warmed
  have h2 : (Cond.codeWith y bytes maxL ret hh).before a A.U = true := hws _ hcode _ _ X.warmed
  have h3 : (Cond.initialized y.cls).before a A.U = true := hinit _ _ X.warmed
  have h4 : A.cells + (headSpec ws rm).room.cells ≤ R.cells := by rw [show (headSpec ws rm).room.cells = mc from hrc]; exact hp.1
  have h5 : A.slots + (headSpec ws rm).room.slots ≤ R.slots := by rw [show (headSpec ws rm).room.slots = ms from hrs]; exact hp.2.1
  have hPc : Pc a (A.U.calling g mk a) := hblind _ _ _ _ hp.2.2
  obtain ⟨U, Ls, c0, s0⟩ := A
  dsimp only [Pt.U, Pt.locs, Pt.cells, Pt.slots] at h1 h2 h3 h4 h5 X hn hPc ⊢
  obtain ⟨m9, methY, cY, hn9, hmY, hcY, -, hlY, -⟩ := Cond.codeWith_spec h2
  cases Option.some.inj (hn9.symm.trans hn)
  obtain ⟨kY, hkY, -⟩ := className_of_methodNamed hn
  have hinitY : kY.init = .initialized := Cond.initialized_spec (findClass_of_methodNamed hn) hkY h3
  have h : At U g.method c below := by rw [hg]; exact X.here
  have hlocals9 : W9 + (maxL + 11) + (headSpec ws rm).room.locals ≤ R.locals := hlocals
  have happ : (headSpec ws rm).appliesLoose y e.platform (U.calling g mk a) = true :=
    Spec.appliesLoose_calling (g := g) h hdg hn hkY hinitY
      (X.room_calling (g := g) (R' := (headSpec ws rm).room) hsize hmY hcY hframes (by rw [hlY]; omega) h4 h5) h1
  obtain ⟨mid, hmid⟩ := h.above
  have hfr : (U.setTop g).frames = (.java g :: mid) ++ below := by rw [State.frames_setTop' g h.top, hmid]; rfl
  obtain ⟨o, s₂, hsteps, -, hend, hq⟩ := Steps.callFree hM p X.admits X.cas X.clock (acts := []) hfr happ hPc trivial
  have hq' : vx_Q Qc XC mc ms free a (U.calling g mk a) o s₂ := hq
  rw [State.frames_setTop' g h.top] at hend
  obtain ⟨g₀, hg0⟩ := Option.isSome_iff_exists.mp h.top
  obtain ⟨r, hr⟩ := State.topJava?_eq_some.mp hg0
  have hr' : (({ U with heap := s₂.heap, slotsUsed := s₂.slotsUsed } : State).setVm s₂.vm).frames = .java g₀ :: r := hr
  rcases hq' with ⟨hqc, L, hfe, hL⟩ | ⟨q, rfl, E, ce, L, hx, hce, hcv, hcl, hW₂, hsm, hL⟩
  · obtain ⟨⟨v, rfl⟩, hW₂, e2, q2, q3, q4, q5, q6⟩ := id hfe
    have e3 : s₂ = ({ (U.calling g mk a).setFrames s₂.frames with heap := s₂.heap, slotsUsed := s₂.slotsUsed } : State).setVm s₂.vm := by
      have : s₂ = ({ s₂ with vm := (U.calling g mk a).vm } : State).setVm s₂.vm := rfl
      rw [e2] at this
      exact this
    obtain ⟨c₂, i₂, len₂, hc₂, hd₂, hf₂⟩ := hend
    have hW' : U.WarmedH s₂.vm := hW₂
    have hcc : c₂ = c := by
      have h1 : s₂.code? g.method = U.code? g.method := by
        rw [State.code?_eq, State.code?_eq, hW'.alike.method?]
      exact Option.some.inj (hc₂.symm.trans (h1.trans h.code))
    subst hcc
    have hlen : len₂ = len := by rw [hdg] at hd₂; cases hd₂; rfl
    subst hlen
    have hs₂ : s₂ = (({ U with heap := s₂.heap, slotsUsed := s₂.slotsUsed } : State).setVm s₂.vm).setTop { g with pc := g.pc + len₂, stack := v.toList ++ g.stack } := by
      refine e3.trans ?_
      rw [hf₂, State.calling_eq h.top, State.setFrames_setFrames, State.setTop_of_frames _ hr', hr]
      rfl
    have hsame : U.sameButNew ({ U with heap := s₂.heap, slotsUsed := s₂.slotsUsed } : State) L mc ms := by
      refine ⟨?_, q2, q3, q4, q5, q6⟩
      obtain ⟨t, ht, -⟩ := State.frames_cons hr
      show ({ U with heap := s₂.heap, slotsUsed := s₂.slotsUsed } : State) = { U.setFrames U.frames with heap := s₂.heap, slotsUsed := s₂.slotsUsed }
      rw [State.setFrames_self ht]
    subst hg
    refine Or.inl ⟨v, ⟨(({ U with heap := s₂.heap, slotsUsed := s₂.slotsUsed } : State).setVm s₂.vm), Ls ++ L, c0 + mc, s0 + ms⟩,
      ⟨X.admits, X.cas, X.clock, X.frames, X.room, X.hears, X.method, X.code, (X.here.setHeapUsed s₂.heap s₂.slotsUsed).setVm hW'.alike, X.tail, State.WarmedH.trans X.warmed hW', X.limits, X.bytes, X.same.trans (hsame.setVm s.vm)⟩,
      ⟨g, mk, s₂, L, rfl, rfl, hqc, rfl, hL, rfl, rfl⟩, ?_⟩
    show Steps p.tables e below _ ((({ U with heap := s₂.heap, slotsUsed := s₂.slotsUsed } : State).setVm s₂.vm).setTop { g with pc := g.pc + len₂, stack := v.toList ++ g.stack })
    rw [← hs₂]
    exact hsteps
  · obtain ⟨e2, q2, q3, q4, q5, q6⟩ := id hsm
    have e3 : s₂ = ({ (U.calling g mk a).setFrames s₂.frames with heap := s₂.heap, slotsUsed := s₂.slotsUsed } : State).setVm s₂.vm := by
      have : s₂ = ({ s₂ with vm := (U.calling g mk a).vm } : State).setVm s₂.vm := rfl
      rw [e2] at this
      exact this
    have hf₂ : s₂.frames = .throwing q :: .java g :: U.frames.tail := hend
    have hW' : U.WarmedH s₂.vm := hW₂
    have hs₂ : s₂ = ((({ U with heap := s₂.heap, slotsUsed := s₂.slotsUsed } : State).setVm s₂.vm).setTop g).pushFrame (.throwing q) := by
      refine e3.trans ?_
      rw [hf₂, State.calling_eq h.top, State.setFrames_setFrames, State.pushFrame, State.frames_setTop _ hr', State.setTop_of_frames _ hr', State.setFrames_setFrames, hr]
      rfl
    have hsame : U.sameButNew ({ U with heap := s₂.heap, slotsUsed := s₂.slotsUsed } : State) L mc ms := by
      refine ⟨?_, q2, q3, q4, q5, q6⟩
      obtain ⟨t, ht, -⟩ := State.frames_cons hr
      show ({ U with heap := s₂.heap, slotsUsed := s₂.slotsUsed } : State) = { U.setFrames U.frames with heap := s₂.heap, slotsUsed := s₂.slotsUsed }
      rw [State.setFrames_self ht]
    subst hg
    refine Or.inr ⟨q, ⟨(({ U with heap := s₂.heap, slotsUsed := s₂.slotsUsed } : State).setVm s₂.vm), Ls ++ L, c0 + mc, s0 + ms⟩,
      ⟨X.admits, X.cas, X.clock, X.frames, X.room, X.hears, X.method, X.code, (X.here.setHeapUsed s₂.heap s₂.slotsUsed).setVm hW'.alike, X.tail, State.WarmedH.trans X.warmed hW', X.limits, X.bytes, X.same.trans (hsame.setVm s.vm)⟩,
      ⟨g, mk, s₂, L, E, ce, rfl, rfl, hx, hce, hcv, hcl, rfl, hL, rfl, rfl⟩, ?_⟩
    show Steps p.tables e below _ (((({ U with heap := s₂.heap, slotsUsed := s₂.slotsUsed } : State).setVm s₂.vm).setTop g).pushFrame (.throwing q))
    rw [← hs₂]
    exact hsteps
end
variable {p : Program} {l : Launch} {e : Env} {R : Room} {s : State} {m : MethodId} {args : Array Value} {below : List Frame} {meth : Method} {c : Code} {T : State} {H : Heap} {locs : List Loc} {cells slots : Nat}
theorem vx_callVX (X : Stand p l e R s m args below meth c T locs cells slots) (hexec : p.tables.exec = Jvm.exec) {own C : String} {index : Nat} {y : MethodName} {bytes : ByteArray} {maxL : Nat} {ret : Option FieldType} {hh : List (Nat × Nat × Nat × Nat)}
    (hown : s.vm.findClass own = some m.cls) (hlink : (Cond.methodLink own index y).before args s = true) (hinst : (Cond.instanceMethod y).before args s = true) (hsel : (Cond.selects C y y).before args s = true)
    (hcode : (Cond.codeWith y bytes maxL ret hh).before args s = true) (hy : y.cls ≠ "java/lang/invoke/MethodHandle" ∧ y.cls ≠ "java/lang/invoke/VarHandle")
    {W9 : Nat} {Pre : Pt → Array Value → Prop} {Post : Pt → Array Value → Option Value → Pt → Prop} {PostX : Pt → Array Value → Addr → Pt → Prop} (hK : vx_Back l R p e below s args y 3 W9 Pre Post PostX)
    {b : Addr} {cellB : Cell} (hcell : T.heap[b]? = some cellB) (hobj : cellB.vm.isStatics = false) (hcls : s.vm.findClass C = some cellB.cls)
    {g : JFrame} (hg : g.method = m) (hsize : g.locals.size = c.maxLocals) {argsL rest : List Value} (hlen : ∀ sig, parseMethodDescriptor y.desc = some sig → argsL.length = sig.parameters.length)
    (hstack : g.stack = argsL.reverse ++ .ref b :: rest) (hW : 2 * g.monitorRoom + (rest.map fun v => v.category).sum ≤ W9) (hdg : decode c.code g.pc = .ok (.invokevirtual index, 3))
    (hpre : ∀ vm₁, s.WarmedH vm₁ → Pre ⟨T.setVm vm₁, locs, cells, slots⟩ (Value.ref b :: argsL).toArray) :
    (∃ (v : Option Value) (vm₁ : Vm) (B : Pt), s.WarmedH vm₁ ∧ Stand p l e R s m args below meth c B.U B.locs B.cells B.slots ∧ Post ⟨T.setVm vm₁, locs, cells, slots⟩ (Value.ref b :: argsL).toArray v B ∧
      ∀ target, Steps p.tables e below (B.U.setTop { g with pc := g.pc + 3, stack := v.toList ++ rest }) target → Steps p.tables e below (T.setTop g) target) ∨
    (∃ (q : Addr) (vm₁ : Vm) (B : Pt), s.WarmedH vm₁ ∧ Stand p l e R s m args below meth c B.U B.locs B.cells B.slots ∧ PostX ⟨T.setVm vm₁, locs, cells, slots⟩ (Value.ref b :: argsL).toArray q B ∧
      Steps p.tables e below (T.setTop g) ((B.U.setTop { g with stack := rest }).pushFrame (.throwing q))) := by
  obtain ⟨mk, methM, hnamed, hmethM, hstM, habM⟩ := Cond.instanceMethod_spec hinst
  obtain ⟨m8, methM', cM, hn8, hmethM', -, -, -, -, -, -, hsigM⟩ := Cond.codeWith_spec hcode
  cases Option.some.inj (hn8.symm.trans hnamed)
  cases hmethM.symm.trans hmethM'
  obtain ⟨c2, r2, m2, q1, q2, q3, q4, kP, hkP, hkPi⟩ := Cond.selects_spec hsel
  cases hcls.symm.trans q1
  cases (State.methodFound?_of_named hnamed hy).symm.trans q2
  cases hnamed.symm.trans q3
  have hselP : selectMethod e.platform s.vm cellB.cls mk = .method mk := by rw [Launch.admits_selectMethod X.admits]; exact q4
  obtain ⟨vm₁, X₁, hstep₁⟩ := X.invokevirtual hexec hown hlink hnamed hmethM hstM hkP hkPi hy (a := b) (cell := cellB) hcell
    (fun z h => by rw [h] at hobj; cases hobj) hselP hmethM habM hkP hkPi (g := g) hg (argsL := argsL) (rest := rest) (hlen _ hsigM) hstack hdg
  rcases hK m meth c ⟨T.setVm vm₁, locs, cells, slots⟩ { g with stack := rest } (.invokevirtual index) mk (Value.ref b :: argsL).toArray X₁ hg hsize hdg hW (X₁.named hnamed) (hpre vm₁ X₁.warmed) with ⟨v, B, X', hpost, hsteps⟩ | ⟨q, B, X', hpost, hsteps⟩
  · exact Or.inl ⟨v, vm₁, B, X₁.warmed, X', hpost, fun target h => hstep₁ _ fun acts => by rw [doInvoke_state]; exact hsteps.trans h⟩
  · exact Or.inr ⟨q, vm₁, B, X₁.warmed, X', hpost, hstep₁ _ fun acts => by rw [doInvoke_state]; exact hsteps⟩
theorem vx_callSX (X : Stand p l e R s m args below meth c T locs cells slots) (hexec : p.tables.exec = Jvm.exec) {own : String} {index : Nat} {y : MethodName} {bytes : ByteArray} {maxL : Nat} {ret : Option FieldType} {hh : List (Nat × Nat × Nat × Nat)}
    (hown : s.vm.findClass own = some m.cls) (hlink : (Cond.methodLink own index y).before args s = true) (hstat : (Cond.static y).before args s = true) (hinit : (Cond.initialized y.cls).before args s = true)
    (hcode : (Cond.codeWith y bytes maxL ret hh).before args s = true) (hy : y.cls ≠ "java/lang/invoke/MethodHandle" ∧ y.cls ≠ "java/lang/invoke/VarHandle")
    {W9 : Nat} {Pre : Pt → Array Value → Prop} {Post : Pt → Array Value → Option Value → Pt → Prop} {PostX : Pt → Array Value → Addr → Pt → Prop} (hK : vx_Back l R p e below s args y 3 W9 Pre Post PostX)
    {g : JFrame} (hg : g.method = m) (hsize : g.locals.size = c.maxLocals) {argsL rest : List Value} (hlen : ∀ sig, parseMethodDescriptor y.desc = some sig → argsL.length = sig.parameters.length)
    (hstack : g.stack = argsL.reverse ++ rest) (hW : 2 * g.monitorRoom + (rest.map fun v => v.category).sum ≤ W9) (hdg : decode c.code g.pc = .ok (.invokestatic index, 3))
    (hpre : ∀ vm₁, s.WarmedH vm₁ → Pre ⟨T.setVm vm₁, locs, cells, slots⟩ argsL.toArray) :
    (∃ (v : Option Value) (vm₁ : Vm) (B : Pt), s.WarmedH vm₁ ∧ Stand p l e R s m args below meth c B.U B.locs B.cells B.slots ∧ Post ⟨T.setVm vm₁, locs, cells, slots⟩ argsL.toArray v B ∧
      ∀ target, Steps p.tables e below (B.U.setTop { g with pc := g.pc + 3, stack := v.toList ++ rest }) target → Steps p.tables e below (T.setTop g) target) ∨
    (∃ (q : Addr) (vm₁ : Vm) (B : Pt), s.WarmedH vm₁ ∧ Stand p l e R s m args below meth c B.U B.locs B.cells B.slots ∧ PostX ⟨T.setVm vm₁, locs, cells, slots⟩ argsL.toArray q B ∧
      Steps p.tables e below (T.setTop g) ((B.U.setTop { g with stack := rest }).pushFrame (.throwing q))) := by
  obtain ⟨mk, methM, cM, hnamed, hmethM, -, -, -, -, -, -, hsigM⟩ := Cond.codeWith_spec hcode
  have hstatic : methM.isStatic = true := Cond.static_spec hnamed hmethM hstat
  obtain ⟨kP, hkP, -⟩ := className_of_methodNamed hnamed
  have hinitP : kP.init = .initialized := Cond.initialized_spec (findClass_of_methodNamed hnamed) hkP hinit
  obtain ⟨vm₁, X₁, hstep₁⟩ := X.invokestatic hexec hown hlink hnamed hmethM hstatic hkP hinitP hy (g := g) hg (argsL := argsL) (rest := rest) (hlen _ hsigM) hstack hdg
  rcases hK m meth c ⟨T.setVm vm₁, locs, cells, slots⟩ { g with stack := rest } (.invokestatic index) mk argsL.toArray X₁ hg hsize hdg hW (X₁.named hnamed) (hpre vm₁ X₁.warmed) with ⟨v, B, X', hpost, hsteps⟩ | ⟨q, B, X', hpost, hsteps⟩
  · exact Or.inl ⟨v, vm₁, B, X₁.warmed, X', hpost, fun target h => hstep₁ _ fun acts => by rw [doInvoke_state]; exact hsteps.trans h⟩
  · exact Or.inr ⟨q, vm₁, B, X₁.warmed, X', hpost, hstep₁ _ fun acts => by rw [doInvoke_state]; exact hsteps⟩
theorem vx_callVW (X : Stand p l e R s m args below meth c T locs cells slots) (hexec : p.tables.exec = Jvm.exec) {own C : String} {index : Nat} {y : MethodName} {bytes : ByteArray} {maxL : Nat} {ret : Option FieldType} {hh : List (Nat × Nat × Nat × Nat)}
    (hown : s.vm.findClass own = some m.cls) (hlink : (Cond.methodLink own index y).before args s = true) (hinst : (Cond.instanceMethod y).before args s = true) (hsel : (Cond.selects C y y).before args s = true)
    (hcode : (Cond.codeWith y bytes maxL ret hh).before args s = true) (hy : y.cls ≠ "java/lang/invoke/MethodHandle" ∧ y.cls ≠ "java/lang/invoke/VarHandle")
    {W9 : Nat} {Pre : Pt → Array Value → Prop} {Post : Pt → Array Value → Option Value → Pt → Prop} (hK : Back l R p e below s args y 3 W9 Pre Post)
    {b : Addr} {cellB : Cell} (hcell : T.heap[b]? = some cellB) (hobj : cellB.vm.isStatics = false) (hcls : s.vm.findClass C = some cellB.cls)
    {g : JFrame} (hg : g.method = m) (hsize : g.locals.size = c.maxLocals) {argsL rest : List Value} (hlen : ∀ sig, parseMethodDescriptor y.desc = some sig → argsL.length = sig.parameters.length)
    (hstack : g.stack = argsL.reverse ++ .ref b :: rest) (hW : 2 * g.monitorRoom + (rest.map fun v => v.category).sum ≤ W9) (hdg : decode c.code g.pc = .ok (.invokevirtual index, 3))
    (hpre : ∀ vm₁, s.WarmedH vm₁ → Pre ⟨T.setVm vm₁, locs, cells, slots⟩ (Value.ref b :: argsL).toArray) :
    ∃ (v : Option Value) (vm₁ : Vm) (B : Pt), s.WarmedH vm₁ ∧ Stand p l e R s m args below meth c B.U B.locs B.cells B.slots ∧ Post ⟨T.setVm vm₁, locs, cells, slots⟩ (Value.ref b :: argsL).toArray v B ∧
      ∀ target, Steps p.tables e below (B.U.setTop { g with pc := g.pc + 3, stack := v.toList ++ rest }) target → Steps p.tables e below (T.setTop g) target := by
  obtain ⟨mk, methM, hnamed, hmethM, hstM, habM⟩ := Cond.instanceMethod_spec hinst
  obtain ⟨m8, methM', cM, hn8, hmethM', -, -, -, -, -, -, hsigM⟩ := Cond.codeWith_spec hcode
  cases Option.some.inj (hn8.symm.trans hnamed)
  cases hmethM.symm.trans hmethM'
  obtain ⟨c2, r2, m2, q1, q2, q3, q4, kP, hkP, hkPi⟩ := Cond.selects_spec hsel
  cases hcls.symm.trans q1
  cases (State.methodFound?_of_named hnamed hy).symm.trans q2
  cases hnamed.symm.trans q3
  have hselP : selectMethod e.platform s.vm cellB.cls mk = .method mk := by rw [Launch.admits_selectMethod X.admits]; exact q4
  obtain ⟨vm₁, X₁, hstep₁⟩ := X.invokevirtual hexec hown hlink hnamed hmethM hstM hkP hkPi hy (a := b) (cell := cellB) hcell
    (fun z h => by rw [h] at hobj; cases hobj) hselP hmethM habM hkP hkPi (g := g) hg (argsL := argsL) (rest := rest) (hlen _ hsigM) hstack hdg
  obtain ⟨v, B, X', hpost, hsteps⟩ := hK m meth c ⟨T.setVm vm₁, locs, cells, slots⟩ { g with stack := rest } (.invokevirtual index) mk (Value.ref b :: argsL).toArray X₁ hg hsize hdg hW (X₁.named hnamed) (hpre vm₁ X₁.warmed)
  exact ⟨v, vm₁, B, X₁.warmed, X', hpost, fun target h => hstep₁ _ fun acts => by rw [doInvoke_state]; exact hsteps.trans h⟩
abbrev vx_CVW (R : Room) (s : State) (args : Array Value) (own C : String) (index : Nat) (y : MethodName) (bytes : ByteArray) (maxL : Nat) (ret : Option FieldType) (hh : List (Nat × Nat × Nat × Nat)) (ws : List Cond) (rm : Room) (mc ms n : Nat) : Prop :=
  (rm.cells = mc ∧ rm.slots = ms ∧ rm.frames + 1 ≤ R.frames ∧ 8 + (maxL + 11) + rm.locals ≤ R.locals ∧ (∀ w ∈ ws, ∀ (a' : Array Value) (U : State), s.WarmedH U.vm → w.before a' U = true) ∧ Cond.codeWith y bytes maxL ret hh ∈ ws) ∧
  (Cond.codeWith y bytes maxL ret hh).before args s = true ∧ (Cond.initialized y.cls).before args s = true ∧ (y.cls ≠ "java/lang/invoke/MethodHandle" ∧ y.cls ≠ "java/lang/invoke/VarHandle") ∧
  (∀ sig, parseMethodDescriptor y.desc = some sig → n = sig.parameters.length) ∧ (Cond.methodLink own index y).before args s = true ∧ (Cond.instanceMethod y).before args s = true ∧ (Cond.selects C y y).before args s = true
theorem vx_cwVW {own C : String} {index maxL mc ms : Nat} {y : MethodName} {bytes : ByteArray} {ret : Option FieldType} {hh : List (Nat × Nat × Nat × Nat)} {Ts ws ws' : List Cond} {rm : Room} (n : Nat) (ht : ∀ w ∈ Ts, w.before args s = true) (hT : GoodIn Ts (wsV own index C y ws)) (hw : ws = Cond.codeWith y bytes maxL ret hh :: ws') (hrc : rm.cells = mc) (hrs : rm.slots = ms)
    (hd : y.cls = C ∧ y.cls ≠ "java/lang/invoke/MethodHandle" ∧ y.cls ≠ "java/lang/invoke/VarHandle" ∧ (parseMethodDescriptor y.desc).map (fun d => d.parameters.length) = some n) (hR : rm.frames + 1 ≤ R.frames ∧ 8 + (maxL + 11) + rm.locals ≤ R.locals) :
    vx_CVW R s args own C index y bytes maxL ret hh ws rm mc ms n := by
  obtain ⟨hC, hd⟩ := hd
  subst hC
  have ok : ∀ w ∈ wsV own index y.cls y ws, w.before args s = true := fun w h => ht w (hT w h).1
  have hG : GoodIn Ts ws := fun w h => hT w (by unfold wsV; exact List.mem_append_right _ h)
  have hc : Cond.codeWith y bytes maxL ret hh ∈ ws := by rw [hw]; exact List.mem_cons_self
  refine ⟨⟨hrc, hrs, hR.1, hR.2, pay_in ht hG, hc⟩, ht _ (hG _ hc).1, ok _ (by simp [wsV]), ⟨hd.1, hd.2.1⟩, fun sig h => ?_, ok _ (by simp [wsV]), ok _ (by simp [wsV]), ok _ (by simp [wsV])⟩
  have h2 := hd.2.2
  rw [h] at h2
  exact (Option.some.inj h2).symm
theorem vx_runVW {y : MethodName} {bytes cc : ByteArray} {maxL nL mc ms n index : Nat} {ret : Option FieldType} {hh : List (Nat × Nat × Nat × Nat)} {ws : List Cond} {rm : Room} {Pc : Array Value → State → Prop} {Qc : Array Value → State → Outcome → State → Prop} {free : Addr → Prop} {Ts : List Cond} {own C : String} {b : Addr} {As rest : List Value} {g : JFrame}
    (S : CallFix p m c cc nL s args Ts own) (hM : Met l y ws rm Pc Qc mc ms free) (cw : vx_CVW R s args own C index y bytes maxL ret hh ws rm mc ms n) (hp : PreV s H C b Pc As)
    (hg : g.method = m) (hn : As.length = n) (hsize : g.locals.size = nL) (hstack : g.stack = As.reverse ++ .ref b :: rest) (hW : 2 * g.monitorRoom + (rest.map fun v => v.category).sum ≤ 8) (hdg : decode cc g.pc = .ok (.invokevirtual index, 3)) (hf : cells + mc ≤ R.cells ∧ slots + ms ≤ R.slots) :
    va_Run p l e R s m args below meth c H locs cells slots mc ms g rest (Qc (Value.ref b :: As).toArray) free := by
  obtain ⟨⟨hrc, hrs, hfr, hlo, hws, hcw⟩, hcode, hini, hy, hlen, hl, hin, hse⟩ := cw
  have hK : Back l R p e below s args y 3 8 (PreOf R mc ms Pc) (PostOf Qc mc ms free) := va_backW (hh := hh) (bytes := bytes) (maxL := maxL) (ret := ret) hM hp.1 hrc hrs hfr hlo hws hcw (fun a' U hW => word_at hW (Or.inl (by first | rfl | simp [Cond.onTables, Cond.keeps, Cond.steady])) hini)
  obtain ⟨hx, hb, hml, ho, -⟩ := S
  obtain ⟨-, ⟨cellB, hcB, hoB, hclB⟩, hPc⟩ := hp
  intro T hT X
  obtain ⟨v, vm₁, ⟨U', l2, c2, s2⟩, hW₁, X', ⟨g', mk, t, L, e1, e2, hq, h1, hL, h2, h3⟩, st⟩ := vx_callVW X hx (C := C) (hh := hh) (bytes := bytes) (maxL := maxL) (ret := ret) ho hl hin hse hcode hy hK (by rw [hT]; exact hcB) hoB hclB hg (hsize.trans hml.symm) (argsL := As) (rest := rest) (fun sig h => hn.trans (hlen sig h)) hstack hW (by rw [hb]; exact hdg)
    (fun vm₁ hW₁ => ⟨hf.1, hf.2, hPc (T.setVm vm₁) hT hW₁⟩)
  dsimp only [Pt.U, Pt.locs, Pt.cells, Pt.slots] at X' e1 e2 h1 h2 h3 st
  subst h1; subst h2; subst h3
  exact ⟨v, (T.setVm vm₁).calling g' mk (Value.ref b :: As).toArray, t, U', L, hT, X', hL, e1, e2, hq, st⟩
section
variable {y : MethodName} {bytes cc : ByteArray} {maxL nL mc ms n index : Nat} {ret : Option FieldType} {ws : List Cond} {rm : Room} {Pc : Array Value → State → Prop} {Qc : Array Value → State → Outcome → State → Prop} {XC : String → State → State → Prop} {free : Addr → Prop} {Ts : List Cond} {own C : String} {b : Addr} {As rest : List Value} {g : JFrame}
theorem vx_runVX {hh : List (Nat × Nat × Nat × Nat)} (S : CallFix p m c cc nL s args Ts own) (hM : vx_Met l y ws rm Pc Qc XC mc ms free) (cw : vx_CVW R s args own C index y bytes maxL ret hh ws rm mc ms n) (hp : PreV s H C b Pc As)
    (hg : g.method = m) (hn : As.length = n) (hsize : g.locals.size = nL) (hstack : g.stack = As.reverse ++ .ref b :: rest) (hW : 2 * g.monitorRoom + (rest.map fun v => v.category).sum ≤ 8) (hdg : decode cc g.pc = .ok (.invokevirtual index, 3)) (hf : cells + mc ≤ R.cells ∧ slots + ms ≤ R.slots) :
    vx_Run p l e R s m args below meth c H locs cells slots mc ms g rest (Qc (Value.ref b :: As).toArray) XC free := by
  obtain ⟨⟨hrc, hrs, hfr, hlo, hws, hcw⟩, hcode, hini, hy, hlen, hl, hin, hse⟩ := cw
  have hK : vx_Back l R p e below s args y 3 8 (PreOf R mc ms Pc) (PostOf Qc mc ms free) (vx_Post XC mc ms free) := vx_backW (hh := hh) (bytes := bytes) (maxL := maxL) (ret := ret) hM hp.1 hrc hrs hfr hlo hws hcw (fun a' U hW => word_at hW (Or.inl (by first | rfl | simp [Cond.onTables, Cond.keeps, Cond.steady])) hini)
  obtain ⟨hx, hb, hml, ho, -⟩ := S
  obtain ⟨-, ⟨cellB, hcB, hoB, hclB⟩, hPc⟩ := hp
  intro T hT X
  rcases vx_callVX X hx (C := C) (hh := hh) (bytes := bytes) (maxL := maxL) (ret := ret) ho hl hin hse hcode hy hK (by rw [hT]; exact hcB) hoB hclB hg (hsize.trans hml.symm) (argsL := As) (rest := rest) (fun sig h => hn.trans (hlen sig h)) hstack hW (by rw [hb]; exact hdg)
    (fun vm₁ hW₁ => ⟨hf.1, hf.2, hPc (T.setVm vm₁) hT hW₁⟩) with ⟨v, vm₁, ⟨U', l2, c2, s2⟩, hW₁, X', ⟨g', mk, t, L, e1, e2, hq, h1, hL, h2, h3⟩, st⟩ | ⟨q, vm₁, ⟨U', l2, c2, s2⟩, hW₁, X', ⟨g', mk, t, L, E, ce, e1, e2, hq, hce, hcv, hcl, h1, hL, h2, h3⟩, st⟩
  · dsimp only [Pt.U, Pt.locs, Pt.cells, Pt.slots] at X' e1 e2 h1 h2 h3 st
    subst h1; subst h2; subst h3
    exact Or.inl ⟨v, (T.setVm vm₁).calling g' mk (Value.ref b :: As).toArray, t, U', L, hT, X', hL, e1, e2, hq, st⟩
  · dsimp only [Pt.U, Pt.locs, Pt.cells, Pt.slots] at X' e1 e2 h1 h2 h3 st hcl
    subst h1; subst h2; subst h3
    exact Or.inr ⟨q, (T.setVm vm₁).calling g' mk (Value.ref b :: As).toArray, t, U', L, E, ce, hT, X', hL, e1, e2, hq, hce, hcv, vx_cls hW₁ hcl, st⟩
theorem vx_runSX {hh : List (Nat × Nat × Nat × Nat)} (S : CallFix p m c cc nL s args Ts own) (hM : vx_Met l y ws rm Pc Qc XC mc ms free) (cw : vx_CSW R s args own index y bytes maxL ret hh ws rm mc ms n) (hp : PreS s H Pc As)
    (hg : g.method = m) (hn : As.length = n) (hsize : g.locals.size = nL) (hstack : g.stack = As.reverse ++ rest) (hW : 2 * g.monitorRoom + (rest.map fun v => v.category).sum ≤ 8) (hdg : decode cc g.pc = .ok (.invokestatic index, 3)) (hf : cells + mc ≤ R.cells ∧ slots + ms ≤ R.slots) :
    vx_Run p l e R s m args below meth c H locs cells slots mc ms g rest (Qc As.toArray) XC free := by
  obtain ⟨⟨hrc, hrs, hfr, hlo, hws, hcw⟩, hcode, hini, hy, hlen, hl, hstt⟩ := cw
  have hK : vx_Back l R p e below s args y 3 8 (PreOf R mc ms Pc) (PostOf Qc mc ms free) (vx_Post XC mc ms free) := vx_backW (hh := hh) (bytes := bytes) (maxL := maxL) (ret := ret) hM hp.1 hrc hrs hfr hlo hws hcw (fun a' U hW => word_at hW (Or.inl (by first | rfl | simp [Cond.onTables, Cond.keeps, Cond.steady])) hini)
  obtain ⟨hx, hb, hml, ho, -⟩ := S
  intro T hT X
  rcases vx_callSX X hx (hh := hh) (bytes := bytes) (maxL := maxL) (ret := ret) ho hl hstt hini hcode hy hK hg (hsize.trans hml.symm) (argsL := As) (rest := rest) (fun sig h => hn.trans (hlen sig h)) hstack hW (by rw [hb]; exact hdg)
    (fun vm₁ hW₁ => ⟨hf.1, hf.2, hp.2 (T.setVm vm₁) hT hW₁⟩) with ⟨v, vm₁, ⟨U', l2, c2, s2⟩, hW₁, X', ⟨g', mk, t, L, e1, e2, hq, h1, hL, h2, h3⟩, st⟩ | ⟨q, vm₁, ⟨U', l2, c2, s2⟩, hW₁, X', ⟨g', mk, t, L, E, ce, e1, e2, hq, hce, hcv, hcl, h1, hL, h2, h3⟩, st⟩
  · dsimp only [Pt.U, Pt.locs, Pt.cells, Pt.slots] at X' e1 e2 h1 h2 h3 st
    subst h1; subst h2; subst h3
    exact Or.inl ⟨v, (T.setVm vm₁).calling g' mk As.toArray, t, U', L, hT, X', hL, e1, e2, hq, st⟩
  · dsimp only [Pt.U, Pt.locs, Pt.cells, Pt.slots] at X' e1 e2 h1 h2 h3 st hcl
    subst h1; subst h2; subst h3
    exact Or.inr ⟨q, (T.setVm vm₁).calling g' mk As.toArray, t, U', L, E, ce, hT, X', hL, e1, e2, hq, hce, hcv, vx_cls hW₁ hcl, st⟩
end
end VXH
theorem vx_ofWH {l : Launch} {y : MethodName} {ws ws' : List Cond} {rm : Room} {Pc : Array Value → State → Prop} {Qc : Array Value → State → Outcome → State → Prop} {XC : String → State → State → Prop} {mc ms : Nat} {free : Addr → Prop} {cc : ByteArray} {maxL : Nat} {ret : Option FieldType} {hh : List (Nat × Nat × Nat × Nat)}
    (hy : plainName y.cls = true) (hw : ws = Cond.codeWith y cc maxL ret hh :: ws')
    (body : ∀ p e s m args below meth c s₁, BodyLoose p l y (headSpec ws rm) cc maxL ret e s m args below meth c s₁ → c.maxLocals = maxL → Pc args s →
      W p l e (headSpec ws rm).room s m args below meth c s.heap [] 0 0 (vx_MQ below Qc XC args s mc ms free) (entryFrame m args maxL)) : vx_Met l y ws rm Pc Qc XC mc ms free := by
  refine MetFree.of_bodyS (code := cc) (maxLocals := maxL) (ret := ret) hy ?_ ?_
  · intro args s m h hn
    obtain ⟨m9, meth, c, hn9, h1, h2, h3, h4, -, h5, h6, -⟩ := Cond.codeWith_spec (atoms_spec (ws := ws) h _ (by rw [hw]; exact List.mem_cons_self))
    cases hn.symm.trans hn9
    exact ⟨meth, c, h1, h2, h3, h4, h5, h6⟩
  · intro p e s m args below meth c s₁ B hml hP _
    have hh0 : s₁.heap = s.heap := by rw [B.state]; rfl
    obtain ⟨t, a1, o, b1, b2, b3⟩ := body p e s m args below meth c s₁ B hml hP s₁ hh0 (Stand.of_body B)
    exact ⟨t, o, a1, b1, b2, b3⟩
/-! ===== END ===== -/
end
section
def RX0 : String := "NetworkCenters$Groups"
def TX0 : u_T := fun k => match k with
  | 0 => ("NetworkCenters$Groups", "survey", "LNetworkCenters$Survey;", true)
  | 1 => ("NetworkCenters$Groups", "ratedTurn", "I", false)
  | 2 => ("NetworkCenters$Groups", "all", "I", false)
  | 3 => ("NetworkCenters$Groups", "tops", "LNetworkCenters$Row;", true)
  | 4 => ("NetworkCenters$Groups", "bottoms", "LNetworkCenters$Row;", true)
  | 5 => ("NetworkCenters$Groups", "heights", "LNetworkCenters$Row;", true)
  | _ => ("NetworkCenters$Groups", "needs", "LNetworkCenters$Row;", true)
def tyX0 : Nat → FieldType := fun k => match k with
  | 0 => .object "NetworkCenters$Survey"
  | 1 => .int
  | 2 => .int
  | 3 => .object "NetworkCenters$Row"
  | 4 => .object "NetworkCenters$Row"
  | 5 => .object "NetworkCenters$Row"
  | _ => .object "NetworkCenters$Row"
abbrev wsX00 : List Cond := u_ws RX0 TX0 7
theorem nmX0 : ∀ a, a < 7 → ∀ b, b < 7 → a ≠ b → (TX0 a).2.1 ≠ (TX0 b).2.1 := by decide +kernel
theorem tyX0_ok : ∀ k, k < 7 → parseFieldDescriptor (TX0 k).2.2.1 = some (tyX0 k) := by decide +kernel
abbrev cX0_init : ByteArray := prog_2_method_1_code
def yX0_init : MethodName := ⟨RX0, "<init>", "(LNetworkCenters$Survey;)V"⟩
abbrev cX0_placeOf : ByteArray := prog_2_method_2_code
def yX0_placeOf : MethodName := ⟨RX0, "placeOf", "(II)I"⟩
abbrev cX0_rate : ByteArray := prog_2_method_3_code
def yX0_rate : MethodName := ⟨RX0, "rate", "()V"⟩
abbrev cX0_lowerRadii : ByteArray := prog_2_method_4_code
def yX0_lowerRadii : MethodName := ⟨RX0, "lowerRadii", "(III)V"⟩
abbrev cX0_lowerRadius : ByteArray := prog_2_method_5_code
def yX0_lowerRadius : MethodName := ⟨RX0, "lowerRadius", "(III)V"⟩
abbrev cX0_isLess : ByteArray := prog_2_method_6_code
def yX0_isLess : MethodName := ⟨RX0, "isLess", "(II)Z"⟩
abbrev cX0_divide : ByteArray := prog_2_method_7_code
def yX0_divide : MethodName := ⟨RX0, "divide", "(II)V"⟩
abbrev cX0_chosen : ByteArray := prog_2_method_8_code
def yX0_chosen : MethodName := ⟨RX0, "chosen", "(II)I"⟩
abbrev cX0_greatestGroup : ByteArray := prog_2_method_9_code
def yX0_greatestGroup : MethodName := ⟨RX0, "greatestGroup", "(III)I"⟩
abbrev cX0_fewest : ByteArray := prog_2_method_10_code
def yX0_fewest : MethodName := ⟨RX0, "fewest", "(II)I"⟩
abbrev cX0_isWithin : ByteArray := prog_2_method_11_code
def yX0_isWithin : MethodName := ⟨RX0, "isWithin", "(III)Z"⟩
def RX1 : String := "NetworkCenters$Network"
def TX1 : u_T := fun k => match k with
  | 0 => ("NetworkCenters$Network", "nodes", "I", false)
  | 1 => ("NetworkCenters$Network", "edges", "I", false)
  | 2 => ("NetworkCenters$Network", "stretches", "I", false)
  | 3 => ("NetworkCenters$Network", "weights", "LNetworkCenters$Row;", true)
  | 4 => ("NetworkCenters$Network", "trends", "LNetworkCenters$Row;", true)
  | 5 => ("NetworkCenters$Network", "firsts", "LNetworkCenters$Row;", true)
  | 6 => ("NetworkCenters$Network", "seconds", "LNetworkCenters$Row;", true)
  | 7 => ("NetworkCenters$Network", "lengths", "LNetworkCenters$Row;", true)
  | 8 => ("NetworkCenters$Network", "sites", "LNetworkCenters$Row;", true)
  | 9 => ("NetworkCenters$Network", "begins", "LNetworkCenters$Row;", true)
  | _ => ("NetworkCenters$Network", "ends", "LNetworkCenters$Row;", true)
def tyX1 : Nat → FieldType := fun k => match k with
  | 0 => .int
  | 1 => .int
  | 2 => .int
  | 3 => .object "NetworkCenters$Row"
  | 4 => .object "NetworkCenters$Row"
  | 5 => .object "NetworkCenters$Row"
  | 6 => .object "NetworkCenters$Row"
  | 7 => .object "NetworkCenters$Row"
  | 8 => .object "NetworkCenters$Row"
  | 9 => .object "NetworkCenters$Row"
  | _ => .object "NetworkCenters$Row"
abbrev wsX10 : List Cond := u_ws RX1 TX1 11
theorem nmX1 : ∀ a, a < 11 → ∀ b, b < 11 → a ≠ b → (TX1 a).2.1 ≠ (TX1 b).2.1 := by decide +kernel
theorem tyX1_ok : ∀ k, k < 11 → parseFieldDescriptor (TX1 k).2.2.1 = some (tyX1 k) := by decide +kernel
abbrev cX1_init : ByteArray := prog_3_method_1_code
def yX1_init : MethodName := ⟨RX1, "<init>", "()V"⟩
abbrev cX1_clear : ByteArray := prog_3_method_2_code
def yX1_clear : MethodName := ⟨RX1, "clear", "(I)V"⟩
abbrev cX1_copyFrom : ByteArray := prog_3_method_3_code
def yX1_copyFrom : MethodName := ⟨RX1, "copyFrom", "(LNetworkCenters$Network;)V"⟩
abbrev cX1_sameAs : ByteArray := prog_3_method_4_code
def yX1_sameAs : MethodName := ⟨RX1, "sameAs", "(LNetworkCenters$Network;)Z"⟩
abbrev cX1_hasNode : ByteArray := prog_3_method_5_code
def yX1_hasNode : MethodName := ⟨RX1, "hasNode", "(I)Z"⟩
abbrev cX1_hasEdge : ByteArray := prog_3_method_6_code
def yX1_hasEdge : MethodName := ⟨RX1, "hasEdge", "(I)Z"⟩
abbrev cX1_hasStretch : ByteArray := prog_3_method_7_code
def yX1_hasStretch : MethodName := ⟨RX1, "hasStretch", "(I)Z"⟩
abbrev cX1_hasSet : ByteArray := prog_3_method_8_code
def yX1_hasSet : MethodName := ⟨RX1, "hasSet", "(I)Z"⟩
abbrev cX1_allNodes : ByteArray := prog_3_method_9_code
def yX1_allNodes : MethodName := ⟨RX1, "allNodes", "()I"⟩
abbrev cX1_hasPoint : ByteArray := prog_3_method_10_code
def yX1_hasPoint : MethodName := ⟨RX1, "hasPoint", "(III)Z"⟩
abbrev cX1_edgeBetween : ByteArray := prog_3_method_11_code
def yX1_edgeBetween : MethodName := ⟨RX1, "edgeBetween", "(II)I"⟩
abbrev cX1_whyNoEdge : ByteArray := prog_3_method_12_code
def yX1_whyNoEdge : MethodName := ⟨RX1, "whyNoEdge", "(III)I"⟩
abbrev cX1_whyNoValue : ByteArray := prog_3_method_13_code
def yX1_whyNoValue : MethodName := ⟨RX1, "whyNoValue", "(II)I"⟩
abbrev cX1_whyNoStretch : ByteArray := prog_3_method_14_code
def yX1_whyNoStretch : MethodName := ⟨RX1, "whyNoStretch", "(III)I"⟩
abbrev cX1_addEdge : ByteArray := prog_3_method_15_code
def yX1_addEdge : MethodName := ⟨RX1, "addEdge", "(III)I"⟩
abbrev cX1_addStretch : ByteArray := prog_3_method_16_code
def yX1_addStretch : MethodName := ⟨RX1, "addStretch", "(III)I"⟩
abbrev cX1_removeEdge : ByteArray := prog_3_method_17_code
def yX1_removeEdge : MethodName := ⟨RX1, "removeEdge", "(I)I"⟩
abbrev cX1_removeStretch : ByteArray := prog_3_method_18_code
def yX1_removeStretch : MethodName := ⟨RX1, "removeStretch", "(I)V"⟩
abbrev cX1_edgeFact : ByteArray := prog_3_method_19_code
def yX1_edgeFact : MethodName := ⟨RX1, "edgeFact", "(II)I"⟩
abbrev cX1_nodeFact : ByteArray := prog_3_method_20_code
def yX1_nodeFact : MethodName := ⟨RX1, "nodeFact", "(II)I"⟩
abbrev cX1_edgesAt : ByteArray := prog_3_method_21_code
def yX1_edgesAt : MethodName := ⟨RX1, "edgesAt", "(I)I"⟩
abbrev cX1_stretchFact : ByteArray := prog_3_method_22_code
def yX1_stretchFact : MethodName := ⟨RX1, "stretchFact", "(II)I"⟩
abbrev cX1_permits : ByteArray := prog_3_method_23_code
def yX1_permits : MethodName := ⟨RX1, "permits", "(III)Z"⟩
def RX2 : String := "NetworkCenters$Outline"
def TX2 : u_T := fun k => match k with
  | 0 => ("NetworkCenters$Outline", "survey", "LNetworkCenters$Survey;", true)
  | 1 => ("NetworkCenters$Outline", "edge", "I", false)
  | 2 => ("NetworkCenters$Outline", "lastHeight", "I", false)
  | 3 => ("NetworkCenters$Outline", "corners", "I", false)
  | 4 => ("NetworkCenters$Outline", "tops", "LNetworkCenters$Row;", true)
  | 5 => ("NetworkCenters$Outline", "bottoms", "LNetworkCenters$Row;", true)
  | _ => ("NetworkCenters$Outline", "heights", "LNetworkCenters$Row;", true)
def tyX2 : Nat → FieldType := fun k => match k with
  | 0 => .object "NetworkCenters$Survey"
  | 1 => .int
  | 2 => .int
  | 3 => .int
  | 4 => .object "NetworkCenters$Row"
  | 5 => .object "NetworkCenters$Row"
  | _ => .object "NetworkCenters$Row"
abbrev wsX20 : List Cond := u_ws RX2 TX2 7
theorem nmX2 : ∀ a, a < 7 → ∀ b, b < 7 → a ≠ b → (TX2 a).2.1 ≠ (TX2 b).2.1 := by decide +kernel
theorem tyX2_ok : ∀ k, k < 7 → parseFieldDescriptor (TX2 k).2.2.1 = some (tyX2 k) := by decide +kernel
abbrev cX2_init : ByteArray := prog_4_method_1_code
def yX2_init : MethodName := ⟨RX2, "<init>", "(LNetworkCenters$Survey;)V"⟩
abbrev cX2_trace : ByteArray := prog_4_method_2_code
def yX2_trace : MethodName := ⟨RX2, "trace", "(I)V"⟩
abbrev cX2_addEnd : ByteArray := prog_4_method_3_code
def yX2_addEnd : MethodName := ⟨RX2, "addEnd", "(I)V"⟩
abbrev cX2_slopeOf : ByteArray := prog_4_method_4_code
def yX2_slopeOf : MethodName := ⟨RX2, "slopeOf", "(I)I"⟩
abbrev cX2_startOf : ByteArray := prog_4_method_5_code
def yX2_startOf : MethodName := ⟨RX2, "startOf", "(I)I"⟩
abbrev cX2_addCrossing : ByteArray := prog_4_method_6_code
def yX2_addCrossing : MethodName := ⟨RX2, "addCrossing", "(II)V"⟩
abbrev cX2_turnsAt : ByteArray := prog_4_method_7_code
def yX2_turnsAt : MethodName := ⟨RX2, "turnsAt", "(II)Z"⟩
abbrev cX2_insert : ByteArray := prog_4_method_8_code
def yX2_insert : MethodName := ⟨RX2, "insert", "(II)V"⟩
abbrev cX2_putAt : ByteArray := prog_4_method_9_code
def yX2_putAt : MethodName := ⟨RX2, "putAt", "(ILNetworkCenters$Row;I)V"⟩
def RX3 : String := "NetworkCenters$Row"
def TX3 : u_T := fun k => match k with
  | _ => ("NetworkCenters$Row", "cells", "[I", true)
def tyX3 : Nat → FieldType := fun k => match k with
  | _ => .array .int
abbrev wsX30 : List Cond := u_ws RX3 TX3 1
theorem nmX3 : ∀ a, a < 1 → ∀ b, b < 1 → a ≠ b → (TX3 a).2.1 ≠ (TX3 b).2.1 := by decide +kernel
theorem tyX3_ok : ∀ k, k < 1 → parseFieldDescriptor (TX3 k).2.2.1 = some (tyX3 k) := by decide +kernel
abbrev cX3_init : ByteArray := prog_5_method_1_code
def yX3_init : MethodName := ⟨RX3, "<init>", "(I)V"⟩
abbrev cX3_get : ByteArray := prog_5_method_2_code
def yX3_get : MethodName := ⟨RX3, "get", "(I)I"⟩
abbrev cX3_set : ByteArray := prog_5_method_3_code
def yX3_set : MethodName := ⟨RX3, "set", "(II)V"⟩
abbrev cX3_fill : ByteArray := prog_5_method_4_code
def yX3_fill : MethodName := ⟨RX3, "fill", "(I)V"⟩
abbrev cX3_copyFrom : ByteArray := prog_5_method_5_code
def yX3_copyFrom : MethodName := ⟨RX3, "copyFrom", "(LNetworkCenters$Row;)V"⟩
abbrev cX3_sameAs : ByteArray := prog_5_method_6_code
def yX3_sameAs : MethodName := ⟨RX3, "sameAs", "(LNetworkCenters$Row;)Z"⟩
abbrev cX3_openAt : ByteArray := prog_5_method_7_code
def yX3_openAt : MethodName := ⟨RX3, "openAt", "(I)V"⟩
abbrev cX3_removeAt : ByteArray := prog_5_method_8_code
def yX3_removeAt : MethodName := ⟨RX3, "removeAt", "(I)V"⟩
def RX4 : String := "NetworkCenters$Script"
def TX4 : u_T := fun k => match k with
  | 0 => ("NetworkCenters$Script", "length", "I", false)
  | 1 => ("NetworkCenters$Script", "text", "LNetworkCenters$Row;", true)
  | 2 => ("NetworkCenters$Script", "place", "I", false)
  | 3 => ("NetworkCenters$Script", "kind", "I", false)
  | 4 => ("NetworkCenters$Script", "numbersRead", "I", false)
  | _ => ("NetworkCenters$Script", "numbers", "LNetworkCenters$Row;", true)
def tyX4 : Nat → FieldType := fun k => match k with
  | 0 => .int
  | 1 => .object "NetworkCenters$Row"
  | 2 => .int
  | 3 => .int
  | 4 => .int
  | _ => .object "NetworkCenters$Row"
abbrev wsX40 : List Cond := u_ws RX4 TX4 6
theorem nmX4 : ∀ a, a < 6 → ∀ b, b < 6 → a ≠ b → (TX4 a).2.1 ≠ (TX4 b).2.1 := by decide +kernel
theorem tyX4_ok : ∀ k, k < 6 → parseFieldDescriptor (TX4 k).2.2.1 = some (tyX4 k) := by decide +kernel
abbrev cX4_init : ByteArray := prog_6_method_1_code
def yX4_init : MethodName := ⟨RX4, "<init>", "()V"⟩
abbrev cX4_append : ByteArray := prog_6_method_2_code
def yX4_append : MethodName := ⟨RX4, "append", "(I)V"⟩
def RX5 : String := "NetworkCenters$Survey"
def TX5 : u_T := fun k => match k with
  | 0 => ("NetworkCenters$Survey", "taken", "LNetworkCenters$Network;", true)
  | 1 => ("NetworkCenters$Survey", "parameter", "I", false)
  | 2 => ("NetworkCenters$Survey", "turn", "I", false)
  | 3 => ("NetworkCenters$Survey", "connected", "Z", false)
  | 4 => ("NetworkCenters$Survey", "weights", "LNetworkCenters$Row;", true)
  | 5 => ("NetworkCenters$Survey", "table", "LNetworkCenters$Row;", true)
  | 6 => ("NetworkCenters$Survey", "outs", "LNetworkCenters$Row;", true)
  | 7 => ("NetworkCenters$Survey", "backs", "LNetworkCenters$Row;", true)
  | 8 => ("NetworkCenters$Survey", "points", "I", false)
  | 9 => ("NetworkCenters$Survey", "edges", "LNetworkCenters$Row;", true)
  | 10 => ("NetworkCenters$Survey", "tops", "LNetworkCenters$Row;", true)
  | 11 => ("NetworkCenters$Survey", "bottoms", "LNetworkCenters$Row;", true)
  | 12 => ("NetworkCenters$Survey", "found", "Z", false)
  | 13 => ("NetworkCenters$Survey", "bestEdge", "I", false)
  | 14 => ("NetworkCenters$Survey", "bestTop", "I", false)
  | 15 => ("NetworkCenters$Survey", "bestBottom", "I", false)
  | _ => ("NetworkCenters$Survey", "bestValue", "I", false)
def tyX5 : Nat → FieldType := fun k => match k with
  | 0 => .object "NetworkCenters$Network"
  | 1 => .int
  | 2 => .int
  | 3 => .boolean
  | 4 => .object "NetworkCenters$Row"
  | 5 => .object "NetworkCenters$Row"
  | 6 => .object "NetworkCenters$Row"
  | 7 => .object "NetworkCenters$Row"
  | 8 => .int
  | 9 => .object "NetworkCenters$Row"
  | 10 => .object "NetworkCenters$Row"
  | 11 => .object "NetworkCenters$Row"
  | 12 => .boolean
  | 13 => .int
  | 14 => .int
  | 15 => .int
  | _ => .int
abbrev wsX50 : List Cond := u_ws RX5 TX5 17
theorem nmX5 : ∀ a, a < 17 → ∀ b, b < 17 → a ≠ b → (TX5 a).2.1 ≠ (TX5 b).2.1 := by decide +kernel
theorem tyX5_ok : ∀ k, k < 17 → parseFieldDescriptor (TX5 k).2.2.1 = some (tyX5 k) := by decide +kernel
abbrev cX5_init : ByteArray := prog_7_method_1_code
def yX5_init : MethodName := ⟨RX5, "<init>", "()V"⟩
abbrev cX5_take : ByteArray := prog_7_method_2_code
def yX5_take : MethodName := ⟨RX5, "take", "(LNetworkCenters$Network;I)V"⟩
abbrev cX5_hasCenters : ByteArray := prog_7_method_3_code
def yX5_hasCenters : MethodName := ⟨RX5, "hasCenters", "()Z"⟩
abbrev cX5_nodes : ByteArray := prog_7_method_4_code
def yX5_nodes : MethodName := ⟨RX5, "nodes", "()I"⟩
abbrev cX5_allNodes : ByteArray := prog_7_method_5_code
def yX5_allNodes : MethodName := ⟨RX5, "allNodes", "()I"⟩
abbrev cX5_lengthOf : ByteArray := prog_7_method_6_code
def yX5_lengthOf : MethodName := ⟨RX5, "lengthOf", "(I)I"⟩
abbrev cX5_weightOf : ByteArray := prog_7_method_7_code
def yX5_weightOf : MethodName := ⟨RX5, "weightOf", "(I)I"⟩
abbrev cX5_between : ByteArray := prog_7_method_8_code
def yX5_between : MethodName := ⟨RX5, "between", "(II)I"⟩
abbrev cX5_measureNodes : ByteArray := prog_7_method_9_code
def yX5_measureNodes : MethodName := ⟨RX5, "measureNodes", "()V"⟩
abbrev cX5_shortenBy : ByteArray := prog_7_method_10_code
def yX5_shortenBy : MethodName := ⟨RX5, "shortenBy", "(I)V"⟩
abbrev cX5_measureEdges : ByteArray := prog_7_method_11_code
def yX5_measureEdges : MethodName := ⟨RX5, "measureEdges", "()V"⟩
abbrev cX5_greatestDistance : ByteArray := prog_7_method_12_code
def yX5_greatestDistance : MethodName := ⟨RX5, "greatestDistance", "()I"⟩
abbrev cX5_firstStep : ByteArray := prog_7_method_13_code
def yX5_firstStep : MethodName := ⟨RX5, "firstStep", "(II)I"⟩
abbrev cX5_wayOut : ByteArray := prog_7_method_14_code
def yX5_wayOut : MethodName := ⟨RX5, "wayOut", "(II)I"⟩
abbrev cX5_wayBack : ByteArray := prog_7_method_15_code
def yX5_wayBack : MethodName := ⟨RX5, "wayBack", "(II)I"⟩
abbrev cX5_reach : ByteArray := prog_7_method_16_code
def yX5_reach : MethodName := ⟨RX5, "reach", "(IIII)I"⟩
abbrev cX5_weighted : ByteArray := prog_7_method_17_code
def yX5_weighted : MethodName := ⟨RX5, "weighted", "(IIII)I"⟩
abbrev cX5_heightAt : ByteArray := prog_7_method_18_code
def yX5_heightAt : MethodName := ⟨RX5, "heightAt", "(IIII)I"⟩
abbrev cX5_costAt : ByteArray := prog_7_method_19_code
def yX5_costAt : MethodName := ⟨RX5, "costAt", "(III)I"⟩
abbrev cX5_nodesWithin : ByteArray := prog_7_method_20_code
def yX5_nodesWithin : MethodName := ⟨RX5, "nodesWithin", "(III)I"⟩
abbrev cX5_gather : ByteArray := prog_7_method_21_code
def yX5_gather : MethodName := ⟨RX5, "gather", "()V"⟩
abbrev cX5_addPoint : ByteArray := prog_7_method_22_code
def yX5_addPoint : MethodName := ⟨RX5, "addPoint", "(III)V"⟩
abbrev cX5_addCrossing : ByteArray := prog_7_method_23_code
def yX5_addCrossing : MethodName := ⟨RX5, "addCrossing", "(III)V"⟩
abbrev cX5_lead : ByteArray := prog_7_method_24_code
def yX5_lead : MethodName := ⟨RX5, "lead", "(IIII)I"⟩
abbrev cX5_seekCenter : ByteArray := prog_7_method_25_code
def yX5_seekCenter : MethodName := ⟨RX5, "seekCenter", "(I)V"⟩
abbrev cX5_seekMedian : ByteArray := prog_7_method_26_code
def yX5_seekMedian : MethodName := ⟨RX5, "seekMedian", "()V"⟩
abbrev cX5_startSeeking : ByteArray := prog_7_method_27_code
def yX5_startSeeking : MethodName := ⟨RX5, "startSeeking", "()V"⟩
abbrev cX5_offer : ByteArray := prog_7_method_28_code
def yX5_offer : MethodName := ⟨RX5, "offer", "(II)V"⟩
abbrev cX5_comesBeforeBest : ByteArray := prog_7_method_29_code
def yX5_comesBeforeBest : MethodName := ⟨RX5, "comesBeforeBest", "(I)Z"⟩
abbrev cX5_criticalNodes : ByteArray := prog_7_method_30_code
def yX5_criticalNodes : MethodName := ⟨RX5, "criticalNodes", "(I)I"⟩
def RX6 : String := "NetworkCenters"
def TX6 : u_T := fun k => match k with
  | 0 => ("NetworkCenters", "network", "LNetworkCenters$Network;", true)
  | 1 => ("NetworkCenters", "trial", "LNetworkCenters$Network;", true)
  | 2 => ("NetworkCenters", "records", "[LNetworkCenters$Network;", true)
  | 3 => ("NetworkCenters", "recordCount", "I", false)
  | 4 => ("NetworkCenters", "survey", "LNetworkCenters$Survey;", true)
  | 5 => ("NetworkCenters", "outline", "LNetworkCenters$Outline;", true)
  | 6 => ("NetworkCenters", "groups", "LNetworkCenters$Groups;", true)
  | _ => ("NetworkCenters", "script", "LNetworkCenters$Script;", true)
def tyX6 : Nat → FieldType := fun k => match k with
  | 0 => .object "NetworkCenters$Network"
  | 1 => .object "NetworkCenters$Network"
  | 2 => .array (.object "NetworkCenters$Network")
  | 3 => .int
  | 4 => .object "NetworkCenters$Survey"
  | 5 => .object "NetworkCenters$Outline"
  | 6 => .object "NetworkCenters$Groups"
  | _ => .object "NetworkCenters$Script"
abbrev wsX60 : List Cond := u_ws RX6 TX6 8
theorem nmX6 : ∀ a, a < 8 → ∀ b, b < 8 → a ≠ b → (TX6 a).2.1 ≠ (TX6 b).2.1 := by decide +kernel
theorem tyX6_ok : ∀ k, k < 8 → parseFieldDescriptor (TX6 k).2.2.1 = some (tyX6 k) := by decide +kernel
abbrev cX6_init : ByteArray := prog_1_method_1_code
def yX6_init : MethodName := ⟨RX6, "<init>", "()V"⟩
abbrev cX6_reset : ByteArray := prog_1_method_2_code
def yX6_reset : MethodName := ⟨RX6, "reset", "(I)I"⟩
abbrev cX6_connect : ByteArray := prog_1_method_3_code
def yX6_connect : MethodName := ⟨RX6, "connect", "(III)I"⟩
abbrev cX6_disconnect : ByteArray := prog_1_method_4_code
def yX6_disconnect : MethodName := ⟨RX6, "disconnect", "(I)I"⟩
abbrev cX6_setWeight : ByteArray := prog_1_method_5_code
def yX6_setWeight : MethodName := ⟨RX6, "setWeight", "(II)I"⟩
abbrev cX6_setTrend : ByteArray := prog_1_method_6_code
def yX6_setTrend : MethodName := ⟨RX6, "setTrend", "(II)I"⟩
abbrev cX6_forbid : ByteArray := prog_1_method_7_code
def yX6_forbid : MethodName := ⟨RX6, "forbid", "(III)I"⟩
abbrev cX6_allow : ByteArray := prog_1_method_8_code
def yX6_allow : MethodName := ⟨RX6, "allow", "(I)I"⟩
abbrev cX6_count : ByteArray := prog_1_method_9_code
def yX6_count : MethodName := ⟨RX6, "count", "(I)I"⟩
abbrev cX6_edge : ByteArray := prog_1_method_10_code
def yX6_edge : MethodName := ⟨RX6, "edge", "(II)I"⟩
abbrev cX6_node : ByteArray := prog_1_method_11_code
def yX6_node : MethodName := ⟨RX6, "node", "(II)I"⟩
abbrev cX6_stretch : ByteArray := prog_1_method_12_code
def yX6_stretch : MethodName := ⟨RX6, "stretch", "(II)I"⟩
abbrev cX6_distance : ByteArray := prog_1_method_13_code
def yX6_distance : MethodName := ⟨RX6, "distance", "(II)I"⟩
abbrev cX6_next : ByteArray := prog_1_method_14_code
def yX6_next : MethodName := ⟨RX6, "next", "(II)I"⟩
abbrev cX6_diameter : ByteArray := prog_1_method_15_code
def yX6_diameter : MethodName := ⟨RX6, "diameter", "()I"⟩
abbrev cX6_distanceTo : ByteArray := prog_1_method_16_code
def yX6_distanceTo : MethodName := ⟨RX6, "distanceTo", "(IIIII)I"⟩
abbrev cX6_isAllowed : ByteArray := prog_1_method_17_code
def yX6_isAllowed : MethodName := ⟨RX6, "isAllowed", "(III)Z"⟩
abbrev cX6_height : ByteArray := prog_1_method_18_code
def yX6_height : MethodName := ⟨RX6, "height", "(IIIII)I"⟩
abbrev cX6_cost : ByteArray := prog_1_method_19_code
def yX6_cost : MethodName := ⟨RX6, "cost", "(IIII)I"⟩
abbrev cX6_corner : ByteArray := prog_1_method_20_code
def yX6_corner : MethodName := ⟨RX6, "corner", "(III)I"⟩
abbrev cX6_radius : ByteArray := prog_1_method_21_code
def yX6_radius : MethodName := ⟨RX6, "radius", "(II)I"⟩
abbrev cX6_center : ByteArray := prog_1_method_22_code
def yX6_center : MethodName := ⟨RX6, "center", "(II)I"⟩
abbrev cX6_critical : ByteArray := prog_1_method_23_code
def yX6_critical : MethodName := ⟨RX6, "critical", "(I)I"⟩
abbrev cX6_median : ByteArray := prog_1_method_24_code
def yX6_median : MethodName := ⟨RX6, "median", "(I)I"⟩
abbrev cX6_radiusOf : ByteArray := prog_1_method_25_code
def yX6_radiusOf : MethodName := ⟨RX6, "radiusOf", "(II)I"⟩
abbrev cX6_group : ByteArray := prog_1_method_26_code
def yX6_group : MethodName := ⟨RX6, "group", "(II)I"⟩
abbrev cX6_covering : ByteArray := prog_1_method_27_code
def yX6_covering : MethodName := ⟨RX6, "covering", "(II)I"⟩
abbrev cX6_covered : ByteArray := prog_1_method_28_code
def yX6_covered : MethodName := ⟨RX6, "covered", "(III)I"⟩
abbrev cX6_changedRadius : ByteArray := prog_1_method_29_code
def yX6_changedRadius : MethodName := ⟨RX6, "changedRadius", "(II)I"⟩
abbrev cX6_radiusWithout : ByteArray := prog_1_method_30_code
def yX6_radiusWithout : MethodName := ⟨RX6, "radiusWithout", "(II)I"⟩
abbrev cX6_type : ByteArray := prog_1_method_31_code
def yX6_type : MethodName := ⟨RX6, "type", "(I)I"⟩
abbrev cX6_undo : ByteArray := prog_1_method_35_code
def yX6_undo : MethodName := ⟨RX6, "undo", "()I"⟩
abbrev cX6_checksum : ByteArray := prog_1_method_36_code
def yX6_checksum : MethodName := ⟨RX6, "checksum", "()J"⟩
abbrev cX6_requireSuch : ByteArray := prog_1_method_37_code
def yX6_requireSuch : MethodName := ⟨RX6, "requireSuch", "(Z)V"⟩
abbrev cX6_requireValid : ByteArray := prog_1_method_38_code
def yX6_requireValid : MethodName := ⟨RX6, "requireValid", "(Z)V"⟩
abbrev cX6_requireNow : ByteArray := prog_1_method_39_code
def yX6_requireNow : MethodName := ⟨RX6, "requireNow", "(Z)V"⟩
abbrev cX6_refuse : ByteArray := prog_1_method_40_code
def yX6_refuse : MethodName := ⟨RX6, "refuse", "(I)V"⟩
abbrev cX6_isPart : ByteArray := prog_1_method_41_code
def yX6_isPart : MethodName := ⟨RX6, "isPart", "(I)Z"⟩
abbrev cX6_lowest : ByteArray := prog_1_method_42_code
def yX6_lowest : MethodName := ⟨RX6, "lowest", "(III)I"⟩
abbrev cX6_commonDivisor : ByteArray := prog_1_method_43_code
def yX6_commonDivisor : MethodName := ⟨RX6, "commonDivisor", "(II)I"⟩
abbrev cX6_recordAt : ByteArray := prog_1_method_44_code
def yX6_recordAt : MethodName := ⟨RX6, "recordAt", "(I)LNetworkCenters$Network;"⟩
abbrev cX6_remember : ByteArray := prog_1_method_45_code
def yX6_remember : MethodName := ⟨RX6, "remember", "()V"⟩
abbrev cX6_dropOldestRecord : ByteArray := prog_1_method_46_code
def yX6_dropOldestRecord : MethodName := ⟨RX6, "dropOldestRecord", "()V"⟩
abbrev cX6_networkFact : ByteArray := prog_1_method_48_code
def yX6_networkFact : MethodName := ⟨RX6, "networkFact", "(I)I"⟩
abbrev cX6_cornerFact : ByteArray := prog_1_method_49_code
def yX6_cornerFact : MethodName := ⟨RX6, "cornerFact", "(II)I"⟩
abbrev cX6_bestFact : ByteArray := prog_1_method_50_code
def yX6_bestFact : MethodName := ⟨RX6, "bestFact", "(I)I"⟩
abbrev cX6_groupRadius : ByteArray := prog_1_method_51_code
def yX6_groupRadius : MethodName := ⟨RX6, "groupRadius", "(II)I"⟩
abbrev cX6_mix : ByteArray := prog_1_method_52_code
def yX6_mix : MethodName := ⟨RX6, "mix", "(JI)J"⟩
abbrev cX6_mixNetwork : ByteArray := prog_1_method_53_code
def yX6_mixNetwork : MethodName := ⟨RX6, "mixNetwork", "(J)J"⟩
abbrev cX6_mixCenters : ByteArray := prog_1_method_54_code
def yX6_mixCenters : MethodName := ⟨RX6, "mixCenters", "(J)J"⟩
def RX7 : String := "NetworkCentersModel"
def TX7 : u_T := fun k => match k with
  | _ => ("", "", "", false)
def tyX7 : Nat → FieldType := fun k => match k with
  | _ => .int
abbrev wsX70 : List Cond := u_ws RX7 TX7 0
theorem nmX7 : ∀ a, a < 0 → ∀ b, b < 0 → a ≠ b → (TX7 a).2.1 ≠ (TX7 b).2.1 := by decide +kernel
theorem tyX7_ok : ∀ k, k < 0 → parseFieldDescriptor (TX7 k).2.2.1 = some (tyX7 k) := by decide +kernel
def RJ9 : String := "java/lang/Math"
def TJ9 : u_T := fun k => match k with
  | _ => ("", "", "", false)
def tyJ9 : Nat → FieldType := fun k => match k with
  | _ => .int
abbrev wsJ90 : List Cond := u_ws RJ9 TJ9 0
theorem nmJ9 : ∀ a, a < 0 → ∀ b, b < 0 → a ≠ b → (TJ9 a).2.1 ≠ (TJ9 b).2.1 := by decide +kernel
theorem tyJ9_ok : ∀ k, k < 0 → parseFieldDescriptor (TJ9 k).2.2.1 = some (tyJ9 k) := by decide +kernel
abbrev cJ9_max_7cf53 : ByteArray := prog_14_method_65_code
def yJ9_max_7cf53 : MethodName := ⟨RJ9, "max", "(II)I"⟩
abbrev cJ9_min_7cf53 : ByteArray := prog_14_method_69_code
def yJ9_min_7cf53 : MethodName := ⟨RJ9, "min", "(II)I"⟩
def RJ0 : String := "java/lang/String"
def TJ0 : u_T := fun k => match k with
  | _ => ("", "", "", false)
def tyJ0 : Nat → FieldType := fun k => match k with
  | _ => .int
abbrev wsJ00 : List Cond := u_ws RJ0 TJ0 0
theorem nmJ0 : ∀ a, a < 0 → ∀ b, b < 0 → a ≠ b → (TJ0 a).2.1 ≠ (TJ0 b).2.1 := by decide +kernel
theorem tyJ0_ok : ∀ k, k < 0 → parseFieldDescriptor (TJ0 k).2.2.1 = some (tyJ0 k) := by decide +kernel
def RL : String := "NetworkCentersLaw"
abbrev cL_cell : ByteArray := method_2_code
def yL_cell : MethodName := ⟨RL, "cell", "([II)I"⟩
abbrev cL_low : ByteArray := method_3_code
def yL_low : MethodName := ⟨RL, "low", "(II)I"⟩
abbrev cL_reset : ByteArray := method_4_code
def yL_reset : MethodName := ⟨RL, "reset", "(LNetworkCenters;I)I"⟩
abbrev cL_connect : ByteArray := method_5_code
def yL_connect : MethodName := ⟨RL, "connect", "(LNetworkCenters;III)I"⟩
abbrev cL_disconnect : ByteArray := method_6_code
def yL_disconnect : MethodName := ⟨RL, "disconnect", "(LNetworkCenters;I)I"⟩
abbrev cL_setWeight : ByteArray := method_7_code
def yL_setWeight : MethodName := ⟨RL, "setWeight", "(LNetworkCenters;II)I"⟩
abbrev cL_setTrend : ByteArray := method_8_code
def yL_setTrend : MethodName := ⟨RL, "setTrend", "(LNetworkCenters;II)I"⟩
abbrev cL_forbid : ByteArray := method_9_code
def yL_forbid : MethodName := ⟨RL, "forbid", "(LNetworkCenters;III)I"⟩
abbrev cL_allow : ByteArray := method_10_code
def yL_allow : MethodName := ⟨RL, "allow", "(LNetworkCenters;I)I"⟩
abbrev cL_count : ByteArray := method_11_code
def yL_count : MethodName := ⟨RL, "count", "(LNetworkCenters;I)I"⟩
abbrev cL_edge : ByteArray := method_12_code
def yL_edge : MethodName := ⟨RL, "edge", "(LNetworkCenters;II)I"⟩
abbrev cL_node : ByteArray := method_13_code
def yL_node : MethodName := ⟨RL, "node", "(LNetworkCenters;II)I"⟩
abbrev cL_stretch : ByteArray := method_14_code
def yL_stretch : MethodName := ⟨RL, "stretch", "(LNetworkCenters;II)I"⟩
abbrev cL_distance : ByteArray := method_15_code
def yL_distance : MethodName := ⟨RL, "distance", "(LNetworkCenters;II)I"⟩
abbrev cL_next : ByteArray := method_16_code
def yL_next : MethodName := ⟨RL, "next", "(LNetworkCenters;II)I"⟩
abbrev cL_distanceTo : ByteArray := method_17_code
def yL_distanceTo : MethodName := ⟨RL, "distanceTo", "(LNetworkCenters;IIIII)I"⟩
abbrev cL_isAllowed : ByteArray := method_18_code
def yL_isAllowed : MethodName := ⟨RL, "isAllowed", "(LNetworkCenters;III)I"⟩
abbrev cL_height : ByteArray := method_19_code
def yL_height : MethodName := ⟨RL, "height", "(LNetworkCenters;IIIII)I"⟩
abbrev cL_cost : ByteArray := method_20_code
def yL_cost : MethodName := ⟨RL, "cost", "(LNetworkCenters;IIII)I"⟩
abbrev cL_corner : ByteArray := method_21_code
def yL_corner : MethodName := ⟨RL, "corner", "(LNetworkCenters;III)I"⟩
abbrev cL_radius : ByteArray := method_22_code
def yL_radius : MethodName := ⟨RL, "radius", "(LNetworkCenters;II)I"⟩
abbrev cL_center : ByteArray := method_23_code
def yL_center : MethodName := ⟨RL, "center", "(LNetworkCenters;II)I"⟩
abbrev cL_critical : ByteArray := method_24_code
def yL_critical : MethodName := ⟨RL, "critical", "(LNetworkCenters;I)I"⟩
abbrev cL_median : ByteArray := method_25_code
def yL_median : MethodName := ⟨RL, "median", "(LNetworkCenters;I)I"⟩
abbrev cL_radiusOf : ByteArray := method_26_code
def yL_radiusOf : MethodName := ⟨RL, "radiusOf", "(LNetworkCenters;II)I"⟩
abbrev cL_group : ByteArray := method_27_code
def yL_group : MethodName := ⟨RL, "group", "(LNetworkCenters;II)I"⟩
abbrev cL_covering : ByteArray := method_28_code
def yL_covering : MethodName := ⟨RL, "covering", "(LNetworkCenters;II)I"⟩
abbrev cL_covered : ByteArray := method_29_code
def yL_covered : MethodName := ⟨RL, "covered", "(LNetworkCenters;III)I"⟩
abbrev cL_changedRadius : ByteArray := method_30_code
def yL_changedRadius : MethodName := ⟨RL, "changedRadius", "(LNetworkCenters;II)I"⟩
abbrev cL_radiusWithout : ByteArray := method_31_code
def yL_radiusWithout : MethodName := ⟨RL, "radiusWithout", "(LNetworkCenters;II)I"⟩
abbrev cL_type : ByteArray := method_32_code
def yL_type : MethodName := ⟨RL, "type", "(LNetworkCenters;I)I"⟩
abbrev cL_undo : ByteArray := method_34_code
def yL_undo : MethodName := ⟨RL, "undo", "(LNetworkCenters;)I"⟩
abbrev cL_print : ByteArray := method_35_code
def yL_print : MethodName := ⟨RL, "print", "(LNetworkCenters;)J"⟩
abbrev cL_refused : ByteArray := method_36_code
def yL_refused : MethodName := ⟨RL, "refused", "(LNetworkCenters;)Z"⟩
abbrev cL_has : ByteArray := method_37_code
def yL_has : MethodName := ⟨RL, "has", "(II)Z"⟩
abbrev cL_isAtMost : ByteArray := method_38_code
def yL_isAtMost : MethodName := ⟨RL, "isAtMost", "(JJJJ)Z"⟩
abbrev cL_areWays : ByteArray := method_39_code
def yL_areWays : MethodName := ⟨RL, "areWays", "(LNetworkCenters;)Z"⟩
abbrev cL_isCenter : ByteArray := method_40_code
def yL_isCenter : MethodName := ⟨RL, "isCenter", "(LNetworkCenters;III)Z"⟩
abbrev cL_areGroups : ByteArray := method_41_code
def yL_areGroups : MethodName := ⟨RL, "areGroups", "(LNetworkCenters;I)Z"⟩
abbrev cL_areCorners : ByteArray := method_42_code
def yL_areCorners : MethodName := ⟨RL, "areCorners", "(LNetworkCenters;I)Z"⟩
abbrev cL_isWithout : ByteArray := method_43_code
def yL_isWithout : MethodName := ⟨RL, "isWithout", "(LNetworkCenters;I)Z"⟩
abbrev cL_law : ByteArray := code
def yL_law : MethodName := ⟨RL, "law", "([I)Z"⟩
abbrev vwCl : List vw_C := [(RX0, TX0, 7), (RX1, TX1, 11), (RX2, TX2, 7), (RX3, TX3, 1), (RX4, TX4, 6), (RX5, TX5, 17), (RX6, TX6, 8)]
end
section
/-! The program as numbers: methods, links, constants (by program: wip/whole/tables.py). -/
abbrev mX0_init : Nat := 0
abbrev mX0_placeOf : Nat := 1
abbrev mX0_rate : Nat := 2
abbrev mX0_lowerRadii : Nat := 3
abbrev mX0_lowerRadius : Nat := 4
abbrev mX0_isLess : Nat := 5
abbrev mX0_divide : Nat := 6
abbrev mX0_chosen : Nat := 7
abbrev mX0_greatestGroup : Nat := 8
abbrev mX0_fewest : Nat := 9
abbrev mX0_isWithin : Nat := 10
abbrev mX1_init : Nat := 11
abbrev mX1_clear : Nat := 12
abbrev mX1_copyFrom : Nat := 13
abbrev mX1_sameAs : Nat := 14
abbrev mX1_hasNode : Nat := 15
abbrev mX1_hasEdge : Nat := 16
abbrev mX1_hasStretch : Nat := 17
abbrev mX1_hasSet : Nat := 18
abbrev mX1_allNodes : Nat := 19
abbrev mX1_hasPoint : Nat := 20
abbrev mX1_edgeBetween : Nat := 21
abbrev mX1_whyNoEdge : Nat := 22
abbrev mX1_whyNoValue : Nat := 23
abbrev mX1_whyNoStretch : Nat := 24
abbrev mX1_addEdge : Nat := 25
abbrev mX1_addStretch : Nat := 26
abbrev mX1_removeEdge : Nat := 27
abbrev mX1_removeStretch : Nat := 28
abbrev mX1_edgeFact : Nat := 29
abbrev mX1_nodeFact : Nat := 30
abbrev mX1_edgesAt : Nat := 31
abbrev mX1_stretchFact : Nat := 32
abbrev mX1_permits : Nat := 33
abbrev mX2_init : Nat := 34
abbrev mX2_trace : Nat := 35
abbrev mX2_addEnd : Nat := 36
abbrev mX2_slopeOf : Nat := 37
abbrev mX2_startOf : Nat := 38
abbrev mX2_addCrossing : Nat := 39
abbrev mX2_turnsAt : Nat := 40
abbrev mX2_insert : Nat := 41
abbrev mX2_putAt : Nat := 42
abbrev mX3_init : Nat := 43
abbrev mX3_get : Nat := 44
abbrev mX3_set : Nat := 45
abbrev mX3_fill : Nat := 46
abbrev mX3_copyFrom : Nat := 47
abbrev mX3_sameAs : Nat := 48
abbrev mX3_openAt : Nat := 49
abbrev mX3_removeAt : Nat := 50
abbrev mX4_init : Nat := 51
abbrev mX4_append : Nat := 52
abbrev mX5_init : Nat := 64
abbrev mX5_take : Nat := 65
abbrev mX5_hasCenters : Nat := 66
abbrev mX5_nodes : Nat := 67
abbrev mX5_allNodes : Nat := 68
abbrev mX5_lengthOf : Nat := 69
abbrev mX5_weightOf : Nat := 70
abbrev mX5_between : Nat := 71
abbrev mX5_measureNodes : Nat := 72
abbrev mX5_shortenBy : Nat := 73
abbrev mX5_measureEdges : Nat := 74
abbrev mX5_greatestDistance : Nat := 75
abbrev mX5_firstStep : Nat := 76
abbrev mX5_wayOut : Nat := 77
abbrev mX5_wayBack : Nat := 78
abbrev mX5_reach : Nat := 79
abbrev mX5_weighted : Nat := 80
abbrev mX5_heightAt : Nat := 81
abbrev mX5_costAt : Nat := 82
abbrev mX5_nodesWithin : Nat := 83
abbrev mX5_gather : Nat := 84
abbrev mX5_addPoint : Nat := 85
abbrev mX5_addCrossing : Nat := 86
abbrev mX5_lead : Nat := 87
abbrev mX5_seekCenter : Nat := 88
abbrev mX5_seekMedian : Nat := 89
abbrev mX5_startSeeking : Nat := 90
abbrev mX5_offer : Nat := 91
abbrev mX5_comesBeforeBest : Nat := 92
abbrev mX5_criticalNodes : Nat := 93
abbrev mX6_init : Nat := 94
abbrev mX6_reset : Nat := 95
abbrev mX6_connect : Nat := 96
abbrev mX6_disconnect : Nat := 97
abbrev mX6_setWeight : Nat := 98
abbrev mX6_setTrend : Nat := 99
abbrev mX6_forbid : Nat := 100
abbrev mX6_allow : Nat := 101
abbrev mX6_count : Nat := 102
abbrev mX6_edge : Nat := 103
abbrev mX6_node : Nat := 104
abbrev mX6_stretch : Nat := 105
abbrev mX6_distance : Nat := 106
abbrev mX6_next : Nat := 107
abbrev mX6_diameter : Nat := 108
abbrev mX6_distanceTo : Nat := 109
abbrev mX6_isAllowed : Nat := 110
abbrev mX6_height : Nat := 111
abbrev mX6_cost : Nat := 112
abbrev mX6_corner : Nat := 113
abbrev mX6_radius : Nat := 114
abbrev mX6_center : Nat := 115
abbrev mX6_critical : Nat := 116
abbrev mX6_median : Nat := 117
abbrev mX6_radiusOf : Nat := 118
abbrev mX6_group : Nat := 119
abbrev mX6_covering : Nat := 120
abbrev mX6_covered : Nat := 121
abbrev mX6_changedRadius : Nat := 122
abbrev mX6_radiusWithout : Nat := 123
abbrev mX6_type : Nat := 124
abbrev mX6_undo : Nat := 128
abbrev mX6_checksum : Nat := 129
abbrev mX6_requireSuch : Nat := 130
abbrev mX6_requireValid : Nat := 131
abbrev mX6_requireNow : Nat := 132
abbrev mX6_refuse : Nat := 133
abbrev mX6_isPart : Nat := 134
abbrev mX6_lowest : Nat := 135
abbrev mX6_commonDivisor : Nat := 136
abbrev mX6_recordAt : Nat := 137
abbrev mX6_remember : Nat := 138
abbrev mX6_dropOldestRecord : Nat := 139
abbrev mX6_networkFact : Nat := 141
abbrev mX6_cornerFact : Nat := 142
abbrev mX6_bestFact : Nat := 143
abbrev mX6_groupRadius : Nat := 144
abbrev mX6_mix : Nat := 145
abbrev mX6_mixNetwork : Nat := 146
abbrev mX6_mixCenters : Nat := 147
abbrev mL_cell : Nat := 241
abbrev mL_low : Nat := 242
abbrev mL_reset : Nat := 243
abbrev mL_connect : Nat := 244
abbrev mL_disconnect : Nat := 245
abbrev mL_setWeight : Nat := 246
abbrev mL_setTrend : Nat := 247
abbrev mL_forbid : Nat := 248
abbrev mL_allow : Nat := 249
abbrev mL_count : Nat := 250
abbrev mL_edge : Nat := 251
abbrev mL_node : Nat := 252
abbrev mL_stretch : Nat := 253
abbrev mL_distance : Nat := 254
abbrev mL_next : Nat := 255
abbrev mL_distanceTo : Nat := 256
abbrev mL_isAllowed : Nat := 257
abbrev mL_height : Nat := 258
abbrev mL_cost : Nat := 259
abbrev mL_corner : Nat := 260
abbrev mL_radius : Nat := 261
abbrev mL_center : Nat := 262
abbrev mL_critical : Nat := 263
abbrev mL_median : Nat := 264
abbrev mL_radiusOf : Nat := 265
abbrev mL_group : Nat := 266
abbrev mL_covering : Nat := 267
abbrev mL_covered : Nat := 268
abbrev mL_changedRadius : Nat := 269
abbrev mL_radiusWithout : Nat := 270
abbrev mL_type : Nat := 271
abbrev mL_undo : Nat := 272
abbrev mL_print : Nat := 273
abbrev mL_refused : Nat := 274
abbrev mL_has : Nat := 275
abbrev mL_isAtMost : Nat := 276
abbrev mL_areWays : Nat := 277
abbrev mL_isCenter : Nat := 278
abbrev mL_areGroups : Nat := 279
abbrev mL_areCorners : Nat := 280
abbrev mL_isWithout : Nat := 281
abbrev mL_law : Nat := 282
def mm_bytL_0 : List ByteArray := [cX0_init, cX0_placeOf, cX0_rate, cX0_lowerRadii, cX0_lowerRadius, cX0_isLess, cX0_divide, cX0_chosen, cX0_greatestGroup, cX0_fewest, cX0_isWithin, cX1_init, cX1_clear, cX1_copyFrom, cX1_sameAs, cX1_hasNode, cX1_hasEdge, cX1_hasStretch, cX1_hasSet, cX1_allNodes, cX1_hasPoint, cX1_edgeBetween, cX1_whyNoEdge, cX1_whyNoValue, cX1_whyNoStretch, cX1_addEdge, cX1_addStretch, cX1_removeEdge, cX1_removeStretch, cX1_edgeFact, cX1_nodeFact, cX1_edgesAt, cX1_stretchFact, cX1_permits, cX2_init, cX2_trace, cX2_addEnd, cX2_slopeOf, cX2_startOf, cX2_addCrossing, cX2_turnsAt, cX2_insert, cX2_putAt, cX3_init, cX3_get, cX3_set, cX3_fill, cX3_copyFrom, cX3_sameAs, cX3_openAt, cX3_removeAt, cX4_init, cX4_append, cX6_isPart, cX6_isPart, cX6_isPart, cX6_isPart, cX6_isPart, cX6_isPart, cX6_isPart]
def mm_bytL_1 : List ByteArray := [cX6_isPart, cX6_isPart, cX6_isPart, cX6_isPart, cX5_init, cX5_take, cX5_hasCenters, cX5_nodes, cX5_allNodes, cX5_lengthOf, cX5_weightOf, cX5_between, cX5_measureNodes, cX5_shortenBy, cX5_measureEdges, cX5_greatestDistance, cX5_firstStep, cX5_wayOut, cX5_wayBack, cX5_reach, cX5_weighted, cX5_heightAt, cX5_costAt, cX5_nodesWithin, cX5_gather, cX5_addPoint, cX5_addCrossing, cX5_lead, cX5_seekCenter, cX5_seekMedian, cX5_startSeeking, cX5_offer, cX5_comesBeforeBest, cX5_criticalNodes, cX6_init, cX6_reset, cX6_connect, cX6_disconnect, cX6_setWeight, cX6_setTrend, cX6_forbid, cX6_allow, cX6_count, cX6_edge, cX6_node, cX6_stretch, cX6_distance, cX6_next, cX6_diameter, cX6_distanceTo, cX6_isAllowed, cX6_height, cX6_cost, cX6_corner, cX6_radius, cX6_center, cX6_critical, cX6_median, cX6_radiusOf, cX6_group]
def mm_bytL_2 : List ByteArray := [cX6_covering, cX6_covered, cX6_changedRadius, cX6_radiusWithout, cX6_type, cX6_isPart, cX6_isPart, cX6_isPart, cX6_undo, cX6_checksum, cX6_requireSuch, cX6_requireValid, cX6_requireNow, cX6_refuse, cX6_isPart, cX6_lowest, cX6_commonDivisor, cX6_recordAt, cX6_remember, cX6_dropOldestRecord, cX6_isPart, cX6_networkFact, cX6_cornerFact, cX6_bestFact, cX6_groupRadius, cX6_mix, cX6_mixNetwork, cX6_mixCenters, cX6_isPart, cX6_isPart, cX6_isPart, cX6_isPart, cX6_isPart, cX6_isPart, cX6_isPart, cX6_isPart, cX6_isPart, cX6_isPart, cX6_isPart, cX6_isPart, cX6_isPart, cX6_isPart, cX6_isPart, cX6_isPart, cX6_isPart, cX6_isPart, cX6_isPart, cX6_isPart, cX6_isPart, cX6_isPart, cX6_isPart, cX6_isPart, cX6_isPart, cX6_isPart, cX6_isPart, cX6_isPart, cX6_isPart, cX6_isPart, cX6_isPart, cX6_isPart]
def mm_bytL_3 : List ByteArray := [cX6_isPart, cX6_isPart, cX6_isPart, cX6_isPart, cX6_isPart, cX6_isPart, cX6_isPart, cX6_isPart, cX6_isPart, cX6_isPart, cX6_isPart, cX6_isPart, cX6_isPart, cX6_isPart, cX6_isPart, cX6_isPart, cX6_isPart, cX6_isPart, cX6_isPart, cX6_isPart, cX6_isPart, cX6_isPart, cX6_isPart, cX6_isPart, cX6_isPart, cX6_isPart, cX6_isPart, cX6_isPart, cX6_isPart, cX6_isPart, cX6_isPart, cX6_isPart, cX6_isPart, cX6_isPart, cX6_isPart, cX6_isPart, cX6_isPart, cX6_isPart, cX6_isPart, cX6_isPart, cX6_isPart, cX6_isPart, cX6_isPart, cX6_isPart, cX6_isPart, cX6_isPart, cX6_isPart, cX6_isPart, cX6_isPart, cX6_isPart, cX6_isPart, cX6_isPart, cX6_isPart, cX6_isPart, cX6_isPart, cX6_isPart, cX6_isPart, cX6_isPart, cX6_isPart, cX6_isPart]
def mm_bytL_4 : List ByteArray := [cX6_isPart, cL_cell, cL_low, cL_reset, cL_connect, cL_disconnect, cL_setWeight, cL_setTrend, cL_forbid, cL_allow, cL_count, cL_edge, cL_node, cL_stretch, cL_distance, cL_next, cL_distanceTo, cL_isAllowed, cL_height, cL_cost, cL_corner, cL_radius, cL_center, cL_critical, cL_median, cL_radiusOf, cL_group, cL_covering, cL_covered, cL_changedRadius, cL_radiusWithout, cL_type, cL_undo, cL_print, cL_refused, cL_has, cL_isAtMost, cL_areWays, cL_isCenter, cL_areGroups, cL_areCorners, cL_isWithout, cL_law]
def mm_bytL : List ByteArray := mm_bytL_0 ++ (mm_bytL_1 ++ (mm_bytL_2 ++ (mm_bytL_3 ++ (mm_bytL_4))))
def mm_namL_0 : List MethodName := [yX0_init, yX0_placeOf, yX0_rate, yX0_lowerRadii, yX0_lowerRadius, yX0_isLess, yX0_divide, yX0_chosen, yX0_greatestGroup, yX0_fewest, yX0_isWithin, yX1_init, yX1_clear, yX1_copyFrom, yX1_sameAs, yX1_hasNode, yX1_hasEdge, yX1_hasStretch, yX1_hasSet, yX1_allNodes, yX1_hasPoint, yX1_edgeBetween, yX1_whyNoEdge, yX1_whyNoValue, yX1_whyNoStretch, yX1_addEdge, yX1_addStretch, yX1_removeEdge, yX1_removeStretch, yX1_edgeFact, yX1_nodeFact, yX1_edgesAt, yX1_stretchFact, yX1_permits, yX2_init, yX2_trace, yX2_addEnd, yX2_slopeOf, yX2_startOf, yX2_addCrossing, yX2_turnsAt, yX2_insert, yX2_putAt, yX3_init, yX3_get, yX3_set, yX3_fill, yX3_copyFrom, yX3_sameAs, yX3_openAt, yX3_removeAt, yX4_init, yX4_append, yX6_isPart, yX6_isPart, yX6_isPart, yX6_isPart, yX6_isPart, yX6_isPart, yX6_isPart]
def mm_namL_1 : List MethodName := [yX6_isPart, yX6_isPart, yX6_isPart, yX6_isPart, yX5_init, yX5_take, yX5_hasCenters, yX5_nodes, yX5_allNodes, yX5_lengthOf, yX5_weightOf, yX5_between, yX5_measureNodes, yX5_shortenBy, yX5_measureEdges, yX5_greatestDistance, yX5_firstStep, yX5_wayOut, yX5_wayBack, yX5_reach, yX5_weighted, yX5_heightAt, yX5_costAt, yX5_nodesWithin, yX5_gather, yX5_addPoint, yX5_addCrossing, yX5_lead, yX5_seekCenter, yX5_seekMedian, yX5_startSeeking, yX5_offer, yX5_comesBeforeBest, yX5_criticalNodes, yX6_init, yX6_reset, yX6_connect, yX6_disconnect, yX6_setWeight, yX6_setTrend, yX6_forbid, yX6_allow, yX6_count, yX6_edge, yX6_node, yX6_stretch, yX6_distance, yX6_next, yX6_diameter, yX6_distanceTo, yX6_isAllowed, yX6_height, yX6_cost, yX6_corner, yX6_radius, yX6_center, yX6_critical, yX6_median, yX6_radiusOf, yX6_group]
def mm_namL_2 : List MethodName := [yX6_covering, yX6_covered, yX6_changedRadius, yX6_radiusWithout, yX6_type, yX6_isPart, yX6_isPart, yX6_isPart, yX6_undo, yX6_checksum, yX6_requireSuch, yX6_requireValid, yX6_requireNow, yX6_refuse, yX6_isPart, yX6_lowest, yX6_commonDivisor, yX6_recordAt, yX6_remember, yX6_dropOldestRecord, yX6_isPart, yX6_networkFact, yX6_cornerFact, yX6_bestFact, yX6_groupRadius, yX6_mix, yX6_mixNetwork, yX6_mixCenters, yX6_isPart, yX6_isPart, yX6_isPart, yX6_isPart, yX6_isPart, yX6_isPart, yX6_isPart, yX6_isPart, yX6_isPart, yX6_isPart, yX6_isPart, yX6_isPart, yX6_isPart, yX6_isPart, yX6_isPart, yX6_isPart, yX6_isPart, yX6_isPart, yX6_isPart, yX6_isPart, yX6_isPart, yX6_isPart, yX6_isPart, yX6_isPart, yX6_isPart, yX6_isPart, yX6_isPart, yX6_isPart, yX6_isPart, yX6_isPart, yX6_isPart, yX6_isPart]
def mm_namL_3 : List MethodName := [yX6_isPart, yX6_isPart, yX6_isPart, yX6_isPart, yX6_isPart, yX6_isPart, yX6_isPart, yX6_isPart, yX6_isPart, yX6_isPart, yX6_isPart, yX6_isPart, yX6_isPart, yX6_isPart, yX6_isPart, yX6_isPart, yX6_isPart, yX6_isPart, yX6_isPart, yX6_isPart, yX6_isPart, yX6_isPart, yX6_isPart, yX6_isPart, yX6_isPart, yX6_isPart, yX6_isPart, yX6_isPart, yX6_isPart, yX6_isPart, yX6_isPart, yX6_isPart, yX6_isPart, yX6_isPart, yX6_isPart, yX6_isPart, yX6_isPart, yX6_isPart, yX6_isPart, yX6_isPart, yX6_isPart, yX6_isPart, yX6_isPart, yX6_isPart, yX6_isPart, yX6_isPart, yX6_isPart, yX6_isPart, yX6_isPart, yX6_isPart, yX6_isPart, yX6_isPart, yX6_isPart, yX6_isPart, yX6_isPart, yX6_isPart, yX6_isPart, yX6_isPart, yX6_isPart, yX6_isPart]
def mm_namL_4 : List MethodName := [yX6_isPart, yL_cell, yL_low, yL_reset, yL_connect, yL_disconnect, yL_setWeight, yL_setTrend, yL_forbid, yL_allow, yL_count, yL_edge, yL_node, yL_stretch, yL_distance, yL_next, yL_distanceTo, yL_isAllowed, yL_height, yL_cost, yL_corner, yL_radius, yL_center, yL_critical, yL_median, yL_radiusOf, yL_group, yL_covering, yL_covered, yL_changedRadius, yL_radiusWithout, yL_type, yL_undo, yL_print, yL_refused, yL_has, yL_isAtMost, yL_areWays, yL_isCenter, yL_areGroups, yL_areCorners, yL_isWithout, x]
def mm_namL : List MethodName := mm_namL_0 ++ (mm_namL_1 ++ (mm_namL_2 ++ (mm_namL_3 ++ (mm_namL_4))))
def mm_infL_0 : List (Nat × Nat × Nat × Nat × Nat) := [(0, 2, 0, 2, 41), (0, 2, 1, 0, 0), (0, 2, 0, 4, 98), (0, 8, 0, 3, 71), (0, 4, 0, 1, 22), (0, 3, 2, 1, 21), (0, 7, 0, 2, 43), (0, 6, 1, 3, 67), (0, 5, 1, 2, 43), (0, 6, 1, 2, 44), (0, 4, 2, 1, 21), (1, 1, 0, 2, 43), (1, 2, 0, 1, 22), (1, 2, 0, 2, 43), (1, 2, 2, 2, 43), (1, 2, 2, 0, 0), (1, 2, 2, 0, 0), (1, 2, 2, 0, 0), (1, 2, 2, 0, 0), (1, 1, 1, 0, 0), (1, 4, 2, 1, 21), (1, 6, 1, 1, 21), (1, 4, 1, 2, 46), (1, 3, 1, 1, 21), (1, 4, 1, 1, 21), (1, 4, 1, 1, 22), (1, 4, 1, 1, 22), (1, 5, 1, 2, 43), (1, 2, 0, 1, 22), (1, 3, 1, 1, 21), (1, 3, 1, 2, 44), (1, 4, 1, 1, 21), (1, 3, 1, 1, 21), (1, 5, 2, 1, 21), (2, 2, 0, 2, 41), (2, 5, 0, 4, 100), (2, 2, 0, 3, 75), (2, 3, 1, 2, 42), (2, 4, 1, 2, 43), (2, 6, 0, 3, 75), (2, 13, 2, 2, 43), (2, 7, 0, 2, 44), (2, 3, 0, 1, 22), (3, 2, 0, 1, 20), (3, 2, 1, 0, 0), (3, 3, 0, 0, 0), (3, 3, 0, 0, 0), (3, 3, 0, 1, 21), (3, 3, 2, 1, 21), (3, 3, 0, 0, 0), (3, 3, 0, 0, 0), (4, 1, 0, 2, 41), (4, 2, 0, 1, 22), (6, 1, 2, 0, 0), (6, 1, 2, 0, 0), (6, 1, 2, 0, 0), (6, 1, 2, 0, 0), (6, 1, 2, 0, 0), (6, 1, 2, 0, 0), (6, 1, 2, 0, 0)]
def mm_infL_1 : List (Nat × Nat × Nat × Nat × Nat) := [(6, 1, 2, 0, 0), (6, 1, 2, 0, 0), (6, 1, 2, 0, 0), (6, 1, 2, 0, 0), (5, 1, 0, 3, 63), (5, 4, 0, 5, 119), (5, 1, 2, 0, 0), (5, 1, 1, 0, 0), (5, 1, 1, 1, 20), (5, 2, 1, 1, 21), (5, 2, 1, 1, 21), (5, 3, 1, 1, 21), (5, 4, 0, 3, 67), (5, 5, 0, 2, 43), (5, 3, 0, 2, 43), (5, 4, 1, 2, 43), (5, 5, 1, 2, 46), (5, 3, 1, 1, 21), (5, 3, 1, 1, 21), (5, 6, 1, 1, 22), (5, 5, 1, 2, 47), (5, 7, 1, 3, 71), (5, 6, 1, 3, 71), (5, 6, 1, 3, 71), (5, 4, 0, 4, 96), (5, 4, 0, 2, 45), (5, 9, 0, 3, 68), (5, 5, 1, 2, 43), (5, 3, 0, 4, 97), (5, 2, 0, 4, 96), (5, 1, 0, 0, 0), (5, 6, 0, 2, 44), (5, 4, 2, 1, 21), (5, 4, 1, 3, 71), (6, 2, 0, 4, 83), (6, 3, 1, 7, 110), (6, 4, 1, 8, 130), (6, 2, 1, 7, 110), (6, 4, 1, 8, 130), (6, 4, 1, 8, 130), (6, 4, 1, 8, 130), (6, 3, 1, 7, 110), (6, 2, 1, 7, 142), (6, 3, 1, 7, 110), (6, 3, 1, 7, 110), (6, 3, 1, 7, 110), (6, 4, 1, 7, 142), (6, 3, 1, 7, 142), (6, 1, 1, 6, 142), (6, 6, 1, 7, 142), (6, 4, 2, 7, 110), (6, 6, 1, 7, 142), (6, 5, 1, 7, 142), (6, 4, 1, 7, 142), (6, 3, 1, 7, 142), (6, 3, 1, 7, 142), (6, 2, 1, 7, 142), (6, 2, 1, 7, 142), (6, 3, 1, 7, 142), (6, 3, 1, 7, 142)]
def mm_infL_2 : List (Nat × Nat × Nat × Nat × Nat) := [(6, 3, 1, 7, 142), (6, 4, 1, 7, 142), (6, 3, 1, 7, 142), (6, 3, 1, 7, 142), (6, 2, 1, 7, 110), (6, 1, 2, 0, 0), (6, 1, 2, 0, 0), (6, 1, 2, 0, 0), (6, 2, 1, 7, 110), (6, 3, 3, 6, 151), (6, 1, 0, 6, 90), (6, 1, 0, 6, 90), (6, 1, 0, 6, 90), (6, 1, 0, 7, 110), (6, 1, 2, 0, 0), (6, 5, 1, 1, 25), (6, 6, 1, 0, 0), (6, 2, 4, 0, 0), (6, 2, 0, 4, 87), (6, 4, 0, 3, 64), (6, 1, 2, 0, 0), (6, 2, 1, 0, 0), (6, 4, 1, 2, 49), (6, 3, 1, 2, 49), (6, 4, 1, 2, 49), (6, 3, 3, 0, 0), (6, 6, 3, 3, 66), (6, 8, 3, 5, 124), (6, 1, 2, 0, 0), (6, 1, 2, 0, 0), (6, 1, 2, 0, 0), (6, 1, 2, 0, 0), (6, 1, 2, 0, 0), (6, 1, 2, 0, 0), (6, 1, 2, 0, 0), (6, 1, 2, 0, 0), (6, 1, 2, 0, 0), (6, 1, 2, 0, 0), (6, 1, 2, 0, 0), (6, 1, 2, 0, 0), (6, 1, 2, 0, 0), (6, 1, 2, 0, 0), (6, 1, 2, 0, 0), (6, 1, 2, 0, 0), (6, 1, 2, 0, 0), (6, 1, 2, 0, 0), (6, 1, 2, 0, 0), (6, 1, 2, 0, 0), (6, 1, 2, 0, 0), (6, 1, 2, 0, 0), (6, 1, 2, 0, 0), (6, 1, 2, 0, 0), (6, 1, 2, 0, 0), (6, 1, 2, 0, 0), (6, 1, 2, 0, 0), (6, 1, 2, 0, 0), (6, 1, 2, 0, 0), (6, 1, 2, 0, 0), (6, 1, 2, 0, 0), (6, 1, 2, 0, 0)]
def mm_infL_3 : List (Nat × Nat × Nat × Nat × Nat) := [(6, 1, 2, 0, 0), (6, 1, 2, 0, 0), (6, 1, 2, 0, 0), (6, 1, 2, 0, 0), (6, 1, 2, 0, 0), (6, 1, 2, 0, 0), (6, 1, 2, 0, 0), (6, 1, 2, 0, 0), (6, 1, 2, 0, 0), (6, 1, 2, 0, 0), (6, 1, 2, 0, 0), (6, 1, 2, 0, 0), (6, 1, 2, 0, 0), (6, 1, 2, 0, 0), (6, 1, 2, 0, 0), (6, 1, 2, 0, 0), (6, 1, 2, 0, 0), (6, 1, 2, 0, 0), (6, 1, 2, 0, 0), (6, 1, 2, 0, 0), (6, 1, 2, 0, 0), (6, 1, 2, 0, 0), (6, 1, 2, 0, 0), (6, 1, 2, 0, 0), (6, 1, 2, 0, 0), (6, 1, 2, 0, 0), (6, 1, 2, 0, 0), (6, 1, 2, 0, 0), (6, 1, 2, 0, 0), (6, 1, 2, 0, 0), (6, 1, 2, 0, 0), (6, 1, 2, 0, 0), (6, 1, 2, 0, 0), (6, 1, 2, 0, 0), (6, 1, 2, 0, 0), (6, 1, 2, 0, 0), (6, 1, 2, 0, 0), (6, 1, 2, 0, 0), (6, 1, 2, 0, 0), (6, 1, 2, 0, 0), (6, 1, 2, 0, 0), (6, 1, 2, 0, 0), (6, 1, 2, 0, 0), (6, 1, 2, 0, 0), (6, 1, 2, 0, 0), (6, 1, 2, 0, 0), (6, 1, 2, 0, 0), (6, 1, 2, 0, 0), (6, 1, 2, 0, 0), (6, 1, 2, 0, 0), (6, 1, 2, 0, 0), (6, 1, 2, 0, 0), (6, 1, 2, 0, 0), (6, 1, 2, 0, 0), (6, 1, 2, 0, 0), (6, 1, 2, 0, 0), (6, 1, 2, 0, 0), (6, 1, 2, 0, 0), (6, 1, 2, 0, 0), (6, 1, 2, 0, 0)]
def mm_infL_4 : List (Nat × Nat × Nat × Nat × Nat) := [(6, 1, 2, 0, 0), (8, 2, 1, 0, 0), (8, 2, 1, 0, 0), (8, 4, 1, 8, 132), (8, 6, 1, 9, 153), (8, 4, 1, 8, 131), (8, 5, 1, 9, 153), (8, 5, 1, 9, 153), (8, 6, 1, 9, 153), (8, 4, 1, 8, 132), (8, 4, 1, 8, 163), (8, 5, 1, 8, 132), (8, 5, 1, 8, 132), (8, 5, 1, 8, 132), (8, 5, 1, 8, 165), (8, 5, 1, 8, 164), (8, 8, 1, 8, 167), (8, 6, 1, 8, 133), (8, 8, 1, 8, 167), (8, 7, 1, 8, 166), (8, 6, 1, 8, 165), (8, 5, 1, 8, 164), (8, 5, 1, 8, 164), (8, 4, 1, 8, 163), (8, 4, 1, 8, 163), (8, 5, 1, 8, 164), (8, 5, 1, 8, 164), (8, 5, 1, 8, 164), (8, 6, 1, 8, 165), (8, 5, 1, 8, 164), (8, 5, 1, 8, 164), (8, 4, 1, 8, 131), (8, 3, 1, 8, 131), (8, 3, 3, 10, 177), (8, 4, 2, 11, 199), (8, 2, 2, 0, 0), (8, 8, 2, 0, 0), (8, 10, 2, 9, 189), (8, 14, 2, 9, 194), (8, 10, 2, 9, 188), (8, 7, 2, 9, 194), (8, 8, 2, 11, 199), (8, 10, 2, 12, 227)]
def mm_infL : List (Nat × Nat × Nat × Nat × Nat) := mm_infL_0 ++ (mm_infL_1 ++ (mm_infL_2 ++ (mm_infL_3 ++ (mm_infL_4))))
def mm_hanL_0 : List (Nat × List (Nat × Nat × Nat × Nat)) := [(243, [(0, 6, 9, 15)]), (244, [(0, 9, 12, 21), (0, 9, 17, 15), (0, 9, 22, 23)]), (245, [(0, 6, 9, 21)]), (246, [(0, 7, 10, 21), (0, 7, 15, 15)]), (247, [(0, 7, 10, 21), (0, 7, 15, 15)]), (248, [(0, 9, 12, 21), (0, 9, 17, 15), (0, 9, 22, 23)]), (249, [(0, 6, 9, 21)]), (250, [(0, 6, 9, 15)]), (251, [(0, 7, 10, 21), (0, 7, 15, 15)]), (252, [(0, 7, 10, 21), (0, 7, 15, 15)]), (253, [(0, 7, 10, 21), (0, 7, 15, 15)]), (254, [(0, 7, 10, 21)]), (255, [(0, 7, 10, 21)]), (256, [(0, 13, 16, 21), (0, 13, 21, 15), (0, 13, 26, 23)]), (257, [(0, 9, 12, 21), (0, 9, 17, 15)]), (258, [(0, 13, 16, 21), (0, 13, 21, 15), (0, 13, 26, 23)]), (259, [(0, 11, 14, 21), (0, 11, 19, 15), (0, 11, 24, 23)]), (260, [(0, 9, 12, 21), (0, 9, 17, 15), (0, 9, 22, 23)]), (261, [(0, 7, 10, 15), (0, 7, 15, 23)]), (262, [(0, 7, 10, 15), (0, 7, 15, 23)]), (263, [(0, 6, 9, 15), (0, 6, 13, 23)]), (264, [(0, 6, 9, 15), (0, 6, 13, 23)]), (265, [(0, 7, 10, 15), (0, 7, 15, 23)]), (266, [(0, 7, 10, 15), (0, 7, 15, 23)]), (267, [(0, 7, 10, 15), (0, 7, 15, 23)]), (268, [(0, 9, 12, 21), (0, 9, 17, 15), (0, 9, 22, 23)]), (269, [(0, 7, 10, 15), (0, 7, 15, 23)]), (270, [(0, 7, 10, 21), (0, 7, 15, 15)]), (271, [(0, 6, 9, 15), (0, 6, 13, 23)]), (272, [(0, 5, 8, 23)])]
def mm_hanL : List (Nat × List (Nat × Nat × Nat × Nat)) := mm_hanL_0
def mm_fldL_0 : List (Nat × Nat × Nat × Nat) := [(0, 14, 0, 3), (0, 20, 0, 4), (0, 23, 0, 5), (0, 26, 0, 6), (0, 29, 0, 0), (0, 33, 0, 1), (0, 37, 5, 2), (0, 46, 0, 2), (0, 52, 5, 8), (0, 55, 5, 9), (0, 62, 5, 10), (0, 63, 5, 11), (1, 14, 1, 3), (1, 20, 1, 4), (1, 23, 1, 5), (1, 26, 1, 6), (1, 29, 1, 7), (1, 32, 1, 8), (1, 35, 1, 9), (1, 38, 1, 10), (1, 44, 1, 0), (1, 48, 1, 1), (1, 51, 1, 2), (2, 14, 2, 4), (2, 20, 2, 5), (2, 23, 2, 6), (2, 26, 2, 0), (2, 30, 2, 1), (2, 34, 2, 3), (2, 85, 2, 2), (3, 7, 3, 0), (4, 14, 4, 1), (4, 20, 4, 5), (4, 23, 4, 0), (5, 12, 5, 0), (5, 23, 5, 4), (5, 27, 5, 5), (5, 30, 5, 6), (5, 33, 5, 7), (5, 36, 5, 9), (5, 39, 5, 10), (5, 42, 5, 11), (5, 45, 5, 2), (5, 49, 5, 1), (5, 60, 1, 3), (5, 65, 1, 4), (5, 81, 5, 3), (5, 85, 1, 1), (5, 87, 1, 0), (5, 94, 1, 7), (5, 101, 1, 5), (5, 104, 1, 6), (5, 135, 5, 8), (5, 145, 1, 2), (5, 148, 1, 8), (5, 151, 1, 9), (5, 154, 1, 10), (5, 183, 5, 12), (5, 186, 5, 13), (5, 189, 5, 14)]
def mm_fldL_1 : List (Nat × Nat × Nat × Nat) := [(5, 192, 5, 15), (5, 195, 5, 16), (6, 12, 6, 0), (6, 16, 6, 1), (6, 19, 6, 2), (6, 26, 6, 4), (6, 35, 6, 5), (6, 42, 6, 6), (6, 49, 6, 7), (6, 57, 1, 0), (6, 93, 1, 3), (6, 106, 1, 4), (6, 118, 1, 8), (6, 150, 5, 3), (6, 165, 1, 5), (6, 193, 2, 3), (6, 206, 5, 16), (6, 209, 5, 15), (6, 233, 1, 7), (6, 246, 4, 0), (6, 270, 6, 3), (6, 319, 1, 1), (6, 322, 1, 2), (6, 325, 2, 4), (6, 328, 2, 6), (6, 331, 2, 5), (6, 334, 5, 13), (6, 337, 5, 14), (6, 343, 0, 3), (6, 344, 0, 4)]
def mm_fldL : List (Nat × Nat × Nat × Nat) := mm_fldL_0 ++ (mm_fldL_1)
def mm_metL_0 : List (Nat × Nat × Nat × Nat) := [(8, 9, 95, 1), (8, 17, 96, 3), (8, 25, 97, 1), (8, 28, 98, 2), (8, 32, 99, 2), (8, 35, 100, 3), (8, 38, 101, 1), (8, 41, 102, 1), (8, 44, 103, 2), (8, 47, 104, 2), (8, 50, 105, 2), (8, 53, 106, 2), (8, 56, 107, 2), (8, 59, 109, 5), (8, 63, 110, 3), (8, 67, 111, 5), (8, 70, 112, 4), (8, 74, 113, 3), (8, 77, 114, 2), (8, 80, 115, 2), (8, 83, 116, 1), (8, 86, 117, 1), (8, 89, 118, 2), (8, 92, 119, 2), (8, 95, 120, 2), (8, 98, 121, 3), (8, 101, 122, 2), (8, 104, 123, 2), (8, 107, 124, 1), (8, 114, 128, 0), (8, 117, 252, 3), (8, 122, 246, 3), (8, 124, 272, 1), (8, 127, 129, 0), (8, 131, 273, 1), (8, 135, 243, 2), (8, 138, 244, 4), (8, 141, 245, 2), (8, 143, 247, 3), (8, 145, 248, 4), (8, 147, 249, 2), (8, 149, 250, 2), (8, 151, 251, 3), (8, 153, 253, 3), (8, 155, 254, 3), (8, 157, 255, 3), (8, 159, 256, 6), (8, 162, 257, 4), (8, 164, 258, 6), (8, 166, 259, 5), (8, 169, 260, 4), (8, 171, 261, 3), (8, 173, 262, 3), (8, 175, 263, 2), (8, 177, 264, 2), (8, 179, 265, 3), (8, 181, 266, 3), (8, 183, 267, 3), (8, 185, 268, 4), (8, 187, 269, 3)]
def mm_metL_1 : List (Nat × Nat × Nat × Nat) := [(8, 189, 270, 3), (8, 191, 271, 2), (8, 193, 108, 0), (8, 196, 275, 2), (8, 200, 276, 4), (8, 204, 94, 0), (8, 205, 274, 1), (8, 209, 241, 2), (8, 213, 242, 2), (8, 217, 277, 1), (8, 220, 278, 4), (8, 224, 279, 2), (8, 228, 280, 2), (8, 231, 281, 2), (0, 3, 1007, 0), (0, 11, 43, 1), (0, 42, 68, 0), (0, 49, 46, 1), (0, 58, 44, 1), (0, 64, 3, 3), (0, 68, 6, 2), (0, 72, 4, 3), (0, 75, 67, 0), (0, 78, 80, 4), (0, 82, 1003, 2), (0, 88, 45, 2), (0, 91, 1, 2), (0, 94, 5, 2), (0, 98, 8, 3), (0, 102, 10, 3), (0, 106, 1004, 2), (1, 3, 1007, 0), (1, 11, 43, 1), (1, 41, 12, 1), (1, 54, 46, 1), (1, 57, 47, 1), (1, 61, 48, 1), (1, 65, 44, 1), (1, 69, 15, 1), (1, 73, 21, 2), (1, 77, 16, 1), (1, 80, 45, 2), (1, 84, 28, 1), (1, 87, 50, 1), (1, 90, 31, 1), (2, 3, 1007, 0), (2, 11, 43, 1), (2, 37, 67, 0), (2, 43, 36, 1), (2, 46, 69, 1), (2, 50, 39, 2), (2, 54, 40, 2), (2, 58, 41, 2), (2, 61, 70, 1), (2, 64, 77, 2), (2, 68, 78, 2), (2, 71, 37, 1), (2, 74, 38, 1), (2, 77, 1004, 2), (2, 82, 1003, 2)]
def mm_metL_2 : List (Nat × Nat × Nat × Nat) := [(2, 88, 44, 1), (2, 91, 42, 3), (2, 95, 49, 1), (2, 98, 45, 2), (3, 1, 1007, 0), (3, 13, 44, 1), (4, 3, 1007, 0), (4, 11, 43, 1), (4, 27, 45, 2), (5, 3, 1007, 0), (5, 11, 11, 0), (5, 20, 43, 1), (5, 52, 14, 1), (5, 56, 13, 1), (5, 61, 44, 1), (5, 68, 45, 2), (5, 72, 72, 0), (5, 75, 74, 0), (5, 78, 84, 0), (5, 90, 19, 0), (5, 98, 46, 1), (5, 107, 69, 1), (5, 110, 73, 1), (5, 113, 71, 2), (5, 117, 1003, 2), (5, 122, 21, 2), (5, 125, 1004, 2), (5, 128, 79, 4), (5, 132, 80, 4), (5, 138, 85, 3), (5, 142, 86, 3), (5, 157, 33, 3), (5, 161, 78, 2), (5, 164, 77, 2), (5, 167, 87, 4), (5, 170, 90, 0), (5, 173, 81, 4), (5, 176, 91, 2), (5, 179, 82, 3), (5, 198, 92, 1), (6, 3, 1007, 0), (6, 11, 11, 0), (6, 25, 64, 0), (6, 32, 34, 1), (6, 41, 0, 1), (6, 48, 51, 0), (6, 53, 1001, 1), (6, 61, 138, 0), (6, 64, 12, 1), (6, 68, 22, 3), (6, 72, 133, 1), (6, 75, 25, 3), (6, 78, 16, 1), (6, 82, 1000, 1), (6, 85, 27, 1), (6, 89, 23, 2), (6, 97, 44, 1), (6, 102, 45, 2), (6, 109, 24, 3), (6, 112, 26, 3)]
def mm_metL_3 : List (Nat × Nat × Nat × Nat) := [(6, 115, 17, 1), (6, 121, 28, 1), (6, 124, 65, 2), (6, 128, 141, 1), (6, 131, 29, 2), (6, 134, 15, 1), (6, 137, 30, 2), (6, 140, 32, 2), (6, 143, 71, 2), (6, 147, 76, 2), (6, 154, 75, 0), (6, 158, 20, 3), (6, 162, 134, 1), (6, 168, 1002, 1), (6, 171, 79, 4), (6, 175, 135, 3), (6, 178, 33, 3), (6, 181, 18, 1), (6, 184, 81, 4), (6, 187, 82, 3), (6, 190, 35, 1), (6, 196, 142, 2), (6, 199, 66, 0), (6, 203, 88, 1), (6, 212, 143, 1), (6, 215, 93, 1), (6, 218, 89, 0), (6, 221, 2, 0), (6, 224, 144, 2), (6, 227, 7, 2), (6, 230, 9, 2), (6, 236, 83, 3), (6, 239, 19, 0), (6, 242, 13, 1), (6, 249, 52, 1), (6, 273, 137, 1), (6, 279, 146, 1), (6, 283, 147, 1), (6, 286, 145, 2), (6, 307, 136, 2), (6, 310, 139, 0), (6, 340, 1, 2)]
def mm_metL : List (Nat × Nat × Nat × Nat) := mm_metL_0 ++ (mm_metL_1 ++ (mm_metL_2 ++ (mm_metL_3)))
def mm_clsL_0 : List (Nat × Nat × Nat) := [(8, 10, 6), (0, 9, 3), (1, 9, 3), (2, 9, 3), (4, 9, 3), (5, 9, 1), (5, 18, 3), (6, 9, 1), (6, 23, 5), (6, 30, 2), (6, 39, 0), (6, 46, 4)]
def mm_clsL : List (Nat × Nat × Nat) := mm_clsL_0
def mm_conL_0 : List (Nat × Nat × Nat × Int) := [(5, 97, 0, 1000000), (6, 146, 0, 1000000), (6, 277, 1, 18473), (6, 345, 1, 31), (8, 7, 0, 1779033703), (8, 8, 0, 2147483647), (8, 216, 0, 100000)]
def mm_conL : List (Nat × Nat × Nat × Int) := mm_conL_0
def mm_kdL_0 : List Nat := [2, 0, 1, 1, 1, 1, 1, 1, 1, 1, 1, 2, 1, 1, 1, 1, 1, 1, 1, 1, 1, 1, 1, 1, 1, 1, 1, 1, 1, 1, 1, 1, 1, 1, 2, 1, 1, 1, 1, 1, 1, 1, 0, 2, 1, 1, 1, 1, 1, 1, 1, 2, 1, 0, 0, 0, 0, 0, 0, 0, 0, 0, 0, 0, 2, 1, 1, 1, 1, 1, 1, 1, 1, 1, 1, 1, 1, 1, 1, 1, 1, 1, 1, 1, 1, 1, 1, 1, 1, 1, 1, 1, 1, 1, 2, 1, 1, 1, 1, 1, 1, 1, 1, 1, 1, 1, 1, 1, 1, 1, 1, 1, 1, 1, 1, 1, 1, 1, 1, 1, 1, 1, 1, 1, 1, 0, 0, 0, 1, 1, 0, 0, 0, 0, 0, 0, 0, 1, 1, 1, 0, 1, 1, 1, 1, 0, 1, 1, 0, 0]
def mm_kdL_1 : List Nat := [0, 0, 0, 0, 0, 0, 0, 0, 0, 0, 0, 0, 0, 0, 0, 0, 0, 0, 0, 0, 0, 0, 0, 0, 0, 0, 0, 0, 0, 0, 0, 0, 0, 0, 0, 0, 0, 0, 0, 0, 0, 0, 0, 0, 0, 0, 0, 0, 0, 0, 0, 0, 0, 0, 0, 0, 0, 0, 0, 0, 0, 0, 0, 0, 0, 0, 0, 0, 0, 0, 0, 0, 0, 0, 0, 0, 0, 0, 0, 0, 0, 0, 0, 0, 0, 0, 0, 0, 0, 0, 0, 0, 0, 0, 0, 0, 0, 0, 0, 0, 0, 0, 0, 0, 0, 0, 0, 0, 0, 0, 0, 0, 0, 0, 0, 0, 0, 0, 0, 0, 0, 0, 0, 0, 0, 0, 0, 0, 0, 0, 0, 0, 0]
def mm_kdL : List Nat := mm_kdL_0 ++ (mm_kdL_1)
def mm_tyL_0 : List (List Nat) := [[2, 0, 0, 2, 2, 2, 2], [0, 0, 0, 2, 2, 2, 2, 2, 2, 2, 2], [2, 0, 0, 0, 2, 2, 2], [2], [0, 2, 0, 0, 0, 2], [2, 0, 0, 3, 2, 2, 2, 2, 0, 2, 2, 2, 3, 0, 0, 0, 0], [2, 2, 2, 0, 2, 2, 2, 2]]
def mm_tyL : List (List Nat) := mm_tyL_0
end
section
/-! THE SMALL MACHINE: the same bytecode over numbers. A value is (0, x) an int mod 2^32, (1, x) a long mod 2^64, (2, a) a cell of the small heap (-1 null), (3, j) the String constant j, (4, 0) the script, (9, 0) nothing. -/
abbrev mV : Type := Nat × Int
abbrev mK : Type := Nat × Nat × (Nat → Int)
/-- kinds of cells ((1, class, references), (2, n) ints, (3, n) longs, (4, n, references)), numbers, how many cells, how many exceptions, slots counted -/
abbrev mH : Type := (Nat → mK) × (Nat → Nat → Int) × Nat × Nat × Nat
abbrev mS : Type := Nat × Nat × List mV × List mV × mH
abbrev mZ : Type := Nat × (Nat → Int32)
abbrev mO : Type := (mV ⊕ Nat) × mH
abbrev mC : Type := Nat × List mV × mH × Nat × Nat × List mV × List mV
abbrev mR : Type := Option (mS ⊕ ((mV × mH) ⊕ mC))
def w32 (x : Int) : Int := x.bmod 4294967296
def w64 (x : Int) : Int := x.bmod 18446744073709551616
def m_up {α : Type} (f : Nat → α) (k : Nat) (v : α) : Nat → α := fun j => if j = k then v else f j
def m_up2 (f : Nat → Nat → Int) (a k : Nat) (v : Int) : Nat → Nat → Int := fun b j => if b = a ∧ j = k then v else f b j
def m_byt (m : Nat) : ByteArray := mm_bytL.getD m code
def m_nam (m : Nat) : MethodName := mm_namL.getD m x
def m_inf (m : Nat) : Nat × Nat × Nat × Nat × Nat := mm_infL.getD m (8, 0, 0, 0, 0)
def m_cls (m : Nat) : Nat := (m_inf m).1
def m_max (m : Nat) : Nat := (m_inf m).2.1
def m_ret (m : Nat) : Nat := (m_inf m).2.2.1
def m_fra (m : Nat) : Nat := (m_inf m).2.2.2.1
def m_loc (m : Nat) : Nat := (m_inf m).2.2.2.2
def m_fld (c i : Nat) : Option (Nat × Nat) := (mm_fldL.find? (fun r => r.1 == c && r.2.1 == i)).map (fun r => r.2.2)
def m_met (c i : Nat) : Option (Nat × Nat) := (mm_metL.find? (fun r => r.1 == c && r.2.1 == i)).map (fun r => r.2.2)
def m_new (c i : Nat) : Option Nat := (mm_clsL.find? (fun r => r.1 == c && r.2.1 == i)).map (fun r => r.2.2)
def m_con (c i : Nat) : Option mV := (mm_conL.find? (fun r => r.1 == c && r.2.1 == i)).map (fun r => r.2.2)
def m_tys (c : Nat) : List Nat := mm_tyL.getD c []
def m_ty (c k : Nat) : Nat := (m_tys c).getD k 9
def m_han (m : Nat) : List (Nat × Nat × Nat × Nat) := ((mm_hanL.find? (fun r => r.1 == m)).map (fun r => r.2)).getD []
/-- the exception of a handler's entry of the law's pool -/
def m_exc (i : Nat) : Nat := if i = 21 then 0 else if i = 15 then 1 else 2
/-- the handler of m for the exception E thrown at pc -/
def m_hdl (m pc E : Nat) : Option Nat := ((m_han m).find? (fun r => decide (r.1 ≤ pc ∧ pc < r.2.1 ∧ m_exc r.2.2.2 = E))).map (fun r => r.2.2.1)
def m_strL : List (List Nat) := [[119, 35, 61, 35, 59], [118, 35, 61, 35, 59], [120, 35, 58, 35, 45, 35, 59], [35, 45, 35, 58, 35, 59], []]
def m_str (j : Nat) : List Nat := m_strL.getD j []
def i_and (a b : Int) : Int := (Int32.ofInt a &&& Int32.ofInt b).toInt
def i_or (a b : Int) : Int := (Int32.ofInt a ||| Int32.ofInt b).toInt
def i_xor (a b : Int) : Int := (Int32.ofInt a ^^^ Int32.ofInt b).toInt
def i_shl (a b : Int) : Int := (Int32.ofInt a <<< (Int32.ofInt b &&& 31)).toInt
def i_shr (a b : Int) : Int := (Int32.ofInt a >>> (Int32.ofInt b &&& 31)).toInt
def i_ushr (a b : Int) : Int := ((Int32.ofInt a).toUInt32 >>> ((Int32.ofInt b).toUInt32 &&& Int32.toUInt32 31)).toInt32.toInt
def l_cmp (a b : Int) : Int := if w64 b < w64 a then 1 else if w64 a = w64 b then 0 else -1
def m_cat (v : mV) : Nat := if v.1 = 1 then 2 else 1
def m_sum (st : List mV) : Nat := (st.map m_cat).sum
/-- a long at the place ahead is cut in two -/
def m_kill (v : mV) : mV := if v.1 = 1 then (9, 0) else v
def m_get : List mV → Nat → mV
  | [], _ => (9, 0)
  | v :: _, 0 => v
  | _ :: l, k + 1 => m_get l k
def m_set1 : List mV → Nat → mV → List mV
  | [], _, _ => []
  | _ :: l, 0, v => v :: l
  | a :: l, 1, v => match l with
    | [] => [a]
    | _ :: l => m_kill a :: v :: l
  | a :: l, k + 2, v => a :: m_set1 l (k + 1) v
def m_set2 : List mV → Nat → mV → List mV
  | a :: _ :: l, 0, v => v :: (9, 0) :: l
  | a :: _ :: _ :: l, 1, v => m_kill a :: v :: (9, 0) :: l
  | a :: l, k + 2, v => a :: m_set2 l (k + 1) v
  | l, _, _ => l
def m_lay : List mV → List mV
  | [] => []
  | v :: l => if v.1 = 1 then v :: (9, 0) :: m_lay l else v :: m_lay l
def m_ent (n : Nat) (as : List mV) : List mV := m_lay as ++ List.replicate (n - (m_lay as).length) (9, 0)
def m_go (m pc : Nat) (ls st : List mV) (h : mH) : mR := some (.inl (m, pc, ls, st, h))
def m_st1 (m pc : Nat) (ls : List mV) (k : Nat) (v : mV) (st : List mV) (h : mH) : mR := if k < ls.length then m_go m pc (m_set1 ls k v) st h else none
def m_st2 (m pc : Nat) (ls : List mV) (k : Nat) (v : mV) (st : List mV) (h : mH) : mR := if k + 1 < ls.length then m_go m pc (m_set2 ls k v) st h else none
def m_jmp (m pc : Nat) (off : Int) (ls st : List mV) (h : mH) : mR := match (pc : Int) + off with
  | .ofNat t => m_go m t ls st h
  | .negSucc _ => none
def m_br (c : Bool) (m pc : Nat) (off : Int) (ls st : List mV) (h : mH) : mR := match (pc : Int) + off with
  | .ofNat t => m_go m (if c = true then t else pc + 3) ls st h
  | .negSucc _ => none
def m_ld (t : Nat) (m pc len k : Nat) (ls st : List mV) (h : mH) : mR := if (m_get ls k).1 = t then m_go m (pc + len) ls (m_get ls k :: st) h else none
def m_bin (f : Int → Int → Int) (m pc : Nat) (ls : List mV) (st : List mV) (h : mH) : mR := match st with
  | (0, b) :: (0, a) :: r => m_go m (pc + 1) ls ((0, f a b) :: r) h
  | _ => none
def m_binl (f : Int → Int → Int) (m pc : Nat) (ls : List mV) (st : List mV) (h : mH) : mR := match st with
  | (1, b) :: (1, a) :: r => m_go m (pc + 1) ls ((1, f a b) :: r) h
  | _ => none
/-- frames and locals below a method, its locals -/
def m_rom (m' : Nat) : Nat × Nat × Nat := if m' < 283 then (m_fra m', m_loc m', m_max m') else if m' < 1003 then (6, 90, 1) else if m' < 1005 then (0, 0, 3) else if m' = 1005 then (2, 60, 1) else if m' = 1006 then (4, 120, 2) else (0, 0, 1)
def m_rok (m m' : Nat) : Bool := decide ((m_rom m').1 + 1 ≤ m_fra m ∧ 8 + ((m_rom m').2.2 + 11) + (m_rom m').2.1 ≤ m_loc m)
/-- a receiver that fits the method -/
def m_rcv (m' : Nat) (as : List mV) (h : mH) : Bool := match as with
  | (2, .ofNat a) :: _ => decide (a < h.2.2.1 ∧ (h.1 a).1 = 1 ∧ (h.1 a).2.1 = m_cls m')
  | _ => false
/-- 0 static, 1 virtual, 2 a constructor -/
def m_kd (m' : Nat) : Nat := if m' < 283 then mm_kdL.getD m' 9 else if m' < 1003 then 0 else 1
/-- calls: how many parameters np, which kind k -/
def m_call (m' np k : Nat) (m pc : Nat) (ls st : List mV) (h : mH) : mR :=
  if m_kd m' = k ∧ m_rok m m' = true ∧ m_sum (st.drop (if k = 0 then np else np + 1)) ≤ 8 ∧ (if k = 0 then np else np + 1) ≤ st.length ∧ (k = 0 ∨ m_rcv m' (st.take (np + 1)).reverse h = true) then some (.inr (.inr (m', (st.take (if k = 0 then np else np + 1)).reverse, h, m, pc, ls, st.drop (if k = 0 then np else np + 1)))) else none
def m_newc (K : mK) (n : Nat) (h : mH) : mH := (m_up h.1 h.2.2.1 K, m_up h.2.1 h.2.2.1 (fun _ => 0), h.2.2.1 + 1, h.2.2.2.1, h.2.2.2.2 + n)
def m_ins (Z : mZ) (ins : Instr) (m pc : Nat) (ls st : List mV) (h : mH) : mR := match ins with
  | .iload_n k => m_ld 0 m pc 1 k ls st h
  | .iload k => m_ld 0 m pc 2 k ls st h
  | .lload_n k => m_ld 1 m pc 1 k ls st h
  | .lload k => m_ld 1 m pc 2 k ls st h
  | .aload_n k => if (m_get ls k).1 = 2 ∨ (m_get ls k).1 = 3 ∨ (m_get ls k).1 = 4 then m_go m (pc + 1) ls (m_get ls k :: st) h else none
  | .aload k => if (m_get ls k).1 = 2 ∨ (m_get ls k).1 = 3 ∨ (m_get ls k).1 = 4 then m_go m (pc + 2) ls (m_get ls k :: st) h else none
  | .istore_n k => match st with
    | (0, v) :: r => m_st1 m (pc + 1) ls k (0, v) r h
    | _ => none
  | .istore k => match st with
    | (0, v) :: r => m_st1 m (pc + 2) ls k (0, v) r h
    | _ => none
  | .lstore_n k => match st with
    | (1, v) :: r => m_st2 m (pc + 1) ls k (1, v) r h
    | _ => none
  | .lstore k => match st with
    | (1, v) :: r => m_st2 m (pc + 2) ls k (1, v) r h
    | _ => none
  | .astore_n k => match st with
    | (2, v) :: r => m_st1 m (pc + 1) ls k (2, v) r h
    | (3, v) :: r => m_st1 m (pc + 1) ls k (3, v) r h
    | _ => none
  | .astore k => match st with
    | (2, v) :: r => m_st1 m (pc + 2) ls k (2, v) r h
    | (3, v) :: r => m_st1 m (pc + 2) ls k (3, v) r h
    | _ => none
  | .iinc k n => if (m_get ls k).1 = 0 then m_st1 m (pc + 3) ls k (0, (m_get ls k).2 + n) st h else none
  | .iconst n => m_go m (pc + 1) ls ((0, n) :: st) h
  | .lconst n => m_go m (pc + 1) ls ((1, ((n : Nat) : Int)) :: st) h
  | .bipush n => m_go m (pc + 2) ls ((0, (Int8.ofInt n).toInt) :: st) h
  | .sipush n => m_go m (pc + 3) ls ((0, (Int16.ofInt n).toInt) :: st) h
  | .aconst_null => m_go m (pc + 1) ls ((2, -1) :: st) h
  | .ldc i => match m_con (m_cls m) i with
    | some (0, v) => m_go m (pc + 2) ls ((0, v) :: st) h
    | _ => none
  | .ldc2_w i => match m_con (m_cls m) i with
    | some (1, v) => m_go m (pc + 3) ls ((1, v) :: st) h
    | _ => none
  | .iadd => m_bin (fun a b => a + b) m pc ls st h
  | .isub => m_bin (fun a b => a - b) m pc ls st h
  | .imul => m_bin (fun a b => a * b) m pc ls st h
  | .iand => m_bin i_and m pc ls st h
  | .ior => m_bin i_or m pc ls st h
  | .ixor => m_bin i_xor m pc ls st h
  | .ishl => m_bin i_shl m pc ls st h
  | .ishr => m_bin i_shr m pc ls st h
  | .iushr => m_bin i_ushr m pc ls st h
  | .idiv => match st with
    | (0, b) :: (0, a) :: r => if w32 b = 0 then none else m_go m (pc + 1) ls ((0, (w32 a).tdiv (w32 b)) :: r) h
    | _ => none
  | .irem => match st with
    | (0, b) :: (0, a) :: r => if w32 b = 0 then none else m_go m (pc + 1) ls ((0, (w32 a).tmod (w32 b)) :: r) h
    | _ => none
  | .ineg => match st with
    | (0, a) :: r => m_go m (pc + 1) ls ((0, -a) :: r) h
    | _ => none
  | .ladd => m_binl (fun a b => a + b) m pc ls st h
  | .lsub => m_binl (fun a b => a - b) m pc ls st h
  | .lmul => m_binl (fun a b => a * b) m pc ls st h
  | .ldiv => match st with
    | (1, b) :: (1, a) :: r => if w64 b = 0 then none else m_go m (pc + 1) ls ((1, (w64 a).tdiv (w64 b)) :: r) h
    | _ => none
  | .lrem => match st with
    | (1, b) :: (1, a) :: r => if w64 b = 0 then none else m_go m (pc + 1) ls ((1, (w64 a).tmod (w64 b)) :: r) h
    | _ => none
  | .lcmp => match st with
    | (1, b) :: (1, a) :: r => m_go m (pc + 1) ls ((0, l_cmp a b) :: r) h
    | _ => none
  | .i2l => match st with
    | (0, a) :: r => m_go m (pc + 1) ls ((1, w32 a) :: r) h
    | _ => none
  | .l2i => match st with
    | (1, a) :: r => m_go m (pc + 1) ls ((0, a) :: r) h
    | _ => none
  | .dup => match st with
    | v :: r => if v.1 = 1 then none else m_go m (pc + 1) ls (v :: v :: r) h
    | _ => none
  | .dup_x1 => match st with
    | v :: w :: r => if v.1 = 1 ∨ w.1 = 1 then none else m_go m (pc + 1) ls (v :: w :: v :: r) h
    | _ => none
  | .dup2 => match st with
    | v :: r => if v.1 = 1 then m_go m (pc + 1) ls (v :: v :: r) h else match r with
      | w :: r => if w.1 = 1 then none else m_go m (pc + 1) ls (v :: w :: v :: w :: r) h
      | _ => none
    | _ => none
  | .pop => match st with
    | v :: r => if v.1 = 1 then none else m_go m (pc + 1) ls r h
    | _ => none
  | .goto off => m_jmp m pc off ls st h
  | .ifCond c off => match st with
    | (0, a) :: r => match c with
      | .eq => m_br (decide (w32 a = 0)) m pc off ls r h
      | .ne => m_br (decide (¬ w32 a = 0)) m pc off ls r h
      | .lt => m_br (decide (w32 a < 0)) m pc off ls r h
      | .ge => m_br (decide (0 ≤ w32 a)) m pc off ls r h
      | .gt => m_br (decide (0 < w32 a)) m pc off ls r h
      | .le => m_br (decide (w32 a ≤ 0)) m pc off ls r h
    | _ => none
  | .if_icmp c off => match st with
    | (0, b) :: (0, a) :: r => match c with
      | .eq => m_br (decide (w32 a = w32 b)) m pc off ls r h
      | .ne => m_br (decide (¬ w32 a = w32 b)) m pc off ls r h
      | .lt => m_br (decide (w32 a < w32 b)) m pc off ls r h
      | .ge => m_br (decide (w32 b ≤ w32 a)) m pc off ls r h
      | .gt => m_br (decide (w32 b < w32 a)) m pc off ls r h
      | .le => m_br (decide (w32 a ≤ w32 b)) m pc off ls r h
    | _ => none
  | .ifnull off => match st with
    | (2, a) :: r => m_br (decide (a < 0)) m pc off ls r h
    | _ => none
  | .tableswitch dflt lo hi offs => match st with
    | (0, a) :: r => if w32 a < lo ∨ hi < w32 a then m_jmp m pc dflt ls r h else match offs[(w32 a - lo).toNat]? with
      | some off => m_jmp m pc off ls r h
      | none => none
    | _ => none
  | .lookupswitch dflt ps => match st with
    | (0, a) :: r => if (ps.toList.zip (ps.toList.drop 1)).all (fun (a, next) => a.1 < next.1) = true then m_jmp m pc (Op.lookupswitch.offset ps.toList dflt (w32 a)) ls r h else none
    | _ => none
  | .ireturn => match st with
    | (0, a) :: [] => if m_ret m = 1 ∨ m_ret m = 2 ∧ (w32 a = 0 ∨ w32 a = 1) then some (.inr (.inl ((0, a), h))) else none
    | _ => none
  | .lreturn => match st with
    | (1, a) :: [] => if m_ret m = 3 then some (.inr (.inl ((1, a), h))) else none
    | _ => none
  | .areturn => match st with
    | (2, a) :: [] => if m_ret m = 4 then some (.inr (.inl ((2, a), h))) else none
    | (3, a) :: [] => if m_ret m = 5 then some (.inr (.inl ((3, a), h))) else none
    | _ => none
  | .return_ => match st with
    | [] => if m_ret m = 0 then some (.inr (.inl ((9, 0), h))) else none
    | _ => none
  | .getfield i => match st with
    | (2, .ofNat a) :: r => match m_fld (m_cls m) i with
      | some (ci, k) => if a < h.2.2.1 ∧ (h.1 a).1 = 1 ∧ (h.1 a).2.1 = ci ∧ k < (m_tys ci).length then
          (if m_ty ci k = 2 then m_go m (pc + 3) ls ((2, (h.1 a).2.2 k) :: r) h
          else if m_ty ci k = 1 then m_go m (pc + 3) ls ((1, h.2.1 a k) :: r) h
          else m_go m (pc + 3) ls ((0, h.2.1 a k) :: r) h) else none
      | none => none
    | _ => none
  | .putfield i => match st with
    | v :: (2, .ofNat a) :: r => match m_fld (m_cls m) i with
      | some (ci, k) => if a < h.2.2.1 ∧ (h.1 a).1 = 1 ∧ (h.1 a).2.1 = ci ∧ k < (m_tys ci).length then
          (if m_ty ci k = 2 then (if v.1 = 2 ∧ (m_nam m).name = "<init>" ∧ m_cls m = ci ∧ v.2 < h.2.2.1 then m_go m (pc + 3) ls r (m_up h.1 a (1, ci, m_up (h.1 a).2.2 k v.2), h.2) else none)
          else if m_ty ci k = 1 then (if v.1 = 1 then m_go m (pc + 3) ls r (h.1, m_up2 h.2.1 a k v.2, h.2.2) else none)
          else if v.1 = 0 ∧ (m_ty ci k = 0 ∨ m_ty ci k = 3 ∧ (w32 v.2 = 0 ∨ w32 v.2 = 1)) then m_go m (pc + 3) ls r (h.1, m_up2 h.2.1 a k v.2, h.2.2) else none) else none
      | none => none
    | _ => none
  | .new i => match m_new (m_cls m) i with
    | some ci => if h.2.2.2.1 = 0 ∧ ci < 7 then m_go m (pc + 3) ls ((2, (h.2.2.1 : Int)) :: st) (m_newc (1, ci, fun _ => -1) (m_tys ci).length h) else none
    | none => none
  | .newarray t => match st with
    | (0, n) :: r => if h.2.2.2.1 = 0 ∧ 0 ≤ w32 n ∧ w32 n ≤ 100000 then (match t with
      | .int => m_go m (pc + 2) ls ((2, (h.2.2.1 : Int)) :: r) (m_newc (2, (w32 n).toNat, fun _ => -1) (w32 n).toNat h)
      | _ => none) else none
    | _ => none
  | .anewarray i => match st with
    | (0, n) :: r => if h.2.2.2.1 = 0 ∧ 0 ≤ w32 n ∧ w32 n ≤ 100000 ∧ m_cls m = 6 ∧ i = 9 then m_go m (pc + 3) ls ((2, (h.2.2.1 : Int)) :: r) (m_newc (4, (w32 n).toNat, fun _ => -1) (w32 n).toNat h) else none
    | _ => none
  | .arraylength => match st with
    | (2, .ofNat a) :: r => if a < h.2.2.1 ∧ ((h.1 a).1 = 2 ∨ (h.1 a).1 = 4) then m_go m (pc + 1) ls ((0, ((h.1 a).2.1 : Int)) :: r) h else none
    | (4, _) :: r => m_go m (pc + 1) ls ((0, (Z.1 : Int)) :: r) h
    | _ => none
  | .iaload => match st with
    | (0, i) :: (2, .ofNat a) :: r => if a < h.2.2.1 ∧ (h.1 a).1 = 2 ∧ 0 ≤ w32 i ∧ w32 i < (h.1 a).2.1 then m_go m (pc + 1) ls ((0, h.2.1 a (w32 i).toNat) :: r) h else none
    | (0, i) :: (4, _) :: r => if 0 ≤ w32 i ∧ w32 i < Z.1 then m_go m (pc + 1) ls ((0, (Z.2 (w32 i).toNat).toInt) :: r) h else none
    | _ => none
  | .aaload => match st with
    | (0, i) :: (2, .ofNat a) :: r => if a < h.2.2.1 ∧ (h.1 a).1 = 4 ∧ 0 ≤ w32 i ∧ w32 i < (h.1 a).2.1 then m_go m (pc + 1) ls ((2, (h.1 a).2.2 (w32 i).toNat) :: r) h else none
    | _ => none
  | .iastore => match st with
    | (0, v) :: (0, i) :: (2, .ofNat a) :: r => if a < h.2.2.1 ∧ (h.1 a).1 = 2 ∧ 0 ≤ w32 i ∧ w32 i < (h.1 a).2.1 then m_go m (pc + 1) ls r (h.1, m_up2 h.2.1 a (w32 i).toNat v, h.2.2) else none
    | _ => none
  | .aastore => match st with
    | (2, .ofNat v) :: (0, i) :: (2, .ofNat a) :: r => if a < h.2.2.1 ∧ (h.1 a).1 = 4 ∧ 0 ≤ w32 i ∧ w32 i < (h.1 a).2.1 ∧ v < h.2.2.1 ∧ (h.1 v).1 = 1 ∧ (h.1 v).2.1 = 1 then m_go m (pc + 1) ls r (m_up h.1 a (4, (h.1 a).2.1, m_up (h.1 a).2.2 (w32 i).toNat v), h.2) else none
    | _ => none
  | .invokevirtual i => match m_met (m_cls m) i with
    | some (m', np) => m_call m' np 1 m pc ls st h
    | none => none
  | .invokespecial i => match m_met (m_cls m) i with
    | some (m', np) => if m' = 1007 then (match st with
        | (2, .ofNat _) :: r => if m_rok m m' = true ∧ m_sum r ≤ 8 then m_go m (pc + 3) ls r h else none
        | _ => none) else m_call m' np 2 m pc ls st h
    | none => none
  | .invokestatic i => match m_met (m_cls m) i with
    | some (m', np) => if m' = 1003 then (match st with
        | (0, b) :: (0, a) :: r => if m_rok m m' = true ∧ m_sum r ≤ 8 then m_go m (pc + 3) ls ((0, if w32 a < w32 b then b else a) :: r) h else none
        | _ => none) else if m' = 1004 then (match st with
        | (0, b) :: (0, a) :: r => if m_rok m m' = true ∧ m_sum r ≤ 8 then m_go m (pc + 3) ls ((0, if w32 b < w32 a then b else a) :: r) h else none
        | _ => none) else m_call m' np 0 m pc ls st h
    | none => none
  | _ => none
def m_okl (ins : Instr) (len : Nat) : Bool := match ins with
  | .iload _ => len == 2
  | .lload _ => len == 2
  | .aload _ => len == 2
  | .istore _ => len == 2
  | .lstore _ => len == 2
  | .astore _ => len == 2
  | .bipush _ => len == 2
  | .ldc _ => len == 2
  | .newarray _ => len == 2
  | .sipush _ => len == 3
  | .iinc _ _ => len == 3
  | .ifCond _ _ => len == 3
  | .if_icmp _ _ => len == 3
  | .ifnull _ => len == 3
  | .goto _ => len == 3
  | .getfield _ => len == 3
  | .putfield _ => len == 3
  | .invokevirtual _ => len == 3
  | .invokespecial _ => len == 3
  | .invokestatic _ => len == 3
  | .new _ => len == 3
  | .anewarray _ => len == 3
  | .ldc2_w _ => len == 3
  | .tableswitch _ _ _ _ => true
  | .lookupswitch _ _ => true
  | _ => len == 1
def m_step (Z : mZ) (s : mS) : mR := match decode (m_byt s.1) s.2.1 with
  | .ok (ins, len) => if m_okl ins len = true then m_ins Z ins s.1 s.2.1 s.2.2.1 s.2.2.2.1 s.2.2.2.2 else none
  | _ => none
def m_thr (h : mH) : mH := (h.1, h.2.1, h.2.2.1, h.2.2.2.1 + 1, h.2.2.2.2 + 6)
/-- the methods that are proved by hand: requireSuch, requireValid, requireNow -/
def m_prm (m : Nat) (as : List mV) (h : mH) : Option mO := match m, as with
  | 1000, [(0, b)] => some (if w32 b = 0 then (.inr 0, m_thr h) else (.inl (9, 0), h))
  | 1001, [(0, b)] => some (if w32 b = 0 then (.inr 1, m_thr h) else (.inl (9, 0), h))
  | 1002, [(0, b)] => some (if w32 b = 0 then (.inr 2, m_thr h) else (.inl (9, 0), h))
  | _, _ => none
/-- a handler's first row stores what was thrown -/
def m_hst (m pc : Nat) (ls : List mV) : Option (Nat × List mV) := match decode (m_byt m) pc with
  | .ok (.astore_n k, 1) => if k < ls.length then some (pc + 1, m_set1 ls k (9, 0)) else none
  | .ok (.astore k, 2) => if k < ls.length then some (pc + 2, m_set1 ls k (9, 0)) else none
  | _ => none
/-- what goes on behind a call that came to r -/
def m_aft (f : mS → Option mO) (m pc : Nat) (ls rest : List mV) (r : mO) : Option mO := match r with
  | (.inl v, h) => f (m, pc + 3, ls, (if v.1 = 9 then rest else v :: rest), h)
  | (.inr E, h) => match m_hdl m pc E with
    | none => if (m_han m).isEmpty = true then some (.inr E, h) else none
    | some q => match m_hst m q ls with
      | some (q', ls') => f (m, q', ls', [], h)
      | none => none
/-- a constructor doesn't throw -/
def m_chk (m : Nat) (o : Option mO) : Option mO := match o with
  | some (.inr E, h) => if m_kd m = 2 then none else some (.inr E, h)
  | o => o
def m_cal (f : mS → Option mO) (m : Nat) (as : List mV) (h : mH) : Option mO := if m < 283 then (if (m_lay as).length ≤ m_max m then m_chk m (f (m, 0, m_ent (m_max m) as, [], h)) else none) else m_prm m as h
def m_ev1 (Z : mZ) (f : mS → Option mO) (s : mS) : Option mO := match m_step Z s with
  | none => none
  | some (.inl s') => f s'
  | some (.inr (.inl r)) => some (.inl r.1, r.2)
  | some (.inr (.inr (m', as, h, m, pc, ls, rest))) => (m_cal f m' as h).bind (m_aft f m pc ls rest)
def m_ev (Z : mZ) : Nat → mS → Option mO
  | 0, _ => none
  | n + 1, s => m_ev1 Z (m_ev Z n) s
end
section
/-! Runs without fuel. -/
theorem m_chk_some {m : Nat} {o : Option mO} {r : mO} (e : m_chk m o = some r) : o = some r ∧ ∀ x, r.1 = .inr x → m_kd m ≠ 2 := by
  match o with
  | none => cases e
  | some (.inl v, h) => cases e; exact ⟨rfl, fun x q => by cases q⟩
  | some (.inr E, h) =>
    unfold m_chk at e
    dsimp only at e
    by_cases k : m_kd m = 2
    · rw [if_pos k] at e; cases e
    · rw [if_neg k] at e; cases e; exact ⟨rfl, fun _ _ => k⟩
theorem m_chk_of {m : Nat} {o : Option mO} {r : mO} (e : o = some r) (h : ∀ x, r.1 = .inr x → m_kd m ≠ 2) : m_chk m o = some r := by
  subst e
  obtain ⟨v | E, H⟩ := r
  · rfl
  · unfold m_chk
    dsimp only
    rw [if_neg (h E rfl)]
/-- what a call comes to -/
theorem m_cal_inv {f : mS → Option mO} {m : Nat} {as : List mV} {H : mH} {r : mO} (e : m_cal f m as H = some r) : (m < 283 ∧ (m_lay as).length ≤ m_max m ∧ f (m, 0, m_ent (m_max m) as, [], H) = some r ∧ ∀ x, r.1 = .inr x → m_kd m ≠ 2) ∨ (283 ≤ m ∧ m_prm m as H = some r) := by
  unfold m_cal at e
  by_cases q : m < 283
  · rw [if_pos q] at e
    by_cases k : (m_lay as).length ≤ m_max m
    · rw [if_pos k] at e
      exact Or.inl ⟨q, k, m_chk_some e⟩
    · rw [if_neg k] at e; cases e
  · rw [if_neg q] at e
    exact Or.inr ⟨Nat.le_of_not_lt q, e⟩
theorem m_cal_of {f : mS → Option mO} {m : Nat} {as : List mV} {H : mH} {r : mO} (q : m < 283) (k : (m_lay as).length ≤ m_max m) (e : f (m, 0, m_ent (m_max m) as, [], H) = some r) (h : ∀ x, r.1 = .inr x → m_kd m ≠ 2) : m_cal f m as H = some r := by
  unfold m_cal
  rw [if_pos q, if_pos k]
  exact m_chk_of e h
theorem m_cal_prm {f : mS → Option mO} {m : Nat} {as : List mV} {H : mH} {r : mO} (q : 283 ≤ m) (e : m_prm m as H = some r) : m_cal f m as H = some r := by
  unfold m_cal
  rw [if_neg (Nat.not_lt.mpr q)]
  exact e
theorem m_cal_mono {f g : mS → Option mO} (h : ∀ s r, f s = some r → g s = some r) {m : Nat} {as : List mV} {H : mH} {r : mO} (e : m_cal f m as H = some r) : m_cal g m as H = some r := by
  rcases m_cal_inv e with ⟨q, k, e1, e2⟩ | ⟨q, e1⟩
  · exact m_cal_of q k (h _ _ e1) e2
  · exact m_cal_prm q e1
theorem m_aft_mono {f g : mS → Option mO} (h : ∀ s r, f s = some r → g s = some r) {m pc : Nat} {ls rest : List mV} {q r : mO} (e : m_aft f m pc ls rest q = some r) : m_aft g m pc ls rest q = some r := by
  obtain ⟨v | E, H⟩ := q
  · exact h _ _ e
  · simp only [m_aft] at e ⊢
    cases hd : m_hdl m pc E with
    | none => rw [hd] at e; exact e
    | some k =>
      rw [hd] at e
      dsimp only at e ⊢
      cases hs : m_hst m k ls with
      | none => rw [hs] at e; cases e
      | some p => rw [hs] at e; exact h _ _ e
theorem m_ev1_mono {Z : mZ} {f g : mS → Option mO} (h : ∀ s r, f s = some r → g s = some r) {s : mS} {r : mO} (e : m_ev1 Z f s = some r) : m_ev1 Z g s = some r := by
  unfold m_ev1 at e ⊢
  match hs : m_step Z s with
  | none => rw [hs] at e; cases e
  | some (.inl s') => rw [hs] at e; exact h _ _ e
  | some (.inr (.inl r')) => rw [hs] at e; exact e
  | some (.inr (.inr (m', as, H, m, pc, ls, rest))) =>
    rw [hs] at e
    dsimp only at e ⊢
    obtain ⟨q, h1, h2⟩ := Option.bind_eq_some_iff.mp e
    exact Option.bind_eq_some_iff.mpr ⟨q, m_cal_mono h h1, m_aft_mono h h2⟩
theorem m_ev_succ {Z : mZ} : ∀ (n : Nat) (s : mS) (r : mO), m_ev Z n s = some r → m_ev Z (n + 1) s = some r := by
  intro n
  induction n with
  | zero => intro s r h; cases h
  | succ n ih => intro s r h; exact m_ev1_mono ih h
theorem m_ev_mono {Z : mZ} {n k : Nat} (h : n ≤ k) {s : mS} {r : mO} (e : m_ev Z n s = some r) : m_ev Z k s = some r := by
  induction h with
  | refl => exact e
  | step _ ih => exact m_ev_succ _ _ _ ih
theorem m_ev_det {Z : mZ} {n k : Nat} {s : mS} {r q : mO} (e : m_ev Z n s = some r) (f : m_ev Z k s = some q) : r = q := by
  have h1 := m_ev_mono (Nat.le_max_left n k) e
  have h2 := m_ev_mono (Nat.le_max_right n k) f
  rw [h1] at h2
  exact Option.some.inj h2
noncomputable def m_run (Z : mZ) (s : mS) : Option mO := by
  classical
  exact if h : ∃ r n, m_ev Z n s = some r then some (Classical.choose h) else none
theorem m_run_of {Z : mZ} {n : Nat} {s : mS} {r : mO} (e : m_ev Z n s = some r) : m_run Z s = some r := by
  have h : ∃ r n, m_ev Z n s = some r := ⟨r, n, e⟩
  unfold m_run
  rw [dif_pos h]
  obtain ⟨k, hk⟩ := Classical.choose_spec h
  rw [m_ev_det hk e]
theorem m_run_some {Z : mZ} {s : mS} {r : mO} (e : m_run Z s = some r) : ∃ n, m_ev Z n s = some r := by
  unfold m_run at e
  split at e
  · next h =>
    obtain ⟨k, hk⟩ := Classical.choose_spec h
    exact ⟨k, by rw [← Option.some.inj e]; exact hk⟩
  · cases e
theorem m_cal_run {Z : mZ} {m : Nat} {as : List mV} {H : mH} {r : mO} (e : m_cal (m_run Z) m as H = some r) : ∃ n, m_cal (m_ev Z n) m as H = some r := by
  rcases m_cal_inv e with ⟨q, k, e1, e2⟩ | ⟨q, e1⟩
  · obtain ⟨n, hn⟩ := m_run_some e1
    exact ⟨n, m_cal_of q k hn e2⟩
  · exact ⟨0, m_cal_prm q e1⟩
theorem m_aft_run {Z : mZ} {m pc : Nat} {ls rest : List mV} {q r : mO} (e : m_aft (m_run Z) m pc ls rest q = some r) : ∃ n, m_aft (m_ev Z n) m pc ls rest q = some r := by
  obtain ⟨v | E, H⟩ := q
  · exact m_run_some e
  · simp only [m_aft] at e ⊢
    cases hd : m_hdl m pc E with
    | none => rw [hd] at e; exact ⟨0, e⟩
    | some k =>
      rw [hd] at e
      dsimp only at e ⊢
      cases hs : m_hst m k ls with
      | none => rw [hs] at e; cases e
      | some p => rw [hs] at e; exact m_run_some e
theorem m_ev1_run {Z : mZ} {s : mS} {r : mO} (e : m_ev1 Z (m_run Z) s = some r) : ∃ n, m_ev1 Z (m_ev Z n) s = some r := by
  unfold m_ev1 at e ⊢
  match hs : m_step Z s with
  | none => rw [hs] at e; cases e
  | some (.inl s') => rw [hs] at e; exact m_run_some e
  | some (.inr (.inl r')) => rw [hs] at e; exact ⟨0, e⟩
  | some (.inr (.inr (m', as, H, m, pc, ls, rest))) =>
    rw [hs] at e
    dsimp only at e ⊢
    obtain ⟨q, h1, h2⟩ := Option.bind_eq_some_iff.mp e
    obtain ⟨n1, h3⟩ := m_cal_run h1
    obtain ⟨n2, h4⟩ := m_aft_run h2
    refine ⟨max n1 n2, Option.bind_eq_some_iff.mpr ⟨q, m_cal_mono (fun s r h => m_ev_mono (Nat.le_max_left n1 n2) h) h3, m_aft_mono (fun s r h => m_ev_mono (Nat.le_max_right n1 n2) h) h4⟩⟩
theorem m_run_eq (Z : mZ) (s : mS) : m_run Z s = m_ev1 Z (m_run Z) s := by
  have key : ∀ r, m_run Z s = some r ↔ m_ev1 Z (m_run Z) s = some r := by
    intro r
    constructor
    · intro h
      obtain ⟨n, hn⟩ := m_run_some h
      cases n with
      | zero => cases hn
      | succ n => exact m_ev1_mono (fun s r h => m_run_of h) hn
    · intro h
      obtain ⟨n, hn⟩ := m_ev1_run h
      exact m_run_of (n := n + 1) hn
  cases h1 : m_run Z s with
  | none =>
    cases h2 : m_ev1 Z (m_run Z) s with
    | none => rfl
    | some r => rw [(key r).mpr h2] at h1; cases h1
  | some r => exact ((key r).mp h1).symm
/-- a call, without fuel -/
noncomputable def m_cl (Z : mZ) (m : Nat) (as : List mV) (h : mH) : Option mO := m_cal (m_run Z) m as h
end
section
/-! Where the words of the program stand in the tables (by program: wip/p38/mkwords.py), and that they do. -/
def mw_cod_0 : List (Nat × Nat) := [(1, 212), (4, 79), (4, 50), (4, 61), (4, 65), (4, 83), (4, 76), (5, 16), (5, 20), (5, 31), (5, 35), (1, 27), (1, 43), (2, 73), (2, 61), (3, 18), (3, 79), (3, 138), (3, 161), (3, 216), (4, 185), (3, 22), (3, 14), (3, 102), (3, 122), (3, 67), (3, 127), (3, 83), (3, 87), (4, 22), (4, 1), (4, 5), (4, 26), (2, 116), (1, 178), (4, 92), (4, 97), (4, 131), (4, 135), (4, 127), (4, 101), (4, 113), (4, 117), (1, 33), (2, 69), (2, 82), (1, 47), (2, 77), (2, 65), (4, 121), (3, 91), (2, 4), (5, 65), (3, 164), (3, 164), (3, 164), (3, 164), (3, 164), (3, 164), (3, 164), (3, 164), (3, 164), (3, 164), (3, 164), (1, 106), (2, 57), (3, 168), (4, 70), (4, 54), (2, 92), (4, 105), (2, 100), (2, 86), (2, 96), (2, 104), (2, 137), (4, 173), (2, 129), (2, 125), (3, 188)]
def mw_cod_1 : List (Nat × Nat) := [(3, 184), (3, 180), (4, 46), (5, 47), (2, 108), (2, 112), (2, 121), (2, 133), (3, 172), (4, 42), (3, 176), (3, 195), (3, 199), (4, 38), (1, 19), (2, 156), (3, 10), (3, 75), (3, 98), (3, 111), (3, 118), (3, 134), (3, 146), (4, 146), (3, 236), (4, 153), (4, 160), (4, 169), (2, 53), (4, 181), (4, 193), (4, 201), (4, 209), (4, 217), (3, 157), (4, 224), (4, 231), (4, 238), (5, 5), (5, 12), (5, 27), (5, 43), (3, 212), (5, 54), (5, 61), (3, 164), (3, 164), (3, 164), (3, 223), (4, 9), (3, 28), (2, 159), (3, 47), (3, 25), (3, 164), (3, 202), (3, 205), (2, 239), (2, 231), (2, 235), (3, 164), (3, 150), (4, 139), (4, 34), (4, 87), (4, 17), (4, 14), (4, 30), (3, 164), (3, 164), (3, 164), (3, 164), (3, 164), (3, 164), (3, 164), (3, 164), (3, 164), (3, 164), (3, 164), (3, 164)]
def mw_cod_2 : List (Nat × Nat) := [(3, 164), (3, 164), (3, 164), (3, 164), (3, 164), (3, 164), (3, 164), (3, 164), (3, 164), (3, 164), (3, 164), (3, 164), (3, 164), (3, 164), (3, 164), (3, 164), (3, 164), (3, 164), (3, 164), (3, 164), (3, 164), (3, 164), (3, 164), (3, 164), (3, 164), (3, 164), (3, 164), (3, 164), (3, 164), (3, 164), (3, 164), (3, 164), (3, 164), (3, 164), (3, 164), (3, 164), (3, 164), (3, 164), (3, 164), (3, 164), (3, 164), (3, 164), (3, 164), (3, 164), (3, 164), (3, 164), (3, 164), (3, 164), (3, 164), (3, 164), (3, 164), (3, 164), (3, 164), (3, 164), (3, 164), (3, 164), (3, 164), (3, 164), (3, 164), (3, 164), (3, 164), (3, 164), (3, 164), (3, 164), (3, 164), (3, 164), (3, 164), (3, 164), (3, 164), (3, 164), (3, 164), (3, 164), (3, 164), (3, 164), (3, 164), (3, 164), (3, 164), (3, 164), (3, 164), (3, 164)]
def mw_cod_3 : List (Nat × Nat) := [(3, 164), (2, 143), (2, 147), (2, 151), (3, 4), (3, 71), (3, 94), (3, 107), (3, 114), (3, 130), (3, 142), (4, 142), (3, 232), (4, 149), (4, 156), (4, 165), (4, 177), (4, 189), (4, 197), (4, 205), (4, 213), (3, 153), (4, 220), (4, 227), (4, 234), (5, 1), (5, 8), (5, 23), (5, 39), (3, 208), (5, 50), (5, 57), (3, 219), (3, 229), (3, 226), (5, 75), (5, 78), (5, 69), (5, 72), (5, 81), (5, 84), (5, 87)]
def mw_cod : List (Nat × Nat) := mw_cod_0 ++ (mw_cod_1 ++ (mw_cod_2 ++ (mw_cod_3)))
def mw_ins_0 : List (Nat × Nat) := [(1, 211), (4, 78), (4, 48), (4, 60), (4, 64), (4, 82), (4, 75), (5, 14), (5, 19), (5, 29), (5, 34), (1, 26), (1, 41), (2, 71), (2, 59), (3, 16), (3, 77), (3, 136), (3, 159), (3, 214), (4, 183), (3, 20), (3, 12), (3, 100), (3, 120), (3, 65), (3, 125), (3, 81), (3, 85), (4, 20), (3, 239), (4, 3), (4, 24), (2, 114), (1, 177), (4, 90), (4, 96), (4, 130), (4, 134), (4, 126), (4, 100), (4, 112), (4, 116), (1, 32), (2, 67), (2, 80), (1, 45), (2, 75), (2, 63), (4, 119), (3, 89), (2, 3), (5, 63), (3, 163), (3, 163), (3, 163), (3, 163), (3, 163), (3, 163), (3, 163), (3, 163), (3, 163), (3, 163), (3, 163), (1, 105), (2, 55), (3, 166), (4, 68), (4, 52), (2, 90), (4, 103), (2, 98), (2, 85), (2, 95), (2, 103), (2, 135), (4, 171), (2, 127), (2, 123), (3, 186)]
def mw_ins_1 : List (Nat × Nat) := [(3, 182), (3, 178), (4, 44), (5, 45), (2, 107), (2, 111), (2, 120), (2, 132), (3, 170), (4, 40), (3, 175), (3, 194), (3, 198), (4, 36), (1, 18), (2, 154), (3, 8), (3, 73), (3, 96), (3, 109), (3, 116), (3, 132), (3, 144), (4, 144), (3, 234), (4, 151), (4, 158), (4, 167), (2, 51), (4, 179), (4, 191), (4, 199), (4, 207), (4, 215), (3, 155), (4, 222), (4, 229), (4, 236), (5, 3), (5, 10), (5, 25), (5, 41), (3, 210), (5, 52), (5, 59), (3, 163), (3, 163), (3, 163), (3, 221), (4, 7), (3, 27), (2, 158), (3, 46), (3, 24), (3, 163), (3, 201), (3, 204), (2, 238), (2, 230), (2, 234), (3, 163), (3, 149), (4, 138), (4, 33), (4, 86), (4, 16), (4, 13), (4, 29), (3, 163), (3, 163), (3, 163), (3, 163), (3, 163), (3, 163), (3, 163), (3, 163), (3, 163), (3, 163), (3, 163), (3, 163)]
def mw_ins_2 : List (Nat × Nat) := [(3, 163), (3, 163), (3, 163), (3, 163), (3, 163), (3, 163), (3, 163), (3, 163), (3, 163), (3, 163), (3, 163), (3, 163), (3, 163), (3, 163), (3, 163), (3, 163), (3, 163), (3, 163), (3, 163), (3, 163), (3, 163), (3, 163), (3, 163), (3, 163), (3, 163), (3, 163), (3, 163), (3, 163), (3, 163), (3, 163), (3, 163), (3, 163), (3, 163), (3, 163), (3, 163), (3, 163), (3, 163), (3, 163), (3, 163), (3, 163), (3, 163), (3, 163), (3, 163), (3, 163), (3, 163), (3, 163), (3, 163), (3, 163), (3, 163), (3, 163), (3, 163), (3, 163), (3, 163), (3, 163), (3, 163), (3, 163), (3, 163), (3, 163), (3, 163), (3, 163), (3, 163), (3, 163), (3, 163), (3, 163), (3, 163), (3, 163), (3, 163), (3, 163), (3, 163), (3, 163), (3, 163), (3, 163), (3, 163), (3, 163), (3, 163), (3, 163), (3, 163), (3, 163), (3, 163), (3, 163)]
def mw_ins_3 : List (Nat × Nat) := [(3, 163), (2, 142), (2, 146), (2, 150), (3, 3), (3, 70), (3, 93), (3, 106), (3, 113), (3, 129), (3, 141), (4, 141), (3, 231), (4, 148), (4, 155), (4, 164), (4, 176), (4, 188), (4, 196), (4, 204), (4, 212), (3, 152), (4, 219), (4, 226), (4, 233), (5, 0), (5, 7), (5, 22), (5, 38), (3, 207), (5, 49), (5, 56), (3, 218), (3, 228), (3, 225), (5, 74), (5, 77), (5, 68), (5, 71), (5, 80), (5, 83), (5, 86)]
def mw_ins : List (Nat × Nat) := mw_ins_0 ++ (mw_ins_1 ++ (mw_ins_2 ++ (mw_ins_3)))
def mw_sel_0 : List (Nat × Nat) := [(9, 0), (9, 0), (4, 49), (0, 18), (0, 19), (0, 21), (0, 20), (5, 15), (0, 30), (5, 30), (0, 31), (9, 0), (1, 42), (2, 72), (2, 60), (3, 17), (3, 78), (3, 137), (3, 160), (3, 215), (4, 184), (3, 21), (3, 13), (3, 101), (3, 121), (3, 66), (3, 126), (3, 82), (3, 86), (4, 21), (4, 0), (4, 4), (4, 25), (2, 115), (9, 0), (4, 91), (0, 23), (0, 27), (0, 28), (0, 26), (0, 24), (0, 25), (9, 0), (9, 0), (2, 68), (2, 81), (1, 46), (2, 76), (2, 64), (4, 120), (3, 90), (9, 0), (5, 64), (9, 0), (9, 0), (9, 0), (9, 0), (9, 0), (9, 0), (9, 0), (9, 0), (9, 0), (9, 0), (9, 0), (9, 0), (2, 56), (3, 167), (4, 69), (4, 53), (2, 91), (4, 104), (2, 99), (0, 0), (0, 1), (0, 2), (2, 136), (4, 172), (2, 128), (2, 124), (3, 187)]
def mw_sel_1 : List (Nat × Nat) := [(3, 183), (3, 179), (4, 45), (5, 46), (0, 3), (0, 4), (0, 5), (0, 6), (3, 171), (4, 41), (0, 12), (0, 13), (0, 14), (4, 37), (9, 0), (2, 155), (3, 9), (3, 74), (3, 97), (3, 110), (3, 117), (3, 133), (3, 145), (4, 145), (3, 235), (4, 152), (4, 159), (4, 168), (2, 52), (4, 180), (4, 192), (4, 200), (4, 208), (4, 216), (3, 156), (4, 223), (4, 230), (4, 237), (5, 4), (5, 11), (5, 26), (5, 42), (3, 211), (5, 53), (5, 60), (9, 0), (9, 0), (9, 0), (3, 222), (4, 8), (9, 0), (9, 0), (9, 0), (9, 0), (9, 0), (9, 0), (9, 0), (0, 10), (0, 8), (0, 9), (9, 0), (0, 11), (0, 29), (0, 17), (0, 22), (9, 0), (0, 15), (0, 16), (9, 0), (9, 0), (9, 0), (9, 0), (9, 0), (9, 0), (9, 0), (9, 0), (9, 0), (9, 0), (9, 0), (9, 0)]
def mw_sel_2 : List (Nat × Nat) := [(9, 0), (9, 0), (9, 0), (9, 0), (9, 0), (9, 0), (9, 0), (9, 0), (9, 0), (9, 0), (9, 0), (9, 0), (9, 0), (9, 0), (9, 0), (9, 0), (9, 0), (9, 0), (9, 0), (9, 0), (9, 0), (9, 0), (9, 0), (9, 0), (9, 0), (9, 0), (9, 0), (9, 0), (9, 0), (9, 0), (9, 0), (9, 0), (9, 0), (9, 0), (9, 0), (9, 0), (9, 0), (9, 0), (9, 0), (9, 0), (9, 0), (9, 0), (9, 0), (9, 0), (9, 0), (9, 0), (9, 0), (9, 0), (9, 0), (9, 0), (9, 0), (9, 0), (9, 0), (9, 0), (9, 0), (9, 0), (9, 0), (9, 0), (9, 0), (9, 0), (9, 0), (9, 0), (9, 0), (9, 0), (9, 0), (9, 0), (9, 0), (9, 0), (9, 0), (9, 0), (9, 0), (9, 0), (9, 0), (9, 0), (9, 0), (9, 0), (9, 0), (9, 0), (9, 0), (9, 0)]
def mw_sel_3 : List (Nat × Nat) := [(9, 0), (9, 0), (9, 0), (9, 0), (9, 0), (9, 0), (9, 0), (9, 0), (9, 0), (9, 0), (9, 0), (9, 0), (9, 0), (9, 0), (9, 0), (9, 0), (9, 0), (9, 0), (9, 0), (9, 0), (9, 0), (9, 0), (9, 0), (9, 0), (9, 0), (9, 0), (9, 0), (9, 0), (9, 0), (9, 0), (9, 0), (9, 0), (9, 0), (9, 0), (9, 0), (9, 0), (9, 0), (9, 0), (9, 0), (9, 0), (9, 0), (9, 0)]
def mw_sel : List (Nat × Nat) := mw_sel_0 ++ (mw_sel_1 ++ (mw_sel_2 ++ (mw_sel_3)))
def mm_staL : List Nat := [0, 1, 0, 0, 0, 0, 0, 0, 0, 0, 0, 0, 0, 0, 0, 0, 0, 0, 0, 0, 0, 0, 0, 0, 0, 0, 0, 0, 0, 0, 0, 0, 0, 0, 0, 0, 0, 0, 0, 0, 0, 0, 1, 0, 0, 0, 0, 0, 0, 0, 0, 0, 0, 1, 1, 1, 1, 1, 1, 1, 1, 1, 1, 1, 0, 0, 0, 0, 0, 0, 0, 0, 0, 0, 0, 0, 0, 0, 0, 0, 0, 0, 0, 0, 0, 0, 0, 0, 0, 0, 0, 0, 0, 0, 0, 0, 0, 0, 0, 0, 0, 0, 0, 0, 0, 0, 0, 0, 0, 0, 0, 0, 0, 0, 0, 0, 0, 0, 0, 0, 0, 0, 0, 0, 0, 1, 1, 1, 0, 0, 1, 1, 1, 1, 1, 1, 1, 0, 0, 0, 1, 0, 0, 0, 0, 1, 0, 0, 1, 1, 1, 1, 1, 1, 1, 1, 1, 1, 1, 1, 1, 1, 1, 1, 1, 1, 1, 1, 1, 1, 1, 1, 1, 1, 1, 1, 1, 1, 1, 1, 1, 1, 1, 1, 1, 1, 1, 1, 1, 1, 1, 1, 1, 1, 1, 1, 1, 1, 1, 1, 1, 1, 1, 1, 1, 1, 1, 1, 1, 1, 1, 1, 1, 1, 1, 1, 1, 1, 1, 1, 1, 1, 1, 1, 1, 1, 1, 1, 1, 1, 1, 1, 1, 1, 1, 1, 1, 1, 1, 1, 1, 1, 1, 1, 1, 1, 1, 1, 1, 1, 1, 1, 1, 1, 1, 1, 1, 1, 1, 1, 1, 1, 1, 1, 1, 1, 1, 1, 1, 1, 1, 1, 1, 1, 1, 1, 1, 1, 1, 1, 1, 1]
def mw_fld_0 : List (Nat × Nat) := [(1, 219), (1, 221), (1, 223), (1, 224), (1, 216), (1, 217), (1, 115), (1, 218), (1, 122), (1, 125), (1, 127), (1, 129), (1, 57), (1, 60), (1, 63), (1, 66), (1, 68), (1, 71), (1, 74), (1, 76), (1, 48), (1, 51), (1, 54), (1, 187), (1, 189), (1, 191), (1, 182), (1, 183), (1, 185), (1, 184), (1, 35), (2, 10), (2, 11), (2, 8), (1, 112), (1, 118), (1, 119), (1, 120), (1, 121), (1, 124), (1, 126), (1, 128), (1, 114), (1, 113), (1, 58), (1, 61), (1, 116), (1, 52), (1, 50), (1, 69), (1, 64), (1, 67), (1, 123), (1, 55), (1, 73), (1, 75), (1, 77), (1, 130), (1, 131), (1, 133), (1, 136), (1, 138), (2, 25), (2, 26), (2, 27), (2, 29), (2, 30), (2, 31), (2, 32), (1, 49), (1, 59), (1, 62), (1, 72), (1, 117), (1, 65), (1, 186), (1, 137), (1, 135), (1, 70), (2, 9)]
def mw_fld_1 : List (Nat × Nat) := [(2, 28), (1, 53), (1, 56), (1, 188), (1, 192), (1, 190), (1, 132), (1, 134), (1, 220), (1, 222)]
def mw_fld : List (Nat × Nat) := mw_fld_0 ++ (mw_fld_1)
def mw_met_0 : List (Nat × Nat) := [(2, 153), (3, 7), (3, 72), (3, 95), (3, 108), (3, 115), (3, 131), (3, 143), (4, 143), (3, 233), (4, 150), (4, 157), (4, 166), (4, 178), (4, 190), (4, 198), (4, 206), (4, 214), (3, 154), (4, 221), (4, 228), (4, 235), (5, 2), (5, 9), (5, 24), (5, 40), (3, 209), (5, 51), (5, 58), (3, 220), (3, 230), (3, 92), (3, 217), (4, 6), (3, 227), (2, 149), (3, 2), (3, 69), (3, 105), (3, 112), (3, 128), (3, 140), (4, 140), (4, 147), (4, 154), (4, 163), (4, 175), (4, 187), (4, 195), (4, 203), (4, 211), (3, 151), (4, 218), (4, 225), (4, 232), (4, 239), (5, 6), (5, 21), (5, 37), (3, 206), (5, 48), (5, 55), (2, 50), (5, 73), (5, 76), (1, 17), (3, 224), (2, 141), (2, 145), (5, 67), (5, 70), (5, 79), (5, 82), (5, 85), (1, 213), (1, 215), (4, 51), (4, 56), (4, 57), (4, 58)]
def mw_met_1 : List (Nat × Nat) := [(4, 73), (4, 62), (4, 67), (4, 71), (4, 72), (4, 66), (4, 77), (4, 80), (5, 17), (5, 32), (5, 36), (1, 28), (1, 31), (1, 40), (1, 44), (2, 74), (2, 62), (2, 117), (3, 15), (3, 19), (3, 123), (3, 68), (3, 84), (3, 88), (4, 2), (1, 179), (1, 181), (4, 93), (4, 94), (4, 123), (4, 124), (4, 98), (4, 110), (4, 102), (4, 106), (4, 107), (4, 128), (4, 132), (4, 108), (4, 109), (4, 114), (4, 115), (4, 118), (4, 122), (1, 34), (2, 66), (2, 5), (2, 7), (5, 66), (1, 107), (1, 109), (1, 111), (2, 58), (2, 70), (2, 78), (2, 79), (2, 83), (2, 101), (2, 105), (4, 55), (2, 88), (2, 89), (2, 93), (2, 97), (2, 138), (4, 174), (3, 189), (3, 185), (3, 181), (2, 109), (2, 118), (2, 113), (2, 122), (2, 126), (2, 130), (3, 173), (3, 177), (3, 192), (4, 43), (3, 196)]
def mw_met_2 : List (Nat × Nat) := [(1, 20), (1, 25), (9, 0), (1, 176), (1, 210), (9, 0), (2, 157), (2, 228), (3, 1), (3, 11), (3, 23), (3, 64), (3, 76), (3, 26), (3, 80), (3, 99), (3, 103), (3, 104), (3, 119), (3, 124), (3, 135), (3, 139), (2, 54), (3, 147), (4, 19), (3, 237), (3, 238), (4, 23), (4, 161), (4, 170), (2, 134), (4, 182), (3, 162), (3, 45), (4, 186), (3, 200), (4, 194), (3, 158), (4, 202), (4, 210), (4, 89), (4, 136), (3, 165), (3, 169), (4, 31), (4, 35), (4, 39), (4, 47), (4, 84), (5, 13), (5, 28), (5, 44), (3, 213), (3, 0), (5, 62), (2, 236), (4, 11), (4, 27), (4, 15), (3, 203), (2, 232), (4, 88)]
def mw_met : List (Nat × Nat) := mw_met_0 ++ (mw_met_1 ++ (mw_met_2))
def mw_cls_0 : List (Nat × Nat) := [(1, 15), (1, 214), (1, 29), (1, 180), (2, 6), (1, 108), (1, 110), (1, 23), (1, 102), (1, 174), (1, 208), (2, 0)]
def mw_cls : List (Nat × Nat) := mw_cls_0
def mw_ist_0 : List (Nat × Nat) := [(1, 209), (1, 24), (1, 175), (1, 30), (2, 1), (1, 103), (1, 16)]
def mw_ist : List (Nat × Nat) := mw_ist_0
def mw_ini_0 : List (Nat × Nat) := [(1, 6), (1, 2), (1, 5), (1, 3), (1, 7), (1, 4), (1, 1), (1, 1), (1, 0)]
def mw_ini : List (Nat × Nat) := mw_ini_0
def mw_lay0_0 : List (Nat × Nat) := [(1, 225), (1, 227), (1, 229), (1, 231), (1, 233), (1, 235), (1, 237)]
def mw_lay0 : List (Nat × Nat) := mw_lay0_0
def mw_lay1_0 : List (Nat × Nat) := [(1, 78), (1, 80), (1, 82), (1, 84), (1, 86), (1, 88), (1, 90), (1, 92), (1, 94), (1, 96), (1, 98)]
def mw_lay1 : List (Nat × Nat) := mw_lay1_0
def mw_lay2_0 : List (Nat × Nat) := [(1, 193), (1, 195), (1, 197), (1, 199), (1, 201), (1, 203), (1, 205)]
def mw_lay2 : List (Nat × Nat) := mw_lay2_0
def mw_lay3_0 : List (Nat × Nat) := [(1, 36)]
def mw_lay3 : List (Nat × Nat) := mw_lay3_0
def mw_lay4_0 : List (Nat × Nat) := [(2, 12), (2, 14), (2, 16), (2, 18), (2, 20), (2, 22)]
def mw_lay4 : List (Nat × Nat) := mw_lay4_0
def mw_lay5_0 : List (Nat × Nat) := [(1, 139), (1, 141), (1, 143), (1, 145), (1, 147), (1, 149), (1, 151), (1, 153), (1, 155), (1, 157), (1, 159), (1, 161), (1, 163), (1, 165), (1, 167), (1, 169), (1, 171)]
def mw_lay5 : List (Nat × Nat) := mw_lay5_0
def mw_lay6_0 : List (Nat × Nat) := [(2, 33), (2, 35), (2, 37), (2, 39), (2, 41), (2, 43), (2, 45), (2, 47)]
def mw_lay6 : List (Nat × Nat) := mw_lay6_0
def mw_lay : List (List (Nat × Nat)) := [mw_lay0, mw_lay1, mw_lay2, mw_lay3, mw_lay4, mw_lay5, mw_lay6]
def mw_con_0 : List (Nat × Nat) := [(2, 87), (4, 162), (4, 10), (4, 18), (2, 144), (2, 148), (5, 88)]
def mw_con : List (Nat × Nat) := mw_con_0
def mw_q (k : Nat) : List Cond := if k = 1 then tables_1_1 else if k = 2 then tables_1_2 else if k = 3 then tables_1_3 else if k = 4 then tables_1_4 else if k = 5 then tables_1_5 else []
def mw_at (p : Nat × Nat) : Option Cond := (mw_q p.1)[p.2]?
def mw_ok (w : Cond) (p : Nat × Nat) : Bool := decide (mw_at p = some w) && goodWord w
theorem mw_in {w : Cond} {p : Nat × Nat} (h : mw_ok w p = true) : w ∈ lw_tbl ∧ goodWord w = true := by
  simp only [mw_ok, Bool.and_eq_true, decide_eq_true_eq] at h
  refine ⟨?_, h.2⟩
  have h1 : w ∈ mw_q p.1 := List.mem_of_getElem? h.1
  have h2 : w ∈ tables_1 := by
    unfold tables_1
    simp only [List.mem_append]
    unfold mw_q at h1
    split at h1
    · exact Or.inl h1
    · split at h1
      · exact Or.inr (Or.inl h1)
      · split at h1
        · exact Or.inr (Or.inr (Or.inl h1))
        · split at h1
          · exact Or.inr (Or.inr (Or.inr (Or.inl h1)))
          · split at h1
            · exact Or.inr (Or.inr (Or.inr (Or.inr h1)))
            · cases h1
  exact List.mem_append_right _ h2
def m_cn (c : Nat) : String := ([RX0, RX1, RX2, RX3, RX4, RX5, RX6, RX6, RL] : List String).getD c RL
def m_cl3 (c : Nat) : vw_C := vwCl.getD c (RX0, TX0, 7)
def m_sta (m : Nat) : Bool := mm_staL.getD m 1 == 1
def m_rty (m : Nat) : Option FieldType := match m_ret m with
  | 0 => none
  | 1 => some .int
  | 2 => some .boolean
  | 3 => some .long
  | 4 => some (.object "NetworkCenters$Network")
  | _ => some (.object "java/lang/String")
def m_cod (m : Nat) : Cond := match m_han m with
  | [] => .code (m_nam m) (m_byt m) (m_max m) (m_rty m)
  | hh => .codeWith (m_nam m) (m_byt m) (m_max m) (m_rty m) hh
def m_ism (m : Nat) : Cond := if m_sta m = true then .static (m_nam m) else .instanceMethod (m_nam m)
def mw_sl (m : Nat) (p : Nat × Nat) : Bool := if p.1 = 0 then (lw_privs[p.2]?.map (fun q => q.1)) == some (m_nam m) && goodWord (.selects (m_nam m).cls (m_nam m) (m_nam m)) else if p.1 = 9 then m_sta m || (m_nam m).name == "<init>" else mw_ok (.selects (m_nam m).cls (m_nam m) (m_nam m)) p
def mw_ix (n : Nat) : List Nat := (List.range n)

set_option maxRecDepth 100000 in
theorem mw_c0 : mw_at (1, 212) = some (m_cod 0) := rfl
set_option maxRecDepth 100000 in
theorem mw_c1 : mw_at (4, 79) = some (m_cod 1) := rfl
set_option maxRecDepth 100000 in
theorem mw_c2 : mw_at (4, 50) = some (m_cod 2) := rfl
set_option maxRecDepth 100000 in
theorem mw_c3 : mw_at (4, 61) = some (m_cod 3) := rfl
set_option maxRecDepth 100000 in
theorem mw_c4 : mw_at (4, 65) = some (m_cod 4) := rfl
set_option maxRecDepth 100000 in
theorem mw_c5 : mw_at (4, 83) = some (m_cod 5) := rfl
set_option maxRecDepth 100000 in
theorem mw_c6 : mw_at (4, 76) = some (m_cod 6) := rfl
set_option maxRecDepth 100000 in
theorem mw_c7 : mw_at (5, 16) = some (m_cod 7) := rfl
set_option maxRecDepth 100000 in
theorem mw_c8 : mw_at (5, 20) = some (m_cod 8) := rfl
set_option maxRecDepth 100000 in
theorem mw_c9 : mw_at (5, 31) = some (m_cod 9) := rfl
set_option maxRecDepth 100000 in
theorem mw_c10 : mw_at (5, 35) = some (m_cod 10) := rfl
set_option maxRecDepth 100000 in
theorem mw_c11 : mw_at (1, 27) = some (m_cod 11) := rfl
set_option maxRecDepth 100000 in
theorem mw_c12 : mw_at (1, 43) = some (m_cod 12) := rfl
set_option maxRecDepth 100000 in
theorem mw_c13 : mw_at (2, 73) = some (m_cod 13) := rfl
set_option maxRecDepth 100000 in
theorem mw_c14 : mw_at (2, 61) = some (m_cod 14) := rfl
set_option maxRecDepth 100000 in
theorem mw_c15 : mw_at (3, 18) = some (m_cod 15) := rfl
set_option maxRecDepth 100000 in
theorem mw_c16 : mw_at (3, 79) = some (m_cod 16) := rfl
set_option maxRecDepth 100000 in
theorem mw_c17 : mw_at (3, 138) = some (m_cod 17) := rfl
set_option maxRecDepth 100000 in
theorem mw_c18 : mw_at (3, 161) = some (m_cod 18) := rfl
set_option maxRecDepth 100000 in
theorem mw_c19 : mw_at (3, 216) = some (m_cod 19) := rfl
set_option maxRecDepth 100000 in
theorem mw_c20 : mw_at (4, 185) = some (m_cod 20) := rfl
set_option maxRecDepth 100000 in
theorem mw_c21 : mw_at (3, 22) = some (m_cod 21) := rfl
set_option maxRecDepth 100000 in
theorem mw_c22 : mw_at (3, 14) = some (m_cod 22) := rfl
set_option maxRecDepth 100000 in
theorem mw_c23 : mw_at (3, 102) = some (m_cod 23) := rfl
set_option maxRecDepth 100000 in
theorem mw_c24 : mw_at (3, 122) = some (m_cod 24) := rfl
set_option maxRecDepth 100000 in
theorem mw_c25 : mw_at (3, 67) = some (m_cod 25) := rfl
set_option maxRecDepth 100000 in
theorem mw_c26 : mw_at (3, 127) = some (m_cod 26) := rfl
set_option maxRecDepth 100000 in
theorem mw_c27 : mw_at (3, 83) = some (m_cod 27) := rfl
set_option maxRecDepth 100000 in
theorem mw_c28 : mw_at (3, 87) = some (m_cod 28) := rfl
set_option maxRecDepth 100000 in
theorem mw_c29 : mw_at (4, 22) = some (m_cod 29) := rfl
set_option maxRecDepth 100000 in
theorem mw_c30 : mw_at (4, 1) = some (m_cod 30) := rfl
set_option maxRecDepth 100000 in
theorem mw_c31 : mw_at (4, 5) = some (m_cod 31) := rfl
set_option maxRecDepth 100000 in
theorem mw_c32 : mw_at (4, 26) = some (m_cod 32) := rfl
set_option maxRecDepth 100000 in
theorem mw_c33 : mw_at (2, 116) = some (m_cod 33) := rfl
set_option maxRecDepth 100000 in
theorem mw_c34 : mw_at (1, 178) = some (m_cod 34) := rfl
set_option maxRecDepth 100000 in
theorem mw_c35 : mw_at (4, 92) = some (m_cod 35) := rfl
set_option maxRecDepth 100000 in
theorem mw_c36 : mw_at (4, 97) = some (m_cod 36) := rfl
set_option maxRecDepth 100000 in
theorem mw_c37 : mw_at (4, 131) = some (m_cod 37) := rfl
set_option maxRecDepth 100000 in
theorem mw_c38 : mw_at (4, 135) = some (m_cod 38) := rfl
set_option maxRecDepth 100000 in
theorem mw_c39 : mw_at (4, 127) = some (m_cod 39) := rfl
set_option maxRecDepth 100000 in
theorem mw_c40 : mw_at (4, 101) = some (m_cod 40) := rfl
set_option maxRecDepth 100000 in
theorem mw_c41 : mw_at (4, 113) = some (m_cod 41) := rfl
set_option maxRecDepth 100000 in
theorem mw_c42 : mw_at (4, 117) = some (m_cod 42) := rfl
set_option maxRecDepth 100000 in
theorem mw_c43 : mw_at (1, 33) = some (m_cod 43) := rfl
set_option maxRecDepth 100000 in
theorem mw_c44 : mw_at (2, 69) = some (m_cod 44) := rfl
set_option maxRecDepth 100000 in
theorem mw_c45 : mw_at (2, 82) = some (m_cod 45) := rfl
set_option maxRecDepth 100000 in
theorem mw_c46 : mw_at (1, 47) = some (m_cod 46) := rfl
set_option maxRecDepth 100000 in
theorem mw_c47 : mw_at (2, 77) = some (m_cod 47) := rfl
set_option maxRecDepth 100000 in
theorem mw_c48 : mw_at (2, 65) = some (m_cod 48) := rfl
set_option maxRecDepth 100000 in
theorem mw_c49 : mw_at (4, 121) = some (m_cod 49) := rfl
set_option maxRecDepth 100000 in
theorem mw_c50 : mw_at (3, 91) = some (m_cod 50) := rfl
set_option maxRecDepth 100000 in
theorem mw_c51 : mw_at (2, 4) = some (m_cod 51) := rfl
set_option maxRecDepth 100000 in
theorem mw_c52 : mw_at (5, 65) = some (m_cod 52) := rfl
set_option maxRecDepth 100000 in
theorem mw_c53 : mw_at (3, 164) = some (m_cod 53) := rfl
set_option maxRecDepth 100000 in
theorem mw_c54 : mw_at (3, 164) = some (m_cod 54) := rfl
set_option maxRecDepth 100000 in
theorem mw_c55 : mw_at (3, 164) = some (m_cod 55) := rfl
set_option maxRecDepth 100000 in
theorem mw_c56 : mw_at (3, 164) = some (m_cod 56) := rfl
set_option maxRecDepth 100000 in
theorem mw_c57 : mw_at (3, 164) = some (m_cod 57) := rfl
set_option maxRecDepth 100000 in
theorem mw_c58 : mw_at (3, 164) = some (m_cod 58) := rfl
set_option maxRecDepth 100000 in
theorem mw_c59 : mw_at (3, 164) = some (m_cod 59) := rfl
set_option maxRecDepth 100000 in
theorem mw_c60 : mw_at (3, 164) = some (m_cod 60) := rfl
set_option maxRecDepth 100000 in
theorem mw_c61 : mw_at (3, 164) = some (m_cod 61) := rfl
set_option maxRecDepth 100000 in
theorem mw_c62 : mw_at (3, 164) = some (m_cod 62) := rfl
set_option maxRecDepth 100000 in
theorem mw_c63 : mw_at (3, 164) = some (m_cod 63) := rfl
set_option maxRecDepth 100000 in
theorem mw_c64 : mw_at (1, 106) = some (m_cod 64) := rfl
set_option maxRecDepth 100000 in
theorem mw_c65 : mw_at (2, 57) = some (m_cod 65) := rfl
set_option maxRecDepth 100000 in
theorem mw_c66 : mw_at (3, 168) = some (m_cod 66) := rfl
set_option maxRecDepth 100000 in
theorem mw_c67 : mw_at (4, 70) = some (m_cod 67) := rfl
set_option maxRecDepth 100000 in
theorem mw_c68 : mw_at (4, 54) = some (m_cod 68) := rfl
set_option maxRecDepth 100000 in
theorem mw_c69 : mw_at (2, 92) = some (m_cod 69) := rfl
set_option maxRecDepth 100000 in
theorem mw_c70 : mw_at (4, 105) = some (m_cod 70) := rfl
set_option maxRecDepth 100000 in
theorem mw_c71 : mw_at (2, 100) = some (m_cod 71) := rfl
set_option maxRecDepth 100000 in
theorem mw_c72 : mw_at (2, 86) = some (m_cod 72) := rfl
set_option maxRecDepth 100000 in
theorem mw_c73 : mw_at (2, 96) = some (m_cod 73) := rfl
set_option maxRecDepth 100000 in
theorem mw_c74 : mw_at (2, 104) = some (m_cod 74) := rfl
set_option maxRecDepth 100000 in
theorem mw_c75 : mw_at (2, 137) = some (m_cod 75) := rfl
set_option maxRecDepth 100000 in
theorem mw_c76 : mw_at (4, 173) = some (m_cod 76) := rfl
set_option maxRecDepth 100000 in
theorem mw_c77 : mw_at (2, 129) = some (m_cod 77) := rfl
set_option maxRecDepth 100000 in
theorem mw_c78 : mw_at (2, 125) = some (m_cod 78) := rfl
set_option maxRecDepth 100000 in
theorem mw_c79 : mw_at (3, 188) = some (m_cod 79) := rfl
set_option maxRecDepth 100000 in
theorem mw_c80 : mw_at (3, 184) = some (m_cod 80) := rfl
set_option maxRecDepth 100000 in
theorem mw_c81 : mw_at (3, 180) = some (m_cod 81) := rfl
set_option maxRecDepth 100000 in
theorem mw_c82 : mw_at (4, 46) = some (m_cod 82) := rfl
set_option maxRecDepth 100000 in
theorem mw_c83 : mw_at (5, 47) = some (m_cod 83) := rfl
set_option maxRecDepth 100000 in
theorem mw_c84 : mw_at (2, 108) = some (m_cod 84) := rfl
set_option maxRecDepth 100000 in
theorem mw_c85 : mw_at (2, 112) = some (m_cod 85) := rfl
set_option maxRecDepth 100000 in
theorem mw_c86 : mw_at (2, 121) = some (m_cod 86) := rfl
set_option maxRecDepth 100000 in
theorem mw_c87 : mw_at (2, 133) = some (m_cod 87) := rfl
set_option maxRecDepth 100000 in
theorem mw_c88 : mw_at (3, 172) = some (m_cod 88) := rfl
set_option maxRecDepth 100000 in
theorem mw_c89 : mw_at (4, 42) = some (m_cod 89) := rfl
set_option maxRecDepth 100000 in
theorem mw_c90 : mw_at (3, 176) = some (m_cod 90) := rfl
set_option maxRecDepth 100000 in
theorem mw_c91 : mw_at (3, 195) = some (m_cod 91) := rfl
set_option maxRecDepth 100000 in
theorem mw_c92 : mw_at (3, 199) = some (m_cod 92) := rfl
set_option maxRecDepth 100000 in
theorem mw_c93 : mw_at (4, 38) = some (m_cod 93) := rfl
set_option maxRecDepth 100000 in
theorem mw_c94 : mw_at (1, 19) = some (m_cod 94) := rfl
set_option maxRecDepth 100000 in
theorem mw_c95 : mw_at (2, 156) = some (m_cod 95) := rfl
set_option maxRecDepth 100000 in
theorem mw_c96 : mw_at (3, 10) = some (m_cod 96) := rfl
set_option maxRecDepth 100000 in
theorem mw_c97 : mw_at (3, 75) = some (m_cod 97) := rfl
set_option maxRecDepth 100000 in
theorem mw_c98 : mw_at (3, 98) = some (m_cod 98) := rfl
set_option maxRecDepth 100000 in
theorem mw_c99 : mw_at (3, 111) = some (m_cod 99) := rfl
set_option maxRecDepth 100000 in
theorem mw_c100 : mw_at (3, 118) = some (m_cod 100) := rfl
set_option maxRecDepth 100000 in
theorem mw_c101 : mw_at (3, 134) = some (m_cod 101) := rfl
set_option maxRecDepth 100000 in
theorem mw_c102 : mw_at (3, 146) = some (m_cod 102) := rfl
set_option maxRecDepth 100000 in
theorem mw_c103 : mw_at (4, 146) = some (m_cod 103) := rfl
set_option maxRecDepth 100000 in
theorem mw_c104 : mw_at (3, 236) = some (m_cod 104) := rfl
set_option maxRecDepth 100000 in
theorem mw_c105 : mw_at (4, 153) = some (m_cod 105) := rfl
set_option maxRecDepth 100000 in
theorem mw_c106 : mw_at (4, 160) = some (m_cod 106) := rfl
set_option maxRecDepth 100000 in
theorem mw_c107 : mw_at (4, 169) = some (m_cod 107) := rfl
set_option maxRecDepth 100000 in
theorem mw_c108 : mw_at (2, 53) = some (m_cod 108) := rfl
set_option maxRecDepth 100000 in
theorem mw_c109 : mw_at (4, 181) = some (m_cod 109) := rfl
set_option maxRecDepth 100000 in
theorem mw_c110 : mw_at (4, 193) = some (m_cod 110) := rfl
set_option maxRecDepth 100000 in
theorem mw_c111 : mw_at (4, 201) = some (m_cod 111) := rfl
set_option maxRecDepth 100000 in
theorem mw_c112 : mw_at (4, 209) = some (m_cod 112) := rfl
set_option maxRecDepth 100000 in
theorem mw_c113 : mw_at (4, 217) = some (m_cod 113) := rfl
set_option maxRecDepth 100000 in
theorem mw_c114 : mw_at (3, 157) = some (m_cod 114) := rfl
set_option maxRecDepth 100000 in
theorem mw_c115 : mw_at (4, 224) = some (m_cod 115) := rfl
set_option maxRecDepth 100000 in
theorem mw_c116 : mw_at (4, 231) = some (m_cod 116) := rfl
set_option maxRecDepth 100000 in
theorem mw_c117 : mw_at (4, 238) = some (m_cod 117) := rfl
set_option maxRecDepth 100000 in
theorem mw_c118 : mw_at (5, 5) = some (m_cod 118) := rfl
set_option maxRecDepth 100000 in
theorem mw_c119 : mw_at (5, 12) = some (m_cod 119) := rfl
set_option maxRecDepth 100000 in
theorem mw_c120 : mw_at (5, 27) = some (m_cod 120) := rfl
set_option maxRecDepth 100000 in
theorem mw_c121 : mw_at (5, 43) = some (m_cod 121) := rfl
set_option maxRecDepth 100000 in
theorem mw_c122 : mw_at (3, 212) = some (m_cod 122) := rfl
set_option maxRecDepth 100000 in
theorem mw_c123 : mw_at (5, 54) = some (m_cod 123) := rfl
set_option maxRecDepth 100000 in
theorem mw_c124 : mw_at (5, 61) = some (m_cod 124) := rfl
set_option maxRecDepth 100000 in
theorem mw_c125 : mw_at (3, 164) = some (m_cod 125) := rfl
set_option maxRecDepth 100000 in
theorem mw_c126 : mw_at (3, 164) = some (m_cod 126) := rfl
set_option maxRecDepth 100000 in
theorem mw_c127 : mw_at (3, 164) = some (m_cod 127) := rfl
set_option maxRecDepth 100000 in
theorem mw_c128 : mw_at (3, 223) = some (m_cod 128) := rfl
set_option maxRecDepth 100000 in
theorem mw_c129 : mw_at (4, 9) = some (m_cod 129) := rfl
set_option maxRecDepth 100000 in
theorem mw_c130 : mw_at (3, 28) = some (m_cod 130) := rfl
set_option maxRecDepth 100000 in
theorem mw_c131 : mw_at (2, 159) = some (m_cod 131) := rfl
set_option maxRecDepth 100000 in
theorem mw_c132 : mw_at (3, 47) = some (m_cod 132) := rfl
set_option maxRecDepth 100000 in
theorem mw_c133 : mw_at (3, 25) = some (m_cod 133) := rfl
set_option maxRecDepth 100000 in
theorem mw_c134 : mw_at (3, 164) = some (m_cod 134) := rfl
set_option maxRecDepth 100000 in
theorem mw_c135 : mw_at (3, 202) = some (m_cod 135) := rfl
set_option maxRecDepth 100000 in
theorem mw_c136 : mw_at (3, 205) = some (m_cod 136) := rfl
set_option maxRecDepth 100000 in
theorem mw_c137 : mw_at (2, 239) = some (m_cod 137) := rfl
set_option maxRecDepth 100000 in
theorem mw_c138 : mw_at (2, 231) = some (m_cod 138) := rfl
set_option maxRecDepth 100000 in
theorem mw_c139 : mw_at (2, 235) = some (m_cod 139) := rfl
set_option maxRecDepth 100000 in
theorem mw_c140 : mw_at (3, 164) = some (m_cod 140) := rfl
set_option maxRecDepth 100000 in
theorem mw_c141 : mw_at (3, 150) = some (m_cod 141) := rfl
set_option maxRecDepth 100000 in
theorem mw_c142 : mw_at (4, 139) = some (m_cod 142) := rfl
set_option maxRecDepth 100000 in
theorem mw_c143 : mw_at (4, 34) = some (m_cod 143) := rfl
set_option maxRecDepth 100000 in
theorem mw_c144 : mw_at (4, 87) = some (m_cod 144) := rfl
set_option maxRecDepth 100000 in
theorem mw_c145 : mw_at (4, 17) = some (m_cod 145) := rfl
set_option maxRecDepth 100000 in
theorem mw_c146 : mw_at (4, 14) = some (m_cod 146) := rfl
set_option maxRecDepth 100000 in
theorem mw_c147 : mw_at (4, 30) = some (m_cod 147) := rfl
set_option maxRecDepth 100000 in
theorem mw_c148 : mw_at (3, 164) = some (m_cod 148) := rfl
set_option maxRecDepth 100000 in
theorem mw_c149 : mw_at (3, 164) = some (m_cod 149) := rfl
set_option maxRecDepth 100000 in
theorem mw_c150 : mw_at (3, 164) = some (m_cod 150) := rfl
set_option maxRecDepth 100000 in
theorem mw_c151 : mw_at (3, 164) = some (m_cod 151) := rfl
set_option maxRecDepth 100000 in
theorem mw_c152 : mw_at (3, 164) = some (m_cod 152) := rfl
set_option maxRecDepth 100000 in
theorem mw_c153 : mw_at (3, 164) = some (m_cod 153) := rfl
set_option maxRecDepth 100000 in
theorem mw_c154 : mw_at (3, 164) = some (m_cod 154) := rfl
set_option maxRecDepth 100000 in
theorem mw_c155 : mw_at (3, 164) = some (m_cod 155) := rfl
set_option maxRecDepth 100000 in
theorem mw_c156 : mw_at (3, 164) = some (m_cod 156) := rfl
set_option maxRecDepth 100000 in
theorem mw_c157 : mw_at (3, 164) = some (m_cod 157) := rfl
set_option maxRecDepth 100000 in
theorem mw_c158 : mw_at (3, 164) = some (m_cod 158) := rfl
set_option maxRecDepth 100000 in
theorem mw_c159 : mw_at (3, 164) = some (m_cod 159) := rfl
set_option maxRecDepth 100000 in
theorem mw_c160 : mw_at (3, 164) = some (m_cod 160) := rfl
set_option maxRecDepth 100000 in
theorem mw_c161 : mw_at (3, 164) = some (m_cod 161) := rfl
set_option maxRecDepth 100000 in
theorem mw_c162 : mw_at (3, 164) = some (m_cod 162) := rfl
set_option maxRecDepth 100000 in
theorem mw_c163 : mw_at (3, 164) = some (m_cod 163) := rfl
set_option maxRecDepth 100000 in
theorem mw_c164 : mw_at (3, 164) = some (m_cod 164) := rfl
set_option maxRecDepth 100000 in
theorem mw_c165 : mw_at (3, 164) = some (m_cod 165) := rfl
set_option maxRecDepth 100000 in
theorem mw_c166 : mw_at (3, 164) = some (m_cod 166) := rfl
set_option maxRecDepth 100000 in
theorem mw_c167 : mw_at (3, 164) = some (m_cod 167) := rfl
set_option maxRecDepth 100000 in
theorem mw_c168 : mw_at (3, 164) = some (m_cod 168) := rfl
set_option maxRecDepth 100000 in
theorem mw_c169 : mw_at (3, 164) = some (m_cod 169) := rfl
set_option maxRecDepth 100000 in
theorem mw_c170 : mw_at (3, 164) = some (m_cod 170) := rfl
set_option maxRecDepth 100000 in
theorem mw_c171 : mw_at (3, 164) = some (m_cod 171) := rfl
set_option maxRecDepth 100000 in
theorem mw_c172 : mw_at (3, 164) = some (m_cod 172) := rfl
set_option maxRecDepth 100000 in
theorem mw_c173 : mw_at (3, 164) = some (m_cod 173) := rfl
set_option maxRecDepth 100000 in
theorem mw_c174 : mw_at (3, 164) = some (m_cod 174) := rfl
set_option maxRecDepth 100000 in
theorem mw_c175 : mw_at (3, 164) = some (m_cod 175) := rfl
set_option maxRecDepth 100000 in
theorem mw_c176 : mw_at (3, 164) = some (m_cod 176) := rfl
set_option maxRecDepth 100000 in
theorem mw_c177 : mw_at (3, 164) = some (m_cod 177) := rfl
set_option maxRecDepth 100000 in
theorem mw_c178 : mw_at (3, 164) = some (m_cod 178) := rfl
set_option maxRecDepth 100000 in
theorem mw_c179 : mw_at (3, 164) = some (m_cod 179) := rfl
set_option maxRecDepth 100000 in
theorem mw_c180 : mw_at (3, 164) = some (m_cod 180) := rfl
set_option maxRecDepth 100000 in
theorem mw_c181 : mw_at (3, 164) = some (m_cod 181) := rfl
set_option maxRecDepth 100000 in
theorem mw_c182 : mw_at (3, 164) = some (m_cod 182) := rfl
set_option maxRecDepth 100000 in
theorem mw_c183 : mw_at (3, 164) = some (m_cod 183) := rfl
set_option maxRecDepth 100000 in
theorem mw_c184 : mw_at (3, 164) = some (m_cod 184) := rfl
set_option maxRecDepth 100000 in
theorem mw_c185 : mw_at (3, 164) = some (m_cod 185) := rfl
set_option maxRecDepth 100000 in
theorem mw_c186 : mw_at (3, 164) = some (m_cod 186) := rfl
set_option maxRecDepth 100000 in
theorem mw_c187 : mw_at (3, 164) = some (m_cod 187) := rfl
set_option maxRecDepth 100000 in
theorem mw_c188 : mw_at (3, 164) = some (m_cod 188) := rfl
set_option maxRecDepth 100000 in
theorem mw_c189 : mw_at (3, 164) = some (m_cod 189) := rfl
set_option maxRecDepth 100000 in
theorem mw_c190 : mw_at (3, 164) = some (m_cod 190) := rfl
set_option maxRecDepth 100000 in
theorem mw_c191 : mw_at (3, 164) = some (m_cod 191) := rfl
set_option maxRecDepth 100000 in
theorem mw_c192 : mw_at (3, 164) = some (m_cod 192) := rfl
set_option maxRecDepth 100000 in
theorem mw_c193 : mw_at (3, 164) = some (m_cod 193) := rfl
set_option maxRecDepth 100000 in
theorem mw_c194 : mw_at (3, 164) = some (m_cod 194) := rfl
set_option maxRecDepth 100000 in
theorem mw_c195 : mw_at (3, 164) = some (m_cod 195) := rfl
set_option maxRecDepth 100000 in
theorem mw_c196 : mw_at (3, 164) = some (m_cod 196) := rfl
set_option maxRecDepth 100000 in
theorem mw_c197 : mw_at (3, 164) = some (m_cod 197) := rfl
set_option maxRecDepth 100000 in
theorem mw_c198 : mw_at (3, 164) = some (m_cod 198) := rfl
set_option maxRecDepth 100000 in
theorem mw_c199 : mw_at (3, 164) = some (m_cod 199) := rfl
set_option maxRecDepth 100000 in
theorem mw_c200 : mw_at (3, 164) = some (m_cod 200) := rfl
set_option maxRecDepth 100000 in
theorem mw_c201 : mw_at (3, 164) = some (m_cod 201) := rfl
set_option maxRecDepth 100000 in
theorem mw_c202 : mw_at (3, 164) = some (m_cod 202) := rfl
set_option maxRecDepth 100000 in
theorem mw_c203 : mw_at (3, 164) = some (m_cod 203) := rfl
set_option maxRecDepth 100000 in
theorem mw_c204 : mw_at (3, 164) = some (m_cod 204) := rfl
set_option maxRecDepth 100000 in
theorem mw_c205 : mw_at (3, 164) = some (m_cod 205) := rfl
set_option maxRecDepth 100000 in
theorem mw_c206 : mw_at (3, 164) = some (m_cod 206) := rfl
set_option maxRecDepth 100000 in
theorem mw_c207 : mw_at (3, 164) = some (m_cod 207) := rfl
set_option maxRecDepth 100000 in
theorem mw_c208 : mw_at (3, 164) = some (m_cod 208) := rfl
set_option maxRecDepth 100000 in
theorem mw_c209 : mw_at (3, 164) = some (m_cod 209) := rfl
set_option maxRecDepth 100000 in
theorem mw_c210 : mw_at (3, 164) = some (m_cod 210) := rfl
set_option maxRecDepth 100000 in
theorem mw_c211 : mw_at (3, 164) = some (m_cod 211) := rfl
set_option maxRecDepth 100000 in
theorem mw_c212 : mw_at (3, 164) = some (m_cod 212) := rfl
set_option maxRecDepth 100000 in
theorem mw_c213 : mw_at (3, 164) = some (m_cod 213) := rfl
set_option maxRecDepth 100000 in
theorem mw_c214 : mw_at (3, 164) = some (m_cod 214) := rfl
set_option maxRecDepth 100000 in
theorem mw_c215 : mw_at (3, 164) = some (m_cod 215) := rfl
set_option maxRecDepth 100000 in
theorem mw_c216 : mw_at (3, 164) = some (m_cod 216) := rfl
set_option maxRecDepth 100000 in
theorem mw_c217 : mw_at (3, 164) = some (m_cod 217) := rfl
set_option maxRecDepth 100000 in
theorem mw_c218 : mw_at (3, 164) = some (m_cod 218) := rfl
set_option maxRecDepth 100000 in
theorem mw_c219 : mw_at (3, 164) = some (m_cod 219) := rfl
set_option maxRecDepth 100000 in
theorem mw_c220 : mw_at (3, 164) = some (m_cod 220) := rfl
set_option maxRecDepth 100000 in
theorem mw_c221 : mw_at (3, 164) = some (m_cod 221) := rfl
set_option maxRecDepth 100000 in
theorem mw_c222 : mw_at (3, 164) = some (m_cod 222) := rfl
set_option maxRecDepth 100000 in
theorem mw_c223 : mw_at (3, 164) = some (m_cod 223) := rfl
set_option maxRecDepth 100000 in
theorem mw_c224 : mw_at (3, 164) = some (m_cod 224) := rfl
set_option maxRecDepth 100000 in
theorem mw_c225 : mw_at (3, 164) = some (m_cod 225) := rfl
set_option maxRecDepth 100000 in
theorem mw_c226 : mw_at (3, 164) = some (m_cod 226) := rfl
set_option maxRecDepth 100000 in
theorem mw_c227 : mw_at (3, 164) = some (m_cod 227) := rfl
set_option maxRecDepth 100000 in
theorem mw_c228 : mw_at (3, 164) = some (m_cod 228) := rfl
set_option maxRecDepth 100000 in
theorem mw_c229 : mw_at (3, 164) = some (m_cod 229) := rfl
set_option maxRecDepth 100000 in
theorem mw_c230 : mw_at (3, 164) = some (m_cod 230) := rfl
set_option maxRecDepth 100000 in
theorem mw_c231 : mw_at (3, 164) = some (m_cod 231) := rfl
set_option maxRecDepth 100000 in
theorem mw_c232 : mw_at (3, 164) = some (m_cod 232) := rfl
set_option maxRecDepth 100000 in
theorem mw_c233 : mw_at (3, 164) = some (m_cod 233) := rfl
set_option maxRecDepth 100000 in
theorem mw_c234 : mw_at (3, 164) = some (m_cod 234) := rfl
set_option maxRecDepth 100000 in
theorem mw_c235 : mw_at (3, 164) = some (m_cod 235) := rfl
set_option maxRecDepth 100000 in
theorem mw_c236 : mw_at (3, 164) = some (m_cod 236) := rfl
set_option maxRecDepth 100000 in
theorem mw_c237 : mw_at (3, 164) = some (m_cod 237) := rfl
set_option maxRecDepth 100000 in
theorem mw_c238 : mw_at (3, 164) = some (m_cod 238) := rfl
set_option maxRecDepth 100000 in
theorem mw_c239 : mw_at (3, 164) = some (m_cod 239) := rfl
set_option maxRecDepth 100000 in
theorem mw_c240 : mw_at (3, 164) = some (m_cod 240) := rfl
set_option maxRecDepth 100000 in
theorem mw_c241 : mw_at (2, 143) = some (m_cod 241) := rfl
set_option maxRecDepth 100000 in
theorem mw_c242 : mw_at (2, 147) = some (m_cod 242) := rfl
set_option maxRecDepth 100000 in
theorem mw_c243 : mw_at (2, 151) = some (m_cod 243) := rfl
set_option maxRecDepth 100000 in
theorem mw_c244 : mw_at (3, 4) = some (m_cod 244) := rfl
set_option maxRecDepth 100000 in
theorem mw_c245 : mw_at (3, 71) = some (m_cod 245) := rfl
set_option maxRecDepth 100000 in
theorem mw_c246 : mw_at (3, 94) = some (m_cod 246) := rfl
set_option maxRecDepth 100000 in
theorem mw_c247 : mw_at (3, 107) = some (m_cod 247) := rfl
set_option maxRecDepth 100000 in
theorem mw_c248 : mw_at (3, 114) = some (m_cod 248) := rfl
set_option maxRecDepth 100000 in
theorem mw_c249 : mw_at (3, 130) = some (m_cod 249) := rfl
set_option maxRecDepth 100000 in
theorem mw_c250 : mw_at (3, 142) = some (m_cod 250) := rfl
set_option maxRecDepth 100000 in
theorem mw_c251 : mw_at (4, 142) = some (m_cod 251) := rfl
set_option maxRecDepth 100000 in
theorem mw_c252 : mw_at (3, 232) = some (m_cod 252) := rfl
set_option maxRecDepth 100000 in
theorem mw_c253 : mw_at (4, 149) = some (m_cod 253) := rfl
set_option maxRecDepth 100000 in
theorem mw_c254 : mw_at (4, 156) = some (m_cod 254) := rfl
set_option maxRecDepth 100000 in
theorem mw_c255 : mw_at (4, 165) = some (m_cod 255) := rfl
set_option maxRecDepth 100000 in
theorem mw_c256 : mw_at (4, 177) = some (m_cod 256) := rfl
set_option maxRecDepth 100000 in
theorem mw_c257 : mw_at (4, 189) = some (m_cod 257) := rfl
set_option maxRecDepth 100000 in
theorem mw_c258 : mw_at (4, 197) = some (m_cod 258) := rfl
set_option maxRecDepth 100000 in
theorem mw_c259 : mw_at (4, 205) = some (m_cod 259) := rfl
set_option maxRecDepth 100000 in
theorem mw_c260 : mw_at (4, 213) = some (m_cod 260) := rfl
set_option maxRecDepth 100000 in
theorem mw_c261 : mw_at (3, 153) = some (m_cod 261) := rfl
set_option maxRecDepth 100000 in
theorem mw_c262 : mw_at (4, 220) = some (m_cod 262) := rfl
set_option maxRecDepth 100000 in
theorem mw_c263 : mw_at (4, 227) = some (m_cod 263) := rfl
set_option maxRecDepth 100000 in
theorem mw_c264 : mw_at (4, 234) = some (m_cod 264) := rfl
set_option maxRecDepth 100000 in
theorem mw_c265 : mw_at (5, 1) = some (m_cod 265) := rfl
set_option maxRecDepth 100000 in
theorem mw_c266 : mw_at (5, 8) = some (m_cod 266) := rfl
set_option maxRecDepth 100000 in
theorem mw_c267 : mw_at (5, 23) = some (m_cod 267) := rfl
set_option maxRecDepth 100000 in
theorem mw_c268 : mw_at (5, 39) = some (m_cod 268) := rfl
set_option maxRecDepth 100000 in
theorem mw_c269 : mw_at (3, 208) = some (m_cod 269) := rfl
set_option maxRecDepth 100000 in
theorem mw_c270 : mw_at (5, 50) = some (m_cod 270) := rfl
set_option maxRecDepth 100000 in
theorem mw_c271 : mw_at (5, 57) = some (m_cod 271) := rfl
set_option maxRecDepth 100000 in
theorem mw_c272 : mw_at (3, 219) = some (m_cod 272) := rfl
set_option maxRecDepth 100000 in
theorem mw_c273 : mw_at (3, 229) = some (m_cod 273) := rfl
set_option maxRecDepth 100000 in
theorem mw_c274 : mw_at (3, 226) = some (m_cod 274) := rfl
set_option maxRecDepth 100000 in
theorem mw_c275 : mw_at (5, 75) = some (m_cod 275) := rfl
set_option maxRecDepth 100000 in
theorem mw_c276 : mw_at (5, 78) = some (m_cod 276) := rfl
set_option maxRecDepth 100000 in
theorem mw_c277 : mw_at (5, 69) = some (m_cod 277) := rfl
set_option maxRecDepth 100000 in
theorem mw_c278 : mw_at (5, 72) = some (m_cod 278) := rfl
set_option maxRecDepth 100000 in
theorem mw_c279 : mw_at (5, 81) = some (m_cod 279) := rfl
set_option maxRecDepth 100000 in
theorem mw_c280 : mw_at (5, 84) = some (m_cod 280) := rfl
set_option maxRecDepth 100000 in
theorem mw_c281 : mw_at (5, 87) = some (m_cod 281) := rfl
def mw_cp (i : Nat) : Prop := ∃ p, mw_at p = some (m_cod i)
theorem mw_cA_47 : ∀ i, i < 47 → mw_cp i := lt_s (lt_s (lt_s (lt_s (lt_s (lt_s (lt_s (lt_s (lt_s (lt_s (lt_s (lt_s (lt_s (lt_s (lt_s (lt_s (lt_s (lt_s (lt_s (lt_s (lt_s (lt_s (lt_s (lt_s (lt_s (lt_s (lt_s (lt_s (lt_s (lt_s (lt_s (lt_s (lt_s (lt_s (lt_s (lt_s (lt_s (lt_s (lt_s (lt_s (lt_s (lt_s (lt_s (lt_s (lt_s (lt_s (lt_s (lt_0) ⟨_, mw_c0⟩) ⟨_, mw_c1⟩) ⟨_, mw_c2⟩) ⟨_, mw_c3⟩) ⟨_, mw_c4⟩) ⟨_, mw_c5⟩) ⟨_, mw_c6⟩) ⟨_, mw_c7⟩) ⟨_, mw_c8⟩) ⟨_, mw_c9⟩) ⟨_, mw_c10⟩) ⟨_, mw_c11⟩) ⟨_, mw_c12⟩) ⟨_, mw_c13⟩) ⟨_, mw_c14⟩) ⟨_, mw_c15⟩) ⟨_, mw_c16⟩) ⟨_, mw_c17⟩) ⟨_, mw_c18⟩) ⟨_, mw_c19⟩) ⟨_, mw_c20⟩) ⟨_, mw_c21⟩) ⟨_, mw_c22⟩) ⟨_, mw_c23⟩) ⟨_, mw_c24⟩) ⟨_, mw_c25⟩) ⟨_, mw_c26⟩) ⟨_, mw_c27⟩) ⟨_, mw_c28⟩) ⟨_, mw_c29⟩) ⟨_, mw_c30⟩) ⟨_, mw_c31⟩) ⟨_, mw_c32⟩) ⟨_, mw_c33⟩) ⟨_, mw_c34⟩) ⟨_, mw_c35⟩) ⟨_, mw_c36⟩) ⟨_, mw_c37⟩) ⟨_, mw_c38⟩) ⟨_, mw_c39⟩) ⟨_, mw_c40⟩) ⟨_, mw_c41⟩) ⟨_, mw_c42⟩) ⟨_, mw_c43⟩) ⟨_, mw_c44⟩) ⟨_, mw_c45⟩) ⟨_, mw_c46⟩
theorem mw_cA_94 : ∀ i, i < 94 → mw_cp i := lt_s (lt_s (lt_s (lt_s (lt_s (lt_s (lt_s (lt_s (lt_s (lt_s (lt_s (lt_s (lt_s (lt_s (lt_s (lt_s (lt_s (lt_s (lt_s (lt_s (lt_s (lt_s (lt_s (lt_s (lt_s (lt_s (lt_s (lt_s (lt_s (lt_s (lt_s (lt_s (lt_s (lt_s (lt_s (lt_s (lt_s (lt_s (lt_s (lt_s (lt_s (lt_s (lt_s (lt_s (lt_s (lt_s (lt_s (mw_cA_47) ⟨_, mw_c47⟩) ⟨_, mw_c48⟩) ⟨_, mw_c49⟩) ⟨_, mw_c50⟩) ⟨_, mw_c51⟩) ⟨_, mw_c52⟩) ⟨_, mw_c53⟩) ⟨_, mw_c54⟩) ⟨_, mw_c55⟩) ⟨_, mw_c56⟩) ⟨_, mw_c57⟩) ⟨_, mw_c58⟩) ⟨_, mw_c59⟩) ⟨_, mw_c60⟩) ⟨_, mw_c61⟩) ⟨_, mw_c62⟩) ⟨_, mw_c63⟩) ⟨_, mw_c64⟩) ⟨_, mw_c65⟩) ⟨_, mw_c66⟩) ⟨_, mw_c67⟩) ⟨_, mw_c68⟩) ⟨_, mw_c69⟩) ⟨_, mw_c70⟩) ⟨_, mw_c71⟩) ⟨_, mw_c72⟩) ⟨_, mw_c73⟩) ⟨_, mw_c74⟩) ⟨_, mw_c75⟩) ⟨_, mw_c76⟩) ⟨_, mw_c77⟩) ⟨_, mw_c78⟩) ⟨_, mw_c79⟩) ⟨_, mw_c80⟩) ⟨_, mw_c81⟩) ⟨_, mw_c82⟩) ⟨_, mw_c83⟩) ⟨_, mw_c84⟩) ⟨_, mw_c85⟩) ⟨_, mw_c86⟩) ⟨_, mw_c87⟩) ⟨_, mw_c88⟩) ⟨_, mw_c89⟩) ⟨_, mw_c90⟩) ⟨_, mw_c91⟩) ⟨_, mw_c92⟩) ⟨_, mw_c93⟩
theorem mw_cA_141 : ∀ i, i < 141 → mw_cp i := lt_s (lt_s (lt_s (lt_s (lt_s (lt_s (lt_s (lt_s (lt_s (lt_s (lt_s (lt_s (lt_s (lt_s (lt_s (lt_s (lt_s (lt_s (lt_s (lt_s (lt_s (lt_s (lt_s (lt_s (lt_s (lt_s (lt_s (lt_s (lt_s (lt_s (lt_s (lt_s (lt_s (lt_s (lt_s (lt_s (lt_s (lt_s (lt_s (lt_s (lt_s (lt_s (lt_s (lt_s (lt_s (lt_s (lt_s (mw_cA_94) ⟨_, mw_c94⟩) ⟨_, mw_c95⟩) ⟨_, mw_c96⟩) ⟨_, mw_c97⟩) ⟨_, mw_c98⟩) ⟨_, mw_c99⟩) ⟨_, mw_c100⟩) ⟨_, mw_c101⟩) ⟨_, mw_c102⟩) ⟨_, mw_c103⟩) ⟨_, mw_c104⟩) ⟨_, mw_c105⟩) ⟨_, mw_c106⟩) ⟨_, mw_c107⟩) ⟨_, mw_c108⟩) ⟨_, mw_c109⟩) ⟨_, mw_c110⟩) ⟨_, mw_c111⟩) ⟨_, mw_c112⟩) ⟨_, mw_c113⟩) ⟨_, mw_c114⟩) ⟨_, mw_c115⟩) ⟨_, mw_c116⟩) ⟨_, mw_c117⟩) ⟨_, mw_c118⟩) ⟨_, mw_c119⟩) ⟨_, mw_c120⟩) ⟨_, mw_c121⟩) ⟨_, mw_c122⟩) ⟨_, mw_c123⟩) ⟨_, mw_c124⟩) ⟨_, mw_c125⟩) ⟨_, mw_c126⟩) ⟨_, mw_c127⟩) ⟨_, mw_c128⟩) ⟨_, mw_c129⟩) ⟨_, mw_c130⟩) ⟨_, mw_c131⟩) ⟨_, mw_c132⟩) ⟨_, mw_c133⟩) ⟨_, mw_c134⟩) ⟨_, mw_c135⟩) ⟨_, mw_c136⟩) ⟨_, mw_c137⟩) ⟨_, mw_c138⟩) ⟨_, mw_c139⟩) ⟨_, mw_c140⟩
theorem mw_cA_188 : ∀ i, i < 188 → mw_cp i := lt_s (lt_s (lt_s (lt_s (lt_s (lt_s (lt_s (lt_s (lt_s (lt_s (lt_s (lt_s (lt_s (lt_s (lt_s (lt_s (lt_s (lt_s (lt_s (lt_s (lt_s (lt_s (lt_s (lt_s (lt_s (lt_s (lt_s (lt_s (lt_s (lt_s (lt_s (lt_s (lt_s (lt_s (lt_s (lt_s (lt_s (lt_s (lt_s (lt_s (lt_s (lt_s (lt_s (lt_s (lt_s (lt_s (lt_s (mw_cA_141) ⟨_, mw_c141⟩) ⟨_, mw_c142⟩) ⟨_, mw_c143⟩) ⟨_, mw_c144⟩) ⟨_, mw_c145⟩) ⟨_, mw_c146⟩) ⟨_, mw_c147⟩) ⟨_, mw_c148⟩) ⟨_, mw_c149⟩) ⟨_, mw_c150⟩) ⟨_, mw_c151⟩) ⟨_, mw_c152⟩) ⟨_, mw_c153⟩) ⟨_, mw_c154⟩) ⟨_, mw_c155⟩) ⟨_, mw_c156⟩) ⟨_, mw_c157⟩) ⟨_, mw_c158⟩) ⟨_, mw_c159⟩) ⟨_, mw_c160⟩) ⟨_, mw_c161⟩) ⟨_, mw_c162⟩) ⟨_, mw_c163⟩) ⟨_, mw_c164⟩) ⟨_, mw_c165⟩) ⟨_, mw_c166⟩) ⟨_, mw_c167⟩) ⟨_, mw_c168⟩) ⟨_, mw_c169⟩) ⟨_, mw_c170⟩) ⟨_, mw_c171⟩) ⟨_, mw_c172⟩) ⟨_, mw_c173⟩) ⟨_, mw_c174⟩) ⟨_, mw_c175⟩) ⟨_, mw_c176⟩) ⟨_, mw_c177⟩) ⟨_, mw_c178⟩) ⟨_, mw_c179⟩) ⟨_, mw_c180⟩) ⟨_, mw_c181⟩) ⟨_, mw_c182⟩) ⟨_, mw_c183⟩) ⟨_, mw_c184⟩) ⟨_, mw_c185⟩) ⟨_, mw_c186⟩) ⟨_, mw_c187⟩
theorem mw_cA_235 : ∀ i, i < 235 → mw_cp i := lt_s (lt_s (lt_s (lt_s (lt_s (lt_s (lt_s (lt_s (lt_s (lt_s (lt_s (lt_s (lt_s (lt_s (lt_s (lt_s (lt_s (lt_s (lt_s (lt_s (lt_s (lt_s (lt_s (lt_s (lt_s (lt_s (lt_s (lt_s (lt_s (lt_s (lt_s (lt_s (lt_s (lt_s (lt_s (lt_s (lt_s (lt_s (lt_s (lt_s (lt_s (lt_s (lt_s (lt_s (lt_s (lt_s (lt_s (mw_cA_188) ⟨_, mw_c188⟩) ⟨_, mw_c189⟩) ⟨_, mw_c190⟩) ⟨_, mw_c191⟩) ⟨_, mw_c192⟩) ⟨_, mw_c193⟩) ⟨_, mw_c194⟩) ⟨_, mw_c195⟩) ⟨_, mw_c196⟩) ⟨_, mw_c197⟩) ⟨_, mw_c198⟩) ⟨_, mw_c199⟩) ⟨_, mw_c200⟩) ⟨_, mw_c201⟩) ⟨_, mw_c202⟩) ⟨_, mw_c203⟩) ⟨_, mw_c204⟩) ⟨_, mw_c205⟩) ⟨_, mw_c206⟩) ⟨_, mw_c207⟩) ⟨_, mw_c208⟩) ⟨_, mw_c209⟩) ⟨_, mw_c210⟩) ⟨_, mw_c211⟩) ⟨_, mw_c212⟩) ⟨_, mw_c213⟩) ⟨_, mw_c214⟩) ⟨_, mw_c215⟩) ⟨_, mw_c216⟩) ⟨_, mw_c217⟩) ⟨_, mw_c218⟩) ⟨_, mw_c219⟩) ⟨_, mw_c220⟩) ⟨_, mw_c221⟩) ⟨_, mw_c222⟩) ⟨_, mw_c223⟩) ⟨_, mw_c224⟩) ⟨_, mw_c225⟩) ⟨_, mw_c226⟩) ⟨_, mw_c227⟩) ⟨_, mw_c228⟩) ⟨_, mw_c229⟩) ⟨_, mw_c230⟩) ⟨_, mw_c231⟩) ⟨_, mw_c232⟩) ⟨_, mw_c233⟩) ⟨_, mw_c234⟩
theorem mw_cA_282 : ∀ i, i < 282 → mw_cp i := lt_s (lt_s (lt_s (lt_s (lt_s (lt_s (lt_s (lt_s (lt_s (lt_s (lt_s (lt_s (lt_s (lt_s (lt_s (lt_s (lt_s (lt_s (lt_s (lt_s (lt_s (lt_s (lt_s (lt_s (lt_s (lt_s (lt_s (lt_s (lt_s (lt_s (lt_s (lt_s (lt_s (lt_s (lt_s (lt_s (lt_s (lt_s (lt_s (lt_s (lt_s (lt_s (lt_s (lt_s (lt_s (lt_s (lt_s (mw_cA_235) ⟨_, mw_c235⟩) ⟨_, mw_c236⟩) ⟨_, mw_c237⟩) ⟨_, mw_c238⟩) ⟨_, mw_c239⟩) ⟨_, mw_c240⟩) ⟨_, mw_c241⟩) ⟨_, mw_c242⟩) ⟨_, mw_c243⟩) ⟨_, mw_c244⟩) ⟨_, mw_c245⟩) ⟨_, mw_c246⟩) ⟨_, mw_c247⟩) ⟨_, mw_c248⟩) ⟨_, mw_c249⟩) ⟨_, mw_c250⟩) ⟨_, mw_c251⟩) ⟨_, mw_c252⟩) ⟨_, mw_c253⟩) ⟨_, mw_c254⟩) ⟨_, mw_c255⟩) ⟨_, mw_c256⟩) ⟨_, mw_c257⟩) ⟨_, mw_c258⟩) ⟨_, mw_c259⟩) ⟨_, mw_c260⟩) ⟨_, mw_c261⟩) ⟨_, mw_c262⟩) ⟨_, mw_c263⟩) ⟨_, mw_c264⟩) ⟨_, mw_c265⟩) ⟨_, mw_c266⟩) ⟨_, mw_c267⟩) ⟨_, mw_c268⟩) ⟨_, mw_c269⟩) ⟨_, mw_c270⟩) ⟨_, mw_c271⟩) ⟨_, mw_c272⟩) ⟨_, mw_c273⟩) ⟨_, mw_c274⟩) ⟨_, mw_c275⟩) ⟨_, mw_c276⟩) ⟨_, mw_c277⟩) ⟨_, mw_c278⟩) ⟨_, mw_c279⟩) ⟨_, mw_c280⟩) ⟨_, mw_c281⟩
theorem mw_codG_0 : ∀ i, 0 ≤ i → i < 282 → goodWord (m_cod i) = true := by
  intro i h1 h2
  have h : (List.range' 0 282).all (fun i => goodWord (m_cod i)) = true := by decide +kernel
  exact List.all_eq_true.mp h i (List.mem_range'_1.mpr ⟨h1, by omega⟩)
theorem mw_codG : ∀ i, i < 282 → goodWord (m_cod i) = true := by
  intro i h
  exact mw_codG_0 i (by omega) (by omega)
theorem mw_insA_0 : ∀ i, 0 ≤ i → i < 80 → mw_ok (m_ism i) (mw_ins.getD i (9, 0)) = true := by
  intro i h1 h2
  have h : (List.range' 0 80).all (fun i => mw_ok (m_ism i) (mw_ins.getD i (9, 0))) = true := by decide +kernel
  exact List.all_eq_true.mp h i (List.mem_range'_1.mpr ⟨h1, by omega⟩)
theorem mw_insA_1 : ∀ i, 80 ≤ i → i < 160 → mw_ok (m_ism i) (mw_ins.getD i (9, 0)) = true := by
  intro i h1 h2
  have h : (List.range' 80 80).all (fun i => mw_ok (m_ism i) (mw_ins.getD i (9, 0))) = true := by decide +kernel
  exact List.all_eq_true.mp h i (List.mem_range'_1.mpr ⟨h1, by omega⟩)
theorem mw_insA_2 : ∀ i, 160 ≤ i → i < 240 → mw_ok (m_ism i) (mw_ins.getD i (9, 0)) = true := by
  intro i h1 h2
  have h : (List.range' 160 80).all (fun i => mw_ok (m_ism i) (mw_ins.getD i (9, 0))) = true := by decide +kernel
  exact List.all_eq_true.mp h i (List.mem_range'_1.mpr ⟨h1, by omega⟩)
theorem mw_insA_3 : ∀ i, 240 ≤ i → i < 282 → mw_ok (m_ism i) (mw_ins.getD i (9, 0)) = true := by
  intro i h1 h2
  have h : (List.range' 240 42).all (fun i => mw_ok (m_ism i) (mw_ins.getD i (9, 0))) = true := by decide +kernel
  exact List.all_eq_true.mp h i (List.mem_range'_1.mpr ⟨h1, by omega⟩)
theorem mw_insA : ∀ i, i < 282 → mw_ok (m_ism i) (mw_ins.getD i (9, 0)) = true := by
  intro i h
  by_cases h0 : i < 80
  · exact mw_insA_0 i (by omega) h0
  by_cases h1 : i < 160
  · exact mw_insA_1 i (by omega) h1
  by_cases h2 : i < 240
  · exact mw_insA_2 i (by omega) h2
  exact mw_insA_3 i (by omega) (by omega)
theorem mw_selA_0 : ∀ i, 0 ≤ i → i < 80 → mw_sl i (mw_sel.getD i (9, 0)) = true := by
  intro i h1 h2
  have h : (List.range' 0 80).all (fun i => mw_sl i (mw_sel.getD i (9, 0))) = true := by decide +kernel
  exact List.all_eq_true.mp h i (List.mem_range'_1.mpr ⟨h1, by omega⟩)
theorem mw_selA_1 : ∀ i, 80 ≤ i → i < 160 → mw_sl i (mw_sel.getD i (9, 0)) = true := by
  intro i h1 h2
  have h : (List.range' 80 80).all (fun i => mw_sl i (mw_sel.getD i (9, 0))) = true := by decide +kernel
  exact List.all_eq_true.mp h i (List.mem_range'_1.mpr ⟨h1, by omega⟩)
theorem mw_selA_2 : ∀ i, 160 ≤ i → i < 240 → mw_sl i (mw_sel.getD i (9, 0)) = true := by
  intro i h1 h2
  have h : (List.range' 160 80).all (fun i => mw_sl i (mw_sel.getD i (9, 0))) = true := by decide +kernel
  exact List.all_eq_true.mp h i (List.mem_range'_1.mpr ⟨h1, by omega⟩)
theorem mw_selA_3 : ∀ i, 240 ≤ i → i < 282 → mw_sl i (mw_sel.getD i (9, 0)) = true := by
  intro i h1 h2
  have h : (List.range' 240 42).all (fun i => mw_sl i (mw_sel.getD i (9, 0))) = true := by decide +kernel
  exact List.all_eq_true.mp h i (List.mem_range'_1.mpr ⟨h1, by omega⟩)
theorem mw_selA : ∀ i, i < 282 → mw_sl i (mw_sel.getD i (9, 0)) = true := by
  intro i h
  by_cases h0 : i < 80
  · exact mw_selA_0 i (by omega) h0
  by_cases h1 : i < 160
  · exact mw_selA_1 i (by omega) h1
  by_cases h2 : i < 240
  · exact mw_selA_2 i (by omega) h2
  exact mw_selA_3 i (by omega) (by omega)
def mw_fl1 (r : Nat × Nat × Nat × Nat) (p : Nat × Nat) : Bool := mw_ok (.fieldLink (m_cn r.1) r.2.1 (m_cl3 r.2.2.1).1 ((m_cl3 r.2.2.1).2.1 r.2.2.2).2.1 ((m_cl3 r.2.2.1).2.1 r.2.2.2).2.2.1) p
def mw_pz : Nat → MethodName := fun m => if m = 1000 then yX6_requireSuch else if m = 1001 then yX6_requireValid else if m = 1002 then yX6_requireNow else if m = 1003 then Lib.Math.max.name else if m = 1004 then Lib.Math.min.name else if m = 1007 then objectInit else m_nam m
def mw_ml1 (r : Nat × Nat × Nat × Nat) (p : Nat × Nat) : Bool := (p.1 == 9 && r.1 == 6 && (r.2.1 == 25 && r.2.2.1 == mX5_init || r.2.1 == 48 && r.2.2.1 == mX4_init) || mw_ok (.methodLink (m_cn r.1) r.2.1 (mw_pz r.2.2.1)) p) && decide ((parseMethodDescriptor (mw_pz r.2.2.1).desc).map (fun d => d.parameters.length) = some r.2.2.2)
theorem mw_fldA_0 : ∀ i, 0 ≤ i → i < 70 → mw_fl1 (mm_fldL.getD i (0, 0, 0, 0)) (mw_fld.getD i (9, 0)) = true := by
  intro i h1 h2
  have h : (List.range' 0 70).all (fun i => mw_fl1 (mm_fldL.getD i (0, 0, 0, 0)) (mw_fld.getD i (9, 0))) = true := by decide +kernel
  exact List.all_eq_true.mp h i (List.mem_range'_1.mpr ⟨h1, by omega⟩)
theorem mw_fldA_1 : ∀ i, 70 ≤ i → i < 90 → mw_fl1 (mm_fldL.getD i (0, 0, 0, 0)) (mw_fld.getD i (9, 0)) = true := by
  intro i h1 h2
  have h : (List.range' 70 20).all (fun i => mw_fl1 (mm_fldL.getD i (0, 0, 0, 0)) (mw_fld.getD i (9, 0))) = true := by decide +kernel
  exact List.all_eq_true.mp h i (List.mem_range'_1.mpr ⟨h1, by omega⟩)
theorem mw_fldA : ∀ i, i < 90 → mw_fl1 (mm_fldL.getD i (0, 0, 0, 0)) (mw_fld.getD i (9, 0)) = true := by
  intro i h
  by_cases h0 : i < 70
  · exact mw_fldA_0 i (by omega) h0
  exact mw_fldA_1 i (by omega) (by omega)
theorem mw_metA_0 : ∀ i, 0 ≤ i → i < 60 → mw_ml1 (mm_metL.getD i (0, 0, 0, 0)) (mw_met.getD i (9, 0)) = true := by
  intro i h1 h2
  have h : (List.range' 0 60).all (fun i => mw_ml1 (mm_metL.getD i (0, 0, 0, 0)) (mw_met.getD i (9, 0))) = true := by decide +kernel
  exact List.all_eq_true.mp h i (List.mem_range'_1.mpr ⟨h1, by omega⟩)
theorem mw_metA_1 : ∀ i, 60 ≤ i → i < 120 → mw_ml1 (mm_metL.getD i (0, 0, 0, 0)) (mw_met.getD i (9, 0)) = true := by
  intro i h1 h2
  have h : (List.range' 60 60).all (fun i => mw_ml1 (mm_metL.getD i (0, 0, 0, 0)) (mw_met.getD i (9, 0))) = true := by decide +kernel
  exact List.all_eq_true.mp h i (List.mem_range'_1.mpr ⟨h1, by omega⟩)
theorem mw_metA_2 : ∀ i, 120 ≤ i → i < 180 → mw_ml1 (mm_metL.getD i (0, 0, 0, 0)) (mw_met.getD i (9, 0)) = true := by
  intro i h1 h2
  have h : (List.range' 120 60).all (fun i => mw_ml1 (mm_metL.getD i (0, 0, 0, 0)) (mw_met.getD i (9, 0))) = true := by decide +kernel
  exact List.all_eq_true.mp h i (List.mem_range'_1.mpr ⟨h1, by omega⟩)
theorem mw_metA_3 : ∀ i, 180 ≤ i → i < 222 → mw_ml1 (mm_metL.getD i (0, 0, 0, 0)) (mw_met.getD i (9, 0)) = true := by
  intro i h1 h2
  have h : (List.range' 180 42).all (fun i => mw_ml1 (mm_metL.getD i (0, 0, 0, 0)) (mw_met.getD i (9, 0))) = true := by decide +kernel
  exact List.all_eq_true.mp h i (List.mem_range'_1.mpr ⟨h1, by omega⟩)
theorem mw_metA : ∀ i, i < 222 → mw_ml1 (mm_metL.getD i (0, 0, 0, 0)) (mw_met.getD i (9, 0)) = true := by
  intro i h
  by_cases h0 : i < 60
  · exact mw_metA_0 i (by omega) h0
  by_cases h1 : i < 120
  · exact mw_metA_1 i (by omega) h1
  by_cases h2 : i < 180
  · exact mw_metA_2 i (by omega) h2
  exact mw_metA_3 i (by omega) (by omega)
theorem mw_clsA : ((mm_clsL.zip mw_cls).all (fun r => mw_ok (.classLink (m_cn r.1.1) r.1.2.1 (m_cn r.1.2.2)) r.2)) = true := by decide +kernel
theorem mw_istA : ∀ c, c < 7 → mw_ok (.instantiable (m_cl3 c).1 (m_cl3 c).2.2) (mw_ist.getD c (9, 0)) = true := by decide +kernel
theorem mw_iniA : ∀ c, c < 9 → mw_ok (.initialized (m_cn c)) (mw_ini.getD c (9, 0)) = true := by decide +kernel
theorem mw_layA : ∀ c, c < 7 → (List.range (m_cl3 c).2.2).all (fun k => mw_ok (u_lay (m_cl3 c).1 (m_cl3 c).2.1 k) ((mw_lay.getD c []).getD k (9, 0))) = true := by decide +kernel
def mw_cw (r : Nat × Nat × Nat × Int) : Cond := if r.2.2.1 = 0 then .constant (m_cn r.1) r.2.1 (Int32.ofInt r.2.2.2) else .constantLong (m_cn r.1) r.2.1 (Int64.ofInt r.2.2.2)
theorem mw_conA : ((mm_conL.zip mw_con).all (fun r => r.1.2.2.1 == 3 || mw_ok (mw_cw r.1) r.2)) = true := by decide +kernel
end
section
/-! Numbers of the small machine against Int32 and Int64. -/
theorem w32_lo (x : Int) : -2147483648 ≤ w32 x := by
  have h := Int.le_bmod (x := x) (m := 4294967296) (by decide)
  unfold w32
  omega
theorem w32_hi (x : Int) : w32 x < 2147483648 := by
  have h := Int.bmod_lt (x := x) (m := 4294967296) (by decide)
  unfold w32
  omega
theorem w32_of {x : Int} (h1 : -2147483648 ≤ x) (h2 : x < 2147483648) : w32 x = x := Int.bmod_eq_of_le (by omega) (by omega)
theorem w64_of {x : Int} (h1 : -9223372036854775808 ≤ x) (h2 : x < 9223372036854775808) : w64 x = x := Int.bmod_eq_of_le (by omega) (by omega)
theorem w64_lo (x : Int) : -9223372036854775808 ≤ w64 x := by
  have h := Int.le_bmod (x := x) (m := 18446744073709551616) (by decide)
  unfold w64
  omega
theorem w64_hi (x : Int) : w64 x < 9223372036854775808 := by
  have h := Int.bmod_lt (x := x) (m := 18446744073709551616) (by decide)
  unfold w64
  omega
theorem mt_ti (x : Int) : (Int32.ofInt x).toInt = w32 x := Int32.toInt_ofInt
theorem mt_tl (x : Int) : (Int64.ofInt x).toInt = w64 x := Int64.toInt_ofInt
theorem mt_add (a b : Int) : Int32.ofInt a + Int32.ofInt b = Int32.ofInt (a + b) := (Int32.ofInt_add a b).symm
theorem mt_sub (a b : Int) : Int32.ofInt a - Int32.ofInt b = Int32.ofInt (a - b) := (Int32.ofInt_sub a b).symm
theorem mt_mul (a b : Int) : Int32.ofInt a * Int32.ofInt b = Int32.ofInt (a * b) := (Int32.ofInt_mul a b).symm
theorem mt_neg (a : Int) : -Int32.ofInt a = Int32.ofInt (-a) := (Int32.ofInt_neg a).symm
theorem mt_addl (a b : Int) : Int64.ofInt a + Int64.ofInt b = Int64.ofInt (a + b) := (Int64.ofInt_add a b).symm
theorem mt_subl (a b : Int) : Int64.ofInt a - Int64.ofInt b = Int64.ofInt (a - b) := (Int64.ofInt_sub a b).symm
theorem mt_mull (a b : Int) : Int64.ofInt a * Int64.ofInt b = Int64.ofInt (a * b) := (Int64.ofInt_mul a b).symm
theorem mt_back (x : Int32) : Int32.ofInt x.toInt = x := Int32.ofInt_toInt x
theorem mt_backl (x : Int64) : Int64.ofInt x.toInt = x := Int64.ofInt_toInt x
theorem mt_inj {x y : Int32} (h : x.toInt = y.toInt) : x = y := Int32.toInt_inj.mp h
theorem mt_injl {x y : Int64} (h : x.toInt = y.toInt) : x = y := Int64.toInt_inj.mp h
theorem mt_and (a b : Int) : Int32.ofInt a &&& Int32.ofInt b = Int32.ofInt (i_and a b) := (mt_back _).symm
theorem mt_or (a b : Int) : Int32.ofInt a ||| Int32.ofInt b = Int32.ofInt (i_or a b) := (mt_back _).symm
theorem mt_xor (a b : Int) : Int32.ofInt a ^^^ Int32.ofInt b = Int32.ofInt (i_xor a b) := (mt_back _).symm
theorem mt_shl (a b : Int) : Int32.ofInt a <<< (Int32.ofInt b &&& 31) = Int32.ofInt (i_shl a b) := (mt_back _).symm
theorem mt_shr (a b : Int) : Int32.ofInt a >>> (Int32.ofInt b &&& 31) = Int32.ofInt (i_shr a b) := (mt_back _).symm
theorem mt_ushr (a b : Int) : ((Int32.ofInt a).toUInt32 >>> ((Int32.ofInt b).toUInt32 &&& Int32.toUInt32 31)).toInt32 = Int32.ofInt (i_ushr a b) := (mt_back _).symm
theorem mt_div (a b : Int) : Int32.ofInt a / Int32.ofInt b = Int32.ofInt ((w32 a).tdiv (w32 b)) := by
  apply mt_inj
  rw [Int32.toInt_div, mt_ti, mt_ti, mt_ti]
  rfl
theorem mt_divl (a b : Int) : Int64.ofInt a / Int64.ofInt b = Int64.ofInt ((w64 a).tdiv (w64 b)) := by
  apply mt_injl
  rw [Int64.toInt_div, mt_tl, mt_tl, mt_tl]
  rfl
theorem mt_w32 (a : Int) : Int32.ofInt (w32 a) = Int32.ofInt a := by rw [← mt_ti, mt_back]
theorem mt_w64 (a : Int) : Int64.ofInt (w64 a) = Int64.ofInt a := by rw [← mt_tl, mt_backl]
theorem mt_rem (a b : Int) : Int32.ofInt a - Int32.ofInt a / Int32.ofInt b * Int32.ofInt b = Int32.ofInt ((w32 a).tmod (w32 b)) := by
  rw [mt_div, ← mt_w32 a, ← mt_w32 b, mt_mul, mt_sub, Int.tmod_def, Int.mul_comm]
theorem mt_reml (a b : Int) : Int64.ofInt a - Int64.ofInt a / Int64.ofInt b * Int64.ofInt b = Int64.ofInt ((w64 a).tmod (w64 b)) := by
  rw [mt_divl, ← mt_w64 a, ← mt_w64 b, mt_mull, mt_subl, Int.tmod_def, Int.mul_comm]
theorem mt_i2l (a : Int) : (Int32.ofInt a).toInt64 = Int64.ofInt (w32 a) := by
  apply mt_injl
  rw [Int32.toInt_toInt64, mt_ti, mt_tl, w64_of (by have := w32_lo a; omega) (by have := w32_hi a; omega)]
theorem mt_l2i (a : Int) : (Int64.ofInt a).toInt32 = Int32.ofInt a := by
  apply mt_inj
  rw [Int64.toInt_toInt32, mt_ti, mt_tl]
  exact Int.bmod_bmod_of_dvd (by decide)
theorem mt_bi (n : Int) : (Int8.ofInt n).toInt32 = Int32.ofInt (Int8.ofInt n).toInt := by
  rw [← Int8.toInt_toInt32, mt_back]
theorem mt_si (n : Int) : (Int16.ofInt n).toInt32 = Int32.ofInt (Int16.ofInt n).toInt := by
  rw [← Int16.toInt_toInt32, mt_back]
theorem mt_lc (n : Nat) : Int64.ofNat n = Int64.ofInt (n : Int) := (Int64.ofInt_eq_ofNat).symm
theorem mt_z32 : w32 0 = 0 := by decide
theorem mt_eq0 (a : Int) : Int32.ofInt a = 0 ↔ w32 a = 0 := by
  rw [← mt_ti, ← Int32.toInt_inj]
  rfl
theorem mt_lt0 (a : Int) : Int32.ofInt a < 0 ↔ w32 a < 0 := by
  rw [← mt_ti, Int32.lt_iff_toInt_lt]
  rfl
theorem mt_le0 (a : Int) : Int32.ofInt a ≤ 0 ↔ w32 a ≤ 0 := by
  rw [← mt_ti, Int32.le_iff_toInt_le]
  rfl
theorem mt_eq (a b : Int) : Int32.ofInt a = Int32.ofInt b ↔ w32 a = w32 b := by
  rw [← mt_ti, ← mt_ti, Int32.toInt_inj]
theorem mt_lt (a b : Int) : Int32.ofInt a < Int32.ofInt b ↔ w32 a < w32 b := by
  rw [← mt_ti, ← mt_ti, Int32.lt_iff_toInt_lt]
theorem mt_le (a b : Int) : Int32.ofInt a ≤ Int32.ofInt b ↔ w32 a ≤ w32 b := by
  rw [← mt_ti, ← mt_ti, Int32.le_iff_toInt_le]
theorem mt_eql (a b : Int) : Int64.ofInt a = Int64.ofInt b ↔ w64 a = w64 b := by
  rw [← mt_tl, ← mt_tl, Int64.toInt_inj]
theorem mt_ltl (a b : Int) : Int64.ofInt a < Int64.ofInt b ↔ w64 a < w64 b := by
  rw [← mt_tl, ← mt_tl, Int64.lt_iff_toInt_lt]
theorem mt_eq0l (a : Int) : Int64.ofInt a = 0 ↔ w64 a = 0 := by
  rw [← mt_tl, ← Int64.toInt_inj]
  rfl
theorem mt_cmp (a b : Int) : lg_cmp (Int64.ofInt a) (Int64.ofInt b) = Int32.ofInt (l_cmp a b) := by
  unfold lg_cmp l_cmp
  by_cases h1 : w64 b < w64 a
  · rw [if_pos h1, if_pos (show Int64.ofInt a > Int64.ofInt b from (mt_ltl b a).mpr h1)]
    rfl
  · rw [if_neg h1, if_neg (show ¬ Int64.ofInt a > Int64.ofInt b from fun h => h1 ((mt_ltl b a).mp h))]
    by_cases h2 : w64 a = w64 b
    · rw [if_pos h2, if_pos ((mt_eql a b).mpr h2)]
      rfl
    · rw [if_neg h2, if_neg (fun h => h2 ((mt_eql a b).mp h))]
      rfl
theorem mt_cl (a : Int) : (Int32.ofInt a).toNatClampNeg = (w32 a).toNat := by
  rw [← mt_ti]
  rfl
theorem mt_in {a : Int} {n : Nat} (h0 : 0 ≤ w32 a) (h1 : w32 a < n) : vp_in (Int32.ofInt a) n := by
  rw [vp_in_iff, mt_ti]
  exact ⟨h0, h1⟩
theorem mt_bool {a : Int} (h : w32 a = 0 ∨ w32 a = 1) : Int32.ofInt a = 0 ∨ Int32.ofInt a = 1 := by
  rw [← mt_w32]
  rcases h with h | h <;> rw [h]
  · exact Or.inl rfl
  · exact Or.inr rfl
end
section
/-! The small machine's heap and locals against the machine's. E: where the small cells begin, the script's cell, the String constants' cells, the classes of int[], long[], Network[], the classes' numbers. -/
abbrev mE : Type := Nat × Nat × (Nat → Nat) × (ClassId × ClassId × ClassId) × va_G
def mt_rf (E : mE) (x : Int) : Option Nat := match x with
  | .ofNat a => some (E.1 + a)
  | .negSucc _ => none
def mt_v (E : mE) (v : mV) : Value := match v with
  | (0, x) => .int (Int32.ofInt x)
  | (1, x) => .long (Int64.ofInt x)
  | (2, x) => va_rf (mt_rf E x)
  | (3, x) => .ref (E.2.2.1 x.toNat)
  | (4, _) => .ref E.2.1
  | _ => .null
def mt_f (E : mE) (ty : Nat) (r x : Int) : Value := if ty = 2 then va_rf (mt_rf E r) else if ty = 1 then .long (Int64.ofInt x) else .int (Int32.ofInt x)
def mt_fs (E : mE) (ci : Nat) (rf s : Nat → Int) : List Value := (List.range (m_tys ci).length).map (fun j => mt_f E (m_ty ci j) (rf j) (s j))
def mt_c (E : mE) (K : mK) (s : Nat → Int) : va_E :=
  if K.1 = 1 then .inr (K.2.1, mt_fs E K.2.1 K.2.2 s)
  else if K.1 = 2 then .inl (E.2.2.2.1.1, K.2.1, .inl (fun j => Int32.ofInt (s j)))
  else if K.1 = 3 then .inl (E.2.2.2.1.2.1, K.2.1, .inr (.inl (fun j => Int64.ofInt (s j))))
  else .inl (E.2.2.2.1.2.2, K.2.1, .inr (.inr (.inr (.inr (fun j => mt_rf E (K.2.2 j))))))
def mt_w (E : mE) (h : mH) : va_W := (List.range h.2.2.1).map (fun k => (E.1 + k, mt_c E (h.1 k) (h.2.1 k)))
def mt_A (E : mE) : Nat → Prop := fun q => E.1 ≤ q
def mt_tys (E : mE) : List (ClassId × FieldType) := [(E.2.2.2.1.1, .int), (E.2.2.2.1.2.2, .object RX1)]
def mt_R (E : mE) (h : mH) (H : Heap) : Prop := va_P E.2.2.2.2 vwCl (mt_w E h) H ∧ va_D (mt_A E) (mt_w E h)
theorem mt_w_at {E : mE} {h : mH} {a : Nat} (ha : a < h.2.2.1) : (mt_w E h)[a]? = some (E.1 + a, mt_c E (h.1 a) (h.2.1 a)) := by
  simp [mt_w, ha]
theorem mt_w_len (E : mE) (h : mH) : (mt_w E h).length = h.2.2.1 := by simp [mt_w]
theorem mt_w_set {E : mE} {h : mH} {a : Nat} {K : mK} {s : Nat → Int} {e : Nat × va_E} (he : e = (E.1 + a, mt_c E K s)) : (mt_w E h).set a e = mt_w E (m_up h.1 a K, m_up h.2.1 a s, h.2.2) := by
  subst he
  apply List.ext_getElem?
  intro i
  rw [List.getElem?_set]
  by_cases hi : i < h.2.2.1
  · by_cases hai : a = i
    · subst hai
      rw [if_pos rfl, if_pos (by rw [mt_w_len]; exact hi), mt_w_at (h := (m_up h.1 a K, m_up h.2.1 a s, h.2.2)) hi]
      simp [m_up]
    · rw [if_neg hai, mt_w_at hi, mt_w_at (h := (m_up h.1 a K, m_up h.2.1 a s, h.2.2)) hi]
      simp [m_up, show ¬ i = a from fun q => hai q.symm]
  · have n1 : (mt_w E h)[i]? = none := List.getElem?_eq_none (by rw [mt_w_len]; omega)
    have n2 : (mt_w E (m_up h.1 a K, m_up h.2.1 a s, h.2.2))[i]? = none := List.getElem?_eq_none (by rw [mt_w_len]; show h.2.2.1 ≤ i; omega)
    rw [n1, n2]
    by_cases hai : a = i
    · subst hai
      rw [if_pos rfl, if_neg (by rw [mt_w_len]; exact hi)]
    · rw [if_neg hai]
theorem m_up_self {α : Type} (f : Nat → α) (a : Nat) : m_up f a (f a) = f := by
  funext j
  unfold m_up
  split
  · next q => rw [q]
  · rfl
theorem m_up2_eq (f : Nat → Nat → Int) (a k : Nat) (v : Int) : m_up2 f a k v = m_up f a (m_up (f a) k v) := by
  funext b j
  unfold m_up2 m_up
  by_cases hb : b = a
  · subst hb
    by_cases hj : j = k
    · simp [hj]
    · simp [hj]
  · simp [hb]
theorem mt_w_set2 {E : mE} {h : mH} {a k : Nat} {v : Int} {e : Nat × va_E} (he : e = (E.1 + a, mt_c E (h.1 a) (m_up (h.2.1 a) k v))) : (mt_w E h).set a e = mt_w E (h.1, m_up2 h.2.1 a k v, h.2.2) := by
  rw [mt_w_set he, m_up_self, m_up2_eq]
theorem mt_w_setK {E : mE} {h : mH} {a : Nat} {K : mK} {e : Nat × va_E} (he : e = (E.1 + a, mt_c E K (h.2.1 a))) : (mt_w E h).set a e = mt_w E (m_up h.1 a K, h.2) := by
  rw [mt_w_set he, m_up_self]
theorem mt_w_push {E : mE} {h : mH} {K : mK} {n : Nat} {e : Nat × va_E} (he : e = (E.1 + h.2.2.1, mt_c E K (fun _ => 0))) : mt_w E h ++ [e] = mt_w E (m_newc K n h) := by
  subst he
  have e1 : mt_w E (m_newc K n h) = (List.range (h.2.2.1 + 1)).map (fun k => (E.1 + k, mt_c E (m_up h.1 h.2.2.1 K k) (m_up h.2.1 h.2.2.1 (fun _ => 0) k))) := rfl
  rw [e1, List.range_succ, List.map_append]
  congr 1
  · unfold mt_w
    apply List.map_congr_left
    intro k hk
    have hk := List.mem_range.mp hk
    simp [m_up, show ¬ k = h.2.2.1 by omega]
  · simp [m_up]
theorem mt_fs_at {E : mE} {ci : Nat} {rf s : Nat → Int} {k : Nat} (hk : k < (m_tys ci).length) : (mt_fs E ci rf s)[k]? = some (mt_f E (m_ty ci k) (rf k) (s k)) := by simp [mt_fs, hk]
theorem mt_fs_len (E : mE) (ci : Nat) (rf s : Nat → Int) : (mt_fs E ci rf s).length = (m_tys ci).length := by simp [mt_fs]
theorem mt_fs_set {E : mE} {ci : Nat} {rf s rf' s' : Nat → Int} {k : Nat} {v : Value} (hv : v = mt_f E (m_ty ci k) (rf' k) (s' k)) (h : ∀ j, j ≠ k → rf' j = rf j ∧ s' j = s j) : (mt_fs E ci rf s).set k v = mt_fs E ci rf' s' := by
  apply List.ext_getElem?
  intro i
  rw [List.getElem?_set]
  by_cases hi : i < (m_tys ci).length
  · by_cases hk : k = i
    · subst hk
      rw [if_pos rfl, if_pos (by rw [mt_fs_len]; exact hi), mt_fs_at hi, hv]
    · rw [if_neg hk, mt_fs_at hi, mt_fs_at hi, (h i (fun q => hk q.symm)).1, (h i (fun q => hk q.symm)).2]
  · have n1 : (mt_fs E ci rf s)[i]? = none := List.getElem?_eq_none (by rw [mt_fs_len]; omega)
    have n2 : (mt_fs E ci rf' s')[i]? = none := List.getElem?_eq_none (by rw [mt_fs_len]; omega)
    rw [n1, n2]
    by_cases hk : k = i
    · subst hk
      rw [if_pos rfl, if_neg (by rw [mt_fs_len]; exact hi)]
    · rw [if_neg hk]
-- the classes' tables
def m_tyF (c : Nat) : Nat → FieldType := ([tyX0, tyX1, tyX2, tyX3, tyX4, tyX5, tyX6] : List (Nat → FieldType)).getD c tyX0
def m_tyc (t : FieldType) : Nat := match t with
  | .int => 0
  | .long => 1
  | .boolean => 3
  | .object _ => 2
  | .array _ => 2
  | _ => 8
theorem mt_cls : ∀ c, c < 7 → vwCl[c]? = some (m_cl3 c) ∧ (m_cl3 c).2.2 = (m_tys c).length ∧ (m_cl3 c).1 = m_cn c := by
  intro c h
  rcases (show c = 0 ∨ c = 1 ∨ c = 2 ∨ c = 3 ∨ c = 4 ∨ c = 5 ∨ c = 6 by omega) with rfl | rfl | rfl | rfl | rfl | rfl | rfl <;> exact ⟨rfl, rfl, rfl⟩
theorem mt_tyok : ∀ c, c < 7 → ∀ k, k < (m_cl3 c).2.2 → parseFieldDescriptor ((m_cl3 c).2.1 k).2.2.1 = some (m_tyF c k) := by
  intro c h
  rcases (show c = 0 ∨ c = 1 ∨ c = 2 ∨ c = 3 ∨ c = 4 ∨ c = 5 ∨ c = 6 by omega) with rfl | rfl | rfl | rfl | rfl | rfl | rfl
  · exact tyX0_ok
  · exact tyX1_ok
  · exact tyX2_ok
  · exact tyX3_ok
  · exact tyX4_ok
  · exact tyX5_ok
  · exact tyX6_ok
theorem mt_nmok : ∀ c, c < 7 → ∀ a, a < (m_cl3 c).2.2 → ∀ b, b < (m_cl3 c).2.2 → a ≠ b → ((m_cl3 c).2.1 a).2.1 ≠ ((m_cl3 c).2.1 b).2.1 := by
  intro c h
  rcases (show c = 0 ∨ c = 1 ∨ c = 2 ∨ c = 3 ∨ c = 4 ∨ c = 5 ∨ c = 6 by omega) with rfl | rfl | rfl | rfl | rfl | rfl | rfl
  · exact nmX0
  · exact nmX1
  · exact nmX2
  · exact nmX3
  · exact nmX4
  · exact nmX5
  · exact nmX6
theorem mt_tyck : ∀ c, c < 7 → (List.range (m_tys c).length).all (fun k => m_tyc (m_tyF c k) == m_ty c k && (((m_cl3 c).2.1 k).2.2.2 == (m_ty c k == 2)) && (((m_cl3 c).2.1 k).1 == m_cn c)) = true := by decide +kernel
-- locals
theorem m_set1_len : ∀ (ls : List mV) (k : Nat) (v : mV), (m_set1 ls k v).length = ls.length
  | [], _, _ => rfl
  | _ :: _, 0, _ => rfl
  | [_], 1, _ => rfl
  | _ :: _ :: _, 1, _ => rfl
  | a :: l, k + 2, v => by rw [m_set1, List.length_cons, List.length_cons, m_set1_len l (k + 1) v]
theorem m_get_set1 : ∀ (ls : List mV) (k : Nat) (v : mV) (i : Nat), k < ls.length → m_get (m_set1 ls k v) i = if i = k then v else if i + 1 = k then m_kill (m_get ls i) else m_get ls i
  | [], k, v, i, h => absurd h (by simp)
  | a :: l, 0, v, i, h => by
    cases i with
    | zero => rfl
    | succ i => simp [m_set1, m_get]
  | [a], 1, v, i, h => absurd h (by simp)
  | a :: b :: l, 1, v, i, h => by
    match i with
    | 0 => rfl
    | 1 => rfl
    | i + 2 => simp [m_set1, m_get]
  | a :: l, k + 2, v, i, h => by
    cases i with
    | zero => simp [m_set1, m_get]
    | succ i =>
      show m_get (m_set1 l (k + 1) v) i = _
      rw [m_get_set1 l (k + 1) v i (by simp only [List.length_cons] at h; omega)]
      simp only [m_get]
      by_cases h1 : i = k + 1
      · simp [h1]
      · by_cases h2 : i + 1 = k + 1
        · simp [h1, h2]
        · simp [h1, h2, show ¬ i = k by omega]
theorem m_set2_len : ∀ (ls : List mV) (k : Nat) (v : mV), (m_set2 ls k v).length = ls.length
  | [], 0, _ => rfl
  | [], 1, _ => rfl
  | [], _ + 2, _ => rfl
  | [_], 0, _ => rfl
  | [_], 1, _ => rfl
  | _ :: _ :: _, 0, _ => rfl
  | [_, _], 1, _ => rfl
  | _ :: _ :: _ :: _, 1, _ => rfl
  | a :: l, k + 2, v => by rw [m_set2, List.length_cons, List.length_cons, m_set2_len l (k + 1) v]
theorem m_get_set2 : ∀ (ls : List mV) (k : Nat) (v : mV) (i : Nat), k + 1 < ls.length → m_get (m_set2 ls k v) i = if i = k then v else if i = k + 1 then (9, 0) else if i + 1 = k then m_kill (m_get ls i) else m_get ls i
  | [], k, v, i, h => absurd h (by simp)
  | [a], k, v, i, h => absurd h (by simp)
  | a :: b :: l, 0, v, i, h => by
    match i with
    | 0 => rfl
    | 1 => rfl
    | i + 2 => simp [m_set2, m_get]
  | [a, b], 1, v, i, h => absurd h (by simp)
  | a :: b :: c :: l, 1, v, i, h => by
    match i with
    | 0 => rfl
    | 1 => rfl
    | 2 => rfl
    | i + 3 => simp [m_set2, m_get]
  | a :: l, k + 2, v, i, h => by
    cases i with
    | zero => simp [m_set2, m_get]
    | succ i =>
      have e : m_set2 (a :: l) (k + 2) v = a :: m_set2 l (k + 1) v := by rw [m_set2]
      rw [e]
      show m_get (m_set2 l (k + 1) v) i = _
      rw [m_get_set2 l (k + 1) v i (by simp only [List.length_cons] at h; omega)]
      simp only [m_get]
      by_cases h1 : i = k + 1
      · simp [h1]
      · by_cases h2 : i = k + 2
        · simp [h2]
        · by_cases h3 : i + 1 = k + 1
          · simp [h1, h3]; omega
          · simp [h1, h2, h3, show ¬ i = k by omega]
theorem m_get_out : ∀ (ls : List mV) (i : Nat), ls.length ≤ i → m_get ls i = (9, 0)
  | [], _, _ => rfl
  | _ :: l, 0, h => absurd h (by simp)
  | _ :: l, i + 1, h => m_get_out l i (by simpa using h)
def mt_L (E : mE) (lsR : Array Slot) (nL : Nat) (ls : List mV) : Prop := lsR.size = nL ∧ ls.length = nL ∧ lv_wf lsR ∧ ∀ i, (m_get ls i).1 ≠ 9 → lsR[i]? = some (.val (mt_v E (m_get ls i)))
def mt_ls (E : mE) (ls : List mV) : List (Nat × Value) := (List.range ls.length).filterMap (fun i => if (m_get ls i).1 = 9 then none else some (i, mt_v E (m_get ls i)))
theorem mt_ls_mem {E : mE} {ls : List mV} {q : Nat × Value} : q ∈ mt_ls E ls ↔ (m_get ls q.1).1 ≠ 9 ∧ q.2 = mt_v E (m_get ls q.1) := by
  unfold mt_ls
  rw [List.mem_filterMap]
  constructor
  · rintro ⟨i, -, h⟩
    split at h
    · cases h
    · next n => cases h; exact ⟨n, rfl⟩
  · rintro ⟨h1, h2⟩
    refine ⟨q.1, List.mem_range.mpr ?_, ?_⟩
    · rcases Nat.lt_or_ge q.1 ls.length with z | z
      · exact z
      · exact absurd (by rw [m_get_out _ _ z]) h1
    · rw [if_neg h1, ← h2]
theorem mt_L.has {E : mE} {lsR : Array Slot} {nL : Nat} {ls : List mV} (h : mt_L E lsR nL ls) : lv_has lsR nL (mt_ls E ls) :=
  ⟨h.1, h.2.2.1, fun q hq => by obtain ⟨h1, h2⟩ := mt_ls_mem.mp hq; rw [h2]; exact h.2.2.2 _ h1⟩
theorem mt_cat (E : mE) (v : mV) : (mt_v E v).category = m_cat v := by
  obtain ⟨t, x⟩ := v
  match t with
  | 0 => rfl
  | 1 => rfl
  | 2 => cases x <;> rfl
  | 3 => rfl
  | 4 => rfl
  | _ + 5 => simp [mt_v, m_cat, Value.category]
theorem mt_L.set1 {E : mE} {lsR lsR' : Array Slot} {nL k : Nat} {ls : List mV} {v : mV} (h : mt_L E lsR nL ls) (hk : k < nL) (h' : lv_has lsR' nL ((k, mt_v E v) :: (mt_ls E ls).filter (fun q => !(q.1 == k) && !(q.1 + 1 == k && q.2.category == 2)))) : mt_L E lsR' nL (m_set1 ls k v) := by
  refine ⟨h'.1, by rw [m_set1_len]; exact h.2.1, h'.2.1, fun i hi => ?_⟩
  have hk' : k < ls.length := by rw [h.2.1]; exact hk
  rw [m_get_set1 _ _ _ _ hk'] at hi ⊢
  by_cases h1 : i = k
  · subst h1
    rw [if_pos rfl]
    exact h'.2.2 (i, mt_v E v) List.mem_cons_self
  · rw [if_neg h1] at hi ⊢
    have key : ∀ w : mV, w = m_get ls i → w.1 ≠ 9 → ¬ (i + 1 = k ∧ w.1 = 1) → lsR'[i]? = some (.val (mt_v E w)) := by
      intro w hw hw9 hn
      refine h'.2.2 (i, mt_v E w) (List.mem_cons_of_mem _ (List.mem_filter.mpr ⟨mt_ls_mem.mpr ⟨by rw [← hw]; exact hw9, by rw [hw]⟩, ?_⟩))
      have h3 : ¬ (i + 1 = k ∧ (mt_v E w).category = 2) := by
        rw [mt_cat]
        rintro ⟨a, b⟩
        refine hn ⟨a, ?_⟩
        unfold m_cat at b
        split at b
        · next q => exact q
        · cases b
      simp only [Bool.and_eq_true, Bool.not_eq_true', beq_eq_false_iff_ne, Bool.and_eq_false_imp, beq_iff_eq, ne_eq]
      exact ⟨h1, fun q1 q2 => h3 ⟨q1, q2⟩⟩
    by_cases h2 : i + 1 = k
    · rw [if_pos h2] at hi ⊢
      unfold m_kill at hi ⊢
      by_cases h4 : (m_get ls i).1 = 1
      · rw [if_pos h4] at hi
        exact absurd rfl hi
      · rw [if_neg h4] at hi ⊢
        exact key _ rfl hi (fun q => h4 q.2)
    · rw [if_neg h2] at hi ⊢
      exact key _ rfl hi (fun q => h2 q.1)
theorem mt_L.set2 {E : mE} {lsR lsR' : Array Slot} {nL k : Nat} {ls : List mV} {v : mV} (h : mt_L E lsR nL ls) (hk : k + 1 < nL) (h' : lv_has lsR' nL ((k, mt_v E v) :: (mt_ls E ls).filter (fun q => !(q.1 == k) && (!(q.1 == k + 1) && !(q.1 + 1 == k && q.2.category == 2))))) : mt_L E lsR' nL (m_set2 ls k v) := by
  refine ⟨h'.1, by rw [m_set2_len]; exact h.2.1, h'.2.1, fun i hi => ?_⟩
  have hk' : k + 1 < ls.length := by rw [h.2.1]; exact hk
  rw [m_get_set2 _ _ _ _ hk'] at hi ⊢
  by_cases h1 : i = k
  · subst h1
    rw [if_pos rfl]
    exact h'.2.2 (i, mt_v E v) List.mem_cons_self
  · rw [if_neg h1] at hi ⊢
    by_cases h5 : i = k + 1
    · rw [if_pos h5] at hi
      exact absurd rfl hi
    · rw [if_neg h5] at hi ⊢
      have key : ∀ w : mV, w = m_get ls i → w.1 ≠ 9 → ¬ (i + 1 = k ∧ w.1 = 1) → lsR'[i]? = some (.val (mt_v E w)) := by
        intro w hw hw9 hn
        refine h'.2.2 (i, mt_v E w) (List.mem_cons_of_mem _ (List.mem_filter.mpr ⟨mt_ls_mem.mpr ⟨by rw [← hw]; exact hw9, by rw [hw]⟩, ?_⟩))
        have h3 : ¬ (i + 1 = k ∧ (mt_v E w).category = 2) := by
          rw [mt_cat]
          rintro ⟨a, b⟩
          refine hn ⟨a, ?_⟩
          unfold m_cat at b
          split at b
          · next q => exact q
          · cases b
        simp only [Bool.and_eq_true, Bool.not_eq_true', beq_eq_false_iff_ne, Bool.and_eq_false_imp, beq_iff_eq, ne_eq]
        exact ⟨h1, h5, fun q1 q2 => h3 ⟨q1, q2⟩⟩
      by_cases h2 : i + 1 = k
      · rw [if_pos h2] at hi ⊢
        unfold m_kill at hi ⊢
        by_cases h4 : (m_get ls i).1 = 1
        · rw [if_pos h4] at hi
          exact absurd rfl hi
        · rw [if_neg h4] at hi ⊢
          exact key _ rfl hi (fun q => h4 q.2)
      · rw [if_neg h2] at hi ⊢
        exact key _ rfl hi (fun q => h2 q.1)
theorem mt_L.junk {E : mE} {lsR lsR' : Array Slot} {nL k q9 : Nat} {ls : List mV} (h : mt_L E lsR nL ls) (hk : k < nL) (h' : lv_has lsR' nL ((k, Value.ref q9) :: (mt_ls E ls).filter (fun q => !(q.1 == k) && !(q.1 + 1 == k && q.2.category == 2)))) : mt_L E lsR' nL (m_set1 ls k (9, 0)) := by
  refine ⟨h'.1, by rw [m_set1_len]; exact h.2.1, h'.2.1, fun i hi => ?_⟩
  have hk' : k < ls.length := by rw [h.2.1]; exact hk
  rw [m_get_set1 _ _ _ _ hk'] at hi ⊢
  by_cases h1 : i = k
  · rw [if_pos h1] at hi
    exact absurd rfl hi
  · rw [if_neg h1] at hi ⊢
    have key : ∀ w : mV, w = m_get ls i → w.1 ≠ 9 → ¬ (i + 1 = k ∧ w.1 = 1) → lsR'[i]? = some (.val (mt_v E w)) := by
      intro w hw hw9 hn
      refine h'.2.2 (i, mt_v E w) (List.mem_cons_of_mem _ (List.mem_filter.mpr ⟨mt_ls_mem.mpr ⟨by rw [← hw]; exact hw9, by rw [hw]⟩, ?_⟩))
      have h3 : ¬ (i + 1 = k ∧ (mt_v E w).category = 2) := by
        rw [mt_cat]
        rintro ⟨a, b⟩
        refine hn ⟨a, ?_⟩
        unfold m_cat at b
        split at b
        · next q => exact q
        · cases b
      simp only [Bool.and_eq_true, Bool.not_eq_true', beq_eq_false_iff_ne, Bool.and_eq_false_imp, beq_iff_eq, ne_eq]
      exact ⟨h1, fun q1 q2 => h3 ⟨q1, q2⟩⟩
    by_cases h2 : i + 1 = k
    · rw [if_pos h2] at hi ⊢
      unfold m_kill at hi ⊢
      by_cases h4 : (m_get ls i).1 = 1
      · rw [if_pos h4] at hi
        exact absurd rfl hi
      · rw [if_neg h4] at hi ⊢
        exact key _ rfl hi (fun q => h4 q.2)
    · rw [if_neg h2] at hi ⊢
      exact key _ rfl hi (fun q => h2 q.1)
-- entry
def mt_as (E : mE) (as : List mV) : List Value := as.map (mt_v E)
theorem mt_lay_len (E : mE) : ∀ as : List mV, (m_lay as).length = (lg_sl (mt_as E as)).length
  | [] => rfl
  | v :: l => by
    have ih := mt_lay_len E l
    simp only [m_lay, mt_as, List.map_cons, lg_sl, List.flatMap_cons, mt_cat, List.length_append]
    have e : (List.flatMap (fun v => if v.category = 2 then [Slot.val v, Slot.second] else [Slot.val v]) (List.map (mt_v E) l)).length = (m_lay l).length := ih.symm
    rw [e]
    unfold m_cat
    by_cases h : v.1 = 1
    · simp [h]; omega
    · simp [h]; omega
theorem m_get_app : ∀ (a b : List mV) (i : Nat), i < a.length → m_get (a ++ b) i = m_get a i
  | [], b, i, h => absurd h (by simp)
  | _ :: a, b, 0, h => rfl
  | _ :: a, b, i + 1, h => m_get_app a b i (by simpa using h)
theorem m_get_app2 : ∀ (a b : List mV) (i : Nat), a.length ≤ i → m_get (a ++ b) i = m_get b (i - a.length)
  | [], b, i, h => by simp
  | _ :: a, b, 0, h => absurd h (by simp)
  | _ :: a, b, i + 1, h => by
    show m_get (a ++ b) i = _
    rw [m_get_app2 a b i (by simpa using h)]
    simp
theorem m_get_rep : ∀ (n i : Nat), m_get (List.replicate n ((9, 0) : mV)) i = (9, 0)
  | 0, _ => rfl
  | n + 1, 0 => rfl
  | n + 1, i + 1 => by rw [List.replicate_succ]; exact m_get_rep n i
theorem mt_args (E : mE) : ∀ (as : List mV) (k i : Nat), (m_get (m_lay as) i).1 ≠ 9 → (k + i, mt_v E (m_get (m_lay as) i)) ∈ lv_args k (mt_as E as)
  | [], k, i, h => absurd rfl h
  | v :: l, k, i, h => by
    by_cases hv : v.1 = 1
    · have e : m_lay (v :: l) = v :: (9, 0) :: m_lay l := by simp [m_lay, hv]
      have e2 : (mt_v E v).category = 2 := by rw [mt_cat]; simp [m_cat, hv]
      rw [e] at h ⊢
      show _ ∈ (k, mt_v E v) :: lv_args (if (mt_v E v).category = 2 then k + 2 else k + 1) (mt_as E l)
      rw [if_pos e2]
      match i with
      | 0 => exact List.mem_cons_self
      | 1 => exact absurd rfl h
      | i + 2 =>
        have := mt_args E l (k + 2) i h
        rw [show k + (i + 2) = k + 2 + i by omega]
        exact List.mem_cons_of_mem _ this
    · have e : m_lay (v :: l) = v :: m_lay l := by simp [m_lay, hv]
      have e2 : ¬ (mt_v E v).category = 2 := by rw [mt_cat]; simp [m_cat, hv]
      rw [e] at h ⊢
      show _ ∈ (k, mt_v E v) :: lv_args (if (mt_v E v).category = 2 then k + 2 else k + 1) (mt_as E l)
      rw [if_neg e2]
      match i with
      | 0 => exact List.mem_cons_self
      | i + 1 =>
        have := mt_args E l (k + 1) i h
        rw [show k + (i + 1) = k + 1 + i by omega]
        exact List.mem_cons_of_mem _ this
theorem mt_entry {E : mE} {as : List mV} {n : Nat} {lsR : Array Slot} (hn : (m_lay as).length ≤ n) (h : lv_has lsR n (lv_args 0 (mt_as E as))) : mt_L E lsR n (m_ent n as) := by
  refine ⟨h.1, by simp [m_ent]; omega, h.2.1, fun i hi => ?_⟩
  unfold m_ent at hi ⊢
  rcases Nat.lt_or_ge i (m_lay as).length with z | z
  · rw [m_get_app _ _ _ z] at hi ⊢
    have := mt_args E as 0 i hi
    rw [Nat.zero_add] at this
    exact h.2.2 _ this
  · rw [m_get_app2 _ _ _ z, m_get_rep] at hi
    exact absurd rfl hi
end
section
/-! One instruction of the small machine (no call) is one of the machine's. -/
def mt_ws (m : Nat) : List Cond := (if m = 282 then [] else [m_cod m]) ++ lw_tbl.filter goodWord
/-- the exceptions -/
def m_exn (x : Nat) : String := if x = 0 then "java/lang/IndexOutOfBoundsException" else if x = 1 then "java/lang/IllegalArgumentException" else "java/lang/IllegalStateException"
def m_exi (x : Nat) : Nat := if x = 0 then 294 else if x = 1 then 301 else 306
def m_exs : List String := ["java/lang/RuntimeException", "java/lang/Exception"]
/-- the words of the exceptions that the tables alone don't give warm -/
def mt_fw : List Cond := [Cond.castable (m_exn 0) (m_exn 0), Cond.castable (m_exn 1) (m_exn 1), Cond.castable (m_exn 2) (m_exn 2)] ++ ((vx_atS RX6 294 (m_exn 0) m_exs ++ vx_atS RX6 301 (m_exn 1) m_exs ++ vx_atS RX6 306 (m_exn 2) m_exs).filter (fun w => !goodWord w))
def mt_X (E : mE) (Z : mZ) (U : State) (H : Heap) : Prop :=
  (va_X E.2.1 Z.1 Z.2 U H ∧ E.2.1 < E.1 ∧ E.1 ≤ H.size) ∧ va_AO RX1 U ∧ (va_Nw (.methodLinkNest RX6 25 yX5_init RX6) U ∧ va_Nw (.methodLinkNest RX6 48 yX4_init RX6) U) ∧
  (vx_Zq Bundle.tN "UNASSIGNED_STACK" Bundle.steD (mt_A E) U H ∧ vx_Zq Bundle.tN "SUPPRESSED_SENTINEL" Bundle.listD (mt_A E) U H ∧ (∃ a, vk_R RX6 292 "there is no such node, edge or stretch" a U) ∧ (∃ a, vk_R RX6 299 "an argument is out of range" a U) ∧ (∃ a, vk_R RX6 304 "not in this state" a U)) ∧
  ((∀ w ∈ mt_fw, va_Nw w U) ∧ (∀ x y : Nat, x < 3 → y < 3 → x ≠ y → va_Nc (m_exn x) (m_exn y) U))
def mt_K (E : mE) (Z : mZ) (U : State) : Prop := va_K E.2.2.2.2 vwCl (mt_tys E) U ∧ mt_X E Z U U.heap
def mt_n (h : mH) : Nat := h.2.2.1 + h.2.2.2.1
theorem mt_ge0 (a : Int) : 0 ≤ Int32.ofInt a ↔ 0 ≤ w32 a := by
  rw [← mt_ti, Int32.le_iff_toInt_le]
  rfl
theorem mt_gt0 (a : Int) : 0 < Int32.ofInt a ↔ 0 < w32 a := by
  rw [← mt_ti, Int32.lt_iff_toInt_lt]
  rfl
theorem mt_on (n : Nat) : Int32.ofNat n = Int32.ofInt (n : Int) := (Int32.ofInt_eq_ofNat).symm
theorem mt_updi (f : Nat → Int) (k : Nat) (v : Int) : upd (fun j => Int32.ofInt (f j)) k (Int32.ofInt v) = fun j => Int32.ofInt (m_up f k v j) := by
  funext j
  unfold upd m_up
  split <;> rfl
theorem mt_updl (f : Nat → Int) (k : Nat) (v : Int) : vp_updL (fun j => Int64.ofInt (f j)) k (Int64.ofInt v) = fun j => Int64.ofInt (m_up f k v j) := by
  funext j
  unfold vp_updL m_up
  split <;> rfl
theorem mt_updq (E : mE) (f : Nat → Int) (k v : Nat) : va_up (fun j => mt_rf E (f j)) k (some (E.1 + v)) = fun j => mt_rf E (m_up f k (v : Int) j) := by
  funext j
  unfold va_up m_up
  split <;> rfl
theorem mt_ite {c d : Prop} [Decidable c] [Decidable d] {a b : Int} (h : c ↔ d) : (if c then Int32.ofInt a else Int32.ofInt b) = Int32.ofInt (if d then a else b) := by
  by_cases q : c
  · rw [if_pos q, if_pos (h.mp q)]
  · rw [if_neg q, if_neg (fun z => q (h.mpr z))]
theorem mt_rfn (E : mE) : mt_rf E (-1) = none := rfl
theorem m_rok_of {m m' : Nat} (h : m_rok m m' = true) : (m_rom m').1 + 1 ≤ m_fra m ∧ 8 + ((m_rom m').2.2 + 11) + (m_rom m').2.1 ≤ m_loc m := of_decide_eq_true h
theorem mt_sumE (E : mE) : ∀ st : List mV, ((st.map (mt_v E)).map fun v => v.category).sum = m_sum st
  | [] => rfl
  | v :: l => by
    have ih := mt_sumE E l
    simp only [List.map_cons, List.sum_cons, m_sum, mt_cat] at ih ⊢
    rw [ih]
theorem mt_sum8 {E : mE} {st : List mV} (h : m_sum st ≤ 8) : ((st.map (mt_v E)).map fun v => v.category).sum ≤ 8 := by rw [mt_sumE]; exact h
theorem mt_arrK {D : va_G} {E : mE} {U : State} {cA : ClassId} {ty : FieldType} (h : va_K D vwCl (mt_tys E ++ [(cA, ty)]) U) : va_RA U cA ty := (h.2 2 (cA, ty) rfl).2
theorem mt_arr0 {D : va_G} {E : mE} {U : State} {cA : ClassId} (h : va_K D vwCl (mt_tys E) U) (h1 : va_K D vwCl (mt_tys E ++ [(cA, .int)]) U) : cA = E.2.2.2.1.1 := by
  have a1 : U.vm.findClass _ = some cA := mt_arrK h1
  have a2 : U.vm.findClass _ = some E.2.2.2.1.1 := (h.2 0 _ rfl).2
  exact Option.some.inj (a1.symm.trans a2)
theorem mt_arr2 {D : va_G} {E : mE} {U : State} {cA : ClassId} (h : va_K D vwCl (mt_tys E) U) (h1 : va_K D vwCl (mt_tys E ++ [(cA, .object RX1)]) U) : cA = E.2.2.2.1.2.2 := by
  obtain ⟨k1, c1, -, -, -, a1⟩ := mt_arrK h1
  obtain ⟨k2, c2, -, -, -, a2⟩ := (h.2 1 _ rfl).2
  exact Option.some.inj (a1.symm.trans a2)
theorem mw_arr0 : Cond.arrayClass (newarray.typeOf .int) ∈ lw_tbl ∧ goodWord (Cond.arrayClass (newarray.typeOf .int)) = true := mw_in (p := (1, 39)) (by decide +kernel)
theorem mw_obi1 : Cond.instanceMethod objectInit ∈ lw_tbl ∧ goodWord (Cond.instanceMethod objectInit) = true := mw_in (p := (1, 21)) (by decide +kernel)
theorem mw_obi2 : Cond.code objectInit ⟨#[0xb1]⟩ 1 none ∈ lw_tbl ∧ goodWord (Cond.code objectInit ⟨#[0xb1]⟩ 1 none) = true := mw_in (p := (1, 22)) (by decide +kernel)
theorem mw_max1 : Cond.static Lib.Math.max.name ∈ lw_tbl ∧ goodWord (Cond.static Lib.Math.max.name) = true := mw_in (p := (2, 139)) (by decide +kernel)
theorem mw_min1 : Cond.static Lib.Math.min.name ∈ lw_tbl ∧ goodWord (Cond.static Lib.Math.min.name) = true := mw_in (p := (3, 190)) (by decide +kernel)
theorem mw_max2 : Cond.initialized "java/lang/Math" ∈ lw_tbl ∧ goodWord (Cond.initialized "java/lang/Math") = true := mw_in (p := (1, 13)) (by decide +kernel)
theorem mw_max3 : Cond.code Lib.Math.max.name Lib.Math.max.code 2 (some .int) ∈ lw_tbl ∧ goodWord (Cond.code Lib.Math.max.name Lib.Math.max.code 2 (some .int)) = true := mw_in (p := (2, 140)) (by decide +kernel)
theorem mw_min3 : Cond.code Lib.Math.min.name Lib.Math.min.code 2 (some .int) ∈ lw_tbl ∧ goodWord (Cond.code Lib.Math.min.name Lib.Math.min.code 2 (some .int)) = true := mw_in (p := (3, 191)) (by decide +kernel)
theorem mt_metw {cl i m' np : Nat} (h : m_met cl i = some (m', np)) (h5 : m' ≠ mX5_init) (h4 : m' ≠ mX4_init) : (Cond.methodLink (m_cn cl) i (mw_pz m') ∈ lw_tbl ∧ goodWord (Cond.methodLink (m_cn cl) i (mw_pz m')) = true) ∧ (parseMethodDescriptor (mw_pz m').desc).map (fun d => d.parameters.length) = some np := by
  unfold m_met at h
  obtain ⟨r, h1, h2⟩ := Option.map_eq_some_iff.mp h
  have h3 := List.find?_some h1
  have h6 := List.mem_of_find?_eq_some h1
  simp only [Bool.and_eq_true, beq_iff_eq] at h3
  obtain ⟨a, b, cc, d⟩ := r
  dsimp only at h2 h3
  obtain ⟨rfl, rfl⟩ := h3
  cases h2
  obtain ⟨j, hj, e⟩ := List.mem_iff_getElem.mp h6
  have hl : mm_metL.length = 222 := by decide +kernel
  have h7 := mw_metA j (by omega)
  have e2 : mm_metL.getD j (0, 0, 0, 0) = (a, b, m', np) := by rw [List.getD_eq_getElem?_getD, List.getElem?_eq_getElem hj, e]; rfl
  rw [e2] at h7
  simp only [mw_ml1, Bool.and_eq_true, Bool.or_eq_true, decide_eq_true_eq, beq_iff_eq] at h7
  refine ⟨?_, h7.2⟩
  rcases h7.1 with ⟨-, h8⟩ | h8
  · rcases h8 with ⟨-, h8⟩ | ⟨-, h8⟩
    · exact absurd h8 h5
    · exact absurd h8 h4
  · exact mw_in h8
section MTS
variable {p : Program} {l : Launch} {e : Env} {R : Room} {s : State} {mid : MethodId} {args : Array Value} {below : List Frame} {meth : Method} {c : Code} {H : Heap} {locs : List Loc} {cells slots : Nat} {Q : State → Prop}
/-- a method's frame: the machine, the code, the words, the world that it began in -/
def mt_Cx (E : mE) (Z : mZ) (m : Nat) (p : Program) (R : Room) (s : State) (mid : MethodId) (args : Array Value) (meth : Method) (c : Code) : Prop :=
  (p.tables.exec = Jvm.exec ∧ c.code = m_byt m ∧ c.maxLocals = m_max m ∧ s.vm.findClass (m_cn (m_cls m)) = some mid.cls ∧ ∀ w ∈ mt_ws m, w.before args s = true) ∧
  meth.locks = false ∧ ((m_nam m).name = "<init>" → meth.name = "<init>") ∧ (m ≠ 282 → c.exceptionTable.toList = tableOf (m_han m)) ∧ (m_fra m ≤ R.frames ∧ m_loc m ≤ R.locals) ∧ mt_K E Z s ∧ meth.sig.returnType = m_rty m
theorem mt_size {g : JFrame} (k : H.size ≤ s.heap.size + cells → W p l e R s mid args below meth c H locs cells slots Q g) : W p l e R s mid args below meth c H locs cells slots Q g := by
  intro T hT X
  refine k ?_ T hT X
  obtain ⟨h1, h2, h3, h4, h5, h6⟩ := X.same
  rw [← hT]
  exact h3
theorem mt_tbl {m : Nat} {w : Cond} (h : w ∈ lw_tbl ∧ goodWord w = true) : w ∈ mt_ws m := List.mem_append_right _ (List.mem_filter.mpr h)
theorem mt_rm1 {E : mE} {r : List mV} {pc : Nat} {lsR : Array Slot} {st : List Value} (h : m_sum r ≤ 8) (h2 : 20 ≤ R.locals) : 2 * (F0 mid pc lsR st).monitorRoom + ((r.map (mt_v E)).map fun v => v.category).sum + 12 ≤ R.locals := by
  have h3 := lv_room (m := mid) (pc := pc) (ls := lsR) (rest := st) (mt_sum8 (E := E) h)
  omega
theorem mt_v0 (E : mE) {v : mV} (h : v.1 = 0) : mt_v E v = .int (Int32.ofInt v.2) := by obtain ⟨t, x⟩ := v; cases h; rfl
theorem mt_v1 (E : mE) {v : mV} (h : v.1 = 1) : mt_v E v = .long (Int64.ofInt v.2) := by obtain ⟨t, x⟩ := v; cases h; rfl
theorem mt_v2 (E : mE) {v : mV} (h : v.1 = 2 ∨ v.1 = 3 ∨ v.1 = 4) : (∃ a, mt_v E v = .ref a) ∨ mt_v E v = .null := by
  obtain ⟨t, x⟩ := v
  rcases h with h | h | h <;> cases h
  · cases x with
    | ofNat a => exact Or.inl ⟨_, rfl⟩
    | negSucc a => exact Or.inr rfl
  · exact Or.inl ⟨_, rfl⟩
  · exact Or.inl ⟨_, rfl⟩
theorem mt_fldw {cl i ci k : Nat} (h : m_fld cl i = some (ci, k)) : ci < 7 ∧ Cond.fieldLink (m_cn cl) i (m_cl3 ci).1 ((m_cl3 ci).2.1 k).2.1 ((m_cl3 ci).2.1 k).2.2.1 ∈ lw_tbl ∧ goodWord (Cond.fieldLink (m_cn cl) i (m_cl3 ci).1 ((m_cl3 ci).2.1 k).2.1 ((m_cl3 ci).2.1 k).2.2.1) = true := by
  unfold m_fld at h
  obtain ⟨r, h1, h2⟩ := Option.map_eq_some_iff.mp h
  have h3 := List.find?_some h1
  have h4 := List.mem_of_find?_eq_some h1
  simp only [Bool.and_eq_true, beq_iff_eq] at h3
  obtain ⟨a, b, cc, d⟩ := r
  dsimp only at h2 h3
  obtain ⟨rfl, rfl⟩ := h3
  cases h2
  refine ⟨?_, ?_⟩
  · have h5 : mm_fldL.all (fun r => decide (r.2.2.1 < 7)) = true := by decide +kernel
    exact of_decide_eq_true (List.all_eq_true.mp h5 _ h4)
  · obtain ⟨j, hj, e⟩ := List.mem_iff_getElem.mp h4
    have hl : mm_fldL.length = 90 := by decide +kernel
    have h6 := mw_fldA j (by omega)
    have e2 : mm_fldL.getD j (0, 0, 0, 0) = (a, b, ci, k) := by rw [List.getD_eq_getElem?_getD, List.getElem?_eq_getElem hj, e]; rfl
    rw [e2] at h6
    exact mw_in h6
theorem mt_layw {ci : Nat} (h : ci < 7) {m : Nat} : ∀ w ∈ u_ws (m_cl3 ci).1 (m_cl3 ci).2.1 (m_cl3 ci).2.2, w ∈ mt_ws m := by
  intro w hw
  obtain ⟨k, hk, rfl⟩ := List.mem_map.mp hw
  exact mt_tbl (mw_in (List.all_eq_true.mp (mw_layA ci h) k hk))
theorem mt_tyk {ci k : Nat} (h : ci < 7) (hk : k < (m_tys ci).length) : m_tyc (m_tyF ci k) = m_ty ci k ∧ ((m_cl3 ci).2.1 k).2.2.2 = (m_ty ci k == 2) ∧ ((m_cl3 ci).2.1 k).1 = m_cn ci := by
  have h1 := List.all_eq_true.mp (mt_tyck ci h) k (List.mem_range.mpr hk)
  simp only [Bool.and_eq_true, beq_iff_eq] at h1
  exact ⟨h1.1.1, h1.1.2, h1.2⟩
theorem m_tyc_i {t : FieldType} (h : m_tyc t = 0) : t = .int := by cases t <;> first | rfl | cases h
theorem m_tyc_l {t : FieldType} (h : m_tyc t = 1) : t = .long := by cases t <;> first | rfl | cases h
theorem m_tyc_z {t : FieldType} (h : m_tyc t = 3) : t = .boolean := by cases t <;> first | rfl | cases h
theorem mt_clw {cl i ci : Nat} (h : m_new cl i = some ci) : Cond.classLink (m_cn cl) i (m_cn ci) ∈ lw_tbl ∧ goodWord (Cond.classLink (m_cn cl) i (m_cn ci)) = true := by
  unfold m_new at h
  obtain ⟨r, h1, h2⟩ := Option.map_eq_some_iff.mp h
  have h3 := List.find?_some h1
  have h4 := List.mem_of_find?_eq_some h1
  simp only [Bool.and_eq_true, beq_iff_eq] at h3
  obtain ⟨a, b, d⟩ := r
  dsimp only at h2 h3
  obtain ⟨rfl, rfl⟩ := h3
  cases h2
  obtain ⟨j, hj, e⟩ := List.mem_iff_getElem.mp h4
  have hl : mm_clsL.length = mw_cls.length := by decide +kernel
  have h5 := List.all_eq_true.mp mw_clsA (mm_clsL[j], mw_cls[j]'(by omega)) (List.mem_iff_getElem.mpr ⟨j, by rw [List.length_zip]; omega, by rw [List.getElem_zip]⟩)
  dsimp only at h5
  rw [e] at h5
  exact mw_in h5
theorem mt_conw {cl i : Nat} {t : Nat} {v : Int} (h : m_con cl i = some (t, v)) (ht : t = 0 ∨ t = 1) : mw_cw (cl, i, t, v) ∈ lw_tbl ∧ goodWord (mw_cw (cl, i, t, v)) = true := by
  unfold m_con at h
  obtain ⟨r, h1, h2⟩ := Option.map_eq_some_iff.mp h
  have h3 := List.find?_some h1
  have h4 := List.mem_of_find?_eq_some h1
  simp only [Bool.and_eq_true, beq_iff_eq] at h3
  obtain ⟨a, b, d, d2⟩ := r
  dsimp only at h2 h3
  obtain ⟨rfl, rfl⟩ := h3
  cases h2
  obtain ⟨j, hj, e⟩ := List.mem_iff_getElem.mp h4
  have hl : mm_conL.length = mw_con.length := by decide +kernel
  have h5 := List.all_eq_true.mp mw_conA (mm_conL[j], mw_con[j]'(by omega)) (List.mem_iff_getElem.mpr ⟨j, by rw [List.length_zip]; omega, by rw [List.getElem_zip]⟩)
  dsimp only at h5
  rw [e] at h5
  dsimp only at h5
  rw [Bool.or_eq_true] at h5
  rcases h5 with h5 | h5
  · rw [beq_iff_eq] at h5; omega
  · exact mw_in h5
theorem m_br_inv {b : Bool} {m pc : Nat} {off : Int} {ls st : List mV} {h : mH} {s' : mS} (hm : m_br b m pc off ls st h = some (.inl s')) : ∃ t : Nat, (pc : Int) + off = (t : Int) ∧ s' = (m, (if b = true then t else pc + 3), ls, st, h) := by
  unfold m_br at hm
  split at hm
  · next t ht => cases hm; exact ⟨t, ht, rfl⟩
  · cases hm
theorem m_call_ni {m' np k m pc : Nat} {ls st : List mV} {h : mH} {s' : mS} : ¬ m_call m' np k m pc ls st h = some (.inl s') := by
  unfold m_call
  intro q
  by_cases c : m_kd m' = k ∧ m_rok m m' = true ∧ m_sum (st.drop (if k = 0 then np else np + 1)) ≤ 8 ∧ (if k = 0 then np else np + 1) ≤ st.length ∧ (k = 0 ∨ m_rcv m' (st.take (np + 1)).reverse h = true)
  · rw [if_pos c] at q; cases q
  · rw [if_neg c] at q; cases q
theorem m_jmp_inv {m pc : Nat} {off : Int} {ls st : List mV} {h : mH} {s' : mS} (hm : m_jmp m pc off ls st h = some (.inl s')) : ∃ t : Nat, (pc : Int) + off = (t : Int) ∧ s' = (m, t, ls, st, h) := by
  unfold m_jmp at hm
  split at hm
  · next t ht => cases hm; exact ⟨t, ht, rfl⟩
  · cases hm
theorem mt_dv {ci j : Nat} (h : ci < 7) (hj : j < (m_tys ci).length) (E : mE) : defaultValue (m_tyF ci j) = mt_f E (m_ty ci j) (-1) 0 := by
  have h1 := (mt_tyk h hj).1
  have h2 : m_ty ci j = 0 ∨ m_ty ci j = 1 ∨ m_ty ci j = 2 ∨ m_ty ci j = 3 := by
    have h5 : (List.range 7).all (fun ci => (List.range (m_tys ci).length).all (fun j => decide (m_ty ci j = 0 ∨ m_ty ci j = 1 ∨ m_ty ci j = 2 ∨ m_ty ci j = 3))) = true := by decide +kernel
    exact of_decide_eq_true (List.all_eq_true.mp (List.all_eq_true.mp h5 ci (List.mem_range.mpr h)) j (List.mem_range.mpr hj))
  rcases h2 with h2 | h2 | h2 | h2 <;> rw [h2] at h1 ⊢
  · rw [m_tyc_i h1]; rfl
  · rw [m_tyc_l h1]; rfl
  · generalize m_tyF ci j = t at h1 ⊢
    cases t <;> first | rfl | cases h1
  · rw [m_tyc_z h1]; rfl
theorem mt_new_at {E : mE} {h : mH} {q : Nat} {x : va_E} {H1 : Heap} {D : va_G} (hP : va_P D vwCl (mt_w E h ++ [(q, x)]) H1) (hD : va_D (mt_A E) (mt_w E h ++ [(q, x)])) (hz : H1.size ≤ E.1 + h.2.2.1 + 1) : q = E.1 + h.2.2.1 := by
  have e1 : (mt_w E h ++ [(q, x)])[h.2.2.1]? = some (q, x) := by rw [List.getElem?_append_right (by rw [mt_w_len]; exact Nat.le_refl _), mt_w_len]; simp
  have h1 : q < H1.size := (hP _ _ e1).lt
  have h2 : E.1 ≤ q := hD.2 _ _ e1
  rcases Nat.lt_or_ge q (E.1 + h.2.2.1) with z | z
  · have e2 : (mt_w E h ++ [(q, x)])[q - E.1]? = some (E.1 + (q - E.1), mt_c E (h.1 (q - E.1)) (h.2.1 (q - E.1))) := by
      rw [List.getElem?_append_left (by rw [mt_w_len]; omega)]
      exact mt_w_at (by omega)
    have h3 := hD.1 _ _ _ _ e1 e2 (by show q = E.1 + (q - E.1); omega)
    omega
  · omega

set_option maxHeartbeats 4000000 in
theorem mt_step {E : mE} {Z : mZ} {m pc len : Nat} {ins : Instr} {ls st : List mV} {h : mH} {s' : mS} {lsR : Array Slot} (C : mt_Cx E Z m p R s mid args meth c) (hd : decode (m_byt m) pc = .ok (ins, len)) (ho : m_okl ins len = true) (hm : m_ins Z ins m pc ls st h = some (.inl s'))
    (hL : mt_L E lsR (m_max m) ls) (hR : mt_R E h H) (hS : va_S (mt_A E) s.heap H locs) (hz : h.2.2.2.1 = 0 → s.heap.size + cells ≤ E.1 + h.2.2.1) (hc1 : cells + mt_n s'.2.2.2.2 ≤ R.cells + mt_n h) (hc2 : slots + s'.2.2.2.2.2.2.2.2 ≤ R.slots + h.2.2.2.2) (hc3 : cells ≤ R.cells ∧ slots ≤ R.slots)
    (K : ∀ (cells' slots' : Nat) (lsR' : Array Slot) (H' : Heap) (locs' : List Loc), cells' + mt_n h = cells + mt_n s'.2.2.2.2 → slots' + h.2.2.2.2 = slots + s'.2.2.2.2.2.2.2.2 → mt_L E lsR' (m_max m) s'.2.2.1 → mt_R E s'.2.2.2.2 H' → va_S (mt_A E) s.heap H' locs' → W p l e R s mid args below meth c H' locs' cells' slots' Q (F0 mid s'.2.1 lsR' (s'.2.2.2.1.map (mt_v E)))) :
    W p l e R s mid args below meth c H locs cells slots Q (F0 mid pc lsR (st.map (mt_v E))) := by
  obtain ⟨⟨hx, hb, hml, hown, hts⟩, hlk, hnm, hex, ⟨hRf, hRl⟩, ⟨hK, hXX⟩, hrt⟩ := C
  obtain ⟨⟨hX, hbl, hB⟩, hAO, -⟩ := hXX
  obtain ⟨hP, hD⟩ := hR
  have hA : ∀ q, s.heap.size ≤ q → mt_A E q := fun q h => Nat.le_trans hB h
  have hbs : E.2.1 < s.heap.size := Nat.lt_of_lt_of_le hbl hB
  have hbA : ¬ mt_A E E.2.1 := Nat.not_le.mpr hbl
  cases ins
  case iload_n k =>
    obtain rfl : len = 1 := by simpa [m_okl] using ho
    simp only [m_ins, m_ld] at hm
    split at hm
    · next hc =>
      unfold m_go at hm; cases hm
      have hg := hL.2.2.2 k (by rw [hc]; decide)
      have K' := K cells slots lsR H locs rfl rfl hL ⟨hP, hD⟩ hS
      rw [mt_v0 E hc] at hg
      simp only [List.map_cons, mt_v0 E hc] at K'
      exact lv_iload_n hx hb hd rfl hg K'
    · cases hm
  case iload k =>
    obtain rfl : len = 2 := by simpa [m_okl] using ho
    simp only [m_ins, m_ld] at hm
    split at hm
    · next hc =>
      unfold m_go at hm; cases hm
      have hg := hL.2.2.2 k (by rw [hc]; decide)
      have K' := K cells slots lsR H locs rfl rfl hL ⟨hP, hD⟩ hS
      rw [mt_v0 E hc] at hg
      simp only [List.map_cons, mt_v0 E hc] at K'
      exact lv_iload hx hb hd hg K'
    · cases hm
  case lload_n k =>
    obtain rfl : len = 1 := by simpa [m_okl] using ho
    simp only [m_ins, m_ld] at hm
    split at hm
    · next hc =>
      unfold m_go at hm; cases hm
      have hg := hL.2.2.2 k (by rw [hc]; decide)
      have K' := K cells slots lsR H locs rfl rfl hL ⟨hP, hD⟩ hS
      rw [mt_v1 E hc] at hg
      simp only [List.map_cons, mt_v1 E hc] at K'
      exact lv_lload_n hx hb hd rfl hg K'
    · cases hm
  case lload k =>
    obtain rfl : len = 2 := by simpa [m_okl] using ho
    simp only [m_ins, m_ld] at hm
    split at hm
    · next hc =>
      unfold m_go at hm; cases hm
      have hg := hL.2.2.2 k (by rw [hc]; decide)
      have K' := K cells slots lsR H locs rfl rfl hL ⟨hP, hD⟩ hS
      rw [mt_v1 E hc] at hg
      simp only [List.map_cons, mt_v1 E hc] at K'
      exact lv_lload hx hb hd hg K'
    · cases hm
  case aload_n k =>
    obtain rfl : len = 1 := by simpa [m_okl] using ho
    simp only [m_ins] at hm
    split at hm
    · next hc =>
      unfold m_go at hm; cases hm
      have hg := hL.2.2.2 k (by rcases hc with hc | hc | hc <;> rw [hc] <;> decide)
      have K' := K cells slots lsR H locs rfl rfl hL ⟨hP, hD⟩ hS
      rcases mt_v2 E hc with ⟨a, ha⟩ | ha
      · rw [ha] at hg
        simp only [List.map_cons, ha] at K'
        exact lv_aload_n hx hb hd rfl hg K'
      · rw [ha] at hg
        simp only [List.map_cons, ha] at K'
        exact lv_aload_nN hx hb hd rfl hg K'
    · cases hm
  case aload k =>
    obtain rfl : len = 2 := by simpa [m_okl] using ho
    simp only [m_ins] at hm
    split at hm
    · next hc =>
      unfold m_go at hm; cases hm
      have hg := hL.2.2.2 k (by rcases hc with hc | hc | hc <;> rw [hc] <;> decide)
      have K' := K cells slots lsR H locs rfl rfl hL ⟨hP, hD⟩ hS
      rcases mt_v2 E hc with ⟨a, ha⟩ | ha
      · rw [ha] at hg
        simp only [List.map_cons, ha] at K'
        exact lv_aload hx hb hd hg K'
      · rw [ha] at hg
        simp only [List.map_cons, ha] at K'
        exact lv_aloadN hx hb hd hg K'
    · cases hm
  case istore_n k =>
    obtain rfl : len = 1 := by simpa [m_okl] using ho
    simp only [m_ins] at hm
    split at hm
    · next v r =>
      unfold m_st1 m_go at hm
      split at hm
      · next hk =>
        cases hm
        rw [hL.2.1] at hk
        exact lv_istore_n hx hb hd rfl hL.has hk rfl (fun lsR' h' => K cells slots lsR' H locs rfl rfl (hL.set1 (v := (0, v)) hk h') ⟨hP, hD⟩ hS)
      · cases hm
    · cases hm
  case istore k =>
    obtain rfl : len = 2 := by simpa [m_okl] using ho
    simp only [m_ins] at hm
    split at hm
    · next v r =>
      unfold m_st1 m_go at hm
      split at hm
      · next hk =>
        cases hm
        rw [hL.2.1] at hk
        exact lv_istore hx hb hd hL.has hk rfl (fun lsR' h' => K cells slots lsR' H locs rfl rfl (hL.set1 (v := (0, v)) hk h') ⟨hP, hD⟩ hS)
      · cases hm
    · cases hm
  case lstore_n k =>
    obtain rfl : len = 1 := by simpa [m_okl] using ho
    simp only [m_ins] at hm
    split at hm
    · next v r =>
      unfold m_st2 m_go at hm
      split at hm
      · next hk =>
        cases hm
        rw [hL.2.1] at hk
        exact lv_lstore_n hx hb hd rfl hL.has hk rfl (fun lsR' h' => K cells slots lsR' H locs rfl rfl (hL.set2 (v := (1, v)) hk h') ⟨hP, hD⟩ hS)
      · cases hm
    · cases hm
  case lstore k =>
    obtain rfl : len = 2 := by simpa [m_okl] using ho
    simp only [m_ins] at hm
    split at hm
    · next v r =>
      unfold m_st2 m_go at hm
      split at hm
      · next hk =>
        cases hm
        rw [hL.2.1] at hk
        exact lv_lstore hx hb hd hL.has hk rfl (fun lsR' h' => K cells slots lsR' H locs rfl rfl (hL.set2 (v := (1, v)) hk h') ⟨hP, hD⟩ hS)
      · cases hm
    · cases hm
  case astore_n k =>
    obtain rfl : len = 1 := by simpa [m_okl] using ho
    simp only [m_ins] at hm
    split at hm
    · next v r =>
      unfold m_st1 m_go at hm
      split at hm
      · next hk =>
        cases hm
        rw [hL.2.1] at hk
        cases v with
        | ofNat a => exact lv_astore_n hx hb hd rfl hL.has hk rfl (fun lsR' h' => K cells slots lsR' H locs rfl rfl (hL.set1 (v := (2, .ofNat a)) hk h') ⟨hP, hD⟩ hS)
        | negSucc a => exact lv_astore_nN hx hb hd rfl hL.has hk rfl (fun lsR' h' => K cells slots lsR' H locs rfl rfl (hL.set1 (v := (2, .negSucc a)) hk h') ⟨hP, hD⟩ hS)
      · cases hm
    · next v r =>
      unfold m_st1 m_go at hm
      split at hm
      · next hk =>
        cases hm
        rw [hL.2.1] at hk
        exact lv_astore_n hx hb hd rfl hL.has hk rfl (fun lsR' h' => K cells slots lsR' H locs rfl rfl (hL.set1 (v := (3, v)) hk h') ⟨hP, hD⟩ hS)
      · cases hm
    · cases hm
  case astore k =>
    obtain rfl : len = 2 := by simpa [m_okl] using ho
    simp only [m_ins] at hm
    split at hm
    · next v r =>
      unfold m_st1 m_go at hm
      split at hm
      · next hk =>
        cases hm
        rw [hL.2.1] at hk
        cases v with
        | ofNat a => exact lv_astore hx hb hd hL.has hk rfl (fun lsR' h' => K cells slots lsR' H locs rfl rfl (hL.set1 (v := (2, .ofNat a)) hk h') ⟨hP, hD⟩ hS)
        | negSucc a => exact lv_astoreN hx hb hd hL.has hk rfl (fun lsR' h' => K cells slots lsR' H locs rfl rfl (hL.set1 (v := (2, .negSucc a)) hk h') ⟨hP, hD⟩ hS)
      · cases hm
    · next v r =>
      unfold m_st1 m_go at hm
      split at hm
      · next hk =>
        cases hm
        rw [hL.2.1] at hk
        exact lv_astore hx hb hd hL.has hk rfl (fun lsR' h' => K cells slots lsR' H locs rfl rfl (hL.set1 (v := (3, v)) hk h') ⟨hP, hD⟩ hS)
      · cases hm
    · cases hm
  case iinc k n =>
    obtain rfl : len = 3 := by simpa [m_okl] using ho
    simp only [m_ins] at hm
    split at hm
    · next hc =>
      unfold m_st1 m_go at hm
      split at hm
      · next hk =>
        cases hm
        rw [hL.2.1] at hk
        have hmem : (k, mt_v E (m_get ls k)) ∈ mt_ls E ls := mt_ls_mem.mpr ⟨by rw [hc]; decide, rfl⟩
        obtain ⟨j, hj⟩ := List.getElem?_of_mem hmem
        rw [mt_v0 E hc] at hj
        exact lv_iinc hx hb hd hL.has hj (mt_add _ _) hk rfl (fun lsR' h' => K cells slots lsR' H locs rfl rfl (hL.set1 (v := (0, (m_get ls k).2 + n)) hk h') ⟨hP, hD⟩ hS)
      · cases hm
    · cases hm
  case iconst n =>
    obtain rfl : len = 1 := by simpa [m_okl] using ho
    simp only [m_ins] at hm
    unfold m_go at hm; cases hm
    exact lv_iconst hx hb hd rfl (K cells slots lsR H locs rfl rfl hL ⟨hP, hD⟩ hS)
  case lconst n =>
    obtain rfl : len = 1 := by simpa [m_okl] using ho
    simp only [m_ins] at hm
    unfold m_go at hm; cases hm
    exact lv_lconst hx hb hd (mt_lc _) (K cells slots lsR H locs rfl rfl hL ⟨hP, hD⟩ hS)
  case bipush n =>
    obtain rfl : len = 2 := by simpa [m_okl] using ho
    simp only [m_ins] at hm
    unfold m_go at hm; cases hm
    exact lv_bipush hx hb hd (mt_bi _) (K cells slots lsR H locs rfl rfl hL ⟨hP, hD⟩ hS)
  case sipush n =>
    obtain rfl : len = 3 := by simpa [m_okl] using ho
    simp only [m_ins] at hm
    unfold m_go at hm; cases hm
    exact lv_sipush hx hb hd (mt_si _) (K cells slots lsR H locs rfl rfl hL ⟨hP, hD⟩ hS)
  case aconst_null =>
    obtain rfl : len = 1 := by simpa [m_okl] using ho
    simp only [m_ins] at hm
    unfold m_go at hm; cases hm
    exact lv_null hx hb hd (K cells slots lsR H locs rfl rfl hL ⟨hP, hD⟩ hS)
  case ldc i =>
    obtain rfl : len = 2 := by simpa [m_okl] using ho
    simp only [m_ins] at hm
    split at hm
    · next v hv =>
      unfold m_go at hm; cases hm
      exact lv_ldc hx hb hown (hts _ (mt_tbl (mt_conw hv (Or.inl rfl)))) hd (K cells slots lsR H locs rfl rfl hL ⟨hP, hD⟩ hS)
    · cases hm
  case ldc2_w i =>
    obtain rfl : len = 3 := by simpa [m_okl] using ho
    simp only [m_ins] at hm
    split at hm
    · next v hv =>
      unfold m_go at hm; cases hm
      exact lv_ldc2 hx hb hown (hts _ (mt_tbl (mt_conw hv (Or.inr rfl)))) hd (K cells slots lsR H locs rfl rfl hL ⟨hP, hD⟩ hS)
    · cases hm
  case iadd =>
    obtain rfl : len = 1 := by simpa [m_okl] using ho
    simp only [m_ins, m_bin] at hm
    split at hm
    · next b a r =>
      unfold m_go at hm; cases hm
      have K' := K cells slots lsR H locs rfl rfl hL ⟨hP, hD⟩ hS
      simp only [List.map_cons, mt_v] at K' ⊢
      rw [← mt_add] at K'
      exact lv_iadd hx hb hd K'
    · cases hm
  case isub =>
    obtain rfl : len = 1 := by simpa [m_okl] using ho
    simp only [m_ins, m_bin] at hm
    split at hm
    · next b a r =>
      unfold m_go at hm; cases hm
      have K' := K cells slots lsR H locs rfl rfl hL ⟨hP, hD⟩ hS
      simp only [List.map_cons, mt_v] at K' ⊢
      rw [← mt_sub] at K'
      exact lv_isub hx hb hd K'
    · cases hm
  case imul =>
    obtain rfl : len = 1 := by simpa [m_okl] using ho
    simp only [m_ins, m_bin] at hm
    split at hm
    · next b a r =>
      unfold m_go at hm; cases hm
      have K' := K cells slots lsR H locs rfl rfl hL ⟨hP, hD⟩ hS
      simp only [List.map_cons, mt_v] at K' ⊢
      rw [← mt_mul] at K'
      exact lv_imul hx hb hd K'
    · cases hm
  case iand =>
    obtain rfl : len = 1 := by simpa [m_okl] using ho
    simp only [m_ins, m_bin] at hm
    split at hm
    · next b a r =>
      unfold m_go at hm; cases hm
      have K' := K cells slots lsR H locs rfl rfl hL ⟨hP, hD⟩ hS
      simp only [List.map_cons, mt_v] at K' ⊢
      rw [← mt_and] at K'
      exact lv_iand hx hb hd K'
    · cases hm
  case ior =>
    obtain rfl : len = 1 := by simpa [m_okl] using ho
    simp only [m_ins, m_bin] at hm
    split at hm
    · next b a r =>
      unfold m_go at hm; cases hm
      have K' := K cells slots lsR H locs rfl rfl hL ⟨hP, hD⟩ hS
      simp only [List.map_cons, mt_v] at K' ⊢
      rw [← mt_or] at K'
      exact lv_ior hx hb hd K'
    · cases hm
  case ixor =>
    obtain rfl : len = 1 := by simpa [m_okl] using ho
    simp only [m_ins, m_bin] at hm
    split at hm
    · next b a r =>
      unfold m_go at hm; cases hm
      have K' := K cells slots lsR H locs rfl rfl hL ⟨hP, hD⟩ hS
      simp only [List.map_cons, mt_v] at K' ⊢
      rw [← mt_xor] at K'
      exact lv_ixor hx hb hd K'
    · cases hm
  case ishl =>
    obtain rfl : len = 1 := by simpa [m_okl] using ho
    simp only [m_ins, m_bin] at hm
    split at hm
    · next b a r =>
      unfold m_go at hm; cases hm
      have K' := K cells slots lsR H locs rfl rfl hL ⟨hP, hD⟩ hS
      simp only [List.map_cons, mt_v] at K' ⊢
      rw [← mt_shl] at K'
      exact lv_ishl hx hb hd K'
    · cases hm
  case ishr =>
    obtain rfl : len = 1 := by simpa [m_okl] using ho
    simp only [m_ins, m_bin] at hm
    split at hm
    · next b a r =>
      unfold m_go at hm; cases hm
      have K' := K cells slots lsR H locs rfl rfl hL ⟨hP, hD⟩ hS
      simp only [List.map_cons, mt_v] at K' ⊢
      rw [← mt_shr] at K'
      exact lv_ishr hx hb hd K'
    · cases hm
  case ladd =>
    obtain rfl : len = 1 := by simpa [m_okl] using ho
    simp only [m_ins, m_binl] at hm
    split at hm
    · next b a r =>
      unfold m_go at hm; cases hm
      have K' := K cells slots lsR H locs rfl rfl hL ⟨hP, hD⟩ hS
      simp only [List.map_cons, mt_v] at K' ⊢
      rw [← mt_addl] at K'
      exact lv_ladd hx hb hd K'
    · cases hm
  case lsub =>
    obtain rfl : len = 1 := by simpa [m_okl] using ho
    simp only [m_ins, m_binl] at hm
    split at hm
    · next b a r =>
      unfold m_go at hm; cases hm
      have K' := K cells slots lsR H locs rfl rfl hL ⟨hP, hD⟩ hS
      simp only [List.map_cons, mt_v] at K' ⊢
      rw [← mt_subl] at K'
      exact lv_lsub hx hb hd K'
    · cases hm
  case lmul =>
    obtain rfl : len = 1 := by simpa [m_okl] using ho
    simp only [m_ins, m_binl] at hm
    split at hm
    · next b a r =>
      unfold m_go at hm; cases hm
      have K' := K cells slots lsR H locs rfl rfl hL ⟨hP, hD⟩ hS
      simp only [List.map_cons, mt_v] at K' ⊢
      rw [← mt_mull] at K'
      exact lv_lmul hx hb hd K'
    · cases hm
  case iushr =>
    obtain rfl : len = 1 := by simpa [m_okl] using ho
    simp only [m_ins, m_bin] at hm
    split at hm
    · next b a r =>
      unfold m_go at hm; cases hm
      exact lv_iushr hx hb hd (mt_ushr a b) (K cells slots lsR H locs rfl rfl hL ⟨hP, hD⟩ hS)
    · cases hm
  case idiv =>
    obtain rfl : len = 1 := by simpa [m_okl] using ho
    simp only [m_ins] at hm
    split at hm
    · next b a r =>
      split at hm
      · cases hm
      · next hne =>
        unfold m_go at hm; cases hm
        have K' := K cells slots lsR H locs rfl rfl hL ⟨hP, hD⟩ hS
        simp only [List.map_cons, mt_v] at K' ⊢
        rw [← mt_div] at K'
        exact lv_idiv hx hb hd (fun q => hne ((mt_eq0 b).mp q)) K'
    · cases hm
  case irem =>
    obtain rfl : len = 1 := by simpa [m_okl] using ho
    simp only [m_ins] at hm
    split at hm
    · next b a r =>
      split at hm
      · cases hm
      · next hne =>
        unfold m_go at hm; cases hm
        have K' := K cells slots lsR H locs rfl rfl hL ⟨hP, hD⟩ hS
        simp only [List.map_cons, mt_v] at K' ⊢
        rw [← mt_rem] at K'
        exact lv_irem hx hb hd (fun q => hne ((mt_eq0 b).mp q)) K'
    · cases hm
  case ldiv =>
    obtain rfl : len = 1 := by simpa [m_okl] using ho
    simp only [m_ins] at hm
    split at hm
    · next b a r =>
      split at hm
      · cases hm
      · next hne =>
        unfold m_go at hm; cases hm
        have K' := K cells slots lsR H locs rfl rfl hL ⟨hP, hD⟩ hS
        simp only [List.map_cons, mt_v] at K' ⊢
        rw [← mt_divl] at K'
        exact lv_ldiv hx hb hd (fun q => hne ((mt_eq0l b).mp q)) K'
    · cases hm
  case lrem =>
    obtain rfl : len = 1 := by simpa [m_okl] using ho
    simp only [m_ins] at hm
    split at hm
    · next b a r =>
      split at hm
      · cases hm
      · next hne =>
        unfold m_go at hm; cases hm
        have K' := K cells slots lsR H locs rfl rfl hL ⟨hP, hD⟩ hS
        simp only [List.map_cons, mt_v] at K' ⊢
        rw [← mt_reml] at K'
        exact lv_lrem hx hb hd (fun q => hne ((mt_eq0l b).mp q)) K'
    · cases hm
  case ineg =>
    obtain rfl : len = 1 := by simpa [m_okl] using ho
    simp only [m_ins] at hm
    split at hm
    · next a r =>
      unfold m_go at hm; cases hm
      have K' := K cells slots lsR H locs rfl rfl hL ⟨hP, hD⟩ hS
      simp only [List.map_cons, mt_v] at K' ⊢
      rw [← mt_neg] at K'
      exact lv_ineg hx hb hd K'
    · cases hm
  case lcmp =>
    obtain rfl : len = 1 := by simpa [m_okl] using ho
    simp only [m_ins] at hm
    split at hm
    · next b a r =>
      unfold m_go at hm; cases hm
      have K' := K cells slots lsR H locs rfl rfl hL ⟨hP, hD⟩ hS
      simp only [List.map_cons, mt_v] at K' ⊢
      rw [← mt_cmp] at K'
      exact W.lcmp hx hb hd K'
    · cases hm
  case i2l =>
    obtain rfl : len = 1 := by simpa [m_okl] using ho
    simp only [m_ins] at hm
    split at hm
    · next a r =>
      unfold m_go at hm; cases hm
      exact lv_i2l hx hb hd (mt_i2l a) (K cells slots lsR H locs rfl rfl hL ⟨hP, hD⟩ hS)
    · cases hm
  case l2i =>
    obtain rfl : len = 1 := by simpa [m_okl] using ho
    simp only [m_ins] at hm
    split at hm
    · next a r =>
      unfold m_go at hm; cases hm
      exact lv_l2i hx hb hd (mt_l2i a) (K cells slots lsR H locs rfl rfl hL ⟨hP, hD⟩ hS)
    · cases hm
  case dup =>
    obtain rfl : len = 1 := by simpa [m_okl] using ho
    simp only [m_ins] at hm
    split at hm
    · next v r =>
      split at hm
      · cases hm
      · next hv =>
        unfold m_go at hm; cases hm
        exact lv_dup hx hb hd (by rw [mt_cat]; simp only [m_cat]; rw [if_neg hv]) (K cells slots lsR H locs rfl rfl hL ⟨hP, hD⟩ hS)
    · cases hm
  case pop =>
    obtain rfl : len = 1 := by simpa [m_okl] using ho
    simp only [m_ins] at hm
    split at hm
    · next v r =>
      split at hm
      · cases hm
      · next hv =>
        unfold m_go at hm; cases hm
        exact lv_pop hx hb hd (by rw [mt_cat]; simp only [m_cat]; rw [if_neg hv]) (K cells slots lsR H locs rfl rfl hL ⟨hP, hD⟩ hS)
    · cases hm
  case dup_x1 =>
    obtain rfl : len = 1 := by simpa [m_okl] using ho
    simp only [m_ins] at hm
    split at hm
    · next v w r =>
      split at hm
      · cases hm
      · next hv =>
        unfold m_go at hm; cases hm
        exact lv_dup_x1 hx hb hd (by rw [mt_cat]; simp only [m_cat]; rw [if_neg (fun q => hv (Or.inl q))]) (by rw [mt_cat]; simp only [m_cat]; rw [if_neg (fun q => hv (Or.inr q))]) (K cells slots lsR H locs rfl rfl hL ⟨hP, hD⟩ hS)
    · cases hm
  case dup2 =>
    obtain rfl : len = 1 := by simpa [m_okl] using ho
    simp only [m_ins] at hm
    split at hm
    · next v r =>
      split at hm
      · next hv =>
        unfold m_go at hm; cases hm
        exact lv_dup2_2 hx hb hd (by rw [mt_cat]; simp only [m_cat]; rw [if_pos hv]) (K cells slots lsR H locs rfl rfl hL ⟨hP, hD⟩ hS)
      · next hv =>
        split at hm
        · next w r =>
          split at hm
          · cases hm
          · next hw =>
            unfold m_go at hm; cases hm
            exact lv_dup2_11 hx hb hd (by rw [mt_cat]; simp only [m_cat]; rw [if_neg hv]) (by rw [mt_cat]; simp only [m_cat]; rw [if_neg hw]) (K cells slots lsR H locs rfl rfl hL ⟨hP, hD⟩ hS)
        · cases hm
    · cases hm
  case goto off =>
    obtain rfl : len = 3 := by simpa [m_okl] using ho
    simp only [m_ins] at hm
    obtain ⟨t, ht, rfl⟩ := m_jmp_inv hm
    exact lv_goto hx hb hd ht (K cells slots lsR H locs rfl rfl hL ⟨hP, hD⟩ hS)
  case ifCond cc off =>
    obtain rfl : len = 3 := by simpa [m_okl] using ho
    simp only [m_ins] at hm
    split at hm
    · next a r =>
      split at hm
      · obtain ⟨t, ht, rfl⟩ := m_br_inv hm
        have K' := K cells slots lsR H locs rfl rfl hL ⟨hP, hD⟩ hS
        dsimp only at K'
        exact lv_if_eq hx hb hd ht (fun q => by have q := (mt_eq0 a).mp q; rw [if_pos (decide_eq_true q)] at K'; exact K') (fun q => by have q : ¬ _ := fun z => q ((mt_eq0 a).mpr z); rw [if_neg (fun z => q (of_decide_eq_true z))] at K'; exact K')
      · obtain ⟨t, ht, rfl⟩ := m_br_inv hm
        have K' := K cells slots lsR H locs rfl rfl hL ⟨hP, hD⟩ hS
        dsimp only at K'
        exact lv_if_ne hx hb hd ht (fun q => by have q := (not_congr (mt_eq0 a)).mp q; rw [if_pos (decide_eq_true q)] at K'; exact K') (fun q => by have q := (mt_eq0 a).mp q; rw [if_neg (fun z => (of_decide_eq_true z) q)] at K'; exact K')
      · obtain ⟨t, ht, rfl⟩ := m_br_inv hm
        have K' := K cells slots lsR H locs rfl rfl hL ⟨hP, hD⟩ hS
        dsimp only at K'
        exact lv_if_lt hx hb hd ht (fun q => by have q := (mt_lt0 a).mp q; rw [if_pos (decide_eq_true q)] at K'; exact K') (fun q => by have q : ¬ _ := fun z => q ((mt_lt0 a).mpr z); rw [if_neg (fun z => q (of_decide_eq_true z))] at K'; exact K')
      · obtain ⟨t, ht, rfl⟩ := m_br_inv hm
        have K' := K cells slots lsR H locs rfl rfl hL ⟨hP, hD⟩ hS
        dsimp only at K'
        exact lv_if_ge hx hb hd ht (fun q => by have q := (mt_ge0 a).mp q; rw [if_pos (decide_eq_true q)] at K'; exact K') (fun q => by have q : ¬ _ := fun z => q ((mt_ge0 a).mpr z); rw [if_neg (fun z => q (of_decide_eq_true z))] at K'; exact K')
      · obtain ⟨t, ht, rfl⟩ := m_br_inv hm
        have K' := K cells slots lsR H locs rfl rfl hL ⟨hP, hD⟩ hS
        dsimp only at K'
        exact lv_if_gt hx hb hd ht (fun q => by have q := (mt_gt0 a).mp q; rw [if_pos (decide_eq_true q)] at K'; exact K') (fun q => by have q : ¬ _ := fun z => q ((mt_gt0 a).mpr z); rw [if_neg (fun z => q (of_decide_eq_true z))] at K'; exact K')
      · obtain ⟨t, ht, rfl⟩ := m_br_inv hm
        have K' := K cells slots lsR H locs rfl rfl hL ⟨hP, hD⟩ hS
        dsimp only at K'
        exact lv_if_le hx hb hd ht (fun q => by have q := (mt_le0 a).mp q; rw [if_pos (decide_eq_true q)] at K'; exact K') (fun q => by have q : ¬ _ := fun z => q ((mt_le0 a).mpr z); rw [if_neg (fun z => q (of_decide_eq_true z))] at K'; exact K')
    · cases hm
  case if_icmp cc off =>
    obtain rfl : len = 3 := by simpa [m_okl] using ho
    simp only [m_ins] at hm
    split at hm
    · next b a r =>
      split at hm
      · obtain ⟨t, ht, rfl⟩ := m_br_inv hm
        have K' := K cells slots lsR H locs rfl rfl hL ⟨hP, hD⟩ hS
        dsimp only at K'
        exact lv_icmp_eq hx hb hd ht (fun q => by have q := (mt_eq a b).mp q; rw [if_pos (decide_eq_true q)] at K'; exact K') (fun q => by have q : ¬ _ := fun z => q ((mt_eq a b).mpr z); rw [if_neg (fun z => q (of_decide_eq_true z))] at K'; exact K')
      · obtain ⟨t, ht, rfl⟩ := m_br_inv hm
        have K' := K cells slots lsR H locs rfl rfl hL ⟨hP, hD⟩ hS
        dsimp only at K'
        exact lv_icmp_ne hx hb hd ht (fun q => by have q := (not_congr (mt_eq a b)).mp q; rw [if_pos (decide_eq_true q)] at K'; exact K') (fun q => by have q := (mt_eq a b).mp q; rw [if_neg (fun z => (of_decide_eq_true z) q)] at K'; exact K')
      · obtain ⟨t, ht, rfl⟩ := m_br_inv hm
        have K' := K cells slots lsR H locs rfl rfl hL ⟨hP, hD⟩ hS
        dsimp only at K'
        exact lv_icmp_lt hx hb hd ht (fun q => by have q := (mt_lt a b).mp q; rw [if_pos (decide_eq_true q)] at K'; exact K') (fun q => by have q : ¬ _ := fun z => q ((mt_lt a b).mpr z); rw [if_neg (fun z => q (of_decide_eq_true z))] at K'; exact K')
      · obtain ⟨t, ht, rfl⟩ := m_br_inv hm
        have K' := K cells slots lsR H locs rfl rfl hL ⟨hP, hD⟩ hS
        dsimp only at K'
        exact lv_icmp_ge hx hb hd ht (fun q => by have q := (mt_le b a).mp q; rw [if_pos (decide_eq_true q)] at K'; exact K') (fun q => by have q : ¬ _ := fun z => q ((mt_le b a).mpr z); rw [if_neg (fun z => q (of_decide_eq_true z))] at K'; exact K')
      · obtain ⟨t, ht, rfl⟩ := m_br_inv hm
        have K' := K cells slots lsR H locs rfl rfl hL ⟨hP, hD⟩ hS
        dsimp only at K'
        exact lv_icmp_gt hx hb hd ht (fun q => by have q := (mt_lt b a).mp q; rw [if_pos (decide_eq_true q)] at K'; exact K') (fun q => by have q : ¬ _ := fun z => q ((mt_lt b a).mpr z); rw [if_neg (fun z => q (of_decide_eq_true z))] at K'; exact K')
      · obtain ⟨t, ht, rfl⟩ := m_br_inv hm
        have K' := K cells slots lsR H locs rfl rfl hL ⟨hP, hD⟩ hS
        dsimp only at K'
        exact lv_icmp_le hx hb hd ht (fun q => by have q := (mt_le a b).mp q; rw [if_pos (decide_eq_true q)] at K'; exact K') (fun q => by have q : ¬ _ := fun z => q ((mt_le a b).mpr z); rw [if_neg (fun z => q (of_decide_eq_true z))] at K'; exact K')
    · cases hm
  case ifnull off =>
    obtain rfl : len = 3 := by simpa [m_okl] using ho
    simp only [m_ins] at hm
    split at hm
    · next a r =>
      obtain ⟨t, ht, rfl⟩ := m_br_inv hm
      have K' := K cells slots lsR H locs rfl rfl hL ⟨hP, hD⟩ hS
      dsimp only at K'
      by_cases q : a < 0
      · rw [if_pos (decide_eq_true q)] at K'
        cases a with
        | ofNat a => exact absurd q (Int.not_lt.mpr (Int.natCast_nonneg a))
        | negSucc a => exact lv_ifnullN hx hb hd ht K'
      · rw [if_neg (fun z => q (of_decide_eq_true z))] at K'
        cases a with
        | ofNat a => exact lv_ifnull hx hb hd K'
        | negSucc a => exact absurd (Int.negSucc_lt_zero a) q
    · cases hm
  case tableswitch dflt lo hi offs =>
    simp only [m_ins] at hm
    split at hm
    · next a r =>
      split at hm
      · next hq =>
        obtain ⟨t, ht, rfl⟩ := m_jmp_inv hm
        exact lv_tableOut hx hb hd (by rw [mt_ti]; exact hq) ht (K cells slots lsR H locs rfl rfl hL ⟨hP, hD⟩ hS)
      · next hq =>
        split at hm
        · next off hoff =>
          obtain ⟨t, ht, rfl⟩ := m_jmp_inv hm
          exact lv_tableIn hx hb hd (by rw [mt_ti]; exact fun z => hq (Or.inl z)) (by rw [mt_ti]; exact fun z => hq (Or.inr z)) (by rw [mt_ti]; exact hoff) ht (K cells slots lsR H locs rfl rfl hL ⟨hP, hD⟩ hS)
        · cases hm
    · cases hm
  case lookupswitch dflt ps =>
    simp only [m_ins] at hm
    split at hm
    · next a r =>
      split at hm
      · next hq =>
        obtain ⟨t, ht, rfl⟩ := m_jmp_inv hm
        exact lv_lookup hx hb hd hq (by rw [mt_ti]) ht (K cells slots lsR H locs rfl rfl hL ⟨hP, hD⟩ hS)
      · cases hm
    · cases hm
  case ireturn =>
    simp only [m_ins] at hm
    repeat' split at hm
    all_goals cases hm
  case lreturn =>
    simp only [m_ins] at hm
    repeat' split at hm
    all_goals cases hm
  case areturn =>
    simp only [m_ins] at hm
    repeat' split at hm
    all_goals cases hm
  case return_ =>
    simp only [m_ins] at hm
    repeat' split at hm
    all_goals cases hm
  case getfield i =>
    obtain rfl : len = 3 := by simpa [m_okl] using ho
    simp only [m_ins] at hm
    split at hm
    · next a r =>
      split at hm
      · next ci k hf =>
        split at hm
        · next hq =>
          obtain ⟨ha, hk1, rfl, hkl⟩ := hq
          obtain ⟨hci, hw⟩ := mt_fldw hf
          obtain ⟨hcl, hn, hcn⟩ := mt_cls _ hci
          obtain ⟨ty1, ty2, ty3⟩ := mt_tyk hci hkl
          have hws := mt_w_at (E := E) ha
          simp only [mt_c, hk1, if_true] at hws
          have hv := mt_fs_at (E := E) (rf := (h.1 a).2.2) (s := h.2.1 a) hkl
          have G : ∀ v, mt_f E (m_ty (h.1 a).2.1 k) ((h.1 a).2.2 k) (h.2.1 a k) = v → W p l e R s mid args below meth c H locs cells slots Q (F0 mid (pc + 3) lsR (v :: r.map (mt_v E))) → W p l e R s mid args below meth c H locs cells slots Q (F0 mid pc lsR (.ref (E.1 + a) :: r.map (mt_v E))) := fun v hv2 kk =>
            va_get (ref := (m_cl3 (h.1 a).2.1).1) hx hb hts (mt_layw hci) hown hK hP a hws hcl k (by rw [hn]; exact hkl) (hts _ (mt_tbl hw)) (fun x hx9 => by rw [ty3, ← hcn] at hx9; exact hx9) (v := v) (by rw [hv, hv2]) hd kk
          split at hm
          · next h2 =>
            unfold m_go at hm; cases hm
            exact G _ (by rw [mt_f, if_pos h2]; rfl) (K cells slots lsR H locs rfl rfl hL ⟨hP, hD⟩ hS)
          · next h2 =>
            split at hm
            · next h3 =>
              unfold m_go at hm; cases hm
              exact G _ (by rw [mt_f, if_neg h2, if_pos h3]; rfl) (K cells slots lsR H locs rfl rfl hL ⟨hP, hD⟩ hS)
            · next h3 =>
              unfold m_go at hm; cases hm
              exact G _ (by rw [mt_f, if_neg h2, if_neg h3]; rfl) (K cells slots lsR H locs rfl rfl hL ⟨hP, hD⟩ hS)
        · cases hm
      · cases hm
    · cases hm
  case putfield i =>
    obtain rfl : len = 3 := by simpa [m_okl] using ho
    simp only [m_ins] at hm
    split at hm
    · next v a r =>
      split at hm
      · next ci k hf =>
        split at hm
        · next hq =>
          obtain ⟨ha, hk1, rfl, hkl⟩ := hq
          obtain ⟨hci, hw⟩ := mt_fldw hf
          obtain ⟨hcl, hn, hcn⟩ := mt_cls _ hci
          obtain ⟨ty1, ty2, ty3⟩ := mt_tyk hci hkl
          have hws := mt_w_at (E := E) ha
          simp only [mt_c, hk1, if_true] at hws
          have hsame : ∀ x, s.fieldFound? ((m_cl3 (h.1 a).2.1).2.1 k).1 ((m_cl3 (h.1 a).2.1).2.1 k).2.1 ((m_cl3 (h.1 a).2.1).2.1 k).2.2.1 = some x → s.fieldFound? (m_cl3 (h.1 a).2.1).1 ((m_cl3 (h.1 a).2.1).2.1 k).2.1 ((m_cl3 (h.1 a).2.1).2.1 k).2.2.1 = some x := fun x hx9 => by rw [ty3, ← hcn] at hx9; exact hx9
          have hkl2 : k < (m_cl3 (h.1 a).2.1).2.2 := by rw [hn]; exact hkl
          have hlen : k < (mt_fs E (h.1 a).2.1 (h.1 a).2.2 (h.2.1 a)).length := by rw [mt_fs_len]; exact hkl
          split at hm
          · next h2 =>
            split at hm
            · next hq2 =>
              obtain ⟨hv2, hin2, hcls, hlt⟩ := hq2
              unfold m_go at hm; cases hm
              obtain ⟨vt, vx⟩ := v
              dsimp only at hv2
              subst hv2
              have hfin : ((m_cl3 (h.1 a).2.1).2.1 k).2.2.2 = true := by rw [ty2, h2]; rfl
              have hnar : narrow (m_tyF (h.1 a).2.1 k) (va_rf (mt_rf E vx)) = va_rf (mt_rf E vx) ∧ fits (m_tyF (h.1 a).2.1 k) (va_rf (mt_rf E vx)) = true := by
                rw [h2] at ty1
                generalize m_tyF (h.1 a).2.1 k = t at ty1 ⊢
                cases t <;> first | (cases ty1; done) | (cases vx <;> exact ⟨rfl, rfl⟩)
              show W p l e R s mid args below meth c H locs cells slots Q (F0 mid pc lsR (va_rf (mt_rf E vx) :: .ref (E.1 + a) :: r.map (mt_v E)))
              refine va_putF (ref := (m_cl3 (h.1 a).2.1).1) hx hb hts (mt_layw hci) (m_tyF (h.1 a).2.1) (mt_tyok _ hci) (mt_nmok _ hci) hown hK hP hD hS a hws hcl k hkl2 (hts _ (mt_tbl hw)) hsame hfin (hnm hin2) (ty3.trans (by rw [hcls])) (mt_tyok _ hci k hkl2) hnar.1 hnar.2 hlen hd (fun H1 locs1 hP1 hD1 hS1 => ?_)
              have e1 : (mt_w E h).set a (E.1 + a, .inr ((h.1 a).2.1, (mt_fs E (h.1 a).2.1 (h.1 a).2.2 (h.2.1 a)).set k (va_rf (mt_rf E vx)))) = mt_w E (m_up h.1 a (1, (h.1 a).2.1, m_up (h.1 a).2.2 k vx), h.2) :=
                mt_w_setK (by
                  rw [mt_fs_set (rf' := m_up (h.1 a).2.2 k vx) (s' := h.2.1 a) (by simp [mt_f, h2, m_up]) (fun j hj => ⟨by simp [m_up, hj], rfl⟩)]
                  simp [mt_c])
              rw [e1] at hP1 hD1
              exact K cells slots lsR H1 locs1 rfl rfl hL ⟨hP1, hD1⟩ hS1
            · cases hm
          · next h2 =>
            have hfin : ((m_cl3 (h.1 a).2.1).2.1 k).2.2.2 = false := by rw [ty2]; exact beq_eq_false_iff_ne.mpr h2
            have G : ∀ (x : Int) (v : Value), mt_f E (m_ty (h.1 a).2.1 k) ((h.1 a).2.2 k) x = v → narrow (m_tyF (h.1 a).2.1 k) v = v → fits (m_tyF (h.1 a).2.1 k) v = true → (∀ (H1 : Heap) (locs1 : List Loc), mt_R E (h.1, m_up2 h.2.1 a k x, h.2.2) H1 → va_S (mt_A E) s.heap H1 locs1 → W p l e R s mid args below meth c H1 locs1 cells slots Q (F0 mid (pc + 3) lsR (r.map (mt_v E)))) → W p l e R s mid args below meth c H locs cells slots Q (F0 mid pc lsR (v :: .ref (E.1 + a) :: r.map (mt_v E))) := by
              intro x v hv hn1 hn2 kk
              refine va_put (ref := (m_cl3 (h.1 a).2.1).1) hx hb hts (mt_layw hci) (m_tyF (h.1 a).2.1) (mt_tyok _ hci) (mt_nmok _ hci) hown hK hP hD hS a hws hcl k hkl2 (hts _ (mt_tbl hw)) hsame hfin (mt_tyok _ hci k hkl2) hn1 hn2 hlen hd (fun H1 locs1 hP1 hD1 hS1 => ?_)
              have e1 : (mt_w E h).set a (E.1 + a, .inr ((h.1 a).2.1, (mt_fs E (h.1 a).2.1 (h.1 a).2.2 (h.2.1 a)).set k v)) = mt_w E (h.1, m_up2 h.2.1 a k x, h.2.2) :=
                mt_w_set2 (by
                  rw [mt_fs_set (rf' := (h.1 a).2.2) (s' := m_up (h.2.1 a) k x) (by rw [← hv]; simp [m_up]) (fun j hj => ⟨rfl, by simp [m_up, hj]⟩)]
                  simp [mt_c, hk1])
              rw [e1] at hP1 hD1
              exact kk H1 locs1 ⟨hP1, hD1⟩ hS1
            split at hm
            · next h3 =>
              split at hm
              · next hv1 =>
                unfold m_go at hm; cases hm
                obtain ⟨vt, vx⟩ := v
                dsimp only at hv1
                subst hv1
                rw [h3] at ty1
                exact G vx _ (by rw [mt_f, if_neg h2, if_pos h3]; rfl) (by rw [m_tyc_l ty1]; rfl) (by rw [m_tyc_l ty1]; rfl) (fun H1 locs1 hR1 hS1 => K cells slots lsR H1 locs1 rfl rfl hL hR1 hS1)
              · cases hm
            · next h3 =>
              split at hm
              · next hv0 =>
                obtain ⟨hv0, hty⟩ := hv0
                unfold m_go at hm; cases hm
                obtain ⟨vt, vx⟩ := v
                dsimp only at hv0 hty
                subst hv0
                have hnar : narrow (m_tyF (h.1 a).2.1 k) (.int (Int32.ofInt vx)) = .int (Int32.ofInt vx) ∧ fits (m_tyF (h.1 a).2.1 k) (.int (Int32.ofInt vx)) = true := by
                  rcases hty with hty | ⟨hty, hbb⟩
                  · rw [hty] at ty1; rw [m_tyc_i ty1]; exact ⟨rfl, rfl⟩
                  · rw [hty] at ty1; rw [m_tyc_z ty1]
                    rcases mt_bool hbb with q | q <;> rw [q] <;> exact ⟨by decide, by decide⟩
                exact G vx _ (by rw [mt_f, if_neg h2, if_neg h3]; rfl) hnar.1 hnar.2 (fun H1 locs1 hR1 hS1 => K cells slots lsR H1 locs1 rfl rfl hL hR1 hS1)
              · cases hm
        · cases hm
      · cases hm
    · cases hm
  case new i =>
    obtain rfl : len = 3 := by simpa [m_okl] using ho
    simp only [m_ins] at hm
    split at hm
    · next ci hci0 =>
      split at hm
      · next hq =>
        obtain ⟨he0, hci⟩ := hq
        unfold m_go at hm; cases hm
        obtain ⟨hcl, hn, hcn⟩ := mt_cls _ hci
        have hcw := mt_clw hci0
        rw [← hcn] at hcw
        have hini := mw_in (mw_iniA ci (by omega))
        rw [← hcn] at hini
        simp only [mt_n, m_newc] at hc1 hc2
        refine va_new hx hb hts (mt_layw hci) (m_tyF ci) (mt_tyok _ hci) hown (hts _ (mt_tbl hcw)) (hts _ (mt_tbl (mw_in (mw_istA ci hci)))) (hts _ (mt_tbl hini)) hK hP hD hS hA hcl (fs := mt_fs E ci (fun _ => -1) (fun _ => 0)) (fun j hj => ?_) (by omega) (by rw [hn]; omega) hd (fun q H1 hP1 hD1 hS1 => ?_)
        · rw [hn] at hj
          rw [mt_dv hci hj E]
          simp [vp_V, mt_fs, hj]
        · refine mt_size (fun hz1 => ?_)
          have hz0 := hz he0
          have hq := mt_new_at hP1 hD1 (by omega)
          subst hq
          have e1 : mt_w E h ++ [(E.1 + h.2.2.1, .inr (ci, mt_fs E ci (fun _ => -1) (fun _ => 0)))] = mt_w E (m_newc (1, ci, fun _ => -1) (m_tys ci).length h) := mt_w_push (by simp [mt_c])
          rw [e1] at hP1 hD1
          have K' := K (cells + 1) (slots + (m_cl3 ci).2.2) lsR H1 locs (by simp only [mt_n, m_newc]; omega) (by simp only [m_newc]; omega) hL ⟨hP1, hD1⟩ hS1
          exact K'
      · cases hm
    · cases hm
  case newarray t =>
    obtain rfl : len = 2 := by simpa [m_okl] using ho
    simp only [m_ins] at hm
    split at hm
    · next n r =>
      split at hm
      · next hq =>
        obtain ⟨he0, hn0, hn1⟩ := hq
        split at hm
        · unfold m_go at hm; cases hm
          simp only [mt_n, m_newc] at hc1 hc2
          refine va_newa (atype := .int) (ty := .int) (N' := (w32 n).toNat) (a0 := ((w32 n).toNat, .inl (fun _ => Int32.ofInt 0))) hx hb (hts _ (mt_tbl mw_arr0)) rfl hK hP hD hS hA (fun _ => rfl) (by rw [mt_lt0]; omega) (mt_cl n) (by simp only [componentBytes]; omega) (by omega) (by omega) hd (fun q cA H1 hK1 hP1 hD1 hS1 => ?_)
          refine mt_size (fun hz1 => ?_)
          have hz0 := hz he0
          have hq := mt_new_at hP1 hD1 (by omega)
          subst hq
          have hcA := mt_arr0 hK hK1
          subst hcA
          have e1 : mt_w E h ++ [(E.1 + h.2.2.1, .inl (E.2.2.2.1.1, (w32 n).toNat, .inl (fun _ => Int32.ofInt 0)))] = mt_w E (m_newc (2, (w32 n).toNat, fun _ => -1) (w32 n).toNat h) := mt_w_push (by simp [mt_c])
          rw [e1] at hP1 hD1
          exact K (cells + 1) (slots + (w32 n).toNat) lsR H1 locs (by simp only [mt_n, m_newc]; omega) (by simp only [m_newc]; omega) hL ⟨hP1, hD1⟩ hS1
        · cases hm
      · cases hm
    · cases hm
  case anewarray i =>
    obtain rfl : len = 3 := by simpa [m_okl] using ho
    simp only [m_ins] at hm
    split at hm
    · next n r =>
      split at hm
      · next hq =>
        obtain ⟨he0, hn0, hn1, hcl6, rfl⟩ := hq
        unfold m_go at hm; cases hm
        simp only [mt_n, m_newc] at hc1 hc2
        have hcw : Cond.classLink (m_cn (m_cls m)) 9 RX1 ∈ lw_tbl ∧ goodWord (Cond.classLink (m_cn (m_cls m)) 9 RX1) = true := by rw [hcl6]; exact mt_clw (cl := 6) (i := 9) (ci := 1) (by decide +kernel)
        refine va_newq (C := RX1) (N' := (w32 n).toNat) hx hb hown (hts _ (mt_tbl hcw)) hAO hK hP hD hS hA (by rw [mt_lt0]; omega) (mt_cl n) (by omega) (by omega) (by omega) hd (fun q cA H1 hK1 hP1 hD1 hS1 => ?_)
        refine mt_size (fun hz1 => ?_)
        have hz0 := hz he0
        have hq := mt_new_at hP1 hD1 (by omega)
        subst hq
        have hcA := mt_arr2 hK hK1
        subst hcA
        have e1 : mt_w E h ++ [(E.1 + h.2.2.1, .inl (E.2.2.2.1.2.2, (w32 n).toNat, .inr (.inr (.inr (.inr (fun _ => none))))))] = mt_w E (m_newc (4, (w32 n).toNat, fun _ => -1) (w32 n).toNat h) := mt_w_push (by simp [mt_c, mt_rfn])
        rw [e1] at hP1 hD1
        exact K (cells + 1) (slots + (w32 n).toNat) lsR H1 locs (by simp only [mt_n, m_newc]; omega) (by simp only [m_newc]; omega) hL ⟨hP1, hD1⟩ hS1
      · cases hm
    · cases hm
  case arraylength =>
    obtain rfl : len = 1 := by simpa [m_okl] using ho
    simp only [m_ins] at hm
    split at hm
    · next a r =>
      split at hm
      · next hq =>
        obtain ⟨ha, hk⟩ := hq
        unfold m_go at hm; cases hm
        have hws := mt_w_at (E := E) ha
        rcases hk with hk | hk <;> simp only [mt_c, hk] at hws
        · exact va_alen hx hb hK hP a 0 hws rfl (mt_on _) hd (K cells slots lsR H locs rfl rfl hL ⟨hP, hD⟩ hS)
        · exact va_alen hx hb hK hP a 1 hws rfl (mt_on _) hd (K cells slots lsR H locs rfl rfl hL ⟨hP, hD⟩ hS)
      · cases hm
    · next r =>
      unfold m_go at hm; cases hm
      have K' := K cells slots lsR H locs rfl rfl hL ⟨hP, hD⟩ hS
      simp only [List.map_cons, mt_v, ← mt_on] at K' ⊢
      exact va_slen hx hb hX hbs hbA hS hd K'
    · cases hm
  case iaload =>
    obtain rfl : len = 1 := by simpa [m_okl] using ho
    simp only [m_ins] at hm
    split at hm
    · next i a r =>
      split at hm
      · next hq =>
        obtain ⟨ha, hk, h0, h1⟩ := hq
        unfold m_go at hm; cases hm
        have hws := mt_w_at (E := E) ha
        simp only [mt_c, hk] at hws
        have K' := K cells slots lsR H locs rfl rfl hL ⟨hP, hD⟩ hS
        rw [← mt_cl] at K'
        exact va_iald hx hb hK hP a 0 hws rfl (mt_in h0 h1) hd K'
      · cases hm
    · next i r =>
      split at hm
      · next hq =>
        obtain ⟨h0, h1⟩ := hq
        unfold m_go at hm; cases hm
        have K' := K cells slots lsR H locs rfl rfl hL ⟨hP, hD⟩ hS
        simp only [List.map_cons, mt_v, mt_back] at K' ⊢
        rw [← mt_cl] at K'
        exact va_sld hx hb hX hbs hbA hS (mt_in h0 h1) hd K'
      · cases hm
    · cases hm
  case aaload =>
    obtain rfl : len = 1 := by simpa [m_okl] using ho
    simp only [m_ins] at hm
    split at hm
    · next i a r =>
      split at hm
      · next hq =>
        obtain ⟨ha, hk, h0, h1⟩ := hq
        unfold m_go at hm; cases hm
        have hws := mt_w_at (E := E) ha
        simp only [mt_c, hk] at hws
        have K' := K cells slots lsR H locs rfl rfl hL ⟨hP, hD⟩ hS
        rw [← mt_cl] at K'
        exact va_aldq hx hb hK hP a 1 hws rfl (mt_in h0 h1) hd K'
      · cases hm
    · cases hm
  case iastore =>
    obtain rfl : len = 1 := by simpa [m_okl] using ho
    simp only [m_ins] at hm
    split at hm
    · next v i a r =>
      split at hm
      · next hq =>
        obtain ⟨ha, hk, h0, h1⟩ := hq
        unfold m_go at hm; cases hm
        have hws := mt_w_at (E := E) ha
        simp only [mt_c, hk] at hws
        refine va_iast hx hb hK hP hD hS a 0 hws rfl (mt_in h0 h1) hd (fun H1 locs1 hP1 hD1 hS1 => ?_)
        rw [mt_w_set2 (k := (w32 i).toNat) (v := v) (by simp only [mt_c, hk]; rw [mt_cl, mt_updi]; rfl)] at hP1 hD1
        exact K cells slots lsR H1 locs1 rfl rfl hL ⟨hP1, hD1⟩ hS1
      · cases hm
    · cases hm
  case aastore =>
    obtain rfl : len = 1 := by simpa [m_okl] using ho
    simp only [m_ins] at hm
    split at hm
    · next v i a r =>
      split at hm
      · next hq =>
        obtain ⟨ha, hk, h0, h1, hv, hkv, hkc⟩ := hq
        unfold m_go at hm; cases hm
        have hws := mt_w_at (E := E) ha
        simp only [mt_c, hk] at hws
        have hwv := mt_w_at (E := E) hv
        simp only [mt_c, hkv, hkc, if_true] at hwv
        refine va_astq hx hb hK hP hD hS a 1 v 1 (r := (RX1, TX1, 11)) hws rfl hwv rfl (mt_in h0 h1) hd (fun H1 locs1 hP1 hD1 hS1 => ?_)
        rw [mt_w_setK (K := (4, (h.1 a).2.1, m_up (h.1 a).2.2 (w32 i).toNat v)) (by simp only [mt_c]; rw [mt_cl, mt_updq]; rfl)] at hP1 hD1
        exact K cells slots lsR H1 locs1 rfl rfl hL ⟨hP1, hD1⟩ hS1
      · cases hm
    · cases hm
  case invokevirtual i =>
    obtain rfl : len = 3 := by simpa [m_okl] using ho
    simp only [m_ins] at hm
    split at hm
    · exact absurd hm m_call_ni
    · cases hm
  case invokespecial i =>
    obtain rfl : len = 3 := by simpa [m_okl] using ho
    simp only [m_ins] at hm
    split at hm
    · next m' np hmt =>
      split at hm
      · next h7 =>
        subst h7
        split at hm
        · next a r =>
          split at hm
          · next hq =>
            unfold m_go at hm; cases hm
            have hrk := m_rok_of hq.1
            refine W.objInit hx hb hown (hts _ (mt_tbl (mt_metw hmt (by decide) (by decide)).1)) (hts _ (mt_tbl mw_obi1)) (hts _ (mt_tbl mw_obi2)) rfl (by rw [hml]; exact hL.1) rfl hd (by have := hrk.1; omega) (mt_rm1 hq.2 (by have := hrk.2; rw [show m_rom 1007 = (0, 0, 1) from rfl] at this; dsimp only at this; omega)) (K cells slots lsR H locs rfl rfl hL ⟨hP, hD⟩ hS)
          · cases hm
        · cases hm
      · exact absurd hm m_call_ni
    · cases hm
  case invokestatic i =>
    obtain rfl : len = 3 := by simpa [m_okl] using ho
    simp only [m_ins] at hm
    split at hm
    · next m' np hmt =>
      split at hm
      · next h7 =>
        subst h7
        split at hm
        · next b a r =>
          split at hm
          · next hq =>
            unfold m_go at hm; cases hm
            have hrk := m_rok_of hq.1
            have K' := K cells slots lsR H locs rfl rfl hL ⟨hP, hD⟩ hS
            simp only [List.map_cons, mt_v] at K' ⊢
            refine va_mmax hx hb (by rw [hml]; exact hL.1.symm) hown (hts _ (mt_tbl (mt_metw hmt (by decide) (by decide)).1)) (hts _ (mt_tbl mw_max1)) (hts _ (mt_tbl mw_max2)) (hts _ (mt_tbl mw_max3)) (by have := hrk.1; omega) (by have := mt_sum8 (E := E) hq.2; have h9 := hrk.2; rw [show m_rom 1003 = (0, 0, 3) from rfl] at h9; dsimp only at h9; omega) hc3.1 hc3.2 hd ?_
            rw [mt_ite (mt_lt a b)]
            exact K'
          · cases hm
        · cases hm
      · split at hm
        · next h7 =>
          subst h7
          split at hm
          · next b a r =>
            split at hm
            · next hq =>
              unfold m_go at hm; cases hm
              have hrk := m_rok_of hq.1
              have K' := K cells slots lsR H locs rfl rfl hL ⟨hP, hD⟩ hS
              simp only [List.map_cons, mt_v] at K' ⊢
              refine va_mmin hx hb (by rw [hml]; exact hL.1.symm) hown (hts _ (mt_tbl (mt_metw hmt (by decide) (by decide)).1)) (hts _ (mt_tbl mw_min1)) (hts _ (mt_tbl mw_max2)) (hts _ (mt_tbl mw_min3)) (by have := hrk.1; omega) (by have := mt_sum8 (E := E) hq.2; have h9 := hrk.2; rw [show m_rom 1004 = (0, 0, 3) from rfl] at h9; dsimp only at h9; omega) hc3.1 hc3.2 hd ?_
              rw [mt_ite (mt_lt b a)]
              exact K'
            · cases hm
          · cases hm
        · exact absurd hm m_call_ni
    · cases hm
  all_goals (simp only [m_ins] at hm; cases hm)
end MTS
end
section
section
/-! What an instruction of the small machine may come to; its heap only grows. -/
def m_le (h h' : mH) : Prop := h.2.2.1 ≤ h'.2.2.1 ∧ h.2.2.2.1 ≤ h'.2.2.2.1 ∧ h.2.2.2.2 ≤ h'.2.2.2.2
theorem m_le.rf (h : mH) : m_le h h := ⟨Nat.le_refl _, Nat.le_refl _, Nat.le_refl _⟩
theorem m_le.tr {a b c : mH} (h1 : m_le a b) (h2 : m_le b c) : m_le a c := ⟨Nat.le_trans h1.1 h2.1, Nat.le_trans h1.2.1 h2.2.1, Nat.le_trans h1.2.2 h2.2.2⟩
/-- an instruction that is no call and no return -/
def m_pl (h : mH) (r : mR) : Prop := match r with
  | none => True
  | some (.inl s) => m_le h s.2.2.2.2
  | some (.inr _) => False
theorem m_pl_go {m pc : Nat} {ls st : List mV} {h h' : mH} (e : m_le h h') : m_pl h (m_go m pc ls st h') := e
theorem m_pl_st1 {m pc k : Nat} {ls st : List mV} {v : mV} {h : mH} : m_pl h (m_st1 m pc ls k v st h) := by
  unfold m_st1
  split
  · exact m_pl_go (m_le.rf h)
  · trivial
theorem m_pl_st2 {m pc k : Nat} {ls st : List mV} {v : mV} {h : mH} : m_pl h (m_st2 m pc ls k v st h) := by
  unfold m_st2
  split
  · exact m_pl_go (m_le.rf h)
  · trivial
theorem m_pl_jmp {m pc : Nat} {off : Int} {ls st : List mV} {h : mH} : m_pl h (m_jmp m pc off ls st h) := by
  unfold m_jmp
  split
  · exact m_pl_go (m_le.rf h)
  · trivial
theorem m_pl_br {b : Bool} {m pc : Nat} {off : Int} {ls st : List mV} {h : mH} : m_pl h (m_br b m pc off ls st h) := by
  unfold m_br
  split
  · exact m_pl_go (m_le.rf h)
  · trivial
theorem m_pl_ld {t m pc len k : Nat} {ls st : List mV} {h : mH} : m_pl h (m_ld t m pc len k ls st h) := by
  unfold m_ld
  split
  · exact m_pl_go (m_le.rf h)
  · trivial
theorem m_pl_bin {f : Int → Int → Int} {m pc : Nat} {ls st : List mV} {h : mH} : m_pl h (m_bin f m pc ls st h) := by
  unfold m_bin
  split
  · exact m_pl_go (m_le.rf h)
  · trivial
theorem m_pl_binl {f : Int → Int → Int} {m pc : Nat} {ls st : List mV} {h : mH} : m_pl h (m_binl f m pc ls st h) := by
  unfold m_binl
  split
  · exact m_pl_go (m_le.rf h)
  · trivial
theorem m_le_newc {K : mK} {n : Nat} {h : mH} : m_le h (m_newc K n h) := ⟨Nat.le_succ _, Nat.le_refl _, Nat.le_add_right _ _⟩
/-- a return or a call -/
def m_rl (ins : Instr) (m pc : Nat) (ls st : List mV) (h : mH) (r : mR) : Prop := match r with
  | none => True
  | some (.inl s) => m_le h s.2.2.2.2
  | some (.inr (.inl x)) => x.2 = h ∧ ((ins = .ireturn ∧ x.1.1 = 0 ∧ st = [x.1] ∧ (m_ret m = 1 ∨ m_ret m = 2 ∧ (w32 x.1.2 = 0 ∨ w32 x.1.2 = 1))) ∨ (ins = .lreturn ∧ x.1.1 = 1 ∧ st = [x.1] ∧ m_ret m = 3) ∨ (ins = .areturn ∧ st = [x.1] ∧ (x.1.1 = 2 ∧ m_ret m = 4 ∨ x.1.1 = 3 ∧ m_ret m = 5)) ∨ (ins = .return_ ∧ x.1 = (9, 0) ∧ st = [] ∧ m_ret m = 0))
  | some (.inr (.inr c)) => ∃ i m' np k, m_met (m_cls m) i = some (m', np) ∧ m_call m' np k m pc ls st h = some (.inr (.inr c)) ∧ (ins = .invokevirtual i ∧ k = 1 ∨ ins = .invokespecial i ∧ k = 2 ∧ m' ≠ 1007 ∨ ins = .invokestatic i ∧ k = 0 ∧ m' ≠ 1003 ∧ m' ≠ 1004)
theorem m_rl_pl {ins : Instr} {m pc : Nat} {ls st : List mV} {h : mH} {r : mR} (e : m_pl h r) : m_rl ins m pc ls st h r := by
  match r with
  | none => trivial
  | some (.inl s) => exact e
  | some (.inr _) => exact e.elim
theorem m_call_inv {m' np k m pc : Nat} {ls st : List mV} {h : mH} {x : (mV × mH) ⊕ mC} (e : m_call m' np k m pc ls st h = some (.inr x)) : (m_kd m' = k ∧ m_rok m m' = true ∧ m_sum (st.drop (if k = 0 then np else np + 1)) ≤ 8 ∧ (if k = 0 then np else np + 1) ≤ st.length ∧ (k = 0 ∨ m_rcv m' (st.take (np + 1)).reverse h = true)) ∧ x = .inr (m', (st.take (if k = 0 then np else np + 1)).reverse, h, m, pc, ls, st.drop (if k = 0 then np else np + 1)) := by
  unfold m_call at e
  by_cases c : m_kd m' = k ∧ m_rok m m' = true ∧ m_sum (st.drop (if k = 0 then np else np + 1)) ≤ 8 ∧ (if k = 0 then np else np + 1) ≤ st.length ∧ (k = 0 ∨ m_rcv m' (st.take (np + 1)).reverse h = true)
  · rw [if_pos c] at e
    exact ⟨c, (Sum.inr.inj (Option.some.inj e)).symm⟩
  · rw [if_neg c] at e; cases e
theorem m_rl_call {ins : Instr} {i m' np k m pc : Nat} {ls st : List mV} {h : mH} (h1 : m_met (m_cls m) i = some (m', np)) (h2 : ins = .invokevirtual i ∧ k = 1 ∨ ins = .invokespecial i ∧ k = 2 ∧ m' ≠ 1007 ∨ ins = .invokestatic i ∧ k = 0 ∧ m' ≠ 1003 ∧ m' ≠ 1004) : m_rl ins m pc ls st h (m_call m' np k m pc ls st h) := by
  generalize hr : m_call m' np k m pc ls st h = r
  match r with
  | none => trivial
  | some (.inl s) => exact absurd hr m_call_ni
  | some (.inr (.inl x)) =>
    unfold m_call at hr
    by_cases c : m_kd m' = k ∧ m_rok m m' = true ∧ m_sum (st.drop (if k = 0 then np else np + 1)) ≤ 8 ∧ (if k = 0 then np else np + 1) ≤ st.length ∧ (k = 0 ∨ m_rcv m' (st.take (np + 1)).reverse h = true)
    · rw [if_pos c] at hr; cases hr
    · rw [if_neg c] at hr; cases hr
  | some (.inr (.inr c)) => exact ⟨i, m', np, k, h1, hr, h2⟩
theorem m_ins_rl (Z : mZ) (ins : Instr) (m pc : Nat) (ls st : List mV) (h : mH) : m_rl ins m pc ls st h (m_ins Z ins m pc ls st h) := by
  unfold m_ins
  split
  all_goals try exact m_rl_pl m_pl_ld
  all_goals try exact m_rl_pl m_pl_bin
  all_goals try exact m_rl_pl m_pl_binl
  all_goals try exact m_rl_pl m_pl_jmp
  all_goals try exact m_rl_pl (m_pl_go (m_le.rf h))
  all_goals try trivial
  all_goals repeat' split
  all_goals first
    | trivial
    | exact m_rl_pl (m_pl_go (m_le.rf h))
    | exact m_rl_pl m_pl_st1
    | exact m_rl_pl m_pl_st2
    | exact m_rl_pl m_pl_br
    | exact m_rl_pl m_pl_jmp
    | exact m_rl_pl (m_pl_go m_le_newc)
    | exact m_rl_pl (m_pl_go ⟨Nat.le_refl _, Nat.le_refl _, Nat.le_refl _⟩)
    | exact m_rl_call (by assumption) (Or.inl ⟨rfl, rfl⟩)
    | exact m_rl_call (by assumption) (Or.inr (Or.inl ⟨rfl, rfl, by assumption⟩))
    | exact m_rl_call (by assumption) (Or.inr (Or.inr ⟨rfl, rfl, by assumption, by assumption⟩))
    | exact ⟨rfl, Or.inl ⟨rfl, rfl, rfl, by assumption⟩⟩
    | exact ⟨rfl, Or.inr (Or.inl ⟨rfl, rfl, rfl, by assumption⟩)⟩
    | exact ⟨rfl, Or.inr (Or.inr (Or.inl ⟨rfl, rfl, Or.inl ⟨rfl, by assumption⟩⟩))⟩
    | exact ⟨rfl, Or.inr (Or.inr (Or.inl ⟨rfl, rfl, Or.inr ⟨rfl, by assumption⟩⟩))⟩
    | exact ⟨rfl, Or.inr (Or.inr (Or.inr ⟨rfl, rfl, rfl, by assumption⟩))⟩
def m_sm (m : Nat) (r : mR) : Prop := match r with
  | some (.inl s) => s.1 = m
  | _ => True
theorem m_sm_go {m pc : Nat} {ls st : List mV} {h : mH} : m_sm m (m_go m pc ls st h) := rfl
theorem m_sm_st1 {m pc k : Nat} {ls st : List mV} {v : mV} {h : mH} : m_sm m (m_st1 m pc ls k v st h) := by
  unfold m_st1
  split <;> first | exact m_sm_go | trivial
theorem m_sm_st2 {m pc k : Nat} {ls st : List mV} {v : mV} {h : mH} : m_sm m (m_st2 m pc ls k v st h) := by
  unfold m_st2
  split <;> first | exact m_sm_go | trivial
theorem m_sm_jmp {m pc : Nat} {off : Int} {ls st : List mV} {h : mH} : m_sm m (m_jmp m pc off ls st h) := by
  unfold m_jmp
  split <;> first | exact m_sm_go | trivial
theorem m_sm_br {b : Bool} {m pc : Nat} {off : Int} {ls st : List mV} {h : mH} : m_sm m (m_br b m pc off ls st h) := by
  unfold m_br
  split <;> first | exact m_sm_go | trivial
theorem m_sm_ld {t m pc len k : Nat} {ls st : List mV} {h : mH} : m_sm m (m_ld t m pc len k ls st h) := by
  unfold m_ld
  split <;> first | exact m_sm_go | trivial
theorem m_sm_bin {f : Int → Int → Int} {m pc : Nat} {ls st : List mV} {h : mH} : m_sm m (m_bin f m pc ls st h) := by
  unfold m_bin
  split <;> first | exact m_sm_go | trivial
theorem m_sm_binl {f : Int → Int → Int} {m pc : Nat} {ls st : List mV} {h : mH} : m_sm m (m_binl f m pc ls st h) := by
  unfold m_binl
  split <;> first | exact m_sm_go | trivial
theorem m_sm_call {m' np k m pc : Nat} {ls st : List mV} {h : mH} : m_sm m (m_call m' np k m pc ls st h) := by
  generalize hr : m_call m' np k m pc ls st h = r
  match r with
  | none => trivial
  | some (.inl s) => exact absurd hr m_call_ni
  | some (.inr x) => trivial
theorem m_ins_sm (Z : mZ) (ins : Instr) (m pc : Nat) (ls st : List mV) (h : mH) : m_sm m (m_ins Z ins m pc ls st h) := by
  unfold m_ins
  split
  all_goals try exact m_sm_ld
  all_goals try exact m_sm_bin
  all_goals try exact m_sm_binl
  all_goals try exact m_sm_jmp
  all_goals try exact m_sm_go
  all_goals try trivial
  all_goals repeat' split
  all_goals first
    | trivial
    | exact m_sm_go
    | exact m_sm_st1
    | exact m_sm_st2
    | exact m_sm_br
    | exact m_sm_jmp
    | exact m_sm_call
theorem m_ins_same {Z : mZ} {ins : Instr} {m pc m2 pc2 : Nat} {ls st ls2 st2 : List mV} {h h2 : mH} (e : m_ins Z ins m pc ls st h = some (.inl (m2, pc2, ls2, st2, h2))) : m2 = m := by
  have h1 := m_ins_sm Z ins m pc ls st h
  rw [e] at h1
  exact h1
theorem m_prm_le {m : Nat} {as : List mV} {h : mH} {o : mO} (e : m_prm m as h = some o) : m_le h o.2 := by
  have ht : m_le h (m_thr h) := ⟨Nat.le_refl _, Nat.le_succ _, Nat.le_add_right _ _⟩
  unfold m_prm at e
  split at e
  all_goals first
    | (cases e; done)
    | (cases e; first | exact ht | exact m_le.rf h | (split <;> first | exact ht | exact m_le.rf h))
    | (split at e <;> first
        | (cases e; done)
        | (cases e; first | exact ht | exact m_le.rf h))
theorem m_cal_le {f : mS → Option mO} (ih : ∀ s o, f s = some o → m_le s.2.2.2.2 o.2) {m : Nat} {as : List mV} {h : mH} {q : mO} (e : m_cal f m as h = some q) : m_le h q.2 := by
  rcases m_cal_inv e with ⟨-, -, e1, -⟩ | ⟨-, e1⟩
  · exact ih _ _ e1
  · exact m_prm_le e1
theorem m_aft_le {f : mS → Option mO} (ih : ∀ s o, f s = some o → m_le s.2.2.2.2 o.2) {m pc : Nat} {ls rest : List mV} {q o : mO} (e : m_aft f m pc ls rest q = some o) : m_le q.2 o.2 := by
  obtain ⟨v | E, h'⟩ := q
  · exact ih _ _ e
  · simp only [m_aft] at e
    split at e
    · split at e
      · cases e; exact m_le.rf _
      · cases e
    · split at e
      · exact ih _ _ e
      · cases e
theorem m_ev_le {Z : mZ} : ∀ (n : Nat) (s : mS) (o : mO), m_ev Z n s = some o → m_le s.2.2.2.2 o.2 := by
  intro n
  induction n with
  | zero => intro s o e; cases e
  | succ n ih =>
    intro s o e
    have e : m_ev1 Z (m_ev Z n) s = some o := e
    unfold m_ev1 m_step at e
    cases hd : decode (m_byt s.1) s.2.1 with
    | error x => rw [hd] at e; cases e
    | ok x =>
      obtain ⟨ins, len⟩ := x
      rw [hd] at e
      dsimp only at e
      by_cases ho : m_okl ins len = true
      · rw [if_pos ho] at e
        have hr := m_ins_rl Z ins s.1 s.2.1 s.2.2.1 s.2.2.2.1 s.2.2.2.2
        generalize m_ins Z ins s.1 s.2.1 s.2.2.1 s.2.2.2.1 s.2.2.2.2 = r at e hr
        match r with
        | none => cases e
        | some (.inl s') => exact m_le.tr hr (ih _ _ e)
        | some (.inr (.inl x)) => cases e; rw [← hr.1]; exact m_le.rf _
        | some (.inr (.inr c)) =>
          obtain ⟨i, m', np, k, h1, h2, -⟩ := hr
          obtain ⟨q, e1, e2⟩ := Option.bind_eq_some_iff.mp e
          obtain ⟨-, h3⟩ := m_call_inv h2
          obtain rfl := Sum.inr.inj h3
          exact m_le.tr (m_cal_le ih e1) (m_aft_le ih e2)
      · rw [if_neg ho] at e; cases e
end
end
section
section
/-! The world at a callee's start; what a call promises. -/
theorem mt_fw_ok : mt_fw.all (fun w => w.onTables && w.keepsFace) = true := by decide +kernel
theorem mt_face {w : Cond} (hw : w ∈ mt_fw) {s U : State} (hW : s.WarmedH U.vm) (h : va_Nw w s) : va_Nw w U := by
  have h1 := List.all_eq_true.mp mt_fw_ok w hw
  simp only [Bool.and_eq_true] at h1
  exact va_tabs h1.1 (rfl : (s.setVm U.vm).vm = U.vm) (Cond.before_shiftedFace (args := #[]) (State.Shifted.of_warmed hW) w h1.2 h)
theorem mt_X_next {E : mE} {Z : mZ} {s U : State} {locs : List Loc} (h : mt_X E Z s s.heap) (hS : va_S (mt_A E) s.heap U.heap locs) (hW : s.WarmedH U.vm) : mt_X E Z U U.heap := by
  obtain ⟨⟨hX, hbl, hB⟩, hAO, ⟨hn1, hn2⟩, ⟨hu, hs, ⟨a1, t1⟩, ⟨a2, t2⟩, ⟨a3, t3⟩⟩, hf, hc⟩ := h
  have hvm := hW.alike
  have hb : U.heap[E.2.1]? = s.heap[E.2.1]? := hS.2.1 _ (Nat.lt_of_lt_of_le hbl hB) (Nat.not_le.mpr hbl)
  exact ⟨⟨(hX.kept hb).moved hvm, hbl, Nat.le_trans hB hS.1⟩, hAO.moved hvm, ⟨hn1.warmM hW, hn2.warmM hW⟩,
    ⟨vx_Zq.moved hvm (hu.kept hS.2.1), vx_Zq.moved hvm (hs.kept hS.2.1), ⟨a1, t1.warm hW⟩, ⟨a2, t2.warm hW⟩, ⟨a3, t3.warm hW⟩⟩,
    fun w hw => mt_face hw hW (hf w hw), fun x y hx hy hxy => (hc x y hx hy hxy).moved hvm⟩
theorem mt_K_next {E : mE} {Z : mZ} {s U : State} {locs : List Loc} (h : mt_K E Z s) (hS : va_S (mt_A E) s.heap U.heap locs) (hW : s.WarmedH U.vm) : mt_K E Z U := ⟨h.1.moved hW.alike, mt_X_next h.2 hS hW⟩
/-- the bytes, the answer, the words of a method that is called -/
def m_pby (m : Nat) : ByteArray := if m = 1000 then cX6_requireSuch else if m = 1001 then cX6_requireValid else if m = 1002 then cX6_requireNow else m_byt m
def m_prt (m : Nat) : Option FieldType := if m < 283 then m_rty m else none
def m_cd (m : Nat) : Cond := if m < 283 then m_cod m else .code (mw_pz m) (m_pby m) (m_rom m).2.2 (m_prt m)
def mt_wc (m : Nat) : List Cond := m_cd m :: lw_tbl.filter goodWord
theorem mt_wc_ws {m : Nat} (h : m < 282) : mt_wc m = mt_ws m := by unfold mt_wc m_cd mt_ws; rw [if_pos (by omega), if_neg (by omega)]; rfl
def mt_rm (m : Nat) (h : mH) (r : mO) : Room := { frames := (m_rom m).1, locals := (m_rom m).2.1, cells := mt_n r.2 - mt_n h, slots := r.2.2.2.2.2 - h.2.2.2.2 }
def mt_Pc (E : mE) (Z : mZ) (as : List mV) (h : mH) : Array Value → State → Prop := va_Pc (mt_as E as) (fun U => mt_K E Z U ∧ mt_R E h U.heap ∧ (h.2.2.2.1 = 0 → U.heap.size ≤ E.1 + h.2.2.1))
def mt_vo (E : mE) (v : mV) : Option Value := if v.1 = 9 then none else some (mt_v E v)
def mt_Qc (E : mE) (r : mO) : Array Value → State → Outcome → State → Prop := fun _ st o t => ∃ v, r.1 = .inl v ∧ o = .returned (mt_vo E v) ∧ mt_R E r.2 t.heap ∧ va_F (mt_A E) st t
def mt_XC (E : mE) (r : mO) : String → State → State → Prop := fun N st t => ∃ x, x < 3 ∧ r.1 = .inr x ∧ N = m_exn x ∧ mt_R E r.2 t.heap ∧ va_F (mt_A E) st t
/-- the call of m on as in h comes to r -/
def mt_ok (E : mE) (Z : mZ) (l : Launch) (m : Nat) (as : List mV) (h : mH) (r : mO) : Prop :=
  vx_Met l (mw_pz m) (mt_wc m) (mt_rm m h r) (mt_Pc E Z as h) (mt_Qc E r) (mt_XC E r) (mt_n r.2 - mt_n h) (r.2.2.2.2.2 - h.2.2.2.2) (mt_A E)
theorem mt_blind {E : mE} {Z : mZ} {as : List mV} {h : mH} : FrameBlind (mt_Pc E Z as h) := by
  intro a U g mk hP
  obtain ⟨h1, h2, h3, h4⟩ := hP
  exact ⟨h1, mt_K_next (U := U.calling g mk a) h2 va_S.rf (State.WarmedH.refl U), h3, h4⟩
theorem mt_pre {E : mE} {Z : mZ} {as : List mV} {h : mH} {s : State} {H : Heap} {locs : List Loc} (hK : mt_K E Z s) (hS : va_S (mt_A E) s.heap H locs) (hR : mt_R E h H) (hz : h.2.2.2.1 = 0 → H.size ≤ E.1 + h.2.2.1) : ∀ U : State, U.heap = H → s.WarmedH U.vm → mt_Pc E Z as h (mt_as E as).toArray U := by
  intro U hU hW
  subst hU
  exact ⟨rfl, mt_K_next hK hS hW, hR, hz⟩
-- facts of the methods, by program
def mc_ok (m : Nat) : Bool := decide ((m_nam m).cls = m_cn (m_cls m)) && plainName (m_nam m).cls && decide (m_cls m < 9) && decide ((m_nam m).cls ≠ "java/lang/invoke/MethodHandle") && decide ((m_nam m).cls ≠ "java/lang/invoke/VarHandle") && (if m_kd m = 0 then m_sta m else if m_kd m = 1 then !m_sta m && (m_han m).isEmpty && decide (m_cls m < 7) && decide ((m_nam m).name ≠ "<init>") else decide (m_kd m = 2) && !m_sta m && (m_han m).isEmpty && decide ((m_nam m).name = "<init>") && decide (m_ret m = 0))
theorem mc_okA : (List.range 282).all mc_ok = true := by decide +kernel
def mm_ok (r : Nat × Nat × Nat × Nat) : Bool := decide (r.2.2.1 < 282) || decide (1000 ≤ r.2.2.1 ∧ r.2.2.1 ≤ 1007)
theorem mm_okA : mm_metL.all mm_ok = true := by decide +kernel
theorem m_met_ok {cl i m' np : Nat} (h : m_met cl i = some (m', np)) : m' < 282 ∨ 1000 ≤ m' ∧ m' ≤ 1007 := by
  unfold m_met at h
  obtain ⟨r, h1, h2⟩ := Option.map_eq_some_iff.mp h
  have h6 := List.all_eq_true.mp mm_okA r (List.mem_of_find?_eq_some h1)
  obtain ⟨a, b, c, d⟩ := r
  dsimp only at h2
  cases h2
  simpa [mm_ok] using h6
theorem mw_pz_lt {m : Nat} (h : m < 283) : mw_pz m = m_nam m := by
  unfold mw_pz
  simp only [show ¬ m = 1000 by omega, show ¬ m = 1001 by omega, show ¬ m = 1002 by omega, show ¬ m = 1003 by omega, show ¬ m = 1004 by omega, show ¬ m = 1007 by omega, if_false]
theorem m_rom_lt {m : Nat} (h : m < 283) : m_rom m = (m_fra m, m_loc m, m_max m) := by unfold m_rom; rw [if_pos h]
end
end
section
section
/-! Entry of a method, its end, its calls. -/
theorem mc_okm {m : Nat} (h : m < 282) : (m_nam m).cls = m_cn (m_cls m) ∧ plainName (m_nam m).cls = true ∧ m_cls m < 9 ∧ (m_nam m).cls ≠ "java/lang/invoke/MethodHandle" ∧ (m_nam m).cls ≠ "java/lang/invoke/VarHandle" ∧ (m_kd m = 0 ∧ m_sta m = true ∨ m_kd m = 1 ∧ m_sta m = false ∧ m_han m = [] ∧ m_cls m < 7 ∧ (m_nam m).name ≠ "<init>" ∨ m_kd m = 2 ∧ m_sta m = false ∧ m_han m = [] ∧ (m_nam m).name = "<init>" ∧ m_ret m = 0) := by
  have h1 := List.all_eq_true.mp mc_okA m (List.mem_range.mpr h)
  unfold mc_ok at h1
  simp only [Bool.and_eq_true, decide_eq_true_eq] at h1
  obtain ⟨⟨⟨⟨⟨a1, a2⟩, a3⟩, a4⟩, a5⟩, a6⟩ := h1
  refine ⟨a1, a2, a3, a4, a5, ?_⟩
  by_cases k0 : m_kd m = 0
  · rw [if_pos k0] at a6
    exact Or.inl ⟨k0, a6⟩
  · rw [if_neg k0] at a6
    by_cases k1 : m_kd m = 1
    · rw [if_pos k1] at a6
      simp only [Bool.and_eq_true, decide_eq_true_eq, Bool.not_eq_true', List.isEmpty_iff] at a6
      obtain ⟨⟨⟨b1, b2⟩, b3⟩, b4⟩ := a6
      exact Or.inr (Or.inl ⟨k1, b1, b2, b3, b4⟩)
    · rw [if_neg k1] at a6
      simp only [Bool.and_eq_true, decide_eq_true_eq, Bool.not_eq_true', List.isEmpty_iff] at a6
      obtain ⟨⟨⟨⟨b0, b1⟩, b2⟩, b3⟩, b4⟩ := a6
      exact Or.inr (Or.inr ⟨b0, b1, b2, b3, b4⟩)
/-- the small machine's runs of n steps at most are the machine's -/
def mt_Wn (E : mE) (Z : mZ) (l : Launch) (n : Nat) : Prop :=
  ∀ (m pc : Nat) (ls st : List mV) (h : mH) (r : mO), m_ev Z n (m, pc, ls, st, h) = some r → m < 283 → (m = 282 → ∃ v, r.1 = .inl v) →
  ∀ {p : Program} {e : Env} {R : Room} {s : State} {mid : MethodId} {args : Array Value} {below : List Frame} {meth : Method} {c : Code} {H : Heap} {locs : List Loc} {cells slots : Nat} {lsR : Array Slot} (mc ms : Nat),
  mt_Cx E Z m p R s mid args meth c → mt_L E lsR (m_max m) ls → mt_R E h H → va_S (mt_A E) s.heap H locs → (h.2.2.2.1 = 0 → s.heap.size + cells ≤ E.1 + h.2.2.1) →
  cells + mt_n r.2 = mc + mt_n h → slots + r.2.2.2.2.2 = ms + h.2.2.2.2 → mc ≤ R.cells → ms ≤ R.slots →
  W p l e R s mid args below meth c H locs cells slots (vx_MQ below (mt_Qc E r) (mt_XC E r) args s mc ms (mt_A E)) (F0 mid pc lsR (st.map (mt_v E)))
theorem mt_inv_n {h : mH} {r : mO} (e : m_le h r.2) : mt_n h ≤ mt_n r.2 ∧ h.2.2.2.2 ≤ r.2.2.2.2.2 := ⟨Nat.add_le_add e.1 e.2.1, e.2.2⟩
theorem mt_body {E : mE} {Z : mZ} {l : Launch} {n m : Nat} {as : List mV} {h : mH} {r : mO} (IH : mt_Wn E Z l n) (hm : m < 282) (hn : (m_lay as).length ≤ m_max m) (e : m_ev Z n (m, 0, m_ent (m_max m) as, [], h) = some r) : mt_ok E Z l m as h r := by
  obtain ⟨g1, g2, g3, g4, g5, g6⟩ := mc_okm hm
  have h3 : m < 283 := by omega
  have hpz := mw_pz_lt h3
  have hrm := m_rom_lt h3
  have hle : mt_n h ≤ mt_n r.2 ∧ h.2.2.2.2 ≤ r.2.2.2.2.2 := mt_inv_n (m_ev_le _ _ _ e)
  have body : ∀ (p : Program) (e9 : Env) (s : State) (mid : MethodId) (args : Array Value) (below : List Frame) (meth : Method) (c : Code) (s₁ : State), BodyLoose p l (mw_pz m) (headSpec (mt_wc m) (mt_rm m h r)) (m_byt m) (m_max m) (m_rty m) e9 s mid args below meth c s₁ → c.maxLocals = m_max m → c.exceptionTable.toList = tableOf (m_han m) → mt_Pc E Z as h args s →
      W p l e9 (headSpec (mt_wc m) (mt_rm m h r)).room s mid args below meth c s.heap [] 0 0 (vx_MQ below (mt_Qc E r) (mt_XC E r) args s (mt_n r.2 - mt_n h) (r.2.2.2.2.2 - h.2.2.2.2) (mt_A E)) (entryFrame mid args (m_max m)) := by
    intro p e9 s mid args below meth c s₁ B hml htab hP
    obtain ⟨rfl, hK, hR, hz⟩ := hP
    have hw : ∀ w ∈ mt_ws m, w.before (mt_as E as).toArray s = true := by
      intro w hw
      exact atoms_spec (ws := mt_wc m) B.pre _ (by rw [mt_wc_ws hm]; exact hw)
    have hfc := findClass_of_methodNamed B.named
    have hnm := (name_of_methodNamed B.named B.method).1
    rw [hpz] at hfc hnm
    rw [g1] at hfc
    rw [lg_entry_eq]
    refine IH m 0 _ [] h r e h3 (fun q => absurd q (by omega)) _ _ ⟨⟨B.exec, B.bytes, hml, hfc, hw⟩, B.notSynchronized, fun q => hnm.trans q, fun _ => htab, ⟨?_, ?_⟩, hK, B.returns⟩ (mt_entry hn (lv_entry _ (by rw [← mt_lay_len]; exact hn))) hR va_S.rf hz ?_ ?_ (Nat.le_refl _) (Nat.le_refl _)
    · show m_fra m ≤ (m_rom m).1
      rw [hrm]; exact Nat.le_refl _
    · show m_loc m ≤ (m_rom m).2.1
      rw [hrm]; exact Nat.le_refl _
    · have := hle.1; omega
    · have := hle.2; omega
  have hcd : m_cd m = m_cod m := by unfold m_cd; rw [if_pos h3]
  unfold mt_ok
  cases hh : m_han m with
  | nil =>
    refine vx_ofW (ws' := lw_tbl.filter goodWord) (cc := m_byt m) (maxL := m_max m) (ret := m_rty m) (by rw [hpz]; exact g2) ?_ ?_
    · show m_cd m :: _ = _
      rw [hcd]
      unfold m_cod
      rw [hh, hpz]
    · intro p e9 s mid args below meth c s₁ B hml ht hP
      refine body p e9 s mid args below meth c s₁ B hml ?_ hP
      rw [hh]
      exact List.eq_nil_iff_forall_not_mem.mpr fun x hx => ht x hx
  | cons a b =>
    have hw : mt_wc m = Cond.codeWith (mw_pz m) (m_byt m) (m_max m) (m_rty m) (a :: b) :: lw_tbl.filter goodWord := by
      show m_cd m :: _ = _
      rw [hcd]
      unfold m_cod
      rw [hh, hpz]
    refine vx_ofWH (hh := a :: b) (ws' := lw_tbl.filter goodWord) (cc := m_byt m) (maxL := m_max m) (ret := m_rty m) (by rw [hpz]; exact g2) hw ?_
    intro p e9 s mid args below meth c s₁ B hml hP
    refine body p e9 s mid args below meth c s₁ B hml ?_ hP
    rw [hh]
    exact vx_table (x := mw_pz m) B (atoms_spec (ws := mt_wc m) B.pre _ (by rw [hw]; exact List.mem_cons_self))
section MTC
variable {p : Program} {l : Launch} {e : Env} {R : Room} {s : State} {mid : MethodId} {args : Array Value} {below : List Frame} {meth : Method} {c : Code} {H : Heap} {locs : List Loc} {cells slots : Nat} {Q : State → Prop}
theorem mt_ret {E : mE} {Z : mZ} {m pc len : Nat} {ins : Instr} {ls st : List mV} {h : mH} {x : mV × mH} {lsR : Array Slot} (C : mt_Cx E Z m p R s mid args meth c) (hd : decode (m_byt m) pc = .ok (ins, len)) (ho : m_okl ins len = true) (hm : m_rl ins m pc ls st h (some (.inr (.inl x)))) (hR : mt_R E h H) (hS : va_S (mt_A E) s.heap H locs) :
    W p l e R s mid args below meth c H locs cells slots (vx_MQ below (mt_Qc E (.inl x.1, x.2)) (mt_XC E (.inl x.1, x.2)) args s cells slots (mt_A E)) (F0 mid pc lsR (st.map (mt_v E))) := by
  obtain ⟨⟨hx, hb, hml, hown, hts⟩, hlk, hnm, hex, hRR, hK, hrt⟩ := C
  obtain ⟨v, h'⟩ := x
  obtain ⟨rfl, hm⟩ := hm
  have hq : ∀ t : State, t.heap = H → s.WarmedH t.vm → mt_Qc E (.inl v, h') args s (.returned (mt_vo E v)) t := fun t ht _ => ⟨v, rfl, rfl, by rw [ht]; exact hR, hS.F ht⟩
  have hf : ∀ q ∈ locs, mt_A E q.base := hS.2.2
  unfold m_rty at hrt
  rcases hm with ⟨rfl, hv, rfl, hr⟩ | ⟨rfl, hv, rfl, hr⟩ | ⟨rfl, rfl, hr⟩ | ⟨rfl, hv, rfl, hr⟩
  · obtain ⟨t, a⟩ := v
    cases hv
    obtain rfl : len = 1 := by simpa [m_okl] using ho
    rcases hr with hr | ⟨hr, ha⟩
    · rw [hr] at hrt
      exact vx_ret (W.iret hx hb hrt hq hf hd hlk)
    · rw [hr] at hrt
      refine vx_ret (W.zret (ty := .boolean) hx hb hrt ?_ hq hf hd hlk)
      have e1 : Int32.ofInt a = Int32.ofInt (w32 a) := by rw [← mt_ti, Int32.ofInt_toInt]
      rw [e1]
      rcases ha with ha | ha <;> (rw [ha]; rfl)
  · obtain ⟨t, a⟩ := v
    cases hv
    obtain rfl : len = 1 := by simpa [m_okl] using ho
    rw [hr] at hrt
    exact vx_ret (W.lret hx hb hrt hq hf hd hlk)
  · obtain ⟨t, a⟩ := v
    obtain rfl : len = 1 := by simpa [m_okl] using ho
    rcases hr with ⟨hv, hr⟩ | ⟨hv, hr⟩
    · rw [hr] at hrt
      cases hv
      cases a with
      | ofNat a => exact vx_ret (W.aret hx hb hrt (Or.inl ⟨_, rfl⟩) (Or.inr ⟨_, rfl⟩) hq hf hd hlk)
      | negSucc a => exact vx_ret (W.aret hx hb hrt (Or.inl ⟨_, rfl⟩) (Or.inl rfl) hq hf hd hlk)
    · rw [hr] at hrt
      cases hv
      exact vx_ret (W.aret hx hb hrt (Or.inl ⟨_, rfl⟩) (Or.inr ⟨_, rfl⟩) hq hf hd hlk)
  · cases hv
    obtain rfl : len = 1 := by simpa [m_okl] using ho
    rw [hr] at hrt
    exact vx_ret (W.vret hx hb hrt hq hf hd hlk)
/-- behind a call -/
theorem mt_callr {E : mE} {q : mO} {pc mc ms : Nat} {lsR : Array Slot} {rest st0 : List Value} {a : Array Value} (hr : vx_Run p l e R s mid args below meth c H locs cells slots mc ms (F0 mid pc lsR st0) rest (mt_Qc E q a) (mt_XC E q) (mt_A E)) (hS : va_S (mt_A E) s.heap H locs)
    (kk : ∀ (v : mV) (H1 : Heap) (locs1 : List Loc), q.1 = .inl v → mt_R E q.2 H1 → va_S (mt_A E) s.heap H1 locs1 → W p l e R s mid args below meth c H1 locs1 (cells + mc) (slots + ms) Q (F0 mid (pc + 3) lsR ((mt_vo E v).toList ++ rest)))
    (kx : ∀ (x : Nat) (ce : Cell) (q9 : Addr) (H1 : Heap) (locs1 : List Loc), q.1 = .inr x → x < 3 → mt_R E q.2 H1 → va_S (mt_A E) s.heap H1 locs1 → H1[q9]? = some ce → ce.vm = .none → s.vm.findClass (m_exn x) = some ce.cls → vx_W p l e R s mid args below meth c H1 locs1 (cells + mc) (slots + ms) Q (F0 mid pc lsR rest) q9) :
    W p l e R s mid args below meth c H locs cells slots Q (F0 mid pc lsR st0) := by
  intro T hT X
  rcases hr T hT X with ⟨v, st₀, t, T', L, h0, X', hL, e1, e2, ⟨w, hq, hv, hR, hF⟩, st⟩ | ⟨q9, st₀, t, T', L, N, ce, h0, X', hL, e1, e2, ⟨x, hx3, hq, hN, hR, hF⟩, hce, hcv, hcl, st⟩
  · cases hv
    obtain ⟨k1, k2, k3⟩ := vx_keep h0 e1 hS (fun q _ h => h) (fun q h => h) hL hF
    obtain ⟨t2, a1, b1⟩ := kk w T'.heap (locs ++ L) hq (by rw [e1]; exact hR) k3 T' rfl X'
    exact ⟨t2, st t2 a1, b1⟩
  · subst hN
    obtain ⟨k1, k2, k3⟩ := vx_keep h0 e1 hS (fun q _ h => h) (fun q h => h) hL hF
    obtain ⟨t2, a1, b1⟩ := kx x ce q9 T'.heap (locs ++ L) hq hx3 (by rw [e1]; exact hR) k3 (by rw [e1]; exact hce) hcv hcl T' rfl X'
    exact ⟨t2, st.trans a1, b1⟩
end MTC
end
end
section
section
/-! The invocations. -/
theorem mw_rq : (Cond.code yX6_requireSuch cX6_requireSuch 1 none ∈ lw_tbl ∧ goodWord (Cond.code yX6_requireSuch cX6_requireSuch 1 none) = true) ∧ (Cond.code yX6_requireValid cX6_requireValid 1 none ∈ lw_tbl ∧ goodWord (Cond.code yX6_requireValid cX6_requireValid 1 none) = true) ∧ (Cond.code yX6_requireNow cX6_requireNow 1 none ∈ lw_tbl ∧ goodWord (Cond.code yX6_requireNow cX6_requireNow 1 none) = true) := ⟨mw_in (p := (3, 28)) (by decide +kernel), mw_in (p := (2, 159)) (by decide +kernel), mw_in (p := (3, 47)) (by decide +kernel)⟩
theorem mw_rqs : (Cond.static yX6_requireSuch ∈ lw_tbl ∧ goodWord (Cond.static yX6_requireSuch) = true) ∧ (Cond.static yX6_requireValid ∈ lw_tbl ∧ goodWord (Cond.static yX6_requireValid) = true) ∧ (Cond.static yX6_requireNow ∈ lw_tbl ∧ goodWord (Cond.static yX6_requireNow) = true) := ⟨mw_in (p := (3, 27)) (by decide +kernel), mw_in (p := (2, 158)) (by decide +kernel), mw_in (p := (3, 46)) (by decide +kernel)⟩
theorem mw_exL : ∀ x, x < 3 → (Cond.classLink RL (if x = 0 then 21 else if x = 1 then 15 else 23) (m_exn x) ∈ lw_tbl ∧ goodWord (Cond.classLink RL (if x = 0 then 21 else if x = 1 then 15 else 23) (m_exn x)) = true) := by
  intro x hx
  rcases (show x = 0 ∨ x = 1 ∨ x = 2 by omega) with rfl | rfl | rfl
  · exact mw_in (p := (3, 5)) (by decide +kernel)
  · exact mw_in (p := (2, 152)) (by decide +kernel)
  · exact mw_in (p := (3, 6)) (by decide +kernel)
/-- a method that may be called: its code's word, how it is called -/
theorem mt_wcG {m : Nat} (h : m < 282 ∨ m = 1000 ∨ m = 1001 ∨ m = 1002) : ∀ w ∈ mt_wc m, w ∈ lw_tbl ∧ goodWord w = true := by
  intro w hw
  rcases List.mem_cons.mp hw with rfl | hw
  · rcases h with h | rfl | rfl | rfl
    · unfold m_cd
      rw [if_pos (by omega)]
      obtain ⟨p, hp⟩ := mw_cA_282 m h
      have hg := mw_codG m h
      refine mw_in (p := p) ?_
      unfold mw_ok
      rw [hg, decide_eq_true hp]
      rfl
    · exact mw_rq.1
    · exact mw_rq.2.1
    · exact mw_rq.2.2
  · exact List.mem_filter.mp hw
theorem mt_good {m : Nat} {w : Cond} (h : w ∈ lw_tbl ∧ goodWord w = true) : w ∈ mt_ws m ∧ ((w.onTables && w.keeps) = true ∨ ∃ ty, w = .arrayClass ty) := ⟨mt_tbl h, good_of_word h.2⟩
theorem mt_iniW {m : Nat} (h : m < 282 ∨ m = 1000 ∨ m = 1001 ∨ m = 1002) : Cond.initialized (mw_pz m).cls ∈ lw_tbl ∧ goodWord (Cond.initialized (mw_pz m).cls) = true := by
  rcases h with h | rfl | rfl | rfl
  · obtain ⟨g1, -, g3, -⟩ := mc_okm h
    rw [mw_pz_lt (by omega), g1]
    exact mw_in (mw_iniA _ g3)
  · exact mw_in (mw_iniA 6 (by omega))
  · exact mw_in (mw_iniA 6 (by omega))
  · exact mw_in (mw_iniA 6 (by omega))
theorem mt_notMH {m : Nat} (h : m < 282 ∨ m = 1000 ∨ m = 1001 ∨ m = 1002) : (mw_pz m).cls ≠ "java/lang/invoke/MethodHandle" ∧ (mw_pz m).cls ≠ "java/lang/invoke/VarHandle" := by
  rcases h with h | rfl | rfl | rfl
  · obtain ⟨-, -, -, g4, g5, -⟩ := mc_okm h
    rw [mw_pz_lt (by omega)]
    exact ⟨g4, g5⟩
  all_goals exact ⟨by decide, by decide⟩
theorem mt_staW {m : Nat} (h : m < 282 ∧ m_sta m = true ∨ m = 1000 ∨ m = 1001 ∨ m = 1002) : Cond.static (mw_pz m) ∈ lw_tbl ∧ goodWord (Cond.static (mw_pz m)) = true := by
  rcases h with ⟨h, h2⟩ | rfl | rfl | rfl
  · have h1 := mw_insA m h
    unfold m_ism at h1
    rw [if_pos h2] at h1
    rw [mw_pz_lt (by omega)]
    exact mw_in h1
  · exact mw_rqs.1
  · exact mw_rqs.2.1
  · exact mw_rqs.2.2
theorem mt_insW {m : Nat} (h : m < 282 ∧ m_sta m = false) : Cond.instanceMethod (mw_pz m) ∈ lw_tbl ∧ goodWord (Cond.instanceMethod (mw_pz m)) = true := by
  obtain ⟨h, h2⟩ := h
  · have h1 := mw_insA m h
    unfold m_ism at h1
    rw [if_neg (by rw [h2]; decide)] at h1
    rw [mw_pz_lt (by omega)]
    exact mw_in h1
theorem mt_selW {m : Nat} (h : m < 282 ∧ m_sta m = false ∧ (m_nam m).name ≠ "<init>") : Cond.selects (mw_pz m).cls (mw_pz m) (mw_pz m) ∈ lw_tbl ∧ goodWord (Cond.selects (mw_pz m).cls (mw_pz m) (mw_pz m)) = true := by
  obtain ⟨h, h2, h3⟩ := h
  · have h1 := mw_selA m h
    rw [mw_pz_lt (by omega)]
    generalize mw_sel.getD m (9, 0) = p at h1
    unfold mw_sl at h1
    by_cases k0 : p.1 = 0
    · rw [if_pos k0] at h1
      simp only [Bool.and_eq_true, beq_iff_eq] at h1
      obtain ⟨h4, h5⟩ := h1
      obtain ⟨q, hq, hq2⟩ := Option.map_eq_some_iff.mp h4
      refine ⟨?_, h5⟩
      unfold lw_tbl
      refine List.mem_append_left _ ?_
      unfold k2_sels
      exact List.mem_map.mpr ⟨q, List.mem_of_getElem? hq, by rw [hq2]⟩
    · rw [if_neg k0] at h1
      by_cases k9 : p.1 = 9
      · rw [if_pos k9, h2] at h1
        simp only [Bool.false_or, beq_iff_eq] at h1
        exact absurd h1 h3
      · rw [if_neg k9] at h1
        exact mw_in h1
theorem mt_metw2 {cl i m' np : Nat} (h : m_met cl i = some (m', np)) : (cl = 6 ∧ (i = 25 ∧ m' = mX5_init ∨ i = 48 ∧ m' = mX4_init) ∨ Cond.methodLink (m_cn cl) i (mw_pz m') ∈ lw_tbl ∧ goodWord (Cond.methodLink (m_cn cl) i (mw_pz m')) = true) ∧ (parseMethodDescriptor (mw_pz m').desc).map (fun d => d.parameters.length) = some np := by
  unfold m_met at h
  obtain ⟨r, h1, h2⟩ := Option.map_eq_some_iff.mp h
  have h3 := List.find?_some h1
  have h6 := List.mem_of_find?_eq_some h1
  simp only [Bool.and_eq_true, beq_iff_eq] at h3
  obtain ⟨a, b, cc, d⟩ := r
  dsimp only at h2 h3
  obtain ⟨rfl, rfl⟩ := h3
  cases h2
  obtain ⟨j, hj, e⟩ := List.mem_iff_getElem.mp h6
  have hl : mm_metL.length = 222 := by decide +kernel
  have h7 := mw_metA j (by omega)
  have e2 : mm_metL.getD j (0, 0, 0, 0) = (a, b, m', np) := by rw [List.getD_eq_getElem?_getD, List.getElem?_eq_getElem hj, e]; rfl
  rw [e2] at h7
  simp only [mw_ml1, Bool.and_eq_true, Bool.or_eq_true, decide_eq_true_eq, beq_iff_eq] at h7
  refine ⟨?_, h7.2⟩
  rcases h7.1 with ⟨⟨-, h9⟩, h8⟩ | h8
  · exact Or.inl ⟨h9, h8⟩
  · exact Or.inr (mw_in h8)
/-- a constructor's contract, without exceptions -/
theorem mt_met {E : mE} {Z : mZ} {l : Launch} {m : Nat} {as : List mV} {h : mH} {r : mO} {v : mV} (hM : mt_ok E Z l m as h r) (hv : r.1 = .inl v) : Met l (mw_pz m) (mt_wc m) (mt_rm m h r) (mt_Pc E Z as h) (mt_Qc E r) (mt_n r.2 - mt_n h) (r.2.2.2.2.2 - h.2.2.2.2) (mt_A E) := by
  intro p e h1 h2 h3 s mid args below h4 h5 h6 h7
  obtain ⟨n, o, a1, a2, a3, a4⟩ := hM p e h1 h2 h3 s mid args below h4 h5 h6 h7
  refine ⟨n, o, a1, a2, a3, ?_⟩
  rcases a4 with a4 | ⟨q, -, -, -, -, ⟨x, -, hx, -⟩, -⟩
  · exact a4
  · rw [hv] at hx; cases hx
theorem mt_no8 {E : mE} {h : mH} {H : Heap} {a : Nat} (hR : mt_R E h H) (a1 : a < h.2.2.1) (a2 : (h.1 a).1 = 1) (a3 : (h.1 a).2.1 = 8) : False := by
  have hat := mt_w_at (E := E) a1
  unfold mt_c at hat
  rw [if_pos a2, a3] at hat
  obtain ⟨r, hr, -⟩ := hR.1 a _ hat
  have h8 : vwCl[8]? = none := rfl
  rw [show ((8, mt_fs E 8 (h.1 a).2.2 (h.2.1 a)) : Nat × List Value).1 = 8 from rfl, h8] at hr
  cases hr
section MTI
variable {p : Program} {l : Launch} {e : Env} {R : Room} {s : State} {mid : MethodId} {args : Array Value} {below : List Frame} {meth : Method} {c : Code} {H : Heap} {locs : List Loc} {cells slots : Nat} {Q : State → Prop}
theorem mt_run {E : mE} {Z : mZ} {m pc i k m' np : Nat} {ins : Instr} {ls st : List mV} {h : mH} {q : mO} {lsR : Array Slot} (C : mt_Cx E Z m p R s mid args meth c) (hmet : m_met (m_cls m) i = some (m', np)) (hins : ins = .invokevirtual i ∧ k = 1 ∨ ins = .invokespecial i ∧ k = 2 ∧ m' ≠ 1007 ∨ ins = .invokestatic i ∧ k = 0 ∧ m' ≠ 1003 ∧ m' ≠ 1004)
    (hd : decode (m_byt m) pc = .ok (ins, 3)) (g1 : m_kd m' = k) (g2 : m_rok m m' = true) (g3 : m_sum (st.drop (if k = 0 then np else np + 1)) ≤ 8) (g4 : (if k = 0 then np else np + 1) ≤ st.length) (g5 : k = 0 ∨ m_rcv m' (st.take (np + 1)).reverse h = true)
    (hm' : m' < 282 ∨ m' = 1000 ∨ m' = 1001 ∨ m' = 1002) (hM : mt_ok E Z l m' (st.take (if k = 0 then np else np + 1)).reverse h q) (hk2 : k = 2 → ∃ v, q.1 = .inl v)
    (hL : mt_L E lsR (m_max m) ls) (hR : mt_R E h H) (hS : va_S (mt_A E) s.heap H locs) (hz : h.2.2.2.1 = 0 → H.size ≤ E.1 + h.2.2.1) (hc1 : cells + (mt_n q.2 - mt_n h) ≤ R.cells) (hc2 : slots + (q.2.2.2.2.2 - h.2.2.2.2) ≤ R.slots) :
    vx_Run p l e R s mid args below meth c H locs cells slots (mt_n q.2 - mt_n h) (q.2.2.2.2.2 - h.2.2.2.2) (F0 mid pc lsR (st.map (mt_v E))) ((st.drop (if k = 0 then np else np + 1)).map (mt_v E)) (mt_Qc E q (mt_as E (st.take (if k = 0 then np else np + 1)).reverse).toArray) (mt_XC E q) (mt_A E) := by
  obtain ⟨hC, hlk, hnm, hex, ⟨hRf, hRl⟩, hK, hrt⟩ := C
  have hts := hC.2.2.2.2
  obtain ⟨hlink, hpar⟩ := mt_metw2 hmet
  have hrok := m_rok_of g2
  have hGw : GoodIn (mt_ws m) (mt_wc m') := fun w hw => mt_good (mt_wcG hm' w hw)
  have hmr : (mt_rm m' h q).frames + 1 ≤ R.frames ∧ 8 + ((m_rom m').2.2 + 11) + (mt_rm m' h q).locals ≤ R.locals := ⟨Nat.le_trans hrok.1 hRf, Nat.le_trans hrok.2 hRl⟩
  have hW : 2 * (F0 mid pc lsR (st.map (mt_v E))).monitorRoom + (((st.drop (if k = 0 then np else np + 1)).map (mt_v E)).map fun v => v.category).sum ≤ 8 := by
    have h3 := lv_room (m := mid) (pc := pc) (ls := lsR) (rest := st.map (mt_v E)) (mt_sum8 (E := E) g3)
    omega
  have hPre : ∀ U : State, U.heap = H → s.WarmedH U.vm → mt_Pc E Z (st.take (if k = 0 then np else np + 1)).reverse h (mt_as E (st.take (if k = 0 then np else np + 1)).reverse).toArray U := mt_pre hK hS hR hz
  have hsplit : st.map (mt_v E) = ((mt_as E (st.take (if k = 0 then np else np + 1)).reverse)).reverse ++ (st.drop (if k = 0 then np else np + 1)).map (mt_v E) := by
    unfold mt_as
    rw [← List.map_reverse, List.reverse_reverse, ← List.map_append, List.take_append_drop]
  have hmax : ∀ m', m' < 283 → (m_rom m').2.2 = m_max m' := fun m' h => by rw [m_rom_lt h]
  rcases hins with ⟨rfl, rfl⟩ | ⟨rfl, rfl, hn7⟩ | ⟨rfl, rfl, hn3, hn4⟩
  · -- virtual
    have hl0 : Cond.methodLink (m_cn (m_cls m)) i (mw_pz m') ∈ lw_tbl ∧ goodWord (Cond.methodLink (m_cn (m_cls m)) i (mw_pz m')) = true := by
      rcases hlink with ⟨-, ⟨-, rfl⟩ | ⟨-, rfl⟩⟩ | hlink
      · exact absurd g1 (by decide +kernel)
      · exact absurd g1 (by decide +kernel)
      · exact hlink
    rw [if_neg (by decide)] at g3 g4 hM hW hPre hsplit ⊢
    have hlen : (st.take (np + 1)).reverse.length = np + 1 := by rw [List.length_reverse, List.length_take]; omega
    obtain ⟨v0, as', has⟩ : ∃ v0 as', (st.take (np + 1)).reverse = v0 :: as' := by
      cases hh : (st.take (np + 1)).reverse with
      | nil => rw [hh] at hlen; cases hlen
      | cons a b => exact ⟨a, b, rfl⟩
    rw [has] at hlen g5 hM hPre hsplit ⊢
    replace g5 : m_rcv m' (v0 :: as') h = true := g5.resolve_left (by decide)
    have hwC : m' < 282 ∧ m_han m' = [] := by
      rcases hm' with hm' | rfl | rfl | rfl
      · obtain ⟨-, -, -, -, -, q6⟩ := mc_okm hm'
        rcases q6 with ⟨q, -⟩ | ⟨q, q2, q3, -⟩ | ⟨q, -⟩
        · omega
        · exact ⟨hm', q3⟩
        · omega
      · exact absurd g1 (by decide)
      · exact absurd g1 (by decide)
      · exact absurd g1 (by decide)
    have hsel : Cond.instanceMethod (mw_pz m') ∈ lw_tbl ∧ goodWord (Cond.instanceMethod (mw_pz m')) = true ∧ Cond.selects (mw_pz m').cls (mw_pz m') (mw_pz m') ∈ lw_tbl ∧ goodWord (Cond.selects (mw_pz m').cls (mw_pz m') (mw_pz m')) = true := by
      obtain ⟨hm1, -⟩ := hwC
      · obtain ⟨-, -, -, -, -, q6⟩ := mc_okm hm1
        rcases q6 with ⟨q, -⟩ | ⟨q, q2, q3, q4, q5⟩ | ⟨q, -⟩
        · omega
        · have a1 := mt_insW ⟨hm1, q2⟩
          have a2 := mt_selW ⟨hm1, q2, q5⟩
          exact ⟨a1.1, a1.2, a2⟩
        · omega
    have hcode : m_cd m' = .code (mw_pz m') (m_pby m') (m_rom m').2.2 (m_prt m') := by
      obtain ⟨hm1, hh⟩ := hwC
      · have h3 : m' < 283 := by omega
        unfold m_cd m_cod m_pby m_prt
        rw [if_pos h3, hh, mw_pz_lt h3, hmax _ h3]
        simp only [show ¬ m' = 1000 by omega, show ¬ m' = 1001 by omega, show ¬ m' = 1002 by omega, if_false, if_pos h3]
    have hrecv : ∃ (b : Nat) (cellB : Cell), mt_v E v0 = .ref b ∧ H[b]? = some cellB ∧ cellB.vm.isStatics = false ∧ s.vm.findClass (mw_pz m').cls = some cellB.cls := by
      unfold m_rcv at g5
      split at g5
      · next a as9 e9 =>
        cases e9
        obtain ⟨a1, a2, a3⟩ := of_decide_eq_true g5
        have hm1 : m' < 282 := hwC.1
        obtain ⟨q1, -, -, -, -, q6⟩ := mc_okm hm1
        have hc8 : m_cls m' < 7 := by
          rcases q6 with ⟨q, -⟩ | ⟨q, q2, q3, q4, q5⟩ | ⟨q, -⟩
          · omega
          · exact q4
          · omega
        obtain ⟨b1, b2, b3⟩ := mt_cls _ hc8
        have hat := mt_w_at (E := E) a1
        unfold mt_c at hat
        rw [if_pos a2, a3] at hat
        obtain ⟨cell, w1, w2, w3⟩ := va_recv hK.1 hR.1 b1 hat
        exact ⟨_, cell, rfl, w1, w2, by rw [mw_pz_lt (by omega), q1, ← b3]; exact w3⟩
      · cases g5
    obtain ⟨b, cellB, hb, r1, r2, r3⟩ := hrecv
    have hasE : mt_as E (v0 :: as') = .ref b :: mt_as E as' := by
      unfold mt_as
      rw [List.map_cons, hb]
    rw [hasE] at hPre hsplit ⊢
    refine vx_runV hC hM (cwV np hts ?_ (by rw [← hcode]; rfl) rfl rfl ⟨rfl, (mt_notMH hm').1, (mt_notMH hm').2, hpar⟩ hmr) ⟨mt_blind, ⟨cellB, r1, r2, r3⟩, hPre⟩ rfl ?_ hL.1 ?_ hW hd ⟨hc1, hc2⟩
    · intro w hw
      unfold wsV at hw
      rcases List.mem_append.mp hw with hw | hw
      · simp only [List.mem_cons, List.not_mem_nil, or_false] at hw
        rcases hw with rfl | rfl | rfl | rfl
        · exact mt_good hl0
        · exact mt_good ⟨hsel.1, hsel.2.1⟩
        · exact mt_good hsel.2.2
        · exact mt_good (mt_iniW hm')
      · exact hGw w hw
    · unfold mt_as
      rw [List.length_map]
      simpa using hlen
    · show st.map (mt_v E) = _
      rw [hsplit]
      simp
  · -- constructor
    rw [if_neg (by decide)] at g3 g4 hM hW hPre hsplit ⊢
    have hm1 : m' < 282 := by
      rcases hm' with hm' | rfl | rfl | rfl
      · exact hm'
      all_goals exact absurd g1 (by decide)
    obtain ⟨q1, -, -, -, -, q6⟩ := mc_okm hm1
    have hx : m_sta m' = false ∧ m_han m' = [] ∧ (m_nam m').name = "<init>" ∧ m_ret m' = 0 := by
      rcases q6 with ⟨q, -⟩ | ⟨q, -⟩ | ⟨-, q⟩
      · omega
      · omega
      · exact q
    obtain ⟨x1, x2, x3, x4⟩ := hx
    have hlen : (st.take (np + 1)).reverse.length = np + 1 := by rw [List.length_reverse, List.length_take]; omega
    obtain ⟨v0, as', has⟩ : ∃ v0 as', (st.take (np + 1)).reverse = v0 :: as' := by
      cases hh : (st.take (np + 1)).reverse with
      | nil => rw [hh] at hlen; cases hlen
      | cons a b => exact ⟨a, b, rfl⟩
    rw [has] at hlen g5 hM hPre hsplit ⊢
    replace g5 : m_rcv m' (v0 :: as') h = true := g5.resolve_left (by decide)
    have hb : ∃ b : Nat, mt_v E v0 = .ref b := by
      unfold m_rcv at g5
      split at g5
      · next e9 => cases e9; exact ⟨_, rfl⟩
      · cases g5
    obtain ⟨b, hb⟩ := hb
    have hasE : mt_as E (v0 :: as') = .ref b :: mt_as E as' := by
      unfold mt_as
      rw [List.map_cons, hb]
    rw [hasE] at hPre hsplit ⊢
    have hcode : m_cd m' = .code (mw_pz m') (m_byt m') (m_max m') none := by
      have h3 : m' < 283 := by omega
      unfold m_cd m_cod m_rty
      rw [if_pos h3, x2, mw_pz_lt h3, x4]
      rfl
    obtain ⟨v, hv⟩ := hk2 rfl
    have hMet := mt_met hM hv
    have hrun : va_Run p l e R s mid args below meth c H locs cells slots (mt_n q.2 - mt_n h) (q.2.2.2.2.2 - h.2.2.2.2) (F0 mid pc lsR (st.map (mt_v E))) ((st.drop (np + 1)).map (mt_v E)) (mt_Qc E q (Value.ref b :: mt_as E as').toArray) (mt_A E) := by
      have hw9 : mt_wc m' = Cond.code (mw_pz m') (m_byt m') (m_max m') none :: lw_tbl.filter goodWord := by rw [← hcode]; rfl
      have hmr9 : (mt_rm m' h q).frames + 1 ≤ R.frames ∧ 8 + (m_max m' + 11) + (mt_rm m' h q).locals ≤ R.locals := by
        rw [← hmax m' (by omega)]
        exact hmr
      have hini := hts _ (mt_tbl (m := m) (mt_iniW (Or.inl hm1)))
      have hins := hts _ (mt_tbl (m := m) (mt_insW ⟨hm1, x1⟩))
      have hnmI : (mw_pz m').name = "<init>" := by rw [mw_pz_lt (by omega)]; exact x3
      have hlen' : (mt_as E as').length = np := by
        unfold mt_as
        rw [List.length_map]
        simpa using hlen
      have hst : (F0 mid pc lsR (st.map (mt_v E))).stack = (mt_as E as').reverse ++ Value.ref b :: (st.drop (np + 1)).map (mt_v E) := by
        show st.map (mt_v E) = _
        rw [hsplit]
        simp
      rcases hlink with ⟨h6, hnest⟩ | hl0
      · have hN : va_Nw (.methodLinkNest (m_cn (m_cls m)) i (mw_pz m') RX6) s := by
          rw [h6]
          obtain ⟨n1, n2⟩ := hK.2.2.2.1
          rcases hnest with ⟨rfl, rfl⟩ | ⟨rfl, rfl⟩
          · exact n1
          · exact n2
        exact va_runIN hC hMet ⟨va_cnB np hts hGw hw9 rfl rfl hN hini ⟨(mt_notMH (Or.inl hm1)).1, (mt_notMH (Or.inl hm1)).2, hpar⟩ hmr9, hnmI, hins⟩ ⟨mt_blind, hPre⟩ rfl hlen' hL.1 hst hW hd ⟨hc1, hc2⟩
      · exact va_runI hC hMet ⟨callB_of np hts hGw hw9 rfl rfl hini (hts _ (mt_tbl hl0)) ⟨(mt_notMH (Or.inl hm1)).1, (mt_notMH (Or.inl hm1)).2, hpar⟩ hmr9, hnmI, hins⟩ ⟨mt_blind, hPre⟩ rfl hlen' hL.1 hst hW hd ⟨hc1, hc2⟩
    exact fun T hT X => Or.inl (hrun T hT X)
  · -- static
    have hl0 : Cond.methodLink (m_cn (m_cls m)) i (mw_pz m') ∈ lw_tbl ∧ goodWord (Cond.methodLink (m_cn (m_cls m)) i (mw_pz m')) = true := by
      rcases hlink with ⟨-, ⟨-, rfl⟩ | ⟨-, rfl⟩⟩ | hlink
      · exact absurd g1 (by decide +kernel)
      · exact absurd g1 (by decide +kernel)
      · exact hlink
    rw [if_pos rfl] at g3 g4 hM hW hPre hsplit ⊢
    have hwC : m' < 282 ∧ m_sta m' = true ∨ m' = 1000 ∨ m' = 1001 ∨ m' = 1002 := by
      rcases hm' with hm' | rfl | rfl | rfl
      · obtain ⟨-, -, -, -, -, q6⟩ := mc_okm hm'
        rcases q6 with ⟨q, q2⟩ | ⟨q, -⟩ | ⟨q, -⟩
        · exact Or.inl ⟨hm', q2⟩
        · omega
        · omega
      · exact Or.inr (Or.inl rfl)
      · exact Or.inr (Or.inr (Or.inl rfl))
      · exact Or.inr (Or.inr (Or.inr rfl))
    have hgw : GoodIn (mt_ws m) (va_wsS (m_cn (m_cls m)) i (mw_pz m') (mt_wc m')) := by
      intro w hw
      unfold va_wsS at hw
      rcases List.mem_append.mp hw with hw | hw
      · simp only [List.mem_cons, List.not_mem_nil, or_false] at hw
        rcases hw with rfl | rfl | rfl
        · exact mt_good hl0
        · exact mt_good (mt_staW hwC)
        · exact mt_good (mt_iniW hm')
      · exact hGw w hw
    have hlen : (mt_as E (st.take np).reverse).length = np := by
      unfold mt_as
      rw [List.length_map, List.length_reverse, List.length_take]
      omega
    have hcode : (∃ bytes maxL ret, m_cd m' = .code (mw_pz m') bytes maxL ret ∧ maxL = (m_rom m').2.2) ∨ ∃ bytes maxL ret hh, m_cd m' = .codeWith (mw_pz m') bytes maxL ret hh ∧ maxL = (m_rom m').2.2 := by
      rcases hwC with ⟨hm1, -⟩ | rfl | rfl | rfl
      · have h3 : m' < 283 := by omega
        unfold m_cd m_cod
        rw [if_pos h3, mw_pz_lt h3, hmax _ h3]
        cases m_han m' with
        | nil => exact Or.inl ⟨_, _, _, rfl, rfl⟩
        | cons a b => exact Or.inr ⟨_, _, _, _, rfl, rfl⟩
      · exact Or.inl ⟨_, _, _, rfl, rfl⟩
      · exact Or.inl ⟨_, _, _, rfl, rfl⟩
      · exact Or.inl ⟨_, _, _, rfl, rfl⟩
    rcases hcode with ⟨bytes, maxL, ret, hcode, rfl⟩ | ⟨bytes, maxL, ret, hh, hcode, rfl⟩
    · exact vx_runS hC hM (va_cwS np hts hgw (by rw [← hcode]; rfl) rfl rfl ⟨(mt_notMH hm').1, (mt_notMH hm').2, hpar⟩ hmr) ⟨mt_blind, hPre⟩ rfl hlen hL.1 hsplit hW hd ⟨hc1, hc2⟩
    · exact vx_runSX hC hM (vx_cwSW np hts hgw (by rw [← hcode]; rfl) rfl rfl ⟨(mt_notMH hm').1, (mt_notMH hm').2, hpar⟩ hmr) ⟨mt_blind, hPre⟩ rfl hlen hL.1 hsplit hW hd ⟨hc1, hc2⟩
end MTI
end
end
section
section
/-! What the small machine comes to, the machine comes to. -/
def mt_prims (E : mE) (Z : mZ) (l : Launch) : Prop := ∀ (m : Nat) (as : List mV) (h : mH) (q : mO), 283 ≤ m → m_prm m as h = some q → mt_ok E Z l m as h q
theorem m_prm_id {m : Nat} {as : List mV} {h : mH} {q : mO} (e : m_prm m as h = some q) : m = 1000 ∨ m = 1001 ∨ m = 1002 := by
  unfold m_prm at e
  split at e
  · exact Or.inl rfl
  · exact Or.inr (Or.inl rfl)
  · exact Or.inr (Or.inr rfl)
  · cases e
theorem mt_vo_app (E : mE) (v : mV) (rest : List mV) : (mt_vo E v).toList ++ rest.map (mt_v E) = (if v.1 = 9 then rest else v :: rest).map (mt_v E) := by
  unfold mt_vo
  by_cases h : v.1 = 9
  · rw [if_pos h, if_pos h]; rfl
  · rw [if_neg h, if_neg h]; rfl
def mx_i (x : Nat) : Nat := if x = 0 then 21 else if x = 1 then 15 else 23
theorem mx_hanA : mm_hanL.all (fun r => decide (m_cls r.1 = 8 ∧ r.1 ≠ 282) && r.2.all (fun z => decide (m_exc z.2.2.2 < 3 ∧ z.2.2.2 = mx_i (m_exc z.2.2.2)))) = true := by decide +kernel
theorem mx_han {m : Nat} {z : Nat × Nat × Nat × Nat} (hz : z ∈ m_han m) : (m_cls m = 8 ∧ m ≠ 282) ∧ m_exc z.2.2.2 < 3 ∧ z.2.2.2 = mx_i (m_exc z.2.2.2) := by
  unfold m_han at hz
  cases hf : mm_hanL.find? (fun r => r.1 == m) with
  | none => rw [hf] at hz; cases hz
  | some r =>
    rw [hf] at hz
    have h1 := List.all_eq_true.mp mx_hanA r (List.mem_of_find?_eq_some hf)
    have h2 := List.find?_some hf
    simp only [beq_iff_eq] at h2
    simp only [Bool.and_eq_true, decide_eq_true_eq] at h1
    rw [h2] at h1
    have h3 := List.all_eq_true.mp h1.2 z hz
    exact ⟨h1.1, of_decide_eq_true h3⟩
section MTS2
variable {p : Program} {l : Launch} {e : Env} {R : Room} {s : State} {mid : MethodId} {args : Array Value} {below : List Frame} {meth : Method} {c : Code} {H : Heap} {locs : List Loc} {cells slots : Nat} {Q : State → Prop}
theorem mt_catch {E : mE} {Z : mZ} {m pc x hp q' : Nat} {ls ls' : List mV} {lsR : Array Slot} {ce : Cell} {q9 : Addr} {rest : List Value} (C : mt_Cx E Z m p R s mid args meth c) (hh : m_hdl m pc x = some hp) (hs : m_hst m hp ls = some (q', ls')) (hx3 : x < 3) (hL : mt_L E lsR (m_max m) ls)
    (hcell : H[q9]? = some ce) (hv : ce.vm = .none) (hcl : s.vm.findClass (m_exn x) = some ce.cls)
    (kk : ∀ lsR' : Array Slot, mt_L E lsR' (m_max m) ls' → W p l e R s mid args below meth c H locs cells slots Q (F0 mid q' lsR' [])) : vx_W p l e R s mid args below meth c H locs cells slots Q (F0 mid pc lsR rest) q9 := by
  obtain ⟨⟨hx, hb, hml, hown, hts⟩, hlk, hnm, hex, hRR, hK, hrt⟩ := C
  unfold m_hdl at hh
  obtain ⟨z, hf, rfl⟩ := Option.map_eq_some_iff.mp hh
  obtain ⟨hz, pre, suf, hsplit, hpre⟩ := List.find?_eq_some_iff_append.mp hf
  obtain ⟨z1, z2, z3⟩ := of_decide_eq_true hz
  have hmem : z ∈ m_han m := by rw [hsplit]; simp
  obtain ⟨⟨c8, c9⟩, c3, ci⟩ := mx_han hmem
  have hRL : m_cn (m_cls m) = RL := by rw [c8]; rfl
  rw [hRL] at hown
  have hlw : ∀ y, y < 3 → (Cond.classLink RL (mx_i y) (m_exn y)).before args s = true := fun y hy => hts _ (mt_tbl (mw_exL y hy))
  obtain ⟨-, -, -, -, hfw, hnc⟩ := hK.2
  refine vx_catch (own := RL) (name := m_exn x) hown (tableOf pre) ⟨z.1, z.2.1, z.2.2.1, z.2.2.2⟩ (tableOf suf) ?_ ?_ ?_ ?_ ?_ ?_ hcell hv hcl ?_
  · rw [hex c9, hsplit]
    unfold tableOf
    rw [List.map_append, List.map_cons]
  · intro y hy
    unfold tableOf at hy
    obtain ⟨y0, hy0, rfl⟩ := List.mem_map.mp hy
    have hy1 := hpre y0 hy0
    have hym : y0 ∈ m_han m := by rw [hsplit]; exact List.mem_append_left _ hy0
    obtain ⟨-, d3, di⟩ := mx_han hym
    by_cases hcov : y0.1 ≤ pc ∧ pc < y0.2.1
    · refine Or.inr ⟨?_, m_exn (m_exc y0.2.2.2), ?_, ?_⟩
      · show y0.2.2.2 ≠ 0
        rw [di]
        unfold mx_i
        split
        · decide
        · split <;> decide
      · show (Cond.classLink RL y0.2.2.2 _).before args s = true
        rw [di]
        have := hlw _ d3
        rw [← di] at this ⊢
        exact this
      · refine hnc x _ hx3 d3 ?_
        intro hxe
        simp only [Bool.not_eq_true', decide_eq_false_iff_not] at hy1
        exact hy1 ⟨hcov.1, hcov.2, hxe.symm⟩
    · refine Or.inl ?_
      show (decide (y0.1 ≤ pc) && decide (pc < y0.2.1)) = false
      rw [← Bool.decide_and]
      exact decide_eq_false hcov
  · show (decide (z.1 ≤ pc) && decide (pc < z.2.1)) = true
    rw [decide_eq_true z1, decide_eq_true z2]; rfl
  · show z.2.2.2 ≠ 0
    rw [ci]
    unfold mx_i
    split
    · decide
    · split <;> decide
  · show (Cond.classLink RL z.2.2.2 (m_exn x)).before args s = true
    rw [ci, z3]
    exact hlw x hx3
  · refine va_Nw.use rfl (hfw _ ?_)
    unfold mt_fw
    rcases (show x = 0 ∨ x = 1 ∨ x = 2 by omega) with rfl | rfl | rfl <;> simp
  · unfold m_hst at hs
    split at hs
    · next k hd =>
      split at hs
      · next hk =>
        cases hs
        rw [hL.2.1] at hk
        exact lv_astore_n hx hb hd rfl hL.has hk rfl (fun lsR' h' => kk lsR' (hL.junk hk h'))
      · cases hs
    · next k hd =>
      split at hs
      · next hk =>
        cases hs
        rw [hL.2.1] at hk
        exact lv_astore hx hb hd hL.has hk rfl (fun lsR' h' => kk lsR' (hL.junk hk h'))
      · cases hs
    · cases hs
end MTS2
theorem mt_W {E : mE} {Z : mZ} {l : Launch} (HP : mt_prims E Z l) : ∀ n, mt_Wn E Z l n := by
  intro n
  induction n with
  | zero => intro m pc ls st h r e; cases e
  | succ n IH =>
    intro m pc ls st h r ev hm hlaw p e R s mid args below meth c H locs cells slots lsR mc ms C hL hR hS hz hcn hsn hmc hms
    have hle : mt_n h ≤ mt_n r.2 ∧ h.2.2.2.2 ≤ r.2.2.2.2.2 := mt_inv_n (m_ev_le _ _ _ ev)
    have ev : m_ev1 Z (m_ev Z n) (m, pc, ls, st, h) = some r := ev
    unfold m_ev1 m_step at ev
    dsimp only at ev
    cases hd : decode (m_byt m) pc with
    | error x => rw [hd] at ev; cases ev
    | ok x =>
      obtain ⟨ins, len⟩ := x
      rw [hd] at ev
      dsimp only at ev
      by_cases ho : m_okl ins len = true
      · rw [if_pos ho] at ev
        have hrl := m_ins_rl Z ins m pc ls st h
        cases hi : m_ins Z ins m pc ls st h with
        | none => rw [hi] at ev; cases ev
        | some y =>
          rw [hi] at ev hrl
          match y with
          | .inl s' =>
            obtain ⟨m2, pc2, ls2, st2, h2⟩ := s'
            have ev2 : m_ev Z n (m2, pc2, ls2, st2, h2) = some r := ev
            have hm2 : m2 = m := m_ins_same hi
            subst hm2
            have hl2 : mt_n h2 ≤ mt_n r.2 ∧ h2.2.2.2.2 ≤ r.2.2.2.2.2 := mt_inv_n (m_ev_le _ _ _ ev2)
            have hl1 : m_le h h2 := hrl
            have hl3 : mt_n h ≤ mt_n h2 ∧ h.2.2.2.2 ≤ h2.2.2.2.2 := ⟨Nat.add_le_add hl1.1 hl1.2.1, hl1.2.2⟩
            refine mt_step C hd ho hi hL hR hS hz ?_ ?_ ⟨by omega, by omega⟩ ?_
            · show cells + mt_n h2 ≤ _; omega
            · show slots + h2.2.2.2.2 ≤ _; omega
            · intro cells' slots' lsR' H' locs' q1 q2 q3 q4 q5
              have q1 : cells' + mt_n h = cells + mt_n h2 := q1
              have q2 : slots' + h.2.2.2.2 = slots + h2.2.2.2.2 := q2
              refine IH m2 pc2 ls2 st2 h2 r ev2 hm hlaw mc ms C q3 q4 q5 ?_ ?_ ?_ hmc hms
              · intro h0
                have h00 : h.2.2.2.1 = 0 := Nat.le_zero.mp (h0 ▸ hl1.2.1)
                have := hz h00
                unfold mt_n at q1
                omega
              · omega
              · omega
          | .inr (.inl x) =>
            have ev : some ((.inl x.1, x.2) : mO) = some r := ev
            cases ev
            have hx2 : x.2 = h := hrl.1
            have e1 : cells = mc := by
              have h1 : cells + mt_n x.2 = mc + mt_n h := hcn
              rw [hx2] at h1
              omega
            have e2 : slots = ms := by
              have h1 : slots + x.2.2.2.2.2 = ms + h.2.2.2.2 := hsn
              rw [hx2] at h1
              omega
            subst e1 e2
            exact mt_ret C hd ho hrl hR hS
          | .inr (.inr c0) =>
            obtain ⟨i, m', np, k, hmet, hcall, hins⟩ := hrl
            obtain ⟨⟨g1, g2, g3, g4, g5⟩, hc0⟩ := m_call_inv hcall
            obtain rfl := Sum.inr.inj hc0
            have ev : (m_cal (m_ev Z n) m' (st.take (if k = 0 then np else np + 1)).reverse h).bind (m_aft (m_ev Z n) m pc ls (st.drop (if k = 0 then np else np + 1))) = some r := ev
            obtain ⟨q, hq, ev⟩ := Option.bind_eq_some_iff.mp ev
            have hlq : m_le h q.2 := m_cal_le (fun s o => m_ev_le n s o) hq
            have hlr : m_le q.2 r.2 := m_aft_le (fun s o => m_ev_le n s o) ev
            have l1 : mt_n h ≤ mt_n q.2 ∧ h.2.2.2.2 ≤ q.2.2.2.2.2 := ⟨Nat.add_le_add hlq.1 hlq.2.1, hlq.2.2⟩
            have l2 : mt_n q.2 ≤ mt_n r.2 ∧ q.2.2.2.2.2 ≤ r.2.2.2.2.2 := ⟨Nat.add_le_add hlr.1 hlr.2.1, hlr.2.2⟩
            have hm' : m' < 282 ∨ m' = 1000 ∨ m' = 1001 ∨ m' = 1002 := by
              rcases m_met_ok hmet with h1 | h1
              · exact Or.inl h1
              · rcases m_cal_inv hq with ⟨h2, -⟩ | ⟨-, h2⟩
                · omega
                · exact Or.inr (m_prm_id h2)
            have hok : mt_ok E Z l m' (st.take (if k = 0 then np else np + 1)).reverse h q ∧ (k = 2 → ∃ v, q.1 = .inl v) := by
              rcases m_cal_inv hq with ⟨h1, h2, h3, h4⟩ | ⟨h1, h2⟩
              · refine ⟨mt_body IH (by omega) h2 h3, fun hk => ?_⟩
                cases hq1 : q.1 with
                | inl v => exact ⟨v, rfl⟩
                | inr x => exact absurd (g1.trans hk) (h4 x hq1)
              · refine ⟨HP _ _ _ _ h1 h2, fun hk => ?_⟩
                rcases m_prm_id h2 with rfl | rfl | rfl
                all_goals (rw [hk] at g1; exact absurd g1 (by decide))
            have hlen : len = 3 := by
              rcases hins with ⟨rfl, -⟩ | ⟨rfl, -⟩ | ⟨rfl, -⟩ <;> simpa [m_okl] using ho
            subst hlen
            refine mt_size fun hsz => ?_
            have hzz : h.2.2.2.1 = 0 → H.size ≤ E.1 + h.2.2.1 := fun h0 => Nat.le_trans hsz (hz h0)
            refine mt_callr (mt_run C hmet hins hd g1 g2 g3 g4 g5 hm' hok.1 hok.2 hL hR hS hzz (by omega) (by omega)) hS ?_ ?_
            · intro v H1 locs1 hq1 hR1 hS1
              obtain ⟨q1, q2⟩ := q
              have hq1 : q1 = .inl v := hq1
              subst hq1
              have ev : m_ev Z n (m, pc + 3, ls, (if v.1 = 9 then st.drop (if k = 0 then np else np + 1) else v :: st.drop (if k = 0 then np else np + 1)), q2) = some r := ev
              rw [mt_vo_app]
              refine IH m (pc + 3) ls _ q2 r ev hm hlaw mc ms C hL hR1 hS1 ?_ ?_ ?_ hmc hms
              · intro h0
                have h0 : q2.2.2.2.1 = 0 := h0
                have h00 : h.2.2.2.1 = 0 := Nat.le_zero.mp (h0 ▸ hlq.2.1)
                have h1 := hz h00
                have h2 : h.2.2.1 ≤ q2.2.2.1 := hlq.1
                show s.heap.size + (cells + (mt_n q2 - mt_n h)) ≤ _
                unfold mt_n
                omega
              · show cells + (mt_n q2 - mt_n h) + _ = _
                have : mt_n h ≤ mt_n q2 := l1.1
                omega
              · show slots + (q2.2.2.2.2 - h.2.2.2.2) + _ = _
                have : h.2.2.2.2 ≤ q2.2.2.2.2 := l1.2
                omega
            · intro x ce q9 H1 locs1 hq1 hx3 hR1 hS1 hce hcv hcl
              obtain ⟨q1, q2⟩ := q
              have hq1 : q1 = .inr x := hq1
              subst hq1
              have hd1 : cells + (mt_n q2 - mt_n h) + mt_n r.2 = mc + mt_n q2 := by
                have : mt_n h ≤ mt_n q2 := l1.1
                omega
              have hd2 : slots + (q2.2.2.2.2 - h.2.2.2.2) + r.2.2.2.2.2 = ms + q2.2.2.2.2 := by
                have : h.2.2.2.2 ≤ q2.2.2.2.2 := l1.2
                omega
              simp only [m_aft] at ev
              cases hdl : m_hdl m pc x with
              | none =>
                rw [hdl] at ev
                dsimp only at ev
                by_cases hem : (m_han m).isEmpty = true
                · rw [if_pos hem] at ev
                  cases ev
                  have hnil : m_han m = [] := List.isEmpty_iff.mp hem
                  have h282 : m ≠ 282 := by
                    intro q
                    obtain ⟨v, hv⟩ := hlaw q
                    cases hv
                  refine vx_out ?_ C.2.1 hce hcv hcl ?_ hS1.2.2 ?_ ?_
                  · intro z hz9
                    rw [C.2.2.2.1 h282, hnil] at hz9
                    cases hz9
                  · intro t ht _
                    exact ⟨x, hx3, rfl, rfl, by rw [ht]; exact hR1, hS1.F ht⟩
                  · have hd1 : cells + (mt_n q2 - mt_n h) + mt_n q2 = mc + mt_n q2 := hd1
                    show cells + (mt_n q2 - mt_n h) ≤ mc
                    omega
                  · have hd2 : slots + (q2.2.2.2.2 - h.2.2.2.2) + q2.2.2.2.2 = ms + q2.2.2.2.2 := hd2
                    show slots + (q2.2.2.2.2 - h.2.2.2.2) ≤ ms
                    omega
                · rw [if_neg hem] at ev; cases ev
              | some hp =>
                rw [hdl] at ev
                dsimp only at ev
                cases hst : m_hst m hp ls with
                | none => rw [hst] at ev; cases ev
                | some y =>
                  obtain ⟨q', ls'⟩ := y
                  rw [hst] at ev
                  have ev : m_ev Z n (m, q', ls', [], q2) = some r := ev
                  refine mt_catch C hdl hst hx3 hL hce hcv hcl ?_
                  intro lsR' hL'
                  refine IH m q' ls' [] q2 r ev hm hlaw mc ms C hL' hR1 hS1 ?_ hd1 hd2 hmc hms
                  intro h0
                  have h0 : q2.2.2.2.1 = 0 := h0
                  have h00 : h.2.2.2.1 = 0 := Nat.le_zero.mp (h0 ▸ hlq.2.1)
                  have h1 := hz h00
                  have h2 : h.2.2.1 ≤ q2.2.2.1 := hlq.1
                  show s.heap.size + (cells + (mt_n q2 - mt_n h)) ≤ _
                  unfold mt_n
                  omega
      · rw [if_neg ho] at ev; cases ev
end
end
section
section
/-! The three methods that throw. -/
theorem mt_pKeep {E : mE} {h h' : mH} {H H1 : Heap} (hR : mt_R E h H) (he : h' = (h.1, h.2.1, h.2.2.1, h'.2.2.2)) (hq : ∀ q : Nat, q < H.size → H1[q]? = H[q]?) : mt_R E h' H1 := by
  have e : mt_w E h' = mt_w E h := by rw [he]; rfl
  unfold mt_R
  rw [e]
  exact ⟨hR.1.kept fun k q hk => hq _ (vx_lt hR.1 hk), hR.2⟩
theorem mt_rq {E : mE} {Z : mZ} {l : Launch} {x ik is ic : Nat} {y : MethodName} {cc : ByteArray} {text : String} {b : Int} {h : mH} (hl : l.stackTraces = false) (hx3 : x < 3) (hy : plainName y.cls = true) (hcls : y.cls = RX6) (hpz : mw_pz (1000 + x) = y) (hcd : m_cd (1000 + x) = .code y cc 1 none) (hrom : m_rom (1000 + x) = (6, 90, 1))
    (d0 : decode cc 0 = .ok (.iload_n 0, 1)) (d1 : decode cc 1 = .ok (.ifCond .ne 14, 3)) (d4 : decode cc 4 = .ok (.new ik, 3)) (d7 : decode cc 7 = .ok (.dup, 1)) (d8 : decode cc 8 = .ok (.ldc_w is, 3)) (d11 : decode cc 11 = .ok (.invokespecial ic, 3)) (d14 : decode cc 14 = .ok (.athrow, 1)) (d15 : decode cc 15 = .ok (.return_, 1))
    (hk : Cond.classLink RX6 ik (m_exn x) ∈ lw_tbl ∧ goodWord (Cond.classLink RX6 ik (m_exn x)) = true) (hini : Cond.initialized (m_exn x) ∈ lw_tbl ∧ goodWord (Cond.initialized (m_exn x)) = true)
    (hat : ∀ w ∈ vx_atS RX6 ic (m_exn x) m_exs, w ∈ lw_tbl) (hnf : ∀ w ∈ vx_atS RX6 ic (m_exn x) m_exs, goodWord w = false → w ∈ mt_fw) (hot : ∀ w ∈ vx_atS RX6 ic (m_exn x) m_exs, vx_ot w = true)
    (hstr : ∀ U : State, mt_X E Z U U.heap → ∃ a, vk_R RX6 is text a U) (hfit : Bundle.fit (m_exn x) = true) (hfits : ∀ n ∈ m_exs, Bundle.fit n = true) :
    mt_ok E Z l (1000 + x) [(0, b)] h (if w32 b = 0 then (.inr x, m_thr h) else (.inl (9, 0), h)) := by
  by_cases hb : w32 b = 0
  · rw [if_pos hb]
    unfold mt_ok
    refine vx_ofW (ws' := lw_tbl.filter goodWord) (cc := cc) (maxL := 1) (ret := none) (by rw [hpz]; exact hy) (by rw [hpz, ← hcd]; rfl) ?_
    intro p e9 s mid args below meth c s₁ B hml ht hP
    obtain ⟨rfl, hK, hR, hz⟩ := hP
    have hts : ∀ w, w ∈ lw_tbl ∧ goodWord w = true → w.before (mt_as E [(0, b)]).toArray s = true := fun w hw => atoms_spec (ws := mt_wc (1000 + x)) B.pre _ (List.mem_cons_of_mem _ (List.mem_filter.mpr hw))
    have hown := findClass_of_methodNamed B.named
    rw [hpz, hcls] at hown
    rw [lg_entry_eq]
    have hmc : mt_n ((.inr x, m_thr h) : mO).2 - mt_n h = 1 := by
      show h.2.2.1 + (h.2.2.2.1 + 1) - (h.2.2.1 + h.2.2.2.1) = 1
      omega
    have hms : ((.inr x, m_thr h) : mO).2.2.2.2.2 - h.2.2.2.2 = 6 := by
      show h.2.2.2.2 + 6 - h.2.2.2.2 = 6
      omega
    refine lv_iload_n (i := 0) B.exec B.bytes d0 rfl (x := Int32.ofInt b) rfl ?_
    refine lv_if_ne (tgt := 15) B.exec B.bytes d1 (by decide) (fun q => absurd ((mt_eq0 b).mpr hb) q) (fun _ => ?_)
    obtain ⟨sa, hsa⟩ := hstr s hK.2
    obtain ⟨-, -, -, ⟨hu, hn, -⟩, hfw, -⟩ := hK.2
    refine vx_throwSW (pc := 4) (A := mt_A E) (own := RX6) (cls := m_exn x) (names := m_exs) (ik := ik) (is := is) (ic := ic) (sa := sa) (text := text) B.exec B.bytes hl hown hfit hfits (hts _ hk) (hts _ hini) hsa ?_ ?_ hu hn va_S.rf hml.symm d4 d7 d8 d11 d14 (fun z hz9 => (ht z hz9).elim) ?_ ?_ ?_ ?_ B.notSynchronized ?_ (fun z hz9 => nomatch hz9) ?_ ?_
    · intro w hw
      by_cases hg : goodWord w = true
      · exact hts w ⟨hat w hw, hg⟩
      · exact va_Nw.use (by
          have h1 := List.all_eq_true.mp mt_fw_ok w (hnf w hw (by simpa using hg))
          simp only [Bool.and_eq_true] at h1
          exact h1.1) (hfw w (hnf w hw (by simpa using hg)))
    · intro w hw
      rcases List.mem_cons.mp hw with rfl | hw
      · unfold vx_ot; rw [hk.2, Bool.or_true]
      · rcases List.mem_cons.mp hw with rfl | hw
        · unfold vx_ot; rw [hini.2, Bool.or_true]
        · exact hot w hw
    · show m_exs.length + 3 < (m_rom (1000 + x)).1
      rw [hrom]; decide
    · show _ ≤ (m_rom (1000 + x)).2.1
      rw [hrom]; decide
    · show 0 + 1 ≤ mt_n ((.inr x, m_thr h) : mO).2 - mt_n h
      omega
    · show 0 + 6 ≤ ((.inr x, m_thr h) : mO).2.2.2.2.2 - h.2.2.2.2
      omega
    · intro t hvm hsz hq
      exact ⟨x, hx3, rfl, rfl, mt_pKeep hR rfl hq, hsz, fun q hq1 _ => hq q hq1⟩
    · omega
    · omega
  · rw [if_neg hb]
    unfold mt_ok
    refine vx_ofW (ws' := lw_tbl.filter goodWord) (cc := cc) (maxL := 1) (ret := none) (by rw [hpz]; exact hy) (by rw [hpz, ← hcd]; rfl) ?_
    intro p e9 s mid args below meth c s₁ B hml ht hP
    obtain ⟨rfl, hK, hR, hz⟩ := hP
    rw [lg_entry_eq]
    rw [show mt_n ((.inl (9, 0), h) : mO).2 - mt_n h = 0 from Nat.sub_self _, show ((.inl (9, 0), h) : mO).2.2.2.2.2 - h.2.2.2.2 = 0 from Nat.sub_self _]
    refine lv_iload_n (i := 0) B.exec B.bytes d0 rfl (x := Int32.ofInt b) rfl ?_
    refine lv_if_ne (tgt := 15) B.exec B.bytes d1 (by decide) (fun _ => ?_) (fun q => absurd ((mt_eq0 b).mp q) hb)
    exact vx_ret (W.vret B.exec B.bytes B.returns (fun t ht9 _ => ⟨(9, 0), rfl, rfl, by rw [ht9]; exact hR, va_S.rf.F ht9⟩) (fun z hz9 => nomatch hz9) d15 B.notSynchronized)
theorem mt_rq0 {E : mE} {Z : mZ} {l : Launch} {b : Int} {h : mH} (hl : l.stackTraces = false) : mt_ok E Z l 1000 [(0, b)] h (if w32 b = 0 then (.inr 0, m_thr h) else (.inl (9, 0), h)) :=
  mt_rq (x := 0) (ik := 290) (is := 292) (ic := 294) (y := yX6_requireSuch) (cc := cX6_requireSuch) (text := "there is no such node, edge or stretch") hl (by decide) (by decide +kernel) rfl rfl rfl rfl (by decide +kernel) (by decide +kernel) (by decide +kernel) (by decide +kernel) (by decide +kernel) (by decide +kernel) (by decide +kernel) (by decide +kernel)
    (mw_in (p := (3, 29)) (by decide +kernel)) (mw_in (p := (1, 14)) (by decide +kernel)) (fun w hw => List.mem_append_right _ (of_decide_eq_true (List.all_eq_true.mp (show (vx_atS RX6 294 (m_exn 0) m_exs).all (fun w => decide (w ∈ tables_1)) = true by decide +kernel) w hw)))
    (fun w hw hg => List.mem_append_right _ (List.mem_filter.mpr ⟨List.mem_append_left _ (List.mem_append_left _ hw), by rw [hg]; rfl⟩)) (fun w hw => List.all_eq_true.mp (show (vx_atS RX6 294 (m_exn 0) m_exs).all vx_ot = true by decide +kernel) w hw)
    (fun U hX => hX.2.2.2.1.2.2.1) (by decide +kernel) (by decide +kernel)
theorem mt_rq1 {E : mE} {Z : mZ} {l : Launch} {b : Int} {h : mH} (hl : l.stackTraces = false) : mt_ok E Z l 1001 [(0, b)] h (if w32 b = 0 then (.inr 1, m_thr h) else (.inl (9, 0), h)) :=
  mt_rq (x := 1) (ik := 297) (is := 299) (ic := 301) (y := yX6_requireValid) (cc := cX6_requireValid) (text := "an argument is out of range") hl (by decide) (by decide +kernel) rfl rfl rfl rfl (by decide +kernel) (by decide +kernel) (by decide +kernel) (by decide +kernel) (by decide +kernel) (by decide +kernel) (by decide +kernel) (by decide +kernel)
    (mw_in (p := (2, 160)) (by decide +kernel)) (mw_in (p := (1, 12)) (by decide +kernel)) (fun w hw => List.mem_append_right _ (of_decide_eq_true (List.all_eq_true.mp (show (vx_atS RX6 301 (m_exn 1) m_exs).all (fun w => decide (w ∈ tables_1)) = true by decide +kernel) w hw)))
    (fun w hw hg => List.mem_append_right _ (List.mem_filter.mpr ⟨List.mem_append_left _ (List.mem_append_right _ hw), by rw [hg]; rfl⟩)) (fun w hw => List.all_eq_true.mp (show (vx_atS RX6 301 (m_exn 1) m_exs).all vx_ot = true by decide +kernel) w hw)
    (fun U hX => hX.2.2.2.1.2.2.2.1) (by decide +kernel) (by decide +kernel)
theorem mt_rq2 {E : mE} {Z : mZ} {l : Launch} {b : Int} {h : mH} (hl : l.stackTraces = false) : mt_ok E Z l 1002 [(0, b)] h (if w32 b = 0 then (.inr 2, m_thr h) else (.inl (9, 0), h)) :=
  mt_rq (x := 2) (ik := 302) (is := 304) (ic := 306) (y := yX6_requireNow) (cc := cX6_requireNow) (text := "not in this state") hl (by decide) (by decide +kernel) rfl rfl rfl rfl (by decide +kernel) (by decide +kernel) (by decide +kernel) (by decide +kernel) (by decide +kernel) (by decide +kernel) (by decide +kernel) (by decide +kernel)
    (mw_in (p := (3, 48)) (by decide +kernel)) (mw_in (p := (1, 11)) (by decide +kernel)) (fun w hw => List.mem_append_right _ (of_decide_eq_true (List.all_eq_true.mp (show (vx_atS RX6 306 (m_exn 2) m_exs).all (fun w => decide (w ∈ tables_1)) = true by decide +kernel) w hw)))
    (fun w hw hg => List.mem_append_right _ (List.mem_filter.mpr ⟨List.mem_append_right _ hw, by rw [hg]; rfl⟩)) (fun w hw => List.all_eq_true.mp (show (vx_atS RX6 306 (m_exn 2) m_exs).all vx_ot = true by decide +kernel) w hw)
    (fun U hX => hX.2.2.2.1.2.2.2.2) (by decide +kernel) (by decide +kernel)
end
end
section
section
/-! The methods proved by hand are the machine's; so all runs of the small machine are. -/
theorem mt_primsA {E : mE} {Z : mZ} {l : Launch} (hl : l.stackTraces = false) : mt_prims E Z l := by
  intro m as h q hm e
  unfold m_prm at e
  split at e
  · next b => cases e; exact mt_rq0 hl
  · next b => cases e; exact mt_rq1 hl
  · next b => cases e; exact mt_rq2 hl
  · cases e
/-- the small machine's runs are the machine's -/
theorem mt_WA {E : mE} {Z : mZ} {l : Launch} (hl : l.stackTraces = false) : ∀ n, mt_Wn E Z l n := mt_W (mt_primsA hl)
end
end
section
/-! THE CLAIM OUT OF ONE WALK OF THE LAW'S BODY. Your part is whole_start (and what it stands on); all else here is the same for every law, but numbers. -/
def R_law : String := "NetworkCentersLaw"
def lw_P (b : Addr) (xs : List Int32) (args : Array Value) (s : State) : Prop := args = #[.ref b] ∧ s.IntsAt b xs ∧ xs.length ≤ 260 ∧ (Jvm.Cond.and given_1 narrow_1).before args s = true
def lw_Q (_ : Array Value) (s : State) (o : Outcome) (t : State) : Prop := o = .returned (some (.int 1)) ∧ Framed s o t [] 619401 7243495
def lw_Z (below : List Frame) (a : Array Value) (s : State) : State → Prop := fun t => ∃ o, t.status = .running ∧ Ended t below o ∧ lw_Q a s o t
/-- the law's own end, with 1 on the stack, nothing written that was there before, its room as the claim has it -/
theorem lw_ret {p : Program} {l : Launch} {e : Env} {s : State} {m : MethodId} {below : List Frame} {meth : Method} {c : Code} {b : Nat} (hx : p.tables.exec = Jvm.exec) (hb : c.code = code) (hr : meth.sig.returnType = ret) (hlocks : meth.locks = false) {pc : Nat} {H : Heap} {ls : Array Slot} (hdg : decode code pc = .ok (.ireturn, 1)) : W p l e room_1 s m #[Value.ref b] below meth c H [] 619401 7243495 (lw_Z below #[Value.ref b] s) (F0 m pc ls [.int 1]) := by
  intro T hT X
  obtain ⟨fs, hret, hrun, hended, hW, hframe⟩ := X.leave (v := some (.int 1)) (hlocks := hlocks) (fun h => by rw [hr] at h; cases h)
  have hmeth' : T.vm.method? m = some meth := X.method'
  refine ⟨T.setFrames fs, ?_, .returned (some (.int 1)), hrun, hended, rfl, ⟨_, rfl⟩, hW, hframe⟩
  jvm_step X.here [X.here.top, hx, hb, hdg, hmeth', hr, ret, narrow_b1]
  (try refine ⟨rfl, ?_⟩); (try refine ⟨rfl, ?_⟩)
  first | (intro acts; rw [hret _ acts rfl rfl rfl]) | rw [hret _ _ rfl rfl rfl]
  exact Steps.refl _
/-- what holds at the law's entry: the machine, the code, the tables' words (any of lw_tbl by 'hts w (by decide +kernel)'), the script of L ints xs at the cell b, what the Statement gives of the start (any of its parts by flat_of_before) -/
def lw_At (p : Program) (s : State) (m : MethodId) (meth : Method) (c : Code) (b L : Nat) (xs : Nat → Int32) : Prop :=
  p.tables.exec = Jvm.exec ∧ c.code = code ∧ meth.sig.returnType = ret ∧ c.maxLocals = 10 ∧ s.vm.findClass R_law = some m.cls ∧ (∀ w ∈ lw_tbl, w.before #[Value.ref b] s = true) ∧ va_X b L xs s s.heap ∧ b < s.heap.size ∧ meth.locks = false ∧ (Jvm.Cond.and given_1 narrow_1).before #[Value.ref b] s = true
section
theorem mw_mem {w : Cond} {p : Nat × Nat} (h : mw_at p = some w) : w ∈ lw_tbl := by
  have h1 : w ∈ mw_q p.1 := List.mem_of_getElem? h
  have h2 : w ∈ tables_1 := by
    unfold tables_1
    simp only [List.mem_append]
    unfold mw_q at h1
    split at h1
    · exact Or.inl h1
    · split at h1
      · exact Or.inr (Or.inl h1)
      · split at h1
        · exact Or.inr (Or.inr (Or.inl h1))
        · split at h1
          · exact Or.inr (Or.inr (Or.inr (Or.inl h1)))
          · split at h1
            · exact Or.inr (Or.inr (Or.inr (Or.inr h1)))
            · cases h1
  exact List.mem_append_right _ h2
theorem me_ins : ∀ k, k < 7 → ∃ n, Cond.instantiable (m_cn k) n ∈ lw_tbl := by
  intro k hk
  rcases (show k = 0 ∨ k = 1 ∨ k = 2 ∨ k = 3 ∨ k = 4 ∨ k = 5 ∨ k = 6 by omega) with rfl | rfl | rfl | rfl | rfl | rfl | rfl
  · exact ⟨7, mw_mem (p := (1, 209)) (by decide +kernel)⟩
  · exact ⟨11, mw_mem (p := (1, 24)) (by decide +kernel)⟩
  · exact ⟨7, mw_mem (p := (1, 175)) (by decide +kernel)⟩
  · exact ⟨1, mw_mem (p := (1, 30)) (by decide +kernel)⟩
  · exact ⟨6, mw_mem (p := (2, 1)) (by decide +kernel)⟩
  · exact ⟨17, mw_mem (p := (1, 103)) (by decide +kernel)⟩
  · exact ⟨8, mw_mem (p := (1, 16)) (by decide +kernel)⟩
def m_h0 : mH := (fun _ => (0, 0, fun _ => 0), fun _ _ => 0, 0, 0, 0)
section ME
variable {p : Program} {l : Launch} {e : Env} {R : Room} {s : State} {mid : MethodId} {args : Array Value} {below : List Frame} {meth : Method} {c : Code} {H : Heap} {locs : List Loc} {cells slots : Nat} {Q Q' : State → Prop}
theorem me_mono {g : JFrame} (h : W p l e R s mid args below meth c H locs cells slots Q g) (hq : ∀ t, Q t → Q' t) : W p l e R s mid args below meth c H locs cells slots Q' g := by
  intro T hT X
  obtain ⟨t, a, b⟩ := h T hT X
  exact ⟨t, a, hq t b⟩
theorem me_known (hts : ∀ w ∈ lw_tbl, w.before args s = true) : ∃ D : va_G, ∀ (k : Nat) (q : vw_C), vwCl[k]? = some q → u_Kn s q.1 q.2.1 q.2.2 (D.1 k) (D.2 k) := by
  have h : ∀ k : Nat, ∃ q : ClassId × (Nat → Nat), ∀ r : vw_C, vwCl[k]? = some r → u_Kn s r.1 r.2.1 r.2.2 q.1 q.2 := by
    intro k
    by_cases hk : k < 7
    · obtain ⟨a1, a2, a3⟩ := mt_cls k hk
      obtain ⟨n, hn⟩ := me_ins k hk
      have hin : ∀ w ∈ u_ws (m_cl3 k).1 (m_cl3 k).2.1 (m_cl3 k).2.2, w ∈ lw_tbl := by
        intro w hw
        obtain ⟨j, hj, rfl⟩ := List.mem_map.mp hw
        exact (mw_in (List.all_eq_true.mp (mw_layA k hk) j hj)).1
      obtain ⟨c9, i9, hu⟩ := u_known (C := (m_cl3 k).1) (T := (m_cl3 k).2.1) (N := (m_cl3 k).2.2) (n := n) hts hin (by rw [a3]; exact hts _ hn)
      exact ⟨(c9, i9), fun r hr => by cases a1.symm.trans hr; exact hu⟩
    · exact ⟨(s.vm.classes.size, fun _ => 0), fun r hr => absurd (List.getElem?_eq_some_iff.mp hr).1 (by show ¬ k < 7; exact hk)⟩
  obtain ⟨f, hf⟩ := Classical.axiomOfChoice h
  exact ⟨(fun k => (f k).1, fun k => (f k).2), fun k q hq => hf k q hq⟩
theorem me_arr (hts : ∀ w ∈ lw_tbl, w.before args s = true) : ∃ q : ClassId × ClassId, (ArrOfT s q.1 .int ∧ va_RA s q.1 .int) ∧ (ArrOfT s q.2 (.object RX1) ∧ va_RA s q.2 (.object RX1)) := by
  obtain ⟨c1, k1, p1, a1, a2, a3⟩ := Cond.arrayClass_spec (hts _ mw_arr0.1)
  obtain ⟨comp, c3, k3, d1, d2, d3, d4, d5⟩ := Cond.arrayOver_spec (hts (.arrayOver (.object RX1)) (mw_mem (p := (1, 101)) (by decide +kernel)))
  exact ⟨(c1, c3), ⟨fun N z => ⟨(fun k h => by cases h), k1, a2, p1, a3⟩, a1⟩, fun N z => ⟨(fun k h => by cases h), k3, d3, comp, d4⟩, k3, comp, d3, d4, d1, d5⟩
theorem me_X {b L : Nat} {xs : Nat → Int32} {E : mE} (hts : ∀ w ∈ lw_tbl, w.before args s = true) (hs : ∀ c ∈ flatC (Jvm.Cond.and given_1 narrow_1), c.before args s = true) (hX : va_X b L xs s s.heap) (hbl : b < s.heap.size) (e1 : E.1 = s.heap.size) (e2 : E.2.1 = b) : mt_X E (L, xs) s s.heap := by
  have hA : ∀ a : Nat, a < s.heap.size → ¬ mt_A E a := fun a h => by
    show ¬ E.1 ≤ a
    rw [e1]
    exact Nat.not_le.mpr h
  have hex : ∀ (k : Nat) (t : String), Cond.stringRef RX6 k t ∈ lw_tbl → (Cond.exactly (.string RX6 k) "java/lang/String").before args s = true → ∃ a, vk_R RX6 k t a s := by
    intro k t h1 h2
    obtain ⟨a, -, -, -, q1, -⟩ := Cond.exactly_spec (args := args) (first := s) (o := none) (s := s) (idx := []) (t := .string RX6 k) (cls := "java/lang/String") h2
    exact ⟨a, vk_R.of (hts _ h1) q1⟩
  have hnc : ∀ x y : Nat, x < 3 → y < 3 → x ≠ y → va_Nc (m_exn x) (m_exn y) s := by
    intro x y hx hy hxy
    rcases (show x = 0 ∧ y = 1 ∨ x = 0 ∧ y = 2 ∨ x = 1 ∧ y = 0 ∨ x = 1 ∧ y = 2 ∨ x = 2 ∧ y = 0 ∨ x = 2 ∧ y = 1 by omega) with ⟨rfl, rfl⟩ | ⟨rfl, rfl⟩ | ⟨rfl, rfl⟩ | ⟨rfl, rfl⟩ | ⟨rfl, rfl⟩ | ⟨rfl, rfl⟩ <;> exact va_Nc.of (hs _ (by decide +kernel))
  refine ⟨⟨by rw [e2]; exact hX, by rw [e1, e2]; exact hbl, by rw [e1]; exact Nat.le_refl _⟩, va_AO.of (hts (.arrayOver (.object RX1)) (mw_mem (p := (1, 101)) (by decide +kernel))), ⟨va_Nw.of rfl (hts _ (mw_mem (p := (1, 104)) (by decide +kernel))), va_Nw.of rfl (hts _ (mw_mem (p := (2, 2)) (by decide +kernel)))⟩,
    ⟨vx_Zqof (hts _ (mw_mem (p := (2, 187)) (by decide +kernel))) (hts _ (mw_mem (p := (1, 8)) (by decide +kernel))) (hs _ (by decide +kernel)) hA, vx_Zqof (hts _ (mw_mem (p := (2, 189)) (by decide +kernel))) (hts _ (mw_mem (p := (1, 8)) (by decide +kernel))) (hs _ (by decide +kernel)) hA, hex _ _ (mw_mem (p := (3, 38)) (by decide +kernel)) (hs _ (by decide +kernel)), hex _ _ (mw_mem (p := (2, 201)) (by decide +kernel)) (hs _ (by decide +kernel)), hex _ _ (mw_mem (p := (3, 57)) (by decide +kernel)) (hs _ (by decide +kernel))⟩,
    ?_, hnc⟩
  intro w hw
  have h1 := List.all_eq_true.mp mt_fw_ok w hw
  simp only [Bool.and_eq_true] at h1
  have h2 : mt_fw.all (fun w => decide (w ∈ tables_1)) = true := by decide +kernel
  exact va_Nw.of h1.1 (hts w (List.mem_append_right _ (of_decide_eq_true (List.all_eq_true.mp h2 w hw))))
end ME
/-- the law comes to its end with true, where the small machine does -/
theorem mt_law {p : Program} {e : Env} {s : State} {m : MethodId} {below : List Frame} {meth : Method} {c : Code} (l : Launch) (hflags : l.flags = flags0) {b L : Nat} {xs : Nat → Int32} (C0 : lw_At p s m meth c b L xs)
    {n : Nat} {r : mO} {v : Int} (hrun : m_ev (L, xs) n (282, 0, m_ent (m_max 282) [(4, 0)], [], m_h0) = some r) (hr1 : r.1 = .inl (0, v)) (hv : w32 v = 1) (hc : mt_n r.2 ≤ 619401) (hsl : r.2.2.2.2.2 ≤ 7243495) :
    W p l e room_1 s m #[Value.ref b] below meth c s.heap [] 0 0 (lw_Z below #[Value.ref b] s) (entryFrame m ([Value.ref b] : List Value).toArray 10) := by
  obtain ⟨hx, hb, hr, hml, hown, hts, hX, hbl, hlocks, hgv⟩ := id C0
  have hs := flat_of_before _ hgv
  have hl : l.stackTraces = false := by unfold Launch.stackTraces; rw [hflags]; decide +kernel
  obtain ⟨D, hD⟩ := me_known hts
  obtain ⟨⟨c1, c3⟩, r1, r3⟩ := me_arr hts
  obtain ⟨E, hE⟩ : ∃ E : mE, E = (s.heap.size, b, (fun _ => 0), (c1, c1, c3), D) := ⟨_, rfl⟩
  have hK : mt_K E (L, xs) s := by
    refine ⟨⟨by rw [hE]; exact hD, ?_⟩, me_X hts hs hX hbl (by rw [hE]) (by rw [hE])⟩
    intro k q hq
    rw [hE] at hq
    match k, hq with
    | 0, hq => cases hq; exact r1
    | 1, hq => cases hq; exact r3
    | k + 2, hq => exact absurd (List.getElem?_eq_some_iff.mp hq).1 (by simp [mt_tys])
  have hC : mt_Cx E (L, xs) 282 p room_1 s m #[Value.ref b] meth c := by
    refine ⟨⟨hx, hb, hml, hown, ?_⟩, hlocks, fun q => absurd q (by decide +kernel), fun q => absurd rfl q, ⟨by decide, by decide⟩, hK, hr⟩
    intro w hw
    exact hts w (List.mem_filter.mp (show w ∈ lw_tbl.filter goodWord from hw)).1
  have hR : mt_R E m_h0 s.heap := ⟨fun k q hq => by simp [mt_w, m_h0] at hq, ⟨fun i j p q h => by simp [mt_w, m_h0] at h, fun k q h => by simp [mt_w, m_h0] at h⟩⟩
  have has : mt_as E [(4, 0)] = [Value.ref b] := by rw [hE]; rfl
  rw [lg_entry_eq]
  have hL : mt_L E ((lg_sl ([Value.ref b]) ++ List.replicate (10 - (lg_sl ([Value.ref b])).length) Slot.unset).toArray) (m_max 282) (m_ent (m_max 282) [(4, 0)]) := by
    have h1 := mt_entry (E := E) (as := [(4, 0)]) (n := m_max 282) (by decide) (lv_entry _ (by rw [← mt_lay_len]; decide))
    rw [has] at h1
    exact h1
  have hW := mt_WA (E := E) (Z := (L, xs)) hl n 282 0 _ [] m_h0 r hrun (by decide) (fun _ => ⟨_, hr1⟩) (p := p) (e := e) (R := room_1) (s := s) (mid := m) (args := #[Value.ref b]) (below := below) (meth := meth) (c := c) (H := s.heap) (locs := []) (cells := 0) (slots := 0) (mt_n r.2) r.2.2.2.2.2 hC hL hR va_S.rf (fun _ => by rw [hE]; exact Nat.le_refl _) (by show 0 + mt_n r.2 = mt_n r.2 + 0; omega) (by show 0 + _ = _ + 0; omega) hc hsl
  refine me_mono hW ?_
  rintro t ⟨o, h1, h2, h3⟩
  refine ⟨o, h1, h2, ?_⟩
  rcases h3 with ⟨⟨v9, q1, rfl, -, -⟩, Lc, ⟨f1, f2, f3⟩, f4⟩ | ⟨q, -, N, ce, L9, ⟨x, -, hx9, -⟩, -⟩
  · rw [hr1] at q1
    cases q1
    have e9 : mt_vo E (0, v) = some (.int 1) := by
      show some (Value.int (Int32.ofInt v)) = _
      rw [show Int32.ofInt v = Int32.ofInt (w32 v) by rw [← mt_ti, Int32.ofInt_toInt], hv]
      rfl
    rw [e9] at f1 ⊢
    refine ⟨rfl, f1, f2, f3.weaken (fun y hy hlt => ?_) hc hsl⟩
    have := f4 y hy
    rw [hE] at this
    exact absurd hlt (Nat.not_lt.mpr this)
  · rw [hr1] at hx9
    cases hx9
end
end
