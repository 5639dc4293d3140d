section
-- ===== PART A: goes FIRST, ahead of the names: the tables' words, and 'selects' of the private methods out of them =====
/-- a private method of a class that the tables say can be made, by its rows of tables_1 -/
def lw_okq (q : MethodName × Nat) : Prop := (q.1.cls ≠ "java/lang/invoke/MethodHandle" ∧ q.1.cls ≠ "java/lang/invoke/VarHandle") ∧ Cond.instantiable q.1.cls q.2 ∈ tables_1 ∧ Cond.privateMethod q.1 ∈ tables_1 ∧ Cond.instanceMethod q.1 ∈ tables_1
theorem lw_p0 : lw_okq (⟨"Switchlog", "reasonIn", "(LSwitchlog$State;II)I"⟩, 7) := ⟨⟨by decide +kernel, by decide +kernel⟩, List.mem_of_getElem? (i := 16) (by decide +kernel), List.mem_of_getElem? (i := 168) (by decide +kernel), List.mem_of_getElem? (i := 169) (by decide +kernel)⟩
theorem lw_p1 : lw_okq (⟨"Switchlog", "isAlreadySo", "(LSwitchlog$State;II)Z"⟩, 7) := ⟨⟨by decide +kernel, by decide +kernel⟩, List.mem_of_getElem? (i := 16) (by decide +kernel), List.mem_of_getElem? (i := 172) (by decide +kernel), List.mem_of_getElem? (i := 173) (by decide +kernel)⟩
theorem lw_p2 : lw_okq (⟨"Switchlog", "touchedNodes", "(II)I"⟩, 7) := ⟨⟨by decide +kernel, by decide +kernel⟩, List.mem_of_getElem? (i := 16) (by decide +kernel), List.mem_of_getElem? (i := 187) (by decide +kernel), List.mem_of_getElem? (i := 188) (by decide +kernel)⟩
theorem lw_p3 : lw_okq (⟨"Switchlog", "isInterlocked", "(LSwitchlog$State;II)Z"⟩, 7) := ⟨⟨by decide +kernel, by decide +kernel⟩, List.mem_of_getElem? (i := 16) (by decide +kernel), List.mem_of_getElem? (i := 206) (by decide +kernel), List.mem_of_getElem? (i := 207) (by decide +kernel)⟩
theorem lw_p4 : lw_okq (⟨"Switchlog", "breaksLoad", "(LSwitchlog$State;I)Z"⟩, 7) := ⟨⟨by decide +kernel, by decide +kernel⟩, List.mem_of_getElem? (i := 16) (by decide +kernel), List.mem_of_getElem? (i := 210) (by decide +kernel), List.mem_of_getElem? (i := 211) (by decide +kernel)⟩
theorem lw_p5 : lw_okq (⟨"Switchlog", "joinsLiveAndEarthed", "(LSwitchlog$State;I)Z"⟩, 7) := ⟨⟨by decide +kernel, by decide +kernel⟩, List.mem_of_getElem? (i := 16) (by decide +kernel), List.mem_of_getElem? (i := 230) (by decide +kernel), List.mem_of_getElem? (i := 231) (by decide +kernel)⟩
theorem lw_p6 : lw_okq (⟨"Switchlog", "makesLoad", "(LSwitchlog$State;I)Z"⟩, 7) := ⟨⟨by decide +kernel, by decide +kernel⟩, List.mem_of_getElem? (i := 16) (by decide +kernel), List.mem_of_getElem? (i := 242) (by decide +kernel), List.mem_of_getElem? (i := 243) (by decide +kernel)⟩
theorem lw_p7 : lw_okq (⟨"Switchlog", "areSafe", "(ILSwitchlog$State;)Z"⟩, 7) := ⟨⟨by decide +kernel, by decide +kernel⟩, List.mem_of_getElem? (i := 16) (by decide +kernel), List.mem_of_getElem? (i := 246) (by decide +kernel), List.mem_of_getElem? (i := 247) (by decide +kernel)⟩
theorem lw_p8 : lw_okq (⟨"java/lang/Throwable", "fillInStackTrace", "(I)Ljava/lang/Throwable;"⟩, 6) := ⟨⟨by decide +kernel, by decide +kernel⟩, List.mem_of_getElem? (i := 346) (by decide +kernel), List.mem_of_getElem? (i := 344) (by decide +kernel), List.mem_of_getElem? (i := 345) (by decide +kernel)⟩
theorem lw_p9 : lw_okq (⟨"Switchlog", "requireNode", "(I)V"⟩, 7) := ⟨⟨by decide +kernel, by decide +kernel⟩, List.mem_of_getElem? (i := 16) (by decide +kernel), List.mem_of_getElem? (i := 389) (by decide +kernel), List.mem_of_getElem? (i := 390) (by decide +kernel)⟩
theorem lw_p10 : lw_okq (⟨"Switchlog", "requireAct", "(II)V"⟩, 7) := ⟨⟨by decide +kernel, by decide +kernel⟩, List.mem_of_getElem? (i := 16) (by decide +kernel), List.mem_of_getElem? (i := 441) (by decide +kernel), List.mem_of_getElem? (i := 442) (by decide +kernel)⟩
theorem lw_p11 : lw_okq (⟨"Switchlog", "doAndLog", "(I)I"⟩, 7) := ⟨⟨by decide +kernel, by decide +kernel⟩, List.mem_of_getElem? (i := 16) (by decide +kernel), List.mem_of_getElem? (i := 452) (by decide +kernel), List.mem_of_getElem? (i := 453) (by decide +kernel)⟩
theorem lw_p12 : lw_okq (⟨"Switchlog", "canBeHeld", "(I)Z"⟩, 7) := ⟨⟨by decide +kernel, by decide +kernel⟩, List.mem_of_getElem? (i := 16) (by decide +kernel), List.mem_of_getElem? (i := 520) (by decide +kernel), List.mem_of_getElem? (i := 521) (by decide +kernel)⟩
theorem lw_p13 : lw_okq (⟨"SwitchlogModel", "isNode", "(I)Z"⟩, 19) := ⟨⟨by decide +kernel, by decide +kernel⟩, List.mem_of_getElem? (i := 600) (by decide +kernel), List.mem_of_getElem? (i := 677) (by decide +kernel), List.mem_of_getElem? (i := 678) (by decide +kernel)⟩
theorem lw_p14 : lw_okq (⟨"SwitchlogModel", "asks", "(II)Z"⟩, 19) := ⟨⟨by decide +kernel, by decide +kernel⟩, List.mem_of_getElem? (i := 600) (by decide +kernel), List.mem_of_getElem? (i := 696) (by decide +kernel), List.mem_of_getElem? (i := 697) (by decide +kernel)⟩
theorem lw_p15 : lw_okq (⟨"SwitchlogModel", "isSwitch", "(I)Z"⟩, 19) := ⟨⟨by decide +kernel, by decide +kernel⟩, List.mem_of_getElem? (i := 600) (by decide +kernel), List.mem_of_getElem? (i := 700) (by decide +kernel), List.mem_of_getElem? (i := 701) (by decide +kernel)⟩
def lw_privs_1 : List (MethodName × Nat) := [(⟨"Switchlog", "reasonIn", "(LSwitchlog$State;II)I"⟩, 7), (⟨"Switchlog", "isAlreadySo", "(LSwitchlog$State;II)Z"⟩, 7), (⟨"Switchlog", "touchedNodes", "(II)I"⟩, 7), (⟨"Switchlog", "isInterlocked", "(LSwitchlog$State;II)Z"⟩, 7), (⟨"Switchlog", "breaksLoad", "(LSwitchlog$State;I)Z"⟩, 7), (⟨"Switchlog", "joinsLiveAndEarthed", "(LSwitchlog$State;I)Z"⟩, 7), (⟨"Switchlog", "makesLoad", "(LSwitchlog$State;I)Z"⟩, 7), (⟨"Switchlog", "areSafe", "(ILSwitchlog$State;)Z"⟩, 7), (⟨"java/lang/Throwable", "fillInStackTrace", "(I)Ljava/lang/Throwable;"⟩, 6), (⟨"Switchlog", "requireNode", "(I)V"⟩, 7), (⟨"Switchlog", "requireAct", "(II)V"⟩, 7), (⟨"Switchlog", "doAndLog", "(I)I"⟩, 7), (⟨"Switchlog", "canBeHeld", "(I)Z"⟩, 7), (⟨"SwitchlogModel", "isNode", "(I)Z"⟩, 19), (⟨"SwitchlogModel", "asks", "(II)Z"⟩, 19), (⟨"SwitchlogModel", "isSwitch", "(I)Z"⟩, 19)]
theorem lw_r1 : ∀ q ∈ lw_privs_1, lw_okq q := List.forall_mem_cons.mpr ⟨lw_p0, List.forall_mem_cons.mpr ⟨lw_p1, List.forall_mem_cons.mpr ⟨lw_p2, List.forall_mem_cons.mpr ⟨lw_p3, List.forall_mem_cons.mpr ⟨lw_p4, List.forall_mem_cons.mpr ⟨lw_p5, List.forall_mem_cons.mpr ⟨lw_p6, List.forall_mem_cons.mpr ⟨lw_p7, List.forall_mem_cons.mpr ⟨lw_p8, List.forall_mem_cons.mpr ⟨lw_p9, List.forall_mem_cons.mpr ⟨lw_p10, List.forall_mem_cons.mpr ⟨lw_p11, List.forall_mem_cons.mpr ⟨lw_p12, List.forall_mem_cons.mpr ⟨lw_p13, List.forall_mem_cons.mpr ⟨lw_p14, List.forall_mem_cons.mpr ⟨lw_p15, fun _ h => absurd h List.not_mem_nil⟩⟩⟩⟩⟩⟩⟩⟩⟩⟩⟩⟩⟩⟩⟩⟩
theorem lw_p16 : lw_okq (⟨"SwitchlogModel", "acts", "(II)I"⟩, 19) := ⟨⟨by decide +kernel, by decide +kernel⟩, List.mem_of_getElem? (i := 600) (by decide +kernel), List.mem_of_getElem? (i := 704) (by decide +kernel), List.mem_of_getElem? (i := 705) (by decide +kernel)⟩
theorem lw_p17 : lw_okq (⟨"SwitchlogModel", "why", "(II)I"⟩, 19) := ⟨⟨by decide +kernel, by decide +kernel⟩, List.mem_of_getElem? (i := 600) (by decide +kernel), List.mem_of_getElem? (i := 708) (by decide +kernel), List.mem_of_getElem? (i := 709) (by decide +kernel)⟩
theorem lw_p18 : lw_okq (⟨"SwitchlogModel", "isReady", "(II)Z"⟩, 19) := ⟨⟨by decide +kernel, by decide +kernel⟩, List.mem_of_getElem? (i := 600) (by decide +kernel), List.mem_of_getElem? (i := 712) (by decide +kernel), List.mem_of_getElem? (i := 713) (by decide +kernel)⟩
theorem lw_p19 : lw_okq (⟨"SwitchlogModel", "touched", "(II)I"⟩, 19) := ⟨⟨by decide +kernel, by decide +kernel⟩, List.mem_of_getElem? (i := 600) (by decide +kernel), List.mem_of_getElem? (i := 719) (by decide +kernel), List.mem_of_getElem? (i := 720) (by decide +kernel)⟩
theorem lw_p20 : lw_okq (⟨"SwitchlogModel", "heldNow", "()I"⟩, 19) := ⟨⟨by decide +kernel, by decide +kernel⟩, List.mem_of_getElem? (i := 600) (by decide +kernel), List.mem_of_getElem? (i := 723) (by decide +kernel), List.mem_of_getElem? (i := 724) (by decide +kernel)⟩
theorem lw_p21 : lw_okq (⟨"SwitchlogModel", "isBarred", "(II)Z"⟩, 19) := ⟨⟨by decide +kernel, by decide +kernel⟩, List.mem_of_getElem? (i := 600) (by decide +kernel), List.mem_of_getElem? (i := 727) (by decide +kernel), List.mem_of_getElem? (i := 728) (by decide +kernel)⟩
theorem lw_p22 : lw_okq (⟨"SwitchlogModel", "isBarredOpening", "(I)Z"⟩, 19) := ⟨⟨by decide +kernel, by decide +kernel⟩, List.mem_of_getElem? (i := 600) (by decide +kernel), List.mem_of_getElem? (i := 731) (by decide +kernel), List.mem_of_getElem? (i := 732) (by decide +kernel)⟩
theorem lw_p23 : lw_okq (⟨"SwitchlogModel", "isLoaded", "(II)Z"⟩, 19) := ⟨⟨by decide +kernel, by decide +kernel⟩, List.mem_of_getElem? (i := 600) (by decide +kernel), List.mem_of_getElem? (i := 735) (by decide +kernel), List.mem_of_getElem? (i := 736) (by decide +kernel)⟩
theorem lw_p24 : lw_okq (⟨"SwitchlogModel", "isLive", "(III)Z"⟩, 19) := ⟨⟨by decide +kernel, by decide +kernel⟩, List.mem_of_getElem? (i := 600) (by decide +kernel), List.mem_of_getElem? (i := 739) (by decide +kernel), List.mem_of_getElem? (i := 740) (by decide +kernel)⟩
theorem lw_p25 : lw_okq (⟨"SwitchlogModel", "partOf", "(II)I"⟩, 19) := ⟨⟨by decide +kernel, by decide +kernel⟩, List.mem_of_getElem? (i := 600) (by decide +kernel), List.mem_of_getElem? (i := 743) (by decide +kernel), List.mem_of_getElem? (i := 744) (by decide +kernel)⟩
theorem lw_p26 : lw_okq (⟨"SwitchlogModel", "isBarredClosing", "(I)Z"⟩, 19) := ⟨⟨by decide +kernel, by decide +kernel⟩, List.mem_of_getElem? (i := 600) (by decide +kernel), List.mem_of_getElem? (i := 747) (by decide +kernel), List.mem_of_getElem? (i := 748) (by decide +kernel)⟩
theorem lw_p27 : lw_okq (⟨"SwitchlogModel", "isEarthed", "(III)Z"⟩, 19) := ⟨⟨by decide +kernel, by decide +kernel⟩, List.mem_of_getElem? (i := 600) (by decide +kernel), List.mem_of_getElem? (i := 751) (by decide +kernel), List.mem_of_getElem? (i := 752) (by decide +kernel)⟩
theorem lw_p28 : lw_okq (⟨"SwitchlogModel", "isSafe", "(II)Z"⟩, 19) := ⟨⟨by decide +kernel, by decide +kernel⟩, List.mem_of_getElem? (i := 600) (by decide +kernel), List.mem_of_getElem? (i := 755) (by decide +kernel), List.mem_of_getElem? (i := 756) (by decide +kernel)⟩
theorem lw_p29 : lw_okq (⟨"SwitchlogModel", "does", "(II)V"⟩, 19) := ⟨⟨by decide +kernel, by decide +kernel⟩, List.mem_of_getElem? (i := 600) (by decide +kernel), List.mem_of_getElem? (i := 759) (by decide +kernel), List.mem_of_getElem? (i := 760) (by decide +kernel)⟩
theorem lw_p30 : lw_okq (⟨"SwitchlogModel", "areHeldSafe", "()Z"⟩, 19) := ⟨⟨by decide +kernel, by decide +kernel⟩, List.mem_of_getElem? (i := 600) (by decide +kernel), List.mem_of_getElem? (i := 763) (by decide +kernel), List.mem_of_getElem? (i := 764) (by decide +kernel)⟩
theorem lw_p31 : lw_okq (⟨"SwitchlogModel", "laysFar", "(I)V"⟩, 19) := ⟨⟨by decide +kernel, by decide +kernel⟩, List.mem_of_getElem? (i := 600) (by decide +kernel), List.mem_of_getElem? (i := 850) (by decide +kernel), List.mem_of_getElem? (i := 851) (by decide +kernel)⟩
def lw_privs_2 : List (MethodName × Nat) := [(⟨"SwitchlogModel", "acts", "(II)I"⟩, 19), (⟨"SwitchlogModel", "why", "(II)I"⟩, 19), (⟨"SwitchlogModel", "isReady", "(II)Z"⟩, 19), (⟨"SwitchlogModel", "touched", "(II)I"⟩, 19), (⟨"SwitchlogModel", "heldNow", "()I"⟩, 19), (⟨"SwitchlogModel", "isBarred", "(II)Z"⟩, 19), (⟨"SwitchlogModel", "isBarredOpening", "(I)Z"⟩, 19), (⟨"SwitchlogModel", "isLoaded", "(II)Z"⟩, 19), (⟨"SwitchlogModel", "isLive", "(III)Z"⟩, 19), (⟨"SwitchlogModel", "partOf", "(II)I"⟩, 19), (⟨"SwitchlogModel", "isBarredClosing", "(I)Z"⟩, 19), (⟨"SwitchlogModel", "isEarthed", "(III)Z"⟩, 19), (⟨"SwitchlogModel", "isSafe", "(II)Z"⟩, 19), (⟨"SwitchlogModel", "does", "(II)V"⟩, 19), (⟨"SwitchlogModel", "areHeldSafe", "()Z"⟩, 19), (⟨"SwitchlogModel", "laysFar", "(I)V"⟩, 19)]
theorem lw_r2 : ∀ q ∈ lw_privs_2, lw_okq q := List.forall_mem_cons.mpr ⟨lw_p16, List.forall_mem_cons.mpr ⟨lw_p17, List.forall_mem_cons.mpr ⟨lw_p18, List.forall_mem_cons.mpr ⟨lw_p19, List.forall_mem_cons.mpr ⟨lw_p20, List.forall_mem_cons.mpr ⟨lw_p21, List.forall_mem_cons.mpr ⟨lw_p22, List.forall_mem_cons.mpr ⟨lw_p23, List.forall_mem_cons.mpr ⟨lw_p24, List.forall_mem_cons.mpr ⟨lw_p25, List.forall_mem_cons.mpr ⟨lw_p26, List.forall_mem_cons.mpr ⟨lw_p27, List.forall_mem_cons.mpr ⟨lw_p28, List.forall_mem_cons.mpr ⟨lw_p29, List.forall_mem_cons.mpr ⟨lw_p30, List.forall_mem_cons.mpr ⟨lw_p31, fun _ h => absurd h List.not_mem_nil⟩⟩⟩⟩⟩⟩⟩⟩⟩⟩⟩⟩⟩⟩⟩⟩
def lw_privs : List (MethodName × Nat) := lw_privs_1 ++ (lw_privs_2)
def lw_tbl : List Cond := k2_sels lw_privs ++ tables_1
theorem lw_privs_ok : ∀ q ∈ lw_privs, lw_okq q := by
  show ∀ q ∈ lw_privs_1 ++ (lw_privs_2), lw_okq q
  exact List.forall_mem_append.mpr ⟨lw_r1, lw_r2⟩
end
section
/-! ===== BEGIN words of one list among another's, by their places ===== -/
theorem goodIn_r {big : List Cond} (ws : List Cond) (ps : List Nat) (hp : ws = ps.filterMap (fun i => big[i]?)) (h : ws.all goodWord = true) : GoodIn big ws := by
  intro w hw
  have h1 := List.all_eq_true.mp h w hw
  rw [hp] at hw
  obtain ⟨i, -, hi⟩ := List.mem_filterMap.mp hw
  have hm : w ∈ big := by first | exact List.mem_of_getElem? hi | exact List.getElem?_mem hi
  exact ⟨hm, good_of_word h1⟩
theorem goodIn_app {big a b : List Cond} (ha : GoodIn big a) (hb : GoodIn big b) : GoodIn big (a ++ b) := fun w h => (List.mem_append.mp h).elim (ha w) (hb w)
theorem goodIn_ca {big a b : List Cond} {c : Cond} (ha : GoodIn big (c :: a)) (hb : GoodIn big b) : GoodIn big (c :: (a ++ b)) := fun w h => (List.mem_cons.mp h).elim (fun e => ha w (List.mem_cons.mpr (Or.inl e))) (fun h => (List.mem_append.mp h).elim (fun h => ha w (List.mem_cons.mpr (Or.inr h))) (hb w))
theorem goodIn_sub {big ws : List Cond} (hm : ∀ w ∈ ws, w ∈ big) (h : ws.all goodWord = true) : GoodIn big ws := fun w hw => ⟨hm w hw, good_of_word (List.all_eq_true.mp h w hw)⟩
/-! ===== END ===== -/

/-! ===== BEGIN exceptions that leave a method, and their catching by the caller (launches without stack traces) ===== -/
section VXA
/-! The laws vx_back, vx_callV, vx_callS, vx_callSW, vx_throw0, vx_throwS follow proofs of the library, with one case more: JvmDerived/Free/Laws.lean (Back.of_free), Shelf42/LK1.lean (callV, callS), Shelf/KitTraced.lean (throwNew0V, throwNewS). -/
/-- where a method has thrown q: the class by its name, the cell, what was written, the world -/
def vx_T (XC : String → State → State → Prop) (st : State) (q : Addr) (t : State) (mc ms : Nat) (free : Addr → Prop) : Prop :=
  ∃ (E : String) (ce : Cell) (L : List Loc), XC E st t ∧ t.heap[q]? = some ce ∧ ce.vm = .none ∧ st.vm.findClass E = some ce.cls ∧ st.WarmedH t.vm ∧ st.sameButNew ({ t with vm := st.vm } : State) L mc ms ∧ ∀ z ∈ L, free z.base
def vx_Q (Qc : Array Value → State → Outcome → State → Prop) (XC : String → State → State → Prop) (mc ms : Nat) (free : Addr → Prop) : Array Value → State → Outcome → State → Prop := fun a st o t =>
  (Qc a st o t ∧ ∃ L, FrameEnd st o t L mc ms ∧ ∀ q ∈ L, free q.base) ∨ ∃ q, o = .threw q ∧ vx_T XC st q t mc ms free
/-- a callee that returns or throws -/
def vx_Met (l : Launch) (y : MethodName) (ws : List Cond) (rm : Room) (Pc : Array Value → State → Prop) (Qc : Array Value → State → Outcome → State → Prop) (XC : String → State → State → Prop) (mc ms : Nat) (free : Addr → Prop) : Prop :=
  MetFree l y (headSpec ws rm) Pc (fun _ _ _ _ _ => True) (vx_Q Qc XC mc ms free)
def vx_Post (XC : String → State → State → Prop) (mc ms : Nat) (free : Addr → Prop) : Pt → Array Value → Addr → Pt → Prop := fun A a q B =>
  ∃ (g : JFrame) (mk : MethodId) (t : State) (L : List Loc) (E : String) (ce : Cell), B.U.heap = t.heap ∧ B.U.vm = t.vm ∧ XC E (A.U.calling g mk a) t ∧ t.heap[q]? = some ce ∧ ce.vm = .none ∧ A.U.vm.findClass E = some ce.cls ∧ B.locs = A.locs ++ L ∧ (∀ z ∈ L, free z.base) ∧ B.cells = A.cells + mc ∧ B.slots = A.slots + ms
def vx_Back (l : Launch) (R : Room) (p : Program) (e : Env) (below : List Frame) (s : State) (sargs : Array Value) (y : MethodName) (len W9 : Nat)
    (Pre : Pt → Array Value → Prop) (Post : Pt → Array Value → Option Value → Pt → Prop) (PostX : Pt → Array Value → Addr → Pt → Prop) : Prop :=
  ∀ (m : MethodId) (meth : Method) (c : Code) (A : Pt) (g : JFrame) (ig : Instr) (mk : MethodId) (a : Array Value),
    Stand p l e R s m sargs below meth c A.U A.locs A.cells A.slots → g.method = m → g.locals.size = c.maxLocals → decode c.code g.pc = .ok (ig, len) →
    2 * g.monitorRoom + (g.stack.map fun v => v.category).sum ≤ W9 → A.U.methodNamed? y = some mk → Pre A a →
    (∃ (v : Option Value) (B : Pt), Stand p l e R s m sargs below meth c B.U B.locs B.cells B.slots ∧ Post A a v B ∧
      Steps p.tables e below (doInvoke e (A.U.setTop g) [] mk a).1 (B.U.setTop { g with pc := g.pc + len, stack := v.toList ++ g.stack })) ∨
    (∃ (q : Addr) (B : Pt), Stand p l e R s m sargs below meth c B.U B.locs B.cells B.slots ∧ PostX A a q B ∧
      Steps p.tables e below (doInvoke e (A.U.setTop g) [] mk a).1 ((B.U.setTop g).pushFrame (.throwing q)))
section Payer
variable {l : Launch} {R : Room} {p : Program} {e : Env} {below : List Frame} {s : State} {sargs : Array Value} {y : MethodName} {len W9 : Nat}
theorem vx_back {ws : List Cond} {rm : Room} {Pc : Array Value → State → Prop} {Qc : Array Value → State → Outcome → State → Prop} {XC : String → State → State → Prop} {mc ms : Nat} {free : Addr → Prop} {bytes : ByteArray} {maxL : Nat} {ret : Option FieldType}
    (hM : vx_Met l y ws rm Pc Qc XC mc ms free) (hblind : FrameBlind Pc) (hrc : rm.cells = mc) (hrs : rm.slots = ms)
    (hframes : rm.frames + 1 ≤ R.frames) (hlocals : W9 + (maxL + 11) + rm.locals ≤ R.locals)
    (hws : ∀ w ∈ ws, ∀ a' U, s.WarmedH U.vm → w.before a' U = true) (hcode : Cond.code y bytes maxL ret ∈ ws) (hinit : ∀ a' U, s.WarmedH U.vm → (Cond.initialized y.cls).before a' U = true) :
    vx_Back l R p e below s sargs y len W9 (PreOf R mc ms Pc) (PostOf Qc mc ms free) (vx_Post XC mc ms free) := by
  intro m meth c A g ig mk a X hg hsize hdg hW hn hp
  have h1 : (headSpec ws rm).pre.before a A.U = true := atoms_intro fun w hw => hws w hw _ _ X.warmed
  have h2 : (Cond.code y bytes maxL ret).before a A.U = true := hws _ hcode _ _ X.warmed
  have h3 : (Cond.initialized y.cls).before a A.U = true := hinit _ _ X.warmed
  have h4 : A.cells + (headSpec ws rm).room.cells ≤ R.cells := by rw [show (headSpec ws rm).room.cells = mc from hrc]; exact hp.1
  have h5 : A.slots + (headSpec ws rm).room.slots ≤ R.slots := by rw [show (headSpec ws rm).room.slots = ms from hrs]; exact hp.2.1
  have hPc : Pc a (A.U.calling g mk a) := hblind _ _ _ _ hp.2.2
  obtain ⟨U, Ls, c0, s0⟩ := A
  dsimp only [Pt.U, Pt.locs, Pt.cells, Pt.slots] at h1 h2 h3 h4 h5 X hn hPc ⊢
  obtain ⟨methY, cY, hmY, hcY, -, hlY, -, -, -, -⟩ := Cond.code_spec hn h2
  obtain ⟨kY, hkY, -⟩ := className_of_methodNamed hn
  have hinitY : kY.init = .initialized := Cond.initialized_spec (findClass_of_methodNamed hn) hkY h3
  have h : At U g.method c below := by rw [hg]; exact X.here
  have hlocals9 : W9 + (maxL + 11) + (headSpec ws rm).room.locals ≤ R.locals := hlocals
  have happ : (headSpec ws rm).appliesLoose y e.platform (U.calling g mk a) = true :=
    Spec.appliesLoose_calling (g := g) h hdg hn hkY hinitY
      (X.room_calling (g := g) (R' := (headSpec ws rm).room) hsize hmY hcY hframes (by rw [hlY]; omega) h4 h5) h1
  obtain ⟨mid, hmid⟩ := h.above
  have hfr : (U.setTop g).frames = (.java g :: mid) ++ below := by rw [State.frames_setTop' g h.top, hmid]; rfl
  obtain ⟨o, s₂, hsteps, -, hend, hq⟩ := Steps.callFree hM p X.admits X.cas X.clock (acts := []) hfr happ hPc trivial
  have hq' : vx_Q Qc XC mc ms free a (U.calling g mk a) o s₂ := hq
  rw [State.frames_setTop' g h.top] at hend
  obtain ⟨g₀, hg0⟩ := Option.isSome_iff_exists.mp h.top
  obtain ⟨r, hr⟩ := State.topJava?_eq_some.mp hg0
  have hr' : (({ U with heap := s₂.heap, slotsUsed := s₂.slotsUsed } : State).setVm s₂.vm).frames = .java g₀ :: r := hr
  rcases hq' with ⟨hqc, L, hfe, hL⟩ | ⟨q, rfl, E, ce, L, hx, hce, hcv, hcl, hW₂, hsm, hL⟩
  · obtain ⟨⟨v, rfl⟩, hW₂, e2, q2, q3, q4, q5, q6⟩ := id hfe
    have e3 : s₂ = ({ (U.calling g mk a).setFrames s₂.frames with heap := s₂.heap, slotsUsed := s₂.slotsUsed } : State).setVm s₂.vm := by
      have : s₂ = ({ s₂ with vm := (U.calling g mk a).vm } : State).setVm s₂.vm := rfl
      rw [e2] at this
      exact this
    obtain ⟨c₂, i₂, len₂, hc₂, hd₂, hf₂⟩ := hend
    have hW' : U.WarmedH s₂.vm := hW₂
    have hcc : c₂ = c := by
      have h1 : s₂.code? g.method = U.code? g.method := by
        rw [State.code?_eq, State.code?_eq, hW'.alike.method?]
      exact Option.some.inj (hc₂.symm.trans (h1.trans h.code))
    subst hcc
    have hlen : len₂ = len := by rw [hdg] at hd₂; cases hd₂; rfl
    subst hlen
    have hs₂ : s₂ = (({ U with heap := s₂.heap, slotsUsed := s₂.slotsUsed } : State).setVm s₂.vm).setTop { g with pc := g.pc + len₂, stack := v.toList ++ g.stack } := by
      refine e3.trans ?_
      rw [hf₂, State.calling_eq h.top, State.setFrames_setFrames, State.setTop_of_frames _ hr', hr]
      rfl
    have hsame : U.sameButNew ({ U with heap := s₂.heap, slotsUsed := s₂.slotsUsed } : State) L mc ms := by
      refine ⟨?_, q2, q3, q4, q5, q6⟩
      obtain ⟨t, ht, -⟩ := State.frames_cons hr
      show ({ U with heap := s₂.heap, slotsUsed := s₂.slotsUsed } : State) = { U.setFrames U.frames with heap := s₂.heap, slotsUsed := s₂.slotsUsed }
      rw [State.setFrames_self ht]
    subst hg
    refine Or.inl ⟨v, ⟨(({ U with heap := s₂.heap, slotsUsed := s₂.slotsUsed } : State).setVm s₂.vm), Ls ++ L, c0 + mc, s0 + ms⟩,
      ⟨X.admits, X.cas, X.clock, X.frames, X.room, X.hears, X.method, X.code, (X.here.setHeapUsed s₂.heap s₂.slotsUsed).setVm hW'.alike, X.tail, State.WarmedH.trans X.warmed hW', X.limits, X.bytes, X.same.trans (hsame.setVm s.vm)⟩,
      ⟨g, mk, s₂, L, rfl, rfl, hqc, rfl, hL, rfl, rfl⟩, ?_⟩
    show Steps p.tables e below _ ((({ U with heap := s₂.heap, slotsUsed := s₂.slotsUsed } : State).setVm s₂.vm).setTop { g with pc := g.pc + len₂, stack := v.toList ++ g.stack })
    rw [← hs₂]
    exact hsteps
  · obtain ⟨e2, q2, q3, q4, q5, q6⟩ := id hsm
    have e3 : s₂ = ({ (U.calling g mk a).setFrames s₂.frames with heap := s₂.heap, slotsUsed := s₂.slotsUsed } : State).setVm s₂.vm := by
      have : s₂ = ({ s₂ with vm := (U.calling g mk a).vm } : State).setVm s₂.vm := rfl
      rw [e2] at this
      exact this
    have hf₂ : s₂.frames = .throwing q :: .java g :: U.frames.tail := hend
    have hW' : U.WarmedH s₂.vm := hW₂
    have hs₂ : s₂ = ((({ U with heap := s₂.heap, slotsUsed := s₂.slotsUsed } : State).setVm s₂.vm).setTop g).pushFrame (.throwing q) := by
      refine e3.trans ?_
      rw [hf₂, State.calling_eq h.top, State.setFrames_setFrames, State.pushFrame, State.frames_setTop _ hr', State.setTop_of_frames _ hr', State.setFrames_setFrames, hr]
      rfl
    have hsame : U.sameButNew ({ U with heap := s₂.heap, slotsUsed := s₂.slotsUsed } : State) L mc ms := by
      refine ⟨?_, q2, q3, q4, q5, q6⟩
      obtain ⟨t, ht, -⟩ := State.frames_cons hr
      show ({ U with heap := s₂.heap, slotsUsed := s₂.slotsUsed } : State) = { U.setFrames U.frames with heap := s₂.heap, slotsUsed := s₂.slotsUsed }
      rw [State.setFrames_self ht]
    subst hg
    refine Or.inr ⟨q, ⟨(({ U with heap := s₂.heap, slotsUsed := s₂.slotsUsed } : State).setVm s₂.vm), Ls ++ L, c0 + mc, s0 + ms⟩,
      ⟨X.admits, X.cas, X.clock, X.frames, X.room, X.hears, X.method, X.code, (X.here.setHeapUsed s₂.heap s₂.slotsUsed).setVm hW'.alike, X.tail, State.WarmedH.trans X.warmed hW', X.limits, X.bytes, X.same.trans (hsame.setVm s.vm)⟩,
      ⟨g, mk, s₂, L, E, ce, rfl, rfl, hx, hce, hcv, hcl, rfl, hL, rfl, rfl⟩, ?_⟩
    show Steps p.tables e below _ (((({ U with heap := s₂.heap, slotsUsed := s₂.slotsUsed } : State).setVm s₂.vm).setTop g).pushFrame (.throwing q))
    rw [← hs₂]
    exact hsteps
end Payer
section Calls
variable {p : Program} {l : Launch} {e : Env} {R : Room} {s : State} {m : MethodId} {args : Array Value} {below : List Frame} {meth : Method} {c : Code} {T : State} {locs : List Loc} {cells slots : Nat}
theorem vx_callV (X : Stand p l e R s m args below meth c T locs cells slots) (hexec : p.tables.exec = Jvm.exec) {own C : String} {index : Nat} {y : MethodName} {bytes : ByteArray} {maxL : Nat} {ret : Option FieldType}
    (hown : s.vm.findClass own = some m.cls) (hlink : (Cond.methodLink own index y).before args s = true) (hinst : (Cond.instanceMethod y).before args s = true) (hsel : (Cond.selects C y y).before args s = true)
    (hcode : (Cond.code y bytes maxL ret).before args s = true) (hy : y.cls ≠ "java/lang/invoke/MethodHandle" ∧ y.cls ≠ "java/lang/invoke/VarHandle")
    {W9 : Nat} {Pre : Pt → Array Value → Prop} {Post : Pt → Array Value → Option Value → Pt → Prop} {PostX : Pt → Array Value → Addr → Pt → Prop} (hK : vx_Back l R p e below s args y 3 W9 Pre Post PostX)
    {b : Addr} {cellB : Cell} (hcell : T.heap[b]? = some cellB) (hobj : cellB.vm.isStatics = false) (hcls : s.vm.findClass C = some cellB.cls)
    {g : JFrame} (hg : g.method = m) (hsize : g.locals.size = c.maxLocals) {argsL rest : List Value} (hlen : ∀ sig, parseMethodDescriptor y.desc = some sig → argsL.length = sig.parameters.length)
    (hstack : g.stack = argsL.reverse ++ .ref b :: rest) (hW : 2 * g.monitorRoom + (rest.map fun v => v.category).sum ≤ W9) (hdg : decode c.code g.pc = .ok (.invokevirtual index, 3))
    (hpre : ∀ vm₁, s.WarmedH vm₁ → Pre ⟨T.setVm vm₁, locs, cells, slots⟩ (Value.ref b :: argsL).toArray) :
    (∃ (v : Option Value) (vm₁ : Vm) (B : Pt), s.WarmedH vm₁ ∧ Stand p l e R s m args below meth c B.U B.locs B.cells B.slots ∧ Post ⟨T.setVm vm₁, locs, cells, slots⟩ (Value.ref b :: argsL).toArray v B ∧
      ∀ target, Steps p.tables e below (B.U.setTop { g with pc := g.pc + 3, stack := v.toList ++ rest }) target → Steps p.tables e below (T.setTop g) target) ∨
    (∃ (q : Addr) (vm₁ : Vm) (B : Pt), s.WarmedH vm₁ ∧ Stand p l e R s m args below meth c B.U B.locs B.cells B.slots ∧ PostX ⟨T.setVm vm₁, locs, cells, slots⟩ (Value.ref b :: argsL).toArray q B ∧
      Steps p.tables e below (T.setTop g) ((B.U.setTop { g with stack := rest }).pushFrame (.throwing q))) := by
  obtain ⟨mk, methM, hnamed, hmethM, hstM, habM⟩ := Cond.instanceMethod_spec hinst
  obtain ⟨methM', cM, hmethM', -, -, -, -, -, -, hsigM⟩ := Cond.code_spec hnamed hcode
  cases hmethM.symm.trans hmethM'
  obtain ⟨c2, r2, m2, q1, q2, q3, q4, kP, hkP, hkPi⟩ := Cond.selects_spec hsel
  cases hcls.symm.trans q1
  cases (State.methodFound?_of_named hnamed hy).symm.trans q2
  cases hnamed.symm.trans q3
  have hselP : selectMethod e.platform s.vm cellB.cls mk = .method mk := by rw [Launch.admits_selectMethod X.admits]; exact q4
  obtain ⟨vm₁, X₁, hstep₁⟩ := X.invokevirtual hexec hown hlink hnamed hmethM hstM hkP hkPi hy (a := b) (cell := cellB) hcell
    (fun z h => by rw [h] at hobj; cases hobj) hselP hmethM habM hkP hkPi (g := g) hg (argsL := argsL) (rest := rest) (hlen _ hsigM) hstack hdg
  rcases hK m meth c ⟨T.setVm vm₁, locs, cells, slots⟩ { g with stack := rest } (.invokevirtual index) mk (Value.ref b :: argsL).toArray X₁ hg hsize hdg hW (X₁.named hnamed) (hpre vm₁ X₁.warmed) with ⟨v, B, X', hpost, hsteps⟩ | ⟨q, B, X', hpost, hsteps⟩
  · exact Or.inl ⟨v, vm₁, B, X₁.warmed, X', hpost, fun target h => hstep₁ _ fun acts => by rw [doInvoke_state]; exact hsteps.trans h⟩
  · exact Or.inr ⟨q, vm₁, B, X₁.warmed, X', hpost, hstep₁ _ fun acts => by rw [doInvoke_state]; exact hsteps⟩
theorem vx_callS (X : Stand p l e R s m args below meth c T locs cells slots) (hexec : p.tables.exec = Jvm.exec) {own : String} {index : Nat} {y : MethodName} {bytes : ByteArray} {maxL : Nat} {ret : Option FieldType}
    (hown : s.vm.findClass own = some m.cls) (hlink : (Cond.methodLink own index y).before args s = true) (hstat : (Cond.static y).before args s = true) (hinit : (Cond.initialized y.cls).before args s = true)
    (hcode : (Cond.code y bytes maxL ret).before args s = true) (hy : y.cls ≠ "java/lang/invoke/MethodHandle" ∧ y.cls ≠ "java/lang/invoke/VarHandle")
    {W9 : Nat} {Pre : Pt → Array Value → Prop} {Post : Pt → Array Value → Option Value → Pt → Prop} {PostX : Pt → Array Value → Addr → Pt → Prop} (hK : vx_Back l R p e below s args y 3 W9 Pre Post PostX)
    {g : JFrame} (hg : g.method = m) (hsize : g.locals.size = c.maxLocals) {argsL rest : List Value} (hlen : ∀ sig, parseMethodDescriptor y.desc = some sig → argsL.length = sig.parameters.length)
    (hstack : g.stack = argsL.reverse ++ rest) (hW : 2 * g.monitorRoom + (rest.map fun v => v.category).sum ≤ W9) (hdg : decode c.code g.pc = .ok (.invokestatic index, 3))
    (hpre : ∀ vm₁, s.WarmedH vm₁ → Pre ⟨T.setVm vm₁, locs, cells, slots⟩ argsL.toArray) :
    (∃ (v : Option Value) (vm₁ : Vm) (B : Pt), s.WarmedH vm₁ ∧ Stand p l e R s m args below meth c B.U B.locs B.cells B.slots ∧ Post ⟨T.setVm vm₁, locs, cells, slots⟩ argsL.toArray v B ∧
      ∀ target, Steps p.tables e below (B.U.setTop { g with pc := g.pc + 3, stack := v.toList ++ rest }) target → Steps p.tables e below (T.setTop g) target) ∨
    (∃ (q : Addr) (vm₁ : Vm) (B : Pt), s.WarmedH vm₁ ∧ Stand p l e R s m args below meth c B.U B.locs B.cells B.slots ∧ PostX ⟨T.setVm vm₁, locs, cells, slots⟩ argsL.toArray q B ∧
      Steps p.tables e below (T.setTop g) ((B.U.setTop { g with stack := rest }).pushFrame (.throwing q))) := by
  obtain ⟨mk, hnamed⟩ := Cond.code_named hcode
  obtain ⟨methM, cM, hmethM, -, -, -, -, -, -, hsigM⟩ := Cond.code_spec hnamed hcode
  have hstatic : methM.isStatic = true := Cond.static_spec hnamed hmethM hstat
  obtain ⟨kP, hkP, -⟩ := className_of_methodNamed hnamed
  have hinitP : kP.init = .initialized := Cond.initialized_spec (findClass_of_methodNamed hnamed) hkP hinit
  obtain ⟨vm₁, X₁, hstep₁⟩ := X.invokestatic hexec hown hlink hnamed hmethM hstatic hkP hinitP hy (g := g) hg (argsL := argsL) (rest := rest) (hlen _ hsigM) hstack hdg
  rcases hK m meth c ⟨T.setVm vm₁, locs, cells, slots⟩ { g with stack := rest } (.invokestatic index) mk argsL.toArray X₁ hg hsize hdg hW (X₁.named hnamed) (hpre vm₁ X₁.warmed) with ⟨v, B, X', hpost, hsteps⟩ | ⟨q, B, X', hpost, hsteps⟩
  · exact Or.inl ⟨v, vm₁, B, X₁.warmed, X', hpost, fun target h => hstep₁ _ fun acts => by rw [doInvoke_state]; exact hsteps.trans h⟩
  · exact Or.inr ⟨q, vm₁, B, X₁.warmed, X', hpost, hstep₁ _ fun acts => by rw [doInvoke_state]; exact hsteps⟩
end Calls
theorem vx_cls {s : State} {T : State} {vm₁ : Vm} {E : String} {k : ClassId} (hW : s.WarmedH vm₁) (h : (T.setVm vm₁).vm.findClass E = some k) : s.vm.findClass E = some k := by
  have h1 : vm₁.findClass E = some k := h
  rw [hW.alike.findClass] at h1
  exact h1
/-- the method's frame g, with q thrown over it -/
def vx_W (p : Program) (l : Launch) (e : Env) (R : Room) (s : State) (m : MethodId) (args : Array Value) (below : List Frame) (meth : Method) (c : Code) (H : Heap) (locs : List Loc) (cells slots : Nat) (Q : State → Prop) (g : JFrame) (q : Addr) : Prop :=
  ∀ T : State, T.heap = H → Stand p l e R s m args below meth c T locs cells slots → ∃ t, Steps p.tables e below ((T.setTop g).pushFrame (.throwing q)) t ∧ Q t
def vx_Run (p : Program) (l : Launch) (e : Env) (R : Room) (s : State) (m : MethodId) (args : Array Value) (below : List Frame) (meth : Method) (c : Code) (H : Heap) (locs : List Loc) (cells slots mc ms : Nat) (g : JFrame) (rest : List Value) (Qa : State → Outcome → State → Prop) (XC : String → State → State → Prop) (free : Addr → Prop) : Prop :=
  ∀ T : State, T.heap = H → Stand p l e R s m args below meth c T locs cells slots →
    (∃ (v : Option Value) (st₀ t T' : State) (L : List Loc), st₀.heap = H ∧ Stand p l e R s m args below meth c T' (locs ++ L) (cells + mc) (slots + ms) ∧ (∀ q ∈ L, free q.base) ∧ T'.heap = t.heap ∧ T'.vm = t.vm ∧ Qa st₀ (.returned v) t ∧
      Goes p e below T g T' { g with pc := g.pc + 3, stack := v.toList ++ rest }) ∨
    (∃ (q : Addr) (st₀ t T' : State) (L : List Loc) (E : String) (ce : Cell), st₀.heap = H ∧ Stand p l e R s m args below meth c T' (locs ++ L) (cells + mc) (slots + ms) ∧ (∀ z ∈ L, free z.base) ∧ T'.heap = t.heap ∧ T'.vm = t.vm ∧ XC E st₀ t ∧ t.heap[q]? = some ce ∧ ce.vm = .none ∧ s.vm.findClass E = some ce.cls ∧
      Steps p.tables e below (T.setTop g) ((T'.setTop { g with stack := rest }).pushFrame (.throwing q)))
def vx_X {S : Type} (px : S → Prop) (B : String → S → State → Prop) (A : Nat → Prop) : String → State → State → Prop := fun E st t => ∃ u : S, px u ∧ B E u t ∧ va_F A st t
section Runs
variable {p : Program} {l : Launch} {e : Env} {R : Room} {s : State} {m : MethodId} {args : Array Value} {below : List Frame} {meth : Method} {c : Code} {H : Heap} {locs : List Loc} {cells slots : Nat}
variable {y : MethodName} {bytes cc : ByteArray} {maxL nL mc ms n index : Nat} {ret : Option FieldType} {ws : List Cond} {rm : Room} {Pc : Array Value → State → Prop} {Qc : Array Value → State → Outcome → State → Prop} {XC : String → State → State → Prop} {free : Addr → Prop} {Ts : List Cond} {own C : String} {b : Addr} {As rest : List Value} {g : JFrame}
theorem vx_callBack (cb : CallB R s args own index y bytes maxL ret ws rm mc ms n) (hM : vx_Met l y ws rm Pc Qc XC mc ms free) (hbl : FrameBlind Pc) : vx_Back l R p e below s args y 3 8 (PreOf R mc ms Pc) (PostOf Qc mc ms free) (vx_Post XC mc ms free) := by
  obtain ⟨hrc, hrs, hfr, hlo, hws, hcw, -, hini, -⟩ := cb
  exact vx_back (bytes := bytes) (maxL := maxL) (ret := ret) hM hbl hrc hrs hfr hlo hws hcw (fun a' U hW => word_at hW (Or.inl (by first | rfl | simp [Cond.onTables, Cond.keeps, Cond.steady])) hini)
theorem vx_runV (S : CallFix p m c cc nL s args Ts own) (hM : vx_Met l y ws rm Pc Qc XC mc ms free) (cw : CallW R s args own C index y bytes maxL ret ws rm mc ms n) (hp : PreV s H C b Pc As)
    (hg : g.method = m) (hn : As.length = n) (hsize : g.locals.size = nL) (hstack : g.stack = As.reverse ++ .ref b :: rest) (hW : 2 * g.monitorRoom + (rest.map fun v => v.category).sum ≤ 8) (hdg : decode cc g.pc = .ok (.invokevirtual index, 3)) (hf : cells + mc ≤ R.cells ∧ slots + ms ≤ R.slots) :
    vx_Run p l e R s m args below meth c H locs cells slots mc ms g rest (Qc (Value.ref b :: As).toArray) XC free := by
  have hK : vx_Back l R p e below s args y 3 8 (PreOf R mc ms Pc) (PostOf Qc mc ms free) (vx_Post XC mc ms free) := vx_callBack cw.1 hM hp.1
  obtain ⟨⟨-, -, -, -, -, -, hcode, -, hy, hlen, hl⟩, hin, hse⟩ := cw
  obtain ⟨hx, hb, hml, ho, -⟩ := S
  obtain ⟨-, ⟨cellB, hcB, hoB, hclB⟩, hPc⟩ := hp
  intro T hT X
  rcases vx_callV X hx (C := C) (bytes := bytes) (maxL := maxL) (ret := ret) ho hl hin hse hcode hy hK (by rw [hT]; exact hcB) hoB hclB hg (hsize.trans hml.symm) (argsL := As) (rest := rest) (fun sig h => hn.trans (hlen sig h)) hstack hW (by rw [hb]; exact hdg)
    (fun vm₁ hW₁ => ⟨hf.1, hf.2, hPc (T.setVm vm₁) hT hW₁⟩) with ⟨v, vm₁, ⟨U', l2, c2, s2⟩, hW₁, X', ⟨g', mk, t, L, e1, e2, hq, h1, hL, h2, h3⟩, st⟩ | ⟨q, vm₁, ⟨U', l2, c2, s2⟩, hW₁, X', ⟨g', mk, t, L, E, ce, e1, e2, hq, hce, hcv, hcl, h1, hL, h2, h3⟩, st⟩
  · dsimp only [Pt.U, Pt.locs, Pt.cells, Pt.slots] at X' e1 e2 h1 h2 h3 st
    subst h1; subst h2; subst h3
    exact Or.inl ⟨v, (T.setVm vm₁).calling g' mk (Value.ref b :: As).toArray, t, U', L, hT, X', hL, e1, e2, hq, st⟩
  · dsimp only [Pt.U, Pt.locs, Pt.cells, Pt.slots] at X' e1 e2 h1 h2 h3 st hcl
    subst h1; subst h2; subst h3
    exact Or.inr ⟨q, (T.setVm vm₁).calling g' mk (Value.ref b :: As).toArray, t, U', L, E, ce, hT, X', hL, e1, e2, hq, hce, hcv, vx_cls hW₁ hcl, st⟩
theorem vx_runS (S : CallFix p m c cc nL s args Ts own) (hM : vx_Met l y ws rm Pc Qc XC mc ms free) (cw : CallB R s args own index y bytes maxL ret ws rm mc ms n ∧ (Cond.static y).before args s = true) (hp : PreS s H Pc As)
    (hg : g.method = m) (hn : As.length = n) (hsize : g.locals.size = nL) (hstack : g.stack = As.reverse ++ rest) (hW : 2 * g.monitorRoom + (rest.map fun v => v.category).sum ≤ 8) (hdg : decode cc g.pc = .ok (.invokestatic index, 3)) (hf : cells + mc ≤ R.cells ∧ slots + ms ≤ R.slots) :
    vx_Run p l e R s m args below meth c H locs cells slots mc ms g rest (Qc As.toArray) XC free := by
  have hK : vx_Back l R p e below s args y 3 8 (PreOf R mc ms Pc) (PostOf Qc mc ms free) (vx_Post XC mc ms free) := vx_callBack cw.1 hM hp.1
  obtain ⟨⟨-, -, -, -, -, -, hcode, hini, hy, hlen, hl⟩, hstt⟩ := cw
  obtain ⟨hx, hb, hml, ho, -⟩ := S
  intro T hT X
  rcases vx_callS X hx (bytes := bytes) (maxL := maxL) (ret := ret) ho hl hstt hini hcode hy hK hg (hsize.trans hml.symm) (argsL := As) (rest := rest) (fun sig h => hn.trans (hlen sig h)) hstack hW (by rw [hb]; exact hdg)
    (fun vm₁ hW₁ => ⟨hf.1, hf.2, hp.2 (T.setVm vm₁) hT hW₁⟩) with ⟨v, vm₁, ⟨U', l2, c2, s2⟩, hW₁, X', ⟨g', mk, t, L, e1, e2, hq, h1, hL, h2, h3⟩, st⟩ | ⟨q, vm₁, ⟨U', l2, c2, s2⟩, hW₁, X', ⟨g', mk, t, L, E, ce, e1, e2, hq, hce, hcv, hcl, h1, hL, h2, h3⟩, st⟩
  · dsimp only [Pt.U, Pt.locs, Pt.cells, Pt.slots] at X' e1 e2 h1 h2 h3 st
    subst h1; subst h2; subst h3
    exact Or.inl ⟨v, (T.setVm vm₁).calling g' mk As.toArray, t, U', L, hT, X', hL, e1, e2, hq, st⟩
  · dsimp only [Pt.U, Pt.locs, Pt.cells, Pt.slots] at X' e1 e2 h1 h2 h3 st hcl
    subst h1; subst h2; subst h3
    exact Or.inr ⟨q, (T.setVm vm₁).calling g' mk As.toArray, t, U', L, E, ce, hT, X', hL, e1, e2, hq, hce, hcv, vx_cls hW₁ hcl, st⟩
end Runs
section Rows
variable {p : Program} {l : Launch} {e : Env} {R : Room} {s : State} {m : MethodId} {args : Array Value} {below : List Frame} {meth : Method} {c : Code} {H : Heap} {locs : List Loc} {cells slots : Nat} {Q : State → Prop}
variable {mc ms : Nat} {free : Addr → Prop} {A0 A1 : Nat → Prop} {H0 : Heap} {a : Array Value} {pc : Nat} {ls : Array Slot} {st0 rest : List Value}
theorem vx_keep {st₀ t T' : State} {L : List Loc} (h0 : st₀.heap = H) (e1 : T'.heap = t.heap) (hS : va_S A0 H0 H locs) (hA : ∀ q, q < H.size → A1 q → A0 q) (hf : ∀ q, free q → A0 q) (hL : ∀ q ∈ L, free q.base) (hF : va_F A1 st₀ t) :
    H.size ≤ T'.heap.size ∧ (∀ q : Nat, q < H.size → ¬ A1 q → T'.heap[q]? = H[q]?) ∧ va_S A0 H0 T'.heap (locs ++ L) := by
  obtain ⟨hz, hk⟩ := hF
  rw [h0] at hz hk
  exact ⟨by rw [e1]; exact hz, fun q h1 h2 => by rw [e1]; exact hk q h1 h2,
    ⟨Nat.le_trans hS.1 (by rw [e1]; exact hz), fun q h1 h2 => by rw [e1, hk q (Nat.lt_of_lt_of_le h1 hS.1) (fun z => h2 (hA q (Nat.lt_of_lt_of_le h1 hS.1) z))]; exact hS.2.1 q h1 h2, fun q hq => by
      rcases List.mem_append.mp hq with h | h
      · exact hS.2.2 q h
      · exact hf _ (hL q h)⟩⟩
theorem vx_calli {S SX : Type} {post : Int32 → S → Prop} {px : SX → Prop} {B : S → State → Prop} {BX : String → SX → State → Prop} {AX : Nat → Prop} (hr : vx_Run p l e R s m args below meth c H locs cells slots mc ms (F0 m pc ls st0) rest (va_Qi post B A1 a) (vx_X px BX AX) free) (hS : va_S A0 H0 H locs) (hA : ∀ q, q < H.size → A1 q → A0 q) (hf : ∀ q, free q → A0 q) (hAX : ∀ q, q < H.size → AX q → A0 q)
    (kx : ∀ (E : String) (ce : Cell) (q9 : Addr) (u : SX) (t : State) (H1 : Heap) (locs1 : List Loc), t.heap = H1 → s.vm.Alike t.vm → px u → BX E u t → H.size ≤ H1.size → (∀ q : Nat, q < H.size → ¬ AX q → H1[q]? = H[q]?) → va_S A0 H0 H1 locs1 → H1[q9]? = some ce → ce.vm = .none → s.vm.findClass E = some ce.cls → vx_W p l e R s m args below meth c H1 locs1 (cells + mc) (slots + ms) Q (F0 m pc ls rest) q9)
    (kk : ∀ (r : Int32) (u : S) (t : State) (H1 : Heap) (locs1 : List Loc), t.heap = H1 → s.vm.Alike t.vm → post r u → B u t → H.size ≤ H1.size → (∀ q : Nat, q < H.size → ¬ A1 q → H1[q]? = H[q]?) → va_S A0 H0 H1 locs1 → W p l e R s m args below meth c H1 locs1 (cells + mc) (slots + ms) Q (F0 m (pc + 3) ls (.int r :: rest))) : W p l e R s m args below meth c H locs cells slots Q (F0 m pc ls st0) := by
  intro T hT X
  rcases hr T hT X with ⟨v, st₀, t, T', L, h0, X', hL, e1, e2, ⟨⟨r, u, hv, hp, hb⟩, hF⟩, st⟩ | ⟨q, st₀, t, T', L, E, ce, h0, X', hL, e1, e2, ⟨u, hp, hb, hF⟩, hce, hcv, hcl, st⟩
  · cases hv
    obtain ⟨k1, k2, k3⟩ := vx_keep h0 e1 hS hA hf hL hF
    obtain ⟨t2, a1, b1⟩ := kk r u t T'.heap (locs ++ L) e1.symm (by rw [← e2]; exact X'.warmed.alike) hp hb k1 k2 k3 T' rfl X'
    exact ⟨t2, st t2 a1, b1⟩
  · obtain ⟨k1, k2, k3⟩ := vx_keep h0 e1 hS hAX hf hL hF
    obtain ⟨t2, a1, b1⟩ := kx E ce q u t T'.heap (locs ++ L) e1.symm (by rw [← e2]; exact X'.warmed.alike) hp hb k1 k2 k3 (by rw [e1]; exact hce) hcv hcl T' rfl X'
    exact ⟨t2, st.trans a1, b1⟩
theorem vx_calll {S SX : Type} {post : Int64 → S → Prop} {px : SX → Prop} {B : S → State → Prop} {BX : String → SX → State → Prop} {AX : Nat → Prop} (hr : vx_Run p l e R s m args below meth c H locs cells slots mc ms (F0 m pc ls st0) rest (va_Ql post B A1 a) (vx_X px BX AX) free) (hS : va_S A0 H0 H locs) (hA : ∀ q, q < H.size → A1 q → A0 q) (hf : ∀ q, free q → A0 q) (hAX : ∀ q, q < H.size → AX q → A0 q)
    (kx : ∀ (E : String) (ce : Cell) (q9 : Addr) (u : SX) (t : State) (H1 : Heap) (locs1 : List Loc), t.heap = H1 → s.vm.Alike t.vm → px u → BX E u t → H.size ≤ H1.size → (∀ q : Nat, q < H.size → ¬ AX q → H1[q]? = H[q]?) → va_S A0 H0 H1 locs1 → H1[q9]? = some ce → ce.vm = .none → s.vm.findClass E = some ce.cls → vx_W p l e R s m args below meth c H1 locs1 (cells + mc) (slots + ms) Q (F0 m pc ls rest) q9)
    (kk : ∀ (r : Int64) (u : S) (t : State) (H1 : Heap) (locs1 : List Loc), t.heap = H1 → s.vm.Alike t.vm → post r u → B u t → H.size ≤ H1.size → (∀ q : Nat, q < H.size → ¬ A1 q → H1[q]? = H[q]?) → va_S A0 H0 H1 locs1 → W p l e R s m args below meth c H1 locs1 (cells + mc) (slots + ms) Q (F0 m (pc + 3) ls (.long r :: rest))) : W p l e R s m args below meth c H locs cells slots Q (F0 m pc ls st0) := by
  intro T hT X
  rcases hr T hT X with ⟨v, st₀, t, T', L, h0, X', hL, e1, e2, ⟨⟨r, u, hv, hp, hb⟩, hF⟩, st⟩ | ⟨q, st₀, t, T', L, E, ce, h0, X', hL, e1, e2, ⟨u, hp, hb, hF⟩, hce, hcv, hcl, st⟩
  · cases hv
    obtain ⟨k1, k2, k3⟩ := vx_keep h0 e1 hS hA hf hL hF
    obtain ⟨t2, a1, b1⟩ := kk r u t T'.heap (locs ++ L) e1.symm (by rw [← e2]; exact X'.warmed.alike) hp hb k1 k2 k3 T' rfl X'
    exact ⟨t2, st t2 a1, b1⟩
  · obtain ⟨k1, k2, k3⟩ := vx_keep h0 e1 hS hAX hf hL hF
    obtain ⟨t2, a1, b1⟩ := kx E ce q u t T'.heap (locs ++ L) e1.symm (by rw [← e2]; exact X'.warmed.alike) hp hb k1 k2 k3 (by rw [e1]; exact hce) hcv hcl T' rfl X'
    exact ⟨t2, st.trans a1, b1⟩
theorem vx_callf {S SX : Type} {post : UInt32 → S → Prop} {px : SX → Prop} {B : S → State → Prop} {BX : String → SX → State → Prop} {AX : Nat → Prop} (hr : vx_Run p l e R s m args below meth c H locs cells slots mc ms (F0 m pc ls st0) rest (va_Qf post B A1 a) (vx_X px BX AX) free) (hS : va_S A0 H0 H locs) (hA : ∀ q, q < H.size → A1 q → A0 q) (hf : ∀ q, free q → A0 q) (hAX : ∀ q, q < H.size → AX q → A0 q)
    (kx : ∀ (E : String) (ce : Cell) (q9 : Addr) (u : SX) (t : State) (H1 : Heap) (locs1 : List Loc), t.heap = H1 → s.vm.Alike t.vm → px u → BX E u t → H.size ≤ H1.size → (∀ q : Nat, q < H.size → ¬ AX q → H1[q]? = H[q]?) → va_S A0 H0 H1 locs1 → H1[q9]? = some ce → ce.vm = .none → s.vm.findClass E = some ce.cls → vx_W p l e R s m args below meth c H1 locs1 (cells + mc) (slots + ms) Q (F0 m pc ls rest) q9)
    (kk : ∀ (r : UInt32) (u : S) (t : State) (H1 : Heap) (locs1 : List Loc), t.heap = H1 → s.vm.Alike t.vm → post r u → B u t → H.size ≤ H1.size → (∀ q : Nat, q < H.size → ¬ A1 q → H1[q]? = H[q]?) → va_S A0 H0 H1 locs1 → W p l e R s m args below meth c H1 locs1 (cells + mc) (slots + ms) Q (F0 m (pc + 3) ls (.float r :: rest))) : W p l e R s m args below meth c H locs cells slots Q (F0 m pc ls st0) := by
  intro T hT X
  rcases hr T hT X with ⟨v, st₀, t, T', L, h0, X', hL, e1, e2, ⟨⟨r, u, hv, hp, hb⟩, hF⟩, st⟩ | ⟨q, st₀, t, T', L, E, ce, h0, X', hL, e1, e2, ⟨u, hp, hb, hF⟩, hce, hcv, hcl, st⟩
  · cases hv
    obtain ⟨k1, k2, k3⟩ := vx_keep h0 e1 hS hA hf hL hF
    obtain ⟨t2, a1, b1⟩ := kk r u t T'.heap (locs ++ L) e1.symm (by rw [← e2]; exact X'.warmed.alike) hp hb k1 k2 k3 T' rfl X'
    exact ⟨t2, st t2 a1, b1⟩
  · obtain ⟨k1, k2, k3⟩ := vx_keep h0 e1 hS hAX hf hL hF
    obtain ⟨t2, a1, b1⟩ := kx E ce q u t T'.heap (locs ++ L) e1.symm (by rw [← e2]; exact X'.warmed.alike) hp hb k1 k2 k3 (by rw [e1]; exact hce) hcv hcl T' rfl X'
    exact ⟨t2, st.trans a1, b1⟩
theorem vx_calld {S SX : Type} {post : UInt64 → S → Prop} {px : SX → Prop} {B : S → State → Prop} {BX : String → SX → State → Prop} {AX : Nat → Prop} (hr : vx_Run p l e R s m args below meth c H locs cells slots mc ms (F0 m pc ls st0) rest (va_Qd post B A1 a) (vx_X px BX AX) free) (hS : va_S A0 H0 H locs) (hA : ∀ q, q < H.size → A1 q → A0 q) (hf : ∀ q, free q → A0 q) (hAX : ∀ q, q < H.size → AX q → A0 q)
    (kx : ∀ (E : String) (ce : Cell) (q9 : Addr) (u : SX) (t : State) (H1 : Heap) (locs1 : List Loc), t.heap = H1 → s.vm.Alike t.vm → px u → BX E u t → H.size ≤ H1.size → (∀ q : Nat, q < H.size → ¬ AX q → H1[q]? = H[q]?) → va_S A0 H0 H1 locs1 → H1[q9]? = some ce → ce.vm = .none → s.vm.findClass E = some ce.cls → vx_W p l e R s m args below meth c H1 locs1 (cells + mc) (slots + ms) Q (F0 m pc ls rest) q9)
    (kk : ∀ (r : UInt64) (u : S) (t : State) (H1 : Heap) (locs1 : List Loc), t.heap = H1 → s.vm.Alike t.vm → post r u → B u t → H.size ≤ H1.size → (∀ q : Nat, q < H.size → ¬ A1 q → H1[q]? = H[q]?) → va_S A0 H0 H1 locs1 → W p l e R s m args below meth c H1 locs1 (cells + mc) (slots + ms) Q (F0 m (pc + 3) ls (.double r :: rest))) : W p l e R s m args below meth c H locs cells slots Q (F0 m pc ls st0) := by
  intro T hT X
  rcases hr T hT X with ⟨v, st₀, t, T', L, h0, X', hL, e1, e2, ⟨⟨r, u, hv, hp, hb⟩, hF⟩, st⟩ | ⟨q, st₀, t, T', L, E, ce, h0, X', hL, e1, e2, ⟨u, hp, hb, hF⟩, hce, hcv, hcl, st⟩
  · cases hv
    obtain ⟨k1, k2, k3⟩ := vx_keep h0 e1 hS hA hf hL hF
    obtain ⟨t2, a1, b1⟩ := kk r u t T'.heap (locs ++ L) e1.symm (by rw [← e2]; exact X'.warmed.alike) hp hb k1 k2 k3 T' rfl X'
    exact ⟨t2, st t2 a1, b1⟩
  · obtain ⟨k1, k2, k3⟩ := vx_keep h0 e1 hS hAX hf hL hF
    obtain ⟨t2, a1, b1⟩ := kx E ce q u t T'.heap (locs ++ L) e1.symm (by rw [← e2]; exact X'.warmed.alike) hp hb k1 k2 k3 (by rw [e1]; exact hce) hcv hcl T' rfl X'
    exact ⟨t2, st.trans a1, b1⟩
theorem vx_callv {S SX : Type} {post : S → Prop} {px : SX → Prop} {B : S → State → Prop} {BX : String → SX → State → Prop} {AX : Nat → Prop} (hr : vx_Run p l e R s m args below meth c H locs cells slots mc ms (F0 m pc ls st0) rest (va_Qv post B A1 a) (vx_X px BX AX) free) (hS : va_S A0 H0 H locs) (hA : ∀ q, q < H.size → A1 q → A0 q) (hf : ∀ q, free q → A0 q) (hAX : ∀ q, q < H.size → AX q → A0 q)
    (kx : ∀ (E : String) (ce : Cell) (q9 : Addr) (u : SX) (t : State) (H1 : Heap) (locs1 : List Loc), t.heap = H1 → s.vm.Alike t.vm → px u → BX E u t → H.size ≤ H1.size → (∀ q : Nat, q < H.size → ¬ AX q → H1[q]? = H[q]?) → va_S A0 H0 H1 locs1 → H1[q9]? = some ce → ce.vm = .none → s.vm.findClass E = some ce.cls → vx_W p l e R s m args below meth c H1 locs1 (cells + mc) (slots + ms) Q (F0 m pc ls rest) q9)
    (kk : ∀ (u : S) (t : State) (H1 : Heap) (locs1 : List Loc), t.heap = H1 → s.vm.Alike t.vm → post u → B u t → H.size ≤ H1.size → (∀ q : Nat, q < H.size → ¬ A1 q → H1[q]? = H[q]?) → va_S A0 H0 H1 locs1 → W p l e R s m args below meth c H1 locs1 (cells + mc) (slots + ms) Q (F0 m (pc + 3) ls (rest))) : W p l e R s m args below meth c H locs cells slots Q (F0 m pc ls st0) := by
  intro T hT X
  rcases hr T hT X with ⟨v, st₀, t, T', L, h0, X', hL, e1, e2, ⟨⟨u, hv, hp, hb⟩, hF⟩, st⟩ | ⟨q, st₀, t, T', L, E, ce, h0, X', hL, e1, e2, ⟨u, hp, hb, hF⟩, hce, hcv, hcl, st⟩
  · cases hv
    obtain ⟨k1, k2, k3⟩ := vx_keep h0 e1 hS hA hf hL hF
    obtain ⟨t2, a1, b1⟩ := kk u t T'.heap (locs ++ L) e1.symm (by rw [← e2]; exact X'.warmed.alike) hp hb k1 k2 k3 T' rfl X'
    exact ⟨t2, st t2 a1, b1⟩
  · obtain ⟨k1, k2, k3⟩ := vx_keep h0 e1 hS hAX hf hL hF
    obtain ⟨t2, a1, b1⟩ := kx E ce q u t T'.heap (locs ++ L) e1.symm (by rw [← e2]; exact X'.warmed.alike) hp hb k1 k2 k3 (by rw [e1]; exact hce) hcv hcl T' rfl X'
    exact ⟨t2, st.trans a1, b1⟩
/-- caught by the row x of this method's table; the rows ahead don't take it -/
theorem vx_catch {own name : String} {E : String} {ce : Cell} {q : Addr} (hown : s.vm.findClass own = some m.cls) (pre : List ExceptionTableEntry) (x : ExceptionTableEntry) (suf : List ExceptionTableEntry) (hsplit : c.exceptionTable.toList = pre ++ x :: suf)
    (hpass : ∀ z ∈ pre, covers z pc = false ∨ (z.catchType ≠ 0 ∧ ∃ nm : String, (Cond.classLink own z.catchType nm).before args s = true ∧ va_Nc E nm s)) (hx : covers x pc = true) (h0 : x.catchType ≠ 0)
    (hlink : (Cond.classLink own x.catchType name).before args s = true) (hcast : (Cond.castable E name).before args s = true) (hcell : H[q]? = some ce) (hv : ce.vm = .none) (hcl : s.vm.findClass E = some ce.cls)
    (kk : W p l e R s m args below meth c H locs cells slots Q (F0 m x.handlerPc ls [.ref q])) : vx_W p l e R s m args below meth c H locs cells slots Q (F0 m pc ls rest) q := by
  intro T hT X
  have hpl : e.platform.magicAccessors = ({} : Platform).magicAccessors := by rw [X.admits.platform]
  obtain ⟨c3, c4, hc3, hc4, hasg⟩ := Cond.castable_spec hcast
  cases Option.some.inj (hc3.symm.trans hcl)
  obtain ⟨c5, hc5, hcl5⟩ := Cond.classLink_spec hown hlink e.platform hpl
  cases Option.some.inj (hc4.symm.trans hc5)
  obtain ⟨vm', X', st⟩ := X.thenCaughtThrough q (g := F0 m pc ls rest) rfl (Steps.refl _) (by rw [hT]; exact hcell) (by rw [hv]; rfl) (by obtain ⟨k9, h9, -⟩ := Vm.findClass_spec hcl; exact ⟨k9, h9⟩) pre x suf hsplit
    (fun z hz => by
      rcases hpass z hz with h | ⟨hz0, nm, hl1, hn1⟩
      · exact Or.inl h
      · obtain ⟨c6, hc6, hcl6⟩ := Cond.classLink_spec hown hl1 e.platform hpl
        obtain ⟨a8, b8, h1, h2, h3⟩ := hn1
        cases Option.some.inj (h1.symm.trans hcl)
        cases Option.some.inj (h2.symm.trans hc6)
        exact Or.inr ⟨hz0, _, hcl6, h3⟩) hx (Or.inr ⟨h0, c4, hcl5, hasg⟩)
  obtain ⟨t, a1, b1⟩ := kk (T.setVm vm') hT X'
  exact ⟨t, st.trans a1, b1⟩
end Rows
section Ends
variable {p : Program} {l : Launch} {e : Env} {R : Room} {s : State} {m : MethodId} {args : Array Value} {below : List Frame} {meth : Method} {c : Code} {H : Heap} {locs : List Loc} {cells slots : Nat} {Q : State → Prop}
variable {mc ms : Nat} {free : Addr → Prop} {A0 A1 : Nat → Prop} {H0 : Heap} {a : Array Value} {ls : Array Slot} {st0 rest : List Value}
variable {Qc : Array Value → State → Outcome → State → Prop} {XC : String → State → State → Prop}
/-- what a body that may throw owes at its end -/
def vx_MQ (below : List Frame) (Qc : Array Value → State → Outcome → State → Prop) (XC : String → State → State → Prop) (a : Array Value) (s : State) (mc ms : Nat) (free : Addr → Prop) : State → Prop := fun t =>
  ∃ o, t.status = .running ∧ Ended t below o ∧ vx_Q Qc XC mc ms free a s o t
theorem vx_ret {g : JFrame} {mc ms : Nat} (k : W p l e R s m args below meth c H locs cells slots (MQ below Qc args s mc ms free) g) : W p l e R s m args below meth c H locs cells slots (vx_MQ below Qc XC args s mc ms free) g := by
  intro T hT X
  obtain ⟨t, a1, o, b1, b2, b3, b4⟩ := k T hT X
  exact ⟨t, a1, o, b1, b2, Or.inl ⟨b3, b4⟩⟩
/-- not caught here: it goes on to the caller -/
theorem vx_widen {g : JFrame} {q : Addr} {k n : Nat} (h1 : cells ≤ k) (h2 : slots ≤ n) (kk : vx_W p l e R s m args below meth c H locs k n Q g q) : vx_W p l e R s m args below meth c H locs cells slots Q g q := fun T hT X => kk T hT (stand_widen X h1 h2)
theorem vx_out {pc : Nat} {E : String} {ce : Cell} {q : Addr} {mc ms : Nat} (hout : ∀ x ∈ c.exceptionTable.toList, covers x pc = false) (hlocks : meth.locks = false) (hcell : H[q]? = some ce) (hv : ce.vm = .none) (hcl : s.vm.findClass E = some ce.cls)
    (hx : ∀ t : State, t.heap = H → s.vm.Alike t.vm → XC E s t) (hf : ∀ z ∈ locs, free z.base) (hc : cells ≤ mc) (hs : slots ≤ ms) :
    vx_W p l e R s m args below meth c H locs cells slots (vx_MQ below Qc XC args s mc ms free) (F0 m pc ls rest) q := by
  intro T hT X
  obtain ⟨st1, hrun, hend, hW, hsm⟩ := X.leaveThrown q (g := F0 m pc ls rest) rfl rfl rfl hout hlocks
  have hcell9 : (T.setFrames (.throwing q :: below)).heap[q]? = some ce := by
    show T.heap[q]? = some ce
    rw [hT]; exact hcell
  exact ⟨_, st1, .threw q, hrun, hend, Or.inr ⟨q, rfl, E, ce, locs, hx _ hT hW.alike, hcell9, hv, hcl, hW, hsm.mono hc hs, hf⟩⟩
theorem vx_frame {U : State} {k n : Nat} (h : s.sameButNew ({ U with vm := s.vm } : State) locs k n) : s.heap.size ≤ U.heap.size ∧ ∀ q : Nat, q < s.heap.size → (∀ z ∈ locs, z.base ≠ q) → U.heap[q]? = s.heap[q]? := by
  obtain ⟨-, h2, -, -, -, h6⟩ := h
  refine ⟨h2, fun q hq hz => ?_⟩
  obtain ⟨c9, e1, e2, e3, e4⟩ := h6 q _ (Array.getElem?_eq_getElem hq)
  have hs : c9.slots = (s.heap[q]).slots := Array.ext_getElem? fun i => e4 i fun hm => hz _ hm rfl
  have h9 : c9 = s.heap[q] := by
    rw [hs] at e2
    exact e2
  have e5 : U.heap[q]? = some c9 := e1
  rw [e5, h9, Array.getElem?_eq_getElem hq]
/-- the words of a throw but the four that speak of the heap -/
def vx_no (w : Cond) : Bool := decide (w ≠ .isRef (.static Bundle.tN "UNASSIGNED_STACK" Bundle.steD)) && decide (w ≠ .isRef (.static Bundle.tN "SUPPRESSED_SENTINEL" Bundle.listD)) && decide (w ≠ .laysStatic Bundle.tN "UNASSIGNED_STACK" Bundle.steD) && decide (w ≠ .laysStatic Bundle.tN "SUPPRESSED_SENTINEL" Bundle.listD)
def vx_at0 (own : String) (ic : Nat) (X : String) (names : List String) : List Cond := (Bundle.ownAtoms0 own ic X names).filter vx_no
def vx_atS (own : String) (ic : Nat) (X : String) (names : List String) : List Cond := (Bundle.ownAtoms own ic X names).filter vx_no
/-- a word that the tables alone decide, or a good one -/
def vx_ot (w : Cond) : Bool := w.onTables || goodWord w
theorem vx_ot_at {args a' : Array Value} {s U : State} {w : Cond} (hW : s.WarmedH U.vm) (hvm : s.vm = U.vm) (hg : vx_ot w = true) (h : w.before args s = true) : w.before a' U = true := by
  simp only [vx_ot, Bool.or_eq_true] at hg
  rcases hg with hg | hg
  · exact va_tabs hg hvm h
  · exact word_at hW (good_of_word hg) h
/-- a list's words: the good ones out of the method's own list, the others by premises of their own -/
theorem vx_hat {args : Array Value} {s : State} {L B : List Cond} (h1 : ∀ w ∈ L.filter goodWord, w.before args s = true) (h2 : ∀ w ∈ L.filter (fun w => !goodWord w), w ∈ B) (h3 : ∀ w ∈ B, w.before args s = true) : ∀ w ∈ L, w.before args s = true := by
  intro w hw
  by_cases g : goodWord w = true
  · exact h1 w (List.mem_filter.mpr ⟨hw, g⟩)
  · refine h3 w (h2 w (List.mem_filter.mpr ⟨hw, ?_⟩))
    show (!goodWord w) = true
    cases hgw : goodWord w
    · rfl
    · exact absurd hgw g
theorem vx_c {args : Array Value} {s : State} {w : Cond} {B : List Cond} (h : w.before args s = true) (t : ∀ w ∈ B, w.before args s = true) : ∀ w' ∈ w :: B, w'.before args s = true := fun w' h' => (List.mem_cons.mp h').elim (fun e => by rw [e]; exact h) (t w')
theorem vx_n {args : Array Value} {s : State} : ∀ w ∈ ([] : List Cond), w.before args s = true := fun _ h => nomatch h
theorem vx_own {args : Array Value} {s : State} {L : List Cond} (h1 : ∀ w ∈ L.filter vx_no, w.before args s = true)
    (hU : (Cond.isRef (.static Bundle.tN "UNASSIGNED_STACK" Bundle.steD)).before args s = true) (hN : (Cond.isRef (.static Bundle.tN "SUPPRESSED_SENTINEL" Bundle.listD)).before args s = true)
    (lU : (Cond.laysStatic Bundle.tN "UNASSIGNED_STACK" Bundle.steD).before args s = true) (lN : (Cond.laysStatic Bundle.tN "SUPPRESSED_SENTINEL" Bundle.listD).before args s = true) : ∀ w ∈ L, w.before args s = true := by
  intro w hw
  by_cases e1 : w = .isRef (.static Bundle.tN "UNASSIGNED_STACK" Bundle.steD)
  · rw [e1]; exact hU
  · by_cases e2 : w = .isRef (.static Bundle.tN "SUPPRESSED_SENTINEL" Bundle.listD)
    · rw [e2]; exact hN
    · by_cases e3 : w = .laysStatic Bundle.tN "UNASSIGNED_STACK" Bundle.steD
      · rw [e3]; exact lU
      · by_cases e4 : w = .laysStatic Bundle.tN "SUPPRESSED_SENTINEL" Bundle.listD
        · rw [e4]; exact lN
        · exact h1 w (List.mem_filter.mpr ⟨hw, by unfold vx_no; rw [decide_eq_true e1, decide_eq_true e2, decide_eq_true e3, decide_eq_true e4]; rfl⟩)
/-- where a static field lies, its class's statics cell in H -/
def vx_L (C n d : String) (A : Nat → Prop) (U : State) (H : Heap) : Prop := ∃ (c : ClassId) (k : Class) (i : Nat) (f : Field) (a : Nat) (cell : Cell), U.vm.findClass C = some c ∧ U.fieldFound? C n d = some (c, k, i, f) ∧ f.isStatic = true ∧ k.statics = some a ∧ H[a]? = some cell ∧ cell.vm.isStatics = true ∧ cell.cls = c ∧ f.slot < cell.slots.size ∧ k.staticTypes[f.slot]? = some f.type ∧ ¬ A a
theorem vx_L.moved {C n d : String} {A : Nat → Prop} {u U : State} {H : Heap} (hvm : u.vm.Alike U.vm) (h : vx_L C n d A u H) : vx_L C n d A U H := by
  obtain ⟨c, k, i, f, a, cell, h1, h2, h3, h4, h5, h6, h7, h8, h9, h10⟩ := h
  obtain ⟨k', hi', he⟩ := State.fieldFound?_setVm hvm h2
  exact ⟨c, k', i, f, a, cell, by rw [hvm.findClass]; exact h1, hi', h3, by rw [he]; exact h4, h5, h6, h7, h8, by rw [he]; exact h9, h10⟩
theorem vx_L.kept {C n d : String} {A : Nat → Prop} {U : State} {H H1 : Heap} (h : vx_L C n d A U H) (hq : ∀ a : Nat, a < H.size → ¬ A a → H1[a]? = H[a]?) : vx_L C n d A U H1 := by
  obtain ⟨c, k, i, f, a, cell, h1, h2, h3, h4, h5, h6, h7, h8, h9, h10⟩ := h
  exact ⟨c, k, i, f, a, cell, h1, h2, h3, h4, by rw [hq a (Array.getElem?_eq_some_iff.mp h5).1 h10]; exact h5, h6, h7, h8, h9, h10⟩
theorem vx_L.narrow {C n d : String} {A B : Nat → Prop} {U : State} {H : Heap} (h : vx_L C n d A U H) (hAB : ∀ q, B q → A q) : vx_L C n d B U H := by
  obtain ⟨c, k, i, f, a, cell, h1, h2, h3, h4, h5, h6, h7, h8, h9, h10⟩ := h
  exact ⟨c, k, i, f, a, cell, h1, h2, h3, h4, h5, h6, h7, h8, h9, fun z => h10 (hAB _ z)⟩
theorem vx_L.word {C n d : String} {A : Nat → Prop} {s : State} {args : Array Value} (h : vx_L C n d A s s.heap) : (Cond.laysStatic C n d).before args s = true := by
  obtain ⟨c, k, i, f, a, cell, h1, h2, h3, h4, h5, h6, h7, h8, h9, -⟩ := h
  show (Cond.laysStatic C n d).holds args s none s [] = true
  exact Cond.laysStatic_of h1 h2 h3 h4 h5 h6 h7 h8 h9
/-- .. and what it holds: null or some reference -/
def vx_Zq (C n d : String) (A : Nat → Prop) (U : State) (H : Heap) : Prop := va_Zq C n d A U H ∧ vx_L C n d A U H
theorem vx_Zq.moved {C n d : String} {A : Nat → Prop} {u U : State} {H : Heap} (hvm : u.vm.Alike U.vm) (h : vx_Zq C n d A u H) : vx_Zq C n d A U H := ⟨va_Zq.moved hvm h.1, vx_L.moved hvm h.2⟩
theorem vx_Zq.kept {C n d : String} {A : Nat → Prop} {U : State} {H H1 : Heap} (h : vx_Zq C n d A U H) (hq : ∀ a : Nat, a < H.size → ¬ A a → H1[a]? = H[a]?) : vx_Zq C n d A U H1 := ⟨va_Zq.kept h.1 hq, vx_L.kept h.2 hq⟩
theorem vx_Zq.narrow {C n d : String} {A B : Nat → Prop} {U : State} {H : Heap} (h : vx_Zq C n d A U H) (hAB : ∀ q, B q → A q) : vx_Zq C n d B U H := ⟨va_Zq.narrow h.1 hAB, vx_L.narrow h.2 hAB⟩
theorem vx_Zqof {args : Array Value} {s : State} {C n d : String} {A : Nat → Prop} (hl : (Cond.laysStatic C n d).before args s = true) (hini : (Cond.initialized C).before args s = true) (h : (Cond.isRef (.static C n d)).before args s = true) (hA : ∀ a : Nat, a < s.heap.size → ¬ A a) : vx_Zq C n d A s s.heap := by
  refine ⟨va_Zqof hl hini h hA, ?_⟩
  obtain ⟨c, k, i, f, a, cell, h1, h2, h3, h4, h5, h6, h7, h8, h9⟩ := Cond.laysStatic_spec hl
  exact ⟨c, k, i, f, a, cell, h1, h2, h3, h4, h5, h6, h7, h8, h9, hA a (Array.getElem?_eq_some_iff.mp h5).1⟩
theorem vx_isRef {C n d : String} {v : Value} {A : Nat → Prop} {s : State} {args : Array Value} (h : va_Z C n d v A s s.heap) (hv : v.isRef = true) : (Cond.isRef (.static C n d)).before args s = true := by
  obtain ⟨cf, kf, fi, f, a, cell, h1, h2, h3, h4, h5, h6, h7, -⟩ := h
  have he : (Term.static C n d).eval args s none [] s = some v := by
    simp [Term.eval, State.fieldNamed?, h1, h2, h4, h5, h6, h7]
  simp only [Cond.before, Cond.holds, Cond.value, he]
  cases v <;> simp_all [Value.isRef]
theorem vx_isRefq {C n d : String} {A : Nat → Prop} {s : State} {args : Array Value} (h : va_Zq C n d A s s.heap) : (Cond.isRef (.static C n d)).before args s = true := by
  rcases h with h | ⟨t, h⟩
  · exact vx_isRef h rfl
  · exact vx_isRef h rfl
/-- the same frame, seen from here: as if the method were called anew in this heap -/
theorem vx_rebase {T : State} (X : Stand p l e R s m args below meth c T locs cells slots) {R' : Room} (hf : R'.frames ≤ R.frames) (hl : R'.locals ≤ R.locals) (hc : cells + R'.cells ≤ R.cells) (hs : slots + R'.slots ≤ R.slots) :
    Stand p l e R' ((T.setVm s.vm).setFrames (.invoking m args :: below)) m args below meth c T [] 0 0 := by
  have htop : (T.setVm s.vm).topJava?.isSome := X.here.top
  have hF : ((T.setVm s.vm).setFrames (.invoking m args :: below)).frames = .invoking m args :: below := State.frames_setFrames _ (State.cur_lt_of_top htop)
  obtain ⟨g₀, hg0⟩ := Option.isSome_iff_exists.mp htop
  obtain ⟨r, hr⟩ := State.topJava?_eq_some.mp hg0
  have hl9 : e.platform.stackLimits (T.setVm s.vm).me = e.platform.stackLimits s.me := X.limits
  have hb9 : (T.setVm s.vm).me.stackBytes = s.me.stackBytes := X.bytes
  refine ⟨X.admits, X.cas, X.clock, hF, ?_, X.hears, X.method, X.code, X.here, X.tail, X.warmed, ?_, ?_, ?_⟩
  · have h := X.room
    have hU : ((T.setVm s.vm).setFrames (.invoking m args :: below)).localsInUse = s.localsInUse := by
      rw [State.localsInUse_invoking hF (meth := meth) (c := c) X.method X.code, State.localsInUse_invoking X.frames X.method X.code]
    simp only [State.hasRoom, Bool.and_eq_true, decide_eq_true_eq] at h ⊢
    obtain ⟨⟨⟨⟨h1, h2, h3, h4, h5, h6⟩, h7⟩, h8⟩, h9⟩ := h
    rw [X.frames, List.length_cons] at h2 h3
    have q1 := X.heapSize
    have q2 := X.used
    simp only [hF, hU, List.length_cons, State.stackLimits_setFrames, State.stackBytes_setFrames, hl9, hb9]
    refine ⟨⟨⟨⟨by omega, by omega, by omega, by omega, by omega, h6⟩, ?_⟩, ?_⟩, X.book⟩
    · show T.heap.size + R'.cells ≤ e.platform.maxCells
      omega
    · show T.slotsUsed + R'.slots ≤ e.platform.maxSlots
      omega
  · rw [State.stackLimits_setFrames]; rfl
  · rw [State.stackBytes_setFrames]; rfl
  · refine ⟨?_, Nat.le_refl _, Nat.le_refl _, ?_, ?_, fun a c9 h9 => ⟨c9, h9, rfl, rfl, fun _ _ => rfl⟩⟩
    · obtain ⟨t, ht, -⟩ := State.frames_cons hr
      show T.setVm s.vm = { ((T.setVm s.vm).setFrames (.invoking m args :: below)).setFrames (T.setVm s.vm).frames with heap := T.heap, slotsUsed := T.slotsUsed }
      rw [State.setFrames_setFrames, State.setFrames_self ht]
      rfl
    · show T.slotsUsed = T.slotsUsed + ((T.heap.toList.drop T.heap.size).map (·.slots.size)).sum
      rw [List.drop_eq_nil_of_le (Nat.le_of_eq Array.length_toList)]
      rfl
    · show ((T.heap.toList.drop T.heap.size).map (·.slots.size)).sum ≤ 0
      rw [List.drop_eq_nil_of_le (Nat.le_of_eq Array.length_toList)]
      exact Nat.le_refl _
/-- 'throw new E()': new; dup; invokespecial; athrow -/
theorem vx_throw0 {cc : ByteArray} {pc : Nat} (hexec : p.tables.exec = Jvm.exec) (hb : c.code = cc) (hl : l.stackTraces = false) {own cls : String} {names : List String} {ik ic mc ms : Nat} {A : Nat → Prop}
    (hown : s.vm.findClass own = some m.cls) (hcls : Bundle.fit cls = true) (hnames : ∀ n ∈ names, Bundle.fit n = true)
    (hk : (Cond.classLink own ik cls).before args s = true) (hini : (Cond.initialized cls).before args s = true) (hat : ∀ w ∈ vx_at0 own ic cls names, w.before args s = true)
    (hgood : ∀ w ∈ Cond.classLink own ik cls :: Cond.initialized cls :: vx_at0 own ic cls names, vx_ot w = true)
    (hU : vx_Zq Bundle.tN "UNASSIGNED_STACK" Bundle.steD A s s.heap) (hN : vx_Zq Bundle.tN "SUPPRESSED_SENTINEL" Bundle.listD A s s.heap) (hS : va_S A s.heap H locs) (hsize : ls.size = c.maxLocals)
    (d0 : decode cc pc = .ok (.new ik, 3)) (d3 : decode cc (pc + 3) = .ok (.dup, 1)) (d4 : decode cc (pc + 4) = .ok (.invokespecial ic, 3)) (d7 : decode cc (pc + 7) = .ok (.athrow, 1))
    (hout : ∀ x ∈ c.exceptionTable.toList, covers x (pc + 7) = false)
    (hRframes : names.length + 3 < R.frames) (hRlocals : (rest.map fun v => v.category).sum + (13 * (names.length + 1) + 42) ≤ R.locals) (hRcells : cells + 1 ≤ R.cells) (hRslots : slots + 6 ≤ R.slots) (hlocks : meth.locks = false)
    (hx : ∀ t : State, s.vm.Alike t.vm → H.size ≤ t.heap.size → (∀ q : Nat, q < H.size → t.heap[q]? = H[q]?) → XC cls s t)
    (hf : ∀ z ∈ locs, free z.base) (hc : cells + 1 ≤ mc) (hs : slots + 6 ≤ ms) :
    W p l e R s m args below meth c H locs cells slots (vx_MQ below Qc XC args s mc ms free) (F0 m pc ls rest) := by
  intro T hT X
  have htr : e.platform.stackTraces = false := (show e.platform.stackTraces = l.stackTraces by rw [X.admits.platform]).trans hl
  have Y := vx_rebase X (R' := { frames := R.frames, locals := R.locals, cells := 1, slots := 6 }) (Nat.le_refl _) (Nat.le_refl _) hRcells hRslots
  obtain ⟨s', hA⟩ : ∃ z, z = (T.setVm s.vm).setFrames (.invoking m args :: below) := ⟨_, rfl⟩
  rw [← hA] at Y
  have hvm : s'.vm = s.vm := by rw [hA]; rfl
  have hhp : s'.heap = H := by rw [hA]; exact hT
  have hW0 : s.WarmedH s'.vm := by rw [hvm]; exact State.WarmedH.refl s
  have hat' : ∀ w ∈ vx_at0 own ic cls names, w.before args s' = true := fun w hw => vx_ot_at hW0 hvm.symm (hgood w (List.mem_cons_of_mem _ (List.mem_cons_of_mem _ hw))) (hat w hw)
  have hk' : (Cond.classLink own ik cls).before args s' = true := vx_ot_at hW0 hvm.symm (hgood _ List.mem_cons_self) hk
  have hini' : (Cond.initialized cls).before args s' = true := vx_ot_at hW0 hvm.symm (hgood _ (List.mem_cons_of_mem _ List.mem_cons_self)) hini
  have hU' : vx_Zq Bundle.tN "UNASSIGNED_STACK" Bundle.steD A s' s'.heap := by rw [hhp]; exact vx_Zq.moved hW0.alike (hU.kept hS.2.1)
  have hN' : vx_Zq Bundle.tN "SUPPRESSED_SENTINEL" Bundle.listD A s' s'.heap := by rw [hhp]; exact vx_Zq.moved hW0.alike (hN.kept hS.2.1)
  have h : ∀ w ∈ Bundle.ownAtoms0 own ic cls names, w.before args s' = true := vx_own hat' (vx_isRefq hU'.1) (vx_isRefq hN'.1) hU'.2.word hN'.2.word
  have hown' : s'.vm.findClass own = some m.cls := by rw [hvm]; exact hown
  have hins : (Cond.instantiable cls 6).before args s' = true := h _ (by simp [Bundle.ownAtoms0])
  obtain ⟨vm₁, cX, kX, hfX, hkX, -, -, X₁, st1⟩ := Y.newCold hexec (own := own) (C := cls) (index := ik) (n := 6) hown' hk' hins hini'
    (g := F0 m pc ls rest) rfl (by rw [hb]; exact d0) (Nat.le_refl _) (Nat.le_refl _)
  generalize hT1 : (T.setVm vm₁).pushCell { cls := cX, slots := kX.instanceTypes.map defaultValue, vm := .none } = T1 at X₁ st1
  have hcat : (Value.ref T.heap.size).category = 1 := rfl
  have hcellA : T1.heap[T.heap.size]? = some (freshCell cX kX) := by rw [← hT1]; exact State.heap_pushCell_size _ _
  have d3' : decode c.code (pc + 3) = .ok (.dup, 1) := by rw [hb]; exact d3
  obtain ⟨U, hsteps, hrun, hend, hW, hsame, ce, hce, hO⟩ := X₁.ctorThrow0 hexec htr (own := own) (cls := cls) (names := names) (ic := ic) hown' hcls hnames h (fun x hx => nomatch hx) hfX hkX hcellA (by rw [hhp, hT]; exact Nat.le_refl _)
    (g := { method := m, pc := pc + 4, locals := ls, stack := .ref T.heap.size :: .ref T.heap.size :: rest, locked := none }) rfl hsize rfl rfl (rest := rest) rfl
    (by rw [hb]; exact d4) (by rw [hb]; exact d7) hout hRframes (by simp only [List.map_cons, List.sum_cons, hcat]; omega) hlocks
  obtain ⟨f1, f2⟩ := vx_frame hsame
  rw [hhp] at f1 f2
  have hWs : s.WarmedH U.vm := State.WarmedH.trans hW0 hW
  have hcl : s.vm.findClass cls = some ce.cls := by
    have h9 := hO.cls
    rw [hvm] at h9
    exact h9
  have hall : s.sameButNew ({ U with vm := s.vm } : State) locs mc ms := by
    subst hA
    obtain ⟨e1, e2⟩ := hsame
    rw [State.setFrames_setFrames] at e1
    have h2 : (T.setVm s.vm).sameButNew ({ U with vm := s.vm } : State) [] (0 + 1) (0 + 6) := ⟨e1, e2⟩
    have h3 := X.same.trans h2
    rw [List.append_nil] at h3
    exact h3.mono hc hs
  refine ⟨U, ?_, .threw T.heap.size, hrun, hend, Or.inr ⟨T.heap.size, rfl, cls, ce, locs, hx U hWs.alike f1 (fun q hq => f2 q hq (fun z hz => nomatch hz)), hce, hO.vm, hcl, hWs, hall, hf⟩⟩
  refine st1 _ ?_
  show Steps p.tables e below (T1.setTop { method := m, pc := pc + 3, locals := ls, stack := .ref T.heap.size :: rest, locked := none }) _
  jvm_step X₁.here [X₁.here.top, hexec, d3', Value.category]
  exact hsteps
/-- 'throw new E("text")': new; dup; ldc; invokespecial; athrow -/
theorem vx_throwS {cc : ByteArray} {pc : Nat} (hexec : p.tables.exec = Jvm.exec) (hb : c.code = cc) (hl : l.stackTraces = false) {own cls text : String} {names : List String} {ik is ic mc ms sa : Nat} {A : Nat → Prop}
    (hown : s.vm.findClass own = some m.cls) (hcls : Bundle.fit cls = true) (hnames : ∀ n ∈ names, Bundle.fit n = true)
    (hk : (Cond.classLink own ik cls).before args s = true) (hini : (Cond.initialized cls).before args s = true) (hstr : vk_R own is text sa s) (hat : ∀ w ∈ vx_atS own ic cls names, w.before args s = true)
    (hgood : ∀ w ∈ Cond.classLink own ik cls :: Cond.initialized cls :: vx_atS own ic cls names, vx_ot w = true)
    (hU : vx_Zq Bundle.tN "UNASSIGNED_STACK" Bundle.steD A s s.heap) (hN : vx_Zq Bundle.tN "SUPPRESSED_SENTINEL" Bundle.listD A s s.heap) (hS : va_S A s.heap H locs) (hsize : ls.size = c.maxLocals)
    (d0 : decode cc pc = .ok (.new ik, 3)) (d3 : decode cc (pc + 3) = .ok (.dup, 1)) (d4 : decode cc (pc + 4) = .ok (.ldc is, 2)) (d6 : decode cc (pc + 6) = .ok (.invokespecial ic, 3)) (d9 : decode cc (pc + 9) = .ok (.athrow, 1))
    (hout : ∀ x ∈ c.exceptionTable.toList, covers x (pc + 9) = false)
    (hRframes : names.length + 3 < R.frames) (hRlocals : (rest.map fun v => v.category).sum + (13 * (names.length + 1) + 43) ≤ R.locals) (hRcells : cells + 1 ≤ R.cells) (hRslots : slots + 6 ≤ R.slots) (hlocks : meth.locks = false)
    (hx : ∀ t : State, s.vm.Alike t.vm → H.size ≤ t.heap.size → (∀ q : Nat, q < H.size → t.heap[q]? = H[q]?) → XC cls s t)
    (hf : ∀ z ∈ locs, free z.base) (hc : cells + 1 ≤ mc) (hs : slots + 6 ≤ ms) :
    W p l e R s m args below meth c H locs cells slots (vx_MQ below Qc XC args s mc ms free) (F0 m pc ls rest) := by
  intro T hT X
  have htr : e.platform.stackTraces = false := (show e.platform.stackTraces = l.stackTraces by rw [X.admits.platform]).trans hl
  have Y := vx_rebase X (R' := { frames := R.frames, locals := R.locals, cells := 1, slots := 6 }) (Nat.le_refl _) (Nat.le_refl _) hRcells hRslots
  obtain ⟨s', hA⟩ : ∃ z, z = (T.setVm s.vm).setFrames (.invoking m args :: below) := ⟨_, rfl⟩
  rw [← hA] at Y
  have hvm : s'.vm = s.vm := by rw [hA]; rfl
  have hhp : s'.heap = H := by rw [hA]; exact hT
  have hW0 : s.WarmedH s'.vm := by rw [hvm]; exact State.WarmedH.refl s
  have hat' : ∀ w ∈ vx_atS own ic cls names, w.before args s' = true := fun w hw => vx_ot_at hW0 hvm.symm (hgood w (List.mem_cons_of_mem _ (List.mem_cons_of_mem _ hw))) (hat w hw)
  have hk' : (Cond.classLink own ik cls).before args s' = true := vx_ot_at hW0 hvm.symm (hgood _ List.mem_cons_self) hk
  have hini' : (Cond.initialized cls).before args s' = true := vx_ot_at hW0 hvm.symm (hgood _ (List.mem_cons_of_mem _ List.mem_cons_self)) hini
  have hU' : vx_Zq Bundle.tN "UNASSIGNED_STACK" Bundle.steD A s' s'.heap := by rw [hhp]; exact vx_Zq.moved hW0.alike (hU.kept hS.2.1)
  have hN' : vx_Zq Bundle.tN "SUPPRESSED_SENTINEL" Bundle.listD A s' s'.heap := by rw [hhp]; exact vx_Zq.moved hW0.alike (hN.kept hS.2.1)
  have h : ∀ w ∈ Bundle.ownAtoms own ic cls names, w.before args s' = true := vx_own hat' (vx_isRefq hU'.1) (vx_isRefq hN'.1) hU'.2.word hN'.2.word
  have hown' : s'.vm.findClass own = some m.cls := by rw [hvm]; exact hown
  have hins : (Cond.instantiable cls 6).before args s' = true := h _ (by simp [Bundle.ownAtoms])
  obtain ⟨vm₁, cX, kX, hfX, hkX, -, -, X₁, st1⟩ := Y.newCold hexec (own := own) (C := cls) (index := ik) (n := 6) hown' hk' hins hini'
    (g := F0 m pc ls rest) rfl (by rw [hb]; exact d0) (Nat.le_refl _) (Nat.le_refl _)
  generalize hT1 : (T.setVm vm₁).pushCell { cls := cX, slots := kX.instanceTypes.map defaultValue, vm := .none } = T1 at X₁ st1
  have hcat : (Value.ref T.heap.size).category = 1 := rfl
  have hcellA : T1.heap[T.heap.size]? = some (freshCell cX kX) := by rw [← hT1]; exact State.heap_pushCell_size _ _
  have d3' : decode c.code (pc + 3) = .ok (.dup, 1) := by rw [hb]; exact d3
  have d4' : decode c.code (pc + 4) = .ok (.ldc is, 2) := by rw [hb]; exact d4
  have hstr' : vk_R own is text sa s' := vk_R.warm hW0 hstr
  obtain ⟨U, hsteps, hrun, hend, hW, hsame, ce, hce, hO⟩ := X₁.ctorThrowS hexec htr (own := own) (cls := cls) (names := names) (ic := ic) hown' hcls hnames h (fun x hx => nomatch hx) hfX hkX hcellA (by rw [hhp, hT]; exact Nat.le_refl _) (msg := .ref sa) rfl
    (g := { method := m, pc := pc + 6, locals := ls, stack := .ref sa :: .ref T.heap.size :: .ref T.heap.size :: rest, locked := none }) rfl hsize rfl rfl (rest := rest) rfl
    (by rw [hb]; exact d6) (by rw [hb]; exact d9) hout hRframes (by simp only [List.map_cons, List.sum_cons, hcat]; omega) hlocks
  obtain ⟨f1, f2⟩ := vx_frame hsame
  rw [hhp] at f1 f2
  have hWs : s.WarmedH U.vm := State.WarmedH.trans hW0 hW
  have hcl : s.vm.findClass cls = some ce.cls := by
    have h9 := hO.cls
    rw [hvm] at h9
    exact h9
  have hall : s.sameButNew ({ U with vm := s.vm } : State) locs mc ms := by
    subst hA
    obtain ⟨e1, e2⟩ := hsame
    rw [State.setFrames_setFrames] at e1
    have h2 : (T.setVm s.vm).sameButNew ({ U with vm := s.vm } : State) [] (0 + 1) (0 + 6) := ⟨e1, e2⟩
    have h3 := X.same.trans h2
    rw [List.append_nil] at h3
    exact h3.mono hc hs
  refine ⟨U, ?_, .threw T.heap.size, hrun, hend, Or.inr ⟨T.heap.size, rfl, cls, ce, locs, hx U hWs.alike f1 (fun q hq => f2 q hq (fun z hz => nomatch hz)), hce, hO.vm, hcl, hWs, hall, hf⟩⟩
  refine st1 _ ?_
  show Steps p.tables e below (T1.setTop { method := m, pc := pc + 3, locals := ls, stack := .ref T.heap.size :: rest, locked := none }) _
  jvm_step X₁.here [X₁.here.top, hexec, d3', Value.category]
  exact X₁.ldcString hexec (own := own) (text := text) (index := is) (a := sa) hown' hstr'.1 hstr'.2
    (g := { method := m, pc := pc + 4, locals := ls, stack := .ref T.heap.size :: .ref T.heap.size :: rest, locked := none }) rfl d4' _ hsteps
/-- 'throw new E("text")', the text by a wide index -/
theorem vx_throwSW {cc : ByteArray} {pc : Nat} (hexec : p.tables.exec = Jvm.exec) (hb : c.code = cc) (hl : l.stackTraces = false) {own cls text : String} {names : List String} {ik is ic mc ms sa : Nat} {A : Nat → Prop}
    (hown : s.vm.findClass own = some m.cls) (hcls : Bundle.fit cls = true) (hnames : ∀ n ∈ names, Bundle.fit n = true)
    (hk : (Cond.classLink own ik cls).before args s = true) (hini : (Cond.initialized cls).before args s = true) (hstr : vk_R own is text sa s) (hat : ∀ w ∈ vx_atS own ic cls names, w.before args s = true)
    (hgood : ∀ w ∈ Cond.classLink own ik cls :: Cond.initialized cls :: vx_atS own ic cls names, vx_ot w = true)
    (hU : vx_Zq Bundle.tN "UNASSIGNED_STACK" Bundle.steD A s s.heap) (hN : vx_Zq Bundle.tN "SUPPRESSED_SENTINEL" Bundle.listD A s s.heap) (hS : va_S A s.heap H locs) (hsize : ls.size = c.maxLocals)
    (d0 : decode cc pc = .ok (.new ik, 3)) (d3 : decode cc (pc + 3) = .ok (.dup, 1)) (d4 : decode cc (pc + 4) = .ok (.ldc_w is, 3)) (d7 : decode cc (pc + 7) = .ok (.invokespecial ic, 3)) (d10 : decode cc (pc + 10) = .ok (.athrow, 1))
    (hout : ∀ x ∈ c.exceptionTable.toList, covers x (pc + 10) = false)
    (hRframes : names.length + 3 < R.frames) (hRlocals : (rest.map fun v => v.category).sum + (13 * (names.length + 1) + 43) ≤ R.locals) (hRcells : cells + 1 ≤ R.cells) (hRslots : slots + 6 ≤ R.slots) (hlocks : meth.locks = false)
    (hx : ∀ t : State, s.vm.Alike t.vm → H.size ≤ t.heap.size → (∀ q : Nat, q < H.size → t.heap[q]? = H[q]?) → XC cls s t)
    (hf : ∀ z ∈ locs, free z.base) (hc : cells + 1 ≤ mc) (hs : slots + 6 ≤ ms) :
    W p l e R s m args below meth c H locs cells slots (vx_MQ below Qc XC args s mc ms free) (F0 m pc ls rest) := by
  intro T hT X
  have htr : e.platform.stackTraces = false := (show e.platform.stackTraces = l.stackTraces by rw [X.admits.platform]).trans hl
  have Y := vx_rebase X (R' := { frames := R.frames, locals := R.locals, cells := 1, slots := 6 }) (Nat.le_refl _) (Nat.le_refl _) hRcells hRslots
  obtain ⟨s', hA⟩ : ∃ z, z = (T.setVm s.vm).setFrames (.invoking m args :: below) := ⟨_, rfl⟩
  rw [← hA] at Y
  have hvm : s'.vm = s.vm := by rw [hA]; rfl
  have hhp : s'.heap = H := by rw [hA]; exact hT
  have hW0 : s.WarmedH s'.vm := by rw [hvm]; exact State.WarmedH.refl s
  have hat' : ∀ w ∈ vx_atS own ic cls names, w.before args s' = true := fun w hw => vx_ot_at hW0 hvm.symm (hgood w (List.mem_cons_of_mem _ (List.mem_cons_of_mem _ hw))) (hat w hw)
  have hk' : (Cond.classLink own ik cls).before args s' = true := vx_ot_at hW0 hvm.symm (hgood _ List.mem_cons_self) hk
  have hini' : (Cond.initialized cls).before args s' = true := vx_ot_at hW0 hvm.symm (hgood _ (List.mem_cons_of_mem _ List.mem_cons_self)) hini
  have hU' : vx_Zq Bundle.tN "UNASSIGNED_STACK" Bundle.steD A s' s'.heap := by rw [hhp]; exact vx_Zq.moved hW0.alike (hU.kept hS.2.1)
  have hN' : vx_Zq Bundle.tN "SUPPRESSED_SENTINEL" Bundle.listD A s' s'.heap := by rw [hhp]; exact vx_Zq.moved hW0.alike (hN.kept hS.2.1)
  have h : ∀ w ∈ Bundle.ownAtoms own ic cls names, w.before args s' = true := vx_own hat' (vx_isRefq hU'.1) (vx_isRefq hN'.1) hU'.2.word hN'.2.word
  have hown' : s'.vm.findClass own = some m.cls := by rw [hvm]; exact hown
  have hins : (Cond.instantiable cls 6).before args s' = true := h _ (by simp [Bundle.ownAtoms])
  obtain ⟨vm₁, cX, kX, hfX, hkX, -, -, X₁, st1⟩ := Y.newCold hexec (own := own) (C := cls) (index := ik) (n := 6) hown' hk' hins hini'
    (g := F0 m pc ls rest) rfl (by rw [hb]; exact d0) (Nat.le_refl _) (Nat.le_refl _)
  generalize hT1 : (T.setVm vm₁).pushCell { cls := cX, slots := kX.instanceTypes.map defaultValue, vm := .none } = T1 at X₁ st1
  have hcat : (Value.ref T.heap.size).category = 1 := rfl
  have hcellA : T1.heap[T.heap.size]? = some (freshCell cX kX) := by rw [← hT1]; exact State.heap_pushCell_size _ _
  have d3' : decode c.code (pc + 3) = .ok (.dup, 1) := by rw [hb]; exact d3
  have d4' : decode c.code (pc + 4) = .ok (.ldc_w is, 3) := by rw [hb]; exact d4
  have hstr' : vk_R own is text sa s' := vk_R.warm hW0 hstr
  obtain ⟨U, hsteps, hrun, hend, hW, hsame, ce, hce, hO⟩ := X₁.ctorThrowS hexec htr (own := own) (cls := cls) (names := names) (ic := ic) hown' hcls hnames h (fun x hx => nomatch hx) hfX hkX hcellA (by rw [hhp, hT]; exact Nat.le_refl _) (msg := .ref sa) rfl
    (g := { method := m, pc := pc + 7, locals := ls, stack := .ref sa :: .ref T.heap.size :: .ref T.heap.size :: rest, locked := none }) rfl hsize rfl rfl (rest := rest) rfl
    (by rw [hb]; exact d7) (by rw [hb]; exact d10) hout hRframes (by simp only [List.map_cons, List.sum_cons, hcat]; omega) hlocks
  obtain ⟨f1, f2⟩ := vx_frame hsame
  rw [hhp] at f1 f2
  have hWs : s.WarmedH U.vm := State.WarmedH.trans hW0 hW
  have hcl : s.vm.findClass cls = some ce.cls := by
    have h9 := hO.cls
    rw [hvm] at h9
    exact h9
  have hall : s.sameButNew ({ U with vm := s.vm } : State) locs mc ms := by
    subst hA
    obtain ⟨e1, e2⟩ := hsame
    rw [State.setFrames_setFrames] at e1
    have h2 : (T.setVm s.vm).sameButNew ({ U with vm := s.vm } : State) [] (0 + 1) (0 + 6) := ⟨e1, e2⟩
    have h3 := X.same.trans h2
    rw [List.append_nil] at h3
    exact h3.mono hc hs
  refine ⟨U, ?_, .threw T.heap.size, hrun, hend, Or.inr ⟨T.heap.size, rfl, cls, ce, locs, hx U hWs.alike f1 (fun q hq => f2 q hq (fun z hz => nomatch hz)), hce, hO.vm, hcl, hWs, hall, hf⟩⟩
  refine st1 _ ?_
  show Steps p.tables e below (T1.setTop { method := m, pc := pc + 3, locals := ls, stack := .ref T.heap.size :: rest, locked := none }) _
  jvm_step X₁.here [X₁.here.top, hexec, d3', Value.category]
  exact X₁.ldcStringW hexec (own := own) (text := text) (index := is) (a := sa) hown' hstr'.1 hstr'.2
    (g := { method := m, pc := pc + 4, locals := ls, stack := .ref T.heap.size :: .ref T.heap.size :: rest, locked := none }) rfl d4' _ hsteps
end Ends
section Bodies
variable {l : Launch}
theorem vx_ofW {y : MethodName} {ws ws' : List Cond} {rm : Room} {Pc : Array Value → State → Prop} {Qc : Array Value → State → Outcome → State → Prop} {XC : String → State → State → Prop} {mc ms : Nat} {free : Addr → Prop} {cc : ByteArray} {maxL : Nat} {ret : Option FieldType}
    (hy : plainName y.cls = true) (hw : ws = Cond.code y cc maxL ret :: ws')
    (body : ∀ p e s m args below meth c s₁, BodyLoose p l y (headSpec ws rm) cc maxL ret e s m args below meth c s₁ → c.maxLocals = maxL → (∀ x ∈ c.exceptionTable.toList, False) → Pc args s →
      W p l e (headSpec ws rm).room s m args below meth c s.heap [] 0 0 (vx_MQ below Qc XC args s mc ms free) (entryFrame m args maxL)) : vx_Met l y ws rm Pc Qc XC mc ms free := by
  refine MetFree.of_bodyS (code := cc) (maxLocals := maxL) (ret := ret) hy ?_ ?_
  · intro args s m h hn
    obtain ⟨meth, c, h1, h2, h3, h4, h5, h6, -, -⟩ := Cond.code_spec hn (atoms_spec (ws := ws) h _ (by rw [hw]; exact List.mem_cons_self))
    exact ⟨meth, c, h1, h2, h3, h4, h5, h6⟩
  · intro p e s m args below meth c s₁ B hml hP _
    have hh0 : s₁.heap = s.heap := by rw [B.state]; rfl
    have ht : ∀ x ∈ c.exceptionTable.toList, False := by
      obtain ⟨meth9, c9, h1, h2, -, -, -, -, h7, -⟩ := Cond.code_spec B.named (atoms_spec (ws := ws) B.pre _ (by rw [hw]; exact List.mem_cons_self))
      cases Option.some.inj (h1.symm.trans B.method)
      cases Option.some.inj (h2.symm.trans (Stand.of_body B).code)
      intro x hx
      rw [Array.isEmpty_iff.mp h7] at hx
      cases hx
    obtain ⟨t, a1, o, b1, b2, b3⟩ := body p e s m args below meth c s₁ B hml ht hP s₁ hh0 (Stand.of_body B)
    exact ⟨t, o, a1, b1, b2, b3⟩
/-- the table of a body with handlers -/
theorem vx_table {p : Program} {x y : MethodName} {S : Spec} {cc bytes : ByteArray} {maxL maxL' : Nat} {ret ret' : Option FieldType} {e : Env} {s s₁ : State} {m : MethodId} {args : Array Value} {below : List Frame} {meth : Method} {c : Code} {hh : List (Nat × Nat × Nat × Nat)}
    (B : BodyLoose p l y S cc maxL ret e s m args below meth c s₁) (h : (Cond.codeWith y bytes maxL' ret' hh).before args s = true) : c.exceptionTable.toList = tableOf hh := by
  obtain ⟨m9, meth9, c9, hn9, h1, h2, -, -, h6, -⟩ := Cond.codeWith_spec h
  cases Option.some.inj (hn9.symm.trans B.named)
  cases Option.some.inj (h1.symm.trans B.method)
  cases Option.some.inj (h2.symm.trans (Stand.of_body B).code)
  rw [← h6, table_eq]
end Bodies
end VXA
/-! ===== END ===== -/
/-! ===== BEGIN a static call of a method with an exception table ===== -/
section VXS
variable {p : Program} {l : Launch} {e : Env} {R : Room} {s : State} {m : MethodId} {args : Array Value} {below : List Frame} {meth : Method} {c : Code} {T : State} {H : Heap} {locs : List Loc} {cells slots : Nat}
abbrev vx_CSW (R : Room) (s : State) (args : Array Value) (own : String) (index : Nat) (y : MethodName) (bytes : ByteArray) (maxL : Nat) (ret : Option FieldType) (hh : List (Nat × Nat × Nat × Nat)) (ws : List Cond) (rm : Room) (mc ms n : Nat) : Prop :=
  (rm.cells = mc ∧ rm.slots = ms ∧ rm.frames + 1 ≤ R.frames ∧ 8 + (maxL + 11) + rm.locals ≤ R.locals ∧ (∀ w ∈ ws, ∀ (a' : Array Value) (U : State), s.WarmedH U.vm → w.before a' U = true) ∧ Cond.codeWith y bytes maxL ret hh ∈ ws) ∧
  (Cond.codeWith y bytes maxL ret hh).before args s = true ∧ (Cond.initialized y.cls).before args s = true ∧ (y.cls ≠ "java/lang/invoke/MethodHandle" ∧ y.cls ≠ "java/lang/invoke/VarHandle") ∧
  (∀ sig, parseMethodDescriptor y.desc = some sig → n = sig.parameters.length) ∧ (Cond.methodLink own index y).before args s = true ∧ (Cond.static y).before args s = true
theorem vx_cwSW {own : String} {index maxL mc ms : Nat} {y : MethodName} {bytes : ByteArray} {ret : Option FieldType} {hh : List (Nat × Nat × Nat × Nat)} {Ts ws ws' : List Cond} {rm : Room} (n : Nat) (ht : ∀ w ∈ Ts, w.before args s = true) (hT : GoodIn Ts (va_wsS own index y ws)) (hw : ws = Cond.codeWith y bytes maxL ret hh :: ws') (hrc : rm.cells = mc) (hrs : rm.slots = ms)
    (hd : y.cls ≠ "java/lang/invoke/MethodHandle" ∧ y.cls ≠ "java/lang/invoke/VarHandle" ∧ (parseMethodDescriptor y.desc).map (fun d => d.parameters.length) = some n) (hR : rm.frames + 1 ≤ R.frames ∧ 8 + (maxL + 11) + rm.locals ≤ R.locals) :
    vx_CSW R s args own index y bytes maxL ret hh ws rm mc ms n := by
  have ok : ∀ w ∈ va_wsS own index y ws, w.before args s = true := fun w h => ht w (hT w h).1
  have hG : GoodIn Ts ws := fun w h => hT w (by unfold va_wsS; exact List.mem_append_right _ h)
  have hc : Cond.codeWith y bytes maxL ret hh ∈ ws := by rw [hw]; exact List.mem_cons_self
  refine ⟨⟨hrc, hrs, hR.1, hR.2, pay_in ht hG, hc⟩, ht _ (hG _ hc).1, ok _ (by simp [va_wsS]), ⟨hd.1, hd.2.1⟩, fun sig h => ?_, ok _ (by simp [va_wsS]), ok _ (by simp [va_wsS])⟩
  have h2 := hd.2.2
  rw [h] at h2
  exact (Option.some.inj h2).symm
theorem vx_callSW (X : Stand p l e R s m args below meth c T locs cells slots) (hexec : p.tables.exec = Jvm.exec) {own : String} {index : Nat} {y : MethodName} {bytes : ByteArray} {maxL : Nat} {ret : Option FieldType} {hh : List (Nat × Nat × Nat × Nat)}
    (hown : s.vm.findClass own = some m.cls) (hlink : (Cond.methodLink own index y).before args s = true) (hstat : (Cond.static y).before args s = true) (hinit : (Cond.initialized y.cls).before args s = true)
    (hcode : (Cond.codeWith y bytes maxL ret hh).before args s = true) (hy : y.cls ≠ "java/lang/invoke/MethodHandle" ∧ y.cls ≠ "java/lang/invoke/VarHandle")
    {W9 : Nat} {Pre : Pt → Array Value → Prop} {Post : Pt → Array Value → Option Value → Pt → Prop} (hK : Back l R p e below s args y 3 W9 Pre Post)
    {g : JFrame} (hg : g.method = m) (hsize : g.locals.size = c.maxLocals) {argsL rest : List Value} (hlen : ∀ sig, parseMethodDescriptor y.desc = some sig → argsL.length = sig.parameters.length)
    (hstack : g.stack = argsL.reverse ++ rest) (hW : 2 * g.monitorRoom + (rest.map fun v => v.category).sum ≤ W9) (hdg : decode c.code g.pc = .ok (.invokestatic index, 3))
    (hpre : ∀ vm₁, s.WarmedH vm₁ → Pre ⟨T.setVm vm₁, locs, cells, slots⟩ argsL.toArray) :
    ∃ (v : Option Value) (vm₁ : Vm) (B : Pt), s.WarmedH vm₁ ∧ Stand p l e R s m args below meth c B.U B.locs B.cells B.slots ∧ Post ⟨T.setVm vm₁, locs, cells, slots⟩ argsL.toArray v B ∧
      ∀ target, Steps p.tables e below (B.U.setTop { g with pc := g.pc + 3, stack := v.toList ++ rest }) target → Steps p.tables e below (T.setTop g) target := by
  obtain ⟨mk, methM, cM, hnamed, hmethM, -, -, -, -, -, -, hsigM⟩ := Cond.codeWith_spec hcode
  have hstatic : methM.isStatic = true := Cond.static_spec hnamed hmethM hstat
  obtain ⟨kP, hkP, -⟩ := className_of_methodNamed hnamed
  have hinitP : kP.init = .initialized := Cond.initialized_spec (findClass_of_methodNamed hnamed) hkP hinit
  obtain ⟨vm₁, X₁, hstep₁⟩ := X.invokestatic hexec hown hlink hnamed hmethM hstatic hkP hinitP hy (g := g) hg (argsL := argsL) (rest := rest) (hlen _ hsigM) hstack hdg
  obtain ⟨v, B, X', hpost, hsteps⟩ := hK m meth c ⟨T.setVm vm₁, locs, cells, slots⟩ { g with stack := rest } (.invokestatic index) mk argsL.toArray X₁ hg hsize hdg hW (X₁.named hnamed) (hpre vm₁ X₁.warmed)
  exact ⟨v, vm₁, B, X₁.warmed, X', hpost, fun target h => hstep₁ _ fun acts => by rw [doInvoke_state]; exact hsteps.trans h⟩
theorem vx_runSW {y : MethodName} {bytes cc : ByteArray} {maxL nL mc ms n index : Nat} {ret : Option FieldType} {hh : List (Nat × Nat × Nat × Nat)} {ws : List Cond} {rm : Room} {Pc : Array Value → State → Prop} {Qc : Array Value → State → Outcome → State → Prop} {free : Addr → Prop} {Ts : List Cond} {own : String} {As rest : List Value} {g : JFrame}
    (S : CallFix p m c cc nL s args Ts own) (hM : Met l y ws rm Pc Qc mc ms free) (cw : vx_CSW R s args own index y bytes maxL ret hh ws rm mc ms n) (hp : PreS s H Pc As)
    (hg : g.method = m) (hn : As.length = n) (hsize : g.locals.size = nL) (hstack : g.stack = As.reverse ++ rest) (hW : 2 * g.monitorRoom + (rest.map fun v => v.category).sum ≤ 8) (hdg : decode cc g.pc = .ok (.invokestatic index, 3)) (hf : cells + mc ≤ R.cells ∧ slots + ms ≤ R.slots) :
    va_Run p l e R s m args below meth c H locs cells slots mc ms g rest (Qc As.toArray) (free) := by
  obtain ⟨⟨hrc, hrs, hfr, hlo, hws, hcw⟩, hcode, hini, hy, hlen, hl, hstt⟩ := cw
  have hK : Back l R p e below s args y 3 8 (PreOf R mc ms Pc) (PostOf Qc mc ms free) := va_backW (hh := hh) (bytes := bytes) (maxL := maxL) (ret := ret) hM hp.1 hrc hrs hfr hlo hws hcw (fun a' U hW => word_at hW (Or.inl (by first | rfl | simp [Cond.onTables, Cond.keeps, Cond.steady])) hini)
  obtain ⟨hx, hb, hml, ho, -⟩ := S
  intro T hT X
  obtain ⟨v, vm₁, ⟨U', l2, c2, s2⟩, hW₁, X', ⟨g', mk, t, L, e1, e2, hq, h1, hL, h2, h3⟩, st⟩ := vx_callSW X hx (hh := hh) (bytes := bytes) (maxL := maxL) (ret := ret) ho hl hstt hini hcode hy hK hg (hsize.trans hml.symm) (argsL := As) (rest := rest) (fun sig h => hn.trans (hlen sig h)) hstack hW (by rw [hb]; exact hdg)
    (fun vm₁ hW₁ => ⟨hf.1, hf.2, hp.2 (T.setVm vm₁) hT hW₁⟩)
  dsimp only [Pt.U, Pt.locs, Pt.cells, Pt.slots] at X' e1 e2 h1 h2 h3 st
  subst h1; subst h2; subst h3
  exact ⟨v, (T.setVm vm₁).calling g' mk As.toArray, t, U', L, hT, X', hL, e1, e2, hq, st⟩
/-- not caught here, past rows that name other classes: it goes on to the caller -/
theorem vx_outP {p : Program} {l : Launch} {e : Env} {R : Room} {s : State} {m : MethodId} {args : Array Value} {below : List Frame} {meth : Method} {c : Code} {H : Heap} {locs : List Loc} {cells slots : Nat} {free : Addr → Prop} {ls : Array Slot} {rest : List Value} {Qc : Array Value → State → Outcome → State → Prop} {XC : String → State → State → Prop}
    {pc : Nat} {own E : String} {ce : Cell} {q : Addr} {mc ms : Nat} (hown : s.vm.findClass own = some m.cls) (hlocks : meth.locks = false)
    (hpass : ∀ z ∈ c.exceptionTable.toList, covers z pc = false ∨ (z.catchType ≠ 0 ∧ ∃ nm : String, (Cond.classLink own z.catchType nm).before args s = true ∧ va_Nc E nm s)) (hcell : H[q]? = some ce) (hv : ce.vm = .none) (hcl : s.vm.findClass E = some ce.cls)
    (hx : ∀ t : State, t.heap = H → s.vm.Alike t.vm → XC E s t) (hf : ∀ z ∈ locs, free z.base) (hc : cells ≤ mc) (hs : slots ≤ ms) :
    vx_W p l e R s m args below meth c H locs cells slots (vx_MQ below Qc XC args s mc ms free) (F0 m pc ls rest) q := by
  intro T hT X
  have hpl : e.platform.magicAccessors = ({} : Platform).magicAccessors := by rw [X.admits.platform]
  obtain ⟨vm', hW', X', st⟩ := X.outThrough hlocks q (g := F0 m pc ls rest) rfl rfl rfl (cell := ce) (by rw [hT]; exact hcell) (by rw [hv]; rfl)
    (by obtain ⟨k9, h9, -⟩ := Vm.findClass_spec hcl; exact ⟨k9, h9⟩) (fun z hz => by
      rcases hpass z hz with h | ⟨hz0, nm, hl1, hn1⟩
      · exact Or.inl h
      · obtain ⟨c6, hc6, hcl6⟩ := Cond.classLink_spec hown hl1 e.platform hpl
        obtain ⟨a8, b8, h1, h2, h3⟩ := hn1
        cases Option.some.inj (h1.symm.trans hcl)
        cases Option.some.inj (h2.symm.trans hc6)
        exact Or.inr ⟨hz0, _, hcl6, h3⟩)
  obtain ⟨g₀, hfr⟩ := X'.frames_eq
  have hcell9 : ((T.setVm vm').setFrames (.throwing q :: below)).heap[q]? = some ce := by
    show T.heap[q]? = some ce
    rw [hT]; exact hcell
  have hend : Ended ((T.setVm vm').setFrames (.throwing q :: below)) below (.threw q) := State.frames_setFrames _ (State.cur_lt_of_frames hfr)
  refine ⟨(T.setVm vm').setFrames (.throwing q :: below), ?_, .threw q, X'.here.running, hend, Or.inr ⟨q, rfl, E, ce, locs, hx _ hT (X'.ends _).1.alike, hcell9, hv, hcl, (X'.ends _).1, (X'.ends _).2.mono hc hs, hf⟩⟩
  rw [X.pushThrowing_eq]
  exact st
/-- a thing of a world lies in the heap -/
theorem vx_lt {D : va_G} {cl : List vw_C} {ws : va_W} {H1 : Heap} (h : va_P D cl ws H1) {k : Nat} {q : Nat × va_E} (hk : ws[k]? = some q) : q.1 < H1.size := (h k q hk).lt
end VXS
/-! ===== END ===== -/
/-! ===== BEGIN methods with a table of their own: called by a name, returning or throwing ===== -/
section VXH
/-! vx_backW, vx_callVX, vx_callSX, vx_callVW, vx_runVW, vx_runVX, vx_runSX, vx_ofWH follow the same proofs as their sisters above (Free/Laws.lean, Shelf42/LK1.lean); vx_outP calls Shelf42/NT130.lean (outThrough). -/
section
variable {l : Launch} {R : Room} {p : Program} {e : Env} {below : List Frame} {s : State} {sargs : Array Value} {y : MethodName} {len W9 : Nat}
theorem vx_backW {ws : List Cond} {rm : Room} {Pc : Array Value → State → Prop} {Qc : Array Value → State → Outcome → State → Prop} {XC : String → State → State → Prop} {mc ms : Nat} {free : Addr → Prop} {bytes : ByteArray} {maxL : Nat} {ret : Option FieldType} {hh : List (Nat × Nat × Nat × Nat)}
    (hM : vx_Met l y ws rm Pc Qc XC mc ms free) (hblind : FrameBlind Pc) (hrc : rm.cells = mc) (hrs : rm.slots = ms)
    (hframes : rm.frames + 1 ≤ R.frames) (hlocals : W9 + (maxL + 11) + rm.locals ≤ R.locals)
    (hws : ∀ w ∈ ws, ∀ a' U, s.WarmedH U.vm → w.before a' U = true) (hcode : Cond.codeWith y bytes maxL ret hh ∈ ws) (hinit : ∀ a' U, s.WarmedH U.vm → (Cond.initialized y.cls).before a' U = true) :
    vx_Back l R p e below s sargs y len W9 (PreOf R mc ms Pc) (PostOf Qc mc ms free) (vx_Post XC mc ms free) := by
  intro m meth c A g ig mk a X hg hsize hdg hW hn hp
  have h1 : (headSpec ws rm).pre.before a A.U = true := atoms_intro fun w hw => hws w hw _ _ X.warmed
  have h2 : (Cond.codeWith y bytes maxL ret hh).before a A.U = true := hws _ hcode _ _ X.warmed
  have h3 : (Cond.initialized y.cls).before a A.U = true := hinit _ _ X.warmed
  have h4 : A.cells + (headSpec ws rm).room.cells ≤ R.cells := by rw [show (headSpec ws rm).room.cells = mc from hrc]; exact hp.1
  have h5 : A.slots + (headSpec ws rm).room.slots ≤ R.slots := by rw [show (headSpec ws rm).room.slots = ms from hrs]; exact hp.2.1
  have hPc : Pc a (A.U.calling g mk a) := hblind _ _ _ _ hp.2.2
  obtain ⟨U, Ls, c0, s0⟩ := A
  dsimp only [Pt.U, Pt.locs, Pt.cells, Pt.slots] at h1 h2 h3 h4 h5 X hn hPc ⊢
  obtain ⟨m9, methY, cY, hn9, hmY, hcY, -, hlY, -⟩ := Cond.codeWith_spec h2
  cases Option.some.inj (hn9.symm.trans hn)
  obtain ⟨kY, hkY, -⟩ := className_of_methodNamed hn
  have hinitY : kY.init = .initialized := Cond.initialized_spec (findClass_of_methodNamed hn) hkY h3
  have h : At U g.method c below := by rw [hg]; exact X.here
  have hlocals9 : W9 + (maxL + 11) + (headSpec ws rm).room.locals ≤ R.locals := hlocals
  have happ : (headSpec ws rm).appliesLoose y e.platform (U.calling g mk a) = true :=
    Spec.appliesLoose_calling (g := g) h hdg hn hkY hinitY
      (X.room_calling (g := g) (R' := (headSpec ws rm).room) hsize hmY hcY hframes (by rw [hlY]; omega) h4 h5) h1
  obtain ⟨mid, hmid⟩ := h.above
  have hfr : (U.setTop g).frames = (.java g :: mid) ++ below := by rw [State.frames_setTop' g h.top, hmid]; rfl
  obtain ⟨o, s₂, hsteps, -, hend, hq⟩ := Steps.callFree hM p X.admits X.cas X.clock (acts := []) hfr happ hPc trivial
  have hq' : vx_Q Qc XC mc ms free a (U.calling g mk a) o s₂ := hq
  rw [State.frames_setTop' g h.top] at hend
  obtain ⟨g₀, hg0⟩ := Option.isSome_iff_exists.mp h.top
  obtain ⟨r, hr⟩ := State.topJava?_eq_some.mp hg0
  have hr' : (({ U with heap := s₂.heap, slotsUsed := s₂.slotsUsed } : State).setVm s₂.vm).frames = .java g₀ :: r := hr
  rcases hq' with ⟨hqc, L, hfe, hL⟩ | ⟨q, rfl, E, ce, L, hx, hce, hcv, hcl, hW₂, hsm, hL⟩
  · obtain ⟨⟨v, rfl⟩, hW₂, e2, q2, q3, q4, q5, q6⟩ := id hfe
    have e3 : s₂ = ({ (U.calling g mk a).setFrames s₂.frames with heap := s₂.heap, slotsUsed := s₂.slotsUsed } : State).setVm s₂.vm := by
      have : s₂ = ({ s₂ with vm := (U.calling g mk a).vm } : State).setVm s₂.vm := rfl
      rw [e2] at this
      exact this
    obtain ⟨c₂, i₂, len₂, hc₂, hd₂, hf₂⟩ := hend
    have hW' : U.WarmedH s₂.vm := hW₂
    have hcc : c₂ = c := by
      have h1 : s₂.code? g.method = U.code? g.method := by
        rw [State.code?_eq, State.code?_eq, hW'.alike.method?]
      exact Option.some.inj (hc₂.symm.trans (h1.trans h.code))
    subst hcc
    have hlen : len₂ = len := by rw [hdg] at hd₂; cases hd₂; rfl
    subst hlen
    have hs₂ : s₂ = (({ U with heap := s₂.heap, slotsUsed := s₂.slotsUsed } : State).setVm s₂.vm).setTop { g with pc := g.pc + len₂, stack := v.toList ++ g.stack } := by
      refine e3.trans ?_
      rw [hf₂, State.calling_eq h.top, State.setFrames_setFrames, State.setTop_of_frames _ hr', hr]
      rfl
    have hsame : U.sameButNew ({ U with heap := s₂.heap, slotsUsed := s₂.slotsUsed } : State) L mc ms := by
      refine ⟨?_, q2, q3, q4, q5, q6⟩
      obtain ⟨t, ht, -⟩ := State.frames_cons hr
      show ({ U with heap := s₂.heap, slotsUsed := s₂.slotsUsed } : State) = { U.setFrames U.frames with heap := s₂.heap, slotsUsed := s₂.slotsUsed }
      rw [State.setFrames_self ht]
    subst hg
    refine Or.inl ⟨v, ⟨(({ U with heap := s₂.heap, slotsUsed := s₂.slotsUsed } : State).setVm s₂.vm), Ls ++ L, c0 + mc, s0 + ms⟩,
      ⟨X.admits, X.cas, X.clock, X.frames, X.room, X.hears, X.method, X.code, (X.here.setHeapUsed s₂.heap s₂.slotsUsed).setVm hW'.alike, X.tail, State.WarmedH.trans X.warmed hW', X.limits, X.bytes, X.same.trans (hsame.setVm s.vm)⟩,
      ⟨g, mk, s₂, L, rfl, rfl, hqc, rfl, hL, rfl, rfl⟩, ?_⟩
    show Steps p.tables e below _ ((({ U with heap := s₂.heap, slotsUsed := s₂.slotsUsed } : State).setVm s₂.vm).setTop { g with pc := g.pc + len₂, stack := v.toList ++ g.stack })
    rw [← hs₂]
    exact hsteps
  · obtain ⟨e2, q2, q3, q4, q5, q6⟩ := id hsm
    have e3 : s₂ = ({ (U.calling g mk a).setFrames s₂.frames with heap := s₂.heap, slotsUsed := s₂.slotsUsed } : State).setVm s₂.vm := by
      have : s₂ = ({ s₂ with vm := (U.calling g mk a).vm } : State).setVm s₂.vm := rfl
      rw [e2] at this
      exact this
    have hf₂ : s₂.frames = .throwing q :: .java g :: U.frames.tail := hend
    have hW' : U.WarmedH s₂.vm := hW₂
    have hs₂ : s₂ = ((({ U with heap := s₂.heap, slotsUsed := s₂.slotsUsed } : State).setVm s₂.vm).setTop g).pushFrame (.throwing q) := by
      refine e3.trans ?_
      rw [hf₂, State.calling_eq h.top, State.setFrames_setFrames, State.pushFrame, State.frames_setTop _ hr', State.setTop_of_frames _ hr', State.setFrames_setFrames, hr]
      rfl
    have hsame : U.sameButNew ({ U with heap := s₂.heap, slotsUsed := s₂.slotsUsed } : State) L mc ms := by
      refine ⟨?_, q2, q3, q4, q5, q6⟩
      obtain ⟨t, ht, -⟩ := State.frames_cons hr
      show ({ U with heap := s₂.heap, slotsUsed := s₂.slotsUsed } : State) = { U.setFrames U.frames with heap := s₂.heap, slotsUsed := s₂.slotsUsed }
      rw [State.setFrames_self ht]
    subst hg
    refine Or.inr ⟨q, ⟨(({ U with heap := s₂.heap, slotsUsed := s₂.slotsUsed } : State).setVm s₂.vm), Ls ++ L, c0 + mc, s0 + ms⟩,
      ⟨X.admits, X.cas, X.clock, X.frames, X.room, X.hears, X.method, X.code, (X.here.setHeapUsed s₂.heap s₂.slotsUsed).setVm hW'.alike, X.tail, State.WarmedH.trans X.warmed hW', X.limits, X.bytes, X.same.trans (hsame.setVm s.vm)⟩,
      ⟨g, mk, s₂, L, E, ce, rfl, rfl, hx, hce, hcv, hcl, rfl, hL, rfl, rfl⟩, ?_⟩
    show Steps p.tables e below _ (((({ U with heap := s₂.heap, slotsUsed := s₂.slotsUsed } : State).setVm s₂.vm).setTop g).pushFrame (.throwing q))
    rw [← hs₂]
    exact hsteps
end
variable {p : Program} {l : Launch} {e : Env} {R : Room} {s : State} {m : MethodId} {args : Array Value} {below : List Frame} {meth : Method} {c : Code} {T : State} {H : Heap} {locs : List Loc} {cells slots : Nat}
theorem vx_callVX (X : Stand p l e R s m args below meth c T locs cells slots) (hexec : p.tables.exec = Jvm.exec) {own C : String} {index : Nat} {y : MethodName} {bytes : ByteArray} {maxL : Nat} {ret : Option FieldType} {hh : List (Nat × Nat × Nat × Nat)}
    (hown : s.vm.findClass own = some m.cls) (hlink : (Cond.methodLink own index y).before args s = true) (hinst : (Cond.instanceMethod y).before args s = true) (hsel : (Cond.selects C y y).before args s = true)
    (hcode : (Cond.codeWith y bytes maxL ret hh).before args s = true) (hy : y.cls ≠ "java/lang/invoke/MethodHandle" ∧ y.cls ≠ "java/lang/invoke/VarHandle")
    {W9 : Nat} {Pre : Pt → Array Value → Prop} {Post : Pt → Array Value → Option Value → Pt → Prop} {PostX : Pt → Array Value → Addr → Pt → Prop} (hK : vx_Back l R p e below s args y 3 W9 Pre Post PostX)
    {b : Addr} {cellB : Cell} (hcell : T.heap[b]? = some cellB) (hobj : cellB.vm.isStatics = false) (hcls : s.vm.findClass C = some cellB.cls)
    {g : JFrame} (hg : g.method = m) (hsize : g.locals.size = c.maxLocals) {argsL rest : List Value} (hlen : ∀ sig, parseMethodDescriptor y.desc = some sig → argsL.length = sig.parameters.length)
    (hstack : g.stack = argsL.reverse ++ .ref b :: rest) (hW : 2 * g.monitorRoom + (rest.map fun v => v.category).sum ≤ W9) (hdg : decode c.code g.pc = .ok (.invokevirtual index, 3))
    (hpre : ∀ vm₁, s.WarmedH vm₁ → Pre ⟨T.setVm vm₁, locs, cells, slots⟩ (Value.ref b :: argsL).toArray) :
    (∃ (v : Option Value) (vm₁ : Vm) (B : Pt), s.WarmedH vm₁ ∧ Stand p l e R s m args below meth c B.U B.locs B.cells B.slots ∧ Post ⟨T.setVm vm₁, locs, cells, slots⟩ (Value.ref b :: argsL).toArray v B ∧
      ∀ target, Steps p.tables e below (B.U.setTop { g with pc := g.pc + 3, stack := v.toList ++ rest }) target → Steps p.tables e below (T.setTop g) target) ∨
    (∃ (q : Addr) (vm₁ : Vm) (B : Pt), s.WarmedH vm₁ ∧ Stand p l e R s m args below meth c B.U B.locs B.cells B.slots ∧ PostX ⟨T.setVm vm₁, locs, cells, slots⟩ (Value.ref b :: argsL).toArray q B ∧
      Steps p.tables e below (T.setTop g) ((B.U.setTop { g with stack := rest }).pushFrame (.throwing q))) := by
  obtain ⟨mk, methM, hnamed, hmethM, hstM, habM⟩ := Cond.instanceMethod_spec hinst
  obtain ⟨m8, methM', cM, hn8, hmethM', -, -, -, -, -, -, hsigM⟩ := Cond.codeWith_spec hcode
  cases Option.some.inj (hn8.symm.trans hnamed)
  cases hmethM.symm.trans hmethM'
  obtain ⟨c2, r2, m2, q1, q2, q3, q4, kP, hkP, hkPi⟩ := Cond.selects_spec hsel
  cases hcls.symm.trans q1
  cases (State.methodFound?_of_named hnamed hy).symm.trans q2
  cases hnamed.symm.trans q3
  have hselP : selectMethod e.platform s.vm cellB.cls mk = .method mk := by rw [Launch.admits_selectMethod X.admits]; exact q4
  obtain ⟨vm₁, X₁, hstep₁⟩ := X.invokevirtual hexec hown hlink hnamed hmethM hstM hkP hkPi hy (a := b) (cell := cellB) hcell
    (fun z h => by rw [h] at hobj; cases hobj) hselP hmethM habM hkP hkPi (g := g) hg (argsL := argsL) (rest := rest) (hlen _ hsigM) hstack hdg
  rcases hK m meth c ⟨T.setVm vm₁, locs, cells, slots⟩ { g with stack := rest } (.invokevirtual index) mk (Value.ref b :: argsL).toArray X₁ hg hsize hdg hW (X₁.named hnamed) (hpre vm₁ X₁.warmed) with ⟨v, B, X', hpost, hsteps⟩ | ⟨q, B, X', hpost, hsteps⟩
  · exact Or.inl ⟨v, vm₁, B, X₁.warmed, X', hpost, fun target h => hstep₁ _ fun acts => by rw [doInvoke_state]; exact hsteps.trans h⟩
  · exact Or.inr ⟨q, vm₁, B, X₁.warmed, X', hpost, hstep₁ _ fun acts => by rw [doInvoke_state]; exact hsteps⟩
theorem vx_callSX (X : Stand p l e R s m args below meth c T locs cells slots) (hexec : p.tables.exec = Jvm.exec) {own : String} {index : Nat} {y : MethodName} {bytes : ByteArray} {maxL : Nat} {ret : Option FieldType} {hh : List (Nat × Nat × Nat × Nat)}
    (hown : s.vm.findClass own = some m.cls) (hlink : (Cond.methodLink own index y).before args s = true) (hstat : (Cond.static y).before args s = true) (hinit : (Cond.initialized y.cls).before args s = true)
    (hcode : (Cond.codeWith y bytes maxL ret hh).before args s = true) (hy : y.cls ≠ "java/lang/invoke/MethodHandle" ∧ y.cls ≠ "java/lang/invoke/VarHandle")
    {W9 : Nat} {Pre : Pt → Array Value → Prop} {Post : Pt → Array Value → Option Value → Pt → Prop} {PostX : Pt → Array Value → Addr → Pt → Prop} (hK : vx_Back l R p e below s args y 3 W9 Pre Post PostX)
    {g : JFrame} (hg : g.method = m) (hsize : g.locals.size = c.maxLocals) {argsL rest : List Value} (hlen : ∀ sig, parseMethodDescriptor y.desc = some sig → argsL.length = sig.parameters.length)
    (hstack : g.stack = argsL.reverse ++ rest) (hW : 2 * g.monitorRoom + (rest.map fun v => v.category).sum ≤ W9) (hdg : decode c.code g.pc = .ok (.invokestatic index, 3))
    (hpre : ∀ vm₁, s.WarmedH vm₁ → Pre ⟨T.setVm vm₁, locs, cells, slots⟩ argsL.toArray) :
    (∃ (v : Option Value) (vm₁ : Vm) (B : Pt), s.WarmedH vm₁ ∧ Stand p l e R s m args below meth c B.U B.locs B.cells B.slots ∧ Post ⟨T.setVm vm₁, locs, cells, slots⟩ argsL.toArray v B ∧
      ∀ target, Steps p.tables e below (B.U.setTop { g with pc := g.pc + 3, stack := v.toList ++ rest }) target → Steps p.tables e below (T.setTop g) target) ∨
    (∃ (q : Addr) (vm₁ : Vm) (B : Pt), s.WarmedH vm₁ ∧ Stand p l e R s m args below meth c B.U B.locs B.cells B.slots ∧ PostX ⟨T.setVm vm₁, locs, cells, slots⟩ argsL.toArray q B ∧
      Steps p.tables e below (T.setTop g) ((B.U.setTop { g with stack := rest }).pushFrame (.throwing q))) := by
  obtain ⟨mk, methM, cM, hnamed, hmethM, -, -, -, -, -, -, hsigM⟩ := Cond.codeWith_spec hcode
  have hstatic : methM.isStatic = true := Cond.static_spec hnamed hmethM hstat
  obtain ⟨kP, hkP, -⟩ := className_of_methodNamed hnamed
  have hinitP : kP.init = .initialized := Cond.initialized_spec (findClass_of_methodNamed hnamed) hkP hinit
  obtain ⟨vm₁, X₁, hstep₁⟩ := X.invokestatic hexec hown hlink hnamed hmethM hstatic hkP hinitP hy (g := g) hg (argsL := argsL) (rest := rest) (hlen _ hsigM) hstack hdg
  rcases hK m meth c ⟨T.setVm vm₁, locs, cells, slots⟩ { g with stack := rest } (.invokestatic index) mk argsL.toArray X₁ hg hsize hdg hW (X₁.named hnamed) (hpre vm₁ X₁.warmed) with ⟨v, B, X', hpost, hsteps⟩ | ⟨q, B, X', hpost, hsteps⟩
  · exact Or.inl ⟨v, vm₁, B, X₁.warmed, X', hpost, fun target h => hstep₁ _ fun acts => by rw [doInvoke_state]; exact hsteps.trans h⟩
  · exact Or.inr ⟨q, vm₁, B, X₁.warmed, X', hpost, hstep₁ _ fun acts => by rw [doInvoke_state]; exact hsteps⟩
theorem vx_callVW (X : Stand p l e R s m args below meth c T locs cells slots) (hexec : p.tables.exec = Jvm.exec) {own C : String} {index : Nat} {y : MethodName} {bytes : ByteArray} {maxL : Nat} {ret : Option FieldType} {hh : List (Nat × Nat × Nat × Nat)}
    (hown : s.vm.findClass own = some m.cls) (hlink : (Cond.methodLink own index y).before args s = true) (hinst : (Cond.instanceMethod y).before args s = true) (hsel : (Cond.selects C y y).before args s = true)
    (hcode : (Cond.codeWith y bytes maxL ret hh).before args s = true) (hy : y.cls ≠ "java/lang/invoke/MethodHandle" ∧ y.cls ≠ "java/lang/invoke/VarHandle")
    {W9 : Nat} {Pre : Pt → Array Value → Prop} {Post : Pt → Array Value → Option Value → Pt → Prop} (hK : Back l R p e below s args y 3 W9 Pre Post)
    {b : Addr} {cellB : Cell} (hcell : T.heap[b]? = some cellB) (hobj : cellB.vm.isStatics = false) (hcls : s.vm.findClass C = some cellB.cls)
    {g : JFrame} (hg : g.method = m) (hsize : g.locals.size = c.maxLocals) {argsL rest : List Value} (hlen : ∀ sig, parseMethodDescriptor y.desc = some sig → argsL.length = sig.parameters.length)
    (hstack : g.stack = argsL.reverse ++ .ref b :: rest) (hW : 2 * g.monitorRoom + (rest.map fun v => v.category).sum ≤ W9) (hdg : decode c.code g.pc = .ok (.invokevirtual index, 3))
    (hpre : ∀ vm₁, s.WarmedH vm₁ → Pre ⟨T.setVm vm₁, locs, cells, slots⟩ (Value.ref b :: argsL).toArray) :
    ∃ (v : Option Value) (vm₁ : Vm) (B : Pt), s.WarmedH vm₁ ∧ Stand p l e R s m args below meth c B.U B.locs B.cells B.slots ∧ Post ⟨T.setVm vm₁, locs, cells, slots⟩ (Value.ref b :: argsL).toArray v B ∧
      ∀ target, Steps p.tables e below (B.U.setTop { g with pc := g.pc + 3, stack := v.toList ++ rest }) target → Steps p.tables e below (T.setTop g) target := by
  obtain ⟨mk, methM, hnamed, hmethM, hstM, habM⟩ := Cond.instanceMethod_spec hinst
  obtain ⟨m8, methM', cM, hn8, hmethM', -, -, -, -, -, -, hsigM⟩ := Cond.codeWith_spec hcode
  cases Option.some.inj (hn8.symm.trans hnamed)
  cases hmethM.symm.trans hmethM'
  obtain ⟨c2, r2, m2, q1, q2, q3, q4, kP, hkP, hkPi⟩ := Cond.selects_spec hsel
  cases hcls.symm.trans q1
  cases (State.methodFound?_of_named hnamed hy).symm.trans q2
  cases hnamed.symm.trans q3
  have hselP : selectMethod e.platform s.vm cellB.cls mk = .method mk := by rw [Launch.admits_selectMethod X.admits]; exact q4
  obtain ⟨vm₁, X₁, hstep₁⟩ := X.invokevirtual hexec hown hlink hnamed hmethM hstM hkP hkPi hy (a := b) (cell := cellB) hcell
    (fun z h => by rw [h] at hobj; cases hobj) hselP hmethM habM hkP hkPi (g := g) hg (argsL := argsL) (rest := rest) (hlen _ hsigM) hstack hdg
  obtain ⟨v, B, X', hpost, hsteps⟩ := hK m meth c ⟨T.setVm vm₁, locs, cells, slots⟩ { g with stack := rest } (.invokevirtual index) mk (Value.ref b :: argsL).toArray X₁ hg hsize hdg hW (X₁.named hnamed) (hpre vm₁ X₁.warmed)
  exact ⟨v, vm₁, B, X₁.warmed, X', hpost, fun target h => hstep₁ _ fun acts => by rw [doInvoke_state]; exact hsteps.trans h⟩
abbrev vx_CVW (R : Room) (s : State) (args : Array Value) (own C : String) (index : Nat) (y : MethodName) (bytes : ByteArray) (maxL : Nat) (ret : Option FieldType) (hh : List (Nat × Nat × Nat × Nat)) (ws : List Cond) (rm : Room) (mc ms n : Nat) : Prop :=
  (rm.cells = mc ∧ rm.slots = ms ∧ rm.frames + 1 ≤ R.frames ∧ 8 + (maxL + 11) + rm.locals ≤ R.locals ∧ (∀ w ∈ ws, ∀ (a' : Array Value) (U : State), s.WarmedH U.vm → w.before a' U = true) ∧ Cond.codeWith y bytes maxL ret hh ∈ ws) ∧
  (Cond.codeWith y bytes maxL ret hh).before args s = true ∧ (Cond.initialized y.cls).before args s = true ∧ (y.cls ≠ "java/lang/invoke/MethodHandle" ∧ y.cls ≠ "java/lang/invoke/VarHandle") ∧
  (∀ sig, parseMethodDescriptor y.desc = some sig → n = sig.parameters.length) ∧ (Cond.methodLink own index y).before args s = true ∧ (Cond.instanceMethod y).before args s = true ∧ (Cond.selects C y y).before args s = true
theorem vx_cwVW {own C : String} {index maxL mc ms : Nat} {y : MethodName} {bytes : ByteArray} {ret : Option FieldType} {hh : List (Nat × Nat × Nat × Nat)} {Ts ws ws' : List Cond} {rm : Room} (n : Nat) (ht : ∀ w ∈ Ts, w.before args s = true) (hT : GoodIn Ts (wsV own index C y ws)) (hw : ws = Cond.codeWith y bytes maxL ret hh :: ws') (hrc : rm.cells = mc) (hrs : rm.slots = ms)
    (hd : y.cls = C ∧ y.cls ≠ "java/lang/invoke/MethodHandle" ∧ y.cls ≠ "java/lang/invoke/VarHandle" ∧ (parseMethodDescriptor y.desc).map (fun d => d.parameters.length) = some n) (hR : rm.frames + 1 ≤ R.frames ∧ 8 + (maxL + 11) + rm.locals ≤ R.locals) :
    vx_CVW R s args own C index y bytes maxL ret hh ws rm mc ms n := by
  obtain ⟨hC, hd⟩ := hd
  subst hC
  have ok : ∀ w ∈ wsV own index y.cls y ws, w.before args s = true := fun w h => ht w (hT w h).1
  have hG : GoodIn Ts ws := fun w h => hT w (by unfold wsV; exact List.mem_append_right _ h)
  have hc : Cond.codeWith y bytes maxL ret hh ∈ ws := by rw [hw]; exact List.mem_cons_self
  refine ⟨⟨hrc, hrs, hR.1, hR.2, pay_in ht hG, hc⟩, ht _ (hG _ hc).1, ok _ (by simp [wsV]), ⟨hd.1, hd.2.1⟩, fun sig h => ?_, ok _ (by simp [wsV]), ok _ (by simp [wsV]), ok _ (by simp [wsV])⟩
  have h2 := hd.2.2
  rw [h] at h2
  exact (Option.some.inj h2).symm
theorem vx_runVW {y : MethodName} {bytes cc : ByteArray} {maxL nL mc ms n index : Nat} {ret : Option FieldType} {hh : List (Nat × Nat × Nat × Nat)} {ws : List Cond} {rm : Room} {Pc : Array Value → State → Prop} {Qc : Array Value → State → Outcome → State → Prop} {free : Addr → Prop} {Ts : List Cond} {own C : String} {b : Addr} {As rest : List Value} {g : JFrame}
    (S : CallFix p m c cc nL s args Ts own) (hM : Met l y ws rm Pc Qc mc ms free) (cw : vx_CVW R s args own C index y bytes maxL ret hh ws rm mc ms n) (hp : PreV s H C b Pc As)
    (hg : g.method = m) (hn : As.length = n) (hsize : g.locals.size = nL) (hstack : g.stack = As.reverse ++ .ref b :: rest) (hW : 2 * g.monitorRoom + (rest.map fun v => v.category).sum ≤ 8) (hdg : decode cc g.pc = .ok (.invokevirtual index, 3)) (hf : cells + mc ≤ R.cells ∧ slots + ms ≤ R.slots) :
    va_Run p l e R s m args below meth c H locs cells slots mc ms g rest (Qc (Value.ref b :: As).toArray) free := by
  obtain ⟨⟨hrc, hrs, hfr, hlo, hws, hcw⟩, hcode, hini, hy, hlen, hl, hin, hse⟩ := cw
  have hK : Back l R p e below s args y 3 8 (PreOf R mc ms Pc) (PostOf Qc mc ms free) := va_backW (hh := hh) (bytes := bytes) (maxL := maxL) (ret := ret) hM hp.1 hrc hrs hfr hlo hws hcw (fun a' U hW => word_at hW (Or.inl (by first | rfl | simp [Cond.onTables, Cond.keeps, Cond.steady])) hini)
  obtain ⟨hx, hb, hml, ho, -⟩ := S
  obtain ⟨-, ⟨cellB, hcB, hoB, hclB⟩, hPc⟩ := hp
  intro T hT X
  obtain ⟨v, vm₁, ⟨U', l2, c2, s2⟩, hW₁, X', ⟨g', mk, t, L, e1, e2, hq, h1, hL, h2, h3⟩, st⟩ := vx_callVW X hx (C := C) (hh := hh) (bytes := bytes) (maxL := maxL) (ret := ret) ho hl hin hse hcode hy hK (by rw [hT]; exact hcB) hoB hclB hg (hsize.trans hml.symm) (argsL := As) (rest := rest) (fun sig h => hn.trans (hlen sig h)) hstack hW (by rw [hb]; exact hdg)
    (fun vm₁ hW₁ => ⟨hf.1, hf.2, hPc (T.setVm vm₁) hT hW₁⟩)
  dsimp only [Pt.U, Pt.locs, Pt.cells, Pt.slots] at X' e1 e2 h1 h2 h3 st
  subst h1; subst h2; subst h3
  exact ⟨v, (T.setVm vm₁).calling g' mk (Value.ref b :: As).toArray, t, U', L, hT, X', hL, e1, e2, hq, st⟩
section
variable {y : MethodName} {bytes cc : ByteArray} {maxL nL mc ms n index : Nat} {ret : Option FieldType} {ws : List Cond} {rm : Room} {Pc : Array Value → State → Prop} {Qc : Array Value → State → Outcome → State → Prop} {XC : String → State → State → Prop} {free : Addr → Prop} {Ts : List Cond} {own C : String} {b : Addr} {As rest : List Value} {g : JFrame}
theorem vx_runVX {hh : List (Nat × Nat × Nat × Nat)} (S : CallFix p m c cc nL s args Ts own) (hM : vx_Met l y ws rm Pc Qc XC mc ms free) (cw : vx_CVW R s args own C index y bytes maxL ret hh ws rm mc ms n) (hp : PreV s H C b Pc As)
    (hg : g.method = m) (hn : As.length = n) (hsize : g.locals.size = nL) (hstack : g.stack = As.reverse ++ .ref b :: rest) (hW : 2 * g.monitorRoom + (rest.map fun v => v.category).sum ≤ 8) (hdg : decode cc g.pc = .ok (.invokevirtual index, 3)) (hf : cells + mc ≤ R.cells ∧ slots + ms ≤ R.slots) :
    vx_Run p l e R s m args below meth c H locs cells slots mc ms g rest (Qc (Value.ref b :: As).toArray) XC free := by
  obtain ⟨⟨hrc, hrs, hfr, hlo, hws, hcw⟩, hcode, hini, hy, hlen, hl, hin, hse⟩ := cw
  have hK : vx_Back l R p e below s args y 3 8 (PreOf R mc ms Pc) (PostOf Qc mc ms free) (vx_Post XC mc ms free) := vx_backW (hh := hh) (bytes := bytes) (maxL := maxL) (ret := ret) hM hp.1 hrc hrs hfr hlo hws hcw (fun a' U hW => word_at hW (Or.inl (by first | rfl | simp [Cond.onTables, Cond.keeps, Cond.steady])) hini)
  obtain ⟨hx, hb, hml, ho, -⟩ := S
  obtain ⟨-, ⟨cellB, hcB, hoB, hclB⟩, hPc⟩ := hp
  intro T hT X
  rcases vx_callVX X hx (C := C) (hh := hh) (bytes := bytes) (maxL := maxL) (ret := ret) ho hl hin hse hcode hy hK (by rw [hT]; exact hcB) hoB hclB hg (hsize.trans hml.symm) (argsL := As) (rest := rest) (fun sig h => hn.trans (hlen sig h)) hstack hW (by rw [hb]; exact hdg)
    (fun vm₁ hW₁ => ⟨hf.1, hf.2, hPc (T.setVm vm₁) hT hW₁⟩) with ⟨v, vm₁, ⟨U', l2, c2, s2⟩, hW₁, X', ⟨g', mk, t, L, e1, e2, hq, h1, hL, h2, h3⟩, st⟩ | ⟨q, vm₁, ⟨U', l2, c2, s2⟩, hW₁, X', ⟨g', mk, t, L, E, ce, e1, e2, hq, hce, hcv, hcl, h1, hL, h2, h3⟩, st⟩
  · dsimp only [Pt.U, Pt.locs, Pt.cells, Pt.slots] at X' e1 e2 h1 h2 h3 st
    subst h1; subst h2; subst h3
    exact Or.inl ⟨v, (T.setVm vm₁).calling g' mk (Value.ref b :: As).toArray, t, U', L, hT, X', hL, e1, e2, hq, st⟩
  · dsimp only [Pt.U, Pt.locs, Pt.cells, Pt.slots] at X' e1 e2 h1 h2 h3 st hcl
    subst h1; subst h2; subst h3
    exact Or.inr ⟨q, (T.setVm vm₁).calling g' mk (Value.ref b :: As).toArray, t, U', L, E, ce, hT, X', hL, e1, e2, hq, hce, hcv, vx_cls hW₁ hcl, st⟩
theorem vx_runSX {hh : List (Nat × Nat × Nat × Nat)} (S : CallFix p m c cc nL s args Ts own) (hM : vx_Met l y ws rm Pc Qc XC mc ms free) (cw : vx_CSW R s args own index y bytes maxL ret hh ws rm mc ms n) (hp : PreS s H Pc As)
    (hg : g.method = m) (hn : As.length = n) (hsize : g.locals.size = nL) (hstack : g.stack = As.reverse ++ rest) (hW : 2 * g.monitorRoom + (rest.map fun v => v.category).sum ≤ 8) (hdg : decode cc g.pc = .ok (.invokestatic index, 3)) (hf : cells + mc ≤ R.cells ∧ slots + ms ≤ R.slots) :
    vx_Run p l e R s m args below meth c H locs cells slots mc ms g rest (Qc As.toArray) XC free := by
  obtain ⟨⟨hrc, hrs, hfr, hlo, hws, hcw⟩, hcode, hini, hy, hlen, hl, hstt⟩ := cw
  have hK : vx_Back l R p e below s args y 3 8 (PreOf R mc ms Pc) (PostOf Qc mc ms free) (vx_Post XC mc ms free) := vx_backW (hh := hh) (bytes := bytes) (maxL := maxL) (ret := ret) hM hp.1 hrc hrs hfr hlo hws hcw (fun a' U hW => word_at hW (Or.inl (by first | rfl | simp [Cond.onTables, Cond.keeps, Cond.steady])) hini)
  obtain ⟨hx, hb, hml, ho, -⟩ := S
  intro T hT X
  rcases vx_callSX X hx (hh := hh) (bytes := bytes) (maxL := maxL) (ret := ret) ho hl hstt hini hcode hy hK hg (hsize.trans hml.symm) (argsL := As) (rest := rest) (fun sig h => hn.trans (hlen sig h)) hstack hW (by rw [hb]; exact hdg)
    (fun vm₁ hW₁ => ⟨hf.1, hf.2, hp.2 (T.setVm vm₁) hT hW₁⟩) with ⟨v, vm₁, ⟨U', l2, c2, s2⟩, hW₁, X', ⟨g', mk, t, L, e1, e2, hq, h1, hL, h2, h3⟩, st⟩ | ⟨q, vm₁, ⟨U', l2, c2, s2⟩, hW₁, X', ⟨g', mk, t, L, E, ce, e1, e2, hq, hce, hcv, hcl, h1, hL, h2, h3⟩, st⟩
  · dsimp only [Pt.U, Pt.locs, Pt.cells, Pt.slots] at X' e1 e2 h1 h2 h3 st
    subst h1; subst h2; subst h3
    exact Or.inl ⟨v, (T.setVm vm₁).calling g' mk As.toArray, t, U', L, hT, X', hL, e1, e2, hq, st⟩
  · dsimp only [Pt.U, Pt.locs, Pt.cells, Pt.slots] at X' e1 e2 h1 h2 h3 st hcl
    subst h1; subst h2; subst h3
    exact Or.inr ⟨q, (T.setVm vm₁).calling g' mk As.toArray, t, U', L, E, ce, hT, X', hL, e1, e2, hq, hce, hcv, vx_cls hW₁ hcl, st⟩
end
end VXH
theorem vx_ofWH {l : Launch} {y : MethodName} {ws ws' : List Cond} {rm : Room} {Pc : Array Value → State → Prop} {Qc : Array Value → State → Outcome → State → Prop} {XC : String → State → State → Prop} {mc ms : Nat} {free : Addr → Prop} {cc : ByteArray} {maxL : Nat} {ret : Option FieldType} {hh : List (Nat × Nat × Nat × Nat)}
    (hy : plainName y.cls = true) (hw : ws = Cond.codeWith y cc maxL ret hh :: ws')
    (body : ∀ p e s m args below meth c s₁, BodyLoose p l y (headSpec ws rm) cc maxL ret e s m args below meth c s₁ → c.maxLocals = maxL → Pc args s →
      W p l e (headSpec ws rm).room s m args below meth c s.heap [] 0 0 (vx_MQ below Qc XC args s mc ms free) (entryFrame m args maxL)) : vx_Met l y ws rm Pc Qc XC mc ms free := by
  refine MetFree.of_bodyS (code := cc) (maxLocals := maxL) (ret := ret) hy ?_ ?_
  · intro args s m h hn
    obtain ⟨m9, meth, c, hn9, h1, h2, h3, h4, -, h5, h6, -⟩ := Cond.codeWith_spec (atoms_spec (ws := ws) h _ (by rw [hw]; exact List.mem_cons_self))
    cases hn.symm.trans hn9
    exact ⟨meth, c, h1, h2, h3, h4, h5, h6⟩
  · intro p e s m args below meth c s₁ B hml hP _
    have hh0 : s₁.heap = s.heap := by rw [B.state]; rfl
    obtain ⟨t, a1, o, b1, b2, b3⟩ := body p e s m args below meth c s₁ B hml hP s₁ hh0 (Stand.of_body B)
    exact ⟨t, o, a1, b1, b2, b3⟩
/-! ===== END ===== -/

/-! ===== BEGIN printed: names, fields, word lists, decode rows ===== -/
end
section
def RX0 : String := "Switchlog$ActRow"
def TX0 : u_T := fun k => match k with
  | 0 => ("Switchlog$ActRow", "acts", "[I", true)
  | _ => ("Switchlog$ActRow", "size", "I", false)
def tyX0 : Nat → FieldType := fun k => match k with
  | 0 => .array .int
  | _ => .int
abbrev wsX00 : List Cond := u_ws RX0 TX0 2
theorem nmX0 : ∀ a, a < 2 → ∀ b, b < 2 → a ≠ b → (TX0 a).2.1 ≠ (TX0 b).2.1 := by decide +kernel
theorem tyX0_ok : ∀ k, k < 2 → parseFieldDescriptor (TX0 k).2.2.1 = some (tyX0 k) := by decide +kernel
abbrev cX0_init : ByteArray := prog_2_method_1_code
def yX0_init : MethodName := ⟨RX0, "<init>", "(I)V"⟩
abbrev cX0_size : ByteArray := prog_2_method_2_code
def yX0_size : MethodName := ⟨RX0, "size", "()I"⟩
abbrev cX0_get : ByteArray := prog_2_method_3_code
def yX0_get : MethodName := ⟨RX0, "get", "(I)I"⟩
abbrev cX0_latest : ByteArray := prog_2_method_4_code
def yX0_latest : MethodName := ⟨RX0, "latest", "(I)I"⟩
abbrev cX0_append : ByteArray := prog_2_method_5_code
def yX0_append : MethodName := ⟨RX0, "append", "(I)V"⟩
abbrev cX0_dropLast : ByteArray := prog_2_method_6_code
def yX0_dropLast : MethodName := ⟨RX0, "dropLast", "()V"⟩
abbrev cX0_dropFirst : ByteArray := prog_2_method_7_code
def yX0_dropFirst : MethodName := ⟨RX0, "dropFirst", "(I)V"⟩
abbrev cX0_count : ByteArray := prog_2_method_8_code
def yX0_count : MethodName := ⟨RX0, "count", "(I)I"⟩
def RX1 : String := "Switchlog$Net"
def TX1 : u_T := fun k => match k with
  | 0 => ("Switchlog$Net", "ends", "[I", true)
  | 1 => ("Switchlog$Net", "nodeCount", "I", false)
  | 2 => ("Switchlog$Net", "switchCount", "I", false)
  | 3 => ("Switchlog$Net", "breakers", "I", false)
  | 4 => ("Switchlog$Net", "sources", "I", false)
  | _ => ("Switchlog$Net", "loads", "I", false)
def tyX1 : Nat → FieldType := fun k => match k with
  | 0 => .array .int
  | 1 => .int
  | 2 => .int
  | 3 => .int
  | 4 => .int
  | _ => .int
abbrev wsX10 : List Cond := u_ws RX1 TX1 6
theorem nmX1 : ∀ a, a < 6 → ∀ b, b < 6 → a ≠ b → (TX1 a).2.1 ≠ (TX1 b).2.1 := by decide +kernel
theorem tyX1_ok : ∀ k, k < 6 → parseFieldDescriptor (TX1 k).2.2.1 = some (tyX1 k) := by decide +kernel
abbrev cX1_init : ByteArray := prog_3_method_1_code
def yX1_init : MethodName := ⟨RX1, "<init>", "()V"⟩
abbrev cX1_nodeCount : ByteArray := prog_3_method_2_code
def yX1_nodeCount : MethodName := ⟨RX1, "nodeCount", "()I"⟩
abbrev cX1_switchCount : ByteArray := prog_3_method_3_code
def yX1_switchCount : MethodName := ⟨RX1, "switchCount", "()I"⟩
abbrev cX1_allNodes : ByteArray := prog_3_method_4_code
def yX1_allNodes : MethodName := ⟨RX1, "allNodes", "()I"⟩
abbrev cX1_hasNode : ByteArray := prog_3_method_5_code
def yX1_hasNode : MethodName := ⟨RX1, "hasNode", "(I)Z"⟩
abbrev cX1_hasSwitch : ByteArray := prog_3_method_6_code
def yX1_hasSwitch : MethodName := ⟨RX1, "hasSwitch", "(I)Z"⟩
abbrev cX1_appendNode : ByteArray := prog_3_method_7_code
def yX1_appendNode : MethodName := ⟨RX1, "appendNode", "(ZZ)I"⟩
abbrev cX1_appendSwitch : ByteArray := prog_3_method_8_code
def yX1_appendSwitch : MethodName := ⟨RX1, "appendSwitch", "(IIZ)I"⟩
abbrev cX1_hasSource : ByteArray := prog_3_method_9_code
def yX1_hasSource : MethodName := ⟨RX1, "hasSource", "(I)Z"⟩
abbrev cX1_isBreaker : ByteArray := prog_3_method_10_code
def yX1_isBreaker : MethodName := ⟨RX1, "isBreaker", "(I)Z"⟩
abbrev cX1_endsOf : ByteArray := prog_3_method_11_code
def yX1_endsOf : MethodName := ⟨RX1, "endsOf", "(I)I"⟩
abbrev cX1_liveNodes : ByteArray := prog_3_method_12_code
def yX1_liveNodes : MethodName := ⟨RX1, "liveNodes", "(LSwitchlog$State;)I"⟩
abbrev cX1_earthedNodes : ByteArray := prog_3_method_13_code
def yX1_earthedNodes : MethodName := ⟨RX1, "earthedNodes", "(LSwitchlog$State;)I"⟩
abbrev cX1_loadedNodes : ByteArray := prog_3_method_14_code
def yX1_loadedNodes : MethodName := ⟨RX1, "loadedNodes", "(LSwitchlog$State;)I"⟩
abbrev cX1_areEndsConnected : ByteArray := prog_3_method_15_code
def yX1_areEndsConnected : MethodName := ⟨RX1, "areEndsConnected", "(ILSwitchlog$State;)Z"⟩
abbrev cX1_countParts : ByteArray := prog_3_method_16_code
def yX1_countParts : MethodName := ⟨RX1, "countParts", "(LSwitchlog$State;)I"⟩
abbrev cX1_connectedWith : ByteArray := prog_3_method_17_code
def yX1_connectedWith : MethodName := ⟨RX1, "connectedWith", "(ILSwitchlog$State;)I"⟩
abbrev cX1_withNeighbours : ByteArray := prog_3_method_18_code
def yX1_withNeighbours : MethodName := ⟨RX1, "withNeighbours", "(I)I"⟩
def RX2 : String := "Switchlog$Permits"
def TX2 : u_T := fun k => match k with
  | 0 => ("Switchlog$Permits", "holds", "[I", true)
  | _ => ("Switchlog$Permits", "given", "I", false)
def tyX2 : Nat → FieldType := fun k => match k with
  | 0 => .array .int
  | _ => .int
abbrev wsX20 : List Cond := u_ws RX2 TX2 2
theorem nmX2 : ∀ a, a < 2 → ∀ b, b < 2 → a ≠ b → (TX2 a).2.1 ≠ (TX2 b).2.1 := by decide +kernel
theorem tyX2_ok : ∀ k, k < 2 → parseFieldDescriptor (TX2 k).2.2.1 = some (tyX2 k) := by decide +kernel
abbrev cX2_init : ByteArray := prog_4_method_1_code
def yX2_init : MethodName := ⟨RX2, "<init>", "()V"⟩
abbrev cX2_given : ByteArray := prog_4_method_2_code
def yX2_given : MethodName := ⟨RX2, "given", "()I"⟩
abbrev cX2_give : ByteArray := prog_4_method_3_code
def yX2_give : MethodName := ⟨RX2, "give", "(I)I"⟩
abbrev cX2_isHeld : ByteArray := prog_4_method_4_code
def yX2_isHeld : MethodName := ⟨RX2, "isHeld", "(I)Z"⟩
abbrev cX2_release : ByteArray := prog_4_method_5_code
def yX2_release : MethodName := ⟨RX2, "release", "(I)V"⟩
abbrev cX2_countHeld : ByteArray := prog_4_method_6_code
def yX2_countHeld : MethodName := ⟨RX2, "countHeld", "()I"⟩
abbrev cX2_heldNodes : ByteArray := prog_4_method_7_code
def yX2_heldNodes : MethodName := ⟨RX2, "heldNodes", "()I"⟩
def RX3 : String := "Switchlog$State"
def TX3 : u_T := fun k => match k with
  | 0 => ("Switchlog$State", "closed", "I", false)
  | 1 => ("Switchlog$State", "earths", "I", false)
  | _ => ("Switchlog$State", "sources", "I", false)
def tyX3 : Nat → FieldType := fun k => match k with
  | 0 => .int
  | 1 => .int
  | _ => .int
abbrev wsX30 : List Cond := u_ws RX3 TX3 3
theorem nmX3 : ∀ a, a < 3 → ∀ b, b < 3 → a ≠ b → (TX3 a).2.1 ≠ (TX3 b).2.1 := by decide +kernel
theorem tyX3_ok : ∀ k, k < 3 → parseFieldDescriptor (TX3 k).2.2.1 = some (tyX3 k) := by decide +kernel
abbrev cX3_init : ByteArray := prog_5_method_1_code
def yX3_init : MethodName := ⟨RX3, "<init>", "()V"⟩
abbrev cX3_copyFrom : ByteArray := prog_5_method_2_code
def yX3_copyFrom : MethodName := ⟨RX3, "copyFrom", "(LSwitchlog$State;)V"⟩
abbrev cX3_flip : ByteArray := prog_5_method_3_code
def yX3_flip : MethodName := ⟨RX3, "flip", "(II)V"⟩
abbrev cX3_isOn : ByteArray := prog_5_method_4_code
def yX3_isOn : MethodName := ⟨RX3, "isOn", "(II)Z"⟩
def RX4 : String := "Switchlog"
def TX4 : u_T := fun k => match k with
  | 0 => ("Switchlog", "net", "LSwitchlog$Net;", true)
  | 1 => ("Switchlog", "now", "LSwitchlog$State;", true)
  | 2 => ("Switchlog", "done", "LSwitchlog$ActRow;", true)
  | 3 => ("Switchlog", "written", "LSwitchlog$ActRow;", true)
  | 4 => ("Switchlog", "permits", "LSwitchlog$Permits;", true)
  | 5 => ("Switchlog", "thought", "LSwitchlog$State;", true)
  | _ => ("Switchlog", "after", "LSwitchlog$State;", true)
def tyX4 : Nat → FieldType := fun k => match k with
  | 0 => .object "Switchlog$Net"
  | 1 => .object "Switchlog$State"
  | 2 => .object "Switchlog$ActRow"
  | 3 => .object "Switchlog$ActRow"
  | 4 => .object "Switchlog$Permits"
  | 5 => .object "Switchlog$State"
  | _ => .object "Switchlog$State"
abbrev wsX40 : List Cond := u_ws RX4 TX4 7
theorem nmX4 : ∀ a, a < 7 → ∀ b, b < 7 → a ≠ b → (TX4 a).2.1 ≠ (TX4 b).2.1 := by decide +kernel
theorem tyX4_ok : ∀ k, k < 7 → parseFieldDescriptor (TX4 k).2.2.1 = some (tyX4 k) := by decide +kernel
abbrev cX4_init : ByteArray := prog_1_method_1_code
def yX4_init : MethodName := ⟨RX4, "<init>", "()V"⟩
abbrev cX4_addNode : ByteArray := prog_1_method_2_code
def yX4_addNode : MethodName := ⟨RX4, "addNode", "(ZZ)I"⟩
abbrev cX4_addSwitch : ByteArray := prog_1_method_3_code
def yX4_addSwitch : MethodName := ⟨RX4, "addSwitch", "(IIZ)I"⟩
abbrev cX4_nodes : ByteArray := prog_1_method_4_code
def yX4_nodes : MethodName := ⟨RX4, "nodes", "()I"⟩
abbrev cX4_switches : ByteArray := prog_1_method_5_code
def yX4_switches : MethodName := ⟨RX4, "switches", "()I"⟩
abbrev cX4_act : ByteArray := prog_1_method_6_code
def yX4_act : MethodName := ⟨RX4, "act", "(II)I"⟩
abbrev cX4_reason : ByteArray := prog_1_method_7_code
def yX4_reason : MethodName := ⟨RX4, "reason", "(II)I"⟩
abbrev cX4_takeBack : ByteArray := prog_1_method_8_code
def yX4_takeBack : MethodName := ⟨RX4, "takeBack", "()I"⟩
abbrev cX4_log : ByteArray := prog_1_method_9_code
def yX4_log : MethodName := ⟨RX4, "log", "()I"⟩
abbrev cX4_logged : ByteArray := prog_1_method_10_code
def yX4_logged : MethodName := ⟨RX4, "logged", "(I)I"⟩
abbrev cX4_times : ByteArray := prog_1_method_11_code
def yX4_times : MethodName := ⟨RX4, "times", "(II)I"⟩
abbrev cX4_write : ByteArray := prog_1_method_12_code
def yX4_write : MethodName := ⟨RX4, "write", "(II)I"⟩
abbrev cX4_erase : ByteArray := prog_1_method_13_code
def yX4_erase : MethodName := ⟨RX4, "erase", "()I"⟩
abbrev cX4_check : ByteArray := prog_1_method_14_code
def yX4_check : MethodName := ⟨RX4, "check", "()I"⟩
abbrev cX4_carryOut : ByteArray := prog_1_method_15_code
def yX4_carryOut : MethodName := ⟨RX4, "carryOut", "(I)I"⟩
abbrev cX4_writeBack : ByteArray := prog_1_method_16_code
def yX4_writeBack : MethodName := ⟨RX4, "writeBack", "()I"⟩
abbrev cX4_permit : ByteArray := prog_1_method_17_code
def yX4_permit : MethodName := ⟨RX4, "permit", "(I)I"⟩
abbrev cX4_handBack : ByteArray := prog_1_method_18_code
def yX4_handBack : MethodName := ⟨RX4, "handBack", "(I)I"⟩
abbrev cX4_held : ByteArray := prog_1_method_19_code
def yX4_held : MethodName := ⟨RX4, "held", "()I"⟩
abbrev cX4_isClosed : ByteArray := prog_1_method_20_code
def yX4_isClosed : MethodName := ⟨RX4, "isClosed", "(I)Z"⟩
abbrev cX4_live : ByteArray := prog_1_method_21_code
def yX4_live : MethodName := ⟨RX4, "live", "()I"⟩
abbrev cX4_loaded : ByteArray := prog_1_method_22_code
def yX4_loaded : MethodName := ⟨RX4, "loaded", "()I"⟩
abbrev cX4_earthed : ByteArray := prog_1_method_23_code
def yX4_earthed : MethodName := ⟨RX4, "earthed", "()I"⟩
abbrev cX4_part : ByteArray := prog_1_method_24_code
def yX4_part : MethodName := ⟨RX4, "part", "(I)I"⟩
abbrev cX4_parts : ByteArray := prog_1_method_25_code
def yX4_parts : MethodName := ⟨RX4, "parts", "()I"⟩
abbrev cX4_toLive : ByteArray := prog_1_method_26_code
def yX4_toLive : MethodName := ⟨RX4, "toLive", "(I)I"⟩
abbrev cX4_requireNode : ByteArray := prog_1_method_27_code
def yX4_requireNode : MethodName := ⟨RX4, "requireNode", "(I)V"⟩
abbrev cX4_requireAct : ByteArray := prog_1_method_28_code
def yX4_requireAct : MethodName := ⟨RX4, "requireAct", "(II)V"⟩
abbrev cX4_reasonIn : ByteArray := prog_1_method_29_code
def yX4_reasonIn : MethodName := ⟨RX4, "reasonIn", "(LSwitchlog$State;II)I"⟩
abbrev cX4_isAlreadySo : ByteArray := prog_1_method_30_code
def yX4_isAlreadySo : MethodName := ⟨RX4, "isAlreadySo", "(LSwitchlog$State;II)Z"⟩
abbrev cX4_touchedNodes : ByteArray := prog_1_method_31_code
def yX4_touchedNodes : MethodName := ⟨RX4, "touchedNodes", "(II)I"⟩
abbrev cX4_isInterlocked : ByteArray := prog_1_method_32_code
def yX4_isInterlocked : MethodName := ⟨RX4, "isInterlocked", "(LSwitchlog$State;II)Z"⟩
abbrev cX4_breaksLoad : ByteArray := prog_1_method_33_code
def yX4_breaksLoad : MethodName := ⟨RX4, "breaksLoad", "(LSwitchlog$State;I)Z"⟩
abbrev cX4_makesLoad : ByteArray := prog_1_method_34_code
def yX4_makesLoad : MethodName := ⟨RX4, "makesLoad", "(LSwitchlog$State;I)Z"⟩
abbrev cX4_joinsLiveAndEarthed : ByteArray := prog_1_method_35_code
def yX4_joinsLiveAndEarthed : MethodName := ⟨RX4, "joinsLiveAndEarthed", "(LSwitchlog$State;I)Z"⟩
abbrev cX4_canBeHeld : ByteArray := prog_1_method_36_code
def yX4_canBeHeld : MethodName := ⟨RX4, "canBeHeld", "(I)Z"⟩
abbrev cX4_areSafe : ByteArray := prog_1_method_37_code
def yX4_areSafe : MethodName := ⟨RX4, "areSafe", "(ILSwitchlog$State;)Z"⟩
abbrev cX4_doAndLog : ByteArray := prog_1_method_38_code
def yX4_doAndLog : MethodName := ⟨RX4, "doAndLog", "(I)I"⟩
abbrev cX4_isOfSwitch : ByteArray := prog_1_method_39_code
def yX4_isOfSwitch : MethodName := ⟨RX4, "isOfSwitch", "(I)Z"⟩
abbrev cX4_turnsOn : ByteArray := prog_1_method_40_code
def yX4_turnsOn : MethodName := ⟨RX4, "turnsOn", "(I)Z"⟩
abbrev cX4_actOf : ByteArray := prog_1_method_41_code
def yX4_actOf : MethodName := ⟨RX4, "actOf", "(II)I"⟩
abbrev cX4_kindOf : ByteArray := prog_1_method_42_code
def yX4_kindOf : MethodName := ⟨RX4, "kindOf", "(I)I"⟩
abbrev cX4_whatOf : ByteArray := prog_1_method_43_code
def yX4_whatOf : MethodName := ⟨RX4, "whatOf", "(I)I"⟩
abbrev cX4_oppositeOf : ByteArray := prog_1_method_44_code
def yX4_oppositeOf : MethodName := ⟨RX4, "oppositeOf", "(I)I"⟩
def RX5 : String := "SwitchlogModel"
def TX5 : u_T := fun k => match k with
  | 0 => ("SwitchlogModel", "thrown", "I", false)
  | 1 => ("SwitchlogModel", "nodes", "I", false)
  | 2 => ("SwitchlogModel", "switches", "I", false)
  | 3 => ("SwitchlogModel", "sources", "I", false)
  | 4 => ("SwitchlogModel", "loads", "I", false)
  | 5 => ("SwitchlogModel", "one", "[I", true)
  | 6 => ("SwitchlogModel", "other", "[I", true)
  | 7 => ("SwitchlogModel", "isBreaker", "[Z", true)
  | 8 => ("SwitchlogModel", "closed", "I", false)
  | 9 => ("SwitchlogModel", "earths", "I", false)
  | 10 => ("SwitchlogModel", "on", "I", false)
  | 11 => ("SwitchlogModel", "logged", "I", false)
  | 12 => ("SwitchlogModel", "log", "[I", true)
  | 13 => ("SwitchlogModel", "written", "I", false)
  | 14 => ("SwitchlogModel", "sequence", "[I", true)
  | 15 => ("SwitchlogModel", "permits", "I", false)
  | 16 => ("SwitchlogModel", "holds", "[I", true)
  | 17 => ("SwitchlogModel", "isHeld", "[Z", true)
  | _ => ("SwitchlogModel", "far", "[I", true)
def tyX5 : Nat → FieldType := fun k => match k with
  | 0 => .int
  | 1 => .int
  | 2 => .int
  | 3 => .int
  | 4 => .int
  | 5 => .array .int
  | 6 => .array .int
  | 7 => .array .boolean
  | 8 => .int
  | 9 => .int
  | 10 => .int
  | 11 => .int
  | 12 => .array .int
  | 13 => .int
  | 14 => .array .int
  | 15 => .int
  | 16 => .array .int
  | 17 => .array .boolean
  | _ => .array .int
abbrev wsX50 : List Cond := u_ws RX5 TX5 19
theorem nmX5 : ∀ a, a < 19 → ∀ b, b < 19 → a ≠ b → (TX5 a).2.1 ≠ (TX5 b).2.1 := by decide +kernel
theorem tyX5_ok : ∀ k, k < 19 → parseFieldDescriptor (TX5 k).2.2.1 = some (tyX5 k) := by decide +kernel
abbrev cX5_init : ByteArray := prog_7_method_1_code
def yX5_init : MethodName := ⟨RX5, "<init>", "()V"⟩
abbrev cX5_thrown : ByteArray := prog_7_method_2_code
def yX5_thrown : MethodName := ⟨RX5, "thrown", "()I"⟩
abbrev cX5_in : ByteArray := prog_7_method_3_code
def yX5_in : MethodName := ⟨RX5, "in", "(III)Z"⟩
abbrev cX5_has : ByteArray := prog_7_method_4_code
def yX5_has : MethodName := ⟨RX5, "has", "(II)Z"⟩
abbrev cX5_isNode : ByteArray := prog_7_method_5_code
def yX5_isNode : MethodName := ⟨RX5, "isNode", "(I)Z"⟩
abbrev cX5_isSwitch : ByteArray := prog_7_method_6_code
def yX5_isSwitch : MethodName := ⟨RX5, "isSwitch", "(I)Z"⟩
abbrev cX5_addNode : ByteArray := prog_7_method_7_code
def yX5_addNode : MethodName := ⟨RX5, "addNode", "(ZZ)I"⟩
abbrev cX5_addSwitch : ByteArray := prog_7_method_8_code
def yX5_addSwitch : MethodName := ⟨RX5, "addSwitch", "(IIZ)I"⟩
abbrev cX5_nodes : ByteArray := prog_7_method_9_code
def yX5_nodes : MethodName := ⟨RX5, "nodes", "()I"⟩
abbrev cX5_switches : ByteArray := prog_7_method_10_code
def yX5_switches : MethodName := ⟨RX5, "switches", "()I"⟩
abbrev cX5_partOf : ByteArray := prog_7_method_11_code
def yX5_partOf : MethodName := ⟨RX5, "partOf", "(II)I"⟩
abbrev cX5_isLive : ByteArray := prog_7_method_12_code
def yX5_isLive : MethodName := ⟨RX5, "isLive", "(III)Z"⟩
abbrev cX5_isEarthed : ByteArray := prog_7_method_13_code
def yX5_isEarthed : MethodName := ⟨RX5, "isEarthed", "(III)Z"⟩
abbrev cX5_isLoaded : ByteArray := prog_7_method_14_code
def yX5_isLoaded : MethodName := ⟨RX5, "isLoaded", "(II)Z"⟩
abbrev cX5_heldNow : ByteArray := prog_7_method_15_code
def yX5_heldNow : MethodName := ⟨RX5, "heldNow", "()I"⟩
abbrev cX5_isReady : ByteArray := prog_7_method_16_code
def yX5_isReady : MethodName := ⟨RX5, "isReady", "(II)Z"⟩
abbrev cX5_touched : ByteArray := prog_7_method_17_code
def yX5_touched : MethodName := ⟨RX5, "touched", "(II)I"⟩
abbrev cX5_isBarredOpening : ByteArray := prog_7_method_18_code
def yX5_isBarredOpening : MethodName := ⟨RX5, "isBarredOpening", "(I)Z"⟩
abbrev cX5_isBarredClosing : ByteArray := prog_7_method_19_code
def yX5_isBarredClosing : MethodName := ⟨RX5, "isBarredClosing", "(I)Z"⟩
abbrev cX5_isBarred : ByteArray := prog_7_method_20_code
def yX5_isBarred : MethodName := ⟨RX5, "isBarred", "(II)Z"⟩
abbrev cX5_does : ByteArray := prog_7_method_21_code
def yX5_does : MethodName := ⟨RX5, "does", "(II)V"⟩
abbrev cX5_areHeldSafe : ByteArray := prog_7_method_22_code
def yX5_areHeldSafe : MethodName := ⟨RX5, "areHeldSafe", "()Z"⟩
abbrev cX5_isSafe : ByteArray := prog_7_method_23_code
def yX5_isSafe : MethodName := ⟨RX5, "isSafe", "(II)Z"⟩
abbrev cX5_why : ByteArray := prog_7_method_24_code
def yX5_why : MethodName := ⟨RX5, "why", "(II)I"⟩
abbrev cX5_asks : ByteArray := prog_7_method_25_code
def yX5_asks : MethodName := ⟨RX5, "asks", "(II)Z"⟩
abbrev cX5_acts : ByteArray := prog_7_method_26_code
def yX5_acts : MethodName := ⟨RX5, "acts", "(II)I"⟩
abbrev cX5_act : ByteArray := prog_7_method_27_code
def yX5_act : MethodName := ⟨RX5, "act", "(II)I"⟩
abbrev cX5_reason : ByteArray := prog_7_method_28_code
def yX5_reason : MethodName := ⟨RX5, "reason", "(II)I"⟩
abbrev cX5_opposite : ByteArray := prog_7_method_29_code
def yX5_opposite : MethodName := ⟨RX5, "opposite", "(I)I"⟩
abbrev cX5_takeBack : ByteArray := prog_7_method_30_code
def yX5_takeBack : MethodName := ⟨RX5, "takeBack", "()I"⟩
abbrev cX5_log : ByteArray := prog_7_method_31_code
def yX5_log : MethodName := ⟨RX5, "log", "()I"⟩
abbrev cX5_logged : ByteArray := prog_7_method_32_code
def yX5_logged : MethodName := ⟨RX5, "logged", "(I)I"⟩
abbrev cX5_times : ByteArray := prog_7_method_33_code
def yX5_times : MethodName := ⟨RX5, "times", "(II)I"⟩
abbrev cX5_write : ByteArray := prog_7_method_34_code
def yX5_write : MethodName := ⟨RX5, "write", "(II)I"⟩
abbrev cX5_erase : ByteArray := prog_7_method_35_code
def yX5_erase : MethodName := ⟨RX5, "erase", "()I"⟩
abbrev cX5_check : ByteArray := prog_7_method_36_code
def yX5_check : MethodName := ⟨RX5, "check", "()I"⟩
abbrev cX5_carryOut : ByteArray := prog_7_method_37_code
def yX5_carryOut : MethodName := ⟨RX5, "carryOut", "(I)I"⟩
abbrev cX5_writeBack : ByteArray := prog_7_method_38_code
def yX5_writeBack : MethodName := ⟨RX5, "writeBack", "()I"⟩
abbrev cX5_permit : ByteArray := prog_7_method_39_code
def yX5_permit : MethodName := ⟨RX5, "permit", "(I)I"⟩
abbrev cX5_handBack : ByteArray := prog_7_method_40_code
def yX5_handBack : MethodName := ⟨RX5, "handBack", "(I)I"⟩
abbrev cX5_held : ByteArray := prog_7_method_41_code
def yX5_held : MethodName := ⟨RX5, "held", "()I"⟩
abbrev cX5_isClosed : ByteArray := prog_7_method_42_code
def yX5_isClosed : MethodName := ⟨RX5, "isClosed", "(I)Z"⟩
abbrev cX5_live : ByteArray := prog_7_method_43_code
def yX5_live : MethodName := ⟨RX5, "live", "()I"⟩
abbrev cX5_loaded : ByteArray := prog_7_method_44_code
def yX5_loaded : MethodName := ⟨RX5, "loaded", "()I"⟩
abbrev cX5_earthed : ByteArray := prog_7_method_45_code
def yX5_earthed : MethodName := ⟨RX5, "earthed", "()I"⟩
abbrev cX5_part : ByteArray := prog_7_method_46_code
def yX5_part : MethodName := ⟨RX5, "part", "(I)I"⟩
abbrev cX5_parts : ByteArray := prog_7_method_47_code
def yX5_parts : MethodName := ⟨RX5, "parts", "()I"⟩
abbrev cX5_laysFar : ByteArray := prog_7_method_48_code
def yX5_laysFar : MethodName := ⟨RX5, "laysFar", "(I)V"⟩
abbrev cX5_toLive : ByteArray := prog_7_method_49_code
def yX5_toLive : MethodName := ⟨RX5, "toLive", "(I)I"⟩
def RJx145de : String := "java/io/Serializable"
def TJx145de : u_T := fun k => match k with
  | _ => ("", "", "", false)
def tyJx145de : Nat → FieldType := fun k => match k with
  | _ => .int
abbrev wsJx145de0 : List Cond := u_ws RJx145de TJx145de 0
theorem nmJx145de : ∀ a, a < 0 → ∀ b, b < 0 → a ≠ b → (TJx145de a).2.1 ≠ (TJx145de b).2.1 := by decide +kernel
theorem tyJx145de_ok : ∀ k, k < 0 → parseFieldDescriptor (TJx145de k).2.2.1 = some (tyJx145de k) := by decide +kernel
def RJ9 : String := "java/lang/Math"
def TJ9 : u_T := fun k => match k with
  | _ => ("", "", "", false)
def tyJ9 : Nat → FieldType := fun k => match k with
  | _ => .int
abbrev wsJ90 : List Cond := u_ws RJ9 TJ9 0
theorem nmJ9 : ∀ a, a < 0 → ∀ b, b < 0 → a ≠ b → (TJ9 a).2.1 ≠ (TJ9 b).2.1 := by decide +kernel
theorem tyJ9_ok : ∀ k, k < 0 → parseFieldDescriptor (TJ9 k).2.2.1 = some (tyJ9 k) := by decide +kernel
abbrev cJ9_min_7cf53 : ByteArray := prog_13_method_69_code
def yJ9_min_7cf53 : MethodName := ⟨RJ9, "min", "(II)I"⟩
def RJ0 : String := "java/lang/String"
def TJ0 : u_T := fun k => match k with
  | _ => ("", "", "", false)
def tyJ0 : Nat → FieldType := fun k => match k with
  | _ => .int
abbrev wsJ00 : List Cond := u_ws RJ0 TJ0 0
theorem nmJ0 : ∀ a, a < 0 → ∀ b, b < 0 → a ≠ b → (TJ0 a).2.1 ≠ (TJ0 b).2.1 := by decide +kernel
theorem tyJ0_ok : ∀ k, k < 0 → parseFieldDescriptor (TJ0 k).2.2.1 = some (tyJ0 k) := by decide +kernel
def RL : String := "SwitchlogLaw"
abbrev cL_addNode : ByteArray := method_3_code
def yL_addNode : MethodName := ⟨RL, "addNode", "(LSwitchlog;ZZ[J)I"⟩
abbrev cL_addSwitch : ByteArray := method_4_code
def yL_addSwitch : MethodName := ⟨RL, "addSwitch", "(LSwitchlog;IIZ[J)I"⟩
abbrev cL_act : ByteArray := method_5_code
def yL_act : MethodName := ⟨RL, "act", "(LSwitchlog;II[J)I"⟩
abbrev cL_reason : ByteArray := method_6_code
def yL_reason : MethodName := ⟨RL, "reason", "(LSwitchlog;II[J)I"⟩
abbrev cL_takeBack : ByteArray := method_7_code
def yL_takeBack : MethodName := ⟨RL, "takeBack", "(LSwitchlog;[J)I"⟩
abbrev cL_logged : ByteArray := method_8_code
def yL_logged : MethodName := ⟨RL, "logged", "(LSwitchlog;I[J)I"⟩
abbrev cL_times : ByteArray := method_9_code
def yL_times : MethodName := ⟨RL, "times", "(LSwitchlog;II[J)I"⟩
abbrev cL_write : ByteArray := method_10_code
def yL_write : MethodName := ⟨RL, "write", "(LSwitchlog;II[J)I"⟩
abbrev cL_carryOut : ByteArray := method_11_code
def yL_carryOut : MethodName := ⟨RL, "carryOut", "(LSwitchlog;I[J)I"⟩
abbrev cL_permit : ByteArray := method_12_code
def yL_permit : MethodName := ⟨RL, "permit", "(LSwitchlog;I[J)I"⟩
abbrev cL_handBack : ByteArray := method_13_code
def yL_handBack : MethodName := ⟨RL, "handBack", "(LSwitchlog;I[J)I"⟩
abbrev cL_isClosed : ByteArray := method_14_code
def yL_isClosed : MethodName := ⟨RL, "isClosed", "(LSwitchlog;I[J)I"⟩
abbrev cL_part : ByteArray := method_15_code
def yL_part : MethodName := ⟨RL, "part", "(LSwitchlog;I[J)I"⟩
abbrev cL_toLive : ByteArray := method_16_code
def yL_toLive : MethodName := ⟨RL, "toLive", "(LSwitchlog;I[J)I"⟩
abbrev cL_law : ByteArray := code
def yL_law : MethodName := ⟨RL, "law", "([I)Z"⟩
def wsX0_init : List Cond := .code yX0_init cX0_init 2 none :: ([.methodLink RX0 1 objectInit, .instanceMethod objectInit, .code objectInit ⟨#[0xb1]⟩ 1 none, .arrayClass .int, .fieldLink RX0 7 "Switchlog$ActRow" "acts" "[I"] ++ wsX00)
def wsX0_size : List Cond := .code yX0_size cX0_size 1 (some .int) :: ([.fieldLink RX0 13 "Switchlog$ActRow" "size" "I"] ++ wsX00)
def wsX0_get : List Cond := .code yX0_get cX0_get 2 (some .int) :: ([.fieldLink RX0 7 "Switchlog$ActRow" "acts" "[I"] ++ wsX00)
def wsX0_latest : List Cond := .code yX0_latest cX0_latest 2 (some .int) :: ([.fieldLink RX0 7 "Switchlog$ActRow" "acts" "[I", .fieldLink RX0 13 "Switchlog$ActRow" "size" "I"] ++ wsX00)
def wsX0_append : List Cond := .code yX0_append cX0_append 2 none :: ([.fieldLink RX0 7 "Switchlog$ActRow" "acts" "[I", .fieldLink RX0 13 "Switchlog$ActRow" "size" "I"] ++ wsX00)
def wsX0_dropLast : List Cond := .code yX0_dropLast cX0_dropLast 1 none :: ([.fieldLink RX0 13 "Switchlog$ActRow" "size" "I"] ++ wsX00)
def wsX0_dropFirst : List Cond := .code yX0_dropFirst cX0_dropFirst 3 none :: ([.fieldLink RX0 13 "Switchlog$ActRow" "size" "I", .fieldLink RX0 7 "Switchlog$ActRow" "acts" "[I"] ++ wsX00)
def wsX0_count : List Cond := .code yX0_count cX0_count 4 (some .int) :: ([.fieldLink RX0 13 "Switchlog$ActRow" "size" "I", .fieldLink RX0 7 "Switchlog$ActRow" "acts" "[I"] ++ wsX00)
def wsX1_init : List Cond := .code yX1_init cX1_init 1 none :: ([.methodLink RX1 3 objectInit, .instanceMethod objectInit, .code objectInit ⟨#[0xb1]⟩ 1 none, .arrayClass .int, .fieldLink RX1 9 "Switchlog$Net" "ends" "[I"] ++ wsX10)
def wsX1_nodeCount : List Cond := .code yX1_nodeCount cX1_nodeCount 1 (some .int) :: ([.fieldLink RX1 15 "Switchlog$Net" "nodeCount" "I"] ++ wsX10)
def wsX1_switchCount : List Cond := .code yX1_switchCount cX1_switchCount 1 (some .int) :: ([.fieldLink RX1 19 "Switchlog$Net" "switchCount" "I"] ++ wsX10)
def wsX1_allNodes : List Cond := .code yX1_allNodes cX1_allNodes 1 (some .int) :: ([.fieldLink RX1 15 "Switchlog$Net" "nodeCount" "I"] ++ wsX10)
def wsX1_hasNode : List Cond := .code yX1_hasNode cX1_hasNode 2 (some .boolean) :: ([.fieldLink RX1 15 "Switchlog$Net" "nodeCount" "I"] ++ wsX10)
def wsX1_hasSwitch : List Cond := .code yX1_hasSwitch cX1_hasSwitch 2 (some .boolean) :: ([.fieldLink RX1 19 "Switchlog$Net" "switchCount" "I"] ++ wsX10)
def wsX1_appendNode : List Cond := .code yX1_appendNode cX1_appendNode 4 (some .int) :: ([.fieldLink RX1 15 "Switchlog$Net" "nodeCount" "I", .fieldLink RX1 22 "Switchlog$Net" "sources" "I", .fieldLink RX1 25 "Switchlog$Net" "loads" "I"] ++ wsX10)
def wsX1_appendSwitch : List Cond := .code yX1_appendSwitch cX1_appendSwitch 4 (some .int) :: ([.fieldLink RX1 9 "Switchlog$Net" "ends" "[I", .fieldLink RX1 19 "Switchlog$Net" "switchCount" "I", .fieldLink RX1 28 "Switchlog$Net" "breakers" "I"] ++ wsX10)
def wsX1_hasSource : List Cond := .code yX1_hasSource cX1_hasSource 2 (some .boolean) :: ([.fieldLink RX1 22 "Switchlog$Net" "sources" "I"] ++ wsX10)
def wsX1_isBreaker : List Cond := .code yX1_isBreaker cX1_isBreaker 2 (some .boolean) :: ([.fieldLink RX1 28 "Switchlog$Net" "breakers" "I"] ++ wsX10)
def wsX1_endsOf : List Cond := .code yX1_endsOf cX1_endsOf 2 (some .int) :: ([.fieldLink RX1 9 "Switchlog$Net" "ends" "[I"] ++ wsX10)
def wsX1_connectedWith : List Cond := .code yX1_connectedWith cX1_connectedWith 8 (some .int) :: ([.fieldLink RX1 15 "Switchlog$Net" "nodeCount" "I", .fieldLink RX1 19 "Switchlog$Net" "switchCount" "I", .fieldLink RX1 9 "Switchlog$Net" "ends" "[I"] ++ wsX10 ++ wsX30)
def wsX1_liveNodes : List Cond := .code yX1_liveNodes cX1_liveNodes 2 (some .int) :: ([.methodLink RX1 34 yX1_connectedWith, .instanceMethod yX1_connectedWith, .selects RX1 yX1_connectedWith yX1_connectedWith, .initialized RX1, .code yX1_connectedWith cX1_connectedWith 8 (some .int), .fieldLink RX1 15 "Switchlog$Net" "nodeCount" "I", .fieldLink RX1 19 "Switchlog$Net" "switchCount" "I", .fieldLink RX1 9 "Switchlog$Net" "ends" "[I"] ++ wsX30 ++ wsX10)
def wsX1_earthedNodes : List Cond := .code yX1_earthedNodes cX1_earthedNodes 2 (some .int) :: ([.methodLink RX1 34 yX1_connectedWith, .instanceMethod yX1_connectedWith, .selects RX1 yX1_connectedWith yX1_connectedWith, .initialized RX1, .code yX1_connectedWith cX1_connectedWith 8 (some .int), .fieldLink RX1 15 "Switchlog$Net" "nodeCount" "I", .fieldLink RX1 19 "Switchlog$Net" "switchCount" "I", .fieldLink RX1 9 "Switchlog$Net" "ends" "[I"] ++ wsX30 ++ wsX10)
def wsX1_loadedNodes : List Cond := .code yX1_loadedNodes cX1_loadedNodes 2 (some .int) :: ([.fieldLink RX1 25 "Switchlog$Net" "loads" "I", .methodLink RX1 34 yX1_connectedWith, .instanceMethod yX1_connectedWith, .selects RX1 yX1_connectedWith yX1_connectedWith, .initialized RX1, .code yX1_connectedWith cX1_connectedWith 8 (some .int), .fieldLink RX1 15 "Switchlog$Net" "nodeCount" "I", .fieldLink RX1 19 "Switchlog$Net" "switchCount" "I", .fieldLink RX1 9 "Switchlog$Net" "ends" "[I"] ++ wsX30 ++ wsX10)
def wsX1_areEndsConnected : List Cond := .code yX1_areEndsConnected cX1_areEndsConnected 5 (some .boolean) :: ([.fieldLink RX1 9 "Switchlog$Net" "ends" "[I", .methodLink RX1 34 yX1_connectedWith, .instanceMethod yX1_connectedWith, .selects RX1 yX1_connectedWith yX1_connectedWith, .initialized RX1, .code yX1_connectedWith cX1_connectedWith 8 (some .int), .fieldLink RX1 15 "Switchlog$Net" "nodeCount" "I", .fieldLink RX1 19 "Switchlog$Net" "switchCount" "I"] ++ wsX10 ++ wsX30)
def wsX1_countParts : List Cond := .code yX1_countParts cX1_countParts 5 (some .int) :: ([.fieldLink RX1 15 "Switchlog$Net" "nodeCount" "I", .methodLink RX1 41 yX1_allNodes, .instanceMethod yX1_allNodes, .selects RX1 yX1_allNodes yX1_allNodes, .initialized RX1, .code yX1_allNodes cX1_allNodes 1 (some .int), .methodLink RX1 34 yX1_connectedWith, .instanceMethod yX1_connectedWith, .selects RX1 yX1_connectedWith yX1_connectedWith, .code yX1_connectedWith cX1_connectedWith 8 (some .int), .fieldLink RX1 19 "Switchlog$Net" "switchCount" "I", .fieldLink RX1 9 "Switchlog$Net" "ends" "[I"] ++ wsX10 ++ wsX30)
def wsX1_withNeighbours : List Cond := .code yX1_withNeighbours cX1_withNeighbours 4 (some .int) :: ([.fieldLink RX1 19 "Switchlog$Net" "switchCount" "I", .fieldLink RX1 9 "Switchlog$Net" "ends" "[I"] ++ wsX10)
def wsX2_init : List Cond := .code yX2_init cX2_init 1 none :: ([.methodLink RX2 3 objectInit, .instanceMethod objectInit, .code objectInit ⟨#[0xb1]⟩ 1 none, .arrayClass .int, .fieldLink RX2 9 "Switchlog$Permits" "holds" "[I"] ++ wsX20)
def wsX2_given : List Cond := .code yX2_given cX2_given 1 (some .int) :: ([.fieldLink RX2 15 "Switchlog$Permits" "given" "I"] ++ wsX20)
def wsX2_give : List Cond := .code yX2_give cX2_give 2 (some .int) :: ([.fieldLink RX2 9 "Switchlog$Permits" "holds" "[I", .fieldLink RX2 15 "Switchlog$Permits" "given" "I"] ++ wsX20)
def wsX2_isHeld : List Cond := .code yX2_isHeld cX2_isHeld 2 (some .boolean) :: ([.fieldLink RX2 9 "Switchlog$Permits" "holds" "[I"] ++ wsX20)
def wsX2_release : List Cond := .code yX2_release cX2_release 2 none :: ([.fieldLink RX2 9 "Switchlog$Permits" "holds" "[I"] ++ wsX20)
def wsX2_countHeld : List Cond := .code yX2_countHeld cX2_countHeld 3 (some .int) :: ([.fieldLink RX2 15 "Switchlog$Permits" "given" "I", .methodLink RX2 19 yX2_isHeld, .instanceMethod yX2_isHeld, .selects RX2 yX2_isHeld yX2_isHeld, .initialized RX2, .code yX2_isHeld cX2_isHeld 2 (some .boolean), .fieldLink RX2 9 "Switchlog$Permits" "holds" "[I"] ++ wsX20)
def wsX2_heldNodes : List Cond := .code yX2_heldNodes cX2_heldNodes 3 (some .int) :: ([.fieldLink RX2 15 "Switchlog$Permits" "given" "I", .fieldLink RX2 9 "Switchlog$Permits" "holds" "[I"] ++ wsX20)
def wsX3_init : List Cond := .code yX3_init cX3_init 1 none :: ([.methodLink RX3 3 objectInit, .instanceMethod objectInit, .code objectInit ⟨#[0xb1]⟩ 1 none])
def wsX3_copyFrom : List Cond := .code yX3_copyFrom cX3_copyFrom 2 none :: ([.fieldLink RX3 9 "Switchlog$State" "closed" "I", .fieldLink RX3 15 "Switchlog$State" "earths" "I", .fieldLink RX3 18 "Switchlog$State" "sources" "I"] ++ wsX30)
def wsX3_flip : List Cond := .code yX3_flip cX3_flip 4 none :: ([.fieldLink RX3 9 "Switchlog$State" "closed" "I", .fieldLink RX3 15 "Switchlog$State" "earths" "I", .fieldLink RX3 18 "Switchlog$State" "sources" "I"] ++ wsX30)
def wsX3_isOn : List Cond := .code yX3_isOn cX3_isOn 3 (some .boolean) :: ([.fieldLink RX3 9 "Switchlog$State" "closed" "I", .fieldLink RX3 15 "Switchlog$State" "earths" "I", .fieldLink RX3 18 "Switchlog$State" "sources" "I"] ++ wsX30)
def wsX4_init_r1 : List Cond := [Cond.methodLink RX4 1 objectInit, Cond.instanceMethod objectInit, Cond.code objectInit ⟨#[0xb1]⟩ 1 none, Cond.classLink RX4 7 RX1, Cond.instantiable RX1 6, Cond.initialized RX1, Cond.fieldLink RX4 10 "Switchlog" "net" "LSwitchlog$Net;", Cond.classLink RX4 16 RX3, Cond.instantiable RX3 3, Cond.initialized RX3, Cond.fieldLink RX4 19 "Switchlog" "now" "LSwitchlog$State;", Cond.classLink RX4 23 RX0, Cond.instantiable RX0 2, Cond.initialized RX0, Cond.fieldLink RX4 28 "Switchlog" "done" "LSwitchlog$ActRow;", Cond.fieldLink RX4 32 "Switchlog" "written" "LSwitchlog$ActRow;", Cond.classLink RX4 35 RX2, Cond.instantiable RX2 2, Cond.initialized RX2, Cond.fieldLink RX4 38 "Switchlog" "permits" "LSwitchlog$Permits;", Cond.fieldLink RX4 42 "Switchlog" "thought" "LSwitchlog$State;", Cond.fieldLink RX4 45 "Switchlog" "after" "LSwitchlog$State;", Cond.instanceMethod yX1_init, Cond.code yX1_init cX1_init 1 none]
def wsX4_init_r2 : List Cond := [Cond.methodLink RX1 3 objectInit, Cond.arrayClass .int, Cond.fieldLink RX1 9 "Switchlog$Net" "ends" "[I", Cond.instanceMethod yX3_init, Cond.code yX3_init cX3_init 1 none, Cond.methodLink RX3 3 objectInit, Cond.methodLink RX4 25 yX0_init, Cond.instanceMethod yX0_init, Cond.code yX0_init cX0_init 2 none, Cond.methodLink RX0 1 objectInit, Cond.fieldLink RX0 7 "Switchlog$ActRow" "acts" "[I", Cond.instanceMethod yX2_init, Cond.code yX2_init cX2_init 1 none, Cond.methodLink RX2 3 objectInit, Cond.fieldLink RX2 9 "Switchlog$Permits" "holds" "[I"]
def wsX4_init : List Cond := .code yX4_init cX4_init 1 none :: ((wsX4_init_r1 ++ wsX4_init_r2) ++ wsX10 ++ wsX40 ++ wsX30 ++ wsX00 ++ wsX20)
def wsX4_addNode : List Cond := .code yX4_addNode cX4_addNode 3 (some .int) :: ([.classLink RX4 52 "java/lang/IllegalStateException", .initialized "java/lang/IllegalStateException", .fieldLink RX4 10 "Switchlog" "net" "LSwitchlog$Net;", .methodLink RX4 48 yX1_nodeCount, .instanceMethod yX1_nodeCount, .selects RX1 yX1_nodeCount yX1_nodeCount, .initialized RX1, .code yX1_nodeCount cX1_nodeCount 1 (some .int), .fieldLink RX1 15 "Switchlog$Net" "nodeCount" "I", .methodLink RX4 59 yX1_appendNode, .instanceMethod yX1_appendNode, .selects RX1 yX1_appendNode yX1_appendNode, .code yX1_appendNode cX1_appendNode 4 (some .int), .fieldLink RX1 22 "Switchlog$Net" "sources" "I", .fieldLink RX1 25 "Switchlog$Net" "loads" "I"] ++ wsX40 ++ wsX10 ++ (vx_atS RX4 56 "java/lang/IllegalStateException" ["java/lang/RuntimeException", "java/lang/Exception"]).filter goodWord)
def wsX4_requireNode : List Cond := .code yX4_requireNode cX4_requireNode 2 none :: ([.classLink RX4 121 "java/lang/IndexOutOfBoundsException", .initialized "java/lang/IndexOutOfBoundsException", .fieldLink RX4 10 "Switchlog" "net" "LSwitchlog$Net;", .methodLink RX4 226 yX1_hasNode, .instanceMethod yX1_hasNode, .selects RX1 yX1_hasNode yX1_hasNode, .initialized RX1, .code yX1_hasNode cX1_hasNode 2 (some .boolean), .fieldLink RX1 15 "Switchlog$Net" "nodeCount" "I"] ++ wsX40 ++ wsX10 ++ (vx_atS RX4 125 "java/lang/IndexOutOfBoundsException" ["java/lang/RuntimeException", "java/lang/Exception"]).filter goodWord)
def wsX4_addSwitch_r1 : List Cond := [Cond.classLink RX4 66 "java/lang/IllegalArgumentException", Cond.initialized "java/lang/IllegalArgumentException", Cond.classLink RX4 52 "java/lang/IllegalStateException", Cond.initialized "java/lang/IllegalStateException", Cond.fieldLink RX4 10 "Switchlog" "net" "LSwitchlog$Net;", Cond.methodLink RX4 63 yX4_requireNode, Cond.instanceMethod yX4_requireNode, Cond.selects RX4 yX4_requireNode yX4_requireNode, Cond.initialized RX4, Cond.code yX4_requireNode cX4_requireNode 2 none, Cond.classLink RX4 121 "java/lang/IndexOutOfBoundsException", Cond.initialized "java/lang/IndexOutOfBoundsException", Cond.methodLink RX4 226 yX1_hasNode, Cond.instanceMethod yX1_hasNode, Cond.selects RX1 yX1_hasNode yX1_hasNode, Cond.initialized RX1, Cond.code yX1_hasNode cX1_hasNode 2 (some .boolean), Cond.fieldLink RX1 15 "Switchlog$Net" "nodeCount" "I", Cond.methodLink RX4 71 yX1_switchCount, Cond.instanceMethod yX1_switchCount, Cond.selects RX1 yX1_switchCount yX1_switchCount, Cond.code yX1_switchCount cX1_switchCount 1 (some .int), Cond.fieldLink RX1 19 "Switchlog$Net" "switchCount" "I", Cond.methodLink RX4 76 yX1_appendSwitch]
def wsX4_addSwitch_r2 : List Cond := [Cond.instanceMethod yX1_appendSwitch, Cond.selects RX1 yX1_appendSwitch yX1_appendSwitch, Cond.code yX1_appendSwitch cX1_appendSwitch 4 (some .int), Cond.fieldLink RX1 9 "Switchlog$Net" "ends" "[I", Cond.fieldLink RX1 28 "Switchlog$Net" "breakers" "I"]
def wsX4_addSwitch : List Cond := .code yX4_addSwitch cX4_addSwitch 4 (some .int) :: ((wsX4_addSwitch_r1 ++ wsX4_addSwitch_r2) ++ wsX40 ++ wsX10 ++ (vx_atS RX4 70 "java/lang/IllegalArgumentException" ["java/lang/RuntimeException", "java/lang/Exception"]).filter goodWord ++ (vx_atS RX4 56 "java/lang/IllegalStateException" ["java/lang/RuntimeException", "java/lang/Exception"]).filter goodWord ++ (vx_atS RX4 125 "java/lang/IndexOutOfBoundsException" ["java/lang/RuntimeException", "java/lang/Exception"]).filter goodWord)
def wsX4_nodes : List Cond := .code yX4_nodes cX4_nodes 1 (some .int) :: ([.fieldLink RX4 10 "Switchlog" "net" "LSwitchlog$Net;", .methodLink RX4 48 yX1_nodeCount, .instanceMethod yX1_nodeCount, .selects RX1 yX1_nodeCount yX1_nodeCount, .initialized RX1, .code yX1_nodeCount cX1_nodeCount 1 (some .int), .fieldLink RX1 15 "Switchlog$Net" "nodeCount" "I"] ++ wsX40 ++ wsX10)
def wsX4_switches : List Cond := .code yX4_switches cX4_switches 1 (some .int) :: ([.fieldLink RX4 10 "Switchlog" "net" "LSwitchlog$Net;", .methodLink RX4 71 yX1_switchCount, .instanceMethod yX1_switchCount, .selects RX1 yX1_switchCount yX1_switchCount, .initialized RX1, .code yX1_switchCount cX1_switchCount 1 (some .int), .fieldLink RX1 19 "Switchlog$Net" "switchCount" "I"] ++ wsX40 ++ wsX10)
def wsX4_isOfSwitch : List Cond := .code yX4_isOfSwitch cX4_isOfSwitch 1 (some .boolean) :: ([])
def wsX4_requireAct : List Cond := .code yX4_requireAct cX4_requireAct 3 none :: ([.classLink RX4 66 "java/lang/IllegalArgumentException", .initialized "java/lang/IllegalArgumentException", .classLink RX4 121 "java/lang/IndexOutOfBoundsException", .initialized "java/lang/IndexOutOfBoundsException", .fieldLink RX4 10 "Switchlog" "net" "LSwitchlog$Net;", .methodLink RX4 233 yX4_isOfSwitch, .static yX4_isOfSwitch, .initialized RX4, .code yX4_isOfSwitch cX4_isOfSwitch 1 (some .boolean), .methodLink RX4 188 yX1_hasSwitch, .instanceMethod yX1_hasSwitch, .selects RX1 yX1_hasSwitch yX1_hasSwitch, .initialized RX1, .code yX1_hasSwitch cX1_hasSwitch 2 (some .boolean), .fieldLink RX1 19 "Switchlog$Net" "switchCount" "I", .methodLink RX4 226 yX1_hasNode, .instanceMethod yX1_hasNode, .selects RX1 yX1_hasNode yX1_hasNode, .code yX1_hasNode cX1_hasNode 2 (some .boolean), .fieldLink RX1 15 "Switchlog$Net" "nodeCount" "I"] ++ wsX40 ++ wsX10 ++ (vx_atS RX4 70 "java/lang/IllegalArgumentException" ["java/lang/RuntimeException", "java/lang/Exception"]).filter goodWord ++ (vx_atS RX4 125 "java/lang/IndexOutOfBoundsException" ["java/lang/RuntimeException", "java/lang/Exception"]).filter goodWord)
def wsX4_actOf : List Cond := .code yX4_actOf cX4_actOf 2 (some .int) :: ([])
def wsX4_kindOf : List Cond := .code yX4_kindOf cX4_kindOf 1 (some .int) :: ([])
def wsX4_whatOf : List Cond := .code yX4_whatOf cX4_whatOf 1 (some .int) :: ([])
def wsX4_turnsOn : List Cond := .code yX4_turnsOn cX4_turnsOn 1 (some .boolean) :: ([])
def wsX4_isAlreadySo : List Cond := .code yX4_isAlreadySo cX4_isAlreadySo 5 (some .boolean) :: ([.fieldLink RX4 10 "Switchlog" "net" "LSwitchlog$Net;", .methodLink RX4 252 yX1_hasSource, .instanceMethod yX1_hasSource, .selects RX1 yX1_hasSource yX1_hasSource, .initialized RX1, .code yX1_hasSource cX1_hasSource 2 (some .boolean), .fieldLink RX1 22 "Switchlog$Net" "sources" "I", .methodLink RX4 193 yX3_isOn, .instanceMethod yX3_isOn, .selects RX3 yX3_isOn yX3_isOn, .initialized RX3, .code yX3_isOn cX3_isOn 3 (some .boolean), .fieldLink RX3 9 "Switchlog$State" "closed" "I", .fieldLink RX3 15 "Switchlog$State" "earths" "I", .fieldLink RX3 18 "Switchlog$State" "sources" "I", .methodLink RX4 255 yX4_turnsOn, .static yX4_turnsOn, .initialized RX4, .code yX4_turnsOn cX4_turnsOn 1 (some .boolean)] ++ wsX40 ++ wsX10 ++ wsX30)
def wsX4_touchedNodes : List Cond := .code yX4_touchedNodes cX4_touchedNodes 3 (some .int) :: ([.fieldLink RX4 10 "Switchlog" "net" "LSwitchlog$Net;", .methodLink RX4 233 yX4_isOfSwitch, .static yX4_isOfSwitch, .initialized RX4, .code yX4_isOfSwitch cX4_isOfSwitch 1 (some .boolean), .methodLink RX4 258 yX1_endsOf, .instanceMethod yX1_endsOf, .selects RX1 yX1_endsOf yX1_endsOf, .initialized RX1, .code yX1_endsOf cX1_endsOf 2 (some .int), .fieldLink RX1 9 "Switchlog$Net" "ends" "[I"] ++ wsX40 ++ wsX10)
def wsX4_breaksLoad_r1 : List Cond := [Cond.fieldLink RX4 10 "Switchlog" "net" "LSwitchlog$Net;", Cond.fieldLink RX4 45 "Switchlog" "after" "LSwitchlog$State;", Cond.methodLink RX4 271 yX1_isBreaker, Cond.instanceMethod yX1_isBreaker, Cond.selects RX1 yX1_isBreaker yX1_isBreaker, Cond.initialized RX1, Cond.code yX1_isBreaker cX1_isBreaker 2 (some .boolean), Cond.fieldLink RX1 28 "Switchlog$Net" "breakers" "I", Cond.methodLink RX4 201 yX1_loadedNodes, Cond.instanceMethod yX1_loadedNodes, Cond.selects RX1 yX1_loadedNodes yX1_loadedNodes, Cond.code yX1_loadedNodes cX1_loadedNodes 2 (some .int), Cond.fieldLink RX1 25 "Switchlog$Net" "loads" "I", Cond.methodLink RX1 34 yX1_connectedWith, Cond.instanceMethod yX1_connectedWith, Cond.selects RX1 yX1_connectedWith yX1_connectedWith, Cond.code yX1_connectedWith cX1_connectedWith 8 (some .int), Cond.fieldLink RX1 15 "Switchlog$Net" "nodeCount" "I", Cond.fieldLink RX1 19 "Switchlog$Net" "switchCount" "I", Cond.fieldLink RX1 9 "Switchlog$Net" "ends" "[I", Cond.methodLink RX4 258 yX1_endsOf, Cond.instanceMethod yX1_endsOf, Cond.selects RX1 yX1_endsOf yX1_endsOf, Cond.code yX1_endsOf cX1_endsOf 2 (some .int)]
def wsX4_breaksLoad_r2 : List Cond := [Cond.methodLink RX4 274 yX1_areEndsConnected, Cond.instanceMethod yX1_areEndsConnected, Cond.selects RX1 yX1_areEndsConnected yX1_areEndsConnected, Cond.code yX1_areEndsConnected cX1_areEndsConnected 5 (some .boolean)]
def wsX4_breaksLoad : List Cond := .code yX4_breaksLoad cX4_breaksLoad 3 (some .boolean) :: ((wsX4_breaksLoad_r1 ++ wsX4_breaksLoad_r2) ++ wsX40 ++ wsX10 ++ wsX30)
def wsX4_joinsLiveAndEarthed : List Cond := .code yX4_joinsLiveAndEarthed cX4_joinsLiveAndEarthed 4 (some .boolean) :: ([.fieldLink RX4 10 "Switchlog" "net" "LSwitchlog$Net;", .methodLink RX4 258 yX1_endsOf, .instanceMethod yX1_endsOf, .selects RX1 yX1_endsOf yX1_endsOf, .initialized RX1, .code yX1_endsOf cX1_endsOf 2 (some .int), .fieldLink RX1 9 "Switchlog$Net" "ends" "[I", .methodLink RX4 197 yX1_liveNodes, .instanceMethod yX1_liveNodes, .selects RX1 yX1_liveNodes yX1_liveNodes, .code yX1_liveNodes cX1_liveNodes 2 (some .int), .methodLink RX1 34 yX1_connectedWith, .instanceMethod yX1_connectedWith, .selects RX1 yX1_connectedWith yX1_connectedWith, .code yX1_connectedWith cX1_connectedWith 8 (some .int), .fieldLink RX1 15 "Switchlog$Net" "nodeCount" "I", .fieldLink RX1 19 "Switchlog$Net" "switchCount" "I", .methodLink RX4 204 yX1_earthedNodes, .instanceMethod yX1_earthedNodes, .selects RX1 yX1_earthedNodes yX1_earthedNodes, .code yX1_earthedNodes cX1_earthedNodes 2 (some .int)] ++ wsX40 ++ wsX10 ++ wsX30)
def wsX4_makesLoad_r1 : List Cond := [Cond.fieldLink RX4 10 "Switchlog" "net" "LSwitchlog$Net;", Cond.fieldLink RX4 45 "Switchlog" "after" "LSwitchlog$State;", Cond.methodLink RX4 271 yX1_isBreaker, Cond.instanceMethod yX1_isBreaker, Cond.selects RX1 yX1_isBreaker yX1_isBreaker, Cond.initialized RX1, Cond.code yX1_isBreaker cX1_isBreaker 2 (some .boolean), Cond.fieldLink RX1 28 "Switchlog$Net" "breakers" "I", Cond.methodLink RX4 274 yX1_areEndsConnected, Cond.instanceMethod yX1_areEndsConnected, Cond.selects RX1 yX1_areEndsConnected yX1_areEndsConnected, Cond.code yX1_areEndsConnected cX1_areEndsConnected 5 (some .boolean), Cond.fieldLink RX1 9 "Switchlog$Net" "ends" "[I", Cond.methodLink RX1 34 yX1_connectedWith, Cond.instanceMethod yX1_connectedWith, Cond.selects RX1 yX1_connectedWith yX1_connectedWith, Cond.code yX1_connectedWith cX1_connectedWith 8 (some .int), Cond.fieldLink RX1 15 "Switchlog$Net" "nodeCount" "I", Cond.fieldLink RX1 19 "Switchlog$Net" "switchCount" "I", Cond.methodLink RX4 201 yX1_loadedNodes, Cond.instanceMethod yX1_loadedNodes, Cond.selects RX1 yX1_loadedNodes yX1_loadedNodes, Cond.code yX1_loadedNodes cX1_loadedNodes 2 (some .int), Cond.fieldLink RX1 25 "Switchlog$Net" "loads" "I"]
def wsX4_makesLoad_r2 : List Cond := [Cond.methodLink RX4 258 yX1_endsOf, Cond.instanceMethod yX1_endsOf, Cond.selects RX1 yX1_endsOf yX1_endsOf, Cond.code yX1_endsOf cX1_endsOf 2 (some .int)]
def wsX4_makesLoad : List Cond := .code yX4_makesLoad cX4_makesLoad 3 (some .boolean) :: ((wsX4_makesLoad_r1 ++ wsX4_makesLoad_r2) ++ wsX40 ++ wsX10 ++ wsX30)
def wsX4_isInterlocked_r1 : List Cond := [Cond.fieldLink RX4 10 "Switchlog" "net" "LSwitchlog$Net;", Cond.methodLink RX4 261 yX4_breaksLoad, Cond.instanceMethod yX4_breaksLoad, Cond.selects RX4 yX4_breaksLoad yX4_breaksLoad, Cond.initialized RX4, Cond.code yX4_breaksLoad cX4_breaksLoad 3 (some .boolean), Cond.fieldLink RX4 45 "Switchlog" "after" "LSwitchlog$State;", Cond.methodLink RX4 271 yX1_isBreaker, Cond.instanceMethod yX1_isBreaker, Cond.selects RX1 yX1_isBreaker yX1_isBreaker, Cond.initialized RX1, Cond.code yX1_isBreaker cX1_isBreaker 2 (some .boolean), Cond.fieldLink RX1 28 "Switchlog$Net" "breakers" "I", Cond.methodLink RX4 201 yX1_loadedNodes, Cond.instanceMethod yX1_loadedNodes, Cond.selects RX1 yX1_loadedNodes yX1_loadedNodes, Cond.code yX1_loadedNodes cX1_loadedNodes 2 (some .int), Cond.fieldLink RX1 25 "Switchlog$Net" "loads" "I", Cond.methodLink RX1 34 yX1_connectedWith, Cond.instanceMethod yX1_connectedWith, Cond.selects RX1 yX1_connectedWith yX1_connectedWith, Cond.code yX1_connectedWith cX1_connectedWith 8 (some .int), Cond.fieldLink RX1 15 "Switchlog$Net" "nodeCount" "I", Cond.fieldLink RX1 19 "Switchlog$Net" "switchCount" "I"]
def wsX4_isInterlocked_r2 : List Cond := [Cond.fieldLink RX1 9 "Switchlog$Net" "ends" "[I", Cond.methodLink RX4 258 yX1_endsOf, Cond.instanceMethod yX1_endsOf, Cond.selects RX1 yX1_endsOf yX1_endsOf, Cond.code yX1_endsOf cX1_endsOf 2 (some .int), Cond.methodLink RX4 274 yX1_areEndsConnected, Cond.instanceMethod yX1_areEndsConnected, Cond.selects RX1 yX1_areEndsConnected yX1_areEndsConnected, Cond.code yX1_areEndsConnected cX1_areEndsConnected 5 (some .boolean), Cond.methodLink RX4 265 yX4_joinsLiveAndEarthed, Cond.instanceMethod yX4_joinsLiveAndEarthed, Cond.selects RX4 yX4_joinsLiveAndEarthed yX4_joinsLiveAndEarthed, Cond.code yX4_joinsLiveAndEarthed cX4_joinsLiveAndEarthed 4 (some .boolean), Cond.methodLink RX4 197 yX1_liveNodes, Cond.instanceMethod yX1_liveNodes, Cond.selects RX1 yX1_liveNodes yX1_liveNodes, Cond.code yX1_liveNodes cX1_liveNodes 2 (some .int), Cond.methodLink RX4 204 yX1_earthedNodes, Cond.instanceMethod yX1_earthedNodes, Cond.selects RX1 yX1_earthedNodes yX1_earthedNodes, Cond.code yX1_earthedNodes cX1_earthedNodes 2 (some .int), Cond.methodLink RX4 268 yX4_makesLoad, Cond.instanceMethod yX4_makesLoad, Cond.selects RX4 yX4_makesLoad yX4_makesLoad]
def wsX4_isInterlocked_r3 : List Cond := [Cond.code yX4_makesLoad cX4_makesLoad 3 (some .boolean)]
def wsX4_isInterlocked : List Cond := .code yX4_isInterlocked cX4_isInterlocked 4 (some .boolean) :: ((wsX4_isInterlocked_r1 ++ (wsX4_isInterlocked_r2 ++ wsX4_isInterlocked_r3)) ++ wsX40 ++ wsX10 ++ wsX30)
def wsX4_areSafe : List Cond := .code yX4_areSafe cX4_areSafe 3 (some .boolean) :: ([.fieldLink RX4 10 "Switchlog" "net" "LSwitchlog$Net;", .methodLink RX4 204 yX1_earthedNodes, .instanceMethod yX1_earthedNodes, .selects RX1 yX1_earthedNodes yX1_earthedNodes, .initialized RX1, .code yX1_earthedNodes cX1_earthedNodes 2 (some .int), .methodLink RX1 34 yX1_connectedWith, .instanceMethod yX1_connectedWith, .selects RX1 yX1_connectedWith yX1_connectedWith, .code yX1_connectedWith cX1_connectedWith 8 (some .int), .fieldLink RX1 15 "Switchlog$Net" "nodeCount" "I", .fieldLink RX1 19 "Switchlog$Net" "switchCount" "I", .fieldLink RX1 9 "Switchlog$Net" "ends" "[I", .methodLink RX4 197 yX1_liveNodes, .instanceMethod yX1_liveNodes, .selects RX1 yX1_liveNodes yX1_liveNodes, .code yX1_liveNodes cX1_liveNodes 2 (some .int)] ++ wsX40 ++ wsX30 ++ wsX10)
def wsX4_reasonIn_r1 : List Cond := [Cond.fieldLink RX4 38 "Switchlog" "permits" "LSwitchlog$Permits;", Cond.fieldLink RX4 45 "Switchlog" "after" "LSwitchlog$State;", Cond.methodLink RX4 238 yX4_isAlreadySo, Cond.instanceMethod yX4_isAlreadySo, Cond.selects RX4 yX4_isAlreadySo yX4_isAlreadySo, Cond.initialized RX4, Cond.code yX4_isAlreadySo cX4_isAlreadySo 5 (some .boolean), Cond.fieldLink RX4 10 "Switchlog" "net" "LSwitchlog$Net;", Cond.methodLink RX4 252 yX1_hasSource, Cond.instanceMethod yX1_hasSource, Cond.selects RX1 yX1_hasSource yX1_hasSource, Cond.initialized RX1, Cond.code yX1_hasSource cX1_hasSource 2 (some .boolean), Cond.fieldLink RX1 22 "Switchlog$Net" "sources" "I", Cond.methodLink RX4 193 yX3_isOn, Cond.instanceMethod yX3_isOn, Cond.selects RX3 yX3_isOn yX3_isOn, Cond.initialized RX3, Cond.code yX3_isOn cX3_isOn 3 (some .boolean), Cond.fieldLink RX3 9 "Switchlog$State" "closed" "I", Cond.fieldLink RX3 15 "Switchlog$State" "earths" "I", Cond.fieldLink RX3 18 "Switchlog$State" "sources" "I", Cond.methodLink RX4 255 yX4_turnsOn, Cond.static yX4_turnsOn]
def wsX4_reasonIn_r2 : List Cond := [Cond.code yX4_turnsOn cX4_turnsOn 1 (some .boolean), Cond.methodLink RX4 242 yX4_touchedNodes, Cond.instanceMethod yX4_touchedNodes, Cond.selects RX4 yX4_touchedNodes yX4_touchedNodes, Cond.code yX4_touchedNodes cX4_touchedNodes 3 (some .int), Cond.methodLink RX4 233 yX4_isOfSwitch, Cond.static yX4_isOfSwitch, Cond.code yX4_isOfSwitch cX4_isOfSwitch 1 (some .boolean), Cond.methodLink RX4 258 yX1_endsOf, Cond.instanceMethod yX1_endsOf, Cond.selects RX1 yX1_endsOf yX1_endsOf, Cond.code yX1_endsOf cX1_endsOf 2 (some .int), Cond.fieldLink RX1 9 "Switchlog$Net" "ends" "[I", Cond.methodLink RX4 185 yX2_heldNodes, Cond.instanceMethod yX2_heldNodes, Cond.selects RX2 yX2_heldNodes yX2_heldNodes, Cond.initialized RX2, Cond.code yX2_heldNodes cX2_heldNodes 3 (some .int), Cond.fieldLink RX2 15 "Switchlog$Permits" "given" "I", Cond.fieldLink RX2 9 "Switchlog$Permits" "holds" "[I", Cond.methodLink RX4 137 yX3_copyFrom, Cond.instanceMethod yX3_copyFrom, Cond.selects RX3 yX3_copyFrom yX3_copyFrom, Cond.code yX3_copyFrom cX3_copyFrom 2 none]
def wsX4_reasonIn_r3 : List Cond := [Cond.methodLink RX4 115 yX3_flip, Cond.instanceMethod yX3_flip, Cond.selects RX3 yX3_flip yX3_flip, Cond.code yX3_flip cX3_flip 4 none, Cond.methodLink RX4 245 yX4_isInterlocked, Cond.instanceMethod yX4_isInterlocked, Cond.selects RX4 yX4_isInterlocked yX4_isInterlocked, Cond.code yX4_isInterlocked cX4_isInterlocked 4 (some .boolean), Cond.methodLink RX4 261 yX4_breaksLoad, Cond.instanceMethod yX4_breaksLoad, Cond.selects RX4 yX4_breaksLoad yX4_breaksLoad, Cond.code yX4_breaksLoad cX4_breaksLoad 3 (some .boolean), Cond.methodLink RX4 271 yX1_isBreaker, Cond.instanceMethod yX1_isBreaker, Cond.selects RX1 yX1_isBreaker yX1_isBreaker, Cond.code yX1_isBreaker cX1_isBreaker 2 (some .boolean), Cond.fieldLink RX1 28 "Switchlog$Net" "breakers" "I", Cond.methodLink RX4 201 yX1_loadedNodes, Cond.instanceMethod yX1_loadedNodes, Cond.selects RX1 yX1_loadedNodes yX1_loadedNodes, Cond.code yX1_loadedNodes cX1_loadedNodes 2 (some .int), Cond.fieldLink RX1 25 "Switchlog$Net" "loads" "I", Cond.methodLink RX1 34 yX1_connectedWith, Cond.instanceMethod yX1_connectedWith]
def wsX4_reasonIn_r4 : List Cond := [Cond.selects RX1 yX1_connectedWith yX1_connectedWith, Cond.code yX1_connectedWith cX1_connectedWith 8 (some .int), Cond.fieldLink RX1 15 "Switchlog$Net" "nodeCount" "I", Cond.fieldLink RX1 19 "Switchlog$Net" "switchCount" "I", Cond.methodLink RX4 274 yX1_areEndsConnected, Cond.instanceMethod yX1_areEndsConnected, Cond.selects RX1 yX1_areEndsConnected yX1_areEndsConnected, Cond.code yX1_areEndsConnected cX1_areEndsConnected 5 (some .boolean), Cond.methodLink RX4 265 yX4_joinsLiveAndEarthed, Cond.instanceMethod yX4_joinsLiveAndEarthed, Cond.selects RX4 yX4_joinsLiveAndEarthed yX4_joinsLiveAndEarthed, Cond.code yX4_joinsLiveAndEarthed cX4_joinsLiveAndEarthed 4 (some .boolean), Cond.methodLink RX4 197 yX1_liveNodes, Cond.instanceMethod yX1_liveNodes, Cond.selects RX1 yX1_liveNodes yX1_liveNodes, Cond.code yX1_liveNodes cX1_liveNodes 2 (some .int), Cond.methodLink RX4 204 yX1_earthedNodes, Cond.instanceMethod yX1_earthedNodes, Cond.selects RX1 yX1_earthedNodes yX1_earthedNodes, Cond.code yX1_earthedNodes cX1_earthedNodes 2 (some .int), Cond.methodLink RX4 268 yX4_makesLoad, Cond.instanceMethod yX4_makesLoad, Cond.selects RX4 yX4_makesLoad yX4_makesLoad, Cond.code yX4_makesLoad cX4_makesLoad 3 (some .boolean)]
def wsX4_reasonIn_r5 : List Cond := [Cond.methodLink RX4 248 yX4_areSafe, Cond.instanceMethod yX4_areSafe, Cond.selects RX4 yX4_areSafe yX4_areSafe, Cond.code yX4_areSafe cX4_areSafe 3 (some .boolean)]
def wsX4_reasonIn : List Cond := .code yX4_reasonIn cX4_reasonIn 4 (some .int) :: ((wsX4_reasonIn_r1 ++ (wsX4_reasonIn_r2 ++ (wsX4_reasonIn_r3 ++ (wsX4_reasonIn_r4 ++ wsX4_reasonIn_r5)))) ++ wsX40 ++ wsX10 ++ wsX30 ++ wsX20)
def wsX4_doAndLog_r1 : List Cond := [Cond.fieldLink RX4 19 "Switchlog" "now" "LSwitchlog$State;", Cond.fieldLink RX4 28 "Switchlog" "done" "LSwitchlog$ActRow;", Cond.methodLink RX4 109 yX4_kindOf, Cond.static yX4_kindOf, Cond.initialized RX4, Cond.code yX4_kindOf cX4_kindOf 1 (some .int), Cond.methodLink RX4 112 yX4_whatOf, Cond.static yX4_whatOf, Cond.code yX4_whatOf cX4_whatOf 1 (some .int), Cond.methodLink RX4 97 yX4_reasonIn, Cond.instanceMethod yX4_reasonIn, Cond.selects RX4 yX4_reasonIn yX4_reasonIn, Cond.code yX4_reasonIn cX4_reasonIn 4 (some .int), Cond.fieldLink RX4 38 "Switchlog" "permits" "LSwitchlog$Permits;", Cond.fieldLink RX4 45 "Switchlog" "after" "LSwitchlog$State;", Cond.methodLink RX4 238 yX4_isAlreadySo, Cond.instanceMethod yX4_isAlreadySo, Cond.selects RX4 yX4_isAlreadySo yX4_isAlreadySo, Cond.code yX4_isAlreadySo cX4_isAlreadySo 5 (some .boolean), Cond.fieldLink RX4 10 "Switchlog" "net" "LSwitchlog$Net;", Cond.methodLink RX4 252 yX1_hasSource, Cond.instanceMethod yX1_hasSource, Cond.selects RX1 yX1_hasSource yX1_hasSource, Cond.initialized RX1]
def wsX4_doAndLog_r2 : List Cond := [Cond.code yX1_hasSource cX1_hasSource 2 (some .boolean), Cond.fieldLink RX1 22 "Switchlog$Net" "sources" "I", Cond.methodLink RX4 193 yX3_isOn, Cond.instanceMethod yX3_isOn, Cond.selects RX3 yX3_isOn yX3_isOn, Cond.initialized RX3, Cond.code yX3_isOn cX3_isOn 3 (some .boolean), Cond.fieldLink RX3 9 "Switchlog$State" "closed" "I", Cond.fieldLink RX3 15 "Switchlog$State" "earths" "I", Cond.fieldLink RX3 18 "Switchlog$State" "sources" "I", Cond.methodLink RX4 255 yX4_turnsOn, Cond.static yX4_turnsOn, Cond.code yX4_turnsOn cX4_turnsOn 1 (some .boolean), Cond.methodLink RX4 242 yX4_touchedNodes, Cond.instanceMethod yX4_touchedNodes, Cond.selects RX4 yX4_touchedNodes yX4_touchedNodes, Cond.code yX4_touchedNodes cX4_touchedNodes 3 (some .int), Cond.methodLink RX4 233 yX4_isOfSwitch, Cond.static yX4_isOfSwitch, Cond.code yX4_isOfSwitch cX4_isOfSwitch 1 (some .boolean), Cond.methodLink RX4 258 yX1_endsOf, Cond.instanceMethod yX1_endsOf, Cond.selects RX1 yX1_endsOf yX1_endsOf, Cond.code yX1_endsOf cX1_endsOf 2 (some .int)]
def wsX4_doAndLog_r3 : List Cond := [Cond.fieldLink RX1 9 "Switchlog$Net" "ends" "[I", Cond.methodLink RX4 185 yX2_heldNodes, Cond.instanceMethod yX2_heldNodes, Cond.selects RX2 yX2_heldNodes yX2_heldNodes, Cond.initialized RX2, Cond.code yX2_heldNodes cX2_heldNodes 3 (some .int), Cond.fieldLink RX2 15 "Switchlog$Permits" "given" "I", Cond.fieldLink RX2 9 "Switchlog$Permits" "holds" "[I", Cond.methodLink RX4 137 yX3_copyFrom, Cond.instanceMethod yX3_copyFrom, Cond.selects RX3 yX3_copyFrom yX3_copyFrom, Cond.code yX3_copyFrom cX3_copyFrom 2 none, Cond.methodLink RX4 115 yX3_flip, Cond.instanceMethod yX3_flip, Cond.selects RX3 yX3_flip yX3_flip, Cond.code yX3_flip cX3_flip 4 none, Cond.methodLink RX4 245 yX4_isInterlocked, Cond.instanceMethod yX4_isInterlocked, Cond.selects RX4 yX4_isInterlocked yX4_isInterlocked, Cond.code yX4_isInterlocked cX4_isInterlocked 4 (some .boolean), Cond.methodLink RX4 261 yX4_breaksLoad, Cond.instanceMethod yX4_breaksLoad, Cond.selects RX4 yX4_breaksLoad yX4_breaksLoad, Cond.code yX4_breaksLoad cX4_breaksLoad 3 (some .boolean)]
def wsX4_doAndLog_r4 : List Cond := [Cond.methodLink RX4 271 yX1_isBreaker, Cond.instanceMethod yX1_isBreaker, Cond.selects RX1 yX1_isBreaker yX1_isBreaker, Cond.code yX1_isBreaker cX1_isBreaker 2 (some .boolean), Cond.fieldLink RX1 28 "Switchlog$Net" "breakers" "I", Cond.methodLink RX4 201 yX1_loadedNodes, Cond.instanceMethod yX1_loadedNodes, Cond.selects RX1 yX1_loadedNodes yX1_loadedNodes, Cond.code yX1_loadedNodes cX1_loadedNodes 2 (some .int), Cond.fieldLink RX1 25 "Switchlog$Net" "loads" "I", Cond.methodLink RX1 34 yX1_connectedWith, Cond.instanceMethod yX1_connectedWith, Cond.selects RX1 yX1_connectedWith yX1_connectedWith, Cond.code yX1_connectedWith cX1_connectedWith 8 (some .int), Cond.fieldLink RX1 15 "Switchlog$Net" "nodeCount" "I", Cond.fieldLink RX1 19 "Switchlog$Net" "switchCount" "I", Cond.methodLink RX4 274 yX1_areEndsConnected, Cond.instanceMethod yX1_areEndsConnected, Cond.selects RX1 yX1_areEndsConnected yX1_areEndsConnected, Cond.code yX1_areEndsConnected cX1_areEndsConnected 5 (some .boolean), Cond.methodLink RX4 265 yX4_joinsLiveAndEarthed, Cond.instanceMethod yX4_joinsLiveAndEarthed, Cond.selects RX4 yX4_joinsLiveAndEarthed yX4_joinsLiveAndEarthed, Cond.code yX4_joinsLiveAndEarthed cX4_joinsLiveAndEarthed 4 (some .boolean)]
def wsX4_doAndLog_r5 : List Cond := [Cond.methodLink RX4 197 yX1_liveNodes, Cond.instanceMethod yX1_liveNodes, Cond.selects RX1 yX1_liveNodes yX1_liveNodes, Cond.code yX1_liveNodes cX1_liveNodes 2 (some .int), Cond.methodLink RX4 204 yX1_earthedNodes, Cond.instanceMethod yX1_earthedNodes, Cond.selects RX1 yX1_earthedNodes yX1_earthedNodes, Cond.code yX1_earthedNodes cX1_earthedNodes 2 (some .int), Cond.methodLink RX4 268 yX4_makesLoad, Cond.instanceMethod yX4_makesLoad, Cond.selects RX4 yX4_makesLoad yX4_makesLoad, Cond.code yX4_makesLoad cX4_makesLoad 3 (some .boolean), Cond.methodLink RX4 248 yX4_areSafe, Cond.instanceMethod yX4_areSafe, Cond.selects RX4 yX4_areSafe yX4_areSafe, Cond.code yX4_areSafe cX4_areSafe 3 (some .boolean), Cond.methodLink RX4 131 yX0_append, Cond.instanceMethod yX0_append, Cond.selects RX0 yX0_append yX0_append, Cond.initialized RX0, Cond.code yX0_append cX0_append 2 none, Cond.fieldLink RX0 7 "Switchlog$ActRow" "acts" "[I", Cond.fieldLink RX0 13 "Switchlog$ActRow" "size" "I"]
def wsX4_doAndLog : List Cond := .code yX4_doAndLog cX4_doAndLog 3 (some .int) :: ((wsX4_doAndLog_r1 ++ (wsX4_doAndLog_r2 ++ (wsX4_doAndLog_r3 ++ (wsX4_doAndLog_r4 ++ wsX4_doAndLog_r5)))) ++ wsX40 ++ wsX10 ++ wsX30 ++ wsX20 ++ wsX00)
def wsX4_act_r1 : List Cond := [Cond.classLink RX4 52 "java/lang/IllegalStateException", Cond.initialized "java/lang/IllegalStateException", Cond.fieldLink RX4 28 "Switchlog" "done" "LSwitchlog$ActRow;", Cond.methodLink RX4 80 yX4_requireAct, Cond.instanceMethod yX4_requireAct, Cond.selects RX4 yX4_requireAct yX4_requireAct, Cond.initialized RX4, Cond.code yX4_requireAct cX4_requireAct 3 none, Cond.classLink RX4 66 "java/lang/IllegalArgumentException", Cond.initialized "java/lang/IllegalArgumentException", Cond.classLink RX4 121 "java/lang/IndexOutOfBoundsException", Cond.initialized "java/lang/IndexOutOfBoundsException", Cond.fieldLink RX4 10 "Switchlog" "net" "LSwitchlog$Net;", Cond.methodLink RX4 233 yX4_isOfSwitch, Cond.static yX4_isOfSwitch, Cond.code yX4_isOfSwitch cX4_isOfSwitch 1 (some .boolean), Cond.methodLink RX4 188 yX1_hasSwitch, Cond.instanceMethod yX1_hasSwitch, Cond.selects RX1 yX1_hasSwitch yX1_hasSwitch, Cond.initialized RX1, Cond.code yX1_hasSwitch cX1_hasSwitch 2 (some .boolean), Cond.fieldLink RX1 19 "Switchlog$Net" "switchCount" "I", Cond.methodLink RX4 226 yX1_hasNode, Cond.instanceMethod yX1_hasNode]
def wsX4_act_r2 : List Cond := [Cond.selects RX1 yX1_hasNode yX1_hasNode, Cond.code yX1_hasNode cX1_hasNode 2 (some .boolean), Cond.fieldLink RX1 15 "Switchlog$Net" "nodeCount" "I", Cond.methodLink RX4 84 yX0_size, Cond.instanceMethod yX0_size, Cond.selects RX0 yX0_size yX0_size, Cond.initialized RX0, Cond.code yX0_size cX0_size 1 (some .int), Cond.fieldLink RX0 13 "Switchlog$ActRow" "size" "I", Cond.methodLink RX4 89 yX4_actOf, Cond.static yX4_actOf, Cond.code yX4_actOf cX4_actOf 2 (some .int), Cond.methodLink RX4 93 yX4_doAndLog, Cond.instanceMethod yX4_doAndLog, Cond.selects RX4 yX4_doAndLog yX4_doAndLog, Cond.code yX4_doAndLog cX4_doAndLog 3 (some .int), Cond.fieldLink RX4 19 "Switchlog" "now" "LSwitchlog$State;", Cond.methodLink RX4 109 yX4_kindOf, Cond.static yX4_kindOf, Cond.code yX4_kindOf cX4_kindOf 1 (some .int), Cond.methodLink RX4 112 yX4_whatOf, Cond.static yX4_whatOf, Cond.code yX4_whatOf cX4_whatOf 1 (some .int), Cond.methodLink RX4 97 yX4_reasonIn]
def wsX4_act_r3 : List Cond := [Cond.instanceMethod yX4_reasonIn, Cond.selects RX4 yX4_reasonIn yX4_reasonIn, Cond.code yX4_reasonIn cX4_reasonIn 4 (some .int), Cond.fieldLink RX4 38 "Switchlog" "permits" "LSwitchlog$Permits;", Cond.fieldLink RX4 45 "Switchlog" "after" "LSwitchlog$State;", Cond.methodLink RX4 238 yX4_isAlreadySo, Cond.instanceMethod yX4_isAlreadySo, Cond.selects RX4 yX4_isAlreadySo yX4_isAlreadySo, Cond.code yX4_isAlreadySo cX4_isAlreadySo 5 (some .boolean), Cond.methodLink RX4 252 yX1_hasSource, Cond.instanceMethod yX1_hasSource, Cond.selects RX1 yX1_hasSource yX1_hasSource, Cond.code yX1_hasSource cX1_hasSource 2 (some .boolean), Cond.fieldLink RX1 22 "Switchlog$Net" "sources" "I", Cond.methodLink RX4 193 yX3_isOn, Cond.instanceMethod yX3_isOn, Cond.selects RX3 yX3_isOn yX3_isOn, Cond.initialized RX3, Cond.code yX3_isOn cX3_isOn 3 (some .boolean), Cond.fieldLink RX3 9 "Switchlog$State" "closed" "I", Cond.fieldLink RX3 15 "Switchlog$State" "earths" "I", Cond.fieldLink RX3 18 "Switchlog$State" "sources" "I", Cond.methodLink RX4 255 yX4_turnsOn, Cond.static yX4_turnsOn]
def wsX4_act_r4 : List Cond := [Cond.code yX4_turnsOn cX4_turnsOn 1 (some .boolean), Cond.methodLink RX4 242 yX4_touchedNodes, Cond.instanceMethod yX4_touchedNodes, Cond.selects RX4 yX4_touchedNodes yX4_touchedNodes, Cond.code yX4_touchedNodes cX4_touchedNodes 3 (some .int), Cond.methodLink RX4 258 yX1_endsOf, Cond.instanceMethod yX1_endsOf, Cond.selects RX1 yX1_endsOf yX1_endsOf, Cond.code yX1_endsOf cX1_endsOf 2 (some .int), Cond.fieldLink RX1 9 "Switchlog$Net" "ends" "[I", Cond.methodLink RX4 185 yX2_heldNodes, Cond.instanceMethod yX2_heldNodes, Cond.selects RX2 yX2_heldNodes yX2_heldNodes, Cond.initialized RX2, Cond.code yX2_heldNodes cX2_heldNodes 3 (some .int), Cond.fieldLink RX2 15 "Switchlog$Permits" "given" "I", Cond.fieldLink RX2 9 "Switchlog$Permits" "holds" "[I", Cond.methodLink RX4 137 yX3_copyFrom, Cond.instanceMethod yX3_copyFrom, Cond.selects RX3 yX3_copyFrom yX3_copyFrom, Cond.code yX3_copyFrom cX3_copyFrom 2 none, Cond.methodLink RX4 115 yX3_flip, Cond.instanceMethod yX3_flip, Cond.selects RX3 yX3_flip yX3_flip]
def wsX4_act_r5 : List Cond := [Cond.code yX3_flip cX3_flip 4 none, Cond.methodLink RX4 245 yX4_isInterlocked, Cond.instanceMethod yX4_isInterlocked, Cond.selects RX4 yX4_isInterlocked yX4_isInterlocked, Cond.code yX4_isInterlocked cX4_isInterlocked 4 (some .boolean), Cond.methodLink RX4 261 yX4_breaksLoad, Cond.instanceMethod yX4_breaksLoad, Cond.selects RX4 yX4_breaksLoad yX4_breaksLoad, Cond.code yX4_breaksLoad cX4_breaksLoad 3 (some .boolean), Cond.methodLink RX4 271 yX1_isBreaker, Cond.instanceMethod yX1_isBreaker, Cond.selects RX1 yX1_isBreaker yX1_isBreaker, Cond.code yX1_isBreaker cX1_isBreaker 2 (some .boolean), Cond.fieldLink RX1 28 "Switchlog$Net" "breakers" "I", Cond.methodLink RX4 201 yX1_loadedNodes, Cond.instanceMethod yX1_loadedNodes, Cond.selects RX1 yX1_loadedNodes yX1_loadedNodes, Cond.code yX1_loadedNodes cX1_loadedNodes 2 (some .int), Cond.fieldLink RX1 25 "Switchlog$Net" "loads" "I", Cond.methodLink RX1 34 yX1_connectedWith, Cond.instanceMethod yX1_connectedWith, Cond.selects RX1 yX1_connectedWith yX1_connectedWith, Cond.code yX1_connectedWith cX1_connectedWith 8 (some .int), Cond.methodLink RX4 274 yX1_areEndsConnected]
def wsX4_act_r6 : List Cond := [Cond.instanceMethod yX1_areEndsConnected, Cond.selects RX1 yX1_areEndsConnected yX1_areEndsConnected, Cond.code yX1_areEndsConnected cX1_areEndsConnected 5 (some .boolean), Cond.methodLink RX4 265 yX4_joinsLiveAndEarthed, Cond.instanceMethod yX4_joinsLiveAndEarthed, Cond.selects RX4 yX4_joinsLiveAndEarthed yX4_joinsLiveAndEarthed, Cond.code yX4_joinsLiveAndEarthed cX4_joinsLiveAndEarthed 4 (some .boolean), Cond.methodLink RX4 197 yX1_liveNodes, Cond.instanceMethod yX1_liveNodes, Cond.selects RX1 yX1_liveNodes yX1_liveNodes, Cond.code yX1_liveNodes cX1_liveNodes 2 (some .int), Cond.methodLink RX4 204 yX1_earthedNodes, Cond.instanceMethod yX1_earthedNodes, Cond.selects RX1 yX1_earthedNodes yX1_earthedNodes, Cond.code yX1_earthedNodes cX1_earthedNodes 2 (some .int), Cond.methodLink RX4 268 yX4_makesLoad, Cond.instanceMethod yX4_makesLoad, Cond.selects RX4 yX4_makesLoad yX4_makesLoad, Cond.code yX4_makesLoad cX4_makesLoad 3 (some .boolean), Cond.methodLink RX4 248 yX4_areSafe, Cond.instanceMethod yX4_areSafe, Cond.selects RX4 yX4_areSafe yX4_areSafe, Cond.code yX4_areSafe cX4_areSafe 3 (some .boolean), Cond.methodLink RX4 131 yX0_append]
def wsX4_act_r7 : List Cond := [Cond.instanceMethod yX0_append, Cond.selects RX0 yX0_append yX0_append, Cond.code yX0_append cX0_append 2 none, Cond.fieldLink RX0 7 "Switchlog$ActRow" "acts" "[I"]
def wsX4_act : List Cond := .code yX4_act cX4_act 3 (some .int) :: ((wsX4_act_r1 ++ (wsX4_act_r2 ++ (wsX4_act_r3 ++ (wsX4_act_r4 ++ (wsX4_act_r5 ++ (wsX4_act_r6 ++ wsX4_act_r7)))))) ++ wsX40 ++ wsX10 ++ wsX00 ++ wsX30 ++ wsX20 ++ (vx_atS RX4 56 "java/lang/IllegalStateException" ["java/lang/RuntimeException", "java/lang/Exception"]).filter goodWord ++ (vx_atS RX4 70 "java/lang/IllegalArgumentException" ["java/lang/RuntimeException", "java/lang/Exception"]).filter goodWord ++ (vx_atS RX4 125 "java/lang/IndexOutOfBoundsException" ["java/lang/RuntimeException", "java/lang/Exception"]).filter goodWord)
def wsX4_reason_r1 : List Cond := [Cond.fieldLink RX4 19 "Switchlog" "now" "LSwitchlog$State;", Cond.methodLink RX4 80 yX4_requireAct, Cond.instanceMethod yX4_requireAct, Cond.selects RX4 yX4_requireAct yX4_requireAct, Cond.initialized RX4, Cond.code yX4_requireAct cX4_requireAct 3 none, Cond.classLink RX4 66 "java/lang/IllegalArgumentException", Cond.initialized "java/lang/IllegalArgumentException", Cond.classLink RX4 121 "java/lang/IndexOutOfBoundsException", Cond.initialized "java/lang/IndexOutOfBoundsException", Cond.fieldLink RX4 10 "Switchlog" "net" "LSwitchlog$Net;", Cond.methodLink RX4 233 yX4_isOfSwitch, Cond.static yX4_isOfSwitch, Cond.code yX4_isOfSwitch cX4_isOfSwitch 1 (some .boolean), Cond.methodLink RX4 188 yX1_hasSwitch, Cond.instanceMethod yX1_hasSwitch, Cond.selects RX1 yX1_hasSwitch yX1_hasSwitch, Cond.initialized RX1, Cond.code yX1_hasSwitch cX1_hasSwitch 2 (some .boolean), Cond.fieldLink RX1 19 "Switchlog$Net" "switchCount" "I", Cond.methodLink RX4 226 yX1_hasNode, Cond.instanceMethod yX1_hasNode, Cond.selects RX1 yX1_hasNode yX1_hasNode, Cond.code yX1_hasNode cX1_hasNode 2 (some .boolean)]
def wsX4_reason_r2 : List Cond := [Cond.fieldLink RX1 15 "Switchlog$Net" "nodeCount" "I", Cond.methodLink RX4 97 yX4_reasonIn, Cond.instanceMethod yX4_reasonIn, Cond.selects RX4 yX4_reasonIn yX4_reasonIn, Cond.code yX4_reasonIn cX4_reasonIn 4 (some .int), Cond.fieldLink RX4 38 "Switchlog" "permits" "LSwitchlog$Permits;", Cond.fieldLink RX4 45 "Switchlog" "after" "LSwitchlog$State;", Cond.methodLink RX4 238 yX4_isAlreadySo, Cond.instanceMethod yX4_isAlreadySo, Cond.selects RX4 yX4_isAlreadySo yX4_isAlreadySo, Cond.code yX4_isAlreadySo cX4_isAlreadySo 5 (some .boolean), Cond.methodLink RX4 252 yX1_hasSource, Cond.instanceMethod yX1_hasSource, Cond.selects RX1 yX1_hasSource yX1_hasSource, Cond.code yX1_hasSource cX1_hasSource 2 (some .boolean), Cond.fieldLink RX1 22 "Switchlog$Net" "sources" "I", Cond.methodLink RX4 193 yX3_isOn, Cond.instanceMethod yX3_isOn, Cond.selects RX3 yX3_isOn yX3_isOn, Cond.initialized RX3, Cond.code yX3_isOn cX3_isOn 3 (some .boolean), Cond.fieldLink RX3 9 "Switchlog$State" "closed" "I", Cond.fieldLink RX3 15 "Switchlog$State" "earths" "I", Cond.fieldLink RX3 18 "Switchlog$State" "sources" "I"]
def wsX4_reason_r3 : List Cond := [Cond.methodLink RX4 255 yX4_turnsOn, Cond.static yX4_turnsOn, Cond.code yX4_turnsOn cX4_turnsOn 1 (some .boolean), Cond.methodLink RX4 242 yX4_touchedNodes, Cond.instanceMethod yX4_touchedNodes, Cond.selects RX4 yX4_touchedNodes yX4_touchedNodes, Cond.code yX4_touchedNodes cX4_touchedNodes 3 (some .int), Cond.methodLink RX4 258 yX1_endsOf, Cond.instanceMethod yX1_endsOf, Cond.selects RX1 yX1_endsOf yX1_endsOf, Cond.code yX1_endsOf cX1_endsOf 2 (some .int), Cond.fieldLink RX1 9 "Switchlog$Net" "ends" "[I", Cond.methodLink RX4 185 yX2_heldNodes, Cond.instanceMethod yX2_heldNodes, Cond.selects RX2 yX2_heldNodes yX2_heldNodes, Cond.initialized RX2, Cond.code yX2_heldNodes cX2_heldNodes 3 (some .int), Cond.fieldLink RX2 15 "Switchlog$Permits" "given" "I", Cond.fieldLink RX2 9 "Switchlog$Permits" "holds" "[I", Cond.methodLink RX4 137 yX3_copyFrom, Cond.instanceMethod yX3_copyFrom, Cond.selects RX3 yX3_copyFrom yX3_copyFrom, Cond.code yX3_copyFrom cX3_copyFrom 2 none, Cond.methodLink RX4 115 yX3_flip]
def wsX4_reason_r4 : List Cond := [Cond.instanceMethod yX3_flip, Cond.selects RX3 yX3_flip yX3_flip, Cond.code yX3_flip cX3_flip 4 none, Cond.methodLink RX4 245 yX4_isInterlocked, Cond.instanceMethod yX4_isInterlocked, Cond.selects RX4 yX4_isInterlocked yX4_isInterlocked, Cond.code yX4_isInterlocked cX4_isInterlocked 4 (some .boolean), Cond.methodLink RX4 261 yX4_breaksLoad, Cond.instanceMethod yX4_breaksLoad, Cond.selects RX4 yX4_breaksLoad yX4_breaksLoad, Cond.code yX4_breaksLoad cX4_breaksLoad 3 (some .boolean), Cond.methodLink RX4 271 yX1_isBreaker, Cond.instanceMethod yX1_isBreaker, Cond.selects RX1 yX1_isBreaker yX1_isBreaker, Cond.code yX1_isBreaker cX1_isBreaker 2 (some .boolean), Cond.fieldLink RX1 28 "Switchlog$Net" "breakers" "I", Cond.methodLink RX4 201 yX1_loadedNodes, Cond.instanceMethod yX1_loadedNodes, Cond.selects RX1 yX1_loadedNodes yX1_loadedNodes, Cond.code yX1_loadedNodes cX1_loadedNodes 2 (some .int), Cond.fieldLink RX1 25 "Switchlog$Net" "loads" "I", Cond.methodLink RX1 34 yX1_connectedWith, Cond.instanceMethod yX1_connectedWith, Cond.selects RX1 yX1_connectedWith yX1_connectedWith]
def wsX4_reason_r5 : List Cond := [Cond.code yX1_connectedWith cX1_connectedWith 8 (some .int), Cond.methodLink RX4 274 yX1_areEndsConnected, Cond.instanceMethod yX1_areEndsConnected, Cond.selects RX1 yX1_areEndsConnected yX1_areEndsConnected, Cond.code yX1_areEndsConnected cX1_areEndsConnected 5 (some .boolean), Cond.methodLink RX4 265 yX4_joinsLiveAndEarthed, Cond.instanceMethod yX4_joinsLiveAndEarthed, Cond.selects RX4 yX4_joinsLiveAndEarthed yX4_joinsLiveAndEarthed, Cond.code yX4_joinsLiveAndEarthed cX4_joinsLiveAndEarthed 4 (some .boolean), Cond.methodLink RX4 197 yX1_liveNodes, Cond.instanceMethod yX1_liveNodes, Cond.selects RX1 yX1_liveNodes yX1_liveNodes, Cond.code yX1_liveNodes cX1_liveNodes 2 (some .int), Cond.methodLink RX4 204 yX1_earthedNodes, Cond.instanceMethod yX1_earthedNodes, Cond.selects RX1 yX1_earthedNodes yX1_earthedNodes, Cond.code yX1_earthedNodes cX1_earthedNodes 2 (some .int), Cond.methodLink RX4 268 yX4_makesLoad, Cond.instanceMethod yX4_makesLoad, Cond.selects RX4 yX4_makesLoad yX4_makesLoad, Cond.code yX4_makesLoad cX4_makesLoad 3 (some .boolean), Cond.methodLink RX4 248 yX4_areSafe, Cond.instanceMethod yX4_areSafe, Cond.selects RX4 yX4_areSafe yX4_areSafe]
def wsX4_reason_r6 : List Cond := [Cond.code yX4_areSafe cX4_areSafe 3 (some .boolean)]
def wsX4_reason : List Cond := .code yX4_reason cX4_reason 3 (some .int) :: ((wsX4_reason_r1 ++ (wsX4_reason_r2 ++ (wsX4_reason_r3 ++ (wsX4_reason_r4 ++ (wsX4_reason_r5 ++ wsX4_reason_r6))))) ++ wsX40 ++ wsX10 ++ wsX30 ++ wsX20 ++ (vx_atS RX4 70 "java/lang/IllegalArgumentException" ["java/lang/RuntimeException", "java/lang/Exception"]).filter goodWord ++ (vx_atS RX4 125 "java/lang/IndexOutOfBoundsException" ["java/lang/RuntimeException", "java/lang/Exception"]).filter goodWord)
def wsX4_oppositeOf : List Cond := .code yX4_oppositeOf cX4_oppositeOf 1 (some .int) :: ([.methodLink RX4 109 yX4_kindOf, .static yX4_kindOf, .initialized RX4, .code yX4_kindOf cX4_kindOf 1 (some .int), .methodLink RX4 112 yX4_whatOf, .static yX4_whatOf, .code yX4_whatOf cX4_whatOf 1 (some .int), .methodLink RX4 89 yX4_actOf, .static yX4_actOf, .code yX4_actOf cX4_actOf 2 (some .int)])
def wsX4_takeBack_r1 : List Cond := [Cond.classLink RX4 52 "java/lang/IllegalStateException", Cond.initialized "java/lang/IllegalStateException", Cond.fieldLink RX4 28 "Switchlog" "done" "LSwitchlog$ActRow;", Cond.fieldLink RX4 19 "Switchlog" "now" "LSwitchlog$State;", Cond.methodLink RX4 84 yX0_size, Cond.instanceMethod yX0_size, Cond.selects RX0 yX0_size yX0_size, Cond.initialized RX0, Cond.code yX0_size cX0_size 1 (some .int), Cond.fieldLink RX0 13 "Switchlog$ActRow" "size" "I", Cond.methodLink RX4 103 yX0_latest, Cond.instanceMethod yX0_latest, Cond.selects RX0 yX0_latest yX0_latest, Cond.code yX0_latest cX0_latest 2 (some .int), Cond.fieldLink RX0 7 "Switchlog$ActRow" "acts" "[I", Cond.methodLink RX4 106 yX4_oppositeOf, Cond.static yX4_oppositeOf, Cond.initialized RX4, Cond.code yX4_oppositeOf cX4_oppositeOf 1 (some .int), Cond.methodLink RX4 109 yX4_kindOf, Cond.static yX4_kindOf, Cond.code yX4_kindOf cX4_kindOf 1 (some .int), Cond.methodLink RX4 112 yX4_whatOf, Cond.static yX4_whatOf]
def wsX4_takeBack_r2 : List Cond := [Cond.code yX4_whatOf cX4_whatOf 1 (some .int), Cond.methodLink RX4 89 yX4_actOf, Cond.static yX4_actOf, Cond.code yX4_actOf cX4_actOf 2 (some .int), Cond.methodLink RX4 97 yX4_reasonIn, Cond.instanceMethod yX4_reasonIn, Cond.selects RX4 yX4_reasonIn yX4_reasonIn, Cond.code yX4_reasonIn cX4_reasonIn 4 (some .int), Cond.fieldLink RX4 38 "Switchlog" "permits" "LSwitchlog$Permits;", Cond.fieldLink RX4 45 "Switchlog" "after" "LSwitchlog$State;", Cond.methodLink RX4 238 yX4_isAlreadySo, Cond.instanceMethod yX4_isAlreadySo, Cond.selects RX4 yX4_isAlreadySo yX4_isAlreadySo, Cond.code yX4_isAlreadySo cX4_isAlreadySo 5 (some .boolean), Cond.fieldLink RX4 10 "Switchlog" "net" "LSwitchlog$Net;", Cond.methodLink RX4 252 yX1_hasSource, Cond.instanceMethod yX1_hasSource, Cond.selects RX1 yX1_hasSource yX1_hasSource, Cond.initialized RX1, Cond.code yX1_hasSource cX1_hasSource 2 (some .boolean), Cond.fieldLink RX1 22 "Switchlog$Net" "sources" "I", Cond.methodLink RX4 193 yX3_isOn, Cond.instanceMethod yX3_isOn, Cond.selects RX3 yX3_isOn yX3_isOn]
def wsX4_takeBack_r3 : List Cond := [Cond.initialized RX3, Cond.code yX3_isOn cX3_isOn 3 (some .boolean), Cond.fieldLink RX3 9 "Switchlog$State" "closed" "I", Cond.fieldLink RX3 15 "Switchlog$State" "earths" "I", Cond.fieldLink RX3 18 "Switchlog$State" "sources" "I", Cond.methodLink RX4 255 yX4_turnsOn, Cond.static yX4_turnsOn, Cond.code yX4_turnsOn cX4_turnsOn 1 (some .boolean), Cond.methodLink RX4 242 yX4_touchedNodes, Cond.instanceMethod yX4_touchedNodes, Cond.selects RX4 yX4_touchedNodes yX4_touchedNodes, Cond.code yX4_touchedNodes cX4_touchedNodes 3 (some .int), Cond.methodLink RX4 233 yX4_isOfSwitch, Cond.static yX4_isOfSwitch, Cond.code yX4_isOfSwitch cX4_isOfSwitch 1 (some .boolean), Cond.methodLink RX4 258 yX1_endsOf, Cond.instanceMethod yX1_endsOf, Cond.selects RX1 yX1_endsOf yX1_endsOf, Cond.code yX1_endsOf cX1_endsOf 2 (some .int), Cond.fieldLink RX1 9 "Switchlog$Net" "ends" "[I", Cond.methodLink RX4 185 yX2_heldNodes, Cond.instanceMethod yX2_heldNodes, Cond.selects RX2 yX2_heldNodes yX2_heldNodes, Cond.initialized RX2]
def wsX4_takeBack_r4 : List Cond := [Cond.code yX2_heldNodes cX2_heldNodes 3 (some .int), Cond.fieldLink RX2 15 "Switchlog$Permits" "given" "I", Cond.fieldLink RX2 9 "Switchlog$Permits" "holds" "[I", Cond.methodLink RX4 137 yX3_copyFrom, Cond.instanceMethod yX3_copyFrom, Cond.selects RX3 yX3_copyFrom yX3_copyFrom, Cond.code yX3_copyFrom cX3_copyFrom 2 none, Cond.methodLink RX4 115 yX3_flip, Cond.instanceMethod yX3_flip, Cond.selects RX3 yX3_flip yX3_flip, Cond.code yX3_flip cX3_flip 4 none, Cond.methodLink RX4 245 yX4_isInterlocked, Cond.instanceMethod yX4_isInterlocked, Cond.selects RX4 yX4_isInterlocked yX4_isInterlocked, Cond.code yX4_isInterlocked cX4_isInterlocked 4 (some .boolean), Cond.methodLink RX4 261 yX4_breaksLoad, Cond.instanceMethod yX4_breaksLoad, Cond.selects RX4 yX4_breaksLoad yX4_breaksLoad, Cond.code yX4_breaksLoad cX4_breaksLoad 3 (some .boolean), Cond.methodLink RX4 271 yX1_isBreaker, Cond.instanceMethod yX1_isBreaker, Cond.selects RX1 yX1_isBreaker yX1_isBreaker, Cond.code yX1_isBreaker cX1_isBreaker 2 (some .boolean), Cond.fieldLink RX1 28 "Switchlog$Net" "breakers" "I"]
def wsX4_takeBack_r5 : List Cond := [Cond.methodLink RX4 201 yX1_loadedNodes, Cond.instanceMethod yX1_loadedNodes, Cond.selects RX1 yX1_loadedNodes yX1_loadedNodes, Cond.code yX1_loadedNodes cX1_loadedNodes 2 (some .int), Cond.fieldLink RX1 25 "Switchlog$Net" "loads" "I", Cond.methodLink RX1 34 yX1_connectedWith, Cond.instanceMethod yX1_connectedWith, Cond.selects RX1 yX1_connectedWith yX1_connectedWith, Cond.code yX1_connectedWith cX1_connectedWith 8 (some .int), Cond.fieldLink RX1 15 "Switchlog$Net" "nodeCount" "I", Cond.fieldLink RX1 19 "Switchlog$Net" "switchCount" "I", Cond.methodLink RX4 274 yX1_areEndsConnected, Cond.instanceMethod yX1_areEndsConnected, Cond.selects RX1 yX1_areEndsConnected yX1_areEndsConnected, Cond.code yX1_areEndsConnected cX1_areEndsConnected 5 (some .boolean), Cond.methodLink RX4 265 yX4_joinsLiveAndEarthed, Cond.instanceMethod yX4_joinsLiveAndEarthed, Cond.selects RX4 yX4_joinsLiveAndEarthed yX4_joinsLiveAndEarthed, Cond.code yX4_joinsLiveAndEarthed cX4_joinsLiveAndEarthed 4 (some .boolean), Cond.methodLink RX4 197 yX1_liveNodes, Cond.instanceMethod yX1_liveNodes, Cond.selects RX1 yX1_liveNodes yX1_liveNodes, Cond.code yX1_liveNodes cX1_liveNodes 2 (some .int), Cond.methodLink RX4 204 yX1_earthedNodes]
def wsX4_takeBack_r6 : List Cond := [Cond.instanceMethod yX1_earthedNodes, Cond.selects RX1 yX1_earthedNodes yX1_earthedNodes, Cond.code yX1_earthedNodes cX1_earthedNodes 2 (some .int), Cond.methodLink RX4 268 yX4_makesLoad, Cond.instanceMethod yX4_makesLoad, Cond.selects RX4 yX4_makesLoad yX4_makesLoad, Cond.code yX4_makesLoad cX4_makesLoad 3 (some .boolean), Cond.methodLink RX4 248 yX4_areSafe, Cond.instanceMethod yX4_areSafe, Cond.selects RX4 yX4_areSafe yX4_areSafe, Cond.code yX4_areSafe cX4_areSafe 3 (some .boolean), Cond.methodLink RX4 118 yX0_dropLast, Cond.instanceMethod yX0_dropLast, Cond.selects RX0 yX0_dropLast yX0_dropLast, Cond.code yX0_dropLast cX0_dropLast 1 none]
def wsX4_takeBack : List Cond := .code yX4_takeBack cX4_takeBack 3 (some .int) :: ((wsX4_takeBack_r1 ++ (wsX4_takeBack_r2 ++ (wsX4_takeBack_r3 ++ (wsX4_takeBack_r4 ++ (wsX4_takeBack_r5 ++ wsX4_takeBack_r6))))) ++ wsX40 ++ wsX00 ++ wsX10 ++ wsX30 ++ wsX20 ++ (vx_atS RX4 56 "java/lang/IllegalStateException" ["java/lang/RuntimeException", "java/lang/Exception"]).filter goodWord)
def wsX4_log : List Cond := .code yX4_log cX4_log 1 (some .int) :: ([.fieldLink RX4 28 "Switchlog" "done" "LSwitchlog$ActRow;", .methodLink RX4 84 yX0_size, .instanceMethod yX0_size, .selects RX0 yX0_size yX0_size, .initialized RX0, .code yX0_size cX0_size 1 (some .int), .fieldLink RX0 13 "Switchlog$ActRow" "size" "I"] ++ wsX40 ++ wsX00)
def wsX4_logged : List Cond := .code yX4_logged cX4_logged 2 (some .int) :: ([.classLink RX4 121 "java/lang/IndexOutOfBoundsException", .initialized "java/lang/IndexOutOfBoundsException", .fieldLink RX4 28 "Switchlog" "done" "LSwitchlog$ActRow;", .methodLink RX4 84 yX0_size, .instanceMethod yX0_size, .selects RX0 yX0_size yX0_size, .initialized RX0, .code yX0_size cX0_size 1 (some .int), .fieldLink RX0 13 "Switchlog$ActRow" "size" "I", .methodLink RX4 103 yX0_latest, .instanceMethod yX0_latest, .selects RX0 yX0_latest yX0_latest, .code yX0_latest cX0_latest 2 (some .int), .fieldLink RX0 7 "Switchlog$ActRow" "acts" "[I"] ++ wsX40 ++ wsX00 ++ (vx_atS RX4 125 "java/lang/IndexOutOfBoundsException" ["java/lang/RuntimeException", "java/lang/Exception"]).filter goodWord)
def wsX4_times_r1 : List Cond := [Cond.fieldLink RX4 28 "Switchlog" "done" "LSwitchlog$ActRow;", Cond.methodLink RX4 80 yX4_requireAct, Cond.instanceMethod yX4_requireAct, Cond.selects RX4 yX4_requireAct yX4_requireAct, Cond.initialized RX4, Cond.code yX4_requireAct cX4_requireAct 3 none, Cond.classLink RX4 66 "java/lang/IllegalArgumentException", Cond.initialized "java/lang/IllegalArgumentException", Cond.classLink RX4 121 "java/lang/IndexOutOfBoundsException", Cond.initialized "java/lang/IndexOutOfBoundsException", Cond.fieldLink RX4 10 "Switchlog" "net" "LSwitchlog$Net;", Cond.methodLink RX4 233 yX4_isOfSwitch, Cond.static yX4_isOfSwitch, Cond.code yX4_isOfSwitch cX4_isOfSwitch 1 (some .boolean), Cond.methodLink RX4 188 yX1_hasSwitch, Cond.instanceMethod yX1_hasSwitch, Cond.selects RX1 yX1_hasSwitch yX1_hasSwitch, Cond.initialized RX1, Cond.code yX1_hasSwitch cX1_hasSwitch 2 (some .boolean), Cond.fieldLink RX1 19 "Switchlog$Net" "switchCount" "I", Cond.methodLink RX4 226 yX1_hasNode, Cond.instanceMethod yX1_hasNode, Cond.selects RX1 yX1_hasNode yX1_hasNode, Cond.code yX1_hasNode cX1_hasNode 2 (some .boolean)]
def wsX4_times_r2 : List Cond := [Cond.fieldLink RX1 15 "Switchlog$Net" "nodeCount" "I", Cond.methodLink RX4 89 yX4_actOf, Cond.static yX4_actOf, Cond.code yX4_actOf cX4_actOf 2 (some .int), Cond.methodLink RX4 126 yX0_count, Cond.instanceMethod yX0_count, Cond.selects RX0 yX0_count yX0_count, Cond.initialized RX0, Cond.code yX0_count cX0_count 4 (some .int), Cond.fieldLink RX0 13 "Switchlog$ActRow" "size" "I", Cond.fieldLink RX0 7 "Switchlog$ActRow" "acts" "[I"]
def wsX4_times : List Cond := .code yX4_times cX4_times 3 (some .int) :: ((wsX4_times_r1 ++ wsX4_times_r2) ++ wsX40 ++ wsX10 ++ wsX00 ++ (vx_atS RX4 70 "java/lang/IllegalArgumentException" ["java/lang/RuntimeException", "java/lang/Exception"]).filter goodWord ++ (vx_atS RX4 125 "java/lang/IndexOutOfBoundsException" ["java/lang/RuntimeException", "java/lang/Exception"]).filter goodWord)
def wsX4_write_r1 : List Cond := [Cond.classLink RX4 52 "java/lang/IllegalStateException", Cond.initialized "java/lang/IllegalStateException", Cond.fieldLink RX4 32 "Switchlog" "written" "LSwitchlog$ActRow;", Cond.methodLink RX4 80 yX4_requireAct, Cond.instanceMethod yX4_requireAct, Cond.selects RX4 yX4_requireAct yX4_requireAct, Cond.initialized RX4, Cond.code yX4_requireAct cX4_requireAct 3 none, Cond.classLink RX4 66 "java/lang/IllegalArgumentException", Cond.initialized "java/lang/IllegalArgumentException", Cond.classLink RX4 121 "java/lang/IndexOutOfBoundsException", Cond.initialized "java/lang/IndexOutOfBoundsException", Cond.fieldLink RX4 10 "Switchlog" "net" "LSwitchlog$Net;", Cond.methodLink RX4 233 yX4_isOfSwitch, Cond.static yX4_isOfSwitch, Cond.code yX4_isOfSwitch cX4_isOfSwitch 1 (some .boolean), Cond.methodLink RX4 188 yX1_hasSwitch, Cond.instanceMethod yX1_hasSwitch, Cond.selects RX1 yX1_hasSwitch yX1_hasSwitch, Cond.initialized RX1, Cond.code yX1_hasSwitch cX1_hasSwitch 2 (some .boolean), Cond.fieldLink RX1 19 "Switchlog$Net" "switchCount" "I", Cond.methodLink RX4 226 yX1_hasNode, Cond.instanceMethod yX1_hasNode]
def wsX4_write_r2 : List Cond := [Cond.selects RX1 yX1_hasNode yX1_hasNode, Cond.code yX1_hasNode cX1_hasNode 2 (some .boolean), Cond.fieldLink RX1 15 "Switchlog$Net" "nodeCount" "I", Cond.methodLink RX4 84 yX0_size, Cond.instanceMethod yX0_size, Cond.selects RX0 yX0_size yX0_size, Cond.initialized RX0, Cond.code yX0_size cX0_size 1 (some .int), Cond.fieldLink RX0 13 "Switchlog$ActRow" "size" "I", Cond.methodLink RX4 89 yX4_actOf, Cond.static yX4_actOf, Cond.code yX4_actOf cX4_actOf 2 (some .int), Cond.methodLink RX4 131 yX0_append, Cond.instanceMethod yX0_append, Cond.selects RX0 yX0_append yX0_append, Cond.code yX0_append cX0_append 2 none, Cond.fieldLink RX0 7 "Switchlog$ActRow" "acts" "[I"]
def wsX4_write : List Cond := .code yX4_write cX4_write 3 (some .int) :: ((wsX4_write_r1 ++ wsX4_write_r2) ++ wsX40 ++ wsX10 ++ wsX00 ++ (vx_atS RX4 56 "java/lang/IllegalStateException" ["java/lang/RuntimeException", "java/lang/Exception"]).filter goodWord ++ (vx_atS RX4 70 "java/lang/IllegalArgumentException" ["java/lang/RuntimeException", "java/lang/Exception"]).filter goodWord ++ (vx_atS RX4 125 "java/lang/IndexOutOfBoundsException" ["java/lang/RuntimeException", "java/lang/Exception"]).filter goodWord)
def wsX4_erase : List Cond := .code yX4_erase cX4_erase 2 (some .int) :: ([.fieldLink RX4 32 "Switchlog" "written" "LSwitchlog$ActRow;", .methodLink RX4 84 yX0_size, .instanceMethod yX0_size, .selects RX0 yX0_size yX0_size, .initialized RX0, .code yX0_size cX0_size 1 (some .int), .fieldLink RX0 13 "Switchlog$ActRow" "size" "I", .methodLink RX4 134 yX0_dropFirst, .instanceMethod yX0_dropFirst, .selects RX0 yX0_dropFirst yX0_dropFirst, .code yX0_dropFirst cX0_dropFirst 3 none, .fieldLink RX0 7 "Switchlog$ActRow" "acts" "[I"] ++ wsX40 ++ wsX00)
def wsX4_check_r1 : List Cond := [Cond.fieldLink RX4 42 "Switchlog" "thought" "LSwitchlog$State;", Cond.fieldLink RX4 19 "Switchlog" "now" "LSwitchlog$State;", Cond.fieldLink RX4 32 "Switchlog" "written" "LSwitchlog$ActRow;", Cond.methodLink RX4 137 yX3_copyFrom, Cond.instanceMethod yX3_copyFrom, Cond.selects RX3 yX3_copyFrom yX3_copyFrom, Cond.initialized RX3, Cond.code yX3_copyFrom cX3_copyFrom 2 none, Cond.fieldLink RX3 9 "Switchlog$State" "closed" "I", Cond.fieldLink RX3 15 "Switchlog$State" "earths" "I", Cond.fieldLink RX3 18 "Switchlog$State" "sources" "I", Cond.methodLink RX4 84 yX0_size, Cond.instanceMethod yX0_size, Cond.selects RX0 yX0_size yX0_size, Cond.initialized RX0, Cond.code yX0_size cX0_size 1 (some .int), Cond.fieldLink RX0 13 "Switchlog$ActRow" "size" "I", Cond.methodLink RX4 141 yX0_get, Cond.instanceMethod yX0_get, Cond.selects RX0 yX0_get yX0_get, Cond.code yX0_get cX0_get 2 (some .int), Cond.fieldLink RX0 7 "Switchlog$ActRow" "acts" "[I", Cond.methodLink RX4 109 yX4_kindOf, Cond.static yX4_kindOf]
def wsX4_check_r2 : List Cond := [Cond.initialized RX4, Cond.code yX4_kindOf cX4_kindOf 1 (some .int), Cond.methodLink RX4 112 yX4_whatOf, Cond.static yX4_whatOf, Cond.code yX4_whatOf cX4_whatOf 1 (some .int), Cond.methodLink RX4 97 yX4_reasonIn, Cond.instanceMethod yX4_reasonIn, Cond.selects RX4 yX4_reasonIn yX4_reasonIn, Cond.code yX4_reasonIn cX4_reasonIn 4 (some .int), Cond.fieldLink RX4 38 "Switchlog" "permits" "LSwitchlog$Permits;", Cond.fieldLink RX4 45 "Switchlog" "after" "LSwitchlog$State;", Cond.methodLink RX4 238 yX4_isAlreadySo, Cond.instanceMethod yX4_isAlreadySo, Cond.selects RX4 yX4_isAlreadySo yX4_isAlreadySo, Cond.code yX4_isAlreadySo cX4_isAlreadySo 5 (some .boolean), Cond.fieldLink RX4 10 "Switchlog" "net" "LSwitchlog$Net;", Cond.methodLink RX4 252 yX1_hasSource, Cond.instanceMethod yX1_hasSource, Cond.selects RX1 yX1_hasSource yX1_hasSource, Cond.initialized RX1, Cond.code yX1_hasSource cX1_hasSource 2 (some .boolean), Cond.fieldLink RX1 22 "Switchlog$Net" "sources" "I", Cond.methodLink RX4 193 yX3_isOn, Cond.instanceMethod yX3_isOn]
def wsX4_check_r3 : List Cond := [Cond.selects RX3 yX3_isOn yX3_isOn, Cond.code yX3_isOn cX3_isOn 3 (some .boolean), Cond.methodLink RX4 255 yX4_turnsOn, Cond.static yX4_turnsOn, Cond.code yX4_turnsOn cX4_turnsOn 1 (some .boolean), Cond.methodLink RX4 242 yX4_touchedNodes, Cond.instanceMethod yX4_touchedNodes, Cond.selects RX4 yX4_touchedNodes yX4_touchedNodes, Cond.code yX4_touchedNodes cX4_touchedNodes 3 (some .int), Cond.methodLink RX4 233 yX4_isOfSwitch, Cond.static yX4_isOfSwitch, Cond.code yX4_isOfSwitch cX4_isOfSwitch 1 (some .boolean), Cond.methodLink RX4 258 yX1_endsOf, Cond.instanceMethod yX1_endsOf, Cond.selects RX1 yX1_endsOf yX1_endsOf, Cond.code yX1_endsOf cX1_endsOf 2 (some .int), Cond.fieldLink RX1 9 "Switchlog$Net" "ends" "[I", Cond.methodLink RX4 185 yX2_heldNodes, Cond.instanceMethod yX2_heldNodes, Cond.selects RX2 yX2_heldNodes yX2_heldNodes, Cond.initialized RX2, Cond.code yX2_heldNodes cX2_heldNodes 3 (some .int), Cond.fieldLink RX2 15 "Switchlog$Permits" "given" "I", Cond.fieldLink RX2 9 "Switchlog$Permits" "holds" "[I"]
def wsX4_check_r4 : List Cond := [Cond.methodLink RX4 115 yX3_flip, Cond.instanceMethod yX3_flip, Cond.selects RX3 yX3_flip yX3_flip, Cond.code yX3_flip cX3_flip 4 none, Cond.methodLink RX4 245 yX4_isInterlocked, Cond.instanceMethod yX4_isInterlocked, Cond.selects RX4 yX4_isInterlocked yX4_isInterlocked, Cond.code yX4_isInterlocked cX4_isInterlocked 4 (some .boolean), Cond.methodLink RX4 261 yX4_breaksLoad, Cond.instanceMethod yX4_breaksLoad, Cond.selects RX4 yX4_breaksLoad yX4_breaksLoad, Cond.code yX4_breaksLoad cX4_breaksLoad 3 (some .boolean), Cond.methodLink RX4 271 yX1_isBreaker, Cond.instanceMethod yX1_isBreaker, Cond.selects RX1 yX1_isBreaker yX1_isBreaker, Cond.code yX1_isBreaker cX1_isBreaker 2 (some .boolean), Cond.fieldLink RX1 28 "Switchlog$Net" "breakers" "I", Cond.methodLink RX4 201 yX1_loadedNodes, Cond.instanceMethod yX1_loadedNodes, Cond.selects RX1 yX1_loadedNodes yX1_loadedNodes, Cond.code yX1_loadedNodes cX1_loadedNodes 2 (some .int), Cond.fieldLink RX1 25 "Switchlog$Net" "loads" "I", Cond.methodLink RX1 34 yX1_connectedWith, Cond.instanceMethod yX1_connectedWith]
def wsX4_check_r5 : List Cond := [Cond.selects RX1 yX1_connectedWith yX1_connectedWith, Cond.code yX1_connectedWith cX1_connectedWith 8 (some .int), Cond.fieldLink RX1 15 "Switchlog$Net" "nodeCount" "I", Cond.fieldLink RX1 19 "Switchlog$Net" "switchCount" "I", Cond.methodLink RX4 274 yX1_areEndsConnected, Cond.instanceMethod yX1_areEndsConnected, Cond.selects RX1 yX1_areEndsConnected yX1_areEndsConnected, Cond.code yX1_areEndsConnected cX1_areEndsConnected 5 (some .boolean), Cond.methodLink RX4 265 yX4_joinsLiveAndEarthed, Cond.instanceMethod yX4_joinsLiveAndEarthed, Cond.selects RX4 yX4_joinsLiveAndEarthed yX4_joinsLiveAndEarthed, Cond.code yX4_joinsLiveAndEarthed cX4_joinsLiveAndEarthed 4 (some .boolean), Cond.methodLink RX4 197 yX1_liveNodes, Cond.instanceMethod yX1_liveNodes, Cond.selects RX1 yX1_liveNodes yX1_liveNodes, Cond.code yX1_liveNodes cX1_liveNodes 2 (some .int), Cond.methodLink RX4 204 yX1_earthedNodes, Cond.instanceMethod yX1_earthedNodes, Cond.selects RX1 yX1_earthedNodes yX1_earthedNodes, Cond.code yX1_earthedNodes cX1_earthedNodes 2 (some .int), Cond.methodLink RX4 268 yX4_makesLoad, Cond.instanceMethod yX4_makesLoad, Cond.selects RX4 yX4_makesLoad yX4_makesLoad, Cond.code yX4_makesLoad cX4_makesLoad 3 (some .boolean)]
def wsX4_check_r6 : List Cond := [Cond.methodLink RX4 248 yX4_areSafe, Cond.instanceMethod yX4_areSafe, Cond.selects RX4 yX4_areSafe yX4_areSafe, Cond.code yX4_areSafe cX4_areSafe 3 (some .boolean)]
def wsX4_check : List Cond := .code yX4_check cX4_check 3 (some .int) :: ((wsX4_check_r1 ++ (wsX4_check_r2 ++ (wsX4_check_r3 ++ (wsX4_check_r4 ++ (wsX4_check_r5 ++ wsX4_check_r6))))) ++ wsX40 ++ wsX30 ++ wsX00 ++ wsX10 ++ wsX20)
def wsX4_carryOut_r1 : List Cond := [Cond.classLink RX4 66 "java/lang/IllegalArgumentException", Cond.initialized "java/lang/IllegalArgumentException", Cond.classLink RX4 52 "java/lang/IllegalStateException", Cond.initialized "java/lang/IllegalStateException", Cond.fieldLink RX4 32 "Switchlog" "written" "LSwitchlog$ActRow;", Cond.methodLink RX4 146 Lib.Math.min.name, Cond.static Lib.Math.min.name, Cond.initialized "java/lang/Math", Cond.code Lib.Math.min.name Lib.Math.min.code 2 (some .int), Cond.fieldLink RX4 28 "Switchlog" "done" "LSwitchlog$ActRow;", Cond.methodLink RX4 84 yX0_size, Cond.instanceMethod yX0_size, Cond.selects RX0 yX0_size yX0_size, Cond.initialized RX0, Cond.code yX0_size cX0_size 1 (some .int), Cond.fieldLink RX0 13 "Switchlog$ActRow" "size" "I", Cond.methodLink RX4 141 yX0_get, Cond.instanceMethod yX0_get, Cond.selects RX0 yX0_get yX0_get, Cond.code yX0_get cX0_get 2 (some .int), Cond.fieldLink RX0 7 "Switchlog$ActRow" "acts" "[I", Cond.methodLink RX4 93 yX4_doAndLog, Cond.instanceMethod yX4_doAndLog, Cond.selects RX4 yX4_doAndLog yX4_doAndLog]
def wsX4_carryOut_r2 : List Cond := [Cond.initialized RX4, Cond.code yX4_doAndLog cX4_doAndLog 3 (some .int), Cond.fieldLink RX4 19 "Switchlog" "now" "LSwitchlog$State;", Cond.methodLink RX4 109 yX4_kindOf, Cond.static yX4_kindOf, Cond.code yX4_kindOf cX4_kindOf 1 (some .int), Cond.methodLink RX4 112 yX4_whatOf, Cond.static yX4_whatOf, Cond.code yX4_whatOf cX4_whatOf 1 (some .int), Cond.methodLink RX4 97 yX4_reasonIn, Cond.instanceMethod yX4_reasonIn, Cond.selects RX4 yX4_reasonIn yX4_reasonIn, Cond.code yX4_reasonIn cX4_reasonIn 4 (some .int), Cond.fieldLink RX4 38 "Switchlog" "permits" "LSwitchlog$Permits;", Cond.fieldLink RX4 45 "Switchlog" "after" "LSwitchlog$State;", Cond.methodLink RX4 238 yX4_isAlreadySo, Cond.instanceMethod yX4_isAlreadySo, Cond.selects RX4 yX4_isAlreadySo yX4_isAlreadySo, Cond.code yX4_isAlreadySo cX4_isAlreadySo 5 (some .boolean), Cond.fieldLink RX4 10 "Switchlog" "net" "LSwitchlog$Net;", Cond.methodLink RX4 252 yX1_hasSource, Cond.instanceMethod yX1_hasSource, Cond.selects RX1 yX1_hasSource yX1_hasSource, Cond.initialized RX1]
def wsX4_carryOut_r3 : List Cond := [Cond.code yX1_hasSource cX1_hasSource 2 (some .boolean), Cond.fieldLink RX1 22 "Switchlog$Net" "sources" "I", Cond.methodLink RX4 193 yX3_isOn, Cond.instanceMethod yX3_isOn, Cond.selects RX3 yX3_isOn yX3_isOn, Cond.initialized RX3, Cond.code yX3_isOn cX3_isOn 3 (some .boolean), Cond.fieldLink RX3 9 "Switchlog$State" "closed" "I", Cond.fieldLink RX3 15 "Switchlog$State" "earths" "I", Cond.fieldLink RX3 18 "Switchlog$State" "sources" "I", Cond.methodLink RX4 255 yX4_turnsOn, Cond.static yX4_turnsOn, Cond.code yX4_turnsOn cX4_turnsOn 1 (some .boolean), Cond.methodLink RX4 242 yX4_touchedNodes, Cond.instanceMethod yX4_touchedNodes, Cond.selects RX4 yX4_touchedNodes yX4_touchedNodes, Cond.code yX4_touchedNodes cX4_touchedNodes 3 (some .int), Cond.methodLink RX4 233 yX4_isOfSwitch, Cond.static yX4_isOfSwitch, Cond.code yX4_isOfSwitch cX4_isOfSwitch 1 (some .boolean), Cond.methodLink RX4 258 yX1_endsOf, Cond.instanceMethod yX1_endsOf, Cond.selects RX1 yX1_endsOf yX1_endsOf, Cond.code yX1_endsOf cX1_endsOf 2 (some .int)]
def wsX4_carryOut_r4 : List Cond := [Cond.fieldLink RX1 9 "Switchlog$Net" "ends" "[I", Cond.methodLink RX4 185 yX2_heldNodes, Cond.instanceMethod yX2_heldNodes, Cond.selects RX2 yX2_heldNodes yX2_heldNodes, Cond.initialized RX2, Cond.code yX2_heldNodes cX2_heldNodes 3 (some .int), Cond.fieldLink RX2 15 "Switchlog$Permits" "given" "I", Cond.fieldLink RX2 9 "Switchlog$Permits" "holds" "[I", Cond.methodLink RX4 137 yX3_copyFrom, Cond.instanceMethod yX3_copyFrom, Cond.selects RX3 yX3_copyFrom yX3_copyFrom, Cond.code yX3_copyFrom cX3_copyFrom 2 none, Cond.methodLink RX4 115 yX3_flip, Cond.instanceMethod yX3_flip, Cond.selects RX3 yX3_flip yX3_flip, Cond.code yX3_flip cX3_flip 4 none, Cond.methodLink RX4 245 yX4_isInterlocked, Cond.instanceMethod yX4_isInterlocked, Cond.selects RX4 yX4_isInterlocked yX4_isInterlocked, Cond.code yX4_isInterlocked cX4_isInterlocked 4 (some .boolean), Cond.methodLink RX4 261 yX4_breaksLoad, Cond.instanceMethod yX4_breaksLoad, Cond.selects RX4 yX4_breaksLoad yX4_breaksLoad, Cond.code yX4_breaksLoad cX4_breaksLoad 3 (some .boolean)]
def wsX4_carryOut_r5 : List Cond := [Cond.methodLink RX4 271 yX1_isBreaker, Cond.instanceMethod yX1_isBreaker, Cond.selects RX1 yX1_isBreaker yX1_isBreaker, Cond.code yX1_isBreaker cX1_isBreaker 2 (some .boolean), Cond.fieldLink RX1 28 "Switchlog$Net" "breakers" "I", Cond.methodLink RX4 201 yX1_loadedNodes, Cond.instanceMethod yX1_loadedNodes, Cond.selects RX1 yX1_loadedNodes yX1_loadedNodes, Cond.code yX1_loadedNodes cX1_loadedNodes 2 (some .int), Cond.fieldLink RX1 25 "Switchlog$Net" "loads" "I", Cond.methodLink RX1 34 yX1_connectedWith, Cond.instanceMethod yX1_connectedWith, Cond.selects RX1 yX1_connectedWith yX1_connectedWith, Cond.code yX1_connectedWith cX1_connectedWith 8 (some .int), Cond.fieldLink RX1 15 "Switchlog$Net" "nodeCount" "I", Cond.fieldLink RX1 19 "Switchlog$Net" "switchCount" "I", Cond.methodLink RX4 274 yX1_areEndsConnected, Cond.instanceMethod yX1_areEndsConnected, Cond.selects RX1 yX1_areEndsConnected yX1_areEndsConnected, Cond.code yX1_areEndsConnected cX1_areEndsConnected 5 (some .boolean), Cond.methodLink RX4 265 yX4_joinsLiveAndEarthed, Cond.instanceMethod yX4_joinsLiveAndEarthed, Cond.selects RX4 yX4_joinsLiveAndEarthed yX4_joinsLiveAndEarthed, Cond.code yX4_joinsLiveAndEarthed cX4_joinsLiveAndEarthed 4 (some .boolean)]
def wsX4_carryOut_r6 : List Cond := [Cond.methodLink RX4 197 yX1_liveNodes, Cond.instanceMethod yX1_liveNodes, Cond.selects RX1 yX1_liveNodes yX1_liveNodes, Cond.code yX1_liveNodes cX1_liveNodes 2 (some .int), Cond.methodLink RX4 204 yX1_earthedNodes, Cond.instanceMethod yX1_earthedNodes, Cond.selects RX1 yX1_earthedNodes yX1_earthedNodes, Cond.code yX1_earthedNodes cX1_earthedNodes 2 (some .int), Cond.methodLink RX4 268 yX4_makesLoad, Cond.instanceMethod yX4_makesLoad, Cond.selects RX4 yX4_makesLoad yX4_makesLoad, Cond.code yX4_makesLoad cX4_makesLoad 3 (some .boolean), Cond.methodLink RX4 248 yX4_areSafe, Cond.instanceMethod yX4_areSafe, Cond.selects RX4 yX4_areSafe yX4_areSafe, Cond.code yX4_areSafe cX4_areSafe 3 (some .boolean), Cond.methodLink RX4 131 yX0_append, Cond.instanceMethod yX0_append, Cond.selects RX0 yX0_append yX0_append, Cond.code yX0_append cX0_append 2 none, Cond.methodLink RX4 134 yX0_dropFirst, Cond.instanceMethod yX0_dropFirst, Cond.selects RX0 yX0_dropFirst yX0_dropFirst, Cond.code yX0_dropFirst cX0_dropFirst 3 none]
def wsX4_carryOut : List Cond := .code yX4_carryOut cX4_carryOut 4 (some .int) :: ((wsX4_carryOut_r1 ++ (wsX4_carryOut_r2 ++ (wsX4_carryOut_r3 ++ (wsX4_carryOut_r4 ++ (wsX4_carryOut_r5 ++ wsX4_carryOut_r6))))) ++ wsX40 ++ wsX00 ++ wsX10 ++ wsX30 ++ wsX20 ++ (vx_atS RX4 70 "java/lang/IllegalArgumentException" ["java/lang/RuntimeException", "java/lang/Exception"]).filter goodWord ++ (vx_atS RX4 56 "java/lang/IllegalStateException" ["java/lang/RuntimeException", "java/lang/Exception"]).filter goodWord)
def wsX4_writeBack_r1 : List Cond := [Cond.fieldLink RX4 28 "Switchlog" "done" "LSwitchlog$ActRow;", Cond.methodLink RX4 146 Lib.Math.min.name, Cond.static Lib.Math.min.name, Cond.initialized "java/lang/Math", Cond.code Lib.Math.min.name Lib.Math.min.code 2 (some .int), Cond.fieldLink RX4 32 "Switchlog" "written" "LSwitchlog$ActRow;", Cond.methodLink RX4 84 yX0_size, Cond.instanceMethod yX0_size, Cond.selects RX0 yX0_size yX0_size, Cond.initialized RX0, Cond.code yX0_size cX0_size 1 (some .int), Cond.fieldLink RX0 13 "Switchlog$ActRow" "size" "I", Cond.methodLink RX4 134 yX0_dropFirst, Cond.instanceMethod yX0_dropFirst, Cond.selects RX0 yX0_dropFirst yX0_dropFirst, Cond.code yX0_dropFirst cX0_dropFirst 3 none, Cond.fieldLink RX0 7 "Switchlog$ActRow" "acts" "[I", Cond.methodLink RX4 103 yX0_latest, Cond.instanceMethod yX0_latest, Cond.selects RX0 yX0_latest yX0_latest, Cond.code yX0_latest cX0_latest 2 (some .int), Cond.methodLink RX4 106 yX4_oppositeOf, Cond.static yX4_oppositeOf, Cond.initialized RX4]
def wsX4_writeBack_r2 : List Cond := [Cond.code yX4_oppositeOf cX4_oppositeOf 1 (some .int), Cond.methodLink RX4 109 yX4_kindOf, Cond.static yX4_kindOf, Cond.code yX4_kindOf cX4_kindOf 1 (some .int), Cond.methodLink RX4 112 yX4_whatOf, Cond.static yX4_whatOf, Cond.code yX4_whatOf cX4_whatOf 1 (some .int), Cond.methodLink RX4 89 yX4_actOf, Cond.static yX4_actOf, Cond.code yX4_actOf cX4_actOf 2 (some .int), Cond.methodLink RX4 131 yX0_append, Cond.instanceMethod yX0_append, Cond.selects RX0 yX0_append yX0_append, Cond.code yX0_append cX0_append 2 none]
def wsX4_writeBack : List Cond := .code yX4_writeBack cX4_writeBack 3 (some .int) :: ((wsX4_writeBack_r1 ++ wsX4_writeBack_r2) ++ wsX40 ++ wsX00)
def wsX4_canBeHeld_r1 : List Cond := [Cond.fieldLink RX4 19 "Switchlog" "now" "LSwitchlog$State;", Cond.fieldLink RX4 38 "Switchlog" "permits" "LSwitchlog$Permits;", Cond.methodLink RX4 248 yX4_areSafe, Cond.instanceMethod yX4_areSafe, Cond.selects RX4 yX4_areSafe yX4_areSafe, Cond.initialized RX4, Cond.code yX4_areSafe cX4_areSafe 3 (some .boolean), Cond.fieldLink RX4 10 "Switchlog" "net" "LSwitchlog$Net;", Cond.methodLink RX4 204 yX1_earthedNodes, Cond.instanceMethod yX1_earthedNodes, Cond.selects RX1 yX1_earthedNodes yX1_earthedNodes, Cond.initialized RX1, Cond.code yX1_earthedNodes cX1_earthedNodes 2 (some .int), Cond.methodLink RX1 34 yX1_connectedWith, Cond.instanceMethod yX1_connectedWith, Cond.selects RX1 yX1_connectedWith yX1_connectedWith, Cond.code yX1_connectedWith cX1_connectedWith 8 (some .int), Cond.fieldLink RX1 15 "Switchlog$Net" "nodeCount" "I", Cond.fieldLink RX1 19 "Switchlog$Net" "switchCount" "I", Cond.fieldLink RX1 9 "Switchlog$Net" "ends" "[I", Cond.methodLink RX4 197 yX1_liveNodes, Cond.instanceMethod yX1_liveNodes, Cond.selects RX1 yX1_liveNodes yX1_liveNodes, Cond.code yX1_liveNodes cX1_liveNodes 2 (some .int)]
def wsX4_canBeHeld_r2 : List Cond := [Cond.methodLink RX4 185 yX2_heldNodes, Cond.instanceMethod yX2_heldNodes, Cond.selects RX2 yX2_heldNodes yX2_heldNodes, Cond.initialized RX2, Cond.code yX2_heldNodes cX2_heldNodes 3 (some .int), Cond.fieldLink RX2 15 "Switchlog$Permits" "given" "I", Cond.fieldLink RX2 9 "Switchlog$Permits" "holds" "[I"]
def wsX4_canBeHeld : List Cond := .code yX4_canBeHeld cX4_canBeHeld 2 (some .boolean) :: ((wsX4_canBeHeld_r1 ++ wsX4_canBeHeld_r2) ++ wsX40 ++ wsX30 ++ wsX10 ++ wsX20)
def wsX4_permit_r1 : List Cond := [Cond.classLink RX4 66 "java/lang/IllegalArgumentException", Cond.initialized "java/lang/IllegalArgumentException", Cond.classLink RX4 52 "java/lang/IllegalStateException", Cond.initialized "java/lang/IllegalStateException", Cond.fieldLink RX4 10 "Switchlog" "net" "LSwitchlog$Net;", Cond.fieldLink RX4 38 "Switchlog" "permits" "LSwitchlog$Permits;", Cond.methodLink RX4 153 yX1_allNodes, Cond.instanceMethod yX1_allNodes, Cond.selects RX1 yX1_allNodes yX1_allNodes, Cond.initialized RX1, Cond.code yX1_allNodes cX1_allNodes 1 (some .int), Cond.fieldLink RX1 15 "Switchlog$Net" "nodeCount" "I", Cond.methodLink RX4 158 yX4_canBeHeld, Cond.instanceMethod yX4_canBeHeld, Cond.selects RX4 yX4_canBeHeld yX4_canBeHeld, Cond.initialized RX4, Cond.code yX4_canBeHeld cX4_canBeHeld 2 (some .boolean), Cond.fieldLink RX4 19 "Switchlog" "now" "LSwitchlog$State;", Cond.methodLink RX4 248 yX4_areSafe, Cond.instanceMethod yX4_areSafe, Cond.selects RX4 yX4_areSafe yX4_areSafe, Cond.code yX4_areSafe cX4_areSafe 3 (some .boolean), Cond.methodLink RX4 204 yX1_earthedNodes, Cond.instanceMethod yX1_earthedNodes]
def wsX4_permit_r2 : List Cond := [Cond.selects RX1 yX1_earthedNodes yX1_earthedNodes, Cond.code yX1_earthedNodes cX1_earthedNodes 2 (some .int), Cond.methodLink RX1 34 yX1_connectedWith, Cond.instanceMethod yX1_connectedWith, Cond.selects RX1 yX1_connectedWith yX1_connectedWith, Cond.code yX1_connectedWith cX1_connectedWith 8 (some .int), Cond.fieldLink RX1 19 "Switchlog$Net" "switchCount" "I", Cond.fieldLink RX1 9 "Switchlog$Net" "ends" "[I", Cond.methodLink RX4 197 yX1_liveNodes, Cond.instanceMethod yX1_liveNodes, Cond.selects RX1 yX1_liveNodes yX1_liveNodes, Cond.code yX1_liveNodes cX1_liveNodes 2 (some .int), Cond.methodLink RX4 185 yX2_heldNodes, Cond.instanceMethod yX2_heldNodes, Cond.selects RX2 yX2_heldNodes yX2_heldNodes, Cond.initialized RX2, Cond.code yX2_heldNodes cX2_heldNodes 3 (some .int), Cond.fieldLink RX2 15 "Switchlog$Permits" "given" "I", Cond.fieldLink RX2 9 "Switchlog$Permits" "holds" "[I", Cond.methodLink RX4 164 yX2_given, Cond.instanceMethod yX2_given, Cond.selects RX2 yX2_given yX2_given, Cond.code yX2_given cX2_given 1 (some .int), Cond.methodLink RX4 169 yX2_give]
def wsX4_permit_r3 : List Cond := [Cond.instanceMethod yX2_give, Cond.selects RX2 yX2_give yX2_give, Cond.code yX2_give cX2_give 2 (some .int)]
def wsX4_permit : List Cond := .code yX4_permit cX4_permit 2 (some .int) :: ((wsX4_permit_r1 ++ (wsX4_permit_r2 ++ wsX4_permit_r3)) ++ wsX40 ++ wsX10 ++ wsX30 ++ wsX20 ++ (vx_atS RX4 70 "java/lang/IllegalArgumentException" ["java/lang/RuntimeException", "java/lang/Exception"]).filter goodWord ++ (vx_atS RX4 56 "java/lang/IllegalStateException" ["java/lang/RuntimeException", "java/lang/Exception"]).filter goodWord)
def wsX4_handBack_r1 : List Cond := [Cond.classLink RX4 121 "java/lang/IndexOutOfBoundsException", Cond.initialized "java/lang/IndexOutOfBoundsException", Cond.classLink RX4 52 "java/lang/IllegalStateException", Cond.initialized "java/lang/IllegalStateException", Cond.fieldLink RX4 38 "Switchlog" "permits" "LSwitchlog$Permits;", Cond.methodLink RX4 164 yX2_given, Cond.instanceMethod yX2_given, Cond.selects RX2 yX2_given yX2_given, Cond.initialized RX2, Cond.code yX2_given cX2_given 1 (some .int), Cond.fieldLink RX2 15 "Switchlog$Permits" "given" "I", Cond.methodLink RX4 174 yX2_isHeld, Cond.instanceMethod yX2_isHeld, Cond.selects RX2 yX2_isHeld yX2_isHeld, Cond.code yX2_isHeld cX2_isHeld 2 (some .boolean), Cond.fieldLink RX2 9 "Switchlog$Permits" "holds" "[I", Cond.methodLink RX4 179 yX2_release, Cond.instanceMethod yX2_release, Cond.selects RX2 yX2_release yX2_release, Cond.code yX2_release cX2_release 2 none, Cond.methodLink RX4 182 yX2_countHeld, Cond.instanceMethod yX2_countHeld, Cond.selects RX2 yX2_countHeld yX2_countHeld, Cond.code yX2_countHeld cX2_countHeld 3 (some .int)]
def wsX4_handBack_r2 : List Cond := [Cond.methodLink RX2 19 yX2_isHeld]
def wsX4_handBack : List Cond := .code yX4_handBack cX4_handBack 2 (some .int) :: ((wsX4_handBack_r1 ++ wsX4_handBack_r2) ++ wsX40 ++ wsX20 ++ (vx_atS RX4 125 "java/lang/IndexOutOfBoundsException" ["java/lang/RuntimeException", "java/lang/Exception"]).filter goodWord ++ (vx_atS RX4 56 "java/lang/IllegalStateException" ["java/lang/RuntimeException", "java/lang/Exception"]).filter goodWord)
def wsX4_held : List Cond := .code yX4_held cX4_held 1 (some .int) :: ([.fieldLink RX4 38 "Switchlog" "permits" "LSwitchlog$Permits;", .methodLink RX4 185 yX2_heldNodes, .instanceMethod yX2_heldNodes, .selects RX2 yX2_heldNodes yX2_heldNodes, .initialized RX2, .code yX2_heldNodes cX2_heldNodes 3 (some .int), .fieldLink RX2 15 "Switchlog$Permits" "given" "I", .fieldLink RX2 9 "Switchlog$Permits" "holds" "[I"] ++ wsX40 ++ wsX20)
def wsX4_isClosed : List Cond := .code yX4_isClosed cX4_isClosed 2 (some .boolean) :: ([.classLink RX4 121 "java/lang/IndexOutOfBoundsException", .initialized "java/lang/IndexOutOfBoundsException", .fieldLink RX4 10 "Switchlog" "net" "LSwitchlog$Net;", .fieldLink RX4 19 "Switchlog" "now" "LSwitchlog$State;", .methodLink RX4 188 yX1_hasSwitch, .instanceMethod yX1_hasSwitch, .selects RX1 yX1_hasSwitch yX1_hasSwitch, .initialized RX1, .code yX1_hasSwitch cX1_hasSwitch 2 (some .boolean), .fieldLink RX1 19 "Switchlog$Net" "switchCount" "I", .methodLink RX4 193 yX3_isOn, .instanceMethod yX3_isOn, .selects RX3 yX3_isOn yX3_isOn, .initialized RX3, .code yX3_isOn cX3_isOn 3 (some .boolean), .fieldLink RX3 9 "Switchlog$State" "closed" "I", .fieldLink RX3 15 "Switchlog$State" "earths" "I", .fieldLink RX3 18 "Switchlog$State" "sources" "I"] ++ wsX40 ++ wsX10 ++ wsX30 ++ (vx_atS RX4 125 "java/lang/IndexOutOfBoundsException" ["java/lang/RuntimeException", "java/lang/Exception"]).filter goodWord)
def wsX4_live : List Cond := .code yX4_live cX4_live 1 (some .int) :: ([.fieldLink RX4 10 "Switchlog" "net" "LSwitchlog$Net;", .fieldLink RX4 19 "Switchlog" "now" "LSwitchlog$State;", .methodLink RX4 197 yX1_liveNodes, .instanceMethod yX1_liveNodes, .selects RX1 yX1_liveNodes yX1_liveNodes, .initialized RX1, .code yX1_liveNodes cX1_liveNodes 2 (some .int), .methodLink RX1 34 yX1_connectedWith, .instanceMethod yX1_connectedWith, .selects RX1 yX1_connectedWith yX1_connectedWith, .code yX1_connectedWith cX1_connectedWith 8 (some .int), .fieldLink RX1 15 "Switchlog$Net" "nodeCount" "I", .fieldLink RX1 19 "Switchlog$Net" "switchCount" "I", .fieldLink RX1 9 "Switchlog$Net" "ends" "[I"] ++ wsX40 ++ wsX30 ++ wsX10)
def wsX4_loaded : List Cond := .code yX4_loaded cX4_loaded 1 (some .int) :: ([.fieldLink RX4 10 "Switchlog" "net" "LSwitchlog$Net;", .fieldLink RX4 19 "Switchlog" "now" "LSwitchlog$State;", .methodLink RX4 201 yX1_loadedNodes, .instanceMethod yX1_loadedNodes, .selects RX1 yX1_loadedNodes yX1_loadedNodes, .initialized RX1, .code yX1_loadedNodes cX1_loadedNodes 2 (some .int), .fieldLink RX1 25 "Switchlog$Net" "loads" "I", .methodLink RX1 34 yX1_connectedWith, .instanceMethod yX1_connectedWith, .selects RX1 yX1_connectedWith yX1_connectedWith, .code yX1_connectedWith cX1_connectedWith 8 (some .int), .fieldLink RX1 15 "Switchlog$Net" "nodeCount" "I", .fieldLink RX1 19 "Switchlog$Net" "switchCount" "I", .fieldLink RX1 9 "Switchlog$Net" "ends" "[I"] ++ wsX40 ++ wsX30 ++ wsX10)
def wsX4_earthed : List Cond := .code yX4_earthed cX4_earthed 1 (some .int) :: ([.fieldLink RX4 10 "Switchlog" "net" "LSwitchlog$Net;", .fieldLink RX4 19 "Switchlog" "now" "LSwitchlog$State;", .methodLink RX4 204 yX1_earthedNodes, .instanceMethod yX1_earthedNodes, .selects RX1 yX1_earthedNodes yX1_earthedNodes, .initialized RX1, .code yX1_earthedNodes cX1_earthedNodes 2 (some .int), .methodLink RX1 34 yX1_connectedWith, .instanceMethod yX1_connectedWith, .selects RX1 yX1_connectedWith yX1_connectedWith, .code yX1_connectedWith cX1_connectedWith 8 (some .int), .fieldLink RX1 15 "Switchlog$Net" "nodeCount" "I", .fieldLink RX1 19 "Switchlog$Net" "switchCount" "I", .fieldLink RX1 9 "Switchlog$Net" "ends" "[I"] ++ wsX40 ++ wsX30 ++ wsX10)
def wsX4_part : List Cond := .code yX4_part cX4_part 2 (some .int) :: ([.fieldLink RX4 10 "Switchlog" "net" "LSwitchlog$Net;", .fieldLink RX4 19 "Switchlog" "now" "LSwitchlog$State;", .methodLink RX4 63 yX4_requireNode, .instanceMethod yX4_requireNode, .selects RX4 yX4_requireNode yX4_requireNode, .initialized RX4, .code yX4_requireNode cX4_requireNode 2 none, .classLink RX4 121 "java/lang/IndexOutOfBoundsException", .initialized "java/lang/IndexOutOfBoundsException", .methodLink RX4 226 yX1_hasNode, .instanceMethod yX1_hasNode, .selects RX1 yX1_hasNode yX1_hasNode, .initialized RX1, .code yX1_hasNode cX1_hasNode 2 (some .boolean), .fieldLink RX1 15 "Switchlog$Net" "nodeCount" "I", .methodLink RX4 207 yX1_connectedWith, .instanceMethod yX1_connectedWith, .selects RX1 yX1_connectedWith yX1_connectedWith, .code yX1_connectedWith cX1_connectedWith 8 (some .int), .fieldLink RX1 19 "Switchlog$Net" "switchCount" "I", .fieldLink RX1 9 "Switchlog$Net" "ends" "[I"] ++ wsX40 ++ wsX10 ++ wsX30 ++ (vx_atS RX4 125 "java/lang/IndexOutOfBoundsException" ["java/lang/RuntimeException", "java/lang/Exception"]).filter goodWord)
def wsX4_parts : List Cond := .code yX4_parts cX4_parts 1 (some .int) :: ([.fieldLink RX4 10 "Switchlog" "net" "LSwitchlog$Net;", .fieldLink RX4 19 "Switchlog" "now" "LSwitchlog$State;", .methodLink RX4 211 yX1_countParts, .instanceMethod yX1_countParts, .selects RX1 yX1_countParts yX1_countParts, .initialized RX1, .code yX1_countParts cX1_countParts 5 (some .int), .fieldLink RX1 15 "Switchlog$Net" "nodeCount" "I", .methodLink RX1 41 yX1_allNodes, .instanceMethod yX1_allNodes, .selects RX1 yX1_allNodes yX1_allNodes, .code yX1_allNodes cX1_allNodes 1 (some .int), .methodLink RX1 34 yX1_connectedWith, .instanceMethod yX1_connectedWith, .selects RX1 yX1_connectedWith yX1_connectedWith, .code yX1_connectedWith cX1_connectedWith 8 (some .int), .fieldLink RX1 19 "Switchlog$Net" "switchCount" "I", .fieldLink RX1 9 "Switchlog$Net" "ends" "[I"] ++ wsX40 ++ wsX10 ++ wsX30)
def wsX4_toLive_r1 : List Cond := [Cond.classLink RX4 221 "java/util/NoSuchElementException", Cond.initialized "java/util/NoSuchElementException", Cond.fieldLink RX4 10 "Switchlog" "net" "LSwitchlog$Net;", Cond.fieldLink RX4 19 "Switchlog" "now" "LSwitchlog$State;", Cond.methodLink RX4 63 yX4_requireNode, Cond.instanceMethod yX4_requireNode, Cond.selects RX4 yX4_requireNode yX4_requireNode, Cond.initialized RX4, Cond.code yX4_requireNode cX4_requireNode 2 none, Cond.classLink RX4 121 "java/lang/IndexOutOfBoundsException", Cond.initialized "java/lang/IndexOutOfBoundsException", Cond.methodLink RX4 226 yX1_hasNode, Cond.instanceMethod yX1_hasNode, Cond.selects RX1 yX1_hasNode yX1_hasNode, Cond.initialized RX1, Cond.code yX1_hasNode cX1_hasNode 2 (some .boolean), Cond.fieldLink RX1 15 "Switchlog$Net" "nodeCount" "I", Cond.methodLink RX4 207 yX1_connectedWith, Cond.instanceMethod yX1_connectedWith, Cond.selects RX1 yX1_connectedWith yX1_connectedWith, Cond.code yX1_connectedWith cX1_connectedWith 8 (some .int), Cond.fieldLink RX1 19 "Switchlog$Net" "switchCount" "I", Cond.fieldLink RX1 9 "Switchlog$Net" "ends" "[I", Cond.methodLink RX4 48 yX1_nodeCount]
def wsX4_toLive_r2 : List Cond := [Cond.instanceMethod yX1_nodeCount, Cond.selects RX1 yX1_nodeCount yX1_nodeCount, Cond.code yX1_nodeCount cX1_nodeCount 1 (some .int), Cond.methodLink RX4 218 yX1_withNeighbours, Cond.instanceMethod yX1_withNeighbours, Cond.selects RX1 yX1_withNeighbours yX1_withNeighbours, Cond.code yX1_withNeighbours cX1_withNeighbours 4 (some .int)]
def wsX4_toLive : List Cond := .code yX4_toLive cX4_toLive 4 (some .int) :: ((wsX4_toLive_r1 ++ wsX4_toLive_r2) ++ wsX40 ++ wsX30 ++ wsX10 ++ (vx_atS RX4 225 "java/util/NoSuchElementException" ["java/lang/RuntimeException", "java/lang/Exception"]).filter goodWord ++ (vx_atS RX4 125 "java/lang/IndexOutOfBoundsException" ["java/lang/RuntimeException", "java/lang/Exception"]).filter goodWord)
def wsX5_init : List Cond := .code yX5_init cX5_init 1 none :: ([.methodLink RX5 1 objectInit, .instanceMethod objectInit, .code objectInit ⟨#[0xb1]⟩ 1 none, .arrayClass .int, .fieldLink RX5 7 "SwitchlogModel" "one" "[I", .fieldLink RX5 13 "SwitchlogModel" "other" "[I", .arrayClass .boolean, .fieldLink RX5 16 "SwitchlogModel" "isBreaker" "[Z", .fieldLink RX5 20 "SwitchlogModel" "log" "[I", .fieldLink RX5 23 "SwitchlogModel" "sequence" "[I", .fieldLink RX5 26 "SwitchlogModel" "holds" "[I", .fieldLink RX5 29 "SwitchlogModel" "isHeld" "[Z", .fieldLink RX5 32 "SwitchlogModel" "far" "[I"] ++ wsX50)
def wsX5_thrown : List Cond := .code yX5_thrown cX5_thrown 1 (some .int) :: ([.fieldLink RX5 35 "SwitchlogModel" "thrown" "I"] ++ wsX50)
def wsX5_in : List Cond := .code yX5_in cX5_in 3 (some .boolean) :: ([])
def wsX5_has : List Cond := .code yX5_has cX5_has 2 (some .boolean) :: ([])
def wsX5_isNode : List Cond := .code yX5_isNode cX5_isNode 2 (some .boolean) :: ([.fieldLink RX5 39 "SwitchlogModel" "nodes" "I", .methodLink RX5 42 yX5_in, .static yX5_in, .initialized RX5, .code yX5_in cX5_in 3 (some .boolean)] ++ wsX50)
def wsX5_isSwitch : List Cond := .code yX5_isSwitch cX5_isSwitch 2 (some .boolean) :: ([.fieldLink RX5 46 "SwitchlogModel" "switches" "I", .methodLink RX5 42 yX5_in, .static yX5_in, .initialized RX5, .code yX5_in cX5_in 3 (some .boolean)] ++ wsX50)
def wsX5_addNode : List Cond := .code yX5_addNode cX5_addNode 3 (some .int) :: ([.fieldLink RX5 39 "SwitchlogModel" "nodes" "I", .fieldLink RX5 35 "SwitchlogModel" "thrown" "I", .fieldLink RX5 49 "SwitchlogModel" "sources" "I", .fieldLink RX5 52 "SwitchlogModel" "loads" "I"] ++ wsX50)
def wsX5_addSwitch : List Cond := .code yX5_addSwitch cX5_addSwitch 4 (some .int) :: ([.fieldLink RX5 46 "SwitchlogModel" "switches" "I", .fieldLink RX5 35 "SwitchlogModel" "thrown" "I", .fieldLink RX5 7 "SwitchlogModel" "one" "[I", .fieldLink RX5 13 "SwitchlogModel" "other" "[I", .fieldLink RX5 16 "SwitchlogModel" "isBreaker" "[Z", .methodLink RX5 55 yX5_isNode, .instanceMethod yX5_isNode, .selects RX5 yX5_isNode yX5_isNode, .initialized RX5, .code yX5_isNode cX5_isNode 2 (some .boolean), .fieldLink RX5 39 "SwitchlogModel" "nodes" "I", .methodLink RX5 42 yX5_in, .static yX5_in, .code yX5_in cX5_in 3 (some .boolean)] ++ wsX50)
def wsX5_nodes : List Cond := .code yX5_nodes cX5_nodes 1 (some .int) :: ([.fieldLink RX5 35 "SwitchlogModel" "thrown" "I", .fieldLink RX5 39 "SwitchlogModel" "nodes" "I"] ++ wsX50)
def wsX5_switches : List Cond := .code yX5_switches cX5_switches 1 (some .int) :: ([.fieldLink RX5 35 "SwitchlogModel" "thrown" "I", .fieldLink RX5 46 "SwitchlogModel" "switches" "I"] ++ wsX50)
def wsX5_partOf : List Cond := .code yX5_partOf cX5_partOf 7 (some .int) :: ([.fieldLink RX5 46 "SwitchlogModel" "switches" "I", .fieldLink RX5 7 "SwitchlogModel" "one" "[I", .fieldLink RX5 13 "SwitchlogModel" "other" "[I", .methodLink RX5 59 yX5_has, .static yX5_has, .initialized RX5, .code yX5_has cX5_has 2 (some .boolean)] ++ wsX50)
def wsX5_isLive : List Cond := .code yX5_isLive cX5_isLive 4 (some .boolean) :: ([.methodLink RX5 63 yX5_partOf, .instanceMethod yX5_partOf, .selects RX5 yX5_partOf yX5_partOf, .initialized RX5, .code yX5_partOf cX5_partOf 7 (some .int), .fieldLink RX5 46 "SwitchlogModel" "switches" "I", .fieldLink RX5 7 "SwitchlogModel" "one" "[I", .fieldLink RX5 13 "SwitchlogModel" "other" "[I", .methodLink RX5 59 yX5_has, .static yX5_has, .code yX5_has cX5_has 2 (some .boolean)] ++ wsX50)
def wsX5_isEarthed : List Cond := .code yX5_isEarthed cX5_isEarthed 4 (some .boolean) :: ([.methodLink RX5 63 yX5_partOf, .instanceMethod yX5_partOf, .selects RX5 yX5_partOf yX5_partOf, .initialized RX5, .code yX5_partOf cX5_partOf 7 (some .int), .fieldLink RX5 46 "SwitchlogModel" "switches" "I", .fieldLink RX5 7 "SwitchlogModel" "one" "[I", .fieldLink RX5 13 "SwitchlogModel" "other" "[I", .methodLink RX5 59 yX5_has, .static yX5_has, .code yX5_has cX5_has 2 (some .boolean)] ++ wsX50)
def wsX5_isLoaded : List Cond := .code yX5_isLoaded cX5_isLoaded 3 (some .boolean) :: ([.fieldLink RX5 67 "SwitchlogModel" "on" "I", .fieldLink RX5 52 "SwitchlogModel" "loads" "I", .methodLink RX5 70 yX5_isLive, .instanceMethod yX5_isLive, .selects RX5 yX5_isLive yX5_isLive, .initialized RX5, .code yX5_isLive cX5_isLive 4 (some .boolean), .methodLink RX5 63 yX5_partOf, .instanceMethod yX5_partOf, .selects RX5 yX5_partOf yX5_partOf, .code yX5_partOf cX5_partOf 7 (some .int), .fieldLink RX5 46 "SwitchlogModel" "switches" "I", .fieldLink RX5 7 "SwitchlogModel" "one" "[I", .fieldLink RX5 13 "SwitchlogModel" "other" "[I", .methodLink RX5 59 yX5_has, .static yX5_has, .code yX5_has cX5_has 2 (some .boolean)] ++ wsX50)
def wsX5_heldNow : List Cond := .code yX5_heldNow cX5_heldNow 3 (some .int) :: ([.fieldLink RX5 73 "SwitchlogModel" "permits" "I", .fieldLink RX5 29 "SwitchlogModel" "isHeld" "[Z", .fieldLink RX5 26 "SwitchlogModel" "holds" "[I"] ++ wsX50)
def wsX5_isReady : List Cond := .code yX5_isReady cX5_isReady 3 (some .boolean) :: ([.fieldLink RX5 76 "SwitchlogModel" "closed" "I", .fieldLink RX5 79 "SwitchlogModel" "earths" "I", .fieldLink RX5 49 "SwitchlogModel" "sources" "I", .fieldLink RX5 67 "SwitchlogModel" "on" "I", .methodLink RX5 59 yX5_has, .static yX5_has, .initialized RX5, .code yX5_has cX5_has 2 (some .boolean)] ++ wsX50)
def wsX5_touched : List Cond := .code yX5_touched cX5_touched 3 (some .int) :: ([.fieldLink RX5 7 "SwitchlogModel" "one" "[I", .fieldLink RX5 13 "SwitchlogModel" "other" "[I"] ++ wsX50)
def wsX5_isBarredOpening : List Cond := .code yX5_isBarredOpening cX5_isBarredOpening 3 (some .boolean) :: ([.fieldLink RX5 7 "SwitchlogModel" "one" "[I", .fieldLink RX5 76 "SwitchlogModel" "closed" "I", .fieldLink RX5 13 "SwitchlogModel" "other" "[I", .fieldLink RX5 16 "SwitchlogModel" "isBreaker" "[Z", .methodLink RX5 82 yX5_isLoaded, .instanceMethod yX5_isLoaded, .selects RX5 yX5_isLoaded yX5_isLoaded, .initialized RX5, .code yX5_isLoaded cX5_isLoaded 3 (some .boolean), .fieldLink RX5 67 "SwitchlogModel" "on" "I", .fieldLink RX5 52 "SwitchlogModel" "loads" "I", .methodLink RX5 70 yX5_isLive, .instanceMethod yX5_isLive, .selects RX5 yX5_isLive yX5_isLive, .code yX5_isLive cX5_isLive 4 (some .boolean), .methodLink RX5 63 yX5_partOf, .instanceMethod yX5_partOf, .selects RX5 yX5_partOf yX5_partOf, .code yX5_partOf cX5_partOf 7 (some .int), .fieldLink RX5 46 "SwitchlogModel" "switches" "I", .methodLink RX5 59 yX5_has, .static yX5_has, .code yX5_has cX5_has 2 (some .boolean)] ++ wsX50)
def wsX5_isBarredClosing_r1 : List Cond := [Cond.fieldLink RX5 7 "SwitchlogModel" "one" "[I", Cond.fieldLink RX5 76 "SwitchlogModel" "closed" "I", Cond.fieldLink RX5 67 "SwitchlogModel" "on" "I", Cond.fieldLink RX5 13 "SwitchlogModel" "other" "[I", Cond.fieldLink RX5 79 "SwitchlogModel" "earths" "I", Cond.fieldLink RX5 16 "SwitchlogModel" "isBreaker" "[Z", Cond.methodLink RX5 70 yX5_isLive, Cond.instanceMethod yX5_isLive, Cond.selects RX5 yX5_isLive yX5_isLive, Cond.initialized RX5, Cond.code yX5_isLive cX5_isLive 4 (some .boolean), Cond.methodLink RX5 63 yX5_partOf, Cond.instanceMethod yX5_partOf, Cond.selects RX5 yX5_partOf yX5_partOf, Cond.code yX5_partOf cX5_partOf 7 (some .int), Cond.fieldLink RX5 46 "SwitchlogModel" "switches" "I", Cond.methodLink RX5 59 yX5_has, Cond.static yX5_has, Cond.code yX5_has cX5_has 2 (some .boolean), Cond.methodLink RX5 85 yX5_isEarthed, Cond.instanceMethod yX5_isEarthed, Cond.selects RX5 yX5_isEarthed yX5_isEarthed, Cond.code yX5_isEarthed cX5_isEarthed 4 (some .boolean), Cond.methodLink RX5 82 yX5_isLoaded]
def wsX5_isBarredClosing_r2 : List Cond := [Cond.instanceMethod yX5_isLoaded, Cond.selects RX5 yX5_isLoaded yX5_isLoaded, Cond.code yX5_isLoaded cX5_isLoaded 3 (some .boolean), Cond.fieldLink RX5 52 "SwitchlogModel" "loads" "I"]
def wsX5_isBarredClosing : List Cond := .code yX5_isBarredClosing cX5_isBarredClosing 6 (some .boolean) :: ((wsX5_isBarredClosing_r1 ++ wsX5_isBarredClosing_r2) ++ wsX50)
def wsX5_isBarred_r1 : List Cond := [Cond.fieldLink RX5 76 "SwitchlogModel" "closed" "I", Cond.fieldLink RX5 67 "SwitchlogModel" "on" "I", Cond.fieldLink RX5 79 "SwitchlogModel" "earths" "I", Cond.methodLink RX5 88 yX5_isBarredOpening, Cond.instanceMethod yX5_isBarredOpening, Cond.selects RX5 yX5_isBarredOpening yX5_isBarredOpening, Cond.initialized RX5, Cond.code yX5_isBarredOpening cX5_isBarredOpening 3 (some .boolean), Cond.fieldLink RX5 7 "SwitchlogModel" "one" "[I", Cond.fieldLink RX5 13 "SwitchlogModel" "other" "[I", Cond.fieldLink RX5 16 "SwitchlogModel" "isBreaker" "[Z", Cond.methodLink RX5 82 yX5_isLoaded, Cond.instanceMethod yX5_isLoaded, Cond.selects RX5 yX5_isLoaded yX5_isLoaded, Cond.code yX5_isLoaded cX5_isLoaded 3 (some .boolean), Cond.fieldLink RX5 52 "SwitchlogModel" "loads" "I", Cond.methodLink RX5 70 yX5_isLive, Cond.instanceMethod yX5_isLive, Cond.selects RX5 yX5_isLive yX5_isLive, Cond.code yX5_isLive cX5_isLive 4 (some .boolean), Cond.methodLink RX5 63 yX5_partOf, Cond.instanceMethod yX5_partOf, Cond.selects RX5 yX5_partOf yX5_partOf, Cond.code yX5_partOf cX5_partOf 7 (some .int)]
def wsX5_isBarred_r2 : List Cond := [Cond.fieldLink RX5 46 "SwitchlogModel" "switches" "I", Cond.methodLink RX5 59 yX5_has, Cond.static yX5_has, Cond.code yX5_has cX5_has 2 (some .boolean), Cond.methodLink RX5 91 yX5_isBarredClosing, Cond.instanceMethod yX5_isBarredClosing, Cond.selects RX5 yX5_isBarredClosing yX5_isBarredClosing, Cond.code yX5_isBarredClosing cX5_isBarredClosing 6 (some .boolean), Cond.methodLink RX5 85 yX5_isEarthed, Cond.instanceMethod yX5_isEarthed, Cond.selects RX5 yX5_isEarthed yX5_isEarthed, Cond.code yX5_isEarthed cX5_isEarthed 4 (some .boolean)]
def wsX5_isBarred : List Cond := .code yX5_isBarred cX5_isBarred 3 (some .boolean) :: ((wsX5_isBarred_r1 ++ wsX5_isBarred_r2) ++ wsX50)
def wsX5_does : List Cond := .code yX5_does cX5_does 4 none :: ([.fieldLink RX5 76 "SwitchlogModel" "closed" "I", .fieldLink RX5 79 "SwitchlogModel" "earths" "I", .fieldLink RX5 67 "SwitchlogModel" "on" "I"] ++ wsX50)
def wsX5_areHeldSafe_r1 : List Cond := [Cond.fieldLink RX5 39 "SwitchlogModel" "nodes" "I", Cond.fieldLink RX5 76 "SwitchlogModel" "closed" "I", Cond.fieldLink RX5 79 "SwitchlogModel" "earths" "I", Cond.fieldLink RX5 67 "SwitchlogModel" "on" "I", Cond.methodLink RX5 94 yX5_heldNow, Cond.instanceMethod yX5_heldNow, Cond.selects RX5 yX5_heldNow yX5_heldNow, Cond.initialized RX5, Cond.code yX5_heldNow cX5_heldNow 3 (some .int), Cond.fieldLink RX5 73 "SwitchlogModel" "permits" "I", Cond.fieldLink RX5 29 "SwitchlogModel" "isHeld" "[Z", Cond.fieldLink RX5 26 "SwitchlogModel" "holds" "[I", Cond.methodLink RX5 59 yX5_has, Cond.static yX5_has, Cond.code yX5_has cX5_has 2 (some .boolean), Cond.methodLink RX5 85 yX5_isEarthed, Cond.instanceMethod yX5_isEarthed, Cond.selects RX5 yX5_isEarthed yX5_isEarthed, Cond.code yX5_isEarthed cX5_isEarthed 4 (some .boolean), Cond.methodLink RX5 63 yX5_partOf, Cond.instanceMethod yX5_partOf, Cond.selects RX5 yX5_partOf yX5_partOf, Cond.code yX5_partOf cX5_partOf 7 (some .int), Cond.fieldLink RX5 46 "SwitchlogModel" "switches" "I"]
def wsX5_areHeldSafe_r2 : List Cond := [Cond.fieldLink RX5 7 "SwitchlogModel" "one" "[I", Cond.fieldLink RX5 13 "SwitchlogModel" "other" "[I", Cond.methodLink RX5 70 yX5_isLive, Cond.instanceMethod yX5_isLive, Cond.selects RX5 yX5_isLive yX5_isLive, Cond.code yX5_isLive cX5_isLive 4 (some .boolean)]
def wsX5_areHeldSafe : List Cond := .code yX5_areHeldSafe cX5_areHeldSafe 3 (some .boolean) :: ((wsX5_areHeldSafe_r1 ++ wsX5_areHeldSafe_r2) ++ wsX50)
def wsX5_isSafe_r1 : List Cond := [Cond.fieldLink RX5 76 "SwitchlogModel" "closed" "I", Cond.fieldLink RX5 79 "SwitchlogModel" "earths" "I", Cond.fieldLink RX5 67 "SwitchlogModel" "on" "I", Cond.methodLink RX5 98 yX5_does, Cond.instanceMethod yX5_does, Cond.selects RX5 yX5_does yX5_does, Cond.initialized RX5, Cond.code yX5_does cX5_does 4 none, Cond.methodLink RX5 102 yX5_areHeldSafe, Cond.instanceMethod yX5_areHeldSafe, Cond.selects RX5 yX5_areHeldSafe yX5_areHeldSafe, Cond.code yX5_areHeldSafe cX5_areHeldSafe 3 (some .boolean), Cond.fieldLink RX5 39 "SwitchlogModel" "nodes" "I", Cond.methodLink RX5 94 yX5_heldNow, Cond.instanceMethod yX5_heldNow, Cond.selects RX5 yX5_heldNow yX5_heldNow, Cond.code yX5_heldNow cX5_heldNow 3 (some .int), Cond.fieldLink RX5 73 "SwitchlogModel" "permits" "I", Cond.fieldLink RX5 29 "SwitchlogModel" "isHeld" "[Z", Cond.fieldLink RX5 26 "SwitchlogModel" "holds" "[I", Cond.methodLink RX5 59 yX5_has, Cond.static yX5_has, Cond.code yX5_has cX5_has 2 (some .boolean), Cond.methodLink RX5 85 yX5_isEarthed]
def wsX5_isSafe_r2 : List Cond := [Cond.instanceMethod yX5_isEarthed, Cond.selects RX5 yX5_isEarthed yX5_isEarthed, Cond.code yX5_isEarthed cX5_isEarthed 4 (some .boolean), Cond.methodLink RX5 63 yX5_partOf, Cond.instanceMethod yX5_partOf, Cond.selects RX5 yX5_partOf yX5_partOf, Cond.code yX5_partOf cX5_partOf 7 (some .int), Cond.fieldLink RX5 46 "SwitchlogModel" "switches" "I", Cond.fieldLink RX5 7 "SwitchlogModel" "one" "[I", Cond.fieldLink RX5 13 "SwitchlogModel" "other" "[I", Cond.methodLink RX5 70 yX5_isLive, Cond.instanceMethod yX5_isLive, Cond.selects RX5 yX5_isLive yX5_isLive, Cond.code yX5_isLive cX5_isLive 4 (some .boolean)]
def wsX5_isSafe : List Cond := .code yX5_isSafe cX5_isSafe 7 (some .boolean) :: ((wsX5_isSafe_r1 ++ wsX5_isSafe_r2) ++ wsX50)
def wsX5_why_r1 : List Cond := [Cond.methodLink RX5 106 yX5_isReady, Cond.instanceMethod yX5_isReady, Cond.selects RX5 yX5_isReady yX5_isReady, Cond.initialized RX5, Cond.code yX5_isReady cX5_isReady 3 (some .boolean), Cond.fieldLink RX5 76 "SwitchlogModel" "closed" "I", Cond.fieldLink RX5 79 "SwitchlogModel" "earths" "I", Cond.fieldLink RX5 49 "SwitchlogModel" "sources" "I", Cond.fieldLink RX5 67 "SwitchlogModel" "on" "I", Cond.methodLink RX5 59 yX5_has, Cond.static yX5_has, Cond.code yX5_has cX5_has 2 (some .boolean), Cond.methodLink RX5 109 yX5_touched, Cond.instanceMethod yX5_touched, Cond.selects RX5 yX5_touched yX5_touched, Cond.code yX5_touched cX5_touched 3 (some .int), Cond.fieldLink RX5 7 "SwitchlogModel" "one" "[I", Cond.fieldLink RX5 13 "SwitchlogModel" "other" "[I", Cond.methodLink RX5 94 yX5_heldNow, Cond.instanceMethod yX5_heldNow, Cond.selects RX5 yX5_heldNow yX5_heldNow, Cond.code yX5_heldNow cX5_heldNow 3 (some .int), Cond.fieldLink RX5 73 "SwitchlogModel" "permits" "I", Cond.fieldLink RX5 29 "SwitchlogModel" "isHeld" "[Z"]
def wsX5_why_r2 : List Cond := [Cond.fieldLink RX5 26 "SwitchlogModel" "holds" "[I", Cond.methodLink RX5 112 yX5_isBarred, Cond.instanceMethod yX5_isBarred, Cond.selects RX5 yX5_isBarred yX5_isBarred, Cond.code yX5_isBarred cX5_isBarred 3 (some .boolean), Cond.methodLink RX5 88 yX5_isBarredOpening, Cond.instanceMethod yX5_isBarredOpening, Cond.selects RX5 yX5_isBarredOpening yX5_isBarredOpening, Cond.code yX5_isBarredOpening cX5_isBarredOpening 3 (some .boolean), Cond.fieldLink RX5 16 "SwitchlogModel" "isBreaker" "[Z", Cond.methodLink RX5 82 yX5_isLoaded, Cond.instanceMethod yX5_isLoaded, Cond.selects RX5 yX5_isLoaded yX5_isLoaded, Cond.code yX5_isLoaded cX5_isLoaded 3 (some .boolean), Cond.fieldLink RX5 52 "SwitchlogModel" "loads" "I", Cond.methodLink RX5 70 yX5_isLive, Cond.instanceMethod yX5_isLive, Cond.selects RX5 yX5_isLive yX5_isLive, Cond.code yX5_isLive cX5_isLive 4 (some .boolean), Cond.methodLink RX5 63 yX5_partOf, Cond.instanceMethod yX5_partOf, Cond.selects RX5 yX5_partOf yX5_partOf, Cond.code yX5_partOf cX5_partOf 7 (some .int), Cond.fieldLink RX5 46 "SwitchlogModel" "switches" "I"]
def wsX5_why_r3 : List Cond := [Cond.methodLink RX5 91 yX5_isBarredClosing, Cond.instanceMethod yX5_isBarredClosing, Cond.selects RX5 yX5_isBarredClosing yX5_isBarredClosing, Cond.code yX5_isBarredClosing cX5_isBarredClosing 6 (some .boolean), Cond.methodLink RX5 85 yX5_isEarthed, Cond.instanceMethod yX5_isEarthed, Cond.selects RX5 yX5_isEarthed yX5_isEarthed, Cond.code yX5_isEarthed cX5_isEarthed 4 (some .boolean), Cond.methodLink RX5 115 yX5_isSafe, Cond.instanceMethod yX5_isSafe, Cond.selects RX5 yX5_isSafe yX5_isSafe, Cond.code yX5_isSafe cX5_isSafe 7 (some .boolean), Cond.methodLink RX5 98 yX5_does, Cond.instanceMethod yX5_does, Cond.selects RX5 yX5_does yX5_does, Cond.code yX5_does cX5_does 4 none, Cond.methodLink RX5 102 yX5_areHeldSafe, Cond.instanceMethod yX5_areHeldSafe, Cond.selects RX5 yX5_areHeldSafe yX5_areHeldSafe, Cond.code yX5_areHeldSafe cX5_areHeldSafe 3 (some .boolean), Cond.fieldLink RX5 39 "SwitchlogModel" "nodes" "I"]
def wsX5_why : List Cond := .code yX5_why cX5_why 3 (some .int) :: ((wsX5_why_r1 ++ (wsX5_why_r2 ++ wsX5_why_r3)) ++ wsX50)
def wsX5_asks : List Cond := .code yX5_asks cX5_asks 3 (some .boolean) :: ([.fieldLink RX5 35 "SwitchlogModel" "thrown" "I", .methodLink RX5 42 yX5_in, .static yX5_in, .initialized RX5, .code yX5_in cX5_in 3 (some .boolean), .methodLink RX5 118 yX5_isSwitch, .instanceMethod yX5_isSwitch, .selects RX5 yX5_isSwitch yX5_isSwitch, .code yX5_isSwitch cX5_isSwitch 2 (some .boolean), .fieldLink RX5 46 "SwitchlogModel" "switches" "I", .methodLink RX5 55 yX5_isNode, .instanceMethod yX5_isNode, .selects RX5 yX5_isNode yX5_isNode, .code yX5_isNode cX5_isNode 2 (some .boolean), .fieldLink RX5 39 "SwitchlogModel" "nodes" "I"] ++ wsX50)
def wsX5_acts_r1 : List Cond := [Cond.fieldLink RX5 20 "SwitchlogModel" "log" "[I", Cond.fieldLink RX5 124 "SwitchlogModel" "logged" "I", Cond.methodLink RX5 121 yX5_why, Cond.instanceMethod yX5_why, Cond.selects RX5 yX5_why yX5_why, Cond.initialized RX5, Cond.code yX5_why cX5_why 3 (some .int), Cond.methodLink RX5 106 yX5_isReady, Cond.instanceMethod yX5_isReady, Cond.selects RX5 yX5_isReady yX5_isReady, Cond.code yX5_isReady cX5_isReady 3 (some .boolean), Cond.fieldLink RX5 76 "SwitchlogModel" "closed" "I", Cond.fieldLink RX5 79 "SwitchlogModel" "earths" "I", Cond.fieldLink RX5 49 "SwitchlogModel" "sources" "I", Cond.fieldLink RX5 67 "SwitchlogModel" "on" "I", Cond.methodLink RX5 59 yX5_has, Cond.static yX5_has, Cond.code yX5_has cX5_has 2 (some .boolean), Cond.methodLink RX5 109 yX5_touched, Cond.instanceMethod yX5_touched, Cond.selects RX5 yX5_touched yX5_touched, Cond.code yX5_touched cX5_touched 3 (some .int), Cond.fieldLink RX5 7 "SwitchlogModel" "one" "[I", Cond.fieldLink RX5 13 "SwitchlogModel" "other" "[I"]
def wsX5_acts_r2 : List Cond := [Cond.methodLink RX5 94 yX5_heldNow, Cond.instanceMethod yX5_heldNow, Cond.selects RX5 yX5_heldNow yX5_heldNow, Cond.code yX5_heldNow cX5_heldNow 3 (some .int), Cond.fieldLink RX5 73 "SwitchlogModel" "permits" "I", Cond.fieldLink RX5 29 "SwitchlogModel" "isHeld" "[Z", Cond.fieldLink RX5 26 "SwitchlogModel" "holds" "[I", Cond.methodLink RX5 112 yX5_isBarred, Cond.instanceMethod yX5_isBarred, Cond.selects RX5 yX5_isBarred yX5_isBarred, Cond.code yX5_isBarred cX5_isBarred 3 (some .boolean), Cond.methodLink RX5 88 yX5_isBarredOpening, Cond.instanceMethod yX5_isBarredOpening, Cond.selects RX5 yX5_isBarredOpening yX5_isBarredOpening, Cond.code yX5_isBarredOpening cX5_isBarredOpening 3 (some .boolean), Cond.fieldLink RX5 16 "SwitchlogModel" "isBreaker" "[Z", Cond.methodLink RX5 82 yX5_isLoaded, Cond.instanceMethod yX5_isLoaded, Cond.selects RX5 yX5_isLoaded yX5_isLoaded, Cond.code yX5_isLoaded cX5_isLoaded 3 (some .boolean), Cond.fieldLink RX5 52 "SwitchlogModel" "loads" "I", Cond.methodLink RX5 70 yX5_isLive, Cond.instanceMethod yX5_isLive, Cond.selects RX5 yX5_isLive yX5_isLive]
def wsX5_acts_r3 : List Cond := [Cond.code yX5_isLive cX5_isLive 4 (some .boolean), Cond.methodLink RX5 63 yX5_partOf, Cond.instanceMethod yX5_partOf, Cond.selects RX5 yX5_partOf yX5_partOf, Cond.code yX5_partOf cX5_partOf 7 (some .int), Cond.fieldLink RX5 46 "SwitchlogModel" "switches" "I", Cond.methodLink RX5 91 yX5_isBarredClosing, Cond.instanceMethod yX5_isBarredClosing, Cond.selects RX5 yX5_isBarredClosing yX5_isBarredClosing, Cond.code yX5_isBarredClosing cX5_isBarredClosing 6 (some .boolean), Cond.methodLink RX5 85 yX5_isEarthed, Cond.instanceMethod yX5_isEarthed, Cond.selects RX5 yX5_isEarthed yX5_isEarthed, Cond.code yX5_isEarthed cX5_isEarthed 4 (some .boolean), Cond.methodLink RX5 115 yX5_isSafe, Cond.instanceMethod yX5_isSafe, Cond.selects RX5 yX5_isSafe yX5_isSafe, Cond.code yX5_isSafe cX5_isSafe 7 (some .boolean), Cond.methodLink RX5 98 yX5_does, Cond.instanceMethod yX5_does, Cond.selects RX5 yX5_does yX5_does, Cond.code yX5_does cX5_does 4 none, Cond.methodLink RX5 102 yX5_areHeldSafe, Cond.instanceMethod yX5_areHeldSafe]
def wsX5_acts_r4 : List Cond := [Cond.selects RX5 yX5_areHeldSafe yX5_areHeldSafe, Cond.code yX5_areHeldSafe cX5_areHeldSafe 3 (some .boolean), Cond.fieldLink RX5 39 "SwitchlogModel" "nodes" "I"]
def wsX5_acts : List Cond := .code yX5_acts cX5_acts 4 (some .int) :: ((wsX5_acts_r1 ++ (wsX5_acts_r2 ++ (wsX5_acts_r3 ++ wsX5_acts_r4))) ++ wsX50)
def wsX5_act_r1 : List Cond := [Cond.fieldLink RX5 124 "SwitchlogModel" "logged" "I", Cond.fieldLink RX5 35 "SwitchlogModel" "thrown" "I", Cond.methodLink RX5 127 yX5_asks, Cond.instanceMethod yX5_asks, Cond.selects RX5 yX5_asks yX5_asks, Cond.initialized RX5, Cond.code yX5_asks cX5_asks 3 (some .boolean), Cond.methodLink RX5 42 yX5_in, Cond.static yX5_in, Cond.code yX5_in cX5_in 3 (some .boolean), Cond.methodLink RX5 118 yX5_isSwitch, Cond.instanceMethod yX5_isSwitch, Cond.selects RX5 yX5_isSwitch yX5_isSwitch, Cond.code yX5_isSwitch cX5_isSwitch 2 (some .boolean), Cond.fieldLink RX5 46 "SwitchlogModel" "switches" "I", Cond.methodLink RX5 55 yX5_isNode, Cond.instanceMethod yX5_isNode, Cond.selects RX5 yX5_isNode yX5_isNode, Cond.code yX5_isNode cX5_isNode 2 (some .boolean), Cond.fieldLink RX5 39 "SwitchlogModel" "nodes" "I", Cond.methodLink RX5 130 yX5_acts, Cond.instanceMethod yX5_acts, Cond.selects RX5 yX5_acts yX5_acts, Cond.code yX5_acts cX5_acts 4 (some .int)]
def wsX5_act_r2 : List Cond := [Cond.fieldLink RX5 20 "SwitchlogModel" "log" "[I", Cond.methodLink RX5 121 yX5_why, Cond.instanceMethod yX5_why, Cond.selects RX5 yX5_why yX5_why, Cond.code yX5_why cX5_why 3 (some .int), Cond.methodLink RX5 106 yX5_isReady, Cond.instanceMethod yX5_isReady, Cond.selects RX5 yX5_isReady yX5_isReady, Cond.code yX5_isReady cX5_isReady 3 (some .boolean), Cond.fieldLink RX5 76 "SwitchlogModel" "closed" "I", Cond.fieldLink RX5 79 "SwitchlogModel" "earths" "I", Cond.fieldLink RX5 49 "SwitchlogModel" "sources" "I", Cond.fieldLink RX5 67 "SwitchlogModel" "on" "I", Cond.methodLink RX5 59 yX5_has, Cond.static yX5_has, Cond.code yX5_has cX5_has 2 (some .boolean), Cond.methodLink RX5 109 yX5_touched, Cond.instanceMethod yX5_touched, Cond.selects RX5 yX5_touched yX5_touched, Cond.code yX5_touched cX5_touched 3 (some .int), Cond.fieldLink RX5 7 "SwitchlogModel" "one" "[I", Cond.fieldLink RX5 13 "SwitchlogModel" "other" "[I", Cond.methodLink RX5 94 yX5_heldNow, Cond.instanceMethod yX5_heldNow]
def wsX5_act_r3 : List Cond := [Cond.selects RX5 yX5_heldNow yX5_heldNow, Cond.code yX5_heldNow cX5_heldNow 3 (some .int), Cond.fieldLink RX5 73 "SwitchlogModel" "permits" "I", Cond.fieldLink RX5 29 "SwitchlogModel" "isHeld" "[Z", Cond.fieldLink RX5 26 "SwitchlogModel" "holds" "[I", Cond.methodLink RX5 112 yX5_isBarred, Cond.instanceMethod yX5_isBarred, Cond.selects RX5 yX5_isBarred yX5_isBarred, Cond.code yX5_isBarred cX5_isBarred 3 (some .boolean), Cond.methodLink RX5 88 yX5_isBarredOpening, Cond.instanceMethod yX5_isBarredOpening, Cond.selects RX5 yX5_isBarredOpening yX5_isBarredOpening, Cond.code yX5_isBarredOpening cX5_isBarredOpening 3 (some .boolean), Cond.fieldLink RX5 16 "SwitchlogModel" "isBreaker" "[Z", Cond.methodLink RX5 82 yX5_isLoaded, Cond.instanceMethod yX5_isLoaded, Cond.selects RX5 yX5_isLoaded yX5_isLoaded, Cond.code yX5_isLoaded cX5_isLoaded 3 (some .boolean), Cond.fieldLink RX5 52 "SwitchlogModel" "loads" "I", Cond.methodLink RX5 70 yX5_isLive, Cond.instanceMethod yX5_isLive, Cond.selects RX5 yX5_isLive yX5_isLive, Cond.code yX5_isLive cX5_isLive 4 (some .boolean), Cond.methodLink RX5 63 yX5_partOf]
def wsX5_act_r4 : List Cond := [Cond.instanceMethod yX5_partOf, Cond.selects RX5 yX5_partOf yX5_partOf, Cond.code yX5_partOf cX5_partOf 7 (some .int), Cond.methodLink RX5 91 yX5_isBarredClosing, Cond.instanceMethod yX5_isBarredClosing, Cond.selects RX5 yX5_isBarredClosing yX5_isBarredClosing, Cond.code yX5_isBarredClosing cX5_isBarredClosing 6 (some .boolean), Cond.methodLink RX5 85 yX5_isEarthed, Cond.instanceMethod yX5_isEarthed, Cond.selects RX5 yX5_isEarthed yX5_isEarthed, Cond.code yX5_isEarthed cX5_isEarthed 4 (some .boolean), Cond.methodLink RX5 115 yX5_isSafe, Cond.instanceMethod yX5_isSafe, Cond.selects RX5 yX5_isSafe yX5_isSafe, Cond.code yX5_isSafe cX5_isSafe 7 (some .boolean), Cond.methodLink RX5 98 yX5_does, Cond.instanceMethod yX5_does, Cond.selects RX5 yX5_does yX5_does, Cond.code yX5_does cX5_does 4 none, Cond.methodLink RX5 102 yX5_areHeldSafe, Cond.instanceMethod yX5_areHeldSafe, Cond.selects RX5 yX5_areHeldSafe yX5_areHeldSafe, Cond.code yX5_areHeldSafe cX5_areHeldSafe 3 (some .boolean)]
def wsX5_act : List Cond := .code yX5_act cX5_act 3 (some .int) :: ((wsX5_act_r1 ++ (wsX5_act_r2 ++ (wsX5_act_r3 ++ wsX5_act_r4))) ++ wsX50)
def wsX5_reason_r1 : List Cond := [Cond.methodLink RX5 127 yX5_asks, Cond.instanceMethod yX5_asks, Cond.selects RX5 yX5_asks yX5_asks, Cond.initialized RX5, Cond.code yX5_asks cX5_asks 3 (some .boolean), Cond.fieldLink RX5 35 "SwitchlogModel" "thrown" "I", Cond.methodLink RX5 42 yX5_in, Cond.static yX5_in, Cond.code yX5_in cX5_in 3 (some .boolean), Cond.methodLink RX5 118 yX5_isSwitch, Cond.instanceMethod yX5_isSwitch, Cond.selects RX5 yX5_isSwitch yX5_isSwitch, Cond.code yX5_isSwitch cX5_isSwitch 2 (some .boolean), Cond.fieldLink RX5 46 "SwitchlogModel" "switches" "I", Cond.methodLink RX5 55 yX5_isNode, Cond.instanceMethod yX5_isNode, Cond.selects RX5 yX5_isNode yX5_isNode, Cond.code yX5_isNode cX5_isNode 2 (some .boolean), Cond.fieldLink RX5 39 "SwitchlogModel" "nodes" "I", Cond.methodLink RX5 121 yX5_why, Cond.instanceMethod yX5_why, Cond.selects RX5 yX5_why yX5_why, Cond.code yX5_why cX5_why 3 (some .int), Cond.methodLink RX5 106 yX5_isReady]
def wsX5_reason_r2 : List Cond := [Cond.instanceMethod yX5_isReady, Cond.selects RX5 yX5_isReady yX5_isReady, Cond.code yX5_isReady cX5_isReady 3 (some .boolean), Cond.fieldLink RX5 76 "SwitchlogModel" "closed" "I", Cond.fieldLink RX5 79 "SwitchlogModel" "earths" "I", Cond.fieldLink RX5 49 "SwitchlogModel" "sources" "I", Cond.fieldLink RX5 67 "SwitchlogModel" "on" "I", Cond.methodLink RX5 59 yX5_has, Cond.static yX5_has, Cond.code yX5_has cX5_has 2 (some .boolean), Cond.methodLink RX5 109 yX5_touched, Cond.instanceMethod yX5_touched, Cond.selects RX5 yX5_touched yX5_touched, Cond.code yX5_touched cX5_touched 3 (some .int), Cond.fieldLink RX5 7 "SwitchlogModel" "one" "[I", Cond.fieldLink RX5 13 "SwitchlogModel" "other" "[I", Cond.methodLink RX5 94 yX5_heldNow, Cond.instanceMethod yX5_heldNow, Cond.selects RX5 yX5_heldNow yX5_heldNow, Cond.code yX5_heldNow cX5_heldNow 3 (some .int), Cond.fieldLink RX5 73 "SwitchlogModel" "permits" "I", Cond.fieldLink RX5 29 "SwitchlogModel" "isHeld" "[Z", Cond.fieldLink RX5 26 "SwitchlogModel" "holds" "[I", Cond.methodLink RX5 112 yX5_isBarred]
def wsX5_reason_r3 : List Cond := [Cond.instanceMethod yX5_isBarred, Cond.selects RX5 yX5_isBarred yX5_isBarred, Cond.code yX5_isBarred cX5_isBarred 3 (some .boolean), Cond.methodLink RX5 88 yX5_isBarredOpening, Cond.instanceMethod yX5_isBarredOpening, Cond.selects RX5 yX5_isBarredOpening yX5_isBarredOpening, Cond.code yX5_isBarredOpening cX5_isBarredOpening 3 (some .boolean), Cond.fieldLink RX5 16 "SwitchlogModel" "isBreaker" "[Z", Cond.methodLink RX5 82 yX5_isLoaded, Cond.instanceMethod yX5_isLoaded, Cond.selects RX5 yX5_isLoaded yX5_isLoaded, Cond.code yX5_isLoaded cX5_isLoaded 3 (some .boolean), Cond.fieldLink RX5 52 "SwitchlogModel" "loads" "I", Cond.methodLink RX5 70 yX5_isLive, Cond.instanceMethod yX5_isLive, Cond.selects RX5 yX5_isLive yX5_isLive, Cond.code yX5_isLive cX5_isLive 4 (some .boolean), Cond.methodLink RX5 63 yX5_partOf, Cond.instanceMethod yX5_partOf, Cond.selects RX5 yX5_partOf yX5_partOf, Cond.code yX5_partOf cX5_partOf 7 (some .int), Cond.methodLink RX5 91 yX5_isBarredClosing, Cond.instanceMethod yX5_isBarredClosing, Cond.selects RX5 yX5_isBarredClosing yX5_isBarredClosing]
def wsX5_reason_r4 : List Cond := [Cond.code yX5_isBarredClosing cX5_isBarredClosing 6 (some .boolean), Cond.methodLink RX5 85 yX5_isEarthed, Cond.instanceMethod yX5_isEarthed, Cond.selects RX5 yX5_isEarthed yX5_isEarthed, Cond.code yX5_isEarthed cX5_isEarthed 4 (some .boolean), Cond.methodLink RX5 115 yX5_isSafe, Cond.instanceMethod yX5_isSafe, Cond.selects RX5 yX5_isSafe yX5_isSafe, Cond.code yX5_isSafe cX5_isSafe 7 (some .boolean), Cond.methodLink RX5 98 yX5_does, Cond.instanceMethod yX5_does, Cond.selects RX5 yX5_does yX5_does, Cond.code yX5_does cX5_does 4 none, Cond.methodLink RX5 102 yX5_areHeldSafe, Cond.instanceMethod yX5_areHeldSafe, Cond.selects RX5 yX5_areHeldSafe yX5_areHeldSafe, Cond.code yX5_areHeldSafe cX5_areHeldSafe 3 (some .boolean)]
def wsX5_reason : List Cond := .code yX5_reason cX5_reason 3 (some .int) :: ((wsX5_reason_r1 ++ (wsX5_reason_r2 ++ (wsX5_reason_r3 ++ wsX5_reason_r4))) ++ wsX50)
def wsX5_opposite : List Cond := .code yX5_opposite cX5_opposite 1 (some .int) :: ([])
def wsX5_takeBack_r1 : List Cond := [Cond.fieldLink RX5 124 "SwitchlogModel" "logged" "I", Cond.fieldLink RX5 35 "SwitchlogModel" "thrown" "I", Cond.fieldLink RX5 20 "SwitchlogModel" "log" "[I", Cond.methodLink RX5 133 yX5_opposite, Cond.static yX5_opposite, Cond.initialized RX5, Cond.code yX5_opposite cX5_opposite 1 (some .int), Cond.methodLink RX5 121 yX5_why, Cond.instanceMethod yX5_why, Cond.selects RX5 yX5_why yX5_why, Cond.code yX5_why cX5_why 3 (some .int), Cond.methodLink RX5 106 yX5_isReady, Cond.instanceMethod yX5_isReady, Cond.selects RX5 yX5_isReady yX5_isReady, Cond.code yX5_isReady cX5_isReady 3 (some .boolean), Cond.fieldLink RX5 76 "SwitchlogModel" "closed" "I", Cond.fieldLink RX5 79 "SwitchlogModel" "earths" "I", Cond.fieldLink RX5 49 "SwitchlogModel" "sources" "I", Cond.fieldLink RX5 67 "SwitchlogModel" "on" "I", Cond.methodLink RX5 59 yX5_has, Cond.static yX5_has, Cond.code yX5_has cX5_has 2 (some .boolean), Cond.methodLink RX5 109 yX5_touched, Cond.instanceMethod yX5_touched]
def wsX5_takeBack_r2 : List Cond := [Cond.selects RX5 yX5_touched yX5_touched, Cond.code yX5_touched cX5_touched 3 (some .int), Cond.fieldLink RX5 7 "SwitchlogModel" "one" "[I", Cond.fieldLink RX5 13 "SwitchlogModel" "other" "[I", Cond.methodLink RX5 94 yX5_heldNow, Cond.instanceMethod yX5_heldNow, Cond.selects RX5 yX5_heldNow yX5_heldNow, Cond.code yX5_heldNow cX5_heldNow 3 (some .int), Cond.fieldLink RX5 73 "SwitchlogModel" "permits" "I", Cond.fieldLink RX5 29 "SwitchlogModel" "isHeld" "[Z", Cond.fieldLink RX5 26 "SwitchlogModel" "holds" "[I", Cond.methodLink RX5 112 yX5_isBarred, Cond.instanceMethod yX5_isBarred, Cond.selects RX5 yX5_isBarred yX5_isBarred, Cond.code yX5_isBarred cX5_isBarred 3 (some .boolean), Cond.methodLink RX5 88 yX5_isBarredOpening, Cond.instanceMethod yX5_isBarredOpening, Cond.selects RX5 yX5_isBarredOpening yX5_isBarredOpening, Cond.code yX5_isBarredOpening cX5_isBarredOpening 3 (some .boolean), Cond.fieldLink RX5 16 "SwitchlogModel" "isBreaker" "[Z", Cond.methodLink RX5 82 yX5_isLoaded, Cond.instanceMethod yX5_isLoaded, Cond.selects RX5 yX5_isLoaded yX5_isLoaded, Cond.code yX5_isLoaded cX5_isLoaded 3 (some .boolean)]
def wsX5_takeBack_r3 : List Cond := [Cond.fieldLink RX5 52 "SwitchlogModel" "loads" "I", Cond.methodLink RX5 70 yX5_isLive, Cond.instanceMethod yX5_isLive, Cond.selects RX5 yX5_isLive yX5_isLive, Cond.code yX5_isLive cX5_isLive 4 (some .boolean), Cond.methodLink RX5 63 yX5_partOf, Cond.instanceMethod yX5_partOf, Cond.selects RX5 yX5_partOf yX5_partOf, Cond.code yX5_partOf cX5_partOf 7 (some .int), Cond.fieldLink RX5 46 "SwitchlogModel" "switches" "I", Cond.methodLink RX5 91 yX5_isBarredClosing, Cond.instanceMethod yX5_isBarredClosing, Cond.selects RX5 yX5_isBarredClosing yX5_isBarredClosing, Cond.code yX5_isBarredClosing cX5_isBarredClosing 6 (some .boolean), Cond.methodLink RX5 85 yX5_isEarthed, Cond.instanceMethod yX5_isEarthed, Cond.selects RX5 yX5_isEarthed yX5_isEarthed, Cond.code yX5_isEarthed cX5_isEarthed 4 (some .boolean), Cond.methodLink RX5 115 yX5_isSafe, Cond.instanceMethod yX5_isSafe, Cond.selects RX5 yX5_isSafe yX5_isSafe, Cond.code yX5_isSafe cX5_isSafe 7 (some .boolean), Cond.methodLink RX5 98 yX5_does, Cond.instanceMethod yX5_does]
def wsX5_takeBack_r4 : List Cond := [Cond.selects RX5 yX5_does yX5_does, Cond.code yX5_does cX5_does 4 none, Cond.methodLink RX5 102 yX5_areHeldSafe, Cond.instanceMethod yX5_areHeldSafe, Cond.selects RX5 yX5_areHeldSafe yX5_areHeldSafe, Cond.code yX5_areHeldSafe cX5_areHeldSafe 3 (some .boolean), Cond.fieldLink RX5 39 "SwitchlogModel" "nodes" "I"]
def wsX5_takeBack : List Cond := .code yX5_takeBack cX5_takeBack 3 (some .int) :: ((wsX5_takeBack_r1 ++ (wsX5_takeBack_r2 ++ (wsX5_takeBack_r3 ++ wsX5_takeBack_r4))) ++ wsX50)
def wsX5_log : List Cond := .code yX5_log cX5_log 1 (some .int) :: ([.fieldLink RX5 35 "SwitchlogModel" "thrown" "I", .fieldLink RX5 124 "SwitchlogModel" "logged" "I"] ++ wsX50)
def wsX5_logged : List Cond := .code yX5_logged cX5_logged 2 (some .int) :: ([.fieldLink RX5 124 "SwitchlogModel" "logged" "I", .fieldLink RX5 35 "SwitchlogModel" "thrown" "I", .fieldLink RX5 20 "SwitchlogModel" "log" "[I", .methodLink RX5 42 yX5_in, .static yX5_in, .initialized RX5, .code yX5_in cX5_in 3 (some .boolean)] ++ wsX50)
def wsX5_times : List Cond := .code yX5_times cX5_times 5 (some .int) :: ([.fieldLink RX5 124 "SwitchlogModel" "logged" "I", .fieldLink RX5 20 "SwitchlogModel" "log" "[I", .methodLink RX5 127 yX5_asks, .instanceMethod yX5_asks, .selects RX5 yX5_asks yX5_asks, .initialized RX5, .code yX5_asks cX5_asks 3 (some .boolean), .fieldLink RX5 35 "SwitchlogModel" "thrown" "I", .methodLink RX5 42 yX5_in, .static yX5_in, .code yX5_in cX5_in 3 (some .boolean), .methodLink RX5 118 yX5_isSwitch, .instanceMethod yX5_isSwitch, .selects RX5 yX5_isSwitch yX5_isSwitch, .code yX5_isSwitch cX5_isSwitch 2 (some .boolean), .fieldLink RX5 46 "SwitchlogModel" "switches" "I", .methodLink RX5 55 yX5_isNode, .instanceMethod yX5_isNode, .selects RX5 yX5_isNode yX5_isNode, .code yX5_isNode cX5_isNode 2 (some .boolean), .fieldLink RX5 39 "SwitchlogModel" "nodes" "I"] ++ wsX50)
def wsX5_write : List Cond := .code yX5_write cX5_write 3 (some .int) :: ([.fieldLink RX5 137 "SwitchlogModel" "written" "I", .fieldLink RX5 35 "SwitchlogModel" "thrown" "I", .fieldLink RX5 23 "SwitchlogModel" "sequence" "[I", .methodLink RX5 127 yX5_asks, .instanceMethod yX5_asks, .selects RX5 yX5_asks yX5_asks, .initialized RX5, .code yX5_asks cX5_asks 3 (some .boolean), .methodLink RX5 42 yX5_in, .static yX5_in, .code yX5_in cX5_in 3 (some .boolean), .methodLink RX5 118 yX5_isSwitch, .instanceMethod yX5_isSwitch, .selects RX5 yX5_isSwitch yX5_isSwitch, .code yX5_isSwitch cX5_isSwitch 2 (some .boolean), .fieldLink RX5 46 "SwitchlogModel" "switches" "I", .methodLink RX5 55 yX5_isNode, .instanceMethod yX5_isNode, .selects RX5 yX5_isNode yX5_isNode, .code yX5_isNode cX5_isNode 2 (some .boolean), .fieldLink RX5 39 "SwitchlogModel" "nodes" "I"] ++ wsX50)
def wsX5_erase : List Cond := .code yX5_erase cX5_erase 2 (some .int) :: ([.fieldLink RX5 35 "SwitchlogModel" "thrown" "I", .fieldLink RX5 137 "SwitchlogModel" "written" "I"] ++ wsX50)
def wsX5_check_r1 : List Cond := [Cond.fieldLink RX5 35 "SwitchlogModel" "thrown" "I", Cond.fieldLink RX5 76 "SwitchlogModel" "closed" "I", Cond.fieldLink RX5 79 "SwitchlogModel" "earths" "I", Cond.fieldLink RX5 67 "SwitchlogModel" "on" "I", Cond.fieldLink RX5 137 "SwitchlogModel" "written" "I", Cond.fieldLink RX5 23 "SwitchlogModel" "sequence" "[I", Cond.methodLink RX5 121 yX5_why, Cond.instanceMethod yX5_why, Cond.selects RX5 yX5_why yX5_why, Cond.initialized RX5, Cond.code yX5_why cX5_why 3 (some .int), Cond.methodLink RX5 106 yX5_isReady, Cond.instanceMethod yX5_isReady, Cond.selects RX5 yX5_isReady yX5_isReady, Cond.code yX5_isReady cX5_isReady 3 (some .boolean), Cond.fieldLink RX5 49 "SwitchlogModel" "sources" "I", Cond.methodLink RX5 59 yX5_has, Cond.static yX5_has, Cond.code yX5_has cX5_has 2 (some .boolean), Cond.methodLink RX5 109 yX5_touched, Cond.instanceMethod yX5_touched, Cond.selects RX5 yX5_touched yX5_touched, Cond.code yX5_touched cX5_touched 3 (some .int), Cond.fieldLink RX5 7 "SwitchlogModel" "one" "[I"]
def wsX5_check_r2 : List Cond := [Cond.fieldLink RX5 13 "SwitchlogModel" "other" "[I", Cond.methodLink RX5 94 yX5_heldNow, Cond.instanceMethod yX5_heldNow, Cond.selects RX5 yX5_heldNow yX5_heldNow, Cond.code yX5_heldNow cX5_heldNow 3 (some .int), Cond.fieldLink RX5 73 "SwitchlogModel" "permits" "I", Cond.fieldLink RX5 29 "SwitchlogModel" "isHeld" "[Z", Cond.fieldLink RX5 26 "SwitchlogModel" "holds" "[I", Cond.methodLink RX5 112 yX5_isBarred, Cond.instanceMethod yX5_isBarred, Cond.selects RX5 yX5_isBarred yX5_isBarred, Cond.code yX5_isBarred cX5_isBarred 3 (some .boolean), Cond.methodLink RX5 88 yX5_isBarredOpening, Cond.instanceMethod yX5_isBarredOpening, Cond.selects RX5 yX5_isBarredOpening yX5_isBarredOpening, Cond.code yX5_isBarredOpening cX5_isBarredOpening 3 (some .boolean), Cond.fieldLink RX5 16 "SwitchlogModel" "isBreaker" "[Z", Cond.methodLink RX5 82 yX5_isLoaded, Cond.instanceMethod yX5_isLoaded, Cond.selects RX5 yX5_isLoaded yX5_isLoaded, Cond.code yX5_isLoaded cX5_isLoaded 3 (some .boolean), Cond.fieldLink RX5 52 "SwitchlogModel" "loads" "I", Cond.methodLink RX5 70 yX5_isLive, Cond.instanceMethod yX5_isLive]
def wsX5_check_r3 : List Cond := [Cond.selects RX5 yX5_isLive yX5_isLive, Cond.code yX5_isLive cX5_isLive 4 (some .boolean), Cond.methodLink RX5 63 yX5_partOf, Cond.instanceMethod yX5_partOf, Cond.selects RX5 yX5_partOf yX5_partOf, Cond.code yX5_partOf cX5_partOf 7 (some .int), Cond.fieldLink RX5 46 "SwitchlogModel" "switches" "I", Cond.methodLink RX5 91 yX5_isBarredClosing, Cond.instanceMethod yX5_isBarredClosing, Cond.selects RX5 yX5_isBarredClosing yX5_isBarredClosing, Cond.code yX5_isBarredClosing cX5_isBarredClosing 6 (some .boolean), Cond.methodLink RX5 85 yX5_isEarthed, Cond.instanceMethod yX5_isEarthed, Cond.selects RX5 yX5_isEarthed yX5_isEarthed, Cond.code yX5_isEarthed cX5_isEarthed 4 (some .boolean), Cond.methodLink RX5 115 yX5_isSafe, Cond.instanceMethod yX5_isSafe, Cond.selects RX5 yX5_isSafe yX5_isSafe, Cond.code yX5_isSafe cX5_isSafe 7 (some .boolean), Cond.methodLink RX5 98 yX5_does, Cond.instanceMethod yX5_does, Cond.selects RX5 yX5_does yX5_does, Cond.code yX5_does cX5_does 4 none, Cond.methodLink RX5 102 yX5_areHeldSafe]
def wsX5_check_r4 : List Cond := [Cond.instanceMethod yX5_areHeldSafe, Cond.selects RX5 yX5_areHeldSafe yX5_areHeldSafe, Cond.code yX5_areHeldSafe cX5_areHeldSafe 3 (some .boolean), Cond.fieldLink RX5 39 "SwitchlogModel" "nodes" "I"]
def wsX5_check : List Cond := .code yX5_check cX5_check 5 (some .int) :: ((wsX5_check_r1 ++ (wsX5_check_r2 ++ (wsX5_check_r3 ++ wsX5_check_r4))) ++ wsX50)
def wsX5_carryOut_r1 : List Cond := [Cond.fieldLink RX5 124 "SwitchlogModel" "logged" "I", Cond.fieldLink RX5 137 "SwitchlogModel" "written" "I", Cond.fieldLink RX5 35 "SwitchlogModel" "thrown" "I", Cond.fieldLink RX5 23 "SwitchlogModel" "sequence" "[I", Cond.methodLink RX5 42 yX5_in, Cond.static yX5_in, Cond.initialized RX5, Cond.code yX5_in cX5_in 3 (some .boolean), Cond.methodLink RX5 130 yX5_acts, Cond.instanceMethod yX5_acts, Cond.selects RX5 yX5_acts yX5_acts, Cond.code yX5_acts cX5_acts 4 (some .int), Cond.fieldLink RX5 20 "SwitchlogModel" "log" "[I", Cond.methodLink RX5 121 yX5_why, Cond.instanceMethod yX5_why, Cond.selects RX5 yX5_why yX5_why, Cond.code yX5_why cX5_why 3 (some .int), Cond.methodLink RX5 106 yX5_isReady, Cond.instanceMethod yX5_isReady, Cond.selects RX5 yX5_isReady yX5_isReady, Cond.code yX5_isReady cX5_isReady 3 (some .boolean), Cond.fieldLink RX5 76 "SwitchlogModel" "closed" "I", Cond.fieldLink RX5 79 "SwitchlogModel" "earths" "I", Cond.fieldLink RX5 49 "SwitchlogModel" "sources" "I"]
def wsX5_carryOut_r2 : List Cond := [Cond.fieldLink RX5 67 "SwitchlogModel" "on" "I", Cond.methodLink RX5 59 yX5_has, Cond.static yX5_has, Cond.code yX5_has cX5_has 2 (some .boolean), Cond.methodLink RX5 109 yX5_touched, Cond.instanceMethod yX5_touched, Cond.selects RX5 yX5_touched yX5_touched, Cond.code yX5_touched cX5_touched 3 (some .int), Cond.fieldLink RX5 7 "SwitchlogModel" "one" "[I", Cond.fieldLink RX5 13 "SwitchlogModel" "other" "[I", Cond.methodLink RX5 94 yX5_heldNow, Cond.instanceMethod yX5_heldNow, Cond.selects RX5 yX5_heldNow yX5_heldNow, Cond.code yX5_heldNow cX5_heldNow 3 (some .int), Cond.fieldLink RX5 73 "SwitchlogModel" "permits" "I", Cond.fieldLink RX5 29 "SwitchlogModel" "isHeld" "[Z", Cond.fieldLink RX5 26 "SwitchlogModel" "holds" "[I", Cond.methodLink RX5 112 yX5_isBarred, Cond.instanceMethod yX5_isBarred, Cond.selects RX5 yX5_isBarred yX5_isBarred, Cond.code yX5_isBarred cX5_isBarred 3 (some .boolean), Cond.methodLink RX5 88 yX5_isBarredOpening, Cond.instanceMethod yX5_isBarredOpening, Cond.selects RX5 yX5_isBarredOpening yX5_isBarredOpening]
def wsX5_carryOut_r3 : List Cond := [Cond.code yX5_isBarredOpening cX5_isBarredOpening 3 (some .boolean), Cond.fieldLink RX5 16 "SwitchlogModel" "isBreaker" "[Z", Cond.methodLink RX5 82 yX5_isLoaded, Cond.instanceMethod yX5_isLoaded, Cond.selects RX5 yX5_isLoaded yX5_isLoaded, Cond.code yX5_isLoaded cX5_isLoaded 3 (some .boolean), Cond.fieldLink RX5 52 "SwitchlogModel" "loads" "I", Cond.methodLink RX5 70 yX5_isLive, Cond.instanceMethod yX5_isLive, Cond.selects RX5 yX5_isLive yX5_isLive, Cond.code yX5_isLive cX5_isLive 4 (some .boolean), Cond.methodLink RX5 63 yX5_partOf, Cond.instanceMethod yX5_partOf, Cond.selects RX5 yX5_partOf yX5_partOf, Cond.code yX5_partOf cX5_partOf 7 (some .int), Cond.fieldLink RX5 46 "SwitchlogModel" "switches" "I", Cond.methodLink RX5 91 yX5_isBarredClosing, Cond.instanceMethod yX5_isBarredClosing, Cond.selects RX5 yX5_isBarredClosing yX5_isBarredClosing, Cond.code yX5_isBarredClosing cX5_isBarredClosing 6 (some .boolean), Cond.methodLink RX5 85 yX5_isEarthed, Cond.instanceMethod yX5_isEarthed, Cond.selects RX5 yX5_isEarthed yX5_isEarthed, Cond.code yX5_isEarthed cX5_isEarthed 4 (some .boolean)]
def wsX5_carryOut_r4 : List Cond := [Cond.methodLink RX5 115 yX5_isSafe, Cond.instanceMethod yX5_isSafe, Cond.selects RX5 yX5_isSafe yX5_isSafe, Cond.code yX5_isSafe cX5_isSafe 7 (some .boolean), Cond.methodLink RX5 98 yX5_does, Cond.instanceMethod yX5_does, Cond.selects RX5 yX5_does yX5_does, Cond.code yX5_does cX5_does 4 none, Cond.methodLink RX5 102 yX5_areHeldSafe, Cond.instanceMethod yX5_areHeldSafe, Cond.selects RX5 yX5_areHeldSafe yX5_areHeldSafe, Cond.code yX5_areHeldSafe cX5_areHeldSafe 3 (some .boolean), Cond.fieldLink RX5 39 "SwitchlogModel" "nodes" "I"]
def wsX5_carryOut : List Cond := .code yX5_carryOut cX5_carryOut 4 (some .int) :: ((wsX5_carryOut_r1 ++ (wsX5_carryOut_r2 ++ (wsX5_carryOut_r3 ++ wsX5_carryOut_r4))) ++ wsX50)
def wsX5_writeBack : List Cond := .code yX5_writeBack cX5_writeBack 2 (some .int) :: ([.fieldLink RX5 35 "SwitchlogModel" "thrown" "I", .fieldLink RX5 124 "SwitchlogModel" "logged" "I", .fieldLink RX5 137 "SwitchlogModel" "written" "I", .fieldLink RX5 23 "SwitchlogModel" "sequence" "[I", .fieldLink RX5 20 "SwitchlogModel" "log" "[I", .methodLink RX5 133 yX5_opposite, .static yX5_opposite, .initialized RX5, .code yX5_opposite cX5_opposite 1 (some .int)] ++ wsX50)
def wsX5_permit_r1 : List Cond := [Cond.fieldLink RX5 39 "SwitchlogModel" "nodes" "I", Cond.fieldLink RX5 35 "SwitchlogModel" "thrown" "I", Cond.fieldLink RX5 73 "SwitchlogModel" "permits" "I", Cond.fieldLink RX5 76 "SwitchlogModel" "closed" "I", Cond.fieldLink RX5 79 "SwitchlogModel" "earths" "I", Cond.fieldLink RX5 67 "SwitchlogModel" "on" "I", Cond.fieldLink RX5 26 "SwitchlogModel" "holds" "[I", Cond.fieldLink RX5 29 "SwitchlogModel" "isHeld" "[Z", Cond.methodLink RX5 42 yX5_in, Cond.static yX5_in, Cond.initialized RX5, Cond.code yX5_in cX5_in 3 (some .boolean), Cond.methodLink RX5 94 yX5_heldNow, Cond.instanceMethod yX5_heldNow, Cond.selects RX5 yX5_heldNow yX5_heldNow, Cond.code yX5_heldNow cX5_heldNow 3 (some .int), Cond.methodLink RX5 59 yX5_has, Cond.static yX5_has, Cond.code yX5_has cX5_has 2 (some .boolean), Cond.methodLink RX5 85 yX5_isEarthed, Cond.instanceMethod yX5_isEarthed, Cond.selects RX5 yX5_isEarthed yX5_isEarthed, Cond.code yX5_isEarthed cX5_isEarthed 4 (some .boolean), Cond.methodLink RX5 63 yX5_partOf]
def wsX5_permit_r2 : List Cond := [Cond.instanceMethod yX5_partOf, Cond.selects RX5 yX5_partOf yX5_partOf, Cond.code yX5_partOf cX5_partOf 7 (some .int), Cond.fieldLink RX5 46 "SwitchlogModel" "switches" "I", Cond.fieldLink RX5 7 "SwitchlogModel" "one" "[I", Cond.fieldLink RX5 13 "SwitchlogModel" "other" "[I", Cond.methodLink RX5 70 yX5_isLive, Cond.instanceMethod yX5_isLive, Cond.selects RX5 yX5_isLive yX5_isLive, Cond.code yX5_isLive cX5_isLive 4 (some .boolean)]
def wsX5_permit : List Cond := .code yX5_permit cX5_permit 4 (some .int) :: ((wsX5_permit_r1 ++ wsX5_permit_r2) ++ wsX50)
def wsX5_handBack : List Cond := .code yX5_handBack cX5_handBack 4 (some .int) :: ([.fieldLink RX5 73 "SwitchlogModel" "permits" "I", .fieldLink RX5 29 "SwitchlogModel" "isHeld" "[Z", .fieldLink RX5 35 "SwitchlogModel" "thrown" "I", .methodLink RX5 42 yX5_in, .static yX5_in, .initialized RX5, .code yX5_in cX5_in 3 (some .boolean)] ++ wsX50)
def wsX5_held : List Cond := .code yX5_held cX5_held 1 (some .int) :: ([.fieldLink RX5 35 "SwitchlogModel" "thrown" "I", .methodLink RX5 94 yX5_heldNow, .instanceMethod yX5_heldNow, .selects RX5 yX5_heldNow yX5_heldNow, .initialized RX5, .code yX5_heldNow cX5_heldNow 3 (some .int), .fieldLink RX5 73 "SwitchlogModel" "permits" "I", .fieldLink RX5 29 "SwitchlogModel" "isHeld" "[Z", .fieldLink RX5 26 "SwitchlogModel" "holds" "[I"] ++ wsX50)
def wsX5_isClosed : List Cond := .code yX5_isClosed cX5_isClosed 2 (some .boolean) :: ([.fieldLink RX5 35 "SwitchlogModel" "thrown" "I", .fieldLink RX5 76 "SwitchlogModel" "closed" "I", .methodLink RX5 118 yX5_isSwitch, .instanceMethod yX5_isSwitch, .selects RX5 yX5_isSwitch yX5_isSwitch, .initialized RX5, .code yX5_isSwitch cX5_isSwitch 2 (some .boolean), .fieldLink RX5 46 "SwitchlogModel" "switches" "I", .methodLink RX5 42 yX5_in, .static yX5_in, .code yX5_in cX5_in 3 (some .boolean), .methodLink RX5 59 yX5_has, .static yX5_has, .code yX5_has cX5_has 2 (some .boolean)] ++ wsX50)
def wsX5_live : List Cond := .code yX5_live cX5_live 3 (some .int) :: ([.fieldLink RX5 35 "SwitchlogModel" "thrown" "I", .fieldLink RX5 39 "SwitchlogModel" "nodes" "I", .fieldLink RX5 76 "SwitchlogModel" "closed" "I", .fieldLink RX5 67 "SwitchlogModel" "on" "I", .methodLink RX5 70 yX5_isLive, .instanceMethod yX5_isLive, .selects RX5 yX5_isLive yX5_isLive, .initialized RX5, .code yX5_isLive cX5_isLive 4 (some .boolean), .methodLink RX5 63 yX5_partOf, .instanceMethod yX5_partOf, .selects RX5 yX5_partOf yX5_partOf, .code yX5_partOf cX5_partOf 7 (some .int), .fieldLink RX5 46 "SwitchlogModel" "switches" "I", .fieldLink RX5 7 "SwitchlogModel" "one" "[I", .fieldLink RX5 13 "SwitchlogModel" "other" "[I", .methodLink RX5 59 yX5_has, .static yX5_has, .code yX5_has cX5_has 2 (some .boolean)] ++ wsX50)
def wsX5_loaded : List Cond := .code yX5_loaded cX5_loaded 3 (some .int) :: ([.fieldLink RX5 35 "SwitchlogModel" "thrown" "I", .fieldLink RX5 39 "SwitchlogModel" "nodes" "I", .fieldLink RX5 76 "SwitchlogModel" "closed" "I", .methodLink RX5 82 yX5_isLoaded, .instanceMethod yX5_isLoaded, .selects RX5 yX5_isLoaded yX5_isLoaded, .initialized RX5, .code yX5_isLoaded cX5_isLoaded 3 (some .boolean), .fieldLink RX5 67 "SwitchlogModel" "on" "I", .fieldLink RX5 52 "SwitchlogModel" "loads" "I", .methodLink RX5 70 yX5_isLive, .instanceMethod yX5_isLive, .selects RX5 yX5_isLive yX5_isLive, .code yX5_isLive cX5_isLive 4 (some .boolean), .methodLink RX5 63 yX5_partOf, .instanceMethod yX5_partOf, .selects RX5 yX5_partOf yX5_partOf, .code yX5_partOf cX5_partOf 7 (some .int), .fieldLink RX5 46 "SwitchlogModel" "switches" "I", .fieldLink RX5 7 "SwitchlogModel" "one" "[I", .fieldLink RX5 13 "SwitchlogModel" "other" "[I", .methodLink RX5 59 yX5_has, .static yX5_has, .code yX5_has cX5_has 2 (some .boolean)] ++ wsX50)
def wsX5_earthed : List Cond := .code yX5_earthed cX5_earthed 3 (some .int) :: ([.fieldLink RX5 35 "SwitchlogModel" "thrown" "I", .fieldLink RX5 39 "SwitchlogModel" "nodes" "I", .fieldLink RX5 76 "SwitchlogModel" "closed" "I", .fieldLink RX5 79 "SwitchlogModel" "earths" "I", .methodLink RX5 85 yX5_isEarthed, .instanceMethod yX5_isEarthed, .selects RX5 yX5_isEarthed yX5_isEarthed, .initialized RX5, .code yX5_isEarthed cX5_isEarthed 4 (some .boolean), .methodLink RX5 63 yX5_partOf, .instanceMethod yX5_partOf, .selects RX5 yX5_partOf yX5_partOf, .code yX5_partOf cX5_partOf 7 (some .int), .fieldLink RX5 46 "SwitchlogModel" "switches" "I", .fieldLink RX5 7 "SwitchlogModel" "one" "[I", .fieldLink RX5 13 "SwitchlogModel" "other" "[I", .methodLink RX5 59 yX5_has, .static yX5_has, .code yX5_has cX5_has 2 (some .boolean)] ++ wsX50)
def wsX5_part : List Cond := .code yX5_part cX5_part 2 (some .int) :: ([.fieldLink RX5 35 "SwitchlogModel" "thrown" "I", .fieldLink RX5 76 "SwitchlogModel" "closed" "I", .methodLink RX5 55 yX5_isNode, .instanceMethod yX5_isNode, .selects RX5 yX5_isNode yX5_isNode, .initialized RX5, .code yX5_isNode cX5_isNode 2 (some .boolean), .fieldLink RX5 39 "SwitchlogModel" "nodes" "I", .methodLink RX5 42 yX5_in, .static yX5_in, .code yX5_in cX5_in 3 (some .boolean), .methodLink RX5 63 yX5_partOf, .instanceMethod yX5_partOf, .selects RX5 yX5_partOf yX5_partOf, .code yX5_partOf cX5_partOf 7 (some .int), .fieldLink RX5 46 "SwitchlogModel" "switches" "I", .fieldLink RX5 7 "SwitchlogModel" "one" "[I", .fieldLink RX5 13 "SwitchlogModel" "other" "[I", .methodLink RX5 59 yX5_has, .static yX5_has, .code yX5_has cX5_has 2 (some .boolean)] ++ wsX50)
def wsX5_parts : List Cond := .code yX5_parts cX5_parts 4 (some .int) :: ([.fieldLink RX5 35 "SwitchlogModel" "thrown" "I", .fieldLink RX5 39 "SwitchlogModel" "nodes" "I", .fieldLink RX5 76 "SwitchlogModel" "closed" "I", .methodLink RX5 59 yX5_has, .static yX5_has, .initialized RX5, .code yX5_has cX5_has 2 (some .boolean), .methodLink RX5 63 yX5_partOf, .instanceMethod yX5_partOf, .selects RX5 yX5_partOf yX5_partOf, .code yX5_partOf cX5_partOf 7 (some .int), .fieldLink RX5 46 "SwitchlogModel" "switches" "I", .fieldLink RX5 7 "SwitchlogModel" "one" "[I", .fieldLink RX5 13 "SwitchlogModel" "other" "[I"] ++ wsX50)
def wsX5_laysFar : List Cond := .code yX5_laysFar cX5_laysFar 7 none :: ([.fieldLink RX5 39 "SwitchlogModel" "nodes" "I", .fieldLink RX5 32 "SwitchlogModel" "far" "[I", .fieldLink RX5 46 "SwitchlogModel" "switches" "I", .fieldLink RX5 76 "SwitchlogModel" "closed" "I", .fieldLink RX5 7 "SwitchlogModel" "one" "[I", .fieldLink RX5 13 "SwitchlogModel" "other" "[I", .methodLink RX5 59 yX5_has, .static yX5_has, .initialized RX5, .code yX5_has cX5_has 2 (some .boolean)] ++ wsX50)
def wsX5_toLive : List Cond := .code yX5_toLive cX5_toLive 4 (some .int) :: ([.fieldLink RX5 35 "SwitchlogModel" "thrown" "I", .fieldLink RX5 39 "SwitchlogModel" "nodes" "I", .fieldLink RX5 67 "SwitchlogModel" "on" "I", .fieldLink RX5 32 "SwitchlogModel" "far" "[I", .methodLink RX5 55 yX5_isNode, .instanceMethod yX5_isNode, .selects RX5 yX5_isNode yX5_isNode, .initialized RX5, .code yX5_isNode cX5_isNode 2 (some .boolean), .methodLink RX5 42 yX5_in, .static yX5_in, .code yX5_in cX5_in 3 (some .boolean), .methodLink RX5 140 yX5_laysFar, .instanceMethod yX5_laysFar, .selects RX5 yX5_laysFar yX5_laysFar, .code yX5_laysFar cX5_laysFar 7 none, .fieldLink RX5 46 "SwitchlogModel" "switches" "I", .fieldLink RX5 76 "SwitchlogModel" "closed" "I", .fieldLink RX5 7 "SwitchlogModel" "one" "[I", .fieldLink RX5 13 "SwitchlogModel" "other" "[I", .methodLink RX5 59 yX5_has, .static yX5_has, .code yX5_has cX5_has 2 (some .boolean)] ++ wsX50)
def wsJ9_min_7cf53 : List Cond := .code yJ9_min_7cf53 cJ9_min_7cf53 2 (some .int) :: ([])
abbrev vwCl : List vw_C := [(RX0, TX0, 2), (RX1, TX1, 6), (RX2, TX2, 2), (RX3, TX3, 3), (RX4, TX4, 7), (RX5, TX5, 19)]
end
section
theorem dX0_init_0 : decode cX0_init 0 = .ok (.aload_n 0, 1) := by decide +kernel
theorem dX0_init_1 : decode cX0_init 1 = .ok (.invokespecial 1, 3) := by decide +kernel
theorem dX0_init_4 : decode cX0_init 4 = .ok (.aload_n 0, 1) := by decide +kernel
theorem dX0_init_5 : decode cX0_init 5 = .ok (.iload_n 1, 1) := by decide +kernel
theorem dX0_init_6 : decode cX0_init 6 = .ok (.newarray .int, 2) := by decide +kernel
theorem dX0_init_8 : decode cX0_init 8 = .ok (.putfield 7, 3) := by decide +kernel
theorem dX0_init_11 : decode cX0_init 11 = .ok (.return_, 1) := by decide +kernel
theorem dX0_size_0 : decode cX0_size 0 = .ok (.aload_n 0, 1) := by decide +kernel
theorem dX0_size_1 : decode cX0_size 1 = .ok (.getfield 13, 3) := by decide +kernel
theorem dX0_size_4 : decode cX0_size 4 = .ok (.ireturn, 1) := by decide +kernel
theorem dX0_get_0 : decode cX0_get 0 = .ok (.aload_n 0, 1) := by decide +kernel
theorem dX0_get_1 : decode cX0_get 1 = .ok (.getfield 7, 3) := by decide +kernel
theorem dX0_get_4 : decode cX0_get 4 = .ok (.iload_n 1, 1) := by decide +kernel
theorem dX0_get_5 : decode cX0_get 5 = .ok (.iaload, 1) := by decide +kernel
theorem dX0_get_6 : decode cX0_get 6 = .ok (.ireturn, 1) := by decide +kernel
theorem dX0_latest_0 : decode cX0_latest 0 = .ok (.aload_n 0, 1) := by decide +kernel
theorem dX0_latest_1 : decode cX0_latest 1 = .ok (.getfield 7, 3) := by decide +kernel
theorem dX0_latest_4 : decode cX0_latest 4 = .ok (.aload_n 0, 1) := by decide +kernel
theorem dX0_latest_5 : decode cX0_latest 5 = .ok (.getfield 13, 3) := by decide +kernel
theorem dX0_latest_8 : decode cX0_latest 8 = .ok (.iconst 1, 1) := by decide +kernel
theorem dX0_latest_9 : decode cX0_latest 9 = .ok (.isub, 1) := by decide +kernel
theorem dX0_latest_10 : decode cX0_latest 10 = .ok (.iload_n 1, 1) := by decide +kernel
theorem dX0_latest_11 : decode cX0_latest 11 = .ok (.isub, 1) := by decide +kernel
theorem dX0_latest_12 : decode cX0_latest 12 = .ok (.iaload, 1) := by decide +kernel
theorem dX0_latest_13 : decode cX0_latest 13 = .ok (.ireturn, 1) := by decide +kernel
theorem dX0_append_0 : decode cX0_append 0 = .ok (.aload_n 0, 1) := by decide +kernel
theorem dX0_append_1 : decode cX0_append 1 = .ok (.getfield 7, 3) := by decide +kernel
theorem dX0_append_4 : decode cX0_append 4 = .ok (.aload_n 0, 1) := by decide +kernel
theorem dX0_append_5 : decode cX0_append 5 = .ok (.getfield 13, 3) := by decide +kernel
theorem dX0_append_8 : decode cX0_append 8 = .ok (.iload_n 1, 1) := by decide +kernel
theorem dX0_append_9 : decode cX0_append 9 = .ok (.iastore, 1) := by decide +kernel
theorem dX0_append_10 : decode cX0_append 10 = .ok (.aload_n 0, 1) := by decide +kernel
theorem dX0_append_11 : decode cX0_append 11 = .ok (.dup, 1) := by decide +kernel
theorem dX0_append_12 : decode cX0_append 12 = .ok (.getfield 13, 3) := by decide +kernel
theorem dX0_append_15 : decode cX0_append 15 = .ok (.iconst 1, 1) := by decide +kernel
theorem dX0_append_16 : decode cX0_append 16 = .ok (.iadd, 1) := by decide +kernel
theorem dX0_append_17 : decode cX0_append 17 = .ok (.putfield 13, 3) := by decide +kernel
theorem dX0_append_20 : decode cX0_append 20 = .ok (.return_, 1) := by decide +kernel
theorem dX0_dropLast_0 : decode cX0_dropLast 0 = .ok (.aload_n 0, 1) := by decide +kernel
theorem dX0_dropLast_1 : decode cX0_dropLast 1 = .ok (.dup, 1) := by decide +kernel
theorem dX0_dropLast_2 : decode cX0_dropLast 2 = .ok (.getfield 13, 3) := by decide +kernel
theorem dX0_dropLast_5 : decode cX0_dropLast 5 = .ok (.iconst 1, 1) := by decide +kernel
theorem dX0_dropLast_6 : decode cX0_dropLast 6 = .ok (.isub, 1) := by decide +kernel
theorem dX0_dropLast_7 : decode cX0_dropLast 7 = .ok (.putfield 13, 3) := by decide +kernel
theorem dX0_dropLast_10 : decode cX0_dropLast 10 = .ok (.return_, 1) := by decide +kernel
theorem dX0_dropFirst_0 : decode cX0_dropFirst 0 = .ok (.iload_n 1, 1) := by decide +kernel
theorem dX0_dropFirst_1 : decode cX0_dropFirst 1 = .ok (.istore_n 2, 1) := by decide +kernel
theorem dX0_dropFirst_2 : decode cX0_dropFirst 2 = .ok (.iload_n 2, 1) := by decide +kernel
theorem dX0_dropFirst_3 : decode cX0_dropFirst 3 = .ok (.aload_n 0, 1) := by decide +kernel
theorem dX0_dropFirst_4 : decode cX0_dropFirst 4 = .ok (.getfield 13, 3) := by decide +kernel
theorem dX0_dropFirst_7 : decode cX0_dropFirst 7 = .ok (.if_icmp .ge 23, 3) := by decide +kernel
theorem dX0_dropFirst_10 : decode cX0_dropFirst 10 = .ok (.aload_n 0, 1) := by decide +kernel
theorem dX0_dropFirst_11 : decode cX0_dropFirst 11 = .ok (.getfield 7, 3) := by decide +kernel
theorem dX0_dropFirst_14 : decode cX0_dropFirst 14 = .ok (.iload_n 2, 1) := by decide +kernel
theorem dX0_dropFirst_15 : decode cX0_dropFirst 15 = .ok (.iload_n 1, 1) := by decide +kernel
theorem dX0_dropFirst_16 : decode cX0_dropFirst 16 = .ok (.isub, 1) := by decide +kernel
theorem dX0_dropFirst_17 : decode cX0_dropFirst 17 = .ok (.aload_n 0, 1) := by decide +kernel
theorem dX0_dropFirst_18 : decode cX0_dropFirst 18 = .ok (.getfield 7, 3) := by decide +kernel
theorem dX0_dropFirst_21 : decode cX0_dropFirst 21 = .ok (.iload_n 2, 1) := by decide +kernel
theorem dX0_dropFirst_22 : decode cX0_dropFirst 22 = .ok (.iaload, 1) := by decide +kernel
theorem dX0_dropFirst_23 : decode cX0_dropFirst 23 = .ok (.iastore, 1) := by decide +kernel
theorem dX0_dropFirst_24 : decode cX0_dropFirst 24 = .ok (.iinc 2 1, 3) := by decide +kernel
theorem dX0_dropFirst_27 : decode cX0_dropFirst 27 = .ok (.goto (-25), 3) := by decide +kernel
theorem dX0_dropFirst_30 : decode cX0_dropFirst 30 = .ok (.aload_n 0, 1) := by decide +kernel
theorem dX0_dropFirst_31 : decode cX0_dropFirst 31 = .ok (.dup, 1) := by decide +kernel
theorem dX0_dropFirst_32 : decode cX0_dropFirst 32 = .ok (.getfield 13, 3) := by decide +kernel
theorem dX0_dropFirst_35 : decode cX0_dropFirst 35 = .ok (.iload_n 1, 1) := by decide +kernel
theorem dX0_dropFirst_36 : decode cX0_dropFirst 36 = .ok (.isub, 1) := by decide +kernel
theorem dX0_dropFirst_37 : decode cX0_dropFirst 37 = .ok (.putfield 13, 3) := by decide +kernel
theorem dX0_dropFirst_40 : decode cX0_dropFirst 40 = .ok (.return_, 1) := by decide +kernel
theorem dX0_count_0 : decode cX0_count 0 = .ok (.iconst 0, 1) := by decide +kernel
theorem dX0_count_1 : decode cX0_count 1 = .ok (.istore_n 2, 1) := by decide +kernel
theorem dX0_count_2 : decode cX0_count 2 = .ok (.iconst 0, 1) := by decide +kernel
theorem dX0_count_3 : decode cX0_count 3 = .ok (.istore_n 3, 1) := by decide +kernel
theorem dX0_count_4 : decode cX0_count 4 = .ok (.iload_n 3, 1) := by decide +kernel
theorem dX0_count_5 : decode cX0_count 5 = .ok (.aload_n 0, 1) := by decide +kernel
theorem dX0_count_6 : decode cX0_count 6 = .ok (.getfield 13, 3) := by decide +kernel
theorem dX0_count_9 : decode cX0_count 9 = .ok (.if_icmp .ge 27, 3) := by decide +kernel
theorem dX0_count_12 : decode cX0_count 12 = .ok (.iload_n 2, 1) := by decide +kernel
theorem dX0_count_13 : decode cX0_count 13 = .ok (.aload_n 0, 1) := by decide +kernel
theorem dX0_count_14 : decode cX0_count 14 = .ok (.getfield 7, 3) := by decide +kernel
theorem dX0_count_17 : decode cX0_count 17 = .ok (.iload_n 3, 1) := by decide +kernel
theorem dX0_count_18 : decode cX0_count 18 = .ok (.iaload, 1) := by decide +kernel
theorem dX0_count_19 : decode cX0_count 19 = .ok (.iload_n 1, 1) := by decide +kernel
theorem dX0_count_20 : decode cX0_count 20 = .ok (.if_icmp .ne 7, 3) := by decide +kernel
theorem dX0_count_23 : decode cX0_count 23 = .ok (.iconst 1, 1) := by decide +kernel
theorem dX0_count_24 : decode cX0_count 24 = .ok (.goto 4, 3) := by decide +kernel
theorem dX0_count_27 : decode cX0_count 27 = .ok (.iconst 0, 1) := by decide +kernel
theorem dX0_count_28 : decode cX0_count 28 = .ok (.iadd, 1) := by decide +kernel
theorem dX0_count_29 : decode cX0_count 29 = .ok (.istore_n 2, 1) := by decide +kernel
theorem dX0_count_30 : decode cX0_count 30 = .ok (.iinc 3 1, 3) := by decide +kernel
theorem dX0_count_33 : decode cX0_count 33 = .ok (.goto (-29), 3) := by decide +kernel
theorem dX0_count_36 : decode cX0_count 36 = .ok (.iload_n 2, 1) := by decide +kernel
theorem dX0_count_37 : decode cX0_count 37 = .ok (.ireturn, 1) := by decide +kernel
theorem dX1_init_0 : decode cX1_init 0 = .ok (.aload_n 0, 1) := by decide +kernel
theorem dX1_init_1 : decode cX1_init 1 = .ok (.invokespecial 3, 3) := by decide +kernel
theorem dX1_init_4 : decode cX1_init 4 = .ok (.aload_n 0, 1) := by decide +kernel
theorem dX1_init_5 : decode cX1_init 5 = .ok (.bipush 24, 2) := by decide +kernel
theorem dX1_init_7 : decode cX1_init 7 = .ok (.newarray .int, 2) := by decide +kernel
theorem dX1_init_9 : decode cX1_init 9 = .ok (.putfield 9, 3) := by decide +kernel
theorem dX1_init_12 : decode cX1_init 12 = .ok (.return_, 1) := by decide +kernel
theorem dX1_nodeCount_0 : decode cX1_nodeCount 0 = .ok (.aload_n 0, 1) := by decide +kernel
theorem dX1_nodeCount_1 : decode cX1_nodeCount 1 = .ok (.getfield 15, 3) := by decide +kernel
theorem dX1_nodeCount_4 : decode cX1_nodeCount 4 = .ok (.ireturn, 1) := by decide +kernel
theorem dX1_switchCount_0 : decode cX1_switchCount 0 = .ok (.aload_n 0, 1) := by decide +kernel
theorem dX1_switchCount_1 : decode cX1_switchCount 1 = .ok (.getfield 19, 3) := by decide +kernel
theorem dX1_switchCount_4 : decode cX1_switchCount 4 = .ok (.ireturn, 1) := by decide +kernel
theorem dX1_allNodes_0 : decode cX1_allNodes 0 = .ok (.iconst 1, 1) := by decide +kernel
theorem dX1_allNodes_1 : decode cX1_allNodes 1 = .ok (.aload_n 0, 1) := by decide +kernel
theorem dX1_allNodes_2 : decode cX1_allNodes 2 = .ok (.getfield 15, 3) := by decide +kernel
theorem dX1_allNodes_5 : decode cX1_allNodes 5 = .ok (.ishl, 1) := by decide +kernel
theorem dX1_allNodes_6 : decode cX1_allNodes 6 = .ok (.iconst 1, 1) := by decide +kernel
theorem dX1_allNodes_7 : decode cX1_allNodes 7 = .ok (.isub, 1) := by decide +kernel
theorem dX1_allNodes_8 : decode cX1_allNodes 8 = .ok (.ireturn, 1) := by decide +kernel
theorem dX1_hasNode_0 : decode cX1_hasNode 0 = .ok (.iload_n 1, 1) := by decide +kernel
theorem dX1_hasNode_1 : decode cX1_hasNode 1 = .ok (.ifCond .lt 15, 3) := by decide +kernel
theorem dX1_hasNode_4 : decode cX1_hasNode 4 = .ok (.iload_n 1, 1) := by decide +kernel
theorem dX1_hasNode_5 : decode cX1_hasNode 5 = .ok (.aload_n 0, 1) := by decide +kernel
theorem dX1_hasNode_6 : decode cX1_hasNode 6 = .ok (.getfield 15, 3) := by decide +kernel
theorem dX1_hasNode_9 : decode cX1_hasNode 9 = .ok (.if_icmp .ge 7, 3) := by decide +kernel
theorem dX1_hasNode_12 : decode cX1_hasNode 12 = .ok (.iconst 1, 1) := by decide +kernel
theorem dX1_hasNode_13 : decode cX1_hasNode 13 = .ok (.goto 4, 3) := by decide +kernel
theorem dX1_hasNode_16 : decode cX1_hasNode 16 = .ok (.iconst 0, 1) := by decide +kernel
theorem dX1_hasNode_17 : decode cX1_hasNode 17 = .ok (.ireturn, 1) := by decide +kernel
theorem dX1_hasSwitch_0 : decode cX1_hasSwitch 0 = .ok (.iload_n 1, 1) := by decide +kernel
theorem dX1_hasSwitch_1 : decode cX1_hasSwitch 1 = .ok (.ifCond .lt 15, 3) := by decide +kernel
theorem dX1_hasSwitch_4 : decode cX1_hasSwitch 4 = .ok (.iload_n 1, 1) := by decide +kernel
theorem dX1_hasSwitch_5 : decode cX1_hasSwitch 5 = .ok (.aload_n 0, 1) := by decide +kernel
theorem dX1_hasSwitch_6 : decode cX1_hasSwitch 6 = .ok (.getfield 19, 3) := by decide +kernel
theorem dX1_hasSwitch_9 : decode cX1_hasSwitch 9 = .ok (.if_icmp .ge 7, 3) := by decide +kernel
theorem dX1_hasSwitch_12 : decode cX1_hasSwitch 12 = .ok (.iconst 1, 1) := by decide +kernel
theorem dX1_hasSwitch_13 : decode cX1_hasSwitch 13 = .ok (.goto 4, 3) := by decide +kernel
theorem dX1_hasSwitch_16 : decode cX1_hasSwitch 16 = .ok (.iconst 0, 1) := by decide +kernel
theorem dX1_hasSwitch_17 : decode cX1_hasSwitch 17 = .ok (.ireturn, 1) := by decide +kernel
theorem dX1_appendNode_0 : decode cX1_appendNode 0 = .ok (.iconst 1, 1) := by decide +kernel
theorem dX1_appendNode_1 : decode cX1_appendNode 1 = .ok (.aload_n 0, 1) := by decide +kernel
theorem dX1_appendNode_2 : decode cX1_appendNode 2 = .ok (.getfield 15, 3) := by decide +kernel
theorem dX1_appendNode_5 : decode cX1_appendNode 5 = .ok (.ishl, 1) := by decide +kernel
theorem dX1_appendNode_6 : decode cX1_appendNode 6 = .ok (.istore_n 3, 1) := by decide +kernel
theorem dX1_appendNode_7 : decode cX1_appendNode 7 = .ok (.aload_n 0, 1) := by decide +kernel
theorem dX1_appendNode_8 : decode cX1_appendNode 8 = .ok (.dup, 1) := by decide +kernel
theorem dX1_appendNode_9 : decode cX1_appendNode 9 = .ok (.getfield 22, 3) := by decide +kernel
theorem dX1_appendNode_12 : decode cX1_appendNode 12 = .ok (.iload_n 1, 1) := by decide +kernel
theorem dX1_appendNode_13 : decode cX1_appendNode 13 = .ok (.ifCond .eq 7, 3) := by decide +kernel
theorem dX1_appendNode_16 : decode cX1_appendNode 16 = .ok (.iload_n 3, 1) := by decide +kernel
theorem dX1_appendNode_17 : decode cX1_appendNode 17 = .ok (.goto 4, 3) := by decide +kernel
theorem dX1_appendNode_20 : decode cX1_appendNode 20 = .ok (.iconst 0, 1) := by decide +kernel
theorem dX1_appendNode_21 : decode cX1_appendNode 21 = .ok (.ior, 1) := by decide +kernel
theorem dX1_appendNode_22 : decode cX1_appendNode 22 = .ok (.putfield 22, 3) := by decide +kernel
theorem dX1_appendNode_25 : decode cX1_appendNode 25 = .ok (.aload_n 0, 1) := by decide +kernel
theorem dX1_appendNode_26 : decode cX1_appendNode 26 = .ok (.dup, 1) := by decide +kernel
theorem dX1_appendNode_27 : decode cX1_appendNode 27 = .ok (.getfield 25, 3) := by decide +kernel
theorem dX1_appendNode_30 : decode cX1_appendNode 30 = .ok (.iload_n 2, 1) := by decide +kernel
theorem dX1_appendNode_31 : decode cX1_appendNode 31 = .ok (.ifCond .eq 7, 3) := by decide +kernel
theorem dX1_appendNode_34 : decode cX1_appendNode 34 = .ok (.iload_n 3, 1) := by decide +kernel
theorem dX1_appendNode_35 : decode cX1_appendNode 35 = .ok (.goto 4, 3) := by decide +kernel
theorem dX1_appendNode_38 : decode cX1_appendNode 38 = .ok (.iconst 0, 1) := by decide +kernel
theorem dX1_appendNode_39 : decode cX1_appendNode 39 = .ok (.ior, 1) := by decide +kernel
theorem dX1_appendNode_40 : decode cX1_appendNode 40 = .ok (.putfield 25, 3) := by decide +kernel
theorem dX1_appendNode_43 : decode cX1_appendNode 43 = .ok (.aload_n 0, 1) := by decide +kernel
theorem dX1_appendNode_44 : decode cX1_appendNode 44 = .ok (.dup, 1) := by decide +kernel
theorem dX1_appendNode_45 : decode cX1_appendNode 45 = .ok (.getfield 15, 3) := by decide +kernel
theorem dX1_appendNode_48 : decode cX1_appendNode 48 = .ok (.dup_x1, 1) := by decide +kernel
theorem dX1_appendNode_49 : decode cX1_appendNode 49 = .ok (.iconst 1, 1) := by decide +kernel
theorem dX1_appendNode_50 : decode cX1_appendNode 50 = .ok (.iadd, 1) := by decide +kernel
theorem dX1_appendNode_51 : decode cX1_appendNode 51 = .ok (.putfield 15, 3) := by decide +kernel
theorem dX1_appendNode_54 : decode cX1_appendNode 54 = .ok (.ireturn, 1) := by decide +kernel
theorem dX1_appendSwitch_0 : decode cX1_appendSwitch 0 = .ok (.aload_n 0, 1) := by decide +kernel
theorem dX1_appendSwitch_1 : decode cX1_appendSwitch 1 = .ok (.getfield 9, 3) := by decide +kernel
theorem dX1_appendSwitch_4 : decode cX1_appendSwitch 4 = .ok (.aload_n 0, 1) := by decide +kernel
theorem dX1_appendSwitch_5 : decode cX1_appendSwitch 5 = .ok (.getfield 19, 3) := by decide +kernel
theorem dX1_appendSwitch_8 : decode cX1_appendSwitch 8 = .ok (.iconst 1, 1) := by decide +kernel
theorem dX1_appendSwitch_9 : decode cX1_appendSwitch 9 = .ok (.iload_n 1, 1) := by decide +kernel
theorem dX1_appendSwitch_10 : decode cX1_appendSwitch 10 = .ok (.ishl, 1) := by decide +kernel
theorem dX1_appendSwitch_11 : decode cX1_appendSwitch 11 = .ok (.iconst 1, 1) := by decide +kernel
theorem dX1_appendSwitch_12 : decode cX1_appendSwitch 12 = .ok (.iload_n 2, 1) := by decide +kernel
theorem dX1_appendSwitch_13 : decode cX1_appendSwitch 13 = .ok (.ishl, 1) := by decide +kernel
theorem dX1_appendSwitch_14 : decode cX1_appendSwitch 14 = .ok (.ior, 1) := by decide +kernel
theorem dX1_appendSwitch_15 : decode cX1_appendSwitch 15 = .ok (.iastore, 1) := by decide +kernel
theorem dX1_appendSwitch_16 : decode cX1_appendSwitch 16 = .ok (.aload_n 0, 1) := by decide +kernel
theorem dX1_appendSwitch_17 : decode cX1_appendSwitch 17 = .ok (.dup, 1) := by decide +kernel
theorem dX1_appendSwitch_18 : decode cX1_appendSwitch 18 = .ok (.getfield 28, 3) := by decide +kernel
theorem dX1_appendSwitch_21 : decode cX1_appendSwitch 21 = .ok (.iload_n 3, 1) := by decide +kernel
theorem dX1_appendSwitch_22 : decode cX1_appendSwitch 22 = .ok (.ifCond .eq 12, 3) := by decide +kernel
theorem dX1_appendSwitch_25 : decode cX1_appendSwitch 25 = .ok (.iconst 1, 1) := by decide +kernel
theorem dX1_appendSwitch_26 : decode cX1_appendSwitch 26 = .ok (.aload_n 0, 1) := by decide +kernel
theorem dX1_appendSwitch_27 : decode cX1_appendSwitch 27 = .ok (.getfield 19, 3) := by decide +kernel
theorem dX1_appendSwitch_30 : decode cX1_appendSwitch 30 = .ok (.ishl, 1) := by decide +kernel
theorem dX1_appendSwitch_31 : decode cX1_appendSwitch 31 = .ok (.goto 4, 3) := by decide +kernel
theorem dX1_appendSwitch_34 : decode cX1_appendSwitch 34 = .ok (.iconst 0, 1) := by decide +kernel
theorem dX1_appendSwitch_35 : decode cX1_appendSwitch 35 = .ok (.ior, 1) := by decide +kernel
theorem dX1_appendSwitch_36 : decode cX1_appendSwitch 36 = .ok (.putfield 28, 3) := by decide +kernel
theorem dX1_appendSwitch_39 : decode cX1_appendSwitch 39 = .ok (.aload_n 0, 1) := by decide +kernel
theorem dX1_appendSwitch_40 : decode cX1_appendSwitch 40 = .ok (.dup, 1) := by decide +kernel
theorem dX1_appendSwitch_41 : decode cX1_appendSwitch 41 = .ok (.getfield 19, 3) := by decide +kernel
theorem dX1_appendSwitch_44 : decode cX1_appendSwitch 44 = .ok (.dup_x1, 1) := by decide +kernel
theorem dX1_appendSwitch_45 : decode cX1_appendSwitch 45 = .ok (.iconst 1, 1) := by decide +kernel
theorem dX1_appendSwitch_46 : decode cX1_appendSwitch 46 = .ok (.iadd, 1) := by decide +kernel
theorem dX1_appendSwitch_47 : decode cX1_appendSwitch 47 = .ok (.putfield 19, 3) := by decide +kernel
theorem dX1_appendSwitch_50 : decode cX1_appendSwitch 50 = .ok (.ireturn, 1) := by decide +kernel
theorem dX1_hasSource_0 : decode cX1_hasSource 0 = .ok (.aload_n 0, 1) := by decide +kernel
theorem dX1_hasSource_1 : decode cX1_hasSource 1 = .ok (.getfield 22, 3) := by decide +kernel
theorem dX1_hasSource_4 : decode cX1_hasSource 4 = .ok (.iload_n 1, 1) := by decide +kernel
theorem dX1_hasSource_5 : decode cX1_hasSource 5 = .ok (.ishr, 1) := by decide +kernel
theorem dX1_hasSource_6 : decode cX1_hasSource 6 = .ok (.iconst 1, 1) := by decide +kernel
theorem dX1_hasSource_7 : decode cX1_hasSource 7 = .ok (.iand, 1) := by decide +kernel
theorem dX1_hasSource_8 : decode cX1_hasSource 8 = .ok (.ifCond .eq 7, 3) := by decide +kernel
theorem dX1_hasSource_11 : decode cX1_hasSource 11 = .ok (.iconst 1, 1) := by decide +kernel
theorem dX1_hasSource_12 : decode cX1_hasSource 12 = .ok (.goto 4, 3) := by decide +kernel
theorem dX1_hasSource_15 : decode cX1_hasSource 15 = .ok (.iconst 0, 1) := by decide +kernel
theorem dX1_hasSource_16 : decode cX1_hasSource 16 = .ok (.ireturn, 1) := by decide +kernel
theorem dX1_isBreaker_0 : decode cX1_isBreaker 0 = .ok (.aload_n 0, 1) := by decide +kernel
theorem dX1_isBreaker_1 : decode cX1_isBreaker 1 = .ok (.getfield 28, 3) := by decide +kernel
theorem dX1_isBreaker_4 : decode cX1_isBreaker 4 = .ok (.iload_n 1, 1) := by decide +kernel
theorem dX1_isBreaker_5 : decode cX1_isBreaker 5 = .ok (.ishr, 1) := by decide +kernel
theorem dX1_isBreaker_6 : decode cX1_isBreaker 6 = .ok (.iconst 1, 1) := by decide +kernel
theorem dX1_isBreaker_7 : decode cX1_isBreaker 7 = .ok (.iand, 1) := by decide +kernel
theorem dX1_isBreaker_8 : decode cX1_isBreaker 8 = .ok (.ifCond .eq 7, 3) := by decide +kernel
theorem dX1_isBreaker_11 : decode cX1_isBreaker 11 = .ok (.iconst 1, 1) := by decide +kernel
theorem dX1_isBreaker_12 : decode cX1_isBreaker 12 = .ok (.goto 4, 3) := by decide +kernel
theorem dX1_isBreaker_15 : decode cX1_isBreaker 15 = .ok (.iconst 0, 1) := by decide +kernel
theorem dX1_isBreaker_16 : decode cX1_isBreaker 16 = .ok (.ireturn, 1) := by decide +kernel
theorem dX1_endsOf_0 : decode cX1_endsOf 0 = .ok (.aload_n 0, 1) := by decide +kernel
theorem dX1_endsOf_1 : decode cX1_endsOf 1 = .ok (.getfield 9, 3) := by decide +kernel
theorem dX1_endsOf_4 : decode cX1_endsOf 4 = .ok (.iload_n 1, 1) := by decide +kernel
theorem dX1_endsOf_5 : decode cX1_endsOf 5 = .ok (.iaload, 1) := by decide +kernel
theorem dX1_endsOf_6 : decode cX1_endsOf 6 = .ok (.ireturn, 1) := by decide +kernel
set_option maxRecDepth 20000 in
theorem ggX1_liveNodes_X1_connectedWith : GoodIn wsX1_liveNodes wsX1_connectedWith := goodIn_r _ [5, 6, 7, 8, 12, 13, 14, 15, 16, 17, 9, 10, 11] (by decide +kernel) (by decide +kernel)
set_option maxRecDepth 20000 in
theorem gX1_liveNodes_X1_connectedWith : GoodIn wsX1_liveNodes (wsV RX1 34 RX1 yX1_connectedWith wsX1_connectedWith) := goodIn_app (goodIn_of _ (by decide +kernel)) ggX1_liveNodes_X1_connectedWith
theorem dX1_liveNodes_0 : decode cX1_liveNodes 0 = .ok (.aload_n 0, 1) := by decide +kernel
theorem dX1_liveNodes_1 : decode cX1_liveNodes 1 = .ok (.aload_n 1, 1) := by decide +kernel
theorem dX1_liveNodes_2 : decode cX1_liveNodes 2 = .ok (.getfield 31, 3) := by decide +kernel
theorem dX1_liveNodes_5 : decode cX1_liveNodes 5 = .ok (.aload_n 1, 1) := by decide +kernel
theorem dX1_liveNodes_6 : decode cX1_liveNodes 6 = .ok (.invokevirtual 34, 3) := by decide +kernel
theorem dX1_liveNodes_9 : decode cX1_liveNodes 9 = .ok (.ireturn, 1) := by decide +kernel
set_option maxRecDepth 20000 in
theorem ggX1_earthedNodes_X1_connectedWith : GoodIn wsX1_earthedNodes wsX1_connectedWith := goodIn_r _ [5, 6, 7, 8, 12, 13, 14, 15, 16, 17, 9, 10, 11] (by decide +kernel) (by decide +kernel)
set_option maxRecDepth 20000 in
theorem gX1_earthedNodes_X1_connectedWith : GoodIn wsX1_earthedNodes (wsV RX1 34 RX1 yX1_connectedWith wsX1_connectedWith) := goodIn_app (goodIn_of _ (by decide +kernel)) ggX1_earthedNodes_X1_connectedWith
theorem dX1_earthedNodes_0 : decode cX1_earthedNodes 0 = .ok (.aload_n 0, 1) := by decide +kernel
theorem dX1_earthedNodes_1 : decode cX1_earthedNodes 1 = .ok (.aload_n 1, 1) := by decide +kernel
theorem dX1_earthedNodes_2 : decode cX1_earthedNodes 2 = .ok (.getfield 38, 3) := by decide +kernel
theorem dX1_earthedNodes_5 : decode cX1_earthedNodes 5 = .ok (.aload_n 1, 1) := by decide +kernel
theorem dX1_earthedNodes_6 : decode cX1_earthedNodes 6 = .ok (.invokevirtual 34, 3) := by decide +kernel
theorem dX1_earthedNodes_9 : decode cX1_earthedNodes 9 = .ok (.ireturn, 1) := by decide +kernel
set_option maxRecDepth 20000 in
theorem ggX1_loadedNodes_X1_connectedWith : GoodIn wsX1_loadedNodes wsX1_connectedWith := goodIn_r _ [6, 7, 8, 9, 13, 14, 15, 16, 17, 18, 10, 11, 12] (by decide +kernel) (by decide +kernel)
set_option maxRecDepth 20000 in
theorem gX1_loadedNodes_X1_connectedWith : GoodIn wsX1_loadedNodes (wsV RX1 34 RX1 yX1_connectedWith wsX1_connectedWith) := goodIn_app (goodIn_of _ (by decide +kernel)) ggX1_loadedNodes_X1_connectedWith
theorem dX1_loadedNodes_0 : decode cX1_loadedNodes 0 = .ok (.aload_n 0, 1) := by decide +kernel
theorem dX1_loadedNodes_1 : decode cX1_loadedNodes 1 = .ok (.aload_n 1, 1) := by decide +kernel
theorem dX1_loadedNodes_2 : decode cX1_loadedNodes 2 = .ok (.getfield 31, 3) := by decide +kernel
theorem dX1_loadedNodes_5 : decode cX1_loadedNodes 5 = .ok (.aload_n 1, 1) := by decide +kernel
theorem dX1_loadedNodes_6 : decode cX1_loadedNodes 6 = .ok (.invokevirtual 34, 3) := by decide +kernel
theorem dX1_loadedNodes_9 : decode cX1_loadedNodes 9 = .ok (.aload_n 0, 1) := by decide +kernel
theorem dX1_loadedNodes_10 : decode cX1_loadedNodes 10 = .ok (.aload_n 0, 1) := by decide +kernel
theorem dX1_loadedNodes_11 : decode cX1_loadedNodes 11 = .ok (.getfield 25, 3) := by decide +kernel
theorem dX1_loadedNodes_14 : decode cX1_loadedNodes 14 = .ok (.aload_n 1, 1) := by decide +kernel
theorem dX1_loadedNodes_15 : decode cX1_loadedNodes 15 = .ok (.invokevirtual 34, 3) := by decide +kernel
theorem dX1_loadedNodes_18 : decode cX1_loadedNodes 18 = .ok (.iand, 1) := by decide +kernel
theorem dX1_loadedNodes_19 : decode cX1_loadedNodes 19 = .ok (.ireturn, 1) := by decide +kernel
set_option maxRecDepth 20000 in
theorem ggX1_areEndsConnected_X1_connectedWith : GoodIn wsX1_areEndsConnected wsX1_connectedWith := goodIn_r _ [6, 7, 8, 1, 9, 10, 11, 12, 13, 14, 15, 16, 17] (by decide +kernel) (by decide +kernel)
set_option maxRecDepth 20000 in
theorem gX1_areEndsConnected_X1_connectedWith : GoodIn wsX1_areEndsConnected (wsV RX1 34 RX1 yX1_connectedWith wsX1_connectedWith) := goodIn_app (goodIn_of _ (by decide +kernel)) ggX1_areEndsConnected_X1_connectedWith
theorem dX1_areEndsConnected_0 : decode cX1_areEndsConnected 0 = .ok (.aload_n 0, 1) := by decide +kernel
theorem dX1_areEndsConnected_1 : decode cX1_areEndsConnected 1 = .ok (.getfield 9, 3) := by decide +kernel
theorem dX1_areEndsConnected_4 : decode cX1_areEndsConnected 4 = .ok (.iload_n 1, 1) := by decide +kernel
theorem dX1_areEndsConnected_5 : decode cX1_areEndsConnected 5 = .ok (.iaload, 1) := by decide +kernel
theorem dX1_areEndsConnected_6 : decode cX1_areEndsConnected 6 = .ok (.istore_n 3, 1) := by decide +kernel
theorem dX1_areEndsConnected_7 : decode cX1_areEndsConnected 7 = .ok (.iload_n 3, 1) := by decide +kernel
theorem dX1_areEndsConnected_8 : decode cX1_areEndsConnected 8 = .ok (.iload_n 3, 1) := by decide +kernel
theorem dX1_areEndsConnected_9 : decode cX1_areEndsConnected 9 = .ok (.ineg, 1) := by decide +kernel
theorem dX1_areEndsConnected_10 : decode cX1_areEndsConnected 10 = .ok (.iand, 1) := by decide +kernel
theorem dX1_areEndsConnected_11 : decode cX1_areEndsConnected 11 = .ok (.istore 4, 2) := by decide +kernel
theorem dX1_areEndsConnected_13 : decode cX1_areEndsConnected 13 = .ok (.aload_n 0, 1) := by decide +kernel
theorem dX1_areEndsConnected_14 : decode cX1_areEndsConnected 14 = .ok (.iload 4, 2) := by decide +kernel
theorem dX1_areEndsConnected_16 : decode cX1_areEndsConnected 16 = .ok (.aload_n 2, 1) := by decide +kernel
theorem dX1_areEndsConnected_17 : decode cX1_areEndsConnected 17 = .ok (.invokevirtual 34, 3) := by decide +kernel
theorem dX1_areEndsConnected_20 : decode cX1_areEndsConnected 20 = .ok (.iload_n 3, 1) := by decide +kernel
theorem dX1_areEndsConnected_21 : decode cX1_areEndsConnected 21 = .ok (.iand, 1) := by decide +kernel
theorem dX1_areEndsConnected_22 : decode cX1_areEndsConnected 22 = .ok (.iload_n 3, 1) := by decide +kernel
theorem dX1_areEndsConnected_23 : decode cX1_areEndsConnected 23 = .ok (.if_icmp .ne 7, 3) := by decide +kernel
theorem dX1_areEndsConnected_26 : decode cX1_areEndsConnected 26 = .ok (.iconst 1, 1) := by decide +kernel
theorem dX1_areEndsConnected_27 : decode cX1_areEndsConnected 27 = .ok (.goto 4, 3) := by decide +kernel
theorem dX1_areEndsConnected_30 : decode cX1_areEndsConnected 30 = .ok (.iconst 0, 1) := by decide +kernel
theorem dX1_areEndsConnected_31 : decode cX1_areEndsConnected 31 = .ok (.ireturn, 1) := by decide +kernel
set_option maxRecDepth 20000 in
theorem ggX1_countParts_X1_allNodes : GoodIn wsX1_countParts wsX1_allNodes := goodIn_r _ [6, 1, 13, 14, 15, 16, 17, 18] (by decide +kernel) (by decide +kernel)
set_option maxRecDepth 20000 in
theorem gX1_countParts_X1_allNodes : GoodIn wsX1_countParts (wsV RX1 41 RX1 yX1_allNodes wsX1_allNodes) := goodIn_app (goodIn_of _ (by decide +kernel)) ggX1_countParts_X1_allNodes
set_option maxRecDepth 20000 in
theorem ggX1_countParts_X1_connectedWith : GoodIn wsX1_countParts wsX1_connectedWith := goodIn_r _ [10, 1, 11, 12, 13, 14, 15, 16, 17, 18, 19, 20, 21] (by decide +kernel) (by decide +kernel)
set_option maxRecDepth 20000 in
theorem gX1_countParts_X1_connectedWith : GoodIn wsX1_countParts (wsV RX1 34 RX1 yX1_connectedWith wsX1_connectedWith) := goodIn_app (goodIn_of _ (by decide +kernel)) ggX1_countParts_X1_connectedWith
theorem dX1_countParts_0 : decode cX1_countParts 0 = .ok (.aload_n 0, 1) := by decide +kernel
theorem dX1_countParts_1 : decode cX1_countParts 1 = .ok (.invokevirtual 41, 3) := by decide +kernel
theorem dX1_countParts_4 : decode cX1_countParts 4 = .ok (.istore_n 2, 1) := by decide +kernel
theorem dX1_countParts_5 : decode cX1_countParts 5 = .ok (.iconst 0, 1) := by decide +kernel
theorem dX1_countParts_6 : decode cX1_countParts 6 = .ok (.istore_n 3, 1) := by decide +kernel
theorem dX1_countParts_7 : decode cX1_countParts 7 = .ok (.iconst 0, 1) := by decide +kernel
theorem dX1_countParts_8 : decode cX1_countParts 8 = .ok (.istore 4, 2) := by decide +kernel
theorem dX1_countParts_10 : decode cX1_countParts 10 = .ok (.iload 4, 2) := by decide +kernel
theorem dX1_countParts_12 : decode cX1_countParts 12 = .ok (.aload_n 0, 1) := by decide +kernel
theorem dX1_countParts_13 : decode cX1_countParts 13 = .ok (.getfield 15, 3) := by decide +kernel
theorem dX1_countParts_16 : decode cX1_countParts 16 = .ok (.if_icmp .ge 35, 3) := by decide +kernel
theorem dX1_countParts_19 : decode cX1_countParts 19 = .ok (.iload_n 2, 1) := by decide +kernel
theorem dX1_countParts_20 : decode cX1_countParts 20 = .ok (.iload 4, 2) := by decide +kernel
theorem dX1_countParts_22 : decode cX1_countParts 22 = .ok (.ishr, 1) := by decide +kernel
theorem dX1_countParts_23 : decode cX1_countParts 23 = .ok (.iconst 1, 1) := by decide +kernel
theorem dX1_countParts_24 : decode cX1_countParts 24 = .ok (.iand, 1) := by decide +kernel
theorem dX1_countParts_25 : decode cX1_countParts 25 = .ok (.ifCond .eq 20, 3) := by decide +kernel
theorem dX1_countParts_28 : decode cX1_countParts 28 = .ok (.iload_n 2, 1) := by decide +kernel
theorem dX1_countParts_29 : decode cX1_countParts 29 = .ok (.aload_n 0, 1) := by decide +kernel
theorem dX1_countParts_30 : decode cX1_countParts 30 = .ok (.iconst 1, 1) := by decide +kernel
theorem dX1_countParts_31 : decode cX1_countParts 31 = .ok (.iload 4, 2) := by decide +kernel
theorem dX1_countParts_33 : decode cX1_countParts 33 = .ok (.ishl, 1) := by decide +kernel
theorem dX1_countParts_34 : decode cX1_countParts 34 = .ok (.aload_n 1, 1) := by decide +kernel
theorem dX1_countParts_35 : decode cX1_countParts 35 = .ok (.invokevirtual 34, 3) := by decide +kernel
theorem dX1_countParts_38 : decode cX1_countParts 38 = .ok (.iconst (-1), 1) := by decide +kernel
theorem dX1_countParts_39 : decode cX1_countParts 39 = .ok (.ixor, 1) := by decide +kernel
theorem dX1_countParts_40 : decode cX1_countParts 40 = .ok (.iand, 1) := by decide +kernel
theorem dX1_countParts_41 : decode cX1_countParts 41 = .ok (.istore_n 2, 1) := by decide +kernel
theorem dX1_countParts_42 : decode cX1_countParts 42 = .ok (.iinc 3 1, 3) := by decide +kernel
theorem dX1_countParts_45 : decode cX1_countParts 45 = .ok (.iinc 4 1, 3) := by decide +kernel
theorem dX1_countParts_48 : decode cX1_countParts 48 = .ok (.goto (-38), 3) := by decide +kernel
theorem dX1_countParts_51 : decode cX1_countParts 51 = .ok (.iload_n 3, 1) := by decide +kernel
theorem dX1_countParts_52 : decode cX1_countParts 52 = .ok (.ireturn, 1) := by decide +kernel
theorem dX1_connectedWith_0 : decode cX1_connectedWith 0 = .ok (.iload_n 1, 1) := by decide +kernel
theorem dX1_connectedWith_1 : decode cX1_connectedWith 1 = .ok (.istore_n 3, 1) := by decide +kernel
theorem dX1_connectedWith_2 : decode cX1_connectedWith 2 = .ok (.iconst 0, 1) := by decide +kernel
theorem dX1_connectedWith_3 : decode cX1_connectedWith 3 = .ok (.istore 4, 2) := by decide +kernel
theorem dX1_connectedWith_5 : decode cX1_connectedWith 5 = .ok (.iload 4, 2) := by decide +kernel
theorem dX1_connectedWith_7 : decode cX1_connectedWith 7 = .ok (.aload_n 0, 1) := by decide +kernel
theorem dX1_connectedWith_8 : decode cX1_connectedWith 8 = .ok (.getfield 15, 3) := by decide +kernel
theorem dX1_connectedWith_11 : decode cX1_connectedWith 11 = .ok (.if_icmp .ge 89, 3) := by decide +kernel
theorem dX1_connectedWith_14 : decode cX1_connectedWith 14 = .ok (.iload_n 3, 1) := by decide +kernel
theorem dX1_connectedWith_15 : decode cX1_connectedWith 15 = .ok (.istore 5, 2) := by decide +kernel
theorem dX1_connectedWith_17 : decode cX1_connectedWith 17 = .ok (.iconst 0, 1) := by decide +kernel
theorem dX1_connectedWith_18 : decode cX1_connectedWith 18 = .ok (.istore 6, 2) := by decide +kernel
theorem dX1_connectedWith_20 : decode cX1_connectedWith 20 = .ok (.iload 6, 2) := by decide +kernel
theorem dX1_connectedWith_22 : decode cX1_connectedWith 22 = .ok (.aload_n 0, 1) := by decide +kernel
theorem dX1_connectedWith_23 : decode cX1_connectedWith 23 = .ok (.getfield 19, 3) := by decide +kernel
theorem dX1_connectedWith_26 : decode cX1_connectedWith 26 = .ok (.if_icmp .ge 59, 3) := by decide +kernel
theorem dX1_connectedWith_29 : decode cX1_connectedWith 29 = .ok (.aload_n 2, 1) := by decide +kernel
theorem dX1_connectedWith_30 : decode cX1_connectedWith 30 = .ok (.getfield 45, 3) := by decide +kernel
theorem dX1_connectedWith_33 : decode cX1_connectedWith 33 = .ok (.iload 6, 2) := by decide +kernel
theorem dX1_connectedWith_35 : decode cX1_connectedWith 35 = .ok (.ishr, 1) := by decide +kernel
theorem dX1_connectedWith_36 : decode cX1_connectedWith 36 = .ok (.iconst 1, 1) := by decide +kernel
theorem dX1_connectedWith_37 : decode cX1_connectedWith 37 = .ok (.iand, 1) := by decide +kernel
theorem dX1_connectedWith_38 : decode cX1_connectedWith 38 = .ok (.ifCond .eq 7, 3) := by decide +kernel
theorem dX1_connectedWith_41 : decode cX1_connectedWith 41 = .ok (.iconst 1, 1) := by decide +kernel
theorem dX1_connectedWith_42 : decode cX1_connectedWith 42 = .ok (.goto 4, 3) := by decide +kernel
theorem dX1_connectedWith_45 : decode cX1_connectedWith 45 = .ok (.iconst 0, 1) := by decide +kernel
theorem dX1_connectedWith_46 : decode cX1_connectedWith 46 = .ok (.istore 7, 2) := by decide +kernel
theorem dX1_connectedWith_48 : decode cX1_connectedWith 48 = .ok (.iload_n 3, 1) := by decide +kernel
theorem dX1_connectedWith_49 : decode cX1_connectedWith 49 = .ok (.iload 7, 2) := by decide +kernel
theorem dX1_connectedWith_51 : decode cX1_connectedWith 51 = .ok (.ifCond .eq 25, 3) := by decide +kernel
theorem dX1_connectedWith_54 : decode cX1_connectedWith 54 = .ok (.aload_n 0, 1) := by decide +kernel
theorem dX1_connectedWith_55 : decode cX1_connectedWith 55 = .ok (.getfield 9, 3) := by decide +kernel
theorem dX1_connectedWith_58 : decode cX1_connectedWith 58 = .ok (.iload 6, 2) := by decide +kernel
theorem dX1_connectedWith_60 : decode cX1_connectedWith 60 = .ok (.iaload, 1) := by decide +kernel
theorem dX1_connectedWith_61 : decode cX1_connectedWith 61 = .ok (.iload_n 3, 1) := by decide +kernel
theorem dX1_connectedWith_62 : decode cX1_connectedWith 62 = .ok (.iand, 1) := by decide +kernel
theorem dX1_connectedWith_63 : decode cX1_connectedWith 63 = .ok (.ifCond .eq 13, 3) := by decide +kernel
theorem dX1_connectedWith_66 : decode cX1_connectedWith 66 = .ok (.aload_n 0, 1) := by decide +kernel
theorem dX1_connectedWith_67 : decode cX1_connectedWith 67 = .ok (.getfield 9, 3) := by decide +kernel
theorem dX1_connectedWith_70 : decode cX1_connectedWith 70 = .ok (.iload 6, 2) := by decide +kernel
theorem dX1_connectedWith_72 : decode cX1_connectedWith 72 = .ok (.iaload, 1) := by decide +kernel
theorem dX1_connectedWith_73 : decode cX1_connectedWith 73 = .ok (.goto 4, 3) := by decide +kernel
theorem dX1_connectedWith_76 : decode cX1_connectedWith 76 = .ok (.iconst 0, 1) := by decide +kernel
theorem dX1_connectedWith_77 : decode cX1_connectedWith 77 = .ok (.ior, 1) := by decide +kernel
theorem dX1_connectedWith_78 : decode cX1_connectedWith 78 = .ok (.istore_n 3, 1) := by decide +kernel
theorem dX1_connectedWith_79 : decode cX1_connectedWith 79 = .ok (.iinc 6 1, 3) := by decide +kernel
theorem dX1_connectedWith_82 : decode cX1_connectedWith 82 = .ok (.goto (-62), 3) := by decide +kernel
theorem dX1_connectedWith_85 : decode cX1_connectedWith 85 = .ok (.iload_n 3, 1) := by decide +kernel
theorem dX1_connectedWith_86 : decode cX1_connectedWith 86 = .ok (.iload 5, 2) := by decide +kernel
theorem dX1_connectedWith_88 : decode cX1_connectedWith 88 = .ok (.if_icmp .ne 6, 3) := by decide +kernel
theorem dX1_connectedWith_91 : decode cX1_connectedWith 91 = .ok (.goto 9, 3) := by decide +kernel
theorem dX1_connectedWith_94 : decode cX1_connectedWith 94 = .ok (.iinc 4 1, 3) := by decide +kernel
theorem dX1_connectedWith_97 : decode cX1_connectedWith 97 = .ok (.goto (-92), 3) := by decide +kernel
theorem dX1_connectedWith_100 : decode cX1_connectedWith 100 = .ok (.iload_n 3, 1) := by decide +kernel
theorem dX1_connectedWith_101 : decode cX1_connectedWith 101 = .ok (.ireturn, 1) := by decide +kernel
theorem dX1_withNeighbours_0 : decode cX1_withNeighbours 0 = .ok (.iload_n 1, 1) := by decide +kernel
theorem dX1_withNeighbours_1 : decode cX1_withNeighbours 1 = .ok (.istore_n 2, 1) := by decide +kernel
theorem dX1_withNeighbours_2 : decode cX1_withNeighbours 2 = .ok (.iconst 0, 1) := by decide +kernel
theorem dX1_withNeighbours_3 : decode cX1_withNeighbours 3 = .ok (.istore_n 3, 1) := by decide +kernel
theorem dX1_withNeighbours_4 : decode cX1_withNeighbours 4 = .ok (.iload_n 3, 1) := by decide +kernel
theorem dX1_withNeighbours_5 : decode cX1_withNeighbours 5 = .ok (.aload_n 0, 1) := by decide +kernel
theorem dX1_withNeighbours_6 : decode cX1_withNeighbours 6 = .ok (.getfield 19, 3) := by decide +kernel
theorem dX1_withNeighbours_9 : decode cX1_withNeighbours 9 = .ok (.if_icmp .ge 33, 3) := by decide +kernel
theorem dX1_withNeighbours_12 : decode cX1_withNeighbours 12 = .ok (.iload_n 2, 1) := by decide +kernel
theorem dX1_withNeighbours_13 : decode cX1_withNeighbours 13 = .ok (.aload_n 0, 1) := by decide +kernel
theorem dX1_withNeighbours_14 : decode cX1_withNeighbours 14 = .ok (.getfield 9, 3) := by decide +kernel
theorem dX1_withNeighbours_17 : decode cX1_withNeighbours 17 = .ok (.iload_n 3, 1) := by decide +kernel
theorem dX1_withNeighbours_18 : decode cX1_withNeighbours 18 = .ok (.iaload, 1) := by decide +kernel
theorem dX1_withNeighbours_19 : decode cX1_withNeighbours 19 = .ok (.iload_n 1, 1) := by decide +kernel
theorem dX1_withNeighbours_20 : decode cX1_withNeighbours 20 = .ok (.iand, 1) := by decide +kernel
theorem dX1_withNeighbours_21 : decode cX1_withNeighbours 21 = .ok (.ifCond .eq 12, 3) := by decide +kernel
theorem dX1_withNeighbours_24 : decode cX1_withNeighbours 24 = .ok (.aload_n 0, 1) := by decide +kernel
theorem dX1_withNeighbours_25 : decode cX1_withNeighbours 25 = .ok (.getfield 9, 3) := by decide +kernel
theorem dX1_withNeighbours_28 : decode cX1_withNeighbours 28 = .ok (.iload_n 3, 1) := by decide +kernel
theorem dX1_withNeighbours_29 : decode cX1_withNeighbours 29 = .ok (.iaload, 1) := by decide +kernel
theorem dX1_withNeighbours_30 : decode cX1_withNeighbours 30 = .ok (.goto 4, 3) := by decide +kernel
theorem dX1_withNeighbours_33 : decode cX1_withNeighbours 33 = .ok (.iconst 0, 1) := by decide +kernel
theorem dX1_withNeighbours_34 : decode cX1_withNeighbours 34 = .ok (.ior, 1) := by decide +kernel
theorem dX1_withNeighbours_35 : decode cX1_withNeighbours 35 = .ok (.istore_n 2, 1) := by decide +kernel
theorem dX1_withNeighbours_36 : decode cX1_withNeighbours 36 = .ok (.iinc 3 1, 3) := by decide +kernel
theorem dX1_withNeighbours_39 : decode cX1_withNeighbours 39 = .ok (.goto (-35), 3) := by decide +kernel
theorem dX1_withNeighbours_42 : decode cX1_withNeighbours 42 = .ok (.iload_n 2, 1) := by decide +kernel
theorem dX1_withNeighbours_43 : decode cX1_withNeighbours 43 = .ok (.ireturn, 1) := by decide +kernel
theorem dX2_init_0 : decode cX2_init 0 = .ok (.aload_n 0, 1) := by decide +kernel
theorem dX2_init_1 : decode cX2_init 1 = .ok (.invokespecial 3, 3) := by decide +kernel
theorem dX2_init_4 : decode cX2_init 4 = .ok (.aload_n 0, 1) := by decide +kernel
theorem dX2_init_5 : decode cX2_init 5 = .ok (.bipush 10, 2) := by decide +kernel
theorem dX2_init_7 : decode cX2_init 7 = .ok (.newarray .int, 2) := by decide +kernel
theorem dX2_init_9 : decode cX2_init 9 = .ok (.putfield 9, 3) := by decide +kernel
theorem dX2_init_12 : decode cX2_init 12 = .ok (.return_, 1) := by decide +kernel
theorem dX2_given_0 : decode cX2_given 0 = .ok (.aload_n 0, 1) := by decide +kernel
theorem dX2_given_1 : decode cX2_given 1 = .ok (.getfield 15, 3) := by decide +kernel
theorem dX2_given_4 : decode cX2_given 4 = .ok (.ireturn, 1) := by decide +kernel
theorem dX2_give_0 : decode cX2_give 0 = .ok (.aload_n 0, 1) := by decide +kernel
theorem dX2_give_1 : decode cX2_give 1 = .ok (.getfield 9, 3) := by decide +kernel
theorem dX2_give_4 : decode cX2_give 4 = .ok (.aload_n 0, 1) := by decide +kernel
theorem dX2_give_5 : decode cX2_give 5 = .ok (.getfield 15, 3) := by decide +kernel
theorem dX2_give_8 : decode cX2_give 8 = .ok (.iload_n 1, 1) := by decide +kernel
theorem dX2_give_9 : decode cX2_give 9 = .ok (.iastore, 1) := by decide +kernel
theorem dX2_give_10 : decode cX2_give 10 = .ok (.aload_n 0, 1) := by decide +kernel
theorem dX2_give_11 : decode cX2_give 11 = .ok (.dup, 1) := by decide +kernel
theorem dX2_give_12 : decode cX2_give 12 = .ok (.getfield 15, 3) := by decide +kernel
theorem dX2_give_15 : decode cX2_give 15 = .ok (.dup_x1, 1) := by decide +kernel
theorem dX2_give_16 : decode cX2_give 16 = .ok (.iconst 1, 1) := by decide +kernel
theorem dX2_give_17 : decode cX2_give 17 = .ok (.iadd, 1) := by decide +kernel
theorem dX2_give_18 : decode cX2_give 18 = .ok (.putfield 15, 3) := by decide +kernel
theorem dX2_give_21 : decode cX2_give 21 = .ok (.ireturn, 1) := by decide +kernel
theorem dX2_isHeld_0 : decode cX2_isHeld 0 = .ok (.aload_n 0, 1) := by decide +kernel
theorem dX2_isHeld_1 : decode cX2_isHeld 1 = .ok (.getfield 9, 3) := by decide +kernel
theorem dX2_isHeld_4 : decode cX2_isHeld 4 = .ok (.iload_n 1, 1) := by decide +kernel
theorem dX2_isHeld_5 : decode cX2_isHeld 5 = .ok (.iaload, 1) := by decide +kernel
theorem dX2_isHeld_6 : decode cX2_isHeld 6 = .ok (.ifCond .eq 7, 3) := by decide +kernel
theorem dX2_isHeld_9 : decode cX2_isHeld 9 = .ok (.iconst 1, 1) := by decide +kernel
theorem dX2_isHeld_10 : decode cX2_isHeld 10 = .ok (.goto 4, 3) := by decide +kernel
theorem dX2_isHeld_13 : decode cX2_isHeld 13 = .ok (.iconst 0, 1) := by decide +kernel
theorem dX2_isHeld_14 : decode cX2_isHeld 14 = .ok (.ireturn, 1) := by decide +kernel
theorem dX2_release_0 : decode cX2_release 0 = .ok (.aload_n 0, 1) := by decide +kernel
theorem dX2_release_1 : decode cX2_release 1 = .ok (.getfield 9, 3) := by decide +kernel
theorem dX2_release_4 : decode cX2_release 4 = .ok (.iload_n 1, 1) := by decide +kernel
theorem dX2_release_5 : decode cX2_release 5 = .ok (.iconst 0, 1) := by decide +kernel
theorem dX2_release_6 : decode cX2_release 6 = .ok (.iastore, 1) := by decide +kernel
theorem dX2_release_7 : decode cX2_release 7 = .ok (.return_, 1) := by decide +kernel
set_option maxRecDepth 20000 in
theorem ggX2_countHeld_X2_isHeld : GoodIn wsX2_countHeld wsX2_isHeld := goodIn_r _ [6, 7, 8, 9] (by decide +kernel) (by decide +kernel)
set_option maxRecDepth 20000 in
theorem gX2_countHeld_X2_isHeld : GoodIn wsX2_countHeld (wsV RX2 19 RX2 yX2_isHeld wsX2_isHeld) := goodIn_app (goodIn_of _ (by decide +kernel)) ggX2_countHeld_X2_isHeld
theorem dX2_countHeld_0 : decode cX2_countHeld 0 = .ok (.iconst 0, 1) := by decide +kernel
theorem dX2_countHeld_1 : decode cX2_countHeld 1 = .ok (.istore_n 1, 1) := by decide +kernel
theorem dX2_countHeld_2 : decode cX2_countHeld 2 = .ok (.iconst 0, 1) := by decide +kernel
theorem dX2_countHeld_3 : decode cX2_countHeld 3 = .ok (.istore_n 2, 1) := by decide +kernel
theorem dX2_countHeld_4 : decode cX2_countHeld 4 = .ok (.iload_n 2, 1) := by decide +kernel
theorem dX2_countHeld_5 : decode cX2_countHeld 5 = .ok (.aload_n 0, 1) := by decide +kernel
theorem dX2_countHeld_6 : decode cX2_countHeld 6 = .ok (.getfield 15, 3) := by decide +kernel
theorem dX2_countHeld_9 : decode cX2_countHeld 9 = .ok (.if_icmp .ge 25, 3) := by decide +kernel
theorem dX2_countHeld_12 : decode cX2_countHeld 12 = .ok (.iload_n 1, 1) := by decide +kernel
theorem dX2_countHeld_13 : decode cX2_countHeld 13 = .ok (.aload_n 0, 1) := by decide +kernel
theorem dX2_countHeld_14 : decode cX2_countHeld 14 = .ok (.iload_n 2, 1) := by decide +kernel
theorem dX2_countHeld_15 : decode cX2_countHeld 15 = .ok (.invokevirtual 19, 3) := by decide +kernel
theorem dX2_countHeld_18 : decode cX2_countHeld 18 = .ok (.ifCond .eq 7, 3) := by decide +kernel
theorem dX2_countHeld_21 : decode cX2_countHeld 21 = .ok (.iconst 1, 1) := by decide +kernel
theorem dX2_countHeld_22 : decode cX2_countHeld 22 = .ok (.goto 4, 3) := by decide +kernel
theorem dX2_countHeld_25 : decode cX2_countHeld 25 = .ok (.iconst 0, 1) := by decide +kernel
theorem dX2_countHeld_26 : decode cX2_countHeld 26 = .ok (.iadd, 1) := by decide +kernel
theorem dX2_countHeld_27 : decode cX2_countHeld 27 = .ok (.istore_n 1, 1) := by decide +kernel
theorem dX2_countHeld_28 : decode cX2_countHeld 28 = .ok (.iinc 2 1, 3) := by decide +kernel
theorem dX2_countHeld_31 : decode cX2_countHeld 31 = .ok (.goto (-27), 3) := by decide +kernel
theorem dX2_countHeld_34 : decode cX2_countHeld 34 = .ok (.iload_n 1, 1) := by decide +kernel
theorem dX2_countHeld_35 : decode cX2_countHeld 35 = .ok (.ireturn, 1) := by decide +kernel
theorem dX2_heldNodes_0 : decode cX2_heldNodes 0 = .ok (.iconst 0, 1) := by decide +kernel
theorem dX2_heldNodes_1 : decode cX2_heldNodes 1 = .ok (.istore_n 1, 1) := by decide +kernel
theorem dX2_heldNodes_2 : decode cX2_heldNodes 2 = .ok (.iconst 0, 1) := by decide +kernel
theorem dX2_heldNodes_3 : decode cX2_heldNodes 3 = .ok (.istore_n 2, 1) := by decide +kernel
theorem dX2_heldNodes_4 : decode cX2_heldNodes 4 = .ok (.iload_n 2, 1) := by decide +kernel
theorem dX2_heldNodes_5 : decode cX2_heldNodes 5 = .ok (.aload_n 0, 1) := by decide +kernel
theorem dX2_heldNodes_6 : decode cX2_heldNodes 6 = .ok (.getfield 15, 3) := by decide +kernel
theorem dX2_heldNodes_9 : decode cX2_heldNodes 9 = .ok (.if_icmp .ge 18, 3) := by decide +kernel
theorem dX2_heldNodes_12 : decode cX2_heldNodes 12 = .ok (.iload_n 1, 1) := by decide +kernel
theorem dX2_heldNodes_13 : decode cX2_heldNodes 13 = .ok (.aload_n 0, 1) := by decide +kernel
theorem dX2_heldNodes_14 : decode cX2_heldNodes 14 = .ok (.getfield 9, 3) := by decide +kernel
theorem dX2_heldNodes_17 : decode cX2_heldNodes 17 = .ok (.iload_n 2, 1) := by decide +kernel
theorem dX2_heldNodes_18 : decode cX2_heldNodes 18 = .ok (.iaload, 1) := by decide +kernel
theorem dX2_heldNodes_19 : decode cX2_heldNodes 19 = .ok (.ior, 1) := by decide +kernel
theorem dX2_heldNodes_20 : decode cX2_heldNodes 20 = .ok (.istore_n 1, 1) := by decide +kernel
theorem dX2_heldNodes_21 : decode cX2_heldNodes 21 = .ok (.iinc 2 1, 3) := by decide +kernel
theorem dX2_heldNodes_24 : decode cX2_heldNodes 24 = .ok (.goto (-20), 3) := by decide +kernel
theorem dX2_heldNodes_27 : decode cX2_heldNodes 27 = .ok (.iload_n 1, 1) := by decide +kernel
theorem dX2_heldNodes_28 : decode cX2_heldNodes 28 = .ok (.ireturn, 1) := by decide +kernel
theorem dX3_init_0 : decode cX3_init 0 = .ok (.aload_n 0, 1) := by decide +kernel
theorem dX3_init_1 : decode cX3_init 1 = .ok (.invokespecial 3, 3) := by decide +kernel
theorem dX3_init_4 : decode cX3_init 4 = .ok (.return_, 1) := by decide +kernel
theorem dX3_copyFrom_0 : decode cX3_copyFrom 0 = .ok (.aload_n 0, 1) := by decide +kernel
theorem dX3_copyFrom_1 : decode cX3_copyFrom 1 = .ok (.aload_n 1, 1) := by decide +kernel
theorem dX3_copyFrom_2 : decode cX3_copyFrom 2 = .ok (.getfield 9, 3) := by decide +kernel
theorem dX3_copyFrom_5 : decode cX3_copyFrom 5 = .ok (.putfield 9, 3) := by decide +kernel
theorem dX3_copyFrom_8 : decode cX3_copyFrom 8 = .ok (.aload_n 0, 1) := by decide +kernel
theorem dX3_copyFrom_9 : decode cX3_copyFrom 9 = .ok (.aload_n 1, 1) := by decide +kernel
theorem dX3_copyFrom_10 : decode cX3_copyFrom 10 = .ok (.getfield 15, 3) := by decide +kernel
theorem dX3_copyFrom_13 : decode cX3_copyFrom 13 = .ok (.putfield 15, 3) := by decide +kernel
theorem dX3_copyFrom_16 : decode cX3_copyFrom 16 = .ok (.aload_n 0, 1) := by decide +kernel
theorem dX3_copyFrom_17 : decode cX3_copyFrom 17 = .ok (.aload_n 1, 1) := by decide +kernel
theorem dX3_copyFrom_18 : decode cX3_copyFrom 18 = .ok (.getfield 18, 3) := by decide +kernel
theorem dX3_copyFrom_21 : decode cX3_copyFrom 21 = .ok (.putfield 18, 3) := by decide +kernel
theorem dX3_copyFrom_24 : decode cX3_copyFrom 24 = .ok (.return_, 1) := by decide +kernel
theorem dX3_flip_0 : decode cX3_flip 0 = .ok (.iconst 1, 1) := by decide +kernel
theorem dX3_flip_1 : decode cX3_flip 1 = .ok (.iload_n 2, 1) := by decide +kernel
theorem dX3_flip_2 : decode cX3_flip 2 = .ok (.ishl, 1) := by decide +kernel
theorem dX3_flip_3 : decode cX3_flip 3 = .ok (.istore_n 3, 1) := by decide +kernel
theorem dX3_flip_4 : decode cX3_flip 4 = .ok (.iload_n 1, 1) := by decide +kernel
theorem dX3_flip_5 : decode cX3_flip 5 = .ok (.tableswitch 57 0 3 #[31, 31, 44, 44], 31) := by decide +kernel
theorem dX3_flip_36 : decode cX3_flip 36 = .ok (.aload_n 0, 1) := by decide +kernel
theorem dX3_flip_37 : decode cX3_flip 37 = .ok (.dup, 1) := by decide +kernel
theorem dX3_flip_38 : decode cX3_flip 38 = .ok (.getfield 9, 3) := by decide +kernel
theorem dX3_flip_41 : decode cX3_flip 41 = .ok (.iload_n 3, 1) := by decide +kernel
theorem dX3_flip_42 : decode cX3_flip 42 = .ok (.ixor, 1) := by decide +kernel
theorem dX3_flip_43 : decode cX3_flip 43 = .ok (.putfield 9, 3) := by decide +kernel
theorem dX3_flip_46 : decode cX3_flip 46 = .ok (.goto 26, 3) := by decide +kernel
theorem dX3_flip_49 : decode cX3_flip 49 = .ok (.aload_n 0, 1) := by decide +kernel
theorem dX3_flip_50 : decode cX3_flip 50 = .ok (.dup, 1) := by decide +kernel
theorem dX3_flip_51 : decode cX3_flip 51 = .ok (.getfield 15, 3) := by decide +kernel
theorem dX3_flip_54 : decode cX3_flip 54 = .ok (.iload_n 3, 1) := by decide +kernel
theorem dX3_flip_55 : decode cX3_flip 55 = .ok (.ixor, 1) := by decide +kernel
theorem dX3_flip_56 : decode cX3_flip 56 = .ok (.putfield 15, 3) := by decide +kernel
theorem dX3_flip_59 : decode cX3_flip 59 = .ok (.goto 13, 3) := by decide +kernel
theorem dX3_flip_62 : decode cX3_flip 62 = .ok (.aload_n 0, 1) := by decide +kernel
theorem dX3_flip_63 : decode cX3_flip 63 = .ok (.dup, 1) := by decide +kernel
theorem dX3_flip_64 : decode cX3_flip 64 = .ok (.getfield 18, 3) := by decide +kernel
theorem dX3_flip_67 : decode cX3_flip 67 = .ok (.iload_n 3, 1) := by decide +kernel
theorem dX3_flip_68 : decode cX3_flip 68 = .ok (.ixor, 1) := by decide +kernel
theorem dX3_flip_69 : decode cX3_flip 69 = .ok (.putfield 18, 3) := by decide +kernel
theorem dX3_flip_72 : decode cX3_flip 72 = .ok (.return_, 1) := by decide +kernel
theorem dX3_isOn_0 : decode cX3_isOn 0 = .ok (.iload_n 1, 1) := by decide +kernel
theorem dX3_isOn_1 : decode cX3_isOn 1 = .ok (.tableswitch 65 0 3 #[31, 31, 48, 48], 31) := by decide +kernel
theorem dX3_isOn_32 : decode cX3_isOn 32 = .ok (.aload_n 0, 1) := by decide +kernel
theorem dX3_isOn_33 : decode cX3_isOn 33 = .ok (.getfield 9, 3) := by decide +kernel
theorem dX3_isOn_36 : decode cX3_isOn 36 = .ok (.iload_n 2, 1) := by decide +kernel
theorem dX3_isOn_37 : decode cX3_isOn 37 = .ok (.ishr, 1) := by decide +kernel
theorem dX3_isOn_38 : decode cX3_isOn 38 = .ok (.iconst 1, 1) := by decide +kernel
theorem dX3_isOn_39 : decode cX3_isOn 39 = .ok (.iand, 1) := by decide +kernel
theorem dX3_isOn_40 : decode cX3_isOn 40 = .ok (.ifCond .eq 7, 3) := by decide +kernel
theorem dX3_isOn_43 : decode cX3_isOn 43 = .ok (.iconst 1, 1) := by decide +kernel
theorem dX3_isOn_44 : decode cX3_isOn 44 = .ok (.goto 4, 3) := by decide +kernel
theorem dX3_isOn_47 : decode cX3_isOn 47 = .ok (.iconst 0, 1) := by decide +kernel
theorem dX3_isOn_48 : decode cX3_isOn 48 = .ok (.ireturn, 1) := by decide +kernel
theorem dX3_isOn_49 : decode cX3_isOn 49 = .ok (.aload_n 0, 1) := by decide +kernel
theorem dX3_isOn_50 : decode cX3_isOn 50 = .ok (.getfield 15, 3) := by decide +kernel
theorem dX3_isOn_53 : decode cX3_isOn 53 = .ok (.iload_n 2, 1) := by decide +kernel
theorem dX3_isOn_54 : decode cX3_isOn 54 = .ok (.ishr, 1) := by decide +kernel
theorem dX3_isOn_55 : decode cX3_isOn 55 = .ok (.iconst 1, 1) := by decide +kernel
theorem dX3_isOn_56 : decode cX3_isOn 56 = .ok (.iand, 1) := by decide +kernel
theorem dX3_isOn_57 : decode cX3_isOn 57 = .ok (.ifCond .eq 7, 3) := by decide +kernel
theorem dX3_isOn_60 : decode cX3_isOn 60 = .ok (.iconst 1, 1) := by decide +kernel
theorem dX3_isOn_61 : decode cX3_isOn 61 = .ok (.goto 4, 3) := by decide +kernel
theorem dX3_isOn_64 : decode cX3_isOn 64 = .ok (.iconst 0, 1) := by decide +kernel
theorem dX3_isOn_65 : decode cX3_isOn 65 = .ok (.ireturn, 1) := by decide +kernel
theorem dX3_isOn_66 : decode cX3_isOn 66 = .ok (.aload_n 0, 1) := by decide +kernel
theorem dX3_isOn_67 : decode cX3_isOn 67 = .ok (.getfield 18, 3) := by decide +kernel
theorem dX3_isOn_70 : decode cX3_isOn 70 = .ok (.iload_n 2, 1) := by decide +kernel
theorem dX3_isOn_71 : decode cX3_isOn 71 = .ok (.ishr, 1) := by decide +kernel
theorem dX3_isOn_72 : decode cX3_isOn 72 = .ok (.iconst 1, 1) := by decide +kernel
theorem dX3_isOn_73 : decode cX3_isOn 73 = .ok (.iand, 1) := by decide +kernel
theorem dX3_isOn_74 : decode cX3_isOn 74 = .ok (.ifCond .eq 7, 3) := by decide +kernel
theorem dX3_isOn_77 : decode cX3_isOn 77 = .ok (.iconst 1, 1) := by decide +kernel
theorem dX3_isOn_78 : decode cX3_isOn 78 = .ok (.goto 4, 3) := by decide +kernel
theorem dX3_isOn_81 : decode cX3_isOn 81 = .ok (.iconst 0, 1) := by decide +kernel
theorem dX3_isOn_82 : decode cX3_isOn 82 = .ok (.ireturn, 1) := by decide +kernel
set_option maxRecDepth 20000 in
theorem ggX4_init_X1_init : GoodIn wsX4_init wsX1_init := goodIn_r _ [24, 25, 2, 3, 26, 27, 40, 41, 42, 43, 44, 45] (by decide +kernel) (by decide +kernel)
set_option maxRecDepth 20000 in
theorem gX4_init_X1_init_n9 : GoodIn wsX4_init (wsX1_init) := ggX4_init_X1_init
set_option maxRecDepth 20000 in
theorem ggX4_init_X3_init : GoodIn wsX4_init wsX3_init := goodIn_r _ [29, 30, 2, 3] (by decide +kernel) (by decide +kernel)
set_option maxRecDepth 20000 in
theorem gX4_init_X3_init_n18 : GoodIn wsX4_init (wsX3_init) := ggX4_init_X3_init
set_option maxRecDepth 20000 in
theorem ggX4_init_X0_init : GoodIn wsX4_init wsX0_init := goodIn_r _ [33, 34, 2, 3, 26, 35, 56, 57] (by decide +kernel) (by decide +kernel)
set_option maxRecDepth 20000 in
theorem gX4_init_X0_init : GoodIn wsX4_init (wsX0_init) := ggX4_init_X0_init
set_option maxRecDepth 20000 in
theorem ggX4_init_X2_init : GoodIn wsX4_init wsX2_init := goodIn_r _ [37, 38, 2, 3, 26, 39, 58, 59] (by decide +kernel) (by decide +kernel)
set_option maxRecDepth 20000 in
theorem gX4_init_X2_init_n37 : GoodIn wsX4_init (wsX2_init) := ggX4_init_X2_init
end
section
theorem dX4_init_0 : decode cX4_init 0 = .ok (.aload_n 0, 1) := by decide +kernel
theorem dX4_init_1 : decode cX4_init 1 = .ok (.invokespecial 1, 3) := by decide +kernel
theorem dX4_init_4 : decode cX4_init 4 = .ok (.aload_n 0, 1) := by decide +kernel
theorem dX4_init_5 : decode cX4_init 5 = .ok (.new 7, 3) := by decide +kernel
theorem dX4_init_8 : decode cX4_init 8 = .ok (.dup, 1) := by decide +kernel
theorem dX4_init_9 : decode cX4_init 9 = .ok (.invokespecial 9, 3) := by decide +kernel
theorem dX4_init_12 : decode cX4_init 12 = .ok (.putfield 10, 3) := by decide +kernel
theorem dX4_init_15 : decode cX4_init 15 = .ok (.aload_n 0, 1) := by decide +kernel
theorem dX4_init_16 : decode cX4_init 16 = .ok (.new 16, 3) := by decide +kernel
theorem dX4_init_19 : decode cX4_init 19 = .ok (.dup, 1) := by decide +kernel
theorem dX4_init_20 : decode cX4_init 20 = .ok (.invokespecial 18, 3) := by decide +kernel
theorem dX4_init_23 : decode cX4_init 23 = .ok (.putfield 19, 3) := by decide +kernel
theorem dX4_init_26 : decode cX4_init 26 = .ok (.aload_n 0, 1) := by decide +kernel
theorem dX4_init_27 : decode cX4_init 27 = .ok (.new 23, 3) := by decide +kernel
theorem dX4_init_30 : decode cX4_init 30 = .ok (.dup, 1) := by decide +kernel
theorem dX4_init_31 : decode cX4_init 31 = .ok (.sipush 200, 3) := by decide +kernel
theorem dX4_init_34 : decode cX4_init 34 = .ok (.invokespecial 25, 3) := by decide +kernel
theorem dX4_init_37 : decode cX4_init 37 = .ok (.putfield 28, 3) := by decide +kernel
theorem dX4_init_40 : decode cX4_init 40 = .ok (.aload_n 0, 1) := by decide +kernel
theorem dX4_init_41 : decode cX4_init 41 = .ok (.new 23, 3) := by decide +kernel
theorem dX4_init_44 : decode cX4_init 44 = .ok (.dup, 1) := by decide +kernel
theorem dX4_init_45 : decode cX4_init 45 = .ok (.bipush 30, 2) := by decide +kernel
theorem dX4_init_47 : decode cX4_init 47 = .ok (.invokespecial 25, 3) := by decide +kernel
theorem dX4_init_50 : decode cX4_init 50 = .ok (.putfield 32, 3) := by decide +kernel
theorem dX4_init_53 : decode cX4_init 53 = .ok (.aload_n 0, 1) := by decide +kernel
theorem dX4_init_54 : decode cX4_init 54 = .ok (.new 35, 3) := by decide +kernel
theorem dX4_init_57 : decode cX4_init 57 = .ok (.dup, 1) := by decide +kernel
theorem dX4_init_58 : decode cX4_init 58 = .ok (.invokespecial 37, 3) := by decide +kernel
theorem dX4_init_61 : decode cX4_init 61 = .ok (.putfield 38, 3) := by decide +kernel
theorem dX4_init_64 : decode cX4_init 64 = .ok (.aload_n 0, 1) := by decide +kernel
theorem dX4_init_65 : decode cX4_init 65 = .ok (.new 16, 3) := by decide +kernel
theorem dX4_init_68 : decode cX4_init 68 = .ok (.dup, 1) := by decide +kernel
theorem dX4_init_69 : decode cX4_init 69 = .ok (.invokespecial 18, 3) := by decide +kernel
theorem dX4_init_72 : decode cX4_init 72 = .ok (.putfield 42, 3) := by decide +kernel
theorem dX4_init_75 : decode cX4_init 75 = .ok (.aload_n 0, 1) := by decide +kernel
theorem dX4_init_76 : decode cX4_init 76 = .ok (.new 16, 3) := by decide +kernel
theorem dX4_init_79 : decode cX4_init 79 = .ok (.dup, 1) := by decide +kernel
theorem dX4_init_80 : decode cX4_init 80 = .ok (.invokespecial 18, 3) := by decide +kernel
theorem dX4_init_83 : decode cX4_init 83 = .ok (.putfield 45, 3) := by decide +kernel
theorem dX4_init_86 : decode cX4_init 86 = .ok (.return_, 1) := by decide +kernel
set_option maxRecDepth 20000 in
theorem ggX4_addNode_X1_nodeCount : GoodIn wsX4_addNode wsX1_nodeCount := goodIn_r _ [8, 9, 23, 24, 25, 26, 27, 28] (by decide +kernel) (by decide +kernel)
set_option maxRecDepth 20000 in
theorem gX4_addNode_X1_nodeCount : GoodIn wsX4_addNode (wsV RX4 48 RX1 yX1_nodeCount wsX1_nodeCount) := goodIn_app (goodIn_of _ (by decide +kernel)) ggX4_addNode_X1_nodeCount
set_option maxRecDepth 20000 in
theorem ggX4_addNode_X1_appendNode : GoodIn wsX4_addNode wsX1_appendNode := goodIn_r _ [13, 9, 14, 15, 23, 24, 25, 26, 27, 28] (by decide +kernel) (by decide +kernel)
set_option maxRecDepth 20000 in
theorem gX4_addNode_X1_appendNode : GoodIn wsX4_addNode (wsV RX4 59 RX1 yX1_appendNode wsX1_appendNode) := goodIn_app (goodIn_of _ (by decide +kernel)) ggX4_addNode_X1_appendNode
theorem dX4_addNode_0 : decode cX4_addNode 0 = .ok (.aload_n 0, 1) := by decide +kernel
theorem dX4_addNode_1 : decode cX4_addNode 1 = .ok (.getfield 10, 3) := by decide +kernel
theorem dX4_addNode_4 : decode cX4_addNode 4 = .ok (.invokevirtual 48, 3) := by decide +kernel
theorem dX4_addNode_7 : decode cX4_addNode 7 = .ok (.bipush 16, 2) := by decide +kernel
theorem dX4_addNode_9 : decode cX4_addNode 9 = .ok (.if_icmp .lt 13, 3) := by decide +kernel
theorem dX4_addNode_12 : decode cX4_addNode 12 = .ok (.new 52, 3) := by decide +kernel
theorem dX4_addNode_15 : decode cX4_addNode 15 = .ok (.dup, 1) := by decide +kernel
theorem dX4_addNode_16 : decode cX4_addNode 16 = .ok (.ldc 54, 2) := by decide +kernel
theorem dX4_addNode_18 : decode cX4_addNode 18 = .ok (.invokespecial 56, 3) := by decide +kernel
theorem dX4_addNode_21 : decode cX4_addNode 21 = .ok (.athrow, 1) := by decide +kernel
theorem dX4_addNode_22 : decode cX4_addNode 22 = .ok (.aload_n 0, 1) := by decide +kernel
theorem dX4_addNode_23 : decode cX4_addNode 23 = .ok (.getfield 10, 3) := by decide +kernel
theorem dX4_addNode_26 : decode cX4_addNode 26 = .ok (.iload_n 1, 1) := by decide +kernel
theorem dX4_addNode_27 : decode cX4_addNode 27 = .ok (.iload_n 2, 1) := by decide +kernel
theorem dX4_addNode_28 : decode cX4_addNode 28 = .ok (.invokevirtual 59, 3) := by decide +kernel
theorem dX4_addNode_31 : decode cX4_addNode 31 = .ok (.ireturn, 1) := by decide +kernel
set_option maxRecDepth 20000 in
theorem ggX4_addSwitch_X4_requireNode : GoodIn wsX4_addSwitch wsX4_requireNode := goodIn_ca (goodIn_r _ [10, 11, 12, 5, 13, 14, 15, 16, 17, 18, 30, 31, 32, 33, 34, 35, 36, 37, 38, 39, 40, 41, 42] (by decide +kernel) (by decide +kernel)) (goodIn_sub (fun _ h => List.mem_cons_of_mem _ (List.mem_append_right _ h)) (by decide +kernel))
set_option maxRecDepth 20000 in
theorem gX4_addSwitch_X4_requireNode : GoodIn wsX4_addSwitch (wsV RX4 63 RX4 yX4_requireNode wsX4_requireNode) := goodIn_app (goodIn_of _ (by decide +kernel)) ggX4_addSwitch_X4_requireNode
set_option maxRecDepth 20000 in
theorem ggX4_addSwitch_X1_switchCount : GoodIn wsX4_addSwitch wsX1_switchCount := goodIn_r _ [22, 23, 37, 38, 39, 40, 41, 42] (by decide +kernel) (by decide +kernel)
set_option maxRecDepth 20000 in
theorem gX4_addSwitch_X1_switchCount : GoodIn wsX4_addSwitch (wsV RX4 71 RX1 yX1_switchCount wsX1_switchCount) := goodIn_app (goodIn_of _ (by decide +kernel)) ggX4_addSwitch_X1_switchCount
set_option maxRecDepth 20000 in
theorem ggX4_addSwitch_X1_appendSwitch : GoodIn wsX4_addSwitch wsX1_appendSwitch := goodIn_r _ [27, 28, 23, 29, 37, 38, 39, 40, 41, 42] (by decide +kernel) (by decide +kernel)
set_option maxRecDepth 20000 in
theorem gX4_addSwitch_X1_appendSwitch : GoodIn wsX4_addSwitch (wsV RX4 76 RX1 yX1_appendSwitch wsX1_appendSwitch) := goodIn_app (goodIn_of _ (by decide +kernel)) ggX4_addSwitch_X1_appendSwitch
theorem dX4_addSwitch_0 : decode cX4_addSwitch 0 = .ok (.aload_n 0, 1) := by decide +kernel
theorem dX4_addSwitch_1 : decode cX4_addSwitch 1 = .ok (.iload_n 1, 1) := by decide +kernel
theorem dX4_addSwitch_2 : decode cX4_addSwitch 2 = .ok (.invokevirtual 63, 3) := by decide +kernel
theorem dX4_addSwitch_5 : decode cX4_addSwitch 5 = .ok (.aload_n 0, 1) := by decide +kernel
theorem dX4_addSwitch_6 : decode cX4_addSwitch 6 = .ok (.iload_n 2, 1) := by decide +kernel
theorem dX4_addSwitch_7 : decode cX4_addSwitch 7 = .ok (.invokevirtual 63, 3) := by decide +kernel
theorem dX4_addSwitch_10 : decode cX4_addSwitch 10 = .ok (.iload_n 1, 1) := by decide +kernel
theorem dX4_addSwitch_11 : decode cX4_addSwitch 11 = .ok (.iload_n 2, 1) := by decide +kernel
theorem dX4_addSwitch_12 : decode cX4_addSwitch 12 = .ok (.if_icmp .ne 13, 3) := by decide +kernel
theorem dX4_addSwitch_15 : decode cX4_addSwitch 15 = .ok (.new 66, 3) := by decide +kernel
theorem dX4_addSwitch_18 : decode cX4_addSwitch 18 = .ok (.dup, 1) := by decide +kernel
theorem dX4_addSwitch_19 : decode cX4_addSwitch 19 = .ok (.ldc 68, 2) := by decide +kernel
theorem dX4_addSwitch_21 : decode cX4_addSwitch 21 = .ok (.invokespecial 70, 3) := by decide +kernel
theorem dX4_addSwitch_24 : decode cX4_addSwitch 24 = .ok (.athrow, 1) := by decide +kernel
theorem dX4_addSwitch_25 : decode cX4_addSwitch 25 = .ok (.aload_n 0, 1) := by decide +kernel
theorem dX4_addSwitch_26 : decode cX4_addSwitch 26 = .ok (.getfield 10, 3) := by decide +kernel
theorem dX4_addSwitch_29 : decode cX4_addSwitch 29 = .ok (.invokevirtual 71, 3) := by decide +kernel
theorem dX4_addSwitch_32 : decode cX4_addSwitch 32 = .ok (.bipush 24, 2) := by decide +kernel
theorem dX4_addSwitch_34 : decode cX4_addSwitch 34 = .ok (.if_icmp .lt 13, 3) := by decide +kernel
theorem dX4_addSwitch_37 : decode cX4_addSwitch 37 = .ok (.new 52, 3) := by decide +kernel
theorem dX4_addSwitch_40 : decode cX4_addSwitch 40 = .ok (.dup, 1) := by decide +kernel
theorem dX4_addSwitch_41 : decode cX4_addSwitch 41 = .ok (.ldc 74, 2) := by decide +kernel
theorem dX4_addSwitch_43 : decode cX4_addSwitch 43 = .ok (.invokespecial 56, 3) := by decide +kernel
theorem dX4_addSwitch_46 : decode cX4_addSwitch 46 = .ok (.athrow, 1) := by decide +kernel
theorem dX4_addSwitch_47 : decode cX4_addSwitch 47 = .ok (.aload_n 0, 1) := by decide +kernel
theorem dX4_addSwitch_48 : decode cX4_addSwitch 48 = .ok (.getfield 10, 3) := by decide +kernel
theorem dX4_addSwitch_51 : decode cX4_addSwitch 51 = .ok (.iload_n 1, 1) := by decide +kernel
theorem dX4_addSwitch_52 : decode cX4_addSwitch 52 = .ok (.iload_n 2, 1) := by decide +kernel
theorem dX4_addSwitch_53 : decode cX4_addSwitch 53 = .ok (.iload_n 3, 1) := by decide +kernel
theorem dX4_addSwitch_54 : decode cX4_addSwitch 54 = .ok (.invokevirtual 76, 3) := by decide +kernel
theorem dX4_addSwitch_57 : decode cX4_addSwitch 57 = .ok (.ireturn, 1) := by decide +kernel
set_option maxRecDepth 20000 in
theorem ggX4_nodes_X1_nodeCount : GoodIn wsX4_nodes wsX1_nodeCount := goodIn_r _ [6, 7, 15, 16, 17, 18, 19, 20] (by decide +kernel) (by decide +kernel)
set_option maxRecDepth 20000 in
theorem gX4_nodes_X1_nodeCount : GoodIn wsX4_nodes (wsV RX4 48 RX1 yX1_nodeCount wsX1_nodeCount) := goodIn_app (goodIn_of _ (by decide +kernel)) ggX4_nodes_X1_nodeCount
theorem dX4_nodes_0 : decode cX4_nodes 0 = .ok (.aload_n 0, 1) := by decide +kernel
theorem dX4_nodes_1 : decode cX4_nodes 1 = .ok (.getfield 10, 3) := by decide +kernel
theorem dX4_nodes_4 : decode cX4_nodes 4 = .ok (.invokevirtual 48, 3) := by decide +kernel
theorem dX4_nodes_7 : decode cX4_nodes 7 = .ok (.ireturn, 1) := by decide +kernel
set_option maxRecDepth 20000 in
theorem ggX4_switches_X1_switchCount : GoodIn wsX4_switches wsX1_switchCount := goodIn_r _ [6, 7, 15, 16, 17, 18, 19, 20] (by decide +kernel) (by decide +kernel)
set_option maxRecDepth 20000 in
theorem gX4_switches_X1_switchCount : GoodIn wsX4_switches (wsV RX4 71 RX1 yX1_switchCount wsX1_switchCount) := goodIn_app (goodIn_of _ (by decide +kernel)) ggX4_switches_X1_switchCount
theorem dX4_switches_0 : decode cX4_switches 0 = .ok (.aload_n 0, 1) := by decide +kernel
theorem dX4_switches_1 : decode cX4_switches 1 = .ok (.getfield 10, 3) := by decide +kernel
theorem dX4_switches_4 : decode cX4_switches 4 = .ok (.invokevirtual 71, 3) := by decide +kernel
theorem dX4_switches_7 : decode cX4_switches 7 = .ok (.ireturn, 1) := by decide +kernel
set_option maxRecDepth 20000 in
theorem ggX4_act_X4_requireAct : GoodIn wsX4_act wsX4_requireAct := goodIn_ca (goodIn_ca (goodIn_r _ [8, 9, 10, 11, 12, 13, 14, 15, 7, 16, 17, 18, 19, 20, 21, 22, 23, 24, 25, 26, 27, 149, 150, 151, 152, 153, 154, 155, 156, 157, 158, 159, 160, 161] (by decide +kernel) (by decide +kernel)) (goodIn_sub (fun _ h => List.mem_cons_of_mem _ (List.mem_append_left _ (List.mem_append_right _ h))) (by decide +kernel))) (goodIn_sub (fun _ h => List.mem_cons_of_mem _ (List.mem_append_right _ h)) (by decide +kernel))
set_option maxRecDepth 20000 in
theorem gX4_act_X4_requireAct : GoodIn wsX4_act (wsV RX4 80 RX4 yX4_requireAct wsX4_requireAct) := goodIn_app (goodIn_of _ (by decide +kernel)) ggX4_act_X4_requireAct
set_option maxRecDepth 20000 in
theorem ggX4_act_X0_size : GoodIn wsX4_act wsX0_size := goodIn_r _ [32, 33, 162, 163] (by decide +kernel) (by decide +kernel)
set_option maxRecDepth 20000 in
theorem gX4_act_X0_size : GoodIn wsX4_act (wsV RX4 84 RX0 yX0_size wsX0_size) := goodIn_app (goodIn_of _ (by decide +kernel)) ggX4_act_X0_size
set_option maxRecDepth 20000 in
theorem ggX4_act_X4_actOf : GoodIn wsX4_act wsX4_actOf := goodIn_r _ [36] (by decide +kernel) (by decide +kernel)
set_option maxRecDepth 20000 in
theorem gX4_act_X4_actOf : GoodIn wsX4_act (va_wsS RX4 89 yX4_actOf wsX4_actOf) := goodIn_app (goodIn_of _ (by decide +kernel)) ggX4_act_X4_actOf
set_option maxRecDepth 20000 in
theorem ggX4_act_X4_doAndLog : GoodIn wsX4_act wsX4_doAndLog := goodIn_r _ [40, 41, 3, 42, 43, 7, 44, 45, 46, 47, 48, 49, 50, 51, 52, 53, 54, 55, 56, 57, 13, 58, 59, 60, 20, 61, 62, 63, 64, 65, 66, 67, 68, 69, 70, 71, 72, 73, 74, 75, 76, 77, 14, 15, 16, 78, 79, 80, 81, 82, 83, 84, 85, 86, 87, 88, 89, 90, 91, 92, 93, 94, 95, 96, 97, 98, 99, 100, 101, 102, 103, 104, 105, 106, 107, 108, 109, 110, 111, 112, 113, 114, 115, 116, 117, 118, 119, 27, 22, 120, 121, 122, 123, 124, 125, 126, 127, 128, 129, 130, 131, 132, 133, 134, 135, 136, 137, 138, 139, 140, 141, 142, 143, 144, 145, 146, 31, 147, 148, 33, 149, 150, 151, 152, 153, 154, 155, 156, 157, 158, 159, 160, 161, 164, 165, 166, 167, 168, 162, 163] (by decide +kernel) (by decide +kernel)
set_option maxRecDepth 20000 in
theorem gX4_act_X4_doAndLog : GoodIn wsX4_act (wsV RX4 93 RX4 yX4_doAndLog wsX4_doAndLog) := goodIn_app (goodIn_of _ (by decide +kernel)) ggX4_act_X4_doAndLog
theorem dX4_act_0 : decode cX4_act 0 = .ok (.aload_n 0, 1) := by decide +kernel
theorem dX4_act_1 : decode cX4_act 1 = .ok (.iload_n 1, 1) := by decide +kernel
theorem dX4_act_2 : decode cX4_act 2 = .ok (.iload_n 2, 1) := by decide +kernel
theorem dX4_act_3 : decode cX4_act 3 = .ok (.invokevirtual 80, 3) := by decide +kernel
theorem dX4_act_6 : decode cX4_act 6 = .ok (.aload_n 0, 1) := by decide +kernel
theorem dX4_act_7 : decode cX4_act 7 = .ok (.getfield 28, 3) := by decide +kernel
theorem dX4_act_10 : decode cX4_act 10 = .ok (.invokevirtual 84, 3) := by decide +kernel
theorem dX4_act_13 : decode cX4_act 13 = .ok (.sipush 200, 3) := by decide +kernel
theorem dX4_act_16 : decode cX4_act 16 = .ok (.if_icmp .lt 13, 3) := by decide +kernel
theorem dX4_act_19 : decode cX4_act 19 = .ok (.new 52, 3) := by decide +kernel
theorem dX4_act_22 : decode cX4_act 22 = .ok (.dup, 1) := by decide +kernel
theorem dX4_act_23 : decode cX4_act 23 = .ok (.ldc 87, 2) := by decide +kernel
theorem dX4_act_25 : decode cX4_act 25 = .ok (.invokespecial 56, 3) := by decide +kernel
theorem dX4_act_28 : decode cX4_act 28 = .ok (.athrow, 1) := by decide +kernel
theorem dX4_act_29 : decode cX4_act 29 = .ok (.aload_n 0, 1) := by decide +kernel
theorem dX4_act_30 : decode cX4_act 30 = .ok (.iload_n 1, 1) := by decide +kernel
theorem dX4_act_31 : decode cX4_act 31 = .ok (.iload_n 2, 1) := by decide +kernel
theorem dX4_act_32 : decode cX4_act 32 = .ok (.invokestatic 89, 3) := by decide +kernel
theorem dX4_act_35 : decode cX4_act 35 = .ok (.invokevirtual 93, 3) := by decide +kernel
theorem dX4_act_38 : decode cX4_act 38 = .ok (.ireturn, 1) := by decide +kernel
set_option maxRecDepth 20000 in
theorem ggX4_reason_X4_requireAct : GoodIn wsX4_reason wsX4_requireAct := goodIn_ca (goodIn_ca (goodIn_r _ [6, 7, 8, 9, 10, 11, 12, 13, 5, 14, 15, 16, 17, 18, 19, 20, 21, 22, 23, 24, 25, 122, 123, 124, 125, 126, 127, 128, 129, 130, 131, 132, 133, 134] (by decide +kernel) (by decide +kernel)) (goodIn_sub (fun _ h => List.mem_cons_of_mem _ (List.mem_append_left _ (List.mem_append_right _ h))) (by decide +kernel))) (goodIn_sub (fun _ h => List.mem_cons_of_mem _ (List.mem_append_right _ h)) (by decide +kernel))
set_option maxRecDepth 20000 in
theorem gX4_reason_X4_requireAct : GoodIn wsX4_reason (wsV RX4 80 RX4 yX4_requireAct wsX4_requireAct) := goodIn_app (goodIn_of _ (by decide +kernel)) ggX4_reason_X4_requireAct
set_option maxRecDepth 20000 in
theorem ggX4_reason_X4_reasonIn : GoodIn wsX4_reason wsX4_reasonIn := goodIn_r _ [29, 30, 31, 32, 33, 34, 5, 35, 11, 36, 37, 38, 18, 39, 40, 41, 42, 43, 44, 45, 46, 47, 48, 49, 50, 51, 52, 53, 54, 55, 12, 13, 14, 56, 57, 58, 59, 60, 61, 62, 63, 64, 65, 66, 67, 68, 69, 70, 71, 72, 73, 74, 75, 76, 77, 78, 79, 80, 81, 82, 83, 84, 85, 86, 87, 88, 89, 90, 91, 92, 93, 94, 95, 96, 97, 25, 20, 98, 99, 100, 101, 102, 103, 104, 105, 106, 107, 108, 109, 110, 111, 112, 113, 114, 115, 116, 117, 118, 119, 120, 121, 122, 123, 124, 125, 126, 127, 128, 129, 130, 131, 132, 133, 134, 135, 136, 137, 138, 139] (by decide +kernel) (by decide +kernel)
set_option maxRecDepth 20000 in
theorem gX4_reason_X4_reasonIn : GoodIn wsX4_reason (wsV RX4 97 RX4 yX4_reasonIn wsX4_reasonIn) := goodIn_app (goodIn_of _ (by decide +kernel)) ggX4_reason_X4_reasonIn
theorem dX4_reason_0 : decode cX4_reason 0 = .ok (.aload_n 0, 1) := by decide +kernel
theorem dX4_reason_1 : decode cX4_reason 1 = .ok (.iload_n 1, 1) := by decide +kernel
theorem dX4_reason_2 : decode cX4_reason 2 = .ok (.iload_n 2, 1) := by decide +kernel
theorem dX4_reason_3 : decode cX4_reason 3 = .ok (.invokevirtual 80, 3) := by decide +kernel
theorem dX4_reason_6 : decode cX4_reason 6 = .ok (.aload_n 0, 1) := by decide +kernel
theorem dX4_reason_7 : decode cX4_reason 7 = .ok (.aload_n 0, 1) := by decide +kernel
theorem dX4_reason_8 : decode cX4_reason 8 = .ok (.getfield 19, 3) := by decide +kernel
theorem dX4_reason_11 : decode cX4_reason 11 = .ok (.iload_n 1, 1) := by decide +kernel
theorem dX4_reason_12 : decode cX4_reason 12 = .ok (.iload_n 2, 1) := by decide +kernel
theorem dX4_reason_13 : decode cX4_reason 13 = .ok (.invokevirtual 97, 3) := by decide +kernel
theorem dX4_reason_16 : decode cX4_reason 16 = .ok (.ireturn, 1) := by decide +kernel
set_option maxRecDepth 20000 in
theorem ggX4_takeBack_X0_size : GoodIn wsX4_takeBack wsX0_size := goodIn_r _ [9, 10, 143, 144] (by decide +kernel) (by decide +kernel)
set_option maxRecDepth 20000 in
theorem gX4_takeBack_X0_size : GoodIn wsX4_takeBack (wsV RX4 84 RX0 yX0_size wsX0_size) := goodIn_app (goodIn_of _ (by decide +kernel)) ggX4_takeBack_X0_size
set_option maxRecDepth 20000 in
theorem ggX4_takeBack_X0_latest : GoodIn wsX4_takeBack wsX0_latest := goodIn_r _ [14, 15, 10, 143, 144] (by decide +kernel) (by decide +kernel)
set_option maxRecDepth 20000 in
theorem gX4_takeBack_X0_latest : GoodIn wsX4_takeBack (wsV RX4 103 RX0 yX0_latest wsX0_latest) := goodIn_app (goodIn_of _ (by decide +kernel)) ggX4_takeBack_X0_latest
set_option maxRecDepth 20000 in
theorem ggX4_takeBack_X4_oppositeOf : GoodIn wsX4_takeBack wsX4_oppositeOf := goodIn_r _ [19, 20, 21, 18, 22, 23, 24, 25, 26, 27, 28] (by decide +kernel) (by decide +kernel)
set_option maxRecDepth 20000 in
theorem gX4_takeBack_X4_oppositeOf : GoodIn wsX4_takeBack (va_wsS RX4 106 yX4_oppositeOf wsX4_oppositeOf) := goodIn_app (goodIn_of _ (by decide +kernel)) ggX4_takeBack_X4_oppositeOf
set_option maxRecDepth 20000 in
theorem ggX4_takeBack_X4_kindOf : GoodIn wsX4_takeBack wsX4_kindOf := goodIn_r _ [22] (by decide +kernel) (by decide +kernel)
set_option maxRecDepth 20000 in
theorem gX4_takeBack_X4_kindOf : GoodIn wsX4_takeBack (va_wsS RX4 109 yX4_kindOf wsX4_kindOf) := goodIn_app (goodIn_of _ (by decide +kernel)) ggX4_takeBack_X4_kindOf
set_option maxRecDepth 20000 in
theorem ggX4_takeBack_X4_whatOf : GoodIn wsX4_takeBack wsX4_whatOf := goodIn_r _ [25] (by decide +kernel) (by decide +kernel)
set_option maxRecDepth 20000 in
theorem gX4_takeBack_X4_whatOf : GoodIn wsX4_takeBack (va_wsS RX4 112 yX4_whatOf wsX4_whatOf) := goodIn_app (goodIn_of _ (by decide +kernel)) ggX4_takeBack_X4_whatOf
set_option maxRecDepth 20000 in
theorem ggX4_takeBack_X4_reasonIn : GoodIn wsX4_takeBack wsX4_reasonIn := goodIn_r _ [32, 33, 34, 35, 36, 37, 18, 38, 39, 40, 41, 42, 43, 44, 45, 46, 47, 48, 49, 50, 51, 52, 53, 54, 55, 56, 57, 58, 59, 60, 61, 62, 63, 64, 65, 66, 67, 68, 69, 70, 71, 72, 73, 74, 75, 76, 77, 78, 79, 80, 81, 82, 83, 84, 85, 86, 87, 88, 89, 90, 91, 92, 93, 94, 95, 96, 97, 98, 99, 100, 101, 102, 103, 104, 105, 106, 107, 108, 109, 110, 111, 112, 113, 114, 115, 116, 117, 118, 119, 120, 121, 122, 123, 124, 125, 126, 127, 128, 129, 130, 131, 136, 137, 138, 139, 140, 141, 142, 145, 146, 147, 148, 149, 150, 151, 152, 153, 154, 155] (by decide +kernel) (by decide +kernel)
set_option maxRecDepth 20000 in
theorem gX4_takeBack_X4_reasonIn : GoodIn wsX4_takeBack (wsV RX4 97 RX4 yX4_reasonIn wsX4_reasonIn) := goodIn_app (goodIn_of _ (by decide +kernel)) ggX4_takeBack_X4_reasonIn
set_option maxRecDepth 20000 in
theorem ggX4_takeBack_X3_flip : GoodIn wsX4_takeBack wsX3_flip := goodIn_r _ [83, 51, 52, 53, 151, 152, 153] (by decide +kernel) (by decide +kernel)
set_option maxRecDepth 20000 in
theorem gX4_takeBack_X3_flip : GoodIn wsX4_takeBack (wsV RX4 115 RX3 yX3_flip wsX3_flip) := goodIn_app (goodIn_of _ (by decide +kernel)) ggX4_takeBack_X3_flip
set_option maxRecDepth 20000 in
theorem ggX4_takeBack_X0_dropLast : GoodIn wsX4_takeBack wsX0_dropLast := goodIn_r _ [135, 10, 143, 144] (by decide +kernel) (by decide +kernel)
set_option maxRecDepth 20000 in
theorem gX4_takeBack_X0_dropLast : GoodIn wsX4_takeBack (wsV RX4 118 RX0 yX0_dropLast wsX0_dropLast) := goodIn_app (goodIn_of _ (by decide +kernel)) ggX4_takeBack_X0_dropLast
theorem dX4_takeBack_0 : decode cX4_takeBack 0 = .ok (.aload_n 0, 1) := by decide +kernel
theorem dX4_takeBack_1 : decode cX4_takeBack 1 = .ok (.getfield 28, 3) := by decide +kernel
theorem dX4_takeBack_4 : decode cX4_takeBack 4 = .ok (.invokevirtual 84, 3) := by decide +kernel
theorem dX4_takeBack_7 : decode cX4_takeBack 7 = .ok (.ifCond .ne 13, 3) := by decide +kernel
theorem dX4_takeBack_10 : decode cX4_takeBack 10 = .ok (.new 52, 3) := by decide +kernel
theorem dX4_takeBack_13 : decode cX4_takeBack 13 = .ok (.dup, 1) := by decide +kernel
theorem dX4_takeBack_14 : decode cX4_takeBack 14 = .ok (.ldc 101, 2) := by decide +kernel
theorem dX4_takeBack_16 : decode cX4_takeBack 16 = .ok (.invokespecial 56, 3) := by decide +kernel
theorem dX4_takeBack_19 : decode cX4_takeBack 19 = .ok (.athrow, 1) := by decide +kernel
theorem dX4_takeBack_20 : decode cX4_takeBack 20 = .ok (.aload_n 0, 1) := by decide +kernel
theorem dX4_takeBack_21 : decode cX4_takeBack 21 = .ok (.getfield 28, 3) := by decide +kernel
theorem dX4_takeBack_24 : decode cX4_takeBack 24 = .ok (.iconst 0, 1) := by decide +kernel
theorem dX4_takeBack_25 : decode cX4_takeBack 25 = .ok (.invokevirtual 103, 3) := by decide +kernel
theorem dX4_takeBack_28 : decode cX4_takeBack 28 = .ok (.invokestatic 106, 3) := by decide +kernel
theorem dX4_takeBack_31 : decode cX4_takeBack 31 = .ok (.istore_n 1, 1) := by decide +kernel
theorem dX4_takeBack_32 : decode cX4_takeBack 32 = .ok (.aload_n 0, 1) := by decide +kernel
theorem dX4_takeBack_33 : decode cX4_takeBack 33 = .ok (.aload_n 0, 1) := by decide +kernel
theorem dX4_takeBack_34 : decode cX4_takeBack 34 = .ok (.getfield 19, 3) := by decide +kernel
theorem dX4_takeBack_37 : decode cX4_takeBack 37 = .ok (.iload_n 1, 1) := by decide +kernel
theorem dX4_takeBack_38 : decode cX4_takeBack 38 = .ok (.invokestatic 109, 3) := by decide +kernel
theorem dX4_takeBack_41 : decode cX4_takeBack 41 = .ok (.iload_n 1, 1) := by decide +kernel
theorem dX4_takeBack_42 : decode cX4_takeBack 42 = .ok (.invokestatic 112, 3) := by decide +kernel
theorem dX4_takeBack_45 : decode cX4_takeBack 45 = .ok (.invokevirtual 97, 3) := by decide +kernel
theorem dX4_takeBack_48 : decode cX4_takeBack 48 = .ok (.istore_n 2, 1) := by decide +kernel
theorem dX4_takeBack_49 : decode cX4_takeBack 49 = .ok (.iload_n 2, 1) := by decide +kernel
theorem dX4_takeBack_50 : decode cX4_takeBack 50 = .ok (.ifCond .ne 25, 3) := by decide +kernel
theorem dX4_takeBack_53 : decode cX4_takeBack 53 = .ok (.aload_n 0, 1) := by decide +kernel
theorem dX4_takeBack_54 : decode cX4_takeBack 54 = .ok (.getfield 19, 3) := by decide +kernel
theorem dX4_takeBack_57 : decode cX4_takeBack 57 = .ok (.iload_n 1, 1) := by decide +kernel
theorem dX4_takeBack_58 : decode cX4_takeBack 58 = .ok (.invokestatic 109, 3) := by decide +kernel
theorem dX4_takeBack_61 : decode cX4_takeBack 61 = .ok (.iload_n 1, 1) := by decide +kernel
theorem dX4_takeBack_62 : decode cX4_takeBack 62 = .ok (.invokestatic 112, 3) := by decide +kernel
theorem dX4_takeBack_65 : decode cX4_takeBack 65 = .ok (.invokevirtual 115, 3) := by decide +kernel
theorem dX4_takeBack_68 : decode cX4_takeBack 68 = .ok (.aload_n 0, 1) := by decide +kernel
theorem dX4_takeBack_69 : decode cX4_takeBack 69 = .ok (.getfield 28, 3) := by decide +kernel
theorem dX4_takeBack_72 : decode cX4_takeBack 72 = .ok (.invokevirtual 118, 3) := by decide +kernel
theorem dX4_takeBack_75 : decode cX4_takeBack 75 = .ok (.iload_n 2, 1) := by decide +kernel
theorem dX4_takeBack_76 : decode cX4_takeBack 76 = .ok (.ireturn, 1) := by decide +kernel
set_option maxRecDepth 20000 in
theorem ggX4_log_X0_size : GoodIn wsX4_log wsX0_size := goodIn_r _ [6, 7, 15, 16] (by decide +kernel) (by decide +kernel)
set_option maxRecDepth 20000 in
theorem gX4_log_X0_size : GoodIn wsX4_log (wsV RX4 84 RX0 yX0_size wsX0_size) := goodIn_app (goodIn_of _ (by decide +kernel)) ggX4_log_X0_size
theorem dX4_log_0 : decode cX4_log 0 = .ok (.aload_n 0, 1) := by decide +kernel
theorem dX4_log_1 : decode cX4_log 1 = .ok (.getfield 28, 3) := by decide +kernel
theorem dX4_log_4 : decode cX4_log 4 = .ok (.invokevirtual 84, 3) := by decide +kernel
theorem dX4_log_7 : decode cX4_log 7 = .ok (.ireturn, 1) := by decide +kernel
set_option maxRecDepth 20000 in
theorem ggX4_logged_X0_size : GoodIn wsX4_logged wsX0_size := goodIn_r _ [8, 9, 22, 23] (by decide +kernel) (by decide +kernel)
set_option maxRecDepth 20000 in
theorem gX4_logged_X0_size : GoodIn wsX4_logged (wsV RX4 84 RX0 yX0_size wsX0_size) := goodIn_app (goodIn_of _ (by decide +kernel)) ggX4_logged_X0_size
set_option maxRecDepth 20000 in
theorem ggX4_logged_X0_latest : GoodIn wsX4_logged wsX0_latest := goodIn_r _ [13, 14, 9, 22, 23] (by decide +kernel) (by decide +kernel)
set_option maxRecDepth 20000 in
theorem gX4_logged_X0_latest : GoodIn wsX4_logged (wsV RX4 103 RX0 yX0_latest wsX0_latest) := goodIn_app (goodIn_of _ (by decide +kernel)) ggX4_logged_X0_latest
theorem dX4_logged_0 : decode cX4_logged 0 = .ok (.iload_n 1, 1) := by decide +kernel
theorem dX4_logged_1 : decode cX4_logged 1 = .ok (.ifCond .lt 14, 3) := by decide +kernel
theorem dX4_logged_4 : decode cX4_logged 4 = .ok (.iload_n 1, 1) := by decide +kernel
theorem dX4_logged_5 : decode cX4_logged 5 = .ok (.aload_n 0, 1) := by decide +kernel
theorem dX4_logged_6 : decode cX4_logged 6 = .ok (.getfield 28, 3) := by decide +kernel
theorem dX4_logged_9 : decode cX4_logged 9 = .ok (.invokevirtual 84, 3) := by decide +kernel
theorem dX4_logged_12 : decode cX4_logged 12 = .ok (.if_icmp .lt 13, 3) := by decide +kernel
theorem dX4_logged_15 : decode cX4_logged 15 = .ok (.new 121, 3) := by decide +kernel
theorem dX4_logged_18 : decode cX4_logged 18 = .ok (.dup, 1) := by decide +kernel
theorem dX4_logged_19 : decode cX4_logged 19 = .ok (.ldc 123, 2) := by decide +kernel
theorem dX4_logged_21 : decode cX4_logged 21 = .ok (.invokespecial 125, 3) := by decide +kernel
theorem dX4_logged_24 : decode cX4_logged 24 = .ok (.athrow, 1) := by decide +kernel
theorem dX4_logged_25 : decode cX4_logged 25 = .ok (.aload_n 0, 1) := by decide +kernel
theorem dX4_logged_26 : decode cX4_logged 26 = .ok (.getfield 28, 3) := by decide +kernel
theorem dX4_logged_29 : decode cX4_logged 29 = .ok (.iload_n 1, 1) := by decide +kernel
theorem dX4_logged_30 : decode cX4_logged 30 = .ok (.invokevirtual 103, 3) := by decide +kernel
theorem dX4_logged_33 : decode cX4_logged 33 = .ok (.ireturn, 1) := by decide +kernel
set_option maxRecDepth 20000 in
theorem ggX4_times_X4_requireAct : GoodIn wsX4_times wsX4_requireAct := goodIn_ca (goodIn_ca (goodIn_r _ [6, 7, 8, 9, 10, 11, 12, 13, 5, 14, 15, 16, 17, 18, 19, 20, 21, 22, 23, 24, 25, 36, 37, 38, 39, 40, 41, 42, 43, 44, 45, 46, 47, 48] (by decide +kernel) (by decide +kernel)) (goodIn_sub (fun _ h => List.mem_cons_of_mem _ (List.mem_append_left _ (List.mem_append_right _ h))) (by decide +kernel))) (goodIn_sub (fun _ h => List.mem_cons_of_mem _ (List.mem_append_right _ h)) (by decide +kernel))
set_option maxRecDepth 20000 in
theorem gX4_times_X4_requireAct : GoodIn wsX4_times (wsV RX4 80 RX4 yX4_requireAct wsX4_requireAct) := goodIn_app (goodIn_of _ (by decide +kernel)) ggX4_times_X4_requireAct
set_option maxRecDepth 20000 in
theorem ggX4_times_X4_actOf : GoodIn wsX4_times wsX4_actOf := goodIn_r _ [28] (by decide +kernel) (by decide +kernel)
set_option maxRecDepth 20000 in
theorem gX4_times_X4_actOf : GoodIn wsX4_times (va_wsS RX4 89 yX4_actOf wsX4_actOf) := goodIn_app (goodIn_of _ (by decide +kernel)) ggX4_times_X4_actOf
set_option maxRecDepth 20000 in
theorem ggX4_times_X0_count : GoodIn wsX4_times wsX0_count := goodIn_r _ [33, 34, 35, 49, 50] (by decide +kernel) (by decide +kernel)
set_option maxRecDepth 20000 in
theorem gX4_times_X0_count : GoodIn wsX4_times (wsV RX4 126 RX0 yX0_count wsX0_count) := goodIn_app (goodIn_of _ (by decide +kernel)) ggX4_times_X0_count
theorem dX4_times_0 : decode cX4_times 0 = .ok (.aload_n 0, 1) := by decide +kernel
theorem dX4_times_1 : decode cX4_times 1 = .ok (.iload_n 1, 1) := by decide +kernel
theorem dX4_times_2 : decode cX4_times 2 = .ok (.iload_n 2, 1) := by decide +kernel
theorem dX4_times_3 : decode cX4_times 3 = .ok (.invokevirtual 80, 3) := by decide +kernel
theorem dX4_times_6 : decode cX4_times 6 = .ok (.aload_n 0, 1) := by decide +kernel
theorem dX4_times_7 : decode cX4_times 7 = .ok (.getfield 28, 3) := by decide +kernel
theorem dX4_times_10 : decode cX4_times 10 = .ok (.iload_n 1, 1) := by decide +kernel
theorem dX4_times_11 : decode cX4_times 11 = .ok (.iload_n 2, 1) := by decide +kernel
theorem dX4_times_12 : decode cX4_times 12 = .ok (.invokestatic 89, 3) := by decide +kernel
theorem dX4_times_15 : decode cX4_times 15 = .ok (.invokevirtual 126, 3) := by decide +kernel
theorem dX4_times_18 : decode cX4_times 18 = .ok (.ireturn, 1) := by decide +kernel
set_option maxRecDepth 20000 in
theorem ggX4_write_X4_requireAct : GoodIn wsX4_write wsX4_requireAct := goodIn_ca (goodIn_ca (goodIn_r _ [8, 9, 10, 11, 12, 13, 14, 15, 7, 16, 17, 18, 19, 20, 21, 22, 23, 24, 25, 26, 27, 42, 43, 44, 45, 46, 47, 48, 49, 50, 51, 52, 53, 54] (by decide +kernel) (by decide +kernel)) (goodIn_sub (fun _ h => List.mem_cons_of_mem _ (List.mem_append_left _ (List.mem_append_right _ h))) (by decide +kernel))) (goodIn_sub (fun _ h => List.mem_cons_of_mem _ (List.mem_append_right _ h)) (by decide +kernel))
set_option maxRecDepth 20000 in
theorem gX4_write_X4_requireAct : GoodIn wsX4_write (wsV RX4 80 RX4 yX4_requireAct wsX4_requireAct) := goodIn_app (goodIn_of _ (by decide +kernel)) ggX4_write_X4_requireAct
set_option maxRecDepth 20000 in
theorem ggX4_write_X0_size : GoodIn wsX4_write wsX0_size := goodIn_r _ [32, 33, 55, 56] (by decide +kernel) (by decide +kernel)
set_option maxRecDepth 20000 in
theorem gX4_write_X0_size : GoodIn wsX4_write (wsV RX4 84 RX0 yX0_size wsX0_size) := goodIn_app (goodIn_of _ (by decide +kernel)) ggX4_write_X0_size
set_option maxRecDepth 20000 in
theorem ggX4_write_X4_actOf : GoodIn wsX4_write wsX4_actOf := goodIn_r _ [36] (by decide +kernel) (by decide +kernel)
set_option maxRecDepth 20000 in
theorem gX4_write_X4_actOf : GoodIn wsX4_write (va_wsS RX4 89 yX4_actOf wsX4_actOf) := goodIn_app (goodIn_of _ (by decide +kernel)) ggX4_write_X4_actOf
set_option maxRecDepth 20000 in
theorem ggX4_write_X0_append : GoodIn wsX4_write wsX0_append := goodIn_r _ [40, 41, 33, 55, 56] (by decide +kernel) (by decide +kernel)
set_option maxRecDepth 20000 in
theorem gX4_write_X0_append : GoodIn wsX4_write (wsV RX4 131 RX0 yX0_append wsX0_append) := goodIn_app (goodIn_of _ (by decide +kernel)) ggX4_write_X0_append
theorem dX4_write_0 : decode cX4_write 0 = .ok (.aload_n 0, 1) := by decide +kernel
theorem dX4_write_1 : decode cX4_write 1 = .ok (.iload_n 1, 1) := by decide +kernel
theorem dX4_write_2 : decode cX4_write 2 = .ok (.iload_n 2, 1) := by decide +kernel
theorem dX4_write_3 : decode cX4_write 3 = .ok (.invokevirtual 80, 3) := by decide +kernel
theorem dX4_write_6 : decode cX4_write 6 = .ok (.aload_n 0, 1) := by decide +kernel
theorem dX4_write_7 : decode cX4_write 7 = .ok (.getfield 32, 3) := by decide +kernel
theorem dX4_write_10 : decode cX4_write 10 = .ok (.invokevirtual 84, 3) := by decide +kernel
theorem dX4_write_13 : decode cX4_write 13 = .ok (.bipush 30, 2) := by decide +kernel
theorem dX4_write_15 : decode cX4_write 15 = .ok (.if_icmp .lt 13, 3) := by decide +kernel
theorem dX4_write_18 : decode cX4_write 18 = .ok (.new 52, 3) := by decide +kernel
theorem dX4_write_21 : decode cX4_write 21 = .ok (.dup, 1) := by decide +kernel
theorem dX4_write_22 : decode cX4_write 22 = .ok (.ldc 129, 2) := by decide +kernel
theorem dX4_write_24 : decode cX4_write 24 = .ok (.invokespecial 56, 3) := by decide +kernel
theorem dX4_write_27 : decode cX4_write 27 = .ok (.athrow, 1) := by decide +kernel
theorem dX4_write_28 : decode cX4_write 28 = .ok (.aload_n 0, 1) := by decide +kernel
theorem dX4_write_29 : decode cX4_write 29 = .ok (.getfield 32, 3) := by decide +kernel
theorem dX4_write_32 : decode cX4_write 32 = .ok (.iload_n 1, 1) := by decide +kernel
theorem dX4_write_33 : decode cX4_write 33 = .ok (.iload_n 2, 1) := by decide +kernel
theorem dX4_write_34 : decode cX4_write 34 = .ok (.invokestatic 89, 3) := by decide +kernel
theorem dX4_write_37 : decode cX4_write 37 = .ok (.invokevirtual 131, 3) := by decide +kernel
theorem dX4_write_40 : decode cX4_write 40 = .ok (.aload_n 0, 1) := by decide +kernel
theorem dX4_write_41 : decode cX4_write 41 = .ok (.getfield 32, 3) := by decide +kernel
theorem dX4_write_44 : decode cX4_write 44 = .ok (.invokevirtual 84, 3) := by decide +kernel
theorem dX4_write_47 : decode cX4_write 47 = .ok (.ireturn, 1) := by decide +kernel
set_option maxRecDepth 20000 in
theorem ggX4_erase_X0_size : GoodIn wsX4_erase wsX0_size := goodIn_r _ [6, 7, 20, 21] (by decide +kernel) (by decide +kernel)
set_option maxRecDepth 20000 in
theorem gX4_erase_X0_size : GoodIn wsX4_erase (wsV RX4 84 RX0 yX0_size wsX0_size) := goodIn_app (goodIn_of _ (by decide +kernel)) ggX4_erase_X0_size
set_option maxRecDepth 20000 in
theorem ggX4_erase_X0_dropFirst : GoodIn wsX4_erase wsX0_dropFirst := goodIn_r _ [11, 7, 12, 20, 21] (by decide +kernel) (by decide +kernel)
set_option maxRecDepth 20000 in
theorem gX4_erase_X0_dropFirst : GoodIn wsX4_erase (wsV RX4 134 RX0 yX0_dropFirst wsX0_dropFirst) := goodIn_app (goodIn_of _ (by decide +kernel)) ggX4_erase_X0_dropFirst
theorem dX4_erase_0 : decode cX4_erase 0 = .ok (.aload_n 0, 1) := by decide +kernel
theorem dX4_erase_1 : decode cX4_erase 1 = .ok (.getfield 32, 3) := by decide +kernel
theorem dX4_erase_4 : decode cX4_erase 4 = .ok (.invokevirtual 84, 3) := by decide +kernel
theorem dX4_erase_7 : decode cX4_erase 7 = .ok (.istore_n 1, 1) := by decide +kernel
theorem dX4_erase_8 : decode cX4_erase 8 = .ok (.aload_n 0, 1) := by decide +kernel
theorem dX4_erase_9 : decode cX4_erase 9 = .ok (.getfield 32, 3) := by decide +kernel
theorem dX4_erase_12 : decode cX4_erase 12 = .ok (.iload_n 1, 1) := by decide +kernel
theorem dX4_erase_13 : decode cX4_erase 13 = .ok (.invokevirtual 134, 3) := by decide +kernel
theorem dX4_erase_16 : decode cX4_erase 16 = .ok (.iload_n 1, 1) := by decide +kernel
theorem dX4_erase_17 : decode cX4_erase 17 = .ok (.ireturn, 1) := by decide +kernel
set_option maxRecDepth 20000 in
theorem ggX4_check_X3_copyFrom : GoodIn wsX4_check wsX3_copyFrom := goodIn_r _ [8, 9, 10, 11, 132, 133, 134] (by decide +kernel) (by decide +kernel)
set_option maxRecDepth 20000 in
theorem gX4_check_X3_copyFrom : GoodIn wsX4_check (wsV RX4 137 RX3 yX3_copyFrom wsX3_copyFrom) := goodIn_app (goodIn_of _ (by decide +kernel)) ggX4_check_X3_copyFrom
set_option maxRecDepth 20000 in
theorem ggX4_check_X0_size : GoodIn wsX4_check wsX0_size := goodIn_r _ [16, 17, 135, 136] (by decide +kernel) (by decide +kernel)
set_option maxRecDepth 20000 in
theorem gX4_check_X0_size : GoodIn wsX4_check (wsV RX4 84 RX0 yX0_size wsX0_size) := goodIn_app (goodIn_of _ (by decide +kernel)) ggX4_check_X0_size
set_option maxRecDepth 20000 in
theorem ggX4_check_X0_get : GoodIn wsX4_check wsX0_get := goodIn_r _ [21, 22, 135, 136] (by decide +kernel) (by decide +kernel)
set_option maxRecDepth 20000 in
theorem gX4_check_X0_get : GoodIn wsX4_check (wsV RX4 141 RX0 yX0_get wsX0_get) := goodIn_app (goodIn_of _ (by decide +kernel)) ggX4_check_X0_get
set_option maxRecDepth 20000 in
theorem ggX4_check_X4_kindOf : GoodIn wsX4_check wsX4_kindOf := goodIn_r _ [26] (by decide +kernel) (by decide +kernel)
set_option maxRecDepth 20000 in
theorem gX4_check_X4_kindOf : GoodIn wsX4_check (va_wsS RX4 109 yX4_kindOf wsX4_kindOf) := goodIn_app (goodIn_of _ (by decide +kernel)) ggX4_check_X4_kindOf
set_option maxRecDepth 20000 in
theorem ggX4_check_X4_whatOf : GoodIn wsX4_check wsX4_whatOf := goodIn_r _ [29] (by decide +kernel) (by decide +kernel)
set_option maxRecDepth 20000 in
theorem gX4_check_X4_whatOf : GoodIn wsX4_check (va_wsS RX4 112 yX4_whatOf wsX4_whatOf) := goodIn_app (goodIn_of _ (by decide +kernel)) ggX4_check_X4_whatOf
set_option maxRecDepth 20000 in
theorem ggX4_check_X4_reasonIn : GoodIn wsX4_check wsX4_reasonIn := goodIn_r _ [33, 34, 35, 36, 37, 38, 25, 39, 40, 41, 42, 43, 44, 45, 46, 47, 48, 49, 7, 50, 9, 10, 11, 51, 52, 53, 54, 55, 56, 57, 58, 59, 60, 61, 62, 63, 64, 65, 66, 67, 68, 69, 70, 71, 72, 4, 5, 6, 8, 73, 74, 75, 76, 77, 78, 79, 80, 81, 82, 83, 84, 85, 86, 87, 88, 89, 90, 91, 92, 93, 94, 95, 96, 97, 98, 99, 100, 101, 102, 103, 104, 105, 106, 107, 108, 109, 110, 111, 112, 113, 114, 115, 116, 117, 118, 119, 120, 121, 122, 123, 124, 125, 126, 127, 128, 129, 130, 131, 137, 138, 139, 140, 141, 142, 132, 133, 134, 143, 144] (by decide +kernel) (by decide +kernel)
set_option maxRecDepth 20000 in
theorem gX4_check_X4_reasonIn : GoodIn wsX4_check (wsV RX4 97 RX4 yX4_reasonIn wsX4_reasonIn) := goodIn_app (goodIn_of _ (by decide +kernel)) ggX4_check_X4_reasonIn
set_option maxRecDepth 20000 in
theorem ggX4_check_X3_flip : GoodIn wsX4_check wsX3_flip := goodIn_r _ [76, 9, 10, 11, 132, 133, 134] (by decide +kernel) (by decide +kernel)
set_option maxRecDepth 20000 in
theorem gX4_check_X3_flip : GoodIn wsX4_check (wsV RX4 115 RX3 yX3_flip wsX3_flip) := goodIn_app (goodIn_of _ (by decide +kernel)) ggX4_check_X3_flip
theorem dX4_check_0 : decode cX4_check 0 = .ok (.aload_n 0, 1) := by decide +kernel
theorem dX4_check_1 : decode cX4_check 1 = .ok (.getfield 42, 3) := by decide +kernel
theorem dX4_check_4 : decode cX4_check 4 = .ok (.aload_n 0, 1) := by decide +kernel
theorem dX4_check_5 : decode cX4_check 5 = .ok (.getfield 19, 3) := by decide +kernel
theorem dX4_check_8 : decode cX4_check 8 = .ok (.invokevirtual 137, 3) := by decide +kernel
theorem dX4_check_11 : decode cX4_check 11 = .ok (.iconst 0, 1) := by decide +kernel
theorem dX4_check_12 : decode cX4_check 12 = .ok (.istore_n 1, 1) := by decide +kernel
theorem dX4_check_13 : decode cX4_check 13 = .ok (.iload_n 1, 1) := by decide +kernel
theorem dX4_check_14 : decode cX4_check 14 = .ok (.aload_n 0, 1) := by decide +kernel
theorem dX4_check_15 : decode cX4_check 15 = .ok (.getfield 32, 3) := by decide +kernel
theorem dX4_check_18 : decode cX4_check 18 = .ok (.invokevirtual 84, 3) := by decide +kernel
theorem dX4_check_21 : decode cX4_check 21 = .ok (.if_icmp .ge 54, 3) := by decide +kernel
theorem dX4_check_24 : decode cX4_check 24 = .ok (.aload_n 0, 1) := by decide +kernel
theorem dX4_check_25 : decode cX4_check 25 = .ok (.getfield 32, 3) := by decide +kernel
theorem dX4_check_28 : decode cX4_check 28 = .ok (.iload_n 1, 1) := by decide +kernel
theorem dX4_check_29 : decode cX4_check 29 = .ok (.invokevirtual 141, 3) := by decide +kernel
theorem dX4_check_32 : decode cX4_check 32 = .ok (.istore_n 2, 1) := by decide +kernel
theorem dX4_check_33 : decode cX4_check 33 = .ok (.aload_n 0, 1) := by decide +kernel
theorem dX4_check_34 : decode cX4_check 34 = .ok (.aload_n 0, 1) := by decide +kernel
theorem dX4_check_35 : decode cX4_check 35 = .ok (.getfield 42, 3) := by decide +kernel
theorem dX4_check_38 : decode cX4_check 38 = .ok (.iload_n 2, 1) := by decide +kernel
theorem dX4_check_39 : decode cX4_check 39 = .ok (.invokestatic 109, 3) := by decide +kernel
theorem dX4_check_42 : decode cX4_check 42 = .ok (.iload_n 2, 1) := by decide +kernel
theorem dX4_check_43 : decode cX4_check 43 = .ok (.invokestatic 112, 3) := by decide +kernel
theorem dX4_check_46 : decode cX4_check 46 = .ok (.invokevirtual 97, 3) := by decide +kernel
theorem dX4_check_49 : decode cX4_check 49 = .ok (.ifCond .eq 5, 3) := by decide +kernel
theorem dX4_check_52 : decode cX4_check 52 = .ok (.iload_n 1, 1) := by decide +kernel
theorem dX4_check_53 : decode cX4_check 53 = .ok (.ireturn, 1) := by decide +kernel
theorem dX4_check_54 : decode cX4_check 54 = .ok (.aload_n 0, 1) := by decide +kernel
theorem dX4_check_55 : decode cX4_check 55 = .ok (.getfield 42, 3) := by decide +kernel
theorem dX4_check_58 : decode cX4_check 58 = .ok (.iload_n 2, 1) := by decide +kernel
theorem dX4_check_59 : decode cX4_check 59 = .ok (.invokestatic 109, 3) := by decide +kernel
theorem dX4_check_62 : decode cX4_check 62 = .ok (.iload_n 2, 1) := by decide +kernel
theorem dX4_check_63 : decode cX4_check 63 = .ok (.invokestatic 112, 3) := by decide +kernel
theorem dX4_check_66 : decode cX4_check 66 = .ok (.invokevirtual 115, 3) := by decide +kernel
theorem dX4_check_69 : decode cX4_check 69 = .ok (.iinc 1 1, 3) := by decide +kernel
theorem dX4_check_72 : decode cX4_check 72 = .ok (.goto (-59), 3) := by decide +kernel
theorem dX4_check_75 : decode cX4_check 75 = .ok (.aload_n 0, 1) := by decide +kernel
theorem dX4_check_76 : decode cX4_check 76 = .ok (.getfield 32, 3) := by decide +kernel
theorem dX4_check_79 : decode cX4_check 79 = .ok (.invokevirtual 84, 3) := by decide +kernel
theorem dX4_check_82 : decode cX4_check 82 = .ok (.ireturn, 1) := by decide +kernel
set_option maxRecDepth 20000 in
theorem ggX4_carryOut_X0_size : GoodIn wsX4_carryOut wsX0_size := goodIn_r _ [15, 16, 152, 153] (by decide +kernel) (by decide +kernel)
set_option maxRecDepth 20000 in
theorem gX4_carryOut_X0_size : GoodIn wsX4_carryOut (wsV RX4 84 RX0 yX0_size wsX0_size) := goodIn_app (goodIn_of _ (by decide +kernel)) ggX4_carryOut_X0_size
set_option maxRecDepth 20000 in
theorem ggX4_carryOut_X0_get : GoodIn wsX4_carryOut wsX0_get := goodIn_r _ [20, 21, 152, 153] (by decide +kernel) (by decide +kernel)
set_option maxRecDepth 20000 in
theorem gX4_carryOut_X0_get : GoodIn wsX4_carryOut (wsV RX4 141 RX0 yX0_get wsX0_get) := goodIn_app (goodIn_of _ (by decide +kernel)) ggX4_carryOut_X0_get
set_option maxRecDepth 20000 in
theorem ggX4_carryOut_X4_doAndLog : GoodIn wsX4_carryOut wsX4_doAndLog := goodIn_r _ [26, 27, 10, 28, 29, 25, 30, 31, 32, 33, 34, 35, 36, 37, 38, 39, 40, 41, 42, 43, 44, 45, 46, 47, 48, 49, 50, 51, 52, 53, 54, 55, 56, 57, 58, 59, 60, 61, 62, 63, 64, 65, 66, 67, 68, 69, 70, 71, 72, 73, 74, 75, 76, 77, 78, 79, 80, 81, 82, 83, 84, 85, 86, 87, 88, 89, 90, 91, 92, 93, 94, 95, 96, 97, 98, 99, 100, 101, 102, 103, 104, 105, 106, 107, 108, 109, 110, 111, 112, 113, 114, 115, 116, 117, 118, 119, 120, 121, 122, 123, 124, 125, 126, 127, 128, 129, 130, 131, 132, 133, 134, 135, 136, 137, 138, 139, 14, 140, 21, 16, 145, 146, 147, 148, 149, 150, 151, 154, 155, 156, 157, 158, 159, 160, 161, 162, 163, 164, 152, 153] (by decide +kernel) (by decide +kernel)
set_option maxRecDepth 20000 in
theorem gX4_carryOut_X4_doAndLog : GoodIn wsX4_carryOut (wsV RX4 93 RX4 yX4_doAndLog wsX4_doAndLog) := goodIn_app (goodIn_of _ (by decide +kernel)) ggX4_carryOut_X4_doAndLog
set_option maxRecDepth 20000 in
theorem ggX4_carryOut_X0_dropFirst : GoodIn wsX4_carryOut wsX0_dropFirst := goodIn_r _ [144, 16, 21, 152, 153] (by decide +kernel) (by decide +kernel)
set_option maxRecDepth 20000 in
theorem gX4_carryOut_X0_dropFirst : GoodIn wsX4_carryOut (wsV RX4 134 RX0 yX0_dropFirst wsX0_dropFirst) := goodIn_app (goodIn_of _ (by decide +kernel)) ggX4_carryOut_X0_dropFirst
theorem dX4_carryOut_0 : decode cX4_carryOut 0 = .ok (.iload_n 1, 1) := by decide +kernel
theorem dX4_carryOut_1 : decode cX4_carryOut 1 = .ok (.iconst 1, 1) := by decide +kernel
theorem dX4_carryOut_2 : decode cX4_carryOut 2 = .ok (.if_icmp .lt 9, 3) := by decide +kernel
theorem dX4_carryOut_5 : decode cX4_carryOut 5 = .ok (.iload_n 1, 1) := by decide +kernel
theorem dX4_carryOut_6 : decode cX4_carryOut 6 = .ok (.bipush 30, 2) := by decide +kernel
theorem dX4_carryOut_8 : decode cX4_carryOut 8 = .ok (.if_icmp .le 13, 3) := by decide +kernel
theorem dX4_carryOut_11 : decode cX4_carryOut 11 = .ok (.new 66, 3) := by decide +kernel
theorem dX4_carryOut_14 : decode cX4_carryOut 14 = .ok (.dup, 1) := by decide +kernel
theorem dX4_carryOut_15 : decode cX4_carryOut 15 = .ok (.ldc 144, 2) := by decide +kernel
theorem dX4_carryOut_17 : decode cX4_carryOut 17 = .ok (.invokespecial 70, 3) := by decide +kernel
theorem dX4_carryOut_20 : decode cX4_carryOut 20 = .ok (.athrow, 1) := by decide +kernel
theorem dX4_carryOut_21 : decode cX4_carryOut 21 = .ok (.iload_n 1, 1) := by decide +kernel
theorem dX4_carryOut_22 : decode cX4_carryOut 22 = .ok (.aload_n 0, 1) := by decide +kernel
theorem dX4_carryOut_23 : decode cX4_carryOut 23 = .ok (.getfield 32, 3) := by decide +kernel
theorem dX4_carryOut_26 : decode cX4_carryOut 26 = .ok (.invokevirtual 84, 3) := by decide +kernel
theorem dX4_carryOut_29 : decode cX4_carryOut 29 = .ok (.invokestatic 146, 3) := by decide +kernel
theorem dX4_carryOut_32 : decode cX4_carryOut 32 = .ok (.istore_n 2, 1) := by decide +kernel
theorem dX4_carryOut_33 : decode cX4_carryOut 33 = .ok (.aload_n 0, 1) := by decide +kernel
theorem dX4_carryOut_34 : decode cX4_carryOut 34 = .ok (.getfield 28, 3) := by decide +kernel
theorem dX4_carryOut_37 : decode cX4_carryOut 37 = .ok (.invokevirtual 84, 3) := by decide +kernel
theorem dX4_carryOut_40 : decode cX4_carryOut 40 = .ok (.iload_n 2, 1) := by decide +kernel
theorem dX4_carryOut_41 : decode cX4_carryOut 41 = .ok (.iadd, 1) := by decide +kernel
theorem dX4_carryOut_42 : decode cX4_carryOut 42 = .ok (.sipush 200, 3) := by decide +kernel
theorem dX4_carryOut_45 : decode cX4_carryOut 45 = .ok (.if_icmp .le 13, 3) := by decide +kernel
theorem dX4_carryOut_48 : decode cX4_carryOut 48 = .ok (.new 52, 3) := by decide +kernel
theorem dX4_carryOut_51 : decode cX4_carryOut 51 = .ok (.dup, 1) := by decide +kernel
theorem dX4_carryOut_52 : decode cX4_carryOut 52 = .ok (.ldc 151, 2) := by decide +kernel
theorem dX4_carryOut_54 : decode cX4_carryOut 54 = .ok (.invokespecial 56, 3) := by decide +kernel
theorem dX4_carryOut_57 : decode cX4_carryOut 57 = .ok (.athrow, 1) := by decide +kernel
theorem dX4_carryOut_58 : decode cX4_carryOut 58 = .ok (.iconst 0, 1) := by decide +kernel
theorem dX4_carryOut_59 : decode cX4_carryOut 59 = .ok (.istore_n 3, 1) := by decide +kernel
theorem dX4_carryOut_60 : decode cX4_carryOut 60 = .ok (.iload_n 3, 1) := by decide +kernel
theorem dX4_carryOut_61 : decode cX4_carryOut 61 = .ok (.iload_n 2, 1) := by decide +kernel
theorem dX4_carryOut_62 : decode cX4_carryOut 62 = .ok (.if_icmp .ge 24, 3) := by decide +kernel
theorem dX4_carryOut_65 : decode cX4_carryOut 65 = .ok (.aload_n 0, 1) := by decide +kernel
theorem dX4_carryOut_66 : decode cX4_carryOut 66 = .ok (.aload_n 0, 1) := by decide +kernel
theorem dX4_carryOut_67 : decode cX4_carryOut 67 = .ok (.getfield 32, 3) := by decide +kernel
theorem dX4_carryOut_70 : decode cX4_carryOut 70 = .ok (.iload_n 3, 1) := by decide +kernel
theorem dX4_carryOut_71 : decode cX4_carryOut 71 = .ok (.invokevirtual 141, 3) := by decide +kernel
theorem dX4_carryOut_74 : decode cX4_carryOut 74 = .ok (.invokevirtual 93, 3) := by decide +kernel
theorem dX4_carryOut_77 : decode cX4_carryOut 77 = .ok (.ifCond .ne 9, 3) := by decide +kernel
theorem dX4_carryOut_80 : decode cX4_carryOut 80 = .ok (.iinc 3 1, 3) := by decide +kernel
theorem dX4_carryOut_83 : decode cX4_carryOut 83 = .ok (.goto (-23), 3) := by decide +kernel
theorem dX4_carryOut_86 : decode cX4_carryOut 86 = .ok (.aload_n 0, 1) := by decide +kernel
theorem dX4_carryOut_87 : decode cX4_carryOut 87 = .ok (.getfield 32, 3) := by decide +kernel
theorem dX4_carryOut_90 : decode cX4_carryOut 90 = .ok (.iload_n 3, 1) := by decide +kernel
theorem dX4_carryOut_91 : decode cX4_carryOut 91 = .ok (.invokevirtual 134, 3) := by decide +kernel
theorem dX4_carryOut_94 : decode cX4_carryOut 94 = .ok (.iload_n 3, 1) := by decide +kernel
theorem dX4_carryOut_95 : decode cX4_carryOut 95 = .ok (.ireturn, 1) := by decide +kernel
set_option maxRecDepth 20000 in
theorem ggX4_writeBack_X0_size : GoodIn wsX4_writeBack wsX0_size := goodIn_r _ [11, 12, 46, 47] (by decide +kernel) (by decide +kernel)
set_option maxRecDepth 20000 in
theorem gX4_writeBack_X0_size : GoodIn wsX4_writeBack (wsV RX4 84 RX0 yX0_size wsX0_size) := goodIn_app (goodIn_of _ (by decide +kernel)) ggX4_writeBack_X0_size
set_option maxRecDepth 20000 in
theorem ggX4_writeBack_X0_dropFirst : GoodIn wsX4_writeBack wsX0_dropFirst := goodIn_r _ [16, 12, 17, 46, 47] (by decide +kernel) (by decide +kernel)
set_option maxRecDepth 20000 in
theorem gX4_writeBack_X0_dropFirst : GoodIn wsX4_writeBack (wsV RX4 134 RX0 yX0_dropFirst wsX0_dropFirst) := goodIn_app (goodIn_of _ (by decide +kernel)) ggX4_writeBack_X0_dropFirst
set_option maxRecDepth 20000 in
theorem ggX4_writeBack_X0_latest : GoodIn wsX4_writeBack wsX0_latest := goodIn_r _ [21, 17, 12, 46, 47] (by decide +kernel) (by decide +kernel)
set_option maxRecDepth 20000 in
theorem gX4_writeBack_X0_latest : GoodIn wsX4_writeBack (wsV RX4 103 RX0 yX0_latest wsX0_latest) := goodIn_app (goodIn_of _ (by decide +kernel)) ggX4_writeBack_X0_latest
set_option maxRecDepth 20000 in
theorem ggX4_writeBack_X4_oppositeOf : GoodIn wsX4_writeBack wsX4_oppositeOf := goodIn_r _ [25, 26, 27, 24, 28, 29, 30, 31, 32, 33, 34] (by decide +kernel) (by decide +kernel)
set_option maxRecDepth 20000 in
theorem gX4_writeBack_X4_oppositeOf : GoodIn wsX4_writeBack (va_wsS RX4 106 yX4_oppositeOf wsX4_oppositeOf) := goodIn_app (goodIn_of _ (by decide +kernel)) ggX4_writeBack_X4_oppositeOf
set_option maxRecDepth 20000 in
theorem ggX4_writeBack_X0_append : GoodIn wsX4_writeBack wsX0_append := goodIn_r _ [38, 17, 12, 46, 47] (by decide +kernel) (by decide +kernel)
set_option maxRecDepth 20000 in
theorem gX4_writeBack_X0_append : GoodIn wsX4_writeBack (wsV RX4 131 RX0 yX0_append wsX0_append) := goodIn_app (goodIn_of _ (by decide +kernel)) ggX4_writeBack_X0_append
theorem dX4_writeBack_0 : decode cX4_writeBack 0 = .ok (.aload_n 0, 1) := by decide +kernel
theorem dX4_writeBack_1 : decode cX4_writeBack 1 = .ok (.getfield 28, 3) := by decide +kernel
theorem dX4_writeBack_4 : decode cX4_writeBack 4 = .ok (.invokevirtual 84, 3) := by decide +kernel
theorem dX4_writeBack_7 : decode cX4_writeBack 7 = .ok (.bipush 30, 2) := by decide +kernel
theorem dX4_writeBack_9 : decode cX4_writeBack 9 = .ok (.invokestatic 146, 3) := by decide +kernel
theorem dX4_writeBack_12 : decode cX4_writeBack 12 = .ok (.istore_n 1, 1) := by decide +kernel
theorem dX4_writeBack_13 : decode cX4_writeBack 13 = .ok (.aload_n 0, 1) := by decide +kernel
theorem dX4_writeBack_14 : decode cX4_writeBack 14 = .ok (.getfield 32, 3) := by decide +kernel
theorem dX4_writeBack_17 : decode cX4_writeBack 17 = .ok (.aload_n 0, 1) := by decide +kernel
theorem dX4_writeBack_18 : decode cX4_writeBack 18 = .ok (.getfield 32, 3) := by decide +kernel
theorem dX4_writeBack_21 : decode cX4_writeBack 21 = .ok (.invokevirtual 84, 3) := by decide +kernel
theorem dX4_writeBack_24 : decode cX4_writeBack 24 = .ok (.invokevirtual 134, 3) := by decide +kernel
theorem dX4_writeBack_27 : decode cX4_writeBack 27 = .ok (.iconst 0, 1) := by decide +kernel
theorem dX4_writeBack_28 : decode cX4_writeBack 28 = .ok (.istore_n 2, 1) := by decide +kernel
theorem dX4_writeBack_29 : decode cX4_writeBack 29 = .ok (.iload_n 2, 1) := by decide +kernel
theorem dX4_writeBack_30 : decode cX4_writeBack 30 = .ok (.iload_n 1, 1) := by decide +kernel
theorem dX4_writeBack_31 : decode cX4_writeBack 31 = .ok (.if_icmp .ge 27, 3) := by decide +kernel
theorem dX4_writeBack_34 : decode cX4_writeBack 34 = .ok (.aload_n 0, 1) := by decide +kernel
theorem dX4_writeBack_35 : decode cX4_writeBack 35 = .ok (.getfield 32, 3) := by decide +kernel
theorem dX4_writeBack_38 : decode cX4_writeBack 38 = .ok (.aload_n 0, 1) := by decide +kernel
theorem dX4_writeBack_39 : decode cX4_writeBack 39 = .ok (.getfield 28, 3) := by decide +kernel
theorem dX4_writeBack_42 : decode cX4_writeBack 42 = .ok (.iload_n 2, 1) := by decide +kernel
theorem dX4_writeBack_43 : decode cX4_writeBack 43 = .ok (.invokevirtual 103, 3) := by decide +kernel
theorem dX4_writeBack_46 : decode cX4_writeBack 46 = .ok (.invokestatic 106, 3) := by decide +kernel
theorem dX4_writeBack_49 : decode cX4_writeBack 49 = .ok (.invokevirtual 131, 3) := by decide +kernel
theorem dX4_writeBack_52 : decode cX4_writeBack 52 = .ok (.iinc 2 1, 3) := by decide +kernel
theorem dX4_writeBack_55 : decode cX4_writeBack 55 = .ok (.goto (-26), 3) := by decide +kernel
theorem dX4_writeBack_58 : decode cX4_writeBack 58 = .ok (.iload_n 1, 1) := by decide +kernel
theorem dX4_writeBack_59 : decode cX4_writeBack 59 = .ok (.ireturn, 1) := by decide +kernel
set_option maxRecDepth 20000 in
theorem ggX4_permit_X1_allNodes : GoodIn wsX4_permit wsX1_allNodes := goodIn_r _ [11, 12, 59, 60, 61, 62, 63, 64] (by decide +kernel) (by decide +kernel)
set_option maxRecDepth 20000 in
theorem gX4_permit_X1_allNodes : GoodIn wsX4_permit (wsV RX4 153 RX1 yX1_allNodes wsX1_allNodes) := goodIn_app (goodIn_of _ (by decide +kernel)) ggX4_permit_X1_allNodes
set_option maxRecDepth 20000 in
theorem ggX4_permit_X4_canBeHeld : GoodIn wsX4_permit wsX4_canBeHeld := goodIn_r _ [17, 18, 6, 19, 20, 21, 16, 22, 5, 23, 24, 25, 10, 26, 27, 28, 29, 30, 12, 31, 32, 33, 34, 35, 36, 37, 38, 39, 40, 41, 42, 43, 52, 53, 54, 55, 56, 57, 58, 65, 66, 67, 59, 60, 61, 62, 63, 64, 68, 69] (by decide +kernel) (by decide +kernel)
set_option maxRecDepth 20000 in
theorem gX4_permit_X4_canBeHeld : GoodIn wsX4_permit (wsV RX4 158 RX4 yX4_canBeHeld wsX4_canBeHeld) := goodIn_app (goodIn_of _ (by decide +kernel)) ggX4_permit_X4_canBeHeld
set_option maxRecDepth 20000 in
theorem ggX4_permit_X2_given : GoodIn wsX4_permit wsX2_given := goodIn_r _ [47, 42, 68, 69] (by decide +kernel) (by decide +kernel)
set_option maxRecDepth 20000 in
theorem gX4_permit_X2_given : GoodIn wsX4_permit (wsV RX4 164 RX2 yX2_given wsX2_given) := goodIn_app (goodIn_of _ (by decide +kernel)) ggX4_permit_X2_given
set_option maxRecDepth 20000 in
theorem ggX4_permit_X2_give : GoodIn wsX4_permit wsX2_give := goodIn_r _ [51, 43, 42, 68, 69] (by decide +kernel) (by decide +kernel)
set_option maxRecDepth 20000 in
theorem gX4_permit_X2_give : GoodIn wsX4_permit (wsV RX4 169 RX2 yX2_give wsX2_give) := goodIn_app (goodIn_of _ (by decide +kernel)) ggX4_permit_X2_give
theorem dX4_permit_0 : decode cX4_permit 0 = .ok (.iload_n 1, 1) := by decide +kernel
theorem dX4_permit_1 : decode cX4_permit 1 = .ok (.ifCond .eq 17, 3) := by decide +kernel
theorem dX4_permit_4 : decode cX4_permit 4 = .ok (.iload_n 1, 1) := by decide +kernel
theorem dX4_permit_5 : decode cX4_permit 5 = .ok (.aload_n 0, 1) := by decide +kernel
theorem dX4_permit_6 : decode cX4_permit 6 = .ok (.getfield 10, 3) := by decide +kernel
theorem dX4_permit_9 : decode cX4_permit 9 = .ok (.invokevirtual 153, 3) := by decide +kernel
theorem dX4_permit_12 : decode cX4_permit 12 = .ok (.iconst (-1), 1) := by decide +kernel
theorem dX4_permit_13 : decode cX4_permit 13 = .ok (.ixor, 1) := by decide +kernel
theorem dX4_permit_14 : decode cX4_permit 14 = .ok (.iand, 1) := by decide +kernel
theorem dX4_permit_15 : decode cX4_permit 15 = .ok (.ifCond .eq 13, 3) := by decide +kernel
theorem dX4_permit_18 : decode cX4_permit 18 = .ok (.new 66, 3) := by decide +kernel
theorem dX4_permit_21 : decode cX4_permit 21 = .ok (.dup, 1) := by decide +kernel
theorem dX4_permit_22 : decode cX4_permit 22 = .ok (.ldc 156, 2) := by decide +kernel
theorem dX4_permit_24 : decode cX4_permit 24 = .ok (.invokespecial 70, 3) := by decide +kernel
theorem dX4_permit_27 : decode cX4_permit 27 = .ok (.athrow, 1) := by decide +kernel
theorem dX4_permit_28 : decode cX4_permit 28 = .ok (.aload_n 0, 1) := by decide +kernel
theorem dX4_permit_29 : decode cX4_permit 29 = .ok (.iload_n 1, 1) := by decide +kernel
theorem dX4_permit_30 : decode cX4_permit 30 = .ok (.invokevirtual 158, 3) := by decide +kernel
theorem dX4_permit_33 : decode cX4_permit 33 = .ok (.ifCond .ne 13, 3) := by decide +kernel
theorem dX4_permit_36 : decode cX4_permit 36 = .ok (.new 52, 3) := by decide +kernel
theorem dX4_permit_39 : decode cX4_permit 39 = .ok (.dup, 1) := by decide +kernel
theorem dX4_permit_40 : decode cX4_permit 40 = .ok (.ldc 162, 2) := by decide +kernel
theorem dX4_permit_42 : decode cX4_permit 42 = .ok (.invokespecial 56, 3) := by decide +kernel
theorem dX4_permit_45 : decode cX4_permit 45 = .ok (.athrow, 1) := by decide +kernel
theorem dX4_permit_46 : decode cX4_permit 46 = .ok (.aload_n 0, 1) := by decide +kernel
theorem dX4_permit_47 : decode cX4_permit 47 = .ok (.getfield 38, 3) := by decide +kernel
theorem dX4_permit_50 : decode cX4_permit 50 = .ok (.invokevirtual 164, 3) := by decide +kernel
theorem dX4_permit_53 : decode cX4_permit 53 = .ok (.bipush 10, 2) := by decide +kernel
theorem dX4_permit_55 : decode cX4_permit 55 = .ok (.if_icmp .lt 13, 3) := by decide +kernel
theorem dX4_permit_58 : decode cX4_permit 58 = .ok (.new 52, 3) := by decide +kernel
theorem dX4_permit_61 : decode cX4_permit 61 = .ok (.dup, 1) := by decide +kernel
theorem dX4_permit_62 : decode cX4_permit 62 = .ok (.ldc 167, 2) := by decide +kernel
theorem dX4_permit_64 : decode cX4_permit 64 = .ok (.invokespecial 56, 3) := by decide +kernel
theorem dX4_permit_67 : decode cX4_permit 67 = .ok (.athrow, 1) := by decide +kernel
theorem dX4_permit_68 : decode cX4_permit 68 = .ok (.aload_n 0, 1) := by decide +kernel
theorem dX4_permit_69 : decode cX4_permit 69 = .ok (.getfield 38, 3) := by decide +kernel
theorem dX4_permit_72 : decode cX4_permit 72 = .ok (.iload_n 1, 1) := by decide +kernel
theorem dX4_permit_73 : decode cX4_permit 73 = .ok (.invokevirtual 169, 3) := by decide +kernel
theorem dX4_permit_76 : decode cX4_permit 76 = .ok (.ireturn, 1) := by decide +kernel
set_option maxRecDepth 20000 in
theorem ggX4_handBack_X2_given : GoodIn wsX4_handBack wsX2_given := goodIn_r _ [10, 11, 33, 34] (by decide +kernel) (by decide +kernel)
set_option maxRecDepth 20000 in
theorem gX4_handBack_X2_given : GoodIn wsX4_handBack (wsV RX4 164 RX2 yX2_given wsX2_given) := goodIn_app (goodIn_of _ (by decide +kernel)) ggX4_handBack_X2_given
set_option maxRecDepth 20000 in
theorem ggX4_handBack_X2_isHeld : GoodIn wsX4_handBack wsX2_isHeld := goodIn_r _ [15, 16, 33, 34] (by decide +kernel) (by decide +kernel)
set_option maxRecDepth 20000 in
theorem gX4_handBack_X2_isHeld : GoodIn wsX4_handBack (wsV RX4 174 RX2 yX2_isHeld wsX2_isHeld) := goodIn_app (goodIn_of _ (by decide +kernel)) ggX4_handBack_X2_isHeld
set_option maxRecDepth 20000 in
theorem ggX4_handBack_X2_release : GoodIn wsX4_handBack wsX2_release := goodIn_r _ [20, 16, 33, 34] (by decide +kernel) (by decide +kernel)
set_option maxRecDepth 20000 in
theorem gX4_handBack_X2_release : GoodIn wsX4_handBack (wsV RX4 179 RX2 yX2_release wsX2_release) := goodIn_app (goodIn_of _ (by decide +kernel)) ggX4_handBack_X2_release
set_option maxRecDepth 20000 in
theorem ggX4_handBack_X2_countHeld : GoodIn wsX4_handBack wsX2_countHeld := goodIn_r _ [24, 11, 25, 13, 14, 9, 15, 16, 33, 34] (by decide +kernel) (by decide +kernel)
set_option maxRecDepth 20000 in
theorem gX4_handBack_X2_countHeld : GoodIn wsX4_handBack (wsV RX4 182 RX2 yX2_countHeld wsX2_countHeld) := goodIn_app (goodIn_of _ (by decide +kernel)) ggX4_handBack_X2_countHeld
theorem dX4_handBack_0 : decode cX4_handBack 0 = .ok (.iload_n 1, 1) := by decide +kernel
theorem dX4_handBack_1 : decode cX4_handBack 1 = .ok (.ifCond .lt 14, 3) := by decide +kernel
theorem dX4_handBack_4 : decode cX4_handBack 4 = .ok (.iload_n 1, 1) := by decide +kernel
theorem dX4_handBack_5 : decode cX4_handBack 5 = .ok (.aload_n 0, 1) := by decide +kernel
theorem dX4_handBack_6 : decode cX4_handBack 6 = .ok (.getfield 38, 3) := by decide +kernel
theorem dX4_handBack_9 : decode cX4_handBack 9 = .ok (.invokevirtual 164, 3) := by decide +kernel
theorem dX4_handBack_12 : decode cX4_handBack 12 = .ok (.if_icmp .lt 13, 3) := by decide +kernel
theorem dX4_handBack_15 : decode cX4_handBack 15 = .ok (.new 121, 3) := by decide +kernel
theorem dX4_handBack_18 : decode cX4_handBack 18 = .ok (.dup, 1) := by decide +kernel
theorem dX4_handBack_19 : decode cX4_handBack 19 = .ok (.ldc 172, 2) := by decide +kernel
theorem dX4_handBack_21 : decode cX4_handBack 21 = .ok (.invokespecial 125, 3) := by decide +kernel
theorem dX4_handBack_24 : decode cX4_handBack 24 = .ok (.athrow, 1) := by decide +kernel
theorem dX4_handBack_25 : decode cX4_handBack 25 = .ok (.aload_n 0, 1) := by decide +kernel
theorem dX4_handBack_26 : decode cX4_handBack 26 = .ok (.getfield 38, 3) := by decide +kernel
theorem dX4_handBack_29 : decode cX4_handBack 29 = .ok (.iload_n 1, 1) := by decide +kernel
theorem dX4_handBack_30 : decode cX4_handBack 30 = .ok (.invokevirtual 174, 3) := by decide +kernel
theorem dX4_handBack_33 : decode cX4_handBack 33 = .ok (.ifCond .ne 13, 3) := by decide +kernel
theorem dX4_handBack_36 : decode cX4_handBack 36 = .ok (.new 52, 3) := by decide +kernel
theorem dX4_handBack_39 : decode cX4_handBack 39 = .ok (.dup, 1) := by decide +kernel
theorem dX4_handBack_40 : decode cX4_handBack 40 = .ok (.ldc 177, 2) := by decide +kernel
theorem dX4_handBack_42 : decode cX4_handBack 42 = .ok (.invokespecial 56, 3) := by decide +kernel
theorem dX4_handBack_45 : decode cX4_handBack 45 = .ok (.athrow, 1) := by decide +kernel
theorem dX4_handBack_46 : decode cX4_handBack 46 = .ok (.aload_n 0, 1) := by decide +kernel
theorem dX4_handBack_47 : decode cX4_handBack 47 = .ok (.getfield 38, 3) := by decide +kernel
theorem dX4_handBack_50 : decode cX4_handBack 50 = .ok (.iload_n 1, 1) := by decide +kernel
theorem dX4_handBack_51 : decode cX4_handBack 51 = .ok (.invokevirtual 179, 3) := by decide +kernel
theorem dX4_handBack_54 : decode cX4_handBack 54 = .ok (.aload_n 0, 1) := by decide +kernel
theorem dX4_handBack_55 : decode cX4_handBack 55 = .ok (.getfield 38, 3) := by decide +kernel
theorem dX4_handBack_58 : decode cX4_handBack 58 = .ok (.invokevirtual 182, 3) := by decide +kernel
theorem dX4_handBack_61 : decode cX4_handBack 61 = .ok (.ireturn, 1) := by decide +kernel
set_option maxRecDepth 20000 in
theorem ggX4_held_X2_heldNodes : GoodIn wsX4_held wsX2_heldNodes := goodIn_r _ [6, 7, 8, 16, 17] (by decide +kernel) (by decide +kernel)
set_option maxRecDepth 20000 in
theorem gX4_held_X2_heldNodes : GoodIn wsX4_held (wsV RX4 185 RX2 yX2_heldNodes wsX2_heldNodes) := goodIn_app (goodIn_of _ (by decide +kernel)) ggX4_held_X2_heldNodes
theorem dX4_held_0 : decode cX4_held 0 = .ok (.aload_n 0, 1) := by decide +kernel
theorem dX4_held_1 : decode cX4_held 1 = .ok (.getfield 38, 3) := by decide +kernel
theorem dX4_held_4 : decode cX4_held 4 = .ok (.invokevirtual 185, 3) := by decide +kernel
theorem dX4_held_7 : decode cX4_held 7 = .ok (.ireturn, 1) := by decide +kernel
set_option maxRecDepth 20000 in
theorem ggX4_isClosed_X1_hasSwitch : GoodIn wsX4_isClosed wsX1_hasSwitch := goodIn_r _ [9, 10, 26, 27, 28, 29, 30, 31] (by decide +kernel) (by decide +kernel)
set_option maxRecDepth 20000 in
theorem gX4_isClosed_X1_hasSwitch : GoodIn wsX4_isClosed (wsV RX4 188 RX1 yX1_hasSwitch wsX1_hasSwitch) := goodIn_app (goodIn_of _ (by decide +kernel)) ggX4_isClosed_X1_hasSwitch
set_option maxRecDepth 20000 in
theorem ggX4_isClosed_X3_isOn : GoodIn wsX4_isClosed wsX3_isOn := goodIn_r _ [15, 16, 17, 18, 32, 33, 34] (by decide +kernel) (by decide +kernel)
set_option maxRecDepth 20000 in
theorem gX4_isClosed_X3_isOn : GoodIn wsX4_isClosed (wsV RX4 193 RX3 yX3_isOn wsX3_isOn) := goodIn_app (goodIn_of _ (by decide +kernel)) ggX4_isClosed_X3_isOn
theorem dX4_isClosed_0 : decode cX4_isClosed 0 = .ok (.aload_n 0, 1) := by decide +kernel
theorem dX4_isClosed_1 : decode cX4_isClosed 1 = .ok (.getfield 10, 3) := by decide +kernel
theorem dX4_isClosed_4 : decode cX4_isClosed 4 = .ok (.iload_n 1, 1) := by decide +kernel
theorem dX4_isClosed_5 : decode cX4_isClosed 5 = .ok (.invokevirtual 188, 3) := by decide +kernel
theorem dX4_isClosed_8 : decode cX4_isClosed 8 = .ok (.ifCond .ne 13, 3) := by decide +kernel
theorem dX4_isClosed_11 : decode cX4_isClosed 11 = .ok (.new 121, 3) := by decide +kernel
theorem dX4_isClosed_14 : decode cX4_isClosed 14 = .ok (.dup, 1) := by decide +kernel
theorem dX4_isClosed_15 : decode cX4_isClosed 15 = .ok (.ldc 191, 2) := by decide +kernel
theorem dX4_isClosed_17 : decode cX4_isClosed 17 = .ok (.invokespecial 125, 3) := by decide +kernel
theorem dX4_isClosed_20 : decode cX4_isClosed 20 = .ok (.athrow, 1) := by decide +kernel
theorem dX4_isClosed_21 : decode cX4_isClosed 21 = .ok (.aload_n 0, 1) := by decide +kernel
theorem dX4_isClosed_22 : decode cX4_isClosed 22 = .ok (.getfield 19, 3) := by decide +kernel
theorem dX4_isClosed_25 : decode cX4_isClosed 25 = .ok (.iconst 1, 1) := by decide +kernel
theorem dX4_isClosed_26 : decode cX4_isClosed 26 = .ok (.iload_n 1, 1) := by decide +kernel
theorem dX4_isClosed_27 : decode cX4_isClosed 27 = .ok (.invokevirtual 193, 3) := by decide +kernel
theorem dX4_isClosed_30 : decode cX4_isClosed 30 = .ok (.ireturn, 1) := by decide +kernel
set_option maxRecDepth 20000 in
theorem ggX4_live_X1_liveNodes : GoodIn wsX4_live wsX1_liveNodes := goodIn_r _ [7, 8, 9, 10, 6, 11, 12, 13, 14, 22, 23, 24, 25, 26, 27, 28, 29, 30] (by decide +kernel) (by decide +kernel)
set_option maxRecDepth 20000 in
theorem gX4_live_X1_liveNodes : GoodIn wsX4_live (wsV RX4 197 RX1 yX1_liveNodes wsX1_liveNodes) := goodIn_app (goodIn_of _ (by decide +kernel)) ggX4_live_X1_liveNodes
theorem dX4_live_0 : decode cX4_live 0 = .ok (.aload_n 0, 1) := by decide +kernel
theorem dX4_live_1 : decode cX4_live 1 = .ok (.getfield 10, 3) := by decide +kernel
theorem dX4_live_4 : decode cX4_live 4 = .ok (.aload_n 0, 1) := by decide +kernel
theorem dX4_live_5 : decode cX4_live 5 = .ok (.getfield 19, 3) := by decide +kernel
theorem dX4_live_8 : decode cX4_live 8 = .ok (.invokevirtual 197, 3) := by decide +kernel
theorem dX4_live_11 : decode cX4_live 11 = .ok (.ireturn, 1) := by decide +kernel
set_option maxRecDepth 20000 in
theorem ggX4_loaded_X1_loadedNodes : GoodIn wsX4_loaded wsX1_loadedNodes := goodIn_r _ [7, 8, 9, 10, 11, 6, 12, 13, 14, 15, 23, 24, 25, 26, 27, 28, 29, 30, 31] (by decide +kernel) (by decide +kernel)
set_option maxRecDepth 20000 in
theorem gX4_loaded_X1_loadedNodes : GoodIn wsX4_loaded (wsV RX4 201 RX1 yX1_loadedNodes wsX1_loadedNodes) := goodIn_app (goodIn_of _ (by decide +kernel)) ggX4_loaded_X1_loadedNodes
theorem dX4_loaded_0 : decode cX4_loaded 0 = .ok (.aload_n 0, 1) := by decide +kernel
theorem dX4_loaded_1 : decode cX4_loaded 1 = .ok (.getfield 10, 3) := by decide +kernel
theorem dX4_loaded_4 : decode cX4_loaded 4 = .ok (.aload_n 0, 1) := by decide +kernel
theorem dX4_loaded_5 : decode cX4_loaded 5 = .ok (.getfield 19, 3) := by decide +kernel
theorem dX4_loaded_8 : decode cX4_loaded 8 = .ok (.invokevirtual 201, 3) := by decide +kernel
theorem dX4_loaded_11 : decode cX4_loaded 11 = .ok (.ireturn, 1) := by decide +kernel
set_option maxRecDepth 20000 in
theorem ggX4_earthed_X1_earthedNodes : GoodIn wsX4_earthed wsX1_earthedNodes := goodIn_r _ [7, 8, 9, 10, 6, 11, 12, 13, 14, 22, 23, 24, 25, 26, 27, 28, 29, 30] (by decide +kernel) (by decide +kernel)
set_option maxRecDepth 20000 in
theorem gX4_earthed_X1_earthedNodes : GoodIn wsX4_earthed (wsV RX4 204 RX1 yX1_earthedNodes wsX1_earthedNodes) := goodIn_app (goodIn_of _ (by decide +kernel)) ggX4_earthed_X1_earthedNodes
theorem dX4_earthed_0 : decode cX4_earthed 0 = .ok (.aload_n 0, 1) := by decide +kernel
theorem dX4_earthed_1 : decode cX4_earthed 1 = .ok (.getfield 10, 3) := by decide +kernel
theorem dX4_earthed_4 : decode cX4_earthed 4 = .ok (.aload_n 0, 1) := by decide +kernel
theorem dX4_earthed_5 : decode cX4_earthed 5 = .ok (.getfield 19, 3) := by decide +kernel
theorem dX4_earthed_8 : decode cX4_earthed 8 = .ok (.invokevirtual 204, 3) := by decide +kernel
theorem dX4_earthed_11 : decode cX4_earthed 11 = .ok (.ireturn, 1) := by decide +kernel
set_option maxRecDepth 20000 in
theorem ggX4_part_X4_requireNode : GoodIn wsX4_part wsX4_requireNode := goodIn_ca (goodIn_r _ [7, 8, 9, 1, 10, 11, 12, 13, 14, 15, 22, 23, 24, 25, 26, 27, 28, 29, 30, 31, 32, 33, 34] (by decide +kernel) (by decide +kernel)) (goodIn_sub (fun _ h => List.mem_cons_of_mem _ (List.mem_append_right _ h)) (by decide +kernel))
set_option maxRecDepth 20000 in
theorem gX4_part_X4_requireNode : GoodIn wsX4_part (wsV RX4 63 RX4 yX4_requireNode wsX4_requireNode) := goodIn_app (goodIn_of _ (by decide +kernel)) ggX4_part_X4_requireNode
set_option maxRecDepth 20000 in
theorem ggX4_part_X1_connectedWith : GoodIn wsX4_part wsX1_connectedWith := goodIn_r _ [19, 15, 20, 21, 29, 30, 31, 32, 33, 34, 35, 36, 37] (by decide +kernel) (by decide +kernel)
set_option maxRecDepth 20000 in
theorem gX4_part_X1_connectedWith : GoodIn wsX4_part (wsV RX4 207 RX1 yX1_connectedWith wsX1_connectedWith) := goodIn_app (goodIn_of _ (by decide +kernel)) ggX4_part_X1_connectedWith
theorem dX4_part_0 : decode cX4_part 0 = .ok (.aload_n 0, 1) := by decide +kernel
theorem dX4_part_1 : decode cX4_part 1 = .ok (.iload_n 1, 1) := by decide +kernel
theorem dX4_part_2 : decode cX4_part 2 = .ok (.invokevirtual 63, 3) := by decide +kernel
theorem dX4_part_5 : decode cX4_part 5 = .ok (.aload_n 0, 1) := by decide +kernel
theorem dX4_part_6 : decode cX4_part 6 = .ok (.getfield 10, 3) := by decide +kernel
theorem dX4_part_9 : decode cX4_part 9 = .ok (.iconst 1, 1) := by decide +kernel
theorem dX4_part_10 : decode cX4_part 10 = .ok (.iload_n 1, 1) := by decide +kernel
theorem dX4_part_11 : decode cX4_part 11 = .ok (.ishl, 1) := by decide +kernel
theorem dX4_part_12 : decode cX4_part 12 = .ok (.aload_n 0, 1) := by decide +kernel
theorem dX4_part_13 : decode cX4_part 13 = .ok (.getfield 19, 3) := by decide +kernel
theorem dX4_part_16 : decode cX4_part 16 = .ok (.invokevirtual 207, 3) := by decide +kernel
theorem dX4_part_19 : decode cX4_part 19 = .ok (.ireturn, 1) := by decide +kernel
set_option maxRecDepth 20000 in
theorem ggX4_parts_X1_countParts : GoodIn wsX4_parts wsX1_countParts := goodIn_r _ [7, 8, 9, 10, 11, 6, 12, 13, 14, 15, 16, 17, 18, 26, 27, 28, 29, 30, 31, 32, 33, 34] (by decide +kernel) (by decide +kernel)
set_option maxRecDepth 20000 in
theorem gX4_parts_X1_countParts : GoodIn wsX4_parts (wsV RX4 211 RX1 yX1_countParts wsX1_countParts) := goodIn_app (goodIn_of _ (by decide +kernel)) ggX4_parts_X1_countParts
theorem dX4_parts_0 : decode cX4_parts 0 = .ok (.aload_n 0, 1) := by decide +kernel
theorem dX4_parts_1 : decode cX4_parts 1 = .ok (.getfield 10, 3) := by decide +kernel
theorem dX4_parts_4 : decode cX4_parts 4 = .ok (.aload_n 0, 1) := by decide +kernel
theorem dX4_parts_5 : decode cX4_parts 5 = .ok (.getfield 19, 3) := by decide +kernel
theorem dX4_parts_8 : decode cX4_parts 8 = .ok (.invokevirtual 211, 3) := by decide +kernel
theorem dX4_parts_11 : decode cX4_parts 11 = .ok (.ireturn, 1) := by decide +kernel
set_option maxRecDepth 20000 in
theorem ggX4_toLive_X4_requireNode : GoodIn wsX4_toLive wsX4_requireNode := goodIn_ca (goodIn_r _ [9, 10, 11, 3, 12, 13, 14, 15, 16, 17, 32, 33, 34, 35, 36, 37, 38, 42, 43, 44, 45, 46, 47] (by decide +kernel) (by decide +kernel)) (goodIn_sub (fun _ h => List.mem_cons_of_mem _ (List.mem_append_right _ h)) (by decide +kernel))
set_option maxRecDepth 20000 in
theorem gX4_toLive_X4_requireNode : GoodIn wsX4_toLive (wsV RX4 63 RX4 yX4_requireNode wsX4_requireNode) := goodIn_app (goodIn_of _ (by decide +kernel)) ggX4_toLive_X4_requireNode
set_option maxRecDepth 20000 in
theorem ggX4_toLive_X1_connectedWith : GoodIn wsX4_toLive wsX1_connectedWith := goodIn_r _ [21, 17, 22, 23, 42, 43, 44, 45, 46, 47, 39, 40, 41] (by decide +kernel) (by decide +kernel)
set_option maxRecDepth 20000 in
theorem gX4_toLive_X1_connectedWith : GoodIn wsX4_toLive (wsV RX4 207 RX1 yX1_connectedWith wsX1_connectedWith) := goodIn_app (goodIn_of _ (by decide +kernel)) ggX4_toLive_X1_connectedWith
set_option maxRecDepth 20000 in
theorem ggX4_toLive_X1_nodeCount : GoodIn wsX4_toLive wsX1_nodeCount := goodIn_r _ [27, 17, 42, 43, 44, 45, 46, 47] (by decide +kernel) (by decide +kernel)
set_option maxRecDepth 20000 in
theorem gX4_toLive_X1_nodeCount : GoodIn wsX4_toLive (wsV RX4 48 RX1 yX1_nodeCount wsX1_nodeCount) := goodIn_app (goodIn_of _ (by decide +kernel)) ggX4_toLive_X1_nodeCount
set_option maxRecDepth 20000 in
theorem ggX4_toLive_X1_withNeighbours : GoodIn wsX4_toLive wsX1_withNeighbours := goodIn_r _ [31, 22, 23, 42, 43, 44, 45, 46, 47] (by decide +kernel) (by decide +kernel)
set_option maxRecDepth 20000 in
theorem gX4_toLive_X1_withNeighbours : GoodIn wsX4_toLive (wsV RX4 218 RX1 yX1_withNeighbours wsX1_withNeighbours) := goodIn_app (goodIn_of _ (by decide +kernel)) ggX4_toLive_X1_withNeighbours
theorem dX4_toLive_0 : decode cX4_toLive 0 = .ok (.aload_n 0, 1) := by decide +kernel
theorem dX4_toLive_1 : decode cX4_toLive 1 = .ok (.iload_n 1, 1) := by decide +kernel
theorem dX4_toLive_2 : decode cX4_toLive 2 = .ok (.invokevirtual 63, 3) := by decide +kernel
theorem dX4_toLive_5 : decode cX4_toLive 5 = .ok (.aload_n 0, 1) := by decide +kernel
theorem dX4_toLive_6 : decode cX4_toLive 6 = .ok (.getfield 10, 3) := by decide +kernel
theorem dX4_toLive_9 : decode cX4_toLive 9 = .ok (.iconst 1, 1) := by decide +kernel
theorem dX4_toLive_10 : decode cX4_toLive 10 = .ok (.iload_n 1, 1) := by decide +kernel
theorem dX4_toLive_11 : decode cX4_toLive 11 = .ok (.ishl, 1) := by decide +kernel
theorem dX4_toLive_12 : decode cX4_toLive 12 = .ok (.aload_n 0, 1) := by decide +kernel
theorem dX4_toLive_13 : decode cX4_toLive 13 = .ok (.getfield 19, 3) := by decide +kernel
theorem dX4_toLive_16 : decode cX4_toLive 16 = .ok (.invokevirtual 207, 3) := by decide +kernel
theorem dX4_toLive_19 : decode cX4_toLive 19 = .ok (.istore_n 2, 1) := by decide +kernel
theorem dX4_toLive_20 : decode cX4_toLive 20 = .ok (.iconst 0, 1) := by decide +kernel
theorem dX4_toLive_21 : decode cX4_toLive 21 = .ok (.istore_n 3, 1) := by decide +kernel
theorem dX4_toLive_22 : decode cX4_toLive 22 = .ok (.iload_n 3, 1) := by decide +kernel
theorem dX4_toLive_23 : decode cX4_toLive 23 = .ok (.aload_n 0, 1) := by decide +kernel
theorem dX4_toLive_24 : decode cX4_toLive 24 = .ok (.getfield 10, 3) := by decide +kernel
theorem dX4_toLive_27 : decode cX4_toLive 27 = .ok (.invokevirtual 48, 3) := by decide +kernel
theorem dX4_toLive_30 : decode cX4_toLive 30 = .ok (.if_icmp .ge 43, 3) := by decide +kernel
theorem dX4_toLive_33 : decode cX4_toLive 33 = .ok (.iload_n 2, 1) := by decide +kernel
theorem dX4_toLive_34 : decode cX4_toLive 34 = .ok (.aload_n 0, 1) := by decide +kernel
theorem dX4_toLive_35 : decode cX4_toLive 35 = .ok (.getfield 19, 3) := by decide +kernel
theorem dX4_toLive_38 : decode cX4_toLive 38 = .ok (.getfield 214, 3) := by decide +kernel
theorem dX4_toLive_41 : decode cX4_toLive 41 = .ok (.iand, 1) := by decide +kernel
theorem dX4_toLive_42 : decode cX4_toLive 42 = .ok (.ifCond .eq 5, 3) := by decide +kernel
theorem dX4_toLive_45 : decode cX4_toLive 45 = .ok (.iload_n 3, 1) := by decide +kernel
theorem dX4_toLive_46 : decode cX4_toLive 46 = .ok (.ireturn, 1) := by decide +kernel
theorem dX4_toLive_47 : decode cX4_toLive 47 = .ok (.aload_n 0, 1) := by decide +kernel
theorem dX4_toLive_48 : decode cX4_toLive 48 = .ok (.getfield 10, 3) := by decide +kernel
theorem dX4_toLive_51 : decode cX4_toLive 51 = .ok (.aload_n 0, 1) := by decide +kernel
theorem dX4_toLive_52 : decode cX4_toLive 52 = .ok (.getfield 10, 3) := by decide +kernel
theorem dX4_toLive_55 : decode cX4_toLive 55 = .ok (.iload_n 2, 1) := by decide +kernel
theorem dX4_toLive_56 : decode cX4_toLive 56 = .ok (.invokevirtual 218, 3) := by decide +kernel
theorem dX4_toLive_59 : decode cX4_toLive 59 = .ok (.aload_n 0, 1) := by decide +kernel
theorem dX4_toLive_60 : decode cX4_toLive 60 = .ok (.getfield 19, 3) := by decide +kernel
theorem dX4_toLive_63 : decode cX4_toLive 63 = .ok (.invokevirtual 207, 3) := by decide +kernel
theorem dX4_toLive_66 : decode cX4_toLive 66 = .ok (.istore_n 2, 1) := by decide +kernel
theorem dX4_toLive_67 : decode cX4_toLive 67 = .ok (.iinc 3 1, 3) := by decide +kernel
theorem dX4_toLive_70 : decode cX4_toLive 70 = .ok (.goto (-48), 3) := by decide +kernel
theorem dX4_toLive_73 : decode cX4_toLive 73 = .ok (.new 221, 3) := by decide +kernel
theorem dX4_toLive_76 : decode cX4_toLive 76 = .ok (.dup, 1) := by decide +kernel
theorem dX4_toLive_77 : decode cX4_toLive 77 = .ok (.ldc 223, 2) := by decide +kernel
theorem dX4_toLive_79 : decode cX4_toLive 79 = .ok (.invokespecial 225, 3) := by decide +kernel
theorem dX4_toLive_82 : decode cX4_toLive 82 = .ok (.athrow, 1) := by decide +kernel
set_option maxRecDepth 20000 in
theorem ggX4_requireNode_X1_hasNode : GoodIn wsX4_requireNode wsX1_hasNode := goodIn_r _ [8, 9, 17, 18, 19, 20, 21, 22] (by decide +kernel) (by decide +kernel)
set_option maxRecDepth 20000 in
theorem gX4_requireNode_X1_hasNode : GoodIn wsX4_requireNode (wsV RX4 226 RX1 yX1_hasNode wsX1_hasNode) := goodIn_app (goodIn_of _ (by decide +kernel)) ggX4_requireNode_X1_hasNode
theorem dX4_requireNode_0 : decode cX4_requireNode 0 = .ok (.aload_n 0, 1) := by decide +kernel
theorem dX4_requireNode_1 : decode cX4_requireNode 1 = .ok (.getfield 10, 3) := by decide +kernel
theorem dX4_requireNode_4 : decode cX4_requireNode 4 = .ok (.iload_n 1, 1) := by decide +kernel
theorem dX4_requireNode_5 : decode cX4_requireNode 5 = .ok (.invokevirtual 226, 3) := by decide +kernel
theorem dX4_requireNode_8 : decode cX4_requireNode 8 = .ok (.ifCond .ne 13, 3) := by decide +kernel
theorem dX4_requireNode_11 : decode cX4_requireNode 11 = .ok (.new 121, 3) := by decide +kernel
theorem dX4_requireNode_14 : decode cX4_requireNode 14 = .ok (.dup, 1) := by decide +kernel
theorem dX4_requireNode_15 : decode cX4_requireNode 15 = .ok (.ldc 229, 2) := by decide +kernel
theorem dX4_requireNode_17 : decode cX4_requireNode 17 = .ok (.invokespecial 125, 3) := by decide +kernel
theorem dX4_requireNode_20 : decode cX4_requireNode 20 = .ok (.athrow, 1) := by decide +kernel
theorem dX4_requireNode_21 : decode cX4_requireNode 21 = .ok (.return_, 1) := by decide +kernel
set_option maxRecDepth 20000 in
theorem ggX4_requireAct_X4_isOfSwitch : GoodIn wsX4_requireAct wsX4_isOfSwitch := goodIn_r _ [9] (by decide +kernel) (by decide +kernel)
set_option maxRecDepth 20000 in
theorem gX4_requireAct_X4_isOfSwitch : GoodIn wsX4_requireAct (va_wsS RX4 233 yX4_isOfSwitch wsX4_isOfSwitch) := goodIn_app (goodIn_of _ (by decide +kernel)) ggX4_requireAct_X4_isOfSwitch
set_option maxRecDepth 20000 in
theorem ggX4_requireAct_X1_hasSwitch : GoodIn wsX4_requireAct wsX1_hasSwitch := goodIn_r _ [14, 15, 28, 29, 30, 31, 32, 33] (by decide +kernel) (by decide +kernel)
set_option maxRecDepth 20000 in
theorem gX4_requireAct_X1_hasSwitch : GoodIn wsX4_requireAct (wsV RX4 188 RX1 yX1_hasSwitch wsX1_hasSwitch) := goodIn_app (goodIn_of _ (by decide +kernel)) ggX4_requireAct_X1_hasSwitch
set_option maxRecDepth 20000 in
theorem ggX4_requireAct_X1_hasNode : GoodIn wsX4_requireAct wsX1_hasNode := goodIn_r _ [19, 20, 28, 29, 30, 31, 32, 33] (by decide +kernel) (by decide +kernel)
set_option maxRecDepth 20000 in
theorem gX4_requireAct_X1_hasNode : GoodIn wsX4_requireAct (wsV RX4 226 RX1 yX1_hasNode wsX1_hasNode) := goodIn_app (goodIn_of _ (by decide +kernel)) ggX4_requireAct_X1_hasNode
theorem dX4_requireAct_0 : decode cX4_requireAct 0 = .ok (.iload_n 1, 1) := by decide +kernel
theorem dX4_requireAct_1 : decode cX4_requireAct 1 = .ok (.ifCond .lt 8, 3) := by decide +kernel
theorem dX4_requireAct_4 : decode cX4_requireAct 4 = .ok (.iload_n 1, 1) := by decide +kernel
theorem dX4_requireAct_5 : decode cX4_requireAct 5 = .ok (.iconst 5, 1) := by decide +kernel
theorem dX4_requireAct_6 : decode cX4_requireAct 6 = .ok (.if_icmp .le 13, 3) := by decide +kernel
theorem dX4_requireAct_9 : decode cX4_requireAct 9 = .ok (.new 66, 3) := by decide +kernel
theorem dX4_requireAct_12 : decode cX4_requireAct 12 = .ok (.dup, 1) := by decide +kernel
theorem dX4_requireAct_13 : decode cX4_requireAct 13 = .ok (.ldc 231, 2) := by decide +kernel
theorem dX4_requireAct_15 : decode cX4_requireAct 15 = .ok (.invokespecial 70, 3) := by decide +kernel
theorem dX4_requireAct_18 : decode cX4_requireAct 18 = .ok (.athrow, 1) := by decide +kernel
theorem dX4_requireAct_19 : decode cX4_requireAct 19 = .ok (.iload_n 1, 1) := by decide +kernel
theorem dX4_requireAct_20 : decode cX4_requireAct 20 = .ok (.invokestatic 233, 3) := by decide +kernel
theorem dX4_requireAct_23 : decode cX4_requireAct 23 = .ok (.ifCond .eq 17, 3) := by decide +kernel
theorem dX4_requireAct_26 : decode cX4_requireAct 26 = .ok (.aload_n 0, 1) := by decide +kernel
theorem dX4_requireAct_27 : decode cX4_requireAct 27 = .ok (.getfield 10, 3) := by decide +kernel
theorem dX4_requireAct_30 : decode cX4_requireAct 30 = .ok (.iload_n 2, 1) := by decide +kernel
theorem dX4_requireAct_31 : decode cX4_requireAct 31 = .ok (.invokevirtual 188, 3) := by decide +kernel
theorem dX4_requireAct_34 : decode cX4_requireAct 34 = .ok (.ifCond .ne 27, 3) := by decide +kernel
theorem dX4_requireAct_37 : decode cX4_requireAct 37 = .ok (.goto 14, 3) := by decide +kernel
theorem dX4_requireAct_40 : decode cX4_requireAct 40 = .ok (.aload_n 0, 1) := by decide +kernel
theorem dX4_requireAct_41 : decode cX4_requireAct 41 = .ok (.getfield 10, 3) := by decide +kernel
theorem dX4_requireAct_44 : decode cX4_requireAct 44 = .ok (.iload_n 2, 1) := by decide +kernel
theorem dX4_requireAct_45 : decode cX4_requireAct 45 = .ok (.invokevirtual 226, 3) := by decide +kernel
theorem dX4_requireAct_48 : decode cX4_requireAct 48 = .ok (.ifCond .ne 13, 3) := by decide +kernel
theorem dX4_requireAct_51 : decode cX4_requireAct 51 = .ok (.new 121, 3) := by decide +kernel
theorem dX4_requireAct_54 : decode cX4_requireAct 54 = .ok (.dup, 1) := by decide +kernel
theorem dX4_requireAct_55 : decode cX4_requireAct 55 = .ok (.ldc 236, 2) := by decide +kernel
theorem dX4_requireAct_57 : decode cX4_requireAct 57 = .ok (.invokespecial 125, 3) := by decide +kernel
theorem dX4_requireAct_60 : decode cX4_requireAct 60 = .ok (.athrow, 1) := by decide +kernel
theorem dX4_requireAct_61 : decode cX4_requireAct 61 = .ok (.return_, 1) := by decide +kernel
set_option maxRecDepth 20000 in
theorem ggX4_reasonIn_X4_isAlreadySo : GoodIn wsX4_reasonIn wsX4_isAlreadySo := goodIn_r _ [7, 8, 9, 10, 11, 12, 13, 14, 15, 16, 17, 18, 19, 20, 21, 22, 23, 24, 6, 25, 101, 102, 103, 104, 105, 106, 107, 108, 109, 110, 111, 112, 113, 114, 115, 116] (by decide +kernel) (by decide +kernel)
set_option maxRecDepth 20000 in
theorem gX4_reasonIn_X4_isAlreadySo : GoodIn wsX4_reasonIn (wsV RX4 238 RX4 yX4_isAlreadySo wsX4_isAlreadySo) := goodIn_app (goodIn_of _ (by decide +kernel)) ggX4_reasonIn_X4_isAlreadySo
set_option maxRecDepth 20000 in
theorem ggX4_reasonIn_X4_touchedNodes : GoodIn wsX4_reasonIn wsX4_touchedNodes := goodIn_r _ [29, 8, 30, 31, 6, 32, 33, 34, 35, 12, 36, 37, 101, 102, 103, 104, 105, 106, 107, 108, 109, 110, 111, 112, 113] (by decide +kernel) (by decide +kernel)
set_option maxRecDepth 20000 in
theorem gX4_reasonIn_X4_touchedNodes : GoodIn wsX4_reasonIn (wsV RX4 242 RX4 yX4_touchedNodes wsX4_touchedNodes) := goodIn_app (goodIn_of _ (by decide +kernel)) ggX4_reasonIn_X4_touchedNodes
set_option maxRecDepth 20000 in
theorem ggX4_reasonIn_X2_heldNodes : GoodIn wsX4_reasonIn wsX2_heldNodes := goodIn_r _ [42, 43, 44, 117, 118] (by decide +kernel) (by decide +kernel)
set_option maxRecDepth 20000 in
theorem gX4_reasonIn_X2_heldNodes : GoodIn wsX4_reasonIn (wsV RX4 185 RX2 yX2_heldNodes wsX2_heldNodes) := goodIn_app (goodIn_of _ (by decide +kernel)) ggX4_reasonIn_X2_heldNodes
set_option maxRecDepth 20000 in
theorem ggX4_reasonIn_X3_copyFrom : GoodIn wsX4_reasonIn wsX3_copyFrom := goodIn_r _ [48, 20, 21, 22, 114, 115, 116] (by decide +kernel) (by decide +kernel)
set_option maxRecDepth 20000 in
theorem gX4_reasonIn_X3_copyFrom : GoodIn wsX4_reasonIn (wsV RX4 137 RX3 yX3_copyFrom wsX3_copyFrom) := goodIn_app (goodIn_of _ (by decide +kernel)) ggX4_reasonIn_X3_copyFrom
set_option maxRecDepth 20000 in
theorem ggX4_reasonIn_X3_flip : GoodIn wsX4_reasonIn wsX3_flip := goodIn_r _ [52, 20, 21, 22, 114, 115, 116] (by decide +kernel) (by decide +kernel)
set_option maxRecDepth 20000 in
theorem gX4_reasonIn_X3_flip : GoodIn wsX4_reasonIn (wsV RX4 115 RX3 yX3_flip wsX3_flip) := goodIn_app (goodIn_of _ (by decide +kernel)) ggX4_reasonIn_X3_flip
set_option maxRecDepth 20000 in
theorem ggX4_reasonIn_X4_isInterlocked : GoodIn wsX4_reasonIn wsX4_isInterlocked := goodIn_r _ [56, 8, 57, 58, 59, 6, 60, 2, 61, 62, 63, 12, 64, 65, 66, 67, 68, 69, 70, 71, 72, 73, 74, 75, 76, 37, 33, 34, 35, 36, 77, 78, 79, 80, 81, 82, 83, 84, 85, 86, 87, 88, 89, 90, 91, 92, 93, 94, 95, 96, 101, 102, 103, 104, 105, 106, 107, 108, 109, 110, 111, 112, 113, 114, 115, 116] (by decide +kernel) (by decide +kernel)
set_option maxRecDepth 20000 in
theorem gX4_reasonIn_X4_isInterlocked : GoodIn wsX4_reasonIn (wsV RX4 245 RX4 yX4_isInterlocked wsX4_isInterlocked) := goodIn_app (goodIn_of _ (by decide +kernel)) ggX4_reasonIn_X4_isInterlocked
set_option maxRecDepth 20000 in
theorem ggX4_reasonIn_X4_areSafe : GoodIn wsX4_reasonIn wsX4_areSafe := goodIn_r _ [100, 8, 89, 90, 91, 12, 92, 71, 72, 73, 74, 75, 76, 37, 85, 86, 87, 88, 101, 102, 103, 104, 105, 106, 107, 114, 115, 116, 108, 109, 110, 111, 112, 113] (by decide +kernel) (by decide +kernel)
set_option maxRecDepth 20000 in
theorem gX4_reasonIn_X4_areSafe : GoodIn wsX4_reasonIn (wsV RX4 248 RX4 yX4_areSafe wsX4_areSafe) := goodIn_app (goodIn_of _ (by decide +kernel)) ggX4_reasonIn_X4_areSafe
theorem dX4_reasonIn_0 : decode cX4_reasonIn 0 = .ok (.aload_n 0, 1) := by decide +kernel
theorem dX4_reasonIn_1 : decode cX4_reasonIn 1 = .ok (.aload_n 1, 1) := by decide +kernel
theorem dX4_reasonIn_2 : decode cX4_reasonIn 2 = .ok (.iload_n 2, 1) := by decide +kernel
theorem dX4_reasonIn_3 : decode cX4_reasonIn 3 = .ok (.iload_n 3, 1) := by decide +kernel
theorem dX4_reasonIn_4 : decode cX4_reasonIn 4 = .ok (.invokevirtual 238, 3) := by decide +kernel
theorem dX4_reasonIn_7 : decode cX4_reasonIn 7 = .ok (.ifCond .eq 5, 3) := by decide +kernel
theorem dX4_reasonIn_10 : decode cX4_reasonIn 10 = .ok (.iconst 1, 1) := by decide +kernel
theorem dX4_reasonIn_11 : decode cX4_reasonIn 11 = .ok (.ireturn, 1) := by decide +kernel
theorem dX4_reasonIn_12 : decode cX4_reasonIn 12 = .ok (.aload_n 0, 1) := by decide +kernel
theorem dX4_reasonIn_13 : decode cX4_reasonIn 13 = .ok (.iload_n 2, 1) := by decide +kernel
theorem dX4_reasonIn_14 : decode cX4_reasonIn 14 = .ok (.iload_n 3, 1) := by decide +kernel
theorem dX4_reasonIn_15 : decode cX4_reasonIn 15 = .ok (.invokevirtual 242, 3) := by decide +kernel
theorem dX4_reasonIn_18 : decode cX4_reasonIn 18 = .ok (.aload_n 0, 1) := by decide +kernel
theorem dX4_reasonIn_19 : decode cX4_reasonIn 19 = .ok (.getfield 38, 3) := by decide +kernel
theorem dX4_reasonIn_22 : decode cX4_reasonIn 22 = .ok (.invokevirtual 185, 3) := by decide +kernel
theorem dX4_reasonIn_25 : decode cX4_reasonIn 25 = .ok (.iand, 1) := by decide +kernel
theorem dX4_reasonIn_26 : decode cX4_reasonIn 26 = .ok (.ifCond .eq 5, 3) := by decide +kernel
theorem dX4_reasonIn_29 : decode cX4_reasonIn 29 = .ok (.iconst 2, 1) := by decide +kernel
theorem dX4_reasonIn_30 : decode cX4_reasonIn 30 = .ok (.ireturn, 1) := by decide +kernel
theorem dX4_reasonIn_31 : decode cX4_reasonIn 31 = .ok (.aload_n 0, 1) := by decide +kernel
theorem dX4_reasonIn_32 : decode cX4_reasonIn 32 = .ok (.getfield 45, 3) := by decide +kernel
theorem dX4_reasonIn_35 : decode cX4_reasonIn 35 = .ok (.aload_n 1, 1) := by decide +kernel
theorem dX4_reasonIn_36 : decode cX4_reasonIn 36 = .ok (.invokevirtual 137, 3) := by decide +kernel
theorem dX4_reasonIn_39 : decode cX4_reasonIn 39 = .ok (.aload_n 0, 1) := by decide +kernel
theorem dX4_reasonIn_40 : decode cX4_reasonIn 40 = .ok (.getfield 45, 3) := by decide +kernel
theorem dX4_reasonIn_43 : decode cX4_reasonIn 43 = .ok (.iload_n 2, 1) := by decide +kernel
theorem dX4_reasonIn_44 : decode cX4_reasonIn 44 = .ok (.iload_n 3, 1) := by decide +kernel
theorem dX4_reasonIn_45 : decode cX4_reasonIn 45 = .ok (.invokevirtual 115, 3) := by decide +kernel
theorem dX4_reasonIn_48 : decode cX4_reasonIn 48 = .ok (.aload_n 0, 1) := by decide +kernel
theorem dX4_reasonIn_49 : decode cX4_reasonIn 49 = .ok (.aload_n 1, 1) := by decide +kernel
theorem dX4_reasonIn_50 : decode cX4_reasonIn 50 = .ok (.iload_n 2, 1) := by decide +kernel
theorem dX4_reasonIn_51 : decode cX4_reasonIn 51 = .ok (.iload_n 3, 1) := by decide +kernel
theorem dX4_reasonIn_52 : decode cX4_reasonIn 52 = .ok (.invokevirtual 245, 3) := by decide +kernel
theorem dX4_reasonIn_55 : decode cX4_reasonIn 55 = .ok (.ifCond .eq 5, 3) := by decide +kernel
theorem dX4_reasonIn_58 : decode cX4_reasonIn 58 = .ok (.iconst 3, 1) := by decide +kernel
theorem dX4_reasonIn_59 : decode cX4_reasonIn 59 = .ok (.ireturn, 1) := by decide +kernel
theorem dX4_reasonIn_60 : decode cX4_reasonIn 60 = .ok (.aload_n 0, 1) := by decide +kernel
theorem dX4_reasonIn_61 : decode cX4_reasonIn 61 = .ok (.aload_n 0, 1) := by decide +kernel
theorem dX4_reasonIn_62 : decode cX4_reasonIn 62 = .ok (.getfield 38, 3) := by decide +kernel
theorem dX4_reasonIn_65 : decode cX4_reasonIn 65 = .ok (.invokevirtual 185, 3) := by decide +kernel
theorem dX4_reasonIn_68 : decode cX4_reasonIn 68 = .ok (.aload_n 0, 1) := by decide +kernel
theorem dX4_reasonIn_69 : decode cX4_reasonIn 69 = .ok (.getfield 45, 3) := by decide +kernel
theorem dX4_reasonIn_72 : decode cX4_reasonIn 72 = .ok (.invokevirtual 248, 3) := by decide +kernel
theorem dX4_reasonIn_75 : decode cX4_reasonIn 75 = .ok (.ifCond .eq 7, 3) := by decide +kernel
theorem dX4_reasonIn_78 : decode cX4_reasonIn 78 = .ok (.iconst 0, 1) := by decide +kernel
theorem dX4_reasonIn_79 : decode cX4_reasonIn 79 = .ok (.goto 4, 3) := by decide +kernel
theorem dX4_reasonIn_82 : decode cX4_reasonIn 82 = .ok (.iconst 4, 1) := by decide +kernel
theorem dX4_reasonIn_83 : decode cX4_reasonIn 83 = .ok (.ireturn, 1) := by decide +kernel
set_option maxRecDepth 20000 in
theorem ggX4_isAlreadySo_X1_hasSource : GoodIn wsX4_isAlreadySo wsX1_hasSource := goodIn_r _ [6, 7, 27, 28, 29, 30, 31, 32] (by decide +kernel) (by decide +kernel)
set_option maxRecDepth 20000 in
theorem gX4_isAlreadySo_X1_hasSource : GoodIn wsX4_isAlreadySo (wsV RX4 252 RX1 yX1_hasSource wsX1_hasSource) := goodIn_app (goodIn_of _ (by decide +kernel)) ggX4_isAlreadySo_X1_hasSource
set_option maxRecDepth 20000 in
theorem ggX4_isAlreadySo_X3_isOn : GoodIn wsX4_isAlreadySo wsX3_isOn := goodIn_r _ [12, 13, 14, 15, 33, 34, 35] (by decide +kernel) (by decide +kernel)
set_option maxRecDepth 20000 in
theorem gX4_isAlreadySo_X3_isOn : GoodIn wsX4_isAlreadySo (wsV RX4 193 RX3 yX3_isOn wsX3_isOn) := goodIn_app (goodIn_of _ (by decide +kernel)) ggX4_isAlreadySo_X3_isOn
set_option maxRecDepth 20000 in
theorem ggX4_isAlreadySo_X4_turnsOn : GoodIn wsX4_isAlreadySo wsX4_turnsOn := goodIn_r _ [19] (by decide +kernel) (by decide +kernel)
set_option maxRecDepth 20000 in
theorem gX4_isAlreadySo_X4_turnsOn : GoodIn wsX4_isAlreadySo (va_wsS RX4 255 yX4_turnsOn wsX4_turnsOn) := goodIn_app (goodIn_of _ (by decide +kernel)) ggX4_isAlreadySo_X4_turnsOn
theorem dX4_isAlreadySo_0 : decode cX4_isAlreadySo 0 = .ok (.iload_n 2, 1) := by decide +kernel
theorem dX4_isAlreadySo_1 : decode cX4_isAlreadySo 1 = .ok (.iconst 4, 1) := by decide +kernel
theorem dX4_isAlreadySo_2 : decode cX4_isAlreadySo 2 = .ok (.if_icmp .ne 18, 3) := by decide +kernel
theorem dX4_isAlreadySo_5 : decode cX4_isAlreadySo 5 = .ok (.aload_n 0, 1) := by decide +kernel
theorem dX4_isAlreadySo_6 : decode cX4_isAlreadySo 6 = .ok (.getfield 10, 3) := by decide +kernel
theorem dX4_isAlreadySo_9 : decode cX4_isAlreadySo 9 = .ok (.iload_n 3, 1) := by decide +kernel
theorem dX4_isAlreadySo_10 : decode cX4_isAlreadySo 10 = .ok (.invokevirtual 252, 3) := by decide +kernel
theorem dX4_isAlreadySo_13 : decode cX4_isAlreadySo 13 = .ok (.ifCond .ne 7, 3) := by decide +kernel
theorem dX4_isAlreadySo_16 : decode cX4_isAlreadySo 16 = .ok (.iconst 1, 1) := by decide +kernel
theorem dX4_isAlreadySo_17 : decode cX4_isAlreadySo 17 = .ok (.goto 4, 3) := by decide +kernel
theorem dX4_isAlreadySo_20 : decode cX4_isAlreadySo 20 = .ok (.iconst 0, 1) := by decide +kernel
theorem dX4_isAlreadySo_21 : decode cX4_isAlreadySo 21 = .ok (.istore 4, 2) := by decide +kernel
theorem dX4_isAlreadySo_23 : decode cX4_isAlreadySo 23 = .ok (.iload 4, 2) := by decide +kernel
theorem dX4_isAlreadySo_25 : decode cX4_isAlreadySo 25 = .ok (.ifCond .ne 16, 3) := by decide +kernel
theorem dX4_isAlreadySo_28 : decode cX4_isAlreadySo 28 = .ok (.aload_n 1, 1) := by decide +kernel
theorem dX4_isAlreadySo_29 : decode cX4_isAlreadySo 29 = .ok (.iload_n 2, 1) := by decide +kernel
theorem dX4_isAlreadySo_30 : decode cX4_isAlreadySo 30 = .ok (.iload_n 3, 1) := by decide +kernel
theorem dX4_isAlreadySo_31 : decode cX4_isAlreadySo 31 = .ok (.invokevirtual 193, 3) := by decide +kernel
theorem dX4_isAlreadySo_34 : decode cX4_isAlreadySo 34 = .ok (.iload_n 2, 1) := by decide +kernel
theorem dX4_isAlreadySo_35 : decode cX4_isAlreadySo 35 = .ok (.invokestatic 255, 3) := by decide +kernel
theorem dX4_isAlreadySo_38 : decode cX4_isAlreadySo 38 = .ok (.if_icmp .ne 7, 3) := by decide +kernel
theorem dX4_isAlreadySo_41 : decode cX4_isAlreadySo 41 = .ok (.iconst 1, 1) := by decide +kernel
theorem dX4_isAlreadySo_42 : decode cX4_isAlreadySo 42 = .ok (.goto 4, 3) := by decide +kernel
theorem dX4_isAlreadySo_45 : decode cX4_isAlreadySo 45 = .ok (.iconst 0, 1) := by decide +kernel
theorem dX4_isAlreadySo_46 : decode cX4_isAlreadySo 46 = .ok (.ireturn, 1) := by decide +kernel
set_option maxRecDepth 20000 in
theorem ggX4_touchedNodes_X4_isOfSwitch : GoodIn wsX4_touchedNodes wsX4_isOfSwitch := goodIn_r _ [5] (by decide +kernel) (by decide +kernel)
set_option maxRecDepth 20000 in
theorem gX4_touchedNodes_X4_isOfSwitch : GoodIn wsX4_touchedNodes (va_wsS RX4 233 yX4_isOfSwitch wsX4_isOfSwitch) := goodIn_app (goodIn_of _ (by decide +kernel)) ggX4_touchedNodes_X4_isOfSwitch
set_option maxRecDepth 20000 in
theorem ggX4_touchedNodes_X1_endsOf : GoodIn wsX4_touchedNodes wsX1_endsOf := goodIn_r _ [10, 11, 19, 20, 21, 22, 23, 24] (by decide +kernel) (by decide +kernel)
set_option maxRecDepth 20000 in
theorem gX4_touchedNodes_X1_endsOf : GoodIn wsX4_touchedNodes (wsV RX4 258 RX1 yX1_endsOf wsX1_endsOf) := goodIn_app (goodIn_of _ (by decide +kernel)) ggX4_touchedNodes_X1_endsOf
theorem dX4_touchedNodes_0 : decode cX4_touchedNodes 0 = .ok (.iload_n 1, 1) := by decide +kernel
theorem dX4_touchedNodes_1 : decode cX4_touchedNodes 1 = .ok (.invokestatic 233, 3) := by decide +kernel
theorem dX4_touchedNodes_4 : decode cX4_touchedNodes 4 = .ok (.ifCond .eq 14, 3) := by decide +kernel
theorem dX4_touchedNodes_7 : decode cX4_touchedNodes 7 = .ok (.aload_n 0, 1) := by decide +kernel
theorem dX4_touchedNodes_8 : decode cX4_touchedNodes 8 = .ok (.getfield 10, 3) := by decide +kernel
theorem dX4_touchedNodes_11 : decode cX4_touchedNodes 11 = .ok (.iload_n 2, 1) := by decide +kernel
theorem dX4_touchedNodes_12 : decode cX4_touchedNodes 12 = .ok (.invokevirtual 258, 3) := by decide +kernel
theorem dX4_touchedNodes_15 : decode cX4_touchedNodes 15 = .ok (.goto 6, 3) := by decide +kernel
theorem dX4_touchedNodes_18 : decode cX4_touchedNodes 18 = .ok (.iconst 1, 1) := by decide +kernel
theorem dX4_touchedNodes_19 : decode cX4_touchedNodes 19 = .ok (.iload_n 2, 1) := by decide +kernel
theorem dX4_touchedNodes_20 : decode cX4_touchedNodes 20 = .ok (.ishl, 1) := by decide +kernel
theorem dX4_touchedNodes_21 : decode cX4_touchedNodes 21 = .ok (.ireturn, 1) := by decide +kernel
set_option maxRecDepth 20000 in
theorem ggX4_isInterlocked_X4_breaksLoad : GoodIn wsX4_isInterlocked wsX4_breaksLoad := goodIn_r _ [6, 1, 7, 8, 9, 10, 11, 12, 13, 14, 15, 16, 17, 18, 19, 20, 21, 22, 23, 24, 25, 26, 27, 28, 29, 30, 31, 32, 33, 50, 51, 52, 53, 54, 55, 56, 57, 58, 59, 60, 61, 62, 63, 64, 65] (by decide +kernel) (by decide +kernel)
set_option maxRecDepth 20000 in
theorem gX4_isInterlocked_X4_breaksLoad : GoodIn wsX4_isInterlocked (wsV RX4 261 RX4 yX4_breaksLoad wsX4_breaksLoad) := goodIn_app (goodIn_of _ (by decide +kernel)) ggX4_isInterlocked_X4_breaksLoad
set_option maxRecDepth 20000 in
theorem ggX4_isInterlocked_X4_joinsLiveAndEarthed : GoodIn wsX4_isInterlocked wsX4_joinsLiveAndEarthed := goodIn_r _ [37, 1, 26, 27, 28, 11, 29, 25, 38, 39, 40, 41, 19, 20, 21, 22, 23, 24, 42, 43, 44, 45, 50, 51, 52, 53, 54, 55, 56, 57, 58, 59, 60, 61, 62, 63, 64, 65] (by decide +kernel) (by decide +kernel)
set_option maxRecDepth 20000 in
theorem gX4_isInterlocked_X4_joinsLiveAndEarthed : GoodIn wsX4_isInterlocked (wsV RX4 265 RX4 yX4_joinsLiveAndEarthed wsX4_joinsLiveAndEarthed) := goodIn_app (goodIn_of _ (by decide +kernel)) ggX4_isInterlocked_X4_joinsLiveAndEarthed
set_option maxRecDepth 20000 in
theorem ggX4_isInterlocked_X4_makesLoad : GoodIn wsX4_isInterlocked wsX4_makesLoad := goodIn_r _ [49, 1, 7, 8, 9, 10, 11, 12, 13, 30, 31, 32, 33, 25, 19, 20, 21, 22, 23, 24, 14, 15, 16, 17, 18, 26, 27, 28, 29, 50, 51, 52, 53, 54, 55, 56, 57, 58, 59, 60, 61, 62, 63, 64, 65] (by decide +kernel) (by decide +kernel)
set_option maxRecDepth 20000 in
theorem gX4_isInterlocked_X4_makesLoad : GoodIn wsX4_isInterlocked (wsV RX4 268 RX4 yX4_makesLoad wsX4_makesLoad) := goodIn_app (goodIn_of _ (by decide +kernel)) ggX4_isInterlocked_X4_makesLoad
set_option maxRecDepth 20000 in
theorem ggX4_isInterlocked_X1_liveNodes : GoodIn wsX4_isInterlocked wsX1_liveNodes := goodIn_r _ [41, 19, 20, 21, 11, 22, 23, 24, 25, 63, 64, 65, 57, 58, 59, 60, 61, 62] (by decide +kernel) (by decide +kernel)
set_option maxRecDepth 20000 in
theorem gX4_isInterlocked_X1_liveNodes : GoodIn wsX4_isInterlocked (wsV RX4 197 RX1 yX1_liveNodes wsX1_liveNodes) := goodIn_app (goodIn_of _ (by decide +kernel)) ggX4_isInterlocked_X1_liveNodes
set_option maxRecDepth 20000 in
theorem ggX4_isInterlocked_X1_earthedNodes : GoodIn wsX4_isInterlocked wsX1_earthedNodes := goodIn_r _ [45, 19, 20, 21, 11, 22, 23, 24, 25, 63, 64, 65, 57, 58, 59, 60, 61, 62] (by decide +kernel) (by decide +kernel)
set_option maxRecDepth 20000 in
theorem gX4_isInterlocked_X1_earthedNodes : GoodIn wsX4_isInterlocked (wsV RX4 204 RX1 yX1_earthedNodes wsX1_earthedNodes) := goodIn_app (goodIn_of _ (by decide +kernel)) ggX4_isInterlocked_X1_earthedNodes
theorem dX4_isInterlocked_0 : decode cX4_isInterlocked 0 = .ok (.iload_n 2, 1) := by decide +kernel
theorem dX4_isInterlocked_1 : decode cX4_isInterlocked 1 = .ok (.tableswitch 108 0 4 #[35, 42, 66, 108, 87], 35) := by decide +kernel
theorem dX4_isInterlocked_36 : decode cX4_isInterlocked 36 = .ok (.aload_n 0, 1) := by decide +kernel
theorem dX4_isInterlocked_37 : decode cX4_isInterlocked 37 = .ok (.aload_n 1, 1) := by decide +kernel
theorem dX4_isInterlocked_38 : decode cX4_isInterlocked 38 = .ok (.iload_n 3, 1) := by decide +kernel
theorem dX4_isInterlocked_39 : decode cX4_isInterlocked 39 = .ok (.invokevirtual 261, 3) := by decide +kernel
theorem dX4_isInterlocked_42 : decode cX4_isInterlocked 42 = .ok (.ireturn, 1) := by decide +kernel
theorem dX4_isInterlocked_43 : decode cX4_isInterlocked 43 = .ok (.aload_n 0, 1) := by decide +kernel
theorem dX4_isInterlocked_44 : decode cX4_isInterlocked 44 = .ok (.aload_n 1, 1) := by decide +kernel
theorem dX4_isInterlocked_45 : decode cX4_isInterlocked 45 = .ok (.iload_n 3, 1) := by decide +kernel
theorem dX4_isInterlocked_46 : decode cX4_isInterlocked 46 = .ok (.invokevirtual 265, 3) := by decide +kernel
theorem dX4_isInterlocked_49 : decode cX4_isInterlocked 49 = .ok (.ifCond .ne 12, 3) := by decide +kernel
theorem dX4_isInterlocked_52 : decode cX4_isInterlocked 52 = .ok (.aload_n 0, 1) := by decide +kernel
theorem dX4_isInterlocked_53 : decode cX4_isInterlocked 53 = .ok (.aload_n 1, 1) := by decide +kernel
theorem dX4_isInterlocked_54 : decode cX4_isInterlocked 54 = .ok (.iload_n 3, 1) := by decide +kernel
theorem dX4_isInterlocked_55 : decode cX4_isInterlocked 55 = .ok (.invokevirtual 268, 3) := by decide +kernel
theorem dX4_isInterlocked_58 : decode cX4_isInterlocked 58 = .ok (.ifCond .eq 7, 3) := by decide +kernel
theorem dX4_isInterlocked_61 : decode cX4_isInterlocked 61 = .ok (.iconst 1, 1) := by decide +kernel
theorem dX4_isInterlocked_62 : decode cX4_isInterlocked 62 = .ok (.goto 4, 3) := by decide +kernel
theorem dX4_isInterlocked_65 : decode cX4_isInterlocked 65 = .ok (.iconst 0, 1) := by decide +kernel
theorem dX4_isInterlocked_66 : decode cX4_isInterlocked 66 = .ok (.ireturn, 1) := by decide +kernel
theorem dX4_isInterlocked_67 : decode cX4_isInterlocked 67 = .ok (.aload_n 0, 1) := by decide +kernel
theorem dX4_isInterlocked_68 : decode cX4_isInterlocked 68 = .ok (.getfield 10, 3) := by decide +kernel
theorem dX4_isInterlocked_71 : decode cX4_isInterlocked 71 = .ok (.aload_n 1, 1) := by decide +kernel
theorem dX4_isInterlocked_72 : decode cX4_isInterlocked 72 = .ok (.invokevirtual 197, 3) := by decide +kernel
theorem dX4_isInterlocked_75 : decode cX4_isInterlocked 75 = .ok (.iload_n 3, 1) := by decide +kernel
theorem dX4_isInterlocked_76 : decode cX4_isInterlocked 76 = .ok (.ishr, 1) := by decide +kernel
theorem dX4_isInterlocked_77 : decode cX4_isInterlocked 77 = .ok (.iconst 1, 1) := by decide +kernel
theorem dX4_isInterlocked_78 : decode cX4_isInterlocked 78 = .ok (.iand, 1) := by decide +kernel
theorem dX4_isInterlocked_79 : decode cX4_isInterlocked 79 = .ok (.ifCond .eq 7, 3) := by decide +kernel
theorem dX4_isInterlocked_82 : decode cX4_isInterlocked 82 = .ok (.iconst 1, 1) := by decide +kernel
theorem dX4_isInterlocked_83 : decode cX4_isInterlocked 83 = .ok (.goto 4, 3) := by decide +kernel
theorem dX4_isInterlocked_86 : decode cX4_isInterlocked 86 = .ok (.iconst 0, 1) := by decide +kernel
theorem dX4_isInterlocked_87 : decode cX4_isInterlocked 87 = .ok (.ireturn, 1) := by decide +kernel
theorem dX4_isInterlocked_88 : decode cX4_isInterlocked 88 = .ok (.aload_n 0, 1) := by decide +kernel
theorem dX4_isInterlocked_89 : decode cX4_isInterlocked 89 = .ok (.getfield 10, 3) := by decide +kernel
theorem dX4_isInterlocked_92 : decode cX4_isInterlocked 92 = .ok (.aload_n 1, 1) := by decide +kernel
theorem dX4_isInterlocked_93 : decode cX4_isInterlocked 93 = .ok (.invokevirtual 204, 3) := by decide +kernel
theorem dX4_isInterlocked_96 : decode cX4_isInterlocked 96 = .ok (.iload_n 3, 1) := by decide +kernel
theorem dX4_isInterlocked_97 : decode cX4_isInterlocked 97 = .ok (.ishr, 1) := by decide +kernel
theorem dX4_isInterlocked_98 : decode cX4_isInterlocked 98 = .ok (.iconst 1, 1) := by decide +kernel
theorem dX4_isInterlocked_99 : decode cX4_isInterlocked 99 = .ok (.iand, 1) := by decide +kernel
theorem dX4_isInterlocked_100 : decode cX4_isInterlocked 100 = .ok (.ifCond .eq 7, 3) := by decide +kernel
theorem dX4_isInterlocked_103 : decode cX4_isInterlocked 103 = .ok (.iconst 1, 1) := by decide +kernel
theorem dX4_isInterlocked_104 : decode cX4_isInterlocked 104 = .ok (.goto 4, 3) := by decide +kernel
theorem dX4_isInterlocked_107 : decode cX4_isInterlocked 107 = .ok (.iconst 0, 1) := by decide +kernel
theorem dX4_isInterlocked_108 : decode cX4_isInterlocked 108 = .ok (.ireturn, 1) := by decide +kernel
theorem dX4_isInterlocked_109 : decode cX4_isInterlocked 109 = .ok (.iconst 0, 1) := by decide +kernel
theorem dX4_isInterlocked_110 : decode cX4_isInterlocked 110 = .ok (.ireturn, 1) := by decide +kernel
set_option maxRecDepth 20000 in
theorem ggX4_breaksLoad_X1_isBreaker : GoodIn wsX4_breaksLoad wsX1_isBreaker := goodIn_r _ [7, 8, 36, 37, 38, 39, 40, 41] (by decide +kernel) (by decide +kernel)
set_option maxRecDepth 20000 in
theorem gX4_breaksLoad_X1_isBreaker : GoodIn wsX4_breaksLoad (wsV RX4 271 RX1 yX1_isBreaker wsX1_isBreaker) := goodIn_app (goodIn_of _ (by decide +kernel)) ggX4_breaksLoad_X1_isBreaker
set_option maxRecDepth 20000 in
theorem ggX4_breaksLoad_X1_loadedNodes : GoodIn wsX4_breaksLoad wsX1_loadedNodes := goodIn_r _ [12, 13, 14, 15, 16, 6, 17, 18, 19, 20, 42, 43, 44, 36, 37, 38, 39, 40, 41] (by decide +kernel) (by decide +kernel)
set_option maxRecDepth 20000 in
theorem gX4_breaksLoad_X1_loadedNodes : GoodIn wsX4_breaksLoad (wsV RX4 201 RX1 yX1_loadedNodes wsX1_loadedNodes) := goodIn_app (goodIn_of _ (by decide +kernel)) ggX4_breaksLoad_X1_loadedNodes
set_option maxRecDepth 20000 in
theorem ggX4_breaksLoad_X1_endsOf : GoodIn wsX4_breaksLoad wsX1_endsOf := goodIn_r _ [24, 20, 36, 37, 38, 39, 40, 41] (by decide +kernel) (by decide +kernel)
set_option maxRecDepth 20000 in
theorem gX4_breaksLoad_X1_endsOf : GoodIn wsX4_breaksLoad (wsV RX4 258 RX1 yX1_endsOf wsX1_endsOf) := goodIn_app (goodIn_of _ (by decide +kernel)) ggX4_breaksLoad_X1_endsOf
set_option maxRecDepth 20000 in
theorem ggX4_breaksLoad_X1_areEndsConnected : GoodIn wsX4_breaksLoad wsX1_areEndsConnected := goodIn_r _ [28, 20, 14, 15, 16, 6, 17, 18, 19, 36, 37, 38, 39, 40, 41, 42, 43, 44] (by decide +kernel) (by decide +kernel)
set_option maxRecDepth 20000 in
theorem gX4_breaksLoad_X1_areEndsConnected : GoodIn wsX4_breaksLoad (wsV RX4 274 RX1 yX1_areEndsConnected wsX1_areEndsConnected) := goodIn_app (goodIn_of _ (by decide +kernel)) ggX4_breaksLoad_X1_areEndsConnected
theorem dX4_breaksLoad_0 : decode cX4_breaksLoad 0 = .ok (.aload_n 0, 1) := by decide +kernel
theorem dX4_breaksLoad_1 : decode cX4_breaksLoad 1 = .ok (.getfield 10, 3) := by decide +kernel
theorem dX4_breaksLoad_4 : decode cX4_breaksLoad 4 = .ok (.iload_n 2, 1) := by decide +kernel
theorem dX4_breaksLoad_5 : decode cX4_breaksLoad 5 = .ok (.invokevirtual 271, 3) := by decide +kernel
theorem dX4_breaksLoad_8 : decode cX4_breaksLoad 8 = .ok (.ifCond .ne 42, 3) := by decide +kernel
theorem dX4_breaksLoad_11 : decode cX4_breaksLoad 11 = .ok (.aload_n 0, 1) := by decide +kernel
theorem dX4_breaksLoad_12 : decode cX4_breaksLoad 12 = .ok (.getfield 10, 3) := by decide +kernel
theorem dX4_breaksLoad_15 : decode cX4_breaksLoad 15 = .ok (.aload_n 1, 1) := by decide +kernel
theorem dX4_breaksLoad_16 : decode cX4_breaksLoad 16 = .ok (.invokevirtual 201, 3) := by decide +kernel
theorem dX4_breaksLoad_19 : decode cX4_breaksLoad 19 = .ok (.aload_n 0, 1) := by decide +kernel
theorem dX4_breaksLoad_20 : decode cX4_breaksLoad 20 = .ok (.getfield 10, 3) := by decide +kernel
theorem dX4_breaksLoad_23 : decode cX4_breaksLoad 23 = .ok (.iload_n 2, 1) := by decide +kernel
theorem dX4_breaksLoad_24 : decode cX4_breaksLoad 24 = .ok (.invokevirtual 258, 3) := by decide +kernel
theorem dX4_breaksLoad_27 : decode cX4_breaksLoad 27 = .ok (.iand, 1) := by decide +kernel
theorem dX4_breaksLoad_28 : decode cX4_breaksLoad 28 = .ok (.ifCond .eq 22, 3) := by decide +kernel
theorem dX4_breaksLoad_31 : decode cX4_breaksLoad 31 = .ok (.aload_n 0, 1) := by decide +kernel
theorem dX4_breaksLoad_32 : decode cX4_breaksLoad 32 = .ok (.getfield 10, 3) := by decide +kernel
theorem dX4_breaksLoad_35 : decode cX4_breaksLoad 35 = .ok (.iload_n 2, 1) := by decide +kernel
theorem dX4_breaksLoad_36 : decode cX4_breaksLoad 36 = .ok (.aload_n 0, 1) := by decide +kernel
theorem dX4_breaksLoad_37 : decode cX4_breaksLoad 37 = .ok (.getfield 45, 3) := by decide +kernel
theorem dX4_breaksLoad_40 : decode cX4_breaksLoad 40 = .ok (.invokevirtual 274, 3) := by decide +kernel
theorem dX4_breaksLoad_43 : decode cX4_breaksLoad 43 = .ok (.ifCond .ne 7, 3) := by decide +kernel
theorem dX4_breaksLoad_46 : decode cX4_breaksLoad 46 = .ok (.iconst 1, 1) := by decide +kernel
theorem dX4_breaksLoad_47 : decode cX4_breaksLoad 47 = .ok (.goto 4, 3) := by decide +kernel
theorem dX4_breaksLoad_50 : decode cX4_breaksLoad 50 = .ok (.iconst 0, 1) := by decide +kernel
theorem dX4_breaksLoad_51 : decode cX4_breaksLoad 51 = .ok (.ireturn, 1) := by decide +kernel
set_option maxRecDepth 20000 in
theorem ggX4_makesLoad_X1_isBreaker : GoodIn wsX4_makesLoad wsX1_isBreaker := goodIn_r _ [7, 8, 36, 37, 38, 39, 40, 41] (by decide +kernel) (by decide +kernel)
set_option maxRecDepth 20000 in
theorem gX4_makesLoad_X1_isBreaker : GoodIn wsX4_makesLoad (wsV RX4 271 RX1 yX1_isBreaker wsX1_isBreaker) := goodIn_app (goodIn_of _ (by decide +kernel)) ggX4_makesLoad_X1_isBreaker
set_option maxRecDepth 20000 in
theorem ggX4_makesLoad_X1_areEndsConnected : GoodIn wsX4_makesLoad wsX1_areEndsConnected := goodIn_r _ [12, 13, 14, 15, 16, 6, 17, 18, 19, 36, 37, 38, 39, 40, 41, 42, 43, 44] (by decide +kernel) (by decide +kernel)
set_option maxRecDepth 20000 in
theorem gX4_makesLoad_X1_areEndsConnected : GoodIn wsX4_makesLoad (wsV RX4 274 RX1 yX1_areEndsConnected wsX1_areEndsConnected) := goodIn_app (goodIn_of _ (by decide +kernel)) ggX4_makesLoad_X1_areEndsConnected
set_option maxRecDepth 20000 in
theorem ggX4_makesLoad_X1_loadedNodes : GoodIn wsX4_makesLoad wsX1_loadedNodes := goodIn_r _ [23, 24, 14, 15, 16, 6, 17, 18, 19, 13, 42, 43, 44, 36, 37, 38, 39, 40, 41] (by decide +kernel) (by decide +kernel)
set_option maxRecDepth 20000 in
theorem gX4_makesLoad_X1_loadedNodes : GoodIn wsX4_makesLoad (wsV RX4 201 RX1 yX1_loadedNodes wsX1_loadedNodes) := goodIn_app (goodIn_of _ (by decide +kernel)) ggX4_makesLoad_X1_loadedNodes
set_option maxRecDepth 20000 in
theorem ggX4_makesLoad_X1_endsOf : GoodIn wsX4_makesLoad wsX1_endsOf := goodIn_r _ [28, 13, 36, 37, 38, 39, 40, 41] (by decide +kernel) (by decide +kernel)
set_option maxRecDepth 20000 in
theorem gX4_makesLoad_X1_endsOf : GoodIn wsX4_makesLoad (wsV RX4 258 RX1 yX1_endsOf wsX1_endsOf) := goodIn_app (goodIn_of _ (by decide +kernel)) ggX4_makesLoad_X1_endsOf
theorem dX4_makesLoad_0 : decode cX4_makesLoad 0 = .ok (.aload_n 0, 1) := by decide +kernel
theorem dX4_makesLoad_1 : decode cX4_makesLoad 1 = .ok (.getfield 10, 3) := by decide +kernel
theorem dX4_makesLoad_4 : decode cX4_makesLoad 4 = .ok (.iload_n 2, 1) := by decide +kernel
theorem dX4_makesLoad_5 : decode cX4_makesLoad 5 = .ok (.invokevirtual 271, 3) := by decide +kernel
theorem dX4_makesLoad_8 : decode cX4_makesLoad 8 = .ok (.ifCond .ne 42, 3) := by decide +kernel
theorem dX4_makesLoad_11 : decode cX4_makesLoad 11 = .ok (.aload_n 0, 1) := by decide +kernel
theorem dX4_makesLoad_12 : decode cX4_makesLoad 12 = .ok (.getfield 10, 3) := by decide +kernel
theorem dX4_makesLoad_15 : decode cX4_makesLoad 15 = .ok (.iload_n 2, 1) := by decide +kernel
theorem dX4_makesLoad_16 : decode cX4_makesLoad 16 = .ok (.aload_n 1, 1) := by decide +kernel
theorem dX4_makesLoad_17 : decode cX4_makesLoad 17 = .ok (.invokevirtual 274, 3) := by decide +kernel
theorem dX4_makesLoad_20 : decode cX4_makesLoad 20 = .ok (.ifCond .ne 30, 3) := by decide +kernel
theorem dX4_makesLoad_23 : decode cX4_makesLoad 23 = .ok (.aload_n 0, 1) := by decide +kernel
theorem dX4_makesLoad_24 : decode cX4_makesLoad 24 = .ok (.getfield 10, 3) := by decide +kernel
theorem dX4_makesLoad_27 : decode cX4_makesLoad 27 = .ok (.aload_n 0, 1) := by decide +kernel
theorem dX4_makesLoad_28 : decode cX4_makesLoad 28 = .ok (.getfield 45, 3) := by decide +kernel
theorem dX4_makesLoad_31 : decode cX4_makesLoad 31 = .ok (.invokevirtual 201, 3) := by decide +kernel
theorem dX4_makesLoad_34 : decode cX4_makesLoad 34 = .ok (.aload_n 0, 1) := by decide +kernel
theorem dX4_makesLoad_35 : decode cX4_makesLoad 35 = .ok (.getfield 10, 3) := by decide +kernel
theorem dX4_makesLoad_38 : decode cX4_makesLoad 38 = .ok (.iload_n 2, 1) := by decide +kernel
theorem dX4_makesLoad_39 : decode cX4_makesLoad 39 = .ok (.invokevirtual 258, 3) := by decide +kernel
theorem dX4_makesLoad_42 : decode cX4_makesLoad 42 = .ok (.iand, 1) := by decide +kernel
theorem dX4_makesLoad_43 : decode cX4_makesLoad 43 = .ok (.ifCond .eq 7, 3) := by decide +kernel
theorem dX4_makesLoad_46 : decode cX4_makesLoad 46 = .ok (.iconst 1, 1) := by decide +kernel
theorem dX4_makesLoad_47 : decode cX4_makesLoad 47 = .ok (.goto 4, 3) := by decide +kernel
theorem dX4_makesLoad_50 : decode cX4_makesLoad 50 = .ok (.iconst 0, 1) := by decide +kernel
theorem dX4_makesLoad_51 : decode cX4_makesLoad 51 = .ok (.ireturn, 1) := by decide +kernel
set_option maxRecDepth 20000 in
theorem ggX4_joinsLiveAndEarthed_X1_endsOf : GoodIn wsX4_joinsLiveAndEarthed wsX1_endsOf := goodIn_r _ [6, 7, 29, 30, 31, 32, 33, 34] (by decide +kernel) (by decide +kernel)
set_option maxRecDepth 20000 in
theorem gX4_joinsLiveAndEarthed_X1_endsOf : GoodIn wsX4_joinsLiveAndEarthed (wsV RX4 258 RX1 yX1_endsOf wsX1_endsOf) := goodIn_app (goodIn_of _ (by decide +kernel)) ggX4_joinsLiveAndEarthed_X1_endsOf
set_option maxRecDepth 20000 in
theorem ggX4_joinsLiveAndEarthed_X1_liveNodes : GoodIn wsX4_joinsLiveAndEarthed wsX1_liveNodes := goodIn_r _ [11, 12, 13, 14, 5, 15, 16, 17, 7, 35, 36, 37, 29, 30, 31, 32, 33, 34] (by decide +kernel) (by decide +kernel)
set_option maxRecDepth 20000 in
theorem gX4_joinsLiveAndEarthed_X1_liveNodes : GoodIn wsX4_joinsLiveAndEarthed (wsV RX4 197 RX1 yX1_liveNodes wsX1_liveNodes) := goodIn_app (goodIn_of _ (by decide +kernel)) ggX4_joinsLiveAndEarthed_X1_liveNodes
set_option maxRecDepth 20000 in
theorem ggX4_joinsLiveAndEarthed_X1_earthedNodes : GoodIn wsX4_joinsLiveAndEarthed wsX1_earthedNodes := goodIn_r _ [21, 12, 13, 14, 5, 15, 16, 17, 7, 35, 36, 37, 29, 30, 31, 32, 33, 34] (by decide +kernel) (by decide +kernel)
set_option maxRecDepth 20000 in
theorem gX4_joinsLiveAndEarthed_X1_earthedNodes : GoodIn wsX4_joinsLiveAndEarthed (wsV RX4 204 RX1 yX1_earthedNodes wsX1_earthedNodes) := goodIn_app (goodIn_of _ (by decide +kernel)) ggX4_joinsLiveAndEarthed_X1_earthedNodes
theorem dX4_joinsLiveAndEarthed_0 : decode cX4_joinsLiveAndEarthed 0 = .ok (.aload_n 0, 1) := by decide +kernel
theorem dX4_joinsLiveAndEarthed_1 : decode cX4_joinsLiveAndEarthed 1 = .ok (.getfield 10, 3) := by decide +kernel
theorem dX4_joinsLiveAndEarthed_4 : decode cX4_joinsLiveAndEarthed 4 = .ok (.iload_n 2, 1) := by decide +kernel
theorem dX4_joinsLiveAndEarthed_5 : decode cX4_joinsLiveAndEarthed 5 = .ok (.invokevirtual 258, 3) := by decide +kernel
theorem dX4_joinsLiveAndEarthed_8 : decode cX4_joinsLiveAndEarthed 8 = .ok (.istore_n 3, 1) := by decide +kernel
theorem dX4_joinsLiveAndEarthed_9 : decode cX4_joinsLiveAndEarthed 9 = .ok (.aload_n 0, 1) := by decide +kernel
theorem dX4_joinsLiveAndEarthed_10 : decode cX4_joinsLiveAndEarthed 10 = .ok (.getfield 10, 3) := by decide +kernel
theorem dX4_joinsLiveAndEarthed_13 : decode cX4_joinsLiveAndEarthed 13 = .ok (.aload_n 1, 1) := by decide +kernel
theorem dX4_joinsLiveAndEarthed_14 : decode cX4_joinsLiveAndEarthed 14 = .ok (.invokevirtual 197, 3) := by decide +kernel
theorem dX4_joinsLiveAndEarthed_17 : decode cX4_joinsLiveAndEarthed 17 = .ok (.iload_n 3, 1) := by decide +kernel
theorem dX4_joinsLiveAndEarthed_18 : decode cX4_joinsLiveAndEarthed 18 = .ok (.iand, 1) := by decide +kernel
theorem dX4_joinsLiveAndEarthed_19 : decode cX4_joinsLiveAndEarthed 19 = .ok (.ifCond .eq 20, 3) := by decide +kernel
theorem dX4_joinsLiveAndEarthed_22 : decode cX4_joinsLiveAndEarthed 22 = .ok (.aload_n 0, 1) := by decide +kernel
theorem dX4_joinsLiveAndEarthed_23 : decode cX4_joinsLiveAndEarthed 23 = .ok (.getfield 10, 3) := by decide +kernel
theorem dX4_joinsLiveAndEarthed_26 : decode cX4_joinsLiveAndEarthed 26 = .ok (.aload_n 1, 1) := by decide +kernel
theorem dX4_joinsLiveAndEarthed_27 : decode cX4_joinsLiveAndEarthed 27 = .ok (.invokevirtual 204, 3) := by decide +kernel
theorem dX4_joinsLiveAndEarthed_30 : decode cX4_joinsLiveAndEarthed 30 = .ok (.iload_n 3, 1) := by decide +kernel
theorem dX4_joinsLiveAndEarthed_31 : decode cX4_joinsLiveAndEarthed 31 = .ok (.iand, 1) := by decide +kernel
theorem dX4_joinsLiveAndEarthed_32 : decode cX4_joinsLiveAndEarthed 32 = .ok (.ifCond .eq 7, 3) := by decide +kernel
theorem dX4_joinsLiveAndEarthed_35 : decode cX4_joinsLiveAndEarthed 35 = .ok (.iconst 1, 1) := by decide +kernel
theorem dX4_joinsLiveAndEarthed_36 : decode cX4_joinsLiveAndEarthed 36 = .ok (.goto 4, 3) := by decide +kernel
theorem dX4_joinsLiveAndEarthed_39 : decode cX4_joinsLiveAndEarthed 39 = .ok (.iconst 0, 1) := by decide +kernel
theorem dX4_joinsLiveAndEarthed_40 : decode cX4_joinsLiveAndEarthed 40 = .ok (.ireturn, 1) := by decide +kernel
set_option maxRecDepth 20000 in
theorem ggX4_canBeHeld_X4_areSafe : GoodIn wsX4_canBeHeld wsX4_areSafe := goodIn_r _ [7, 8, 9, 10, 11, 12, 13, 14, 15, 16, 17, 18, 19, 20, 21, 22, 23, 24, 32, 33, 34, 35, 36, 37, 38, 39, 40, 41, 42, 43, 44, 45, 46, 47] (by decide +kernel) (by decide +kernel)
set_option maxRecDepth 20000 in
theorem gX4_canBeHeld_X4_areSafe : GoodIn wsX4_canBeHeld (wsV RX4 248 RX4 yX4_areSafe wsX4_areSafe) := goodIn_app (goodIn_of _ (by decide +kernel)) ggX4_canBeHeld_X4_areSafe
set_option maxRecDepth 20000 in
theorem ggX4_canBeHeld_X2_heldNodes : GoodIn wsX4_canBeHeld wsX2_heldNodes := goodIn_r _ [29, 30, 31, 48, 49] (by decide +kernel) (by decide +kernel)
set_option maxRecDepth 20000 in
theorem gX4_canBeHeld_X2_heldNodes : GoodIn wsX4_canBeHeld (wsV RX4 185 RX2 yX2_heldNodes wsX2_heldNodes) := goodIn_app (goodIn_of _ (by decide +kernel)) ggX4_canBeHeld_X2_heldNodes
theorem dX4_canBeHeld_0 : decode cX4_canBeHeld 0 = .ok (.aload_n 0, 1) := by decide +kernel
theorem dX4_canBeHeld_1 : decode cX4_canBeHeld 1 = .ok (.iload_n 1, 1) := by decide +kernel
theorem dX4_canBeHeld_2 : decode cX4_canBeHeld 2 = .ok (.aload_n 0, 1) := by decide +kernel
theorem dX4_canBeHeld_3 : decode cX4_canBeHeld 3 = .ok (.getfield 19, 3) := by decide +kernel
theorem dX4_canBeHeld_6 : decode cX4_canBeHeld 6 = .ok (.invokevirtual 248, 3) := by decide +kernel
theorem dX4_canBeHeld_9 : decode cX4_canBeHeld 9 = .ok (.ifCond .eq 19, 3) := by decide +kernel
theorem dX4_canBeHeld_12 : decode cX4_canBeHeld 12 = .ok (.iload_n 1, 1) := by decide +kernel
theorem dX4_canBeHeld_13 : decode cX4_canBeHeld 13 = .ok (.aload_n 0, 1) := by decide +kernel
theorem dX4_canBeHeld_14 : decode cX4_canBeHeld 14 = .ok (.getfield 38, 3) := by decide +kernel
theorem dX4_canBeHeld_17 : decode cX4_canBeHeld 17 = .ok (.invokevirtual 185, 3) := by decide +kernel
theorem dX4_canBeHeld_20 : decode cX4_canBeHeld 20 = .ok (.iand, 1) := by decide +kernel
theorem dX4_canBeHeld_21 : decode cX4_canBeHeld 21 = .ok (.ifCond .ne 7, 3) := by decide +kernel
theorem dX4_canBeHeld_24 : decode cX4_canBeHeld 24 = .ok (.iconst 1, 1) := by decide +kernel
theorem dX4_canBeHeld_25 : decode cX4_canBeHeld 25 = .ok (.goto 4, 3) := by decide +kernel
theorem dX4_canBeHeld_28 : decode cX4_canBeHeld 28 = .ok (.iconst 0, 1) := by decide +kernel
theorem dX4_canBeHeld_29 : decode cX4_canBeHeld 29 = .ok (.ireturn, 1) := by decide +kernel
set_option maxRecDepth 20000 in
theorem ggX4_areSafe_X1_earthedNodes : GoodIn wsX4_areSafe wsX1_earthedNodes := goodIn_r _ [6, 7, 8, 9, 5, 10, 11, 12, 13, 25, 26, 27, 28, 29, 30, 31, 32, 33] (by decide +kernel) (by decide +kernel)
set_option maxRecDepth 20000 in
theorem gX4_areSafe_X1_earthedNodes : GoodIn wsX4_areSafe (wsV RX4 204 RX1 yX1_earthedNodes wsX1_earthedNodes) := goodIn_app (goodIn_of _ (by decide +kernel)) ggX4_areSafe_X1_earthedNodes
set_option maxRecDepth 20000 in
theorem ggX4_areSafe_X1_liveNodes : GoodIn wsX4_areSafe wsX1_liveNodes := goodIn_r _ [17, 7, 8, 9, 5, 10, 11, 12, 13, 25, 26, 27, 28, 29, 30, 31, 32, 33] (by decide +kernel) (by decide +kernel)
set_option maxRecDepth 20000 in
theorem gX4_areSafe_X1_liveNodes : GoodIn wsX4_areSafe (wsV RX4 197 RX1 yX1_liveNodes wsX1_liveNodes) := goodIn_app (goodIn_of _ (by decide +kernel)) ggX4_areSafe_X1_liveNodes
theorem dX4_areSafe_0 : decode cX4_areSafe 0 = .ok (.iload_n 1, 1) := by decide +kernel
theorem dX4_areSafe_1 : decode cX4_areSafe 1 = .ok (.aload_n 0, 1) := by decide +kernel
theorem dX4_areSafe_2 : decode cX4_areSafe 2 = .ok (.getfield 10, 3) := by decide +kernel
theorem dX4_areSafe_5 : decode cX4_areSafe 5 = .ok (.aload_n 2, 1) := by decide +kernel
theorem dX4_areSafe_6 : decode cX4_areSafe 6 = .ok (.invokevirtual 204, 3) := by decide +kernel
theorem dX4_areSafe_9 : decode cX4_areSafe 9 = .ok (.iconst (-1), 1) := by decide +kernel
theorem dX4_areSafe_10 : decode cX4_areSafe 10 = .ok (.ixor, 1) := by decide +kernel
theorem dX4_areSafe_11 : decode cX4_areSafe 11 = .ok (.iand, 1) := by decide +kernel
theorem dX4_areSafe_12 : decode cX4_areSafe 12 = .ok (.ifCond .ne 20, 3) := by decide +kernel
theorem dX4_areSafe_15 : decode cX4_areSafe 15 = .ok (.iload_n 1, 1) := by decide +kernel
theorem dX4_areSafe_16 : decode cX4_areSafe 16 = .ok (.aload_n 0, 1) := by decide +kernel
theorem dX4_areSafe_17 : decode cX4_areSafe 17 = .ok (.getfield 10, 3) := by decide +kernel
theorem dX4_areSafe_20 : decode cX4_areSafe 20 = .ok (.aload_n 2, 1) := by decide +kernel
theorem dX4_areSafe_21 : decode cX4_areSafe 21 = .ok (.invokevirtual 197, 3) := by decide +kernel
theorem dX4_areSafe_24 : decode cX4_areSafe 24 = .ok (.iand, 1) := by decide +kernel
theorem dX4_areSafe_25 : decode cX4_areSafe 25 = .ok (.ifCond .ne 7, 3) := by decide +kernel
theorem dX4_areSafe_28 : decode cX4_areSafe 28 = .ok (.iconst 1, 1) := by decide +kernel
theorem dX4_areSafe_29 : decode cX4_areSafe 29 = .ok (.goto 4, 3) := by decide +kernel
theorem dX4_areSafe_32 : decode cX4_areSafe 32 = .ok (.iconst 0, 1) := by decide +kernel
theorem dX4_areSafe_33 : decode cX4_areSafe 33 = .ok (.ireturn, 1) := by decide +kernel
set_option maxRecDepth 20000 in
theorem ggX4_doAndLog_X4_kindOf : GoodIn wsX4_doAndLog wsX4_kindOf := goodIn_r _ [6] (by decide +kernel) (by decide +kernel)
set_option maxRecDepth 20000 in
theorem gX4_doAndLog_X4_kindOf : GoodIn wsX4_doAndLog (va_wsS RX4 109 yX4_kindOf wsX4_kindOf) := goodIn_app (goodIn_of _ (by decide +kernel)) ggX4_doAndLog_X4_kindOf
set_option maxRecDepth 20000 in
theorem ggX4_doAndLog_X4_whatOf : GoodIn wsX4_doAndLog wsX4_whatOf := goodIn_r _ [9] (by decide +kernel) (by decide +kernel)
set_option maxRecDepth 20000 in
theorem gX4_doAndLog_X4_whatOf : GoodIn wsX4_doAndLog (va_wsS RX4 112 yX4_whatOf wsX4_whatOf) := goodIn_app (goodIn_of _ (by decide +kernel)) ggX4_doAndLog_X4_whatOf
set_option maxRecDepth 20000 in
theorem ggX4_doAndLog_X4_reasonIn : GoodIn wsX4_doAndLog wsX4_reasonIn := goodIn_r _ [13, 14, 15, 16, 17, 18, 5, 19, 20, 21, 22, 23, 24, 25, 26, 27, 28, 29, 30, 31, 32, 33, 34, 35, 36, 37, 38, 39, 40, 41, 42, 43, 44, 45, 46, 47, 48, 49, 50, 51, 52, 53, 54, 55, 56, 57, 58, 59, 60, 61, 62, 63, 64, 65, 66, 67, 68, 69, 70, 71, 72, 73, 74, 75, 76, 77, 78, 79, 80, 81, 82, 83, 84, 85, 86, 87, 88, 89, 90, 91, 92, 93, 94, 95, 96, 97, 98, 99, 100, 101, 102, 103, 104, 105, 106, 107, 108, 109, 110, 111, 112, 120, 121, 122, 123, 124, 125, 126, 127, 128, 129, 130, 131, 132, 133, 134, 135, 136, 137] (by decide +kernel) (by decide +kernel)
set_option maxRecDepth 20000 in
theorem gX4_doAndLog_X4_reasonIn : GoodIn wsX4_doAndLog (wsV RX4 97 RX4 yX4_reasonIn wsX4_reasonIn) := goodIn_app (goodIn_of _ (by decide +kernel)) ggX4_doAndLog_X4_reasonIn
set_option maxRecDepth 20000 in
theorem ggX4_doAndLog_X3_flip : GoodIn wsX4_doAndLog wsX3_flip := goodIn_r _ [64, 32, 33, 34, 133, 134, 135] (by decide +kernel) (by decide +kernel)
set_option maxRecDepth 20000 in
theorem gX4_doAndLog_X3_flip : GoodIn wsX4_doAndLog (wsV RX4 115 RX3 yX3_flip wsX3_flip) := goodIn_app (goodIn_of _ (by decide +kernel)) ggX4_doAndLog_X3_flip
set_option maxRecDepth 20000 in
theorem ggX4_doAndLog_X0_append : GoodIn wsX4_doAndLog wsX0_append := goodIn_r _ [117, 118, 119, 138, 139] (by decide +kernel) (by decide +kernel)
set_option maxRecDepth 20000 in
theorem gX4_doAndLog_X0_append : GoodIn wsX4_doAndLog (wsV RX4 131 RX0 yX0_append wsX0_append) := goodIn_app (goodIn_of _ (by decide +kernel)) ggX4_doAndLog_X0_append
theorem dX4_doAndLog_0 : decode cX4_doAndLog 0 = .ok (.aload_n 0, 1) := by decide +kernel
theorem dX4_doAndLog_1 : decode cX4_doAndLog 1 = .ok (.aload_n 0, 1) := by decide +kernel
theorem dX4_doAndLog_2 : decode cX4_doAndLog 2 = .ok (.getfield 19, 3) := by decide +kernel
theorem dX4_doAndLog_5 : decode cX4_doAndLog 5 = .ok (.iload_n 1, 1) := by decide +kernel
theorem dX4_doAndLog_6 : decode cX4_doAndLog 6 = .ok (.invokestatic 109, 3) := by decide +kernel
theorem dX4_doAndLog_9 : decode cX4_doAndLog 9 = .ok (.iload_n 1, 1) := by decide +kernel
theorem dX4_doAndLog_10 : decode cX4_doAndLog 10 = .ok (.invokestatic 112, 3) := by decide +kernel
theorem dX4_doAndLog_13 : decode cX4_doAndLog 13 = .ok (.invokevirtual 97, 3) := by decide +kernel
theorem dX4_doAndLog_16 : decode cX4_doAndLog 16 = .ok (.istore_n 2, 1) := by decide +kernel
theorem dX4_doAndLog_17 : decode cX4_doAndLog 17 = .ok (.iload_n 2, 1) := by decide +kernel
theorem dX4_doAndLog_18 : decode cX4_doAndLog 18 = .ok (.ifCond .ne 26, 3) := by decide +kernel
theorem dX4_doAndLog_21 : decode cX4_doAndLog 21 = .ok (.aload_n 0, 1) := by decide +kernel
theorem dX4_doAndLog_22 : decode cX4_doAndLog 22 = .ok (.getfield 19, 3) := by decide +kernel
theorem dX4_doAndLog_25 : decode cX4_doAndLog 25 = .ok (.iload_n 1, 1) := by decide +kernel
theorem dX4_doAndLog_26 : decode cX4_doAndLog 26 = .ok (.invokestatic 109, 3) := by decide +kernel
theorem dX4_doAndLog_29 : decode cX4_doAndLog 29 = .ok (.iload_n 1, 1) := by decide +kernel
theorem dX4_doAndLog_30 : decode cX4_doAndLog 30 = .ok (.invokestatic 112, 3) := by decide +kernel
theorem dX4_doAndLog_33 : decode cX4_doAndLog 33 = .ok (.invokevirtual 115, 3) := by decide +kernel
theorem dX4_doAndLog_36 : decode cX4_doAndLog 36 = .ok (.aload_n 0, 1) := by decide +kernel
theorem dX4_doAndLog_37 : decode cX4_doAndLog 37 = .ok (.getfield 28, 3) := by decide +kernel
theorem dX4_doAndLog_40 : decode cX4_doAndLog 40 = .ok (.iload_n 1, 1) := by decide +kernel
theorem dX4_doAndLog_41 : decode cX4_doAndLog 41 = .ok (.invokevirtual 131, 3) := by decide +kernel
theorem dX4_doAndLog_44 : decode cX4_doAndLog 44 = .ok (.iload_n 2, 1) := by decide +kernel
theorem dX4_doAndLog_45 : decode cX4_doAndLog 45 = .ok (.ireturn, 1) := by decide +kernel
theorem dX4_isOfSwitch_0 : decode cX4_isOfSwitch 0 = .ok (.iload_n 0, 1) := by decide +kernel
theorem dX4_isOfSwitch_1 : decode cX4_isOfSwitch 1 = .ok (.ifCond .eq 8, 3) := by decide +kernel
theorem dX4_isOfSwitch_4 : decode cX4_isOfSwitch 4 = .ok (.iload_n 0, 1) := by decide +kernel
theorem dX4_isOfSwitch_5 : decode cX4_isOfSwitch 5 = .ok (.iconst 1, 1) := by decide +kernel
theorem dX4_isOfSwitch_6 : decode cX4_isOfSwitch 6 = .ok (.if_icmp .ne 7, 3) := by decide +kernel
theorem dX4_isOfSwitch_9 : decode cX4_isOfSwitch 9 = .ok (.iconst 1, 1) := by decide +kernel
theorem dX4_isOfSwitch_10 : decode cX4_isOfSwitch 10 = .ok (.goto 4, 3) := by decide +kernel
theorem dX4_isOfSwitch_13 : decode cX4_isOfSwitch 13 = .ok (.iconst 0, 1) := by decide +kernel
theorem dX4_isOfSwitch_14 : decode cX4_isOfSwitch 14 = .ok (.ireturn, 1) := by decide +kernel
theorem dX4_turnsOn_0 : decode cX4_turnsOn 0 = .ok (.iload_n 0, 1) := by decide +kernel
theorem dX4_turnsOn_1 : decode cX4_turnsOn 1 = .ok (.iconst 1, 1) := by decide +kernel
theorem dX4_turnsOn_2 : decode cX4_turnsOn 2 = .ok (.if_icmp .eq 13, 3) := by decide +kernel
theorem dX4_turnsOn_5 : decode cX4_turnsOn 5 = .ok (.iload_n 0, 1) := by decide +kernel
theorem dX4_turnsOn_6 : decode cX4_turnsOn 6 = .ok (.iconst 2, 1) := by decide +kernel
theorem dX4_turnsOn_7 : decode cX4_turnsOn 7 = .ok (.if_icmp .eq 8, 3) := by decide +kernel
theorem dX4_turnsOn_10 : decode cX4_turnsOn 10 = .ok (.iload_n 0, 1) := by decide +kernel
theorem dX4_turnsOn_11 : decode cX4_turnsOn 11 = .ok (.iconst 4, 1) := by decide +kernel
theorem dX4_turnsOn_12 : decode cX4_turnsOn 12 = .ok (.if_icmp .ne 7, 3) := by decide +kernel
theorem dX4_turnsOn_15 : decode cX4_turnsOn 15 = .ok (.iconst 1, 1) := by decide +kernel
theorem dX4_turnsOn_16 : decode cX4_turnsOn 16 = .ok (.goto 4, 3) := by decide +kernel
theorem dX4_turnsOn_19 : decode cX4_turnsOn 19 = .ok (.iconst 0, 1) := by decide +kernel
theorem dX4_turnsOn_20 : decode cX4_turnsOn 20 = .ok (.ireturn, 1) := by decide +kernel
theorem dX4_actOf_0 : decode cX4_actOf 0 = .ok (.bipush 100, 2) := by decide +kernel
theorem dX4_actOf_2 : decode cX4_actOf 2 = .ok (.iload_n 0, 1) := by decide +kernel
theorem dX4_actOf_3 : decode cX4_actOf 3 = .ok (.imul, 1) := by decide +kernel
theorem dX4_actOf_4 : decode cX4_actOf 4 = .ok (.iload_n 1, 1) := by decide +kernel
theorem dX4_actOf_5 : decode cX4_actOf 5 = .ok (.iadd, 1) := by decide +kernel
theorem dX4_actOf_6 : decode cX4_actOf 6 = .ok (.ireturn, 1) := by decide +kernel
theorem dX4_kindOf_0 : decode cX4_kindOf 0 = .ok (.iload_n 0, 1) := by decide +kernel
theorem dX4_kindOf_1 : decode cX4_kindOf 1 = .ok (.bipush 100, 2) := by decide +kernel
theorem dX4_kindOf_3 : decode cX4_kindOf 3 = .ok (.idiv, 1) := by decide +kernel
theorem dX4_kindOf_4 : decode cX4_kindOf 4 = .ok (.ireturn, 1) := by decide +kernel
theorem dX4_whatOf_0 : decode cX4_whatOf 0 = .ok (.iload_n 0, 1) := by decide +kernel
theorem dX4_whatOf_1 : decode cX4_whatOf 1 = .ok (.bipush 100, 2) := by decide +kernel
theorem dX4_whatOf_3 : decode cX4_whatOf 3 = .ok (.irem, 1) := by decide +kernel
theorem dX4_whatOf_4 : decode cX4_whatOf 4 = .ok (.ireturn, 1) := by decide +kernel
set_option maxRecDepth 20000 in
theorem ggX4_oppositeOf_X4_kindOf : GoodIn wsX4_oppositeOf wsX4_kindOf := goodIn_r _ [4] (by decide +kernel) (by decide +kernel)
set_option maxRecDepth 20000 in
theorem gX4_oppositeOf_X4_kindOf : GoodIn wsX4_oppositeOf (va_wsS RX4 109 yX4_kindOf wsX4_kindOf) := goodIn_app (goodIn_of _ (by decide +kernel)) ggX4_oppositeOf_X4_kindOf
set_option maxRecDepth 20000 in
theorem ggX4_oppositeOf_X4_whatOf : GoodIn wsX4_oppositeOf wsX4_whatOf := goodIn_r _ [7] (by decide +kernel) (by decide +kernel)
set_option maxRecDepth 20000 in
theorem gX4_oppositeOf_X4_whatOf : GoodIn wsX4_oppositeOf (va_wsS RX4 112 yX4_whatOf wsX4_whatOf) := goodIn_app (goodIn_of _ (by decide +kernel)) ggX4_oppositeOf_X4_whatOf
set_option maxRecDepth 20000 in
theorem ggX4_oppositeOf_X4_actOf : GoodIn wsX4_oppositeOf wsX4_actOf := goodIn_r _ [10] (by decide +kernel) (by decide +kernel)
set_option maxRecDepth 20000 in
theorem gX4_oppositeOf_X4_actOf : GoodIn wsX4_oppositeOf (va_wsS RX4 89 yX4_actOf wsX4_actOf) := goodIn_app (goodIn_of _ (by decide +kernel)) ggX4_oppositeOf_X4_actOf
theorem dX4_oppositeOf_0 : decode cX4_oppositeOf 0 = .ok (.iload_n 0, 1) := by decide +kernel
theorem dX4_oppositeOf_1 : decode cX4_oppositeOf 1 = .ok (.invokestatic 109, 3) := by decide +kernel
theorem dX4_oppositeOf_4 : decode cX4_oppositeOf 4 = .ok (.iconst 1, 1) := by decide +kernel
theorem dX4_oppositeOf_5 : decode cX4_oppositeOf 5 = .ok (.ixor, 1) := by decide +kernel
theorem dX4_oppositeOf_6 : decode cX4_oppositeOf 6 = .ok (.iload_n 0, 1) := by decide +kernel
theorem dX4_oppositeOf_7 : decode cX4_oppositeOf 7 = .ok (.invokestatic 112, 3) := by decide +kernel
theorem dX4_oppositeOf_10 : decode cX4_oppositeOf 10 = .ok (.invokestatic 89, 3) := by decide +kernel
theorem dX4_oppositeOf_13 : decode cX4_oppositeOf 13 = .ok (.ireturn, 1) := by decide +kernel
end
section
theorem dX5_init_0 : decode cX5_init 0 = .ok (.aload_n 0, 1) := by decide +kernel
theorem dX5_init_1 : decode cX5_init 1 = .ok (.invokespecial 1, 3) := by decide +kernel
theorem dX5_init_4 : decode cX5_init 4 = .ok (.aload_n 0, 1) := by decide +kernel
theorem dX5_init_5 : decode cX5_init 5 = .ok (.bipush 24, 2) := by decide +kernel
theorem dX5_init_7 : decode cX5_init 7 = .ok (.newarray .int, 2) := by decide +kernel
theorem dX5_init_9 : decode cX5_init 9 = .ok (.putfield 7, 3) := by decide +kernel
theorem dX5_init_12 : decode cX5_init 12 = .ok (.aload_n 0, 1) := by decide +kernel
theorem dX5_init_13 : decode cX5_init 13 = .ok (.bipush 24, 2) := by decide +kernel
theorem dX5_init_15 : decode cX5_init 15 = .ok (.newarray .int, 2) := by decide +kernel
theorem dX5_init_17 : decode cX5_init 17 = .ok (.putfield 13, 3) := by decide +kernel
theorem dX5_init_20 : decode cX5_init 20 = .ok (.aload_n 0, 1) := by decide +kernel
theorem dX5_init_21 : decode cX5_init 21 = .ok (.bipush 24, 2) := by decide +kernel
theorem dX5_init_23 : decode cX5_init 23 = .ok (.newarray .boolean, 2) := by decide +kernel
theorem dX5_init_25 : decode cX5_init 25 = .ok (.putfield 16, 3) := by decide +kernel
theorem dX5_init_28 : decode cX5_init 28 = .ok (.aload_n 0, 1) := by decide +kernel
theorem dX5_init_29 : decode cX5_init 29 = .ok (.sipush 200, 3) := by decide +kernel
theorem dX5_init_32 : decode cX5_init 32 = .ok (.newarray .int, 2) := by decide +kernel
theorem dX5_init_34 : decode cX5_init 34 = .ok (.putfield 20, 3) := by decide +kernel
theorem dX5_init_37 : decode cX5_init 37 = .ok (.aload_n 0, 1) := by decide +kernel
theorem dX5_init_38 : decode cX5_init 38 = .ok (.bipush 30, 2) := by decide +kernel
theorem dX5_init_40 : decode cX5_init 40 = .ok (.newarray .int, 2) := by decide +kernel
theorem dX5_init_42 : decode cX5_init 42 = .ok (.putfield 23, 3) := by decide +kernel
theorem dX5_init_45 : decode cX5_init 45 = .ok (.aload_n 0, 1) := by decide +kernel
theorem dX5_init_46 : decode cX5_init 46 = .ok (.bipush 10, 2) := by decide +kernel
theorem dX5_init_48 : decode cX5_init 48 = .ok (.newarray .int, 2) := by decide +kernel
theorem dX5_init_50 : decode cX5_init 50 = .ok (.putfield 26, 3) := by decide +kernel
theorem dX5_init_53 : decode cX5_init 53 = .ok (.aload_n 0, 1) := by decide +kernel
theorem dX5_init_54 : decode cX5_init 54 = .ok (.bipush 10, 2) := by decide +kernel
theorem dX5_init_56 : decode cX5_init 56 = .ok (.newarray .boolean, 2) := by decide +kernel
theorem dX5_init_58 : decode cX5_init 58 = .ok (.putfield 29, 3) := by decide +kernel
theorem dX5_init_61 : decode cX5_init 61 = .ok (.aload_n 0, 1) := by decide +kernel
theorem dX5_init_62 : decode cX5_init 62 = .ok (.bipush 16, 2) := by decide +kernel
theorem dX5_init_64 : decode cX5_init 64 = .ok (.newarray .int, 2) := by decide +kernel
theorem dX5_init_66 : decode cX5_init 66 = .ok (.putfield 32, 3) := by decide +kernel
theorem dX5_init_69 : decode cX5_init 69 = .ok (.return_, 1) := by decide +kernel
theorem dX5_thrown_0 : decode cX5_thrown 0 = .ok (.aload_n 0, 1) := by decide +kernel
theorem dX5_thrown_1 : decode cX5_thrown 1 = .ok (.getfield 35, 3) := by decide +kernel
theorem dX5_thrown_4 : decode cX5_thrown 4 = .ok (.ireturn, 1) := by decide +kernel
theorem dX5_in_0 : decode cX5_in 0 = .ok (.iload_n 0, 1) := by decide +kernel
theorem dX5_in_1 : decode cX5_in 1 = .ok (.iload_n 1, 1) := by decide +kernel
theorem dX5_in_2 : decode cX5_in 2 = .ok (.if_icmp .lt 12, 3) := by decide +kernel
theorem dX5_in_5 : decode cX5_in 5 = .ok (.iload_n 0, 1) := by decide +kernel
theorem dX5_in_6 : decode cX5_in 6 = .ok (.iload_n 2, 1) := by decide +kernel
theorem dX5_in_7 : decode cX5_in 7 = .ok (.if_icmp .gt 7, 3) := by decide +kernel
theorem dX5_in_10 : decode cX5_in 10 = .ok (.iconst 1, 1) := by decide +kernel
theorem dX5_in_11 : decode cX5_in 11 = .ok (.goto 4, 3) := by decide +kernel
theorem dX5_in_14 : decode cX5_in 14 = .ok (.iconst 0, 1) := by decide +kernel
theorem dX5_in_15 : decode cX5_in 15 = .ok (.ireturn, 1) := by decide +kernel
theorem dX5_has_0 : decode cX5_has 0 = .ok (.iload_n 0, 1) := by decide +kernel
theorem dX5_has_1 : decode cX5_has 1 = .ok (.iload_n 1, 1) := by decide +kernel
theorem dX5_has_2 : decode cX5_has 2 = .ok (.ishr, 1) := by decide +kernel
theorem dX5_has_3 : decode cX5_has 3 = .ok (.iconst 1, 1) := by decide +kernel
theorem dX5_has_4 : decode cX5_has 4 = .ok (.iand, 1) := by decide +kernel
theorem dX5_has_5 : decode cX5_has 5 = .ok (.iconst 1, 1) := by decide +kernel
theorem dX5_has_6 : decode cX5_has 6 = .ok (.if_icmp .ne 7, 3) := by decide +kernel
theorem dX5_has_9 : decode cX5_has 9 = .ok (.iconst 1, 1) := by decide +kernel
theorem dX5_has_10 : decode cX5_has 10 = .ok (.goto 4, 3) := by decide +kernel
theorem dX5_has_13 : decode cX5_has 13 = .ok (.iconst 0, 1) := by decide +kernel
theorem dX5_has_14 : decode cX5_has 14 = .ok (.ireturn, 1) := by decide +kernel
set_option maxRecDepth 20000 in
theorem ggX5_isNode_X5_in : GoodIn wsX5_isNode wsX5_in := goodIn_r _ [5] (by decide +kernel) (by decide +kernel)
set_option maxRecDepth 20000 in
theorem gX5_isNode_X5_in : GoodIn wsX5_isNode (va_wsS RX5 42 yX5_in wsX5_in) := goodIn_app (goodIn_of _ (by decide +kernel)) ggX5_isNode_X5_in
theorem dX5_isNode_0 : decode cX5_isNode 0 = .ok (.iload_n 1, 1) := by decide +kernel
theorem dX5_isNode_1 : decode cX5_isNode 1 = .ok (.iconst 0, 1) := by decide +kernel
theorem dX5_isNode_2 : decode cX5_isNode 2 = .ok (.aload_n 0, 1) := by decide +kernel
theorem dX5_isNode_3 : decode cX5_isNode 3 = .ok (.getfield 39, 3) := by decide +kernel
theorem dX5_isNode_6 : decode cX5_isNode 6 = .ok (.iconst 1, 1) := by decide +kernel
theorem dX5_isNode_7 : decode cX5_isNode 7 = .ok (.isub, 1) := by decide +kernel
theorem dX5_isNode_8 : decode cX5_isNode 8 = .ok (.invokestatic 42, 3) := by decide +kernel
theorem dX5_isNode_11 : decode cX5_isNode 11 = .ok (.ireturn, 1) := by decide +kernel
set_option maxRecDepth 20000 in
theorem ggX5_isSwitch_X5_in : GoodIn wsX5_isSwitch wsX5_in := goodIn_r _ [5] (by decide +kernel) (by decide +kernel)
set_option maxRecDepth 20000 in
theorem gX5_isSwitch_X5_in : GoodIn wsX5_isSwitch (va_wsS RX5 42 yX5_in wsX5_in) := goodIn_app (goodIn_of _ (by decide +kernel)) ggX5_isSwitch_X5_in
theorem dX5_isSwitch_0 : decode cX5_isSwitch 0 = .ok (.iload_n 1, 1) := by decide +kernel
theorem dX5_isSwitch_1 : decode cX5_isSwitch 1 = .ok (.iconst 0, 1) := by decide +kernel
theorem dX5_isSwitch_2 : decode cX5_isSwitch 2 = .ok (.aload_n 0, 1) := by decide +kernel
theorem dX5_isSwitch_3 : decode cX5_isSwitch 3 = .ok (.getfield 46, 3) := by decide +kernel
theorem dX5_isSwitch_6 : decode cX5_isSwitch 6 = .ok (.iconst 1, 1) := by decide +kernel
theorem dX5_isSwitch_7 : decode cX5_isSwitch 7 = .ok (.isub, 1) := by decide +kernel
theorem dX5_isSwitch_8 : decode cX5_isSwitch 8 = .ok (.invokestatic 42, 3) := by decide +kernel
theorem dX5_isSwitch_11 : decode cX5_isSwitch 11 = .ok (.ireturn, 1) := by decide +kernel
theorem dX5_addNode_0 : decode cX5_addNode 0 = .ok (.aload_n 0, 1) := by decide +kernel
theorem dX5_addNode_1 : decode cX5_addNode 1 = .ok (.aload_n 0, 1) := by decide +kernel
theorem dX5_addNode_2 : decode cX5_addNode 2 = .ok (.getfield 39, 3) := by decide +kernel
theorem dX5_addNode_5 : decode cX5_addNode 5 = .ok (.bipush 16, 2) := by decide +kernel
theorem dX5_addNode_7 : decode cX5_addNode 7 = .ok (.if_icmp .ne 7, 3) := by decide +kernel
theorem dX5_addNode_10 : decode cX5_addNode 10 = .ok (.iconst 1, 1) := by decide +kernel
theorem dX5_addNode_11 : decode cX5_addNode 11 = .ok (.goto 4, 3) := by decide +kernel
theorem dX5_addNode_14 : decode cX5_addNode 14 = .ok (.iconst 0, 1) := by decide +kernel
theorem dX5_addNode_15 : decode cX5_addNode 15 = .ok (.putfield 35, 3) := by decide +kernel
theorem dX5_addNode_18 : decode cX5_addNode 18 = .ok (.aload_n 0, 1) := by decide +kernel
theorem dX5_addNode_19 : decode cX5_addNode 19 = .ok (.getfield 35, 3) := by decide +kernel
theorem dX5_addNode_22 : decode cX5_addNode 22 = .ok (.ifCond .le 5, 3) := by decide +kernel
theorem dX5_addNode_25 : decode cX5_addNode 25 = .ok (.iconst 0, 1) := by decide +kernel
theorem dX5_addNode_26 : decode cX5_addNode 26 = .ok (.ireturn, 1) := by decide +kernel
theorem dX5_addNode_27 : decode cX5_addNode 27 = .ok (.aload_n 0, 1) := by decide +kernel
theorem dX5_addNode_28 : decode cX5_addNode 28 = .ok (.dup, 1) := by decide +kernel
theorem dX5_addNode_29 : decode cX5_addNode 29 = .ok (.getfield 49, 3) := by decide +kernel
theorem dX5_addNode_32 : decode cX5_addNode 32 = .ok (.iload_n 1, 1) := by decide +kernel
theorem dX5_addNode_33 : decode cX5_addNode 33 = .ok (.ifCond .eq 12, 3) := by decide +kernel
theorem dX5_addNode_36 : decode cX5_addNode 36 = .ok (.iconst 1, 1) := by decide +kernel
theorem dX5_addNode_37 : decode cX5_addNode 37 = .ok (.aload_n 0, 1) := by decide +kernel
theorem dX5_addNode_38 : decode cX5_addNode 38 = .ok (.getfield 39, 3) := by decide +kernel
theorem dX5_addNode_41 : decode cX5_addNode 41 = .ok (.ishl, 1) := by decide +kernel
theorem dX5_addNode_42 : decode cX5_addNode 42 = .ok (.goto 4, 3) := by decide +kernel
theorem dX5_addNode_45 : decode cX5_addNode 45 = .ok (.iconst 0, 1) := by decide +kernel
theorem dX5_addNode_46 : decode cX5_addNode 46 = .ok (.ior, 1) := by decide +kernel
theorem dX5_addNode_47 : decode cX5_addNode 47 = .ok (.putfield 49, 3) := by decide +kernel
theorem dX5_addNode_50 : decode cX5_addNode 50 = .ok (.aload_n 0, 1) := by decide +kernel
theorem dX5_addNode_51 : decode cX5_addNode 51 = .ok (.dup, 1) := by decide +kernel
theorem dX5_addNode_52 : decode cX5_addNode 52 = .ok (.getfield 52, 3) := by decide +kernel
theorem dX5_addNode_55 : decode cX5_addNode 55 = .ok (.iload_n 2, 1) := by decide +kernel
theorem dX5_addNode_56 : decode cX5_addNode 56 = .ok (.ifCond .eq 12, 3) := by decide +kernel
theorem dX5_addNode_59 : decode cX5_addNode 59 = .ok (.iconst 1, 1) := by decide +kernel
theorem dX5_addNode_60 : decode cX5_addNode 60 = .ok (.aload_n 0, 1) := by decide +kernel
theorem dX5_addNode_61 : decode cX5_addNode 61 = .ok (.getfield 39, 3) := by decide +kernel
theorem dX5_addNode_64 : decode cX5_addNode 64 = .ok (.ishl, 1) := by decide +kernel
theorem dX5_addNode_65 : decode cX5_addNode 65 = .ok (.goto 4, 3) := by decide +kernel
theorem dX5_addNode_68 : decode cX5_addNode 68 = .ok (.iconst 0, 1) := by decide +kernel
theorem dX5_addNode_69 : decode cX5_addNode 69 = .ok (.ior, 1) := by decide +kernel
theorem dX5_addNode_70 : decode cX5_addNode 70 = .ok (.putfield 52, 3) := by decide +kernel
theorem dX5_addNode_73 : decode cX5_addNode 73 = .ok (.aload_n 0, 1) := by decide +kernel
theorem dX5_addNode_74 : decode cX5_addNode 74 = .ok (.dup, 1) := by decide +kernel
theorem dX5_addNode_75 : decode cX5_addNode 75 = .ok (.getfield 39, 3) := by decide +kernel
theorem dX5_addNode_78 : decode cX5_addNode 78 = .ok (.iconst 1, 1) := by decide +kernel
theorem dX5_addNode_79 : decode cX5_addNode 79 = .ok (.iadd, 1) := by decide +kernel
theorem dX5_addNode_80 : decode cX5_addNode 80 = .ok (.putfield 39, 3) := by decide +kernel
theorem dX5_addNode_83 : decode cX5_addNode 83 = .ok (.aload_n 0, 1) := by decide +kernel
theorem dX5_addNode_84 : decode cX5_addNode 84 = .ok (.getfield 39, 3) := by decide +kernel
theorem dX5_addNode_87 : decode cX5_addNode 87 = .ok (.iconst 1, 1) := by decide +kernel
theorem dX5_addNode_88 : decode cX5_addNode 88 = .ok (.isub, 1) := by decide +kernel
theorem dX5_addNode_89 : decode cX5_addNode 89 = .ok (.ireturn, 1) := by decide +kernel
set_option maxRecDepth 20000 in
theorem ggX5_addSwitch_X5_isNode : GoodIn wsX5_addSwitch wsX5_isNode := goodIn_r _ [10, 11, 12, 13, 9, 14, 15, 16, 17, 18, 19, 20, 21, 22, 23, 24, 25, 26, 27, 28, 29, 30, 31, 32, 33] (by decide +kernel) (by decide +kernel)
set_option maxRecDepth 20000 in
theorem gX5_addSwitch_X5_isNode : GoodIn wsX5_addSwitch (wsV RX5 55 RX5 yX5_isNode wsX5_isNode) := goodIn_app (goodIn_of _ (by decide +kernel)) ggX5_addSwitch_X5_isNode
theorem dX5_addSwitch_0 : decode cX5_addSwitch 0 = .ok (.aload_n 0, 1) := by decide +kernel
theorem dX5_addSwitch_1 : decode cX5_addSwitch 1 = .ok (.aload_n 0, 1) := by decide +kernel
theorem dX5_addSwitch_2 : decode cX5_addSwitch 2 = .ok (.iload_n 1, 1) := by decide +kernel
theorem dX5_addSwitch_3 : decode cX5_addSwitch 3 = .ok (.invokevirtual 55, 3) := by decide +kernel
theorem dX5_addSwitch_6 : decode cX5_addSwitch 6 = .ok (.ifCond .eq 11, 3) := by decide +kernel
theorem dX5_addSwitch_9 : decode cX5_addSwitch 9 = .ok (.aload_n 0, 1) := by decide +kernel
theorem dX5_addSwitch_10 : decode cX5_addSwitch 10 = .ok (.iload_n 2, 1) := by decide +kernel
theorem dX5_addSwitch_11 : decode cX5_addSwitch 11 = .ok (.invokevirtual 55, 3) := by decide +kernel
theorem dX5_addSwitch_14 : decode cX5_addSwitch 14 = .ok (.ifCond .ne 7, 3) := by decide +kernel
theorem dX5_addSwitch_17 : decode cX5_addSwitch 17 = .ok (.iconst 1, 1) := by decide +kernel
theorem dX5_addSwitch_18 : decode cX5_addSwitch 18 = .ok (.goto 26, 3) := by decide +kernel
theorem dX5_addSwitch_21 : decode cX5_addSwitch 21 = .ok (.iload_n 1, 1) := by decide +kernel
theorem dX5_addSwitch_22 : decode cX5_addSwitch 22 = .ok (.iload_n 2, 1) := by decide +kernel
theorem dX5_addSwitch_23 : decode cX5_addSwitch 23 = .ok (.if_icmp .ne 7, 3) := by decide +kernel
theorem dX5_addSwitch_26 : decode cX5_addSwitch 26 = .ok (.iconst 2, 1) := by decide +kernel
theorem dX5_addSwitch_27 : decode cX5_addSwitch 27 = .ok (.goto 17, 3) := by decide +kernel
theorem dX5_addSwitch_30 : decode cX5_addSwitch 30 = .ok (.aload_n 0, 1) := by decide +kernel
theorem dX5_addSwitch_31 : decode cX5_addSwitch 31 = .ok (.getfield 46, 3) := by decide +kernel
theorem dX5_addSwitch_34 : decode cX5_addSwitch 34 = .ok (.bipush 24, 2) := by decide +kernel
theorem dX5_addSwitch_36 : decode cX5_addSwitch 36 = .ok (.if_icmp .ne 7, 3) := by decide +kernel
theorem dX5_addSwitch_39 : decode cX5_addSwitch 39 = .ok (.iconst 3, 1) := by decide +kernel
theorem dX5_addSwitch_40 : decode cX5_addSwitch 40 = .ok (.goto 4, 3) := by decide +kernel
theorem dX5_addSwitch_43 : decode cX5_addSwitch 43 = .ok (.iconst 0, 1) := by decide +kernel
theorem dX5_addSwitch_44 : decode cX5_addSwitch 44 = .ok (.putfield 35, 3) := by decide +kernel
theorem dX5_addSwitch_47 : decode cX5_addSwitch 47 = .ok (.aload_n 0, 1) := by decide +kernel
theorem dX5_addSwitch_48 : decode cX5_addSwitch 48 = .ok (.getfield 35, 3) := by decide +kernel
theorem dX5_addSwitch_51 : decode cX5_addSwitch 51 = .ok (.ifCond .le 5, 3) := by decide +kernel
theorem dX5_addSwitch_54 : decode cX5_addSwitch 54 = .ok (.iconst 0, 1) := by decide +kernel
theorem dX5_addSwitch_55 : decode cX5_addSwitch 55 = .ok (.ireturn, 1) := by decide +kernel
theorem dX5_addSwitch_56 : decode cX5_addSwitch 56 = .ok (.aload_n 0, 1) := by decide +kernel
theorem dX5_addSwitch_57 : decode cX5_addSwitch 57 = .ok (.getfield 7, 3) := by decide +kernel
theorem dX5_addSwitch_60 : decode cX5_addSwitch 60 = .ok (.aload_n 0, 1) := by decide +kernel
theorem dX5_addSwitch_61 : decode cX5_addSwitch 61 = .ok (.getfield 46, 3) := by decide +kernel
theorem dX5_addSwitch_64 : decode cX5_addSwitch 64 = .ok (.iload_n 1, 1) := by decide +kernel
theorem dX5_addSwitch_65 : decode cX5_addSwitch 65 = .ok (.iastore, 1) := by decide +kernel
theorem dX5_addSwitch_66 : decode cX5_addSwitch 66 = .ok (.aload_n 0, 1) := by decide +kernel
theorem dX5_addSwitch_67 : decode cX5_addSwitch 67 = .ok (.getfield 13, 3) := by decide +kernel
theorem dX5_addSwitch_70 : decode cX5_addSwitch 70 = .ok (.aload_n 0, 1) := by decide +kernel
theorem dX5_addSwitch_71 : decode cX5_addSwitch 71 = .ok (.getfield 46, 3) := by decide +kernel
theorem dX5_addSwitch_74 : decode cX5_addSwitch 74 = .ok (.iload_n 2, 1) := by decide +kernel
theorem dX5_addSwitch_75 : decode cX5_addSwitch 75 = .ok (.iastore, 1) := by decide +kernel
theorem dX5_addSwitch_76 : decode cX5_addSwitch 76 = .ok (.aload_n 0, 1) := by decide +kernel
theorem dX5_addSwitch_77 : decode cX5_addSwitch 77 = .ok (.getfield 16, 3) := by decide +kernel
theorem dX5_addSwitch_80 : decode cX5_addSwitch 80 = .ok (.aload_n 0, 1) := by decide +kernel
theorem dX5_addSwitch_81 : decode cX5_addSwitch 81 = .ok (.getfield 46, 3) := by decide +kernel
theorem dX5_addSwitch_84 : decode cX5_addSwitch 84 = .ok (.iload_n 3, 1) := by decide +kernel
theorem dX5_addSwitch_85 : decode cX5_addSwitch 85 = .ok (.bastore, 1) := by decide +kernel
theorem dX5_addSwitch_86 : decode cX5_addSwitch 86 = .ok (.aload_n 0, 1) := by decide +kernel
theorem dX5_addSwitch_87 : decode cX5_addSwitch 87 = .ok (.dup, 1) := by decide +kernel
theorem dX5_addSwitch_88 : decode cX5_addSwitch 88 = .ok (.getfield 46, 3) := by decide +kernel
theorem dX5_addSwitch_91 : decode cX5_addSwitch 91 = .ok (.iconst 1, 1) := by decide +kernel
theorem dX5_addSwitch_92 : decode cX5_addSwitch 92 = .ok (.iadd, 1) := by decide +kernel
theorem dX5_addSwitch_93 : decode cX5_addSwitch 93 = .ok (.putfield 46, 3) := by decide +kernel
theorem dX5_addSwitch_96 : decode cX5_addSwitch 96 = .ok (.aload_n 0, 1) := by decide +kernel
theorem dX5_addSwitch_97 : decode cX5_addSwitch 97 = .ok (.getfield 46, 3) := by decide +kernel
theorem dX5_addSwitch_100 : decode cX5_addSwitch 100 = .ok (.iconst 1, 1) := by decide +kernel
theorem dX5_addSwitch_101 : decode cX5_addSwitch 101 = .ok (.isub, 1) := by decide +kernel
theorem dX5_addSwitch_102 : decode cX5_addSwitch 102 = .ok (.ireturn, 1) := by decide +kernel
theorem dX5_nodes_0 : decode cX5_nodes 0 = .ok (.aload_n 0, 1) := by decide +kernel
theorem dX5_nodes_1 : decode cX5_nodes 1 = .ok (.iconst 0, 1) := by decide +kernel
theorem dX5_nodes_2 : decode cX5_nodes 2 = .ok (.putfield 35, 3) := by decide +kernel
theorem dX5_nodes_5 : decode cX5_nodes 5 = .ok (.aload_n 0, 1) := by decide +kernel
theorem dX5_nodes_6 : decode cX5_nodes 6 = .ok (.getfield 39, 3) := by decide +kernel
theorem dX5_nodes_9 : decode cX5_nodes 9 = .ok (.ireturn, 1) := by decide +kernel
theorem dX5_switches_0 : decode cX5_switches 0 = .ok (.aload_n 0, 1) := by decide +kernel
theorem dX5_switches_1 : decode cX5_switches 1 = .ok (.iconst 0, 1) := by decide +kernel
theorem dX5_switches_2 : decode cX5_switches 2 = .ok (.putfield 35, 3) := by decide +kernel
theorem dX5_switches_5 : decode cX5_switches 5 = .ok (.aload_n 0, 1) := by decide +kernel
theorem dX5_switches_6 : decode cX5_switches 6 = .ok (.getfield 46, 3) := by decide +kernel
theorem dX5_switches_9 : decode cX5_switches 9 = .ok (.ireturn, 1) := by decide +kernel
set_option maxRecDepth 20000 in
theorem ggX5_partOf_X5_has : GoodIn wsX5_partOf wsX5_has := goodIn_r _ [7] (by decide +kernel) (by decide +kernel)
set_option maxRecDepth 20000 in
theorem gX5_partOf_X5_has : GoodIn wsX5_partOf (va_wsS RX5 59 yX5_has wsX5_has) := goodIn_app (goodIn_of _ (by decide +kernel)) ggX5_partOf_X5_has
theorem dX5_partOf_0 : decode cX5_partOf 0 = .ok (.iconst 1, 1) := by decide +kernel
theorem dX5_partOf_1 : decode cX5_partOf 1 = .ok (.iload_n 1, 1) := by decide +kernel
theorem dX5_partOf_2 : decode cX5_partOf 2 = .ok (.ishl, 1) := by decide +kernel
theorem dX5_partOf_3 : decode cX5_partOf 3 = .ok (.istore_n 3, 1) := by decide +kernel
theorem dX5_partOf_4 : decode cX5_partOf 4 = .ok (.iconst 0, 1) := by decide +kernel
theorem dX5_partOf_5 : decode cX5_partOf 5 = .ok (.istore 4, 2) := by decide +kernel
theorem dX5_partOf_7 : decode cX5_partOf 7 = .ok (.iload_n 3, 1) := by decide +kernel
theorem dX5_partOf_8 : decode cX5_partOf 8 = .ok (.iload 4, 2) := by decide +kernel
theorem dX5_partOf_10 : decode cX5_partOf 10 = .ok (.if_icmp .eq 102, 3) := by decide +kernel
theorem dX5_partOf_13 : decode cX5_partOf 13 = .ok (.iload_n 3, 1) := by decide +kernel
theorem dX5_partOf_14 : decode cX5_partOf 14 = .ok (.istore 4, 2) := by decide +kernel
theorem dX5_partOf_16 : decode cX5_partOf 16 = .ok (.iconst 0, 1) := by decide +kernel
theorem dX5_partOf_17 : decode cX5_partOf 17 = .ok (.istore 5, 2) := by decide +kernel
theorem dX5_partOf_19 : decode cX5_partOf 19 = .ok (.iload 5, 2) := by decide +kernel
theorem dX5_partOf_21 : decode cX5_partOf 21 = .ok (.aload_n 0, 1) := by decide +kernel
theorem dX5_partOf_22 : decode cX5_partOf 22 = .ok (.getfield 46, 3) := by decide +kernel
theorem dX5_partOf_25 : decode cX5_partOf 25 = .ok (.if_icmp .ge 84, 3) := by decide +kernel
theorem dX5_partOf_28 : decode cX5_partOf 28 = .ok (.iload_n 3, 1) := by decide +kernel
theorem dX5_partOf_29 : decode cX5_partOf 29 = .ok (.aload_n 0, 1) := by decide +kernel
theorem dX5_partOf_30 : decode cX5_partOf 30 = .ok (.getfield 7, 3) := by decide +kernel
theorem dX5_partOf_33 : decode cX5_partOf 33 = .ok (.iload 5, 2) := by decide +kernel
theorem dX5_partOf_35 : decode cX5_partOf 35 = .ok (.iaload, 1) := by decide +kernel
theorem dX5_partOf_36 : decode cX5_partOf 36 = .ok (.invokestatic 59, 3) := by decide +kernel
theorem dX5_partOf_39 : decode cX5_partOf 39 = .ok (.ifCond .ne 17, 3) := by decide +kernel
theorem dX5_partOf_42 : decode cX5_partOf 42 = .ok (.iload_n 3, 1) := by decide +kernel
theorem dX5_partOf_43 : decode cX5_partOf 43 = .ok (.aload_n 0, 1) := by decide +kernel
theorem dX5_partOf_44 : decode cX5_partOf 44 = .ok (.getfield 13, 3) := by decide +kernel
theorem dX5_partOf_47 : decode cX5_partOf 47 = .ok (.iload 5, 2) := by decide +kernel
theorem dX5_partOf_49 : decode cX5_partOf 49 = .ok (.iaload, 1) := by decide +kernel
theorem dX5_partOf_50 : decode cX5_partOf 50 = .ok (.invokestatic 59, 3) := by decide +kernel
theorem dX5_partOf_53 : decode cX5_partOf 53 = .ok (.ifCond .eq 7, 3) := by decide +kernel
theorem dX5_partOf_56 : decode cX5_partOf 56 = .ok (.iconst 1, 1) := by decide +kernel
theorem dX5_partOf_57 : decode cX5_partOf 57 = .ok (.goto 4, 3) := by decide +kernel
theorem dX5_partOf_60 : decode cX5_partOf 60 = .ok (.iconst 0, 1) := by decide +kernel
theorem dX5_partOf_61 : decode cX5_partOf 61 = .ok (.istore 6, 2) := by decide +kernel
theorem dX5_partOf_63 : decode cX5_partOf 63 = .ok (.iload_n 3, 1) := by decide +kernel
theorem dX5_partOf_64 : decode cX5_partOf 64 = .ok (.iload 6, 2) := by decide +kernel
theorem dX5_partOf_66 : decode cX5_partOf 66 = .ok (.ifCond .eq 34, 3) := by decide +kernel
theorem dX5_partOf_69 : decode cX5_partOf 69 = .ok (.iload_n 2, 1) := by decide +kernel
theorem dX5_partOf_70 : decode cX5_partOf 70 = .ok (.iload 5, 2) := by decide +kernel
theorem dX5_partOf_72 : decode cX5_partOf 72 = .ok (.invokestatic 59, 3) := by decide +kernel
theorem dX5_partOf_75 : decode cX5_partOf 75 = .ok (.ifCond .eq 25, 3) := by decide +kernel
theorem dX5_partOf_78 : decode cX5_partOf 78 = .ok (.iconst 1, 1) := by decide +kernel
theorem dX5_partOf_79 : decode cX5_partOf 79 = .ok (.aload_n 0, 1) := by decide +kernel
theorem dX5_partOf_80 : decode cX5_partOf 80 = .ok (.getfield 7, 3) := by decide +kernel
theorem dX5_partOf_83 : decode cX5_partOf 83 = .ok (.iload 5, 2) := by decide +kernel
theorem dX5_partOf_85 : decode cX5_partOf 85 = .ok (.iaload, 1) := by decide +kernel
theorem dX5_partOf_86 : decode cX5_partOf 86 = .ok (.ishl, 1) := by decide +kernel
theorem dX5_partOf_87 : decode cX5_partOf 87 = .ok (.iconst 1, 1) := by decide +kernel
theorem dX5_partOf_88 : decode cX5_partOf 88 = .ok (.aload_n 0, 1) := by decide +kernel
theorem dX5_partOf_89 : decode cX5_partOf 89 = .ok (.getfield 13, 3) := by decide +kernel
theorem dX5_partOf_92 : decode cX5_partOf 92 = .ok (.iload 5, 2) := by decide +kernel
theorem dX5_partOf_94 : decode cX5_partOf 94 = .ok (.iaload, 1) := by decide +kernel
theorem dX5_partOf_95 : decode cX5_partOf 95 = .ok (.ishl, 1) := by decide +kernel
theorem dX5_partOf_96 : decode cX5_partOf 96 = .ok (.ior, 1) := by decide +kernel
theorem dX5_partOf_97 : decode cX5_partOf 97 = .ok (.goto 4, 3) := by decide +kernel
theorem dX5_partOf_100 : decode cX5_partOf 100 = .ok (.iconst 0, 1) := by decide +kernel
theorem dX5_partOf_101 : decode cX5_partOf 101 = .ok (.ior, 1) := by decide +kernel
theorem dX5_partOf_102 : decode cX5_partOf 102 = .ok (.istore_n 3, 1) := by decide +kernel
theorem dX5_partOf_103 : decode cX5_partOf 103 = .ok (.iinc 5 1, 3) := by decide +kernel
theorem dX5_partOf_106 : decode cX5_partOf 106 = .ok (.goto (-87), 3) := by decide +kernel
theorem dX5_partOf_109 : decode cX5_partOf 109 = .ok (.goto (-102), 3) := by decide +kernel
theorem dX5_partOf_112 : decode cX5_partOf 112 = .ok (.iload_n 3, 1) := by decide +kernel
theorem dX5_partOf_113 : decode cX5_partOf 113 = .ok (.ireturn, 1) := by decide +kernel
set_option maxRecDepth 20000 in
theorem ggX5_isLive_X5_partOf : GoodIn wsX5_isLive wsX5_partOf := goodIn_r _ [5, 6, 7, 8, 9, 10, 4, 11, 12, 13, 14, 15, 16, 17, 18, 19, 20, 21, 22, 23, 24, 25, 26, 27, 28, 29, 30] (by decide +kernel) (by decide +kernel)
set_option maxRecDepth 20000 in
theorem gX5_isLive_X5_partOf : GoodIn wsX5_isLive (wsV RX5 63 RX5 yX5_partOf wsX5_partOf) := goodIn_app (goodIn_of _ (by decide +kernel)) ggX5_isLive_X5_partOf
theorem dX5_isLive_0 : decode cX5_isLive 0 = .ok (.aload_n 0, 1) := by decide +kernel
theorem dX5_isLive_1 : decode cX5_isLive 1 = .ok (.iload_n 1, 1) := by decide +kernel
theorem dX5_isLive_2 : decode cX5_isLive 2 = .ok (.iload_n 2, 1) := by decide +kernel
theorem dX5_isLive_3 : decode cX5_isLive 3 = .ok (.invokevirtual 63, 3) := by decide +kernel
theorem dX5_isLive_6 : decode cX5_isLive 6 = .ok (.iload_n 3, 1) := by decide +kernel
theorem dX5_isLive_7 : decode cX5_isLive 7 = .ok (.iand, 1) := by decide +kernel
theorem dX5_isLive_8 : decode cX5_isLive 8 = .ok (.ifCond .eq 7, 3) := by decide +kernel
theorem dX5_isLive_11 : decode cX5_isLive 11 = .ok (.iconst 1, 1) := by decide +kernel
theorem dX5_isLive_12 : decode cX5_isLive 12 = .ok (.goto 4, 3) := by decide +kernel
theorem dX5_isLive_15 : decode cX5_isLive 15 = .ok (.iconst 0, 1) := by decide +kernel
theorem dX5_isLive_16 : decode cX5_isLive 16 = .ok (.ireturn, 1) := by decide +kernel
set_option maxRecDepth 20000 in
theorem ggX5_isEarthed_X5_partOf : GoodIn wsX5_isEarthed wsX5_partOf := goodIn_r _ [5, 6, 7, 8, 9, 10, 4, 11, 12, 13, 14, 15, 16, 17, 18, 19, 20, 21, 22, 23, 24, 25, 26, 27, 28, 29, 30] (by decide +kernel) (by decide +kernel)
set_option maxRecDepth 20000 in
theorem gX5_isEarthed_X5_partOf : GoodIn wsX5_isEarthed (wsV RX5 63 RX5 yX5_partOf wsX5_partOf) := goodIn_app (goodIn_of _ (by decide +kernel)) ggX5_isEarthed_X5_partOf
theorem dX5_isEarthed_0 : decode cX5_isEarthed 0 = .ok (.aload_n 0, 1) := by decide +kernel
theorem dX5_isEarthed_1 : decode cX5_isEarthed 1 = .ok (.iload_n 1, 1) := by decide +kernel
theorem dX5_isEarthed_2 : decode cX5_isEarthed 2 = .ok (.iload_n 2, 1) := by decide +kernel
theorem dX5_isEarthed_3 : decode cX5_isEarthed 3 = .ok (.invokevirtual 63, 3) := by decide +kernel
theorem dX5_isEarthed_6 : decode cX5_isEarthed 6 = .ok (.iload_n 3, 1) := by decide +kernel
theorem dX5_isEarthed_7 : decode cX5_isEarthed 7 = .ok (.iand, 1) := by decide +kernel
theorem dX5_isEarthed_8 : decode cX5_isEarthed 8 = .ok (.ifCond .eq 7, 3) := by decide +kernel
theorem dX5_isEarthed_11 : decode cX5_isEarthed 11 = .ok (.iconst 1, 1) := by decide +kernel
theorem dX5_isEarthed_12 : decode cX5_isEarthed 12 = .ok (.goto 4, 3) := by decide +kernel
theorem dX5_isEarthed_15 : decode cX5_isEarthed 15 = .ok (.iconst 0, 1) := by decide +kernel
theorem dX5_isEarthed_16 : decode cX5_isEarthed 16 = .ok (.ireturn, 1) := by decide +kernel
set_option maxRecDepth 20000 in
theorem ggX5_isLoaded_X5_isLive : GoodIn wsX5_isLoaded wsX5_isLive := goodIn_r _ [7, 8, 9, 10, 6, 11, 12, 13, 14, 15, 16, 17, 18, 19, 20, 21, 22, 23, 24, 25, 26, 27, 28, 29, 30, 31, 32, 33, 34, 35, 36] (by decide +kernel) (by decide +kernel)
set_option maxRecDepth 20000 in
theorem gX5_isLoaded_X5_isLive : GoodIn wsX5_isLoaded (wsV RX5 70 RX5 yX5_isLive wsX5_isLive) := goodIn_app (goodIn_of _ (by decide +kernel)) ggX5_isLoaded_X5_isLive
set_option maxRecDepth 20000 in
theorem ggX5_isLoaded_X5_partOf : GoodIn wsX5_isLoaded wsX5_partOf := goodIn_r _ [11, 12, 13, 14, 15, 16, 6, 17, 18, 19, 20, 21, 22, 23, 24, 25, 26, 27, 28, 29, 30, 31, 32, 33, 34, 35, 36] (by decide +kernel) (by decide +kernel)
set_option maxRecDepth 20000 in
theorem gX5_isLoaded_X5_partOf : GoodIn wsX5_isLoaded (wsV RX5 63 RX5 yX5_partOf wsX5_partOf) := goodIn_app (goodIn_of _ (by decide +kernel)) ggX5_isLoaded_X5_partOf
theorem dX5_isLoaded_0 : decode cX5_isLoaded 0 = .ok (.aload_n 0, 1) := by decide +kernel
theorem dX5_isLoaded_1 : decode cX5_isLoaded 1 = .ok (.iload_n 1, 1) := by decide +kernel
theorem dX5_isLoaded_2 : decode cX5_isLoaded 2 = .ok (.iload_n 2, 1) := by decide +kernel
theorem dX5_isLoaded_3 : decode cX5_isLoaded 3 = .ok (.aload_n 0, 1) := by decide +kernel
theorem dX5_isLoaded_4 : decode cX5_isLoaded 4 = .ok (.getfield 67, 3) := by decide +kernel
theorem dX5_isLoaded_7 : decode cX5_isLoaded 7 = .ok (.invokevirtual 70, 3) := by decide +kernel
theorem dX5_isLoaded_10 : decode cX5_isLoaded 10 = .ok (.ifCond .eq 21, 3) := by decide +kernel
theorem dX5_isLoaded_13 : decode cX5_isLoaded 13 = .ok (.aload_n 0, 1) := by decide +kernel
theorem dX5_isLoaded_14 : decode cX5_isLoaded 14 = .ok (.iload_n 1, 1) := by decide +kernel
theorem dX5_isLoaded_15 : decode cX5_isLoaded 15 = .ok (.iload_n 2, 1) := by decide +kernel
theorem dX5_isLoaded_16 : decode cX5_isLoaded 16 = .ok (.invokevirtual 63, 3) := by decide +kernel
theorem dX5_isLoaded_19 : decode cX5_isLoaded 19 = .ok (.aload_n 0, 1) := by decide +kernel
theorem dX5_isLoaded_20 : decode cX5_isLoaded 20 = .ok (.getfield 52, 3) := by decide +kernel
theorem dX5_isLoaded_23 : decode cX5_isLoaded 23 = .ok (.iand, 1) := by decide +kernel
theorem dX5_isLoaded_24 : decode cX5_isLoaded 24 = .ok (.ifCond .eq 7, 3) := by decide +kernel
theorem dX5_isLoaded_27 : decode cX5_isLoaded 27 = .ok (.iconst 1, 1) := by decide +kernel
theorem dX5_isLoaded_28 : decode cX5_isLoaded 28 = .ok (.goto 4, 3) := by decide +kernel
theorem dX5_isLoaded_31 : decode cX5_isLoaded 31 = .ok (.iconst 0, 1) := by decide +kernel
theorem dX5_isLoaded_32 : decode cX5_isLoaded 32 = .ok (.ireturn, 1) := by decide +kernel
theorem dX5_heldNow_0 : decode cX5_heldNow 0 = .ok (.iconst 0, 1) := by decide +kernel
theorem dX5_heldNow_1 : decode cX5_heldNow 1 = .ok (.istore_n 1, 1) := by decide +kernel
theorem dX5_heldNow_2 : decode cX5_heldNow 2 = .ok (.iconst 0, 1) := by decide +kernel
theorem dX5_heldNow_3 : decode cX5_heldNow 3 = .ok (.istore_n 2, 1) := by decide +kernel
theorem dX5_heldNow_4 : decode cX5_heldNow 4 = .ok (.iload_n 2, 1) := by decide +kernel
theorem dX5_heldNow_5 : decode cX5_heldNow 5 = .ok (.aload_n 0, 1) := by decide +kernel
theorem dX5_heldNow_6 : decode cX5_heldNow 6 = .ok (.getfield 73, 3) := by decide +kernel
theorem dX5_heldNow_9 : decode cX5_heldNow 9 = .ok (.if_icmp .ge 31, 3) := by decide +kernel
theorem dX5_heldNow_12 : decode cX5_heldNow 12 = .ok (.iload_n 1, 1) := by decide +kernel
theorem dX5_heldNow_13 : decode cX5_heldNow 13 = .ok (.aload_n 0, 1) := by decide +kernel
theorem dX5_heldNow_14 : decode cX5_heldNow 14 = .ok (.getfield 29, 3) := by decide +kernel
theorem dX5_heldNow_17 : decode cX5_heldNow 17 = .ok (.iload_n 2, 1) := by decide +kernel
theorem dX5_heldNow_18 : decode cX5_heldNow 18 = .ok (.baload, 1) := by decide +kernel
theorem dX5_heldNow_19 : decode cX5_heldNow 19 = .ok (.ifCond .eq 12, 3) := by decide +kernel
theorem dX5_heldNow_22 : decode cX5_heldNow 22 = .ok (.aload_n 0, 1) := by decide +kernel
theorem dX5_heldNow_23 : decode cX5_heldNow 23 = .ok (.getfield 26, 3) := by decide +kernel
theorem dX5_heldNow_26 : decode cX5_heldNow 26 = .ok (.iload_n 2, 1) := by decide +kernel
theorem dX5_heldNow_27 : decode cX5_heldNow 27 = .ok (.iaload, 1) := by decide +kernel
theorem dX5_heldNow_28 : decode cX5_heldNow 28 = .ok (.goto 4, 3) := by decide +kernel
theorem dX5_heldNow_31 : decode cX5_heldNow 31 = .ok (.iconst 0, 1) := by decide +kernel
theorem dX5_heldNow_32 : decode cX5_heldNow 32 = .ok (.ior, 1) := by decide +kernel
theorem dX5_heldNow_33 : decode cX5_heldNow 33 = .ok (.istore_n 1, 1) := by decide +kernel
theorem dX5_heldNow_34 : decode cX5_heldNow 34 = .ok (.iinc 2 1, 3) := by decide +kernel
theorem dX5_heldNow_37 : decode cX5_heldNow 37 = .ok (.goto (-33), 3) := by decide +kernel
theorem dX5_heldNow_40 : decode cX5_heldNow 40 = .ok (.iload_n 1, 1) := by decide +kernel
theorem dX5_heldNow_41 : decode cX5_heldNow 41 = .ok (.ireturn, 1) := by decide +kernel
set_option maxRecDepth 20000 in
theorem ggX5_isReady_X5_has : GoodIn wsX5_isReady wsX5_has := goodIn_r _ [8] (by decide +kernel) (by decide +kernel)
set_option maxRecDepth 20000 in
theorem gX5_isReady_X5_has : GoodIn wsX5_isReady (va_wsS RX5 59 yX5_has wsX5_has) := goodIn_app (goodIn_of _ (by decide +kernel)) ggX5_isReady_X5_has
theorem dX5_isReady_0 : decode cX5_isReady 0 = .ok (.iload_n 1, 1) := by decide +kernel
theorem dX5_isReady_1 : decode cX5_isReady 1 = .ok (.iconst 2, 1) := by decide +kernel
theorem dX5_isReady_2 : decode cX5_isReady 2 = .ok (.if_icmp .ge 29, 3) := by decide +kernel
theorem dX5_isReady_5 : decode cX5_isReady 5 = .ok (.aload_n 0, 1) := by decide +kernel
theorem dX5_isReady_6 : decode cX5_isReady 6 = .ok (.getfield 76, 3) := by decide +kernel
theorem dX5_isReady_9 : decode cX5_isReady 9 = .ok (.iload_n 2, 1) := by decide +kernel
theorem dX5_isReady_10 : decode cX5_isReady 10 = .ok (.invokestatic 59, 3) := by decide +kernel
theorem dX5_isReady_13 : decode cX5_isReady 13 = .ok (.iload_n 1, 1) := by decide +kernel
theorem dX5_isReady_14 : decode cX5_isReady 14 = .ok (.ifCond .ne 7, 3) := by decide +kernel
theorem dX5_isReady_17 : decode cX5_isReady 17 = .ok (.iconst 1, 1) := by decide +kernel
theorem dX5_isReady_18 : decode cX5_isReady 18 = .ok (.goto 4, 3) := by decide +kernel
theorem dX5_isReady_21 : decode cX5_isReady 21 = .ok (.iconst 0, 1) := by decide +kernel
theorem dX5_isReady_22 : decode cX5_isReady 22 = .ok (.if_icmp .ne 7, 3) := by decide +kernel
theorem dX5_isReady_25 : decode cX5_isReady 25 = .ok (.iconst 1, 1) := by decide +kernel
theorem dX5_isReady_26 : decode cX5_isReady 26 = .ok (.goto 4, 3) := by decide +kernel
theorem dX5_isReady_29 : decode cX5_isReady 29 = .ok (.iconst 0, 1) := by decide +kernel
theorem dX5_isReady_30 : decode cX5_isReady 30 = .ok (.ireturn, 1) := by decide +kernel
theorem dX5_isReady_31 : decode cX5_isReady 31 = .ok (.iload_n 1, 1) := by decide +kernel
theorem dX5_isReady_32 : decode cX5_isReady 32 = .ok (.iconst 4, 1) := by decide +kernel
theorem dX5_isReady_33 : decode cX5_isReady 33 = .ok (.if_icmp .ge 30, 3) := by decide +kernel
theorem dX5_isReady_36 : decode cX5_isReady 36 = .ok (.aload_n 0, 1) := by decide +kernel
theorem dX5_isReady_37 : decode cX5_isReady 37 = .ok (.getfield 79, 3) := by decide +kernel
theorem dX5_isReady_40 : decode cX5_isReady 40 = .ok (.iload_n 2, 1) := by decide +kernel
theorem dX5_isReady_41 : decode cX5_isReady 41 = .ok (.invokestatic 59, 3) := by decide +kernel
theorem dX5_isReady_44 : decode cX5_isReady 44 = .ok (.iload_n 1, 1) := by decide +kernel
theorem dX5_isReady_45 : decode cX5_isReady 45 = .ok (.iconst 3, 1) := by decide +kernel
theorem dX5_isReady_46 : decode cX5_isReady 46 = .ok (.if_icmp .ne 7, 3) := by decide +kernel
theorem dX5_isReady_49 : decode cX5_isReady 49 = .ok (.iconst 1, 1) := by decide +kernel
theorem dX5_isReady_50 : decode cX5_isReady 50 = .ok (.goto 4, 3) := by decide +kernel
theorem dX5_isReady_53 : decode cX5_isReady 53 = .ok (.iconst 0, 1) := by decide +kernel
theorem dX5_isReady_54 : decode cX5_isReady 54 = .ok (.if_icmp .ne 7, 3) := by decide +kernel
theorem dX5_isReady_57 : decode cX5_isReady 57 = .ok (.iconst 1, 1) := by decide +kernel
theorem dX5_isReady_58 : decode cX5_isReady 58 = .ok (.goto 4, 3) := by decide +kernel
theorem dX5_isReady_61 : decode cX5_isReady 61 = .ok (.iconst 0, 1) := by decide +kernel
theorem dX5_isReady_62 : decode cX5_isReady 62 = .ok (.ireturn, 1) := by decide +kernel
theorem dX5_isReady_63 : decode cX5_isReady 63 = .ok (.aload_n 0, 1) := by decide +kernel
theorem dX5_isReady_64 : decode cX5_isReady 64 = .ok (.getfield 49, 3) := by decide +kernel
theorem dX5_isReady_67 : decode cX5_isReady 67 = .ok (.iload_n 2, 1) := by decide +kernel
theorem dX5_isReady_68 : decode cX5_isReady 68 = .ok (.invokestatic 59, 3) := by decide +kernel
theorem dX5_isReady_71 : decode cX5_isReady 71 = .ok (.ifCond .eq 28, 3) := by decide +kernel
theorem dX5_isReady_74 : decode cX5_isReady 74 = .ok (.aload_n 0, 1) := by decide +kernel
theorem dX5_isReady_75 : decode cX5_isReady 75 = .ok (.getfield 67, 3) := by decide +kernel
theorem dX5_isReady_78 : decode cX5_isReady 78 = .ok (.iload_n 2, 1) := by decide +kernel
theorem dX5_isReady_79 : decode cX5_isReady 79 = .ok (.invokestatic 59, 3) := by decide +kernel
theorem dX5_isReady_82 : decode cX5_isReady 82 = .ok (.iload_n 1, 1) := by decide +kernel
theorem dX5_isReady_83 : decode cX5_isReady 83 = .ok (.iconst 5, 1) := by decide +kernel
theorem dX5_isReady_84 : decode cX5_isReady 84 = .ok (.if_icmp .ne 7, 3) := by decide +kernel
theorem dX5_isReady_87 : decode cX5_isReady 87 = .ok (.iconst 1, 1) := by decide +kernel
theorem dX5_isReady_88 : decode cX5_isReady 88 = .ok (.goto 4, 3) := by decide +kernel
theorem dX5_isReady_91 : decode cX5_isReady 91 = .ok (.iconst 0, 1) := by decide +kernel
theorem dX5_isReady_92 : decode cX5_isReady 92 = .ok (.if_icmp .ne 7, 3) := by decide +kernel
theorem dX5_isReady_95 : decode cX5_isReady 95 = .ok (.iconst 1, 1) := by decide +kernel
theorem dX5_isReady_96 : decode cX5_isReady 96 = .ok (.goto 4, 3) := by decide +kernel
theorem dX5_isReady_99 : decode cX5_isReady 99 = .ok (.iconst 0, 1) := by decide +kernel
theorem dX5_isReady_100 : decode cX5_isReady 100 = .ok (.ireturn, 1) := by decide +kernel
theorem dX5_touched_0 : decode cX5_touched 0 = .ok (.iload_n 1, 1) := by decide +kernel
theorem dX5_touched_1 : decode cX5_touched 1 = .ok (.iconst 2, 1) := by decide +kernel
theorem dX5_touched_2 : decode cX5_touched 2 = .ok (.if_icmp .ge 23, 3) := by decide +kernel
theorem dX5_touched_5 : decode cX5_touched 5 = .ok (.iconst 1, 1) := by decide +kernel
theorem dX5_touched_6 : decode cX5_touched 6 = .ok (.aload_n 0, 1) := by decide +kernel
theorem dX5_touched_7 : decode cX5_touched 7 = .ok (.getfield 7, 3) := by decide +kernel
theorem dX5_touched_10 : decode cX5_touched 10 = .ok (.iload_n 2, 1) := by decide +kernel
theorem dX5_touched_11 : decode cX5_touched 11 = .ok (.iaload, 1) := by decide +kernel
theorem dX5_touched_12 : decode cX5_touched 12 = .ok (.ishl, 1) := by decide +kernel
theorem dX5_touched_13 : decode cX5_touched 13 = .ok (.iconst 1, 1) := by decide +kernel
theorem dX5_touched_14 : decode cX5_touched 14 = .ok (.aload_n 0, 1) := by decide +kernel
theorem dX5_touched_15 : decode cX5_touched 15 = .ok (.getfield 13, 3) := by decide +kernel
theorem dX5_touched_18 : decode cX5_touched 18 = .ok (.iload_n 2, 1) := by decide +kernel
theorem dX5_touched_19 : decode cX5_touched 19 = .ok (.iaload, 1) := by decide +kernel
theorem dX5_touched_20 : decode cX5_touched 20 = .ok (.ishl, 1) := by decide +kernel
theorem dX5_touched_21 : decode cX5_touched 21 = .ok (.ior, 1) := by decide +kernel
theorem dX5_touched_22 : decode cX5_touched 22 = .ok (.goto 6, 3) := by decide +kernel
theorem dX5_touched_25 : decode cX5_touched 25 = .ok (.iconst 1, 1) := by decide +kernel
theorem dX5_touched_26 : decode cX5_touched 26 = .ok (.iload_n 2, 1) := by decide +kernel
theorem dX5_touched_27 : decode cX5_touched 27 = .ok (.ishl, 1) := by decide +kernel
theorem dX5_touched_28 : decode cX5_touched 28 = .ok (.ireturn, 1) := by decide +kernel
set_option maxRecDepth 20000 in
theorem ggX5_isBarredOpening_X5_isLoaded : GoodIn wsX5_isBarredOpening wsX5_isLoaded := goodIn_r _ [9, 10, 11, 12, 13, 14, 8, 15, 16, 17, 18, 19, 20, 1, 3, 21, 22, 23, 24, 25, 26, 27, 28, 29, 30, 31, 32, 33, 34, 35, 36, 37, 38, 39, 40, 41, 42] (by decide +kernel) (by decide +kernel)
set_option maxRecDepth 20000 in
theorem gX5_isBarredOpening_X5_isLoaded : GoodIn wsX5_isBarredOpening (wsV RX5 82 RX5 yX5_isLoaded wsX5_isLoaded) := goodIn_app (goodIn_of _ (by decide +kernel)) ggX5_isBarredOpening_X5_isLoaded
set_option maxRecDepth 20000 in
theorem ggX5_isBarredOpening_X5_partOf : GoodIn wsX5_isBarredOpening wsX5_partOf := goodIn_r _ [19, 20, 1, 3, 21, 22, 8, 23, 24, 25, 26, 27, 28, 29, 30, 31, 32, 33, 34, 35, 36, 37, 38, 39, 40, 41, 42] (by decide +kernel) (by decide +kernel)
set_option maxRecDepth 20000 in
theorem gX5_isBarredOpening_X5_partOf : GoodIn wsX5_isBarredOpening (wsV RX5 63 RX5 yX5_partOf wsX5_partOf) := goodIn_app (goodIn_of _ (by decide +kernel)) ggX5_isBarredOpening_X5_partOf
set_option maxRecDepth 20000 in
theorem ggX5_isBarredOpening_X5_has : GoodIn wsX5_isBarredOpening wsX5_has := goodIn_r _ [23] (by decide +kernel) (by decide +kernel)
set_option maxRecDepth 20000 in
theorem gX5_isBarredOpening_X5_has : GoodIn wsX5_isBarredOpening (va_wsS RX5 59 yX5_has wsX5_has) := goodIn_app (goodIn_of _ (by decide +kernel)) ggX5_isBarredOpening_X5_has
theorem dX5_isBarredOpening_0 : decode cX5_isBarredOpening 0 = .ok (.aload_n 0, 1) := by decide +kernel
theorem dX5_isBarredOpening_1 : decode cX5_isBarredOpening 1 = .ok (.aload_n 0, 1) := by decide +kernel
theorem dX5_isBarredOpening_2 : decode cX5_isBarredOpening 2 = .ok (.getfield 7, 3) := by decide +kernel
theorem dX5_isBarredOpening_5 : decode cX5_isBarredOpening 5 = .ok (.iload_n 1, 1) := by decide +kernel
theorem dX5_isBarredOpening_6 : decode cX5_isBarredOpening 6 = .ok (.iaload, 1) := by decide +kernel
theorem dX5_isBarredOpening_7 : decode cX5_isBarredOpening 7 = .ok (.aload_n 0, 1) := by decide +kernel
theorem dX5_isBarredOpening_8 : decode cX5_isBarredOpening 8 = .ok (.getfield 76, 3) := by decide +kernel
theorem dX5_isBarredOpening_11 : decode cX5_isBarredOpening 11 = .ok (.invokevirtual 82, 3) := by decide +kernel
theorem dX5_isBarredOpening_14 : decode cX5_isBarredOpening 14 = .ok (.ifCond .ne 24, 3) := by decide +kernel
theorem dX5_isBarredOpening_17 : decode cX5_isBarredOpening 17 = .ok (.aload_n 0, 1) := by decide +kernel
theorem dX5_isBarredOpening_18 : decode cX5_isBarredOpening 18 = .ok (.aload_n 0, 1) := by decide +kernel
theorem dX5_isBarredOpening_19 : decode cX5_isBarredOpening 19 = .ok (.getfield 13, 3) := by decide +kernel
theorem dX5_isBarredOpening_22 : decode cX5_isBarredOpening 22 = .ok (.iload_n 1, 1) := by decide +kernel
theorem dX5_isBarredOpening_23 : decode cX5_isBarredOpening 23 = .ok (.iaload, 1) := by decide +kernel
theorem dX5_isBarredOpening_24 : decode cX5_isBarredOpening 24 = .ok (.aload_n 0, 1) := by decide +kernel
theorem dX5_isBarredOpening_25 : decode cX5_isBarredOpening 25 = .ok (.getfield 76, 3) := by decide +kernel
theorem dX5_isBarredOpening_28 : decode cX5_isBarredOpening 28 = .ok (.invokevirtual 82, 3) := by decide +kernel
theorem dX5_isBarredOpening_31 : decode cX5_isBarredOpening 31 = .ok (.ifCond .ne 7, 3) := by decide +kernel
theorem dX5_isBarredOpening_34 : decode cX5_isBarredOpening 34 = .ok (.iconst 1, 1) := by decide +kernel
theorem dX5_isBarredOpening_35 : decode cX5_isBarredOpening 35 = .ok (.goto 4, 3) := by decide +kernel
theorem dX5_isBarredOpening_38 : decode cX5_isBarredOpening 38 = .ok (.iconst 0, 1) := by decide +kernel
theorem dX5_isBarredOpening_39 : decode cX5_isBarredOpening 39 = .ok (.istore_n 2, 1) := by decide +kernel
theorem dX5_isBarredOpening_40 : decode cX5_isBarredOpening 40 = .ok (.aload_n 0, 1) := by decide +kernel
theorem dX5_isBarredOpening_41 : decode cX5_isBarredOpening 41 = .ok (.getfield 16, 3) := by decide +kernel
theorem dX5_isBarredOpening_44 : decode cX5_isBarredOpening 44 = .ok (.iload_n 1, 1) := by decide +kernel
theorem dX5_isBarredOpening_45 : decode cX5_isBarredOpening 45 = .ok (.baload, 1) := by decide +kernel
theorem dX5_isBarredOpening_46 : decode cX5_isBarredOpening 46 = .ok (.ifCond .ne 43, 3) := by decide +kernel
theorem dX5_isBarredOpening_49 : decode cX5_isBarredOpening 49 = .ok (.iload_n 2, 1) := by decide +kernel
theorem dX5_isBarredOpening_50 : decode cX5_isBarredOpening 50 = .ok (.ifCond .ne 39, 3) := by decide +kernel
theorem dX5_isBarredOpening_53 : decode cX5_isBarredOpening 53 = .ok (.aload_n 0, 1) := by decide +kernel
theorem dX5_isBarredOpening_54 : decode cX5_isBarredOpening 54 = .ok (.aload_n 0, 1) := by decide +kernel
theorem dX5_isBarredOpening_55 : decode cX5_isBarredOpening 55 = .ok (.getfield 7, 3) := by decide +kernel
theorem dX5_isBarredOpening_58 : decode cX5_isBarredOpening 58 = .ok (.iload_n 1, 1) := by decide +kernel
theorem dX5_isBarredOpening_59 : decode cX5_isBarredOpening 59 = .ok (.iaload, 1) := by decide +kernel
theorem dX5_isBarredOpening_60 : decode cX5_isBarredOpening 60 = .ok (.aload_n 0, 1) := by decide +kernel
theorem dX5_isBarredOpening_61 : decode cX5_isBarredOpening 61 = .ok (.getfield 76, 3) := by decide +kernel
theorem dX5_isBarredOpening_64 : decode cX5_isBarredOpening 64 = .ok (.iconst 1, 1) := by decide +kernel
theorem dX5_isBarredOpening_65 : decode cX5_isBarredOpening 65 = .ok (.iload_n 1, 1) := by decide +kernel
theorem dX5_isBarredOpening_66 : decode cX5_isBarredOpening 66 = .ok (.ishl, 1) := by decide +kernel
theorem dX5_isBarredOpening_67 : decode cX5_isBarredOpening 67 = .ok (.iconst (-1), 1) := by decide +kernel
theorem dX5_isBarredOpening_68 : decode cX5_isBarredOpening 68 = .ok (.ixor, 1) := by decide +kernel
theorem dX5_isBarredOpening_69 : decode cX5_isBarredOpening 69 = .ok (.iand, 1) := by decide +kernel
theorem dX5_isBarredOpening_70 : decode cX5_isBarredOpening 70 = .ok (.invokevirtual 63, 3) := by decide +kernel
theorem dX5_isBarredOpening_73 : decode cX5_isBarredOpening 73 = .ok (.aload_n 0, 1) := by decide +kernel
theorem dX5_isBarredOpening_74 : decode cX5_isBarredOpening 74 = .ok (.getfield 13, 3) := by decide +kernel
theorem dX5_isBarredOpening_77 : decode cX5_isBarredOpening 77 = .ok (.iload_n 1, 1) := by decide +kernel
theorem dX5_isBarredOpening_78 : decode cX5_isBarredOpening 78 = .ok (.iaload, 1) := by decide +kernel
theorem dX5_isBarredOpening_79 : decode cX5_isBarredOpening 79 = .ok (.invokestatic 59, 3) := by decide +kernel
theorem dX5_isBarredOpening_82 : decode cX5_isBarredOpening 82 = .ok (.ifCond .ne 7, 3) := by decide +kernel
theorem dX5_isBarredOpening_85 : decode cX5_isBarredOpening 85 = .ok (.iconst 1, 1) := by decide +kernel
theorem dX5_isBarredOpening_86 : decode cX5_isBarredOpening 86 = .ok (.goto 4, 3) := by decide +kernel
theorem dX5_isBarredOpening_89 : decode cX5_isBarredOpening 89 = .ok (.iconst 0, 1) := by decide +kernel
theorem dX5_isBarredOpening_90 : decode cX5_isBarredOpening 90 = .ok (.ireturn, 1) := by decide +kernel
set_option maxRecDepth 20000 in
theorem ggX5_isBarredClosing_X5_isLive : GoodIn wsX5_isBarredClosing wsX5_isLive := goodIn_r _ [11, 12, 13, 14, 10, 15, 16, 1, 4, 17, 18, 19, 29, 30, 31, 32, 33, 34, 35, 36, 37, 38, 39, 40, 41, 42, 43, 44, 45, 46, 47] (by decide +kernel) (by decide +kernel)
set_option maxRecDepth 20000 in
theorem gX5_isBarredClosing_X5_isLive : GoodIn wsX5_isBarredClosing (wsV RX5 70 RX5 yX5_isLive wsX5_isLive) := goodIn_app (goodIn_of _ (by decide +kernel)) ggX5_isBarredClosing_X5_isLive
set_option maxRecDepth 20000 in
theorem ggX5_isBarredClosing_X5_isEarthed : GoodIn wsX5_isBarredClosing wsX5_isEarthed := goodIn_r _ [23, 12, 13, 14, 10, 15, 16, 1, 4, 17, 18, 19, 29, 30, 31, 32, 33, 34, 35, 36, 37, 38, 39, 40, 41, 42, 43, 44, 45, 46, 47] (by decide +kernel) (by decide +kernel)
set_option maxRecDepth 20000 in
theorem gX5_isBarredClosing_X5_isEarthed : GoodIn wsX5_isBarredClosing (wsV RX5 85 RX5 yX5_isEarthed wsX5_isEarthed) := goodIn_app (goodIn_of _ (by decide +kernel)) ggX5_isBarredClosing_X5_isEarthed
set_option maxRecDepth 20000 in
theorem ggX5_isBarredClosing_X5_partOf : GoodIn wsX5_isBarredClosing wsX5_partOf := goodIn_r _ [15, 16, 1, 4, 17, 18, 10, 19, 29, 30, 31, 32, 33, 34, 35, 36, 37, 38, 39, 40, 41, 42, 43, 44, 45, 46, 47] (by decide +kernel) (by decide +kernel)
set_option maxRecDepth 20000 in
theorem gX5_isBarredClosing_X5_partOf : GoodIn wsX5_isBarredClosing (wsV RX5 63 RX5 yX5_partOf wsX5_partOf) := goodIn_app (goodIn_of _ (by decide +kernel)) ggX5_isBarredClosing_X5_partOf
set_option maxRecDepth 20000 in
theorem ggX5_isBarredClosing_X5_has : GoodIn wsX5_isBarredClosing wsX5_has := goodIn_r _ [19] (by decide +kernel) (by decide +kernel)
set_option maxRecDepth 20000 in
theorem gX5_isBarredClosing_X5_has : GoodIn wsX5_isBarredClosing (va_wsS RX5 59 yX5_has wsX5_has) := goodIn_app (goodIn_of _ (by decide +kernel)) ggX5_isBarredClosing_X5_has
set_option maxRecDepth 20000 in
theorem ggX5_isBarredClosing_X5_isLoaded : GoodIn wsX5_isBarredClosing wsX5_isLoaded := goodIn_r _ [27, 3, 28, 7, 8, 9, 10, 11, 12, 13, 14, 15, 16, 1, 4, 17, 18, 19, 29, 30, 31, 32, 33, 34, 35, 36, 37, 38, 39, 40, 41, 42, 43, 44, 45, 46, 47] (by decide +kernel) (by decide +kernel)
set_option maxRecDepth 20000 in
theorem gX5_isBarredClosing_X5_isLoaded : GoodIn wsX5_isBarredClosing (wsV RX5 82 RX5 yX5_isLoaded wsX5_isLoaded) := goodIn_app (goodIn_of _ (by decide +kernel)) ggX5_isBarredClosing_X5_isLoaded
theorem dX5_isBarredClosing_0 : decode cX5_isBarredClosing 0 = .ok (.aload_n 0, 1) := by decide +kernel
theorem dX5_isBarredClosing_1 : decode cX5_isBarredClosing 1 = .ok (.aload_n 0, 1) := by decide +kernel
theorem dX5_isBarredClosing_2 : decode cX5_isBarredClosing 2 = .ok (.getfield 7, 3) := by decide +kernel
theorem dX5_isBarredClosing_5 : decode cX5_isBarredClosing 5 = .ok (.iload_n 1, 1) := by decide +kernel
theorem dX5_isBarredClosing_6 : decode cX5_isBarredClosing 6 = .ok (.iaload, 1) := by decide +kernel
theorem dX5_isBarredClosing_7 : decode cX5_isBarredClosing 7 = .ok (.aload_n 0, 1) := by decide +kernel
theorem dX5_isBarredClosing_8 : decode cX5_isBarredClosing 8 = .ok (.getfield 76, 3) := by decide +kernel
theorem dX5_isBarredClosing_11 : decode cX5_isBarredClosing 11 = .ok (.aload_n 0, 1) := by decide +kernel
theorem dX5_isBarredClosing_12 : decode cX5_isBarredClosing 12 = .ok (.getfield 67, 3) := by decide +kernel
theorem dX5_isBarredClosing_15 : decode cX5_isBarredClosing 15 = .ok (.invokevirtual 70, 3) := by decide +kernel
theorem dX5_isBarredClosing_18 : decode cX5_isBarredClosing 18 = .ok (.ifCond .eq 28, 3) := by decide +kernel
theorem dX5_isBarredClosing_21 : decode cX5_isBarredClosing 21 = .ok (.aload_n 0, 1) := by decide +kernel
theorem dX5_isBarredClosing_22 : decode cX5_isBarredClosing 22 = .ok (.aload_n 0, 1) := by decide +kernel
theorem dX5_isBarredClosing_23 : decode cX5_isBarredClosing 23 = .ok (.getfield 13, 3) := by decide +kernel
theorem dX5_isBarredClosing_26 : decode cX5_isBarredClosing 26 = .ok (.iload_n 1, 1) := by decide +kernel
theorem dX5_isBarredClosing_27 : decode cX5_isBarredClosing 27 = .ok (.iaload, 1) := by decide +kernel
theorem dX5_isBarredClosing_28 : decode cX5_isBarredClosing 28 = .ok (.aload_n 0, 1) := by decide +kernel
theorem dX5_isBarredClosing_29 : decode cX5_isBarredClosing 29 = .ok (.getfield 76, 3) := by decide +kernel
theorem dX5_isBarredClosing_32 : decode cX5_isBarredClosing 32 = .ok (.aload_n 0, 1) := by decide +kernel
theorem dX5_isBarredClosing_33 : decode cX5_isBarredClosing 33 = .ok (.getfield 79, 3) := by decide +kernel
theorem dX5_isBarredClosing_36 : decode cX5_isBarredClosing 36 = .ok (.invokevirtual 85, 3) := by decide +kernel
theorem dX5_isBarredClosing_39 : decode cX5_isBarredClosing 39 = .ok (.ifCond .eq 7, 3) := by decide +kernel
theorem dX5_isBarredClosing_42 : decode cX5_isBarredClosing 42 = .ok (.iconst 1, 1) := by decide +kernel
theorem dX5_isBarredClosing_43 : decode cX5_isBarredClosing 43 = .ok (.goto 4, 3) := by decide +kernel
theorem dX5_isBarredClosing_46 : decode cX5_isBarredClosing 46 = .ok (.iconst 0, 1) := by decide +kernel
theorem dX5_isBarredClosing_47 : decode cX5_isBarredClosing 47 = .ok (.istore_n 2, 1) := by decide +kernel
theorem dX5_isBarredClosing_48 : decode cX5_isBarredClosing 48 = .ok (.aload_n 0, 1) := by decide +kernel
theorem dX5_isBarredClosing_49 : decode cX5_isBarredClosing 49 = .ok (.aload_n 0, 1) := by decide +kernel
theorem dX5_isBarredClosing_50 : decode cX5_isBarredClosing 50 = .ok (.getfield 13, 3) := by decide +kernel
theorem dX5_isBarredClosing_53 : decode cX5_isBarredClosing 53 = .ok (.iload_n 1, 1) := by decide +kernel
theorem dX5_isBarredClosing_54 : decode cX5_isBarredClosing 54 = .ok (.iaload, 1) := by decide +kernel
theorem dX5_isBarredClosing_55 : decode cX5_isBarredClosing 55 = .ok (.aload_n 0, 1) := by decide +kernel
theorem dX5_isBarredClosing_56 : decode cX5_isBarredClosing 56 = .ok (.getfield 76, 3) := by decide +kernel
theorem dX5_isBarredClosing_59 : decode cX5_isBarredClosing 59 = .ok (.aload_n 0, 1) := by decide +kernel
theorem dX5_isBarredClosing_60 : decode cX5_isBarredClosing 60 = .ok (.getfield 67, 3) := by decide +kernel
theorem dX5_isBarredClosing_63 : decode cX5_isBarredClosing 63 = .ok (.invokevirtual 70, 3) := by decide +kernel
theorem dX5_isBarredClosing_66 : decode cX5_isBarredClosing 66 = .ok (.ifCond .eq 28, 3) := by decide +kernel
theorem dX5_isBarredClosing_69 : decode cX5_isBarredClosing 69 = .ok (.aload_n 0, 1) := by decide +kernel
theorem dX5_isBarredClosing_70 : decode cX5_isBarredClosing 70 = .ok (.aload_n 0, 1) := by decide +kernel
theorem dX5_isBarredClosing_71 : decode cX5_isBarredClosing 71 = .ok (.getfield 7, 3) := by decide +kernel
theorem dX5_isBarredClosing_74 : decode cX5_isBarredClosing 74 = .ok (.iload_n 1, 1) := by decide +kernel
theorem dX5_isBarredClosing_75 : decode cX5_isBarredClosing 75 = .ok (.iaload, 1) := by decide +kernel
theorem dX5_isBarredClosing_76 : decode cX5_isBarredClosing 76 = .ok (.aload_n 0, 1) := by decide +kernel
theorem dX5_isBarredClosing_77 : decode cX5_isBarredClosing 77 = .ok (.getfield 76, 3) := by decide +kernel
theorem dX5_isBarredClosing_80 : decode cX5_isBarredClosing 80 = .ok (.aload_n 0, 1) := by decide +kernel
theorem dX5_isBarredClosing_81 : decode cX5_isBarredClosing 81 = .ok (.getfield 79, 3) := by decide +kernel
theorem dX5_isBarredClosing_84 : decode cX5_isBarredClosing 84 = .ok (.invokevirtual 85, 3) := by decide +kernel
theorem dX5_isBarredClosing_87 : decode cX5_isBarredClosing 87 = .ok (.ifCond .eq 7, 3) := by decide +kernel
theorem dX5_isBarredClosing_90 : decode cX5_isBarredClosing 90 = .ok (.iconst 1, 1) := by decide +kernel
theorem dX5_isBarredClosing_91 : decode cX5_isBarredClosing 91 = .ok (.goto 4, 3) := by decide +kernel
theorem dX5_isBarredClosing_94 : decode cX5_isBarredClosing 94 = .ok (.iconst 0, 1) := by decide +kernel
theorem dX5_isBarredClosing_95 : decode cX5_isBarredClosing 95 = .ok (.istore_n 3, 1) := by decide +kernel
theorem dX5_isBarredClosing_96 : decode cX5_isBarredClosing 96 = .ok (.aload_n 0, 1) := by decide +kernel
theorem dX5_isBarredClosing_97 : decode cX5_isBarredClosing 97 = .ok (.getfield 76, 3) := by decide +kernel
theorem dX5_isBarredClosing_100 : decode cX5_isBarredClosing 100 = .ok (.iconst 1, 1) := by decide +kernel
theorem dX5_isBarredClosing_101 : decode cX5_isBarredClosing 101 = .ok (.iload_n 1, 1) := by decide +kernel
theorem dX5_isBarredClosing_102 : decode cX5_isBarredClosing 102 = .ok (.ishl, 1) := by decide +kernel
theorem dX5_isBarredClosing_103 : decode cX5_isBarredClosing 103 = .ok (.ior, 1) := by decide +kernel
theorem dX5_isBarredClosing_104 : decode cX5_isBarredClosing 104 = .ok (.istore 4, 2) := by decide +kernel
theorem dX5_isBarredClosing_106 : decode cX5_isBarredClosing 106 = .ok (.aload_n 0, 1) := by decide +kernel
theorem dX5_isBarredClosing_107 : decode cX5_isBarredClosing 107 = .ok (.aload_n 0, 1) := by decide +kernel
theorem dX5_isBarredClosing_108 : decode cX5_isBarredClosing 108 = .ok (.getfield 7, 3) := by decide +kernel
theorem dX5_isBarredClosing_111 : decode cX5_isBarredClosing 111 = .ok (.iload_n 1, 1) := by decide +kernel
theorem dX5_isBarredClosing_112 : decode cX5_isBarredClosing 112 = .ok (.iaload, 1) := by decide +kernel
theorem dX5_isBarredClosing_113 : decode cX5_isBarredClosing 113 = .ok (.aload_n 0, 1) := by decide +kernel
theorem dX5_isBarredClosing_114 : decode cX5_isBarredClosing 114 = .ok (.getfield 76, 3) := by decide +kernel
theorem dX5_isBarredClosing_117 : decode cX5_isBarredClosing 117 = .ok (.invokevirtual 63, 3) := by decide +kernel
theorem dX5_isBarredClosing_120 : decode cX5_isBarredClosing 120 = .ok (.aload_n 0, 1) := by decide +kernel
theorem dX5_isBarredClosing_121 : decode cX5_isBarredClosing 121 = .ok (.getfield 13, 3) := by decide +kernel
theorem dX5_isBarredClosing_124 : decode cX5_isBarredClosing 124 = .ok (.iload_n 1, 1) := by decide +kernel
theorem dX5_isBarredClosing_125 : decode cX5_isBarredClosing 125 = .ok (.iaload, 1) := by decide +kernel
theorem dX5_isBarredClosing_126 : decode cX5_isBarredClosing 126 = .ok (.invokestatic 59, 3) := by decide +kernel
theorem dX5_isBarredClosing_129 : decode cX5_isBarredClosing 129 = .ok (.ifCond .ne 33, 3) := by decide +kernel
theorem dX5_isBarredClosing_132 : decode cX5_isBarredClosing 132 = .ok (.aload_n 0, 1) := by decide +kernel
theorem dX5_isBarredClosing_133 : decode cX5_isBarredClosing 133 = .ok (.aload_n 0, 1) := by decide +kernel
theorem dX5_isBarredClosing_134 : decode cX5_isBarredClosing 134 = .ok (.getfield 7, 3) := by decide +kernel
theorem dX5_isBarredClosing_137 : decode cX5_isBarredClosing 137 = .ok (.iload_n 1, 1) := by decide +kernel
theorem dX5_isBarredClosing_138 : decode cX5_isBarredClosing 138 = .ok (.iaload, 1) := by decide +kernel
theorem dX5_isBarredClosing_139 : decode cX5_isBarredClosing 139 = .ok (.iload 4, 2) := by decide +kernel
theorem dX5_isBarredClosing_141 : decode cX5_isBarredClosing 141 = .ok (.invokevirtual 82, 3) := by decide +kernel
theorem dX5_isBarredClosing_144 : decode cX5_isBarredClosing 144 = .ok (.ifCond .ne 22, 3) := by decide +kernel
theorem dX5_isBarredClosing_147 : decode cX5_isBarredClosing 147 = .ok (.aload_n 0, 1) := by decide +kernel
theorem dX5_isBarredClosing_148 : decode cX5_isBarredClosing 148 = .ok (.aload_n 0, 1) := by decide +kernel
theorem dX5_isBarredClosing_149 : decode cX5_isBarredClosing 149 = .ok (.getfield 13, 3) := by decide +kernel
theorem dX5_isBarredClosing_152 : decode cX5_isBarredClosing 152 = .ok (.iload_n 1, 1) := by decide +kernel
theorem dX5_isBarredClosing_153 : decode cX5_isBarredClosing 153 = .ok (.iaload, 1) := by decide +kernel
theorem dX5_isBarredClosing_154 : decode cX5_isBarredClosing 154 = .ok (.iload 4, 2) := by decide +kernel
theorem dX5_isBarredClosing_156 : decode cX5_isBarredClosing 156 = .ok (.invokevirtual 82, 3) := by decide +kernel
theorem dX5_isBarredClosing_159 : decode cX5_isBarredClosing 159 = .ok (.ifCond .ne 7, 3) := by decide +kernel
theorem dX5_isBarredClosing_162 : decode cX5_isBarredClosing 162 = .ok (.iconst 1, 1) := by decide +kernel
theorem dX5_isBarredClosing_163 : decode cX5_isBarredClosing 163 = .ok (.goto 4, 3) := by decide +kernel
theorem dX5_isBarredClosing_166 : decode cX5_isBarredClosing 166 = .ok (.iconst 0, 1) := by decide +kernel
theorem dX5_isBarredClosing_167 : decode cX5_isBarredClosing 167 = .ok (.istore 5, 2) := by decide +kernel
theorem dX5_isBarredClosing_169 : decode cX5_isBarredClosing 169 = .ok (.iload_n 2, 1) := by decide +kernel
theorem dX5_isBarredClosing_170 : decode cX5_isBarredClosing 170 = .ok (.ifCond .ne 21, 3) := by decide +kernel
theorem dX5_isBarredClosing_173 : decode cX5_isBarredClosing 173 = .ok (.iload_n 3, 1) := by decide +kernel
theorem dX5_isBarredClosing_174 : decode cX5_isBarredClosing 174 = .ok (.ifCond .ne 17, 3) := by decide +kernel
theorem dX5_isBarredClosing_177 : decode cX5_isBarredClosing 177 = .ok (.aload_n 0, 1) := by decide +kernel
theorem dX5_isBarredClosing_178 : decode cX5_isBarredClosing 178 = .ok (.getfield 16, 3) := by decide +kernel
theorem dX5_isBarredClosing_181 : decode cX5_isBarredClosing 181 = .ok (.iload_n 1, 1) := by decide +kernel
theorem dX5_isBarredClosing_182 : decode cX5_isBarredClosing 182 = .ok (.baload, 1) := by decide +kernel
theorem dX5_isBarredClosing_183 : decode cX5_isBarredClosing 183 = .ok (.ifCond .ne 12, 3) := by decide +kernel
theorem dX5_isBarredClosing_186 : decode cX5_isBarredClosing 186 = .ok (.iload 5, 2) := by decide +kernel
theorem dX5_isBarredClosing_188 : decode cX5_isBarredClosing 188 = .ok (.ifCond .ne 7, 3) := by decide +kernel
theorem dX5_isBarredClosing_191 : decode cX5_isBarredClosing 191 = .ok (.iconst 1, 1) := by decide +kernel
theorem dX5_isBarredClosing_192 : decode cX5_isBarredClosing 192 = .ok (.goto 4, 3) := by decide +kernel
theorem dX5_isBarredClosing_195 : decode cX5_isBarredClosing 195 = .ok (.iconst 0, 1) := by decide +kernel
theorem dX5_isBarredClosing_196 : decode cX5_isBarredClosing 196 = .ok (.ireturn, 1) := by decide +kernel
set_option maxRecDepth 20000 in
theorem ggX5_isBarred_X5_isBarredOpening : GoodIn wsX5_isBarred wsX5_isBarredOpening := goodIn_r _ [8, 9, 1, 10, 11, 12, 13, 14, 7, 15, 2, 16, 17, 18, 19, 20, 21, 22, 23, 24, 25, 26, 27, 28, 37, 38, 39, 40, 41, 42, 43, 44, 45, 46, 47, 48, 49, 50, 51, 52, 53, 54, 55] (by decide +kernel) (by decide +kernel)
set_option maxRecDepth 20000 in
theorem gX5_isBarred_X5_isBarredOpening : GoodIn wsX5_isBarred (wsV RX5 88 RX5 yX5_isBarredOpening wsX5_isBarredOpening) := goodIn_app (goodIn_of _ (by decide +kernel)) ggX5_isBarred_X5_isBarredOpening
set_option maxRecDepth 20000 in
theorem ggX5_isBarred_X5_isBarredClosing : GoodIn wsX5_isBarred wsX5_isBarredClosing := goodIn_r _ [32, 9, 1, 2, 10, 3, 11, 17, 18, 19, 7, 20, 21, 22, 23, 24, 25, 26, 27, 28, 33, 34, 35, 36, 12, 13, 14, 15, 16, 37, 38, 39, 40, 41, 42, 43, 44, 45, 46, 47, 48, 49, 50, 51, 52, 53, 54, 55] (by decide +kernel) (by decide +kernel)
set_option maxRecDepth 20000 in
theorem gX5_isBarred_X5_isBarredClosing : GoodIn wsX5_isBarred (wsV RX5 91 RX5 yX5_isBarredClosing wsX5_isBarredClosing) := goodIn_app (goodIn_of _ (by decide +kernel)) ggX5_isBarred_X5_isBarredClosing
set_option maxRecDepth 20000 in
theorem ggX5_isBarred_X5_isLive : GoodIn wsX5_isBarred wsX5_isLive := goodIn_r _ [20, 21, 22, 23, 7, 24, 25, 9, 10, 26, 27, 28, 37, 38, 39, 40, 41, 42, 43, 44, 45, 46, 47, 48, 49, 50, 51, 52, 53, 54, 55] (by decide +kernel) (by decide +kernel)
set_option maxRecDepth 20000 in
theorem gX5_isBarred_X5_isLive : GoodIn wsX5_isBarred (wsV RX5 70 RX5 yX5_isLive wsX5_isLive) := goodIn_app (goodIn_of _ (by decide +kernel)) ggX5_isBarred_X5_isLive
set_option maxRecDepth 20000 in
theorem ggX5_isBarred_X5_isEarthed : GoodIn wsX5_isBarred wsX5_isEarthed := goodIn_r _ [36, 21, 22, 23, 7, 24, 25, 9, 10, 26, 27, 28, 37, 38, 39, 40, 41, 42, 43, 44, 45, 46, 47, 48, 49, 50, 51, 52, 53, 54, 55] (by decide +kernel) (by decide +kernel)
set_option maxRecDepth 20000 in
theorem gX5_isBarred_X5_isEarthed : GoodIn wsX5_isBarred (wsV RX5 85 RX5 yX5_isEarthed wsX5_isEarthed) := goodIn_app (goodIn_of _ (by decide +kernel)) ggX5_isBarred_X5_isEarthed
theorem dX5_isBarred_0 : decode cX5_isBarred 0 = .ok (.iload_n 1, 1) := by decide +kernel
theorem dX5_isBarred_1 : decode cX5_isBarred 1 = .ok (.ifCond .ne 9, 3) := by decide +kernel
theorem dX5_isBarred_4 : decode cX5_isBarred 4 = .ok (.aload_n 0, 1) := by decide +kernel
theorem dX5_isBarred_5 : decode cX5_isBarred 5 = .ok (.iload_n 2, 1) := by decide +kernel
theorem dX5_isBarred_6 : decode cX5_isBarred 6 = .ok (.invokevirtual 88, 3) := by decide +kernel
theorem dX5_isBarred_9 : decode cX5_isBarred 9 = .ok (.ireturn, 1) := by decide +kernel
theorem dX5_isBarred_10 : decode cX5_isBarred 10 = .ok (.iload_n 1, 1) := by decide +kernel
theorem dX5_isBarred_11 : decode cX5_isBarred 11 = .ok (.iconst 1, 1) := by decide +kernel
theorem dX5_isBarred_12 : decode cX5_isBarred 12 = .ok (.if_icmp .ne 9, 3) := by decide +kernel
theorem dX5_isBarred_15 : decode cX5_isBarred 15 = .ok (.aload_n 0, 1) := by decide +kernel
theorem dX5_isBarred_16 : decode cX5_isBarred 16 = .ok (.iload_n 2, 1) := by decide +kernel
theorem dX5_isBarred_17 : decode cX5_isBarred 17 = .ok (.invokevirtual 91, 3) := by decide +kernel
theorem dX5_isBarred_20 : decode cX5_isBarred 20 = .ok (.ireturn, 1) := by decide +kernel
theorem dX5_isBarred_21 : decode cX5_isBarred 21 = .ok (.iload_n 1, 1) := by decide +kernel
theorem dX5_isBarred_22 : decode cX5_isBarred 22 = .ok (.iconst 2, 1) := by decide +kernel
theorem dX5_isBarred_23 : decode cX5_isBarred 23 = .ok (.if_icmp .ne 19, 3) := by decide +kernel
theorem dX5_isBarred_26 : decode cX5_isBarred 26 = .ok (.aload_n 0, 1) := by decide +kernel
theorem dX5_isBarred_27 : decode cX5_isBarred 27 = .ok (.iload_n 2, 1) := by decide +kernel
theorem dX5_isBarred_28 : decode cX5_isBarred 28 = .ok (.aload_n 0, 1) := by decide +kernel
theorem dX5_isBarred_29 : decode cX5_isBarred 29 = .ok (.getfield 76, 3) := by decide +kernel
theorem dX5_isBarred_32 : decode cX5_isBarred 32 = .ok (.aload_n 0, 1) := by decide +kernel
theorem dX5_isBarred_33 : decode cX5_isBarred 33 = .ok (.getfield 67, 3) := by decide +kernel
theorem dX5_isBarred_36 : decode cX5_isBarred 36 = .ok (.invokevirtual 70, 3) := by decide +kernel
theorem dX5_isBarred_39 : decode cX5_isBarred 39 = .ok (.ifCond .ne 24, 3) := by decide +kernel
theorem dX5_isBarred_42 : decode cX5_isBarred 42 = .ok (.iload_n 1, 1) := by decide +kernel
theorem dX5_isBarred_43 : decode cX5_isBarred 43 = .ok (.iconst 4, 1) := by decide +kernel
theorem dX5_isBarred_44 : decode cX5_isBarred 44 = .ok (.if_icmp .ne 23, 3) := by decide +kernel
theorem dX5_isBarred_47 : decode cX5_isBarred 47 = .ok (.aload_n 0, 1) := by decide +kernel
theorem dX5_isBarred_48 : decode cX5_isBarred 48 = .ok (.iload_n 2, 1) := by decide +kernel
theorem dX5_isBarred_49 : decode cX5_isBarred 49 = .ok (.aload_n 0, 1) := by decide +kernel
theorem dX5_isBarred_50 : decode cX5_isBarred 50 = .ok (.getfield 76, 3) := by decide +kernel
theorem dX5_isBarred_53 : decode cX5_isBarred 53 = .ok (.aload_n 0, 1) := by decide +kernel
theorem dX5_isBarred_54 : decode cX5_isBarred 54 = .ok (.getfield 79, 3) := by decide +kernel
theorem dX5_isBarred_57 : decode cX5_isBarred 57 = .ok (.invokevirtual 85, 3) := by decide +kernel
theorem dX5_isBarred_60 : decode cX5_isBarred 60 = .ok (.ifCond .eq 7, 3) := by decide +kernel
theorem dX5_isBarred_63 : decode cX5_isBarred 63 = .ok (.iconst 1, 1) := by decide +kernel
theorem dX5_isBarred_64 : decode cX5_isBarred 64 = .ok (.goto 4, 3) := by decide +kernel
theorem dX5_isBarred_67 : decode cX5_isBarred 67 = .ok (.iconst 0, 1) := by decide +kernel
theorem dX5_isBarred_68 : decode cX5_isBarred 68 = .ok (.ireturn, 1) := by decide +kernel
theorem dX5_does_0 : decode cX5_does 0 = .ok (.iconst 1, 1) := by decide +kernel
theorem dX5_does_1 : decode cX5_does 1 = .ok (.iload_n 2, 1) := by decide +kernel
theorem dX5_does_2 : decode cX5_does 2 = .ok (.ishl, 1) := by decide +kernel
theorem dX5_does_3 : decode cX5_does 3 = .ok (.istore_n 3, 1) := by decide +kernel
theorem dX5_does_4 : decode cX5_does 4 = .ok (.aload_n 0, 1) := by decide +kernel
theorem dX5_does_5 : decode cX5_does 5 = .ok (.iload_n 1, 1) := by decide +kernel
theorem dX5_does_6 : decode cX5_does 6 = .ok (.ifCond .ne 14, 3) := by decide +kernel
theorem dX5_does_9 : decode cX5_does 9 = .ok (.aload_n 0, 1) := by decide +kernel
theorem dX5_does_10 : decode cX5_does 10 = .ok (.getfield 76, 3) := by decide +kernel
theorem dX5_does_13 : decode cX5_does 13 = .ok (.iload_n 3, 1) := by decide +kernel
theorem dX5_does_14 : decode cX5_does 14 = .ok (.iconst (-1), 1) := by decide +kernel
theorem dX5_does_15 : decode cX5_does 15 = .ok (.ixor, 1) := by decide +kernel
theorem dX5_does_16 : decode cX5_does 16 = .ok (.iand, 1) := by decide +kernel
theorem dX5_does_17 : decode cX5_does 17 = .ok (.goto 21, 3) := by decide +kernel
theorem dX5_does_20 : decode cX5_does 20 = .ok (.iload_n 1, 1) := by decide +kernel
theorem dX5_does_21 : decode cX5_does 21 = .ok (.iconst 1, 1) := by decide +kernel
theorem dX5_does_22 : decode cX5_does 22 = .ok (.if_icmp .ne 12, 3) := by decide +kernel
theorem dX5_does_25 : decode cX5_does 25 = .ok (.aload_n 0, 1) := by decide +kernel
theorem dX5_does_26 : decode cX5_does 26 = .ok (.getfield 76, 3) := by decide +kernel
theorem dX5_does_29 : decode cX5_does 29 = .ok (.iload_n 3, 1) := by decide +kernel
theorem dX5_does_30 : decode cX5_does 30 = .ok (.ior, 1) := by decide +kernel
theorem dX5_does_31 : decode cX5_does 31 = .ok (.goto 7, 3) := by decide +kernel
theorem dX5_does_34 : decode cX5_does 34 = .ok (.aload_n 0, 1) := by decide +kernel
theorem dX5_does_35 : decode cX5_does 35 = .ok (.getfield 76, 3) := by decide +kernel
theorem dX5_does_38 : decode cX5_does 38 = .ok (.putfield 76, 3) := by decide +kernel
theorem dX5_does_41 : decode cX5_does 41 = .ok (.aload_n 0, 1) := by decide +kernel
theorem dX5_does_42 : decode cX5_does 42 = .ok (.iload_n 1, 1) := by decide +kernel
theorem dX5_does_43 : decode cX5_does 43 = .ok (.iconst 2, 1) := by decide +kernel
theorem dX5_does_44 : decode cX5_does 44 = .ok (.if_icmp .ne 12, 3) := by decide +kernel
theorem dX5_does_47 : decode cX5_does 47 = .ok (.aload_n 0, 1) := by decide +kernel
theorem dX5_does_48 : decode cX5_does 48 = .ok (.getfield 79, 3) := by decide +kernel
theorem dX5_does_51 : decode cX5_does 51 = .ok (.iload_n 3, 1) := by decide +kernel
theorem dX5_does_52 : decode cX5_does 52 = .ok (.ior, 1) := by decide +kernel
theorem dX5_does_53 : decode cX5_does 53 = .ok (.goto 23, 3) := by decide +kernel
theorem dX5_does_56 : decode cX5_does 56 = .ok (.iload_n 1, 1) := by decide +kernel
theorem dX5_does_57 : decode cX5_does 57 = .ok (.iconst 3, 1) := by decide +kernel
theorem dX5_does_58 : decode cX5_does 58 = .ok (.if_icmp .ne 14, 3) := by decide +kernel
theorem dX5_does_61 : decode cX5_does 61 = .ok (.aload_n 0, 1) := by decide +kernel
theorem dX5_does_62 : decode cX5_does 62 = .ok (.getfield 79, 3) := by decide +kernel
theorem dX5_does_65 : decode cX5_does 65 = .ok (.iload_n 3, 1) := by decide +kernel
theorem dX5_does_66 : decode cX5_does 66 = .ok (.iconst (-1), 1) := by decide +kernel
theorem dX5_does_67 : decode cX5_does 67 = .ok (.ixor, 1) := by decide +kernel
theorem dX5_does_68 : decode cX5_does 68 = .ok (.iand, 1) := by decide +kernel
theorem dX5_does_69 : decode cX5_does 69 = .ok (.goto 7, 3) := by decide +kernel
theorem dX5_does_72 : decode cX5_does 72 = .ok (.aload_n 0, 1) := by decide +kernel
theorem dX5_does_73 : decode cX5_does 73 = .ok (.getfield 79, 3) := by decide +kernel
theorem dX5_does_76 : decode cX5_does 76 = .ok (.putfield 79, 3) := by decide +kernel
theorem dX5_does_79 : decode cX5_does 79 = .ok (.aload_n 0, 1) := by decide +kernel
theorem dX5_does_80 : decode cX5_does 80 = .ok (.iload_n 1, 1) := by decide +kernel
theorem dX5_does_81 : decode cX5_does 81 = .ok (.iconst 4, 1) := by decide +kernel
theorem dX5_does_82 : decode cX5_does 82 = .ok (.if_icmp .ne 12, 3) := by decide +kernel
theorem dX5_does_85 : decode cX5_does 85 = .ok (.aload_n 0, 1) := by decide +kernel
theorem dX5_does_86 : decode cX5_does 86 = .ok (.getfield 67, 3) := by decide +kernel
theorem dX5_does_89 : decode cX5_does 89 = .ok (.iload_n 3, 1) := by decide +kernel
theorem dX5_does_90 : decode cX5_does 90 = .ok (.ior, 1) := by decide +kernel
theorem dX5_does_91 : decode cX5_does 91 = .ok (.goto 23, 3) := by decide +kernel
theorem dX5_does_94 : decode cX5_does 94 = .ok (.iload_n 1, 1) := by decide +kernel
theorem dX5_does_95 : decode cX5_does 95 = .ok (.iconst 5, 1) := by decide +kernel
theorem dX5_does_96 : decode cX5_does 96 = .ok (.if_icmp .ne 14, 3) := by decide +kernel
theorem dX5_does_99 : decode cX5_does 99 = .ok (.aload_n 0, 1) := by decide +kernel
theorem dX5_does_100 : decode cX5_does 100 = .ok (.getfield 67, 3) := by decide +kernel
theorem dX5_does_103 : decode cX5_does 103 = .ok (.iload_n 3, 1) := by decide +kernel
theorem dX5_does_104 : decode cX5_does 104 = .ok (.iconst (-1), 1) := by decide +kernel
theorem dX5_does_105 : decode cX5_does 105 = .ok (.ixor, 1) := by decide +kernel
theorem dX5_does_106 : decode cX5_does 106 = .ok (.iand, 1) := by decide +kernel
theorem dX5_does_107 : decode cX5_does 107 = .ok (.goto 7, 3) := by decide +kernel
theorem dX5_does_110 : decode cX5_does 110 = .ok (.aload_n 0, 1) := by decide +kernel
theorem dX5_does_111 : decode cX5_does 111 = .ok (.getfield 67, 3) := by decide +kernel
theorem dX5_does_114 : decode cX5_does 114 = .ok (.putfield 67, 3) := by decide +kernel
theorem dX5_does_117 : decode cX5_does 117 = .ok (.return_, 1) := by decide +kernel
set_option maxRecDepth 20000 in
theorem ggX5_areHeldSafe_X5_heldNow : GoodIn wsX5_areHeldSafe wsX5_heldNow := goodIn_r _ [9, 10, 11, 12, 31, 32, 33, 34, 35, 36, 37, 38, 39, 40, 41, 42, 43, 44, 45, 46, 47, 48, 49] (by decide +kernel) (by decide +kernel)
set_option maxRecDepth 20000 in
theorem gX5_areHeldSafe_X5_heldNow : GoodIn wsX5_areHeldSafe (wsV RX5 94 RX5 yX5_heldNow wsX5_heldNow) := goodIn_app (goodIn_of _ (by decide +kernel)) ggX5_areHeldSafe_X5_heldNow
set_option maxRecDepth 20000 in
theorem ggX5_areHeldSafe_X5_has : GoodIn wsX5_areHeldSafe wsX5_has := goodIn_r _ [15] (by decide +kernel) (by decide +kernel)
set_option maxRecDepth 20000 in
theorem gX5_areHeldSafe_X5_has : GoodIn wsX5_areHeldSafe (va_wsS RX5 59 yX5_has wsX5_has) := goodIn_app (goodIn_of _ (by decide +kernel)) ggX5_areHeldSafe_X5_has
set_option maxRecDepth 20000 in
theorem ggX5_areHeldSafe_X5_isEarthed : GoodIn wsX5_areHeldSafe wsX5_isEarthed := goodIn_r _ [19, 20, 21, 22, 8, 23, 24, 25, 26, 13, 14, 15, 31, 32, 33, 34, 35, 36, 37, 38, 39, 40, 41, 42, 43, 44, 45, 46, 47, 48, 49] (by decide +kernel) (by decide +kernel)
set_option maxRecDepth 20000 in
theorem gX5_areHeldSafe_X5_isEarthed : GoodIn wsX5_areHeldSafe (wsV RX5 85 RX5 yX5_isEarthed wsX5_isEarthed) := goodIn_app (goodIn_of _ (by decide +kernel)) ggX5_areHeldSafe_X5_isEarthed
set_option maxRecDepth 20000 in
theorem ggX5_areHeldSafe_X5_isLive : GoodIn wsX5_areHeldSafe wsX5_isLive := goodIn_r _ [30, 20, 21, 22, 8, 23, 24, 25, 26, 13, 14, 15, 31, 32, 33, 34, 35, 36, 37, 38, 39, 40, 41, 42, 43, 44, 45, 46, 47, 48, 49] (by decide +kernel) (by decide +kernel)
set_option maxRecDepth 20000 in
theorem gX5_areHeldSafe_X5_isLive : GoodIn wsX5_areHeldSafe (wsV RX5 70 RX5 yX5_isLive wsX5_isLive) := goodIn_app (goodIn_of _ (by decide +kernel)) ggX5_areHeldSafe_X5_isLive
theorem dX5_areHeldSafe_0 : decode cX5_areHeldSafe 0 = .ok (.iconst 1, 1) := by decide +kernel
theorem dX5_areHeldSafe_1 : decode cX5_areHeldSafe 1 = .ok (.istore_n 1, 1) := by decide +kernel
theorem dX5_areHeldSafe_2 : decode cX5_areHeldSafe 2 = .ok (.iconst 0, 1) := by decide +kernel
theorem dX5_areHeldSafe_3 : decode cX5_areHeldSafe 3 = .ok (.istore_n 2, 1) := by decide +kernel
theorem dX5_areHeldSafe_4 : decode cX5_areHeldSafe 4 = .ok (.iload_n 2, 1) := by decide +kernel
theorem dX5_areHeldSafe_5 : decode cX5_areHeldSafe 5 = .ok (.aload_n 0, 1) := by decide +kernel
theorem dX5_areHeldSafe_6 : decode cX5_areHeldSafe 6 = .ok (.getfield 39, 3) := by decide +kernel
theorem dX5_areHeldSafe_9 : decode cX5_areHeldSafe 9 = .ok (.if_icmp .ge 62, 3) := by decide +kernel
theorem dX5_areHeldSafe_12 : decode cX5_areHeldSafe 12 = .ok (.iload_n 1, 1) := by decide +kernel
theorem dX5_areHeldSafe_13 : decode cX5_areHeldSafe 13 = .ok (.ifCond .eq 50, 3) := by decide +kernel
theorem dX5_areHeldSafe_16 : decode cX5_areHeldSafe 16 = .ok (.aload_n 0, 1) := by decide +kernel
theorem dX5_areHeldSafe_17 : decode cX5_areHeldSafe 17 = .ok (.invokevirtual 94, 3) := by decide +kernel
theorem dX5_areHeldSafe_20 : decode cX5_areHeldSafe 20 = .ok (.iload_n 2, 1) := by decide +kernel
theorem dX5_areHeldSafe_21 : decode cX5_areHeldSafe 21 = .ok (.invokestatic 59, 3) := by decide +kernel
theorem dX5_areHeldSafe_24 : decode cX5_areHeldSafe 24 = .ok (.ifCond .eq 35, 3) := by decide +kernel
theorem dX5_areHeldSafe_27 : decode cX5_areHeldSafe 27 = .ok (.aload_n 0, 1) := by decide +kernel
theorem dX5_areHeldSafe_28 : decode cX5_areHeldSafe 28 = .ok (.iload_n 2, 1) := by decide +kernel
theorem dX5_areHeldSafe_29 : decode cX5_areHeldSafe 29 = .ok (.aload_n 0, 1) := by decide +kernel
theorem dX5_areHeldSafe_30 : decode cX5_areHeldSafe 30 = .ok (.getfield 76, 3) := by decide +kernel
theorem dX5_areHeldSafe_33 : decode cX5_areHeldSafe 33 = .ok (.aload_n 0, 1) := by decide +kernel
theorem dX5_areHeldSafe_34 : decode cX5_areHeldSafe 34 = .ok (.getfield 79, 3) := by decide +kernel
theorem dX5_areHeldSafe_37 : decode cX5_areHeldSafe 37 = .ok (.invokevirtual 85, 3) := by decide +kernel
theorem dX5_areHeldSafe_40 : decode cX5_areHeldSafe 40 = .ok (.ifCond .eq 23, 3) := by decide +kernel
theorem dX5_areHeldSafe_43 : decode cX5_areHeldSafe 43 = .ok (.aload_n 0, 1) := by decide +kernel
theorem dX5_areHeldSafe_44 : decode cX5_areHeldSafe 44 = .ok (.iload_n 2, 1) := by decide +kernel
theorem dX5_areHeldSafe_45 : decode cX5_areHeldSafe 45 = .ok (.aload_n 0, 1) := by decide +kernel
theorem dX5_areHeldSafe_46 : decode cX5_areHeldSafe 46 = .ok (.getfield 76, 3) := by decide +kernel
theorem dX5_areHeldSafe_49 : decode cX5_areHeldSafe 49 = .ok (.aload_n 0, 1) := by decide +kernel
theorem dX5_areHeldSafe_50 : decode cX5_areHeldSafe 50 = .ok (.getfield 67, 3) := by decide +kernel
theorem dX5_areHeldSafe_53 : decode cX5_areHeldSafe 53 = .ok (.invokevirtual 70, 3) := by decide +kernel
theorem dX5_areHeldSafe_56 : decode cX5_areHeldSafe 56 = .ok (.ifCond .ne 7, 3) := by decide +kernel
theorem dX5_areHeldSafe_59 : decode cX5_areHeldSafe 59 = .ok (.iconst 1, 1) := by decide +kernel
theorem dX5_areHeldSafe_60 : decode cX5_areHeldSafe 60 = .ok (.goto 4, 3) := by decide +kernel
theorem dX5_areHeldSafe_63 : decode cX5_areHeldSafe 63 = .ok (.iconst 0, 1) := by decide +kernel
theorem dX5_areHeldSafe_64 : decode cX5_areHeldSafe 64 = .ok (.istore_n 1, 1) := by decide +kernel
theorem dX5_areHeldSafe_65 : decode cX5_areHeldSafe 65 = .ok (.iinc 2 1, 3) := by decide +kernel
theorem dX5_areHeldSafe_68 : decode cX5_areHeldSafe 68 = .ok (.goto (-64), 3) := by decide +kernel
theorem dX5_areHeldSafe_71 : decode cX5_areHeldSafe 71 = .ok (.iload_n 1, 1) := by decide +kernel
theorem dX5_areHeldSafe_72 : decode cX5_areHeldSafe 72 = .ok (.ireturn, 1) := by decide +kernel
set_option maxRecDepth 20000 in
theorem ggX5_isSafe_X5_does : GoodIn wsX5_isSafe wsX5_does := goodIn_r _ [8, 1, 2, 3, 39, 40, 41, 42, 43, 44, 45, 46, 47, 48, 49, 50, 51, 52, 53, 54, 55, 56, 57] (by decide +kernel) (by decide +kernel)
set_option maxRecDepth 20000 in
theorem gX5_isSafe_X5_does : GoodIn wsX5_isSafe (wsV RX5 98 RX5 yX5_does wsX5_does) := goodIn_app (goodIn_of _ (by decide +kernel)) ggX5_isSafe_X5_does
set_option maxRecDepth 20000 in
theorem ggX5_isSafe_X5_areHeldSafe : GoodIn wsX5_isSafe wsX5_areHeldSafe := goodIn_r _ [12, 13, 1, 2, 3, 14, 15, 16, 7, 17, 18, 19, 20, 21, 22, 23, 24, 25, 26, 27, 28, 29, 30, 31, 32, 33, 34, 35, 36, 37, 38, 39, 40, 41, 42, 43, 44, 45, 46, 47, 48, 49, 50, 51, 52, 53, 54, 55, 56, 57] (by decide +kernel) (by decide +kernel)
set_option maxRecDepth 20000 in
theorem gX5_isSafe_X5_areHeldSafe : GoodIn wsX5_isSafe (wsV RX5 102 RX5 yX5_areHeldSafe wsX5_areHeldSafe) := goodIn_app (goodIn_of _ (by decide +kernel)) ggX5_isSafe_X5_areHeldSafe
theorem dX5_isSafe_0 : decode cX5_isSafe 0 = .ok (.aload_n 0, 1) := by decide +kernel
theorem dX5_isSafe_1 : decode cX5_isSafe 1 = .ok (.getfield 76, 3) := by decide +kernel
theorem dX5_isSafe_4 : decode cX5_isSafe 4 = .ok (.istore_n 3, 1) := by decide +kernel
theorem dX5_isSafe_5 : decode cX5_isSafe 5 = .ok (.aload_n 0, 1) := by decide +kernel
theorem dX5_isSafe_6 : decode cX5_isSafe 6 = .ok (.getfield 79, 3) := by decide +kernel
theorem dX5_isSafe_9 : decode cX5_isSafe 9 = .ok (.istore 4, 2) := by decide +kernel
theorem dX5_isSafe_11 : decode cX5_isSafe 11 = .ok (.aload_n 0, 1) := by decide +kernel
theorem dX5_isSafe_12 : decode cX5_isSafe 12 = .ok (.getfield 67, 3) := by decide +kernel
theorem dX5_isSafe_15 : decode cX5_isSafe 15 = .ok (.istore 5, 2) := by decide +kernel
theorem dX5_isSafe_17 : decode cX5_isSafe 17 = .ok (.aload_n 0, 1) := by decide +kernel
theorem dX5_isSafe_18 : decode cX5_isSafe 18 = .ok (.iload_n 1, 1) := by decide +kernel
theorem dX5_isSafe_19 : decode cX5_isSafe 19 = .ok (.iload_n 2, 1) := by decide +kernel
theorem dX5_isSafe_20 : decode cX5_isSafe 20 = .ok (.invokevirtual 98, 3) := by decide +kernel
theorem dX5_isSafe_23 : decode cX5_isSafe 23 = .ok (.aload_n 0, 1) := by decide +kernel
theorem dX5_isSafe_24 : decode cX5_isSafe 24 = .ok (.invokevirtual 102, 3) := by decide +kernel
theorem dX5_isSafe_27 : decode cX5_isSafe 27 = .ok (.istore 6, 2) := by decide +kernel
theorem dX5_isSafe_29 : decode cX5_isSafe 29 = .ok (.aload_n 0, 1) := by decide +kernel
theorem dX5_isSafe_30 : decode cX5_isSafe 30 = .ok (.iload_n 3, 1) := by decide +kernel
theorem dX5_isSafe_31 : decode cX5_isSafe 31 = .ok (.putfield 76, 3) := by decide +kernel
theorem dX5_isSafe_34 : decode cX5_isSafe 34 = .ok (.aload_n 0, 1) := by decide +kernel
theorem dX5_isSafe_35 : decode cX5_isSafe 35 = .ok (.iload 4, 2) := by decide +kernel
theorem dX5_isSafe_37 : decode cX5_isSafe 37 = .ok (.putfield 79, 3) := by decide +kernel
theorem dX5_isSafe_40 : decode cX5_isSafe 40 = .ok (.aload_n 0, 1) := by decide +kernel
theorem dX5_isSafe_41 : decode cX5_isSafe 41 = .ok (.iload 5, 2) := by decide +kernel
theorem dX5_isSafe_43 : decode cX5_isSafe 43 = .ok (.putfield 67, 3) := by decide +kernel
theorem dX5_isSafe_46 : decode cX5_isSafe 46 = .ok (.iload 6, 2) := by decide +kernel
theorem dX5_isSafe_48 : decode cX5_isSafe 48 = .ok (.ireturn, 1) := by decide +kernel
set_option maxRecDepth 20000 in
theorem ggX5_why_X5_isReady : GoodIn wsX5_why wsX5_isReady := goodIn_r _ [5, 6, 7, 8, 9, 10, 11, 4, 12, 70, 71, 72, 73, 74, 75, 76, 77, 78, 79, 80, 81, 82, 83, 84, 85, 86, 87, 88] (by decide +kernel) (by decide +kernel)
set_option maxRecDepth 20000 in
theorem gX5_why_X5_isReady : GoodIn wsX5_why (wsV RX5 106 RX5 yX5_isReady wsX5_isReady) := goodIn_app (goodIn_of _ (by decide +kernel)) ggX5_why_X5_isReady
set_option maxRecDepth 20000 in
theorem ggX5_why_X5_touched : GoodIn wsX5_why wsX5_touched := goodIn_r _ [16, 17, 18, 70, 71, 72, 73, 74, 75, 76, 77, 78, 79, 80, 81, 82, 83, 84, 85, 86, 87, 88] (by decide +kernel) (by decide +kernel)
set_option maxRecDepth 20000 in
theorem gX5_why_X5_touched : GoodIn wsX5_why (wsV RX5 109 RX5 yX5_touched wsX5_touched) := goodIn_app (goodIn_of _ (by decide +kernel)) ggX5_why_X5_touched
set_option maxRecDepth 20000 in
theorem ggX5_why_X5_heldNow : GoodIn wsX5_why wsX5_heldNow := goodIn_r _ [22, 23, 24, 25, 70, 71, 72, 73, 74, 75, 76, 77, 78, 79, 80, 81, 82, 83, 84, 85, 86, 87, 88] (by decide +kernel) (by decide +kernel)
set_option maxRecDepth 20000 in
theorem gX5_why_X5_heldNow : GoodIn wsX5_why (wsV RX5 94 RX5 yX5_heldNow wsX5_heldNow) := goodIn_app (goodIn_of _ (by decide +kernel)) ggX5_why_X5_heldNow
set_option maxRecDepth 20000 in
theorem ggX5_why_X5_isBarred : GoodIn wsX5_why wsX5_isBarred := goodIn_r _ [29, 6, 9, 7, 30, 31, 32, 4, 33, 17, 18, 34, 35, 36, 37, 38, 39, 40, 41, 42, 43, 44, 45, 46, 47, 48, 10, 11, 12, 49, 50, 51, 52, 53, 54, 55, 56, 70, 71, 72, 73, 74, 75, 76, 77, 78, 79, 80, 81, 82, 83, 84, 85, 86, 87, 88] (by decide +kernel) (by decide +kernel)
set_option maxRecDepth 20000 in
theorem gX5_why_X5_isBarred : GoodIn wsX5_why (wsV RX5 112 RX5 yX5_isBarred wsX5_isBarred) := goodIn_app (goodIn_of _ (by decide +kernel)) ggX5_why_X5_isBarred
set_option maxRecDepth 20000 in
theorem ggX5_why_X5_isSafe : GoodIn wsX5_why wsX5_isSafe := goodIn_r _ [60, 6, 7, 9, 61, 62, 63, 4, 64, 65, 66, 67, 68, 69, 19, 20, 21, 22, 23, 24, 25, 10, 11, 12, 53, 54, 55, 56, 44, 45, 46, 47, 48, 17, 18, 40, 41, 42, 43, 70, 71, 72, 73, 74, 75, 76, 77, 78, 79, 80, 81, 82, 83, 84, 85, 86, 87, 88] (by decide +kernel) (by decide +kernel)
set_option maxRecDepth 20000 in
theorem gX5_why_X5_isSafe : GoodIn wsX5_why (wsV RX5 115 RX5 yX5_isSafe wsX5_isSafe) := goodIn_app (goodIn_of _ (by decide +kernel)) ggX5_why_X5_isSafe
theorem dX5_why_0 : decode cX5_why 0 = .ok (.aload_n 0, 1) := by decide +kernel
theorem dX5_why_1 : decode cX5_why 1 = .ok (.iload_n 1, 1) := by decide +kernel
theorem dX5_why_2 : decode cX5_why 2 = .ok (.iload_n 2, 1) := by decide +kernel
theorem dX5_why_3 : decode cX5_why 3 = .ok (.invokevirtual 106, 3) := by decide +kernel
theorem dX5_why_6 : decode cX5_why 6 = .ok (.ifCond .ne 5, 3) := by decide +kernel
theorem dX5_why_9 : decode cX5_why 9 = .ok (.iconst 1, 1) := by decide +kernel
theorem dX5_why_10 : decode cX5_why 10 = .ok (.ireturn, 1) := by decide +kernel
theorem dX5_why_11 : decode cX5_why 11 = .ok (.aload_n 0, 1) := by decide +kernel
theorem dX5_why_12 : decode cX5_why 12 = .ok (.iload_n 1, 1) := by decide +kernel
theorem dX5_why_13 : decode cX5_why 13 = .ok (.iload_n 2, 1) := by decide +kernel
theorem dX5_why_14 : decode cX5_why 14 = .ok (.invokevirtual 109, 3) := by decide +kernel
theorem dX5_why_17 : decode cX5_why 17 = .ok (.aload_n 0, 1) := by decide +kernel
theorem dX5_why_18 : decode cX5_why 18 = .ok (.invokevirtual 94, 3) := by decide +kernel
theorem dX5_why_21 : decode cX5_why 21 = .ok (.iand, 1) := by decide +kernel
theorem dX5_why_22 : decode cX5_why 22 = .ok (.ifCond .eq 5, 3) := by decide +kernel
theorem dX5_why_25 : decode cX5_why 25 = .ok (.iconst 2, 1) := by decide +kernel
theorem dX5_why_26 : decode cX5_why 26 = .ok (.ireturn, 1) := by decide +kernel
theorem dX5_why_27 : decode cX5_why 27 = .ok (.aload_n 0, 1) := by decide +kernel
theorem dX5_why_28 : decode cX5_why 28 = .ok (.iload_n 1, 1) := by decide +kernel
theorem dX5_why_29 : decode cX5_why 29 = .ok (.iload_n 2, 1) := by decide +kernel
theorem dX5_why_30 : decode cX5_why 30 = .ok (.invokevirtual 112, 3) := by decide +kernel
theorem dX5_why_33 : decode cX5_why 33 = .ok (.ifCond .eq 7, 3) := by decide +kernel
theorem dX5_why_36 : decode cX5_why 36 = .ok (.iconst 3, 1) := by decide +kernel
theorem dX5_why_37 : decode cX5_why 37 = .ok (.goto 17, 3) := by decide +kernel
theorem dX5_why_40 : decode cX5_why 40 = .ok (.aload_n 0, 1) := by decide +kernel
theorem dX5_why_41 : decode cX5_why 41 = .ok (.iload_n 1, 1) := by decide +kernel
theorem dX5_why_42 : decode cX5_why 42 = .ok (.iload_n 2, 1) := by decide +kernel
theorem dX5_why_43 : decode cX5_why 43 = .ok (.invokevirtual 115, 3) := by decide +kernel
theorem dX5_why_46 : decode cX5_why 46 = .ok (.ifCond .eq 7, 3) := by decide +kernel
theorem dX5_why_49 : decode cX5_why 49 = .ok (.iconst 0, 1) := by decide +kernel
theorem dX5_why_50 : decode cX5_why 50 = .ok (.goto 4, 3) := by decide +kernel
theorem dX5_why_53 : decode cX5_why 53 = .ok (.iconst 4, 1) := by decide +kernel
theorem dX5_why_54 : decode cX5_why 54 = .ok (.ireturn, 1) := by decide +kernel
set_option maxRecDepth 20000 in
theorem ggX5_asks_X5_in : GoodIn wsX5_asks wsX5_in := goodIn_r _ [5] (by decide +kernel) (by decide +kernel)
set_option maxRecDepth 20000 in
theorem gX5_asks_X5_in : GoodIn wsX5_asks (va_wsS RX5 42 yX5_in wsX5_in) := goodIn_app (goodIn_of _ (by decide +kernel)) ggX5_asks_X5_in
set_option maxRecDepth 20000 in
theorem ggX5_asks_X5_isSwitch : GoodIn wsX5_asks wsX5_isSwitch := goodIn_r _ [9, 10, 2, 3, 4, 5, 16, 17, 18, 19, 20, 21, 22, 23, 24, 25, 26, 27, 28, 29, 30, 31, 32, 33, 34] (by decide +kernel) (by decide +kernel)
set_option maxRecDepth 20000 in
theorem gX5_asks_X5_isSwitch : GoodIn wsX5_asks (wsV RX5 118 RX5 yX5_isSwitch wsX5_isSwitch) := goodIn_app (goodIn_of _ (by decide +kernel)) ggX5_asks_X5_isSwitch
set_option maxRecDepth 20000 in
theorem ggX5_asks_X5_isNode : GoodIn wsX5_asks wsX5_isNode := goodIn_r _ [14, 15, 2, 3, 4, 5, 16, 17, 18, 19, 20, 21, 22, 23, 24, 25, 26, 27, 28, 29, 30, 31, 32, 33, 34] (by decide +kernel) (by decide +kernel)
set_option maxRecDepth 20000 in
theorem gX5_asks_X5_isNode : GoodIn wsX5_asks (wsV RX5 55 RX5 yX5_isNode wsX5_isNode) := goodIn_app (goodIn_of _ (by decide +kernel)) ggX5_asks_X5_isNode
theorem dX5_asks_0 : decode cX5_asks 0 = .ok (.aload_n 0, 1) := by decide +kernel
theorem dX5_asks_1 : decode cX5_asks 1 = .ok (.iload_n 1, 1) := by decide +kernel
theorem dX5_asks_2 : decode cX5_asks 2 = .ok (.iconst 0, 1) := by decide +kernel
theorem dX5_asks_3 : decode cX5_asks 3 = .ok (.iconst 5, 1) := by decide +kernel
theorem dX5_asks_4 : decode cX5_asks 4 = .ok (.invokestatic 42, 3) := by decide +kernel
theorem dX5_asks_7 : decode cX5_asks 7 = .ok (.ifCond .ne 7, 3) := by decide +kernel
theorem dX5_asks_10 : decode cX5_asks 10 = .ok (.iconst 1, 1) := by decide +kernel
theorem dX5_asks_11 : decode cX5_asks 11 = .ok (.goto 32, 3) := by decide +kernel
theorem dX5_asks_14 : decode cX5_asks 14 = .ok (.iload_n 1, 1) := by decide +kernel
theorem dX5_asks_15 : decode cX5_asks 15 = .ok (.iconst 2, 1) := by decide +kernel
theorem dX5_asks_16 : decode cX5_asks 16 = .ok (.if_icmp .ge 14, 3) := by decide +kernel
theorem dX5_asks_19 : decode cX5_asks 19 = .ok (.aload_n 0, 1) := by decide +kernel
theorem dX5_asks_20 : decode cX5_asks 20 = .ok (.iload_n 2, 1) := by decide +kernel
theorem dX5_asks_21 : decode cX5_asks 21 = .ok (.invokevirtual 118, 3) := by decide +kernel
theorem dX5_asks_24 : decode cX5_asks 24 = .ok (.ifCond .eq 18, 3) := by decide +kernel
theorem dX5_asks_27 : decode cX5_asks 27 = .ok (.goto 11, 3) := by decide +kernel
theorem dX5_asks_30 : decode cX5_asks 30 = .ok (.aload_n 0, 1) := by decide +kernel
theorem dX5_asks_31 : decode cX5_asks 31 = .ok (.iload_n 2, 1) := by decide +kernel
theorem dX5_asks_32 : decode cX5_asks 32 = .ok (.invokevirtual 55, 3) := by decide +kernel
theorem dX5_asks_35 : decode cX5_asks 35 = .ok (.ifCond .eq 7, 3) := by decide +kernel
theorem dX5_asks_38 : decode cX5_asks 38 = .ok (.iconst 0, 1) := by decide +kernel
theorem dX5_asks_39 : decode cX5_asks 39 = .ok (.goto 4, 3) := by decide +kernel
theorem dX5_asks_42 : decode cX5_asks 42 = .ok (.iconst 2, 1) := by decide +kernel
theorem dX5_asks_43 : decode cX5_asks 43 = .ok (.putfield 35, 3) := by decide +kernel
theorem dX5_asks_46 : decode cX5_asks 46 = .ok (.aload_n 0, 1) := by decide +kernel
theorem dX5_asks_47 : decode cX5_asks 47 = .ok (.getfield 35, 3) := by decide +kernel
theorem dX5_asks_50 : decode cX5_asks 50 = .ok (.ifCond .ne 7, 3) := by decide +kernel
theorem dX5_asks_53 : decode cX5_asks 53 = .ok (.iconst 1, 1) := by decide +kernel
theorem dX5_asks_54 : decode cX5_asks 54 = .ok (.goto 4, 3) := by decide +kernel
theorem dX5_asks_57 : decode cX5_asks 57 = .ok (.iconst 0, 1) := by decide +kernel
theorem dX5_asks_58 : decode cX5_asks 58 = .ok (.ireturn, 1) := by decide +kernel
set_option maxRecDepth 20000 in
theorem ggX5_acts_X5_why : GoodIn wsX5_acts wsX5_why := goodIn_r _ [7, 8, 9, 10, 6, 11, 12, 13, 14, 15, 16, 17, 18, 19, 20, 21, 22, 23, 24, 25, 26, 27, 28, 29, 30, 31, 32, 33, 34, 35, 36, 37, 38, 39, 40, 41, 42, 43, 44, 45, 46, 47, 48, 49, 50, 51, 52, 53, 54, 55, 56, 57, 58, 59, 60, 61, 62, 63, 64, 65, 66, 67, 68, 69, 70, 71, 72, 73, 74, 75, 76, 77, 78, 79, 80, 81, 82, 83, 84, 85, 86, 87, 88, 89, 90, 91, 92, 93, 94] (by decide +kernel) (by decide +kernel)
set_option maxRecDepth 20000 in
theorem gX5_acts_X5_why : GoodIn wsX5_acts (wsV RX5 121 RX5 yX5_why wsX5_why) := goodIn_app (goodIn_of _ (by decide +kernel)) ggX5_acts_X5_why
set_option maxRecDepth 20000 in
theorem ggX5_acts_X5_does : GoodIn wsX5_acts wsX5_does := goodIn_r _ [70, 12, 13, 15, 76, 77, 78, 79, 80, 81, 82, 83, 84, 85, 86, 87, 88, 89, 90, 91, 92, 93, 94] (by decide +kernel) (by decide +kernel)
set_option maxRecDepth 20000 in
theorem gX5_acts_X5_does : GoodIn wsX5_acts (wsV RX5 98 RX5 yX5_does wsX5_does) := goodIn_app (goodIn_of _ (by decide +kernel)) ggX5_acts_X5_does
theorem dX5_acts_0 : decode cX5_acts 0 = .ok (.aload_n 0, 1) := by decide +kernel
theorem dX5_acts_1 : decode cX5_acts 1 = .ok (.iload_n 1, 1) := by decide +kernel
theorem dX5_acts_2 : decode cX5_acts 2 = .ok (.iload_n 2, 1) := by decide +kernel
theorem dX5_acts_3 : decode cX5_acts 3 = .ok (.invokevirtual 121, 3) := by decide +kernel
theorem dX5_acts_6 : decode cX5_acts 6 = .ok (.istore_n 3, 1) := by decide +kernel
theorem dX5_acts_7 : decode cX5_acts 7 = .ok (.iload_n 3, 1) := by decide +kernel
theorem dX5_acts_8 : decode cX5_acts 8 = .ok (.ifCond .ne 34, 3) := by decide +kernel
theorem dX5_acts_11 : decode cX5_acts 11 = .ok (.aload_n 0, 1) := by decide +kernel
theorem dX5_acts_12 : decode cX5_acts 12 = .ok (.iload_n 1, 1) := by decide +kernel
theorem dX5_acts_13 : decode cX5_acts 13 = .ok (.iload_n 2, 1) := by decide +kernel
theorem dX5_acts_14 : decode cX5_acts 14 = .ok (.invokevirtual 98, 3) := by decide +kernel
theorem dX5_acts_17 : decode cX5_acts 17 = .ok (.aload_n 0, 1) := by decide +kernel
theorem dX5_acts_18 : decode cX5_acts 18 = .ok (.getfield 20, 3) := by decide +kernel
theorem dX5_acts_21 : decode cX5_acts 21 = .ok (.aload_n 0, 1) := by decide +kernel
theorem dX5_acts_22 : decode cX5_acts 22 = .ok (.getfield 124, 3) := by decide +kernel
theorem dX5_acts_25 : decode cX5_acts 25 = .ok (.bipush 100, 2) := by decide +kernel
theorem dX5_acts_27 : decode cX5_acts 27 = .ok (.iload_n 1, 1) := by decide +kernel
theorem dX5_acts_28 : decode cX5_acts 28 = .ok (.imul, 1) := by decide +kernel
theorem dX5_acts_29 : decode cX5_acts 29 = .ok (.iload_n 2, 1) := by decide +kernel
theorem dX5_acts_30 : decode cX5_acts 30 = .ok (.iadd, 1) := by decide +kernel
theorem dX5_acts_31 : decode cX5_acts 31 = .ok (.iastore, 1) := by decide +kernel
theorem dX5_acts_32 : decode cX5_acts 32 = .ok (.aload_n 0, 1) := by decide +kernel
theorem dX5_acts_33 : decode cX5_acts 33 = .ok (.dup, 1) := by decide +kernel
theorem dX5_acts_34 : decode cX5_acts 34 = .ok (.getfield 124, 3) := by decide +kernel
theorem dX5_acts_37 : decode cX5_acts 37 = .ok (.iconst 1, 1) := by decide +kernel
theorem dX5_acts_38 : decode cX5_acts 38 = .ok (.iadd, 1) := by decide +kernel
theorem dX5_acts_39 : decode cX5_acts 39 = .ok (.putfield 124, 3) := by decide +kernel
theorem dX5_acts_42 : decode cX5_acts 42 = .ok (.iload_n 3, 1) := by decide +kernel
theorem dX5_acts_43 : decode cX5_acts 43 = .ok (.ireturn, 1) := by decide +kernel
set_option maxRecDepth 20000 in
theorem ggX5_act_X5_asks : GoodIn wsX5_act wsX5_asks := goodIn_r _ [7, 2, 8, 9, 6, 10, 11, 12, 13, 14, 15, 16, 17, 18, 19, 20, 96, 97, 98, 99, 100, 101, 102, 103, 104, 105, 106, 107, 108, 109, 110, 111, 112, 113, 114] (by decide +kernel) (by decide +kernel)
set_option maxRecDepth 20000 in
theorem gX5_act_X5_asks : GoodIn wsX5_act (wsV RX5 127 RX5 yX5_asks wsX5_asks) := goodIn_app (goodIn_of _ (by decide +kernel)) ggX5_act_X5_asks
set_option maxRecDepth 20000 in
theorem ggX5_act_X5_acts : GoodIn wsX5_act wsX5_acts := goodIn_r _ [24, 25, 1, 26, 27, 28, 6, 29, 30, 31, 32, 33, 34, 35, 36, 37, 38, 39, 40, 41, 42, 43, 44, 45, 46, 47, 48, 49, 50, 51, 52, 53, 54, 55, 56, 57, 58, 59, 60, 61, 62, 63, 64, 65, 66, 67, 68, 69, 70, 71, 72, 73, 74, 75, 15, 76, 77, 78, 79, 80, 81, 82, 83, 84, 85, 86, 87, 88, 89, 90, 91, 92, 93, 94, 95, 20, 96, 97, 98, 99, 100, 101, 102, 103, 104, 105, 106, 107, 108, 109, 110, 111, 112, 113, 114] (by decide +kernel) (by decide +kernel)
set_option maxRecDepth 20000 in
theorem gX5_act_X5_acts : GoodIn wsX5_act (wsV RX5 130 RX5 yX5_acts wsX5_acts) := goodIn_app (goodIn_of _ (by decide +kernel)) ggX5_act_X5_acts
theorem dX5_act_0 : decode cX5_act 0 = .ok (.aload_n 0, 1) := by decide +kernel
theorem dX5_act_1 : decode cX5_act 1 = .ok (.iload_n 1, 1) := by decide +kernel
theorem dX5_act_2 : decode cX5_act 2 = .ok (.iload_n 2, 1) := by decide +kernel
theorem dX5_act_3 : decode cX5_act 3 = .ok (.invokevirtual 127, 3) := by decide +kernel
theorem dX5_act_6 : decode cX5_act 6 = .ok (.ifCond .eq 22, 3) := by decide +kernel
theorem dX5_act_9 : decode cX5_act 9 = .ok (.aload_n 0, 1) := by decide +kernel
theorem dX5_act_10 : decode cX5_act 10 = .ok (.aload_n 0, 1) := by decide +kernel
theorem dX5_act_11 : decode cX5_act 11 = .ok (.getfield 124, 3) := by decide +kernel
theorem dX5_act_14 : decode cX5_act 14 = .ok (.sipush 200, 3) := by decide +kernel
theorem dX5_act_17 : decode cX5_act 17 = .ok (.if_icmp .ne 7, 3) := by decide +kernel
theorem dX5_act_20 : decode cX5_act 20 = .ok (.iconst 3, 1) := by decide +kernel
theorem dX5_act_21 : decode cX5_act 21 = .ok (.goto 4, 3) := by decide +kernel
theorem dX5_act_24 : decode cX5_act 24 = .ok (.iconst 0, 1) := by decide +kernel
theorem dX5_act_25 : decode cX5_act 25 = .ok (.putfield 35, 3) := by decide +kernel
theorem dX5_act_28 : decode cX5_act 28 = .ok (.aload_n 0, 1) := by decide +kernel
theorem dX5_act_29 : decode cX5_act 29 = .ok (.getfield 35, 3) := by decide +kernel
theorem dX5_act_32 : decode cX5_act 32 = .ok (.ifCond .le 7, 3) := by decide +kernel
theorem dX5_act_35 : decode cX5_act 35 = .ok (.iconst 0, 1) := by decide +kernel
theorem dX5_act_36 : decode cX5_act 36 = .ok (.goto 9, 3) := by decide +kernel
theorem dX5_act_39 : decode cX5_act 39 = .ok (.aload_n 0, 1) := by decide +kernel
theorem dX5_act_40 : decode cX5_act 40 = .ok (.iload_n 1, 1) := by decide +kernel
theorem dX5_act_41 : decode cX5_act 41 = .ok (.iload_n 2, 1) := by decide +kernel
theorem dX5_act_42 : decode cX5_act 42 = .ok (.invokevirtual 130, 3) := by decide +kernel
theorem dX5_act_45 : decode cX5_act 45 = .ok (.ireturn, 1) := by decide +kernel
set_option maxRecDepth 20000 in
theorem ggX5_reason_X5_asks : GoodIn wsX5_reason wsX5_asks := goodIn_r _ [5, 6, 7, 8, 4, 9, 10, 11, 12, 13, 14, 15, 16, 17, 18, 19, 90, 91, 92, 93, 94, 95, 96, 97, 98, 99, 100, 101, 102, 103, 104, 105, 106, 107, 108] (by decide +kernel) (by decide +kernel)
set_option maxRecDepth 20000 in
theorem gX5_reason_X5_asks : GoodIn wsX5_reason (wsV RX5 127 RX5 yX5_asks wsX5_asks) := goodIn_app (goodIn_of _ (by decide +kernel)) ggX5_reason_X5_asks
set_option maxRecDepth 20000 in
theorem ggX5_reason_X5_why : GoodIn wsX5_reason wsX5_why := goodIn_r _ [23, 24, 25, 26, 4, 27, 28, 29, 30, 31, 32, 33, 34, 35, 36, 37, 38, 39, 40, 41, 42, 43, 44, 45, 46, 47, 48, 49, 50, 51, 52, 53, 54, 55, 56, 57, 58, 59, 60, 61, 62, 63, 64, 65, 66, 67, 68, 69, 14, 70, 71, 72, 73, 74, 75, 76, 77, 78, 79, 80, 81, 82, 83, 84, 85, 86, 87, 88, 89, 19, 90, 91, 92, 93, 94, 95, 96, 97, 98, 99, 100, 101, 102, 103, 104, 105, 106, 107, 108] (by decide +kernel) (by decide +kernel)
set_option maxRecDepth 20000 in
theorem gX5_reason_X5_why : GoodIn wsX5_reason (wsV RX5 121 RX5 yX5_why wsX5_why) := goodIn_app (goodIn_of _ (by decide +kernel)) ggX5_reason_X5_why
theorem dX5_reason_0 : decode cX5_reason 0 = .ok (.aload_n 0, 1) := by decide +kernel
theorem dX5_reason_1 : decode cX5_reason 1 = .ok (.iload_n 1, 1) := by decide +kernel
theorem dX5_reason_2 : decode cX5_reason 2 = .ok (.iload_n 2, 1) := by decide +kernel
theorem dX5_reason_3 : decode cX5_reason 3 = .ok (.invokevirtual 127, 3) := by decide +kernel
theorem dX5_reason_6 : decode cX5_reason 6 = .ok (.ifCond .eq 12, 3) := by decide +kernel
theorem dX5_reason_9 : decode cX5_reason 9 = .ok (.aload_n 0, 1) := by decide +kernel
theorem dX5_reason_10 : decode cX5_reason 10 = .ok (.iload_n 1, 1) := by decide +kernel
theorem dX5_reason_11 : decode cX5_reason 11 = .ok (.iload_n 2, 1) := by decide +kernel
theorem dX5_reason_12 : decode cX5_reason 12 = .ok (.invokevirtual 121, 3) := by decide +kernel
theorem dX5_reason_15 : decode cX5_reason 15 = .ok (.goto 4, 3) := by decide +kernel
theorem dX5_reason_18 : decode cX5_reason 18 = .ok (.iconst 0, 1) := by decide +kernel
theorem dX5_reason_19 : decode cX5_reason 19 = .ok (.ireturn, 1) := by decide +kernel
theorem dX5_opposite_0 : decode cX5_opposite 0 = .ok (.iload_n 0, 1) := by decide +kernel
theorem dX5_opposite_1 : decode cX5_opposite 1 = .ok (.bipush 100, 2) := by decide +kernel
theorem dX5_opposite_3 : decode cX5_opposite 3 = .ok (.idiv, 1) := by decide +kernel
theorem dX5_opposite_4 : decode cX5_opposite 4 = .ok (.iconst 2, 1) := by decide +kernel
theorem dX5_opposite_5 : decode cX5_opposite 5 = .ok (.irem, 1) := by decide +kernel
theorem dX5_opposite_6 : decode cX5_opposite 6 = .ok (.ifCond .ne 10, 3) := by decide +kernel
theorem dX5_opposite_9 : decode cX5_opposite 9 = .ok (.iload_n 0, 1) := by decide +kernel
theorem dX5_opposite_10 : decode cX5_opposite 10 = .ok (.bipush 100, 2) := by decide +kernel
theorem dX5_opposite_12 : decode cX5_opposite 12 = .ok (.iadd, 1) := by decide +kernel
theorem dX5_opposite_13 : decode cX5_opposite 13 = .ok (.goto 7, 3) := by decide +kernel
theorem dX5_opposite_16 : decode cX5_opposite 16 = .ok (.iload_n 0, 1) := by decide +kernel
theorem dX5_opposite_17 : decode cX5_opposite 17 = .ok (.bipush 100, 2) := by decide +kernel
theorem dX5_opposite_19 : decode cX5_opposite 19 = .ok (.isub, 1) := by decide +kernel
theorem dX5_opposite_20 : decode cX5_opposite 20 = .ok (.ireturn, 1) := by decide +kernel
set_option maxRecDepth 20000 in
theorem ggX5_takeBack_X5_opposite : GoodIn wsX5_takeBack wsX5_opposite := goodIn_r _ [7] (by decide +kernel) (by decide +kernel)
set_option maxRecDepth 20000 in
theorem gX5_takeBack_X5_opposite : GoodIn wsX5_takeBack (va_wsS RX5 133 yX5_opposite wsX5_opposite) := goodIn_app (goodIn_of _ (by decide +kernel)) ggX5_takeBack_X5_opposite
set_option maxRecDepth 20000 in
theorem ggX5_takeBack_X5_why : GoodIn wsX5_takeBack wsX5_why := goodIn_r _ [11, 12, 13, 14, 6, 15, 16, 17, 18, 19, 20, 21, 22, 23, 24, 25, 26, 27, 28, 29, 30, 31, 32, 33, 34, 35, 36, 37, 38, 39, 40, 41, 42, 43, 44, 45, 46, 47, 48, 49, 50, 51, 52, 53, 54, 55, 56, 57, 58, 59, 60, 61, 62, 63, 64, 65, 66, 67, 68, 69, 70, 71, 72, 73, 74, 75, 76, 77, 78, 79, 80, 81, 82, 83, 84, 85, 86, 87, 88, 89, 90, 91, 92, 93, 94, 95, 96, 97, 98] (by decide +kernel) (by decide +kernel)
set_option maxRecDepth 20000 in
theorem gX5_takeBack_X5_why : GoodIn wsX5_takeBack (wsV RX5 121 RX5 yX5_why wsX5_why) := goodIn_app (goodIn_of _ (by decide +kernel)) ggX5_takeBack_X5_why
set_option maxRecDepth 20000 in
theorem ggX5_takeBack_X5_does : GoodIn wsX5_takeBack wsX5_does := goodIn_r _ [74, 16, 17, 19, 80, 81, 82, 83, 84, 85, 86, 87, 88, 89, 90, 91, 92, 93, 94, 95, 96, 97, 98] (by decide +kernel) (by decide +kernel)
set_option maxRecDepth 20000 in
theorem gX5_takeBack_X5_does : GoodIn wsX5_takeBack (wsV RX5 98 RX5 yX5_does wsX5_does) := goodIn_app (goodIn_of _ (by decide +kernel)) ggX5_takeBack_X5_does
theorem dX5_takeBack_0 : decode cX5_takeBack 0 = .ok (.aload_n 0, 1) := by decide +kernel
theorem dX5_takeBack_1 : decode cX5_takeBack 1 = .ok (.aload_n 0, 1) := by decide +kernel
theorem dX5_takeBack_2 : decode cX5_takeBack 2 = .ok (.getfield 124, 3) := by decide +kernel
theorem dX5_takeBack_5 : decode cX5_takeBack 5 = .ok (.ifCond .ne 7, 3) := by decide +kernel
theorem dX5_takeBack_8 : decode cX5_takeBack 8 = .ok (.iconst 1, 1) := by decide +kernel
theorem dX5_takeBack_9 : decode cX5_takeBack 9 = .ok (.goto 4, 3) := by decide +kernel
theorem dX5_takeBack_12 : decode cX5_takeBack 12 = .ok (.iconst 0, 1) := by decide +kernel
theorem dX5_takeBack_13 : decode cX5_takeBack 13 = .ok (.putfield 35, 3) := by decide +kernel
theorem dX5_takeBack_16 : decode cX5_takeBack 16 = .ok (.aload_n 0, 1) := by decide +kernel
theorem dX5_takeBack_17 : decode cX5_takeBack 17 = .ok (.getfield 35, 3) := by decide +kernel
theorem dX5_takeBack_20 : decode cX5_takeBack 20 = .ok (.ifCond .le 5, 3) := by decide +kernel
theorem dX5_takeBack_23 : decode cX5_takeBack 23 = .ok (.iconst 0, 1) := by decide +kernel
theorem dX5_takeBack_24 : decode cX5_takeBack 24 = .ok (.ireturn, 1) := by decide +kernel
theorem dX5_takeBack_25 : decode cX5_takeBack 25 = .ok (.aload_n 0, 1) := by decide +kernel
theorem dX5_takeBack_26 : decode cX5_takeBack 26 = .ok (.getfield 20, 3) := by decide +kernel
theorem dX5_takeBack_29 : decode cX5_takeBack 29 = .ok (.aload_n 0, 1) := by decide +kernel
theorem dX5_takeBack_30 : decode cX5_takeBack 30 = .ok (.getfield 124, 3) := by decide +kernel
theorem dX5_takeBack_33 : decode cX5_takeBack 33 = .ok (.iconst 1, 1) := by decide +kernel
theorem dX5_takeBack_34 : decode cX5_takeBack 34 = .ok (.isub, 1) := by decide +kernel
theorem dX5_takeBack_35 : decode cX5_takeBack 35 = .ok (.iaload, 1) := by decide +kernel
theorem dX5_takeBack_36 : decode cX5_takeBack 36 = .ok (.invokestatic 133, 3) := by decide +kernel
theorem dX5_takeBack_39 : decode cX5_takeBack 39 = .ok (.istore_n 1, 1) := by decide +kernel
theorem dX5_takeBack_40 : decode cX5_takeBack 40 = .ok (.aload_n 0, 1) := by decide +kernel
theorem dX5_takeBack_41 : decode cX5_takeBack 41 = .ok (.iload_n 1, 1) := by decide +kernel
theorem dX5_takeBack_42 : decode cX5_takeBack 42 = .ok (.bipush 100, 2) := by decide +kernel
theorem dX5_takeBack_44 : decode cX5_takeBack 44 = .ok (.idiv, 1) := by decide +kernel
theorem dX5_takeBack_45 : decode cX5_takeBack 45 = .ok (.iload_n 1, 1) := by decide +kernel
theorem dX5_takeBack_46 : decode cX5_takeBack 46 = .ok (.bipush 100, 2) := by decide +kernel
theorem dX5_takeBack_48 : decode cX5_takeBack 48 = .ok (.irem, 1) := by decide +kernel
theorem dX5_takeBack_49 : decode cX5_takeBack 49 = .ok (.invokevirtual 121, 3) := by decide +kernel
theorem dX5_takeBack_52 : decode cX5_takeBack 52 = .ok (.istore_n 2, 1) := by decide +kernel
theorem dX5_takeBack_53 : decode cX5_takeBack 53 = .ok (.iload_n 2, 1) := by decide +kernel
theorem dX5_takeBack_54 : decode cX5_takeBack 54 = .ok (.ifCond .ne 25, 3) := by decide +kernel
theorem dX5_takeBack_57 : decode cX5_takeBack 57 = .ok (.aload_n 0, 1) := by decide +kernel
theorem dX5_takeBack_58 : decode cX5_takeBack 58 = .ok (.iload_n 1, 1) := by decide +kernel
theorem dX5_takeBack_59 : decode cX5_takeBack 59 = .ok (.bipush 100, 2) := by decide +kernel
theorem dX5_takeBack_61 : decode cX5_takeBack 61 = .ok (.idiv, 1) := by decide +kernel
theorem dX5_takeBack_62 : decode cX5_takeBack 62 = .ok (.iload_n 1, 1) := by decide +kernel
theorem dX5_takeBack_63 : decode cX5_takeBack 63 = .ok (.bipush 100, 2) := by decide +kernel
theorem dX5_takeBack_65 : decode cX5_takeBack 65 = .ok (.irem, 1) := by decide +kernel
theorem dX5_takeBack_66 : decode cX5_takeBack 66 = .ok (.invokevirtual 98, 3) := by decide +kernel
theorem dX5_takeBack_69 : decode cX5_takeBack 69 = .ok (.aload_n 0, 1) := by decide +kernel
theorem dX5_takeBack_70 : decode cX5_takeBack 70 = .ok (.dup, 1) := by decide +kernel
theorem dX5_takeBack_71 : decode cX5_takeBack 71 = .ok (.getfield 124, 3) := by decide +kernel
theorem dX5_takeBack_74 : decode cX5_takeBack 74 = .ok (.iconst 1, 1) := by decide +kernel
theorem dX5_takeBack_75 : decode cX5_takeBack 75 = .ok (.isub, 1) := by decide +kernel
theorem dX5_takeBack_76 : decode cX5_takeBack 76 = .ok (.putfield 124, 3) := by decide +kernel
theorem dX5_takeBack_79 : decode cX5_takeBack 79 = .ok (.iload_n 2, 1) := by decide +kernel
theorem dX5_takeBack_80 : decode cX5_takeBack 80 = .ok (.ireturn, 1) := by decide +kernel
theorem dX5_log_0 : decode cX5_log 0 = .ok (.aload_n 0, 1) := by decide +kernel
theorem dX5_log_1 : decode cX5_log 1 = .ok (.iconst 0, 1) := by decide +kernel
theorem dX5_log_2 : decode cX5_log 2 = .ok (.putfield 35, 3) := by decide +kernel
theorem dX5_log_5 : decode cX5_log 5 = .ok (.aload_n 0, 1) := by decide +kernel
theorem dX5_log_6 : decode cX5_log 6 = .ok (.getfield 124, 3) := by decide +kernel
theorem dX5_log_9 : decode cX5_log 9 = .ok (.ireturn, 1) := by decide +kernel
set_option maxRecDepth 20000 in
theorem ggX5_logged_X5_in : GoodIn wsX5_logged wsX5_in := goodIn_r _ [7] (by decide +kernel) (by decide +kernel)
set_option maxRecDepth 20000 in
theorem gX5_logged_X5_in : GoodIn wsX5_logged (va_wsS RX5 42 yX5_in wsX5_in) := goodIn_app (goodIn_of _ (by decide +kernel)) ggX5_logged_X5_in
theorem dX5_logged_0 : decode cX5_logged 0 = .ok (.aload_n 0, 1) := by decide +kernel
theorem dX5_logged_1 : decode cX5_logged 1 = .ok (.iload_n 1, 1) := by decide +kernel
theorem dX5_logged_2 : decode cX5_logged 2 = .ok (.iconst 0, 1) := by decide +kernel
theorem dX5_logged_3 : decode cX5_logged 3 = .ok (.aload_n 0, 1) := by decide +kernel
theorem dX5_logged_4 : decode cX5_logged 4 = .ok (.getfield 124, 3) := by decide +kernel
theorem dX5_logged_7 : decode cX5_logged 7 = .ok (.iconst 1, 1) := by decide +kernel
theorem dX5_logged_8 : decode cX5_logged 8 = .ok (.isub, 1) := by decide +kernel
theorem dX5_logged_9 : decode cX5_logged 9 = .ok (.invokestatic 42, 3) := by decide +kernel
theorem dX5_logged_12 : decode cX5_logged 12 = .ok (.ifCond .eq 7, 3) := by decide +kernel
theorem dX5_logged_15 : decode cX5_logged 15 = .ok (.iconst 0, 1) := by decide +kernel
theorem dX5_logged_16 : decode cX5_logged 16 = .ok (.goto 4, 3) := by decide +kernel
theorem dX5_logged_19 : decode cX5_logged 19 = .ok (.iconst 1, 1) := by decide +kernel
theorem dX5_logged_20 : decode cX5_logged 20 = .ok (.putfield 35, 3) := by decide +kernel
theorem dX5_logged_23 : decode cX5_logged 23 = .ok (.aload_n 0, 1) := by decide +kernel
theorem dX5_logged_24 : decode cX5_logged 24 = .ok (.getfield 35, 3) := by decide +kernel
theorem dX5_logged_27 : decode cX5_logged 27 = .ok (.ifCond .le 7, 3) := by decide +kernel
theorem dX5_logged_30 : decode cX5_logged 30 = .ok (.iconst 0, 1) := by decide +kernel
theorem dX5_logged_31 : decode cX5_logged 31 = .ok (.goto 16, 3) := by decide +kernel
theorem dX5_logged_34 : decode cX5_logged 34 = .ok (.aload_n 0, 1) := by decide +kernel
theorem dX5_logged_35 : decode cX5_logged 35 = .ok (.getfield 20, 3) := by decide +kernel
theorem dX5_logged_38 : decode cX5_logged 38 = .ok (.aload_n 0, 1) := by decide +kernel
theorem dX5_logged_39 : decode cX5_logged 39 = .ok (.getfield 124, 3) := by decide +kernel
theorem dX5_logged_42 : decode cX5_logged 42 = .ok (.iconst 1, 1) := by decide +kernel
theorem dX5_logged_43 : decode cX5_logged 43 = .ok (.isub, 1) := by decide +kernel
theorem dX5_logged_44 : decode cX5_logged 44 = .ok (.iload_n 1, 1) := by decide +kernel
theorem dX5_logged_45 : decode cX5_logged 45 = .ok (.isub, 1) := by decide +kernel
theorem dX5_logged_46 : decode cX5_logged 46 = .ok (.iaload, 1) := by decide +kernel
theorem dX5_logged_47 : decode cX5_logged 47 = .ok (.ireturn, 1) := by decide +kernel
set_option maxRecDepth 20000 in
theorem ggX5_times_X5_asks : GoodIn wsX5_times wsX5_asks := goodIn_r _ [7, 8, 9, 10, 6, 11, 12, 13, 14, 15, 16, 17, 18, 19, 20, 21, 22, 23, 24, 25, 26, 27, 28, 29, 30, 31, 32, 33, 34, 35, 36, 37, 38, 39, 40] (by decide +kernel) (by decide +kernel)
set_option maxRecDepth 20000 in
theorem gX5_times_X5_asks : GoodIn wsX5_times (wsV RX5 127 RX5 yX5_asks wsX5_asks) := goodIn_app (goodIn_of _ (by decide +kernel)) ggX5_times_X5_asks
theorem dX5_times_0 : decode cX5_times 0 = .ok (.iconst 0, 1) := by decide +kernel
theorem dX5_times_1 : decode cX5_times 1 = .ok (.istore_n 3, 1) := by decide +kernel
theorem dX5_times_2 : decode cX5_times 2 = .ok (.aload_n 0, 1) := by decide +kernel
theorem dX5_times_3 : decode cX5_times 3 = .ok (.iload_n 1, 1) := by decide +kernel
theorem dX5_times_4 : decode cX5_times 4 = .ok (.iload_n 2, 1) := by decide +kernel
theorem dX5_times_5 : decode cX5_times 5 = .ok (.invokevirtual 127, 3) := by decide +kernel
theorem dX5_times_8 : decode cX5_times 8 = .ok (.ifCond .eq 45, 3) := by decide +kernel
theorem dX5_times_11 : decode cX5_times 11 = .ok (.iconst 0, 1) := by decide +kernel
theorem dX5_times_12 : decode cX5_times 12 = .ok (.istore 4, 2) := by decide +kernel
theorem dX5_times_14 : decode cX5_times 14 = .ok (.iload 4, 2) := by decide +kernel
theorem dX5_times_16 : decode cX5_times 16 = .ok (.aload_n 0, 1) := by decide +kernel
theorem dX5_times_17 : decode cX5_times 17 = .ok (.getfield 124, 3) := by decide +kernel
theorem dX5_times_20 : decode cX5_times 20 = .ok (.if_icmp .ge 33, 3) := by decide +kernel
theorem dX5_times_23 : decode cX5_times 23 = .ok (.iload_n 3, 1) := by decide +kernel
theorem dX5_times_24 : decode cX5_times 24 = .ok (.aload_n 0, 1) := by decide +kernel
theorem dX5_times_25 : decode cX5_times 25 = .ok (.getfield 20, 3) := by decide +kernel
theorem dX5_times_28 : decode cX5_times 28 = .ok (.iload 4, 2) := by decide +kernel
theorem dX5_times_30 : decode cX5_times 30 = .ok (.iaload, 1) := by decide +kernel
theorem dX5_times_31 : decode cX5_times 31 = .ok (.bipush 100, 2) := by decide +kernel
theorem dX5_times_33 : decode cX5_times 33 = .ok (.iload_n 1, 1) := by decide +kernel
theorem dX5_times_34 : decode cX5_times 34 = .ok (.imul, 1) := by decide +kernel
theorem dX5_times_35 : decode cX5_times 35 = .ok (.iload_n 2, 1) := by decide +kernel
theorem dX5_times_36 : decode cX5_times 36 = .ok (.iadd, 1) := by decide +kernel
theorem dX5_times_37 : decode cX5_times 37 = .ok (.if_icmp .ne 7, 3) := by decide +kernel
theorem dX5_times_40 : decode cX5_times 40 = .ok (.iconst 1, 1) := by decide +kernel
theorem dX5_times_41 : decode cX5_times 41 = .ok (.goto 4, 3) := by decide +kernel
theorem dX5_times_44 : decode cX5_times 44 = .ok (.iconst 0, 1) := by decide +kernel
theorem dX5_times_45 : decode cX5_times 45 = .ok (.iadd, 1) := by decide +kernel
theorem dX5_times_46 : decode cX5_times 46 = .ok (.istore_n 3, 1) := by decide +kernel
theorem dX5_times_47 : decode cX5_times 47 = .ok (.iinc 4 1, 3) := by decide +kernel
theorem dX5_times_50 : decode cX5_times 50 = .ok (.goto (-36), 3) := by decide +kernel
theorem dX5_times_53 : decode cX5_times 53 = .ok (.iload_n 3, 1) := by decide +kernel
theorem dX5_times_54 : decode cX5_times 54 = .ok (.ireturn, 1) := by decide +kernel
set_option maxRecDepth 20000 in
theorem ggX5_write_X5_asks : GoodIn wsX5_write wsX5_asks := goodIn_r _ [8, 2, 9, 10, 7, 11, 12, 13, 14, 15, 16, 17, 18, 19, 20, 21, 22, 23, 24, 25, 26, 27, 28, 29, 30, 31, 32, 33, 34, 35, 36, 37, 38, 39, 40] (by decide +kernel) (by decide +kernel)
set_option maxRecDepth 20000 in
theorem gX5_write_X5_asks : GoodIn wsX5_write (wsV RX5 127 RX5 yX5_asks wsX5_asks) := goodIn_app (goodIn_of _ (by decide +kernel)) ggX5_write_X5_asks
theorem dX5_write_0 : decode cX5_write 0 = .ok (.aload_n 0, 1) := by decide +kernel
theorem dX5_write_1 : decode cX5_write 1 = .ok (.iload_n 1, 1) := by decide +kernel
theorem dX5_write_2 : decode cX5_write 2 = .ok (.iload_n 2, 1) := by decide +kernel
theorem dX5_write_3 : decode cX5_write 3 = .ok (.invokevirtual 127, 3) := by decide +kernel
theorem dX5_write_6 : decode cX5_write 6 = .ok (.ifCond .eq 21, 3) := by decide +kernel
theorem dX5_write_9 : decode cX5_write 9 = .ok (.aload_n 0, 1) := by decide +kernel
theorem dX5_write_10 : decode cX5_write 10 = .ok (.aload_n 0, 1) := by decide +kernel
theorem dX5_write_11 : decode cX5_write 11 = .ok (.getfield 137, 3) := by decide +kernel
theorem dX5_write_14 : decode cX5_write 14 = .ok (.bipush 30, 2) := by decide +kernel
theorem dX5_write_16 : decode cX5_write 16 = .ok (.if_icmp .ne 7, 3) := by decide +kernel
theorem dX5_write_19 : decode cX5_write 19 = .ok (.iconst 3, 1) := by decide +kernel
theorem dX5_write_20 : decode cX5_write 20 = .ok (.goto 4, 3) := by decide +kernel
theorem dX5_write_23 : decode cX5_write 23 = .ok (.iconst 0, 1) := by decide +kernel
theorem dX5_write_24 : decode cX5_write 24 = .ok (.putfield 35, 3) := by decide +kernel
theorem dX5_write_27 : decode cX5_write 27 = .ok (.aload_n 0, 1) := by decide +kernel
theorem dX5_write_28 : decode cX5_write 28 = .ok (.getfield 35, 3) := by decide +kernel
theorem dX5_write_31 : decode cX5_write 31 = .ok (.ifCond .le 5, 3) := by decide +kernel
theorem dX5_write_34 : decode cX5_write 34 = .ok (.iconst 0, 1) := by decide +kernel
theorem dX5_write_35 : decode cX5_write 35 = .ok (.ireturn, 1) := by decide +kernel
theorem dX5_write_36 : decode cX5_write 36 = .ok (.aload_n 0, 1) := by decide +kernel
theorem dX5_write_37 : decode cX5_write 37 = .ok (.getfield 23, 3) := by decide +kernel
theorem dX5_write_40 : decode cX5_write 40 = .ok (.aload_n 0, 1) := by decide +kernel
theorem dX5_write_41 : decode cX5_write 41 = .ok (.getfield 137, 3) := by decide +kernel
theorem dX5_write_44 : decode cX5_write 44 = .ok (.bipush 100, 2) := by decide +kernel
theorem dX5_write_46 : decode cX5_write 46 = .ok (.iload_n 1, 1) := by decide +kernel
theorem dX5_write_47 : decode cX5_write 47 = .ok (.imul, 1) := by decide +kernel
theorem dX5_write_48 : decode cX5_write 48 = .ok (.iload_n 2, 1) := by decide +kernel
theorem dX5_write_49 : decode cX5_write 49 = .ok (.iadd, 1) := by decide +kernel
theorem dX5_write_50 : decode cX5_write 50 = .ok (.iastore, 1) := by decide +kernel
theorem dX5_write_51 : decode cX5_write 51 = .ok (.aload_n 0, 1) := by decide +kernel
theorem dX5_write_52 : decode cX5_write 52 = .ok (.dup, 1) := by decide +kernel
theorem dX5_write_53 : decode cX5_write 53 = .ok (.getfield 137, 3) := by decide +kernel
theorem dX5_write_56 : decode cX5_write 56 = .ok (.iconst 1, 1) := by decide +kernel
theorem dX5_write_57 : decode cX5_write 57 = .ok (.iadd, 1) := by decide +kernel
theorem dX5_write_58 : decode cX5_write 58 = .ok (.putfield 137, 3) := by decide +kernel
theorem dX5_write_61 : decode cX5_write 61 = .ok (.aload_n 0, 1) := by decide +kernel
theorem dX5_write_62 : decode cX5_write 62 = .ok (.getfield 137, 3) := by decide +kernel
theorem dX5_write_65 : decode cX5_write 65 = .ok (.ireturn, 1) := by decide +kernel
theorem dX5_erase_0 : decode cX5_erase 0 = .ok (.aload_n 0, 1) := by decide +kernel
theorem dX5_erase_1 : decode cX5_erase 1 = .ok (.iconst 0, 1) := by decide +kernel
theorem dX5_erase_2 : decode cX5_erase 2 = .ok (.putfield 35, 3) := by decide +kernel
theorem dX5_erase_5 : decode cX5_erase 5 = .ok (.aload_n 0, 1) := by decide +kernel
theorem dX5_erase_6 : decode cX5_erase 6 = .ok (.getfield 137, 3) := by decide +kernel
theorem dX5_erase_9 : decode cX5_erase 9 = .ok (.istore_n 1, 1) := by decide +kernel
theorem dX5_erase_10 : decode cX5_erase 10 = .ok (.aload_n 0, 1) := by decide +kernel
theorem dX5_erase_11 : decode cX5_erase 11 = .ok (.iconst 0, 1) := by decide +kernel
theorem dX5_erase_12 : decode cX5_erase 12 = .ok (.putfield 137, 3) := by decide +kernel
theorem dX5_erase_15 : decode cX5_erase 15 = .ok (.iload_n 1, 1) := by decide +kernel
theorem dX5_erase_16 : decode cX5_erase 16 = .ok (.ireturn, 1) := by decide +kernel
set_option maxRecDepth 20000 in
theorem ggX5_check_X5_why : GoodIn wsX5_check wsX5_why := goodIn_r _ [11, 12, 13, 14, 10, 15, 2, 3, 16, 4, 17, 18, 19, 20, 21, 22, 23, 24, 25, 26, 27, 28, 29, 30, 31, 32, 33, 34, 35, 36, 37, 38, 39, 40, 41, 42, 43, 44, 45, 46, 47, 48, 49, 50, 51, 52, 53, 54, 55, 56, 57, 58, 59, 60, 61, 62, 63, 64, 65, 66, 67, 68, 69, 70, 71, 72, 73, 74, 75, 76, 77, 78, 79, 80, 81, 82, 83, 84, 85, 86, 87, 88, 89, 90, 91, 92, 93, 94, 95] (by decide +kernel) (by decide +kernel)
set_option maxRecDepth 20000 in
theorem gX5_check_X5_why : GoodIn wsX5_check (wsV RX5 121 RX5 yX5_why wsX5_why) := goodIn_app (goodIn_of _ (by decide +kernel)) ggX5_check_X5_why
set_option maxRecDepth 20000 in
theorem ggX5_check_X5_does : GoodIn wsX5_check wsX5_does := goodIn_r _ [71, 2, 3, 4, 77, 78, 79, 80, 81, 82, 83, 84, 85, 86, 87, 88, 89, 90, 91, 92, 93, 94, 95] (by decide +kernel) (by decide +kernel)
set_option maxRecDepth 20000 in
theorem gX5_check_X5_does : GoodIn wsX5_check (wsV RX5 98 RX5 yX5_does wsX5_does) := goodIn_app (goodIn_of _ (by decide +kernel)) ggX5_check_X5_does
theorem dX5_check_0 : decode cX5_check 0 = .ok (.aload_n 0, 1) := by decide +kernel
theorem dX5_check_1 : decode cX5_check 1 = .ok (.iconst 0, 1) := by decide +kernel
theorem dX5_check_2 : decode cX5_check 2 = .ok (.putfield 35, 3) := by decide +kernel
theorem dX5_check_5 : decode cX5_check 5 = .ok (.aload_n 0, 1) := by decide +kernel
theorem dX5_check_6 : decode cX5_check 6 = .ok (.getfield 76, 3) := by decide +kernel
theorem dX5_check_9 : decode cX5_check 9 = .ok (.istore_n 1, 1) := by decide +kernel
theorem dX5_check_10 : decode cX5_check 10 = .ok (.aload_n 0, 1) := by decide +kernel
theorem dX5_check_11 : decode cX5_check 11 = .ok (.getfield 79, 3) := by decide +kernel
theorem dX5_check_14 : decode cX5_check 14 = .ok (.istore_n 2, 1) := by decide +kernel
theorem dX5_check_15 : decode cX5_check 15 = .ok (.aload_n 0, 1) := by decide +kernel
theorem dX5_check_16 : decode cX5_check 16 = .ok (.getfield 67, 3) := by decide +kernel
theorem dX5_check_19 : decode cX5_check 19 = .ok (.istore_n 3, 1) := by decide +kernel
theorem dX5_check_20 : decode cX5_check 20 = .ok (.iconst 0, 1) := by decide +kernel
theorem dX5_check_21 : decode cX5_check 21 = .ok (.istore 4, 2) := by decide +kernel
theorem dX5_check_23 : decode cX5_check 23 = .ok (.iload 4, 2) := by decide +kernel
theorem dX5_check_25 : decode cX5_check 25 = .ok (.aload_n 0, 1) := by decide +kernel
theorem dX5_check_26 : decode cX5_check 26 = .ok (.getfield 137, 3) := by decide +kernel
theorem dX5_check_29 : decode cX5_check 29 = .ok (.if_icmp .ge 60, 3) := by decide +kernel
theorem dX5_check_32 : decode cX5_check 32 = .ok (.aload_n 0, 1) := by decide +kernel
theorem dX5_check_33 : decode cX5_check 33 = .ok (.aload_n 0, 1) := by decide +kernel
theorem dX5_check_34 : decode cX5_check 34 = .ok (.getfield 23, 3) := by decide +kernel
theorem dX5_check_37 : decode cX5_check 37 = .ok (.iload 4, 2) := by decide +kernel
theorem dX5_check_39 : decode cX5_check 39 = .ok (.iaload, 1) := by decide +kernel
theorem dX5_check_40 : decode cX5_check 40 = .ok (.bipush 100, 2) := by decide +kernel
theorem dX5_check_42 : decode cX5_check 42 = .ok (.idiv, 1) := by decide +kernel
theorem dX5_check_43 : decode cX5_check 43 = .ok (.aload_n 0, 1) := by decide +kernel
theorem dX5_check_44 : decode cX5_check 44 = .ok (.getfield 23, 3) := by decide +kernel
theorem dX5_check_47 : decode cX5_check 47 = .ok (.iload 4, 2) := by decide +kernel
theorem dX5_check_49 : decode cX5_check 49 = .ok (.iaload, 1) := by decide +kernel
theorem dX5_check_50 : decode cX5_check 50 = .ok (.bipush 100, 2) := by decide +kernel
theorem dX5_check_52 : decode cX5_check 52 = .ok (.irem, 1) := by decide +kernel
theorem dX5_check_53 : decode cX5_check 53 = .ok (.invokevirtual 121, 3) := by decide +kernel
theorem dX5_check_56 : decode cX5_check 56 = .ok (.ifCond .ne 33, 3) := by decide +kernel
theorem dX5_check_59 : decode cX5_check 59 = .ok (.aload_n 0, 1) := by decide +kernel
theorem dX5_check_60 : decode cX5_check 60 = .ok (.aload_n 0, 1) := by decide +kernel
theorem dX5_check_61 : decode cX5_check 61 = .ok (.getfield 23, 3) := by decide +kernel
theorem dX5_check_64 : decode cX5_check 64 = .ok (.iload 4, 2) := by decide +kernel
theorem dX5_check_66 : decode cX5_check 66 = .ok (.iaload, 1) := by decide +kernel
theorem dX5_check_67 : decode cX5_check 67 = .ok (.bipush 100, 2) := by decide +kernel
theorem dX5_check_69 : decode cX5_check 69 = .ok (.idiv, 1) := by decide +kernel
theorem dX5_check_70 : decode cX5_check 70 = .ok (.aload_n 0, 1) := by decide +kernel
theorem dX5_check_71 : decode cX5_check 71 = .ok (.getfield 23, 3) := by decide +kernel
theorem dX5_check_74 : decode cX5_check 74 = .ok (.iload 4, 2) := by decide +kernel
theorem dX5_check_76 : decode cX5_check 76 = .ok (.iaload, 1) := by decide +kernel
theorem dX5_check_77 : decode cX5_check 77 = .ok (.bipush 100, 2) := by decide +kernel
theorem dX5_check_79 : decode cX5_check 79 = .ok (.irem, 1) := by decide +kernel
theorem dX5_check_80 : decode cX5_check 80 = .ok (.invokevirtual 98, 3) := by decide +kernel
theorem dX5_check_83 : decode cX5_check 83 = .ok (.iinc 4 1, 3) := by decide +kernel
theorem dX5_check_86 : decode cX5_check 86 = .ok (.goto (-63), 3) := by decide +kernel
theorem dX5_check_89 : decode cX5_check 89 = .ok (.aload_n 0, 1) := by decide +kernel
theorem dX5_check_90 : decode cX5_check 90 = .ok (.iload_n 1, 1) := by decide +kernel
theorem dX5_check_91 : decode cX5_check 91 = .ok (.putfield 76, 3) := by decide +kernel
theorem dX5_check_94 : decode cX5_check 94 = .ok (.aload_n 0, 1) := by decide +kernel
theorem dX5_check_95 : decode cX5_check 95 = .ok (.iload_n 2, 1) := by decide +kernel
theorem dX5_check_96 : decode cX5_check 96 = .ok (.putfield 79, 3) := by decide +kernel
theorem dX5_check_99 : decode cX5_check 99 = .ok (.aload_n 0, 1) := by decide +kernel
theorem dX5_check_100 : decode cX5_check 100 = .ok (.iload_n 3, 1) := by decide +kernel
theorem dX5_check_101 : decode cX5_check 101 = .ok (.putfield 67, 3) := by decide +kernel
theorem dX5_check_104 : decode cX5_check 104 = .ok (.iload 4, 2) := by decide +kernel
theorem dX5_check_106 : decode cX5_check 106 = .ok (.ireturn, 1) := by decide +kernel
set_option maxRecDepth 20000 in
theorem ggX5_carryOut_X5_in : GoodIn wsX5_carryOut wsX5_in := goodIn_r _ [8] (by decide +kernel) (by decide +kernel)
set_option maxRecDepth 20000 in
theorem gX5_carryOut_X5_in : GoodIn wsX5_carryOut (va_wsS RX5 42 yX5_in wsX5_in) := goodIn_app (goodIn_of _ (by decide +kernel)) ggX5_carryOut_X5_in
set_option maxRecDepth 20000 in
theorem ggX5_carryOut_X5_acts : GoodIn wsX5_carryOut wsX5_acts := goodIn_r _ [12, 13, 1, 14, 15, 16, 7, 17, 18, 19, 20, 21, 22, 23, 24, 25, 26, 27, 28, 29, 30, 31, 32, 33, 34, 35, 36, 37, 38, 39, 40, 41, 42, 43, 44, 45, 46, 47, 48, 49, 50, 51, 52, 53, 54, 55, 56, 57, 58, 59, 60, 61, 62, 63, 64, 65, 66, 67, 68, 69, 70, 71, 72, 73, 74, 75, 76, 77, 78, 79, 80, 81, 82, 83, 84, 85, 86, 87, 88, 89, 90, 91, 92, 93, 94, 95, 96, 97, 98, 99, 100, 101, 102, 103, 104] (by decide +kernel) (by decide +kernel)
set_option maxRecDepth 20000 in
theorem gX5_carryOut_X5_acts : GoodIn wsX5_carryOut (wsV RX5 130 RX5 yX5_acts wsX5_acts) := goodIn_app (goodIn_of _ (by decide +kernel)) ggX5_carryOut_X5_acts
theorem dX5_carryOut_0 : decode cX5_carryOut 0 = .ok (.aload_n 0, 1) := by decide +kernel
theorem dX5_carryOut_1 : decode cX5_carryOut 1 = .ok (.iload_n 1, 1) := by decide +kernel
theorem dX5_carryOut_2 : decode cX5_carryOut 2 = .ok (.iconst 1, 1) := by decide +kernel
theorem dX5_carryOut_3 : decode cX5_carryOut 3 = .ok (.bipush 30, 2) := by decide +kernel
theorem dX5_carryOut_5 : decode cX5_carryOut 5 = .ok (.invokestatic 42, 3) := by decide +kernel
theorem dX5_carryOut_8 : decode cX5_carryOut 8 = .ok (.ifCond .ne 7, 3) := by decide +kernel
theorem dX5_carryOut_11 : decode cX5_carryOut 11 = .ok (.iconst 1, 1) := by decide +kernel
theorem dX5_carryOut_12 : decode cX5_carryOut 12 = .ok (.goto 35, 3) := by decide +kernel
theorem dX5_carryOut_15 : decode cX5_carryOut 15 = .ok (.aload_n 0, 1) := by decide +kernel
theorem dX5_carryOut_16 : decode cX5_carryOut 16 = .ok (.getfield 124, 3) := by decide +kernel
theorem dX5_carryOut_19 : decode cX5_carryOut 19 = .ok (.iload_n 1, 1) := by decide +kernel
theorem dX5_carryOut_20 : decode cX5_carryOut 20 = .ok (.aload_n 0, 1) := by decide +kernel
theorem dX5_carryOut_21 : decode cX5_carryOut 21 = .ok (.getfield 137, 3) := by decide +kernel
theorem dX5_carryOut_24 : decode cX5_carryOut 24 = .ok (.if_icmp .ge 7, 3) := by decide +kernel
theorem dX5_carryOut_27 : decode cX5_carryOut 27 = .ok (.iload_n 1, 1) := by decide +kernel
theorem dX5_carryOut_28 : decode cX5_carryOut 28 = .ok (.goto 7, 3) := by decide +kernel
theorem dX5_carryOut_31 : decode cX5_carryOut 31 = .ok (.aload_n 0, 1) := by decide +kernel
theorem dX5_carryOut_32 : decode cX5_carryOut 32 = .ok (.getfield 137, 3) := by decide +kernel
theorem dX5_carryOut_35 : decode cX5_carryOut 35 = .ok (.iadd, 1) := by decide +kernel
theorem dX5_carryOut_36 : decode cX5_carryOut 36 = .ok (.sipush 200, 3) := by decide +kernel
theorem dX5_carryOut_39 : decode cX5_carryOut 39 = .ok (.if_icmp .le 7, 3) := by decide +kernel
theorem dX5_carryOut_42 : decode cX5_carryOut 42 = .ok (.iconst 2, 1) := by decide +kernel
theorem dX5_carryOut_43 : decode cX5_carryOut 43 = .ok (.goto 4, 3) := by decide +kernel
theorem dX5_carryOut_46 : decode cX5_carryOut 46 = .ok (.iconst 0, 1) := by decide +kernel
theorem dX5_carryOut_47 : decode cX5_carryOut 47 = .ok (.putfield 35, 3) := by decide +kernel
theorem dX5_carryOut_50 : decode cX5_carryOut 50 = .ok (.iconst 0, 1) := by decide +kernel
theorem dX5_carryOut_51 : decode cX5_carryOut 51 = .ok (.istore_n 2, 1) := by decide +kernel
theorem dX5_carryOut_52 : decode cX5_carryOut 52 = .ok (.aload_n 0, 1) := by decide +kernel
theorem dX5_carryOut_53 : decode cX5_carryOut 53 = .ok (.getfield 35, 3) := by decide +kernel
theorem dX5_carryOut_56 : decode cX5_carryOut 56 = .ok (.ifCond .ne 47, 3) := by decide +kernel
theorem dX5_carryOut_59 : decode cX5_carryOut 59 = .ok (.iload_n 2, 1) := by decide +kernel
theorem dX5_carryOut_60 : decode cX5_carryOut 60 = .ok (.iload_n 1, 1) := by decide +kernel
theorem dX5_carryOut_61 : decode cX5_carryOut 61 = .ok (.if_icmp .ge 42, 3) := by decide +kernel
theorem dX5_carryOut_64 : decode cX5_carryOut 64 = .ok (.iload_n 2, 1) := by decide +kernel
theorem dX5_carryOut_65 : decode cX5_carryOut 65 = .ok (.aload_n 0, 1) := by decide +kernel
theorem dX5_carryOut_66 : decode cX5_carryOut 66 = .ok (.getfield 137, 3) := by decide +kernel
theorem dX5_carryOut_69 : decode cX5_carryOut 69 = .ok (.if_icmp .ge 34, 3) := by decide +kernel
theorem dX5_carryOut_72 : decode cX5_carryOut 72 = .ok (.aload_n 0, 1) := by decide +kernel
theorem dX5_carryOut_73 : decode cX5_carryOut 73 = .ok (.aload_n 0, 1) := by decide +kernel
theorem dX5_carryOut_74 : decode cX5_carryOut 74 = .ok (.getfield 23, 3) := by decide +kernel
theorem dX5_carryOut_77 : decode cX5_carryOut 77 = .ok (.iload_n 2, 1) := by decide +kernel
theorem dX5_carryOut_78 : decode cX5_carryOut 78 = .ok (.iaload, 1) := by decide +kernel
theorem dX5_carryOut_79 : decode cX5_carryOut 79 = .ok (.bipush 100, 2) := by decide +kernel
theorem dX5_carryOut_81 : decode cX5_carryOut 81 = .ok (.idiv, 1) := by decide +kernel
theorem dX5_carryOut_82 : decode cX5_carryOut 82 = .ok (.aload_n 0, 1) := by decide +kernel
theorem dX5_carryOut_83 : decode cX5_carryOut 83 = .ok (.getfield 23, 3) := by decide +kernel
theorem dX5_carryOut_86 : decode cX5_carryOut 86 = .ok (.iload_n 2, 1) := by decide +kernel
theorem dX5_carryOut_87 : decode cX5_carryOut 87 = .ok (.iaload, 1) := by decide +kernel
theorem dX5_carryOut_88 : decode cX5_carryOut 88 = .ok (.bipush 100, 2) := by decide +kernel
theorem dX5_carryOut_90 : decode cX5_carryOut 90 = .ok (.irem, 1) := by decide +kernel
theorem dX5_carryOut_91 : decode cX5_carryOut 91 = .ok (.invokevirtual 130, 3) := by decide +kernel
theorem dX5_carryOut_94 : decode cX5_carryOut 94 = .ok (.ifCond .ne 9, 3) := by decide +kernel
theorem dX5_carryOut_97 : decode cX5_carryOut 97 = .ok (.iinc 2 1, 3) := by decide +kernel
theorem dX5_carryOut_100 : decode cX5_carryOut 100 = .ok (.goto (-48), 3) := by decide +kernel
theorem dX5_carryOut_103 : decode cX5_carryOut 103 = .ok (.iload_n 2, 1) := by decide +kernel
theorem dX5_carryOut_104 : decode cX5_carryOut 104 = .ok (.istore_n 3, 1) := by decide +kernel
theorem dX5_carryOut_105 : decode cX5_carryOut 105 = .ok (.iload_n 3, 1) := by decide +kernel
theorem dX5_carryOut_106 : decode cX5_carryOut 106 = .ok (.aload_n 0, 1) := by decide +kernel
theorem dX5_carryOut_107 : decode cX5_carryOut 107 = .ok (.getfield 137, 3) := by decide +kernel
theorem dX5_carryOut_110 : decode cX5_carryOut 110 = .ok (.if_icmp .ge 23, 3) := by decide +kernel
theorem dX5_carryOut_113 : decode cX5_carryOut 113 = .ok (.aload_n 0, 1) := by decide +kernel
theorem dX5_carryOut_114 : decode cX5_carryOut 114 = .ok (.getfield 23, 3) := by decide +kernel
theorem dX5_carryOut_117 : decode cX5_carryOut 117 = .ok (.iload_n 3, 1) := by decide +kernel
theorem dX5_carryOut_118 : decode cX5_carryOut 118 = .ok (.iload_n 2, 1) := by decide +kernel
theorem dX5_carryOut_119 : decode cX5_carryOut 119 = .ok (.isub, 1) := by decide +kernel
theorem dX5_carryOut_120 : decode cX5_carryOut 120 = .ok (.aload_n 0, 1) := by decide +kernel
theorem dX5_carryOut_121 : decode cX5_carryOut 121 = .ok (.getfield 23, 3) := by decide +kernel
theorem dX5_carryOut_124 : decode cX5_carryOut 124 = .ok (.iload_n 3, 1) := by decide +kernel
theorem dX5_carryOut_125 : decode cX5_carryOut 125 = .ok (.iaload, 1) := by decide +kernel
theorem dX5_carryOut_126 : decode cX5_carryOut 126 = .ok (.iastore, 1) := by decide +kernel
theorem dX5_carryOut_127 : decode cX5_carryOut 127 = .ok (.iinc 3 1, 3) := by decide +kernel
theorem dX5_carryOut_130 : decode cX5_carryOut 130 = .ok (.goto (-25), 3) := by decide +kernel
theorem dX5_carryOut_133 : decode cX5_carryOut 133 = .ok (.aload_n 0, 1) := by decide +kernel
theorem dX5_carryOut_134 : decode cX5_carryOut 134 = .ok (.dup, 1) := by decide +kernel
theorem dX5_carryOut_135 : decode cX5_carryOut 135 = .ok (.getfield 137, 3) := by decide +kernel
theorem dX5_carryOut_138 : decode cX5_carryOut 138 = .ok (.iload_n 2, 1) := by decide +kernel
theorem dX5_carryOut_139 : decode cX5_carryOut 139 = .ok (.isub, 1) := by decide +kernel
theorem dX5_carryOut_140 : decode cX5_carryOut 140 = .ok (.putfield 137, 3) := by decide +kernel
theorem dX5_carryOut_143 : decode cX5_carryOut 143 = .ok (.iload_n 2, 1) := by decide +kernel
theorem dX5_carryOut_144 : decode cX5_carryOut 144 = .ok (.ireturn, 1) := by decide +kernel
set_option maxRecDepth 20000 in
theorem ggX5_writeBack_X5_opposite : GoodIn wsX5_writeBack wsX5_opposite := goodIn_r _ [9] (by decide +kernel) (by decide +kernel)
set_option maxRecDepth 20000 in
theorem gX5_writeBack_X5_opposite : GoodIn wsX5_writeBack (va_wsS RX5 133 yX5_opposite wsX5_opposite) := goodIn_app (goodIn_of _ (by decide +kernel)) ggX5_writeBack_X5_opposite
theorem dX5_writeBack_0 : decode cX5_writeBack 0 = .ok (.aload_n 0, 1) := by decide +kernel
theorem dX5_writeBack_1 : decode cX5_writeBack 1 = .ok (.iconst 0, 1) := by decide +kernel
theorem dX5_writeBack_2 : decode cX5_writeBack 2 = .ok (.putfield 35, 3) := by decide +kernel
theorem dX5_writeBack_5 : decode cX5_writeBack 5 = .ok (.aload_n 0, 1) := by decide +kernel
theorem dX5_writeBack_6 : decode cX5_writeBack 6 = .ok (.aload_n 0, 1) := by decide +kernel
theorem dX5_writeBack_7 : decode cX5_writeBack 7 = .ok (.getfield 124, 3) := by decide +kernel
theorem dX5_writeBack_10 : decode cX5_writeBack 10 = .ok (.bipush 30, 2) := by decide +kernel
theorem dX5_writeBack_12 : decode cX5_writeBack 12 = .ok (.if_icmp .ge 10, 3) := by decide +kernel
theorem dX5_writeBack_15 : decode cX5_writeBack 15 = .ok (.aload_n 0, 1) := by decide +kernel
theorem dX5_writeBack_16 : decode cX5_writeBack 16 = .ok (.getfield 124, 3) := by decide +kernel
theorem dX5_writeBack_19 : decode cX5_writeBack 19 = .ok (.goto 5, 3) := by decide +kernel
theorem dX5_writeBack_22 : decode cX5_writeBack 22 = .ok (.bipush 30, 2) := by decide +kernel
theorem dX5_writeBack_24 : decode cX5_writeBack 24 = .ok (.putfield 137, 3) := by decide +kernel
theorem dX5_writeBack_27 : decode cX5_writeBack 27 = .ok (.iconst 0, 1) := by decide +kernel
theorem dX5_writeBack_28 : decode cX5_writeBack 28 = .ok (.istore_n 1, 1) := by decide +kernel
theorem dX5_writeBack_29 : decode cX5_writeBack 29 = .ok (.iload_n 1, 1) := by decide +kernel
theorem dX5_writeBack_30 : decode cX5_writeBack 30 = .ok (.aload_n 0, 1) := by decide +kernel
theorem dX5_writeBack_31 : decode cX5_writeBack 31 = .ok (.getfield 137, 3) := by decide +kernel
theorem dX5_writeBack_34 : decode cX5_writeBack 34 = .ok (.if_icmp .ge 31, 3) := by decide +kernel
theorem dX5_writeBack_37 : decode cX5_writeBack 37 = .ok (.aload_n 0, 1) := by decide +kernel
theorem dX5_writeBack_38 : decode cX5_writeBack 38 = .ok (.getfield 23, 3) := by decide +kernel
theorem dX5_writeBack_41 : decode cX5_writeBack 41 = .ok (.iload_n 1, 1) := by decide +kernel
theorem dX5_writeBack_42 : decode cX5_writeBack 42 = .ok (.aload_n 0, 1) := by decide +kernel
theorem dX5_writeBack_43 : decode cX5_writeBack 43 = .ok (.getfield 20, 3) := by decide +kernel
theorem dX5_writeBack_46 : decode cX5_writeBack 46 = .ok (.aload_n 0, 1) := by decide +kernel
theorem dX5_writeBack_47 : decode cX5_writeBack 47 = .ok (.getfield 124, 3) := by decide +kernel
theorem dX5_writeBack_50 : decode cX5_writeBack 50 = .ok (.iconst 1, 1) := by decide +kernel
theorem dX5_writeBack_51 : decode cX5_writeBack 51 = .ok (.isub, 1) := by decide +kernel
theorem dX5_writeBack_52 : decode cX5_writeBack 52 = .ok (.iload_n 1, 1) := by decide +kernel
theorem dX5_writeBack_53 : decode cX5_writeBack 53 = .ok (.isub, 1) := by decide +kernel
theorem dX5_writeBack_54 : decode cX5_writeBack 54 = .ok (.iaload, 1) := by decide +kernel
theorem dX5_writeBack_55 : decode cX5_writeBack 55 = .ok (.invokestatic 133, 3) := by decide +kernel
theorem dX5_writeBack_58 : decode cX5_writeBack 58 = .ok (.iastore, 1) := by decide +kernel
theorem dX5_writeBack_59 : decode cX5_writeBack 59 = .ok (.iinc 1 1, 3) := by decide +kernel
theorem dX5_writeBack_62 : decode cX5_writeBack 62 = .ok (.goto (-33), 3) := by decide +kernel
theorem dX5_writeBack_65 : decode cX5_writeBack 65 = .ok (.aload_n 0, 1) := by decide +kernel
theorem dX5_writeBack_66 : decode cX5_writeBack 66 = .ok (.getfield 137, 3) := by decide +kernel
theorem dX5_writeBack_69 : decode cX5_writeBack 69 = .ok (.ireturn, 1) := by decide +kernel
set_option maxRecDepth 20000 in
theorem ggX5_permit_X5_in : GoodIn wsX5_permit wsX5_in := goodIn_r _ [12] (by decide +kernel) (by decide +kernel)
set_option maxRecDepth 20000 in
theorem gX5_permit_X5_in : GoodIn wsX5_permit (va_wsS RX5 42 yX5_in wsX5_in) := goodIn_app (goodIn_of _ (by decide +kernel)) ggX5_permit_X5_in
set_option maxRecDepth 20000 in
theorem ggX5_permit_X5_heldNow : GoodIn wsX5_permit wsX5_heldNow := goodIn_r _ [16, 3, 8, 7, 35, 36, 37, 38, 39, 40, 41, 42, 43, 44, 45, 46, 47, 48, 49, 50, 51, 52, 53] (by decide +kernel) (by decide +kernel)
set_option maxRecDepth 20000 in
theorem gX5_permit_X5_heldNow : GoodIn wsX5_permit (wsV RX5 94 RX5 yX5_heldNow wsX5_heldNow) := goodIn_app (goodIn_of _ (by decide +kernel)) ggX5_permit_X5_heldNow
set_option maxRecDepth 20000 in
theorem ggX5_permit_X5_has : GoodIn wsX5_permit wsX5_has := goodIn_r _ [19] (by decide +kernel) (by decide +kernel)
set_option maxRecDepth 20000 in
theorem gX5_permit_X5_has : GoodIn wsX5_permit (va_wsS RX5 59 yX5_has wsX5_has) := goodIn_app (goodIn_of _ (by decide +kernel)) ggX5_permit_X5_has
set_option maxRecDepth 20000 in
theorem ggX5_permit_X5_isEarthed : GoodIn wsX5_permit wsX5_isEarthed := goodIn_r _ [23, 24, 25, 26, 11, 27, 28, 29, 30, 17, 18, 19, 35, 36, 37, 38, 39, 40, 41, 42, 43, 44, 45, 46, 47, 48, 49, 50, 51, 52, 53] (by decide +kernel) (by decide +kernel)
set_option maxRecDepth 20000 in
theorem gX5_permit_X5_isEarthed : GoodIn wsX5_permit (wsV RX5 85 RX5 yX5_isEarthed wsX5_isEarthed) := goodIn_app (goodIn_of _ (by decide +kernel)) ggX5_permit_X5_isEarthed
set_option maxRecDepth 20000 in
theorem ggX5_permit_X5_isLive : GoodIn wsX5_permit wsX5_isLive := goodIn_r _ [34, 24, 25, 26, 11, 27, 28, 29, 30, 17, 18, 19, 35, 36, 37, 38, 39, 40, 41, 42, 43, 44, 45, 46, 47, 48, 49, 50, 51, 52, 53] (by decide +kernel) (by decide +kernel)
set_option maxRecDepth 20000 in
theorem gX5_permit_X5_isLive : GoodIn wsX5_permit (wsV RX5 70 RX5 yX5_isLive wsX5_isLive) := goodIn_app (goodIn_of _ (by decide +kernel)) ggX5_permit_X5_isLive
theorem dX5_permit_0 : decode cX5_permit 0 = .ok (.aload_n 0, 1) := by decide +kernel
theorem dX5_permit_1 : decode cX5_permit 1 = .ok (.iload_n 1, 1) := by decide +kernel
theorem dX5_permit_2 : decode cX5_permit 2 = .ok (.iconst 1, 1) := by decide +kernel
theorem dX5_permit_3 : decode cX5_permit 3 = .ok (.iconst 1, 1) := by decide +kernel
theorem dX5_permit_4 : decode cX5_permit 4 = .ok (.aload_n 0, 1) := by decide +kernel
theorem dX5_permit_5 : decode cX5_permit 5 = .ok (.getfield 39, 3) := by decide +kernel
theorem dX5_permit_8 : decode cX5_permit 8 = .ok (.ishl, 1) := by decide +kernel
theorem dX5_permit_9 : decode cX5_permit 9 = .ok (.iconst 1, 1) := by decide +kernel
theorem dX5_permit_10 : decode cX5_permit 10 = .ok (.isub, 1) := by decide +kernel
theorem dX5_permit_11 : decode cX5_permit 11 = .ok (.invokestatic 42, 3) := by decide +kernel
theorem dX5_permit_14 : decode cX5_permit 14 = .ok (.ifCond .eq 7, 3) := by decide +kernel
theorem dX5_permit_17 : decode cX5_permit 17 = .ok (.iconst 0, 1) := by decide +kernel
theorem dX5_permit_18 : decode cX5_permit 18 = .ok (.goto 4, 3) := by decide +kernel
theorem dX5_permit_21 : decode cX5_permit 21 = .ok (.iconst 1, 1) := by decide +kernel
theorem dX5_permit_22 : decode cX5_permit 22 = .ok (.putfield 35, 3) := by decide +kernel
theorem dX5_permit_25 : decode cX5_permit 25 = .ok (.aload_n 0, 1) := by decide +kernel
theorem dX5_permit_26 : decode cX5_permit 26 = .ok (.getfield 73, 3) := by decide +kernel
theorem dX5_permit_29 : decode cX5_permit 29 = .ok (.bipush 10, 2) := by decide +kernel
theorem dX5_permit_31 : decode cX5_permit 31 = .ok (.if_icmp .ge 16, 3) := by decide +kernel
theorem dX5_permit_34 : decode cX5_permit 34 = .ok (.iload_n 1, 1) := by decide +kernel
theorem dX5_permit_35 : decode cX5_permit 35 = .ok (.aload_n 0, 1) := by decide +kernel
theorem dX5_permit_36 : decode cX5_permit 36 = .ok (.invokevirtual 94, 3) := by decide +kernel
theorem dX5_permit_39 : decode cX5_permit 39 = .ok (.iand, 1) := by decide +kernel
theorem dX5_permit_40 : decode cX5_permit 40 = .ok (.ifCond .ne 7, 3) := by decide +kernel
theorem dX5_permit_43 : decode cX5_permit 43 = .ok (.iconst 1, 1) := by decide +kernel
theorem dX5_permit_44 : decode cX5_permit 44 = .ok (.goto 4, 3) := by decide +kernel
theorem dX5_permit_47 : decode cX5_permit 47 = .ok (.iconst 0, 1) := by decide +kernel
theorem dX5_permit_48 : decode cX5_permit 48 = .ok (.istore_n 2, 1) := by decide +kernel
theorem dX5_permit_49 : decode cX5_permit 49 = .ok (.iconst 0, 1) := by decide +kernel
theorem dX5_permit_50 : decode cX5_permit 50 = .ok (.istore_n 3, 1) := by decide +kernel
theorem dX5_permit_51 : decode cX5_permit 51 = .ok (.iload_n 3, 1) := by decide +kernel
theorem dX5_permit_52 : decode cX5_permit 52 = .ok (.aload_n 0, 1) := by decide +kernel
theorem dX5_permit_53 : decode cX5_permit 53 = .ok (.getfield 39, 3) := by decide +kernel
theorem dX5_permit_56 : decode cX5_permit 56 = .ok (.if_icmp .ge 66, 3) := by decide +kernel
theorem dX5_permit_59 : decode cX5_permit 59 = .ok (.aload_n 0, 1) := by decide +kernel
theorem dX5_permit_60 : decode cX5_permit 60 = .ok (.getfield 35, 3) := by decide +kernel
theorem dX5_permit_63 : decode cX5_permit 63 = .ok (.ifCond .ne 59, 3) := by decide +kernel
theorem dX5_permit_66 : decode cX5_permit 66 = .ok (.iload_n 2, 1) := by decide +kernel
theorem dX5_permit_67 : decode cX5_permit 67 = .ok (.ifCond .eq 47, 3) := by decide +kernel
theorem dX5_permit_70 : decode cX5_permit 70 = .ok (.iload_n 1, 1) := by decide +kernel
theorem dX5_permit_71 : decode cX5_permit 71 = .ok (.iload_n 3, 1) := by decide +kernel
theorem dX5_permit_72 : decode cX5_permit 72 = .ok (.invokestatic 59, 3) := by decide +kernel
theorem dX5_permit_75 : decode cX5_permit 75 = .ok (.ifCond .eq 35, 3) := by decide +kernel
theorem dX5_permit_78 : decode cX5_permit 78 = .ok (.aload_n 0, 1) := by decide +kernel
theorem dX5_permit_79 : decode cX5_permit 79 = .ok (.iload_n 3, 1) := by decide +kernel
theorem dX5_permit_80 : decode cX5_permit 80 = .ok (.aload_n 0, 1) := by decide +kernel
theorem dX5_permit_81 : decode cX5_permit 81 = .ok (.getfield 76, 3) := by decide +kernel
theorem dX5_permit_84 : decode cX5_permit 84 = .ok (.aload_n 0, 1) := by decide +kernel
theorem dX5_permit_85 : decode cX5_permit 85 = .ok (.getfield 79, 3) := by decide +kernel
theorem dX5_permit_88 : decode cX5_permit 88 = .ok (.invokevirtual 85, 3) := by decide +kernel
theorem dX5_permit_91 : decode cX5_permit 91 = .ok (.ifCond .eq 23, 3) := by decide +kernel
theorem dX5_permit_94 : decode cX5_permit 94 = .ok (.aload_n 0, 1) := by decide +kernel
theorem dX5_permit_95 : decode cX5_permit 95 = .ok (.iload_n 3, 1) := by decide +kernel
theorem dX5_permit_96 : decode cX5_permit 96 = .ok (.aload_n 0, 1) := by decide +kernel
theorem dX5_permit_97 : decode cX5_permit 97 = .ok (.getfield 76, 3) := by decide +kernel
theorem dX5_permit_100 : decode cX5_permit 100 = .ok (.aload_n 0, 1) := by decide +kernel
theorem dX5_permit_101 : decode cX5_permit 101 = .ok (.getfield 67, 3) := by decide +kernel
theorem dX5_permit_104 : decode cX5_permit 104 = .ok (.invokevirtual 70, 3) := by decide +kernel
theorem dX5_permit_107 : decode cX5_permit 107 = .ok (.ifCond .ne 7, 3) := by decide +kernel
theorem dX5_permit_110 : decode cX5_permit 110 = .ok (.iconst 1, 1) := by decide +kernel
theorem dX5_permit_111 : decode cX5_permit 111 = .ok (.goto 4, 3) := by decide +kernel
theorem dX5_permit_114 : decode cX5_permit 114 = .ok (.iconst 0, 1) := by decide +kernel
theorem dX5_permit_115 : decode cX5_permit 115 = .ok (.istore_n 2, 1) := by decide +kernel
theorem dX5_permit_116 : decode cX5_permit 116 = .ok (.iinc 3 1, 3) := by decide +kernel
theorem dX5_permit_119 : decode cX5_permit 119 = .ok (.goto (-68), 3) := by decide +kernel
theorem dX5_permit_122 : decode cX5_permit 122 = .ok (.aload_n 0, 1) := by decide +kernel
theorem dX5_permit_123 : decode cX5_permit 123 = .ok (.aload_n 0, 1) := by decide +kernel
theorem dX5_permit_124 : decode cX5_permit 124 = .ok (.getfield 35, 3) := by decide +kernel
theorem dX5_permit_127 : decode cX5_permit 127 = .ok (.ifCond .le 7, 3) := by decide +kernel
theorem dX5_permit_130 : decode cX5_permit 130 = .ok (.iconst 1, 1) := by decide +kernel
theorem dX5_permit_131 : decode cX5_permit 131 = .ok (.goto 12, 3) := by decide +kernel
theorem dX5_permit_134 : decode cX5_permit 134 = .ok (.iload_n 2, 1) := by decide +kernel
theorem dX5_permit_135 : decode cX5_permit 135 = .ok (.ifCond .eq 7, 3) := by decide +kernel
theorem dX5_permit_138 : decode cX5_permit 138 = .ok (.iconst 0, 1) := by decide +kernel
theorem dX5_permit_139 : decode cX5_permit 139 = .ok (.goto 4, 3) := by decide +kernel
theorem dX5_permit_142 : decode cX5_permit 142 = .ok (.iconst 2, 1) := by decide +kernel
theorem dX5_permit_143 : decode cX5_permit 143 = .ok (.putfield 35, 3) := by decide +kernel
theorem dX5_permit_146 : decode cX5_permit 146 = .ok (.aload_n 0, 1) := by decide +kernel
theorem dX5_permit_147 : decode cX5_permit 147 = .ok (.getfield 35, 3) := by decide +kernel
theorem dX5_permit_150 : decode cX5_permit 150 = .ok (.ifCond .le 5, 3) := by decide +kernel
theorem dX5_permit_153 : decode cX5_permit 153 = .ok (.iconst 0, 1) := by decide +kernel
theorem dX5_permit_154 : decode cX5_permit 154 = .ok (.ireturn, 1) := by decide +kernel
theorem dX5_permit_155 : decode cX5_permit 155 = .ok (.aload_n 0, 1) := by decide +kernel
theorem dX5_permit_156 : decode cX5_permit 156 = .ok (.getfield 26, 3) := by decide +kernel
theorem dX5_permit_159 : decode cX5_permit 159 = .ok (.aload_n 0, 1) := by decide +kernel
theorem dX5_permit_160 : decode cX5_permit 160 = .ok (.getfield 73, 3) := by decide +kernel
theorem dX5_permit_163 : decode cX5_permit 163 = .ok (.iload_n 1, 1) := by decide +kernel
theorem dX5_permit_164 : decode cX5_permit 164 = .ok (.iastore, 1) := by decide +kernel
theorem dX5_permit_165 : decode cX5_permit 165 = .ok (.aload_n 0, 1) := by decide +kernel
theorem dX5_permit_166 : decode cX5_permit 166 = .ok (.getfield 29, 3) := by decide +kernel
theorem dX5_permit_169 : decode cX5_permit 169 = .ok (.aload_n 0, 1) := by decide +kernel
theorem dX5_permit_170 : decode cX5_permit 170 = .ok (.getfield 73, 3) := by decide +kernel
theorem dX5_permit_173 : decode cX5_permit 173 = .ok (.iconst 1, 1) := by decide +kernel
theorem dX5_permit_174 : decode cX5_permit 174 = .ok (.bastore, 1) := by decide +kernel
theorem dX5_permit_175 : decode cX5_permit 175 = .ok (.aload_n 0, 1) := by decide +kernel
theorem dX5_permit_176 : decode cX5_permit 176 = .ok (.dup, 1) := by decide +kernel
theorem dX5_permit_177 : decode cX5_permit 177 = .ok (.getfield 73, 3) := by decide +kernel
theorem dX5_permit_180 : decode cX5_permit 180 = .ok (.iconst 1, 1) := by decide +kernel
theorem dX5_permit_181 : decode cX5_permit 181 = .ok (.iadd, 1) := by decide +kernel
theorem dX5_permit_182 : decode cX5_permit 182 = .ok (.putfield 73, 3) := by decide +kernel
theorem dX5_permit_185 : decode cX5_permit 185 = .ok (.aload_n 0, 1) := by decide +kernel
theorem dX5_permit_186 : decode cX5_permit 186 = .ok (.getfield 73, 3) := by decide +kernel
theorem dX5_permit_189 : decode cX5_permit 189 = .ok (.iconst 1, 1) := by decide +kernel
theorem dX5_permit_190 : decode cX5_permit 190 = .ok (.isub, 1) := by decide +kernel
theorem dX5_permit_191 : decode cX5_permit 191 = .ok (.ireturn, 1) := by decide +kernel
set_option maxRecDepth 20000 in
theorem ggX5_handBack_X5_in : GoodIn wsX5_handBack wsX5_in := goodIn_r _ [7] (by decide +kernel) (by decide +kernel)
set_option maxRecDepth 20000 in
theorem gX5_handBack_X5_in : GoodIn wsX5_handBack (va_wsS RX5 42 yX5_in wsX5_in) := goodIn_app (goodIn_of _ (by decide +kernel)) ggX5_handBack_X5_in
theorem dX5_handBack_0 : decode cX5_handBack 0 = .ok (.aload_n 0, 1) := by decide +kernel
theorem dX5_handBack_1 : decode cX5_handBack 1 = .ok (.iload_n 1, 1) := by decide +kernel
theorem dX5_handBack_2 : decode cX5_handBack 2 = .ok (.iconst 0, 1) := by decide +kernel
theorem dX5_handBack_3 : decode cX5_handBack 3 = .ok (.aload_n 0, 1) := by decide +kernel
theorem dX5_handBack_4 : decode cX5_handBack 4 = .ok (.getfield 73, 3) := by decide +kernel
theorem dX5_handBack_7 : decode cX5_handBack 7 = .ok (.iconst 1, 1) := by decide +kernel
theorem dX5_handBack_8 : decode cX5_handBack 8 = .ok (.isub, 1) := by decide +kernel
theorem dX5_handBack_9 : decode cX5_handBack 9 = .ok (.invokestatic 42, 3) := by decide +kernel
theorem dX5_handBack_12 : decode cX5_handBack 12 = .ok (.ifCond .ne 7, 3) := by decide +kernel
theorem dX5_handBack_15 : decode cX5_handBack 15 = .ok (.iconst 1, 1) := by decide +kernel
theorem dX5_handBack_16 : decode cX5_handBack 16 = .ok (.goto 17, 3) := by decide +kernel
theorem dX5_handBack_19 : decode cX5_handBack 19 = .ok (.aload_n 0, 1) := by decide +kernel
theorem dX5_handBack_20 : decode cX5_handBack 20 = .ok (.getfield 29, 3) := by decide +kernel
theorem dX5_handBack_23 : decode cX5_handBack 23 = .ok (.iload_n 1, 1) := by decide +kernel
theorem dX5_handBack_24 : decode cX5_handBack 24 = .ok (.baload, 1) := by decide +kernel
theorem dX5_handBack_25 : decode cX5_handBack 25 = .ok (.ifCond .eq 7, 3) := by decide +kernel
theorem dX5_handBack_28 : decode cX5_handBack 28 = .ok (.iconst 0, 1) := by decide +kernel
theorem dX5_handBack_29 : decode cX5_handBack 29 = .ok (.goto 4, 3) := by decide +kernel
theorem dX5_handBack_32 : decode cX5_handBack 32 = .ok (.iconst 2, 1) := by decide +kernel
theorem dX5_handBack_33 : decode cX5_handBack 33 = .ok (.putfield 35, 3) := by decide +kernel
theorem dX5_handBack_36 : decode cX5_handBack 36 = .ok (.aload_n 0, 1) := by decide +kernel
theorem dX5_handBack_37 : decode cX5_handBack 37 = .ok (.getfield 35, 3) := by decide +kernel
theorem dX5_handBack_40 : decode cX5_handBack 40 = .ok (.ifCond .le 5, 3) := by decide +kernel
theorem dX5_handBack_43 : decode cX5_handBack 43 = .ok (.iconst 0, 1) := by decide +kernel
theorem dX5_handBack_44 : decode cX5_handBack 44 = .ok (.ireturn, 1) := by decide +kernel
theorem dX5_handBack_45 : decode cX5_handBack 45 = .ok (.aload_n 0, 1) := by decide +kernel
theorem dX5_handBack_46 : decode cX5_handBack 46 = .ok (.getfield 29, 3) := by decide +kernel
theorem dX5_handBack_49 : decode cX5_handBack 49 = .ok (.iload_n 1, 1) := by decide +kernel
theorem dX5_handBack_50 : decode cX5_handBack 50 = .ok (.iconst 0, 1) := by decide +kernel
theorem dX5_handBack_51 : decode cX5_handBack 51 = .ok (.bastore, 1) := by decide +kernel
theorem dX5_handBack_52 : decode cX5_handBack 52 = .ok (.iconst 0, 1) := by decide +kernel
theorem dX5_handBack_53 : decode cX5_handBack 53 = .ok (.istore_n 2, 1) := by decide +kernel
theorem dX5_handBack_54 : decode cX5_handBack 54 = .ok (.iconst 0, 1) := by decide +kernel
theorem dX5_handBack_55 : decode cX5_handBack 55 = .ok (.istore_n 3, 1) := by decide +kernel
theorem dX5_handBack_56 : decode cX5_handBack 56 = .ok (.iload_n 3, 1) := by decide +kernel
theorem dX5_handBack_57 : decode cX5_handBack 57 = .ok (.aload_n 0, 1) := by decide +kernel
theorem dX5_handBack_58 : decode cX5_handBack 58 = .ok (.getfield 73, 3) := by decide +kernel
theorem dX5_handBack_61 : decode cX5_handBack 61 = .ok (.if_icmp .ge 26, 3) := by decide +kernel
theorem dX5_handBack_64 : decode cX5_handBack 64 = .ok (.iload_n 2, 1) := by decide +kernel
theorem dX5_handBack_65 : decode cX5_handBack 65 = .ok (.aload_n 0, 1) := by decide +kernel
theorem dX5_handBack_66 : decode cX5_handBack 66 = .ok (.getfield 29, 3) := by decide +kernel
theorem dX5_handBack_69 : decode cX5_handBack 69 = .ok (.iload_n 3, 1) := by decide +kernel
theorem dX5_handBack_70 : decode cX5_handBack 70 = .ok (.baload, 1) := by decide +kernel
theorem dX5_handBack_71 : decode cX5_handBack 71 = .ok (.ifCond .eq 7, 3) := by decide +kernel
theorem dX5_handBack_74 : decode cX5_handBack 74 = .ok (.iconst 1, 1) := by decide +kernel
theorem dX5_handBack_75 : decode cX5_handBack 75 = .ok (.goto 4, 3) := by decide +kernel
theorem dX5_handBack_78 : decode cX5_handBack 78 = .ok (.iconst 0, 1) := by decide +kernel
theorem dX5_handBack_79 : decode cX5_handBack 79 = .ok (.iadd, 1) := by decide +kernel
theorem dX5_handBack_80 : decode cX5_handBack 80 = .ok (.istore_n 2, 1) := by decide +kernel
theorem dX5_handBack_81 : decode cX5_handBack 81 = .ok (.iinc 3 1, 3) := by decide +kernel
theorem dX5_handBack_84 : decode cX5_handBack 84 = .ok (.goto (-28), 3) := by decide +kernel
theorem dX5_handBack_87 : decode cX5_handBack 87 = .ok (.iload_n 2, 1) := by decide +kernel
theorem dX5_handBack_88 : decode cX5_handBack 88 = .ok (.ireturn, 1) := by decide +kernel
set_option maxRecDepth 20000 in
theorem ggX5_held_X5_heldNow : GoodIn wsX5_held wsX5_heldNow := goodIn_r _ [6, 7, 8, 9, 10, 11, 12, 13, 14, 15, 16, 17, 18, 19, 20, 21, 22, 23, 24, 25, 26, 27, 28] (by decide +kernel) (by decide +kernel)
set_option maxRecDepth 20000 in
theorem gX5_held_X5_heldNow : GoodIn wsX5_held (wsV RX5 94 RX5 yX5_heldNow wsX5_heldNow) := goodIn_app (goodIn_of _ (by decide +kernel)) ggX5_held_X5_heldNow
theorem dX5_held_0 : decode cX5_held 0 = .ok (.aload_n 0, 1) := by decide +kernel
theorem dX5_held_1 : decode cX5_held 1 = .ok (.iconst 0, 1) := by decide +kernel
theorem dX5_held_2 : decode cX5_held 2 = .ok (.putfield 35, 3) := by decide +kernel
theorem dX5_held_5 : decode cX5_held 5 = .ok (.aload_n 0, 1) := by decide +kernel
theorem dX5_held_6 : decode cX5_held 6 = .ok (.invokevirtual 94, 3) := by decide +kernel
theorem dX5_held_9 : decode cX5_held 9 = .ok (.ireturn, 1) := by decide +kernel
set_option maxRecDepth 20000 in
theorem ggX5_isClosed_X5_isSwitch : GoodIn wsX5_isClosed wsX5_isSwitch := goodIn_r _ [7, 8, 9, 10, 6, 11, 15, 16, 17, 18, 19, 20, 21, 22, 23, 24, 25, 26, 27, 28, 29, 30, 31, 32, 33] (by decide +kernel) (by decide +kernel)
set_option maxRecDepth 20000 in
theorem gX5_isClosed_X5_isSwitch : GoodIn wsX5_isClosed (wsV RX5 118 RX5 yX5_isSwitch wsX5_isSwitch) := goodIn_app (goodIn_of _ (by decide +kernel)) ggX5_isClosed_X5_isSwitch
set_option maxRecDepth 20000 in
theorem ggX5_isClosed_X5_has : GoodIn wsX5_isClosed wsX5_has := goodIn_r _ [14] (by decide +kernel) (by decide +kernel)
set_option maxRecDepth 20000 in
theorem gX5_isClosed_X5_has : GoodIn wsX5_isClosed (va_wsS RX5 59 yX5_has wsX5_has) := goodIn_app (goodIn_of _ (by decide +kernel)) ggX5_isClosed_X5_has
theorem dX5_isClosed_0 : decode cX5_isClosed 0 = .ok (.aload_n 0, 1) := by decide +kernel
theorem dX5_isClosed_1 : decode cX5_isClosed 1 = .ok (.aload_n 0, 1) := by decide +kernel
theorem dX5_isClosed_2 : decode cX5_isClosed 2 = .ok (.iload_n 1, 1) := by decide +kernel
theorem dX5_isClosed_3 : decode cX5_isClosed 3 = .ok (.invokevirtual 118, 3) := by decide +kernel
theorem dX5_isClosed_6 : decode cX5_isClosed 6 = .ok (.ifCond .eq 7, 3) := by decide +kernel
theorem dX5_isClosed_9 : decode cX5_isClosed 9 = .ok (.iconst 0, 1) := by decide +kernel
theorem dX5_isClosed_10 : decode cX5_isClosed 10 = .ok (.goto 4, 3) := by decide +kernel
theorem dX5_isClosed_13 : decode cX5_isClosed 13 = .ok (.iconst 1, 1) := by decide +kernel
theorem dX5_isClosed_14 : decode cX5_isClosed 14 = .ok (.putfield 35, 3) := by decide +kernel
theorem dX5_isClosed_17 : decode cX5_isClosed 17 = .ok (.aload_n 0, 1) := by decide +kernel
theorem dX5_isClosed_18 : decode cX5_isClosed 18 = .ok (.getfield 35, 3) := by decide +kernel
theorem dX5_isClosed_21 : decode cX5_isClosed 21 = .ok (.ifCond .ne 18, 3) := by decide +kernel
theorem dX5_isClosed_24 : decode cX5_isClosed 24 = .ok (.aload_n 0, 1) := by decide +kernel
theorem dX5_isClosed_25 : decode cX5_isClosed 25 = .ok (.getfield 76, 3) := by decide +kernel
theorem dX5_isClosed_28 : decode cX5_isClosed 28 = .ok (.iload_n 1, 1) := by decide +kernel
theorem dX5_isClosed_29 : decode cX5_isClosed 29 = .ok (.invokestatic 59, 3) := by decide +kernel
theorem dX5_isClosed_32 : decode cX5_isClosed 32 = .ok (.ifCond .eq 7, 3) := by decide +kernel
theorem dX5_isClosed_35 : decode cX5_isClosed 35 = .ok (.iconst 1, 1) := by decide +kernel
theorem dX5_isClosed_36 : decode cX5_isClosed 36 = .ok (.goto 4, 3) := by decide +kernel
theorem dX5_isClosed_39 : decode cX5_isClosed 39 = .ok (.iconst 0, 1) := by decide +kernel
theorem dX5_isClosed_40 : decode cX5_isClosed 40 = .ok (.ireturn, 1) := by decide +kernel
set_option maxRecDepth 20000 in
theorem ggX5_live_X5_isLive : GoodIn wsX5_live wsX5_isLive := goodIn_r _ [9, 10, 11, 12, 8, 13, 14, 15, 16, 17, 18, 19, 20, 21, 22, 23, 24, 25, 26, 27, 28, 29, 30, 31, 32, 33, 34, 35, 36, 37, 38] (by decide +kernel) (by decide +kernel)
set_option maxRecDepth 20000 in
theorem gX5_live_X5_isLive : GoodIn wsX5_live (wsV RX5 70 RX5 yX5_isLive wsX5_isLive) := goodIn_app (goodIn_of _ (by decide +kernel)) ggX5_live_X5_isLive
theorem dX5_live_0 : decode cX5_live 0 = .ok (.aload_n 0, 1) := by decide +kernel
theorem dX5_live_1 : decode cX5_live 1 = .ok (.iconst 0, 1) := by decide +kernel
theorem dX5_live_2 : decode cX5_live 2 = .ok (.putfield 35, 3) := by decide +kernel
theorem dX5_live_5 : decode cX5_live 5 = .ok (.iconst 0, 1) := by decide +kernel
theorem dX5_live_6 : decode cX5_live 6 = .ok (.istore_n 1, 1) := by decide +kernel
theorem dX5_live_7 : decode cX5_live 7 = .ok (.iconst 0, 1) := by decide +kernel
theorem dX5_live_8 : decode cX5_live 8 = .ok (.istore_n 2, 1) := by decide +kernel
theorem dX5_live_9 : decode cX5_live 9 = .ok (.iload_n 2, 1) := by decide +kernel
theorem dX5_live_10 : decode cX5_live 10 = .ok (.aload_n 0, 1) := by decide +kernel
theorem dX5_live_11 : decode cX5_live 11 = .ok (.getfield 39, 3) := by decide +kernel
theorem dX5_live_14 : decode cX5_live 14 = .ok (.if_icmp .ge 35, 3) := by decide +kernel
theorem dX5_live_17 : decode cX5_live 17 = .ok (.iload_n 1, 1) := by decide +kernel
theorem dX5_live_18 : decode cX5_live 18 = .ok (.aload_n 0, 1) := by decide +kernel
theorem dX5_live_19 : decode cX5_live 19 = .ok (.iload_n 2, 1) := by decide +kernel
theorem dX5_live_20 : decode cX5_live 20 = .ok (.aload_n 0, 1) := by decide +kernel
theorem dX5_live_21 : decode cX5_live 21 = .ok (.getfield 76, 3) := by decide +kernel
theorem dX5_live_24 : decode cX5_live 24 = .ok (.aload_n 0, 1) := by decide +kernel
theorem dX5_live_25 : decode cX5_live 25 = .ok (.getfield 67, 3) := by decide +kernel
theorem dX5_live_28 : decode cX5_live 28 = .ok (.invokevirtual 70, 3) := by decide +kernel
theorem dX5_live_31 : decode cX5_live 31 = .ok (.ifCond .eq 9, 3) := by decide +kernel
theorem dX5_live_34 : decode cX5_live 34 = .ok (.iconst 1, 1) := by decide +kernel
theorem dX5_live_35 : decode cX5_live 35 = .ok (.iload_n 2, 1) := by decide +kernel
theorem dX5_live_36 : decode cX5_live 36 = .ok (.ishl, 1) := by decide +kernel
theorem dX5_live_37 : decode cX5_live 37 = .ok (.goto 4, 3) := by decide +kernel
theorem dX5_live_40 : decode cX5_live 40 = .ok (.iconst 0, 1) := by decide +kernel
theorem dX5_live_41 : decode cX5_live 41 = .ok (.ior, 1) := by decide +kernel
theorem dX5_live_42 : decode cX5_live 42 = .ok (.istore_n 1, 1) := by decide +kernel
theorem dX5_live_43 : decode cX5_live 43 = .ok (.iinc 2 1, 3) := by decide +kernel
theorem dX5_live_46 : decode cX5_live 46 = .ok (.goto (-37), 3) := by decide +kernel
theorem dX5_live_49 : decode cX5_live 49 = .ok (.iload_n 1, 1) := by decide +kernel
theorem dX5_live_50 : decode cX5_live 50 = .ok (.ireturn, 1) := by decide +kernel
set_option maxRecDepth 20000 in
theorem ggX5_loaded_X5_isLoaded : GoodIn wsX5_loaded wsX5_isLoaded := goodIn_r _ [8, 9, 10, 11, 12, 13, 7, 14, 15, 16, 17, 18, 19, 20, 21, 22, 23, 24, 25, 26, 27, 28, 29, 30, 31, 32, 33, 34, 35, 36, 37, 38, 39, 40, 41, 42, 43] (by decide +kernel) (by decide +kernel)
set_option maxRecDepth 20000 in
theorem gX5_loaded_X5_isLoaded : GoodIn wsX5_loaded (wsV RX5 82 RX5 yX5_isLoaded wsX5_isLoaded) := goodIn_app (goodIn_of _ (by decide +kernel)) ggX5_loaded_X5_isLoaded
theorem dX5_loaded_0 : decode cX5_loaded 0 = .ok (.aload_n 0, 1) := by decide +kernel
theorem dX5_loaded_1 : decode cX5_loaded 1 = .ok (.iconst 0, 1) := by decide +kernel
theorem dX5_loaded_2 : decode cX5_loaded 2 = .ok (.putfield 35, 3) := by decide +kernel
theorem dX5_loaded_5 : decode cX5_loaded 5 = .ok (.iconst 0, 1) := by decide +kernel
theorem dX5_loaded_6 : decode cX5_loaded 6 = .ok (.istore_n 1, 1) := by decide +kernel
theorem dX5_loaded_7 : decode cX5_loaded 7 = .ok (.iconst 0, 1) := by decide +kernel
theorem dX5_loaded_8 : decode cX5_loaded 8 = .ok (.istore_n 2, 1) := by decide +kernel
theorem dX5_loaded_9 : decode cX5_loaded 9 = .ok (.iload_n 2, 1) := by decide +kernel
theorem dX5_loaded_10 : decode cX5_loaded 10 = .ok (.aload_n 0, 1) := by decide +kernel
theorem dX5_loaded_11 : decode cX5_loaded 11 = .ok (.getfield 39, 3) := by decide +kernel
theorem dX5_loaded_14 : decode cX5_loaded 14 = .ok (.if_icmp .ge 31, 3) := by decide +kernel
theorem dX5_loaded_17 : decode cX5_loaded 17 = .ok (.iload_n 1, 1) := by decide +kernel
theorem dX5_loaded_18 : decode cX5_loaded 18 = .ok (.aload_n 0, 1) := by decide +kernel
theorem dX5_loaded_19 : decode cX5_loaded 19 = .ok (.iload_n 2, 1) := by decide +kernel
theorem dX5_loaded_20 : decode cX5_loaded 20 = .ok (.aload_n 0, 1) := by decide +kernel
theorem dX5_loaded_21 : decode cX5_loaded 21 = .ok (.getfield 76, 3) := by decide +kernel
theorem dX5_loaded_24 : decode cX5_loaded 24 = .ok (.invokevirtual 82, 3) := by decide +kernel
theorem dX5_loaded_27 : decode cX5_loaded 27 = .ok (.ifCond .eq 9, 3) := by decide +kernel
theorem dX5_loaded_30 : decode cX5_loaded 30 = .ok (.iconst 1, 1) := by decide +kernel
theorem dX5_loaded_31 : decode cX5_loaded 31 = .ok (.iload_n 2, 1) := by decide +kernel
theorem dX5_loaded_32 : decode cX5_loaded 32 = .ok (.ishl, 1) := by decide +kernel
theorem dX5_loaded_33 : decode cX5_loaded 33 = .ok (.goto 4, 3) := by decide +kernel
theorem dX5_loaded_36 : decode cX5_loaded 36 = .ok (.iconst 0, 1) := by decide +kernel
theorem dX5_loaded_37 : decode cX5_loaded 37 = .ok (.ior, 1) := by decide +kernel
theorem dX5_loaded_38 : decode cX5_loaded 38 = .ok (.istore_n 1, 1) := by decide +kernel
theorem dX5_loaded_39 : decode cX5_loaded 39 = .ok (.iinc 2 1, 3) := by decide +kernel
theorem dX5_loaded_42 : decode cX5_loaded 42 = .ok (.goto (-33), 3) := by decide +kernel
theorem dX5_loaded_45 : decode cX5_loaded 45 = .ok (.iload_n 1, 1) := by decide +kernel
theorem dX5_loaded_46 : decode cX5_loaded 46 = .ok (.ireturn, 1) := by decide +kernel
set_option maxRecDepth 20000 in
theorem ggX5_earthed_X5_isEarthed : GoodIn wsX5_earthed wsX5_isEarthed := goodIn_r _ [9, 10, 11, 12, 8, 13, 14, 15, 16, 17, 18, 19, 20, 21, 22, 23, 24, 25, 26, 27, 28, 29, 30, 31, 32, 33, 34, 35, 36, 37, 38] (by decide +kernel) (by decide +kernel)
set_option maxRecDepth 20000 in
theorem gX5_earthed_X5_isEarthed : GoodIn wsX5_earthed (wsV RX5 85 RX5 yX5_isEarthed wsX5_isEarthed) := goodIn_app (goodIn_of _ (by decide +kernel)) ggX5_earthed_X5_isEarthed
theorem dX5_earthed_0 : decode cX5_earthed 0 = .ok (.aload_n 0, 1) := by decide +kernel
theorem dX5_earthed_1 : decode cX5_earthed 1 = .ok (.iconst 0, 1) := by decide +kernel
theorem dX5_earthed_2 : decode cX5_earthed 2 = .ok (.putfield 35, 3) := by decide +kernel
theorem dX5_earthed_5 : decode cX5_earthed 5 = .ok (.iconst 0, 1) := by decide +kernel
theorem dX5_earthed_6 : decode cX5_earthed 6 = .ok (.istore_n 1, 1) := by decide +kernel
theorem dX5_earthed_7 : decode cX5_earthed 7 = .ok (.iconst 0, 1) := by decide +kernel
theorem dX5_earthed_8 : decode cX5_earthed 8 = .ok (.istore_n 2, 1) := by decide +kernel
theorem dX5_earthed_9 : decode cX5_earthed 9 = .ok (.iload_n 2, 1) := by decide +kernel
theorem dX5_earthed_10 : decode cX5_earthed 10 = .ok (.aload_n 0, 1) := by decide +kernel
theorem dX5_earthed_11 : decode cX5_earthed 11 = .ok (.getfield 39, 3) := by decide +kernel
theorem dX5_earthed_14 : decode cX5_earthed 14 = .ok (.if_icmp .ge 35, 3) := by decide +kernel
theorem dX5_earthed_17 : decode cX5_earthed 17 = .ok (.iload_n 1, 1) := by decide +kernel
theorem dX5_earthed_18 : decode cX5_earthed 18 = .ok (.aload_n 0, 1) := by decide +kernel
theorem dX5_earthed_19 : decode cX5_earthed 19 = .ok (.iload_n 2, 1) := by decide +kernel
theorem dX5_earthed_20 : decode cX5_earthed 20 = .ok (.aload_n 0, 1) := by decide +kernel
theorem dX5_earthed_21 : decode cX5_earthed 21 = .ok (.getfield 76, 3) := by decide +kernel
theorem dX5_earthed_24 : decode cX5_earthed 24 = .ok (.aload_n 0, 1) := by decide +kernel
theorem dX5_earthed_25 : decode cX5_earthed 25 = .ok (.getfield 79, 3) := by decide +kernel
theorem dX5_earthed_28 : decode cX5_earthed 28 = .ok (.invokevirtual 85, 3) := by decide +kernel
theorem dX5_earthed_31 : decode cX5_earthed 31 = .ok (.ifCond .eq 9, 3) := by decide +kernel
theorem dX5_earthed_34 : decode cX5_earthed 34 = .ok (.iconst 1, 1) := by decide +kernel
theorem dX5_earthed_35 : decode cX5_earthed 35 = .ok (.iload_n 2, 1) := by decide +kernel
theorem dX5_earthed_36 : decode cX5_earthed 36 = .ok (.ishl, 1) := by decide +kernel
theorem dX5_earthed_37 : decode cX5_earthed 37 = .ok (.goto 4, 3) := by decide +kernel
theorem dX5_earthed_40 : decode cX5_earthed 40 = .ok (.iconst 0, 1) := by decide +kernel
theorem dX5_earthed_41 : decode cX5_earthed 41 = .ok (.ior, 1) := by decide +kernel
theorem dX5_earthed_42 : decode cX5_earthed 42 = .ok (.istore_n 1, 1) := by decide +kernel
theorem dX5_earthed_43 : decode cX5_earthed 43 = .ok (.iinc 2 1, 3) := by decide +kernel
theorem dX5_earthed_46 : decode cX5_earthed 46 = .ok (.goto (-37), 3) := by decide +kernel
theorem dX5_earthed_49 : decode cX5_earthed 49 = .ok (.iload_n 1, 1) := by decide +kernel
theorem dX5_earthed_50 : decode cX5_earthed 50 = .ok (.ireturn, 1) := by decide +kernel
set_option maxRecDepth 20000 in
theorem ggX5_part_X5_isNode : GoodIn wsX5_part wsX5_isNode := goodIn_r _ [7, 8, 9, 10, 6, 11, 22, 23, 24, 25, 26, 27, 28, 29, 30, 31, 32, 33, 34, 35, 36, 37, 38, 39, 40] (by decide +kernel) (by decide +kernel)
set_option maxRecDepth 20000 in
theorem gX5_part_X5_isNode : GoodIn wsX5_part (wsV RX5 55 RX5 yX5_isNode wsX5_isNode) := goodIn_app (goodIn_of _ (by decide +kernel)) ggX5_part_X5_isNode
set_option maxRecDepth 20000 in
theorem ggX5_part_X5_partOf : GoodIn wsX5_part wsX5_partOf := goodIn_r _ [15, 16, 17, 18, 19, 20, 6, 21, 22, 23, 24, 25, 26, 27, 28, 29, 30, 31, 32, 33, 34, 35, 36, 37, 38, 39, 40] (by decide +kernel) (by decide +kernel)
set_option maxRecDepth 20000 in
theorem gX5_part_X5_partOf : GoodIn wsX5_part (wsV RX5 63 RX5 yX5_partOf wsX5_partOf) := goodIn_app (goodIn_of _ (by decide +kernel)) ggX5_part_X5_partOf
theorem dX5_part_0 : decode cX5_part 0 = .ok (.aload_n 0, 1) := by decide +kernel
theorem dX5_part_1 : decode cX5_part 1 = .ok (.aload_n 0, 1) := by decide +kernel
theorem dX5_part_2 : decode cX5_part 2 = .ok (.iload_n 1, 1) := by decide +kernel
theorem dX5_part_3 : decode cX5_part 3 = .ok (.invokevirtual 55, 3) := by decide +kernel
theorem dX5_part_6 : decode cX5_part 6 = .ok (.ifCond .eq 7, 3) := by decide +kernel
theorem dX5_part_9 : decode cX5_part 9 = .ok (.iconst 0, 1) := by decide +kernel
theorem dX5_part_10 : decode cX5_part 10 = .ok (.goto 4, 3) := by decide +kernel
theorem dX5_part_13 : decode cX5_part 13 = .ok (.iconst 1, 1) := by decide +kernel
theorem dX5_part_14 : decode cX5_part 14 = .ok (.putfield 35, 3) := by decide +kernel
theorem dX5_part_17 : decode cX5_part 17 = .ok (.aload_n 0, 1) := by decide +kernel
theorem dX5_part_18 : decode cX5_part 18 = .ok (.getfield 35, 3) := by decide +kernel
theorem dX5_part_21 : decode cX5_part 21 = .ok (.ifCond .le 7, 3) := by decide +kernel
theorem dX5_part_24 : decode cX5_part 24 = .ok (.iconst 0, 1) := by decide +kernel
theorem dX5_part_25 : decode cX5_part 25 = .ok (.goto 12, 3) := by decide +kernel
theorem dX5_part_28 : decode cX5_part 28 = .ok (.aload_n 0, 1) := by decide +kernel
theorem dX5_part_29 : decode cX5_part 29 = .ok (.iload_n 1, 1) := by decide +kernel
theorem dX5_part_30 : decode cX5_part 30 = .ok (.aload_n 0, 1) := by decide +kernel
theorem dX5_part_31 : decode cX5_part 31 = .ok (.getfield 76, 3) := by decide +kernel
theorem dX5_part_34 : decode cX5_part 34 = .ok (.invokevirtual 63, 3) := by decide +kernel
theorem dX5_part_37 : decode cX5_part 37 = .ok (.ireturn, 1) := by decide +kernel
set_option maxRecDepth 20000 in
theorem ggX5_parts_X5_has : GoodIn wsX5_parts wsX5_has := goodIn_r _ [7] (by decide +kernel) (by decide +kernel)
set_option maxRecDepth 20000 in
theorem gX5_parts_X5_has : GoodIn wsX5_parts (va_wsS RX5 59 yX5_has wsX5_has) := goodIn_app (goodIn_of _ (by decide +kernel)) ggX5_parts_X5_has
set_option maxRecDepth 20000 in
theorem ggX5_parts_X5_partOf : GoodIn wsX5_parts wsX5_partOf := goodIn_r _ [11, 12, 13, 14, 4, 5, 6, 7, 15, 16, 17, 18, 19, 20, 21, 22, 23, 24, 25, 26, 27, 28, 29, 30, 31, 32, 33] (by decide +kernel) (by decide +kernel)
set_option maxRecDepth 20000 in
theorem gX5_parts_X5_partOf : GoodIn wsX5_parts (wsV RX5 63 RX5 yX5_partOf wsX5_partOf) := goodIn_app (goodIn_of _ (by decide +kernel)) ggX5_parts_X5_partOf
theorem dX5_parts_0 : decode cX5_parts 0 = .ok (.aload_n 0, 1) := by decide +kernel
theorem dX5_parts_1 : decode cX5_parts 1 = .ok (.iconst 0, 1) := by decide +kernel
theorem dX5_parts_2 : decode cX5_parts 2 = .ok (.putfield 35, 3) := by decide +kernel
theorem dX5_parts_5 : decode cX5_parts 5 = .ok (.iconst 0, 1) := by decide +kernel
theorem dX5_parts_6 : decode cX5_parts 6 = .ok (.istore_n 1, 1) := by decide +kernel
theorem dX5_parts_7 : decode cX5_parts 7 = .ok (.iconst 0, 1) := by decide +kernel
theorem dX5_parts_8 : decode cX5_parts 8 = .ok (.istore_n 2, 1) := by decide +kernel
theorem dX5_parts_9 : decode cX5_parts 9 = .ok (.iconst 0, 1) := by decide +kernel
theorem dX5_parts_10 : decode cX5_parts 10 = .ok (.istore_n 3, 1) := by decide +kernel
theorem dX5_parts_11 : decode cX5_parts 11 = .ok (.iload_n 3, 1) := by decide +kernel
theorem dX5_parts_12 : decode cX5_parts 12 = .ok (.aload_n 0, 1) := by decide +kernel
theorem dX5_parts_13 : decode cX5_parts 13 = .ok (.getfield 39, 3) := by decide +kernel
theorem dX5_parts_16 : decode cX5_parts 16 = .ok (.if_icmp .ge 37, 3) := by decide +kernel
theorem dX5_parts_19 : decode cX5_parts 19 = .ok (.iload_n 1, 1) := by decide +kernel
theorem dX5_parts_20 : decode cX5_parts 20 = .ok (.iload_n 2, 1) := by decide +kernel
theorem dX5_parts_21 : decode cX5_parts 21 = .ok (.iload_n 3, 1) := by decide +kernel
theorem dX5_parts_22 : decode cX5_parts 22 = .ok (.invokestatic 59, 3) := by decide +kernel
theorem dX5_parts_25 : decode cX5_parts 25 = .ok (.ifCond .eq 7, 3) := by decide +kernel
theorem dX5_parts_28 : decode cX5_parts 28 = .ok (.iconst 0, 1) := by decide +kernel
theorem dX5_parts_29 : decode cX5_parts 29 = .ok (.goto 4, 3) := by decide +kernel
theorem dX5_parts_32 : decode cX5_parts 32 = .ok (.iconst 1, 1) := by decide +kernel
theorem dX5_parts_33 : decode cX5_parts 33 = .ok (.iadd, 1) := by decide +kernel
theorem dX5_parts_34 : decode cX5_parts 34 = .ok (.istore_n 1, 1) := by decide +kernel
theorem dX5_parts_35 : decode cX5_parts 35 = .ok (.iload_n 2, 1) := by decide +kernel
theorem dX5_parts_36 : decode cX5_parts 36 = .ok (.aload_n 0, 1) := by decide +kernel
theorem dX5_parts_37 : decode cX5_parts 37 = .ok (.iload_n 3, 1) := by decide +kernel
theorem dX5_parts_38 : decode cX5_parts 38 = .ok (.aload_n 0, 1) := by decide +kernel
theorem dX5_parts_39 : decode cX5_parts 39 = .ok (.getfield 76, 3) := by decide +kernel
theorem dX5_parts_42 : decode cX5_parts 42 = .ok (.invokevirtual 63, 3) := by decide +kernel
theorem dX5_parts_45 : decode cX5_parts 45 = .ok (.ior, 1) := by decide +kernel
theorem dX5_parts_46 : decode cX5_parts 46 = .ok (.istore_n 2, 1) := by decide +kernel
theorem dX5_parts_47 : decode cX5_parts 47 = .ok (.iinc 3 1, 3) := by decide +kernel
theorem dX5_parts_50 : decode cX5_parts 50 = .ok (.goto (-39), 3) := by decide +kernel
theorem dX5_parts_53 : decode cX5_parts 53 = .ok (.iload_n 1, 1) := by decide +kernel
theorem dX5_parts_54 : decode cX5_parts 54 = .ok (.ireturn, 1) := by decide +kernel
set_option maxRecDepth 20000 in
theorem ggX5_laysFar_X5_has : GoodIn wsX5_laysFar wsX5_has := goodIn_r _ [10] (by decide +kernel) (by decide +kernel)
set_option maxRecDepth 20000 in
theorem gX5_laysFar_X5_has : GoodIn wsX5_laysFar (va_wsS RX5 59 yX5_has wsX5_has) := goodIn_app (goodIn_of _ (by decide +kernel)) ggX5_laysFar_X5_has
theorem dX5_laysFar_0 : decode cX5_laysFar 0 = .ok (.iconst 0, 1) := by decide +kernel
theorem dX5_laysFar_1 : decode cX5_laysFar 1 = .ok (.istore_n 2, 1) := by decide +kernel
theorem dX5_laysFar_2 : decode cX5_laysFar 2 = .ok (.iload_n 2, 1) := by decide +kernel
theorem dX5_laysFar_3 : decode cX5_laysFar 3 = .ok (.aload_n 0, 1) := by decide +kernel
theorem dX5_laysFar_4 : decode cX5_laysFar 4 = .ok (.getfield 39, 3) := by decide +kernel
theorem dX5_laysFar_7 : decode cX5_laysFar 7 = .ok (.if_icmp .ge 27, 3) := by decide +kernel
theorem dX5_laysFar_10 : decode cX5_laysFar 10 = .ok (.aload_n 0, 1) := by decide +kernel
theorem dX5_laysFar_11 : decode cX5_laysFar 11 = .ok (.getfield 32, 3) := by decide +kernel
theorem dX5_laysFar_14 : decode cX5_laysFar 14 = .ok (.iload_n 2, 1) := by decide +kernel
theorem dX5_laysFar_15 : decode cX5_laysFar 15 = .ok (.iload_n 2, 1) := by decide +kernel
theorem dX5_laysFar_16 : decode cX5_laysFar 16 = .ok (.iload_n 1, 1) := by decide +kernel
theorem dX5_laysFar_17 : decode cX5_laysFar 17 = .ok (.if_icmp .ne 7, 3) := by decide +kernel
theorem dX5_laysFar_20 : decode cX5_laysFar 20 = .ok (.iconst 0, 1) := by decide +kernel
theorem dX5_laysFar_21 : decode cX5_laysFar 21 = .ok (.goto 6, 3) := by decide +kernel
theorem dX5_laysFar_24 : decode cX5_laysFar 24 = .ok (.sipush 1000, 3) := by decide +kernel
theorem dX5_laysFar_27 : decode cX5_laysFar 27 = .ok (.iastore, 1) := by decide +kernel
theorem dX5_laysFar_28 : decode cX5_laysFar 28 = .ok (.iinc 2 1, 3) := by decide +kernel
theorem dX5_laysFar_31 : decode cX5_laysFar 31 = .ok (.goto (-29), 3) := by decide +kernel
theorem dX5_laysFar_34 : decode cX5_laysFar 34 = .ok (.iconst 0, 1) := by decide +kernel
theorem dX5_laysFar_35 : decode cX5_laysFar 35 = .ok (.istore_n 2, 1) := by decide +kernel
theorem dX5_laysFar_36 : decode cX5_laysFar 36 = .ok (.iload_n 2, 1) := by decide +kernel
theorem dX5_laysFar_37 : decode cX5_laysFar 37 = .ok (.aload_n 0, 1) := by decide +kernel
theorem dX5_laysFar_38 : decode cX5_laysFar 38 = .ok (.getfield 39, 3) := by decide +kernel
theorem dX5_laysFar_41 : decode cX5_laysFar 41 = .ok (.if_icmp .ge 161, 3) := by decide +kernel
theorem dX5_laysFar_44 : decode cX5_laysFar 44 = .ok (.iconst 0, 1) := by decide +kernel
theorem dX5_laysFar_45 : decode cX5_laysFar 45 = .ok (.istore_n 3, 1) := by decide +kernel
theorem dX5_laysFar_46 : decode cX5_laysFar 46 = .ok (.iload_n 3, 1) := by decide +kernel
theorem dX5_laysFar_47 : decode cX5_laysFar 47 = .ok (.aload_n 0, 1) := by decide +kernel
theorem dX5_laysFar_48 : decode cX5_laysFar 48 = .ok (.getfield 46, 3) := by decide +kernel
theorem dX5_laysFar_51 : decode cX5_laysFar 51 = .ok (.if_icmp .ge 145, 3) := by decide +kernel
theorem dX5_laysFar_54 : decode cX5_laysFar 54 = .ok (.aload_n 0, 1) := by decide +kernel
theorem dX5_laysFar_55 : decode cX5_laysFar 55 = .ok (.getfield 76, 3) := by decide +kernel
theorem dX5_laysFar_58 : decode cX5_laysFar 58 = .ok (.iload_n 3, 1) := by decide +kernel
theorem dX5_laysFar_59 : decode cX5_laysFar 59 = .ok (.invokestatic 59, 3) := by decide +kernel
theorem dX5_laysFar_62 : decode cX5_laysFar 62 = .ok (.ifCond .eq 7, 3) := by decide +kernel
theorem dX5_laysFar_65 : decode cX5_laysFar 65 = .ok (.iconst 0, 1) := by decide +kernel
theorem dX5_laysFar_66 : decode cX5_laysFar 66 = .ok (.goto 4, 3) := by decide +kernel
theorem dX5_laysFar_69 : decode cX5_laysFar 69 = .ok (.iconst 1, 1) := by decide +kernel
theorem dX5_laysFar_70 : decode cX5_laysFar 70 = .ok (.istore 4, 2) := by decide +kernel
theorem dX5_laysFar_72 : decode cX5_laysFar 72 = .ok (.aload_n 0, 1) := by decide +kernel
theorem dX5_laysFar_73 : decode cX5_laysFar 73 = .ok (.getfield 32, 3) := by decide +kernel
theorem dX5_laysFar_76 : decode cX5_laysFar 76 = .ok (.aload_n 0, 1) := by decide +kernel
theorem dX5_laysFar_77 : decode cX5_laysFar 77 = .ok (.getfield 7, 3) := by decide +kernel
theorem dX5_laysFar_80 : decode cX5_laysFar 80 = .ok (.iload_n 3, 1) := by decide +kernel
theorem dX5_laysFar_81 : decode cX5_laysFar 81 = .ok (.iaload, 1) := by decide +kernel
theorem dX5_laysFar_82 : decode cX5_laysFar 82 = .ok (.iaload, 1) := by decide +kernel
theorem dX5_laysFar_83 : decode cX5_laysFar 83 = .ok (.iload 4, 2) := by decide +kernel
theorem dX5_laysFar_85 : decode cX5_laysFar 85 = .ok (.iadd, 1) := by decide +kernel
theorem dX5_laysFar_86 : decode cX5_laysFar 86 = .ok (.istore 5, 2) := by decide +kernel
theorem dX5_laysFar_88 : decode cX5_laysFar 88 = .ok (.aload_n 0, 1) := by decide +kernel
theorem dX5_laysFar_89 : decode cX5_laysFar 89 = .ok (.getfield 32, 3) := by decide +kernel
theorem dX5_laysFar_92 : decode cX5_laysFar 92 = .ok (.aload_n 0, 1) := by decide +kernel
theorem dX5_laysFar_93 : decode cX5_laysFar 93 = .ok (.getfield 13, 3) := by decide +kernel
theorem dX5_laysFar_96 : decode cX5_laysFar 96 = .ok (.iload_n 3, 1) := by decide +kernel
theorem dX5_laysFar_97 : decode cX5_laysFar 97 = .ok (.iaload, 1) := by decide +kernel
theorem dX5_laysFar_98 : decode cX5_laysFar 98 = .ok (.iaload, 1) := by decide +kernel
theorem dX5_laysFar_99 : decode cX5_laysFar 99 = .ok (.iload 4, 2) := by decide +kernel
theorem dX5_laysFar_101 : decode cX5_laysFar 101 = .ok (.iadd, 1) := by decide +kernel
theorem dX5_laysFar_102 : decode cX5_laysFar 102 = .ok (.istore 6, 2) := by decide +kernel
theorem dX5_laysFar_104 : decode cX5_laysFar 104 = .ok (.aload_n 0, 1) := by decide +kernel
theorem dX5_laysFar_105 : decode cX5_laysFar 105 = .ok (.getfield 32, 3) := by decide +kernel
theorem dX5_laysFar_108 : decode cX5_laysFar 108 = .ok (.aload_n 0, 1) := by decide +kernel
theorem dX5_laysFar_109 : decode cX5_laysFar 109 = .ok (.getfield 13, 3) := by decide +kernel
theorem dX5_laysFar_112 : decode cX5_laysFar 112 = .ok (.iload_n 3, 1) := by decide +kernel
theorem dX5_laysFar_113 : decode cX5_laysFar 113 = .ok (.iaload, 1) := by decide +kernel
theorem dX5_laysFar_114 : decode cX5_laysFar 114 = .ok (.iload 5, 2) := by decide +kernel
theorem dX5_laysFar_116 : decode cX5_laysFar 116 = .ok (.aload_n 0, 1) := by decide +kernel
theorem dX5_laysFar_117 : decode cX5_laysFar 117 = .ok (.getfield 32, 3) := by decide +kernel
theorem dX5_laysFar_120 : decode cX5_laysFar 120 = .ok (.aload_n 0, 1) := by decide +kernel
theorem dX5_laysFar_121 : decode cX5_laysFar 121 = .ok (.getfield 13, 3) := by decide +kernel
theorem dX5_laysFar_124 : decode cX5_laysFar 124 = .ok (.iload_n 3, 1) := by decide +kernel
theorem dX5_laysFar_125 : decode cX5_laysFar 125 = .ok (.iaload, 1) := by decide +kernel
theorem dX5_laysFar_126 : decode cX5_laysFar 126 = .ok (.iaload, 1) := by decide +kernel
theorem dX5_laysFar_127 : decode cX5_laysFar 127 = .ok (.if_icmp .ge 8, 3) := by decide +kernel
theorem dX5_laysFar_130 : decode cX5_laysFar 130 = .ok (.iload 5, 2) := by decide +kernel
theorem dX5_laysFar_132 : decode cX5_laysFar 132 = .ok (.goto 14, 3) := by decide +kernel
theorem dX5_laysFar_135 : decode cX5_laysFar 135 = .ok (.aload_n 0, 1) := by decide +kernel
theorem dX5_laysFar_136 : decode cX5_laysFar 136 = .ok (.getfield 32, 3) := by decide +kernel
theorem dX5_laysFar_139 : decode cX5_laysFar 139 = .ok (.aload_n 0, 1) := by decide +kernel
theorem dX5_laysFar_140 : decode cX5_laysFar 140 = .ok (.getfield 13, 3) := by decide +kernel
theorem dX5_laysFar_143 : decode cX5_laysFar 143 = .ok (.iload_n 3, 1) := by decide +kernel
theorem dX5_laysFar_144 : decode cX5_laysFar 144 = .ok (.iaload, 1) := by decide +kernel
theorem dX5_laysFar_145 : decode cX5_laysFar 145 = .ok (.iaload, 1) := by decide +kernel
theorem dX5_laysFar_146 : decode cX5_laysFar 146 = .ok (.iastore, 1) := by decide +kernel
theorem dX5_laysFar_147 : decode cX5_laysFar 147 = .ok (.aload_n 0, 1) := by decide +kernel
theorem dX5_laysFar_148 : decode cX5_laysFar 148 = .ok (.getfield 32, 3) := by decide +kernel
theorem dX5_laysFar_151 : decode cX5_laysFar 151 = .ok (.aload_n 0, 1) := by decide +kernel
theorem dX5_laysFar_152 : decode cX5_laysFar 152 = .ok (.getfield 7, 3) := by decide +kernel
theorem dX5_laysFar_155 : decode cX5_laysFar 155 = .ok (.iload_n 3, 1) := by decide +kernel
theorem dX5_laysFar_156 : decode cX5_laysFar 156 = .ok (.iaload, 1) := by decide +kernel
theorem dX5_laysFar_157 : decode cX5_laysFar 157 = .ok (.iload 6, 2) := by decide +kernel
theorem dX5_laysFar_159 : decode cX5_laysFar 159 = .ok (.aload_n 0, 1) := by decide +kernel
theorem dX5_laysFar_160 : decode cX5_laysFar 160 = .ok (.getfield 32, 3) := by decide +kernel
theorem dX5_laysFar_163 : decode cX5_laysFar 163 = .ok (.aload_n 0, 1) := by decide +kernel
theorem dX5_laysFar_164 : decode cX5_laysFar 164 = .ok (.getfield 7, 3) := by decide +kernel
theorem dX5_laysFar_167 : decode cX5_laysFar 167 = .ok (.iload_n 3, 1) := by decide +kernel
theorem dX5_laysFar_168 : decode cX5_laysFar 168 = .ok (.iaload, 1) := by decide +kernel
theorem dX5_laysFar_169 : decode cX5_laysFar 169 = .ok (.iaload, 1) := by decide +kernel
theorem dX5_laysFar_170 : decode cX5_laysFar 170 = .ok (.if_icmp .ge 8, 3) := by decide +kernel
theorem dX5_laysFar_173 : decode cX5_laysFar 173 = .ok (.iload 6, 2) := by decide +kernel
theorem dX5_laysFar_175 : decode cX5_laysFar 175 = .ok (.goto 14, 3) := by decide +kernel
theorem dX5_laysFar_178 : decode cX5_laysFar 178 = .ok (.aload_n 0, 1) := by decide +kernel
theorem dX5_laysFar_179 : decode cX5_laysFar 179 = .ok (.getfield 32, 3) := by decide +kernel
theorem dX5_laysFar_182 : decode cX5_laysFar 182 = .ok (.aload_n 0, 1) := by decide +kernel
theorem dX5_laysFar_183 : decode cX5_laysFar 183 = .ok (.getfield 7, 3) := by decide +kernel
theorem dX5_laysFar_186 : decode cX5_laysFar 186 = .ok (.iload_n 3, 1) := by decide +kernel
theorem dX5_laysFar_187 : decode cX5_laysFar 187 = .ok (.iaload, 1) := by decide +kernel
theorem dX5_laysFar_188 : decode cX5_laysFar 188 = .ok (.iaload, 1) := by decide +kernel
theorem dX5_laysFar_189 : decode cX5_laysFar 189 = .ok (.iastore, 1) := by decide +kernel
theorem dX5_laysFar_190 : decode cX5_laysFar 190 = .ok (.iinc 3 1, 3) := by decide +kernel
theorem dX5_laysFar_193 : decode cX5_laysFar 193 = .ok (.goto (-147), 3) := by decide +kernel
theorem dX5_laysFar_196 : decode cX5_laysFar 196 = .ok (.iinc 2 1, 3) := by decide +kernel
theorem dX5_laysFar_199 : decode cX5_laysFar 199 = .ok (.goto (-163), 3) := by decide +kernel
theorem dX5_laysFar_202 : decode cX5_laysFar 202 = .ok (.return_, 1) := by decide +kernel
set_option maxRecDepth 20000 in
theorem ggX5_toLive_X5_isNode : GoodIn wsX5_toLive wsX5_isNode := goodIn_r _ [9, 2, 10, 11, 8, 12, 24, 25, 26, 27, 28, 29, 30, 31, 32, 33, 34, 35, 36, 37, 38, 39, 40, 41, 42] (by decide +kernel) (by decide +kernel)
set_option maxRecDepth 20000 in
theorem gX5_toLive_X5_isNode : GoodIn wsX5_toLive (wsV RX5 55 RX5 yX5_isNode wsX5_isNode) := goodIn_app (goodIn_of _ (by decide +kernel)) ggX5_toLive_X5_isNode
set_option maxRecDepth 20000 in
theorem ggX5_toLive_X5_laysFar : GoodIn wsX5_toLive wsX5_laysFar := goodIn_r _ [16, 2, 4, 17, 18, 19, 20, 21, 22, 8, 23, 24, 25, 26, 27, 28, 29, 30, 31, 32, 33, 34, 35, 36, 37, 38, 39, 40, 41, 42] (by decide +kernel) (by decide +kernel)
set_option maxRecDepth 20000 in
theorem gX5_toLive_X5_laysFar : GoodIn wsX5_toLive (wsV RX5 140 RX5 yX5_laysFar wsX5_laysFar) := goodIn_app (goodIn_of _ (by decide +kernel)) ggX5_toLive_X5_laysFar
set_option maxRecDepth 20000 in
theorem ggX5_toLive_X5_has : GoodIn wsX5_toLive wsX5_has := goodIn_r _ [23] (by decide +kernel) (by decide +kernel)
set_option maxRecDepth 20000 in
theorem gX5_toLive_X5_has : GoodIn wsX5_toLive (va_wsS RX5 59 yX5_has wsX5_has) := goodIn_app (goodIn_of _ (by decide +kernel)) ggX5_toLive_X5_has
theorem dX5_toLive_0 : decode cX5_toLive 0 = .ok (.aload_n 0, 1) := by decide +kernel
theorem dX5_toLive_1 : decode cX5_toLive 1 = .ok (.aload_n 0, 1) := by decide +kernel
theorem dX5_toLive_2 : decode cX5_toLive 2 = .ok (.iload_n 1, 1) := by decide +kernel
theorem dX5_toLive_3 : decode cX5_toLive 3 = .ok (.invokevirtual 55, 3) := by decide +kernel
theorem dX5_toLive_6 : decode cX5_toLive 6 = .ok (.ifCond .eq 7, 3) := by decide +kernel
theorem dX5_toLive_9 : decode cX5_toLive 9 = .ok (.iconst 0, 1) := by decide +kernel
theorem dX5_toLive_10 : decode cX5_toLive 10 = .ok (.goto 4, 3) := by decide +kernel
theorem dX5_toLive_13 : decode cX5_toLive 13 = .ok (.iconst 1, 1) := by decide +kernel
theorem dX5_toLive_14 : decode cX5_toLive 14 = .ok (.putfield 35, 3) := by decide +kernel
theorem dX5_toLive_17 : decode cX5_toLive 17 = .ok (.aload_n 0, 1) := by decide +kernel
theorem dX5_toLive_18 : decode cX5_toLive 18 = .ok (.getfield 35, 3) := by decide +kernel
theorem dX5_toLive_21 : decode cX5_toLive 21 = .ok (.ifCond .le 5, 3) := by decide +kernel
theorem dX5_toLive_24 : decode cX5_toLive 24 = .ok (.iconst 0, 1) := by decide +kernel
theorem dX5_toLive_25 : decode cX5_toLive 25 = .ok (.ireturn, 1) := by decide +kernel
theorem dX5_toLive_26 : decode cX5_toLive 26 = .ok (.aload_n 0, 1) := by decide +kernel
theorem dX5_toLive_27 : decode cX5_toLive 27 = .ok (.iload_n 1, 1) := by decide +kernel
theorem dX5_toLive_28 : decode cX5_toLive 28 = .ok (.invokevirtual 140, 3) := by decide +kernel
theorem dX5_toLive_31 : decode cX5_toLive 31 = .ok (.sipush 1000, 3) := by decide +kernel
theorem dX5_toLive_34 : decode cX5_toLive 34 = .ok (.istore_n 2, 1) := by decide +kernel
theorem dX5_toLive_35 : decode cX5_toLive 35 = .ok (.iconst 0, 1) := by decide +kernel
theorem dX5_toLive_36 : decode cX5_toLive 36 = .ok (.istore_n 3, 1) := by decide +kernel
theorem dX5_toLive_37 : decode cX5_toLive 37 = .ok (.iload_n 3, 1) := by decide +kernel
theorem dX5_toLive_38 : decode cX5_toLive 38 = .ok (.aload_n 0, 1) := by decide +kernel
theorem dX5_toLive_39 : decode cX5_toLive 39 = .ok (.getfield 39, 3) := by decide +kernel
theorem dX5_toLive_42 : decode cX5_toLive 42 = .ok (.if_icmp .ge 41, 3) := by decide +kernel
theorem dX5_toLive_45 : decode cX5_toLive 45 = .ok (.aload_n 0, 1) := by decide +kernel
theorem dX5_toLive_46 : decode cX5_toLive 46 = .ok (.getfield 67, 3) := by decide +kernel
theorem dX5_toLive_49 : decode cX5_toLive 49 = .ok (.iload_n 3, 1) := by decide +kernel
theorem dX5_toLive_50 : decode cX5_toLive 50 = .ok (.invokestatic 59, 3) := by decide +kernel
theorem dX5_toLive_53 : decode cX5_toLive 53 = .ok (.ifCond .eq 22, 3) := by decide +kernel
theorem dX5_toLive_56 : decode cX5_toLive 56 = .ok (.aload_n 0, 1) := by decide +kernel
theorem dX5_toLive_57 : decode cX5_toLive 57 = .ok (.getfield 32, 3) := by decide +kernel
theorem dX5_toLive_60 : decode cX5_toLive 60 = .ok (.iload_n 3, 1) := by decide +kernel
theorem dX5_toLive_61 : decode cX5_toLive 61 = .ok (.iaload, 1) := by decide +kernel
theorem dX5_toLive_62 : decode cX5_toLive 62 = .ok (.iload_n 2, 1) := by decide +kernel
theorem dX5_toLive_63 : decode cX5_toLive 63 = .ok (.if_icmp .ge 12, 3) := by decide +kernel
theorem dX5_toLive_66 : decode cX5_toLive 66 = .ok (.aload_n 0, 1) := by decide +kernel
theorem dX5_toLive_67 : decode cX5_toLive 67 = .ok (.getfield 32, 3) := by decide +kernel
theorem dX5_toLive_70 : decode cX5_toLive 70 = .ok (.iload_n 3, 1) := by decide +kernel
theorem dX5_toLive_71 : decode cX5_toLive 71 = .ok (.iaload, 1) := by decide +kernel
theorem dX5_toLive_72 : decode cX5_toLive 72 = .ok (.goto 4, 3) := by decide +kernel
theorem dX5_toLive_75 : decode cX5_toLive 75 = .ok (.iload_n 2, 1) := by decide +kernel
theorem dX5_toLive_76 : decode cX5_toLive 76 = .ok (.istore_n 2, 1) := by decide +kernel
theorem dX5_toLive_77 : decode cX5_toLive 77 = .ok (.iinc 3 1, 3) := by decide +kernel
theorem dX5_toLive_80 : decode cX5_toLive 80 = .ok (.goto (-43), 3) := by decide +kernel
theorem dX5_toLive_83 : decode cX5_toLive 83 = .ok (.aload_n 0, 1) := by decide +kernel
theorem dX5_toLive_84 : decode cX5_toLive 84 = .ok (.iload_n 2, 1) := by decide +kernel
theorem dX5_toLive_85 : decode cX5_toLive 85 = .ok (.sipush 1000, 3) := by decide +kernel
theorem dX5_toLive_88 : decode cX5_toLive 88 = .ok (.if_icmp .ne 7, 3) := by decide +kernel
theorem dX5_toLive_91 : decode cX5_toLive 91 = .ok (.iconst 2, 1) := by decide +kernel
theorem dX5_toLive_92 : decode cX5_toLive 92 = .ok (.goto 4, 3) := by decide +kernel
theorem dX5_toLive_95 : decode cX5_toLive 95 = .ok (.iconst 0, 1) := by decide +kernel
theorem dX5_toLive_96 : decode cX5_toLive 96 = .ok (.putfield 35, 3) := by decide +kernel
theorem dX5_toLive_99 : decode cX5_toLive 99 = .ok (.aload_n 0, 1) := by decide +kernel
theorem dX5_toLive_100 : decode cX5_toLive 100 = .ok (.getfield 35, 3) := by decide +kernel
theorem dX5_toLive_103 : decode cX5_toLive 103 = .ok (.ifCond .le 7, 3) := by decide +kernel
theorem dX5_toLive_106 : decode cX5_toLive 106 = .ok (.iconst 0, 1) := by decide +kernel
theorem dX5_toLive_107 : decode cX5_toLive 107 = .ok (.goto 4, 3) := by decide +kernel
theorem dX5_toLive_110 : decode cX5_toLive 110 = .ok (.iload_n 2, 1) := by decide +kernel
theorem dX5_toLive_111 : decode cX5_toLive 111 = .ok (.ireturn, 1) := by decide +kernel
theorem dJ9_min_7cf53_0 : decode cJ9_min_7cf53 0 = .ok (.iload_n 0, 1) := by decide +kernel
theorem dJ9_min_7cf53_1 : decode cJ9_min_7cf53 1 = .ok (.iload_n 1, 1) := by decide +kernel
theorem dJ9_min_7cf53_2 : decode cJ9_min_7cf53 2 = .ok (.if_icmp .gt 7, 3) := by decide +kernel
theorem dJ9_min_7cf53_5 : decode cJ9_min_7cf53 5 = .ok (.iload_n 0, 1) := by decide +kernel
theorem dJ9_min_7cf53_6 : decode cJ9_min_7cf53 6 = .ok (.goto 4, 3) := by decide +kernel
theorem dJ9_min_7cf53_9 : decode cJ9_min_7cf53 9 = .ok (.iload_n 1, 1) := by decide +kernel
theorem dJ9_min_7cf53_10 : decode cJ9_min_7cf53 10 = .ok (.ireturn, 1) := by decide +kernel
end
section
/-! The words of a state that are not in the lists of words: links of nest mates. -/
def nK (U : State) : Prop := va_Nw (.fieldLinkNest RX1 31 "Switchlog$State" "sources" "I" "Switchlog") U ∧ va_Nw (.fieldLinkNest RX1 38 "Switchlog$State" "earths" "I" "Switchlog") U ∧ va_Nw (.fieldLinkNest RX1 45 "Switchlog$State" "closed" "I" "Switchlog") U ∧ va_Nw (.fieldLinkNest RX4 214 "Switchlog$State" "sources" "I" "Switchlog") U ∧ va_Nw (.methodLinkNest RX4 9 yX1_init "Switchlog") U ∧ va_Nw (.methodLinkNest RX4 18 yX3_init "Switchlog") U ∧ va_Nw (.methodLinkNest RX4 37 yX2_init "Switchlog") U
theorem nK.warm {s U : State} (hW : s.WarmedH U.vm) (h : nK s) : nK U := by
  obtain ⟨a, b, c, d, e, f, g⟩ := h
  exact ⟨a.warmF hW, b.warmF hW, c.warmF hW, d.warmF hW, e.warmM hW, f.warmM hW, g.warmM hW⟩
theorem nK.same {u U : State} (hv : u.vm = U.vm) (h : nK u) : nK U := by
  obtain ⟨a, b, c, d, e, f, g⟩ := h
  exact ⟨a.same rfl hv, b.same rfl hv, c.same rfl hv, d.same rfl hv, e.same rfl hv, f.same rfl hv, g.same rfl hv⟩
/-- the tables: the classes, the three array classes, the nest links -/
def K0 (D : va_G) (cI cZ cL : ClassId) (U : State) : Prop := va_K D vwCl [(cI, .int), (cZ, .boolean), (cL, .long)] U ∧ nK U
theorem K0.warm {D : va_G} {cI cZ cL : ClassId} {s U : State} (hW : s.WarmedH U.vm) (h : K0 D cI cZ cL s) : K0 D cI cZ cL U := ⟨va_K.moved hW.alike h.1, h.2.warm hW⟩
theorem K0.calling {D : va_G} {cI cZ cL : ClassId} {U : State} {g : JFrame} {mk : MethodId} {a : Array Value} (h : K0 D cI cZ cL U) : K0 D cI cZ cL (U.calling g mk a) := ⟨va_K.moved (u := U) (U := U.calling g mk a) (Vm.Alike.refl U.vm) h.1, h.2.same rfl⟩
/-- a reading method's start: its cells, the tables -/
def PR (D : va_G) (cI cZ cL : ClassId) (av : List Value) (ws : va_W) : Array Value → State → Prop := va_Pc av (fun U => va_P D vwCl ws U.heap ∧ K0 D cI cZ cL U)
theorem PR_blind {D : va_G} {cI cZ cL : ClassId} {av : List Value} {ws : va_W} : FrameBlind (PR D cI cZ cL av ws) := fun _ _ _ _ q => ⟨q.1, q.2.1, q.2.2.calling⟩
section ZZ
variable {p : Program} {l : Launch} {e : Env} {R : Room} {s : State} {m : MethodId} {args : Array Value} {below : List Frame} {meth : Method} {c : Code} {H : Heap} {locs : List Loc} {cells slots : Nat} {Q : State → Prop}
variable {pc : Nat} {ls : Array Slot} {rest st0 : List Value} {a : Array Value}
/-- behind a call of a method that only reads: nothing has changed, its answer is val -/
theorem zz_i {val : Int32} (hr : va_Run p l e R s m args below meth c H locs cells slots 0 0 (F0 m pc ls st0) rest (vp_Si (fun r => r = val) a) (fun _ => False)) (kk : W p l e R s m args below meth c H locs cells slots Q (F0 m (pc + 3) ls (.int val :: rest))) : W p l e R s m args below meth c H locs cells slots Q (F0 m pc ls st0) := by
  intro T hT X
  obtain ⟨v, st₀, t, T', L, h0, X', hL, e1, e2, ⟨r, hv, hp, hh⟩, st⟩ := hr T hT X
  cases hv
  subst hp
  have hL0 : L = [] := by
    cases L with
    | nil => rfl
    | cons q L => exact (hL q List.mem_cons_self).elim
  subst hL0
  rw [List.append_nil] at X'
  obtain ⟨t2, a1, b1⟩ := kk T' (by rw [e1, hh, h0]) X'
  exact ⟨t2, st t2 a1, b1⟩
variable {y : MethodName} {bytes cc : ByteArray} {maxL nL n index : Nat} {ret : Option FieldType} {ws : List Cond} {rm : Room} {Ts : List Cond} {own C : String} {b : Addr} {As : List Value} {D : va_G} {cI cZ cL : ClassId} {wc : va_W} {val : Int32}
theorem zz_cV (S : CallFix p m c cc nL s args Ts own) (hM : Met l y ws rm (PR D cI cZ cL (.ref b :: As) wc) (vp_Si (fun r => r = val)) 0 0 (fun _ => False)) (cw : CallW R s args own C index y bytes maxL ret ws rm 0 0 n)
    (hP : va_P D vwCl wc H) (hK : K0 D cI cZ cL s) (hcell : ∃ cellB : Cell, H[b]? = some cellB ∧ cellB.vm.isStatics = false ∧ s.vm.findClass C = some cellB.cls) (hn : As.length = n) (hsize : ls.size = nL) (hst : st0 = As.reverse ++ .ref b :: rest) (hW : (rest.map fun v => v.category).sum ≤ 8)
    (hdg : decode cc pc = .ok (.invokevirtual index, 3)) (hf : cells ≤ R.cells ∧ slots ≤ R.slots) (kk : W p l e R s m args below meth c H locs cells slots Q (F0 m (pc + 3) ls (.int val :: rest))) : W p l e R s m args below meth c H locs cells slots Q (F0 m pc ls st0) :=
  zz_i (va_runV S hM cw ⟨PR_blind, hcell, fun U hU hW => ⟨rfl, by rw [hU]; exact hP, hK.warm hW⟩⟩ rfl hn hsize hst (lv_room hW) hdg hf) kk
theorem zz_cS (S : CallFix p m c cc nL s args Ts own) (hM : Met l y ws rm (PR D cI cZ cL As wc) (vp_Si (fun r => r = val)) 0 0 (fun _ => False)) (cw : CallB R s args own index y bytes maxL ret ws rm 0 0 n ∧ (Cond.static y).before args s = true)
    (hP : va_P D vwCl wc H) (hK : K0 D cI cZ cL s) (hn : As.length = n) (hsize : ls.size = nL) (hst : st0 = As.reverse ++ rest) (hW : (rest.map fun v => v.category).sum ≤ 8)
    (hdg : decode cc pc = .ok (.invokestatic index, 3)) (hf : cells ≤ R.cells ∧ slots ≤ R.slots) (kk : W p l e R s m args below meth c H locs cells slots Q (F0 m (pc + 3) ls (.int val :: rest))) : W p l e R s m args below meth c H locs cells slots Q (F0 m pc ls st0) :=
  zz_i (va_runS S hM cw ⟨PR_blind, fun U hU hW => ⟨rfl, by rw [hU]; exact hP, hK.warm hW⟩⟩ rfl hn hsize hst (lv_room hW) hdg hf) kk
end ZZ
/-! Partial programs: none where the machine would throw, or the fuel is out. -/
theorem it_t {α : Type} {c : Prop} [Decidable c] {x y : Option α} {r : α} (h : (if c then x else y) = some r) (hc : c) : x = some r := by rw [if_pos hc] at h; exact h
theorem it_f {α : Type} {c : Prop} [Decidable c] {x y : Option α} {r : α} (h : (if c then x else y) = some r) (hc : ¬ c) : y = some r := by rw [if_neg hc] at h; exact h
def gin {α : Type} (i : Int32) (n : Nat) (k : Option α) : Option α := if i < 0 ∨ n ≤ i.toNatClampNeg then none else k
theorem gin_e {α : Type} {i : Int32} {n : Nat} {k : Option α} {r : α} (h : gin i n k = some r) : vp_in i n ∧ k = some r := by
  unfold gin at h
  by_cases hc : i < 0 ∨ n ≤ i.toNatClampNeg
  · rw [if_pos hc] at h; cases h
  · rw [if_neg hc] at h; exact ⟨hc, h⟩
/-- a guard -/
def gd {α : Type} (c : Bool) (k : Option α) : Option α := if c = true then k else none
theorem gd_e {α : Type} {c : Bool} {k : Option α} {r : α} (h : gd c k = some r) : c = true ∧ k = some r := by
  unfold gd at h
  by_cases hc : c = true
  · rw [if_pos hc] at h; exact ⟨hc, h⟩
  · rw [if_neg hc] at h; cases h
def bz (v : Int32) : Bool := decide (v = 0 ∨ v = 1)
theorem bz_e {v : Int32} (h : bz v = true) : narrow .boolean (.int v) = .int v := by
  rcases of_decide_eq_true h with rfl | rfl <;> rfl
def bd1 {A1 ρ : Type} (x : Option (A1)) (k : A1 → Option ρ) : Option ρ := x.bind (fun q => k q)
theorem bd1_e {A1 ρ : Type} {x : Option (A1)} {k : A1 → Option ρ} {r : ρ} (h : bd1 x k = some r) : ∃ (x1 : A1), x = some x1 ∧ k x1 = some r := by
  unfold bd1 at h
  cases x with
  | none => cases h
  | some q => exact ⟨q, rfl, h⟩
def bx1 {A1 ρ : Type} (x : Option (String ⊕ (A1))) (k : A1 → Option (String ⊕ ρ)) : Option (String ⊕ ρ) := match x with
  | none => none
  | some (.inl E) => some (.inl E)
  | some (.inr q) => k q
theorem bx1_e {A1 ρ : Type} {x : Option (String ⊕ (A1))} {k : A1 → Option (String ⊕ ρ)} {r : String ⊕ ρ} (h : bx1 x k = some r) : (∃ E : String, x = some (.inl E) ∧ r = .inl E) ∨ ∃ (x1 : A1), x = some (.inr x1) ∧ k x1 = some r := by
  unfold bx1 at h
  cases x with
  | none => cases h
  | some q =>
    cases q with
    | inl E => exact Or.inl ⟨E, rfl, (Option.some.inj h).symm⟩
    | inr q => exact Or.inr ⟨q, rfl, h⟩
def it1 {A1 ρ : Type} (F : (A1 → Option ρ) → A1 → Option ρ) : Nat → A1 → Option ρ
  | 0, _ => none
  | n + 1, x1 => F (it1 F n) x1
theorem it1_e {A1 ρ : Type} {F : (A1 → Option ρ) → A1 → Option ρ} {r : ρ} (I : A1 → Prop) (hs : ∀ g : A1 → Option ρ, (∀ (x1 : A1), g x1 = some r → I x1) → ∀ (x1 : A1), F g x1 = some r → I x1) : ∀ (n : Nat) (x1 : A1), it1 F n x1 = some r → I x1
  | 0, _, h => by cases h
  | n + 1, x1, h => hs (it1 F n) (it1_e I hs n) x1 h
def jn1 {A1 ρ : Type} (rest : A1 → Option ρ) (body : (A1 → Option ρ) → Option ρ) : Option ρ := body rest
theorem jn1_e {A1 ρ : Type} {rest : A1 → Option ρ} {body : (A1 → Option ρ) → Option ρ} {r : ρ} {G : Prop} (J : A1 → Prop) (h : jn1 rest body = some r) (hJ : ∀ (x1 : A1), rest x1 = some r → J x1) (hB : ∀ g : A1 → Option ρ, (∀ (x1 : A1), g x1 = some r → J x1) → body g = some r → G) : G := hB rest hJ h
def bd2 {A1 A2 ρ : Type} (x : Option (A1 × A2)) (k : A1 → A2 → Option ρ) : Option ρ := x.bind (fun q => k q.1 q.2)
theorem bd2_e {A1 A2 ρ : Type} {x : Option (A1 × A2)} {k : A1 → A2 → Option ρ} {r : ρ} (h : bd2 x k = some r) : ∃ (x1 : A1) (x2 : A2), x = some (x1, x2) ∧ k x1 x2 = some r := by
  unfold bd2 at h
  cases x with
  | none => cases h
  | some q => exact ⟨q.1, q.2, rfl, h⟩
def bx2 {A1 A2 ρ : Type} (x : Option (String ⊕ (A1 × A2))) (k : A1 → A2 → Option (String ⊕ ρ)) : Option (String ⊕ ρ) := match x with
  | none => none
  | some (.inl E) => some (.inl E)
  | some (.inr q) => k q.1 q.2
theorem bx2_e {A1 A2 ρ : Type} {x : Option (String ⊕ (A1 × A2))} {k : A1 → A2 → Option (String ⊕ ρ)} {r : String ⊕ ρ} (h : bx2 x k = some r) : (∃ E : String, x = some (.inl E) ∧ r = .inl E) ∨ ∃ (x1 : A1) (x2 : A2), x = some (.inr (x1, x2)) ∧ k x1 x2 = some r := by
  unfold bx2 at h
  cases x with
  | none => cases h
  | some q =>
    cases q with
    | inl E => exact Or.inl ⟨E, rfl, (Option.some.inj h).symm⟩
    | inr q => exact Or.inr ⟨q.1, q.2, rfl, h⟩
def it2 {A1 A2 ρ : Type} (F : (A1 → A2 → Option ρ) → A1 → A2 → Option ρ) : Nat → A1 → A2 → Option ρ
  | 0, _, _ => none
  | n + 1, x1, x2 => F (it2 F n) x1 x2
theorem it2_e {A1 A2 ρ : Type} {F : (A1 → A2 → Option ρ) → A1 → A2 → Option ρ} {r : ρ} (I : A1 → A2 → Prop) (hs : ∀ g : A1 → A2 → Option ρ, (∀ (x1 : A1) (x2 : A2), g x1 x2 = some r → I x1 x2) → ∀ (x1 : A1) (x2 : A2), F g x1 x2 = some r → I x1 x2) : ∀ (n : Nat) (x1 : A1) (x2 : A2), it2 F n x1 x2 = some r → I x1 x2
  | 0, _, _, h => by cases h
  | n + 1, x1, x2, h => hs (it2 F n) (it2_e I hs n) x1 x2 h
def jn2 {A1 A2 ρ : Type} (rest : A1 → A2 → Option ρ) (body : (A1 → A2 → Option ρ) → Option ρ) : Option ρ := body rest
theorem jn2_e {A1 A2 ρ : Type} {rest : A1 → A2 → Option ρ} {body : (A1 → A2 → Option ρ) → Option ρ} {r : ρ} {G : Prop} (J : A1 → A2 → Prop) (h : jn2 rest body = some r) (hJ : ∀ (x1 : A1) (x2 : A2), rest x1 x2 = some r → J x1 x2) (hB : ∀ g : A1 → A2 → Option ρ, (∀ (x1 : A1) (x2 : A2), g x1 x2 = some r → J x1 x2) → body g = some r → G) : G := hB rest hJ h
def bd3 {A1 A2 A3 ρ : Type} (x : Option (A1 × A2 × A3)) (k : A1 → A2 → A3 → Option ρ) : Option ρ := x.bind (fun q => k q.1 q.2.1 q.2.2)
theorem bd3_e {A1 A2 A3 ρ : Type} {x : Option (A1 × A2 × A3)} {k : A1 → A2 → A3 → Option ρ} {r : ρ} (h : bd3 x k = some r) : ∃ (x1 : A1) (x2 : A2) (x3 : A3), x = some (x1, x2, x3) ∧ k x1 x2 x3 = some r := by
  unfold bd3 at h
  cases x with
  | none => cases h
  | some q => exact ⟨q.1, q.2.1, q.2.2, rfl, h⟩
def bx3 {A1 A2 A3 ρ : Type} (x : Option (String ⊕ (A1 × A2 × A3))) (k : A1 → A2 → A3 → Option (String ⊕ ρ)) : Option (String ⊕ ρ) := match x with
  | none => none
  | some (.inl E) => some (.inl E)
  | some (.inr q) => k q.1 q.2.1 q.2.2
theorem bx3_e {A1 A2 A3 ρ : Type} {x : Option (String ⊕ (A1 × A2 × A3))} {k : A1 → A2 → A3 → Option (String ⊕ ρ)} {r : String ⊕ ρ} (h : bx3 x k = some r) : (∃ E : String, x = some (.inl E) ∧ r = .inl E) ∨ ∃ (x1 : A1) (x2 : A2) (x3 : A3), x = some (.inr (x1, x2, x3)) ∧ k x1 x2 x3 = some r := by
  unfold bx3 at h
  cases x with
  | none => cases h
  | some q =>
    cases q with
    | inl E => exact Or.inl ⟨E, rfl, (Option.some.inj h).symm⟩
    | inr q => exact Or.inr ⟨q.1, q.2.1, q.2.2, rfl, h⟩
def it3 {A1 A2 A3 ρ : Type} (F : (A1 → A2 → A3 → Option ρ) → A1 → A2 → A3 → Option ρ) : Nat → A1 → A2 → A3 → Option ρ
  | 0, _, _, _ => none
  | n + 1, x1, x2, x3 => F (it3 F n) x1 x2 x3
theorem it3_e {A1 A2 A3 ρ : Type} {F : (A1 → A2 → A3 → Option ρ) → A1 → A2 → A3 → Option ρ} {r : ρ} (I : A1 → A2 → A3 → Prop) (hs : ∀ g : A1 → A2 → A3 → Option ρ, (∀ (x1 : A1) (x2 : A2) (x3 : A3), g x1 x2 x3 = some r → I x1 x2 x3) → ∀ (x1 : A1) (x2 : A2) (x3 : A3), F g x1 x2 x3 = some r → I x1 x2 x3) : ∀ (n : Nat) (x1 : A1) (x2 : A2) (x3 : A3), it3 F n x1 x2 x3 = some r → I x1 x2 x3
  | 0, _, _, _, h => by cases h
  | n + 1, x1, x2, x3, h => hs (it3 F n) (it3_e I hs n) x1 x2 x3 h
def jn3 {A1 A2 A3 ρ : Type} (rest : A1 → A2 → A3 → Option ρ) (body : (A1 → A2 → A3 → Option ρ) → Option ρ) : Option ρ := body rest
theorem jn3_e {A1 A2 A3 ρ : Type} {rest : A1 → A2 → A3 → Option ρ} {body : (A1 → A2 → A3 → Option ρ) → Option ρ} {r : ρ} {G : Prop} (J : A1 → A2 → A3 → Prop) (h : jn3 rest body = some r) (hJ : ∀ (x1 : A1) (x2 : A2) (x3 : A3), rest x1 x2 x3 = some r → J x1 x2 x3) (hB : ∀ g : A1 → A2 → A3 → Option ρ, (∀ (x1 : A1) (x2 : A2) (x3 : A3), g x1 x2 x3 = some r → J x1 x2 x3) → body g = some r → G) : G := hB rest hJ h
def bd4 {A1 A2 A3 A4 ρ : Type} (x : Option (A1 × A2 × A3 × A4)) (k : A1 → A2 → A3 → A4 → Option ρ) : Option ρ := x.bind (fun q => k q.1 q.2.1 q.2.2.1 q.2.2.2)
theorem bd4_e {A1 A2 A3 A4 ρ : Type} {x : Option (A1 × A2 × A3 × A4)} {k : A1 → A2 → A3 → A4 → Option ρ} {r : ρ} (h : bd4 x k = some r) : ∃ (x1 : A1) (x2 : A2) (x3 : A3) (x4 : A4), x = some (x1, x2, x3, x4) ∧ k x1 x2 x3 x4 = some r := by
  unfold bd4 at h
  cases x with
  | none => cases h
  | some q => exact ⟨q.1, q.2.1, q.2.2.1, q.2.2.2, rfl, h⟩
def bx4 {A1 A2 A3 A4 ρ : Type} (x : Option (String ⊕ (A1 × A2 × A3 × A4))) (k : A1 → A2 → A3 → A4 → Option (String ⊕ ρ)) : Option (String ⊕ ρ) := match x with
  | none => none
  | some (.inl E) => some (.inl E)
  | some (.inr q) => k q.1 q.2.1 q.2.2.1 q.2.2.2
theorem bx4_e {A1 A2 A3 A4 ρ : Type} {x : Option (String ⊕ (A1 × A2 × A3 × A4))} {k : A1 → A2 → A3 → A4 → Option (String ⊕ ρ)} {r : String ⊕ ρ} (h : bx4 x k = some r) : (∃ E : String, x = some (.inl E) ∧ r = .inl E) ∨ ∃ (x1 : A1) (x2 : A2) (x3 : A3) (x4 : A4), x = some (.inr (x1, x2, x3, x4)) ∧ k x1 x2 x3 x4 = some r := by
  unfold bx4 at h
  cases x with
  | none => cases h
  | some q =>
    cases q with
    | inl E => exact Or.inl ⟨E, rfl, (Option.some.inj h).symm⟩
    | inr q => exact Or.inr ⟨q.1, q.2.1, q.2.2.1, q.2.2.2, rfl, h⟩
def it4 {A1 A2 A3 A4 ρ : Type} (F : (A1 → A2 → A3 → A4 → Option ρ) → A1 → A2 → A3 → A4 → Option ρ) : Nat → A1 → A2 → A3 → A4 → Option ρ
  | 0, _, _, _, _ => none
  | n + 1, x1, x2, x3, x4 => F (it4 F n) x1 x2 x3 x4
theorem it4_e {A1 A2 A3 A4 ρ : Type} {F : (A1 → A2 → A3 → A4 → Option ρ) → A1 → A2 → A3 → A4 → Option ρ} {r : ρ} (I : A1 → A2 → A3 → A4 → Prop) (hs : ∀ g : A1 → A2 → A3 → A4 → Option ρ, (∀ (x1 : A1) (x2 : A2) (x3 : A3) (x4 : A4), g x1 x2 x3 x4 = some r → I x1 x2 x3 x4) → ∀ (x1 : A1) (x2 : A2) (x3 : A3) (x4 : A4), F g x1 x2 x3 x4 = some r → I x1 x2 x3 x4) : ∀ (n : Nat) (x1 : A1) (x2 : A2) (x3 : A3) (x4 : A4), it4 F n x1 x2 x3 x4 = some r → I x1 x2 x3 x4
  | 0, _, _, _, _, h => by cases h
  | n + 1, x1, x2, x3, x4, h => hs (it4 F n) (it4_e I hs n) x1 x2 x3 x4 h
def jn4 {A1 A2 A3 A4 ρ : Type} (rest : A1 → A2 → A3 → A4 → Option ρ) (body : (A1 → A2 → A3 → A4 → Option ρ) → Option ρ) : Option ρ := body rest
theorem jn4_e {A1 A2 A3 A4 ρ : Type} {rest : A1 → A2 → A3 → A4 → Option ρ} {body : (A1 → A2 → A3 → A4 → Option ρ) → Option ρ} {r : ρ} {G : Prop} (J : A1 → A2 → A3 → A4 → Prop) (h : jn4 rest body = some r) (hJ : ∀ (x1 : A1) (x2 : A2) (x3 : A3) (x4 : A4), rest x1 x2 x3 x4 = some r → J x1 x2 x3 x4) (hB : ∀ g : A1 → A2 → A3 → A4 → Option ρ, (∀ (x1 : A1) (x2 : A2) (x3 : A3) (x4 : A4), g x1 x2 x3 x4 = some r → J x1 x2 x3 x4) → body g = some r → G) : G := hB rest hJ h
def bd5 {A1 A2 A3 A4 A5 ρ : Type} (x : Option (A1 × A2 × A3 × A4 × A5)) (k : A1 → A2 → A3 → A4 → A5 → Option ρ) : Option ρ := x.bind (fun q => k q.1 q.2.1 q.2.2.1 q.2.2.2.1 q.2.2.2.2)
theorem bd5_e {A1 A2 A3 A4 A5 ρ : Type} {x : Option (A1 × A2 × A3 × A4 × A5)} {k : A1 → A2 → A3 → A4 → A5 → Option ρ} {r : ρ} (h : bd5 x k = some r) : ∃ (x1 : A1) (x2 : A2) (x3 : A3) (x4 : A4) (x5 : A5), x = some (x1, x2, x3, x4, x5) ∧ k x1 x2 x3 x4 x5 = some r := by
  unfold bd5 at h
  cases x with
  | none => cases h
  | some q => exact ⟨q.1, q.2.1, q.2.2.1, q.2.2.2.1, q.2.2.2.2, rfl, h⟩
def bx5 {A1 A2 A3 A4 A5 ρ : Type} (x : Option (String ⊕ (A1 × A2 × A3 × A4 × A5))) (k : A1 → A2 → A3 → A4 → A5 → Option (String ⊕ ρ)) : Option (String ⊕ ρ) := match x with
  | none => none
  | some (.inl E) => some (.inl E)
  | some (.inr q) => k q.1 q.2.1 q.2.2.1 q.2.2.2.1 q.2.2.2.2
theorem bx5_e {A1 A2 A3 A4 A5 ρ : Type} {x : Option (String ⊕ (A1 × A2 × A3 × A4 × A5))} {k : A1 → A2 → A3 → A4 → A5 → Option (String ⊕ ρ)} {r : String ⊕ ρ} (h : bx5 x k = some r) : (∃ E : String, x = some (.inl E) ∧ r = .inl E) ∨ ∃ (x1 : A1) (x2 : A2) (x3 : A3) (x4 : A4) (x5 : A5), x = some (.inr (x1, x2, x3, x4, x5)) ∧ k x1 x2 x3 x4 x5 = some r := by
  unfold bx5 at h
  cases x with
  | none => cases h
  | some q =>
    cases q with
    | inl E => exact Or.inl ⟨E, rfl, (Option.some.inj h).symm⟩
    | inr q => exact Or.inr ⟨q.1, q.2.1, q.2.2.1, q.2.2.2.1, q.2.2.2.2, rfl, h⟩
def it5 {A1 A2 A3 A4 A5 ρ : Type} (F : (A1 → A2 → A3 → A4 → A5 → Option ρ) → A1 → A2 → A3 → A4 → A5 → Option ρ) : Nat → A1 → A2 → A3 → A4 → A5 → Option ρ
  | 0, _, _, _, _, _ => none
  | n + 1, x1, x2, x3, x4, x5 => F (it5 F n) x1 x2 x3 x4 x5
theorem it5_e {A1 A2 A3 A4 A5 ρ : Type} {F : (A1 → A2 → A3 → A4 → A5 → Option ρ) → A1 → A2 → A3 → A4 → A5 → Option ρ} {r : ρ} (I : A1 → A2 → A3 → A4 → A5 → Prop) (hs : ∀ g : A1 → A2 → A3 → A4 → A5 → Option ρ, (∀ (x1 : A1) (x2 : A2) (x3 : A3) (x4 : A4) (x5 : A5), g x1 x2 x3 x4 x5 = some r → I x1 x2 x3 x4 x5) → ∀ (x1 : A1) (x2 : A2) (x3 : A3) (x4 : A4) (x5 : A5), F g x1 x2 x3 x4 x5 = some r → I x1 x2 x3 x4 x5) : ∀ (n : Nat) (x1 : A1) (x2 : A2) (x3 : A3) (x4 : A4) (x5 : A5), it5 F n x1 x2 x3 x4 x5 = some r → I x1 x2 x3 x4 x5
  | 0, _, _, _, _, _, h => by cases h
  | n + 1, x1, x2, x3, x4, x5, h => hs (it5 F n) (it5_e I hs n) x1 x2 x3 x4 x5 h
def jn5 {A1 A2 A3 A4 A5 ρ : Type} (rest : A1 → A2 → A3 → A4 → A5 → Option ρ) (body : (A1 → A2 → A3 → A4 → A5 → Option ρ) → Option ρ) : Option ρ := body rest
theorem jn5_e {A1 A2 A3 A4 A5 ρ : Type} {rest : A1 → A2 → A3 → A4 → A5 → Option ρ} {body : (A1 → A2 → A3 → A4 → A5 → Option ρ) → Option ρ} {r : ρ} {G : Prop} (J : A1 → A2 → A3 → A4 → A5 → Prop) (h : jn5 rest body = some r) (hJ : ∀ (x1 : A1) (x2 : A2) (x3 : A3) (x4 : A4) (x5 : A5), rest x1 x2 x3 x4 x5 = some r → J x1 x2 x3 x4 x5) (hB : ∀ g : A1 → A2 → A3 → A4 → A5 → Option ρ, (∀ (x1 : A1) (x2 : A2) (x3 : A3) (x4 : A4) (x5 : A5), g x1 x2 x3 x4 x5 = some r → J x1 x2 x3 x4 x5) → body g = some r → G) : G := hB rest hJ h
def bd6 {A1 A2 A3 A4 A5 A6 ρ : Type} (x : Option (A1 × A2 × A3 × A4 × A5 × A6)) (k : A1 → A2 → A3 → A4 → A5 → A6 → Option ρ) : Option ρ := x.bind (fun q => k q.1 q.2.1 q.2.2.1 q.2.2.2.1 q.2.2.2.2.1 q.2.2.2.2.2)
theorem bd6_e {A1 A2 A3 A4 A5 A6 ρ : Type} {x : Option (A1 × A2 × A3 × A4 × A5 × A6)} {k : A1 → A2 → A3 → A4 → A5 → A6 → Option ρ} {r : ρ} (h : bd6 x k = some r) : ∃ (x1 : A1) (x2 : A2) (x3 : A3) (x4 : A4) (x5 : A5) (x6 : A6), x = some (x1, x2, x3, x4, x5, x6) ∧ k x1 x2 x3 x4 x5 x6 = some r := by
  unfold bd6 at h
  cases x with
  | none => cases h
  | some q => exact ⟨q.1, q.2.1, q.2.2.1, q.2.2.2.1, q.2.2.2.2.1, q.2.2.2.2.2, rfl, h⟩
def bx6 {A1 A2 A3 A4 A5 A6 ρ : Type} (x : Option (String ⊕ (A1 × A2 × A3 × A4 × A5 × A6))) (k : A1 → A2 → A3 → A4 → A5 → A6 → Option (String ⊕ ρ)) : Option (String ⊕ ρ) := match x with
  | none => none
  | some (.inl E) => some (.inl E)
  | some (.inr q) => k q.1 q.2.1 q.2.2.1 q.2.2.2.1 q.2.2.2.2.1 q.2.2.2.2.2
theorem bx6_e {A1 A2 A3 A4 A5 A6 ρ : Type} {x : Option (String ⊕ (A1 × A2 × A3 × A4 × A5 × A6))} {k : A1 → A2 → A3 → A4 → A5 → A6 → Option (String ⊕ ρ)} {r : String ⊕ ρ} (h : bx6 x k = some r) : (∃ E : String, x = some (.inl E) ∧ r = .inl E) ∨ ∃ (x1 : A1) (x2 : A2) (x3 : A3) (x4 : A4) (x5 : A5) (x6 : A6), x = some (.inr (x1, x2, x3, x4, x5, x6)) ∧ k x1 x2 x3 x4 x5 x6 = some r := by
  unfold bx6 at h
  cases x with
  | none => cases h
  | some q =>
    cases q with
    | inl E => exact Or.inl ⟨E, rfl, (Option.some.inj h).symm⟩
    | inr q => exact Or.inr ⟨q.1, q.2.1, q.2.2.1, q.2.2.2.1, q.2.2.2.2.1, q.2.2.2.2.2, rfl, h⟩
def it6 {A1 A2 A3 A4 A5 A6 ρ : Type} (F : (A1 → A2 → A3 → A4 → A5 → A6 → Option ρ) → A1 → A2 → A3 → A4 → A5 → A6 → Option ρ) : Nat → A1 → A2 → A3 → A4 → A5 → A6 → Option ρ
  | 0, _, _, _, _, _, _ => none
  | n + 1, x1, x2, x3, x4, x5, x6 => F (it6 F n) x1 x2 x3 x4 x5 x6
theorem it6_e {A1 A2 A3 A4 A5 A6 ρ : Type} {F : (A1 → A2 → A3 → A4 → A5 → A6 → Option ρ) → A1 → A2 → A3 → A4 → A5 → A6 → Option ρ} {r : ρ} (I : A1 → A2 → A3 → A4 → A5 → A6 → Prop) (hs : ∀ g : A1 → A2 → A3 → A4 → A5 → A6 → Option ρ, (∀ (x1 : A1) (x2 : A2) (x3 : A3) (x4 : A4) (x5 : A5) (x6 : A6), g x1 x2 x3 x4 x5 x6 = some r → I x1 x2 x3 x4 x5 x6) → ∀ (x1 : A1) (x2 : A2) (x3 : A3) (x4 : A4) (x5 : A5) (x6 : A6), F g x1 x2 x3 x4 x5 x6 = some r → I x1 x2 x3 x4 x5 x6) : ∀ (n : Nat) (x1 : A1) (x2 : A2) (x3 : A3) (x4 : A4) (x5 : A5) (x6 : A6), it6 F n x1 x2 x3 x4 x5 x6 = some r → I x1 x2 x3 x4 x5 x6
  | 0, _, _, _, _, _, _, h => by cases h
  | n + 1, x1, x2, x3, x4, x5, x6, h => hs (it6 F n) (it6_e I hs n) x1 x2 x3 x4 x5 x6 h
def jn6 {A1 A2 A3 A4 A5 A6 ρ : Type} (rest : A1 → A2 → A3 → A4 → A5 → A6 → Option ρ) (body : (A1 → A2 → A3 → A4 → A5 → A6 → Option ρ) → Option ρ) : Option ρ := body rest
theorem jn6_e {A1 A2 A3 A4 A5 A6 ρ : Type} {rest : A1 → A2 → A3 → A4 → A5 → A6 → Option ρ} {body : (A1 → A2 → A3 → A4 → A5 → A6 → Option ρ) → Option ρ} {r : ρ} {G : Prop} (J : A1 → A2 → A3 → A4 → A5 → A6 → Prop) (h : jn6 rest body = some r) (hJ : ∀ (x1 : A1) (x2 : A2) (x3 : A3) (x4 : A4) (x5 : A5) (x6 : A6), rest x1 x2 x3 x4 x5 x6 = some r → J x1 x2 x3 x4 x5 x6) (hB : ∀ g : A1 → A2 → A3 → A4 → A5 → A6 → Option ρ, (∀ (x1 : A1) (x2 : A2) (x3 : A3) (x4 : A4) (x5 : A5) (x6 : A6), g x1 x2 x3 x4 x5 x6 = some r → J x1 x2 x3 x4 x5 x6) → body g = some r → G) : G := hB rest hJ h
def bd7 {A1 A2 A3 A4 A5 A6 A7 ρ : Type} (x : Option (A1 × A2 × A3 × A4 × A5 × A6 × A7)) (k : A1 → A2 → A3 → A4 → A5 → A6 → A7 → Option ρ) : Option ρ := x.bind (fun q => k q.1 q.2.1 q.2.2.1 q.2.2.2.1 q.2.2.2.2.1 q.2.2.2.2.2.1 q.2.2.2.2.2.2)
theorem bd7_e {A1 A2 A3 A4 A5 A6 A7 ρ : Type} {x : Option (A1 × A2 × A3 × A4 × A5 × A6 × A7)} {k : A1 → A2 → A3 → A4 → A5 → A6 → A7 → Option ρ} {r : ρ} (h : bd7 x k = some r) : ∃ (x1 : A1) (x2 : A2) (x3 : A3) (x4 : A4) (x5 : A5) (x6 : A6) (x7 : A7), x = some (x1, x2, x3, x4, x5, x6, x7) ∧ k x1 x2 x3 x4 x5 x6 x7 = some r := by
  unfold bd7 at h
  cases x with
  | none => cases h
  | some q => exact ⟨q.1, q.2.1, q.2.2.1, q.2.2.2.1, q.2.2.2.2.1, q.2.2.2.2.2.1, q.2.2.2.2.2.2, rfl, h⟩
def bx7 {A1 A2 A3 A4 A5 A6 A7 ρ : Type} (x : Option (String ⊕ (A1 × A2 × A3 × A4 × A5 × A6 × A7))) (k : A1 → A2 → A3 → A4 → A5 → A6 → A7 → Option (String ⊕ ρ)) : Option (String ⊕ ρ) := match x with
  | none => none
  | some (.inl E) => some (.inl E)
  | some (.inr q) => k q.1 q.2.1 q.2.2.1 q.2.2.2.1 q.2.2.2.2.1 q.2.2.2.2.2.1 q.2.2.2.2.2.2
theorem bx7_e {A1 A2 A3 A4 A5 A6 A7 ρ : Type} {x : Option (String ⊕ (A1 × A2 × A3 × A4 × A5 × A6 × A7))} {k : A1 → A2 → A3 → A4 → A5 → A6 → A7 → Option (String ⊕ ρ)} {r : String ⊕ ρ} (h : bx7 x k = some r) : (∃ E : String, x = some (.inl E) ∧ r = .inl E) ∨ ∃ (x1 : A1) (x2 : A2) (x3 : A3) (x4 : A4) (x5 : A5) (x6 : A6) (x7 : A7), x = some (.inr (x1, x2, x3, x4, x5, x6, x7)) ∧ k x1 x2 x3 x4 x5 x6 x7 = some r := by
  unfold bx7 at h
  cases x with
  | none => cases h
  | some q =>
    cases q with
    | inl E => exact Or.inl ⟨E, rfl, (Option.some.inj h).symm⟩
    | inr q => exact Or.inr ⟨q.1, q.2.1, q.2.2.1, q.2.2.2.1, q.2.2.2.2.1, q.2.2.2.2.2.1, q.2.2.2.2.2.2, rfl, h⟩
def it7 {A1 A2 A3 A4 A5 A6 A7 ρ : Type} (F : (A1 → A2 → A3 → A4 → A5 → A6 → A7 → Option ρ) → A1 → A2 → A3 → A4 → A5 → A6 → A7 → Option ρ) : Nat → A1 → A2 → A3 → A4 → A5 → A6 → A7 → Option ρ
  | 0, _, _, _, _, _, _, _ => none
  | n + 1, x1, x2, x3, x4, x5, x6, x7 => F (it7 F n) x1 x2 x3 x4 x5 x6 x7
theorem it7_e {A1 A2 A3 A4 A5 A6 A7 ρ : Type} {F : (A1 → A2 → A3 → A4 → A5 → A6 → A7 → Option ρ) → A1 → A2 → A3 → A4 → A5 → A6 → A7 → Option ρ} {r : ρ} (I : A1 → A2 → A3 → A4 → A5 → A6 → A7 → Prop) (hs : ∀ g : A1 → A2 → A3 → A4 → A5 → A6 → A7 → Option ρ, (∀ (x1 : A1) (x2 : A2) (x3 : A3) (x4 : A4) (x5 : A5) (x6 : A6) (x7 : A7), g x1 x2 x3 x4 x5 x6 x7 = some r → I x1 x2 x3 x4 x5 x6 x7) → ∀ (x1 : A1) (x2 : A2) (x3 : A3) (x4 : A4) (x5 : A5) (x6 : A6) (x7 : A7), F g x1 x2 x3 x4 x5 x6 x7 = some r → I x1 x2 x3 x4 x5 x6 x7) : ∀ (n : Nat) (x1 : A1) (x2 : A2) (x3 : A3) (x4 : A4) (x5 : A5) (x6 : A6) (x7 : A7), it7 F n x1 x2 x3 x4 x5 x6 x7 = some r → I x1 x2 x3 x4 x5 x6 x7
  | 0, _, _, _, _, _, _, _, h => by cases h
  | n + 1, x1, x2, x3, x4, x5, x6, x7, h => hs (it7 F n) (it7_e I hs n) x1 x2 x3 x4 x5 x6 x7 h
def jn7 {A1 A2 A3 A4 A5 A6 A7 ρ : Type} (rest : A1 → A2 → A3 → A4 → A5 → A6 → A7 → Option ρ) (body : (A1 → A2 → A3 → A4 → A5 → A6 → A7 → Option ρ) → Option ρ) : Option ρ := body rest
theorem jn7_e {A1 A2 A3 A4 A5 A6 A7 ρ : Type} {rest : A1 → A2 → A3 → A4 → A5 → A6 → A7 → Option ρ} {body : (A1 → A2 → A3 → A4 → A5 → A6 → A7 → Option ρ) → Option ρ} {r : ρ} {G : Prop} (J : A1 → A2 → A3 → A4 → A5 → A6 → A7 → Prop) (h : jn7 rest body = some r) (hJ : ∀ (x1 : A1) (x2 : A2) (x3 : A3) (x4 : A4) (x5 : A5) (x6 : A6) (x7 : A7), rest x1 x2 x3 x4 x5 x6 x7 = some r → J x1 x2 x3 x4 x5 x6 x7) (hB : ∀ g : A1 → A2 → A3 → A4 → A5 → A6 → A7 → Option ρ, (∀ (x1 : A1) (x2 : A2) (x3 : A3) (x4 : A4) (x5 : A5) (x6 : A6) (x7 : A7), g x1 x2 x3 x4 x5 x6 x7 = some r → J x1 x2 x3 x4 x5 x6 x7) → body g = some r → G) : G := hB rest hJ h
def bd8 {A1 A2 A3 A4 A5 A6 A7 A8 ρ : Type} (x : Option (A1 × A2 × A3 × A4 × A5 × A6 × A7 × A8)) (k : A1 → A2 → A3 → A4 → A5 → A6 → A7 → A8 → Option ρ) : Option ρ := x.bind (fun q => k q.1 q.2.1 q.2.2.1 q.2.2.2.1 q.2.2.2.2.1 q.2.2.2.2.2.1 q.2.2.2.2.2.2.1 q.2.2.2.2.2.2.2)
theorem bd8_e {A1 A2 A3 A4 A5 A6 A7 A8 ρ : Type} {x : Option (A1 × A2 × A3 × A4 × A5 × A6 × A7 × A8)} {k : A1 → A2 → A3 → A4 → A5 → A6 → A7 → A8 → Option ρ} {r : ρ} (h : bd8 x k = some r) : ∃ (x1 : A1) (x2 : A2) (x3 : A3) (x4 : A4) (x5 : A5) (x6 : A6) (x7 : A7) (x8 : A8), x = some (x1, x2, x3, x4, x5, x6, x7, x8) ∧ k x1 x2 x3 x4 x5 x6 x7 x8 = some r := by
  unfold bd8 at h
  cases x with
  | none => cases h
  | some q => exact ⟨q.1, q.2.1, q.2.2.1, q.2.2.2.1, q.2.2.2.2.1, q.2.2.2.2.2.1, q.2.2.2.2.2.2.1, q.2.2.2.2.2.2.2, rfl, h⟩
def bx8 {A1 A2 A3 A4 A5 A6 A7 A8 ρ : Type} (x : Option (String ⊕ (A1 × A2 × A3 × A4 × A5 × A6 × A7 × A8))) (k : A1 → A2 → A3 → A4 → A5 → A6 → A7 → A8 → Option (String ⊕ ρ)) : Option (String ⊕ ρ) := match x with
  | none => none
  | some (.inl E) => some (.inl E)
  | some (.inr q) => k q.1 q.2.1 q.2.2.1 q.2.2.2.1 q.2.2.2.2.1 q.2.2.2.2.2.1 q.2.2.2.2.2.2.1 q.2.2.2.2.2.2.2
theorem bx8_e {A1 A2 A3 A4 A5 A6 A7 A8 ρ : Type} {x : Option (String ⊕ (A1 × A2 × A3 × A4 × A5 × A6 × A7 × A8))} {k : A1 → A2 → A3 → A4 → A5 → A6 → A7 → A8 → Option (String ⊕ ρ)} {r : String ⊕ ρ} (h : bx8 x k = some r) : (∃ E : String, x = some (.inl E) ∧ r = .inl E) ∨ ∃ (x1 : A1) (x2 : A2) (x3 : A3) (x4 : A4) (x5 : A5) (x6 : A6) (x7 : A7) (x8 : A8), x = some (.inr (x1, x2, x3, x4, x5, x6, x7, x8)) ∧ k x1 x2 x3 x4 x5 x6 x7 x8 = some r := by
  unfold bx8 at h
  cases x with
  | none => cases h
  | some q =>
    cases q with
    | inl E => exact Or.inl ⟨E, rfl, (Option.some.inj h).symm⟩
    | inr q => exact Or.inr ⟨q.1, q.2.1, q.2.2.1, q.2.2.2.1, q.2.2.2.2.1, q.2.2.2.2.2.1, q.2.2.2.2.2.2.1, q.2.2.2.2.2.2.2, rfl, h⟩
def it8 {A1 A2 A3 A4 A5 A6 A7 A8 ρ : Type} (F : (A1 → A2 → A3 → A4 → A5 → A6 → A7 → A8 → Option ρ) → A1 → A2 → A3 → A4 → A5 → A6 → A7 → A8 → Option ρ) : Nat → A1 → A2 → A3 → A4 → A5 → A6 → A7 → A8 → Option ρ
  | 0, _, _, _, _, _, _, _, _ => none
  | n + 1, x1, x2, x3, x4, x5, x6, x7, x8 => F (it8 F n) x1 x2 x3 x4 x5 x6 x7 x8
theorem it8_e {A1 A2 A3 A4 A5 A6 A7 A8 ρ : Type} {F : (A1 → A2 → A3 → A4 → A5 → A6 → A7 → A8 → Option ρ) → A1 → A2 → A3 → A4 → A5 → A6 → A7 → A8 → Option ρ} {r : ρ} (I : A1 → A2 → A3 → A4 → A5 → A6 → A7 → A8 → Prop) (hs : ∀ g : A1 → A2 → A3 → A4 → A5 → A6 → A7 → A8 → Option ρ, (∀ (x1 : A1) (x2 : A2) (x3 : A3) (x4 : A4) (x5 : A5) (x6 : A6) (x7 : A7) (x8 : A8), g x1 x2 x3 x4 x5 x6 x7 x8 = some r → I x1 x2 x3 x4 x5 x6 x7 x8) → ∀ (x1 : A1) (x2 : A2) (x3 : A3) (x4 : A4) (x5 : A5) (x6 : A6) (x7 : A7) (x8 : A8), F g x1 x2 x3 x4 x5 x6 x7 x8 = some r → I x1 x2 x3 x4 x5 x6 x7 x8) : ∀ (n : Nat) (x1 : A1) (x2 : A2) (x3 : A3) (x4 : A4) (x5 : A5) (x6 : A6) (x7 : A7) (x8 : A8), it8 F n x1 x2 x3 x4 x5 x6 x7 x8 = some r → I x1 x2 x3 x4 x5 x6 x7 x8
  | 0, _, _, _, _, _, _, _, _, h => by cases h
  | n + 1, x1, x2, x3, x4, x5, x6, x7, x8, h => hs (it8 F n) (it8_e I hs n) x1 x2 x3 x4 x5 x6 x7 x8 h
def jn8 {A1 A2 A3 A4 A5 A6 A7 A8 ρ : Type} (rest : A1 → A2 → A3 → A4 → A5 → A6 → A7 → A8 → Option ρ) (body : (A1 → A2 → A3 → A4 → A5 → A6 → A7 → A8 → Option ρ) → Option ρ) : Option ρ := body rest
theorem jn8_e {A1 A2 A3 A4 A5 A6 A7 A8 ρ : Type} {rest : A1 → A2 → A3 → A4 → A5 → A6 → A7 → A8 → Option ρ} {body : (A1 → A2 → A3 → A4 → A5 → A6 → A7 → A8 → Option ρ) → Option ρ} {r : ρ} {G : Prop} (J : A1 → A2 → A3 → A4 → A5 → A6 → A7 → A8 → Prop) (h : jn8 rest body = some r) (hJ : ∀ (x1 : A1) (x2 : A2) (x3 : A3) (x4 : A4) (x5 : A5) (x6 : A6) (x7 : A7) (x8 : A8), rest x1 x2 x3 x4 x5 x6 x7 x8 = some r → J x1 x2 x3 x4 x5 x6 x7 x8) (hB : ∀ g : A1 → A2 → A3 → A4 → A5 → A6 → A7 → A8 → Option ρ, (∀ (x1 : A1) (x2 : A2) (x3 : A3) (x4 : A4) (x5 : A5) (x6 : A6) (x7 : A7) (x8 : A8), g x1 x2 x3 x4 x5 x6 x7 x8 = some r → J x1 x2 x3 x4 x5 x6 x7 x8) → body g = some r → G) : G := hB rest hJ h
def bd9 {A1 A2 A3 A4 A5 A6 A7 A8 A9 ρ : Type} (x : Option (A1 × A2 × A3 × A4 × A5 × A6 × A7 × A8 × A9)) (k : A1 → A2 → A3 → A4 → A5 → A6 → A7 → A8 → A9 → Option ρ) : Option ρ := x.bind (fun q => k q.1 q.2.1 q.2.2.1 q.2.2.2.1 q.2.2.2.2.1 q.2.2.2.2.2.1 q.2.2.2.2.2.2.1 q.2.2.2.2.2.2.2.1 q.2.2.2.2.2.2.2.2)
theorem bd9_e {A1 A2 A3 A4 A5 A6 A7 A8 A9 ρ : Type} {x : Option (A1 × A2 × A3 × A4 × A5 × A6 × A7 × A8 × A9)} {k : A1 → A2 → A3 → A4 → A5 → A6 → A7 → A8 → A9 → Option ρ} {r : ρ} (h : bd9 x k = some r) : ∃ (x1 : A1) (x2 : A2) (x3 : A3) (x4 : A4) (x5 : A5) (x6 : A6) (x7 : A7) (x8 : A8) (x9 : A9), x = some (x1, x2, x3, x4, x5, x6, x7, x8, x9) ∧ k x1 x2 x3 x4 x5 x6 x7 x8 x9 = some r := by
  unfold bd9 at h
  cases x with
  | none => cases h
  | some q => exact ⟨q.1, q.2.1, q.2.2.1, q.2.2.2.1, q.2.2.2.2.1, q.2.2.2.2.2.1, q.2.2.2.2.2.2.1, q.2.2.2.2.2.2.2.1, q.2.2.2.2.2.2.2.2, rfl, h⟩
def bx9 {A1 A2 A3 A4 A5 A6 A7 A8 A9 ρ : Type} (x : Option (String ⊕ (A1 × A2 × A3 × A4 × A5 × A6 × A7 × A8 × A9))) (k : A1 → A2 → A3 → A4 → A5 → A6 → A7 → A8 → A9 → Option (String ⊕ ρ)) : Option (String ⊕ ρ) := match x with
  | none => none
  | some (.inl E) => some (.inl E)
  | some (.inr q) => k q.1 q.2.1 q.2.2.1 q.2.2.2.1 q.2.2.2.2.1 q.2.2.2.2.2.1 q.2.2.2.2.2.2.1 q.2.2.2.2.2.2.2.1 q.2.2.2.2.2.2.2.2
theorem bx9_e {A1 A2 A3 A4 A5 A6 A7 A8 A9 ρ : Type} {x : Option (String ⊕ (A1 × A2 × A3 × A4 × A5 × A6 × A7 × A8 × A9))} {k : A1 → A2 → A3 → A4 → A5 → A6 → A7 → A8 → A9 → Option (String ⊕ ρ)} {r : String ⊕ ρ} (h : bx9 x k = some r) : (∃ E : String, x = some (.inl E) ∧ r = .inl E) ∨ ∃ (x1 : A1) (x2 : A2) (x3 : A3) (x4 : A4) (x5 : A5) (x6 : A6) (x7 : A7) (x8 : A8) (x9 : A9), x = some (.inr (x1, x2, x3, x4, x5, x6, x7, x8, x9)) ∧ k x1 x2 x3 x4 x5 x6 x7 x8 x9 = some r := by
  unfold bx9 at h
  cases x with
  | none => cases h
  | some q =>
    cases q with
    | inl E => exact Or.inl ⟨E, rfl, (Option.some.inj h).symm⟩
    | inr q => exact Or.inr ⟨q.1, q.2.1, q.2.2.1, q.2.2.2.1, q.2.2.2.2.1, q.2.2.2.2.2.1, q.2.2.2.2.2.2.1, q.2.2.2.2.2.2.2.1, q.2.2.2.2.2.2.2.2, rfl, h⟩
def it9 {A1 A2 A3 A4 A5 A6 A7 A8 A9 ρ : Type} (F : (A1 → A2 → A3 → A4 → A5 → A6 → A7 → A8 → A9 → Option ρ) → A1 → A2 → A3 → A4 → A5 → A6 → A7 → A8 → A9 → Option ρ) : Nat → A1 → A2 → A3 → A4 → A5 → A6 → A7 → A8 → A9 → Option ρ
  | 0, _, _, _, _, _, _, _, _, _ => none
  | n + 1, x1, x2, x3, x4, x5, x6, x7, x8, x9 => F (it9 F n) x1 x2 x3 x4 x5 x6 x7 x8 x9
theorem it9_e {A1 A2 A3 A4 A5 A6 A7 A8 A9 ρ : Type} {F : (A1 → A2 → A3 → A4 → A5 → A6 → A7 → A8 → A9 → Option ρ) → A1 → A2 → A3 → A4 → A5 → A6 → A7 → A8 → A9 → Option ρ} {r : ρ} (I : A1 → A2 → A3 → A4 → A5 → A6 → A7 → A8 → A9 → Prop) (hs : ∀ g : A1 → A2 → A3 → A4 → A5 → A6 → A7 → A8 → A9 → Option ρ, (∀ (x1 : A1) (x2 : A2) (x3 : A3) (x4 : A4) (x5 : A5) (x6 : A6) (x7 : A7) (x8 : A8) (x9 : A9), g x1 x2 x3 x4 x5 x6 x7 x8 x9 = some r → I x1 x2 x3 x4 x5 x6 x7 x8 x9) → ∀ (x1 : A1) (x2 : A2) (x3 : A3) (x4 : A4) (x5 : A5) (x6 : A6) (x7 : A7) (x8 : A8) (x9 : A9), F g x1 x2 x3 x4 x5 x6 x7 x8 x9 = some r → I x1 x2 x3 x4 x5 x6 x7 x8 x9) : ∀ (n : Nat) (x1 : A1) (x2 : A2) (x3 : A3) (x4 : A4) (x5 : A5) (x6 : A6) (x7 : A7) (x8 : A8) (x9 : A9), it9 F n x1 x2 x3 x4 x5 x6 x7 x8 x9 = some r → I x1 x2 x3 x4 x5 x6 x7 x8 x9
  | 0, _, _, _, _, _, _, _, _, _, h => by cases h
  | n + 1, x1, x2, x3, x4, x5, x6, x7, x8, x9, h => hs (it9 F n) (it9_e I hs n) x1 x2 x3 x4 x5 x6 x7 x8 x9 h
def jn9 {A1 A2 A3 A4 A5 A6 A7 A8 A9 ρ : Type} (rest : A1 → A2 → A3 → A4 → A5 → A6 → A7 → A8 → A9 → Option ρ) (body : (A1 → A2 → A3 → A4 → A5 → A6 → A7 → A8 → A9 → Option ρ) → Option ρ) : Option ρ := body rest
theorem jn9_e {A1 A2 A3 A4 A5 A6 A7 A8 A9 ρ : Type} {rest : A1 → A2 → A3 → A4 → A5 → A6 → A7 → A8 → A9 → Option ρ} {body : (A1 → A2 → A3 → A4 → A5 → A6 → A7 → A8 → A9 → Option ρ) → Option ρ} {r : ρ} {G : Prop} (J : A1 → A2 → A3 → A4 → A5 → A6 → A7 → A8 → A9 → Prop) (h : jn9 rest body = some r) (hJ : ∀ (x1 : A1) (x2 : A2) (x3 : A3) (x4 : A4) (x5 : A5) (x6 : A6) (x7 : A7) (x8 : A8) (x9 : A9), rest x1 x2 x3 x4 x5 x6 x7 x8 x9 = some r → J x1 x2 x3 x4 x5 x6 x7 x8 x9) (hB : ∀ g : A1 → A2 → A3 → A4 → A5 → A6 → A7 → A8 → A9 → Option ρ, (∀ (x1 : A1) (x2 : A2) (x3 : A3) (x4 : A4) (x5 : A5) (x6 : A6) (x7 : A7) (x8 : A8) (x9 : A9), g x1 x2 x3 x4 x5 x6 x7 x8 x9 = some r → J x1 x2 x3 x4 x5 x6 x7 x8 x9) → body g = some r → G) : G := hB rest hJ h
def bd10 {A1 A2 A3 A4 A5 A6 A7 A8 A9 A10 ρ : Type} (x : Option (A1 × A2 × A3 × A4 × A5 × A6 × A7 × A8 × A9 × A10)) (k : A1 → A2 → A3 → A4 → A5 → A6 → A7 → A8 → A9 → A10 → Option ρ) : Option ρ := x.bind (fun q => k q.1 q.2.1 q.2.2.1 q.2.2.2.1 q.2.2.2.2.1 q.2.2.2.2.2.1 q.2.2.2.2.2.2.1 q.2.2.2.2.2.2.2.1 q.2.2.2.2.2.2.2.2.1 q.2.2.2.2.2.2.2.2.2)
theorem bd10_e {A1 A2 A3 A4 A5 A6 A7 A8 A9 A10 ρ : Type} {x : Option (A1 × A2 × A3 × A4 × A5 × A6 × A7 × A8 × A9 × A10)} {k : A1 → A2 → A3 → A4 → A5 → A6 → A7 → A8 → A9 → A10 → Option ρ} {r : ρ} (h : bd10 x k = some r) : ∃ (x1 : A1) (x2 : A2) (x3 : A3) (x4 : A4) (x5 : A5) (x6 : A6) (x7 : A7) (x8 : A8) (x9 : A9) (x10 : A10), x = some (x1, x2, x3, x4, x5, x6, x7, x8, x9, x10) ∧ k x1 x2 x3 x4 x5 x6 x7 x8 x9 x10 = some r := by
  unfold bd10 at h
  cases x with
  | none => cases h
  | some q => exact ⟨q.1, q.2.1, q.2.2.1, q.2.2.2.1, q.2.2.2.2.1, q.2.2.2.2.2.1, q.2.2.2.2.2.2.1, q.2.2.2.2.2.2.2.1, q.2.2.2.2.2.2.2.2.1, q.2.2.2.2.2.2.2.2.2, rfl, h⟩
def bx10 {A1 A2 A3 A4 A5 A6 A7 A8 A9 A10 ρ : Type} (x : Option (String ⊕ (A1 × A2 × A3 × A4 × A5 × A6 × A7 × A8 × A9 × A10))) (k : A1 → A2 → A3 → A4 → A5 → A6 → A7 → A8 → A9 → A10 → Option (String ⊕ ρ)) : Option (String ⊕ ρ) := match x with
  | none => none
  | some (.inl E) => some (.inl E)
  | some (.inr q) => k q.1 q.2.1 q.2.2.1 q.2.2.2.1 q.2.2.2.2.1 q.2.2.2.2.2.1 q.2.2.2.2.2.2.1 q.2.2.2.2.2.2.2.1 q.2.2.2.2.2.2.2.2.1 q.2.2.2.2.2.2.2.2.2
theorem bx10_e {A1 A2 A3 A4 A5 A6 A7 A8 A9 A10 ρ : Type} {x : Option (String ⊕ (A1 × A2 × A3 × A4 × A5 × A6 × A7 × A8 × A9 × A10))} {k : A1 → A2 → A3 → A4 → A5 → A6 → A7 → A8 → A9 → A10 → Option (String ⊕ ρ)} {r : String ⊕ ρ} (h : bx10 x k = some r) : (∃ E : String, x = some (.inl E) ∧ r = .inl E) ∨ ∃ (x1 : A1) (x2 : A2) (x3 : A3) (x4 : A4) (x5 : A5) (x6 : A6) (x7 : A7) (x8 : A8) (x9 : A9) (x10 : A10), x = some (.inr (x1, x2, x3, x4, x5, x6, x7, x8, x9, x10)) ∧ k x1 x2 x3 x4 x5 x6 x7 x8 x9 x10 = some r := by
  unfold bx10 at h
  cases x with
  | none => cases h
  | some q =>
    cases q with
    | inl E => exact Or.inl ⟨E, rfl, (Option.some.inj h).symm⟩
    | inr q => exact Or.inr ⟨q.1, q.2.1, q.2.2.1, q.2.2.2.1, q.2.2.2.2.1, q.2.2.2.2.2.1, q.2.2.2.2.2.2.1, q.2.2.2.2.2.2.2.1, q.2.2.2.2.2.2.2.2.1, q.2.2.2.2.2.2.2.2.2, rfl, h⟩
def it10 {A1 A2 A3 A4 A5 A6 A7 A8 A9 A10 ρ : Type} (F : (A1 → A2 → A3 → A4 → A5 → A6 → A7 → A8 → A9 → A10 → Option ρ) → A1 → A2 → A3 → A4 → A5 → A6 → A7 → A8 → A9 → A10 → Option ρ) : Nat → A1 → A2 → A3 → A4 → A5 → A6 → A7 → A8 → A9 → A10 → Option ρ
  | 0, _, _, _, _, _, _, _, _, _, _ => none
  | n + 1, x1, x2, x3, x4, x5, x6, x7, x8, x9, x10 => F (it10 F n) x1 x2 x3 x4 x5 x6 x7 x8 x9 x10
theorem it10_e {A1 A2 A3 A4 A5 A6 A7 A8 A9 A10 ρ : Type} {F : (A1 → A2 → A3 → A4 → A5 → A6 → A7 → A8 → A9 → A10 → Option ρ) → A1 → A2 → A3 → A4 → A5 → A6 → A7 → A8 → A9 → A10 → Option ρ} {r : ρ} (I : A1 → A2 → A3 → A4 → A5 → A6 → A7 → A8 → A9 → A10 → Prop) (hs : ∀ g : A1 → A2 → A3 → A4 → A5 → A6 → A7 → A8 → A9 → A10 → Option ρ, (∀ (x1 : A1) (x2 : A2) (x3 : A3) (x4 : A4) (x5 : A5) (x6 : A6) (x7 : A7) (x8 : A8) (x9 : A9) (x10 : A10), g x1 x2 x3 x4 x5 x6 x7 x8 x9 x10 = some r → I x1 x2 x3 x4 x5 x6 x7 x8 x9 x10) → ∀ (x1 : A1) (x2 : A2) (x3 : A3) (x4 : A4) (x5 : A5) (x6 : A6) (x7 : A7) (x8 : A8) (x9 : A9) (x10 : A10), F g x1 x2 x3 x4 x5 x6 x7 x8 x9 x10 = some r → I x1 x2 x3 x4 x5 x6 x7 x8 x9 x10) : ∀ (n : Nat) (x1 : A1) (x2 : A2) (x3 : A3) (x4 : A4) (x5 : A5) (x6 : A6) (x7 : A7) (x8 : A8) (x9 : A9) (x10 : A10), it10 F n x1 x2 x3 x4 x5 x6 x7 x8 x9 x10 = some r → I x1 x2 x3 x4 x5 x6 x7 x8 x9 x10
  | 0, _, _, _, _, _, _, _, _, _, _, h => by cases h
  | n + 1, x1, x2, x3, x4, x5, x6, x7, x8, x9, x10, h => hs (it10 F n) (it10_e I hs n) x1 x2 x3 x4 x5 x6 x7 x8 x9 x10 h
def jn10 {A1 A2 A3 A4 A5 A6 A7 A8 A9 A10 ρ : Type} (rest : A1 → A2 → A3 → A4 → A5 → A6 → A7 → A8 → A9 → A10 → Option ρ) (body : (A1 → A2 → A3 → A4 → A5 → A6 → A7 → A8 → A9 → A10 → Option ρ) → Option ρ) : Option ρ := body rest
theorem jn10_e {A1 A2 A3 A4 A5 A6 A7 A8 A9 A10 ρ : Type} {rest : A1 → A2 → A3 → A4 → A5 → A6 → A7 → A8 → A9 → A10 → Option ρ} {body : (A1 → A2 → A3 → A4 → A5 → A6 → A7 → A8 → A9 → A10 → Option ρ) → Option ρ} {r : ρ} {G : Prop} (J : A1 → A2 → A3 → A4 → A5 → A6 → A7 → A8 → A9 → A10 → Prop) (h : jn10 rest body = some r) (hJ : ∀ (x1 : A1) (x2 : A2) (x3 : A3) (x4 : A4) (x5 : A5) (x6 : A6) (x7 : A7) (x8 : A8) (x9 : A9) (x10 : A10), rest x1 x2 x3 x4 x5 x6 x7 x8 x9 x10 = some r → J x1 x2 x3 x4 x5 x6 x7 x8 x9 x10) (hB : ∀ g : A1 → A2 → A3 → A4 → A5 → A6 → A7 → A8 → A9 → A10 → Option ρ, (∀ (x1 : A1) (x2 : A2) (x3 : A3) (x4 : A4) (x5 : A5) (x6 : A6) (x7 : A7) (x8 : A8) (x9 : A9) (x10 : A10), g x1 x2 x3 x4 x5 x6 x7 x8 x9 x10 = some r → J x1 x2 x3 x4 x5 x6 x7 x8 x9 x10) → body g = some r → G) : G := hB rest hJ h
def bd11 {A1 A2 A3 A4 A5 A6 A7 A8 A9 A10 A11 ρ : Type} (x : Option (A1 × A2 × A3 × A4 × A5 × A6 × A7 × A8 × A9 × A10 × A11)) (k : A1 → A2 → A3 → A4 → A5 → A6 → A7 → A8 → A9 → A10 → A11 → Option ρ) : Option ρ := x.bind (fun q => k q.1 q.2.1 q.2.2.1 q.2.2.2.1 q.2.2.2.2.1 q.2.2.2.2.2.1 q.2.2.2.2.2.2.1 q.2.2.2.2.2.2.2.1 q.2.2.2.2.2.2.2.2.1 q.2.2.2.2.2.2.2.2.2.1 q.2.2.2.2.2.2.2.2.2.2)
theorem bd11_e {A1 A2 A3 A4 A5 A6 A7 A8 A9 A10 A11 ρ : Type} {x : Option (A1 × A2 × A3 × A4 × A5 × A6 × A7 × A8 × A9 × A10 × A11)} {k : A1 → A2 → A3 → A4 → A5 → A6 → A7 → A8 → A9 → A10 → A11 → Option ρ} {r : ρ} (h : bd11 x k = some r) : ∃ (x1 : A1) (x2 : A2) (x3 : A3) (x4 : A4) (x5 : A5) (x6 : A6) (x7 : A7) (x8 : A8) (x9 : A9) (x10 : A10) (x11 : A11), x = some (x1, x2, x3, x4, x5, x6, x7, x8, x9, x10, x11) ∧ k x1 x2 x3 x4 x5 x6 x7 x8 x9 x10 x11 = some r := by
  unfold bd11 at h
  cases x with
  | none => cases h
  | some q => exact ⟨q.1, q.2.1, q.2.2.1, q.2.2.2.1, q.2.2.2.2.1, q.2.2.2.2.2.1, q.2.2.2.2.2.2.1, q.2.2.2.2.2.2.2.1, q.2.2.2.2.2.2.2.2.1, q.2.2.2.2.2.2.2.2.2.1, q.2.2.2.2.2.2.2.2.2.2, rfl, h⟩
def bx11 {A1 A2 A3 A4 A5 A6 A7 A8 A9 A10 A11 ρ : Type} (x : Option (String ⊕ (A1 × A2 × A3 × A4 × A5 × A6 × A7 × A8 × A9 × A10 × A11))) (k : A1 → A2 → A3 → A4 → A5 → A6 → A7 → A8 → A9 → A10 → A11 → Option (String ⊕ ρ)) : Option (String ⊕ ρ) := match x with
  | none => none
  | some (.inl E) => some (.inl E)
  | some (.inr q) => k q.1 q.2.1 q.2.2.1 q.2.2.2.1 q.2.2.2.2.1 q.2.2.2.2.2.1 q.2.2.2.2.2.2.1 q.2.2.2.2.2.2.2.1 q.2.2.2.2.2.2.2.2.1 q.2.2.2.2.2.2.2.2.2.1 q.2.2.2.2.2.2.2.2.2.2
theorem bx11_e {A1 A2 A3 A4 A5 A6 A7 A8 A9 A10 A11 ρ : Type} {x : Option (String ⊕ (A1 × A2 × A3 × A4 × A5 × A6 × A7 × A8 × A9 × A10 × A11))} {k : A1 → A2 → A3 → A4 → A5 → A6 → A7 → A8 → A9 → A10 → A11 → Option (String ⊕ ρ)} {r : String ⊕ ρ} (h : bx11 x k = some r) : (∃ E : String, x = some (.inl E) ∧ r = .inl E) ∨ ∃ (x1 : A1) (x2 : A2) (x3 : A3) (x4 : A4) (x5 : A5) (x6 : A6) (x7 : A7) (x8 : A8) (x9 : A9) (x10 : A10) (x11 : A11), x = some (.inr (x1, x2, x3, x4, x5, x6, x7, x8, x9, x10, x11)) ∧ k x1 x2 x3 x4 x5 x6 x7 x8 x9 x10 x11 = some r := by
  unfold bx11 at h
  cases x with
  | none => cases h
  | some q =>
    cases q with
    | inl E => exact Or.inl ⟨E, rfl, (Option.some.inj h).symm⟩
    | inr q => exact Or.inr ⟨q.1, q.2.1, q.2.2.1, q.2.2.2.1, q.2.2.2.2.1, q.2.2.2.2.2.1, q.2.2.2.2.2.2.1, q.2.2.2.2.2.2.2.1, q.2.2.2.2.2.2.2.2.1, q.2.2.2.2.2.2.2.2.2.1, q.2.2.2.2.2.2.2.2.2.2, rfl, h⟩
def it11 {A1 A2 A3 A4 A5 A6 A7 A8 A9 A10 A11 ρ : Type} (F : (A1 → A2 → A3 → A4 → A5 → A6 → A7 → A8 → A9 → A10 → A11 → Option ρ) → A1 → A2 → A3 → A4 → A5 → A6 → A7 → A8 → A9 → A10 → A11 → Option ρ) : Nat → A1 → A2 → A3 → A4 → A5 → A6 → A7 → A8 → A9 → A10 → A11 → Option ρ
  | 0, _, _, _, _, _, _, _, _, _, _, _ => none
  | n + 1, x1, x2, x3, x4, x5, x6, x7, x8, x9, x10, x11 => F (it11 F n) x1 x2 x3 x4 x5 x6 x7 x8 x9 x10 x11
theorem it11_e {A1 A2 A3 A4 A5 A6 A7 A8 A9 A10 A11 ρ : Type} {F : (A1 → A2 → A3 → A4 → A5 → A6 → A7 → A8 → A9 → A10 → A11 → Option ρ) → A1 → A2 → A3 → A4 → A5 → A6 → A7 → A8 → A9 → A10 → A11 → Option ρ} {r : ρ} (I : A1 → A2 → A3 → A4 → A5 → A6 → A7 → A8 → A9 → A10 → A11 → Prop) (hs : ∀ g : A1 → A2 → A3 → A4 → A5 → A6 → A7 → A8 → A9 → A10 → A11 → Option ρ, (∀ (x1 : A1) (x2 : A2) (x3 : A3) (x4 : A4) (x5 : A5) (x6 : A6) (x7 : A7) (x8 : A8) (x9 : A9) (x10 : A10) (x11 : A11), g x1 x2 x3 x4 x5 x6 x7 x8 x9 x10 x11 = some r → I x1 x2 x3 x4 x5 x6 x7 x8 x9 x10 x11) → ∀ (x1 : A1) (x2 : A2) (x3 : A3) (x4 : A4) (x5 : A5) (x6 : A6) (x7 : A7) (x8 : A8) (x9 : A9) (x10 : A10) (x11 : A11), F g x1 x2 x3 x4 x5 x6 x7 x8 x9 x10 x11 = some r → I x1 x2 x3 x4 x5 x6 x7 x8 x9 x10 x11) : ∀ (n : Nat) (x1 : A1) (x2 : A2) (x3 : A3) (x4 : A4) (x5 : A5) (x6 : A6) (x7 : A7) (x8 : A8) (x9 : A9) (x10 : A10) (x11 : A11), it11 F n x1 x2 x3 x4 x5 x6 x7 x8 x9 x10 x11 = some r → I x1 x2 x3 x4 x5 x6 x7 x8 x9 x10 x11
  | 0, _, _, _, _, _, _, _, _, _, _, _, h => by cases h
  | n + 1, x1, x2, x3, x4, x5, x6, x7, x8, x9, x10, x11, h => hs (it11 F n) (it11_e I hs n) x1 x2 x3 x4 x5 x6 x7 x8 x9 x10 x11 h
def jn11 {A1 A2 A3 A4 A5 A6 A7 A8 A9 A10 A11 ρ : Type} (rest : A1 → A2 → A3 → A4 → A5 → A6 → A7 → A8 → A9 → A10 → A11 → Option ρ) (body : (A1 → A2 → A3 → A4 → A5 → A6 → A7 → A8 → A9 → A10 → A11 → Option ρ) → Option ρ) : Option ρ := body rest
theorem jn11_e {A1 A2 A3 A4 A5 A6 A7 A8 A9 A10 A11 ρ : Type} {rest : A1 → A2 → A3 → A4 → A5 → A6 → A7 → A8 → A9 → A10 → A11 → Option ρ} {body : (A1 → A2 → A3 → A4 → A5 → A6 → A7 → A8 → A9 → A10 → A11 → Option ρ) → Option ρ} {r : ρ} {G : Prop} (J : A1 → A2 → A3 → A4 → A5 → A6 → A7 → A8 → A9 → A10 → A11 → Prop) (h : jn11 rest body = some r) (hJ : ∀ (x1 : A1) (x2 : A2) (x3 : A3) (x4 : A4) (x5 : A5) (x6 : A6) (x7 : A7) (x8 : A8) (x9 : A9) (x10 : A10) (x11 : A11), rest x1 x2 x3 x4 x5 x6 x7 x8 x9 x10 x11 = some r → J x1 x2 x3 x4 x5 x6 x7 x8 x9 x10 x11) (hB : ∀ g : A1 → A2 → A3 → A4 → A5 → A6 → A7 → A8 → A9 → A10 → A11 → Option ρ, (∀ (x1 : A1) (x2 : A2) (x3 : A3) (x4 : A4) (x5 : A5) (x6 : A6) (x7 : A7) (x8 : A8) (x9 : A9) (x10 : A10) (x11 : A11), g x1 x2 x3 x4 x5 x6 x7 x8 x9 x10 x11 = some r → J x1 x2 x3 x4 x5 x6 x7 x8 x9 x10 x11) → body g = some r → G) : G := hB rest hJ h
def bd12 {A1 A2 A3 A4 A5 A6 A7 A8 A9 A10 A11 A12 ρ : Type} (x : Option (A1 × A2 × A3 × A4 × A5 × A6 × A7 × A8 × A9 × A10 × A11 × A12)) (k : A1 → A2 → A3 → A4 → A5 → A6 → A7 → A8 → A9 → A10 → A11 → A12 → Option ρ) : Option ρ := x.bind (fun q => k q.1 q.2.1 q.2.2.1 q.2.2.2.1 q.2.2.2.2.1 q.2.2.2.2.2.1 q.2.2.2.2.2.2.1 q.2.2.2.2.2.2.2.1 q.2.2.2.2.2.2.2.2.1 q.2.2.2.2.2.2.2.2.2.1 q.2.2.2.2.2.2.2.2.2.2.1 q.2.2.2.2.2.2.2.2.2.2.2)
theorem bd12_e {A1 A2 A3 A4 A5 A6 A7 A8 A9 A10 A11 A12 ρ : Type} {x : Option (A1 × A2 × A3 × A4 × A5 × A6 × A7 × A8 × A9 × A10 × A11 × A12)} {k : A1 → A2 → A3 → A4 → A5 → A6 → A7 → A8 → A9 → A10 → A11 → A12 → Option ρ} {r : ρ} (h : bd12 x k = some r) : ∃ (x1 : A1) (x2 : A2) (x3 : A3) (x4 : A4) (x5 : A5) (x6 : A6) (x7 : A7) (x8 : A8) (x9 : A9) (x10 : A10) (x11 : A11) (x12 : A12), x = some (x1, x2, x3, x4, x5, x6, x7, x8, x9, x10, x11, x12) ∧ k x1 x2 x3 x4 x5 x6 x7 x8 x9 x10 x11 x12 = some r := by
  unfold bd12 at h
  cases x with
  | none => cases h
  | some q => exact ⟨q.1, q.2.1, q.2.2.1, q.2.2.2.1, q.2.2.2.2.1, q.2.2.2.2.2.1, q.2.2.2.2.2.2.1, q.2.2.2.2.2.2.2.1, q.2.2.2.2.2.2.2.2.1, q.2.2.2.2.2.2.2.2.2.1, q.2.2.2.2.2.2.2.2.2.2.1, q.2.2.2.2.2.2.2.2.2.2.2, rfl, h⟩
def bx12 {A1 A2 A3 A4 A5 A6 A7 A8 A9 A10 A11 A12 ρ : Type} (x : Option (String ⊕ (A1 × A2 × A3 × A4 × A5 × A6 × A7 × A8 × A9 × A10 × A11 × A12))) (k : A1 → A2 → A3 → A4 → A5 → A6 → A7 → A8 → A9 → A10 → A11 → A12 → Option (String ⊕ ρ)) : Option (String ⊕ ρ) := match x with
  | none => none
  | some (.inl E) => some (.inl E)
  | some (.inr q) => k q.1 q.2.1 q.2.2.1 q.2.2.2.1 q.2.2.2.2.1 q.2.2.2.2.2.1 q.2.2.2.2.2.2.1 q.2.2.2.2.2.2.2.1 q.2.2.2.2.2.2.2.2.1 q.2.2.2.2.2.2.2.2.2.1 q.2.2.2.2.2.2.2.2.2.2.1 q.2.2.2.2.2.2.2.2.2.2.2
theorem bx12_e {A1 A2 A3 A4 A5 A6 A7 A8 A9 A10 A11 A12 ρ : Type} {x : Option (String ⊕ (A1 × A2 × A3 × A4 × A5 × A6 × A7 × A8 × A9 × A10 × A11 × A12))} {k : A1 → A2 → A3 → A4 → A5 → A6 → A7 → A8 → A9 → A10 → A11 → A12 → Option (String ⊕ ρ)} {r : String ⊕ ρ} (h : bx12 x k = some r) : (∃ E : String, x = some (.inl E) ∧ r = .inl E) ∨ ∃ (x1 : A1) (x2 : A2) (x3 : A3) (x4 : A4) (x5 : A5) (x6 : A6) (x7 : A7) (x8 : A8) (x9 : A9) (x10 : A10) (x11 : A11) (x12 : A12), x = some (.inr (x1, x2, x3, x4, x5, x6, x7, x8, x9, x10, x11, x12)) ∧ k x1 x2 x3 x4 x5 x6 x7 x8 x9 x10 x11 x12 = some r := by
  unfold bx12 at h
  cases x with
  | none => cases h
  | some q =>
    cases q with
    | inl E => exact Or.inl ⟨E, rfl, (Option.some.inj h).symm⟩
    | inr q => exact Or.inr ⟨q.1, q.2.1, q.2.2.1, q.2.2.2.1, q.2.2.2.2.1, q.2.2.2.2.2.1, q.2.2.2.2.2.2.1, q.2.2.2.2.2.2.2.1, q.2.2.2.2.2.2.2.2.1, q.2.2.2.2.2.2.2.2.2.1, q.2.2.2.2.2.2.2.2.2.2.1, q.2.2.2.2.2.2.2.2.2.2.2, rfl, h⟩
def it12 {A1 A2 A3 A4 A5 A6 A7 A8 A9 A10 A11 A12 ρ : Type} (F : (A1 → A2 → A3 → A4 → A5 → A6 → A7 → A8 → A9 → A10 → A11 → A12 → Option ρ) → A1 → A2 → A3 → A4 → A5 → A6 → A7 → A8 → A9 → A10 → A11 → A12 → Option ρ) : Nat → A1 → A2 → A3 → A4 → A5 → A6 → A7 → A8 → A9 → A10 → A11 → A12 → Option ρ
  | 0, _, _, _, _, _, _, _, _, _, _, _, _ => none
  | n + 1, x1, x2, x3, x4, x5, x6, x7, x8, x9, x10, x11, x12 => F (it12 F n) x1 x2 x3 x4 x5 x6 x7 x8 x9 x10 x11 x12
theorem it12_e {A1 A2 A3 A4 A5 A6 A7 A8 A9 A10 A11 A12 ρ : Type} {F : (A1 → A2 → A3 → A4 → A5 → A6 → A7 → A8 → A9 → A10 → A11 → A12 → Option ρ) → A1 → A2 → A3 → A4 → A5 → A6 → A7 → A8 → A9 → A10 → A11 → A12 → Option ρ} {r : ρ} (I : A1 → A2 → A3 → A4 → A5 → A6 → A7 → A8 → A9 → A10 → A11 → A12 → Prop) (hs : ∀ g : A1 → A2 → A3 → A4 → A5 → A6 → A7 → A8 → A9 → A10 → A11 → A12 → Option ρ, (∀ (x1 : A1) (x2 : A2) (x3 : A3) (x4 : A4) (x5 : A5) (x6 : A6) (x7 : A7) (x8 : A8) (x9 : A9) (x10 : A10) (x11 : A11) (x12 : A12), g x1 x2 x3 x4 x5 x6 x7 x8 x9 x10 x11 x12 = some r → I x1 x2 x3 x4 x5 x6 x7 x8 x9 x10 x11 x12) → ∀ (x1 : A1) (x2 : A2) (x3 : A3) (x4 : A4) (x5 : A5) (x6 : A6) (x7 : A7) (x8 : A8) (x9 : A9) (x10 : A10) (x11 : A11) (x12 : A12), F g x1 x2 x3 x4 x5 x6 x7 x8 x9 x10 x11 x12 = some r → I x1 x2 x3 x4 x5 x6 x7 x8 x9 x10 x11 x12) : ∀ (n : Nat) (x1 : A1) (x2 : A2) (x3 : A3) (x4 : A4) (x5 : A5) (x6 : A6) (x7 : A7) (x8 : A8) (x9 : A9) (x10 : A10) (x11 : A11) (x12 : A12), it12 F n x1 x2 x3 x4 x5 x6 x7 x8 x9 x10 x11 x12 = some r → I x1 x2 x3 x4 x5 x6 x7 x8 x9 x10 x11 x12
  | 0, _, _, _, _, _, _, _, _, _, _, _, _, h => by cases h
  | n + 1, x1, x2, x3, x4, x5, x6, x7, x8, x9, x10, x11, x12, h => hs (it12 F n) (it12_e I hs n) x1 x2 x3 x4 x5 x6 x7 x8 x9 x10 x11 x12 h
def jn12 {A1 A2 A3 A4 A5 A6 A7 A8 A9 A10 A11 A12 ρ : Type} (rest : A1 → A2 → A3 → A4 → A5 → A6 → A7 → A8 → A9 → A10 → A11 → A12 → Option ρ) (body : (A1 → A2 → A3 → A4 → A5 → A6 → A7 → A8 → A9 → A10 → A11 → A12 → Option ρ) → Option ρ) : Option ρ := body rest
theorem jn12_e {A1 A2 A3 A4 A5 A6 A7 A8 A9 A10 A11 A12 ρ : Type} {rest : A1 → A2 → A3 → A4 → A5 → A6 → A7 → A8 → A9 → A10 → A11 → A12 → Option ρ} {body : (A1 → A2 → A3 → A4 → A5 → A6 → A7 → A8 → A9 → A10 → A11 → A12 → Option ρ) → Option ρ} {r : ρ} {G : Prop} (J : A1 → A2 → A3 → A4 → A5 → A6 → A7 → A8 → A9 → A10 → A11 → A12 → Prop) (h : jn12 rest body = some r) (hJ : ∀ (x1 : A1) (x2 : A2) (x3 : A3) (x4 : A4) (x5 : A5) (x6 : A6) (x7 : A7) (x8 : A8) (x9 : A9) (x10 : A10) (x11 : A11) (x12 : A12), rest x1 x2 x3 x4 x5 x6 x7 x8 x9 x10 x11 x12 = some r → J x1 x2 x3 x4 x5 x6 x7 x8 x9 x10 x11 x12) (hB : ∀ g : A1 → A2 → A3 → A4 → A5 → A6 → A7 → A8 → A9 → A10 → A11 → A12 → Option ρ, (∀ (x1 : A1) (x2 : A2) (x3 : A3) (x4 : A4) (x5 : A5) (x6 : A6) (x7 : A7) (x8 : A8) (x9 : A9) (x10 : A10) (x11 : A11) (x12 : A12), g x1 x2 x3 x4 x5 x6 x7 x8 x9 x10 x11 x12 = some r → J x1 x2 x3 x4 x5 x6 x7 x8 x9 x10 x11 x12) → body g = some r → G) : G := hB rest hJ h
def bd13 {A1 A2 A3 A4 A5 A6 A7 A8 A9 A10 A11 A12 A13 ρ : Type} (x : Option (A1 × A2 × A3 × A4 × A5 × A6 × A7 × A8 × A9 × A10 × A11 × A12 × A13)) (k : A1 → A2 → A3 → A4 → A5 → A6 → A7 → A8 → A9 → A10 → A11 → A12 → A13 → Option ρ) : Option ρ := x.bind (fun q => k q.1 q.2.1 q.2.2.1 q.2.2.2.1 q.2.2.2.2.1 q.2.2.2.2.2.1 q.2.2.2.2.2.2.1 q.2.2.2.2.2.2.2.1 q.2.2.2.2.2.2.2.2.1 q.2.2.2.2.2.2.2.2.2.1 q.2.2.2.2.2.2.2.2.2.2.1 q.2.2.2.2.2.2.2.2.2.2.2.1 q.2.2.2.2.2.2.2.2.2.2.2.2)
theorem bd13_e {A1 A2 A3 A4 A5 A6 A7 A8 A9 A10 A11 A12 A13 ρ : Type} {x : Option (A1 × A2 × A3 × A4 × A5 × A6 × A7 × A8 × A9 × A10 × A11 × A12 × A13)} {k : A1 → A2 → A3 → A4 → A5 → A6 → A7 → A8 → A9 → A10 → A11 → A12 → A13 → Option ρ} {r : ρ} (h : bd13 x k = some r) : ∃ (x1 : A1) (x2 : A2) (x3 : A3) (x4 : A4) (x5 : A5) (x6 : A6) (x7 : A7) (x8 : A8) (x9 : A9) (x10 : A10) (x11 : A11) (x12 : A12) (x13 : A13), x = some (x1, x2, x3, x4, x5, x6, x7, x8, x9, x10, x11, x12, x13) ∧ k x1 x2 x3 x4 x5 x6 x7 x8 x9 x10 x11 x12 x13 = some r := by
  unfold bd13 at h
  cases x with
  | none => cases h
  | some q => exact ⟨q.1, q.2.1, q.2.2.1, q.2.2.2.1, q.2.2.2.2.1, q.2.2.2.2.2.1, q.2.2.2.2.2.2.1, q.2.2.2.2.2.2.2.1, q.2.2.2.2.2.2.2.2.1, q.2.2.2.2.2.2.2.2.2.1, q.2.2.2.2.2.2.2.2.2.2.1, q.2.2.2.2.2.2.2.2.2.2.2.1, q.2.2.2.2.2.2.2.2.2.2.2.2, rfl, h⟩
def bx13 {A1 A2 A3 A4 A5 A6 A7 A8 A9 A10 A11 A12 A13 ρ : Type} (x : Option (String ⊕ (A1 × A2 × A3 × A4 × A5 × A6 × A7 × A8 × A9 × A10 × A11 × A12 × A13))) (k : A1 → A2 → A3 → A4 → A5 → A6 → A7 → A8 → A9 → A10 → A11 → A12 → A13 → Option (String ⊕ ρ)) : Option (String ⊕ ρ) := match x with
  | none => none
  | some (.inl E) => some (.inl E)
  | some (.inr q) => k q.1 q.2.1 q.2.2.1 q.2.2.2.1 q.2.2.2.2.1 q.2.2.2.2.2.1 q.2.2.2.2.2.2.1 q.2.2.2.2.2.2.2.1 q.2.2.2.2.2.2.2.2.1 q.2.2.2.2.2.2.2.2.2.1 q.2.2.2.2.2.2.2.2.2.2.1 q.2.2.2.2.2.2.2.2.2.2.2.1 q.2.2.2.2.2.2.2.2.2.2.2.2
theorem bx13_e {A1 A2 A3 A4 A5 A6 A7 A8 A9 A10 A11 A12 A13 ρ : Type} {x : Option (String ⊕ (A1 × A2 × A3 × A4 × A5 × A6 × A7 × A8 × A9 × A10 × A11 × A12 × A13))} {k : A1 → A2 → A3 → A4 → A5 → A6 → A7 → A8 → A9 → A10 → A11 → A12 → A13 → Option (String ⊕ ρ)} {r : String ⊕ ρ} (h : bx13 x k = some r) : (∃ E : String, x = some (.inl E) ∧ r = .inl E) ∨ ∃ (x1 : A1) (x2 : A2) (x3 : A3) (x4 : A4) (x5 : A5) (x6 : A6) (x7 : A7) (x8 : A8) (x9 : A9) (x10 : A10) (x11 : A11) (x12 : A12) (x13 : A13), x = some (.inr (x1, x2, x3, x4, x5, x6, x7, x8, x9, x10, x11, x12, x13)) ∧ k x1 x2 x3 x4 x5 x6 x7 x8 x9 x10 x11 x12 x13 = some r := by
  unfold bx13 at h
  cases x with
  | none => cases h
  | some q =>
    cases q with
    | inl E => exact Or.inl ⟨E, rfl, (Option.some.inj h).symm⟩
    | inr q => exact Or.inr ⟨q.1, q.2.1, q.2.2.1, q.2.2.2.1, q.2.2.2.2.1, q.2.2.2.2.2.1, q.2.2.2.2.2.2.1, q.2.2.2.2.2.2.2.1, q.2.2.2.2.2.2.2.2.1, q.2.2.2.2.2.2.2.2.2.1, q.2.2.2.2.2.2.2.2.2.2.1, q.2.2.2.2.2.2.2.2.2.2.2.1, q.2.2.2.2.2.2.2.2.2.2.2.2, rfl, h⟩
def it13 {A1 A2 A3 A4 A5 A6 A7 A8 A9 A10 A11 A12 A13 ρ : Type} (F : (A1 → A2 → A3 → A4 → A5 → A6 → A7 → A8 → A9 → A10 → A11 → A12 → A13 → Option ρ) → A1 → A2 → A3 → A4 → A5 → A6 → A7 → A8 → A9 → A10 → A11 → A12 → A13 → Option ρ) : Nat → A1 → A2 → A3 → A4 → A5 → A6 → A7 → A8 → A9 → A10 → A11 → A12 → A13 → Option ρ
  | 0, _, _, _, _, _, _, _, _, _, _, _, _, _ => none
  | n + 1, x1, x2, x3, x4, x5, x6, x7, x8, x9, x10, x11, x12, x13 => F (it13 F n) x1 x2 x3 x4 x5 x6 x7 x8 x9 x10 x11 x12 x13
theorem it13_e {A1 A2 A3 A4 A5 A6 A7 A8 A9 A10 A11 A12 A13 ρ : Type} {F : (A1 → A2 → A3 → A4 → A5 → A6 → A7 → A8 → A9 → A10 → A11 → A12 → A13 → Option ρ) → A1 → A2 → A3 → A4 → A5 → A6 → A7 → A8 → A9 → A10 → A11 → A12 → A13 → Option ρ} {r : ρ} (I : A1 → A2 → A3 → A4 → A5 → A6 → A7 → A8 → A9 → A10 → A11 → A12 → A13 → Prop) (hs : ∀ g : A1 → A2 → A3 → A4 → A5 → A6 → A7 → A8 → A9 → A10 → A11 → A12 → A13 → Option ρ, (∀ (x1 : A1) (x2 : A2) (x3 : A3) (x4 : A4) (x5 : A5) (x6 : A6) (x7 : A7) (x8 : A8) (x9 : A9) (x10 : A10) (x11 : A11) (x12 : A12) (x13 : A13), g x1 x2 x3 x4 x5 x6 x7 x8 x9 x10 x11 x12 x13 = some r → I x1 x2 x3 x4 x5 x6 x7 x8 x9 x10 x11 x12 x13) → ∀ (x1 : A1) (x2 : A2) (x3 : A3) (x4 : A4) (x5 : A5) (x6 : A6) (x7 : A7) (x8 : A8) (x9 : A9) (x10 : A10) (x11 : A11) (x12 : A12) (x13 : A13), F g x1 x2 x3 x4 x5 x6 x7 x8 x9 x10 x11 x12 x13 = some r → I x1 x2 x3 x4 x5 x6 x7 x8 x9 x10 x11 x12 x13) : ∀ (n : Nat) (x1 : A1) (x2 : A2) (x3 : A3) (x4 : A4) (x5 : A5) (x6 : A6) (x7 : A7) (x8 : A8) (x9 : A9) (x10 : A10) (x11 : A11) (x12 : A12) (x13 : A13), it13 F n x1 x2 x3 x4 x5 x6 x7 x8 x9 x10 x11 x12 x13 = some r → I x1 x2 x3 x4 x5 x6 x7 x8 x9 x10 x11 x12 x13
  | 0, _, _, _, _, _, _, _, _, _, _, _, _, _, h => by cases h
  | n + 1, x1, x2, x3, x4, x5, x6, x7, x8, x9, x10, x11, x12, x13, h => hs (it13 F n) (it13_e I hs n) x1 x2 x3 x4 x5 x6 x7 x8 x9 x10 x11 x12 x13 h
def jn13 {A1 A2 A3 A4 A5 A6 A7 A8 A9 A10 A11 A12 A13 ρ : Type} (rest : A1 → A2 → A3 → A4 → A5 → A6 → A7 → A8 → A9 → A10 → A11 → A12 → A13 → Option ρ) (body : (A1 → A2 → A3 → A4 → A5 → A6 → A7 → A8 → A9 → A10 → A11 → A12 → A13 → Option ρ) → Option ρ) : Option ρ := body rest
theorem jn13_e {A1 A2 A3 A4 A5 A6 A7 A8 A9 A10 A11 A12 A13 ρ : Type} {rest : A1 → A2 → A3 → A4 → A5 → A6 → A7 → A8 → A9 → A10 → A11 → A12 → A13 → Option ρ} {body : (A1 → A2 → A3 → A4 → A5 → A6 → A7 → A8 → A9 → A10 → A11 → A12 → A13 → Option ρ) → Option ρ} {r : ρ} {G : Prop} (J : A1 → A2 → A3 → A4 → A5 → A6 → A7 → A8 → A9 → A10 → A11 → A12 → A13 → Prop) (h : jn13 rest body = some r) (hJ : ∀ (x1 : A1) (x2 : A2) (x3 : A3) (x4 : A4) (x5 : A5) (x6 : A6) (x7 : A7) (x8 : A8) (x9 : A9) (x10 : A10) (x11 : A11) (x12 : A12) (x13 : A13), rest x1 x2 x3 x4 x5 x6 x7 x8 x9 x10 x11 x12 x13 = some r → J x1 x2 x3 x4 x5 x6 x7 x8 x9 x10 x11 x12 x13) (hB : ∀ g : A1 → A2 → A3 → A4 → A5 → A6 → A7 → A8 → A9 → A10 → A11 → A12 → A13 → Option ρ, (∀ (x1 : A1) (x2 : A2) (x3 : A3) (x4 : A4) (x5 : A5) (x6 : A6) (x7 : A7) (x8 : A8) (x9 : A9) (x10 : A10) (x11 : A11) (x12 : A12) (x13 : A13), g x1 x2 x3 x4 x5 x6 x7 x8 x9 x10 x11 x12 x13 = some r → J x1 x2 x3 x4 x5 x6 x7 x8 x9 x10 x11 x12 x13) → body g = some r → G) : G := hB rest hJ h
def bd14 {A1 A2 A3 A4 A5 A6 A7 A8 A9 A10 A11 A12 A13 A14 ρ : Type} (x : Option (A1 × A2 × A3 × A4 × A5 × A6 × A7 × A8 × A9 × A10 × A11 × A12 × A13 × A14)) (k : A1 → A2 → A3 → A4 → A5 → A6 → A7 → A8 → A9 → A10 → A11 → A12 → A13 → A14 → Option ρ) : Option ρ := x.bind (fun q => k q.1 q.2.1 q.2.2.1 q.2.2.2.1 q.2.2.2.2.1 q.2.2.2.2.2.1 q.2.2.2.2.2.2.1 q.2.2.2.2.2.2.2.1 q.2.2.2.2.2.2.2.2.1 q.2.2.2.2.2.2.2.2.2.1 q.2.2.2.2.2.2.2.2.2.2.1 q.2.2.2.2.2.2.2.2.2.2.2.1 q.2.2.2.2.2.2.2.2.2.2.2.2.1 q.2.2.2.2.2.2.2.2.2.2.2.2.2)
theorem bd14_e {A1 A2 A3 A4 A5 A6 A7 A8 A9 A10 A11 A12 A13 A14 ρ : Type} {x : Option (A1 × A2 × A3 × A4 × A5 × A6 × A7 × A8 × A9 × A10 × A11 × A12 × A13 × A14)} {k : A1 → A2 → A3 → A4 → A5 → A6 → A7 → A8 → A9 → A10 → A11 → A12 → A13 → A14 → Option ρ} {r : ρ} (h : bd14 x k = some r) : ∃ (x1 : A1) (x2 : A2) (x3 : A3) (x4 : A4) (x5 : A5) (x6 : A6) (x7 : A7) (x8 : A8) (x9 : A9) (x10 : A10) (x11 : A11) (x12 : A12) (x13 : A13) (x14 : A14), x = some (x1, x2, x3, x4, x5, x6, x7, x8, x9, x10, x11, x12, x13, x14) ∧ k x1 x2 x3 x4 x5 x6 x7 x8 x9 x10 x11 x12 x13 x14 = some r := by
  unfold bd14 at h
  cases x with
  | none => cases h
  | some q => exact ⟨q.1, q.2.1, q.2.2.1, q.2.2.2.1, q.2.2.2.2.1, q.2.2.2.2.2.1, q.2.2.2.2.2.2.1, q.2.2.2.2.2.2.2.1, q.2.2.2.2.2.2.2.2.1, q.2.2.2.2.2.2.2.2.2.1, q.2.2.2.2.2.2.2.2.2.2.1, q.2.2.2.2.2.2.2.2.2.2.2.1, q.2.2.2.2.2.2.2.2.2.2.2.2.1, q.2.2.2.2.2.2.2.2.2.2.2.2.2, rfl, h⟩
def bx14 {A1 A2 A3 A4 A5 A6 A7 A8 A9 A10 A11 A12 A13 A14 ρ : Type} (x : Option (String ⊕ (A1 × A2 × A3 × A4 × A5 × A6 × A7 × A8 × A9 × A10 × A11 × A12 × A13 × A14))) (k : A1 → A2 → A3 → A4 → A5 → A6 → A7 → A8 → A9 → A10 → A11 → A12 → A13 → A14 → Option (String ⊕ ρ)) : Option (String ⊕ ρ) := match x with
  | none => none
  | some (.inl E) => some (.inl E)
  | some (.inr q) => k q.1 q.2.1 q.2.2.1 q.2.2.2.1 q.2.2.2.2.1 q.2.2.2.2.2.1 q.2.2.2.2.2.2.1 q.2.2.2.2.2.2.2.1 q.2.2.2.2.2.2.2.2.1 q.2.2.2.2.2.2.2.2.2.1 q.2.2.2.2.2.2.2.2.2.2.1 q.2.2.2.2.2.2.2.2.2.2.2.1 q.2.2.2.2.2.2.2.2.2.2.2.2.1 q.2.2.2.2.2.2.2.2.2.2.2.2.2
theorem bx14_e {A1 A2 A3 A4 A5 A6 A7 A8 A9 A10 A11 A12 A13 A14 ρ : Type} {x : Option (String ⊕ (A1 × A2 × A3 × A4 × A5 × A6 × A7 × A8 × A9 × A10 × A11 × A12 × A13 × A14))} {k : A1 → A2 → A3 → A4 → A5 → A6 → A7 → A8 → A9 → A10 → A11 → A12 → A13 → A14 → Option (String ⊕ ρ)} {r : String ⊕ ρ} (h : bx14 x k = some r) : (∃ E : String, x = some (.inl E) ∧ r = .inl E) ∨ ∃ (x1 : A1) (x2 : A2) (x3 : A3) (x4 : A4) (x5 : A5) (x6 : A6) (x7 : A7) (x8 : A8) (x9 : A9) (x10 : A10) (x11 : A11) (x12 : A12) (x13 : A13) (x14 : A14), x = some (.inr (x1, x2, x3, x4, x5, x6, x7, x8, x9, x10, x11, x12, x13, x14)) ∧ k x1 x2 x3 x4 x5 x6 x7 x8 x9 x10 x11 x12 x13 x14 = some r := by
  unfold bx14 at h
  cases x with
  | none => cases h
  | some q =>
    cases q with
    | inl E => exact Or.inl ⟨E, rfl, (Option.some.inj h).symm⟩
    | inr q => exact Or.inr ⟨q.1, q.2.1, q.2.2.1, q.2.2.2.1, q.2.2.2.2.1, q.2.2.2.2.2.1, q.2.2.2.2.2.2.1, q.2.2.2.2.2.2.2.1, q.2.2.2.2.2.2.2.2.1, q.2.2.2.2.2.2.2.2.2.1, q.2.2.2.2.2.2.2.2.2.2.1, q.2.2.2.2.2.2.2.2.2.2.2.1, q.2.2.2.2.2.2.2.2.2.2.2.2.1, q.2.2.2.2.2.2.2.2.2.2.2.2.2, rfl, h⟩
def it14 {A1 A2 A3 A4 A5 A6 A7 A8 A9 A10 A11 A12 A13 A14 ρ : Type} (F : (A1 → A2 → A3 → A4 → A5 → A6 → A7 → A8 → A9 → A10 → A11 → A12 → A13 → A14 → Option ρ) → A1 → A2 → A3 → A4 → A5 → A6 → A7 → A8 → A9 → A10 → A11 → A12 → A13 → A14 → Option ρ) : Nat → A1 → A2 → A3 → A4 → A5 → A6 → A7 → A8 → A9 → A10 → A11 → A12 → A13 → A14 → Option ρ
  | 0, _, _, _, _, _, _, _, _, _, _, _, _, _, _ => none
  | n + 1, x1, x2, x3, x4, x5, x6, x7, x8, x9, x10, x11, x12, x13, x14 => F (it14 F n) x1 x2 x3 x4 x5 x6 x7 x8 x9 x10 x11 x12 x13 x14
theorem it14_e {A1 A2 A3 A4 A5 A6 A7 A8 A9 A10 A11 A12 A13 A14 ρ : Type} {F : (A1 → A2 → A3 → A4 → A5 → A6 → A7 → A8 → A9 → A10 → A11 → A12 → A13 → A14 → Option ρ) → A1 → A2 → A3 → A4 → A5 → A6 → A7 → A8 → A9 → A10 → A11 → A12 → A13 → A14 → Option ρ} {r : ρ} (I : A1 → A2 → A3 → A4 → A5 → A6 → A7 → A8 → A9 → A10 → A11 → A12 → A13 → A14 → Prop) (hs : ∀ g : A1 → A2 → A3 → A4 → A5 → A6 → A7 → A8 → A9 → A10 → A11 → A12 → A13 → A14 → Option ρ, (∀ (x1 : A1) (x2 : A2) (x3 : A3) (x4 : A4) (x5 : A5) (x6 : A6) (x7 : A7) (x8 : A8) (x9 : A9) (x10 : A10) (x11 : A11) (x12 : A12) (x13 : A13) (x14 : A14), g x1 x2 x3 x4 x5 x6 x7 x8 x9 x10 x11 x12 x13 x14 = some r → I x1 x2 x3 x4 x5 x6 x7 x8 x9 x10 x11 x12 x13 x14) → ∀ (x1 : A1) (x2 : A2) (x3 : A3) (x4 : A4) (x5 : A5) (x6 : A6) (x7 : A7) (x8 : A8) (x9 : A9) (x10 : A10) (x11 : A11) (x12 : A12) (x13 : A13) (x14 : A14), F g x1 x2 x3 x4 x5 x6 x7 x8 x9 x10 x11 x12 x13 x14 = some r → I x1 x2 x3 x4 x5 x6 x7 x8 x9 x10 x11 x12 x13 x14) : ∀ (n : Nat) (x1 : A1) (x2 : A2) (x3 : A3) (x4 : A4) (x5 : A5) (x6 : A6) (x7 : A7) (x8 : A8) (x9 : A9) (x10 : A10) (x11 : A11) (x12 : A12) (x13 : A13) (x14 : A14), it14 F n x1 x2 x3 x4 x5 x6 x7 x8 x9 x10 x11 x12 x13 x14 = some r → I x1 x2 x3 x4 x5 x6 x7 x8 x9 x10 x11 x12 x13 x14
  | 0, _, _, _, _, _, _, _, _, _, _, _, _, _, _, h => by cases h
  | n + 1, x1, x2, x3, x4, x5, x6, x7, x8, x9, x10, x11, x12, x13, x14, h => hs (it14 F n) (it14_e I hs n) x1 x2 x3 x4 x5 x6 x7 x8 x9 x10 x11 x12 x13 x14 h
def jn14 {A1 A2 A3 A4 A5 A6 A7 A8 A9 A10 A11 A12 A13 A14 ρ : Type} (rest : A1 → A2 → A3 → A4 → A5 → A6 → A7 → A8 → A9 → A10 → A11 → A12 → A13 → A14 → Option ρ) (body : (A1 → A2 → A3 → A4 → A5 → A6 → A7 → A8 → A9 → A10 → A11 → A12 → A13 → A14 → Option ρ) → Option ρ) : Option ρ := body rest
theorem jn14_e {A1 A2 A3 A4 A5 A6 A7 A8 A9 A10 A11 A12 A13 A14 ρ : Type} {rest : A1 → A2 → A3 → A4 → A5 → A6 → A7 → A8 → A9 → A10 → A11 → A12 → A13 → A14 → Option ρ} {body : (A1 → A2 → A3 → A4 → A5 → A6 → A7 → A8 → A9 → A10 → A11 → A12 → A13 → A14 → Option ρ) → Option ρ} {r : ρ} {G : Prop} (J : A1 → A2 → A3 → A4 → A5 → A6 → A7 → A8 → A9 → A10 → A11 → A12 → A13 → A14 → Prop) (h : jn14 rest body = some r) (hJ : ∀ (x1 : A1) (x2 : A2) (x3 : A3) (x4 : A4) (x5 : A5) (x6 : A6) (x7 : A7) (x8 : A8) (x9 : A9) (x10 : A10) (x11 : A11) (x12 : A12) (x13 : A13) (x14 : A14), rest x1 x2 x3 x4 x5 x6 x7 x8 x9 x10 x11 x12 x13 x14 = some r → J x1 x2 x3 x4 x5 x6 x7 x8 x9 x10 x11 x12 x13 x14) (hB : ∀ g : A1 → A2 → A3 → A4 → A5 → A6 → A7 → A8 → A9 → A10 → A11 → A12 → A13 → A14 → Option ρ, (∀ (x1 : A1) (x2 : A2) (x3 : A3) (x4 : A4) (x5 : A5) (x6 : A6) (x7 : A7) (x8 : A8) (x9 : A9) (x10 : A10) (x11 : A11) (x12 : A12) (x13 : A13) (x14 : A14), g x1 x2 x3 x4 x5 x6 x7 x8 x9 x10 x11 x12 x13 x14 = some r → J x1 x2 x3 x4 x5 x6 x7 x8 x9 x10 x11 x12 x13 x14) → body g = some r → G) : G := hB rest hJ h
def bd15 {A1 A2 A3 A4 A5 A6 A7 A8 A9 A10 A11 A12 A13 A14 A15 ρ : Type} (x : Option (A1 × A2 × A3 × A4 × A5 × A6 × A7 × A8 × A9 × A10 × A11 × A12 × A13 × A14 × A15)) (k : A1 → A2 → A3 → A4 → A5 → A6 → A7 → A8 → A9 → A10 → A11 → A12 → A13 → A14 → A15 → Option ρ) : Option ρ := x.bind (fun q => k q.1 q.2.1 q.2.2.1 q.2.2.2.1 q.2.2.2.2.1 q.2.2.2.2.2.1 q.2.2.2.2.2.2.1 q.2.2.2.2.2.2.2.1 q.2.2.2.2.2.2.2.2.1 q.2.2.2.2.2.2.2.2.2.1 q.2.2.2.2.2.2.2.2.2.2.1 q.2.2.2.2.2.2.2.2.2.2.2.1 q.2.2.2.2.2.2.2.2.2.2.2.2.1 q.2.2.2.2.2.2.2.2.2.2.2.2.2.1 q.2.2.2.2.2.2.2.2.2.2.2.2.2.2)
theorem bd15_e {A1 A2 A3 A4 A5 A6 A7 A8 A9 A10 A11 A12 A13 A14 A15 ρ : Type} {x : Option (A1 × A2 × A3 × A4 × A5 × A6 × A7 × A8 × A9 × A10 × A11 × A12 × A13 × A14 × A15)} {k : A1 → A2 → A3 → A4 → A5 → A6 → A7 → A8 → A9 → A10 → A11 → A12 → A13 → A14 → A15 → Option ρ} {r : ρ} (h : bd15 x k = some r) : ∃ (x1 : A1) (x2 : A2) (x3 : A3) (x4 : A4) (x5 : A5) (x6 : A6) (x7 : A7) (x8 : A8) (x9 : A9) (x10 : A10) (x11 : A11) (x12 : A12) (x13 : A13) (x14 : A14) (x15 : A15), x = some (x1, x2, x3, x4, x5, x6, x7, x8, x9, x10, x11, x12, x13, x14, x15) ∧ k x1 x2 x3 x4 x5 x6 x7 x8 x9 x10 x11 x12 x13 x14 x15 = some r := by
  unfold bd15 at h
  cases x with
  | none => cases h
  | some q => exact ⟨q.1, q.2.1, q.2.2.1, q.2.2.2.1, q.2.2.2.2.1, q.2.2.2.2.2.1, q.2.2.2.2.2.2.1, q.2.2.2.2.2.2.2.1, q.2.2.2.2.2.2.2.2.1, q.2.2.2.2.2.2.2.2.2.1, q.2.2.2.2.2.2.2.2.2.2.1, q.2.2.2.2.2.2.2.2.2.2.2.1, q.2.2.2.2.2.2.2.2.2.2.2.2.1, q.2.2.2.2.2.2.2.2.2.2.2.2.2.1, q.2.2.2.2.2.2.2.2.2.2.2.2.2.2, rfl, h⟩
def bx15 {A1 A2 A3 A4 A5 A6 A7 A8 A9 A10 A11 A12 A13 A14 A15 ρ : Type} (x : Option (String ⊕ (A1 × A2 × A3 × A4 × A5 × A6 × A7 × A8 × A9 × A10 × A11 × A12 × A13 × A14 × A15))) (k : A1 → A2 → A3 → A4 → A5 → A6 → A7 → A8 → A9 → A10 → A11 → A12 → A13 → A14 → A15 → Option (String ⊕ ρ)) : Option (String ⊕ ρ) := match x with
  | none => none
  | some (.inl E) => some (.inl E)
  | some (.inr q) => k q.1 q.2.1 q.2.2.1 q.2.2.2.1 q.2.2.2.2.1 q.2.2.2.2.2.1 q.2.2.2.2.2.2.1 q.2.2.2.2.2.2.2.1 q.2.2.2.2.2.2.2.2.1 q.2.2.2.2.2.2.2.2.2.1 q.2.2.2.2.2.2.2.2.2.2.1 q.2.2.2.2.2.2.2.2.2.2.2.1 q.2.2.2.2.2.2.2.2.2.2.2.2.1 q.2.2.2.2.2.2.2.2.2.2.2.2.2.1 q.2.2.2.2.2.2.2.2.2.2.2.2.2.2
theorem bx15_e {A1 A2 A3 A4 A5 A6 A7 A8 A9 A10 A11 A12 A13 A14 A15 ρ : Type} {x : Option (String ⊕ (A1 × A2 × A3 × A4 × A5 × A6 × A7 × A8 × A9 × A10 × A11 × A12 × A13 × A14 × A15))} {k : A1 → A2 → A3 → A4 → A5 → A6 → A7 → A8 → A9 → A10 → A11 → A12 → A13 → A14 → A15 → Option (String ⊕ ρ)} {r : String ⊕ ρ} (h : bx15 x k = some r) : (∃ E : String, x = some (.inl E) ∧ r = .inl E) ∨ ∃ (x1 : A1) (x2 : A2) (x3 : A3) (x4 : A4) (x5 : A5) (x6 : A6) (x7 : A7) (x8 : A8) (x9 : A9) (x10 : A10) (x11 : A11) (x12 : A12) (x13 : A13) (x14 : A14) (x15 : A15), x = some (.inr (x1, x2, x3, x4, x5, x6, x7, x8, x9, x10, x11, x12, x13, x14, x15)) ∧ k x1 x2 x3 x4 x5 x6 x7 x8 x9 x10 x11 x12 x13 x14 x15 = some r := by
  unfold bx15 at h
  cases x with
  | none => cases h
  | some q =>
    cases q with
    | inl E => exact Or.inl ⟨E, rfl, (Option.some.inj h).symm⟩
    | inr q => exact Or.inr ⟨q.1, q.2.1, q.2.2.1, q.2.2.2.1, q.2.2.2.2.1, q.2.2.2.2.2.1, q.2.2.2.2.2.2.1, q.2.2.2.2.2.2.2.1, q.2.2.2.2.2.2.2.2.1, q.2.2.2.2.2.2.2.2.2.1, q.2.2.2.2.2.2.2.2.2.2.1, q.2.2.2.2.2.2.2.2.2.2.2.1, q.2.2.2.2.2.2.2.2.2.2.2.2.1, q.2.2.2.2.2.2.2.2.2.2.2.2.2.1, q.2.2.2.2.2.2.2.2.2.2.2.2.2.2, rfl, h⟩
def it15 {A1 A2 A3 A4 A5 A6 A7 A8 A9 A10 A11 A12 A13 A14 A15 ρ : Type} (F : (A1 → A2 → A3 → A4 → A5 → A6 → A7 → A8 → A9 → A10 → A11 → A12 → A13 → A14 → A15 → Option ρ) → A1 → A2 → A3 → A4 → A5 → A6 → A7 → A8 → A9 → A10 → A11 → A12 → A13 → A14 → A15 → Option ρ) : Nat → A1 → A2 → A3 → A4 → A5 → A6 → A7 → A8 → A9 → A10 → A11 → A12 → A13 → A14 → A15 → Option ρ
  | 0, _, _, _, _, _, _, _, _, _, _, _, _, _, _, _ => none
  | n + 1, x1, x2, x3, x4, x5, x6, x7, x8, x9, x10, x11, x12, x13, x14, x15 => F (it15 F n) x1 x2 x3 x4 x5 x6 x7 x8 x9 x10 x11 x12 x13 x14 x15
theorem it15_e {A1 A2 A3 A4 A5 A6 A7 A8 A9 A10 A11 A12 A13 A14 A15 ρ : Type} {F : (A1 → A2 → A3 → A4 → A5 → A6 → A7 → A8 → A9 → A10 → A11 → A12 → A13 → A14 → A15 → Option ρ) → A1 → A2 → A3 → A4 → A5 → A6 → A7 → A8 → A9 → A10 → A11 → A12 → A13 → A14 → A15 → Option ρ} {r : ρ} (I : A1 → A2 → A3 → A4 → A5 → A6 → A7 → A8 → A9 → A10 → A11 → A12 → A13 → A14 → A15 → Prop) (hs : ∀ g : A1 → A2 → A3 → A4 → A5 → A6 → A7 → A8 → A9 → A10 → A11 → A12 → A13 → A14 → A15 → Option ρ, (∀ (x1 : A1) (x2 : A2) (x3 : A3) (x4 : A4) (x5 : A5) (x6 : A6) (x7 : A7) (x8 : A8) (x9 : A9) (x10 : A10) (x11 : A11) (x12 : A12) (x13 : A13) (x14 : A14) (x15 : A15), g x1 x2 x3 x4 x5 x6 x7 x8 x9 x10 x11 x12 x13 x14 x15 = some r → I x1 x2 x3 x4 x5 x6 x7 x8 x9 x10 x11 x12 x13 x14 x15) → ∀ (x1 : A1) (x2 : A2) (x3 : A3) (x4 : A4) (x5 : A5) (x6 : A6) (x7 : A7) (x8 : A8) (x9 : A9) (x10 : A10) (x11 : A11) (x12 : A12) (x13 : A13) (x14 : A14) (x15 : A15), F g x1 x2 x3 x4 x5 x6 x7 x8 x9 x10 x11 x12 x13 x14 x15 = some r → I x1 x2 x3 x4 x5 x6 x7 x8 x9 x10 x11 x12 x13 x14 x15) : ∀ (n : Nat) (x1 : A1) (x2 : A2) (x3 : A3) (x4 : A4) (x5 : A5) (x6 : A6) (x7 : A7) (x8 : A8) (x9 : A9) (x10 : A10) (x11 : A11) (x12 : A12) (x13 : A13) (x14 : A14) (x15 : A15), it15 F n x1 x2 x3 x4 x5 x6 x7 x8 x9 x10 x11 x12 x13 x14 x15 = some r → I x1 x2 x3 x4 x5 x6 x7 x8 x9 x10 x11 x12 x13 x14 x15
  | 0, _, _, _, _, _, _, _, _, _, _, _, _, _, _, _, h => by cases h
  | n + 1, x1, x2, x3, x4, x5, x6, x7, x8, x9, x10, x11, x12, x13, x14, x15, h => hs (it15 F n) (it15_e I hs n) x1 x2 x3 x4 x5 x6 x7 x8 x9 x10 x11 x12 x13 x14 x15 h
def jn15 {A1 A2 A3 A4 A5 A6 A7 A8 A9 A10 A11 A12 A13 A14 A15 ρ : Type} (rest : A1 → A2 → A3 → A4 → A5 → A6 → A7 → A8 → A9 → A10 → A11 → A12 → A13 → A14 → A15 → Option ρ) (body : (A1 → A2 → A3 → A4 → A5 → A6 → A7 → A8 → A9 → A10 → A11 → A12 → A13 → A14 → A15 → Option ρ) → Option ρ) : Option ρ := body rest
theorem jn15_e {A1 A2 A3 A4 A5 A6 A7 A8 A9 A10 A11 A12 A13 A14 A15 ρ : Type} {rest : A1 → A2 → A3 → A4 → A5 → A6 → A7 → A8 → A9 → A10 → A11 → A12 → A13 → A14 → A15 → Option ρ} {body : (A1 → A2 → A3 → A4 → A5 → A6 → A7 → A8 → A9 → A10 → A11 → A12 → A13 → A14 → A15 → Option ρ) → Option ρ} {r : ρ} {G : Prop} (J : A1 → A2 → A3 → A4 → A5 → A6 → A7 → A8 → A9 → A10 → A11 → A12 → A13 → A14 → A15 → Prop) (h : jn15 rest body = some r) (hJ : ∀ (x1 : A1) (x2 : A2) (x3 : A3) (x4 : A4) (x5 : A5) (x6 : A6) (x7 : A7) (x8 : A8) (x9 : A9) (x10 : A10) (x11 : A11) (x12 : A12) (x13 : A13) (x14 : A14) (x15 : A15), rest x1 x2 x3 x4 x5 x6 x7 x8 x9 x10 x11 x12 x13 x14 x15 = some r → J x1 x2 x3 x4 x5 x6 x7 x8 x9 x10 x11 x12 x13 x14 x15) (hB : ∀ g : A1 → A2 → A3 → A4 → A5 → A6 → A7 → A8 → A9 → A10 → A11 → A12 → A13 → A14 → A15 → Option ρ, (∀ (x1 : A1) (x2 : A2) (x3 : A3) (x4 : A4) (x5 : A5) (x6 : A6) (x7 : A7) (x8 : A8) (x9 : A9) (x10 : A10) (x11 : A11) (x12 : A12) (x13 : A13) (x14 : A14) (x15 : A15), g x1 x2 x3 x4 x5 x6 x7 x8 x9 x10 x11 x12 x13 x14 x15 = some r → J x1 x2 x3 x4 x5 x6 x7 x8 x9 x10 x11 x12 x13 x14 x15) → body g = some r → G) : G := hB rest hJ h
def bd16 {A1 A2 A3 A4 A5 A6 A7 A8 A9 A10 A11 A12 A13 A14 A15 A16 ρ : Type} (x : Option (A1 × A2 × A3 × A4 × A5 × A6 × A7 × A8 × A9 × A10 × A11 × A12 × A13 × A14 × A15 × A16)) (k : A1 → A2 → A3 → A4 → A5 → A6 → A7 → A8 → A9 → A10 → A11 → A12 → A13 → A14 → A15 → A16 → Option ρ) : Option ρ := x.bind (fun q => k q.1 q.2.1 q.2.2.1 q.2.2.2.1 q.2.2.2.2.1 q.2.2.2.2.2.1 q.2.2.2.2.2.2.1 q.2.2.2.2.2.2.2.1 q.2.2.2.2.2.2.2.2.1 q.2.2.2.2.2.2.2.2.2.1 q.2.2.2.2.2.2.2.2.2.2.1 q.2.2.2.2.2.2.2.2.2.2.2.1 q.2.2.2.2.2.2.2.2.2.2.2.2.1 q.2.2.2.2.2.2.2.2.2.2.2.2.2.1 q.2.2.2.2.2.2.2.2.2.2.2.2.2.2.1 q.2.2.2.2.2.2.2.2.2.2.2.2.2.2.2)
theorem bd16_e {A1 A2 A3 A4 A5 A6 A7 A8 A9 A10 A11 A12 A13 A14 A15 A16 ρ : Type} {x : Option (A1 × A2 × A3 × A4 × A5 × A6 × A7 × A8 × A9 × A10 × A11 × A12 × A13 × A14 × A15 × A16)} {k : A1 → A2 → A3 → A4 → A5 → A6 → A7 → A8 → A9 → A10 → A11 → A12 → A13 → A14 → A15 → A16 → Option ρ} {r : ρ} (h : bd16 x k = some r) : ∃ (x1 : A1) (x2 : A2) (x3 : A3) (x4 : A4) (x5 : A5) (x6 : A6) (x7 : A7) (x8 : A8) (x9 : A9) (x10 : A10) (x11 : A11) (x12 : A12) (x13 : A13) (x14 : A14) (x15 : A15) (x16 : A16), x = some (x1, x2, x3, x4, x5, x6, x7, x8, x9, x10, x11, x12, x13, x14, x15, x16) ∧ k x1 x2 x3 x4 x5 x6 x7 x8 x9 x10 x11 x12 x13 x14 x15 x16 = some r := by
  unfold bd16 at h
  cases x with
  | none => cases h
  | some q => exact ⟨q.1, q.2.1, q.2.2.1, q.2.2.2.1, q.2.2.2.2.1, q.2.2.2.2.2.1, q.2.2.2.2.2.2.1, q.2.2.2.2.2.2.2.1, q.2.2.2.2.2.2.2.2.1, q.2.2.2.2.2.2.2.2.2.1, q.2.2.2.2.2.2.2.2.2.2.1, q.2.2.2.2.2.2.2.2.2.2.2.1, q.2.2.2.2.2.2.2.2.2.2.2.2.1, q.2.2.2.2.2.2.2.2.2.2.2.2.2.1, q.2.2.2.2.2.2.2.2.2.2.2.2.2.2.1, q.2.2.2.2.2.2.2.2.2.2.2.2.2.2.2, rfl, h⟩
def bx16 {A1 A2 A3 A4 A5 A6 A7 A8 A9 A10 A11 A12 A13 A14 A15 A16 ρ : Type} (x : Option (String ⊕ (A1 × A2 × A3 × A4 × A5 × A6 × A7 × A8 × A9 × A10 × A11 × A12 × A13 × A14 × A15 × A16))) (k : A1 → A2 → A3 → A4 → A5 → A6 → A7 → A8 → A9 → A10 → A11 → A12 → A13 → A14 → A15 → A16 → Option (String ⊕ ρ)) : Option (String ⊕ ρ) := match x with
  | none => none
  | some (.inl E) => some (.inl E)
  | some (.inr q) => k q.1 q.2.1 q.2.2.1 q.2.2.2.1 q.2.2.2.2.1 q.2.2.2.2.2.1 q.2.2.2.2.2.2.1 q.2.2.2.2.2.2.2.1 q.2.2.2.2.2.2.2.2.1 q.2.2.2.2.2.2.2.2.2.1 q.2.2.2.2.2.2.2.2.2.2.1 q.2.2.2.2.2.2.2.2.2.2.2.1 q.2.2.2.2.2.2.2.2.2.2.2.2.1 q.2.2.2.2.2.2.2.2.2.2.2.2.2.1 q.2.2.2.2.2.2.2.2.2.2.2.2.2.2.1 q.2.2.2.2.2.2.2.2.2.2.2.2.2.2.2
theorem bx16_e {A1 A2 A3 A4 A5 A6 A7 A8 A9 A10 A11 A12 A13 A14 A15 A16 ρ : Type} {x : Option (String ⊕ (A1 × A2 × A3 × A4 × A5 × A6 × A7 × A8 × A9 × A10 × A11 × A12 × A13 × A14 × A15 × A16))} {k : A1 → A2 → A3 → A4 → A5 → A6 → A7 → A8 → A9 → A10 → A11 → A12 → A13 → A14 → A15 → A16 → Option (String ⊕ ρ)} {r : String ⊕ ρ} (h : bx16 x k = some r) : (∃ E : String, x = some (.inl E) ∧ r = .inl E) ∨ ∃ (x1 : A1) (x2 : A2) (x3 : A3) (x4 : A4) (x5 : A5) (x6 : A6) (x7 : A7) (x8 : A8) (x9 : A9) (x10 : A10) (x11 : A11) (x12 : A12) (x13 : A13) (x14 : A14) (x15 : A15) (x16 : A16), x = some (.inr (x1, x2, x3, x4, x5, x6, x7, x8, x9, x10, x11, x12, x13, x14, x15, x16)) ∧ k x1 x2 x3 x4 x5 x6 x7 x8 x9 x10 x11 x12 x13 x14 x15 x16 = some r := by
  unfold bx16 at h
  cases x with
  | none => cases h
  | some q =>
    cases q with
    | inl E => exact Or.inl ⟨E, rfl, (Option.some.inj h).symm⟩
    | inr q => exact Or.inr ⟨q.1, q.2.1, q.2.2.1, q.2.2.2.1, q.2.2.2.2.1, q.2.2.2.2.2.1, q.2.2.2.2.2.2.1, q.2.2.2.2.2.2.2.1, q.2.2.2.2.2.2.2.2.1, q.2.2.2.2.2.2.2.2.2.1, q.2.2.2.2.2.2.2.2.2.2.1, q.2.2.2.2.2.2.2.2.2.2.2.1, q.2.2.2.2.2.2.2.2.2.2.2.2.1, q.2.2.2.2.2.2.2.2.2.2.2.2.2.1, q.2.2.2.2.2.2.2.2.2.2.2.2.2.2.1, q.2.2.2.2.2.2.2.2.2.2.2.2.2.2.2, rfl, h⟩
def it16 {A1 A2 A3 A4 A5 A6 A7 A8 A9 A10 A11 A12 A13 A14 A15 A16 ρ : Type} (F : (A1 → A2 → A3 → A4 → A5 → A6 → A7 → A8 → A9 → A10 → A11 → A12 → A13 → A14 → A15 → A16 → Option ρ) → A1 → A2 → A3 → A4 → A5 → A6 → A7 → A8 → A9 → A10 → A11 → A12 → A13 → A14 → A15 → A16 → Option ρ) : Nat → A1 → A2 → A3 → A4 → A5 → A6 → A7 → A8 → A9 → A10 → A11 → A12 → A13 → A14 → A15 → A16 → Option ρ
  | 0, _, _, _, _, _, _, _, _, _, _, _, _, _, _, _, _ => none
  | n + 1, x1, x2, x3, x4, x5, x6, x7, x8, x9, x10, x11, x12, x13, x14, x15, x16 => F (it16 F n) x1 x2 x3 x4 x5 x6 x7 x8 x9 x10 x11 x12 x13 x14 x15 x16
theorem it16_e {A1 A2 A3 A4 A5 A6 A7 A8 A9 A10 A11 A12 A13 A14 A15 A16 ρ : Type} {F : (A1 → A2 → A3 → A4 → A5 → A6 → A7 → A8 → A9 → A10 → A11 → A12 → A13 → A14 → A15 → A16 → Option ρ) → A1 → A2 → A3 → A4 → A5 → A6 → A7 → A8 → A9 → A10 → A11 → A12 → A13 → A14 → A15 → A16 → Option ρ} {r : ρ} (I : A1 → A2 → A3 → A4 → A5 → A6 → A7 → A8 → A9 → A10 → A11 → A12 → A13 → A14 → A15 → A16 → Prop) (hs : ∀ g : A1 → A2 → A3 → A4 → A5 → A6 → A7 → A8 → A9 → A10 → A11 → A12 → A13 → A14 → A15 → A16 → Option ρ, (∀ (x1 : A1) (x2 : A2) (x3 : A3) (x4 : A4) (x5 : A5) (x6 : A6) (x7 : A7) (x8 : A8) (x9 : A9) (x10 : A10) (x11 : A11) (x12 : A12) (x13 : A13) (x14 : A14) (x15 : A15) (x16 : A16), g x1 x2 x3 x4 x5 x6 x7 x8 x9 x10 x11 x12 x13 x14 x15 x16 = some r → I x1 x2 x3 x4 x5 x6 x7 x8 x9 x10 x11 x12 x13 x14 x15 x16) → ∀ (x1 : A1) (x2 : A2) (x3 : A3) (x4 : A4) (x5 : A5) (x6 : A6) (x7 : A7) (x8 : A8) (x9 : A9) (x10 : A10) (x11 : A11) (x12 : A12) (x13 : A13) (x14 : A14) (x15 : A15) (x16 : A16), F g x1 x2 x3 x4 x5 x6 x7 x8 x9 x10 x11 x12 x13 x14 x15 x16 = some r → I x1 x2 x3 x4 x5 x6 x7 x8 x9 x10 x11 x12 x13 x14 x15 x16) : ∀ (n : Nat) (x1 : A1) (x2 : A2) (x3 : A3) (x4 : A4) (x5 : A5) (x6 : A6) (x7 : A7) (x8 : A8) (x9 : A9) (x10 : A10) (x11 : A11) (x12 : A12) (x13 : A13) (x14 : A14) (x15 : A15) (x16 : A16), it16 F n x1 x2 x3 x4 x5 x6 x7 x8 x9 x10 x11 x12 x13 x14 x15 x16 = some r → I x1 x2 x3 x4 x5 x6 x7 x8 x9 x10 x11 x12 x13 x14 x15 x16
  | 0, _, _, _, _, _, _, _, _, _, _, _, _, _, _, _, _, h => by cases h
  | n + 1, x1, x2, x3, x4, x5, x6, x7, x8, x9, x10, x11, x12, x13, x14, x15, x16, h => hs (it16 F n) (it16_e I hs n) x1 x2 x3 x4 x5 x6 x7 x8 x9 x10 x11 x12 x13 x14 x15 x16 h
def jn16 {A1 A2 A3 A4 A5 A6 A7 A8 A9 A10 A11 A12 A13 A14 A15 A16 ρ : Type} (rest : A1 → A2 → A3 → A4 → A5 → A6 → A7 → A8 → A9 → A10 → A11 → A12 → A13 → A14 → A15 → A16 → Option ρ) (body : (A1 → A2 → A3 → A4 → A5 → A6 → A7 → A8 → A9 → A10 → A11 → A12 → A13 → A14 → A15 → A16 → Option ρ) → Option ρ) : Option ρ := body rest
theorem jn16_e {A1 A2 A3 A4 A5 A6 A7 A8 A9 A10 A11 A12 A13 A14 A15 A16 ρ : Type} {rest : A1 → A2 → A3 → A4 → A5 → A6 → A7 → A8 → A9 → A10 → A11 → A12 → A13 → A14 → A15 → A16 → Option ρ} {body : (A1 → A2 → A3 → A4 → A5 → A6 → A7 → A8 → A9 → A10 → A11 → A12 → A13 → A14 → A15 → A16 → Option ρ) → Option ρ} {r : ρ} {G : Prop} (J : A1 → A2 → A3 → A4 → A5 → A6 → A7 → A8 → A9 → A10 → A11 → A12 → A13 → A14 → A15 → A16 → Prop) (h : jn16 rest body = some r) (hJ : ∀ (x1 : A1) (x2 : A2) (x3 : A3) (x4 : A4) (x5 : A5) (x6 : A6) (x7 : A7) (x8 : A8) (x9 : A9) (x10 : A10) (x11 : A11) (x12 : A12) (x13 : A13) (x14 : A14) (x15 : A15) (x16 : A16), rest x1 x2 x3 x4 x5 x6 x7 x8 x9 x10 x11 x12 x13 x14 x15 x16 = some r → J x1 x2 x3 x4 x5 x6 x7 x8 x9 x10 x11 x12 x13 x14 x15 x16) (hB : ∀ g : A1 → A2 → A3 → A4 → A5 → A6 → A7 → A8 → A9 → A10 → A11 → A12 → A13 → A14 → A15 → A16 → Option ρ, (∀ (x1 : A1) (x2 : A2) (x3 : A3) (x4 : A4) (x5 : A5) (x6 : A6) (x7 : A7) (x8 : A8) (x9 : A9) (x10 : A10) (x11 : A11) (x12 : A12) (x13 : A13) (x14 : A14) (x15 : A15) (x16 : A16), g x1 x2 x3 x4 x5 x6 x7 x8 x9 x10 x11 x12 x13 x14 x15 x16 = some r → J x1 x2 x3 x4 x5 x6 x7 x8 x9 x10 x11 x12 x13 x14 x15 x16) → body g = some r → G) : G := hB rest hJ h
def bd17 {A1 A2 A3 A4 A5 A6 A7 A8 A9 A10 A11 A12 A13 A14 A15 A16 A17 ρ : Type} (x : Option (A1 × A2 × A3 × A4 × A5 × A6 × A7 × A8 × A9 × A10 × A11 × A12 × A13 × A14 × A15 × A16 × A17)) (k : A1 → A2 → A3 → A4 → A5 → A6 → A7 → A8 → A9 → A10 → A11 → A12 → A13 → A14 → A15 → A16 → A17 → Option ρ) : Option ρ := x.bind (fun q => k q.1 q.2.1 q.2.2.1 q.2.2.2.1 q.2.2.2.2.1 q.2.2.2.2.2.1 q.2.2.2.2.2.2.1 q.2.2.2.2.2.2.2.1 q.2.2.2.2.2.2.2.2.1 q.2.2.2.2.2.2.2.2.2.1 q.2.2.2.2.2.2.2.2.2.2.1 q.2.2.2.2.2.2.2.2.2.2.2.1 q.2.2.2.2.2.2.2.2.2.2.2.2.1 q.2.2.2.2.2.2.2.2.2.2.2.2.2.1 q.2.2.2.2.2.2.2.2.2.2.2.2.2.2.1 q.2.2.2.2.2.2.2.2.2.2.2.2.2.2.2.1 q.2.2.2.2.2.2.2.2.2.2.2.2.2.2.2.2)
theorem bd17_e {A1 A2 A3 A4 A5 A6 A7 A8 A9 A10 A11 A12 A13 A14 A15 A16 A17 ρ : Type} {x : Option (A1 × A2 × A3 × A4 × A5 × A6 × A7 × A8 × A9 × A10 × A11 × A12 × A13 × A14 × A15 × A16 × A17)} {k : A1 → A2 → A3 → A4 → A5 → A6 → A7 → A8 → A9 → A10 → A11 → A12 → A13 → A14 → A15 → A16 → A17 → Option ρ} {r : ρ} (h : bd17 x k = some r) : ∃ (x1 : A1) (x2 : A2) (x3 : A3) (x4 : A4) (x5 : A5) (x6 : A6) (x7 : A7) (x8 : A8) (x9 : A9) (x10 : A10) (x11 : A11) (x12 : A12) (x13 : A13) (x14 : A14) (x15 : A15) (x16 : A16) (x17 : A17), x = some (x1, x2, x3, x4, x5, x6, x7, x8, x9, x10, x11, x12, x13, x14, x15, x16, x17) ∧ k x1 x2 x3 x4 x5 x6 x7 x8 x9 x10 x11 x12 x13 x14 x15 x16 x17 = some r := by
  unfold bd17 at h
  cases x with
  | none => cases h
  | some q => exact ⟨q.1, q.2.1, q.2.2.1, q.2.2.2.1, q.2.2.2.2.1, q.2.2.2.2.2.1, q.2.2.2.2.2.2.1, q.2.2.2.2.2.2.2.1, q.2.2.2.2.2.2.2.2.1, q.2.2.2.2.2.2.2.2.2.1, q.2.2.2.2.2.2.2.2.2.2.1, q.2.2.2.2.2.2.2.2.2.2.2.1, q.2.2.2.2.2.2.2.2.2.2.2.2.1, q.2.2.2.2.2.2.2.2.2.2.2.2.2.1, q.2.2.2.2.2.2.2.2.2.2.2.2.2.2.1, q.2.2.2.2.2.2.2.2.2.2.2.2.2.2.2.1, q.2.2.2.2.2.2.2.2.2.2.2.2.2.2.2.2, rfl, h⟩
def bx17 {A1 A2 A3 A4 A5 A6 A7 A8 A9 A10 A11 A12 A13 A14 A15 A16 A17 ρ : Type} (x : Option (String ⊕ (A1 × A2 × A3 × A4 × A5 × A6 × A7 × A8 × A9 × A10 × A11 × A12 × A13 × A14 × A15 × A16 × A17))) (k : A1 → A2 → A3 → A4 → A5 → A6 → A7 → A8 → A9 → A10 → A11 → A12 → A13 → A14 → A15 → A16 → A17 → Option (String ⊕ ρ)) : Option (String ⊕ ρ) := match x with
  | none => none
  | some (.inl E) => some (.inl E)
  | some (.inr q) => k q.1 q.2.1 q.2.2.1 q.2.2.2.1 q.2.2.2.2.1 q.2.2.2.2.2.1 q.2.2.2.2.2.2.1 q.2.2.2.2.2.2.2.1 q.2.2.2.2.2.2.2.2.1 q.2.2.2.2.2.2.2.2.2.1 q.2.2.2.2.2.2.2.2.2.2.1 q.2.2.2.2.2.2.2.2.2.2.2.1 q.2.2.2.2.2.2.2.2.2.2.2.2.1 q.2.2.2.2.2.2.2.2.2.2.2.2.2.1 q.2.2.2.2.2.2.2.2.2.2.2.2.2.2.1 q.2.2.2.2.2.2.2.2.2.2.2.2.2.2.2.1 q.2.2.2.2.2.2.2.2.2.2.2.2.2.2.2.2
theorem bx17_e {A1 A2 A3 A4 A5 A6 A7 A8 A9 A10 A11 A12 A13 A14 A15 A16 A17 ρ : Type} {x : Option (String ⊕ (A1 × A2 × A3 × A4 × A5 × A6 × A7 × A8 × A9 × A10 × A11 × A12 × A13 × A14 × A15 × A16 × A17))} {k : A1 → A2 → A3 → A4 → A5 → A6 → A7 → A8 → A9 → A10 → A11 → A12 → A13 → A14 → A15 → A16 → A17 → Option (String ⊕ ρ)} {r : String ⊕ ρ} (h : bx17 x k = some r) : (∃ E : String, x = some (.inl E) ∧ r = .inl E) ∨ ∃ (x1 : A1) (x2 : A2) (x3 : A3) (x4 : A4) (x5 : A5) (x6 : A6) (x7 : A7) (x8 : A8) (x9 : A9) (x10 : A10) (x11 : A11) (x12 : A12) (x13 : A13) (x14 : A14) (x15 : A15) (x16 : A16) (x17 : A17), x = some (.inr (x1, x2, x3, x4, x5, x6, x7, x8, x9, x10, x11, x12, x13, x14, x15, x16, x17)) ∧ k x1 x2 x3 x4 x5 x6 x7 x8 x9 x10 x11 x12 x13 x14 x15 x16 x17 = some r := by
  unfold bx17 at h
  cases x with
  | none => cases h
  | some q =>
    cases q with
    | inl E => exact Or.inl ⟨E, rfl, (Option.some.inj h).symm⟩
    | inr q => exact Or.inr ⟨q.1, q.2.1, q.2.2.1, q.2.2.2.1, q.2.2.2.2.1, q.2.2.2.2.2.1, q.2.2.2.2.2.2.1, q.2.2.2.2.2.2.2.1, q.2.2.2.2.2.2.2.2.1, q.2.2.2.2.2.2.2.2.2.1, q.2.2.2.2.2.2.2.2.2.2.1, q.2.2.2.2.2.2.2.2.2.2.2.1, q.2.2.2.2.2.2.2.2.2.2.2.2.1, q.2.2.2.2.2.2.2.2.2.2.2.2.2.1, q.2.2.2.2.2.2.2.2.2.2.2.2.2.2.1, q.2.2.2.2.2.2.2.2.2.2.2.2.2.2.2.1, q.2.2.2.2.2.2.2.2.2.2.2.2.2.2.2.2, rfl, h⟩
def it17 {A1 A2 A3 A4 A5 A6 A7 A8 A9 A10 A11 A12 A13 A14 A15 A16 A17 ρ : Type} (F : (A1 → A2 → A3 → A4 → A5 → A6 → A7 → A8 → A9 → A10 → A11 → A12 → A13 → A14 → A15 → A16 → A17 → Option ρ) → A1 → A2 → A3 → A4 → A5 → A6 → A7 → A8 → A9 → A10 → A11 → A12 → A13 → A14 → A15 → A16 → A17 → Option ρ) : Nat → A1 → A2 → A3 → A4 → A5 → A6 → A7 → A8 → A9 → A10 → A11 → A12 → A13 → A14 → A15 → A16 → A17 → Option ρ
  | 0, _, _, _, _, _, _, _, _, _, _, _, _, _, _, _, _, _ => none
  | n + 1, x1, x2, x3, x4, x5, x6, x7, x8, x9, x10, x11, x12, x13, x14, x15, x16, x17 => F (it17 F n) x1 x2 x3 x4 x5 x6 x7 x8 x9 x10 x11 x12 x13 x14 x15 x16 x17
theorem it17_e {A1 A2 A3 A4 A5 A6 A7 A8 A9 A10 A11 A12 A13 A14 A15 A16 A17 ρ : Type} {F : (A1 → A2 → A3 → A4 → A5 → A6 → A7 → A8 → A9 → A10 → A11 → A12 → A13 → A14 → A15 → A16 → A17 → Option ρ) → A1 → A2 → A3 → A4 → A5 → A6 → A7 → A8 → A9 → A10 → A11 → A12 → A13 → A14 → A15 → A16 → A17 → Option ρ} {r : ρ} (I : A1 → A2 → A3 → A4 → A5 → A6 → A7 → A8 → A9 → A10 → A11 → A12 → A13 → A14 → A15 → A16 → A17 → Prop) (hs : ∀ g : A1 → A2 → A3 → A4 → A5 → A6 → A7 → A8 → A9 → A10 → A11 → A12 → A13 → A14 → A15 → A16 → A17 → Option ρ, (∀ (x1 : A1) (x2 : A2) (x3 : A3) (x4 : A4) (x5 : A5) (x6 : A6) (x7 : A7) (x8 : A8) (x9 : A9) (x10 : A10) (x11 : A11) (x12 : A12) (x13 : A13) (x14 : A14) (x15 : A15) (x16 : A16) (x17 : A17), g x1 x2 x3 x4 x5 x6 x7 x8 x9 x10 x11 x12 x13 x14 x15 x16 x17 = some r → I x1 x2 x3 x4 x5 x6 x7 x8 x9 x10 x11 x12 x13 x14 x15 x16 x17) → ∀ (x1 : A1) (x2 : A2) (x3 : A3) (x4 : A4) (x5 : A5) (x6 : A6) (x7 : A7) (x8 : A8) (x9 : A9) (x10 : A10) (x11 : A11) (x12 : A12) (x13 : A13) (x14 : A14) (x15 : A15) (x16 : A16) (x17 : A17), F g x1 x2 x3 x4 x5 x6 x7 x8 x9 x10 x11 x12 x13 x14 x15 x16 x17 = some r → I x1 x2 x3 x4 x5 x6 x7 x8 x9 x10 x11 x12 x13 x14 x15 x16 x17) : ∀ (n : Nat) (x1 : A1) (x2 : A2) (x3 : A3) (x4 : A4) (x5 : A5) (x6 : A6) (x7 : A7) (x8 : A8) (x9 : A9) (x10 : A10) (x11 : A11) (x12 : A12) (x13 : A13) (x14 : A14) (x15 : A15) (x16 : A16) (x17 : A17), it17 F n x1 x2 x3 x4 x5 x6 x7 x8 x9 x10 x11 x12 x13 x14 x15 x16 x17 = some r → I x1 x2 x3 x4 x5 x6 x7 x8 x9 x10 x11 x12 x13 x14 x15 x16 x17
  | 0, _, _, _, _, _, _, _, _, _, _, _, _, _, _, _, _, _, h => by cases h
  | n + 1, x1, x2, x3, x4, x5, x6, x7, x8, x9, x10, x11, x12, x13, x14, x15, x16, x17, h => hs (it17 F n) (it17_e I hs n) x1 x2 x3 x4 x5 x6 x7 x8 x9 x10 x11 x12 x13 x14 x15 x16 x17 h
def jn17 {A1 A2 A3 A4 A5 A6 A7 A8 A9 A10 A11 A12 A13 A14 A15 A16 A17 ρ : Type} (rest : A1 → A2 → A3 → A4 → A5 → A6 → A7 → A8 → A9 → A10 → A11 → A12 → A13 → A14 → A15 → A16 → A17 → Option ρ) (body : (A1 → A2 → A3 → A4 → A5 → A6 → A7 → A8 → A9 → A10 → A11 → A12 → A13 → A14 → A15 → A16 → A17 → Option ρ) → Option ρ) : Option ρ := body rest
theorem jn17_e {A1 A2 A3 A4 A5 A6 A7 A8 A9 A10 A11 A12 A13 A14 A15 A16 A17 ρ : Type} {rest : A1 → A2 → A3 → A4 → A5 → A6 → A7 → A8 → A9 → A10 → A11 → A12 → A13 → A14 → A15 → A16 → A17 → Option ρ} {body : (A1 → A2 → A3 → A4 → A5 → A6 → A7 → A8 → A9 → A10 → A11 → A12 → A13 → A14 → A15 → A16 → A17 → Option ρ) → Option ρ} {r : ρ} {G : Prop} (J : A1 → A2 → A3 → A4 → A5 → A6 → A7 → A8 → A9 → A10 → A11 → A12 → A13 → A14 → A15 → A16 → A17 → Prop) (h : jn17 rest body = some r) (hJ : ∀ (x1 : A1) (x2 : A2) (x3 : A3) (x4 : A4) (x5 : A5) (x6 : A6) (x7 : A7) (x8 : A8) (x9 : A9) (x10 : A10) (x11 : A11) (x12 : A12) (x13 : A13) (x14 : A14) (x15 : A15) (x16 : A16) (x17 : A17), rest x1 x2 x3 x4 x5 x6 x7 x8 x9 x10 x11 x12 x13 x14 x15 x16 x17 = some r → J x1 x2 x3 x4 x5 x6 x7 x8 x9 x10 x11 x12 x13 x14 x15 x16 x17) (hB : ∀ g : A1 → A2 → A3 → A4 → A5 → A6 → A7 → A8 → A9 → A10 → A11 → A12 → A13 → A14 → A15 → A16 → A17 → Option ρ, (∀ (x1 : A1) (x2 : A2) (x3 : A3) (x4 : A4) (x5 : A5) (x6 : A6) (x7 : A7) (x8 : A8) (x9 : A9) (x10 : A10) (x11 : A11) (x12 : A12) (x13 : A13) (x14 : A14) (x15 : A15) (x16 : A16) (x17 : A17), g x1 x2 x3 x4 x5 x6 x7 x8 x9 x10 x11 x12 x13 x14 x15 x16 x17 = some r → J x1 x2 x3 x4 x5 x6 x7 x8 x9 x10 x11 x12 x13 x14 x15 x16 x17) → body g = some r → G) : G := hB rest hJ h
def bd18 {A1 A2 A3 A4 A5 A6 A7 A8 A9 A10 A11 A12 A13 A14 A15 A16 A17 A18 ρ : Type} (x : Option (A1 × A2 × A3 × A4 × A5 × A6 × A7 × A8 × A9 × A10 × A11 × A12 × A13 × A14 × A15 × A16 × A17 × A18)) (k : A1 → A2 → A3 → A4 → A5 → A6 → A7 → A8 → A9 → A10 → A11 → A12 → A13 → A14 → A15 → A16 → A17 → A18 → Option ρ) : Option ρ := x.bind (fun q => k q.1 q.2.1 q.2.2.1 q.2.2.2.1 q.2.2.2.2.1 q.2.2.2.2.2.1 q.2.2.2.2.2.2.1 q.2.2.2.2.2.2.2.1 q.2.2.2.2.2.2.2.2.1 q.2.2.2.2.2.2.2.2.2.1 q.2.2.2.2.2.2.2.2.2.2.1 q.2.2.2.2.2.2.2.2.2.2.2.1 q.2.2.2.2.2.2.2.2.2.2.2.2.1 q.2.2.2.2.2.2.2.2.2.2.2.2.2.1 q.2.2.2.2.2.2.2.2.2.2.2.2.2.2.1 q.2.2.2.2.2.2.2.2.2.2.2.2.2.2.2.1 q.2.2.2.2.2.2.2.2.2.2.2.2.2.2.2.2.1 q.2.2.2.2.2.2.2.2.2.2.2.2.2.2.2.2.2)
theorem bd18_e {A1 A2 A3 A4 A5 A6 A7 A8 A9 A10 A11 A12 A13 A14 A15 A16 A17 A18 ρ : Type} {x : Option (A1 × A2 × A3 × A4 × A5 × A6 × A7 × A8 × A9 × A10 × A11 × A12 × A13 × A14 × A15 × A16 × A17 × A18)} {k : A1 → A2 → A3 → A4 → A5 → A6 → A7 → A8 → A9 → A10 → A11 → A12 → A13 → A14 → A15 → A16 → A17 → A18 → Option ρ} {r : ρ} (h : bd18 x k = some r) : ∃ (x1 : A1) (x2 : A2) (x3 : A3) (x4 : A4) (x5 : A5) (x6 : A6) (x7 : A7) (x8 : A8) (x9 : A9) (x10 : A10) (x11 : A11) (x12 : A12) (x13 : A13) (x14 : A14) (x15 : A15) (x16 : A16) (x17 : A17) (x18 : A18), x = some (x1, x2, x3, x4, x5, x6, x7, x8, x9, x10, x11, x12, x13, x14, x15, x16, x17, x18) ∧ k x1 x2 x3 x4 x5 x6 x7 x8 x9 x10 x11 x12 x13 x14 x15 x16 x17 x18 = some r := by
  unfold bd18 at h
  cases x with
  | none => cases h
  | some q => exact ⟨q.1, q.2.1, q.2.2.1, q.2.2.2.1, q.2.2.2.2.1, q.2.2.2.2.2.1, q.2.2.2.2.2.2.1, q.2.2.2.2.2.2.2.1, q.2.2.2.2.2.2.2.2.1, q.2.2.2.2.2.2.2.2.2.1, q.2.2.2.2.2.2.2.2.2.2.1, q.2.2.2.2.2.2.2.2.2.2.2.1, q.2.2.2.2.2.2.2.2.2.2.2.2.1, q.2.2.2.2.2.2.2.2.2.2.2.2.2.1, q.2.2.2.2.2.2.2.2.2.2.2.2.2.2.1, q.2.2.2.2.2.2.2.2.2.2.2.2.2.2.2.1, q.2.2.2.2.2.2.2.2.2.2.2.2.2.2.2.2.1, q.2.2.2.2.2.2.2.2.2.2.2.2.2.2.2.2.2, rfl, h⟩
def bx18 {A1 A2 A3 A4 A5 A6 A7 A8 A9 A10 A11 A12 A13 A14 A15 A16 A17 A18 ρ : Type} (x : Option (String ⊕ (A1 × A2 × A3 × A4 × A5 × A6 × A7 × A8 × A9 × A10 × A11 × A12 × A13 × A14 × A15 × A16 × A17 × A18))) (k : A1 → A2 → A3 → A4 → A5 → A6 → A7 → A8 → A9 → A10 → A11 → A12 → A13 → A14 → A15 → A16 → A17 → A18 → Option (String ⊕ ρ)) : Option (String ⊕ ρ) := match x with
  | none => none
  | some (.inl E) => some (.inl E)
  | some (.inr q) => k q.1 q.2.1 q.2.2.1 q.2.2.2.1 q.2.2.2.2.1 q.2.2.2.2.2.1 q.2.2.2.2.2.2.1 q.2.2.2.2.2.2.2.1 q.2.2.2.2.2.2.2.2.1 q.2.2.2.2.2.2.2.2.2.1 q.2.2.2.2.2.2.2.2.2.2.1 q.2.2.2.2.2.2.2.2.2.2.2.1 q.2.2.2.2.2.2.2.2.2.2.2.2.1 q.2.2.2.2.2.2.2.2.2.2.2.2.2.1 q.2.2.2.2.2.2.2.2.2.2.2.2.2.2.1 q.2.2.2.2.2.2.2.2.2.2.2.2.2.2.2.1 q.2.2.2.2.2.2.2.2.2.2.2.2.2.2.2.2.1 q.2.2.2.2.2.2.2.2.2.2.2.2.2.2.2.2.2
theorem bx18_e {A1 A2 A3 A4 A5 A6 A7 A8 A9 A10 A11 A12 A13 A14 A15 A16 A17 A18 ρ : Type} {x : Option (String ⊕ (A1 × A2 × A3 × A4 × A5 × A6 × A7 × A8 × A9 × A10 × A11 × A12 × A13 × A14 × A15 × A16 × A17 × A18))} {k : A1 → A2 → A3 → A4 → A5 → A6 → A7 → A8 → A9 → A10 → A11 → A12 → A13 → A14 → A15 → A16 → A17 → A18 → Option (String ⊕ ρ)} {r : String ⊕ ρ} (h : bx18 x k = some r) : (∃ E : String, x = some (.inl E) ∧ r = .inl E) ∨ ∃ (x1 : A1) (x2 : A2) (x3 : A3) (x4 : A4) (x5 : A5) (x6 : A6) (x7 : A7) (x8 : A8) (x9 : A9) (x10 : A10) (x11 : A11) (x12 : A12) (x13 : A13) (x14 : A14) (x15 : A15) (x16 : A16) (x17 : A17) (x18 : A18), x = some (.inr (x1, x2, x3, x4, x5, x6, x7, x8, x9, x10, x11, x12, x13, x14, x15, x16, x17, x18)) ∧ k x1 x2 x3 x4 x5 x6 x7 x8 x9 x10 x11 x12 x13 x14 x15 x16 x17 x18 = some r := by
  unfold bx18 at h
  cases x with
  | none => cases h
  | some q =>
    cases q with
    | inl E => exact Or.inl ⟨E, rfl, (Option.some.inj h).symm⟩
    | inr q => exact Or.inr ⟨q.1, q.2.1, q.2.2.1, q.2.2.2.1, q.2.2.2.2.1, q.2.2.2.2.2.1, q.2.2.2.2.2.2.1, q.2.2.2.2.2.2.2.1, q.2.2.2.2.2.2.2.2.1, q.2.2.2.2.2.2.2.2.2.1, q.2.2.2.2.2.2.2.2.2.2.1, q.2.2.2.2.2.2.2.2.2.2.2.1, q.2.2.2.2.2.2.2.2.2.2.2.2.1, q.2.2.2.2.2.2.2.2.2.2.2.2.2.1, q.2.2.2.2.2.2.2.2.2.2.2.2.2.2.1, q.2.2.2.2.2.2.2.2.2.2.2.2.2.2.2.1, q.2.2.2.2.2.2.2.2.2.2.2.2.2.2.2.2.1, q.2.2.2.2.2.2.2.2.2.2.2.2.2.2.2.2.2, rfl, h⟩
def it18 {A1 A2 A3 A4 A5 A6 A7 A8 A9 A10 A11 A12 A13 A14 A15 A16 A17 A18 ρ : Type} (F : (A1 → A2 → A3 → A4 → A5 → A6 → A7 → A8 → A9 → A10 → A11 → A12 → A13 → A14 → A15 → A16 → A17 → A18 → Option ρ) → A1 → A2 → A3 → A4 → A5 → A6 → A7 → A8 → A9 → A10 → A11 → A12 → A13 → A14 → A15 → A16 → A17 → A18 → Option ρ) : Nat → A1 → A2 → A3 → A4 → A5 → A6 → A7 → A8 → A9 → A10 → A11 → A12 → A13 → A14 → A15 → A16 → A17 → A18 → Option ρ
  | 0, _, _, _, _, _, _, _, _, _, _, _, _, _, _, _, _, _, _ => none
  | n + 1, x1, x2, x3, x4, x5, x6, x7, x8, x9, x10, x11, x12, x13, x14, x15, x16, x17, x18 => F (it18 F n) x1 x2 x3 x4 x5 x6 x7 x8 x9 x10 x11 x12 x13 x14 x15 x16 x17 x18
theorem it18_e {A1 A2 A3 A4 A5 A6 A7 A8 A9 A10 A11 A12 A13 A14 A15 A16 A17 A18 ρ : Type} {F : (A1 → A2 → A3 → A4 → A5 → A6 → A7 → A8 → A9 → A10 → A11 → A12 → A13 → A14 → A15 → A16 → A17 → A18 → Option ρ) → A1 → A2 → A3 → A4 → A5 → A6 → A7 → A8 → A9 → A10 → A11 → A12 → A13 → A14 → A15 → A16 → A17 → A18 → Option ρ} {r : ρ} (I : A1 → A2 → A3 → A4 → A5 → A6 → A7 → A8 → A9 → A10 → A11 → A12 → A13 → A14 → A15 → A16 → A17 → A18 → Prop) (hs : ∀ g : A1 → A2 → A3 → A4 → A5 → A6 → A7 → A8 → A9 → A10 → A11 → A12 → A13 → A14 → A15 → A16 → A17 → A18 → Option ρ, (∀ (x1 : A1) (x2 : A2) (x3 : A3) (x4 : A4) (x5 : A5) (x6 : A6) (x7 : A7) (x8 : A8) (x9 : A9) (x10 : A10) (x11 : A11) (x12 : A12) (x13 : A13) (x14 : A14) (x15 : A15) (x16 : A16) (x17 : A17) (x18 : A18), g x1 x2 x3 x4 x5 x6 x7 x8 x9 x10 x11 x12 x13 x14 x15 x16 x17 x18 = some r → I x1 x2 x3 x4 x5 x6 x7 x8 x9 x10 x11 x12 x13 x14 x15 x16 x17 x18) → ∀ (x1 : A1) (x2 : A2) (x3 : A3) (x4 : A4) (x5 : A5) (x6 : A6) (x7 : A7) (x8 : A8) (x9 : A9) (x10 : A10) (x11 : A11) (x12 : A12) (x13 : A13) (x14 : A14) (x15 : A15) (x16 : A16) (x17 : A17) (x18 : A18), F g x1 x2 x3 x4 x5 x6 x7 x8 x9 x10 x11 x12 x13 x14 x15 x16 x17 x18 = some r → I x1 x2 x3 x4 x5 x6 x7 x8 x9 x10 x11 x12 x13 x14 x15 x16 x17 x18) : ∀ (n : Nat) (x1 : A1) (x2 : A2) (x3 : A3) (x4 : A4) (x5 : A5) (x6 : A6) (x7 : A7) (x8 : A8) (x9 : A9) (x10 : A10) (x11 : A11) (x12 : A12) (x13 : A13) (x14 : A14) (x15 : A15) (x16 : A16) (x17 : A17) (x18 : A18), it18 F n x1 x2 x3 x4 x5 x6 x7 x8 x9 x10 x11 x12 x13 x14 x15 x16 x17 x18 = some r → I x1 x2 x3 x4 x5 x6 x7 x8 x9 x10 x11 x12 x13 x14 x15 x16 x17 x18
  | 0, _, _, _, _, _, _, _, _, _, _, _, _, _, _, _, _, _, _, h => by cases h
  | n + 1, x1, x2, x3, x4, x5, x6, x7, x8, x9, x10, x11, x12, x13, x14, x15, x16, x17, x18, h => hs (it18 F n) (it18_e I hs n) x1 x2 x3 x4 x5 x6 x7 x8 x9 x10 x11 x12 x13 x14 x15 x16 x17 x18 h
def jn18 {A1 A2 A3 A4 A5 A6 A7 A8 A9 A10 A11 A12 A13 A14 A15 A16 A17 A18 ρ : Type} (rest : A1 → A2 → A3 → A4 → A5 → A6 → A7 → A8 → A9 → A10 → A11 → A12 → A13 → A14 → A15 → A16 → A17 → A18 → Option ρ) (body : (A1 → A2 → A3 → A4 → A5 → A6 → A7 → A8 → A9 → A10 → A11 → A12 → A13 → A14 → A15 → A16 → A17 → A18 → Option ρ) → Option ρ) : Option ρ := body rest
theorem jn18_e {A1 A2 A3 A4 A5 A6 A7 A8 A9 A10 A11 A12 A13 A14 A15 A16 A17 A18 ρ : Type} {rest : A1 → A2 → A3 → A4 → A5 → A6 → A7 → A8 → A9 → A10 → A11 → A12 → A13 → A14 → A15 → A16 → A17 → A18 → Option ρ} {body : (A1 → A2 → A3 → A4 → A5 → A6 → A7 → A8 → A9 → A10 → A11 → A12 → A13 → A14 → A15 → A16 → A17 → A18 → Option ρ) → Option ρ} {r : ρ} {G : Prop} (J : A1 → A2 → A3 → A4 → A5 → A6 → A7 → A8 → A9 → A10 → A11 → A12 → A13 → A14 → A15 → A16 → A17 → A18 → Prop) (h : jn18 rest body = some r) (hJ : ∀ (x1 : A1) (x2 : A2) (x3 : A3) (x4 : A4) (x5 : A5) (x6 : A6) (x7 : A7) (x8 : A8) (x9 : A9) (x10 : A10) (x11 : A11) (x12 : A12) (x13 : A13) (x14 : A14) (x15 : A15) (x16 : A16) (x17 : A17) (x18 : A18), rest x1 x2 x3 x4 x5 x6 x7 x8 x9 x10 x11 x12 x13 x14 x15 x16 x17 x18 = some r → J x1 x2 x3 x4 x5 x6 x7 x8 x9 x10 x11 x12 x13 x14 x15 x16 x17 x18) (hB : ∀ g : A1 → A2 → A3 → A4 → A5 → A6 → A7 → A8 → A9 → A10 → A11 → A12 → A13 → A14 → A15 → A16 → A17 → A18 → Option ρ, (∀ (x1 : A1) (x2 : A2) (x3 : A3) (x4 : A4) (x5 : A5) (x6 : A6) (x7 : A7) (x8 : A8) (x9 : A9) (x10 : A10) (x11 : A11) (x12 : A12) (x13 : A13) (x14 : A14) (x15 : A15) (x16 : A16) (x17 : A17) (x18 : A18), g x1 x2 x3 x4 x5 x6 x7 x8 x9 x10 x11 x12 x13 x14 x15 x16 x17 x18 = some r → J x1 x2 x3 x4 x5 x6 x7 x8 x9 x10 x11 x12 x13 x14 x15 x16 x17 x18) → body g = some r → G) : G := hB rest hJ h
def bd19 {A1 A2 A3 A4 A5 A6 A7 A8 A9 A10 A11 A12 A13 A14 A15 A16 A17 A18 A19 ρ : Type} (x : Option (A1 × A2 × A3 × A4 × A5 × A6 × A7 × A8 × A9 × A10 × A11 × A12 × A13 × A14 × A15 × A16 × A17 × A18 × A19)) (k : A1 → A2 → A3 → A4 → A5 → A6 → A7 → A8 → A9 → A10 → A11 → A12 → A13 → A14 → A15 → A16 → A17 → A18 → A19 → Option ρ) : Option ρ := x.bind (fun q => k q.1 q.2.1 q.2.2.1 q.2.2.2.1 q.2.2.2.2.1 q.2.2.2.2.2.1 q.2.2.2.2.2.2.1 q.2.2.2.2.2.2.2.1 q.2.2.2.2.2.2.2.2.1 q.2.2.2.2.2.2.2.2.2.1 q.2.2.2.2.2.2.2.2.2.2.1 q.2.2.2.2.2.2.2.2.2.2.2.1 q.2.2.2.2.2.2.2.2.2.2.2.2.1 q.2.2.2.2.2.2.2.2.2.2.2.2.2.1 q.2.2.2.2.2.2.2.2.2.2.2.2.2.2.1 q.2.2.2.2.2.2.2.2.2.2.2.2.2.2.2.1 q.2.2.2.2.2.2.2.2.2.2.2.2.2.2.2.2.1 q.2.2.2.2.2.2.2.2.2.2.2.2.2.2.2.2.2.1 q.2.2.2.2.2.2.2.2.2.2.2.2.2.2.2.2.2.2)
theorem bd19_e {A1 A2 A3 A4 A5 A6 A7 A8 A9 A10 A11 A12 A13 A14 A15 A16 A17 A18 A19 ρ : Type} {x : Option (A1 × A2 × A3 × A4 × A5 × A6 × A7 × A8 × A9 × A10 × A11 × A12 × A13 × A14 × A15 × A16 × A17 × A18 × A19)} {k : A1 → A2 → A3 → A4 → A5 → A6 → A7 → A8 → A9 → A10 → A11 → A12 → A13 → A14 → A15 → A16 → A17 → A18 → A19 → Option ρ} {r : ρ} (h : bd19 x k = some r) : ∃ (x1 : A1) (x2 : A2) (x3 : A3) (x4 : A4) (x5 : A5) (x6 : A6) (x7 : A7) (x8 : A8) (x9 : A9) (x10 : A10) (x11 : A11) (x12 : A12) (x13 : A13) (x14 : A14) (x15 : A15) (x16 : A16) (x17 : A17) (x18 : A18) (x19 : A19), x = some (x1, x2, x3, x4, x5, x6, x7, x8, x9, x10, x11, x12, x13, x14, x15, x16, x17, x18, x19) ∧ k x1 x2 x3 x4 x5 x6 x7 x8 x9 x10 x11 x12 x13 x14 x15 x16 x17 x18 x19 = some r := by
  unfold bd19 at h
  cases x with
  | none => cases h
  | some q => exact ⟨q.1, q.2.1, q.2.2.1, q.2.2.2.1, q.2.2.2.2.1, q.2.2.2.2.2.1, q.2.2.2.2.2.2.1, q.2.2.2.2.2.2.2.1, q.2.2.2.2.2.2.2.2.1, q.2.2.2.2.2.2.2.2.2.1, q.2.2.2.2.2.2.2.2.2.2.1, q.2.2.2.2.2.2.2.2.2.2.2.1, q.2.2.2.2.2.2.2.2.2.2.2.2.1, q.2.2.2.2.2.2.2.2.2.2.2.2.2.1, q.2.2.2.2.2.2.2.2.2.2.2.2.2.2.1, q.2.2.2.2.2.2.2.2.2.2.2.2.2.2.2.1, q.2.2.2.2.2.2.2.2.2.2.2.2.2.2.2.2.1, q.2.2.2.2.2.2.2.2.2.2.2.2.2.2.2.2.2.1, q.2.2.2.2.2.2.2.2.2.2.2.2.2.2.2.2.2.2, rfl, h⟩
def bx19 {A1 A2 A3 A4 A5 A6 A7 A8 A9 A10 A11 A12 A13 A14 A15 A16 A17 A18 A19 ρ : Type} (x : Option (String ⊕ (A1 × A2 × A3 × A4 × A5 × A6 × A7 × A8 × A9 × A10 × A11 × A12 × A13 × A14 × A15 × A16 × A17 × A18 × A19))) (k : A1 → A2 → A3 → A4 → A5 → A6 → A7 → A8 → A9 → A10 → A11 → A12 → A13 → A14 → A15 → A16 → A17 → A18 → A19 → Option (String ⊕ ρ)) : Option (String ⊕ ρ) := match x with
  | none => none
  | some (.inl E) => some (.inl E)
  | some (.inr q) => k q.1 q.2.1 q.2.2.1 q.2.2.2.1 q.2.2.2.2.1 q.2.2.2.2.2.1 q.2.2.2.2.2.2.1 q.2.2.2.2.2.2.2.1 q.2.2.2.2.2.2.2.2.1 q.2.2.2.2.2.2.2.2.2.1 q.2.2.2.2.2.2.2.2.2.2.1 q.2.2.2.2.2.2.2.2.2.2.2.1 q.2.2.2.2.2.2.2.2.2.2.2.2.1 q.2.2.2.2.2.2.2.2.2.2.2.2.2.1 q.2.2.2.2.2.2.2.2.2.2.2.2.2.2.1 q.2.2.2.2.2.2.2.2.2.2.2.2.2.2.2.1 q.2.2.2.2.2.2.2.2.2.2.2.2.2.2.2.2.1 q.2.2.2.2.2.2.2.2.2.2.2.2.2.2.2.2.2.1 q.2.2.2.2.2.2.2.2.2.2.2.2.2.2.2.2.2.2
theorem bx19_e {A1 A2 A3 A4 A5 A6 A7 A8 A9 A10 A11 A12 A13 A14 A15 A16 A17 A18 A19 ρ : Type} {x : Option (String ⊕ (A1 × A2 × A3 × A4 × A5 × A6 × A7 × A8 × A9 × A10 × A11 × A12 × A13 × A14 × A15 × A16 × A17 × A18 × A19))} {k : A1 → A2 → A3 → A4 → A5 → A6 → A7 → A8 → A9 → A10 → A11 → A12 → A13 → A14 → A15 → A16 → A17 → A18 → A19 → Option (String ⊕ ρ)} {r : String ⊕ ρ} (h : bx19 x k = some r) : (∃ E : String, x = some (.inl E) ∧ r = .inl E) ∨ ∃ (x1 : A1) (x2 : A2) (x3 : A3) (x4 : A4) (x5 : A5) (x6 : A6) (x7 : A7) (x8 : A8) (x9 : A9) (x10 : A10) (x11 : A11) (x12 : A12) (x13 : A13) (x14 : A14) (x15 : A15) (x16 : A16) (x17 : A17) (x18 : A18) (x19 : A19), x = some (.inr (x1, x2, x3, x4, x5, x6, x7, x8, x9, x10, x11, x12, x13, x14, x15, x16, x17, x18, x19)) ∧ k x1 x2 x3 x4 x5 x6 x7 x8 x9 x10 x11 x12 x13 x14 x15 x16 x17 x18 x19 = some r := by
  unfold bx19 at h
  cases x with
  | none => cases h
  | some q =>
    cases q with
    | inl E => exact Or.inl ⟨E, rfl, (Option.some.inj h).symm⟩
    | inr q => exact Or.inr ⟨q.1, q.2.1, q.2.2.1, q.2.2.2.1, q.2.2.2.2.1, q.2.2.2.2.2.1, q.2.2.2.2.2.2.1, q.2.2.2.2.2.2.2.1, q.2.2.2.2.2.2.2.2.1, q.2.2.2.2.2.2.2.2.2.1, q.2.2.2.2.2.2.2.2.2.2.1, q.2.2.2.2.2.2.2.2.2.2.2.1, q.2.2.2.2.2.2.2.2.2.2.2.2.1, q.2.2.2.2.2.2.2.2.2.2.2.2.2.1, q.2.2.2.2.2.2.2.2.2.2.2.2.2.2.1, q.2.2.2.2.2.2.2.2.2.2.2.2.2.2.2.1, q.2.2.2.2.2.2.2.2.2.2.2.2.2.2.2.2.1, q.2.2.2.2.2.2.2.2.2.2.2.2.2.2.2.2.2.1, q.2.2.2.2.2.2.2.2.2.2.2.2.2.2.2.2.2.2, rfl, h⟩
def it19 {A1 A2 A3 A4 A5 A6 A7 A8 A9 A10 A11 A12 A13 A14 A15 A16 A17 A18 A19 ρ : Type} (F : (A1 → A2 → A3 → A4 → A5 → A6 → A7 → A8 → A9 → A10 → A11 → A12 → A13 → A14 → A15 → A16 → A17 → A18 → A19 → Option ρ) → A1 → A2 → A3 → A4 → A5 → A6 → A7 → A8 → A9 → A10 → A11 → A12 → A13 → A14 → A15 → A16 → A17 → A18 → A19 → Option ρ) : Nat → A1 → A2 → A3 → A4 → A5 → A6 → A7 → A8 → A9 → A10 → A11 → A12 → A13 → A14 → A15 → A16 → A17 → A18 → A19 → Option ρ
  | 0, _, _, _, _, _, _, _, _, _, _, _, _, _, _, _, _, _, _, _ => none
  | n + 1, x1, x2, x3, x4, x5, x6, x7, x8, x9, x10, x11, x12, x13, x14, x15, x16, x17, x18, x19 => F (it19 F n) x1 x2 x3 x4 x5 x6 x7 x8 x9 x10 x11 x12 x13 x14 x15 x16 x17 x18 x19
theorem it19_e {A1 A2 A3 A4 A5 A6 A7 A8 A9 A10 A11 A12 A13 A14 A15 A16 A17 A18 A19 ρ : Type} {F : (A1 → A2 → A3 → A4 → A5 → A6 → A7 → A8 → A9 → A10 → A11 → A12 → A13 → A14 → A15 → A16 → A17 → A18 → A19 → Option ρ) → A1 → A2 → A3 → A4 → A5 → A6 → A7 → A8 → A9 → A10 → A11 → A12 → A13 → A14 → A15 → A16 → A17 → A18 → A19 → Option ρ} {r : ρ} (I : A1 → A2 → A3 → A4 → A5 → A6 → A7 → A8 → A9 → A10 → A11 → A12 → A13 → A14 → A15 → A16 → A17 → A18 → A19 → Prop) (hs : ∀ g : A1 → A2 → A3 → A4 → A5 → A6 → A7 → A8 → A9 → A10 → A11 → A12 → A13 → A14 → A15 → A16 → A17 → A18 → A19 → Option ρ, (∀ (x1 : A1) (x2 : A2) (x3 : A3) (x4 : A4) (x5 : A5) (x6 : A6) (x7 : A7) (x8 : A8) (x9 : A9) (x10 : A10) (x11 : A11) (x12 : A12) (x13 : A13) (x14 : A14) (x15 : A15) (x16 : A16) (x17 : A17) (x18 : A18) (x19 : A19), g x1 x2 x3 x4 x5 x6 x7 x8 x9 x10 x11 x12 x13 x14 x15 x16 x17 x18 x19 = some r → I x1 x2 x3 x4 x5 x6 x7 x8 x9 x10 x11 x12 x13 x14 x15 x16 x17 x18 x19) → ∀ (x1 : A1) (x2 : A2) (x3 : A3) (x4 : A4) (x5 : A5) (x6 : A6) (x7 : A7) (x8 : A8) (x9 : A9) (x10 : A10) (x11 : A11) (x12 : A12) (x13 : A13) (x14 : A14) (x15 : A15) (x16 : A16) (x17 : A17) (x18 : A18) (x19 : A19), F g x1 x2 x3 x4 x5 x6 x7 x8 x9 x10 x11 x12 x13 x14 x15 x16 x17 x18 x19 = some r → I x1 x2 x3 x4 x5 x6 x7 x8 x9 x10 x11 x12 x13 x14 x15 x16 x17 x18 x19) : ∀ (n : Nat) (x1 : A1) (x2 : A2) (x3 : A3) (x4 : A4) (x5 : A5) (x6 : A6) (x7 : A7) (x8 : A8) (x9 : A9) (x10 : A10) (x11 : A11) (x12 : A12) (x13 : A13) (x14 : A14) (x15 : A15) (x16 : A16) (x17 : A17) (x18 : A18) (x19 : A19), it19 F n x1 x2 x3 x4 x5 x6 x7 x8 x9 x10 x11 x12 x13 x14 x15 x16 x17 x18 x19 = some r → I x1 x2 x3 x4 x5 x6 x7 x8 x9 x10 x11 x12 x13 x14 x15 x16 x17 x18 x19
  | 0, _, _, _, _, _, _, _, _, _, _, _, _, _, _, _, _, _, _, _, h => by cases h
  | n + 1, x1, x2, x3, x4, x5, x6, x7, x8, x9, x10, x11, x12, x13, x14, x15, x16, x17, x18, x19, h => hs (it19 F n) (it19_e I hs n) x1 x2 x3 x4 x5 x6 x7 x8 x9 x10 x11 x12 x13 x14 x15 x16 x17 x18 x19 h
def jn19 {A1 A2 A3 A4 A5 A6 A7 A8 A9 A10 A11 A12 A13 A14 A15 A16 A17 A18 A19 ρ : Type} (rest : A1 → A2 → A3 → A4 → A5 → A6 → A7 → A8 → A9 → A10 → A11 → A12 → A13 → A14 → A15 → A16 → A17 → A18 → A19 → Option ρ) (body : (A1 → A2 → A3 → A4 → A5 → A6 → A7 → A8 → A9 → A10 → A11 → A12 → A13 → A14 → A15 → A16 → A17 → A18 → A19 → Option ρ) → Option ρ) : Option ρ := body rest
theorem jn19_e {A1 A2 A3 A4 A5 A6 A7 A8 A9 A10 A11 A12 A13 A14 A15 A16 A17 A18 A19 ρ : Type} {rest : A1 → A2 → A3 → A4 → A5 → A6 → A7 → A8 → A9 → A10 → A11 → A12 → A13 → A14 → A15 → A16 → A17 → A18 → A19 → Option ρ} {body : (A1 → A2 → A3 → A4 → A5 → A6 → A7 → A8 → A9 → A10 → A11 → A12 → A13 → A14 → A15 → A16 → A17 → A18 → A19 → Option ρ) → Option ρ} {r : ρ} {G : Prop} (J : A1 → A2 → A3 → A4 → A5 → A6 → A7 → A8 → A9 → A10 → A11 → A12 → A13 → A14 → A15 → A16 → A17 → A18 → A19 → Prop) (h : jn19 rest body = some r) (hJ : ∀ (x1 : A1) (x2 : A2) (x3 : A3) (x4 : A4) (x5 : A5) (x6 : A6) (x7 : A7) (x8 : A8) (x9 : A9) (x10 : A10) (x11 : A11) (x12 : A12) (x13 : A13) (x14 : A14) (x15 : A15) (x16 : A16) (x17 : A17) (x18 : A18) (x19 : A19), rest x1 x2 x3 x4 x5 x6 x7 x8 x9 x10 x11 x12 x13 x14 x15 x16 x17 x18 x19 = some r → J x1 x2 x3 x4 x5 x6 x7 x8 x9 x10 x11 x12 x13 x14 x15 x16 x17 x18 x19) (hB : ∀ g : A1 → A2 → A3 → A4 → A5 → A6 → A7 → A8 → A9 → A10 → A11 → A12 → A13 → A14 → A15 → A16 → A17 → A18 → A19 → Option ρ, (∀ (x1 : A1) (x2 : A2) (x3 : A3) (x4 : A4) (x5 : A5) (x6 : A6) (x7 : A7) (x8 : A8) (x9 : A9) (x10 : A10) (x11 : A11) (x12 : A12) (x13 : A13) (x14 : A14) (x15 : A15) (x16 : A16) (x17 : A17) (x18 : A18) (x19 : A19), g x1 x2 x3 x4 x5 x6 x7 x8 x9 x10 x11 x12 x13 x14 x15 x16 x17 x18 x19 = some r → J x1 x2 x3 x4 x5 x6 x7 x8 x9 x10 x11 x12 x13 x14 x15 x16 x17 x18 x19) → body g = some r → G) : G := hB rest hJ h
def bd20 {A1 A2 A3 A4 A5 A6 A7 A8 A9 A10 A11 A12 A13 A14 A15 A16 A17 A18 A19 A20 ρ : Type} (x : Option (A1 × A2 × A3 × A4 × A5 × A6 × A7 × A8 × A9 × A10 × A11 × A12 × A13 × A14 × A15 × A16 × A17 × A18 × A19 × A20)) (k : A1 → A2 → A3 → A4 → A5 → A6 → A7 → A8 → A9 → A10 → A11 → A12 → A13 → A14 → A15 → A16 → A17 → A18 → A19 → A20 → Option ρ) : Option ρ := x.bind (fun q => k q.1 q.2.1 q.2.2.1 q.2.2.2.1 q.2.2.2.2.1 q.2.2.2.2.2.1 q.2.2.2.2.2.2.1 q.2.2.2.2.2.2.2.1 q.2.2.2.2.2.2.2.2.1 q.2.2.2.2.2.2.2.2.2.1 q.2.2.2.2.2.2.2.2.2.2.1 q.2.2.2.2.2.2.2.2.2.2.2.1 q.2.2.2.2.2.2.2.2.2.2.2.2.1 q.2.2.2.2.2.2.2.2.2.2.2.2.2.1 q.2.2.2.2.2.2.2.2.2.2.2.2.2.2.1 q.2.2.2.2.2.2.2.2.2.2.2.2.2.2.2.1 q.2.2.2.2.2.2.2.2.2.2.2.2.2.2.2.2.1 q.2.2.2.2.2.2.2.2.2.2.2.2.2.2.2.2.2.1 q.2.2.2.2.2.2.2.2.2.2.2.2.2.2.2.2.2.2.1 q.2.2.2.2.2.2.2.2.2.2.2.2.2.2.2.2.2.2.2)
theorem bd20_e {A1 A2 A3 A4 A5 A6 A7 A8 A9 A10 A11 A12 A13 A14 A15 A16 A17 A18 A19 A20 ρ : Type} {x : Option (A1 × A2 × A3 × A4 × A5 × A6 × A7 × A8 × A9 × A10 × A11 × A12 × A13 × A14 × A15 × A16 × A17 × A18 × A19 × A20)} {k : A1 → A2 → A3 → A4 → A5 → A6 → A7 → A8 → A9 → A10 → A11 → A12 → A13 → A14 → A15 → A16 → A17 → A18 → A19 → A20 → Option ρ} {r : ρ} (h : bd20 x k = some r) : ∃ (x1 : A1) (x2 : A2) (x3 : A3) (x4 : A4) (x5 : A5) (x6 : A6) (x7 : A7) (x8 : A8) (x9 : A9) (x10 : A10) (x11 : A11) (x12 : A12) (x13 : A13) (x14 : A14) (x15 : A15) (x16 : A16) (x17 : A17) (x18 : A18) (x19 : A19) (x20 : A20), x = some (x1, x2, x3, x4, x5, x6, x7, x8, x9, x10, x11, x12, x13, x14, x15, x16, x17, x18, x19, x20) ∧ k x1 x2 x3 x4 x5 x6 x7 x8 x9 x10 x11 x12 x13 x14 x15 x16 x17 x18 x19 x20 = some r := by
  unfold bd20 at h
  cases x with
  | none => cases h
  | some q => exact ⟨q.1, q.2.1, q.2.2.1, q.2.2.2.1, q.2.2.2.2.1, q.2.2.2.2.2.1, q.2.2.2.2.2.2.1, q.2.2.2.2.2.2.2.1, q.2.2.2.2.2.2.2.2.1, q.2.2.2.2.2.2.2.2.2.1, q.2.2.2.2.2.2.2.2.2.2.1, q.2.2.2.2.2.2.2.2.2.2.2.1, q.2.2.2.2.2.2.2.2.2.2.2.2.1, q.2.2.2.2.2.2.2.2.2.2.2.2.2.1, q.2.2.2.2.2.2.2.2.2.2.2.2.2.2.1, q.2.2.2.2.2.2.2.2.2.2.2.2.2.2.2.1, q.2.2.2.2.2.2.2.2.2.2.2.2.2.2.2.2.1, q.2.2.2.2.2.2.2.2.2.2.2.2.2.2.2.2.2.1, q.2.2.2.2.2.2.2.2.2.2.2.2.2.2.2.2.2.2.1, q.2.2.2.2.2.2.2.2.2.2.2.2.2.2.2.2.2.2.2, rfl, h⟩
def bx20 {A1 A2 A3 A4 A5 A6 A7 A8 A9 A10 A11 A12 A13 A14 A15 A16 A17 A18 A19 A20 ρ : Type} (x : Option (String ⊕ (A1 × A2 × A3 × A4 × A5 × A6 × A7 × A8 × A9 × A10 × A11 × A12 × A13 × A14 × A15 × A16 × A17 × A18 × A19 × A20))) (k : A1 → A2 → A3 → A4 → A5 → A6 → A7 → A8 → A9 → A10 → A11 → A12 → A13 → A14 → A15 → A16 → A17 → A18 → A19 → A20 → Option (String ⊕ ρ)) : Option (String ⊕ ρ) := match x with
  | none => none
  | some (.inl E) => some (.inl E)
  | some (.inr q) => k q.1 q.2.1 q.2.2.1 q.2.2.2.1 q.2.2.2.2.1 q.2.2.2.2.2.1 q.2.2.2.2.2.2.1 q.2.2.2.2.2.2.2.1 q.2.2.2.2.2.2.2.2.1 q.2.2.2.2.2.2.2.2.2.1 q.2.2.2.2.2.2.2.2.2.2.1 q.2.2.2.2.2.2.2.2.2.2.2.1 q.2.2.2.2.2.2.2.2.2.2.2.2.1 q.2.2.2.2.2.2.2.2.2.2.2.2.2.1 q.2.2.2.2.2.2.2.2.2.2.2.2.2.2.1 q.2.2.2.2.2.2.2.2.2.2.2.2.2.2.2.1 q.2.2.2.2.2.2.2.2.2.2.2.2.2.2.2.2.1 q.2.2.2.2.2.2.2.2.2.2.2.2.2.2.2.2.2.1 q.2.2.2.2.2.2.2.2.2.2.2.2.2.2.2.2.2.2.1 q.2.2.2.2.2.2.2.2.2.2.2.2.2.2.2.2.2.2.2
theorem bx20_e {A1 A2 A3 A4 A5 A6 A7 A8 A9 A10 A11 A12 A13 A14 A15 A16 A17 A18 A19 A20 ρ : Type} {x : Option (String ⊕ (A1 × A2 × A3 × A4 × A5 × A6 × A7 × A8 × A9 × A10 × A11 × A12 × A13 × A14 × A15 × A16 × A17 × A18 × A19 × A20))} {k : A1 → A2 → A3 → A4 → A5 → A6 → A7 → A8 → A9 → A10 → A11 → A12 → A13 → A14 → A15 → A16 → A17 → A18 → A19 → A20 → Option (String ⊕ ρ)} {r : String ⊕ ρ} (h : bx20 x k = some r) : (∃ E : String, x = some (.inl E) ∧ r = .inl E) ∨ ∃ (x1 : A1) (x2 : A2) (x3 : A3) (x4 : A4) (x5 : A5) (x6 : A6) (x7 : A7) (x8 : A8) (x9 : A9) (x10 : A10) (x11 : A11) (x12 : A12) (x13 : A13) (x14 : A14) (x15 : A15) (x16 : A16) (x17 : A17) (x18 : A18) (x19 : A19) (x20 : A20), x = some (.inr (x1, x2, x3, x4, x5, x6, x7, x8, x9, x10, x11, x12, x13, x14, x15, x16, x17, x18, x19, x20)) ∧ k x1 x2 x3 x4 x5 x6 x7 x8 x9 x10 x11 x12 x13 x14 x15 x16 x17 x18 x19 x20 = some r := by
  unfold bx20 at h
  cases x with
  | none => cases h
  | some q =>
    cases q with
    | inl E => exact Or.inl ⟨E, rfl, (Option.some.inj h).symm⟩
    | inr q => exact Or.inr ⟨q.1, q.2.1, q.2.2.1, q.2.2.2.1, q.2.2.2.2.1, q.2.2.2.2.2.1, q.2.2.2.2.2.2.1, q.2.2.2.2.2.2.2.1, q.2.2.2.2.2.2.2.2.1, q.2.2.2.2.2.2.2.2.2.1, q.2.2.2.2.2.2.2.2.2.2.1, q.2.2.2.2.2.2.2.2.2.2.2.1, q.2.2.2.2.2.2.2.2.2.2.2.2.1, q.2.2.2.2.2.2.2.2.2.2.2.2.2.1, q.2.2.2.2.2.2.2.2.2.2.2.2.2.2.1, q.2.2.2.2.2.2.2.2.2.2.2.2.2.2.2.1, q.2.2.2.2.2.2.2.2.2.2.2.2.2.2.2.2.1, q.2.2.2.2.2.2.2.2.2.2.2.2.2.2.2.2.2.1, q.2.2.2.2.2.2.2.2.2.2.2.2.2.2.2.2.2.2.1, q.2.2.2.2.2.2.2.2.2.2.2.2.2.2.2.2.2.2.2, rfl, h⟩
def it20 {A1 A2 A3 A4 A5 A6 A7 A8 A9 A10 A11 A12 A13 A14 A15 A16 A17 A18 A19 A20 ρ : Type} (F : (A1 → A2 → A3 → A4 → A5 → A6 → A7 → A8 → A9 → A10 → A11 → A12 → A13 → A14 → A15 → A16 → A17 → A18 → A19 → A20 → Option ρ) → A1 → A2 → A3 → A4 → A5 → A6 → A7 → A8 → A9 → A10 → A11 → A12 → A13 → A14 → A15 → A16 → A17 → A18 → A19 → A20 → Option ρ) : Nat → A1 → A2 → A3 → A4 → A5 → A6 → A7 → A8 → A9 → A10 → A11 → A12 → A13 → A14 → A15 → A16 → A17 → A18 → A19 → A20 → Option ρ
  | 0, _, _, _, _, _, _, _, _, _, _, _, _, _, _, _, _, _, _, _, _ => none
  | n + 1, x1, x2, x3, x4, x5, x6, x7, x8, x9, x10, x11, x12, x13, x14, x15, x16, x17, x18, x19, x20 => F (it20 F n) x1 x2 x3 x4 x5 x6 x7 x8 x9 x10 x11 x12 x13 x14 x15 x16 x17 x18 x19 x20
theorem it20_e {A1 A2 A3 A4 A5 A6 A7 A8 A9 A10 A11 A12 A13 A14 A15 A16 A17 A18 A19 A20 ρ : Type} {F : (A1 → A2 → A3 → A4 → A5 → A6 → A7 → A8 → A9 → A10 → A11 → A12 → A13 → A14 → A15 → A16 → A17 → A18 → A19 → A20 → Option ρ) → A1 → A2 → A3 → A4 → A5 → A6 → A7 → A8 → A9 → A10 → A11 → A12 → A13 → A14 → A15 → A16 → A17 → A18 → A19 → A20 → Option ρ} {r : ρ} (I : A1 → A2 → A3 → A4 → A5 → A6 → A7 → A8 → A9 → A10 → A11 → A12 → A13 → A14 → A15 → A16 → A17 → A18 → A19 → A20 → Prop) (hs : ∀ g : A1 → A2 → A3 → A4 → A5 → A6 → A7 → A8 → A9 → A10 → A11 → A12 → A13 → A14 → A15 → A16 → A17 → A18 → A19 → A20 → Option ρ, (∀ (x1 : A1) (x2 : A2) (x3 : A3) (x4 : A4) (x5 : A5) (x6 : A6) (x7 : A7) (x8 : A8) (x9 : A9) (x10 : A10) (x11 : A11) (x12 : A12) (x13 : A13) (x14 : A14) (x15 : A15) (x16 : A16) (x17 : A17) (x18 : A18) (x19 : A19) (x20 : A20), g x1 x2 x3 x4 x5 x6 x7 x8 x9 x10 x11 x12 x13 x14 x15 x16 x17 x18 x19 x20 = some r → I x1 x2 x3 x4 x5 x6 x7 x8 x9 x10 x11 x12 x13 x14 x15 x16 x17 x18 x19 x20) → ∀ (x1 : A1) (x2 : A2) (x3 : A3) (x4 : A4) (x5 : A5) (x6 : A6) (x7 : A7) (x8 : A8) (x9 : A9) (x10 : A10) (x11 : A11) (x12 : A12) (x13 : A13) (x14 : A14) (x15 : A15) (x16 : A16) (x17 : A17) (x18 : A18) (x19 : A19) (x20 : A20), F g x1 x2 x3 x4 x5 x6 x7 x8 x9 x10 x11 x12 x13 x14 x15 x16 x17 x18 x19 x20 = some r → I x1 x2 x3 x4 x5 x6 x7 x8 x9 x10 x11 x12 x13 x14 x15 x16 x17 x18 x19 x20) : ∀ (n : Nat) (x1 : A1) (x2 : A2) (x3 : A3) (x4 : A4) (x5 : A5) (x6 : A6) (x7 : A7) (x8 : A8) (x9 : A9) (x10 : A10) (x11 : A11) (x12 : A12) (x13 : A13) (x14 : A14) (x15 : A15) (x16 : A16) (x17 : A17) (x18 : A18) (x19 : A19) (x20 : A20), it20 F n x1 x2 x3 x4 x5 x6 x7 x8 x9 x10 x11 x12 x13 x14 x15 x16 x17 x18 x19 x20 = some r → I x1 x2 x3 x4 x5 x6 x7 x8 x9 x10 x11 x12 x13 x14 x15 x16 x17 x18 x19 x20
  | 0, _, _, _, _, _, _, _, _, _, _, _, _, _, _, _, _, _, _, _, _, h => by cases h
  | n + 1, x1, x2, x3, x4, x5, x6, x7, x8, x9, x10, x11, x12, x13, x14, x15, x16, x17, x18, x19, x20, h => hs (it20 F n) (it20_e I hs n) x1 x2 x3 x4 x5 x6 x7 x8 x9 x10 x11 x12 x13 x14 x15 x16 x17 x18 x19 x20 h
def jn20 {A1 A2 A3 A4 A5 A6 A7 A8 A9 A10 A11 A12 A13 A14 A15 A16 A17 A18 A19 A20 ρ : Type} (rest : A1 → A2 → A3 → A4 → A5 → A6 → A7 → A8 → A9 → A10 → A11 → A12 → A13 → A14 → A15 → A16 → A17 → A18 → A19 → A20 → Option ρ) (body : (A1 → A2 → A3 → A4 → A5 → A6 → A7 → A8 → A9 → A10 → A11 → A12 → A13 → A14 → A15 → A16 → A17 → A18 → A19 → A20 → Option ρ) → Option ρ) : Option ρ := body rest
theorem jn20_e {A1 A2 A3 A4 A5 A6 A7 A8 A9 A10 A11 A12 A13 A14 A15 A16 A17 A18 A19 A20 ρ : Type} {rest : A1 → A2 → A3 → A4 → A5 → A6 → A7 → A8 → A9 → A10 → A11 → A12 → A13 → A14 → A15 → A16 → A17 → A18 → A19 → A20 → Option ρ} {body : (A1 → A2 → A3 → A4 → A5 → A6 → A7 → A8 → A9 → A10 → A11 → A12 → A13 → A14 → A15 → A16 → A17 → A18 → A19 → A20 → Option ρ) → Option ρ} {r : ρ} {G : Prop} (J : A1 → A2 → A3 → A4 → A5 → A6 → A7 → A8 → A9 → A10 → A11 → A12 → A13 → A14 → A15 → A16 → A17 → A18 → A19 → A20 → Prop) (h : jn20 rest body = some r) (hJ : ∀ (x1 : A1) (x2 : A2) (x3 : A3) (x4 : A4) (x5 : A5) (x6 : A6) (x7 : A7) (x8 : A8) (x9 : A9) (x10 : A10) (x11 : A11) (x12 : A12) (x13 : A13) (x14 : A14) (x15 : A15) (x16 : A16) (x17 : A17) (x18 : A18) (x19 : A19) (x20 : A20), rest x1 x2 x3 x4 x5 x6 x7 x8 x9 x10 x11 x12 x13 x14 x15 x16 x17 x18 x19 x20 = some r → J x1 x2 x3 x4 x5 x6 x7 x8 x9 x10 x11 x12 x13 x14 x15 x16 x17 x18 x19 x20) (hB : ∀ g : A1 → A2 → A3 → A4 → A5 → A6 → A7 → A8 → A9 → A10 → A11 → A12 → A13 → A14 → A15 → A16 → A17 → A18 → A19 → A20 → Option ρ, (∀ (x1 : A1) (x2 : A2) (x3 : A3) (x4 : A4) (x5 : A5) (x6 : A6) (x7 : A7) (x8 : A8) (x9 : A9) (x10 : A10) (x11 : A11) (x12 : A12) (x13 : A13) (x14 : A14) (x15 : A15) (x16 : A16) (x17 : A17) (x18 : A18) (x19 : A19) (x20 : A20), g x1 x2 x3 x4 x5 x6 x7 x8 x9 x10 x11 x12 x13 x14 x15 x16 x17 x18 x19 x20 = some r → J x1 x2 x3 x4 x5 x6 x7 x8 x9 x10 x11 x12 x13 x14 x15 x16 x17 x18 x19 x20) → body g = some r → G) : G := hB rest hJ h
def bd21 {A1 A2 A3 A4 A5 A6 A7 A8 A9 A10 A11 A12 A13 A14 A15 A16 A17 A18 A19 A20 A21 ρ : Type} (x : Option (A1 × A2 × A3 × A4 × A5 × A6 × A7 × A8 × A9 × A10 × A11 × A12 × A13 × A14 × A15 × A16 × A17 × A18 × A19 × A20 × A21)) (k : A1 → A2 → A3 → A4 → A5 → A6 → A7 → A8 → A9 → A10 → A11 → A12 → A13 → A14 → A15 → A16 → A17 → A18 → A19 → A20 → A21 → Option ρ) : Option ρ := x.bind (fun q => k q.1 q.2.1 q.2.2.1 q.2.2.2.1 q.2.2.2.2.1 q.2.2.2.2.2.1 q.2.2.2.2.2.2.1 q.2.2.2.2.2.2.2.1 q.2.2.2.2.2.2.2.2.1 q.2.2.2.2.2.2.2.2.2.1 q.2.2.2.2.2.2.2.2.2.2.1 q.2.2.2.2.2.2.2.2.2.2.2.1 q.2.2.2.2.2.2.2.2.2.2.2.2.1 q.2.2.2.2.2.2.2.2.2.2.2.2.2.1 q.2.2.2.2.2.2.2.2.2.2.2.2.2.2.1 q.2.2.2.2.2.2.2.2.2.2.2.2.2.2.2.1 q.2.2.2.2.2.2.2.2.2.2.2.2.2.2.2.2.1 q.2.2.2.2.2.2.2.2.2.2.2.2.2.2.2.2.2.1 q.2.2.2.2.2.2.2.2.2.2.2.2.2.2.2.2.2.2.1 q.2.2.2.2.2.2.2.2.2.2.2.2.2.2.2.2.2.2.2.1 q.2.2.2.2.2.2.2.2.2.2.2.2.2.2.2.2.2.2.2.2)
theorem bd21_e {A1 A2 A3 A4 A5 A6 A7 A8 A9 A10 A11 A12 A13 A14 A15 A16 A17 A18 A19 A20 A21 ρ : Type} {x : Option (A1 × A2 × A3 × A4 × A5 × A6 × A7 × A8 × A9 × A10 × A11 × A12 × A13 × A14 × A15 × A16 × A17 × A18 × A19 × A20 × A21)} {k : A1 → A2 → A3 → A4 → A5 → A6 → A7 → A8 → A9 → A10 → A11 → A12 → A13 → A14 → A15 → A16 → A17 → A18 → A19 → A20 → A21 → Option ρ} {r : ρ} (h : bd21 x k = some r) : ∃ (x1 : A1) (x2 : A2) (x3 : A3) (x4 : A4) (x5 : A5) (x6 : A6) (x7 : A7) (x8 : A8) (x9 : A9) (x10 : A10) (x11 : A11) (x12 : A12) (x13 : A13) (x14 : A14) (x15 : A15) (x16 : A16) (x17 : A17) (x18 : A18) (x19 : A19) (x20 : A20) (x21 : A21), x = some (x1, x2, x3, x4, x5, x6, x7, x8, x9, x10, x11, x12, x13, x14, x15, x16, x17, x18, x19, x20, x21) ∧ k x1 x2 x3 x4 x5 x6 x7 x8 x9 x10 x11 x12 x13 x14 x15 x16 x17 x18 x19 x20 x21 = some r := by
  unfold bd21 at h
  cases x with
  | none => cases h
  | some q => exact ⟨q.1, q.2.1, q.2.2.1, q.2.2.2.1, q.2.2.2.2.1, q.2.2.2.2.2.1, q.2.2.2.2.2.2.1, q.2.2.2.2.2.2.2.1, q.2.2.2.2.2.2.2.2.1, q.2.2.2.2.2.2.2.2.2.1, q.2.2.2.2.2.2.2.2.2.2.1, q.2.2.2.2.2.2.2.2.2.2.2.1, q.2.2.2.2.2.2.2.2.2.2.2.2.1, q.2.2.2.2.2.2.2.2.2.2.2.2.2.1, q.2.2.2.2.2.2.2.2.2.2.2.2.2.2.1, q.2.2.2.2.2.2.2.2.2.2.2.2.2.2.2.1, q.2.2.2.2.2.2.2.2.2.2.2.2.2.2.2.2.1, q.2.2.2.2.2.2.2.2.2.2.2.2.2.2.2.2.2.1, q.2.2.2.2.2.2.2.2.2.2.2.2.2.2.2.2.2.2.1, q.2.2.2.2.2.2.2.2.2.2.2.2.2.2.2.2.2.2.2.1, q.2.2.2.2.2.2.2.2.2.2.2.2.2.2.2.2.2.2.2.2, rfl, h⟩
def bx21 {A1 A2 A3 A4 A5 A6 A7 A8 A9 A10 A11 A12 A13 A14 A15 A16 A17 A18 A19 A20 A21 ρ : Type} (x : Option (String ⊕ (A1 × A2 × A3 × A4 × A5 × A6 × A7 × A8 × A9 × A10 × A11 × A12 × A13 × A14 × A15 × A16 × A17 × A18 × A19 × A20 × A21))) (k : A1 → A2 → A3 → A4 → A5 → A6 → A7 → A8 → A9 → A10 → A11 → A12 → A13 → A14 → A15 → A16 → A17 → A18 → A19 → A20 → A21 → Option (String ⊕ ρ)) : Option (String ⊕ ρ) := match x with
  | none => none
  | some (.inl E) => some (.inl E)
  | some (.inr q) => k q.1 q.2.1 q.2.2.1 q.2.2.2.1 q.2.2.2.2.1 q.2.2.2.2.2.1 q.2.2.2.2.2.2.1 q.2.2.2.2.2.2.2.1 q.2.2.2.2.2.2.2.2.1 q.2.2.2.2.2.2.2.2.2.1 q.2.2.2.2.2.2.2.2.2.2.1 q.2.2.2.2.2.2.2.2.2.2.2.1 q.2.2.2.2.2.2.2.2.2.2.2.2.1 q.2.2.2.2.2.2.2.2.2.2.2.2.2.1 q.2.2.2.2.2.2.2.2.2.2.2.2.2.2.1 q.2.2.2.2.2.2.2.2.2.2.2.2.2.2.2.1 q.2.2.2.2.2.2.2.2.2.2.2.2.2.2.2.2.1 q.2.2.2.2.2.2.2.2.2.2.2.2.2.2.2.2.2.1 q.2.2.2.2.2.2.2.2.2.2.2.2.2.2.2.2.2.2.1 q.2.2.2.2.2.2.2.2.2.2.2.2.2.2.2.2.2.2.2.1 q.2.2.2.2.2.2.2.2.2.2.2.2.2.2.2.2.2.2.2.2
theorem bx21_e {A1 A2 A3 A4 A5 A6 A7 A8 A9 A10 A11 A12 A13 A14 A15 A16 A17 A18 A19 A20 A21 ρ : Type} {x : Option (String ⊕ (A1 × A2 × A3 × A4 × A5 × A6 × A7 × A8 × A9 × A10 × A11 × A12 × A13 × A14 × A15 × A16 × A17 × A18 × A19 × A20 × A21))} {k : A1 → A2 → A3 → A4 → A5 → A6 → A7 → A8 → A9 → A10 → A11 → A12 → A13 → A14 → A15 → A16 → A17 → A18 → A19 → A20 → A21 → Option (String ⊕ ρ)} {r : String ⊕ ρ} (h : bx21 x k = some r) : (∃ E : String, x = some (.inl E) ∧ r = .inl E) ∨ ∃ (x1 : A1) (x2 : A2) (x3 : A3) (x4 : A4) (x5 : A5) (x6 : A6) (x7 : A7) (x8 : A8) (x9 : A9) (x10 : A10) (x11 : A11) (x12 : A12) (x13 : A13) (x14 : A14) (x15 : A15) (x16 : A16) (x17 : A17) (x18 : A18) (x19 : A19) (x20 : A20) (x21 : A21), x = some (.inr (x1, x2, x3, x4, x5, x6, x7, x8, x9, x10, x11, x12, x13, x14, x15, x16, x17, x18, x19, x20, x21)) ∧ k x1 x2 x3 x4 x5 x6 x7 x8 x9 x10 x11 x12 x13 x14 x15 x16 x17 x18 x19 x20 x21 = some r := by
  unfold bx21 at h
  cases x with
  | none => cases h
  | some q =>
    cases q with
    | inl E => exact Or.inl ⟨E, rfl, (Option.some.inj h).symm⟩
    | inr q => exact Or.inr ⟨q.1, q.2.1, q.2.2.1, q.2.2.2.1, q.2.2.2.2.1, q.2.2.2.2.2.1, q.2.2.2.2.2.2.1, q.2.2.2.2.2.2.2.1, q.2.2.2.2.2.2.2.2.1, q.2.2.2.2.2.2.2.2.2.1, q.2.2.2.2.2.2.2.2.2.2.1, q.2.2.2.2.2.2.2.2.2.2.2.1, q.2.2.2.2.2.2.2.2.2.2.2.2.1, q.2.2.2.2.2.2.2.2.2.2.2.2.2.1, q.2.2.2.2.2.2.2.2.2.2.2.2.2.2.1, q.2.2.2.2.2.2.2.2.2.2.2.2.2.2.2.1, q.2.2.2.2.2.2.2.2.2.2.2.2.2.2.2.2.1, q.2.2.2.2.2.2.2.2.2.2.2.2.2.2.2.2.2.1, q.2.2.2.2.2.2.2.2.2.2.2.2.2.2.2.2.2.2.1, q.2.2.2.2.2.2.2.2.2.2.2.2.2.2.2.2.2.2.2.1, q.2.2.2.2.2.2.2.2.2.2.2.2.2.2.2.2.2.2.2.2, rfl, h⟩
def it21 {A1 A2 A3 A4 A5 A6 A7 A8 A9 A10 A11 A12 A13 A14 A15 A16 A17 A18 A19 A20 A21 ρ : Type} (F : (A1 → A2 → A3 → A4 → A5 → A6 → A7 → A8 → A9 → A10 → A11 → A12 → A13 → A14 → A15 → A16 → A17 → A18 → A19 → A20 → A21 → Option ρ) → A1 → A2 → A3 → A4 → A5 → A6 → A7 → A8 → A9 → A10 → A11 → A12 → A13 → A14 → A15 → A16 → A17 → A18 → A19 → A20 → A21 → Option ρ) : Nat → A1 → A2 → A3 → A4 → A5 → A6 → A7 → A8 → A9 → A10 → A11 → A12 → A13 → A14 → A15 → A16 → A17 → A18 → A19 → A20 → A21 → Option ρ
  | 0, _, _, _, _, _, _, _, _, _, _, _, _, _, _, _, _, _, _, _, _, _ => none
  | n + 1, x1, x2, x3, x4, x5, x6, x7, x8, x9, x10, x11, x12, x13, x14, x15, x16, x17, x18, x19, x20, x21 => F (it21 F n) x1 x2 x3 x4 x5 x6 x7 x8 x9 x10 x11 x12 x13 x14 x15 x16 x17 x18 x19 x20 x21
theorem it21_e {A1 A2 A3 A4 A5 A6 A7 A8 A9 A10 A11 A12 A13 A14 A15 A16 A17 A18 A19 A20 A21 ρ : Type} {F : (A1 → A2 → A3 → A4 → A5 → A6 → A7 → A8 → A9 → A10 → A11 → A12 → A13 → A14 → A15 → A16 → A17 → A18 → A19 → A20 → A21 → Option ρ) → A1 → A2 → A3 → A4 → A5 → A6 → A7 → A8 → A9 → A10 → A11 → A12 → A13 → A14 → A15 → A16 → A17 → A18 → A19 → A20 → A21 → Option ρ} {r : ρ} (I : A1 → A2 → A3 → A4 → A5 → A6 → A7 → A8 → A9 → A10 → A11 → A12 → A13 → A14 → A15 → A16 → A17 → A18 → A19 → A20 → A21 → Prop) (hs : ∀ g : A1 → A2 → A3 → A4 → A5 → A6 → A7 → A8 → A9 → A10 → A11 → A12 → A13 → A14 → A15 → A16 → A17 → A18 → A19 → A20 → A21 → Option ρ, (∀ (x1 : A1) (x2 : A2) (x3 : A3) (x4 : A4) (x5 : A5) (x6 : A6) (x7 : A7) (x8 : A8) (x9 : A9) (x10 : A10) (x11 : A11) (x12 : A12) (x13 : A13) (x14 : A14) (x15 : A15) (x16 : A16) (x17 : A17) (x18 : A18) (x19 : A19) (x20 : A20) (x21 : A21), g x1 x2 x3 x4 x5 x6 x7 x8 x9 x10 x11 x12 x13 x14 x15 x16 x17 x18 x19 x20 x21 = some r → I x1 x2 x3 x4 x5 x6 x7 x8 x9 x10 x11 x12 x13 x14 x15 x16 x17 x18 x19 x20 x21) → ∀ (x1 : A1) (x2 : A2) (x3 : A3) (x4 : A4) (x5 : A5) (x6 : A6) (x7 : A7) (x8 : A8) (x9 : A9) (x10 : A10) (x11 : A11) (x12 : A12) (x13 : A13) (x14 : A14) (x15 : A15) (x16 : A16) (x17 : A17) (x18 : A18) (x19 : A19) (x20 : A20) (x21 : A21), F g x1 x2 x3 x4 x5 x6 x7 x8 x9 x10 x11 x12 x13 x14 x15 x16 x17 x18 x19 x20 x21 = some r → I x1 x2 x3 x4 x5 x6 x7 x8 x9 x10 x11 x12 x13 x14 x15 x16 x17 x18 x19 x20 x21) : ∀ (n : Nat) (x1 : A1) (x2 : A2) (x3 : A3) (x4 : A4) (x5 : A5) (x6 : A6) (x7 : A7) (x8 : A8) (x9 : A9) (x10 : A10) (x11 : A11) (x12 : A12) (x13 : A13) (x14 : A14) (x15 : A15) (x16 : A16) (x17 : A17) (x18 : A18) (x19 : A19) (x20 : A20) (x21 : A21), it21 F n x1 x2 x3 x4 x5 x6 x7 x8 x9 x10 x11 x12 x13 x14 x15 x16 x17 x18 x19 x20 x21 = some r → I x1 x2 x3 x4 x5 x6 x7 x8 x9 x10 x11 x12 x13 x14 x15 x16 x17 x18 x19 x20 x21
  | 0, _, _, _, _, _, _, _, _, _, _, _, _, _, _, _, _, _, _, _, _, _, h => by cases h
  | n + 1, x1, x2, x3, x4, x5, x6, x7, x8, x9, x10, x11, x12, x13, x14, x15, x16, x17, x18, x19, x20, x21, h => hs (it21 F n) (it21_e I hs n) x1 x2 x3 x4 x5 x6 x7 x8 x9 x10 x11 x12 x13 x14 x15 x16 x17 x18 x19 x20 x21 h
def jn21 {A1 A2 A3 A4 A5 A6 A7 A8 A9 A10 A11 A12 A13 A14 A15 A16 A17 A18 A19 A20 A21 ρ : Type} (rest : A1 → A2 → A3 → A4 → A5 → A6 → A7 → A8 → A9 → A10 → A11 → A12 → A13 → A14 → A15 → A16 → A17 → A18 → A19 → A20 → A21 → Option ρ) (body : (A1 → A2 → A3 → A4 → A5 → A6 → A7 → A8 → A9 → A10 → A11 → A12 → A13 → A14 → A15 → A16 → A17 → A18 → A19 → A20 → A21 → Option ρ) → Option ρ) : Option ρ := body rest
theorem jn21_e {A1 A2 A3 A4 A5 A6 A7 A8 A9 A10 A11 A12 A13 A14 A15 A16 A17 A18 A19 A20 A21 ρ : Type} {rest : A1 → A2 → A3 → A4 → A5 → A6 → A7 → A8 → A9 → A10 → A11 → A12 → A13 → A14 → A15 → A16 → A17 → A18 → A19 → A20 → A21 → Option ρ} {body : (A1 → A2 → A3 → A4 → A5 → A6 → A7 → A8 → A9 → A10 → A11 → A12 → A13 → A14 → A15 → A16 → A17 → A18 → A19 → A20 → A21 → Option ρ) → Option ρ} {r : ρ} {G : Prop} (J : A1 → A2 → A3 → A4 → A5 → A6 → A7 → A8 → A9 → A10 → A11 → A12 → A13 → A14 → A15 → A16 → A17 → A18 → A19 → A20 → A21 → Prop) (h : jn21 rest body = some r) (hJ : ∀ (x1 : A1) (x2 : A2) (x3 : A3) (x4 : A4) (x5 : A5) (x6 : A6) (x7 : A7) (x8 : A8) (x9 : A9) (x10 : A10) (x11 : A11) (x12 : A12) (x13 : A13) (x14 : A14) (x15 : A15) (x16 : A16) (x17 : A17) (x18 : A18) (x19 : A19) (x20 : A20) (x21 : A21), rest x1 x2 x3 x4 x5 x6 x7 x8 x9 x10 x11 x12 x13 x14 x15 x16 x17 x18 x19 x20 x21 = some r → J x1 x2 x3 x4 x5 x6 x7 x8 x9 x10 x11 x12 x13 x14 x15 x16 x17 x18 x19 x20 x21) (hB : ∀ g : A1 → A2 → A3 → A4 → A5 → A6 → A7 → A8 → A9 → A10 → A11 → A12 → A13 → A14 → A15 → A16 → A17 → A18 → A19 → A20 → A21 → Option ρ, (∀ (x1 : A1) (x2 : A2) (x3 : A3) (x4 : A4) (x5 : A5) (x6 : A6) (x7 : A7) (x8 : A8) (x9 : A9) (x10 : A10) (x11 : A11) (x12 : A12) (x13 : A13) (x14 : A14) (x15 : A15) (x16 : A16) (x17 : A17) (x18 : A18) (x19 : A19) (x20 : A20) (x21 : A21), g x1 x2 x3 x4 x5 x6 x7 x8 x9 x10 x11 x12 x13 x14 x15 x16 x17 x18 x19 x20 x21 = some r → J x1 x2 x3 x4 x5 x6 x7 x8 x9 x10 x11 x12 x13 x14 x15 x16 x17 x18 x19 x20 x21) → body g = some r → G) : G := hB rest hJ h
def bd22 {A1 A2 A3 A4 A5 A6 A7 A8 A9 A10 A11 A12 A13 A14 A15 A16 A17 A18 A19 A20 A21 A22 ρ : Type} (x : Option (A1 × A2 × A3 × A4 × A5 × A6 × A7 × A8 × A9 × A10 × A11 × A12 × A13 × A14 × A15 × A16 × A17 × A18 × A19 × A20 × A21 × A22)) (k : A1 → A2 → A3 → A4 → A5 → A6 → A7 → A8 → A9 → A10 → A11 → A12 → A13 → A14 → A15 → A16 → A17 → A18 → A19 → A20 → A21 → A22 → Option ρ) : Option ρ := x.bind (fun q => k q.1 q.2.1 q.2.2.1 q.2.2.2.1 q.2.2.2.2.1 q.2.2.2.2.2.1 q.2.2.2.2.2.2.1 q.2.2.2.2.2.2.2.1 q.2.2.2.2.2.2.2.2.1 q.2.2.2.2.2.2.2.2.2.1 q.2.2.2.2.2.2.2.2.2.2.1 q.2.2.2.2.2.2.2.2.2.2.2.1 q.2.2.2.2.2.2.2.2.2.2.2.2.1 q.2.2.2.2.2.2.2.2.2.2.2.2.2.1 q.2.2.2.2.2.2.2.2.2.2.2.2.2.2.1 q.2.2.2.2.2.2.2.2.2.2.2.2.2.2.2.1 q.2.2.2.2.2.2.2.2.2.2.2.2.2.2.2.2.1 q.2.2.2.2.2.2.2.2.2.2.2.2.2.2.2.2.2.1 q.2.2.2.2.2.2.2.2.2.2.2.2.2.2.2.2.2.2.1 q.2.2.2.2.2.2.2.2.2.2.2.2.2.2.2.2.2.2.2.1 q.2.2.2.2.2.2.2.2.2.2.2.2.2.2.2.2.2.2.2.2.1 q.2.2.2.2.2.2.2.2.2.2.2.2.2.2.2.2.2.2.2.2.2)
theorem bd22_e {A1 A2 A3 A4 A5 A6 A7 A8 A9 A10 A11 A12 A13 A14 A15 A16 A17 A18 A19 A20 A21 A22 ρ : Type} {x : Option (A1 × A2 × A3 × A4 × A5 × A6 × A7 × A8 × A9 × A10 × A11 × A12 × A13 × A14 × A15 × A16 × A17 × A18 × A19 × A20 × A21 × A22)} {k : A1 → A2 → A3 → A4 → A5 → A6 → A7 → A8 → A9 → A10 → A11 → A12 → A13 → A14 → A15 → A16 → A17 → A18 → A19 → A20 → A21 → A22 → Option ρ} {r : ρ} (h : bd22 x k = some r) : ∃ (x1 : A1) (x2 : A2) (x3 : A3) (x4 : A4) (x5 : A5) (x6 : A6) (x7 : A7) (x8 : A8) (x9 : A9) (x10 : A10) (x11 : A11) (x12 : A12) (x13 : A13) (x14 : A14) (x15 : A15) (x16 : A16) (x17 : A17) (x18 : A18) (x19 : A19) (x20 : A20) (x21 : A21) (x22 : A22), x = some (x1, x2, x3, x4, x5, x6, x7, x8, x9, x10, x11, x12, x13, x14, x15, x16, x17, x18, x19, x20, x21, x22) ∧ k x1 x2 x3 x4 x5 x6 x7 x8 x9 x10 x11 x12 x13 x14 x15 x16 x17 x18 x19 x20 x21 x22 = some r := by
  unfold bd22 at h
  cases x with
  | none => cases h
  | some q => exact ⟨q.1, q.2.1, q.2.2.1, q.2.2.2.1, q.2.2.2.2.1, q.2.2.2.2.2.1, q.2.2.2.2.2.2.1, q.2.2.2.2.2.2.2.1, q.2.2.2.2.2.2.2.2.1, q.2.2.2.2.2.2.2.2.2.1, q.2.2.2.2.2.2.2.2.2.2.1, q.2.2.2.2.2.2.2.2.2.2.2.1, q.2.2.2.2.2.2.2.2.2.2.2.2.1, q.2.2.2.2.2.2.2.2.2.2.2.2.2.1, q.2.2.2.2.2.2.2.2.2.2.2.2.2.2.1, q.2.2.2.2.2.2.2.2.2.2.2.2.2.2.2.1, q.2.2.2.2.2.2.2.2.2.2.2.2.2.2.2.2.1, q.2.2.2.2.2.2.2.2.2.2.2.2.2.2.2.2.2.1, q.2.2.2.2.2.2.2.2.2.2.2.2.2.2.2.2.2.2.1, q.2.2.2.2.2.2.2.2.2.2.2.2.2.2.2.2.2.2.2.1, q.2.2.2.2.2.2.2.2.2.2.2.2.2.2.2.2.2.2.2.2.1, q.2.2.2.2.2.2.2.2.2.2.2.2.2.2.2.2.2.2.2.2.2, rfl, h⟩
def bx22 {A1 A2 A3 A4 A5 A6 A7 A8 A9 A10 A11 A12 A13 A14 A15 A16 A17 A18 A19 A20 A21 A22 ρ : Type} (x : Option (String ⊕ (A1 × A2 × A3 × A4 × A5 × A6 × A7 × A8 × A9 × A10 × A11 × A12 × A13 × A14 × A15 × A16 × A17 × A18 × A19 × A20 × A21 × A22))) (k : A1 → A2 → A3 → A4 → A5 → A6 → A7 → A8 → A9 → A10 → A11 → A12 → A13 → A14 → A15 → A16 → A17 → A18 → A19 → A20 → A21 → A22 → Option (String ⊕ ρ)) : Option (String ⊕ ρ) := match x with
  | none => none
  | some (.inl E) => some (.inl E)
  | some (.inr q) => k q.1 q.2.1 q.2.2.1 q.2.2.2.1 q.2.2.2.2.1 q.2.2.2.2.2.1 q.2.2.2.2.2.2.1 q.2.2.2.2.2.2.2.1 q.2.2.2.2.2.2.2.2.1 q.2.2.2.2.2.2.2.2.2.1 q.2.2.2.2.2.2.2.2.2.2.1 q.2.2.2.2.2.2.2.2.2.2.2.1 q.2.2.2.2.2.2.2.2.2.2.2.2.1 q.2.2.2.2.2.2.2.2.2.2.2.2.2.1 q.2.2.2.2.2.2.2.2.2.2.2.2.2.2.1 q.2.2.2.2.2.2.2.2.2.2.2.2.2.2.2.1 q.2.2.2.2.2.2.2.2.2.2.2.2.2.2.2.2.1 q.2.2.2.2.2.2.2.2.2.2.2.2.2.2.2.2.2.1 q.2.2.2.2.2.2.2.2.2.2.2.2.2.2.2.2.2.2.1 q.2.2.2.2.2.2.2.2.2.2.2.2.2.2.2.2.2.2.2.1 q.2.2.2.2.2.2.2.2.2.2.2.2.2.2.2.2.2.2.2.2.1 q.2.2.2.2.2.2.2.2.2.2.2.2.2.2.2.2.2.2.2.2.2
theorem bx22_e {A1 A2 A3 A4 A5 A6 A7 A8 A9 A10 A11 A12 A13 A14 A15 A16 A17 A18 A19 A20 A21 A22 ρ : Type} {x : Option (String ⊕ (A1 × A2 × A3 × A4 × A5 × A6 × A7 × A8 × A9 × A10 × A11 × A12 × A13 × A14 × A15 × A16 × A17 × A18 × A19 × A20 × A21 × A22))} {k : A1 → A2 → A3 → A4 → A5 → A6 → A7 → A8 → A9 → A10 → A11 → A12 → A13 → A14 → A15 → A16 → A17 → A18 → A19 → A20 → A21 → A22 → Option (String ⊕ ρ)} {r : String ⊕ ρ} (h : bx22 x k = some r) : (∃ E : String, x = some (.inl E) ∧ r = .inl E) ∨ ∃ (x1 : A1) (x2 : A2) (x3 : A3) (x4 : A4) (x5 : A5) (x6 : A6) (x7 : A7) (x8 : A8) (x9 : A9) (x10 : A10) (x11 : A11) (x12 : A12) (x13 : A13) (x14 : A14) (x15 : A15) (x16 : A16) (x17 : A17) (x18 : A18) (x19 : A19) (x20 : A20) (x21 : A21) (x22 : A22), x = some (.inr (x1, x2, x3, x4, x5, x6, x7, x8, x9, x10, x11, x12, x13, x14, x15, x16, x17, x18, x19, x20, x21, x22)) ∧ k x1 x2 x3 x4 x5 x6 x7 x8 x9 x10 x11 x12 x13 x14 x15 x16 x17 x18 x19 x20 x21 x22 = some r := by
  unfold bx22 at h
  cases x with
  | none => cases h
  | some q =>
    cases q with
    | inl E => exact Or.inl ⟨E, rfl, (Option.some.inj h).symm⟩
    | inr q => exact Or.inr ⟨q.1, q.2.1, q.2.2.1, q.2.2.2.1, q.2.2.2.2.1, q.2.2.2.2.2.1, q.2.2.2.2.2.2.1, q.2.2.2.2.2.2.2.1, q.2.2.2.2.2.2.2.2.1, q.2.2.2.2.2.2.2.2.2.1, q.2.2.2.2.2.2.2.2.2.2.1, q.2.2.2.2.2.2.2.2.2.2.2.1, q.2.2.2.2.2.2.2.2.2.2.2.2.1, q.2.2.2.2.2.2.2.2.2.2.2.2.2.1, q.2.2.2.2.2.2.2.2.2.2.2.2.2.2.1, q.2.2.2.2.2.2.2.2.2.2.2.2.2.2.2.1, q.2.2.2.2.2.2.2.2.2.2.2.2.2.2.2.2.1, q.2.2.2.2.2.2.2.2.2.2.2.2.2.2.2.2.2.1, q.2.2.2.2.2.2.2.2.2.2.2.2.2.2.2.2.2.2.1, q.2.2.2.2.2.2.2.2.2.2.2.2.2.2.2.2.2.2.2.1, q.2.2.2.2.2.2.2.2.2.2.2.2.2.2.2.2.2.2.2.2.1, q.2.2.2.2.2.2.2.2.2.2.2.2.2.2.2.2.2.2.2.2.2, rfl, h⟩
def it22 {A1 A2 A3 A4 A5 A6 A7 A8 A9 A10 A11 A12 A13 A14 A15 A16 A17 A18 A19 A20 A21 A22 ρ : Type} (F : (A1 → A2 → A3 → A4 → A5 → A6 → A7 → A8 → A9 → A10 → A11 → A12 → A13 → A14 → A15 → A16 → A17 → A18 → A19 → A20 → A21 → A22 → Option ρ) → A1 → A2 → A3 → A4 → A5 → A6 → A7 → A8 → A9 → A10 → A11 → A12 → A13 → A14 → A15 → A16 → A17 → A18 → A19 → A20 → A21 → A22 → Option ρ) : Nat → A1 → A2 → A3 → A4 → A5 → A6 → A7 → A8 → A9 → A10 → A11 → A12 → A13 → A14 → A15 → A16 → A17 → A18 → A19 → A20 → A21 → A22 → Option ρ
  | 0, _, _, _, _, _, _, _, _, _, _, _, _, _, _, _, _, _, _, _, _, _, _ => none
  | n + 1, x1, x2, x3, x4, x5, x6, x7, x8, x9, x10, x11, x12, x13, x14, x15, x16, x17, x18, x19, x20, x21, x22 => F (it22 F n) x1 x2 x3 x4 x5 x6 x7 x8 x9 x10 x11 x12 x13 x14 x15 x16 x17 x18 x19 x20 x21 x22
theorem it22_e {A1 A2 A3 A4 A5 A6 A7 A8 A9 A10 A11 A12 A13 A14 A15 A16 A17 A18 A19 A20 A21 A22 ρ : Type} {F : (A1 → A2 → A3 → A4 → A5 → A6 → A7 → A8 → A9 → A10 → A11 → A12 → A13 → A14 → A15 → A16 → A17 → A18 → A19 → A20 → A21 → A22 → Option ρ) → A1 → A2 → A3 → A4 → A5 → A6 → A7 → A8 → A9 → A10 → A11 → A12 → A13 → A14 → A15 → A16 → A17 → A18 → A19 → A20 → A21 → A22 → Option ρ} {r : ρ} (I : A1 → A2 → A3 → A4 → A5 → A6 → A7 → A8 → A9 → A10 → A11 → A12 → A13 → A14 → A15 → A16 → A17 → A18 → A19 → A20 → A21 → A22 → Prop) (hs : ∀ g : A1 → A2 → A3 → A4 → A5 → A6 → A7 → A8 → A9 → A10 → A11 → A12 → A13 → A14 → A15 → A16 → A17 → A18 → A19 → A20 → A21 → A22 → Option ρ, (∀ (x1 : A1) (x2 : A2) (x3 : A3) (x4 : A4) (x5 : A5) (x6 : A6) (x7 : A7) (x8 : A8) (x9 : A9) (x10 : A10) (x11 : A11) (x12 : A12) (x13 : A13) (x14 : A14) (x15 : A15) (x16 : A16) (x17 : A17) (x18 : A18) (x19 : A19) (x20 : A20) (x21 : A21) (x22 : A22), g x1 x2 x3 x4 x5 x6 x7 x8 x9 x10 x11 x12 x13 x14 x15 x16 x17 x18 x19 x20 x21 x22 = some r → I x1 x2 x3 x4 x5 x6 x7 x8 x9 x10 x11 x12 x13 x14 x15 x16 x17 x18 x19 x20 x21 x22) → ∀ (x1 : A1) (x2 : A2) (x3 : A3) (x4 : A4) (x5 : A5) (x6 : A6) (x7 : A7) (x8 : A8) (x9 : A9) (x10 : A10) (x11 : A11) (x12 : A12) (x13 : A13) (x14 : A14) (x15 : A15) (x16 : A16) (x17 : A17) (x18 : A18) (x19 : A19) (x20 : A20) (x21 : A21) (x22 : A22), F g x1 x2 x3 x4 x5 x6 x7 x8 x9 x10 x11 x12 x13 x14 x15 x16 x17 x18 x19 x20 x21 x22 = some r → I x1 x2 x3 x4 x5 x6 x7 x8 x9 x10 x11 x12 x13 x14 x15 x16 x17 x18 x19 x20 x21 x22) : ∀ (n : Nat) (x1 : A1) (x2 : A2) (x3 : A3) (x4 : A4) (x5 : A5) (x6 : A6) (x7 : A7) (x8 : A8) (x9 : A9) (x10 : A10) (x11 : A11) (x12 : A12) (x13 : A13) (x14 : A14) (x15 : A15) (x16 : A16) (x17 : A17) (x18 : A18) (x19 : A19) (x20 : A20) (x21 : A21) (x22 : A22), it22 F n x1 x2 x3 x4 x5 x6 x7 x8 x9 x10 x11 x12 x13 x14 x15 x16 x17 x18 x19 x20 x21 x22 = some r → I x1 x2 x3 x4 x5 x6 x7 x8 x9 x10 x11 x12 x13 x14 x15 x16 x17 x18 x19 x20 x21 x22
  | 0, _, _, _, _, _, _, _, _, _, _, _, _, _, _, _, _, _, _, _, _, _, _, h => by cases h
  | n + 1, x1, x2, x3, x4, x5, x6, x7, x8, x9, x10, x11, x12, x13, x14, x15, x16, x17, x18, x19, x20, x21, x22, h => hs (it22 F n) (it22_e I hs n) x1 x2 x3 x4 x5 x6 x7 x8 x9 x10 x11 x12 x13 x14 x15 x16 x17 x18 x19 x20 x21 x22 h
def jn22 {A1 A2 A3 A4 A5 A6 A7 A8 A9 A10 A11 A12 A13 A14 A15 A16 A17 A18 A19 A20 A21 A22 ρ : Type} (rest : A1 → A2 → A3 → A4 → A5 → A6 → A7 → A8 → A9 → A10 → A11 → A12 → A13 → A14 → A15 → A16 → A17 → A18 → A19 → A20 → A21 → A22 → Option ρ) (body : (A1 → A2 → A3 → A4 → A5 → A6 → A7 → A8 → A9 → A10 → A11 → A12 → A13 → A14 → A15 → A16 → A17 → A18 → A19 → A20 → A21 → A22 → Option ρ) → Option ρ) : Option ρ := body rest
theorem jn22_e {A1 A2 A3 A4 A5 A6 A7 A8 A9 A10 A11 A12 A13 A14 A15 A16 A17 A18 A19 A20 A21 A22 ρ : Type} {rest : A1 → A2 → A3 → A4 → A5 → A6 → A7 → A8 → A9 → A10 → A11 → A12 → A13 → A14 → A15 → A16 → A17 → A18 → A19 → A20 → A21 → A22 → Option ρ} {body : (A1 → A2 → A3 → A4 → A5 → A6 → A7 → A8 → A9 → A10 → A11 → A12 → A13 → A14 → A15 → A16 → A17 → A18 → A19 → A20 → A21 → A22 → Option ρ) → Option ρ} {r : ρ} {G : Prop} (J : A1 → A2 → A3 → A4 → A5 → A6 → A7 → A8 → A9 → A10 → A11 → A12 → A13 → A14 → A15 → A16 → A17 → A18 → A19 → A20 → A21 → A22 → Prop) (h : jn22 rest body = some r) (hJ : ∀ (x1 : A1) (x2 : A2) (x3 : A3) (x4 : A4) (x5 : A5) (x6 : A6) (x7 : A7) (x8 : A8) (x9 : A9) (x10 : A10) (x11 : A11) (x12 : A12) (x13 : A13) (x14 : A14) (x15 : A15) (x16 : A16) (x17 : A17) (x18 : A18) (x19 : A19) (x20 : A20) (x21 : A21) (x22 : A22), rest x1 x2 x3 x4 x5 x6 x7 x8 x9 x10 x11 x12 x13 x14 x15 x16 x17 x18 x19 x20 x21 x22 = some r → J x1 x2 x3 x4 x5 x6 x7 x8 x9 x10 x11 x12 x13 x14 x15 x16 x17 x18 x19 x20 x21 x22) (hB : ∀ g : A1 → A2 → A3 → A4 → A5 → A6 → A7 → A8 → A9 → A10 → A11 → A12 → A13 → A14 → A15 → A16 → A17 → A18 → A19 → A20 → A21 → A22 → Option ρ, (∀ (x1 : A1) (x2 : A2) (x3 : A3) (x4 : A4) (x5 : A5) (x6 : A6) (x7 : A7) (x8 : A8) (x9 : A9) (x10 : A10) (x11 : A11) (x12 : A12) (x13 : A13) (x14 : A14) (x15 : A15) (x16 : A16) (x17 : A17) (x18 : A18) (x19 : A19) (x20 : A20) (x21 : A21) (x22 : A22), g x1 x2 x3 x4 x5 x6 x7 x8 x9 x10 x11 x12 x13 x14 x15 x16 x17 x18 x19 x20 x21 x22 = some r → J x1 x2 x3 x4 x5 x6 x7 x8 x9 x10 x11 x12 x13 x14 x15 x16 x17 x18 x19 x20 x21 x22) → body g = some r → G) : G := hB rest hJ h
def bd23 {A1 A2 A3 A4 A5 A6 A7 A8 A9 A10 A11 A12 A13 A14 A15 A16 A17 A18 A19 A20 A21 A22 A23 ρ : Type} (x : Option (A1 × A2 × A3 × A4 × A5 × A6 × A7 × A8 × A9 × A10 × A11 × A12 × A13 × A14 × A15 × A16 × A17 × A18 × A19 × A20 × A21 × A22 × A23)) (k : A1 → A2 → A3 → A4 → A5 → A6 → A7 → A8 → A9 → A10 → A11 → A12 → A13 → A14 → A15 → A16 → A17 → A18 → A19 → A20 → A21 → A22 → A23 → Option ρ) : Option ρ := x.bind (fun q => k q.1 q.2.1 q.2.2.1 q.2.2.2.1 q.2.2.2.2.1 q.2.2.2.2.2.1 q.2.2.2.2.2.2.1 q.2.2.2.2.2.2.2.1 q.2.2.2.2.2.2.2.2.1 q.2.2.2.2.2.2.2.2.2.1 q.2.2.2.2.2.2.2.2.2.2.1 q.2.2.2.2.2.2.2.2.2.2.2.1 q.2.2.2.2.2.2.2.2.2.2.2.2.1 q.2.2.2.2.2.2.2.2.2.2.2.2.2.1 q.2.2.2.2.2.2.2.2.2.2.2.2.2.2.1 q.2.2.2.2.2.2.2.2.2.2.2.2.2.2.2.1 q.2.2.2.2.2.2.2.2.2.2.2.2.2.2.2.2.1 q.2.2.2.2.2.2.2.2.2.2.2.2.2.2.2.2.2.1 q.2.2.2.2.2.2.2.2.2.2.2.2.2.2.2.2.2.2.1 q.2.2.2.2.2.2.2.2.2.2.2.2.2.2.2.2.2.2.2.1 q.2.2.2.2.2.2.2.2.2.2.2.2.2.2.2.2.2.2.2.2.1 q.2.2.2.2.2.2.2.2.2.2.2.2.2.2.2.2.2.2.2.2.2.1 q.2.2.2.2.2.2.2.2.2.2.2.2.2.2.2.2.2.2.2.2.2.2)
theorem bd23_e {A1 A2 A3 A4 A5 A6 A7 A8 A9 A10 A11 A12 A13 A14 A15 A16 A17 A18 A19 A20 A21 A22 A23 ρ : Type} {x : Option (A1 × A2 × A3 × A4 × A5 × A6 × A7 × A8 × A9 × A10 × A11 × A12 × A13 × A14 × A15 × A16 × A17 × A18 × A19 × A20 × A21 × A22 × A23)} {k : A1 → A2 → A3 → A4 → A5 → A6 → A7 → A8 → A9 → A10 → A11 → A12 → A13 → A14 → A15 → A16 → A17 → A18 → A19 → A20 → A21 → A22 → A23 → Option ρ} {r : ρ} (h : bd23 x k = some r) : ∃ (x1 : A1) (x2 : A2) (x3 : A3) (x4 : A4) (x5 : A5) (x6 : A6) (x7 : A7) (x8 : A8) (x9 : A9) (x10 : A10) (x11 : A11) (x12 : A12) (x13 : A13) (x14 : A14) (x15 : A15) (x16 : A16) (x17 : A17) (x18 : A18) (x19 : A19) (x20 : A20) (x21 : A21) (x22 : A22) (x23 : A23), x = some (x1, x2, x3, x4, x5, x6, x7, x8, x9, x10, x11, x12, x13, x14, x15, x16, x17, x18, x19, x20, x21, x22, x23) ∧ k x1 x2 x3 x4 x5 x6 x7 x8 x9 x10 x11 x12 x13 x14 x15 x16 x17 x18 x19 x20 x21 x22 x23 = some r := by
  unfold bd23 at h
  cases x with
  | none => cases h
  | some q => exact ⟨q.1, q.2.1, q.2.2.1, q.2.2.2.1, q.2.2.2.2.1, q.2.2.2.2.2.1, q.2.2.2.2.2.2.1, q.2.2.2.2.2.2.2.1, q.2.2.2.2.2.2.2.2.1, q.2.2.2.2.2.2.2.2.2.1, q.2.2.2.2.2.2.2.2.2.2.1, q.2.2.2.2.2.2.2.2.2.2.2.1, q.2.2.2.2.2.2.2.2.2.2.2.2.1, q.2.2.2.2.2.2.2.2.2.2.2.2.2.1, q.2.2.2.2.2.2.2.2.2.2.2.2.2.2.1, q.2.2.2.2.2.2.2.2.2.2.2.2.2.2.2.1, q.2.2.2.2.2.2.2.2.2.2.2.2.2.2.2.2.1, q.2.2.2.2.2.2.2.2.2.2.2.2.2.2.2.2.2.1, q.2.2.2.2.2.2.2.2.2.2.2.2.2.2.2.2.2.2.1, q.2.2.2.2.2.2.2.2.2.2.2.2.2.2.2.2.2.2.2.1, q.2.2.2.2.2.2.2.2.2.2.2.2.2.2.2.2.2.2.2.2.1, q.2.2.2.2.2.2.2.2.2.2.2.2.2.2.2.2.2.2.2.2.2.1, q.2.2.2.2.2.2.2.2.2.2.2.2.2.2.2.2.2.2.2.2.2.2, rfl, h⟩
def bx23 {A1 A2 A3 A4 A5 A6 A7 A8 A9 A10 A11 A12 A13 A14 A15 A16 A17 A18 A19 A20 A21 A22 A23 ρ : Type} (x : Option (String ⊕ (A1 × A2 × A3 × A4 × A5 × A6 × A7 × A8 × A9 × A10 × A11 × A12 × A13 × A14 × A15 × A16 × A17 × A18 × A19 × A20 × A21 × A22 × A23))) (k : A1 → A2 → A3 → A4 → A5 → A6 → A7 → A8 → A9 → A10 → A11 → A12 → A13 → A14 → A15 → A16 → A17 → A18 → A19 → A20 → A21 → A22 → A23 → Option (String ⊕ ρ)) : Option (String ⊕ ρ) := match x with
  | none => none
  | some (.inl E) => some (.inl E)
  | some (.inr q) => k q.1 q.2.1 q.2.2.1 q.2.2.2.1 q.2.2.2.2.1 q.2.2.2.2.2.1 q.2.2.2.2.2.2.1 q.2.2.2.2.2.2.2.1 q.2.2.2.2.2.2.2.2.1 q.2.2.2.2.2.2.2.2.2.1 q.2.2.2.2.2.2.2.2.2.2.1 q.2.2.2.2.2.2.2.2.2.2.2.1 q.2.2.2.2.2.2.2.2.2.2.2.2.1 q.2.2.2.2.2.2.2.2.2.2.2.2.2.1 q.2.2.2.2.2.2.2.2.2.2.2.2.2.2.1 q.2.2.2.2.2.2.2.2.2.2.2.2.2.2.2.1 q.2.2.2.2.2.2.2.2.2.2.2.2.2.2.2.2.1 q.2.2.2.2.2.2.2.2.2.2.2.2.2.2.2.2.2.1 q.2.2.2.2.2.2.2.2.2.2.2.2.2.2.2.2.2.2.1 q.2.2.2.2.2.2.2.2.2.2.2.2.2.2.2.2.2.2.2.1 q.2.2.2.2.2.2.2.2.2.2.2.2.2.2.2.2.2.2.2.2.1 q.2.2.2.2.2.2.2.2.2.2.2.2.2.2.2.2.2.2.2.2.2.1 q.2.2.2.2.2.2.2.2.2.2.2.2.2.2.2.2.2.2.2.2.2.2
theorem bx23_e {A1 A2 A3 A4 A5 A6 A7 A8 A9 A10 A11 A12 A13 A14 A15 A16 A17 A18 A19 A20 A21 A22 A23 ρ : Type} {x : Option (String ⊕ (A1 × A2 × A3 × A4 × A5 × A6 × A7 × A8 × A9 × A10 × A11 × A12 × A13 × A14 × A15 × A16 × A17 × A18 × A19 × A20 × A21 × A22 × A23))} {k : A1 → A2 → A3 → A4 → A5 → A6 → A7 → A8 → A9 → A10 → A11 → A12 → A13 → A14 → A15 → A16 → A17 → A18 → A19 → A20 → A21 → A22 → A23 → Option (String ⊕ ρ)} {r : String ⊕ ρ} (h : bx23 x k = some r) : (∃ E : String, x = some (.inl E) ∧ r = .inl E) ∨ ∃ (x1 : A1) (x2 : A2) (x3 : A3) (x4 : A4) (x5 : A5) (x6 : A6) (x7 : A7) (x8 : A8) (x9 : A9) (x10 : A10) (x11 : A11) (x12 : A12) (x13 : A13) (x14 : A14) (x15 : A15) (x16 : A16) (x17 : A17) (x18 : A18) (x19 : A19) (x20 : A20) (x21 : A21) (x22 : A22) (x23 : A23), x = some (.inr (x1, x2, x3, x4, x5, x6, x7, x8, x9, x10, x11, x12, x13, x14, x15, x16, x17, x18, x19, x20, x21, x22, x23)) ∧ k x1 x2 x3 x4 x5 x6 x7 x8 x9 x10 x11 x12 x13 x14 x15 x16 x17 x18 x19 x20 x21 x22 x23 = some r := by
  unfold bx23 at h
  cases x with
  | none => cases h
  | some q =>
    cases q with
    | inl E => exact Or.inl ⟨E, rfl, (Option.some.inj h).symm⟩
    | inr q => exact Or.inr ⟨q.1, q.2.1, q.2.2.1, q.2.2.2.1, q.2.2.2.2.1, q.2.2.2.2.2.1, q.2.2.2.2.2.2.1, q.2.2.2.2.2.2.2.1, q.2.2.2.2.2.2.2.2.1, q.2.2.2.2.2.2.2.2.2.1, q.2.2.2.2.2.2.2.2.2.2.1, q.2.2.2.2.2.2.2.2.2.2.2.1, q.2.2.2.2.2.2.2.2.2.2.2.2.1, q.2.2.2.2.2.2.2.2.2.2.2.2.2.1, q.2.2.2.2.2.2.2.2.2.2.2.2.2.2.1, q.2.2.2.2.2.2.2.2.2.2.2.2.2.2.2.1, q.2.2.2.2.2.2.2.2.2.2.2.2.2.2.2.2.1, q.2.2.2.2.2.2.2.2.2.2.2.2.2.2.2.2.2.1, q.2.2.2.2.2.2.2.2.2.2.2.2.2.2.2.2.2.2.1, q.2.2.2.2.2.2.2.2.2.2.2.2.2.2.2.2.2.2.2.1, q.2.2.2.2.2.2.2.2.2.2.2.2.2.2.2.2.2.2.2.2.1, q.2.2.2.2.2.2.2.2.2.2.2.2.2.2.2.2.2.2.2.2.2.1, q.2.2.2.2.2.2.2.2.2.2.2.2.2.2.2.2.2.2.2.2.2.2, rfl, h⟩
def it23 {A1 A2 A3 A4 A5 A6 A7 A8 A9 A10 A11 A12 A13 A14 A15 A16 A17 A18 A19 A20 A21 A22 A23 ρ : Type} (F : (A1 → A2 → A3 → A4 → A5 → A6 → A7 → A8 → A9 → A10 → A11 → A12 → A13 → A14 → A15 → A16 → A17 → A18 → A19 → A20 → A21 → A22 → A23 → Option ρ) → A1 → A2 → A3 → A4 → A5 → A6 → A7 → A8 → A9 → A10 → A11 → A12 → A13 → A14 → A15 → A16 → A17 → A18 → A19 → A20 → A21 → A22 → A23 → Option ρ) : Nat → A1 → A2 → A3 → A4 → A5 → A6 → A7 → A8 → A9 → A10 → A11 → A12 → A13 → A14 → A15 → A16 → A17 → A18 → A19 → A20 → A21 → A22 → A23 → Option ρ
  | 0, _, _, _, _, _, _, _, _, _, _, _, _, _, _, _, _, _, _, _, _, _, _, _ => none
  | n + 1, x1, x2, x3, x4, x5, x6, x7, x8, x9, x10, x11, x12, x13, x14, x15, x16, x17, x18, x19, x20, x21, x22, x23 => F (it23 F n) x1 x2 x3 x4 x5 x6 x7 x8 x9 x10 x11 x12 x13 x14 x15 x16 x17 x18 x19 x20 x21 x22 x23
theorem it23_e {A1 A2 A3 A4 A5 A6 A7 A8 A9 A10 A11 A12 A13 A14 A15 A16 A17 A18 A19 A20 A21 A22 A23 ρ : Type} {F : (A1 → A2 → A3 → A4 → A5 → A6 → A7 → A8 → A9 → A10 → A11 → A12 → A13 → A14 → A15 → A16 → A17 → A18 → A19 → A20 → A21 → A22 → A23 → Option ρ) → A1 → A2 → A3 → A4 → A5 → A6 → A7 → A8 → A9 → A10 → A11 → A12 → A13 → A14 → A15 → A16 → A17 → A18 → A19 → A20 → A21 → A22 → A23 → Option ρ} {r : ρ} (I : A1 → A2 → A3 → A4 → A5 → A6 → A7 → A8 → A9 → A10 → A11 → A12 → A13 → A14 → A15 → A16 → A17 → A18 → A19 → A20 → A21 → A22 → A23 → Prop) (hs : ∀ g : A1 → A2 → A3 → A4 → A5 → A6 → A7 → A8 → A9 → A10 → A11 → A12 → A13 → A14 → A15 → A16 → A17 → A18 → A19 → A20 → A21 → A22 → A23 → Option ρ, (∀ (x1 : A1) (x2 : A2) (x3 : A3) (x4 : A4) (x5 : A5) (x6 : A6) (x7 : A7) (x8 : A8) (x9 : A9) (x10 : A10) (x11 : A11) (x12 : A12) (x13 : A13) (x14 : A14) (x15 : A15) (x16 : A16) (x17 : A17) (x18 : A18) (x19 : A19) (x20 : A20) (x21 : A21) (x22 : A22) (x23 : A23), g x1 x2 x3 x4 x5 x6 x7 x8 x9 x10 x11 x12 x13 x14 x15 x16 x17 x18 x19 x20 x21 x22 x23 = some r → I x1 x2 x3 x4 x5 x6 x7 x8 x9 x10 x11 x12 x13 x14 x15 x16 x17 x18 x19 x20 x21 x22 x23) → ∀ (x1 : A1) (x2 : A2) (x3 : A3) (x4 : A4) (x5 : A5) (x6 : A6) (x7 : A7) (x8 : A8) (x9 : A9) (x10 : A10) (x11 : A11) (x12 : A12) (x13 : A13) (x14 : A14) (x15 : A15) (x16 : A16) (x17 : A17) (x18 : A18) (x19 : A19) (x20 : A20) (x21 : A21) (x22 : A22) (x23 : A23), F g x1 x2 x3 x4 x5 x6 x7 x8 x9 x10 x11 x12 x13 x14 x15 x16 x17 x18 x19 x20 x21 x22 x23 = some r → I x1 x2 x3 x4 x5 x6 x7 x8 x9 x10 x11 x12 x13 x14 x15 x16 x17 x18 x19 x20 x21 x22 x23) : ∀ (n : Nat) (x1 : A1) (x2 : A2) (x3 : A3) (x4 : A4) (x5 : A5) (x6 : A6) (x7 : A7) (x8 : A8) (x9 : A9) (x10 : A10) (x11 : A11) (x12 : A12) (x13 : A13) (x14 : A14) (x15 : A15) (x16 : A16) (x17 : A17) (x18 : A18) (x19 : A19) (x20 : A20) (x21 : A21) (x22 : A22) (x23 : A23), it23 F n x1 x2 x3 x4 x5 x6 x7 x8 x9 x10 x11 x12 x13 x14 x15 x16 x17 x18 x19 x20 x21 x22 x23 = some r → I x1 x2 x3 x4 x5 x6 x7 x8 x9 x10 x11 x12 x13 x14 x15 x16 x17 x18 x19 x20 x21 x22 x23
  | 0, _, _, _, _, _, _, _, _, _, _, _, _, _, _, _, _, _, _, _, _, _, _, _, h => by cases h
  | n + 1, x1, x2, x3, x4, x5, x6, x7, x8, x9, x10, x11, x12, x13, x14, x15, x16, x17, x18, x19, x20, x21, x22, x23, h => hs (it23 F n) (it23_e I hs n) x1 x2 x3 x4 x5 x6 x7 x8 x9 x10 x11 x12 x13 x14 x15 x16 x17 x18 x19 x20 x21 x22 x23 h
def jn23 {A1 A2 A3 A4 A5 A6 A7 A8 A9 A10 A11 A12 A13 A14 A15 A16 A17 A18 A19 A20 A21 A22 A23 ρ : Type} (rest : A1 → A2 → A3 → A4 → A5 → A6 → A7 → A8 → A9 → A10 → A11 → A12 → A13 → A14 → A15 → A16 → A17 → A18 → A19 → A20 → A21 → A22 → A23 → Option ρ) (body : (A1 → A2 → A3 → A4 → A5 → A6 → A7 → A8 → A9 → A10 → A11 → A12 → A13 → A14 → A15 → A16 → A17 → A18 → A19 → A20 → A21 → A22 → A23 → Option ρ) → Option ρ) : Option ρ := body rest
theorem jn23_e {A1 A2 A3 A4 A5 A6 A7 A8 A9 A10 A11 A12 A13 A14 A15 A16 A17 A18 A19 A20 A21 A22 A23 ρ : Type} {rest : A1 → A2 → A3 → A4 → A5 → A6 → A7 → A8 → A9 → A10 → A11 → A12 → A13 → A14 → A15 → A16 → A17 → A18 → A19 → A20 → A21 → A22 → A23 → Option ρ} {body : (A1 → A2 → A3 → A4 → A5 → A6 → A7 → A8 → A9 → A10 → A11 → A12 → A13 → A14 → A15 → A16 → A17 → A18 → A19 → A20 → A21 → A22 → A23 → Option ρ) → Option ρ} {r : ρ} {G : Prop} (J : A1 → A2 → A3 → A4 → A5 → A6 → A7 → A8 → A9 → A10 → A11 → A12 → A13 → A14 → A15 → A16 → A17 → A18 → A19 → A20 → A21 → A22 → A23 → Prop) (h : jn23 rest body = some r) (hJ : ∀ (x1 : A1) (x2 : A2) (x3 : A3) (x4 : A4) (x5 : A5) (x6 : A6) (x7 : A7) (x8 : A8) (x9 : A9) (x10 : A10) (x11 : A11) (x12 : A12) (x13 : A13) (x14 : A14) (x15 : A15) (x16 : A16) (x17 : A17) (x18 : A18) (x19 : A19) (x20 : A20) (x21 : A21) (x22 : A22) (x23 : A23), rest x1 x2 x3 x4 x5 x6 x7 x8 x9 x10 x11 x12 x13 x14 x15 x16 x17 x18 x19 x20 x21 x22 x23 = some r → J x1 x2 x3 x4 x5 x6 x7 x8 x9 x10 x11 x12 x13 x14 x15 x16 x17 x18 x19 x20 x21 x22 x23) (hB : ∀ g : A1 → A2 → A3 → A4 → A5 → A6 → A7 → A8 → A9 → A10 → A11 → A12 → A13 → A14 → A15 → A16 → A17 → A18 → A19 → A20 → A21 → A22 → A23 → Option ρ, (∀ (x1 : A1) (x2 : A2) (x3 : A3) (x4 : A4) (x5 : A5) (x6 : A6) (x7 : A7) (x8 : A8) (x9 : A9) (x10 : A10) (x11 : A11) (x12 : A12) (x13 : A13) (x14 : A14) (x15 : A15) (x16 : A16) (x17 : A17) (x18 : A18) (x19 : A19) (x20 : A20) (x21 : A21) (x22 : A22) (x23 : A23), g x1 x2 x3 x4 x5 x6 x7 x8 x9 x10 x11 x12 x13 x14 x15 x16 x17 x18 x19 x20 x21 x22 x23 = some r → J x1 x2 x3 x4 x5 x6 x7 x8 x9 x10 x11 x12 x13 x14 x15 x16 x17 x18 x19 x20 x21 x22 x23) → body g = some r → G) : G := hB rest hJ h
def bd24 {A1 A2 A3 A4 A5 A6 A7 A8 A9 A10 A11 A12 A13 A14 A15 A16 A17 A18 A19 A20 A21 A22 A23 A24 ρ : Type} (x : Option (A1 × A2 × A3 × A4 × A5 × A6 × A7 × A8 × A9 × A10 × A11 × A12 × A13 × A14 × A15 × A16 × A17 × A18 × A19 × A20 × A21 × A22 × A23 × A24)) (k : A1 → A2 → A3 → A4 → A5 → A6 → A7 → A8 → A9 → A10 → A11 → A12 → A13 → A14 → A15 → A16 → A17 → A18 → A19 → A20 → A21 → A22 → A23 → A24 → Option ρ) : Option ρ := x.bind (fun q => k q.1 q.2.1 q.2.2.1 q.2.2.2.1 q.2.2.2.2.1 q.2.2.2.2.2.1 q.2.2.2.2.2.2.1 q.2.2.2.2.2.2.2.1 q.2.2.2.2.2.2.2.2.1 q.2.2.2.2.2.2.2.2.2.1 q.2.2.2.2.2.2.2.2.2.2.1 q.2.2.2.2.2.2.2.2.2.2.2.1 q.2.2.2.2.2.2.2.2.2.2.2.2.1 q.2.2.2.2.2.2.2.2.2.2.2.2.2.1 q.2.2.2.2.2.2.2.2.2.2.2.2.2.2.1 q.2.2.2.2.2.2.2.2.2.2.2.2.2.2.2.1 q.2.2.2.2.2.2.2.2.2.2.2.2.2.2.2.2.1 q.2.2.2.2.2.2.2.2.2.2.2.2.2.2.2.2.2.1 q.2.2.2.2.2.2.2.2.2.2.2.2.2.2.2.2.2.2.1 q.2.2.2.2.2.2.2.2.2.2.2.2.2.2.2.2.2.2.2.1 q.2.2.2.2.2.2.2.2.2.2.2.2.2.2.2.2.2.2.2.2.1 q.2.2.2.2.2.2.2.2.2.2.2.2.2.2.2.2.2.2.2.2.2.1 q.2.2.2.2.2.2.2.2.2.2.2.2.2.2.2.2.2.2.2.2.2.2.1 q.2.2.2.2.2.2.2.2.2.2.2.2.2.2.2.2.2.2.2.2.2.2.2)
theorem bd24_e {A1 A2 A3 A4 A5 A6 A7 A8 A9 A10 A11 A12 A13 A14 A15 A16 A17 A18 A19 A20 A21 A22 A23 A24 ρ : Type} {x : Option (A1 × A2 × A3 × A4 × A5 × A6 × A7 × A8 × A9 × A10 × A11 × A12 × A13 × A14 × A15 × A16 × A17 × A18 × A19 × A20 × A21 × A22 × A23 × A24)} {k : A1 → A2 → A3 → A4 → A5 → A6 → A7 → A8 → A9 → A10 → A11 → A12 → A13 → A14 → A15 → A16 → A17 → A18 → A19 → A20 → A21 → A22 → A23 → A24 → Option ρ} {r : ρ} (h : bd24 x k = some r) : ∃ (x1 : A1) (x2 : A2) (x3 : A3) (x4 : A4) (x5 : A5) (x6 : A6) (x7 : A7) (x8 : A8) (x9 : A9) (x10 : A10) (x11 : A11) (x12 : A12) (x13 : A13) (x14 : A14) (x15 : A15) (x16 : A16) (x17 : A17) (x18 : A18) (x19 : A19) (x20 : A20) (x21 : A21) (x22 : A22) (x23 : A23) (x24 : A24), x = some (x1, x2, x3, x4, x5, x6, x7, x8, x9, x10, x11, x12, x13, x14, x15, x16, x17, x18, x19, x20, x21, x22, x23, x24) ∧ k x1 x2 x3 x4 x5 x6 x7 x8 x9 x10 x11 x12 x13 x14 x15 x16 x17 x18 x19 x20 x21 x22 x23 x24 = some r := by
  unfold bd24 at h
  cases x with
  | none => cases h
  | some q => exact ⟨q.1, q.2.1, q.2.2.1, q.2.2.2.1, q.2.2.2.2.1, q.2.2.2.2.2.1, q.2.2.2.2.2.2.1, q.2.2.2.2.2.2.2.1, q.2.2.2.2.2.2.2.2.1, q.2.2.2.2.2.2.2.2.2.1, q.2.2.2.2.2.2.2.2.2.2.1, q.2.2.2.2.2.2.2.2.2.2.2.1, q.2.2.2.2.2.2.2.2.2.2.2.2.1, q.2.2.2.2.2.2.2.2.2.2.2.2.2.1, q.2.2.2.2.2.2.2.2.2.2.2.2.2.2.1, q.2.2.2.2.2.2.2.2.2.2.2.2.2.2.2.1, q.2.2.2.2.2.2.2.2.2.2.2.2.2.2.2.2.1, q.2.2.2.2.2.2.2.2.2.2.2.2.2.2.2.2.2.1, q.2.2.2.2.2.2.2.2.2.2.2.2.2.2.2.2.2.2.1, q.2.2.2.2.2.2.2.2.2.2.2.2.2.2.2.2.2.2.2.1, q.2.2.2.2.2.2.2.2.2.2.2.2.2.2.2.2.2.2.2.2.1, q.2.2.2.2.2.2.2.2.2.2.2.2.2.2.2.2.2.2.2.2.2.1, q.2.2.2.2.2.2.2.2.2.2.2.2.2.2.2.2.2.2.2.2.2.2.1, q.2.2.2.2.2.2.2.2.2.2.2.2.2.2.2.2.2.2.2.2.2.2.2, rfl, h⟩
def bx24 {A1 A2 A3 A4 A5 A6 A7 A8 A9 A10 A11 A12 A13 A14 A15 A16 A17 A18 A19 A20 A21 A22 A23 A24 ρ : Type} (x : Option (String ⊕ (A1 × A2 × A3 × A4 × A5 × A6 × A7 × A8 × A9 × A10 × A11 × A12 × A13 × A14 × A15 × A16 × A17 × A18 × A19 × A20 × A21 × A22 × A23 × A24))) (k : A1 → A2 → A3 → A4 → A5 → A6 → A7 → A8 → A9 → A10 → A11 → A12 → A13 → A14 → A15 → A16 → A17 → A18 → A19 → A20 → A21 → A22 → A23 → A24 → Option (String ⊕ ρ)) : Option (String ⊕ ρ) := match x with
  | none => none
  | some (.inl E) => some (.inl E)
  | some (.inr q) => k q.1 q.2.1 q.2.2.1 q.2.2.2.1 q.2.2.2.2.1 q.2.2.2.2.2.1 q.2.2.2.2.2.2.1 q.2.2.2.2.2.2.2.1 q.2.2.2.2.2.2.2.2.1 q.2.2.2.2.2.2.2.2.2.1 q.2.2.2.2.2.2.2.2.2.2.1 q.2.2.2.2.2.2.2.2.2.2.2.1 q.2.2.2.2.2.2.2.2.2.2.2.2.1 q.2.2.2.2.2.2.2.2.2.2.2.2.2.1 q.2.2.2.2.2.2.2.2.2.2.2.2.2.2.1 q.2.2.2.2.2.2.2.2.2.2.2.2.2.2.2.1 q.2.2.2.2.2.2.2.2.2.2.2.2.2.2.2.2.1 q.2.2.2.2.2.2.2.2.2.2.2.2.2.2.2.2.2.1 q.2.2.2.2.2.2.2.2.2.2.2.2.2.2.2.2.2.2.1 q.2.2.2.2.2.2.2.2.2.2.2.2.2.2.2.2.2.2.2.1 q.2.2.2.2.2.2.2.2.2.2.2.2.2.2.2.2.2.2.2.2.1 q.2.2.2.2.2.2.2.2.2.2.2.2.2.2.2.2.2.2.2.2.2.1 q.2.2.2.2.2.2.2.2.2.2.2.2.2.2.2.2.2.2.2.2.2.2.1 q.2.2.2.2.2.2.2.2.2.2.2.2.2.2.2.2.2.2.2.2.2.2.2
theorem bx24_e {A1 A2 A3 A4 A5 A6 A7 A8 A9 A10 A11 A12 A13 A14 A15 A16 A17 A18 A19 A20 A21 A22 A23 A24 ρ : Type} {x : Option (String ⊕ (A1 × A2 × A3 × A4 × A5 × A6 × A7 × A8 × A9 × A10 × A11 × A12 × A13 × A14 × A15 × A16 × A17 × A18 × A19 × A20 × A21 × A22 × A23 × A24))} {k : A1 → A2 → A3 → A4 → A5 → A6 → A7 → A8 → A9 → A10 → A11 → A12 → A13 → A14 → A15 → A16 → A17 → A18 → A19 → A20 → A21 → A22 → A23 → A24 → Option (String ⊕ ρ)} {r : String ⊕ ρ} (h : bx24 x k = some r) : (∃ E : String, x = some (.inl E) ∧ r = .inl E) ∨ ∃ (x1 : A1) (x2 : A2) (x3 : A3) (x4 : A4) (x5 : A5) (x6 : A6) (x7 : A7) (x8 : A8) (x9 : A9) (x10 : A10) (x11 : A11) (x12 : A12) (x13 : A13) (x14 : A14) (x15 : A15) (x16 : A16) (x17 : A17) (x18 : A18) (x19 : A19) (x20 : A20) (x21 : A21) (x22 : A22) (x23 : A23) (x24 : A24), x = some (.inr (x1, x2, x3, x4, x5, x6, x7, x8, x9, x10, x11, x12, x13, x14, x15, x16, x17, x18, x19, x20, x21, x22, x23, x24)) ∧ k x1 x2 x3 x4 x5 x6 x7 x8 x9 x10 x11 x12 x13 x14 x15 x16 x17 x18 x19 x20 x21 x22 x23 x24 = some r := by
  unfold bx24 at h
  cases x with
  | none => cases h
  | some q =>
    cases q with
    | inl E => exact Or.inl ⟨E, rfl, (Option.some.inj h).symm⟩
    | inr q => exact Or.inr ⟨q.1, q.2.1, q.2.2.1, q.2.2.2.1, q.2.2.2.2.1, q.2.2.2.2.2.1, q.2.2.2.2.2.2.1, q.2.2.2.2.2.2.2.1, q.2.2.2.2.2.2.2.2.1, q.2.2.2.2.2.2.2.2.2.1, q.2.2.2.2.2.2.2.2.2.2.1, q.2.2.2.2.2.2.2.2.2.2.2.1, q.2.2.2.2.2.2.2.2.2.2.2.2.1, q.2.2.2.2.2.2.2.2.2.2.2.2.2.1, q.2.2.2.2.2.2.2.2.2.2.2.2.2.2.1, q.2.2.2.2.2.2.2.2.2.2.2.2.2.2.2.1, q.2.2.2.2.2.2.2.2.2.2.2.2.2.2.2.2.1, q.2.2.2.2.2.2.2.2.2.2.2.2.2.2.2.2.2.1, q.2.2.2.2.2.2.2.2.2.2.2.2.2.2.2.2.2.2.1, q.2.2.2.2.2.2.2.2.2.2.2.2.2.2.2.2.2.2.2.1, q.2.2.2.2.2.2.2.2.2.2.2.2.2.2.2.2.2.2.2.2.1, q.2.2.2.2.2.2.2.2.2.2.2.2.2.2.2.2.2.2.2.2.2.1, q.2.2.2.2.2.2.2.2.2.2.2.2.2.2.2.2.2.2.2.2.2.2.1, q.2.2.2.2.2.2.2.2.2.2.2.2.2.2.2.2.2.2.2.2.2.2.2, rfl, h⟩
def it24 {A1 A2 A3 A4 A5 A6 A7 A8 A9 A10 A11 A12 A13 A14 A15 A16 A17 A18 A19 A20 A21 A22 A23 A24 ρ : Type} (F : (A1 → A2 → A3 → A4 → A5 → A6 → A7 → A8 → A9 → A10 → A11 → A12 → A13 → A14 → A15 → A16 → A17 → A18 → A19 → A20 → A21 → A22 → A23 → A24 → Option ρ) → A1 → A2 → A3 → A4 → A5 → A6 → A7 → A8 → A9 → A10 → A11 → A12 → A13 → A14 → A15 → A16 → A17 → A18 → A19 → A20 → A21 → A22 → A23 → A24 → Option ρ) : Nat → A1 → A2 → A3 → A4 → A5 → A6 → A7 → A8 → A9 → A10 → A11 → A12 → A13 → A14 → A15 → A16 → A17 → A18 → A19 → A20 → A21 → A22 → A23 → A24 → Option ρ
  | 0, _, _, _, _, _, _, _, _, _, _, _, _, _, _, _, _, _, _, _, _, _, _, _, _ => none
  | n + 1, x1, x2, x3, x4, x5, x6, x7, x8, x9, x10, x11, x12, x13, x14, x15, x16, x17, x18, x19, x20, x21, x22, x23, x24 => F (it24 F n) x1 x2 x3 x4 x5 x6 x7 x8 x9 x10 x11 x12 x13 x14 x15 x16 x17 x18 x19 x20 x21 x22 x23 x24
theorem it24_e {A1 A2 A3 A4 A5 A6 A7 A8 A9 A10 A11 A12 A13 A14 A15 A16 A17 A18 A19 A20 A21 A22 A23 A24 ρ : Type} {F : (A1 → A2 → A3 → A4 → A5 → A6 → A7 → A8 → A9 → A10 → A11 → A12 → A13 → A14 → A15 → A16 → A17 → A18 → A19 → A20 → A21 → A22 → A23 → A24 → Option ρ) → A1 → A2 → A3 → A4 → A5 → A6 → A7 → A8 → A9 → A10 → A11 → A12 → A13 → A14 → A15 → A16 → A17 → A18 → A19 → A20 → A21 → A22 → A23 → A24 → Option ρ} {r : ρ} (I : A1 → A2 → A3 → A4 → A5 → A6 → A7 → A8 → A9 → A10 → A11 → A12 → A13 → A14 → A15 → A16 → A17 → A18 → A19 → A20 → A21 → A22 → A23 → A24 → Prop) (hs : ∀ g : A1 → A2 → A3 → A4 → A5 → A6 → A7 → A8 → A9 → A10 → A11 → A12 → A13 → A14 → A15 → A16 → A17 → A18 → A19 → A20 → A21 → A22 → A23 → A24 → Option ρ, (∀ (x1 : A1) (x2 : A2) (x3 : A3) (x4 : A4) (x5 : A5) (x6 : A6) (x7 : A7) (x8 : A8) (x9 : A9) (x10 : A10) (x11 : A11) (x12 : A12) (x13 : A13) (x14 : A14) (x15 : A15) (x16 : A16) (x17 : A17) (x18 : A18) (x19 : A19) (x20 : A20) (x21 : A21) (x22 : A22) (x23 : A23) (x24 : A24), g x1 x2 x3 x4 x5 x6 x7 x8 x9 x10 x11 x12 x13 x14 x15 x16 x17 x18 x19 x20 x21 x22 x23 x24 = some r → I x1 x2 x3 x4 x5 x6 x7 x8 x9 x10 x11 x12 x13 x14 x15 x16 x17 x18 x19 x20 x21 x22 x23 x24) → ∀ (x1 : A1) (x2 : A2) (x3 : A3) (x4 : A4) (x5 : A5) (x6 : A6) (x7 : A7) (x8 : A8) (x9 : A9) (x10 : A10) (x11 : A11) (x12 : A12) (x13 : A13) (x14 : A14) (x15 : A15) (x16 : A16) (x17 : A17) (x18 : A18) (x19 : A19) (x20 : A20) (x21 : A21) (x22 : A22) (x23 : A23) (x24 : A24), F g x1 x2 x3 x4 x5 x6 x7 x8 x9 x10 x11 x12 x13 x14 x15 x16 x17 x18 x19 x20 x21 x22 x23 x24 = some r → I x1 x2 x3 x4 x5 x6 x7 x8 x9 x10 x11 x12 x13 x14 x15 x16 x17 x18 x19 x20 x21 x22 x23 x24) : ∀ (n : Nat) (x1 : A1) (x2 : A2) (x3 : A3) (x4 : A4) (x5 : A5) (x6 : A6) (x7 : A7) (x8 : A8) (x9 : A9) (x10 : A10) (x11 : A11) (x12 : A12) (x13 : A13) (x14 : A14) (x15 : A15) (x16 : A16) (x17 : A17) (x18 : A18) (x19 : A19) (x20 : A20) (x21 : A21) (x22 : A22) (x23 : A23) (x24 : A24), it24 F n x1 x2 x3 x4 x5 x6 x7 x8 x9 x10 x11 x12 x13 x14 x15 x16 x17 x18 x19 x20 x21 x22 x23 x24 = some r → I x1 x2 x3 x4 x5 x6 x7 x8 x9 x10 x11 x12 x13 x14 x15 x16 x17 x18 x19 x20 x21 x22 x23 x24
  | 0, _, _, _, _, _, _, _, _, _, _, _, _, _, _, _, _, _, _, _, _, _, _, _, _, h => by cases h
  | n + 1, x1, x2, x3, x4, x5, x6, x7, x8, x9, x10, x11, x12, x13, x14, x15, x16, x17, x18, x19, x20, x21, x22, x23, x24, h => hs (it24 F n) (it24_e I hs n) x1 x2 x3 x4 x5 x6 x7 x8 x9 x10 x11 x12 x13 x14 x15 x16 x17 x18 x19 x20 x21 x22 x23 x24 h
def jn24 {A1 A2 A3 A4 A5 A6 A7 A8 A9 A10 A11 A12 A13 A14 A15 A16 A17 A18 A19 A20 A21 A22 A23 A24 ρ : Type} (rest : A1 → A2 → A3 → A4 → A5 → A6 → A7 → A8 → A9 → A10 → A11 → A12 → A13 → A14 → A15 → A16 → A17 → A18 → A19 → A20 → A21 → A22 → A23 → A24 → Option ρ) (body : (A1 → A2 → A3 → A4 → A5 → A6 → A7 → A8 → A9 → A10 → A11 → A12 → A13 → A14 → A15 → A16 → A17 → A18 → A19 → A20 → A21 → A22 → A23 → A24 → Option ρ) → Option ρ) : Option ρ := body rest
theorem jn24_e {A1 A2 A3 A4 A5 A6 A7 A8 A9 A10 A11 A12 A13 A14 A15 A16 A17 A18 A19 A20 A21 A22 A23 A24 ρ : Type} {rest : A1 → A2 → A3 → A4 → A5 → A6 → A7 → A8 → A9 → A10 → A11 → A12 → A13 → A14 → A15 → A16 → A17 → A18 → A19 → A20 → A21 → A22 → A23 → A24 → Option ρ} {body : (A1 → A2 → A3 → A4 → A5 → A6 → A7 → A8 → A9 → A10 → A11 → A12 → A13 → A14 → A15 → A16 → A17 → A18 → A19 → A20 → A21 → A22 → A23 → A24 → Option ρ) → Option ρ} {r : ρ} {G : Prop} (J : A1 → A2 → A3 → A4 → A5 → A6 → A7 → A8 → A9 → A10 → A11 → A12 → A13 → A14 → A15 → A16 → A17 → A18 → A19 → A20 → A21 → A22 → A23 → A24 → Prop) (h : jn24 rest body = some r) (hJ : ∀ (x1 : A1) (x2 : A2) (x3 : A3) (x4 : A4) (x5 : A5) (x6 : A6) (x7 : A7) (x8 : A8) (x9 : A9) (x10 : A10) (x11 : A11) (x12 : A12) (x13 : A13) (x14 : A14) (x15 : A15) (x16 : A16) (x17 : A17) (x18 : A18) (x19 : A19) (x20 : A20) (x21 : A21) (x22 : A22) (x23 : A23) (x24 : A24), rest x1 x2 x3 x4 x5 x6 x7 x8 x9 x10 x11 x12 x13 x14 x15 x16 x17 x18 x19 x20 x21 x22 x23 x24 = some r → J x1 x2 x3 x4 x5 x6 x7 x8 x9 x10 x11 x12 x13 x14 x15 x16 x17 x18 x19 x20 x21 x22 x23 x24) (hB : ∀ g : A1 → A2 → A3 → A4 → A5 → A6 → A7 → A8 → A9 → A10 → A11 → A12 → A13 → A14 → A15 → A16 → A17 → A18 → A19 → A20 → A21 → A22 → A23 → A24 → Option ρ, (∀ (x1 : A1) (x2 : A2) (x3 : A3) (x4 : A4) (x5 : A5) (x6 : A6) (x7 : A7) (x8 : A8) (x9 : A9) (x10 : A10) (x11 : A11) (x12 : A12) (x13 : A13) (x14 : A14) (x15 : A15) (x16 : A16) (x17 : A17) (x18 : A18) (x19 : A19) (x20 : A20) (x21 : A21) (x22 : A22) (x23 : A23) (x24 : A24), g x1 x2 x3 x4 x5 x6 x7 x8 x9 x10 x11 x12 x13 x14 x15 x16 x17 x18 x19 x20 x21 x22 x23 x24 = some r → J x1 x2 x3 x4 x5 x6 x7 x8 x9 x10 x11 x12 x13 x14 x15 x16 x17 x18 x19 x20 x21 x22 x23 x24) → body g = some r → G) : G := hB rest hJ h
def bd25 {A1 A2 A3 A4 A5 A6 A7 A8 A9 A10 A11 A12 A13 A14 A15 A16 A17 A18 A19 A20 A21 A22 A23 A24 A25 ρ : Type} (x : Option (A1 × A2 × A3 × A4 × A5 × A6 × A7 × A8 × A9 × A10 × A11 × A12 × A13 × A14 × A15 × A16 × A17 × A18 × A19 × A20 × A21 × A22 × A23 × A24 × A25)) (k : A1 → A2 → A3 → A4 → A5 → A6 → A7 → A8 → A9 → A10 → A11 → A12 → A13 → A14 → A15 → A16 → A17 → A18 → A19 → A20 → A21 → A22 → A23 → A24 → A25 → Option ρ) : Option ρ := x.bind (fun q => k q.1 q.2.1 q.2.2.1 q.2.2.2.1 q.2.2.2.2.1 q.2.2.2.2.2.1 q.2.2.2.2.2.2.1 q.2.2.2.2.2.2.2.1 q.2.2.2.2.2.2.2.2.1 q.2.2.2.2.2.2.2.2.2.1 q.2.2.2.2.2.2.2.2.2.2.1 q.2.2.2.2.2.2.2.2.2.2.2.1 q.2.2.2.2.2.2.2.2.2.2.2.2.1 q.2.2.2.2.2.2.2.2.2.2.2.2.2.1 q.2.2.2.2.2.2.2.2.2.2.2.2.2.2.1 q.2.2.2.2.2.2.2.2.2.2.2.2.2.2.2.1 q.2.2.2.2.2.2.2.2.2.2.2.2.2.2.2.2.1 q.2.2.2.2.2.2.2.2.2.2.2.2.2.2.2.2.2.1 q.2.2.2.2.2.2.2.2.2.2.2.2.2.2.2.2.2.2.1 q.2.2.2.2.2.2.2.2.2.2.2.2.2.2.2.2.2.2.2.1 q.2.2.2.2.2.2.2.2.2.2.2.2.2.2.2.2.2.2.2.2.1 q.2.2.2.2.2.2.2.2.2.2.2.2.2.2.2.2.2.2.2.2.2.1 q.2.2.2.2.2.2.2.2.2.2.2.2.2.2.2.2.2.2.2.2.2.2.1 q.2.2.2.2.2.2.2.2.2.2.2.2.2.2.2.2.2.2.2.2.2.2.2.1 q.2.2.2.2.2.2.2.2.2.2.2.2.2.2.2.2.2.2.2.2.2.2.2.2)
theorem bd25_e {A1 A2 A3 A4 A5 A6 A7 A8 A9 A10 A11 A12 A13 A14 A15 A16 A17 A18 A19 A20 A21 A22 A23 A24 A25 ρ : Type} {x : Option (A1 × A2 × A3 × A4 × A5 × A6 × A7 × A8 × A9 × A10 × A11 × A12 × A13 × A14 × A15 × A16 × A17 × A18 × A19 × A20 × A21 × A22 × A23 × A24 × A25)} {k : A1 → A2 → A3 → A4 → A5 → A6 → A7 → A8 → A9 → A10 → A11 → A12 → A13 → A14 → A15 → A16 → A17 → A18 → A19 → A20 → A21 → A22 → A23 → A24 → A25 → Option ρ} {r : ρ} (h : bd25 x k = some r) : ∃ (x1 : A1) (x2 : A2) (x3 : A3) (x4 : A4) (x5 : A5) (x6 : A6) (x7 : A7) (x8 : A8) (x9 : A9) (x10 : A10) (x11 : A11) (x12 : A12) (x13 : A13) (x14 : A14) (x15 : A15) (x16 : A16) (x17 : A17) (x18 : A18) (x19 : A19) (x20 : A20) (x21 : A21) (x22 : A22) (x23 : A23) (x24 : A24) (x25 : A25), x = some (x1, x2, x3, x4, x5, x6, x7, x8, x9, x10, x11, x12, x13, x14, x15, x16, x17, x18, x19, x20, x21, x22, x23, x24, x25) ∧ k x1 x2 x3 x4 x5 x6 x7 x8 x9 x10 x11 x12 x13 x14 x15 x16 x17 x18 x19 x20 x21 x22 x23 x24 x25 = some r := by
  unfold bd25 at h
  cases x with
  | none => cases h
  | some q => exact ⟨q.1, q.2.1, q.2.2.1, q.2.2.2.1, q.2.2.2.2.1, q.2.2.2.2.2.1, q.2.2.2.2.2.2.1, q.2.2.2.2.2.2.2.1, q.2.2.2.2.2.2.2.2.1, q.2.2.2.2.2.2.2.2.2.1, q.2.2.2.2.2.2.2.2.2.2.1, q.2.2.2.2.2.2.2.2.2.2.2.1, q.2.2.2.2.2.2.2.2.2.2.2.2.1, q.2.2.2.2.2.2.2.2.2.2.2.2.2.1, q.2.2.2.2.2.2.2.2.2.2.2.2.2.2.1, q.2.2.2.2.2.2.2.2.2.2.2.2.2.2.2.1, q.2.2.2.2.2.2.2.2.2.2.2.2.2.2.2.2.1, q.2.2.2.2.2.2.2.2.2.2.2.2.2.2.2.2.2.1, q.2.2.2.2.2.2.2.2.2.2.2.2.2.2.2.2.2.2.1, q.2.2.2.2.2.2.2.2.2.2.2.2.2.2.2.2.2.2.2.1, q.2.2.2.2.2.2.2.2.2.2.2.2.2.2.2.2.2.2.2.2.1, q.2.2.2.2.2.2.2.2.2.2.2.2.2.2.2.2.2.2.2.2.2.1, q.2.2.2.2.2.2.2.2.2.2.2.2.2.2.2.2.2.2.2.2.2.2.1, q.2.2.2.2.2.2.2.2.2.2.2.2.2.2.2.2.2.2.2.2.2.2.2.1, q.2.2.2.2.2.2.2.2.2.2.2.2.2.2.2.2.2.2.2.2.2.2.2.2, rfl, h⟩
def bx25 {A1 A2 A3 A4 A5 A6 A7 A8 A9 A10 A11 A12 A13 A14 A15 A16 A17 A18 A19 A20 A21 A22 A23 A24 A25 ρ : Type} (x : Option (String ⊕ (A1 × A2 × A3 × A4 × A5 × A6 × A7 × A8 × A9 × A10 × A11 × A12 × A13 × A14 × A15 × A16 × A17 × A18 × A19 × A20 × A21 × A22 × A23 × A24 × A25))) (k : A1 → A2 → A3 → A4 → A5 → A6 → A7 → A8 → A9 → A10 → A11 → A12 → A13 → A14 → A15 → A16 → A17 → A18 → A19 → A20 → A21 → A22 → A23 → A24 → A25 → Option (String ⊕ ρ)) : Option (String ⊕ ρ) := match x with
  | none => none
  | some (.inl E) => some (.inl E)
  | some (.inr q) => k q.1 q.2.1 q.2.2.1 q.2.2.2.1 q.2.2.2.2.1 q.2.2.2.2.2.1 q.2.2.2.2.2.2.1 q.2.2.2.2.2.2.2.1 q.2.2.2.2.2.2.2.2.1 q.2.2.2.2.2.2.2.2.2.1 q.2.2.2.2.2.2.2.2.2.2.1 q.2.2.2.2.2.2.2.2.2.2.2.1 q.2.2.2.2.2.2.2.2.2.2.2.2.1 q.2.2.2.2.2.2.2.2.2.2.2.2.2.1 q.2.2.2.2.2.2.2.2.2.2.2.2.2.2.1 q.2.2.2.2.2.2.2.2.2.2.2.2.2.2.2.1 q.2.2.2.2.2.2.2.2.2.2.2.2.2.2.2.2.1 q.2.2.2.2.2.2.2.2.2.2.2.2.2.2.2.2.2.1 q.2.2.2.2.2.2.2.2.2.2.2.2.2.2.2.2.2.2.1 q.2.2.2.2.2.2.2.2.2.2.2.2.2.2.2.2.2.2.2.1 q.2.2.2.2.2.2.2.2.2.2.2.2.2.2.2.2.2.2.2.2.1 q.2.2.2.2.2.2.2.2.2.2.2.2.2.2.2.2.2.2.2.2.2.1 q.2.2.2.2.2.2.2.2.2.2.2.2.2.2.2.2.2.2.2.2.2.2.1 q.2.2.2.2.2.2.2.2.2.2.2.2.2.2.2.2.2.2.2.2.2.2.2.1 q.2.2.2.2.2.2.2.2.2.2.2.2.2.2.2.2.2.2.2.2.2.2.2.2
theorem bx25_e {A1 A2 A3 A4 A5 A6 A7 A8 A9 A10 A11 A12 A13 A14 A15 A16 A17 A18 A19 A20 A21 A22 A23 A24 A25 ρ : Type} {x : Option (String ⊕ (A1 × A2 × A3 × A4 × A5 × A6 × A7 × A8 × A9 × A10 × A11 × A12 × A13 × A14 × A15 × A16 × A17 × A18 × A19 × A20 × A21 × A22 × A23 × A24 × A25))} {k : A1 → A2 → A3 → A4 → A5 → A6 → A7 → A8 → A9 → A10 → A11 → A12 → A13 → A14 → A15 → A16 → A17 → A18 → A19 → A20 → A21 → A22 → A23 → A24 → A25 → Option (String ⊕ ρ)} {r : String ⊕ ρ} (h : bx25 x k = some r) : (∃ E : String, x = some (.inl E) ∧ r = .inl E) ∨ ∃ (x1 : A1) (x2 : A2) (x3 : A3) (x4 : A4) (x5 : A5) (x6 : A6) (x7 : A7) (x8 : A8) (x9 : A9) (x10 : A10) (x11 : A11) (x12 : A12) (x13 : A13) (x14 : A14) (x15 : A15) (x16 : A16) (x17 : A17) (x18 : A18) (x19 : A19) (x20 : A20) (x21 : A21) (x22 : A22) (x23 : A23) (x24 : A24) (x25 : A25), x = some (.inr (x1, x2, x3, x4, x5, x6, x7, x8, x9, x10, x11, x12, x13, x14, x15, x16, x17, x18, x19, x20, x21, x22, x23, x24, x25)) ∧ k x1 x2 x3 x4 x5 x6 x7 x8 x9 x10 x11 x12 x13 x14 x15 x16 x17 x18 x19 x20 x21 x22 x23 x24 x25 = some r := by
  unfold bx25 at h
  cases x with
  | none => cases h
  | some q =>
    cases q with
    | inl E => exact Or.inl ⟨E, rfl, (Option.some.inj h).symm⟩
    | inr q => exact Or.inr ⟨q.1, q.2.1, q.2.2.1, q.2.2.2.1, q.2.2.2.2.1, q.2.2.2.2.2.1, q.2.2.2.2.2.2.1, q.2.2.2.2.2.2.2.1, q.2.2.2.2.2.2.2.2.1, q.2.2.2.2.2.2.2.2.2.1, q.2.2.2.2.2.2.2.2.2.2.1, q.2.2.2.2.2.2.2.2.2.2.2.1, q.2.2.2.2.2.2.2.2.2.2.2.2.1, q.2.2.2.2.2.2.2.2.2.2.2.2.2.1, q.2.2.2.2.2.2.2.2.2.2.2.2.2.2.1, q.2.2.2.2.2.2.2.2.2.2.2.2.2.2.2.1, q.2.2.2.2.2.2.2.2.2.2.2.2.2.2.2.2.1, q.2.2.2.2.2.2.2.2.2.2.2.2.2.2.2.2.2.1, q.2.2.2.2.2.2.2.2.2.2.2.2.2.2.2.2.2.2.1, q.2.2.2.2.2.2.2.2.2.2.2.2.2.2.2.2.2.2.2.1, q.2.2.2.2.2.2.2.2.2.2.2.2.2.2.2.2.2.2.2.2.1, q.2.2.2.2.2.2.2.2.2.2.2.2.2.2.2.2.2.2.2.2.2.1, q.2.2.2.2.2.2.2.2.2.2.2.2.2.2.2.2.2.2.2.2.2.2.1, q.2.2.2.2.2.2.2.2.2.2.2.2.2.2.2.2.2.2.2.2.2.2.2.1, q.2.2.2.2.2.2.2.2.2.2.2.2.2.2.2.2.2.2.2.2.2.2.2.2, rfl, h⟩
def it25 {A1 A2 A3 A4 A5 A6 A7 A8 A9 A10 A11 A12 A13 A14 A15 A16 A17 A18 A19 A20 A21 A22 A23 A24 A25 ρ : Type} (F : (A1 → A2 → A3 → A4 → A5 → A6 → A7 → A8 → A9 → A10 → A11 → A12 → A13 → A14 → A15 → A16 → A17 → A18 → A19 → A20 → A21 → A22 → A23 → A24 → A25 → Option ρ) → A1 → A2 → A3 → A4 → A5 → A6 → A7 → A8 → A9 → A10 → A11 → A12 → A13 → A14 → A15 → A16 → A17 → A18 → A19 → A20 → A21 → A22 → A23 → A24 → A25 → Option ρ) : Nat → A1 → A2 → A3 → A4 → A5 → A6 → A7 → A8 → A9 → A10 → A11 → A12 → A13 → A14 → A15 → A16 → A17 → A18 → A19 → A20 → A21 → A22 → A23 → A24 → A25 → Option ρ
  | 0, _, _, _, _, _, _, _, _, _, _, _, _, _, _, _, _, _, _, _, _, _, _, _, _, _ => none
  | n + 1, x1, x2, x3, x4, x5, x6, x7, x8, x9, x10, x11, x12, x13, x14, x15, x16, x17, x18, x19, x20, x21, x22, x23, x24, x25 => F (it25 F n) x1 x2 x3 x4 x5 x6 x7 x8 x9 x10 x11 x12 x13 x14 x15 x16 x17 x18 x19 x20 x21 x22 x23 x24 x25
theorem it25_e {A1 A2 A3 A4 A5 A6 A7 A8 A9 A10 A11 A12 A13 A14 A15 A16 A17 A18 A19 A20 A21 A22 A23 A24 A25 ρ : Type} {F : (A1 → A2 → A3 → A4 → A5 → A6 → A7 → A8 → A9 → A10 → A11 → A12 → A13 → A14 → A15 → A16 → A17 → A18 → A19 → A20 → A21 → A22 → A23 → A24 → A25 → Option ρ) → A1 → A2 → A3 → A4 → A5 → A6 → A7 → A8 → A9 → A10 → A11 → A12 → A13 → A14 → A15 → A16 → A17 → A18 → A19 → A20 → A21 → A22 → A23 → A24 → A25 → Option ρ} {r : ρ} (I : A1 → A2 → A3 → A4 → A5 → A6 → A7 → A8 → A9 → A10 → A11 → A12 → A13 → A14 → A15 → A16 → A17 → A18 → A19 → A20 → A21 → A22 → A23 → A24 → A25 → Prop) (hs : ∀ g : A1 → A2 → A3 → A4 → A5 → A6 → A7 → A8 → A9 → A10 → A11 → A12 → A13 → A14 → A15 → A16 → A17 → A18 → A19 → A20 → A21 → A22 → A23 → A24 → A25 → Option ρ, (∀ (x1 : A1) (x2 : A2) (x3 : A3) (x4 : A4) (x5 : A5) (x6 : A6) (x7 : A7) (x8 : A8) (x9 : A9) (x10 : A10) (x11 : A11) (x12 : A12) (x13 : A13) (x14 : A14) (x15 : A15) (x16 : A16) (x17 : A17) (x18 : A18) (x19 : A19) (x20 : A20) (x21 : A21) (x22 : A22) (x23 : A23) (x24 : A24) (x25 : A25), g x1 x2 x3 x4 x5 x6 x7 x8 x9 x10 x11 x12 x13 x14 x15 x16 x17 x18 x19 x20 x21 x22 x23 x24 x25 = some r → I x1 x2 x3 x4 x5 x6 x7 x8 x9 x10 x11 x12 x13 x14 x15 x16 x17 x18 x19 x20 x21 x22 x23 x24 x25) → ∀ (x1 : A1) (x2 : A2) (x3 : A3) (x4 : A4) (x5 : A5) (x6 : A6) (x7 : A7) (x8 : A8) (x9 : A9) (x10 : A10) (x11 : A11) (x12 : A12) (x13 : A13) (x14 : A14) (x15 : A15) (x16 : A16) (x17 : A17) (x18 : A18) (x19 : A19) (x20 : A20) (x21 : A21) (x22 : A22) (x23 : A23) (x24 : A24) (x25 : A25), F g x1 x2 x3 x4 x5 x6 x7 x8 x9 x10 x11 x12 x13 x14 x15 x16 x17 x18 x19 x20 x21 x22 x23 x24 x25 = some r → I x1 x2 x3 x4 x5 x6 x7 x8 x9 x10 x11 x12 x13 x14 x15 x16 x17 x18 x19 x20 x21 x22 x23 x24 x25) : ∀ (n : Nat) (x1 : A1) (x2 : A2) (x3 : A3) (x4 : A4) (x5 : A5) (x6 : A6) (x7 : A7) (x8 : A8) (x9 : A9) (x10 : A10) (x11 : A11) (x12 : A12) (x13 : A13) (x14 : A14) (x15 : A15) (x16 : A16) (x17 : A17) (x18 : A18) (x19 : A19) (x20 : A20) (x21 : A21) (x22 : A22) (x23 : A23) (x24 : A24) (x25 : A25), it25 F n x1 x2 x3 x4 x5 x6 x7 x8 x9 x10 x11 x12 x13 x14 x15 x16 x17 x18 x19 x20 x21 x22 x23 x24 x25 = some r → I x1 x2 x3 x4 x5 x6 x7 x8 x9 x10 x11 x12 x13 x14 x15 x16 x17 x18 x19 x20 x21 x22 x23 x24 x25
  | 0, _, _, _, _, _, _, _, _, _, _, _, _, _, _, _, _, _, _, _, _, _, _, _, _, _, h => by cases h
  | n + 1, x1, x2, x3, x4, x5, x6, x7, x8, x9, x10, x11, x12, x13, x14, x15, x16, x17, x18, x19, x20, x21, x22, x23, x24, x25, h => hs (it25 F n) (it25_e I hs n) x1 x2 x3 x4 x5 x6 x7 x8 x9 x10 x11 x12 x13 x14 x15 x16 x17 x18 x19 x20 x21 x22 x23 x24 x25 h
def jn25 {A1 A2 A3 A4 A5 A6 A7 A8 A9 A10 A11 A12 A13 A14 A15 A16 A17 A18 A19 A20 A21 A22 A23 A24 A25 ρ : Type} (rest : A1 → A2 → A3 → A4 → A5 → A6 → A7 → A8 → A9 → A10 → A11 → A12 → A13 → A14 → A15 → A16 → A17 → A18 → A19 → A20 → A21 → A22 → A23 → A24 → A25 → Option ρ) (body : (A1 → A2 → A3 → A4 → A5 → A6 → A7 → A8 → A9 → A10 → A11 → A12 → A13 → A14 → A15 → A16 → A17 → A18 → A19 → A20 → A21 → A22 → A23 → A24 → A25 → Option ρ) → Option ρ) : Option ρ := body rest
theorem jn25_e {A1 A2 A3 A4 A5 A6 A7 A8 A9 A10 A11 A12 A13 A14 A15 A16 A17 A18 A19 A20 A21 A22 A23 A24 A25 ρ : Type} {rest : A1 → A2 → A3 → A4 → A5 → A6 → A7 → A8 → A9 → A10 → A11 → A12 → A13 → A14 → A15 → A16 → A17 → A18 → A19 → A20 → A21 → A22 → A23 → A24 → A25 → Option ρ} {body : (A1 → A2 → A3 → A4 → A5 → A6 → A7 → A8 → A9 → A10 → A11 → A12 → A13 → A14 → A15 → A16 → A17 → A18 → A19 → A20 → A21 → A22 → A23 → A24 → A25 → Option ρ) → Option ρ} {r : ρ} {G : Prop} (J : A1 → A2 → A3 → A4 → A5 → A6 → A7 → A8 → A9 → A10 → A11 → A12 → A13 → A14 → A15 → A16 → A17 → A18 → A19 → A20 → A21 → A22 → A23 → A24 → A25 → Prop) (h : jn25 rest body = some r) (hJ : ∀ (x1 : A1) (x2 : A2) (x3 : A3) (x4 : A4) (x5 : A5) (x6 : A6) (x7 : A7) (x8 : A8) (x9 : A9) (x10 : A10) (x11 : A11) (x12 : A12) (x13 : A13) (x14 : A14) (x15 : A15) (x16 : A16) (x17 : A17) (x18 : A18) (x19 : A19) (x20 : A20) (x21 : A21) (x22 : A22) (x23 : A23) (x24 : A24) (x25 : A25), rest x1 x2 x3 x4 x5 x6 x7 x8 x9 x10 x11 x12 x13 x14 x15 x16 x17 x18 x19 x20 x21 x22 x23 x24 x25 = some r → J x1 x2 x3 x4 x5 x6 x7 x8 x9 x10 x11 x12 x13 x14 x15 x16 x17 x18 x19 x20 x21 x22 x23 x24 x25) (hB : ∀ g : A1 → A2 → A3 → A4 → A5 → A6 → A7 → A8 → A9 → A10 → A11 → A12 → A13 → A14 → A15 → A16 → A17 → A18 → A19 → A20 → A21 → A22 → A23 → A24 → A25 → Option ρ, (∀ (x1 : A1) (x2 : A2) (x3 : A3) (x4 : A4) (x5 : A5) (x6 : A6) (x7 : A7) (x8 : A8) (x9 : A9) (x10 : A10) (x11 : A11) (x12 : A12) (x13 : A13) (x14 : A14) (x15 : A15) (x16 : A16) (x17 : A17) (x18 : A18) (x19 : A19) (x20 : A20) (x21 : A21) (x22 : A22) (x23 : A23) (x24 : A24) (x25 : A25), g x1 x2 x3 x4 x5 x6 x7 x8 x9 x10 x11 x12 x13 x14 x15 x16 x17 x18 x19 x20 x21 x22 x23 x24 x25 = some r → J x1 x2 x3 x4 x5 x6 x7 x8 x9 x10 x11 x12 x13 x14 x15 x16 x17 x18 x19 x20 x21 x22 x23 x24 x25) → body g = some r → G) : G := hB rest hJ h
def bd26 {A1 A2 A3 A4 A5 A6 A7 A8 A9 A10 A11 A12 A13 A14 A15 A16 A17 A18 A19 A20 A21 A22 A23 A24 A25 A26 ρ : Type} (x : Option (A1 × A2 × A3 × A4 × A5 × A6 × A7 × A8 × A9 × A10 × A11 × A12 × A13 × A14 × A15 × A16 × A17 × A18 × A19 × A20 × A21 × A22 × A23 × A24 × A25 × A26)) (k : A1 → A2 → A3 → A4 → A5 → A6 → A7 → A8 → A9 → A10 → A11 → A12 → A13 → A14 → A15 → A16 → A17 → A18 → A19 → A20 → A21 → A22 → A23 → A24 → A25 → A26 → Option ρ) : Option ρ := x.bind (fun q => k q.1 q.2.1 q.2.2.1 q.2.2.2.1 q.2.2.2.2.1 q.2.2.2.2.2.1 q.2.2.2.2.2.2.1 q.2.2.2.2.2.2.2.1 q.2.2.2.2.2.2.2.2.1 q.2.2.2.2.2.2.2.2.2.1 q.2.2.2.2.2.2.2.2.2.2.1 q.2.2.2.2.2.2.2.2.2.2.2.1 q.2.2.2.2.2.2.2.2.2.2.2.2.1 q.2.2.2.2.2.2.2.2.2.2.2.2.2.1 q.2.2.2.2.2.2.2.2.2.2.2.2.2.2.1 q.2.2.2.2.2.2.2.2.2.2.2.2.2.2.2.1 q.2.2.2.2.2.2.2.2.2.2.2.2.2.2.2.2.1 q.2.2.2.2.2.2.2.2.2.2.2.2.2.2.2.2.2.1 q.2.2.2.2.2.2.2.2.2.2.2.2.2.2.2.2.2.2.1 q.2.2.2.2.2.2.2.2.2.2.2.2.2.2.2.2.2.2.2.1 q.2.2.2.2.2.2.2.2.2.2.2.2.2.2.2.2.2.2.2.2.1 q.2.2.2.2.2.2.2.2.2.2.2.2.2.2.2.2.2.2.2.2.2.1 q.2.2.2.2.2.2.2.2.2.2.2.2.2.2.2.2.2.2.2.2.2.2.1 q.2.2.2.2.2.2.2.2.2.2.2.2.2.2.2.2.2.2.2.2.2.2.2.1 q.2.2.2.2.2.2.2.2.2.2.2.2.2.2.2.2.2.2.2.2.2.2.2.2.1 q.2.2.2.2.2.2.2.2.2.2.2.2.2.2.2.2.2.2.2.2.2.2.2.2.2)
theorem bd26_e {A1 A2 A3 A4 A5 A6 A7 A8 A9 A10 A11 A12 A13 A14 A15 A16 A17 A18 A19 A20 A21 A22 A23 A24 A25 A26 ρ : Type} {x : Option (A1 × A2 × A3 × A4 × A5 × A6 × A7 × A8 × A9 × A10 × A11 × A12 × A13 × A14 × A15 × A16 × A17 × A18 × A19 × A20 × A21 × A22 × A23 × A24 × A25 × A26)} {k : A1 → A2 → A3 → A4 → A5 → A6 → A7 → A8 → A9 → A10 → A11 → A12 → A13 → A14 → A15 → A16 → A17 → A18 → A19 → A20 → A21 → A22 → A23 → A24 → A25 → A26 → Option ρ} {r : ρ} (h : bd26 x k = some r) : ∃ (x1 : A1) (x2 : A2) (x3 : A3) (x4 : A4) (x5 : A5) (x6 : A6) (x7 : A7) (x8 : A8) (x9 : A9) (x10 : A10) (x11 : A11) (x12 : A12) (x13 : A13) (x14 : A14) (x15 : A15) (x16 : A16) (x17 : A17) (x18 : A18) (x19 : A19) (x20 : A20) (x21 : A21) (x22 : A22) (x23 : A23) (x24 : A24) (x25 : A25) (x26 : A26), x = some (x1, x2, x3, x4, x5, x6, x7, x8, x9, x10, x11, x12, x13, x14, x15, x16, x17, x18, x19, x20, x21, x22, x23, x24, x25, x26) ∧ k x1 x2 x3 x4 x5 x6 x7 x8 x9 x10 x11 x12 x13 x14 x15 x16 x17 x18 x19 x20 x21 x22 x23 x24 x25 x26 = some r := by
  unfold bd26 at h
  cases x with
  | none => cases h
  | some q => exact ⟨q.1, q.2.1, q.2.2.1, q.2.2.2.1, q.2.2.2.2.1, q.2.2.2.2.2.1, q.2.2.2.2.2.2.1, q.2.2.2.2.2.2.2.1, q.2.2.2.2.2.2.2.2.1, q.2.2.2.2.2.2.2.2.2.1, q.2.2.2.2.2.2.2.2.2.2.1, q.2.2.2.2.2.2.2.2.2.2.2.1, q.2.2.2.2.2.2.2.2.2.2.2.2.1, q.2.2.2.2.2.2.2.2.2.2.2.2.2.1, q.2.2.2.2.2.2.2.2.2.2.2.2.2.2.1, q.2.2.2.2.2.2.2.2.2.2.2.2.2.2.2.1, q.2.2.2.2.2.2.2.2.2.2.2.2.2.2.2.2.1, q.2.2.2.2.2.2.2.2.2.2.2.2.2.2.2.2.2.1, q.2.2.2.2.2.2.2.2.2.2.2.2.2.2.2.2.2.2.1, q.2.2.2.2.2.2.2.2.2.2.2.2.2.2.2.2.2.2.2.1, q.2.2.2.2.2.2.2.2.2.2.2.2.2.2.2.2.2.2.2.2.1, q.2.2.2.2.2.2.2.2.2.2.2.2.2.2.2.2.2.2.2.2.2.1, q.2.2.2.2.2.2.2.2.2.2.2.2.2.2.2.2.2.2.2.2.2.2.1, q.2.2.2.2.2.2.2.2.2.2.2.2.2.2.2.2.2.2.2.2.2.2.2.1, q.2.2.2.2.2.2.2.2.2.2.2.2.2.2.2.2.2.2.2.2.2.2.2.2.1, q.2.2.2.2.2.2.2.2.2.2.2.2.2.2.2.2.2.2.2.2.2.2.2.2.2, rfl, h⟩
def bx26 {A1 A2 A3 A4 A5 A6 A7 A8 A9 A10 A11 A12 A13 A14 A15 A16 A17 A18 A19 A20 A21 A22 A23 A24 A25 A26 ρ : Type} (x : Option (String ⊕ (A1 × A2 × A3 × A4 × A5 × A6 × A7 × A8 × A9 × A10 × A11 × A12 × A13 × A14 × A15 × A16 × A17 × A18 × A19 × A20 × A21 × A22 × A23 × A24 × A25 × A26))) (k : A1 → A2 → A3 → A4 → A5 → A6 → A7 → A8 → A9 → A10 → A11 → A12 → A13 → A14 → A15 → A16 → A17 → A18 → A19 → A20 → A21 → A22 → A23 → A24 → A25 → A26 → Option (String ⊕ ρ)) : Option (String ⊕ ρ) := match x with
  | none => none
  | some (.inl E) => some (.inl E)
  | some (.inr q) => k q.1 q.2.1 q.2.2.1 q.2.2.2.1 q.2.2.2.2.1 q.2.2.2.2.2.1 q.2.2.2.2.2.2.1 q.2.2.2.2.2.2.2.1 q.2.2.2.2.2.2.2.2.1 q.2.2.2.2.2.2.2.2.2.1 q.2.2.2.2.2.2.2.2.2.2.1 q.2.2.2.2.2.2.2.2.2.2.2.1 q.2.2.2.2.2.2.2.2.2.2.2.2.1 q.2.2.2.2.2.2.2.2.2.2.2.2.2.1 q.2.2.2.2.2.2.2.2.2.2.2.2.2.2.1 q.2.2.2.2.2.2.2.2.2.2.2.2.2.2.2.1 q.2.2.2.2.2.2.2.2.2.2.2.2.2.2.2.2.1 q.2.2.2.2.2.2.2.2.2.2.2.2.2.2.2.2.2.1 q.2.2.2.2.2.2.2.2.2.2.2.2.2.2.2.2.2.2.1 q.2.2.2.2.2.2.2.2.2.2.2.2.2.2.2.2.2.2.2.1 q.2.2.2.2.2.2.2.2.2.2.2.2.2.2.2.2.2.2.2.2.1 q.2.2.2.2.2.2.2.2.2.2.2.2.2.2.2.2.2.2.2.2.2.1 q.2.2.2.2.2.2.2.2.2.2.2.2.2.2.2.2.2.2.2.2.2.2.1 q.2.2.2.2.2.2.2.2.2.2.2.2.2.2.2.2.2.2.2.2.2.2.2.1 q.2.2.2.2.2.2.2.2.2.2.2.2.2.2.2.2.2.2.2.2.2.2.2.2.1 q.2.2.2.2.2.2.2.2.2.2.2.2.2.2.2.2.2.2.2.2.2.2.2.2.2
theorem bx26_e {A1 A2 A3 A4 A5 A6 A7 A8 A9 A10 A11 A12 A13 A14 A15 A16 A17 A18 A19 A20 A21 A22 A23 A24 A25 A26 ρ : Type} {x : Option (String ⊕ (A1 × A2 × A3 × A4 × A5 × A6 × A7 × A8 × A9 × A10 × A11 × A12 × A13 × A14 × A15 × A16 × A17 × A18 × A19 × A20 × A21 × A22 × A23 × A24 × A25 × A26))} {k : A1 → A2 → A3 → A4 → A5 → A6 → A7 → A8 → A9 → A10 → A11 → A12 → A13 → A14 → A15 → A16 → A17 → A18 → A19 → A20 → A21 → A22 → A23 → A24 → A25 → A26 → Option (String ⊕ ρ)} {r : String ⊕ ρ} (h : bx26 x k = some r) : (∃ E : String, x = some (.inl E) ∧ r = .inl E) ∨ ∃ (x1 : A1) (x2 : A2) (x3 : A3) (x4 : A4) (x5 : A5) (x6 : A6) (x7 : A7) (x8 : A8) (x9 : A9) (x10 : A10) (x11 : A11) (x12 : A12) (x13 : A13) (x14 : A14) (x15 : A15) (x16 : A16) (x17 : A17) (x18 : A18) (x19 : A19) (x20 : A20) (x21 : A21) (x22 : A22) (x23 : A23) (x24 : A24) (x25 : A25) (x26 : A26), x = some (.inr (x1, x2, x3, x4, x5, x6, x7, x8, x9, x10, x11, x12, x13, x14, x15, x16, x17, x18, x19, x20, x21, x22, x23, x24, x25, x26)) ∧ k x1 x2 x3 x4 x5 x6 x7 x8 x9 x10 x11 x12 x13 x14 x15 x16 x17 x18 x19 x20 x21 x22 x23 x24 x25 x26 = some r := by
  unfold bx26 at h
  cases x with
  | none => cases h
  | some q =>
    cases q with
    | inl E => exact Or.inl ⟨E, rfl, (Option.some.inj h).symm⟩
    | inr q => exact Or.inr ⟨q.1, q.2.1, q.2.2.1, q.2.2.2.1, q.2.2.2.2.1, q.2.2.2.2.2.1, q.2.2.2.2.2.2.1, q.2.2.2.2.2.2.2.1, q.2.2.2.2.2.2.2.2.1, q.2.2.2.2.2.2.2.2.2.1, q.2.2.2.2.2.2.2.2.2.2.1, q.2.2.2.2.2.2.2.2.2.2.2.1, q.2.2.2.2.2.2.2.2.2.2.2.2.1, q.2.2.2.2.2.2.2.2.2.2.2.2.2.1, q.2.2.2.2.2.2.2.2.2.2.2.2.2.2.1, q.2.2.2.2.2.2.2.2.2.2.2.2.2.2.2.1, q.2.2.2.2.2.2.2.2.2.2.2.2.2.2.2.2.1, q.2.2.2.2.2.2.2.2.2.2.2.2.2.2.2.2.2.1, q.2.2.2.2.2.2.2.2.2.2.2.2.2.2.2.2.2.2.1, q.2.2.2.2.2.2.2.2.2.2.2.2.2.2.2.2.2.2.2.1, q.2.2.2.2.2.2.2.2.2.2.2.2.2.2.2.2.2.2.2.2.1, q.2.2.2.2.2.2.2.2.2.2.2.2.2.2.2.2.2.2.2.2.2.1, q.2.2.2.2.2.2.2.2.2.2.2.2.2.2.2.2.2.2.2.2.2.2.1, q.2.2.2.2.2.2.2.2.2.2.2.2.2.2.2.2.2.2.2.2.2.2.2.1, q.2.2.2.2.2.2.2.2.2.2.2.2.2.2.2.2.2.2.2.2.2.2.2.2.1, q.2.2.2.2.2.2.2.2.2.2.2.2.2.2.2.2.2.2.2.2.2.2.2.2.2, rfl, h⟩
def it26 {A1 A2 A3 A4 A5 A6 A7 A8 A9 A10 A11 A12 A13 A14 A15 A16 A17 A18 A19 A20 A21 A22 A23 A24 A25 A26 ρ : Type} (F : (A1 → A2 → A3 → A4 → A5 → A6 → A7 → A8 → A9 → A10 → A11 → A12 → A13 → A14 → A15 → A16 → A17 → A18 → A19 → A20 → A21 → A22 → A23 → A24 → A25 → A26 → Option ρ) → A1 → A2 → A3 → A4 → A5 → A6 → A7 → A8 → A9 → A10 → A11 → A12 → A13 → A14 → A15 → A16 → A17 → A18 → A19 → A20 → A21 → A22 → A23 → A24 → A25 → A26 → Option ρ) : Nat → A1 → A2 → A3 → A4 → A5 → A6 → A7 → A8 → A9 → A10 → A11 → A12 → A13 → A14 → A15 → A16 → A17 → A18 → A19 → A20 → A21 → A22 → A23 → A24 → A25 → A26 → Option ρ
  | 0, _, _, _, _, _, _, _, _, _, _, _, _, _, _, _, _, _, _, _, _, _, _, _, _, _, _ => none
  | n + 1, x1, x2, x3, x4, x5, x6, x7, x8, x9, x10, x11, x12, x13, x14, x15, x16, x17, x18, x19, x20, x21, x22, x23, x24, x25, x26 => F (it26 F n) x1 x2 x3 x4 x5 x6 x7 x8 x9 x10 x11 x12 x13 x14 x15 x16 x17 x18 x19 x20 x21 x22 x23 x24 x25 x26
theorem it26_e {A1 A2 A3 A4 A5 A6 A7 A8 A9 A10 A11 A12 A13 A14 A15 A16 A17 A18 A19 A20 A21 A22 A23 A24 A25 A26 ρ : Type} {F : (A1 → A2 → A3 → A4 → A5 → A6 → A7 → A8 → A9 → A10 → A11 → A12 → A13 → A14 → A15 → A16 → A17 → A18 → A19 → A20 → A21 → A22 → A23 → A24 → A25 → A26 → Option ρ) → A1 → A2 → A3 → A4 → A5 → A6 → A7 → A8 → A9 → A10 → A11 → A12 → A13 → A14 → A15 → A16 → A17 → A18 → A19 → A20 → A21 → A22 → A23 → A24 → A25 → A26 → Option ρ} {r : ρ} (I : A1 → A2 → A3 → A4 → A5 → A6 → A7 → A8 → A9 → A10 → A11 → A12 → A13 → A14 → A15 → A16 → A17 → A18 → A19 → A20 → A21 → A22 → A23 → A24 → A25 → A26 → Prop) (hs : ∀ g : A1 → A2 → A3 → A4 → A5 → A6 → A7 → A8 → A9 → A10 → A11 → A12 → A13 → A14 → A15 → A16 → A17 → A18 → A19 → A20 → A21 → A22 → A23 → A24 → A25 → A26 → Option ρ, (∀ (x1 : A1) (x2 : A2) (x3 : A3) (x4 : A4) (x5 : A5) (x6 : A6) (x7 : A7) (x8 : A8) (x9 : A9) (x10 : A10) (x11 : A11) (x12 : A12) (x13 : A13) (x14 : A14) (x15 : A15) (x16 : A16) (x17 : A17) (x18 : A18) (x19 : A19) (x20 : A20) (x21 : A21) (x22 : A22) (x23 : A23) (x24 : A24) (x25 : A25) (x26 : A26), g x1 x2 x3 x4 x5 x6 x7 x8 x9 x10 x11 x12 x13 x14 x15 x16 x17 x18 x19 x20 x21 x22 x23 x24 x25 x26 = some r → I x1 x2 x3 x4 x5 x6 x7 x8 x9 x10 x11 x12 x13 x14 x15 x16 x17 x18 x19 x20 x21 x22 x23 x24 x25 x26) → ∀ (x1 : A1) (x2 : A2) (x3 : A3) (x4 : A4) (x5 : A5) (x6 : A6) (x7 : A7) (x8 : A8) (x9 : A9) (x10 : A10) (x11 : A11) (x12 : A12) (x13 : A13) (x14 : A14) (x15 : A15) (x16 : A16) (x17 : A17) (x18 : A18) (x19 : A19) (x20 : A20) (x21 : A21) (x22 : A22) (x23 : A23) (x24 : A24) (x25 : A25) (x26 : A26), F g x1 x2 x3 x4 x5 x6 x7 x8 x9 x10 x11 x12 x13 x14 x15 x16 x17 x18 x19 x20 x21 x22 x23 x24 x25 x26 = some r → I x1 x2 x3 x4 x5 x6 x7 x8 x9 x10 x11 x12 x13 x14 x15 x16 x17 x18 x19 x20 x21 x22 x23 x24 x25 x26) : ∀ (n : Nat) (x1 : A1) (x2 : A2) (x3 : A3) (x4 : A4) (x5 : A5) (x6 : A6) (x7 : A7) (x8 : A8) (x9 : A9) (x10 : A10) (x11 : A11) (x12 : A12) (x13 : A13) (x14 : A14) (x15 : A15) (x16 : A16) (x17 : A17) (x18 : A18) (x19 : A19) (x20 : A20) (x21 : A21) (x22 : A22) (x23 : A23) (x24 : A24) (x25 : A25) (x26 : A26), it26 F n x1 x2 x3 x4 x5 x6 x7 x8 x9 x10 x11 x12 x13 x14 x15 x16 x17 x18 x19 x20 x21 x22 x23 x24 x25 x26 = some r → I x1 x2 x3 x4 x5 x6 x7 x8 x9 x10 x11 x12 x13 x14 x15 x16 x17 x18 x19 x20 x21 x22 x23 x24 x25 x26
  | 0, _, _, _, _, _, _, _, _, _, _, _, _, _, _, _, _, _, _, _, _, _, _, _, _, _, _, h => by cases h
  | n + 1, x1, x2, x3, x4, x5, x6, x7, x8, x9, x10, x11, x12, x13, x14, x15, x16, x17, x18, x19, x20, x21, x22, x23, x24, x25, x26, h => hs (it26 F n) (it26_e I hs n) x1 x2 x3 x4 x5 x6 x7 x8 x9 x10 x11 x12 x13 x14 x15 x16 x17 x18 x19 x20 x21 x22 x23 x24 x25 x26 h
def jn26 {A1 A2 A3 A4 A5 A6 A7 A8 A9 A10 A11 A12 A13 A14 A15 A16 A17 A18 A19 A20 A21 A22 A23 A24 A25 A26 ρ : Type} (rest : A1 → A2 → A3 → A4 → A5 → A6 → A7 → A8 → A9 → A10 → A11 → A12 → A13 → A14 → A15 → A16 → A17 → A18 → A19 → A20 → A21 → A22 → A23 → A24 → A25 → A26 → Option ρ) (body : (A1 → A2 → A3 → A4 → A5 → A6 → A7 → A8 → A9 → A10 → A11 → A12 → A13 → A14 → A15 → A16 → A17 → A18 → A19 → A20 → A21 → A22 → A23 → A24 → A25 → A26 → Option ρ) → Option ρ) : Option ρ := body rest
theorem jn26_e {A1 A2 A3 A4 A5 A6 A7 A8 A9 A10 A11 A12 A13 A14 A15 A16 A17 A18 A19 A20 A21 A22 A23 A24 A25 A26 ρ : Type} {rest : A1 → A2 → A3 → A4 → A5 → A6 → A7 → A8 → A9 → A10 → A11 → A12 → A13 → A14 → A15 → A16 → A17 → A18 → A19 → A20 → A21 → A22 → A23 → A24 → A25 → A26 → Option ρ} {body : (A1 → A2 → A3 → A4 → A5 → A6 → A7 → A8 → A9 → A10 → A11 → A12 → A13 → A14 → A15 → A16 → A17 → A18 → A19 → A20 → A21 → A22 → A23 → A24 → A25 → A26 → Option ρ) → Option ρ} {r : ρ} {G : Prop} (J : A1 → A2 → A3 → A4 → A5 → A6 → A7 → A8 → A9 → A10 → A11 → A12 → A13 → A14 → A15 → A16 → A17 → A18 → A19 → A20 → A21 → A22 → A23 → A24 → A25 → A26 → Prop) (h : jn26 rest body = some r) (hJ : ∀ (x1 : A1) (x2 : A2) (x3 : A3) (x4 : A4) (x5 : A5) (x6 : A6) (x7 : A7) (x8 : A8) (x9 : A9) (x10 : A10) (x11 : A11) (x12 : A12) (x13 : A13) (x14 : A14) (x15 : A15) (x16 : A16) (x17 : A17) (x18 : A18) (x19 : A19) (x20 : A20) (x21 : A21) (x22 : A22) (x23 : A23) (x24 : A24) (x25 : A25) (x26 : A26), rest x1 x2 x3 x4 x5 x6 x7 x8 x9 x10 x11 x12 x13 x14 x15 x16 x17 x18 x19 x20 x21 x22 x23 x24 x25 x26 = some r → J x1 x2 x3 x4 x5 x6 x7 x8 x9 x10 x11 x12 x13 x14 x15 x16 x17 x18 x19 x20 x21 x22 x23 x24 x25 x26) (hB : ∀ g : A1 → A2 → A3 → A4 → A5 → A6 → A7 → A8 → A9 → A10 → A11 → A12 → A13 → A14 → A15 → A16 → A17 → A18 → A19 → A20 → A21 → A22 → A23 → A24 → A25 → A26 → Option ρ, (∀ (x1 : A1) (x2 : A2) (x3 : A3) (x4 : A4) (x5 : A5) (x6 : A6) (x7 : A7) (x8 : A8) (x9 : A9) (x10 : A10) (x11 : A11) (x12 : A12) (x13 : A13) (x14 : A14) (x15 : A15) (x16 : A16) (x17 : A17) (x18 : A18) (x19 : A19) (x20 : A20) (x21 : A21) (x22 : A22) (x23 : A23) (x24 : A24) (x25 : A25) (x26 : A26), g x1 x2 x3 x4 x5 x6 x7 x8 x9 x10 x11 x12 x13 x14 x15 x16 x17 x18 x19 x20 x21 x22 x23 x24 x25 x26 = some r → J x1 x2 x3 x4 x5 x6 x7 x8 x9 x10 x11 x12 x13 x14 x15 x16 x17 x18 x19 x20 x21 x22 x23 x24 x25 x26) → body g = some r → G) : G := hB rest hJ h
/-! methods that write: PM their start, QM their end (the answer rv, the cells w1) -/
def PM (D : va_G) (cI cZ cL : ClassId) (av : List Value) (ws : va_W) (sz : Nat) : Array Value → State → Prop := va_Pc av (fun U => U.heap.size = sz ∧ va_P D vwCl ws U.heap ∧ K0 D cI cZ cL U ∧ va_D (fun _ => True) ws)
theorem PM_blind {D : va_G} {cI cZ cL : ClassId} {av : List Value} {ws : va_W} {sz : Nat} : FrameBlind (PM D cI cZ cL av ws sz) := fun _ _ _ _ q => ⟨q.1, q.2.1, q.2.2.1, q.2.2.2.1.calling, q.2.2.2.2⟩
def QM (D : va_G) (rv : Option Value) (A : Nat → Prop) (w1 : va_W) : Array Value → State → Outcome → State → Prop := fun _ st o t => o = .returned rv ∧ va_P D vwCl w1 t.heap ∧ va_D A w1 ∧ va_F A st t
theorem zz_fm {α : Type} {f : Nat → Option α} {is : List Nat} {l : List α} (h : is.map f = l.map some) : is.filterMap f = l := by
  have e : is.filterMap f = (is.map f).filterMap id := by simp [List.filterMap_map]
  rw [e, h]
  simp [List.filterMap_map]
section ZM
variable {p : Program} {l : Launch} {e : Env} {R : Room} {s : State} {m : MethodId} {args : Array Value} {below : List Frame} {meth : Method} {c : Code} {H : Heap} {locs : List Loc} {cells slots : Nat} {Q : State → Prop}
variable {pc : Nat} {ls : Array Slot} {rest st0 : List Value} {a : Array Value} {mc ms : Nat}
variable {y : MethodName} {bytes cc : ByteArray} {maxL nL n index : Nat} {ret : Option FieldType} {ws : List Cond} {rm : Room} {Ts : List Cond} {own C : String} {b : Addr} {As : List Value} {D : va_G} {cI cZ cL : ClassId} {wc wt wr w1 wt' : va_W} {val : Int32} {A0 : Nat → Prop} {H0 : Heap} {rv : Option Value}
theorem zz_m (hr : va_Run p l e R s m args below meth c H locs cells slots mc ms (F0 m pc ls st0) rest (QM D rv (va_A wc H.size) w1 a) (va_A wc H.size)) (hP : va_P D vwCl wt H) (hD : va_D A0 wt) (hS : va_S A0 H0 H locs) (hA : ∀ q, H0.size ≤ q → A0 q)
    (isC isR isP : List Nat) (hC : isC.map (fun i => wt[i]?) = wc.map some) (hR : isR.map (fun i => wt[i]?) = wr.map some) (hn : va_nd isR = true) (hdis : ∀ i ∈ isR, i ∉ isC) (hp : isP.map (fun i => (wr ++ w1)[i]?) = wt'.map some) (hpn : va_nd isP = true)
    (kk : ∀ (H1 : Heap) (locs1 : List Loc), va_P D vwCl wt' H1 → va_D A0 wt' → va_S A0 H0 H1 locs1 → H.size ≤ H1.size → W p l e R s m args below meth c H1 locs1 (cells + mc) (slots + ms) Q (F0 m (pc + 3) ls (rv.toList ++ rest))) : W p l e R s m args below meth c H locs cells slots Q (F0 m pc ls st0) := by
  intro T hT X
  obtain ⟨v, st₀, t, T', L, h0, X', hL, e1, e2, ⟨hv, hP1, hD1, hz, hk⟩, st⟩ := hr T hT X
  cases hv
  rw [h0] at hz hk
  have hF : ∀ q, va_A wc H.size q → A0 q := va_free (wc := wc) hD hS hA isC hC
  obtain ⟨hP2, hD2⟩ := va_join (wr := wr) (w1 := w1) hP hD isC isR hC hR hn hdis (fun q h1 h2 => hk q h1 h2) hF hP1 hD1
  have hS1 : va_S A0 H0 t.heap (locs ++ L) := ⟨Nat.le_trans hS.1 hz, fun q h1 h2 => by rw [hk q (Nat.lt_of_lt_of_le h1 hS.1) (fun z => h2 (hF q z))]; exact hS.2.1 q h1 h2, fun q hq => by
    rcases List.mem_append.mp hq with h | h
    · exact hS.2.2 q h
    · exact hF _ (hL q h)⟩
  obtain ⟨t2, a1, b1⟩ := kk t.heap (locs ++ L) (hP2.sub isP (zz_fm hp)) (hD2.sub isP hpn hp) hS1 hz T' e1 X'
  exact ⟨t2, st t2 a1, b1⟩
theorem zz_mV (S : CallFix p m c cc nL s args Ts own) (hM : Met l y ws rm (PM D cI cZ cL (.ref b :: As) wc H.size) (QM D rv (va_A wc H.size) w1) mc ms (va_A wc H.size)) (cw : CallW R s args own C index y bytes maxL ret ws rm mc ms n)
    (hP : va_P D vwCl wt H) (hD : va_D A0 wt) (hS : va_S A0 H0 H locs) (hA : ∀ q, H0.size ≤ q → A0 q) (hK : K0 D cI cZ cL s) (isC isR isP : List Nat) (hC : isC.map (fun i => wt[i]?) = wc.map some) (hR : isR.map (fun i => wt[i]?) = wr.map some) (hn : va_nd isR = true) (hdis : ∀ i ∈ isR, i ∉ isC) (hp : isP.map (fun i => (wr ++ w1)[i]?) = wt'.map some) (hpn : va_nd isP = true) (hcn : va_nd isC = true)
    (hcell : ∃ cellB : Cell, H[b]? = some cellB ∧ cellB.vm.isStatics = false ∧ s.vm.findClass C = some cellB.cls) (hna : As.length = n) (hsize : ls.size = nL) (hst : st0 = As.reverse ++ .ref b :: rest) (hW : (rest.map fun v => v.category).sum ≤ 8)
    (hdg : decode cc pc = .ok (.invokevirtual index, 3)) (hf : cells + mc ≤ R.cells ∧ slots + ms ≤ R.slots)
    (kk : ∀ (H1 : Heap) (locs1 : List Loc), va_P D vwCl wt' H1 → va_D A0 wt' → va_S A0 H0 H1 locs1 → H.size ≤ H1.size → W p l e R s m args below meth c H1 locs1 (cells + mc) (slots + ms) Q (F0 m (pc + 3) ls (rv.toList ++ rest))) : W p l e R s m args below meth c H locs cells slots Q (F0 m pc ls st0) :=
  zz_m (va_runV S hM cw ⟨PM_blind, hcell, fun U hU hW => ⟨rfl, by rw [hU], by rw [hU]; exact hP.sub isC (zz_fm hC), hK.warm hW, (hD.sub isC hcn hC).weaken (fun _ _ _ _ => trivial)⟩⟩ rfl hna hsize hst (lv_room hW) hdg hf) hP hD hS hA isC isR isP hC hR hn hdis hp hpn kk
end ZM
end
section
/-! methods that may throw: the program's result R says whether, and what -/
def sKl : List (Nat × String) := [(54, "there are 16 nodes"), (68, "both nodes are the same"), (74, "there are 24 switches"), (87, "the log has 200 acts"), (101, "the log is empty"), (123, "no such act in the log"), (129, "the sequence has 30 acts"), (144, "acts is not 1 to 30"), (151, "the log would have more than 200 acts"), (156, "no node, or one that there is not"), (162, "a node is not earthed, live, or held already"), (167, "10 permits were given"), (172, "no such permit was given"), (177, "the permit was handed back"), (191, "no such switch"), (223, "no way leads to a source that is on"), (229, "no such node"), (231, "kind is not 0 to 5"), (236, "no such switch or node")]
/-- the texts that the class loads -/
def KS (U : State) : Prop := ∀ q ∈ sKl, ∃ sa : Nat, vk_R RX4 q.1 q.2 sa U
theorem KS.warm {s U : State} (hW : s.WarmedH U.vm) (h : KS s) : KS U := fun q hq => by
  obtain ⟨sa, h1⟩ := h q hq
  exact ⟨sa, vk_R.warm hW h1⟩
theorem KS.calling {U : State} {g : JFrame} {mk : MethodId} {a : Array Value} (h : KS U) : KS (U.calling g mk a) := fun q hq => by
  obtain ⟨sa, h1⟩ := h q hq
  exact ⟨sa, vk_R.same (u := U) (U := U.calling g mk a) rfl h1⟩
/-- the two statics that a new throwable reads -/
def KZ (A : Nat → Prop) (U : State) (H : Heap) : Prop := vx_Zq Bundle.tN "UNASSIGNED_STACK" Bundle.steD A U H ∧ vx_Zq Bundle.tN "SUPPRESSED_SENTINEL" Bundle.listD A U H
theorem KZ.moved {A : Nat → Prop} {u U : State} {H : Heap} (hvm : u.vm.Alike U.vm) (h : KZ A u H) : KZ A U H := ⟨h.1.moved hvm, h.2.moved hvm⟩
theorem KZ.kept {A : Nat → Prop} {U : State} {H H1 : Heap} (h : KZ A U H) (hq : ∀ a : Nat, a < H.size → ¬ A a → H1[a]? = H[a]?) : KZ A U H1 := ⟨h.1.kept hq, h.2.kept hq⟩
theorem KZ.narrow {A B : Nat → Prop} {U : State} {H : Heap} (h : KZ A U H) (hAB : ∀ q, B q → A q) : KZ B U H := ⟨h.1.narrow hAB, h.2.narrow hAB⟩
def PT (D : va_G) (cI cZ cL : ClassId) (av : List Value) (ws : va_W) (sz : Nat) : Array Value → State → Prop := va_Pc av (fun U => U.heap.size = sz ∧ va_P D vwCl ws U.heap ∧ K0 D cI cZ cL U ∧ va_D (fun _ => True) ws ∧ KS U ∧ KZ (va_A ws sz) U U.heap)
theorem PT_blind {D : va_G} {cI cZ cL : ClassId} {av : List Value} {ws : va_W} {sz : Nat} : FrameBlind (PT D cI cZ cL av ws sz) := fun _ U g mk q => ⟨q.1, q.2.1, q.2.2.1, q.2.2.2.1.calling, q.2.2.2.2.1, q.2.2.2.2.2.1.calling, KZ.moved (u := U) (U := U.calling g mk _) (Vm.Alike.refl U.vm) q.2.2.2.2.2.2⟩
def QT {α : Type} (D : va_G) (rv : α → Option Value) (A : Nat → Prop) (w1 : α → va_W) (R : String ⊕ α) : Array Value → State → Outcome → State → Prop := fun _ st o t => ∃ u : α, R = .inr u ∧ o = .returned (rv u) ∧ va_P D vwCl (w1 u) t.heap ∧ va_D A (w1 u) ∧ va_F A st t
def XT {α : Type} (D : va_G) (A : Nat → Prop) (ws : va_W) (R : String ⊕ α) : String → State → State → Prop := fun E st t => R = .inl E ∧ va_P D vwCl ws t.heap ∧ va_D A ws ∧ va_F A st t
theorem zz_keep {D : va_G} {ws : va_W} {H H1 : Heap} (hP : va_P D vwCl ws H) (hq : ∀ q : Nat, q < H.size → H1[q]? = H[q]?) : va_P D vwCl ws H1 := fun k q hk => (hP k q hk).kept (hq _ (hP k q hk).lt)
theorem zz_XT {α : Type} {D : va_G} {A : Nat → Prop} {ws : va_W} {E : String} {s t : State} {H : Heap} {locs : List Loc} (hP : va_P D vwCl ws H) (hD : va_D A ws) (hS : va_S A s.heap H locs) (hz : H.size ≤ t.heap.size) (hq : ∀ q : Nat, q < H.size → t.heap[q]? = H[q]?) : XT (α := α) D A ws (.inl E) E s t :=
  ⟨rfl, zz_keep hP hq, hD, Nat.le_trans hS.1 hz, fun q h1 h2 => (hq q (Nat.lt_of_lt_of_le h1 hS.1)).trans (hS.2.1 q h1 h2)⟩
section ZX
variable {p : Program} {l : Launch} {e : Env} {R : Room} {s : State} {m : MethodId} {args : Array Value} {below : List Frame} {meth : Method} {c : Code} {H : Heap} {locs : List Loc} {cells slots : Nat} {Q : State → Prop}
variable {pc : Nat} {ls : Array Slot} {rest st0 : List Value} {a : Array Value} {mc ms : Nat} {α : Type}
variable {y : MethodName} {bytes cc : ByteArray} {maxL nL n index : Nat} {ret : Option FieldType} {ws : List Cond} {rm : Room} {Ts : List Cond} {own C : String} {b : Addr} {As : List Value} {D : va_G} {cI cZ cL : ClassId} {wc wt wr : va_W} {w1 wt' : α → va_W} {A0 : Nat → Prop} {H0 : Heap} {rv : α → Option Value} {Rr : String ⊕ α}
theorem zz_x (hr : vx_Run p l e R s m args below meth c H locs cells slots mc ms (F0 m pc ls st0) rest (QT D rv (va_A wc H.size) w1 Rr a) (XT D (va_A wc H.size) wc Rr) (va_A wc H.size)) (hP : va_P D vwCl wt H) (hD : va_D A0 wt) (hS : va_S A0 H0 H locs) (hA : ∀ q, H0.size ≤ q → A0 q)
    (isC isR isP : List Nat) (hC : isC.map (fun i => wt[i]?) = wc.map some) (hR : isR.map (fun i => wt[i]?) = wr.map some) (hn : va_nd isR = true) (hdis : ∀ i ∈ isR, i ∉ isC) (hp : ∀ u, isP.map (fun i => (wr ++ w1 u)[i]?) = (wt' u).map some) (hp0 : isP.map (fun i => (wr ++ wc)[i]?) = wt.map some) (hpn : va_nd isP = true)
    (kx : ∀ (E : String) (ce : Cell) (q9 : Addr) (H1 : Heap) (locs1 : List Loc), Rr = .inl E → va_P D vwCl wt H1 → va_D A0 wt → va_S A0 H0 H1 locs1 → H1[q9]? = some ce → ce.vm = .none → s.vm.findClass E = some ce.cls → vx_W p l e R s m args below meth c H1 locs1 (cells + mc) (slots + ms) Q (F0 m pc ls rest) q9)
    (kk : ∀ (u : α) (H1 : Heap) (locs1 : List Loc), Rr = .inr u → va_P D vwCl (wt' u) H1 → va_D A0 (wt' u) → va_S A0 H0 H1 locs1 → W p l e R s m args below meth c H1 locs1 (cells + mc) (slots + ms) Q (F0 m (pc + 3) ls ((rv u).toList ++ rest))) : W p l e R s m args below meth c H locs cells slots Q (F0 m pc ls st0) := by
  have hF : ∀ q, va_A wc H.size q → A0 q := va_free (wc := wc) hD hS hA isC hC
  have key : ∀ (t : State) (L : List Loc), H.size ≤ t.heap.size → (∀ q : Nat, q < H.size → ¬ va_A wc H.size q → t.heap[q]? = H[q]?) → (∀ q ∈ L, va_A wc H.size q.base) → va_S A0 H0 t.heap (locs ++ L) := fun t L hz hk hL =>
    ⟨Nat.le_trans hS.1 hz, fun q h1 h2 => by rw [hk q (Nat.lt_of_lt_of_le h1 hS.1) (fun z => h2 (hF q z))]; exact hS.2.1 q h1 h2, fun q hq => by
      rcases List.mem_append.mp hq with h | h
      · exact hS.2.2 q h
      · exact hF _ (hL q h)⟩
  intro T hT X
  rcases hr T hT X with ⟨v, st₀, t, T', L, h0, X', hL, e1, e2, ⟨u, hu, hv, hP1, hD1, hz, hk⟩, st⟩ | ⟨q, st₀, t, T', L, E, ce, h0, X', hL, e1, e2, ⟨hE, hP1, hD1, hz, hk⟩, hce, hcv, hcl, st⟩
  · cases hv
    rw [h0] at hz hk
    obtain ⟨hP2, hD2⟩ := va_join (wr := wr) (w1 := w1 u) hP hD isC isR hC hR hn hdis (fun q h1 h2 => hk q h1 h2) hF hP1 hD1
    obtain ⟨t2, a1, b1⟩ := kk u t.heap (locs ++ L) hu (hP2.sub isP (zz_fm (hp u))) (hD2.sub isP hpn (hp u)) (key t L hz hk hL) T' e1 X'
    exact ⟨t2, st t2 a1, b1⟩
  · rw [h0] at hz hk
    obtain ⟨hP2, hD2⟩ := va_join (wr := wr) (w1 := wc) hP hD isC isR hC hR hn hdis (fun q h1 h2 => hk q h1 h2) hF hP1 hD1
    obtain ⟨t2, a1, b1⟩ := kx E ce q t.heap (locs ++ L) hE (hP2.sub isP (zz_fm hp0)) (hD2.sub isP hpn hp0) (key t L hz hk hL) hce hcv hcl T' e1 X'
    exact ⟨t2, st.trans a1, b1⟩
theorem zz_xV (S : CallFix p m c cc nL s args Ts own) (hM : vx_Met l y ws rm (PT D cI cZ cL (.ref b :: As) wc H.size) (QT D rv (va_A wc H.size) w1 Rr) (XT D (va_A wc H.size) wc Rr) mc ms (va_A wc H.size)) (cw : CallW R s args own C index y bytes maxL ret ws rm mc ms n)
    (hP : va_P D vwCl wt H) (hD : va_D A0 wt) (hS : va_S A0 s.heap H locs) (hA : ∀ q, s.heap.size ≤ q → A0 q) (hK : K0 D cI cZ cL s) (hKS : KS s) (hKZ : KZ A0 s s.heap) (isC isR isP : List Nat) (hC : isC.map (fun i => wt[i]?) = wc.map some) (hR : isR.map (fun i => wt[i]?) = wr.map some) (hn : va_nd isR = true) (hdis : ∀ i ∈ isR, i ∉ isC) (hp : ∀ u, isP.map (fun i => (wr ++ w1 u)[i]?) = (wt' u).map some) (hp0 : isP.map (fun i => (wr ++ wc)[i]?) = wt.map some) (hpn : va_nd isP = true) (hcn : va_nd isC = true)
    (hcell : ∃ cellB : Cell, H[b]? = some cellB ∧ cellB.vm.isStatics = false ∧ s.vm.findClass C = some cellB.cls) (hna : As.length = n) (hsize : ls.size = nL) (hst : st0 = As.reverse ++ .ref b :: rest) (hW : (rest.map fun v => v.category).sum ≤ 8)
    (hdg : decode cc pc = .ok (.invokevirtual index, 3)) (hf : cells + mc ≤ R.cells ∧ slots + ms ≤ R.slots)
    (kx : ∀ (E : String) (ce : Cell) (q9 : Addr) (H1 : Heap) (locs1 : List Loc), Rr = .inl E → va_P D vwCl wt H1 → va_D A0 wt → va_S A0 s.heap H1 locs1 → H1[q9]? = some ce → ce.vm = .none → s.vm.findClass E = some ce.cls → vx_W p l e R s m args below meth c H1 locs1 (cells + mc) (slots + ms) Q (F0 m pc ls rest) q9)
    (kk : ∀ (u : α) (H1 : Heap) (locs1 : List Loc), Rr = .inr u → va_P D vwCl (wt' u) H1 → va_D A0 (wt' u) → va_S A0 s.heap H1 locs1 → W p l e R s m args below meth c H1 locs1 (cells + mc) (slots + ms) Q (F0 m (pc + 3) ls ((rv u).toList ++ rest))) : W p l e R s m args below meth c H locs cells slots Q (F0 m pc ls st0) :=
  zz_x (vx_runV S hM cw ⟨PT_blind, hcell, fun U hU hW => ⟨rfl, by rw [hU], by rw [hU]; exact hP.sub isC (zz_fm hC), hK.warm hW, (hD.sub isC hcn hC).weaken (fun _ _ _ _ => trivial), hKS.warm hW, by rw [hU]; exact ((hKZ.kept (fun q h1 h2 => hS.2.1 q h1 h2)).narrow (va_free (wc := wc) hD hS hA isC hC)).moved hW.alike⟩⟩ rfl hna hsize hst (lv_room hW) hdg hf) hP hD hS hA isC isR isP hC hR hn hdis hp hp0 hpn kx kk
end ZX
def bx0 {ρ : Type} (x : Option (String ⊕ Unit)) (k : Option (String ⊕ ρ)) : Option (String ⊕ ρ) := x.bind (fun R => match R with
  | .inl E => some (.inl E)
  | .inr _ => k)
theorem bx0_r {ρ : Type} {x : Option (String ⊕ Unit)} {k : Option (String ⊕ ρ)} {r : String ⊕ ρ} (h : bx0 x k = some r) : ∃ Rr : String ⊕ Unit, x = some Rr ∧ (∀ E, Rr = .inl E → r = .inl E) ∧ (∀ u, Rr = .inr u → k = some r) := by
  cases x with
  | none => cases h
  | some R =>
    refine ⟨R, rfl, fun E hE => ?_, fun u hu => ?_⟩
    · subst hE; exact (Option.some.inj h).symm
    · subst hu; exact h
theorem bx1_r {A1 ρ : Type} {x : Option (String ⊕ (A1))} {k : A1 → Option (String ⊕ ρ)} {r : String ⊕ ρ} (h : bx1 x k = some r) : ∃ Rr : String ⊕ (A1), x = some Rr ∧ (∀ E, Rr = .inl E → r = .inl E) ∧ (∀ (x1 : A1), Rr = .inr x1 → k x1 = some r) := by
  cases x with
  | none => cases h
  | some R =>
    refine ⟨R, rfl, fun E hE => ?_, fun x1 hu => ?_⟩
    · subst hE; exact (Option.some.inj h).symm
    · subst hu; exact h
theorem bx2_r {A1 A2 ρ : Type} {x : Option (String ⊕ (A1 × A2))} {k : A1 → A2 → Option (String ⊕ ρ)} {r : String ⊕ ρ} (h : bx2 x k = some r) : ∃ Rr : String ⊕ (A1 × A2), x = some Rr ∧ (∀ E, Rr = .inl E → r = .inl E) ∧ (∀ (x1 : A1) (x2 : A2), Rr = .inr (x1, x2) → k x1 x2 = some r) := by
  cases x with
  | none => cases h
  | some R =>
    refine ⟨R, rfl, fun E hE => ?_, fun x1 x2 hu => ?_⟩
    · subst hE; exact (Option.some.inj h).symm
    · subst hu; exact h
theorem bx3_r {A1 A2 A3 ρ : Type} {x : Option (String ⊕ (A1 × A2 × A3))} {k : A1 → A2 → A3 → Option (String ⊕ ρ)} {r : String ⊕ ρ} (h : bx3 x k = some r) : ∃ Rr : String ⊕ (A1 × A2 × A3), x = some Rr ∧ (∀ E, Rr = .inl E → r = .inl E) ∧ (∀ (x1 : A1) (x2 : A2) (x3 : A3), Rr = .inr (x1, x2, x3) → k x1 x2 x3 = some r) := by
  cases x with
  | none => cases h
  | some R =>
    refine ⟨R, rfl, fun E hE => ?_, fun x1 x2 x3 hu => ?_⟩
    · subst hE; exact (Option.some.inj h).symm
    · subst hu; exact h
theorem bx4_r {A1 A2 A3 A4 ρ : Type} {x : Option (String ⊕ (A1 × A2 × A3 × A4))} {k : A1 → A2 → A3 → A4 → Option (String ⊕ ρ)} {r : String ⊕ ρ} (h : bx4 x k = some r) : ∃ Rr : String ⊕ (A1 × A2 × A3 × A4), x = some Rr ∧ (∀ E, Rr = .inl E → r = .inl E) ∧ (∀ (x1 : A1) (x2 : A2) (x3 : A3) (x4 : A4), Rr = .inr (x1, x2, x3, x4) → k x1 x2 x3 x4 = some r) := by
  cases x with
  | none => cases h
  | some R =>
    refine ⟨R, rfl, fun E hE => ?_, fun x1 x2 x3 x4 hu => ?_⟩
    · subst hE; exact (Option.some.inj h).symm
    · subst hu; exact h
theorem bx5_r {A1 A2 A3 A4 A5 ρ : Type} {x : Option (String ⊕ (A1 × A2 × A3 × A4 × A5))} {k : A1 → A2 → A3 → A4 → A5 → Option (String ⊕ ρ)} {r : String ⊕ ρ} (h : bx5 x k = some r) : ∃ Rr : String ⊕ (A1 × A2 × A3 × A4 × A5), x = some Rr ∧ (∀ E, Rr = .inl E → r = .inl E) ∧ (∀ (x1 : A1) (x2 : A2) (x3 : A3) (x4 : A4) (x5 : A5), Rr = .inr (x1, x2, x3, x4, x5) → k x1 x2 x3 x4 x5 = some r) := by
  cases x with
  | none => cases h
  | some R =>
    refine ⟨R, rfl, fun E hE => ?_, fun x1 x2 x3 x4 x5 hu => ?_⟩
    · subst hE; exact (Option.some.inj h).symm
    · subst hu; exact h
theorem bx6_r {A1 A2 A3 A4 A5 A6 ρ : Type} {x : Option (String ⊕ (A1 × A2 × A3 × A4 × A5 × A6))} {k : A1 → A2 → A3 → A4 → A5 → A6 → Option (String ⊕ ρ)} {r : String ⊕ ρ} (h : bx6 x k = some r) : ∃ Rr : String ⊕ (A1 × A2 × A3 × A4 × A5 × A6), x = some Rr ∧ (∀ E, Rr = .inl E → r = .inl E) ∧ (∀ (x1 : A1) (x2 : A2) (x3 : A3) (x4 : A4) (x5 : A5) (x6 : A6), Rr = .inr (x1, x2, x3, x4, x5, x6) → k x1 x2 x3 x4 x5 x6 = some r) := by
  cases x with
  | none => cases h
  | some R =>
    refine ⟨R, rfl, fun E hE => ?_, fun x1 x2 x3 x4 x5 x6 hu => ?_⟩
    · subst hE; exact (Option.some.inj h).symm
    · subst hu; exact h
theorem bx7_r {A1 A2 A3 A4 A5 A6 A7 ρ : Type} {x : Option (String ⊕ (A1 × A2 × A3 × A4 × A5 × A6 × A7))} {k : A1 → A2 → A3 → A4 → A5 → A6 → A7 → Option (String ⊕ ρ)} {r : String ⊕ ρ} (h : bx7 x k = some r) : ∃ Rr : String ⊕ (A1 × A2 × A3 × A4 × A5 × A6 × A7), x = some Rr ∧ (∀ E, Rr = .inl E → r = .inl E) ∧ (∀ (x1 : A1) (x2 : A2) (x3 : A3) (x4 : A4) (x5 : A5) (x6 : A6) (x7 : A7), Rr = .inr (x1, x2, x3, x4, x5, x6, x7) → k x1 x2 x3 x4 x5 x6 x7 = some r) := by
  cases x with
  | none => cases h
  | some R =>
    refine ⟨R, rfl, fun E hE => ?_, fun x1 x2 x3 x4 x5 x6 x7 hu => ?_⟩
    · subst hE; exact (Option.some.inj h).symm
    · subst hu; exact h
theorem bx8_r {A1 A2 A3 A4 A5 A6 A7 A8 ρ : Type} {x : Option (String ⊕ (A1 × A2 × A3 × A4 × A5 × A6 × A7 × A8))} {k : A1 → A2 → A3 → A4 → A5 → A6 → A7 → A8 → Option (String ⊕ ρ)} {r : String ⊕ ρ} (h : bx8 x k = some r) : ∃ Rr : String ⊕ (A1 × A2 × A3 × A4 × A5 × A6 × A7 × A8), x = some Rr ∧ (∀ E, Rr = .inl E → r = .inl E) ∧ (∀ (x1 : A1) (x2 : A2) (x3 : A3) (x4 : A4) (x5 : A5) (x6 : A6) (x7 : A7) (x8 : A8), Rr = .inr (x1, x2, x3, x4, x5, x6, x7, x8) → k x1 x2 x3 x4 x5 x6 x7 x8 = some r) := by
  cases x with
  | none => cases h
  | some R =>
    refine ⟨R, rfl, fun E hE => ?_, fun x1 x2 x3 x4 x5 x6 x7 x8 hu => ?_⟩
    · subst hE; exact (Option.some.inj h).symm
    · subst hu; exact h
theorem bx9_r {A1 A2 A3 A4 A5 A6 A7 A8 A9 ρ : Type} {x : Option (String ⊕ (A1 × A2 × A3 × A4 × A5 × A6 × A7 × A8 × A9))} {k : A1 → A2 → A3 → A4 → A5 → A6 → A7 → A8 → A9 → Option (String ⊕ ρ)} {r : String ⊕ ρ} (h : bx9 x k = some r) : ∃ Rr : String ⊕ (A1 × A2 × A3 × A4 × A5 × A6 × A7 × A8 × A9), x = some Rr ∧ (∀ E, Rr = .inl E → r = .inl E) ∧ (∀ (x1 : A1) (x2 : A2) (x3 : A3) (x4 : A4) (x5 : A5) (x6 : A6) (x7 : A7) (x8 : A8) (x9 : A9), Rr = .inr (x1, x2, x3, x4, x5, x6, x7, x8, x9) → k x1 x2 x3 x4 x5 x6 x7 x8 x9 = some r) := by
  cases x with
  | none => cases h
  | some R =>
    refine ⟨R, rfl, fun E hE => ?_, fun x1 x2 x3 x4 x5 x6 x7 x8 x9 hu => ?_⟩
    · subst hE; exact (Option.some.inj h).symm
    · subst hu; exact h
theorem bx10_r {A1 A2 A3 A4 A5 A6 A7 A8 A9 A10 ρ : Type} {x : Option (String ⊕ (A1 × A2 × A3 × A4 × A5 × A6 × A7 × A8 × A9 × A10))} {k : A1 → A2 → A3 → A4 → A5 → A6 → A7 → A8 → A9 → A10 → Option (String ⊕ ρ)} {r : String ⊕ ρ} (h : bx10 x k = some r) : ∃ Rr : String ⊕ (A1 × A2 × A3 × A4 × A5 × A6 × A7 × A8 × A9 × A10), x = some Rr ∧ (∀ E, Rr = .inl E → r = .inl E) ∧ (∀ (x1 : A1) (x2 : A2) (x3 : A3) (x4 : A4) (x5 : A5) (x6 : A6) (x7 : A7) (x8 : A8) (x9 : A9) (x10 : A10), Rr = .inr (x1, x2, x3, x4, x5, x6, x7, x8, x9, x10) → k x1 x2 x3 x4 x5 x6 x7 x8 x9 x10 = some r) := by
  cases x with
  | none => cases h
  | some R =>
    refine ⟨R, rfl, fun E hE => ?_, fun x1 x2 x3 x4 x5 x6 x7 x8 x9 x10 hu => ?_⟩
    · subst hE; exact (Option.some.inj h).symm
    · subst hu; exact h
theorem bx11_r {A1 A2 A3 A4 A5 A6 A7 A8 A9 A10 A11 ρ : Type} {x : Option (String ⊕ (A1 × A2 × A3 × A4 × A5 × A6 × A7 × A8 × A9 × A10 × A11))} {k : A1 → A2 → A3 → A4 → A5 → A6 → A7 → A8 → A9 → A10 → A11 → Option (String ⊕ ρ)} {r : String ⊕ ρ} (h : bx11 x k = some r) : ∃ Rr : String ⊕ (A1 × A2 × A3 × A4 × A5 × A6 × A7 × A8 × A9 × A10 × A11), x = some Rr ∧ (∀ E, Rr = .inl E → r = .inl E) ∧ (∀ (x1 : A1) (x2 : A2) (x3 : A3) (x4 : A4) (x5 : A5) (x6 : A6) (x7 : A7) (x8 : A8) (x9 : A9) (x10 : A10) (x11 : A11), Rr = .inr (x1, x2, x3, x4, x5, x6, x7, x8, x9, x10, x11) → k x1 x2 x3 x4 x5 x6 x7 x8 x9 x10 x11 = some r) := by
  cases x with
  | none => cases h
  | some R =>
    refine ⟨R, rfl, fun E hE => ?_, fun x1 x2 x3 x4 x5 x6 x7 x8 x9 x10 x11 hu => ?_⟩
    · subst hE; exact (Option.some.inj h).symm
    · subst hu; exact h
theorem bx12_r {A1 A2 A3 A4 A5 A6 A7 A8 A9 A10 A11 A12 ρ : Type} {x : Option (String ⊕ (A1 × A2 × A3 × A4 × A5 × A6 × A7 × A8 × A9 × A10 × A11 × A12))} {k : A1 → A2 → A3 → A4 → A5 → A6 → A7 → A8 → A9 → A10 → A11 → A12 → Option (String ⊕ ρ)} {r : String ⊕ ρ} (h : bx12 x k = some r) : ∃ Rr : String ⊕ (A1 × A2 × A3 × A4 × A5 × A6 × A7 × A8 × A9 × A10 × A11 × A12), x = some Rr ∧ (∀ E, Rr = .inl E → r = .inl E) ∧ (∀ (x1 : A1) (x2 : A2) (x3 : A3) (x4 : A4) (x5 : A5) (x6 : A6) (x7 : A7) (x8 : A8) (x9 : A9) (x10 : A10) (x11 : A11) (x12 : A12), Rr = .inr (x1, x2, x3, x4, x5, x6, x7, x8, x9, x10, x11, x12) → k x1 x2 x3 x4 x5 x6 x7 x8 x9 x10 x11 x12 = some r) := by
  cases x with
  | none => cases h
  | some R =>
    refine ⟨R, rfl, fun E hE => ?_, fun x1 x2 x3 x4 x5 x6 x7 x8 x9 x10 x11 x12 hu => ?_⟩
    · subst hE; exact (Option.some.inj h).symm
    · subst hu; exact h
theorem bx13_r {A1 A2 A3 A4 A5 A6 A7 A8 A9 A10 A11 A12 A13 ρ : Type} {x : Option (String ⊕ (A1 × A2 × A3 × A4 × A5 × A6 × A7 × A8 × A9 × A10 × A11 × A12 × A13))} {k : A1 → A2 → A3 → A4 → A5 → A6 → A7 → A8 → A9 → A10 → A11 → A12 → A13 → Option (String ⊕ ρ)} {r : String ⊕ ρ} (h : bx13 x k = some r) : ∃ Rr : String ⊕ (A1 × A2 × A3 × A4 × A5 × A6 × A7 × A8 × A9 × A10 × A11 × A12 × A13), x = some Rr ∧ (∀ E, Rr = .inl E → r = .inl E) ∧ (∀ (x1 : A1) (x2 : A2) (x3 : A3) (x4 : A4) (x5 : A5) (x6 : A6) (x7 : A7) (x8 : A8) (x9 : A9) (x10 : A10) (x11 : A11) (x12 : A12) (x13 : A13), Rr = .inr (x1, x2, x3, x4, x5, x6, x7, x8, x9, x10, x11, x12, x13) → k x1 x2 x3 x4 x5 x6 x7 x8 x9 x10 x11 x12 x13 = some r) := by
  cases x with
  | none => cases h
  | some R =>
    refine ⟨R, rfl, fun E hE => ?_, fun x1 x2 x3 x4 x5 x6 x7 x8 x9 x10 x11 x12 x13 hu => ?_⟩
    · subst hE; exact (Option.some.inj h).symm
    · subst hu; exact h
theorem bx14_r {A1 A2 A3 A4 A5 A6 A7 A8 A9 A10 A11 A12 A13 A14 ρ : Type} {x : Option (String ⊕ (A1 × A2 × A3 × A4 × A5 × A6 × A7 × A8 × A9 × A10 × A11 × A12 × A13 × A14))} {k : A1 → A2 → A3 → A4 → A5 → A6 → A7 → A8 → A9 → A10 → A11 → A12 → A13 → A14 → Option (String ⊕ ρ)} {r : String ⊕ ρ} (h : bx14 x k = some r) : ∃ Rr : String ⊕ (A1 × A2 × A3 × A4 × A5 × A6 × A7 × A8 × A9 × A10 × A11 × A12 × A13 × A14), x = some Rr ∧ (∀ E, Rr = .inl E → r = .inl E) ∧ (∀ (x1 : A1) (x2 : A2) (x3 : A3) (x4 : A4) (x5 : A5) (x6 : A6) (x7 : A7) (x8 : A8) (x9 : A9) (x10 : A10) (x11 : A11) (x12 : A12) (x13 : A13) (x14 : A14), Rr = .inr (x1, x2, x3, x4, x5, x6, x7, x8, x9, x10, x11, x12, x13, x14) → k x1 x2 x3 x4 x5 x6 x7 x8 x9 x10 x11 x12 x13 x14 = some r) := by
  cases x with
  | none => cases h
  | some R =>
    refine ⟨R, rfl, fun E hE => ?_, fun x1 x2 x3 x4 x5 x6 x7 x8 x9 x10 x11 x12 x13 x14 hu => ?_⟩
    · subst hE; exact (Option.some.inj h).symm
    · subst hu; exact h
theorem bx15_r {A1 A2 A3 A4 A5 A6 A7 A8 A9 A10 A11 A12 A13 A14 A15 ρ : Type} {x : Option (String ⊕ (A1 × A2 × A3 × A4 × A5 × A6 × A7 × A8 × A9 × A10 × A11 × A12 × A13 × A14 × A15))} {k : A1 → A2 → A3 → A4 → A5 → A6 → A7 → A8 → A9 → A10 → A11 → A12 → A13 → A14 → A15 → Option (String ⊕ ρ)} {r : String ⊕ ρ} (h : bx15 x k = some r) : ∃ Rr : String ⊕ (A1 × A2 × A3 × A4 × A5 × A6 × A7 × A8 × A9 × A10 × A11 × A12 × A13 × A14 × A15), x = some Rr ∧ (∀ E, Rr = .inl E → r = .inl E) ∧ (∀ (x1 : A1) (x2 : A2) (x3 : A3) (x4 : A4) (x5 : A5) (x6 : A6) (x7 : A7) (x8 : A8) (x9 : A9) (x10 : A10) (x11 : A11) (x12 : A12) (x13 : A13) (x14 : A14) (x15 : A15), Rr = .inr (x1, x2, x3, x4, x5, x6, x7, x8, x9, x10, x11, x12, x13, x14, x15) → k x1 x2 x3 x4 x5 x6 x7 x8 x9 x10 x11 x12 x13 x14 x15 = some r) := by
  cases x with
  | none => cases h
  | some R =>
    refine ⟨R, rfl, fun E hE => ?_, fun x1 x2 x3 x4 x5 x6 x7 x8 x9 x10 x11 x12 x13 x14 x15 hu => ?_⟩
    · subst hE; exact (Option.some.inj h).symm
    · subst hu; exact h
theorem bx16_r {A1 A2 A3 A4 A5 A6 A7 A8 A9 A10 A11 A12 A13 A14 A15 A16 ρ : Type} {x : Option (String ⊕ (A1 × A2 × A3 × A4 × A5 × A6 × A7 × A8 × A9 × A10 × A11 × A12 × A13 × A14 × A15 × A16))} {k : A1 → A2 → A3 → A4 → A5 → A6 → A7 → A8 → A9 → A10 → A11 → A12 → A13 → A14 → A15 → A16 → Option (String ⊕ ρ)} {r : String ⊕ ρ} (h : bx16 x k = some r) : ∃ Rr : String ⊕ (A1 × A2 × A3 × A4 × A5 × A6 × A7 × A8 × A9 × A10 × A11 × A12 × A13 × A14 × A15 × A16), x = some Rr ∧ (∀ E, Rr = .inl E → r = .inl E) ∧ (∀ (x1 : A1) (x2 : A2) (x3 : A3) (x4 : A4) (x5 : A5) (x6 : A6) (x7 : A7) (x8 : A8) (x9 : A9) (x10 : A10) (x11 : A11) (x12 : A12) (x13 : A13) (x14 : A14) (x15 : A15) (x16 : A16), Rr = .inr (x1, x2, x3, x4, x5, x6, x7, x8, x9, x10, x11, x12, x13, x14, x15, x16) → k x1 x2 x3 x4 x5 x6 x7 x8 x9 x10 x11 x12 x13 x14 x15 x16 = some r) := by
  cases x with
  | none => cases h
  | some R =>
    refine ⟨R, rfl, fun E hE => ?_, fun x1 x2 x3 x4 x5 x6 x7 x8 x9 x10 x11 x12 x13 x14 x15 x16 hu => ?_⟩
    · subst hE; exact (Option.some.inj h).symm
    · subst hu; exact h
theorem bx17_r {A1 A2 A3 A4 A5 A6 A7 A8 A9 A10 A11 A12 A13 A14 A15 A16 A17 ρ : Type} {x : Option (String ⊕ (A1 × A2 × A3 × A4 × A5 × A6 × A7 × A8 × A9 × A10 × A11 × A12 × A13 × A14 × A15 × A16 × A17))} {k : A1 → A2 → A3 → A4 → A5 → A6 → A7 → A8 → A9 → A10 → A11 → A12 → A13 → A14 → A15 → A16 → A17 → Option (String ⊕ ρ)} {r : String ⊕ ρ} (h : bx17 x k = some r) : ∃ Rr : String ⊕ (A1 × A2 × A3 × A4 × A5 × A6 × A7 × A8 × A9 × A10 × A11 × A12 × A13 × A14 × A15 × A16 × A17), x = some Rr ∧ (∀ E, Rr = .inl E → r = .inl E) ∧ (∀ (x1 : A1) (x2 : A2) (x3 : A3) (x4 : A4) (x5 : A5) (x6 : A6) (x7 : A7) (x8 : A8) (x9 : A9) (x10 : A10) (x11 : A11) (x12 : A12) (x13 : A13) (x14 : A14) (x15 : A15) (x16 : A16) (x17 : A17), Rr = .inr (x1, x2, x3, x4, x5, x6, x7, x8, x9, x10, x11, x12, x13, x14, x15, x16, x17) → k x1 x2 x3 x4 x5 x6 x7 x8 x9 x10 x11 x12 x13 x14 x15 x16 x17 = some r) := by
  cases x with
  | none => cases h
  | some R =>
    refine ⟨R, rfl, fun E hE => ?_, fun x1 x2 x3 x4 x5 x6 x7 x8 x9 x10 x11 x12 x13 x14 x15 x16 x17 hu => ?_⟩
    · subst hE; exact (Option.some.inj h).symm
    · subst hu; exact h
theorem bx18_r {A1 A2 A3 A4 A5 A6 A7 A8 A9 A10 A11 A12 A13 A14 A15 A16 A17 A18 ρ : Type} {x : Option (String ⊕ (A1 × A2 × A3 × A4 × A5 × A6 × A7 × A8 × A9 × A10 × A11 × A12 × A13 × A14 × A15 × A16 × A17 × A18))} {k : A1 → A2 → A3 → A4 → A5 → A6 → A7 → A8 → A9 → A10 → A11 → A12 → A13 → A14 → A15 → A16 → A17 → A18 → Option (String ⊕ ρ)} {r : String ⊕ ρ} (h : bx18 x k = some r) : ∃ Rr : String ⊕ (A1 × A2 × A3 × A4 × A5 × A6 × A7 × A8 × A9 × A10 × A11 × A12 × A13 × A14 × A15 × A16 × A17 × A18), x = some Rr ∧ (∀ E, Rr = .inl E → r = .inl E) ∧ (∀ (x1 : A1) (x2 : A2) (x3 : A3) (x4 : A4) (x5 : A5) (x6 : A6) (x7 : A7) (x8 : A8) (x9 : A9) (x10 : A10) (x11 : A11) (x12 : A12) (x13 : A13) (x14 : A14) (x15 : A15) (x16 : A16) (x17 : A17) (x18 : A18), Rr = .inr (x1, x2, x3, x4, x5, x6, x7, x8, x9, x10, x11, x12, x13, x14, x15, x16, x17, x18) → k x1 x2 x3 x4 x5 x6 x7 x8 x9 x10 x11 x12 x13 x14 x15 x16 x17 x18 = some r) := by
  cases x with
  | none => cases h
  | some R =>
    refine ⟨R, rfl, fun E hE => ?_, fun x1 x2 x3 x4 x5 x6 x7 x8 x9 x10 x11 x12 x13 x14 x15 x16 x17 x18 hu => ?_⟩
    · subst hE; exact (Option.some.inj h).symm
    · subst hu; exact h
theorem bx19_r {A1 A2 A3 A4 A5 A6 A7 A8 A9 A10 A11 A12 A13 A14 A15 A16 A17 A18 A19 ρ : Type} {x : Option (String ⊕ (A1 × A2 × A3 × A4 × A5 × A6 × A7 × A8 × A9 × A10 × A11 × A12 × A13 × A14 × A15 × A16 × A17 × A18 × A19))} {k : A1 → A2 → A3 → A4 → A5 → A6 → A7 → A8 → A9 → A10 → A11 → A12 → A13 → A14 → A15 → A16 → A17 → A18 → A19 → Option (String ⊕ ρ)} {r : String ⊕ ρ} (h : bx19 x k = some r) : ∃ Rr : String ⊕ (A1 × A2 × A3 × A4 × A5 × A6 × A7 × A8 × A9 × A10 × A11 × A12 × A13 × A14 × A15 × A16 × A17 × A18 × A19), x = some Rr ∧ (∀ E, Rr = .inl E → r = .inl E) ∧ (∀ (x1 : A1) (x2 : A2) (x3 : A3) (x4 : A4) (x5 : A5) (x6 : A6) (x7 : A7) (x8 : A8) (x9 : A9) (x10 : A10) (x11 : A11) (x12 : A12) (x13 : A13) (x14 : A14) (x15 : A15) (x16 : A16) (x17 : A17) (x18 : A18) (x19 : A19), Rr = .inr (x1, x2, x3, x4, x5, x6, x7, x8, x9, x10, x11, x12, x13, x14, x15, x16, x17, x18, x19) → k x1 x2 x3 x4 x5 x6 x7 x8 x9 x10 x11 x12 x13 x14 x15 x16 x17 x18 x19 = some r) := by
  cases x with
  | none => cases h
  | some R =>
    refine ⟨R, rfl, fun E hE => ?_, fun x1 x2 x3 x4 x5 x6 x7 x8 x9 x10 x11 x12 x13 x14 x15 x16 x17 x18 x19 hu => ?_⟩
    · subst hE; exact (Option.some.inj h).symm
    · subst hu; exact h
theorem bx20_r {A1 A2 A3 A4 A5 A6 A7 A8 A9 A10 A11 A12 A13 A14 A15 A16 A17 A18 A19 A20 ρ : Type} {x : Option (String ⊕ (A1 × A2 × A3 × A4 × A5 × A6 × A7 × A8 × A9 × A10 × A11 × A12 × A13 × A14 × A15 × A16 × A17 × A18 × A19 × A20))} {k : A1 → A2 → A3 → A4 → A5 → A6 → A7 → A8 → A9 → A10 → A11 → A12 → A13 → A14 → A15 → A16 → A17 → A18 → A19 → A20 → Option (String ⊕ ρ)} {r : String ⊕ ρ} (h : bx20 x k = some r) : ∃ Rr : String ⊕ (A1 × A2 × A3 × A4 × A5 × A6 × A7 × A8 × A9 × A10 × A11 × A12 × A13 × A14 × A15 × A16 × A17 × A18 × A19 × A20), x = some Rr ∧ (∀ E, Rr = .inl E → r = .inl E) ∧ (∀ (x1 : A1) (x2 : A2) (x3 : A3) (x4 : A4) (x5 : A5) (x6 : A6) (x7 : A7) (x8 : A8) (x9 : A9) (x10 : A10) (x11 : A11) (x12 : A12) (x13 : A13) (x14 : A14) (x15 : A15) (x16 : A16) (x17 : A17) (x18 : A18) (x19 : A19) (x20 : A20), Rr = .inr (x1, x2, x3, x4, x5, x6, x7, x8, x9, x10, x11, x12, x13, x14, x15, x16, x17, x18, x19, x20) → k x1 x2 x3 x4 x5 x6 x7 x8 x9 x10 x11 x12 x13 x14 x15 x16 x17 x18 x19 x20 = some r) := by
  cases x with
  | none => cases h
  | some R =>
    refine ⟨R, rfl, fun E hE => ?_, fun x1 x2 x3 x4 x5 x6 x7 x8 x9 x10 x11 x12 x13 x14 x15 x16 x17 x18 x19 x20 hu => ?_⟩
    · subst hE; exact (Option.some.inj h).symm
    · subst hu; exact h
theorem bx21_r {A1 A2 A3 A4 A5 A6 A7 A8 A9 A10 A11 A12 A13 A14 A15 A16 A17 A18 A19 A20 A21 ρ : Type} {x : Option (String ⊕ (A1 × A2 × A3 × A4 × A5 × A6 × A7 × A8 × A9 × A10 × A11 × A12 × A13 × A14 × A15 × A16 × A17 × A18 × A19 × A20 × A21))} {k : A1 → A2 → A3 → A4 → A5 → A6 → A7 → A8 → A9 → A10 → A11 → A12 → A13 → A14 → A15 → A16 → A17 → A18 → A19 → A20 → A21 → Option (String ⊕ ρ)} {r : String ⊕ ρ} (h : bx21 x k = some r) : ∃ Rr : String ⊕ (A1 × A2 × A3 × A4 × A5 × A6 × A7 × A8 × A9 × A10 × A11 × A12 × A13 × A14 × A15 × A16 × A17 × A18 × A19 × A20 × A21), x = some Rr ∧ (∀ E, Rr = .inl E → r = .inl E) ∧ (∀ (x1 : A1) (x2 : A2) (x3 : A3) (x4 : A4) (x5 : A5) (x6 : A6) (x7 : A7) (x8 : A8) (x9 : A9) (x10 : A10) (x11 : A11) (x12 : A12) (x13 : A13) (x14 : A14) (x15 : A15) (x16 : A16) (x17 : A17) (x18 : A18) (x19 : A19) (x20 : A20) (x21 : A21), Rr = .inr (x1, x2, x3, x4, x5, x6, x7, x8, x9, x10, x11, x12, x13, x14, x15, x16, x17, x18, x19, x20, x21) → k x1 x2 x3 x4 x5 x6 x7 x8 x9 x10 x11 x12 x13 x14 x15 x16 x17 x18 x19 x20 x21 = some r) := by
  cases x with
  | none => cases h
  | some R =>
    refine ⟨R, rfl, fun E hE => ?_, fun x1 x2 x3 x4 x5 x6 x7 x8 x9 x10 x11 x12 x13 x14 x15 x16 x17 x18 x19 x20 x21 hu => ?_⟩
    · subst hE; exact (Option.some.inj h).symm
    · subst hu; exact h
theorem bx22_r {A1 A2 A3 A4 A5 A6 A7 A8 A9 A10 A11 A12 A13 A14 A15 A16 A17 A18 A19 A20 A21 A22 ρ : Type} {x : Option (String ⊕ (A1 × A2 × A3 × A4 × A5 × A6 × A7 × A8 × A9 × A10 × A11 × A12 × A13 × A14 × A15 × A16 × A17 × A18 × A19 × A20 × A21 × A22))} {k : A1 → A2 → A3 → A4 → A5 → A6 → A7 → A8 → A9 → A10 → A11 → A12 → A13 → A14 → A15 → A16 → A17 → A18 → A19 → A20 → A21 → A22 → Option (String ⊕ ρ)} {r : String ⊕ ρ} (h : bx22 x k = some r) : ∃ Rr : String ⊕ (A1 × A2 × A3 × A4 × A5 × A6 × A7 × A8 × A9 × A10 × A11 × A12 × A13 × A14 × A15 × A16 × A17 × A18 × A19 × A20 × A21 × A22), x = some Rr ∧ (∀ E, Rr = .inl E → r = .inl E) ∧ (∀ (x1 : A1) (x2 : A2) (x3 : A3) (x4 : A4) (x5 : A5) (x6 : A6) (x7 : A7) (x8 : A8) (x9 : A9) (x10 : A10) (x11 : A11) (x12 : A12) (x13 : A13) (x14 : A14) (x15 : A15) (x16 : A16) (x17 : A17) (x18 : A18) (x19 : A19) (x20 : A20) (x21 : A21) (x22 : A22), Rr = .inr (x1, x2, x3, x4, x5, x6, x7, x8, x9, x10, x11, x12, x13, x14, x15, x16, x17, x18, x19, x20, x21, x22) → k x1 x2 x3 x4 x5 x6 x7 x8 x9 x10 x11 x12 x13 x14 x15 x16 x17 x18 x19 x20 x21 x22 = some r) := by
  cases x with
  | none => cases h
  | some R =>
    refine ⟨R, rfl, fun E hE => ?_, fun x1 x2 x3 x4 x5 x6 x7 x8 x9 x10 x11 x12 x13 x14 x15 x16 x17 x18 x19 x20 x21 x22 hu => ?_⟩
    · subst hE; exact (Option.some.inj h).symm
    · subst hu; exact h
theorem bx23_r {A1 A2 A3 A4 A5 A6 A7 A8 A9 A10 A11 A12 A13 A14 A15 A16 A17 A18 A19 A20 A21 A22 A23 ρ : Type} {x : Option (String ⊕ (A1 × A2 × A3 × A4 × A5 × A6 × A7 × A8 × A9 × A10 × A11 × A12 × A13 × A14 × A15 × A16 × A17 × A18 × A19 × A20 × A21 × A22 × A23))} {k : A1 → A2 → A3 → A4 → A5 → A6 → A7 → A8 → A9 → A10 → A11 → A12 → A13 → A14 → A15 → A16 → A17 → A18 → A19 → A20 → A21 → A22 → A23 → Option (String ⊕ ρ)} {r : String ⊕ ρ} (h : bx23 x k = some r) : ∃ Rr : String ⊕ (A1 × A2 × A3 × A4 × A5 × A6 × A7 × A8 × A9 × A10 × A11 × A12 × A13 × A14 × A15 × A16 × A17 × A18 × A19 × A20 × A21 × A22 × A23), x = some Rr ∧ (∀ E, Rr = .inl E → r = .inl E) ∧ (∀ (x1 : A1) (x2 : A2) (x3 : A3) (x4 : A4) (x5 : A5) (x6 : A6) (x7 : A7) (x8 : A8) (x9 : A9) (x10 : A10) (x11 : A11) (x12 : A12) (x13 : A13) (x14 : A14) (x15 : A15) (x16 : A16) (x17 : A17) (x18 : A18) (x19 : A19) (x20 : A20) (x21 : A21) (x22 : A22) (x23 : A23), Rr = .inr (x1, x2, x3, x4, x5, x6, x7, x8, x9, x10, x11, x12, x13, x14, x15, x16, x17, x18, x19, x20, x21, x22, x23) → k x1 x2 x3 x4 x5 x6 x7 x8 x9 x10 x11 x12 x13 x14 x15 x16 x17 x18 x19 x20 x21 x22 x23 = some r) := by
  cases x with
  | none => cases h
  | some R =>
    refine ⟨R, rfl, fun E hE => ?_, fun x1 x2 x3 x4 x5 x6 x7 x8 x9 x10 x11 x12 x13 x14 x15 x16 x17 x18 x19 x20 x21 x22 x23 hu => ?_⟩
    · subst hE; exact (Option.some.inj h).symm
    · subst hu; exact h
theorem bx24_r {A1 A2 A3 A4 A5 A6 A7 A8 A9 A10 A11 A12 A13 A14 A15 A16 A17 A18 A19 A20 A21 A22 A23 A24 ρ : Type} {x : Option (String ⊕ (A1 × A2 × A3 × A4 × A5 × A6 × A7 × A8 × A9 × A10 × A11 × A12 × A13 × A14 × A15 × A16 × A17 × A18 × A19 × A20 × A21 × A22 × A23 × A24))} {k : A1 → A2 → A3 → A4 → A5 → A6 → A7 → A8 → A9 → A10 → A11 → A12 → A13 → A14 → A15 → A16 → A17 → A18 → A19 → A20 → A21 → A22 → A23 → A24 → Option (String ⊕ ρ)} {r : String ⊕ ρ} (h : bx24 x k = some r) : ∃ Rr : String ⊕ (A1 × A2 × A3 × A4 × A5 × A6 × A7 × A8 × A9 × A10 × A11 × A12 × A13 × A14 × A15 × A16 × A17 × A18 × A19 × A20 × A21 × A22 × A23 × A24), x = some Rr ∧ (∀ E, Rr = .inl E → r = .inl E) ∧ (∀ (x1 : A1) (x2 : A2) (x3 : A3) (x4 : A4) (x5 : A5) (x6 : A6) (x7 : A7) (x8 : A8) (x9 : A9) (x10 : A10) (x11 : A11) (x12 : A12) (x13 : A13) (x14 : A14) (x15 : A15) (x16 : A16) (x17 : A17) (x18 : A18) (x19 : A19) (x20 : A20) (x21 : A21) (x22 : A22) (x23 : A23) (x24 : A24), Rr = .inr (x1, x2, x3, x4, x5, x6, x7, x8, x9, x10, x11, x12, x13, x14, x15, x16, x17, x18, x19, x20, x21, x22, x23, x24) → k x1 x2 x3 x4 x5 x6 x7 x8 x9 x10 x11 x12 x13 x14 x15 x16 x17 x18 x19 x20 x21 x22 x23 x24 = some r) := by
  cases x with
  | none => cases h
  | some R =>
    refine ⟨R, rfl, fun E hE => ?_, fun x1 x2 x3 x4 x5 x6 x7 x8 x9 x10 x11 x12 x13 x14 x15 x16 x17 x18 x19 x20 x21 x22 x23 x24 hu => ?_⟩
    · subst hE; exact (Option.some.inj h).symm
    · subst hu; exact h
theorem bx25_r {A1 A2 A3 A4 A5 A6 A7 A8 A9 A10 A11 A12 A13 A14 A15 A16 A17 A18 A19 A20 A21 A22 A23 A24 A25 ρ : Type} {x : Option (String ⊕ (A1 × A2 × A3 × A4 × A5 × A6 × A7 × A8 × A9 × A10 × A11 × A12 × A13 × A14 × A15 × A16 × A17 × A18 × A19 × A20 × A21 × A22 × A23 × A24 × A25))} {k : A1 → A2 → A3 → A4 → A5 → A6 → A7 → A8 → A9 → A10 → A11 → A12 → A13 → A14 → A15 → A16 → A17 → A18 → A19 → A20 → A21 → A22 → A23 → A24 → A25 → Option (String ⊕ ρ)} {r : String ⊕ ρ} (h : bx25 x k = some r) : ∃ Rr : String ⊕ (A1 × A2 × A3 × A4 × A5 × A6 × A7 × A8 × A9 × A10 × A11 × A12 × A13 × A14 × A15 × A16 × A17 × A18 × A19 × A20 × A21 × A22 × A23 × A24 × A25), x = some Rr ∧ (∀ E, Rr = .inl E → r = .inl E) ∧ (∀ (x1 : A1) (x2 : A2) (x3 : A3) (x4 : A4) (x5 : A5) (x6 : A6) (x7 : A7) (x8 : A8) (x9 : A9) (x10 : A10) (x11 : A11) (x12 : A12) (x13 : A13) (x14 : A14) (x15 : A15) (x16 : A16) (x17 : A17) (x18 : A18) (x19 : A19) (x20 : A20) (x21 : A21) (x22 : A22) (x23 : A23) (x24 : A24) (x25 : A25), Rr = .inr (x1, x2, x3, x4, x5, x6, x7, x8, x9, x10, x11, x12, x13, x14, x15, x16, x17, x18, x19, x20, x21, x22, x23, x24, x25) → k x1 x2 x3 x4 x5 x6 x7 x8 x9 x10 x11 x12 x13 x14 x15 x16 x17 x18 x19 x20 x21 x22 x23 x24 x25 = some r) := by
  cases x with
  | none => cases h
  | some R =>
    refine ⟨R, rfl, fun E hE => ?_, fun x1 x2 x3 x4 x5 x6 x7 x8 x9 x10 x11 x12 x13 x14 x15 x16 x17 x18 x19 x20 x21 x22 x23 x24 x25 hu => ?_⟩
    · subst hE; exact (Option.some.inj h).symm
    · subst hu; exact h
theorem bx26_r {A1 A2 A3 A4 A5 A6 A7 A8 A9 A10 A11 A12 A13 A14 A15 A16 A17 A18 A19 A20 A21 A22 A23 A24 A25 A26 ρ : Type} {x : Option (String ⊕ (A1 × A2 × A3 × A4 × A5 × A6 × A7 × A8 × A9 × A10 × A11 × A12 × A13 × A14 × A15 × A16 × A17 × A18 × A19 × A20 × A21 × A22 × A23 × A24 × A25 × A26))} {k : A1 → A2 → A3 → A4 → A5 → A6 → A7 → A8 → A9 → A10 → A11 → A12 → A13 → A14 → A15 → A16 → A17 → A18 → A19 → A20 → A21 → A22 → A23 → A24 → A25 → A26 → Option (String ⊕ ρ)} {r : String ⊕ ρ} (h : bx26 x k = some r) : ∃ Rr : String ⊕ (A1 × A2 × A3 × A4 × A5 × A6 × A7 × A8 × A9 × A10 × A11 × A12 × A13 × A14 × A15 × A16 × A17 × A18 × A19 × A20 × A21 × A22 × A23 × A24 × A25 × A26), x = some Rr ∧ (∀ E, Rr = .inl E → r = .inl E) ∧ (∀ (x1 : A1) (x2 : A2) (x3 : A3) (x4 : A4) (x5 : A5) (x6 : A6) (x7 : A7) (x8 : A8) (x9 : A9) (x10 : A10) (x11 : A11) (x12 : A12) (x13 : A13) (x14 : A14) (x15 : A15) (x16 : A16) (x17 : A17) (x18 : A18) (x19 : A19) (x20 : A20) (x21 : A21) (x22 : A22) (x23 : A23) (x24 : A24) (x25 : A25) (x26 : A26), Rr = .inr (x1, x2, x3, x4, x5, x6, x7, x8, x9, x10, x11, x12, x13, x14, x15, x16, x17, x18, x19, x20, x21, x22, x23, x24, x25, x26) → k x1 x2 x3 x4 x5 x6 x7 x8 x9 x10 x11 x12 x13 x14 x15 x16 x17 x18 x19 x20 x21 x22 x23 x24 x25 x26 = some r) := by
  cases x with
  | none => cases h
  | some R =>
    refine ⟨R, rfl, fun E hE => ?_, fun x1 x2 x3 x4 x5 x6 x7 x8 x9 x10 x11 x12 x13 x14 x15 x16 x17 x18 x19 x20 x21 x22 x23 x24 x25 x26 hu => ?_⟩
    · subst hE; exact (Option.some.inj h).symm
    · subst hu; exact h
theorem go_RX4_125 (ik : Nat) : ∀ w ∈ Cond.classLink RX4 ik "java/lang/IndexOutOfBoundsException" :: Cond.initialized "java/lang/IndexOutOfBoundsException" :: vx_atS RX4 125 "java/lang/IndexOutOfBoundsException" ["java/lang/RuntimeException", "java/lang/Exception"], vx_ot w = true := List.forall_mem_cons.mpr ⟨rfl, by decide +kernel⟩
theorem go_RX4_70 (ik : Nat) : ∀ w ∈ Cond.classLink RX4 ik "java/lang/IllegalArgumentException" :: Cond.initialized "java/lang/IllegalArgumentException" :: vx_atS RX4 70 "java/lang/IllegalArgumentException" ["java/lang/RuntimeException", "java/lang/Exception"], vx_ot w = true := List.forall_mem_cons.mpr ⟨rfl, by decide +kernel⟩
theorem go_RX4_56 (ik : Nat) : ∀ w ∈ Cond.classLink RX4 ik "java/lang/IllegalStateException" :: Cond.initialized "java/lang/IllegalStateException" :: vx_atS RX4 56 "java/lang/IllegalStateException" ["java/lang/RuntimeException", "java/lang/Exception"], vx_ot w = true := List.forall_mem_cons.mpr ⟨rfl, by decide +kernel⟩
theorem go_RX4_225 (ik : Nat) : ∀ w ∈ Cond.classLink RX4 ik "java/util/NoSuchElementException" :: Cond.initialized "java/util/NoSuchElementException" :: vx_atS RX4 225 "java/util/NoSuchElementException" ["java/lang/RuntimeException", "java/lang/Exception"], vx_ot w = true := List.forall_mem_cons.mpr ⟨rfl, by decide +kernel⟩
end
section
theorem zz_t1 : ((vx_atS RX4 56 "java/lang/IllegalStateException" ["java/lang/RuntimeException", "java/lang/Exception"]).filter (fun w => !goodWord w)) = [] := by decide +kernel
end
