section
-- ===== PART A: goes FIRST, ahead of the names: the tables' words, and 'selects' of the private methods out of them =====
/-- a private method of a class that the tables say can be made, by its rows of tables_1 -/
def lw_okq (q : MethodName × Nat) : Prop := (q.1.cls ≠ "java/lang/invoke/MethodHandle" ∧ q.1.cls ≠ "java/lang/invoke/VarHandle") ∧ Cond.instantiable q.1.cls q.2 ∈ tables_1 ∧ Cond.privateMethod q.1 ∈ tables_1 ∧ Cond.instanceMethod q.1 ∈ tables_1
theorem lw_p0 : lw_okq (⟨"java/lang/Throwable", "fillInStackTrace", "(I)Ljava/lang/Throwable;"⟩, 6) := ⟨⟨by decide +kernel, by decide +kernel⟩, List.mem_of_getElem? (i := 212) (by decide +kernel), List.mem_of_getElem? (i := 210) (by decide +kernel), List.mem_of_getElem? (i := 211) (by decide +kernel)⟩
theorem lw_p1 : lw_okq (⟨"StateLogic", "requirePattern", "(II)V"⟩, 2) := ⟨⟨by decide +kernel, by decide +kernel⟩, List.mem_of_getElem? (i := 18) (by decide +kernel), List.mem_of_getElem? (i := 255) (by decide +kernel), List.mem_of_getElem? (i := 256) (by decide +kernel)⟩
theorem lw_p2 : lw_okq (⟨"StateLogic", "requireFormula", "(I)V"⟩, 2) := ⟨⟨by decide +kernel, by decide +kernel⟩, List.mem_of_getElem? (i := 18) (by decide +kernel), List.mem_of_getElem? (i := 316) (by decide +kernel), List.mem_of_getElem? (i := 317) (by decide +kernel)⟩
theorem lw_p3 : lw_okq (⟨"StateLogic", "requireState", "(I)V"⟩, 2) := ⟨⟨by decide +kernel, by decide +kernel⟩, List.mem_of_getElem? (i := 18) (by decide +kernel), List.mem_of_getElem? (i := 336) (by decide +kernel), List.mem_of_getElem? (i := 337) (by decide +kernel)⟩
theorem lw_p4 : lw_okq (⟨"StateLogic$Formulas", "want", "(I)V"⟩, 10) := ⟨⟨by decide +kernel, by decide +kernel⟩, List.mem_of_getElem? (i := 82) (by decide +kernel), List.mem_of_getElem? (i := 345) (by decide +kernel), List.mem_of_getElem? (i := 346) (by decide +kernel)⟩
theorem lw_p5 : lw_okq (⟨"StateLogic$Formulas", "evaluate", "(I)V"⟩, 10) := ⟨⟨by decide +kernel, by decide +kernel⟩, List.mem_of_getElem? (i := 82) (by decide +kernel), List.mem_of_getElem? (i := 349) (by decide +kernel), List.mem_of_getElem? (i := 350) (by decide +kernel)⟩
theorem lw_p6 : lw_okq (⟨"StateLogic$Formulas", "evaluateAtom", "(I)V"⟩, 10) := ⟨⟨by decide +kernel, by decide +kernel⟩, List.mem_of_getElem? (i := 82) (by decide +kernel), List.mem_of_getElem? (i := 357) (by decide +kernel), List.mem_of_getElem? (i := 358) (by decide +kernel)⟩
theorem lw_p7 : lw_okq (⟨"StateLogic$Formulas", "evaluateWords", "(I)V"⟩, 10) := ⟨⟨by decide +kernel, by decide +kernel⟩, List.mem_of_getElem? (i := 82) (by decide +kernel), List.mem_of_getElem? (i := 362) (by decide +kernel), List.mem_of_getElem? (i := 363) (by decide +kernel)⟩
theorem lw_p8 : lw_okq (⟨"StateLogic$Formulas", "evaluateNext", "(I)V"⟩, 10) := ⟨⟨by decide +kernel, by decide +kernel⟩, List.mem_of_getElem? (i := 82) (by decide +kernel), List.mem_of_getElem? (i := 367) (by decide +kernel), List.mem_of_getElem? (i := 368) (by decide +kernel)⟩
theorem lw_p9 : lw_okq (⟨"StateLogic$Formulas", "evaluateUntil", "(I)V"⟩, 10) := ⟨⟨by decide +kernel, by decide +kernel⟩, List.mem_of_getElem? (i := 82) (by decide +kernel), List.mem_of_getElem? (i := 375) (by decide +kernel), List.mem_of_getElem? (i := 376) (by decide +kernel)⟩
theorem lw_p10 : lw_okq (⟨"StateLogic$Formulas", "putFound", "(I)V"⟩, 10) := ⟨⟨by decide +kernel, by decide +kernel⟩, List.mem_of_getElem? (i := 82) (by decide +kernel), List.mem_of_getElem? (i := 418) (by decide +kernel), List.mem_of_getElem? (i := 419) (by decide +kernel)⟩
theorem lw_p11 : lw_okq (⟨"StateLogic$Formulas", "evaluateAgain", "(I)V"⟩, 10) := ⟨⟨by decide +kernel, by decide +kernel⟩, List.mem_of_getElem? (i := 82) (by decide +kernel), List.mem_of_getElem? (i := 422) (by decide +kernel), List.mem_of_getElem? (i := 423) (by decide +kernel)⟩
theorem lw_p12 : lw_okq (⟨"StateLogic$Formulas", "evaluateRing", "(II)V"⟩, 10) := ⟨⟨by decide +kernel, by decide +kernel⟩, List.mem_of_getElem? (i := 82) (by decide +kernel), List.mem_of_getElem? (i := 432) (by decide +kernel), List.mem_of_getElem? (i := 433) (by decide +kernel)⟩
theorem lw_p13 : lw_okq (⟨"StateLogic", "requireUntil", "(I)V"⟩, 2) := ⟨⟨by decide +kernel, by decide +kernel⟩, List.mem_of_getElem? (i := 18) (by decide +kernel), List.mem_of_getElem? (i := 466) (by decide +kernel), List.mem_of_getElem? (i := 467) (by decide +kernel)⟩
theorem lw_p14 : lw_okq (⟨"StateLogic$Formulas", "nearerState", "(I)I"⟩, 10) := ⟨⟨by decide +kernel, by decide +kernel⟩, List.mem_of_getElem? (i := 82) (by decide +kernel), List.mem_of_getElem? (i := 503) (by decide +kernel), List.mem_of_getElem? (i := 504) (by decide +kernel)⟩
theorem lw_p15 : lw_okq (⟨"StateLogicModel", "refuse", "(ZZZ)Z"⟩, 16) := ⟨⟨by decide +kernel, by decide +kernel⟩, List.mem_of_getElem? (i := 515) (by decide +kernel), List.mem_of_getElem? (i := 578) (by decide +kernel), List.mem_of_getElem? (i := 579) (by decide +kernel)⟩
def lw_privs_1 : List (MethodName × Nat) := [(⟨"java/lang/Throwable", "fillInStackTrace", "(I)Ljava/lang/Throwable;"⟩, 6), (⟨"StateLogic", "requirePattern", "(II)V"⟩, 2), (⟨"StateLogic", "requireFormula", "(I)V"⟩, 2), (⟨"StateLogic", "requireState", "(I)V"⟩, 2), (⟨"StateLogic$Formulas", "want", "(I)V"⟩, 10), (⟨"StateLogic$Formulas", "evaluate", "(I)V"⟩, 10), (⟨"StateLogic$Formulas", "evaluateAtom", "(I)V"⟩, 10), (⟨"StateLogic$Formulas", "evaluateWords", "(I)V"⟩, 10), (⟨"StateLogic$Formulas", "evaluateNext", "(I)V"⟩, 10), (⟨"StateLogic$Formulas", "evaluateUntil", "(I)V"⟩, 10), (⟨"StateLogic$Formulas", "putFound", "(I)V"⟩, 10), (⟨"StateLogic$Formulas", "evaluateAgain", "(I)V"⟩, 10), (⟨"StateLogic$Formulas", "evaluateRing", "(II)V"⟩, 10), (⟨"StateLogic", "requireUntil", "(I)V"⟩, 2), (⟨"StateLogic$Formulas", "nearerState", "(I)I"⟩, 10), (⟨"StateLogicModel", "refuse", "(ZZZ)Z"⟩, 16)]
theorem lw_r1 : ∀ q ∈ lw_privs_1, lw_okq q := List.forall_mem_cons.mpr ⟨lw_p0, List.forall_mem_cons.mpr ⟨lw_p1, List.forall_mem_cons.mpr ⟨lw_p2, List.forall_mem_cons.mpr ⟨lw_p3, List.forall_mem_cons.mpr ⟨lw_p4, List.forall_mem_cons.mpr ⟨lw_p5, List.forall_mem_cons.mpr ⟨lw_p6, List.forall_mem_cons.mpr ⟨lw_p7, List.forall_mem_cons.mpr ⟨lw_p8, List.forall_mem_cons.mpr ⟨lw_p9, List.forall_mem_cons.mpr ⟨lw_p10, List.forall_mem_cons.mpr ⟨lw_p11, List.forall_mem_cons.mpr ⟨lw_p12, List.forall_mem_cons.mpr ⟨lw_p13, List.forall_mem_cons.mpr ⟨lw_p14, List.forall_mem_cons.mpr ⟨lw_p15, fun _ h => absurd h List.not_mem_nil⟩⟩⟩⟩⟩⟩⟩⟩⟩⟩⟩⟩⟩⟩⟩⟩
theorem lw_p16 : lw_okq (⟨"StateLogicModel", "isTest", "(II)Z"⟩, 16) := ⟨⟨by decide +kernel, by decide +kernel⟩, List.mem_of_getElem? (i := 515) (by decide +kernel), List.mem_of_getElem? (i := 586) (by decide +kernel), List.mem_of_getElem? (i := 587) (by decide +kernel)⟩
theorem lw_p17 : lw_okq (⟨"StateLogicModel", "isState", "(I)Z"⟩, 16) := ⟨⟨by decide +kernel, by decide +kernel⟩, List.mem_of_getElem? (i := 515) (by decide +kernel), List.mem_of_getElem? (i := 590) (by decide +kernel), List.mem_of_getElem? (i := 591) (by decide +kernel)⟩
theorem lw_p18 : lw_okq (⟨"StateLogicModel", "isFormula", "(I)Z"⟩, 16) := ⟨⟨by decide +kernel, by decide +kernel⟩, List.mem_of_getElem? (i := 515) (by decide +kernel), List.mem_of_getElem? (i := 598) (by decide +kernel), List.mem_of_getElem? (i := 599) (by decide +kernel)⟩
theorem lw_p19 : lw_okq (⟨"StateLogicModel", "know", "(I)V"⟩, 16) := ⟨⟨by decide +kernel, by decide +kernel⟩, List.mem_of_getElem? (i := 515) (by decide +kernel), List.mem_of_getElem? (i := 606) (by decide +kernel), List.mem_of_getElem? (i := 607) (by decide +kernel)⟩
theorem lw_p20 : lw_okq (⟨"StateLogicModel", "workOut", "(I)V"⟩, 16) := ⟨⟨by decide +kernel, by decide +kernel⟩, List.mem_of_getElem? (i := 515) (by decide +kernel), List.mem_of_getElem? (i := 610) (by decide +kernel), List.mem_of_getElem? (i := 611) (by decide +kernel)⟩
theorem lw_p21 : lw_okq (⟨"StateLogicModel", "always", "(II)V"⟩, 16) := ⟨⟨by decide +kernel, by decide +kernel⟩, List.mem_of_getElem? (i := 515) (by decide +kernel), List.mem_of_getElem? (i := 614) (by decide +kernel), List.mem_of_getElem? (i := 615) (by decide +kernel)⟩
theorem lw_p22 : lw_okq (⟨"StateLogicModel", "has", "(II)Z"⟩, 16) := ⟨⟨by decide +kernel, by decide +kernel⟩, List.mem_of_getElem? (i := 515) (by decide +kernel), List.mem_of_getElem? (i := 618) (by decide +kernel), List.mem_of_getElem? (i := 619) (by decide +kernel)⟩
theorem lw_p23 : lw_okq (⟨"StateLogicModel", "goesInto", "(I[ZI)Z"⟩, 16) := ⟨⟨by decide +kernel, by decide +kernel⟩, List.mem_of_getElem? (i := 515) (by decide +kernel), List.mem_of_getElem? (i := 622) (by decide +kernel), List.mem_of_getElem? (i := 623) (by decide +kernel)⟩
theorem lw_p24 : lw_okq (⟨"StateLogicModel", "goes", "(II)I"⟩, 16) := ⟨⟨by decide +kernel, by decide +kernel⟩, List.mem_of_getElem? (i := 515) (by decide +kernel), List.mem_of_getElem? (i := 626) (by decide +kernel), List.mem_of_getElem? (i := 627) (by decide +kernel)⟩
theorem lw_p25 : lw_okq (⟨"StateLogicModel", "again", "(III)V"⟩, 16) := ⟨⟨by decide +kernel, by decide +kernel⟩, List.mem_of_getElem? (i := 515) (by decide +kernel), List.mem_of_getElem? (i := 630) (by decide +kernel), List.mem_of_getElem? (i := 631) (by decide +kernel)⟩
theorem lw_p26 : lw_okq (⟨"StateLogicModel", "until", "(I)V"⟩, 16) := ⟨⟨by decide +kernel, by decide +kernel⟩, List.mem_of_getElem? (i := 515) (by decide +kernel), List.mem_of_getElem? (i := 634) (by decide +kernel), List.mem_of_getElem? (i := 635) (by decide +kernel)⟩
theorem lw_p27 : lw_okq (⟨"StateLogicModel", "simple", "(II)Z"⟩, 16) := ⟨⟨by decide +kernel, by decide +kernel⟩, List.mem_of_getElem? (i := 515) (by decide +kernel), List.mem_of_getElem? (i := 638) (by decide +kernel), List.mem_of_getElem? (i := 639) (by decide +kernel)⟩
theorem lw_p28 : lw_okq (⟨"StateLogicModel", "measure", "(I)V"⟩, 16) := ⟨⟨by decide +kernel, by decide +kernel⟩, List.mem_of_getElem? (i := 515) (by decide +kernel), List.mem_of_getElem? (i := 654) (by decide +kernel), List.mem_of_getElem? (i := 655) (by decide +kernel)⟩
def lw_privs_2 : List (MethodName × Nat) := [(⟨"StateLogicModel", "isTest", "(II)Z"⟩, 16), (⟨"StateLogicModel", "isState", "(I)Z"⟩, 16), (⟨"StateLogicModel", "isFormula", "(I)Z"⟩, 16), (⟨"StateLogicModel", "know", "(I)V"⟩, 16), (⟨"StateLogicModel", "workOut", "(I)V"⟩, 16), (⟨"StateLogicModel", "always", "(II)V"⟩, 16), (⟨"StateLogicModel", "has", "(II)Z"⟩, 16), (⟨"StateLogicModel", "goesInto", "(I[ZI)Z"⟩, 16), (⟨"StateLogicModel", "goes", "(II)I"⟩, 16), (⟨"StateLogicModel", "again", "(III)V"⟩, 16), (⟨"StateLogicModel", "until", "(I)V"⟩, 16), (⟨"StateLogicModel", "simple", "(II)Z"⟩, 16), (⟨"StateLogicModel", "measure", "(I)V"⟩, 16)]
theorem lw_r2 : ∀ q ∈ lw_privs_2, lw_okq q := List.forall_mem_cons.mpr ⟨lw_p16, List.forall_mem_cons.mpr ⟨lw_p17, List.forall_mem_cons.mpr ⟨lw_p18, List.forall_mem_cons.mpr ⟨lw_p19, List.forall_mem_cons.mpr ⟨lw_p20, List.forall_mem_cons.mpr ⟨lw_p21, List.forall_mem_cons.mpr ⟨lw_p22, List.forall_mem_cons.mpr ⟨lw_p23, List.forall_mem_cons.mpr ⟨lw_p24, List.forall_mem_cons.mpr ⟨lw_p25, List.forall_mem_cons.mpr ⟨lw_p26, List.forall_mem_cons.mpr ⟨lw_p27, List.forall_mem_cons.mpr ⟨lw_p28, fun _ h => absurd h List.not_mem_nil⟩⟩⟩⟩⟩⟩⟩⟩⟩⟩⟩⟩⟩
def lw_privs : List (MethodName × Nat) := lw_privs_1 ++ (lw_privs_2)
def lw_tbl : List Cond := k2_sels lw_privs ++ tables_1
theorem lw_privs_ok : ∀ q ∈ lw_privs, lw_okq q := by
  show ∀ q ∈ lw_privs_1 ++ (lw_privs_2), lw_okq q
  exact List.forall_mem_append.mpr ⟨lw_r1, lw_r2⟩
end
section
/-! ===== BEGIN words of one list among another's, by their places ===== -/
theorem goodIn_r {big : List Cond} (ws : List Cond) (ps : List Nat) (hp : ws = ps.filterMap (fun i => big[i]?)) (h : ws.all goodWord = true) : GoodIn big ws := by
  intro w hw
  have h1 := List.all_eq_true.mp h w hw
  rw [hp] at hw
  obtain ⟨i, -, hi⟩ := List.mem_filterMap.mp hw
  have hm : w ∈ big := by first | exact List.mem_of_getElem? hi | exact List.getElem?_mem hi
  exact ⟨hm, good_of_word h1⟩
theorem goodIn_app {big a b : List Cond} (ha : GoodIn big a) (hb : GoodIn big b) : GoodIn big (a ++ b) := fun w h => (List.mem_append.mp h).elim (ha w) (hb w)
theorem goodIn_ca {big a b : List Cond} {c : Cond} (ha : GoodIn big (c :: a)) (hb : GoodIn big b) : GoodIn big (c :: (a ++ b)) := fun w h => (List.mem_cons.mp h).elim (fun e => ha w (List.mem_cons.mpr (Or.inl e))) (fun h => (List.mem_append.mp h).elim (fun h => ha w (List.mem_cons.mpr (Or.inr h))) (hb w))
theorem goodIn_sub {big ws : List Cond} (hm : ∀ w ∈ ws, w ∈ big) (h : ws.all goodWord = true) : GoodIn big ws := fun w hw => ⟨hm w hw, good_of_word (List.all_eq_true.mp h w hw)⟩
/-! ===== END ===== -/

/-! ===== BEGIN exceptions that leave a method, and their catching by the caller (launches without stack traces) ===== -/
section VXA
/-! The laws vx_back, vx_callV, vx_callS, vx_callSW, vx_throw0, vx_throwS follow proofs of the library, with one case more: JvmDerived/Free/Laws.lean (Back.of_free), Shelf42/LK1.lean (callV, callS), Shelf/KitTraced.lean (throwNew0V, throwNewS). -/
/-- where a method has thrown q: the class by its name, the cell, what was written, the world -/
def vx_T (XC : String → State → State → Prop) (st : State) (q : Addr) (t : State) (mc ms : Nat) (free : Addr → Prop) : Prop :=
  ∃ (E : String) (ce : Cell) (L : List Loc), XC E st t ∧ t.heap[q]? = some ce ∧ ce.vm = .none ∧ st.vm.findClass E = some ce.cls ∧ st.WarmedH t.vm ∧ st.sameButNew ({ t with vm := st.vm } : State) L mc ms ∧ ∀ z ∈ L, free z.base
def vx_Q (Qc : Array Value → State → Outcome → State → Prop) (XC : String → State → State → Prop) (mc ms : Nat) (free : Addr → Prop) : Array Value → State → Outcome → State → Prop := fun a st o t =>
  (Qc a st o t ∧ ∃ L, FrameEnd st o t L mc ms ∧ ∀ q ∈ L, free q.base) ∨ ∃ q, o = .threw q ∧ vx_T XC st q t mc ms free
/-- a callee that returns or throws -/
def vx_Met (l : Launch) (y : MethodName) (ws : List Cond) (rm : Room) (Pc : Array Value → State → Prop) (Qc : Array Value → State → Outcome → State → Prop) (XC : String → State → State → Prop) (mc ms : Nat) (free : Addr → Prop) : Prop :=
  MetFree l y (headSpec ws rm) Pc (fun _ _ _ _ _ => True) (vx_Q Qc XC mc ms free)
def vx_Post (XC : String → State → State → Prop) (mc ms : Nat) (free : Addr → Prop) : Pt → Array Value → Addr → Pt → Prop := fun A a q B =>
  ∃ (g : JFrame) (mk : MethodId) (t : State) (L : List Loc) (E : String) (ce : Cell), B.U.heap = t.heap ∧ B.U.vm = t.vm ∧ XC E (A.U.calling g mk a) t ∧ t.heap[q]? = some ce ∧ ce.vm = .none ∧ A.U.vm.findClass E = some ce.cls ∧ B.locs = A.locs ++ L ∧ (∀ z ∈ L, free z.base) ∧ B.cells = A.cells + mc ∧ B.slots = A.slots + ms
def vx_Back (l : Launch) (R : Room) (p : Program) (e : Env) (below : List Frame) (s : State) (sargs : Array Value) (y : MethodName) (len W9 : Nat)
    (Pre : Pt → Array Value → Prop) (Post : Pt → Array Value → Option Value → Pt → Prop) (PostX : Pt → Array Value → Addr → Pt → Prop) : Prop :=
  ∀ (m : MethodId) (meth : Method) (c : Code) (A : Pt) (g : JFrame) (ig : Instr) (mk : MethodId) (a : Array Value),
    Stand p l e R s m sargs below meth c A.U A.locs A.cells A.slots → g.method = m → g.locals.size = c.maxLocals → decode c.code g.pc = .ok (ig, len) →
    2 * g.monitorRoom + (g.stack.map fun v => v.category).sum ≤ W9 → A.U.methodNamed? y = some mk → Pre A a →
    (∃ (v : Option Value) (B : Pt), Stand p l e R s m sargs below meth c B.U B.locs B.cells B.slots ∧ Post A a v B ∧
      Steps p.tables e below (doInvoke e (A.U.setTop g) [] mk a).1 (B.U.setTop { g with pc := g.pc + len, stack := v.toList ++ g.stack })) ∨
    (∃ (q : Addr) (B : Pt), Stand p l e R s m sargs below meth c B.U B.locs B.cells B.slots ∧ PostX A a q B ∧
      Steps p.tables e below (doInvoke e (A.U.setTop g) [] mk a).1 ((B.U.setTop g).pushFrame (.throwing q)))
section Payer
variable {l : Launch} {R : Room} {p : Program} {e : Env} {below : List Frame} {s : State} {sargs : Array Value} {y : MethodName} {len W9 : Nat}
theorem vx_back {ws : List Cond} {rm : Room} {Pc : Array Value → State → Prop} {Qc : Array Value → State → Outcome → State → Prop} {XC : String → State → State → Prop} {mc ms : Nat} {free : Addr → Prop} {bytes : ByteArray} {maxL : Nat} {ret : Option FieldType}
    (hM : vx_Met l y ws rm Pc Qc XC mc ms free) (hblind : FrameBlind Pc) (hrc : rm.cells = mc) (hrs : rm.slots = ms)
    (hframes : rm.frames + 1 ≤ R.frames) (hlocals : W9 + (maxL + 11) + rm.locals ≤ R.locals)
    (hws : ∀ w ∈ ws, ∀ a' U, s.WarmedH U.vm → w.before a' U = true) (hcode : Cond.code y bytes maxL ret ∈ ws) (hinit : ∀ a' U, s.WarmedH U.vm → (Cond.initialized y.cls).before a' U = true) :
    vx_Back l R p e below s sargs y len W9 (PreOf R mc ms Pc) (PostOf Qc mc ms free) (vx_Post XC mc ms free) := by
  intro m meth c A g ig mk a X hg hsize hdg hW hn hp
  have h1 : (headSpec ws rm).pre.before a A.U = true := atoms_intro fun w hw => hws w hw _ _ X.warmed
  have h2 : (Cond.code y bytes maxL ret).before a A.U = true := hws _ hcode _ _ X.warmed
  have h3 : (Cond.initialized y.cls).before a A.U = true := hinit _ _ X.warmed
  have h4 : A.cells + (headSpec ws rm).room.cells ≤ R.cells := by rw [show (headSpec ws rm).room.cells = mc from hrc]; exact hp.1
  have h5 : A.slots + (headSpec ws rm).room.slots ≤ R.slots := by rw [show (headSpec ws rm).room.slots = ms from hrs]; exact hp.2.1
  have hPc : Pc a (A.U.calling g mk a) := hblind _ _ _ _ hp.2.2
  obtain ⟨U, Ls, c0, s0⟩ := A
  dsimp only [Pt.U, Pt.locs, Pt.cells, Pt.slots] at h1 h2 h3 h4 h5 X hn hPc ⊢
  obtain ⟨methY, cY, hmY, hcY, -, hlY, -, -, -, -⟩ := Cond.code_spec hn h2
  obtain ⟨kY, hkY, -⟩ := className_of_methodNamed hn
  have hinitY : kY.init = .initialized := Cond.initialized_spec (findClass_of_methodNamed hn) hkY h3
  have h : At U g.method c below := by rw [hg]; exact X.here
  have hlocals9 : W9 + (maxL + 11) + (headSpec ws rm).room.locals ≤ R.locals := hlocals
  have happ : (headSpec ws rm).appliesLoose y e.platform (U.calling g mk a) = true :=
    Spec.appliesLoose_calling (g := g) h hdg hn hkY hinitY
      (X.room_calling (g := g) (R' := (headSpec ws rm).room) hsize hmY hcY hframes (by rw [hlY]; omega) h4 h5) h1
  obtain ⟨mid, hmid⟩ := h.above
  have hfr : (U.setTop g).frames = (.java g :: mid) ++ below := by rw [State.frames_setTop' g h.top, hmid]; rfl
  obtain ⟨o, s₂, hsteps, -, hend, hq⟩ := Steps.callFree hM p X.admits X.cas X.clock (acts := []) hfr happ hPc trivial
  have hq' : vx_Q Qc XC mc ms free a (U.calling g mk a) o s₂ := hq
  rw [State.frames_setTop' g h.top] at hend
  obtain ⟨g₀, hg0⟩ := Option.isSome_iff_exists.mp h.top
  obtain ⟨r, hr⟩ := State.topJava?_eq_some.mp hg0
  have hr' : (({ U with heap := s₂.heap, slotsUsed := s₂.slotsUsed } : State).setVm s₂.vm).frames = .java g₀ :: r := hr
  rcases hq' with ⟨hqc, L, hfe, hL⟩ | ⟨q, rfl, E, ce, L, hx, hce, hcv, hcl, hW₂, hsm, hL⟩
  · obtain ⟨⟨v, rfl⟩, hW₂, e2, q2, q3, q4, q5, q6⟩ := id hfe
    have e3 : s₂ = ({ (U.calling g mk a).setFrames s₂.frames with heap := s₂.heap, slotsUsed := s₂.slotsUsed } : State).setVm s₂.vm := by
      have : s₂ = ({ s₂ with vm := (U.calling g mk a).vm } : State).setVm s₂.vm := rfl
      rw [e2] at this
      exact this
    obtain ⟨c₂, i₂, len₂, hc₂, hd₂, hf₂⟩ := hend
    have hW' : U.WarmedH s₂.vm := hW₂
    have hcc : c₂ = c := by
      have h1 : s₂.code? g.method = U.code? g.method := by
        rw [State.code?_eq, State.code?_eq, hW'.alike.method?]
      exact Option.some.inj (hc₂.symm.trans (h1.trans h.code))
    subst hcc
    have hlen : len₂ = len := by rw [hdg] at hd₂; cases hd₂; rfl
    subst hlen
    have hs₂ : s₂ = (({ U with heap := s₂.heap, slotsUsed := s₂.slotsUsed } : State).setVm s₂.vm).setTop { g with pc := g.pc + len₂, stack := v.toList ++ g.stack } := by
      refine e3.trans ?_
      rw [hf₂, State.calling_eq h.top, State.setFrames_setFrames, State.setTop_of_frames _ hr', hr]
      rfl
    have hsame : U.sameButNew ({ U with heap := s₂.heap, slotsUsed := s₂.slotsUsed } : State) L mc ms := by
      refine ⟨?_, q2, q3, q4, q5, q6⟩
      obtain ⟨t, ht, -⟩ := State.frames_cons hr
      show ({ U with heap := s₂.heap, slotsUsed := s₂.slotsUsed } : State) = { U.setFrames U.frames with heap := s₂.heap, slotsUsed := s₂.slotsUsed }
      rw [State.setFrames_self ht]
    subst hg
    refine Or.inl ⟨v, ⟨(({ U with heap := s₂.heap, slotsUsed := s₂.slotsUsed } : State).setVm s₂.vm), Ls ++ L, c0 + mc, s0 + ms⟩,
      ⟨X.admits, X.cas, X.clock, X.frames, X.room, X.hears, X.method, X.code, (X.here.setHeapUsed s₂.heap s₂.slotsUsed).setVm hW'.alike, X.tail, State.WarmedH.trans X.warmed hW', X.limits, X.bytes, X.same.trans (hsame.setVm s.vm)⟩,
      ⟨g, mk, s₂, L, rfl, rfl, hqc, rfl, hL, rfl, rfl⟩, ?_⟩
    show Steps p.tables e below _ ((({ U with heap := s₂.heap, slotsUsed := s₂.slotsUsed } : State).setVm s₂.vm).setTop { g with pc := g.pc + len₂, stack := v.toList ++ g.stack })
    rw [← hs₂]
    exact hsteps
  · obtain ⟨e2, q2, q3, q4, q5, q6⟩ := id hsm
    have e3 : s₂ = ({ (U.calling g mk a).setFrames s₂.frames with heap := s₂.heap, slotsUsed := s₂.slotsUsed } : State).setVm s₂.vm := by
      have : s₂ = ({ s₂ with vm := (U.calling g mk a).vm } : State).setVm s₂.vm := rfl
      rw [e2] at this
      exact this
    have hf₂ : s₂.frames = .throwing q :: .java g :: U.frames.tail := hend
    have hW' : U.WarmedH s₂.vm := hW₂
    have hs₂ : s₂ = ((({ U with heap := s₂.heap, slotsUsed := s₂.slotsUsed } : State).setVm s₂.vm).setTop g).pushFrame (.throwing q) := by
      refine e3.trans ?_
      rw [hf₂, State.calling_eq h.top, State.setFrames_setFrames, State.pushFrame, State.frames_setTop _ hr', State.setTop_of_frames _ hr', State.setFrames_setFrames, hr]
      rfl
    have hsame : U.sameButNew ({ U with heap := s₂.heap, slotsUsed := s₂.slotsUsed } : State) L mc ms := by
      refine ⟨?_, q2, q3, q4, q5, q6⟩
      obtain ⟨t, ht, -⟩ := State.frames_cons hr
      show ({ U with heap := s₂.heap, slotsUsed := s₂.slotsUsed } : State) = { U.setFrames U.frames with heap := s₂.heap, slotsUsed := s₂.slotsUsed }
      rw [State.setFrames_self ht]
    subst hg
    refine Or.inr ⟨q, ⟨(({ U with heap := s₂.heap, slotsUsed := s₂.slotsUsed } : State).setVm s₂.vm), Ls ++ L, c0 + mc, s0 + ms⟩,
      ⟨X.admits, X.cas, X.clock, X.frames, X.room, X.hears, X.method, X.code, (X.here.setHeapUsed s₂.heap s₂.slotsUsed).setVm hW'.alike, X.tail, State.WarmedH.trans X.warmed hW', X.limits, X.bytes, X.same.trans (hsame.setVm s.vm)⟩,
      ⟨g, mk, s₂, L, E, ce, rfl, rfl, hx, hce, hcv, hcl, rfl, hL, rfl, rfl⟩, ?_⟩
    show Steps p.tables e below _ (((({ U with heap := s₂.heap, slotsUsed := s₂.slotsUsed } : State).setVm s₂.vm).setTop g).pushFrame (.throwing q))
    rw [← hs₂]
    exact hsteps
end Payer
section Calls
variable {p : Program} {l : Launch} {e : Env} {R : Room} {s : State} {m : MethodId} {args : Array Value} {below : List Frame} {meth : Method} {c : Code} {T : State} {locs : List Loc} {cells slots : Nat}
theorem vx_callV (X : Stand p l e R s m args below meth c T locs cells slots) (hexec : p.tables.exec = Jvm.exec) {own C : String} {index : Nat} {y : MethodName} {bytes : ByteArray} {maxL : Nat} {ret : Option FieldType}
    (hown : s.vm.findClass own = some m.cls) (hlink : (Cond.methodLink own index y).before args s = true) (hinst : (Cond.instanceMethod y).before args s = true) (hsel : (Cond.selects C y y).before args s = true)
    (hcode : (Cond.code y bytes maxL ret).before args s = true) (hy : y.cls ≠ "java/lang/invoke/MethodHandle" ∧ y.cls ≠ "java/lang/invoke/VarHandle")
    {W9 : Nat} {Pre : Pt → Array Value → Prop} {Post : Pt → Array Value → Option Value → Pt → Prop} {PostX : Pt → Array Value → Addr → Pt → Prop} (hK : vx_Back l R p e below s args y 3 W9 Pre Post PostX)
    {b : Addr} {cellB : Cell} (hcell : T.heap[b]? = some cellB) (hobj : cellB.vm.isStatics = false) (hcls : s.vm.findClass C = some cellB.cls)
    {g : JFrame} (hg : g.method = m) (hsize : g.locals.size = c.maxLocals) {argsL rest : List Value} (hlen : ∀ sig, parseMethodDescriptor y.desc = some sig → argsL.length = sig.parameters.length)
    (hstack : g.stack = argsL.reverse ++ .ref b :: rest) (hW : 2 * g.monitorRoom + (rest.map fun v => v.category).sum ≤ W9) (hdg : decode c.code g.pc = .ok (.invokevirtual index, 3))
    (hpre : ∀ vm₁, s.WarmedH vm₁ → Pre ⟨T.setVm vm₁, locs, cells, slots⟩ (Value.ref b :: argsL).toArray) :
    (∃ (v : Option Value) (vm₁ : Vm) (B : Pt), s.WarmedH vm₁ ∧ Stand p l e R s m args below meth c B.U B.locs B.cells B.slots ∧ Post ⟨T.setVm vm₁, locs, cells, slots⟩ (Value.ref b :: argsL).toArray v B ∧
      ∀ target, Steps p.tables e below (B.U.setTop { g with pc := g.pc + 3, stack := v.toList ++ rest }) target → Steps p.tables e below (T.setTop g) target) ∨
    (∃ (q : Addr) (vm₁ : Vm) (B : Pt), s.WarmedH vm₁ ∧ Stand p l e R s m args below meth c B.U B.locs B.cells B.slots ∧ PostX ⟨T.setVm vm₁, locs, cells, slots⟩ (Value.ref b :: argsL).toArray q B ∧
      Steps p.tables e below (T.setTop g) ((B.U.setTop { g with stack := rest }).pushFrame (.throwing q))) := by
  obtain ⟨mk, methM, hnamed, hmethM, hstM, habM⟩ := Cond.instanceMethod_spec hinst
  obtain ⟨methM', cM, hmethM', -, -, -, -, -, -, hsigM⟩ := Cond.code_spec hnamed hcode
  cases hmethM.symm.trans hmethM'
  obtain ⟨c2, r2, m2, q1, q2, q3, q4, kP, hkP, hkPi⟩ := Cond.selects_spec hsel
  cases hcls.symm.trans q1
  cases (State.methodFound?_of_named hnamed hy).symm.trans q2
  cases hnamed.symm.trans q3
  have hselP : selectMethod e.platform s.vm cellB.cls mk = .method mk := by rw [Launch.admits_selectMethod X.admits]; exact q4
  obtain ⟨vm₁, X₁, hstep₁⟩ := X.invokevirtual hexec hown hlink hnamed hmethM hstM hkP hkPi hy (a := b) (cell := cellB) hcell
    (fun z h => by rw [h] at hobj; cases hobj) hselP hmethM habM hkP hkPi (g := g) hg (argsL := argsL) (rest := rest) (hlen _ hsigM) hstack hdg
  rcases hK m meth c ⟨T.setVm vm₁, locs, cells, slots⟩ { g with stack := rest } (.invokevirtual index) mk (Value.ref b :: argsL).toArray X₁ hg hsize hdg hW (X₁.named hnamed) (hpre vm₁ X₁.warmed) with ⟨v, B, X', hpost, hsteps⟩ | ⟨q, B, X', hpost, hsteps⟩
  · exact Or.inl ⟨v, vm₁, B, X₁.warmed, X', hpost, fun target h => hstep₁ _ fun acts => by rw [doInvoke_state]; exact hsteps.trans h⟩
  · exact Or.inr ⟨q, vm₁, B, X₁.warmed, X', hpost, hstep₁ _ fun acts => by rw [doInvoke_state]; exact hsteps⟩
theorem vx_callS (X : Stand p l e R s m args below meth c T locs cells slots) (hexec : p.tables.exec = Jvm.exec) {own : String} {index : Nat} {y : MethodName} {bytes : ByteArray} {maxL : Nat} {ret : Option FieldType}
    (hown : s.vm.findClass own = some m.cls) (hlink : (Cond.methodLink own index y).before args s = true) (hstat : (Cond.static y).before args s = true) (hinit : (Cond.initialized y.cls).before args s = true)
    (hcode : (Cond.code y bytes maxL ret).before args s = true) (hy : y.cls ≠ "java/lang/invoke/MethodHandle" ∧ y.cls ≠ "java/lang/invoke/VarHandle")
    {W9 : Nat} {Pre : Pt → Array Value → Prop} {Post : Pt → Array Value → Option Value → Pt → Prop} {PostX : Pt → Array Value → Addr → Pt → Prop} (hK : vx_Back l R p e below s args y 3 W9 Pre Post PostX)
    {g : JFrame} (hg : g.method = m) (hsize : g.locals.size = c.maxLocals) {argsL rest : List Value} (hlen : ∀ sig, parseMethodDescriptor y.desc = some sig → argsL.length = sig.parameters.length)
    (hstack : g.stack = argsL.reverse ++ rest) (hW : 2 * g.monitorRoom + (rest.map fun v => v.category).sum ≤ W9) (hdg : decode c.code g.pc = .ok (.invokestatic index, 3))
    (hpre : ∀ vm₁, s.WarmedH vm₁ → Pre ⟨T.setVm vm₁, locs, cells, slots⟩ argsL.toArray) :
    (∃ (v : Option Value) (vm₁ : Vm) (B : Pt), s.WarmedH vm₁ ∧ Stand p l e R s m args below meth c B.U B.locs B.cells B.slots ∧ Post ⟨T.setVm vm₁, locs, cells, slots⟩ argsL.toArray v B ∧
      ∀ target, Steps p.tables e below (B.U.setTop { g with pc := g.pc + 3, stack := v.toList ++ rest }) target → Steps p.tables e below (T.setTop g) target) ∨
    (∃ (q : Addr) (vm₁ : Vm) (B : Pt), s.WarmedH vm₁ ∧ Stand p l e R s m args below meth c B.U B.locs B.cells B.slots ∧ PostX ⟨T.setVm vm₁, locs, cells, slots⟩ argsL.toArray q B ∧
      Steps p.tables e below (T.setTop g) ((B.U.setTop { g with stack := rest }).pushFrame (.throwing q))) := by
  obtain ⟨mk, hnamed⟩ := Cond.code_named hcode
  obtain ⟨methM, cM, hmethM, -, -, -, -, -, -, hsigM⟩ := Cond.code_spec hnamed hcode
  have hstatic : methM.isStatic = true := Cond.static_spec hnamed hmethM hstat
  obtain ⟨kP, hkP, -⟩ := className_of_methodNamed hnamed
  have hinitP : kP.init = .initialized := Cond.initialized_spec (findClass_of_methodNamed hnamed) hkP hinit
  obtain ⟨vm₁, X₁, hstep₁⟩ := X.invokestatic hexec hown hlink hnamed hmethM hstatic hkP hinitP hy (g := g) hg (argsL := argsL) (rest := rest) (hlen _ hsigM) hstack hdg
  rcases hK m meth c ⟨T.setVm vm₁, locs, cells, slots⟩ { g with stack := rest } (.invokestatic index) mk argsL.toArray X₁ hg hsize hdg hW (X₁.named hnamed) (hpre vm₁ X₁.warmed) with ⟨v, B, X', hpost, hsteps⟩ | ⟨q, B, X', hpost, hsteps⟩
  · exact Or.inl ⟨v, vm₁, B, X₁.warmed, X', hpost, fun target h => hstep₁ _ fun acts => by rw [doInvoke_state]; exact hsteps.trans h⟩
  · exact Or.inr ⟨q, vm₁, B, X₁.warmed, X', hpost, hstep₁ _ fun acts => by rw [doInvoke_state]; exact hsteps⟩
end Calls
theorem vx_cls {s : State} {T : State} {vm₁ : Vm} {E : String} {k : ClassId} (hW : s.WarmedH vm₁) (h : (T.setVm vm₁).vm.findClass E = some k) : s.vm.findClass E = some k := by
  have h1 : vm₁.findClass E = some k := h
  rw [hW.alike.findClass] at h1
  exact h1
/-- the method's frame g, with q thrown over it -/
def vx_W (p : Program) (l : Launch) (e : Env) (R : Room) (s : State) (m : MethodId) (args : Array Value) (below : List Frame) (meth : Method) (c : Code) (H : Heap) (locs : List Loc) (cells slots : Nat) (Q : State → Prop) (g : JFrame) (q : Addr) : Prop :=
  ∀ T : State, T.heap = H → Stand p l e R s m args below meth c T locs cells slots → ∃ t, Steps p.tables e below ((T.setTop g).pushFrame (.throwing q)) t ∧ Q t
def vx_Run (p : Program) (l : Launch) (e : Env) (R : Room) (s : State) (m : MethodId) (args : Array Value) (below : List Frame) (meth : Method) (c : Code) (H : Heap) (locs : List Loc) (cells slots mc ms : Nat) (g : JFrame) (rest : List Value) (Qa : State → Outcome → State → Prop) (XC : String → State → State → Prop) (free : Addr → Prop) : Prop :=
  ∀ T : State, T.heap = H → Stand p l e R s m args below meth c T locs cells slots →
    (∃ (v : Option Value) (st₀ t T' : State) (L : List Loc), st₀.heap = H ∧ Stand p l e R s m args below meth c T' (locs ++ L) (cells + mc) (slots + ms) ∧ (∀ q ∈ L, free q.base) ∧ T'.heap = t.heap ∧ T'.vm = t.vm ∧ Qa st₀ (.returned v) t ∧
      Goes p e below T g T' { g with pc := g.pc + 3, stack := v.toList ++ rest }) ∨
    (∃ (q : Addr) (st₀ t T' : State) (L : List Loc) (E : String) (ce : Cell), st₀.heap = H ∧ Stand p l e R s m args below meth c T' (locs ++ L) (cells + mc) (slots + ms) ∧ (∀ z ∈ L, free z.base) ∧ T'.heap = t.heap ∧ T'.vm = t.vm ∧ XC E st₀ t ∧ t.heap[q]? = some ce ∧ ce.vm = .none ∧ s.vm.findClass E = some ce.cls ∧
      Steps p.tables e below (T.setTop g) ((T'.setTop { g with stack := rest }).pushFrame (.throwing q)))
def vx_X {S : Type} (px : S → Prop) (B : String → S → State → Prop) (A : Nat → Prop) : String → State → State → Prop := fun E st t => ∃ u : S, px u ∧ B E u t ∧ va_F A st t
section Runs
variable {p : Program} {l : Launch} {e : Env} {R : Room} {s : State} {m : MethodId} {args : Array Value} {below : List Frame} {meth : Method} {c : Code} {H : Heap} {locs : List Loc} {cells slots : Nat}
variable {y : MethodName} {bytes cc : ByteArray} {maxL nL mc ms n index : Nat} {ret : Option FieldType} {ws : List Cond} {rm : Room} {Pc : Array Value → State → Prop} {Qc : Array Value → State → Outcome → State → Prop} {XC : String → State → State → Prop} {free : Addr → Prop} {Ts : List Cond} {own C : String} {b : Addr} {As rest : List Value} {g : JFrame}
theorem vx_callBack (cb : CallB R s args own index y bytes maxL ret ws rm mc ms n) (hM : vx_Met l y ws rm Pc Qc XC mc ms free) (hbl : FrameBlind Pc) : vx_Back l R p e below s args y 3 8 (PreOf R mc ms Pc) (PostOf Qc mc ms free) (vx_Post XC mc ms free) := by
  obtain ⟨hrc, hrs, hfr, hlo, hws, hcw, -, hini, -⟩ := cb
  exact vx_back (bytes := bytes) (maxL := maxL) (ret := ret) hM hbl hrc hrs hfr hlo hws hcw (fun a' U hW => word_at hW (Or.inl (by first | rfl | simp [Cond.onTables, Cond.keeps, Cond.steady])) hini)
theorem vx_runV (S : CallFix p m c cc nL s args Ts own) (hM : vx_Met l y ws rm Pc Qc XC mc ms free) (cw : CallW R s args own C index y bytes maxL ret ws rm mc ms n) (hp : PreV s H C b Pc As)
    (hg : g.method = m) (hn : As.length = n) (hsize : g.locals.size = nL) (hstack : g.stack = As.reverse ++ .ref b :: rest) (hW : 2 * g.monitorRoom + (rest.map fun v => v.category).sum ≤ 8) (hdg : decode cc g.pc = .ok (.invokevirtual index, 3)) (hf : cells + mc ≤ R.cells ∧ slots + ms ≤ R.slots) :
    vx_Run p l e R s m args below meth c H locs cells slots mc ms g rest (Qc (Value.ref b :: As).toArray) XC free := by
  have hK : vx_Back l R p e below s args y 3 8 (PreOf R mc ms Pc) (PostOf Qc mc ms free) (vx_Post XC mc ms free) := vx_callBack cw.1 hM hp.1
  obtain ⟨⟨-, -, -, -, -, -, hcode, -, hy, hlen, hl⟩, hin, hse⟩ := cw
  obtain ⟨hx, hb, hml, ho, -⟩ := S
  obtain ⟨-, ⟨cellB, hcB, hoB, hclB⟩, hPc⟩ := hp
  intro T hT X
  rcases vx_callV X hx (C := C) (bytes := bytes) (maxL := maxL) (ret := ret) ho hl hin hse hcode hy hK (by rw [hT]; exact hcB) hoB hclB hg (hsize.trans hml.symm) (argsL := As) (rest := rest) (fun sig h => hn.trans (hlen sig h)) hstack hW (by rw [hb]; exact hdg)
    (fun vm₁ hW₁ => ⟨hf.1, hf.2, hPc (T.setVm vm₁) hT hW₁⟩) with ⟨v, vm₁, ⟨U', l2, c2, s2⟩, hW₁, X', ⟨g', mk, t, L, e1, e2, hq, h1, hL, h2, h3⟩, st⟩ | ⟨q, vm₁, ⟨U', l2, c2, s2⟩, hW₁, X', ⟨g', mk, t, L, E, ce, e1, e2, hq, hce, hcv, hcl, h1, hL, h2, h3⟩, st⟩
  · dsimp only [Pt.U, Pt.locs, Pt.cells, Pt.slots] at X' e1 e2 h1 h2 h3 st
    subst h1; subst h2; subst h3
    exact Or.inl ⟨v, (T.setVm vm₁).calling g' mk (Value.ref b :: As).toArray, t, U', L, hT, X', hL, e1, e2, hq, st⟩
  · dsimp only [Pt.U, Pt.locs, Pt.cells, Pt.slots] at X' e1 e2 h1 h2 h3 st hcl
    subst h1; subst h2; subst h3
    exact Or.inr ⟨q, (T.setVm vm₁).calling g' mk (Value.ref b :: As).toArray, t, U', L, E, ce, hT, X', hL, e1, e2, hq, hce, hcv, vx_cls hW₁ hcl, st⟩
theorem vx_runS (S : CallFix p m c cc nL s args Ts own) (hM : vx_Met l y ws rm Pc Qc XC mc ms free) (cw : CallB R s args own index y bytes maxL ret ws rm mc ms n ∧ (Cond.static y).before args s = true) (hp : PreS s H Pc As)
    (hg : g.method = m) (hn : As.length = n) (hsize : g.locals.size = nL) (hstack : g.stack = As.reverse ++ rest) (hW : 2 * g.monitorRoom + (rest.map fun v => v.category).sum ≤ 8) (hdg : decode cc g.pc = .ok (.invokestatic index, 3)) (hf : cells + mc ≤ R.cells ∧ slots + ms ≤ R.slots) :
    vx_Run p l e R s m args below meth c H locs cells slots mc ms g rest (Qc As.toArray) XC free := by
  have hK : vx_Back l R p e below s args y 3 8 (PreOf R mc ms Pc) (PostOf Qc mc ms free) (vx_Post XC mc ms free) := vx_callBack cw.1 hM hp.1
  obtain ⟨⟨-, -, -, -, -, -, hcode, hini, hy, hlen, hl⟩, hstt⟩ := cw
  obtain ⟨hx, hb, hml, ho, -⟩ := S
  intro T hT X
  rcases vx_callS X hx (bytes := bytes) (maxL := maxL) (ret := ret) ho hl hstt hini hcode hy hK hg (hsize.trans hml.symm) (argsL := As) (rest := rest) (fun sig h => hn.trans (hlen sig h)) hstack hW (by rw [hb]; exact hdg)
    (fun vm₁ hW₁ => ⟨hf.1, hf.2, hp.2 (T.setVm vm₁) hT hW₁⟩) with ⟨v, vm₁, ⟨U', l2, c2, s2⟩, hW₁, X', ⟨g', mk, t, L, e1, e2, hq, h1, hL, h2, h3⟩, st⟩ | ⟨q, vm₁, ⟨U', l2, c2, s2⟩, hW₁, X', ⟨g', mk, t, L, E, ce, e1, e2, hq, hce, hcv, hcl, h1, hL, h2, h3⟩, st⟩
  · dsimp only [Pt.U, Pt.locs, Pt.cells, Pt.slots] at X' e1 e2 h1 h2 h3 st
    subst h1; subst h2; subst h3
    exact Or.inl ⟨v, (T.setVm vm₁).calling g' mk As.toArray, t, U', L, hT, X', hL, e1, e2, hq, st⟩
  · dsimp only [Pt.U, Pt.locs, Pt.cells, Pt.slots] at X' e1 e2 h1 h2 h3 st hcl
    subst h1; subst h2; subst h3
    exact Or.inr ⟨q, (T.setVm vm₁).calling g' mk As.toArray, t, U', L, E, ce, hT, X', hL, e1, e2, hq, hce, hcv, vx_cls hW₁ hcl, st⟩
end Runs
section Rows
variable {p : Program} {l : Launch} {e : Env} {R : Room} {s : State} {m : MethodId} {args : Array Value} {below : List Frame} {meth : Method} {c : Code} {H : Heap} {locs : List Loc} {cells slots : Nat} {Q : State → Prop}
variable {mc ms : Nat} {free : Addr → Prop} {A0 A1 : Nat → Prop} {H0 : Heap} {a : Array Value} {pc : Nat} {ls : Array Slot} {st0 rest : List Value}
theorem vx_keep {st₀ t T' : State} {L : List Loc} (h0 : st₀.heap = H) (e1 : T'.heap = t.heap) (hS : va_S A0 H0 H locs) (hA : ∀ q, q < H.size → A1 q → A0 q) (hf : ∀ q, free q → A0 q) (hL : ∀ q ∈ L, free q.base) (hF : va_F A1 st₀ t) :
    H.size ≤ T'.heap.size ∧ (∀ q : Nat, q < H.size → ¬ A1 q → T'.heap[q]? = H[q]?) ∧ va_S A0 H0 T'.heap (locs ++ L) := by
  obtain ⟨hz, hk⟩ := hF
  rw [h0] at hz hk
  exact ⟨by rw [e1]; exact hz, fun q h1 h2 => by rw [e1]; exact hk q h1 h2,
    ⟨Nat.le_trans hS.1 (by rw [e1]; exact hz), fun q h1 h2 => by rw [e1, hk q (Nat.lt_of_lt_of_le h1 hS.1) (fun z => h2 (hA q (Nat.lt_of_lt_of_le h1 hS.1) z))]; exact hS.2.1 q h1 h2, fun q hq => by
      rcases List.mem_append.mp hq with h | h
      · exact hS.2.2 q h
      · exact hf _ (hL q h)⟩⟩
theorem vx_calli {S SX : Type} {post : Int32 → S → Prop} {px : SX → Prop} {B : S → State → Prop} {BX : String → SX → State → Prop} {AX : Nat → Prop} (hr : vx_Run p l e R s m args below meth c H locs cells slots mc ms (F0 m pc ls st0) rest (va_Qi post B A1 a) (vx_X px BX AX) free) (hS : va_S A0 H0 H locs) (hA : ∀ q, q < H.size → A1 q → A0 q) (hf : ∀ q, free q → A0 q) (hAX : ∀ q, q < H.size → AX q → A0 q)
    (kx : ∀ (E : String) (ce : Cell) (q9 : Addr) (u : SX) (t : State) (H1 : Heap) (locs1 : List Loc), t.heap = H1 → s.vm.Alike t.vm → px u → BX E u t → H.size ≤ H1.size → (∀ q : Nat, q < H.size → ¬ AX q → H1[q]? = H[q]?) → va_S A0 H0 H1 locs1 → H1[q9]? = some ce → ce.vm = .none → s.vm.findClass E = some ce.cls → vx_W p l e R s m args below meth c H1 locs1 (cells + mc) (slots + ms) Q (F0 m pc ls rest) q9)
    (kk : ∀ (r : Int32) (u : S) (t : State) (H1 : Heap) (locs1 : List Loc), t.heap = H1 → s.vm.Alike t.vm → post r u → B u t → H.size ≤ H1.size → (∀ q : Nat, q < H.size → ¬ A1 q → H1[q]? = H[q]?) → va_S A0 H0 H1 locs1 → W p l e R s m args below meth c H1 locs1 (cells + mc) (slots + ms) Q (F0 m (pc + 3) ls (.int r :: rest))) : W p l e R s m args below meth c H locs cells slots Q (F0 m pc ls st0) := by
  intro T hT X
  rcases hr T hT X with ⟨v, st₀, t, T', L, h0, X', hL, e1, e2, ⟨⟨r, u, hv, hp, hb⟩, hF⟩, st⟩ | ⟨q, st₀, t, T', L, E, ce, h0, X', hL, e1, e2, ⟨u, hp, hb, hF⟩, hce, hcv, hcl, st⟩
  · cases hv
    obtain ⟨k1, k2, k3⟩ := vx_keep h0 e1 hS hA hf hL hF
    obtain ⟨t2, a1, b1⟩ := kk r u t T'.heap (locs ++ L) e1.symm (by rw [← e2]; exact X'.warmed.alike) hp hb k1 k2 k3 T' rfl X'
    exact ⟨t2, st t2 a1, b1⟩
  · obtain ⟨k1, k2, k3⟩ := vx_keep h0 e1 hS hAX hf hL hF
    obtain ⟨t2, a1, b1⟩ := kx E ce q u t T'.heap (locs ++ L) e1.symm (by rw [← e2]; exact X'.warmed.alike) hp hb k1 k2 k3 (by rw [e1]; exact hce) hcv hcl T' rfl X'
    exact ⟨t2, st.trans a1, b1⟩
theorem vx_calll {S SX : Type} {post : Int64 → S → Prop} {px : SX → Prop} {B : S → State → Prop} {BX : String → SX → State → Prop} {AX : Nat → Prop} (hr : vx_Run p l e R s m args below meth c H locs cells slots mc ms (F0 m pc ls st0) rest (va_Ql post B A1 a) (vx_X px BX AX) free) (hS : va_S A0 H0 H locs) (hA : ∀ q, q < H.size → A1 q → A0 q) (hf : ∀ q, free q → A0 q) (hAX : ∀ q, q < H.size → AX q → A0 q)
    (kx : ∀ (E : String) (ce : Cell) (q9 : Addr) (u : SX) (t : State) (H1 : Heap) (locs1 : List Loc), t.heap = H1 → s.vm.Alike t.vm → px u → BX E u t → H.size ≤ H1.size → (∀ q : Nat, q < H.size → ¬ AX q → H1[q]? = H[q]?) → va_S A0 H0 H1 locs1 → H1[q9]? = some ce → ce.vm = .none → s.vm.findClass E = some ce.cls → vx_W p l e R s m args below meth c H1 locs1 (cells + mc) (slots + ms) Q (F0 m pc ls rest) q9)
    (kk : ∀ (r : Int64) (u : S) (t : State) (H1 : Heap) (locs1 : List Loc), t.heap = H1 → s.vm.Alike t.vm → post r u → B u t → H.size ≤ H1.size → (∀ q : Nat, q < H.size → ¬ A1 q → H1[q]? = H[q]?) → va_S A0 H0 H1 locs1 → W p l e R s m args below meth c H1 locs1 (cells + mc) (slots + ms) Q (F0 m (pc + 3) ls (.long r :: rest))) : W p l e R s m args below meth c H locs cells slots Q (F0 m pc ls st0) := by
  intro T hT X
  rcases hr T hT X with ⟨v, st₀, t, T', L, h0, X', hL, e1, e2, ⟨⟨r, u, hv, hp, hb⟩, hF⟩, st⟩ | ⟨q, st₀, t, T', L, E, ce, h0, X', hL, e1, e2, ⟨u, hp, hb, hF⟩, hce, hcv, hcl, st⟩
  · cases hv
    obtain ⟨k1, k2, k3⟩ := vx_keep h0 e1 hS hA hf hL hF
    obtain ⟨t2, a1, b1⟩ := kk r u t T'.heap (locs ++ L) e1.symm (by rw [← e2]; exact X'.warmed.alike) hp hb k1 k2 k3 T' rfl X'
    exact ⟨t2, st t2 a1, b1⟩
  · obtain ⟨k1, k2, k3⟩ := vx_keep h0 e1 hS hAX hf hL hF
    obtain ⟨t2, a1, b1⟩ := kx E ce q u t T'.heap (locs ++ L) e1.symm (by rw [← e2]; exact X'.warmed.alike) hp hb k1 k2 k3 (by rw [e1]; exact hce) hcv hcl T' rfl X'
    exact ⟨t2, st.trans a1, b1⟩
theorem vx_callf {S SX : Type} {post : UInt32 → S → Prop} {px : SX → Prop} {B : S → State → Prop} {BX : String → SX → State → Prop} {AX : Nat → Prop} (hr : vx_Run p l e R s m args below meth c H locs cells slots mc ms (F0 m pc ls st0) rest (va_Qf post B A1 a) (vx_X px BX AX) free) (hS : va_S A0 H0 H locs) (hA : ∀ q, q < H.size → A1 q → A0 q) (hf : ∀ q, free q → A0 q) (hAX : ∀ q, q < H.size → AX q → A0 q)
    (kx : ∀ (E : String) (ce : Cell) (q9 : Addr) (u : SX) (t : State) (H1 : Heap) (locs1 : List Loc), t.heap = H1 → s.vm.Alike t.vm → px u → BX E u t → H.size ≤ H1.size → (∀ q : Nat, q < H.size → ¬ AX q → H1[q]? = H[q]?) → va_S A0 H0 H1 locs1 → H1[q9]? = some ce → ce.vm = .none → s.vm.findClass E = some ce.cls → vx_W p l e R s m args below meth c H1 locs1 (cells + mc) (slots + ms) Q (F0 m pc ls rest) q9)
    (kk : ∀ (r : UInt32) (u : S) (t : State) (H1 : Heap) (locs1 : List Loc), t.heap = H1 → s.vm.Alike t.vm → post r u → B u t → H.size ≤ H1.size → (∀ q : Nat, q < H.size → ¬ A1 q → H1[q]? = H[q]?) → va_S A0 H0 H1 locs1 → W p l e R s m args below meth c H1 locs1 (cells + mc) (slots + ms) Q (F0 m (pc + 3) ls (.float r :: rest))) : W p l e R s m args below meth c H locs cells slots Q (F0 m pc ls st0) := by
  intro T hT X
  rcases hr T hT X with ⟨v, st₀, t, T', L, h0, X', hL, e1, e2, ⟨⟨r, u, hv, hp, hb⟩, hF⟩, st⟩ | ⟨q, st₀, t, T', L, E, ce, h0, X', hL, e1, e2, ⟨u, hp, hb, hF⟩, hce, hcv, hcl, st⟩
  · cases hv
    obtain ⟨k1, k2, k3⟩ := vx_keep h0 e1 hS hA hf hL hF
    obtain ⟨t2, a1, b1⟩ := kk r u t T'.heap (locs ++ L) e1.symm (by rw [← e2]; exact X'.warmed.alike) hp hb k1 k2 k3 T' rfl X'
    exact ⟨t2, st t2 a1, b1⟩
  · obtain ⟨k1, k2, k3⟩ := vx_keep h0 e1 hS hAX hf hL hF
    obtain ⟨t2, a1, b1⟩ := kx E ce q u t T'.heap (locs ++ L) e1.symm (by rw [← e2]; exact X'.warmed.alike) hp hb k1 k2 k3 (by rw [e1]; exact hce) hcv hcl T' rfl X'
    exact ⟨t2, st.trans a1, b1⟩
theorem vx_calld {S SX : Type} {post : UInt64 → S → Prop} {px : SX → Prop} {B : S → State → Prop} {BX : String → SX → State → Prop} {AX : Nat → Prop} (hr : vx_Run p l e R s m args below meth c H locs cells slots mc ms (F0 m pc ls st0) rest (va_Qd post B A1 a) (vx_X px BX AX) free) (hS : va_S A0 H0 H locs) (hA : ∀ q, q < H.size → A1 q → A0 q) (hf : ∀ q, free q → A0 q) (hAX : ∀ q, q < H.size → AX q → A0 q)
    (kx : ∀ (E : String) (ce : Cell) (q9 : Addr) (u : SX) (t : State) (H1 : Heap) (locs1 : List Loc), t.heap = H1 → s.vm.Alike t.vm → px u → BX E u t → H.size ≤ H1.size → (∀ q : Nat, q < H.size → ¬ AX q → H1[q]? = H[q]?) → va_S A0 H0 H1 locs1 → H1[q9]? = some ce → ce.vm = .none → s.vm.findClass E = some ce.cls → vx_W p l e R s m args below meth c H1 locs1 (cells + mc) (slots + ms) Q (F0 m pc ls rest) q9)
    (kk : ∀ (r : UInt64) (u : S) (t : State) (H1 : Heap) (locs1 : List Loc), t.heap = H1 → s.vm.Alike t.vm → post r u → B u t → H.size ≤ H1.size → (∀ q : Nat, q < H.size → ¬ A1 q → H1[q]? = H[q]?) → va_S A0 H0 H1 locs1 → W p l e R s m args below meth c H1 locs1 (cells + mc) (slots + ms) Q (F0 m (pc + 3) ls (.double r :: rest))) : W p l e R s m args below meth c H locs cells slots Q (F0 m pc ls st0) := by
  intro T hT X
  rcases hr T hT X with ⟨v, st₀, t, T', L, h0, X', hL, e1, e2, ⟨⟨r, u, hv, hp, hb⟩, hF⟩, st⟩ | ⟨q, st₀, t, T', L, E, ce, h0, X', hL, e1, e2, ⟨u, hp, hb, hF⟩, hce, hcv, hcl, st⟩
  · cases hv
    obtain ⟨k1, k2, k3⟩ := vx_keep h0 e1 hS hA hf hL hF
    obtain ⟨t2, a1, b1⟩ := kk r u t T'.heap (locs ++ L) e1.symm (by rw [← e2]; exact X'.warmed.alike) hp hb k1 k2 k3 T' rfl X'
    exact ⟨t2, st t2 a1, b1⟩
  · obtain ⟨k1, k2, k3⟩ := vx_keep h0 e1 hS hAX hf hL hF
    obtain ⟨t2, a1, b1⟩ := kx E ce q u t T'.heap (locs ++ L) e1.symm (by rw [← e2]; exact X'.warmed.alike) hp hb k1 k2 k3 (by rw [e1]; exact hce) hcv hcl T' rfl X'
    exact ⟨t2, st.trans a1, b1⟩
theorem vx_callv {S SX : Type} {post : S → Prop} {px : SX → Prop} {B : S → State → Prop} {BX : String → SX → State → Prop} {AX : Nat → Prop} (hr : vx_Run p l e R s m args below meth c H locs cells slots mc ms (F0 m pc ls st0) rest (va_Qv post B A1 a) (vx_X px BX AX) free) (hS : va_S A0 H0 H locs) (hA : ∀ q, q < H.size → A1 q → A0 q) (hf : ∀ q, free q → A0 q) (hAX : ∀ q, q < H.size → AX q → A0 q)
    (kx : ∀ (E : String) (ce : Cell) (q9 : Addr) (u : SX) (t : State) (H1 : Heap) (locs1 : List Loc), t.heap = H1 → s.vm.Alike t.vm → px u → BX E u t → H.size ≤ H1.size → (∀ q : Nat, q < H.size → ¬ AX q → H1[q]? = H[q]?) → va_S A0 H0 H1 locs1 → H1[q9]? = some ce → ce.vm = .none → s.vm.findClass E = some ce.cls → vx_W p l e R s m args below meth c H1 locs1 (cells + mc) (slots + ms) Q (F0 m pc ls rest) q9)
    (kk : ∀ (u : S) (t : State) (H1 : Heap) (locs1 : List Loc), t.heap = H1 → s.vm.Alike t.vm → post u → B u t → H.size ≤ H1.size → (∀ q : Nat, q < H.size → ¬ A1 q → H1[q]? = H[q]?) → va_S A0 H0 H1 locs1 → W p l e R s m args below meth c H1 locs1 (cells + mc) (slots + ms) Q (F0 m (pc + 3) ls (rest))) : W p l e R s m args below meth c H locs cells slots Q (F0 m pc ls st0) := by
  intro T hT X
  rcases hr T hT X with ⟨v, st₀, t, T', L, h0, X', hL, e1, e2, ⟨⟨u, hv, hp, hb⟩, hF⟩, st⟩ | ⟨q, st₀, t, T', L, E, ce, h0, X', hL, e1, e2, ⟨u, hp, hb, hF⟩, hce, hcv, hcl, st⟩
  · cases hv
    obtain ⟨k1, k2, k3⟩ := vx_keep h0 e1 hS hA hf hL hF
    obtain ⟨t2, a1, b1⟩ := kk u t T'.heap (locs ++ L) e1.symm (by rw [← e2]; exact X'.warmed.alike) hp hb k1 k2 k3 T' rfl X'
    exact ⟨t2, st t2 a1, b1⟩
  · obtain ⟨k1, k2, k3⟩ := vx_keep h0 e1 hS hAX hf hL hF
    obtain ⟨t2, a1, b1⟩ := kx E ce q u t T'.heap (locs ++ L) e1.symm (by rw [← e2]; exact X'.warmed.alike) hp hb k1 k2 k3 (by rw [e1]; exact hce) hcv hcl T' rfl X'
    exact ⟨t2, st.trans a1, b1⟩
/-- caught by the row x of this method's table; the rows ahead don't take it -/
theorem vx_catch {own name : String} {E : String} {ce : Cell} {q : Addr} (hown : s.vm.findClass own = some m.cls) (pre : List ExceptionTableEntry) (x : ExceptionTableEntry) (suf : List ExceptionTableEntry) (hsplit : c.exceptionTable.toList = pre ++ x :: suf)
    (hpass : ∀ z ∈ pre, covers z pc = false ∨ (z.catchType ≠ 0 ∧ ∃ nm : String, (Cond.classLink own z.catchType nm).before args s = true ∧ va_Nc E nm s)) (hx : covers x pc = true) (h0 : x.catchType ≠ 0)
    (hlink : (Cond.classLink own x.catchType name).before args s = true) (hcast : (Cond.castable E name).before args s = true) (hcell : H[q]? = some ce) (hv : ce.vm = .none) (hcl : s.vm.findClass E = some ce.cls)
    (kk : W p l e R s m args below meth c H locs cells slots Q (F0 m x.handlerPc ls [.ref q])) : vx_W p l e R s m args below meth c H locs cells slots Q (F0 m pc ls rest) q := by
  intro T hT X
  have hpl : e.platform.magicAccessors = ({} : Platform).magicAccessors := by rw [X.admits.platform]
  obtain ⟨c3, c4, hc3, hc4, hasg⟩ := Cond.castable_spec hcast
  cases Option.some.inj (hc3.symm.trans hcl)
  obtain ⟨c5, hc5, hcl5⟩ := Cond.classLink_spec hown hlink e.platform hpl
  cases Option.some.inj (hc4.symm.trans hc5)
  obtain ⟨vm', X', st⟩ := X.thenCaughtThrough q (g := F0 m pc ls rest) rfl (Steps.refl _) (by rw [hT]; exact hcell) (by rw [hv]; rfl) (by obtain ⟨k9, h9, -⟩ := Vm.findClass_spec hcl; exact ⟨k9, h9⟩) pre x suf hsplit
    (fun z hz => by
      rcases hpass z hz with h | ⟨hz0, nm, hl1, hn1⟩
      · exact Or.inl h
      · obtain ⟨c6, hc6, hcl6⟩ := Cond.classLink_spec hown hl1 e.platform hpl
        obtain ⟨a8, b8, h1, h2, h3⟩ := hn1
        cases Option.some.inj (h1.symm.trans hcl)
        cases Option.some.inj (h2.symm.trans hc6)
        exact Or.inr ⟨hz0, _, hcl6, h3⟩) hx (Or.inr ⟨h0, c4, hcl5, hasg⟩)
  obtain ⟨t, a1, b1⟩ := kk (T.setVm vm') hT X'
  exact ⟨t, st.trans a1, b1⟩
end Rows
section Ends
variable {p : Program} {l : Launch} {e : Env} {R : Room} {s : State} {m : MethodId} {args : Array Value} {below : List Frame} {meth : Method} {c : Code} {H : Heap} {locs : List Loc} {cells slots : Nat} {Q : State → Prop}
variable {mc ms : Nat} {free : Addr → Prop} {A0 A1 : Nat → Prop} {H0 : Heap} {a : Array Value} {ls : Array Slot} {st0 rest : List Value}
variable {Qc : Array Value → State → Outcome → State → Prop} {XC : String → State → State → Prop}
/-- what a body that may throw owes at its end -/
def vx_MQ (below : List Frame) (Qc : Array Value → State → Outcome → State → Prop) (XC : String → State → State → Prop) (a : Array Value) (s : State) (mc ms : Nat) (free : Addr → Prop) : State → Prop := fun t =>
  ∃ o, t.status = .running ∧ Ended t below o ∧ vx_Q Qc XC mc ms free a s o t
theorem vx_ret {g : JFrame} {mc ms : Nat} (k : W p l e R s m args below meth c H locs cells slots (MQ below Qc args s mc ms free) g) : W p l e R s m args below meth c H locs cells slots (vx_MQ below Qc XC args s mc ms free) g := by
  intro T hT X
  obtain ⟨t, a1, o, b1, b2, b3, b4⟩ := k T hT X
  exact ⟨t, a1, o, b1, b2, Or.inl ⟨b3, b4⟩⟩
/-- not caught here: it goes on to the caller -/
theorem vx_widen {g : JFrame} {q : Addr} {k n : Nat} (h1 : cells ≤ k) (h2 : slots ≤ n) (kk : vx_W p l e R s m args below meth c H locs k n Q g q) : vx_W p l e R s m args below meth c H locs cells slots Q g q := fun T hT X => kk T hT (stand_widen X h1 h2)
theorem vx_out {pc : Nat} {E : String} {ce : Cell} {q : Addr} {mc ms : Nat} (hout : ∀ x ∈ c.exceptionTable.toList, covers x pc = false) (hlocks : meth.locks = false) (hcell : H[q]? = some ce) (hv : ce.vm = .none) (hcl : s.vm.findClass E = some ce.cls)
    (hx : ∀ t : State, t.heap = H → s.vm.Alike t.vm → XC E s t) (hf : ∀ z ∈ locs, free z.base) (hc : cells ≤ mc) (hs : slots ≤ ms) :
    vx_W p l e R s m args below meth c H locs cells slots (vx_MQ below Qc XC args s mc ms free) (F0 m pc ls rest) q := by
  intro T hT X
  obtain ⟨st1, hrun, hend, hW, hsm⟩ := X.leaveThrown q (g := F0 m pc ls rest) rfl rfl rfl hout hlocks
  have hcell9 : (T.setFrames (.throwing q :: below)).heap[q]? = some ce := by
    show T.heap[q]? = some ce
    rw [hT]; exact hcell
  exact ⟨_, st1, .threw q, hrun, hend, Or.inr ⟨q, rfl, E, ce, locs, hx _ hT hW.alike, hcell9, hv, hcl, hW, hsm.mono hc hs, hf⟩⟩
theorem vx_frame {U : State} {k n : Nat} (h : s.sameButNew ({ U with vm := s.vm } : State) locs k n) : s.heap.size ≤ U.heap.size ∧ ∀ q : Nat, q < s.heap.size → (∀ z ∈ locs, z.base ≠ q) → U.heap[q]? = s.heap[q]? := by
  obtain ⟨-, h2, -, -, -, h6⟩ := h
  refine ⟨h2, fun q hq hz => ?_⟩
  obtain ⟨c9, e1, e2, e3, e4⟩ := h6 q _ (Array.getElem?_eq_getElem hq)
  have hs : c9.slots = (s.heap[q]).slots := Array.ext_getElem? fun i => e4 i fun hm => hz _ hm rfl
  have h9 : c9 = s.heap[q] := by
    rw [hs] at e2
    exact e2
  have e5 : U.heap[q]? = some c9 := e1
  rw [e5, h9, Array.getElem?_eq_getElem hq]
/-- the words of a throw but the four that speak of the heap -/
def vx_no (w : Cond) : Bool := decide (w ≠ .isRef (.static Bundle.tN "UNASSIGNED_STACK" Bundle.steD)) && decide (w ≠ .isRef (.static Bundle.tN "SUPPRESSED_SENTINEL" Bundle.listD)) && decide (w ≠ .laysStatic Bundle.tN "UNASSIGNED_STACK" Bundle.steD) && decide (w ≠ .laysStatic Bundle.tN "SUPPRESSED_SENTINEL" Bundle.listD)
def vx_at0 (own : String) (ic : Nat) (X : String) (names : List String) : List Cond := (Bundle.ownAtoms0 own ic X names).filter vx_no
def vx_atS (own : String) (ic : Nat) (X : String) (names : List String) : List Cond := (Bundle.ownAtoms own ic X names).filter vx_no
/-- a word that the tables alone decide, or a good one -/
def vx_ot (w : Cond) : Bool := w.onTables || goodWord w
theorem vx_ot_at {args a' : Array Value} {s U : State} {w : Cond} (hW : s.WarmedH U.vm) (hvm : s.vm = U.vm) (hg : vx_ot w = true) (h : w.before args s = true) : w.before a' U = true := by
  simp only [vx_ot, Bool.or_eq_true] at hg
  rcases hg with hg | hg
  · exact va_tabs hg hvm h
  · exact word_at hW (good_of_word hg) h
/-- a list's words: the good ones out of the method's own list, the others by premises of their own -/
theorem vx_hat {args : Array Value} {s : State} {L B : List Cond} (h1 : ∀ w ∈ L.filter goodWord, w.before args s = true) (h2 : ∀ w ∈ L.filter (fun w => !goodWord w), w ∈ B) (h3 : ∀ w ∈ B, w.before args s = true) : ∀ w ∈ L, w.before args s = true := by
  intro w hw
  by_cases g : goodWord w = true
  · exact h1 w (List.mem_filter.mpr ⟨hw, g⟩)
  · refine h3 w (h2 w (List.mem_filter.mpr ⟨hw, ?_⟩))
    show (!goodWord w) = true
    cases hgw : goodWord w
    · rfl
    · exact absurd hgw g
theorem vx_c {args : Array Value} {s : State} {w : Cond} {B : List Cond} (h : w.before args s = true) (t : ∀ w ∈ B, w.before args s = true) : ∀ w' ∈ w :: B, w'.before args s = true := fun w' h' => (List.mem_cons.mp h').elim (fun e => by rw [e]; exact h) (t w')
theorem vx_n {args : Array Value} {s : State} : ∀ w ∈ ([] : List Cond), w.before args s = true := fun _ h => nomatch h
theorem vx_own {args : Array Value} {s : State} {L : List Cond} (h1 : ∀ w ∈ L.filter vx_no, w.before args s = true)
    (hU : (Cond.isRef (.static Bundle.tN "UNASSIGNED_STACK" Bundle.steD)).before args s = true) (hN : (Cond.isRef (.static Bundle.tN "SUPPRESSED_SENTINEL" Bundle.listD)).before args s = true)
    (lU : (Cond.laysStatic Bundle.tN "UNASSIGNED_STACK" Bundle.steD).before args s = true) (lN : (Cond.laysStatic Bundle.tN "SUPPRESSED_SENTINEL" Bundle.listD).before args s = true) : ∀ w ∈ L, w.before args s = true := by
  intro w hw
  by_cases e1 : w = .isRef (.static Bundle.tN "UNASSIGNED_STACK" Bundle.steD)
  · rw [e1]; exact hU
  · by_cases e2 : w = .isRef (.static Bundle.tN "SUPPRESSED_SENTINEL" Bundle.listD)
    · rw [e2]; exact hN
    · by_cases e3 : w = .laysStatic Bundle.tN "UNASSIGNED_STACK" Bundle.steD
      · rw [e3]; exact lU
      · by_cases e4 : w = .laysStatic Bundle.tN "SUPPRESSED_SENTINEL" Bundle.listD
        · rw [e4]; exact lN
        · exact h1 w (List.mem_filter.mpr ⟨hw, by unfold vx_no; rw [decide_eq_true e1, decide_eq_true e2, decide_eq_true e3, decide_eq_true e4]; rfl⟩)
/-- where a static field lies, its class's statics cell in H -/
def vx_L (C n d : String) (A : Nat → Prop) (U : State) (H : Heap) : Prop := ∃ (c : ClassId) (k : Class) (i : Nat) (f : Field) (a : Nat) (cell : Cell), U.vm.findClass C = some c ∧ U.fieldFound? C n d = some (c, k, i, f) ∧ f.isStatic = true ∧ k.statics = some a ∧ H[a]? = some cell ∧ cell.vm.isStatics = true ∧ cell.cls = c ∧ f.slot < cell.slots.size ∧ k.staticTypes[f.slot]? = some f.type ∧ ¬ A a
theorem vx_L.moved {C n d : String} {A : Nat → Prop} {u U : State} {H : Heap} (hvm : u.vm.Alike U.vm) (h : vx_L C n d A u H) : vx_L C n d A U H := by
  obtain ⟨c, k, i, f, a, cell, h1, h2, h3, h4, h5, h6, h7, h8, h9, h10⟩ := h
  obtain ⟨k', hi', he⟩ := State.fieldFound?_setVm hvm h2
  exact ⟨c, k', i, f, a, cell, by rw [hvm.findClass]; exact h1, hi', h3, by rw [he]; exact h4, h5, h6, h7, h8, by rw [he]; exact h9, h10⟩
theorem vx_L.kept {C n d : String} {A : Nat → Prop} {U : State} {H H1 : Heap} (h : vx_L C n d A U H) (hq : ∀ a : Nat, a < H.size → ¬ A a → H1[a]? = H[a]?) : vx_L C n d A U H1 := by
  obtain ⟨c, k, i, f, a, cell, h1, h2, h3, h4, h5, h6, h7, h8, h9, h10⟩ := h
  exact ⟨c, k, i, f, a, cell, h1, h2, h3, h4, by rw [hq a (Array.getElem?_eq_some_iff.mp h5).1 h10]; exact h5, h6, h7, h8, h9, h10⟩
theorem vx_L.narrow {C n d : String} {A B : Nat → Prop} {U : State} {H : Heap} (h : vx_L C n d A U H) (hAB : ∀ q, B q → A q) : vx_L C n d B U H := by
  obtain ⟨c, k, i, f, a, cell, h1, h2, h3, h4, h5, h6, h7, h8, h9, h10⟩ := h
  exact ⟨c, k, i, f, a, cell, h1, h2, h3, h4, h5, h6, h7, h8, h9, fun z => h10 (hAB _ z)⟩
theorem vx_L.word {C n d : String} {A : Nat → Prop} {s : State} {args : Array Value} (h : vx_L C n d A s s.heap) : (Cond.laysStatic C n d).before args s = true := by
  obtain ⟨c, k, i, f, a, cell, h1, h2, h3, h4, h5, h6, h7, h8, h9, -⟩ := h
  show (Cond.laysStatic C n d).holds args s none s [] = true
  exact Cond.laysStatic_of h1 h2 h3 h4 h5 h6 h7 h8 h9
/-- .. and what it holds: null or some reference -/
def vx_Zq (C n d : String) (A : Nat → Prop) (U : State) (H : Heap) : Prop := va_Zq C n d A U H ∧ vx_L C n d A U H
theorem vx_Zq.moved {C n d : String} {A : Nat → Prop} {u U : State} {H : Heap} (hvm : u.vm.Alike U.vm) (h : vx_Zq C n d A u H) : vx_Zq C n d A U H := ⟨va_Zq.moved hvm h.1, vx_L.moved hvm h.2⟩
theorem vx_Zq.kept {C n d : String} {A : Nat → Prop} {U : State} {H H1 : Heap} (h : vx_Zq C n d A U H) (hq : ∀ a : Nat, a < H.size → ¬ A a → H1[a]? = H[a]?) : vx_Zq C n d A U H1 := ⟨va_Zq.kept h.1 hq, vx_L.kept h.2 hq⟩
theorem vx_Zq.narrow {C n d : String} {A B : Nat → Prop} {U : State} {H : Heap} (h : vx_Zq C n d A U H) (hAB : ∀ q, B q → A q) : vx_Zq C n d B U H := ⟨va_Zq.narrow h.1 hAB, vx_L.narrow h.2 hAB⟩
theorem vx_Zqof {args : Array Value} {s : State} {C n d : String} {A : Nat → Prop} (hl : (Cond.laysStatic C n d).before args s = true) (hini : (Cond.initialized C).before args s = true) (h : (Cond.isRef (.static C n d)).before args s = true) (hA : ∀ a : Nat, a < s.heap.size → ¬ A a) : vx_Zq C n d A s s.heap := by
  refine ⟨va_Zqof hl hini h hA, ?_⟩
  obtain ⟨c, k, i, f, a, cell, h1, h2, h3, h4, h5, h6, h7, h8, h9⟩ := Cond.laysStatic_spec hl
  exact ⟨c, k, i, f, a, cell, h1, h2, h3, h4, h5, h6, h7, h8, h9, hA a (Array.getElem?_eq_some_iff.mp h5).1⟩
theorem vx_isRef {C n d : String} {v : Value} {A : Nat → Prop} {s : State} {args : Array Value} (h : va_Z C n d v A s s.heap) (hv : v.isRef = true) : (Cond.isRef (.static C n d)).before args s = true := by
  obtain ⟨cf, kf, fi, f, a, cell, h1, h2, h3, h4, h5, h6, h7, -⟩ := h
  have he : (Term.static C n d).eval args s none [] s = some v := by
    simp [Term.eval, State.fieldNamed?, h1, h2, h4, h5, h6, h7]
  simp only [Cond.before, Cond.holds, Cond.value, he]
  cases v <;> simp_all [Value.isRef]
theorem vx_isRefq {C n d : String} {A : Nat → Prop} {s : State} {args : Array Value} (h : va_Zq C n d A s s.heap) : (Cond.isRef (.static C n d)).before args s = true := by
  rcases h with h | ⟨t, h⟩
  · exact vx_isRef h rfl
  · exact vx_isRef h rfl
/-- the same frame, seen from here: as if the method were called anew in this heap -/
theorem vx_rebase {T : State} (X : Stand p l e R s m args below meth c T locs cells slots) {R' : Room} (hf : R'.frames ≤ R.frames) (hl : R'.locals ≤ R.locals) (hc : cells + R'.cells ≤ R.cells) (hs : slots + R'.slots ≤ R.slots) :
    Stand p l e R' ((T.setVm s.vm).setFrames (.invoking m args :: below)) m args below meth c T [] 0 0 := by
  have htop : (T.setVm s.vm).topJava?.isSome := X.here.top
  have hF : ((T.setVm s.vm).setFrames (.invoking m args :: below)).frames = .invoking m args :: below := State.frames_setFrames _ (State.cur_lt_of_top htop)
  obtain ⟨g₀, hg0⟩ := Option.isSome_iff_exists.mp htop
  obtain ⟨r, hr⟩ := State.topJava?_eq_some.mp hg0
  have hl9 : e.platform.stackLimits (T.setVm s.vm).me = e.platform.stackLimits s.me := X.limits
  have hb9 : (T.setVm s.vm).me.stackBytes = s.me.stackBytes := X.bytes
  refine ⟨X.admits, X.cas, X.clock, hF, ?_, X.hears, X.method, X.code, X.here, X.tail, X.warmed, ?_, ?_, ?_⟩
  · have h := X.room
    have hU : ((T.setVm s.vm).setFrames (.invoking m args :: below)).localsInUse = s.localsInUse := by
      rw [State.localsInUse_invoking hF (meth := meth) (c := c) X.method X.code, State.localsInUse_invoking X.frames X.method X.code]
    simp only [State.hasRoom, Bool.and_eq_true, decide_eq_true_eq] at h ⊢
    obtain ⟨⟨⟨⟨h1, h2, h3, h4, h5, h6⟩, h7⟩, h8⟩, h9⟩ := h
    rw [X.frames, List.length_cons] at h2 h3
    have q1 := X.heapSize
    have q2 := X.used
    simp only [hF, hU, List.length_cons, State.stackLimits_setFrames, State.stackBytes_setFrames, hl9, hb9]
    refine ⟨⟨⟨⟨by omega, by omega, by omega, by omega, by omega, h6⟩, ?_⟩, ?_⟩, X.book⟩
    · show T.heap.size + R'.cells ≤ e.platform.maxCells
      omega
    · show T.slotsUsed + R'.slots ≤ e.platform.maxSlots
      omega
  · rw [State.stackLimits_setFrames]; rfl
  · rw [State.stackBytes_setFrames]; rfl
  · refine ⟨?_, Nat.le_refl _, Nat.le_refl _, ?_, ?_, fun a c9 h9 => ⟨c9, h9, rfl, rfl, fun _ _ => rfl⟩⟩
    · obtain ⟨t, ht, -⟩ := State.frames_cons hr
      show T.setVm s.vm = { ((T.setVm s.vm).setFrames (.invoking m args :: below)).setFrames (T.setVm s.vm).frames with heap := T.heap, slotsUsed := T.slotsUsed }
      rw [State.setFrames_setFrames, State.setFrames_self ht]
      rfl
    · show T.slotsUsed = T.slotsUsed + ((T.heap.toList.drop T.heap.size).map (·.slots.size)).sum
      rw [List.drop_eq_nil_of_le (Nat.le_of_eq Array.length_toList)]
      rfl
    · show ((T.heap.toList.drop T.heap.size).map (·.slots.size)).sum ≤ 0
      rw [List.drop_eq_nil_of_le (Nat.le_of_eq Array.length_toList)]
      exact Nat.le_refl _
/-- 'throw new E()': new; dup; invokespecial; athrow -/
theorem vx_throw0 {cc : ByteArray} {pc : Nat} (hexec : p.tables.exec = Jvm.exec) (hb : c.code = cc) (hl : l.stackTraces = false) {own cls : String} {names : List String} {ik ic mc ms : Nat} {A : Nat → Prop}
    (hown : s.vm.findClass own = some m.cls) (hcls : Bundle.fit cls = true) (hnames : ∀ n ∈ names, Bundle.fit n = true)
    (hk : (Cond.classLink own ik cls).before args s = true) (hini : (Cond.initialized cls).before args s = true) (hat : ∀ w ∈ vx_at0 own ic cls names, w.before args s = true)
    (hgood : ∀ w ∈ Cond.classLink own ik cls :: Cond.initialized cls :: vx_at0 own ic cls names, vx_ot w = true)
    (hU : vx_Zq Bundle.tN "UNASSIGNED_STACK" Bundle.steD A s s.heap) (hN : vx_Zq Bundle.tN "SUPPRESSED_SENTINEL" Bundle.listD A s s.heap) (hS : va_S A s.heap H locs) (hsize : ls.size = c.maxLocals)
    (d0 : decode cc pc = .ok (.new ik, 3)) (d3 : decode cc (pc + 3) = .ok (.dup, 1)) (d4 : decode cc (pc + 4) = .ok (.invokespecial ic, 3)) (d7 : decode cc (pc + 7) = .ok (.athrow, 1))
    (hout : ∀ x ∈ c.exceptionTable.toList, covers x (pc + 7) = false)
    (hRframes : names.length + 3 < R.frames) (hRlocals : (rest.map fun v => v.category).sum + (13 * (names.length + 1) + 42) ≤ R.locals) (hRcells : cells + 1 ≤ R.cells) (hRslots : slots + 6 ≤ R.slots) (hlocks : meth.locks = false)
    (hx : ∀ t : State, s.vm.Alike t.vm → H.size ≤ t.heap.size → (∀ q : Nat, q < H.size → t.heap[q]? = H[q]?) → XC cls s t)
    (hf : ∀ z ∈ locs, free z.base) (hc : cells + 1 ≤ mc) (hs : slots + 6 ≤ ms) :
    W p l e R s m args below meth c H locs cells slots (vx_MQ below Qc XC args s mc ms free) (F0 m pc ls rest) := by
  intro T hT X
  have htr : e.platform.stackTraces = false := (show e.platform.stackTraces = l.stackTraces by rw [X.admits.platform]).trans hl
  have Y := vx_rebase X (R' := { frames := R.frames, locals := R.locals, cells := 1, slots := 6 }) (Nat.le_refl _) (Nat.le_refl _) hRcells hRslots
  obtain ⟨s', hA⟩ : ∃ z, z = (T.setVm s.vm).setFrames (.invoking m args :: below) := ⟨_, rfl⟩
  rw [← hA] at Y
  have hvm : s'.vm = s.vm := by rw [hA]; rfl
  have hhp : s'.heap = H := by rw [hA]; exact hT
  have hW0 : s.WarmedH s'.vm := by rw [hvm]; exact State.WarmedH.refl s
  have hat' : ∀ w ∈ vx_at0 own ic cls names, w.before args s' = true := fun w hw => vx_ot_at hW0 hvm.symm (hgood w (List.mem_cons_of_mem _ (List.mem_cons_of_mem _ hw))) (hat w hw)
  have hk' : (Cond.classLink own ik cls).before args s' = true := vx_ot_at hW0 hvm.symm (hgood _ List.mem_cons_self) hk
  have hini' : (Cond.initialized cls).before args s' = true := vx_ot_at hW0 hvm.symm (hgood _ (List.mem_cons_of_mem _ List.mem_cons_self)) hini
  have hU' : vx_Zq Bundle.tN "UNASSIGNED_STACK" Bundle.steD A s' s'.heap := by rw [hhp]; exact vx_Zq.moved hW0.alike (hU.kept hS.2.1)
  have hN' : vx_Zq Bundle.tN "SUPPRESSED_SENTINEL" Bundle.listD A s' s'.heap := by rw [hhp]; exact vx_Zq.moved hW0.alike (hN.kept hS.2.1)
  have h : ∀ w ∈ Bundle.ownAtoms0 own ic cls names, w.before args s' = true := vx_own hat' (vx_isRefq hU'.1) (vx_isRefq hN'.1) hU'.2.word hN'.2.word
  have hown' : s'.vm.findClass own = some m.cls := by rw [hvm]; exact hown
  have hins : (Cond.instantiable cls 6).before args s' = true := h _ (by simp [Bundle.ownAtoms0])
  obtain ⟨vm₁, cX, kX, hfX, hkX, -, -, X₁, st1⟩ := Y.newCold hexec (own := own) (C := cls) (index := ik) (n := 6) hown' hk' hins hini'
    (g := F0 m pc ls rest) rfl (by rw [hb]; exact d0) (Nat.le_refl _) (Nat.le_refl _)
  generalize hT1 : (T.setVm vm₁).pushCell { cls := cX, slots := kX.instanceTypes.map defaultValue, vm := .none } = T1 at X₁ st1
  have hcat : (Value.ref T.heap.size).category = 1 := rfl
  have hcellA : T1.heap[T.heap.size]? = some (freshCell cX kX) := by rw [← hT1]; exact State.heap_pushCell_size _ _
  have d3' : decode c.code (pc + 3) = .ok (.dup, 1) := by rw [hb]; exact d3
  obtain ⟨U, hsteps, hrun, hend, hW, hsame, ce, hce, hO⟩ := X₁.ctorThrow0 hexec htr (own := own) (cls := cls) (names := names) (ic := ic) hown' hcls hnames h (fun x hx => nomatch hx) hfX hkX hcellA (by rw [hhp, hT]; exact Nat.le_refl _)
    (g := { method := m, pc := pc + 4, locals := ls, stack := .ref T.heap.size :: .ref T.heap.size :: rest, locked := none }) rfl hsize rfl rfl (rest := rest) rfl
    (by rw [hb]; exact d4) (by rw [hb]; exact d7) hout hRframes (by simp only [List.map_cons, List.sum_cons, hcat]; omega) hlocks
  obtain ⟨f1, f2⟩ := vx_frame hsame
  rw [hhp] at f1 f2
  have hWs : s.WarmedH U.vm := State.WarmedH.trans hW0 hW
  have hcl : s.vm.findClass cls = some ce.cls := by
    have h9 := hO.cls
    rw [hvm] at h9
    exact h9
  have hall : s.sameButNew ({ U with vm := s.vm } : State) locs mc ms := by
    subst hA
    obtain ⟨e1, e2⟩ := hsame
    rw [State.setFrames_setFrames] at e1
    have h2 : (T.setVm s.vm).sameButNew ({ U with vm := s.vm } : State) [] (0 + 1) (0 + 6) := ⟨e1, e2⟩
    have h3 := X.same.trans h2
    rw [List.append_nil] at h3
    exact h3.mono hc hs
  refine ⟨U, ?_, .threw T.heap.size, hrun, hend, Or.inr ⟨T.heap.size, rfl, cls, ce, locs, hx U hWs.alike f1 (fun q hq => f2 q hq (fun z hz => nomatch hz)), hce, hO.vm, hcl, hWs, hall, hf⟩⟩
  refine st1 _ ?_
  show Steps p.tables e below (T1.setTop { method := m, pc := pc + 3, locals := ls, stack := .ref T.heap.size :: rest, locked := none }) _
  jvm_step X₁.here [X₁.here.top, hexec, d3', Value.category]
  exact hsteps
/-- 'throw new E("text")': new; dup; ldc; invokespecial; athrow -/
theorem vx_throwS {cc : ByteArray} {pc : Nat} (hexec : p.tables.exec = Jvm.exec) (hb : c.code = cc) (hl : l.stackTraces = false) {own cls text : String} {names : List String} {ik is ic mc ms sa : Nat} {A : Nat → Prop}
    (hown : s.vm.findClass own = some m.cls) (hcls : Bundle.fit cls = true) (hnames : ∀ n ∈ names, Bundle.fit n = true)
    (hk : (Cond.classLink own ik cls).before args s = true) (hini : (Cond.initialized cls).before args s = true) (hstr : vk_R own is text sa s) (hat : ∀ w ∈ vx_atS own ic cls names, w.before args s = true)
    (hgood : ∀ w ∈ Cond.classLink own ik cls :: Cond.initialized cls :: vx_atS own ic cls names, vx_ot w = true)
    (hU : vx_Zq Bundle.tN "UNASSIGNED_STACK" Bundle.steD A s s.heap) (hN : vx_Zq Bundle.tN "SUPPRESSED_SENTINEL" Bundle.listD A s s.heap) (hS : va_S A s.heap H locs) (hsize : ls.size = c.maxLocals)
    (d0 : decode cc pc = .ok (.new ik, 3)) (d3 : decode cc (pc + 3) = .ok (.dup, 1)) (d4 : decode cc (pc + 4) = .ok (.ldc is, 2)) (d6 : decode cc (pc + 6) = .ok (.invokespecial ic, 3)) (d9 : decode cc (pc + 9) = .ok (.athrow, 1))
    (hout : ∀ x ∈ c.exceptionTable.toList, covers x (pc + 9) = false)
    (hRframes : names.length + 3 < R.frames) (hRlocals : (rest.map fun v => v.category).sum + (13 * (names.length + 1) + 43) ≤ R.locals) (hRcells : cells + 1 ≤ R.cells) (hRslots : slots + 6 ≤ R.slots) (hlocks : meth.locks = false)
    (hx : ∀ t : State, s.vm.Alike t.vm → H.size ≤ t.heap.size → (∀ q : Nat, q < H.size → t.heap[q]? = H[q]?) → XC cls s t)
    (hf : ∀ z ∈ locs, free z.base) (hc : cells + 1 ≤ mc) (hs : slots + 6 ≤ ms) :
    W p l e R s m args below meth c H locs cells slots (vx_MQ below Qc XC args s mc ms free) (F0 m pc ls rest) := by
  intro T hT X
  have htr : e.platform.stackTraces = false := (show e.platform.stackTraces = l.stackTraces by rw [X.admits.platform]).trans hl
  have Y := vx_rebase X (R' := { frames := R.frames, locals := R.locals, cells := 1, slots := 6 }) (Nat.le_refl _) (Nat.le_refl _) hRcells hRslots
  obtain ⟨s', hA⟩ : ∃ z, z = (T.setVm s.vm).setFrames (.invoking m args :: below) := ⟨_, rfl⟩
  rw [← hA] at Y
  have hvm : s'.vm = s.vm := by rw [hA]; rfl
  have hhp : s'.heap = H := by rw [hA]; exact hT
  have hW0 : s.WarmedH s'.vm := by rw [hvm]; exact State.WarmedH.refl s
  have hat' : ∀ w ∈ vx_atS own ic cls names, w.before args s' = true := fun w hw => vx_ot_at hW0 hvm.symm (hgood w (List.mem_cons_of_mem _ (List.mem_cons_of_mem _ hw))) (hat w hw)
  have hk' : (Cond.classLink own ik cls).before args s' = true := vx_ot_at hW0 hvm.symm (hgood _ List.mem_cons_self) hk
  have hini' : (Cond.initialized cls).before args s' = true := vx_ot_at hW0 hvm.symm (hgood _ (List.mem_cons_of_mem _ List.mem_cons_self)) hini
  have hU' : vx_Zq Bundle.tN "UNASSIGNED_STACK" Bundle.steD A s' s'.heap := by rw [hhp]; exact vx_Zq.moved hW0.alike (hU.kept hS.2.1)
  have hN' : vx_Zq Bundle.tN "SUPPRESSED_SENTINEL" Bundle.listD A s' s'.heap := by rw [hhp]; exact vx_Zq.moved hW0.alike (hN.kept hS.2.1)
  have h : ∀ w ∈ Bundle.ownAtoms own ic cls names, w.before args s' = true := vx_own hat' (vx_isRefq hU'.1) (vx_isRefq hN'.1) hU'.2.word hN'.2.word
  have hown' : s'.vm.findClass own = some m.cls := by rw [hvm]; exact hown
  have hins : (Cond.instantiable cls 6).before args s' = true := h _ (by simp [Bundle.ownAtoms])
  obtain ⟨vm₁, cX, kX, hfX, hkX, -, -, X₁, st1⟩ := Y.newCold hexec (own := own) (C := cls) (index := ik) (n := 6) hown' hk' hins hini'
    (g := F0 m pc ls rest) rfl (by rw [hb]; exact d0) (Nat.le_refl _) (Nat.le_refl _)
  generalize hT1 : (T.setVm vm₁).pushCell { cls := cX, slots := kX.instanceTypes.map defaultValue, vm := .none } = T1 at X₁ st1
  have hcat : (Value.ref T.heap.size).category = 1 := rfl
  have hcellA : T1.heap[T.heap.size]? = some (freshCell cX kX) := by rw [← hT1]; exact State.heap_pushCell_size _ _
  have d3' : decode c.code (pc + 3) = .ok (.dup, 1) := by rw [hb]; exact d3
  have d4' : decode c.code (pc + 4) = .ok (.ldc is, 2) := by rw [hb]; exact d4
  have hstr' : vk_R own is text sa s' := vk_R.warm hW0 hstr
  obtain ⟨U, hsteps, hrun, hend, hW, hsame, ce, hce, hO⟩ := X₁.ctorThrowS hexec htr (own := own) (cls := cls) (names := names) (ic := ic) hown' hcls hnames h (fun x hx => nomatch hx) hfX hkX hcellA (by rw [hhp, hT]; exact Nat.le_refl _) (msg := .ref sa) rfl
    (g := { method := m, pc := pc + 6, locals := ls, stack := .ref sa :: .ref T.heap.size :: .ref T.heap.size :: rest, locked := none }) rfl hsize rfl rfl (rest := rest) rfl
    (by rw [hb]; exact d6) (by rw [hb]; exact d9) hout hRframes (by simp only [List.map_cons, List.sum_cons, hcat]; omega) hlocks
  obtain ⟨f1, f2⟩ := vx_frame hsame
  rw [hhp] at f1 f2
  have hWs : s.WarmedH U.vm := State.WarmedH.trans hW0 hW
  have hcl : s.vm.findClass cls = some ce.cls := by
    have h9 := hO.cls
    rw [hvm] at h9
    exact h9
  have hall : s.sameButNew ({ U with vm := s.vm } : State) locs mc ms := by
    subst hA
    obtain ⟨e1, e2⟩ := hsame
    rw [State.setFrames_setFrames] at e1
    have h2 : (T.setVm s.vm).sameButNew ({ U with vm := s.vm } : State) [] (0 + 1) (0 + 6) := ⟨e1, e2⟩
    have h3 := X.same.trans h2
    rw [List.append_nil] at h3
    exact h3.mono hc hs
  refine ⟨U, ?_, .threw T.heap.size, hrun, hend, Or.inr ⟨T.heap.size, rfl, cls, ce, locs, hx U hWs.alike f1 (fun q hq => f2 q hq (fun z hz => nomatch hz)), hce, hO.vm, hcl, hWs, hall, hf⟩⟩
  refine st1 _ ?_
  show Steps p.tables e below (T1.setTop { method := m, pc := pc + 3, locals := ls, stack := .ref T.heap.size :: rest, locked := none }) _
  jvm_step X₁.here [X₁.here.top, hexec, d3', Value.category]
  exact X₁.ldcString hexec (own := own) (text := text) (index := is) (a := sa) hown' hstr'.1 hstr'.2
    (g := { method := m, pc := pc + 4, locals := ls, stack := .ref T.heap.size :: .ref T.heap.size :: rest, locked := none }) rfl d4' _ hsteps
/-- 'throw new E("text")', the text by a wide index -/
theorem vx_throwSW {cc : ByteArray} {pc : Nat} (hexec : p.tables.exec = Jvm.exec) (hb : c.code = cc) (hl : l.stackTraces = false) {own cls text : String} {names : List String} {ik is ic mc ms sa : Nat} {A : Nat → Prop}
    (hown : s.vm.findClass own = some m.cls) (hcls : Bundle.fit cls = true) (hnames : ∀ n ∈ names, Bundle.fit n = true)
    (hk : (Cond.classLink own ik cls).before args s = true) (hini : (Cond.initialized cls).before args s = true) (hstr : vk_R own is text sa s) (hat : ∀ w ∈ vx_atS own ic cls names, w.before args s = true)
    (hgood : ∀ w ∈ Cond.classLink own ik cls :: Cond.initialized cls :: vx_atS own ic cls names, vx_ot w = true)
    (hU : vx_Zq Bundle.tN "UNASSIGNED_STACK" Bundle.steD A s s.heap) (hN : vx_Zq Bundle.tN "SUPPRESSED_SENTINEL" Bundle.listD A s s.heap) (hS : va_S A s.heap H locs) (hsize : ls.size = c.maxLocals)
    (d0 : decode cc pc = .ok (.new ik, 3)) (d3 : decode cc (pc + 3) = .ok (.dup, 1)) (d4 : decode cc (pc + 4) = .ok (.ldc_w is, 3)) (d7 : decode cc (pc + 7) = .ok (.invokespecial ic, 3)) (d10 : decode cc (pc + 10) = .ok (.athrow, 1))
    (hout : ∀ x ∈ c.exceptionTable.toList, covers x (pc + 10) = false)
    (hRframes : names.length + 3 < R.frames) (hRlocals : (rest.map fun v => v.category).sum + (13 * (names.length + 1) + 43) ≤ R.locals) (hRcells : cells + 1 ≤ R.cells) (hRslots : slots + 6 ≤ R.slots) (hlocks : meth.locks = false)
    (hx : ∀ t : State, s.vm.Alike t.vm → H.size ≤ t.heap.size → (∀ q : Nat, q < H.size → t.heap[q]? = H[q]?) → XC cls s t)
    (hf : ∀ z ∈ locs, free z.base) (hc : cells + 1 ≤ mc) (hs : slots + 6 ≤ ms) :
    W p l e R s m args below meth c H locs cells slots (vx_MQ below Qc XC args s mc ms free) (F0 m pc ls rest) := by
  intro T hT X
  have htr : e.platform.stackTraces = false := (show e.platform.stackTraces = l.stackTraces by rw [X.admits.platform]).trans hl
  have Y := vx_rebase X (R' := { frames := R.frames, locals := R.locals, cells := 1, slots := 6 }) (Nat.le_refl _) (Nat.le_refl _) hRcells hRslots
  obtain ⟨s', hA⟩ : ∃ z, z = (T.setVm s.vm).setFrames (.invoking m args :: below) := ⟨_, rfl⟩
  rw [← hA] at Y
  have hvm : s'.vm = s.vm := by rw [hA]; rfl
  have hhp : s'.heap = H := by rw [hA]; exact hT
  have hW0 : s.WarmedH s'.vm := by rw [hvm]; exact State.WarmedH.refl s
  have hat' : ∀ w ∈ vx_atS own ic cls names, w.before args s' = true := fun w hw => vx_ot_at hW0 hvm.symm (hgood w (List.mem_cons_of_mem _ (List.mem_cons_of_mem _ hw))) (hat w hw)
  have hk' : (Cond.classLink own ik cls).before args s' = true := vx_ot_at hW0 hvm.symm (hgood _ List.mem_cons_self) hk
  have hini' : (Cond.initialized cls).before args s' = true := vx_ot_at hW0 hvm.symm (hgood _ (List.mem_cons_of_mem _ List.mem_cons_self)) hini
  have hU' : vx_Zq Bundle.tN "UNASSIGNED_STACK" Bundle.steD A s' s'.heap := by rw [hhp]; exact vx_Zq.moved hW0.alike (hU.kept hS.2.1)
  have hN' : vx_Zq Bundle.tN "SUPPRESSED_SENTINEL" Bundle.listD A s' s'.heap := by rw [hhp]; exact vx_Zq.moved hW0.alike (hN.kept hS.2.1)
  have h : ∀ w ∈ Bundle.ownAtoms own ic cls names, w.before args s' = true := vx_own hat' (vx_isRefq hU'.1) (vx_isRefq hN'.1) hU'.2.word hN'.2.word
  have hown' : s'.vm.findClass own = some m.cls := by rw [hvm]; exact hown
  have hins : (Cond.instantiable cls 6).before args s' = true := h _ (by simp [Bundle.ownAtoms])
  obtain ⟨vm₁, cX, kX, hfX, hkX, -, -, X₁, st1⟩ := Y.newCold hexec (own := own) (C := cls) (index := ik) (n := 6) hown' hk' hins hini'
    (g := F0 m pc ls rest) rfl (by rw [hb]; exact d0) (Nat.le_refl _) (Nat.le_refl _)
  generalize hT1 : (T.setVm vm₁).pushCell { cls := cX, slots := kX.instanceTypes.map defaultValue, vm := .none } = T1 at X₁ st1
  have hcat : (Value.ref T.heap.size).category = 1 := rfl
  have hcellA : T1.heap[T.heap.size]? = some (freshCell cX kX) := by rw [← hT1]; exact State.heap_pushCell_size _ _
  have d3' : decode c.code (pc + 3) = .ok (.dup, 1) := by rw [hb]; exact d3
  have d4' : decode c.code (pc + 4) = .ok (.ldc_w is, 3) := by rw [hb]; exact d4
  have hstr' : vk_R own is text sa s' := vk_R.warm hW0 hstr
  obtain ⟨U, hsteps, hrun, hend, hW, hsame, ce, hce, hO⟩ := X₁.ctorThrowS hexec htr (own := own) (cls := cls) (names := names) (ic := ic) hown' hcls hnames h (fun x hx => nomatch hx) hfX hkX hcellA (by rw [hhp, hT]; exact Nat.le_refl _) (msg := .ref sa) rfl
    (g := { method := m, pc := pc + 7, locals := ls, stack := .ref sa :: .ref T.heap.size :: .ref T.heap.size :: rest, locked := none }) rfl hsize rfl rfl (rest := rest) rfl
    (by rw [hb]; exact d7) (by rw [hb]; exact d10) hout hRframes (by simp only [List.map_cons, List.sum_cons, hcat]; omega) hlocks
  obtain ⟨f1, f2⟩ := vx_frame hsame
  rw [hhp] at f1 f2
  have hWs : s.WarmedH U.vm := State.WarmedH.trans hW0 hW
  have hcl : s.vm.findClass cls = some ce.cls := by
    have h9 := hO.cls
    rw [hvm] at h9
    exact h9
  have hall : s.sameButNew ({ U with vm := s.vm } : State) locs mc ms := by
    subst hA
    obtain ⟨e1, e2⟩ := hsame
    rw [State.setFrames_setFrames] at e1
    have h2 : (T.setVm s.vm).sameButNew ({ U with vm := s.vm } : State) [] (0 + 1) (0 + 6) := ⟨e1, e2⟩
    have h3 := X.same.trans h2
    rw [List.append_nil] at h3
    exact h3.mono hc hs
  refine ⟨U, ?_, .threw T.heap.size, hrun, hend, Or.inr ⟨T.heap.size, rfl, cls, ce, locs, hx U hWs.alike f1 (fun q hq => f2 q hq (fun z hz => nomatch hz)), hce, hO.vm, hcl, hWs, hall, hf⟩⟩
  refine st1 _ ?_
  show Steps p.tables e below (T1.setTop { method := m, pc := pc + 3, locals := ls, stack := .ref T.heap.size :: rest, locked := none }) _
  jvm_step X₁.here [X₁.here.top, hexec, d3', Value.category]
  exact X₁.ldcStringW hexec (own := own) (text := text) (index := is) (a := sa) hown' hstr'.1 hstr'.2
    (g := { method := m, pc := pc + 4, locals := ls, stack := .ref T.heap.size :: .ref T.heap.size :: rest, locked := none }) rfl d4' _ hsteps
end Ends
section Bodies
variable {l : Launch}
theorem vx_ofW {y : MethodName} {ws ws' : List Cond} {rm : Room} {Pc : Array Value → State → Prop} {Qc : Array Value → State → Outcome → State → Prop} {XC : String → State → State → Prop} {mc ms : Nat} {free : Addr → Prop} {cc : ByteArray} {maxL : Nat} {ret : Option FieldType}
    (hy : plainName y.cls = true) (hw : ws = Cond.code y cc maxL ret :: ws')
    (body : ∀ p e s m args below meth c s₁, BodyLoose p l y (headSpec ws rm) cc maxL ret e s m args below meth c s₁ → c.maxLocals = maxL → (∀ x ∈ c.exceptionTable.toList, False) → Pc args s →
      W p l e (headSpec ws rm).room s m args below meth c s.heap [] 0 0 (vx_MQ below Qc XC args s mc ms free) (entryFrame m args maxL)) : vx_Met l y ws rm Pc Qc XC mc ms free := by
  refine MetFree.of_bodyS (code := cc) (maxLocals := maxL) (ret := ret) hy ?_ ?_
  · intro args s m h hn
    obtain ⟨meth, c, h1, h2, h3, h4, h5, h6, -, -⟩ := Cond.code_spec hn (atoms_spec (ws := ws) h _ (by rw [hw]; exact List.mem_cons_self))
    exact ⟨meth, c, h1, h2, h3, h4, h5, h6⟩
  · intro p e s m args below meth c s₁ B hml hP _
    have hh0 : s₁.heap = s.heap := by rw [B.state]; rfl
    have ht : ∀ x ∈ c.exceptionTable.toList, False := by
      obtain ⟨meth9, c9, h1, h2, -, -, -, -, h7, -⟩ := Cond.code_spec B.named (atoms_spec (ws := ws) B.pre _ (by rw [hw]; exact List.mem_cons_self))
      cases Option.some.inj (h1.symm.trans B.method)
      cases Option.some.inj (h2.symm.trans (Stand.of_body B).code)
      intro x hx
      rw [Array.isEmpty_iff.mp h7] at hx
      cases hx
    obtain ⟨t, a1, o, b1, b2, b3⟩ := body p e s m args below meth c s₁ B hml ht hP s₁ hh0 (Stand.of_body B)
    exact ⟨t, o, a1, b1, b2, b3⟩
/-- the table of a body with handlers -/
theorem vx_table {p : Program} {x y : MethodName} {S : Spec} {cc bytes : ByteArray} {maxL maxL' : Nat} {ret ret' : Option FieldType} {e : Env} {s s₁ : State} {m : MethodId} {args : Array Value} {below : List Frame} {meth : Method} {c : Code} {hh : List (Nat × Nat × Nat × Nat)}
    (B : BodyLoose p l y S cc maxL ret e s m args below meth c s₁) (h : (Cond.codeWith y bytes maxL' ret' hh).before args s = true) : c.exceptionTable.toList = tableOf hh := by
  obtain ⟨m9, meth9, c9, hn9, h1, h2, -, -, h6, -⟩ := Cond.codeWith_spec h
  cases Option.some.inj (hn9.symm.trans B.named)
  cases Option.some.inj (h1.symm.trans B.method)
  cases Option.some.inj (h2.symm.trans (Stand.of_body B).code)
  rw [← h6, table_eq]
end Bodies
end VXA
/-! ===== END ===== -/
/-! ===== BEGIN a static call of a method with an exception table ===== -/
section VXS
variable {p : Program} {l : Launch} {e : Env} {R : Room} {s : State} {m : MethodId} {args : Array Value} {below : List Frame} {meth : Method} {c : Code} {T : State} {H : Heap} {locs : List Loc} {cells slots : Nat}
abbrev vx_CSW (R : Room) (s : State) (args : Array Value) (own : String) (index : Nat) (y : MethodName) (bytes : ByteArray) (maxL : Nat) (ret : Option FieldType) (hh : List (Nat × Nat × Nat × Nat)) (ws : List Cond) (rm : Room) (mc ms n : Nat) : Prop :=
  (rm.cells = mc ∧ rm.slots = ms ∧ rm.frames + 1 ≤ R.frames ∧ 8 + (maxL + 11) + rm.locals ≤ R.locals ∧ (∀ w ∈ ws, ∀ (a' : Array Value) (U : State), s.WarmedH U.vm → w.before a' U = true) ∧ Cond.codeWith y bytes maxL ret hh ∈ ws) ∧
  (Cond.codeWith y bytes maxL ret hh).before args s = true ∧ (Cond.initialized y.cls).before args s = true ∧ (y.cls ≠ "java/lang/invoke/MethodHandle" ∧ y.cls ≠ "java/lang/invoke/VarHandle") ∧
  (∀ sig, parseMethodDescriptor y.desc = some sig → n = sig.parameters.length) ∧ (Cond.methodLink own index y).before args s = true ∧ (Cond.static y).before args s = true
theorem vx_cwSW {own : String} {index maxL mc ms : Nat} {y : MethodName} {bytes : ByteArray} {ret : Option FieldType} {hh : List (Nat × Nat × Nat × Nat)} {Ts ws ws' : List Cond} {rm : Room} (n : Nat) (ht : ∀ w ∈ Ts, w.before args s = true) (hT : GoodIn Ts (va_wsS own index y ws)) (hw : ws = Cond.codeWith y bytes maxL ret hh :: ws') (hrc : rm.cells = mc) (hrs : rm.slots = ms)
    (hd : y.cls ≠ "java/lang/invoke/MethodHandle" ∧ y.cls ≠ "java/lang/invoke/VarHandle" ∧ (parseMethodDescriptor y.desc).map (fun d => d.parameters.length) = some n) (hR : rm.frames + 1 ≤ R.frames ∧ 8 + (maxL + 11) + rm.locals ≤ R.locals) :
    vx_CSW R s args own index y bytes maxL ret hh ws rm mc ms n := by
  have ok : ∀ w ∈ va_wsS own index y ws, w.before args s = true := fun w h => ht w (hT w h).1
  have hG : GoodIn Ts ws := fun w h => hT w (by unfold va_wsS; exact List.mem_append_right _ h)
  have hc : Cond.codeWith y bytes maxL ret hh ∈ ws := by rw [hw]; exact List.mem_cons_self
  refine ⟨⟨hrc, hrs, hR.1, hR.2, pay_in ht hG, hc⟩, ht _ (hG _ hc).1, ok _ (by simp [va_wsS]), ⟨hd.1, hd.2.1⟩, fun sig h => ?_, ok _ (by simp [va_wsS]), ok _ (by simp [va_wsS])⟩
  have h2 := hd.2.2
  rw [h] at h2
  exact (Option.some.inj h2).symm
theorem vx_callSW (X : Stand p l e R s m args below meth c T locs cells slots) (hexec : p.tables.exec = Jvm.exec) {own : String} {index : Nat} {y : MethodName} {bytes : ByteArray} {maxL : Nat} {ret : Option FieldType} {hh : List (Nat × Nat × Nat × Nat)}
    (hown : s.vm.findClass own = some m.cls) (hlink : (Cond.methodLink own index y).before args s = true) (hstat : (Cond.static y).before args s = true) (hinit : (Cond.initialized y.cls).before args s = true)
    (hcode : (Cond.codeWith y bytes maxL ret hh).before args s = true) (hy : y.cls ≠ "java/lang/invoke/MethodHandle" ∧ y.cls ≠ "java/lang/invoke/VarHandle")
    {W9 : Nat} {Pre : Pt → Array Value → Prop} {Post : Pt → Array Value → Option Value → Pt → Prop} (hK : Back l R p e below s args y 3 W9 Pre Post)
    {g : JFrame} (hg : g.method = m) (hsize : g.locals.size = c.maxLocals) {argsL rest : List Value} (hlen : ∀ sig, parseMethodDescriptor y.desc = some sig → argsL.length = sig.parameters.length)
    (hstack : g.stack = argsL.reverse ++ rest) (hW : 2 * g.monitorRoom + (rest.map fun v => v.category).sum ≤ W9) (hdg : decode c.code g.pc = .ok (.invokestatic index, 3))
    (hpre : ∀ vm₁, s.WarmedH vm₁ → Pre ⟨T.setVm vm₁, locs, cells, slots⟩ argsL.toArray) :
    ∃ (v : Option Value) (vm₁ : Vm) (B : Pt), s.WarmedH vm₁ ∧ Stand p l e R s m args below meth c B.U B.locs B.cells B.slots ∧ Post ⟨T.setVm vm₁, locs, cells, slots⟩ argsL.toArray v B ∧
      ∀ target, Steps p.tables e below (B.U.setTop { g with pc := g.pc + 3, stack := v.toList ++ rest }) target → Steps p.tables e below (T.setTop g) target := by
  obtain ⟨mk, methM, cM, hnamed, hmethM, -, -, -, -, -, -, hsigM⟩ := Cond.codeWith_spec hcode
  have hstatic : methM.isStatic = true := Cond.static_spec hnamed hmethM hstat
  obtain ⟨kP, hkP, -⟩ := className_of_methodNamed hnamed
  have hinitP : kP.init = .initialized := Cond.initialized_spec (findClass_of_methodNamed hnamed) hkP hinit
  obtain ⟨vm₁, X₁, hstep₁⟩ := X.invokestatic hexec hown hlink hnamed hmethM hstatic hkP hinitP hy (g := g) hg (argsL := argsL) (rest := rest) (hlen _ hsigM) hstack hdg
  obtain ⟨v, B, X', hpost, hsteps⟩ := hK m meth c ⟨T.setVm vm₁, locs, cells, slots⟩ { g with stack := rest } (.invokestatic index) mk argsL.toArray X₁ hg hsize hdg hW (X₁.named hnamed) (hpre vm₁ X₁.warmed)
  exact ⟨v, vm₁, B, X₁.warmed, X', hpost, fun target h => hstep₁ _ fun acts => by rw [doInvoke_state]; exact hsteps.trans h⟩
theorem vx_runSW {y : MethodName} {bytes cc : ByteArray} {maxL nL mc ms n index : Nat} {ret : Option FieldType} {hh : List (Nat × Nat × Nat × Nat)} {ws : List Cond} {rm : Room} {Pc : Array Value → State → Prop} {Qc : Array Value → State → Outcome → State → Prop} {free : Addr → Prop} {Ts : List Cond} {own : String} {As rest : List Value} {g : JFrame}
    (S : CallFix p m c cc nL s args Ts own) (hM : Met l y ws rm Pc Qc mc ms free) (cw : vx_CSW R s args own index y bytes maxL ret hh ws rm mc ms n) (hp : PreS s H Pc As)
    (hg : g.method = m) (hn : As.length = n) (hsize : g.locals.size = nL) (hstack : g.stack = As.reverse ++ rest) (hW : 2 * g.monitorRoom + (rest.map fun v => v.category).sum ≤ 8) (hdg : decode cc g.pc = .ok (.invokestatic index, 3)) (hf : cells + mc ≤ R.cells ∧ slots + ms ≤ R.slots) :
    va_Run p l e R s m args below meth c H locs cells slots mc ms g rest (Qc As.toArray) (free) := by
  obtain ⟨⟨hrc, hrs, hfr, hlo, hws, hcw⟩, hcode, hini, hy, hlen, hl, hstt⟩ := cw
  have hK : Back l R p e below s args y 3 8 (PreOf R mc ms Pc) (PostOf Qc mc ms free) := va_backW (hh := hh) (bytes := bytes) (maxL := maxL) (ret := ret) hM hp.1 hrc hrs hfr hlo hws hcw (fun a' U hW => word_at hW (Or.inl (by first | rfl | simp [Cond.onTables, Cond.keeps, Cond.steady])) hini)
  obtain ⟨hx, hb, hml, ho, -⟩ := S
  intro T hT X
  obtain ⟨v, vm₁, ⟨U', l2, c2, s2⟩, hW₁, X', ⟨g', mk, t, L, e1, e2, hq, h1, hL, h2, h3⟩, st⟩ := vx_callSW X hx (hh := hh) (bytes := bytes) (maxL := maxL) (ret := ret) ho hl hstt hini hcode hy hK hg (hsize.trans hml.symm) (argsL := As) (rest := rest) (fun sig h => hn.trans (hlen sig h)) hstack hW (by rw [hb]; exact hdg)
    (fun vm₁ hW₁ => ⟨hf.1, hf.2, hp.2 (T.setVm vm₁) hT hW₁⟩)
  dsimp only [Pt.U, Pt.locs, Pt.cells, Pt.slots] at X' e1 e2 h1 h2 h3 st
  subst h1; subst h2; subst h3
  exact ⟨v, (T.setVm vm₁).calling g' mk As.toArray, t, U', L, hT, X', hL, e1, e2, hq, st⟩
/-- a thing of a world lies in the heap -/
theorem vx_lt {D : va_G} {cl : List vw_C} {ws : va_W} {H1 : Heap} (h : va_P D cl ws H1) {k : Nat} {q : Nat × va_E} (hk : ws[k]? = some q) : q.1 < H1.size := (h k q hk).lt
end VXS
/-! ===== END ===== -/
/-! ===== BEGIN methods with a table of their own: called by a name, returning or throwing ===== -/
section VXH
/-! vx_backW, vx_callVX, vx_callSX, vx_callVW, vx_runVW, vx_runVX, vx_runSX, vx_ofWH follow the same proofs as their sisters above (Free/Laws.lean, Shelf42/LK1.lean); vx_outP calls Shelf42/NT130.lean (outThrough). -/
section
variable {l : Launch} {R : Room} {p : Program} {e : Env} {below : List Frame} {s : State} {sargs : Array Value} {y : MethodName} {len W9 : Nat}
theorem vx_backW {ws : List Cond} {rm : Room} {Pc : Array Value → State → Prop} {Qc : Array Value → State → Outcome → State → Prop} {XC : String → State → State → Prop} {mc ms : Nat} {free : Addr → Prop} {bytes : ByteArray} {maxL : Nat} {ret : Option FieldType} {hh : List (Nat × Nat × Nat × Nat)}
    (hM : vx_Met l y ws rm Pc Qc XC mc ms free) (hblind : FrameBlind Pc) (hrc : rm.cells = mc) (hrs : rm.slots = ms)
    (hframes : rm.frames + 1 ≤ R.frames) (hlocals : W9 + (maxL + 11) + rm.locals ≤ R.locals)
    (hws : ∀ w ∈ ws, ∀ a' U, s.WarmedH U.vm → w.before a' U = true) (hcode : Cond.codeWith y bytes maxL ret hh ∈ ws) (hinit : ∀ a' U, s.WarmedH U.vm → (Cond.initialized y.cls).before a' U = true) :
    vx_Back l R p e below s sargs y len W9 (PreOf R mc ms Pc) (PostOf Qc mc ms free) (vx_Post XC mc ms free) := by
  intro m meth c A g ig mk a X hg hsize hdg hW hn hp
  have h1 : (headSpec ws rm).pre.before a A.U = true := atoms_intro fun w hw => hws w hw _ _ X.warmed
  have h2 : (Cond.codeWith y bytes maxL ret hh).before a A.U = true := hws _ hcode _ _ X.warmed
  have h3 : (Cond.initialized y.cls).before a A.U = true := hinit _ _ X.warmed
  have h4 : A.cells + (headSpec ws rm).room.cells ≤ R.cells := by rw [show (headSpec ws rm).room.cells = mc from hrc]; exact hp.1
  have h5 : A.slots + (headSpec ws rm).room.slots ≤ R.slots := by rw [show (headSpec ws rm).room.slots = ms from hrs]; exact hp.2.1
  have hPc : Pc a (A.U.calling g mk a) := hblind _ _ _ _ hp.2.2
  obtain ⟨U, Ls, c0, s0⟩ := A
  dsimp only [Pt.U, Pt.locs, Pt.cells, Pt.slots] at h1 h2 h3 h4 h5 X hn hPc ⊢
  obtain ⟨m9, methY, cY, hn9, hmY, hcY, -, hlY, -⟩ := Cond.codeWith_spec h2
  cases Option.some.inj (hn9.symm.trans hn)
  obtain ⟨kY, hkY, -⟩ := className_of_methodNamed hn
  have hinitY : kY.init = .initialized := Cond.initialized_spec (findClass_of_methodNamed hn) hkY h3
  have h : At U g.method c below := by rw [hg]; exact X.here
  have hlocals9 : W9 + (maxL + 11) + (headSpec ws rm).room.locals ≤ R.locals := hlocals
  have happ : (headSpec ws rm).appliesLoose y e.platform (U.calling g mk a) = true :=
    Spec.appliesLoose_calling (g := g) h hdg hn hkY hinitY
      (X.room_calling (g := g) (R' := (headSpec ws rm).room) hsize hmY hcY hframes (by rw [hlY]; omega) h4 h5) h1
  obtain ⟨mid, hmid⟩ := h.above
  have hfr : (U.setTop g).frames = (.java g :: mid) ++ below := by rw [State.frames_setTop' g h.top, hmid]; rfl
  obtain ⟨o, s₂, hsteps, -, hend, hq⟩ := Steps.callFree hM p X.admits X.cas X.clock (acts := []) hfr happ hPc trivial
  have hq' : vx_Q Qc XC mc ms free a (U.calling g mk a) o s₂ := hq
  rw [State.frames_setTop' g h.top] at hend
  obtain ⟨g₀, hg0⟩ := Option.isSome_iff_exists.mp h.top
  obtain ⟨r, hr⟩ := State.topJava?_eq_some.mp hg0
  have hr' : (({ U with heap := s₂.heap, slotsUsed := s₂.slotsUsed } : State).setVm s₂.vm).frames = .java g₀ :: r := hr
  rcases hq' with ⟨hqc, L, hfe, hL⟩ | ⟨q, rfl, E, ce, L, hx, hce, hcv, hcl, hW₂, hsm, hL⟩
  · obtain ⟨⟨v, rfl⟩, hW₂, e2, q2, q3, q4, q5, q6⟩ := id hfe
    have e3 : s₂ = ({ (U.calling g mk a).setFrames s₂.frames with heap := s₂.heap, slotsUsed := s₂.slotsUsed } : State).setVm s₂.vm := by
      have : s₂ = ({ s₂ with vm := (U.calling g mk a).vm } : State).setVm s₂.vm := rfl
      rw [e2] at this
      exact this
    obtain ⟨c₂, i₂, len₂, hc₂, hd₂, hf₂⟩ := hend
    have hW' : U.WarmedH s₂.vm := hW₂
    have hcc : c₂ = c := by
      have h1 : s₂.code? g.method = U.code? g.method := by
        rw [State.code?_eq, State.code?_eq, hW'.alike.method?]
      exact Option.some.inj (hc₂.symm.trans (h1.trans h.code))
    subst hcc
    have hlen : len₂ = len := by rw [hdg] at hd₂; cases hd₂; rfl
    subst hlen
    have hs₂ : s₂ = (({ U with heap := s₂.heap, slotsUsed := s₂.slotsUsed } : State).setVm s₂.vm).setTop { g with pc := g.pc + len₂, stack := v.toList ++ g.stack } := by
      refine e3.trans ?_
      rw [hf₂, State.calling_eq h.top, State.setFrames_setFrames, State.setTop_of_frames _ hr', hr]
      rfl
    have hsame : U.sameButNew ({ U with heap := s₂.heap, slotsUsed := s₂.slotsUsed } : State) L mc ms := by
      refine ⟨?_, q2, q3, q4, q5, q6⟩
      obtain ⟨t, ht, -⟩ := State.frames_cons hr
      show ({ U with heap := s₂.heap, slotsUsed := s₂.slotsUsed } : State) = { U.setFrames U.frames with heap := s₂.heap, slotsUsed := s₂.slotsUsed }
      rw [State.setFrames_self ht]
    subst hg
    refine Or.inl ⟨v, ⟨(({ U with heap := s₂.heap, slotsUsed := s₂.slotsUsed } : State).setVm s₂.vm), Ls ++ L, c0 + mc, s0 + ms⟩,
      ⟨X.admits, X.cas, X.clock, X.frames, X.room, X.hears, X.method, X.code, (X.here.setHeapUsed s₂.heap s₂.slotsUsed).setVm hW'.alike, X.tail, State.WarmedH.trans X.warmed hW', X.limits, X.bytes, X.same.trans (hsame.setVm s.vm)⟩,
      ⟨g, mk, s₂, L, rfl, rfl, hqc, rfl, hL, rfl, rfl⟩, ?_⟩
    show Steps p.tables e below _ ((({ U with heap := s₂.heap, slotsUsed := s₂.slotsUsed } : State).setVm s₂.vm).setTop { g with pc := g.pc + len₂, stack := v.toList ++ g.stack })
    rw [← hs₂]
    exact hsteps
  · obtain ⟨e2, q2, q3, q4, q5, q6⟩ := id hsm
    have e3 : s₂ = ({ (U.calling g mk a).setFrames s₂.frames with heap := s₂.heap, slotsUsed := s₂.slotsUsed } : State).setVm s₂.vm := by
      have : s₂ = ({ s₂ with vm := (U.calling g mk a).vm } : State).setVm s₂.vm := rfl
      rw [e2] at this
      exact this
    have hf₂ : s₂.frames = .throwing q :: .java g :: U.frames.tail := hend
    have hW' : U.WarmedH s₂.vm := hW₂
    have hs₂ : s₂ = ((({ U with heap := s₂.heap, slotsUsed := s₂.slotsUsed } : State).setVm s₂.vm).setTop g).pushFrame (.throwing q) := by
      refine e3.trans ?_
      rw [hf₂, State.calling_eq h.top, State.setFrames_setFrames, State.pushFrame, State.frames_setTop _ hr', State.setTop_of_frames _ hr', State.setFrames_setFrames, hr]
      rfl
    have hsame : U.sameButNew ({ U with heap := s₂.heap, slotsUsed := s₂.slotsUsed } : State) L mc ms := by
      refine ⟨?_, q2, q3, q4, q5, q6⟩
      obtain ⟨t, ht, -⟩ := State.frames_cons hr
      show ({ U with heap := s₂.heap, slotsUsed := s₂.slotsUsed } : State) = { U.setFrames U.frames with heap := s₂.heap, slotsUsed := s₂.slotsUsed }
      rw [State.setFrames_self ht]
    subst hg
    refine Or.inr ⟨q, ⟨(({ U with heap := s₂.heap, slotsUsed := s₂.slotsUsed } : State).setVm s₂.vm), Ls ++ L, c0 + mc, s0 + ms⟩,
      ⟨X.admits, X.cas, X.clock, X.frames, X.room, X.hears, X.method, X.code, (X.here.setHeapUsed s₂.heap s₂.slotsUsed).setVm hW'.alike, X.tail, State.WarmedH.trans X.warmed hW', X.limits, X.bytes, X.same.trans (hsame.setVm s.vm)⟩,
      ⟨g, mk, s₂, L, E, ce, rfl, rfl, hx, hce, hcv, hcl, rfl, hL, rfl, rfl⟩, ?_⟩
    show Steps p.tables e below _ (((({ U with heap := s₂.heap, slotsUsed := s₂.slotsUsed } : State).setVm s₂.vm).setTop g).pushFrame (.throwing q))
    rw [← hs₂]
    exact hsteps
end
variable {p : Program} {l : Launch} {e : Env} {R : Room} {s : State} {m : MethodId} {args : Array Value} {below : List Frame} {meth : Method} {c : Code} {T : State} {H : Heap} {locs : List Loc} {cells slots : Nat}
theorem vx_callVX (X : Stand p l e R s m args below meth c T locs cells slots) (hexec : p.tables.exec = Jvm.exec) {own C : String} {index : Nat} {y : MethodName} {bytes : ByteArray} {maxL : Nat} {ret : Option FieldType} {hh : List (Nat × Nat × Nat × Nat)}
    (hown : s.vm.findClass own = some m.cls) (hlink : (Cond.methodLink own index y).before args s = true) (hinst : (Cond.instanceMethod y).before args s = true) (hsel : (Cond.selects C y y).before args s = true)
    (hcode : (Cond.codeWith y bytes maxL ret hh).before args s = true) (hy : y.cls ≠ "java/lang/invoke/MethodHandle" ∧ y.cls ≠ "java/lang/invoke/VarHandle")
    {W9 : Nat} {Pre : Pt → Array Value → Prop} {Post : Pt → Array Value → Option Value → Pt → Prop} {PostX : Pt → Array Value → Addr → Pt → Prop} (hK : vx_Back l R p e below s args y 3 W9 Pre Post PostX)
    {b : Addr} {cellB : Cell} (hcell : T.heap[b]? = some cellB) (hobj : cellB.vm.isStatics = false) (hcls : s.vm.findClass C = some cellB.cls)
    {g : JFrame} (hg : g.method = m) (hsize : g.locals.size = c.maxLocals) {argsL rest : List Value} (hlen : ∀ sig, parseMethodDescriptor y.desc = some sig → argsL.length = sig.parameters.length)
    (hstack : g.stack = argsL.reverse ++ .ref b :: rest) (hW : 2 * g.monitorRoom + (rest.map fun v => v.category).sum ≤ W9) (hdg : decode c.code g.pc = .ok (.invokevirtual index, 3))
    (hpre : ∀ vm₁, s.WarmedH vm₁ → Pre ⟨T.setVm vm₁, locs, cells, slots⟩ (Value.ref b :: argsL).toArray) :
    (∃ (v : Option Value) (vm₁ : Vm) (B : Pt), s.WarmedH vm₁ ∧ Stand p l e R s m args below meth c B.U B.locs B.cells B.slots ∧ Post ⟨T.setVm vm₁, locs, cells, slots⟩ (Value.ref b :: argsL).toArray v B ∧
      ∀ target, Steps p.tables e below (B.U.setTop { g with pc := g.pc + 3, stack := v.toList ++ rest }) target → Steps p.tables e below (T.setTop g) target) ∨
    (∃ (q : Addr) (vm₁ : Vm) (B : Pt), s.WarmedH vm₁ ∧ Stand p l e R s m args below meth c B.U B.locs B.cells B.slots ∧ PostX ⟨T.setVm vm₁, locs, cells, slots⟩ (Value.ref b :: argsL).toArray q B ∧
      Steps p.tables e below (T.setTop g) ((B.U.setTop { g with stack := rest }).pushFrame (.throwing q))) := by
  obtain ⟨mk, methM, hnamed, hmethM, hstM, habM⟩ := Cond.instanceMethod_spec hinst
  obtain ⟨m8, methM', cM, hn8, hmethM', -, -, -, -, -, -, hsigM⟩ := Cond.codeWith_spec hcode
  cases Option.some.inj (hn8.symm.trans hnamed)
  cases hmethM.symm.trans hmethM'
  obtain ⟨c2, r2, m2, q1, q2, q3, q4, kP, hkP, hkPi⟩ := Cond.selects_spec hsel
  cases hcls.symm.trans q1
  cases (State.methodFound?_of_named hnamed hy).symm.trans q2
  cases hnamed.symm.trans q3
  have hselP : selectMethod e.platform s.vm cellB.cls mk = .method mk := by rw [Launch.admits_selectMethod X.admits]; exact q4
  obtain ⟨vm₁, X₁, hstep₁⟩ := X.invokevirtual hexec hown hlink hnamed hmethM hstM hkP hkPi hy (a := b) (cell := cellB) hcell
    (fun z h => by rw [h] at hobj; cases hobj) hselP hmethM habM hkP hkPi (g := g) hg (argsL := argsL) (rest := rest) (hlen _ hsigM) hstack hdg
  rcases hK m meth c ⟨T.setVm vm₁, locs, cells, slots⟩ { g with stack := rest } (.invokevirtual index) mk (Value.ref b :: argsL).toArray X₁ hg hsize hdg hW (X₁.named hnamed) (hpre vm₁ X₁.warmed) with ⟨v, B, X', hpost, hsteps⟩ | ⟨q, B, X', hpost, hsteps⟩
  · exact Or.inl ⟨v, vm₁, B, X₁.warmed, X', hpost, fun target h => hstep₁ _ fun acts => by rw [doInvoke_state]; exact hsteps.trans h⟩
  · exact Or.inr ⟨q, vm₁, B, X₁.warmed, X', hpost, hstep₁ _ fun acts => by rw [doInvoke_state]; exact hsteps⟩
theorem vx_callSX (X : Stand p l e R s m args below meth c T locs cells slots) (hexec : p.tables.exec = Jvm.exec) {own : String} {index : Nat} {y : MethodName} {bytes : ByteArray} {maxL : Nat} {ret : Option FieldType} {hh : List (Nat × Nat × Nat × Nat)}
    (hown : s.vm.findClass own = some m.cls) (hlink : (Cond.methodLink own index y).before args s = true) (hstat : (Cond.static y).before args s = true) (hinit : (Cond.initialized y.cls).before args s = true)
    (hcode : (Cond.codeWith y bytes maxL ret hh).before args s = true) (hy : y.cls ≠ "java/lang/invoke/MethodHandle" ∧ y.cls ≠ "java/lang/invoke/VarHandle")
    {W9 : Nat} {Pre : Pt → Array Value → Prop} {Post : Pt → Array Value → Option Value → Pt → Prop} {PostX : Pt → Array Value → Addr → Pt → Prop} (hK : vx_Back l R p e below s args y 3 W9 Pre Post PostX)
    {g : JFrame} (hg : g.method = m) (hsize : g.locals.size = c.maxLocals) {argsL rest : List Value} (hlen : ∀ sig, parseMethodDescriptor y.desc = some sig → argsL.length = sig.parameters.length)
    (hstack : g.stack = argsL.reverse ++ rest) (hW : 2 * g.monitorRoom + (rest.map fun v => v.category).sum ≤ W9) (hdg : decode c.code g.pc = .ok (.invokestatic index, 3))
    (hpre : ∀ vm₁, s.WarmedH vm₁ → Pre ⟨T.setVm vm₁, locs, cells, slots⟩ argsL.toArray) :
    (∃ (v : Option Value) (vm₁ : Vm) (B : Pt), s.WarmedH vm₁ ∧ Stand p l e R s m args below meth c B.U B.locs B.cells B.slots ∧ Post ⟨T.setVm vm₁, locs, cells, slots⟩ argsL.toArray v B ∧
      ∀ target, Steps p.tables e below (B.U.setTop { g with pc := g.pc + 3, stack := v.toList ++ rest }) target → Steps p.tables e below (T.setTop g) target) ∨
    (∃ (q : Addr) (vm₁ : Vm) (B : Pt), s.WarmedH vm₁ ∧ Stand p l e R s m args below meth c B.U B.locs B.cells B.slots ∧ PostX ⟨T.setVm vm₁, locs, cells, slots⟩ argsL.toArray q B ∧
      Steps p.tables e below (T.setTop g) ((B.U.setTop { g with stack := rest }).pushFrame (.throwing q))) := by
  obtain ⟨mk, methM, cM, hnamed, hmethM, -, -, -, -, -, -, hsigM⟩ := Cond.codeWith_spec hcode
  have hstatic : methM.isStatic = true := Cond.static_spec hnamed hmethM hstat
  obtain ⟨kP, hkP, -⟩ := className_of_methodNamed hnamed
  have hinitP : kP.init = .initialized := Cond.initialized_spec (findClass_of_methodNamed hnamed) hkP hinit
  obtain ⟨vm₁, X₁, hstep₁⟩ := X.invokestatic hexec hown hlink hnamed hmethM hstatic hkP hinitP hy (g := g) hg (argsL := argsL) (rest := rest) (hlen _ hsigM) hstack hdg
  rcases hK m meth c ⟨T.setVm vm₁, locs, cells, slots⟩ { g with stack := rest } (.invokestatic index) mk argsL.toArray X₁ hg hsize hdg hW (X₁.named hnamed) (hpre vm₁ X₁.warmed) with ⟨v, B, X', hpost, hsteps⟩ | ⟨q, B, X', hpost, hsteps⟩
  · exact Or.inl ⟨v, vm₁, B, X₁.warmed, X', hpost, fun target h => hstep₁ _ fun acts => by rw [doInvoke_state]; exact hsteps.trans h⟩
  · exact Or.inr ⟨q, vm₁, B, X₁.warmed, X', hpost, hstep₁ _ fun acts => by rw [doInvoke_state]; exact hsteps⟩
theorem vx_callVW (X : Stand p l e R s m args below meth c T locs cells slots) (hexec : p.tables.exec = Jvm.exec) {own C : String} {index : Nat} {y : MethodName} {bytes : ByteArray} {maxL : Nat} {ret : Option FieldType} {hh : List (Nat × Nat × Nat × Nat)}
    (hown : s.vm.findClass own = some m.cls) (hlink : (Cond.methodLink own index y).before args s = true) (hinst : (Cond.instanceMethod y).before args s = true) (hsel : (Cond.selects C y y).before args s = true)
    (hcode : (Cond.codeWith y bytes maxL ret hh).before args s = true) (hy : y.cls ≠ "java/lang/invoke/MethodHandle" ∧ y.cls ≠ "java/lang/invoke/VarHandle")
    {W9 : Nat} {Pre : Pt → Array Value → Prop} {Post : Pt → Array Value → Option Value → Pt → Prop} (hK : Back l R p e below s args y 3 W9 Pre Post)
    {b : Addr} {cellB : Cell} (hcell : T.heap[b]? = some cellB) (hobj : cellB.vm.isStatics = false) (hcls : s.vm.findClass C = some cellB.cls)
    {g : JFrame} (hg : g.method = m) (hsize : g.locals.size = c.maxLocals) {argsL rest : List Value} (hlen : ∀ sig, parseMethodDescriptor y.desc = some sig → argsL.length = sig.parameters.length)
    (hstack : g.stack = argsL.reverse ++ .ref b :: rest) (hW : 2 * g.monitorRoom + (rest.map fun v => v.category).sum ≤ W9) (hdg : decode c.code g.pc = .ok (.invokevirtual index, 3))
    (hpre : ∀ vm₁, s.WarmedH vm₁ → Pre ⟨T.setVm vm₁, locs, cells, slots⟩ (Value.ref b :: argsL).toArray) :
    ∃ (v : Option Value) (vm₁ : Vm) (B : Pt), s.WarmedH vm₁ ∧ Stand p l e R s m args below meth c B.U B.locs B.cells B.slots ∧ Post ⟨T.setVm vm₁, locs, cells, slots⟩ (Value.ref b :: argsL).toArray v B ∧
      ∀ target, Steps p.tables e below (B.U.setTop { g with pc := g.pc + 3, stack := v.toList ++ rest }) target → Steps p.tables e below (T.setTop g) target := by
  obtain ⟨mk, methM, hnamed, hmethM, hstM, habM⟩ := Cond.instanceMethod_spec hinst
  obtain ⟨m8, methM', cM, hn8, hmethM', -, -, -, -, -, -, hsigM⟩ := Cond.codeWith_spec hcode
  cases Option.some.inj (hn8.symm.trans hnamed)
  cases hmethM.symm.trans hmethM'
  obtain ⟨c2, r2, m2, q1, q2, q3, q4, kP, hkP, hkPi⟩ := Cond.selects_spec hsel
  cases hcls.symm.trans q1
  cases (State.methodFound?_of_named hnamed hy).symm.trans q2
  cases hnamed.symm.trans q3
  have hselP : selectMethod e.platform s.vm cellB.cls mk = .method mk := by rw [Launch.admits_selectMethod X.admits]; exact q4
  obtain ⟨vm₁, X₁, hstep₁⟩ := X.invokevirtual hexec hown hlink hnamed hmethM hstM hkP hkPi hy (a := b) (cell := cellB) hcell
    (fun z h => by rw [h] at hobj; cases hobj) hselP hmethM habM hkP hkPi (g := g) hg (argsL := argsL) (rest := rest) (hlen _ hsigM) hstack hdg
  obtain ⟨v, B, X', hpost, hsteps⟩ := hK m meth c ⟨T.setVm vm₁, locs, cells, slots⟩ { g with stack := rest } (.invokevirtual index) mk (Value.ref b :: argsL).toArray X₁ hg hsize hdg hW (X₁.named hnamed) (hpre vm₁ X₁.warmed)
  exact ⟨v, vm₁, B, X₁.warmed, X', hpost, fun target h => hstep₁ _ fun acts => by rw [doInvoke_state]; exact hsteps.trans h⟩
abbrev vx_CVW (R : Room) (s : State) (args : Array Value) (own C : String) (index : Nat) (y : MethodName) (bytes : ByteArray) (maxL : Nat) (ret : Option FieldType) (hh : List (Nat × Nat × Nat × Nat)) (ws : List Cond) (rm : Room) (mc ms n : Nat) : Prop :=
  (rm.cells = mc ∧ rm.slots = ms ∧ rm.frames + 1 ≤ R.frames ∧ 8 + (maxL + 11) + rm.locals ≤ R.locals ∧ (∀ w ∈ ws, ∀ (a' : Array Value) (U : State), s.WarmedH U.vm → w.before a' U = true) ∧ Cond.codeWith y bytes maxL ret hh ∈ ws) ∧
  (Cond.codeWith y bytes maxL ret hh).before args s = true ∧ (Cond.initialized y.cls).before args s = true ∧ (y.cls ≠ "java/lang/invoke/MethodHandle" ∧ y.cls ≠ "java/lang/invoke/VarHandle") ∧
  (∀ sig, parseMethodDescriptor y.desc = some sig → n = sig.parameters.length) ∧ (Cond.methodLink own index y).before args s = true ∧ (Cond.instanceMethod y).before args s = true ∧ (Cond.selects C y y).before args s = true
theorem vx_cwVW {own C : String} {index maxL mc ms : Nat} {y : MethodName} {bytes : ByteArray} {ret : Option FieldType} {hh : List (Nat × Nat × Nat × Nat)} {Ts ws ws' : List Cond} {rm : Room} (n : Nat) (ht : ∀ w ∈ Ts, w.before args s = true) (hT : GoodIn Ts (wsV own index C y ws)) (hw : ws = Cond.codeWith y bytes maxL ret hh :: ws') (hrc : rm.cells = mc) (hrs : rm.slots = ms)
    (hd : y.cls = C ∧ y.cls ≠ "java/lang/invoke/MethodHandle" ∧ y.cls ≠ "java/lang/invoke/VarHandle" ∧ (parseMethodDescriptor y.desc).map (fun d => d.parameters.length) = some n) (hR : rm.frames + 1 ≤ R.frames ∧ 8 + (maxL + 11) + rm.locals ≤ R.locals) :
    vx_CVW R s args own C index y bytes maxL ret hh ws rm mc ms n := by
  obtain ⟨hC, hd⟩ := hd
  subst hC
  have ok : ∀ w ∈ wsV own index y.cls y ws, w.before args s = true := fun w h => ht w (hT w h).1
  have hG : GoodIn Ts ws := fun w h => hT w (by unfold wsV; exact List.mem_append_right _ h)
  have hc : Cond.codeWith y bytes maxL ret hh ∈ ws := by rw [hw]; exact List.mem_cons_self
  refine ⟨⟨hrc, hrs, hR.1, hR.2, pay_in ht hG, hc⟩, ht _ (hG _ hc).1, ok _ (by simp [wsV]), ⟨hd.1, hd.2.1⟩, fun sig h => ?_, ok _ (by simp [wsV]), ok _ (by simp [wsV]), ok _ (by simp [wsV])⟩
  have h2 := hd.2.2
  rw [h] at h2
  exact (Option.some.inj h2).symm
theorem vx_runVW {y : MethodName} {bytes cc : ByteArray} {maxL nL mc ms n index : Nat} {ret : Option FieldType} {hh : List (Nat × Nat × Nat × Nat)} {ws : List Cond} {rm : Room} {Pc : Array Value → State → Prop} {Qc : Array Value → State → Outcome → State → Prop} {free : Addr → Prop} {Ts : List Cond} {own C : String} {b : Addr} {As rest : List Value} {g : JFrame}
    (S : CallFix p m c cc nL s args Ts own) (hM : Met l y ws rm Pc Qc mc ms free) (cw : vx_CVW R s args own C index y bytes maxL ret hh ws rm mc ms n) (hp : PreV s H C b Pc As)
    (hg : g.method = m) (hn : As.length = n) (hsize : g.locals.size = nL) (hstack : g.stack = As.reverse ++ .ref b :: rest) (hW : 2 * g.monitorRoom + (rest.map fun v => v.category).sum ≤ 8) (hdg : decode cc g.pc = .ok (.invokevirtual index, 3)) (hf : cells + mc ≤ R.cells ∧ slots + ms ≤ R.slots) :
    va_Run p l e R s m args below meth c H locs cells slots mc ms g rest (Qc (Value.ref b :: As).toArray) free := by
  obtain ⟨⟨hrc, hrs, hfr, hlo, hws, hcw⟩, hcode, hini, hy, hlen, hl, hin, hse⟩ := cw
  have hK : Back l R p e below s args y 3 8 (PreOf R mc ms Pc) (PostOf Qc mc ms free) := va_backW (hh := hh) (bytes := bytes) (maxL := maxL) (ret := ret) hM hp.1 hrc hrs hfr hlo hws hcw (fun a' U hW => word_at hW (Or.inl (by first | rfl | simp [Cond.onTables, Cond.keeps, Cond.steady])) hini)
  obtain ⟨hx, hb, hml, ho, -⟩ := S
  obtain ⟨-, ⟨cellB, hcB, hoB, hclB⟩, hPc⟩ := hp
  intro T hT X
  obtain ⟨v, vm₁, ⟨U', l2, c2, s2⟩, hW₁, X', ⟨g', mk, t, L, e1, e2, hq, h1, hL, h2, h3⟩, st⟩ := vx_callVW X hx (C := C) (hh := hh) (bytes := bytes) (maxL := maxL) (ret := ret) ho hl hin hse hcode hy hK (by rw [hT]; exact hcB) hoB hclB hg (hsize.trans hml.symm) (argsL := As) (rest := rest) (fun sig h => hn.trans (hlen sig h)) hstack hW (by rw [hb]; exact hdg)
    (fun vm₁ hW₁ => ⟨hf.1, hf.2, hPc (T.setVm vm₁) hT hW₁⟩)
  dsimp only [Pt.U, Pt.locs, Pt.cells, Pt.slots] at X' e1 e2 h1 h2 h3 st
  subst h1; subst h2; subst h3
  exact ⟨v, (T.setVm vm₁).calling g' mk (Value.ref b :: As).toArray, t, U', L, hT, X', hL, e1, e2, hq, st⟩
section
variable {y : MethodName} {bytes cc : ByteArray} {maxL nL mc ms n index : Nat} {ret : Option FieldType} {ws : List Cond} {rm : Room} {Pc : Array Value → State → Prop} {Qc : Array Value → State → Outcome → State → Prop} {XC : String → State → State → Prop} {free : Addr → Prop} {Ts : List Cond} {own C : String} {b : Addr} {As rest : List Value} {g : JFrame}
theorem vx_runVX {hh : List (Nat × Nat × Nat × Nat)} (S : CallFix p m c cc nL s args Ts own) (hM : vx_Met l y ws rm Pc Qc XC mc ms free) (cw : vx_CVW R s args own C index y bytes maxL ret hh ws rm mc ms n) (hp : PreV s H C b Pc As)
    (hg : g.method = m) (hn : As.length = n) (hsize : g.locals.size = nL) (hstack : g.stack = As.reverse ++ .ref b :: rest) (hW : 2 * g.monitorRoom + (rest.map fun v => v.category).sum ≤ 8) (hdg : decode cc g.pc = .ok (.invokevirtual index, 3)) (hf : cells + mc ≤ R.cells ∧ slots + ms ≤ R.slots) :
    vx_Run p l e R s m args below meth c H locs cells slots mc ms g rest (Qc (Value.ref b :: As).toArray) XC free := by
  obtain ⟨⟨hrc, hrs, hfr, hlo, hws, hcw⟩, hcode, hini, hy, hlen, hl, hin, hse⟩ := cw
  have hK : vx_Back l R p e below s args y 3 8 (PreOf R mc ms Pc) (PostOf Qc mc ms free) (vx_Post XC mc ms free) := vx_backW (hh := hh) (bytes := bytes) (maxL := maxL) (ret := ret) hM hp.1 hrc hrs hfr hlo hws hcw (fun a' U hW => word_at hW (Or.inl (by first | rfl | simp [Cond.onTables, Cond.keeps, Cond.steady])) hini)
  obtain ⟨hx, hb, hml, ho, -⟩ := S
  obtain ⟨-, ⟨cellB, hcB, hoB, hclB⟩, hPc⟩ := hp
  intro T hT X
  rcases vx_callVX X hx (C := C) (hh := hh) (bytes := bytes) (maxL := maxL) (ret := ret) ho hl hin hse hcode hy hK (by rw [hT]; exact hcB) hoB hclB hg (hsize.trans hml.symm) (argsL := As) (rest := rest) (fun sig h => hn.trans (hlen sig h)) hstack hW (by rw [hb]; exact hdg)
    (fun vm₁ hW₁ => ⟨hf.1, hf.2, hPc (T.setVm vm₁) hT hW₁⟩) with ⟨v, vm₁, ⟨U', l2, c2, s2⟩, hW₁, X', ⟨g', mk, t, L, e1, e2, hq, h1, hL, h2, h3⟩, st⟩ | ⟨q, vm₁, ⟨U', l2, c2, s2⟩, hW₁, X', ⟨g', mk, t, L, E, ce, e1, e2, hq, hce, hcv, hcl, h1, hL, h2, h3⟩, st⟩
  · dsimp only [Pt.U, Pt.locs, Pt.cells, Pt.slots] at X' e1 e2 h1 h2 h3 st
    subst h1; subst h2; subst h3
    exact Or.inl ⟨v, (T.setVm vm₁).calling g' mk (Value.ref b :: As).toArray, t, U', L, hT, X', hL, e1, e2, hq, st⟩
  · dsimp only [Pt.U, Pt.locs, Pt.cells, Pt.slots] at X' e1 e2 h1 h2 h3 st hcl
    subst h1; subst h2; subst h3
    exact Or.inr ⟨q, (T.setVm vm₁).calling g' mk (Value.ref b :: As).toArray, t, U', L, E, ce, hT, X', hL, e1, e2, hq, hce, hcv, vx_cls hW₁ hcl, st⟩
theorem vx_runSX {hh : List (Nat × Nat × Nat × Nat)} (S : CallFix p m c cc nL s args Ts own) (hM : vx_Met l y ws rm Pc Qc XC mc ms free) (cw : vx_CSW R s args own index y bytes maxL ret hh ws rm mc ms n) (hp : PreS s H Pc As)
    (hg : g.method = m) (hn : As.length = n) (hsize : g.locals.size = nL) (hstack : g.stack = As.reverse ++ rest) (hW : 2 * g.monitorRoom + (rest.map fun v => v.category).sum ≤ 8) (hdg : decode cc g.pc = .ok (.invokestatic index, 3)) (hf : cells + mc ≤ R.cells ∧ slots + ms ≤ R.slots) :
    vx_Run p l e R s m args below meth c H locs cells slots mc ms g rest (Qc As.toArray) XC free := by
  obtain ⟨⟨hrc, hrs, hfr, hlo, hws, hcw⟩, hcode, hini, hy, hlen, hl, hstt⟩ := cw
  have hK : vx_Back l R p e below s args y 3 8 (PreOf R mc ms Pc) (PostOf Qc mc ms free) (vx_Post XC mc ms free) := vx_backW (hh := hh) (bytes := bytes) (maxL := maxL) (ret := ret) hM hp.1 hrc hrs hfr hlo hws hcw (fun a' U hW => word_at hW (Or.inl (by first | rfl | simp [Cond.onTables, Cond.keeps, Cond.steady])) hini)
  obtain ⟨hx, hb, hml, ho, -⟩ := S
  intro T hT X
  rcases vx_callSX X hx (hh := hh) (bytes := bytes) (maxL := maxL) (ret := ret) ho hl hstt hini hcode hy hK hg (hsize.trans hml.symm) (argsL := As) (rest := rest) (fun sig h => hn.trans (hlen sig h)) hstack hW (by rw [hb]; exact hdg)
    (fun vm₁ hW₁ => ⟨hf.1, hf.2, hp.2 (T.setVm vm₁) hT hW₁⟩) with ⟨v, vm₁, ⟨U', l2, c2, s2⟩, hW₁, X', ⟨g', mk, t, L, e1, e2, hq, h1, hL, h2, h3⟩, st⟩ | ⟨q, vm₁, ⟨U', l2, c2, s2⟩, hW₁, X', ⟨g', mk, t, L, E, ce, e1, e2, hq, hce, hcv, hcl, h1, hL, h2, h3⟩, st⟩
  · dsimp only [Pt.U, Pt.locs, Pt.cells, Pt.slots] at X' e1 e2 h1 h2 h3 st
    subst h1; subst h2; subst h3
    exact Or.inl ⟨v, (T.setVm vm₁).calling g' mk As.toArray, t, U', L, hT, X', hL, e1, e2, hq, st⟩
  · dsimp only [Pt.U, Pt.locs, Pt.cells, Pt.slots] at X' e1 e2 h1 h2 h3 st hcl
    subst h1; subst h2; subst h3
    exact Or.inr ⟨q, (T.setVm vm₁).calling g' mk As.toArray, t, U', L, E, ce, hT, X', hL, e1, e2, hq, hce, hcv, vx_cls hW₁ hcl, st⟩
end
end VXH
theorem vx_ofWH {l : Launch} {y : MethodName} {ws ws' : List Cond} {rm : Room} {Pc : Array Value → State → Prop} {Qc : Array Value → State → Outcome → State → Prop} {XC : String → State → State → Prop} {mc ms : Nat} {free : Addr → Prop} {cc : ByteArray} {maxL : Nat} {ret : Option FieldType} {hh : List (Nat × Nat × Nat × Nat)}
    (hy : plainName y.cls = true) (hw : ws = Cond.codeWith y cc maxL ret hh :: ws')
    (body : ∀ p e s m args below meth c s₁, BodyLoose p l y (headSpec ws rm) cc maxL ret e s m args below meth c s₁ → c.maxLocals = maxL → Pc args s →
      W p l e (headSpec ws rm).room s m args below meth c s.heap [] 0 0 (vx_MQ below Qc XC args s mc ms free) (entryFrame m args maxL)) : vx_Met l y ws rm Pc Qc XC mc ms free := by
  refine MetFree.of_bodyS (code := cc) (maxLocals := maxL) (ret := ret) hy ?_ ?_
  · intro args s m h hn
    obtain ⟨m9, meth, c, hn9, h1, h2, h3, h4, -, h5, h6, -⟩ := Cond.codeWith_spec (atoms_spec (ws := ws) h _ (by rw [hw]; exact List.mem_cons_self))
    cases hn.symm.trans hn9
    exact ⟨meth, c, h1, h2, h3, h4, h5, h6⟩
  · intro p e s m args below meth c s₁ B hml hP _
    have hh0 : s₁.heap = s.heap := by rw [B.state]; rfl
    obtain ⟨t, a1, o, b1, b2, b3⟩ := body p e s m args below meth c s₁ B hml hP s₁ hh0 (Stand.of_body B)
    exact ⟨t, o, a1, b1, b2, b3⟩
/-! ===== END ===== -/
end
section
/-- the words of the tables that stay true -/
def sv_T : List Cond := lw_tbl.filter goodWord
/-- the class's text constants, by their entries -/
def sv_S : List (Nat × String) := [(27, "the number of bits isn't 1 .. 8"), (125, "the mask or the value isn't a state"), (127, "the value has a bit that the mask hasn't"), (47, "the bits kept or flipped aren't a state"), (55, "there are 40 rules"), (62, "there is no such kind"), (70, "a part isn't there"), (75, "there are 60 formulas"), (131, "there is no such formula"), (134, "there is no such state"), (140, "the formula is no UNTIL"), (116, "the witness has no such state")]
/-- thrown classes, and names of handlers that they don't come to -/
def sv_N : List (String × String) := [("java/lang/UnsupportedOperationException", "java/lang/IllegalArgumentException"), ("java/lang/IllegalArgumentException", "java/lang/IndexOutOfBoundsException"), ("java/util/NoSuchElementException", "java/lang/IndexOutOfBoundsException"), ("java/util/NoSuchElementException", "java/lang/IllegalArgumentException")]
/-- what a state knows of the launch: where two statics of Throwable lie, and that its tables are warmer than ones in which every word holds -/
def sv_Z (A : Nat → Prop) (U : State) : Prop := vx_Zq Bundle.tN "UNASSIGNED_STACK" Bundle.steD A U U.heap ∧ vx_Zq Bundle.tN "SUPPRESSED_SENTINEL" Bundle.listD A U U.heap ∧
  ∃ (s0 : State) (a0 : Array Value), s0.WarmedH U.vm ∧ (∀ w ∈ lw_tbl, w.before a0 s0 = true) ∧ (∀ q ∈ sv_S, ∃ a, vk_R "StateLogic" q.1 q.2 a s0) ∧ ∀ q ∈ sv_N, va_Nc q.1 q.2 s0
theorem sv_Z_ts {A : Nat → Prop} {U : State} (h : sv_Z A U) (a : Array Value) : ∀ w ∈ sv_T, w.before a U = true := by
  obtain ⟨-, -, s0, a0, hW, h, -⟩ := h
  intro w hw
  obtain ⟨h1, h2⟩ := List.mem_filter.mp hw
  exact word_at hW (good_of_word h2) (h w h1)
theorem sv_Z_next {A B : Nat → Prop} {s U : State} (h : sv_Z A s) (hW : s.WarmedH U.vm) (hS : ∀ q : Nat, q < s.heap.size → ¬ A q → U.heap[q]? = s.heap[q]?) (hB : ∀ q, B q → A q) : sv_Z B U := by
  obtain ⟨h1, h2, s0, a0, hW0, h3, h4⟩ := h
  exact ⟨(vx_Zq.moved hW.alike (h1.kept hS)).narrow hB, (vx_Zq.moved hW.alike (h2.kept hS)).narrow hB, s0, a0, State.WarmedH.trans hW0 hW, h3, h4⟩
theorem sv_in {w : Cond} (i : Nat) (h : tables_1[i]? = some w) (g : goodWord w = true) : w ∈ sv_T := List.mem_filter.mpr ⟨List.mem_append_right _ (List.mem_of_getElem? h), g⟩
theorem sv_inP {w : Cond} (h : w ∈ k2_sels lw_privs) (g : goodWord w = true) : w ∈ sv_T := List.mem_filter.mpr ⟨List.mem_append_left _ h, g⟩

/-! A walk over a picture of the heap: cells in a row, a reference is the place of its cell. -/
/-- a value, its reference read as a place, as the machine has it -/
def sv_v (ad : Nat → Nat) : Value → Value
  | .ref k => .ref (ad k)
  | v => v
def sv_e (ad : Nat → Nat) : va_E → va_E
  | .inl x => .inl x
  | .inr o => .inr (o.1, o.2.map (sv_v ad))
def sv_w (ad : Nat → Nat) : Nat → List va_E → va_W
  | _, [] => []
  | i, x :: r => (ad i, sv_e ad x) :: sv_w ad (i + 1) r
theorem sv_v_cat (ad : Nat → Nat) (v : Value) : (sv_v ad v).category = v.category := by cases v <;> rfl
theorem sv_cats (ad : Nat → Nat) (st : List Value) : ((st.map (sv_v ad)).map fun v => v.category) = st.map fun v => v.category := by
  rw [List.map_map]
  exact List.map_congr_left (fun v _ => sv_v_cat ad v)
theorem sv_w_get (ad : Nat → Nat) : ∀ (i : Nat) (ws : List va_E) (k : Nat), (sv_w ad i ws)[k]? = (ws[k]?).map (fun x => (ad (i + k), sv_e ad x))
  | i, [], k => by simp [sv_w]
  | i, x :: r, 0 => by simp [sv_w]
  | i, x :: r, k + 1 => by
    have h := sv_w_get ad (i + 1) r k
    rw [show i + 1 + k = i + (k + 1) by omega] at h
    simpa [sv_w] using h
theorem sv_w_at {ad : Nat → Nat} {ws : List va_E} {k : Nat} {x : va_E} (h : ws[k]? = some x) : (sv_w ad 0 ws)[k]? = some (ad k, sv_e ad x) := by
  rw [sv_w_get, h, Nat.zero_add]
  rfl
theorem sv_w_set (ad : Nat → Nat) : ∀ (i : Nat) (ws : List va_E) (k : Nat) (x : va_E), (sv_w ad i ws).set k (ad (i + k), sv_e ad x) = sv_w ad i (ws.set k x)
  | i, [], k, x => by simp [sv_w]
  | i, y :: r, 0, x => by simp [sv_w]
  | i, y :: r, k + 1, x => by
    have h := sv_w_set ad (i + 1) r k x
    rw [show i + 1 + k = i + (k + 1) by omega] at h
    simpa [sv_w] using h
theorem sv_w_put (ad : Nat → Nat) (ws : List va_E) (k : Nat) (x : va_E) : (sv_w ad 0 ws).set k (ad k, sv_e ad x) = sv_w ad 0 (ws.set k x) := by
  have h := sv_w_set ad 0 ws k x
  rwa [Nat.zero_add] at h
theorem sv_w_app (ad : Nat → Nat) : ∀ (i : Nat) (ws : List va_E) (x : va_E), sv_w ad i (ws ++ [x]) = sv_w ad i ws ++ [(ad (i + ws.length), sv_e ad x)]
  | i, [], x => by simp [sv_w]
  | i, y :: r, x => by
    have h := sv_w_app ad (i + 1) r x
    rw [show i + 1 + r.length = i + (r.length + 1) by omega] at h
    simpa [sv_w] using h
/-- what is known of the locals -/
def sv_h (ad : Nat → Nat) (ls : Array Slot) (nL : Nat) (lv : List (Option Value)) : Prop := ∃ l, lv_has ls nL l ∧ ∀ (i : Nat) (v : Value), lv[i]? = some (some v) → (i, sv_v ad v) ∈ l
theorem sv_h_at {ad : Nat → Nat} {ls : Array Slot} {nL : Nat} {lv : List (Option Value)} (h : sv_h ad ls nL lv) {i : Nat} {v : Value} (hi : lv[i]? = some (some v)) : ls[i]? = some (.val (sv_v ad v)) := by
  obtain ⟨l, hl, h⟩ := h
  exact hl.2.2 _ (h i v hi)
/-- no long lies just ahead of the place i -/
def sv_lk (lv : List (Option Value)) (i : Nat) : Bool := match i with
  | 0 => true
  | j + 1 => match lv[j]? with
    | some (some v) => v.category != 2
    | _ => true
theorem sv_lk_spec {lv : List (Option Value)} {i j : Nat} {v : Value} (h : sv_lk lv i = true) (hj : lv[j]? = some (some v)) : ¬ (j + 1 = i ∧ v.category = 2) := by
  rintro ⟨rfl, hc⟩
  simp [sv_lk, hj, hc] at h
theorem sv_h_set1 {ad : Nat → Nat} {ls : Array Slot} {nL : Nat} {l : List (Nat × Value)} {lv : List (Option Value)} {i : Nat} {v w : Value} (hw : w = sv_v ad v) (hk : sv_lk lv i = true) (h : ∀ (i : Nat) (v : Value), lv[i]? = some (some v) → (i, sv_v ad v) ∈ l)
    (hl : lv_has ls nL ((i, w) :: l.filter (fun q => !(q.1 == i) && !(q.1 + 1 == i && q.2.category == 2)))) : sv_h ad ls nL (lv.set i (some v)) := by
  refine ⟨_, hl, fun j u hj => ?_⟩
  by_cases e : j = i
  · subst e
    rw [List.getElem?_set] at hj
    simp only [if_true] at hj
    split at hj
    · have hj : v = u := by simpa using hj
      rw [hw, hj]
      exact List.mem_cons_self
    · cases hj
  · rw [List.getElem?_set_ne (fun q => e q.symm)] at hj
    refine List.mem_cons_of_mem _ (List.mem_filter.mpr ⟨h j u hj, ?_⟩)
    have h2 := sv_lk_spec hk hj
    simp only [sv_v_cat, Bool.and_eq_true, Bool.not_eq_true', beq_eq_false_iff_ne, Bool.and_eq_false_iff, ne_eq]
    refine ⟨e, ?_⟩
    by_cases e2 : j + 1 = i
    · exact Or.inr (fun q => h2 ⟨e2, q⟩)
    · exact Or.inl e2
theorem sv_h_set2 {ad : Nat → Nat} {ls : Array Slot} {nL : Nat} {l : List (Nat × Value)} {lv : List (Option Value)} {i : Nat} {v w : Value} (hw : w = sv_v ad v) (hk : sv_lk lv i = true) (h : ∀ (i : Nat) (v : Value), lv[i]? = some (some v) → (i, sv_v ad v) ∈ l)
    (hl : lv_has ls nL ((i, w) :: l.filter (fun q => !(q.1 == i) && (!(q.1 == i + 1) && !(q.1 + 1 == i && q.2.category == 2))))) : sv_h ad ls nL ((lv.set i (some v)).set (i + 1) none) := by
  refine ⟨_, hl, fun j u hj => ?_⟩
  by_cases e1 : j = i + 1
  · subst e1
    rw [List.getElem?_set] at hj
    simp only [if_true] at hj
    split at hj <;> simp at hj
  · rw [List.getElem?_set_ne (fun q => e1 q.symm)] at hj
    by_cases e : j = i
    · subst e
      rw [List.getElem?_set] at hj
      simp only [if_true] at hj
      split at hj
      · have hj : v = u := by simpa using hj
        rw [hw, hj]
        exact List.mem_cons_self
      · cases hj
    · rw [List.getElem?_set_ne (fun q => e q.symm)] at hj
      refine List.mem_cons_of_mem _ (List.mem_filter.mpr ⟨h j u hj, ?_⟩)
      have h2 := sv_lk_spec hk hj
      simp only [sv_v_cat, Bool.and_eq_true, Bool.not_eq_true', beq_eq_false_iff_ne, Bool.and_eq_false_iff, ne_eq]
      refine ⟨e, e1, ?_⟩
      by_cases e2 : j + 1 = i
      · exact Or.inr (fun q => h2 ⟨e2, q⟩)
      · exact Or.inl e2
/-- THE WALK at pc, with locals lv, stack st, cells ws, k cells of n slots made -/
def sv_V (p : Program) (l : Launch) (e : Env) (R : Room) (s : State) (m : MethodId) (args : Array Value) (below : List Frame) (meth : Method) (c : Code) (D : va_G) (cl : List vw_C) (A : Nat → Prop) (nL : Nat) (ad : Nat → Nat) (Q : State → Prop) (pc : Nat) (lv : List (Option Value)) (st : List Value) (ws : List va_E) (k n : Nat) : Prop :=
  ∀ (H : Heap) (locs : List Loc) (ls : Array Slot), va_P D cl (sv_w ad 0 ws) H → va_D A (sv_w ad 0 ws) → va_S A s.heap H locs → sv_h ad ls nL lv → W p l e R s m args below meth c H locs k n Q (F0 m pc ls (st.map (sv_v ad)))
/-- what a walk knows all along -/
def sv_C (p : Program) (s : State) (m : MethodId) (args : Array Value) (meth : Method) (c : Code) (D : va_G) (cl : List vw_C) (tys : List (ClassId × FieldType)) (A : Nat → Prop) (cc : ByteArray) (nL : Nat) (own : String) (ret : Option FieldType) : Prop :=
  p.tables.exec = Jvm.exec ∧ c.code = cc ∧ c.maxLocals = nL ∧ s.vm.findClass own = some m.cls ∧ (∀ w ∈ sv_T, w.before args s = true) ∧ va_K D cl tys s ∧ (∀ q, s.heap.size ≤ q → A q) ∧ meth.sig.returnType = ret ∧ meth.locks = false ∧ sv_Z A s
section
variable {p : Program} {l : Launch} {e : Env} {R : Room} {s : State} {m : MethodId} {args : Array Value} {below : List Frame} {meth : Method} {c : Code} {D : va_G} {cl : List vw_C} {tys : List (ClassId × FieldType)} {A : Nat → Prop} {nL : Nat} {ad : Nat → Nat} {Q : State → Prop} {cc : ByteArray} {own : String} {ret : Option FieldType} {pc : Nat} {lv : List (Option Value)} {st : List Value} {ws : List va_E} {k n : Nat}
theorem sv_iadd (C : sv_C p s m args meth c D cl tys A cc nL own ret) {x y : Int32} (hd : decode cc pc = .ok (.iadd, 1)) (kk : sv_V p l e R s m args below meth c D cl A nL ad Q (pc + 1) lv (.int (x + y) :: st) ws k n) : sv_V p l e R s m args below meth c D cl A nL ad Q pc lv (.int y :: .int x :: st) ws k n :=
  fun H locs ls hP hD hS hl => lv_iadd C.1 C.2.1 hd (kk H locs ls hP hD hS hl)
theorem sv_isub (C : sv_C p s m args meth c D cl tys A cc nL own ret) {x y : Int32} (hd : decode cc pc = .ok (.isub, 1)) (kk : sv_V p l e R s m args below meth c D cl A nL ad Q (pc + 1) lv (.int (x - y) :: st) ws k n) : sv_V p l e R s m args below meth c D cl A nL ad Q pc lv (.int y :: .int x :: st) ws k n :=
  fun H locs ls hP hD hS hl => lv_isub C.1 C.2.1 hd (kk H locs ls hP hD hS hl)
theorem sv_imul (C : sv_C p s m args meth c D cl tys A cc nL own ret) {x y : Int32} (hd : decode cc pc = .ok (.imul, 1)) (kk : sv_V p l e R s m args below meth c D cl A nL ad Q (pc + 1) lv (.int (x * y) :: st) ws k n) : sv_V p l e R s m args below meth c D cl A nL ad Q pc lv (.int y :: .int x :: st) ws k n :=
  fun H locs ls hP hD hS hl => lv_imul C.1 C.2.1 hd (kk H locs ls hP hD hS hl)
theorem sv_iand (C : sv_C p s m args meth c D cl tys A cc nL own ret) {x y : Int32} (hd : decode cc pc = .ok (.iand, 1)) (kk : sv_V p l e R s m args below meth c D cl A nL ad Q (pc + 1) lv (.int (x &&& y) :: st) ws k n) : sv_V p l e R s m args below meth c D cl A nL ad Q pc lv (.int y :: .int x :: st) ws k n :=
  fun H locs ls hP hD hS hl => lv_iand C.1 C.2.1 hd (kk H locs ls hP hD hS hl)
theorem sv_ior (C : sv_C p s m args meth c D cl tys A cc nL own ret) {x y : Int32} (hd : decode cc pc = .ok (.ior, 1)) (kk : sv_V p l e R s m args below meth c D cl A nL ad Q (pc + 1) lv (.int (x ||| y) :: st) ws k n) : sv_V p l e R s m args below meth c D cl A nL ad Q pc lv (.int y :: .int x :: st) ws k n :=
  fun H locs ls hP hD hS hl => lv_ior C.1 C.2.1 hd (kk H locs ls hP hD hS hl)
theorem sv_ixor (C : sv_C p s m args meth c D cl tys A cc nL own ret) {x y : Int32} (hd : decode cc pc = .ok (.ixor, 1)) (kk : sv_V p l e R s m args below meth c D cl A nL ad Q (pc + 1) lv (.int (x ^^^ y) :: st) ws k n) : sv_V p l e R s m args below meth c D cl A nL ad Q pc lv (.int y :: .int x :: st) ws k n :=
  fun H locs ls hP hD hS hl => lv_ixor C.1 C.2.1 hd (kk H locs ls hP hD hS hl)
theorem sv_ladd (C : sv_C p s m args meth c D cl tys A cc nL own ret) {x y : Int64} (hd : decode cc pc = .ok (.ladd, 1)) (kk : sv_V p l e R s m args below meth c D cl A nL ad Q (pc + 1) lv (.long (x + y) :: st) ws k n) : sv_V p l e R s m args below meth c D cl A nL ad Q pc lv (.long y :: .long x :: st) ws k n :=
  fun H locs ls hP hD hS hl => lv_ladd C.1 C.2.1 hd (kk H locs ls hP hD hS hl)
theorem sv_lsub (C : sv_C p s m args meth c D cl tys A cc nL own ret) {x y : Int64} (hd : decode cc pc = .ok (.lsub, 1)) (kk : sv_V p l e R s m args below meth c D cl A nL ad Q (pc + 1) lv (.long (x - y) :: st) ws k n) : sv_V p l e R s m args below meth c D cl A nL ad Q pc lv (.long y :: .long x :: st) ws k n :=
  fun H locs ls hP hD hS hl => lv_lsub C.1 C.2.1 hd (kk H locs ls hP hD hS hl)
theorem sv_lmul (C : sv_C p s m args meth c D cl tys A cc nL own ret) {x y : Int64} (hd : decode cc pc = .ok (.lmul, 1)) (kk : sv_V p l e R s m args below meth c D cl A nL ad Q (pc + 1) lv (.long (x * y) :: st) ws k n) : sv_V p l e R s m args below meth c D cl A nL ad Q pc lv (.long y :: .long x :: st) ws k n :=
  fun H locs ls hP hD hS hl => lv_lmul C.1 C.2.1 hd (kk H locs ls hP hD hS hl)
theorem sv_land (C : sv_C p s m args meth c D cl tys A cc nL own ret) {x y : Int64} (hd : decode cc pc = .ok (.land, 1)) (kk : sv_V p l e R s m args below meth c D cl A nL ad Q (pc + 1) lv (.long (x &&& y) :: st) ws k n) : sv_V p l e R s m args below meth c D cl A nL ad Q pc lv (.long y :: .long x :: st) ws k n :=
  fun H locs ls hP hD hS hl => lv_land C.1 C.2.1 hd (kk H locs ls hP hD hS hl)
theorem sv_lor (C : sv_C p s m args meth c D cl tys A cc nL own ret) {x y : Int64} (hd : decode cc pc = .ok (.lor, 1)) (kk : sv_V p l e R s m args below meth c D cl A nL ad Q (pc + 1) lv (.long (x ||| y) :: st) ws k n) : sv_V p l e R s m args below meth c D cl A nL ad Q pc lv (.long y :: .long x :: st) ws k n :=
  fun H locs ls hP hD hS hl => lv_lor C.1 C.2.1 hd (kk H locs ls hP hD hS hl)
theorem sv_lxor (C : sv_C p s m args meth c D cl tys A cc nL own ret) {x y : Int64} (hd : decode cc pc = .ok (.lxor, 1)) (kk : sv_V p l e R s m args below meth c D cl A nL ad Q (pc + 1) lv (.long (x ^^^ y) :: st) ws k n) : sv_V p l e R s m args below meth c D cl A nL ad Q pc lv (.long y :: .long x :: st) ws k n :=
  fun H locs ls hP hD hS hl => lv_lxor C.1 C.2.1 hd (kk H locs ls hP hD hS hl)
theorem sv_ishl (C : sv_C p s m args meth c D cl tys A cc nL own ret) {x y : Int32} (hd : decode cc pc = .ok (.ishl, 1)) (kk : sv_V p l e R s m args below meth c D cl A nL ad Q (pc + 1) lv (.int (x <<< (y &&& 31)) :: st) ws k n) : sv_V p l e R s m args below meth c D cl A nL ad Q pc lv (.int y :: .int x :: st) ws k n :=
  fun H locs ls hP hD hS hl => lv_ishl C.1 C.2.1 hd (kk H locs ls hP hD hS hl)
theorem sv_ishr (C : sv_C p s m args meth c D cl tys A cc nL own ret) {x y : Int32} (hd : decode cc pc = .ok (.ishr, 1)) (kk : sv_V p l e R s m args below meth c D cl A nL ad Q (pc + 1) lv (.int (x >>> (y &&& 31)) :: st) ws k n) : sv_V p l e R s m args below meth c D cl A nL ad Q pc lv (.int y :: .int x :: st) ws k n :=
  fun H locs ls hP hD hS hl => lv_ishr C.1 C.2.1 hd (kk H locs ls hP hD hS hl)
theorem sv_iushr (C : sv_C p s m args meth c D cl tys A cc nL own ret) {x y : Int32} (hd : decode cc pc = .ok (.iushr, 1)) (kk : sv_V p l e R s m args below meth c D cl A nL ad Q (pc + 1) lv (.int ((x.toUInt32 >>> (y.toUInt32 &&& Int32.toUInt32 31)).toInt32) :: st) ws k n) : sv_V p l e R s m args below meth c D cl A nL ad Q pc lv (.int y :: .int x :: st) ws k n :=
  fun H locs ls hP hD hS hl => lv_iushr C.1 C.2.1 hd rfl (kk H locs ls hP hD hS hl)
theorem sv_lushr (C : sv_C p s m args meth c D cl tys A cc nL own ret) {x : Int64} {y : Int32} (hd : decode cc pc = .ok (.lushr, 1)) (kk : sv_V p l e R s m args below meth c D cl A nL ad Q (pc + 1) lv (.long ((x.toUInt64 >>> (y.toInt64.toUInt64 &&& Int64.toUInt64 63)).toInt64) :: st) ws k n) : sv_V p l e R s m args below meth c D cl A nL ad Q pc lv (.int y :: .long x :: st) ws k n :=
  fun H locs ls hP hD hS hl => lv_lushr C.1 C.2.1 hd rfl (kk H locs ls hP hD hS hl)
theorem sv_lshl (C : sv_C p s m args meth c D cl tys A cc nL own ret) {x : Int64} {y : Int32} (hd : decode cc pc = .ok (.lshl, 1)) (kk : sv_V p l e R s m args below meth c D cl A nL ad Q (pc + 1) lv (.long (x <<< (y.toInt64 &&& 63)) :: st) ws k n) : sv_V p l e R s m args below meth c D cl A nL ad Q pc lv (.int y :: .long x :: st) ws k n :=
  fun H locs ls hP hD hS hl => lv_lshl C.1 C.2.1 hd rfl (kk H locs ls hP hD hS hl)
theorem sv_ineg (C : sv_C p s m args meth c D cl tys A cc nL own ret) {x : Int32} (hd : decode cc pc = .ok (.ineg, 1)) (kk : sv_V p l e R s m args below meth c D cl A nL ad Q (pc + 1) lv (.int (-x) :: st) ws k n) : sv_V p l e R s m args below meth c D cl A nL ad Q pc lv (.int x :: st) ws k n :=
  fun H locs ls hP hD hS hl => lv_ineg C.1 C.2.1 hd (kk H locs ls hP hD hS hl)
theorem sv_lneg (C : sv_C p s m args meth c D cl tys A cc nL own ret) {x : Int64} (hd : decode cc pc = .ok (.lneg, 1)) (kk : sv_V p l e R s m args below meth c D cl A nL ad Q (pc + 1) lv (.long (-x) :: st) ws k n) : sv_V p l e R s m args below meth c D cl A nL ad Q pc lv (.long x :: st) ws k n :=
  fun H locs ls hP hD hS hl => lv_lneg C.1 C.2.1 hd (kk H locs ls hP hD hS hl)
theorem sv_i2l (C : sv_C p s m args meth c D cl tys A cc nL own ret) {x : Int32} (hd : decode cc pc = .ok (.i2l, 1)) (kk : sv_V p l e R s m args below meth c D cl A nL ad Q (pc + 1) lv (.long x.toInt64 :: st) ws k n) : sv_V p l e R s m args below meth c D cl A nL ad Q pc lv (.int x :: st) ws k n :=
  fun H locs ls hP hD hS hl => lv_i2l C.1 C.2.1 hd rfl (kk H locs ls hP hD hS hl)
theorem sv_l2i (C : sv_C p s m args meth c D cl tys A cc nL own ret) {x : Int64} (hd : decode cc pc = .ok (.l2i, 1)) (kk : sv_V p l e R s m args below meth c D cl A nL ad Q (pc + 1) lv (.int x.toInt32 :: st) ws k n) : sv_V p l e R s m args below meth c D cl A nL ad Q pc lv (.long x :: st) ws k n :=
  fun H locs ls hP hD hS hl => lv_l2i C.1 C.2.1 hd rfl (kk H locs ls hP hD hS hl)
theorem sv_lcmp (C : sv_C p s m args meth c D cl tys A cc nL own ret) {x y : Int64} (hd : decode cc pc = .ok (.lcmp, 1)) (kk : sv_V p l e R s m args below meth c D cl A nL ad Q (pc + 1) lv (.int (lg_cmp x y) :: st) ws k n) : sv_V p l e R s m args below meth c D cl A nL ad Q pc lv (.long y :: .long x :: st) ws k n :=
  fun H locs ls hP hD hS hl => W.lcmp C.1 C.2.1 hd (kk H locs ls hP hD hS hl)
theorem sv_idiv (C : sv_C p s m args meth c D cl tys A cc nL own ret) {x y : Int32} (hd : decode cc pc = .ok (.idiv, 1)) (hne : ¬ y = 0) (kk : sv_V p l e R s m args below meth c D cl A nL ad Q (pc + 1) lv (.int (x / y) :: st) ws k n) : sv_V p l e R s m args below meth c D cl A nL ad Q pc lv (.int y :: .int x :: st) ws k n :=
  fun H locs ls hP hD hS hl => lv_idiv C.1 C.2.1 hd hne (kk H locs ls hP hD hS hl)
theorem sv_irem (C : sv_C p s m args meth c D cl tys A cc nL own ret) {x y : Int32} (hd : decode cc pc = .ok (.irem, 1)) (hne : ¬ y = 0) (kk : sv_V p l e R s m args below meth c D cl A nL ad Q (pc + 1) lv (.int (x - x / y * y) :: st) ws k n) : sv_V p l e R s m args below meth c D cl A nL ad Q pc lv (.int y :: .int x :: st) ws k n :=
  fun H locs ls hP hD hS hl => lv_irem C.1 C.2.1 hd hne (kk H locs ls hP hD hS hl)
theorem sv_iconst (C : sv_C p s m args meth c D cl tys A cc nL own ret) {z : Int} {v : Int32} (hd : decode cc pc = .ok (.iconst z, 1)) (hv : Int32.ofInt z = v) (kk : sv_V p l e R s m args below meth c D cl A nL ad Q (pc + 1) lv (.int v :: st) ws k n) : sv_V p l e R s m args below meth c D cl A nL ad Q pc lv (st) ws k n :=
  fun H locs ls hP hD hS hl => lv_iconst C.1 C.2.1 hd hv (kk H locs ls hP hD hS hl)
theorem sv_bipush (C : sv_C p s m args meth c D cl tys A cc nL own ret) {z : Int} {v : Int32} (hd : decode cc pc = .ok (.bipush z, 2)) (hv : (Int8.ofInt z).toInt32 = v) (kk : sv_V p l e R s m args below meth c D cl A nL ad Q (pc + 2) lv (.int v :: st) ws k n) : sv_V p l e R s m args below meth c D cl A nL ad Q pc lv (st) ws k n :=
  fun H locs ls hP hD hS hl => lv_bipush C.1 C.2.1 hd hv (kk H locs ls hP hD hS hl)
theorem sv_sipush (C : sv_C p s m args meth c D cl tys A cc nL own ret) {z : Int} {v : Int32} (hd : decode cc pc = .ok (.sipush z, 3)) (hv : (Int16.ofInt z).toInt32 = v) (kk : sv_V p l e R s m args below meth c D cl A nL ad Q (pc + 3) lv (.int v :: st) ws k n) : sv_V p l e R s m args below meth c D cl A nL ad Q pc lv (st) ws k n :=
  fun H locs ls hP hD hS hl => lv_sipush C.1 C.2.1 hd hv (kk H locs ls hP hD hS hl)
theorem sv_lconst (C : sv_C p s m args meth c D cl tys A cc nL own ret) {z : Fin 2} {v : Int64} (hd : decode cc pc = .ok (.lconst z, 1)) (hv : Int64.ofNat (z : Nat) = v) (kk : sv_V p l e R s m args below meth c D cl A nL ad Q (pc + 1) lv (.long v :: st) ws k n) : sv_V p l e R s m args below meth c D cl A nL ad Q pc lv (st) ws k n :=
  fun H locs ls hP hD hS hl => lv_lconst C.1 C.2.1 hd hv (kk H locs ls hP hD hS hl)
theorem sv_iload_n (C : sv_C p s m args meth c D cl tys A cc nL own ret) {z : Fin 4} {i : Nat} {x : Int32} (hd : decode cc pc = .ok (.iload_n z, 1)) (hi : (z : Nat) = i) (hv : lv[i]? = some (some (.int x))) (kk : sv_V p l e R s m args below meth c D cl A nL ad Q (pc + 1) lv (.int x :: st) ws k n) : sv_V p l e R s m args below meth c D cl A nL ad Q pc lv (st) ws k n :=
  fun H locs ls hP hD hS hl => lv_iload_n C.1 C.2.1 hd hi (sv_h_at hl hv) (kk H locs ls hP hD hS hl)
theorem sv_iload (C : sv_C p s m args meth c D cl tys A cc nL own ret) {i : Nat} {x : Int32} (hd : decode cc pc = .ok (.iload i, 2)) (hv : lv[i]? = some (some (.int x))) (kk : sv_V p l e R s m args below meth c D cl A nL ad Q (pc + 2) lv (.int x :: st) ws k n) : sv_V p l e R s m args below meth c D cl A nL ad Q pc lv (st) ws k n :=
  fun H locs ls hP hD hS hl => lv_iload C.1 C.2.1 hd (sv_h_at hl hv) (kk H locs ls hP hD hS hl)
theorem sv_istore_n (C : sv_C p s m args meth c D cl tys A cc nL own ret) {z : Fin 4} {i : Nat} {x : Int32} (hd : decode cc pc = .ok (.istore_n z, 1)) (hi : (z : Nat) = i) (hn : i < nL) (hk : sv_lk lv i = true) (kk : sv_V p l e R s m args below meth c D cl A nL ad Q (pc + 1) (lv.set i (some (.int x))) st ws k n) : sv_V p l e R s m args below meth c D cl A nL ad Q pc lv (.int x :: st) ws k n := by
  intro H locs ls hP hD hS hl
  obtain ⟨l0, h1, h2⟩ := hl
  exact lv_istore_n C.1 C.2.1 hd hi h1 hn rfl (fun ls' h3 => kk H locs ls' hP hD hS (sv_h_set1 (v := .int x) rfl hk h2 h3))
theorem sv_istore (C : sv_C p s m args meth c D cl tys A cc nL own ret) {i : Nat} {x : Int32} (hd : decode cc pc = .ok (.istore i, 2)) (hn : i < nL) (hk : sv_lk lv i = true) (kk : sv_V p l e R s m args below meth c D cl A nL ad Q (pc + 2) (lv.set i (some (.int x))) st ws k n) : sv_V p l e R s m args below meth c D cl A nL ad Q pc lv (.int x :: st) ws k n := by
  intro H locs ls hP hD hS hl
  obtain ⟨l0, h1, h2⟩ := hl
  exact lv_istore C.1 C.2.1 hd h1 hn rfl (fun ls' h3 => kk H locs ls' hP hD hS (sv_h_set1 (v := .int x) rfl hk h2 h3))
theorem sv_lload_n (C : sv_C p s m args meth c D cl tys A cc nL own ret) {z : Fin 4} {i : Nat} {x : Int64} (hd : decode cc pc = .ok (.lload_n z, 1)) (hi : (z : Nat) = i) (hv : lv[i]? = some (some (.long x))) (kk : sv_V p l e R s m args below meth c D cl A nL ad Q (pc + 1) lv (.long x :: st) ws k n) : sv_V p l e R s m args below meth c D cl A nL ad Q pc lv (st) ws k n :=
  fun H locs ls hP hD hS hl => lv_lload_n C.1 C.2.1 hd hi (sv_h_at hl hv) (kk H locs ls hP hD hS hl)
theorem sv_lload (C : sv_C p s m args meth c D cl tys A cc nL own ret) {i : Nat} {x : Int64} (hd : decode cc pc = .ok (.lload i, 2)) (hv : lv[i]? = some (some (.long x))) (kk : sv_V p l e R s m args below meth c D cl A nL ad Q (pc + 2) lv (.long x :: st) ws k n) : sv_V p l e R s m args below meth c D cl A nL ad Q pc lv (st) ws k n :=
  fun H locs ls hP hD hS hl => lv_lload C.1 C.2.1 hd (sv_h_at hl hv) (kk H locs ls hP hD hS hl)
theorem sv_lstore_n (C : sv_C p s m args meth c D cl tys A cc nL own ret) {z : Fin 4} {i : Nat} {x : Int64} (hd : decode cc pc = .ok (.lstore_n z, 1)) (hi : (z : Nat) = i) (hn : i + 1 < nL) (hk : sv_lk lv i = true) (kk : sv_V p l e R s m args below meth c D cl A nL ad Q (pc + 1) ((lv.set i (some (.long x))).set (i + 1) none) st ws k n) : sv_V p l e R s m args below meth c D cl A nL ad Q pc lv (.long x :: st) ws k n := by
  intro H locs ls hP hD hS hl
  obtain ⟨l0, h1, h2⟩ := hl
  exact lv_lstore_n C.1 C.2.1 hd hi h1 hn rfl (fun ls' h3 => kk H locs ls' hP hD hS (sv_h_set2 (v := .long x) rfl hk h2 h3))
theorem sv_lstore (C : sv_C p s m args meth c D cl tys A cc nL own ret) {i : Nat} {x : Int64} (hd : decode cc pc = .ok (.lstore i, 2)) (hn : i + 1 < nL) (hk : sv_lk lv i = true) (kk : sv_V p l e R s m args below meth c D cl A nL ad Q (pc + 2) ((lv.set i (some (.long x))).set (i + 1) none) st ws k n) : sv_V p l e R s m args below meth c D cl A nL ad Q pc lv (.long x :: st) ws k n := by
  intro H locs ls hP hD hS hl
  obtain ⟨l0, h1, h2⟩ := hl
  exact lv_lstore C.1 C.2.1 hd h1 hn rfl (fun ls' h3 => kk H locs ls' hP hD hS (sv_h_set2 (v := .long x) rfl hk h2 h3))
theorem sv_aload_n (C : sv_C p s m args meth c D cl tys A cc nL own ret) {z : Fin 4} {i : Nat} {x : Nat} (hd : decode cc pc = .ok (.aload_n z, 1)) (hi : (z : Nat) = i) (hv : lv[i]? = some (some (.ref x))) (kk : sv_V p l e R s m args below meth c D cl A nL ad Q (pc + 1) lv (.ref x :: st) ws k n) : sv_V p l e R s m args below meth c D cl A nL ad Q pc lv (st) ws k n :=
  fun H locs ls hP hD hS hl => lv_aload_n C.1 C.2.1 hd hi (sv_h_at hl hv) (kk H locs ls hP hD hS hl)
theorem sv_aload (C : sv_C p s m args meth c D cl tys A cc nL own ret) {i : Nat} {x : Nat} (hd : decode cc pc = .ok (.aload i, 2)) (hv : lv[i]? = some (some (.ref x))) (kk : sv_V p l e R s m args below meth c D cl A nL ad Q (pc + 2) lv (.ref x :: st) ws k n) : sv_V p l e R s m args below meth c D cl A nL ad Q pc lv (st) ws k n :=
  fun H locs ls hP hD hS hl => lv_aload C.1 C.2.1 hd (sv_h_at hl hv) (kk H locs ls hP hD hS hl)
theorem sv_astore_n (C : sv_C p s m args meth c D cl tys A cc nL own ret) {z : Fin 4} {i : Nat} {x : Nat} (hd : decode cc pc = .ok (.astore_n z, 1)) (hi : (z : Nat) = i) (hn : i < nL) (hk : sv_lk lv i = true) (kk : sv_V p l e R s m args below meth c D cl A nL ad Q (pc + 1) (lv.set i (some (.ref x))) st ws k n) : sv_V p l e R s m args below meth c D cl A nL ad Q pc lv (.ref x :: st) ws k n := by
  intro H locs ls hP hD hS hl
  obtain ⟨l0, h1, h2⟩ := hl
  exact lv_astore_n C.1 C.2.1 hd hi h1 hn rfl (fun ls' h3 => kk H locs ls' hP hD hS (sv_h_set1 (v := .ref x) rfl hk h2 h3))
theorem sv_astore (C : sv_C p s m args meth c D cl tys A cc nL own ret) {i : Nat} {x : Nat} (hd : decode cc pc = .ok (.astore i, 2)) (hn : i < nL) (hk : sv_lk lv i = true) (kk : sv_V p l e R s m args below meth c D cl A nL ad Q (pc + 2) (lv.set i (some (.ref x))) st ws k n) : sv_V p l e R s m args below meth c D cl A nL ad Q pc lv (.ref x :: st) ws k n := by
  intro H locs ls hP hD hS hl
  obtain ⟨l0, h1, h2⟩ := hl
  exact lv_astore C.1 C.2.1 hd h1 hn rfl (fun ls' h3 => kk H locs ls' hP hD hS (sv_h_set1 (v := .ref x) rfl hk h2 h3))
theorem sv_iinc (C : sv_C p s m args meth c D cl tys A cc nL own ret) {i : Nat} {z : Int} {x : Int32} {y : Int32} (hd : decode cc pc = .ok (.iinc i z, 3)) (hv : lv[i]? = some (some (.int x))) (hz : x + Int32.ofInt z = y) (hn : i < nL) (hk : sv_lk lv i = true) (kk : sv_V p l e R s m args below meth c D cl A nL ad Q (pc + 3) (lv.set i (some (.int y))) st ws k n) : sv_V p l e R s m args below meth c D cl A nL ad Q pc lv st ws k n := by
  intro H locs ls hP hD hS hl
  obtain ⟨l0, h1, h2⟩ := hl
  obtain ⟨j, hj⟩ := List.mem_iff_getElem?.mp (h2 i _ hv)
  exact lv_iinc (k := j) C.1 C.2.1 hd h1 hj hz hn rfl (fun ls' h3 => kk H locs ls' hP hD hS (sv_h_set1 (v := .int y) rfl hk h2 h3))
theorem sv_dup (C : sv_C p s m args meth c D cl tys A cc nL own ret) {v : Value} (hd : decode cc pc = .ok (.dup, 1)) (hv : v.category = 1) (kk : sv_V p l e R s m args below meth c D cl A nL ad Q (pc + 1) lv (v :: v :: st) ws k n) : sv_V p l e R s m args below meth c D cl A nL ad Q pc lv (v :: st) ws k n :=
  fun H locs ls hP hD hS hl => lv_dup C.1 C.2.1 hd (by rw [sv_v_cat]; exact hv) (kk H locs ls hP hD hS hl)
theorem sv_pop (C : sv_C p s m args meth c D cl tys A cc nL own ret) {v : Value} (hd : decode cc pc = .ok (.pop, 1)) (hv : v.category = 1) (kk : sv_V p l e R s m args below meth c D cl A nL ad Q (pc + 1) lv st ws k n) : sv_V p l e R s m args below meth c D cl A nL ad Q pc lv (v :: st) ws k n :=
  fun H locs ls hP hD hS hl => lv_pop C.1 C.2.1 hd (by rw [sv_v_cat]; exact hv) (kk H locs ls hP hD hS hl)
theorem sv_dup_x1 (C : sv_C p s m args meth c D cl tys A cc nL own ret) {v w : Value} (hd : decode cc pc = .ok (.dup_x1, 1)) (hv : v.category = 1) (hw : w.category = 1) (kk : sv_V p l e R s m args below meth c D cl A nL ad Q (pc + 1) lv (v :: w :: v :: st) ws k n) : sv_V p l e R s m args below meth c D cl A nL ad Q pc lv (v :: w :: st) ws k n :=
  fun H locs ls hP hD hS hl => lv_dup_x1 C.1 C.2.1 hd (by rw [sv_v_cat]; exact hv) (by rw [sv_v_cat]; exact hw) (kk H locs ls hP hD hS hl)
theorem sv_dup2 (C : sv_C p s m args meth c D cl tys A cc nL own ret) {v w : Value} (hd : decode cc pc = .ok (.dup2, 1)) (hv : v.category = 1) (hw : w.category = 1) (kk : sv_V p l e R s m args below meth c D cl A nL ad Q (pc + 1) lv (v :: w :: v :: w :: st) ws k n) : sv_V p l e R s m args below meth c D cl A nL ad Q pc lv (v :: w :: st) ws k n :=
  fun H locs ls hP hD hS hl => lv_dup2_11 C.1 C.2.1 hd (by rw [sv_v_cat]; exact hv) (by rw [sv_v_cat]; exact hw) (kk H locs ls hP hD hS hl)
theorem sv_goto (C : sv_C p s m args meth c D cl tys A cc nL own ret) {z : Int} {tgt : Nat} (hd : decode cc pc = .ok (.goto z, 3)) (ht : (pc : Int) + z = (tgt : Int)) (kk : sv_V p l e R s m args below meth c D cl A nL ad Q tgt lv st ws k n) : sv_V p l e R s m args below meth c D cl A nL ad Q pc lv st ws k n :=
  fun H locs ls hP hD hS hl => lv_goto C.1 C.2.1 hd ht (kk H locs ls hP hD hS hl)
theorem sv_if_eq (C : sv_C p s m args meth c D cl tys A cc nL own ret) {x : Int32} {z : Int} {tgt : Nat} (hd : decode cc pc = .ok (.ifCond .eq z, 3)) (ht : (pc : Int) + z = (tgt : Int)) (kt : x = 0 → sv_V p l e R s m args below meth c D cl A nL ad Q tgt lv st ws k n) (kf : ¬ x = 0 → sv_V p l e R s m args below meth c D cl A nL ad Q (pc + 3) lv st ws k n) : sv_V p l e R s m args below meth c D cl A nL ad Q pc lv (.int x :: st) ws k n :=
  fun H locs ls hP hD hS hl => lv_if_eq C.1 C.2.1 hd ht (fun h => kt h H locs ls hP hD hS hl) (fun h => kf h H locs ls hP hD hS hl)
theorem sv_if_ne (C : sv_C p s m args meth c D cl tys A cc nL own ret) {x : Int32} {z : Int} {tgt : Nat} (hd : decode cc pc = .ok (.ifCond .ne z, 3)) (ht : (pc : Int) + z = (tgt : Int)) (kt : ¬ x = 0 → sv_V p l e R s m args below meth c D cl A nL ad Q tgt lv st ws k n) (kf : x = 0 → sv_V p l e R s m args below meth c D cl A nL ad Q (pc + 3) lv st ws k n) : sv_V p l e R s m args below meth c D cl A nL ad Q pc lv (.int x :: st) ws k n :=
  fun H locs ls hP hD hS hl => lv_if_ne C.1 C.2.1 hd ht (fun h => kt h H locs ls hP hD hS hl) (fun h => kf h H locs ls hP hD hS hl)
theorem sv_if_lt (C : sv_C p s m args meth c D cl tys A cc nL own ret) {x : Int32} {z : Int} {tgt : Nat} (hd : decode cc pc = .ok (.ifCond .lt z, 3)) (ht : (pc : Int) + z = (tgt : Int)) (kt : x < 0 → sv_V p l e R s m args below meth c D cl A nL ad Q tgt lv st ws k n) (kf : ¬ x < 0 → sv_V p l e R s m args below meth c D cl A nL ad Q (pc + 3) lv st ws k n) : sv_V p l e R s m args below meth c D cl A nL ad Q pc lv (.int x :: st) ws k n :=
  fun H locs ls hP hD hS hl => lv_if_lt C.1 C.2.1 hd ht (fun h => kt h H locs ls hP hD hS hl) (fun h => kf h H locs ls hP hD hS hl)
theorem sv_if_ge (C : sv_C p s m args meth c D cl tys A cc nL own ret) {x : Int32} {z : Int} {tgt : Nat} (hd : decode cc pc = .ok (.ifCond .ge z, 3)) (ht : (pc : Int) + z = (tgt : Int)) (kt : 0 ≤ x → sv_V p l e R s m args below meth c D cl A nL ad Q tgt lv st ws k n) (kf : ¬ 0 ≤ x → sv_V p l e R s m args below meth c D cl A nL ad Q (pc + 3) lv st ws k n) : sv_V p l e R s m args below meth c D cl A nL ad Q pc lv (.int x :: st) ws k n :=
  fun H locs ls hP hD hS hl => lv_if_ge C.1 C.2.1 hd ht (fun h => kt h H locs ls hP hD hS hl) (fun h => kf h H locs ls hP hD hS hl)
theorem sv_if_gt (C : sv_C p s m args meth c D cl tys A cc nL own ret) {x : Int32} {z : Int} {tgt : Nat} (hd : decode cc pc = .ok (.ifCond .gt z, 3)) (ht : (pc : Int) + z = (tgt : Int)) (kt : 0 < x → sv_V p l e R s m args below meth c D cl A nL ad Q tgt lv st ws k n) (kf : ¬ 0 < x → sv_V p l e R s m args below meth c D cl A nL ad Q (pc + 3) lv st ws k n) : sv_V p l e R s m args below meth c D cl A nL ad Q pc lv (.int x :: st) ws k n :=
  fun H locs ls hP hD hS hl => lv_if_gt C.1 C.2.1 hd ht (fun h => kt h H locs ls hP hD hS hl) (fun h => kf h H locs ls hP hD hS hl)
theorem sv_if_le (C : sv_C p s m args meth c D cl tys A cc nL own ret) {x : Int32} {z : Int} {tgt : Nat} (hd : decode cc pc = .ok (.ifCond .le z, 3)) (ht : (pc : Int) + z = (tgt : Int)) (kt : x ≤ 0 → sv_V p l e R s m args below meth c D cl A nL ad Q tgt lv st ws k n) (kf : ¬ x ≤ 0 → sv_V p l e R s m args below meth c D cl A nL ad Q (pc + 3) lv st ws k n) : sv_V p l e R s m args below meth c D cl A nL ad Q pc lv (.int x :: st) ws k n :=
  fun H locs ls hP hD hS hl => lv_if_le C.1 C.2.1 hd ht (fun h => kt h H locs ls hP hD hS hl) (fun h => kf h H locs ls hP hD hS hl)
theorem sv_icmp_eq (C : sv_C p s m args meth c D cl tys A cc nL own ret) {x y : Int32} {z : Int} {tgt : Nat} (hd : decode cc pc = .ok (.if_icmp .eq z, 3)) (ht : (pc : Int) + z = (tgt : Int)) (kt : x = y → sv_V p l e R s m args below meth c D cl A nL ad Q tgt lv st ws k n) (kf : ¬ x = y → sv_V p l e R s m args below meth c D cl A nL ad Q (pc + 3) lv st ws k n) : sv_V p l e R s m args below meth c D cl A nL ad Q pc lv (.int y :: .int x :: st) ws k n :=
  fun H locs ls hP hD hS hl => lv_icmp_eq C.1 C.2.1 hd ht (fun h => kt h H locs ls hP hD hS hl) (fun h => kf h H locs ls hP hD hS hl)
theorem sv_icmp_ne (C : sv_C p s m args meth c D cl tys A cc nL own ret) {x y : Int32} {z : Int} {tgt : Nat} (hd : decode cc pc = .ok (.if_icmp .ne z, 3)) (ht : (pc : Int) + z = (tgt : Int)) (kt : ¬ x = y → sv_V p l e R s m args below meth c D cl A nL ad Q tgt lv st ws k n) (kf : x = y → sv_V p l e R s m args below meth c D cl A nL ad Q (pc + 3) lv st ws k n) : sv_V p l e R s m args below meth c D cl A nL ad Q pc lv (.int y :: .int x :: st) ws k n :=
  fun H locs ls hP hD hS hl => lv_icmp_ne C.1 C.2.1 hd ht (fun h => kt h H locs ls hP hD hS hl) (fun h => kf h H locs ls hP hD hS hl)
theorem sv_icmp_lt (C : sv_C p s m args meth c D cl tys A cc nL own ret) {x y : Int32} {z : Int} {tgt : Nat} (hd : decode cc pc = .ok (.if_icmp .lt z, 3)) (ht : (pc : Int) + z = (tgt : Int)) (kt : x < y → sv_V p l e R s m args below meth c D cl A nL ad Q tgt lv st ws k n) (kf : ¬ x < y → sv_V p l e R s m args below meth c D cl A nL ad Q (pc + 3) lv st ws k n) : sv_V p l e R s m args below meth c D cl A nL ad Q pc lv (.int y :: .int x :: st) ws k n :=
  fun H locs ls hP hD hS hl => lv_icmp_lt C.1 C.2.1 hd ht (fun h => kt h H locs ls hP hD hS hl) (fun h => kf h H locs ls hP hD hS hl)
theorem sv_icmp_ge (C : sv_C p s m args meth c D cl tys A cc nL own ret) {x y : Int32} {z : Int} {tgt : Nat} (hd : decode cc pc = .ok (.if_icmp .ge z, 3)) (ht : (pc : Int) + z = (tgt : Int)) (kt : y ≤ x → sv_V p l e R s m args below meth c D cl A nL ad Q tgt lv st ws k n) (kf : ¬ y ≤ x → sv_V p l e R s m args below meth c D cl A nL ad Q (pc + 3) lv st ws k n) : sv_V p l e R s m args below meth c D cl A nL ad Q pc lv (.int y :: .int x :: st) ws k n :=
  fun H locs ls hP hD hS hl => lv_icmp_ge C.1 C.2.1 hd ht (fun h => kt h H locs ls hP hD hS hl) (fun h => kf h H locs ls hP hD hS hl)
theorem sv_icmp_gt (C : sv_C p s m args meth c D cl tys A cc nL own ret) {x y : Int32} {z : Int} {tgt : Nat} (hd : decode cc pc = .ok (.if_icmp .gt z, 3)) (ht : (pc : Int) + z = (tgt : Int)) (kt : y < x → sv_V p l e R s m args below meth c D cl A nL ad Q tgt lv st ws k n) (kf : ¬ y < x → sv_V p l e R s m args below meth c D cl A nL ad Q (pc + 3) lv st ws k n) : sv_V p l e R s m args below meth c D cl A nL ad Q pc lv (.int y :: .int x :: st) ws k n :=
  fun H locs ls hP hD hS hl => lv_icmp_gt C.1 C.2.1 hd ht (fun h => kt h H locs ls hP hD hS hl) (fun h => kf h H locs ls hP hD hS hl)
theorem sv_icmp_le (C : sv_C p s m args meth c D cl tys A cc nL own ret) {x y : Int32} {z : Int} {tgt : Nat} (hd : decode cc pc = .ok (.if_icmp .le z, 3)) (ht : (pc : Int) + z = (tgt : Int)) (kt : x ≤ y → sv_V p l e R s m args below meth c D cl A nL ad Q tgt lv st ws k n) (kf : ¬ x ≤ y → sv_V p l e R s m args below meth c D cl A nL ad Q (pc + 3) lv st ws k n) : sv_V p l e R s m args below meth c D cl A nL ad Q pc lv (.int y :: .int x :: st) ws k n :=
  fun H locs ls hP hD hS hl => lv_icmp_le C.1 C.2.1 hd ht (fun h => kt h H locs ls hP hD hS hl) (fun h => kf h H locs ls hP hD hS hl)
theorem sv_get (C : sv_C p s m args meth c D cl tys A cc nL own ret) {Cn ref : String} {T : u_T} {N ci idx kf a : Nat} {fs : List Value} {v : Value} (hin : ∀ w ∈ u_ws Cn T N, w ∈ sv_T) (hc : cl[ci]? = some (Cn, T, N)) (hk : kf < N) (hlink : Cond.fieldLink own idx ref (T kf).2.1 (T kf).2.2.1 ∈ sv_T) (hsame : ∀ x, s.fieldFound? (T kf).1 (T kf).2.1 (T kf).2.2.1 = some x → s.fieldFound? ref (T kf).2.1 (T kf).2.2.1 = some x) (hd : decode cc pc = .ok (.getfield idx, 3)) (hw : ws[a]? = some (.inr (ci, fs))) (hv : fs[kf]? = some v) (kk : sv_V p l e R s m args below meth c D cl A nL ad Q (pc + 3) lv (v :: st) ws k n) : sv_V p l e R s m args below meth c D cl A nL ad Q pc lv (.ref a :: st) ws k n :=
  fun H locs ls hP hD hS hl => va_get (D := D) (ci := ci) (v := sv_v ad v) (C := Cn) (T := T) (N := N) C.1 C.2.1 C.2.2.2.2.1 hin C.2.2.2.1 C.2.2.2.2.2.1 hP a (fs := fs.map (sv_v ad)) (sv_w_at hw) hc kf hk (C.2.2.2.2.1 _ hlink) hsame (by rw [List.getElem?_map, hv]; rfl) hd (kk H locs ls hP hD hS hl)
theorem sv_put (C : sv_C p s m args meth c D cl tys A cc nL own ret) {Cn ref : String} {T : u_T} {N ci idx kf a : Nat} {fs : List Value} {v : Value} {ty : FieldType} (hin : ∀ w ∈ u_ws Cn T N, w ∈ sv_T) (ty0 : Nat → FieldType) (hty : ∀ k, k < N → parseFieldDescriptor (T k).2.2.1 = some (ty0 k)) (hnm : ∀ a, a < N → ∀ b, b < N → a ≠ b → (T a).2.1 ≠ (T b).2.1) (hc : cl[ci]? = some (Cn, T, N)) (hk : kf < N) (hlink : Cond.fieldLink own idx ref (T kf).2.1 (T kf).2.2.1 ∈ sv_T) (hsame : ∀ x, s.fieldFound? (T kf).1 (T kf).2.1 (T kf).2.2.1 = some x → s.fieldFound? ref (T kf).2.1 (T kf).2.2.1 = some x) (hfin : (T kf).2.2.2 = false) (htd : parseFieldDescriptor (T kf).2.2.1 = some ty) (hd : decode cc pc = .ok (.putfield idx, 3)) (hw : ws[a]? = some (.inr (ci, fs))) (hnar : narrow ty (sv_v ad v) = sv_v ad v) (hfit : fits ty (sv_v ad v) = true) (hl0 : kf < fs.length) (kk : sv_V p l e R s m args below meth c D cl A nL ad Q (pc + 3) lv st (ws.set a (.inr (ci, fs.set kf v))) k n) : sv_V p l e R s m args below meth c D cl A nL ad Q pc lv (v :: .ref a :: st) ws k n := by
  intro H locs ls hP hD hS hl
  refine va_put (D := D) (ci := ci) (v := sv_v ad v) (ty := ty) (C := Cn) (T := T) (N := N) C.1 C.2.1 C.2.2.2.2.1 hin ty0 hty hnm C.2.2.2.1 C.2.2.2.2.2.1 hP hD hS a (fs := fs.map (sv_v ad)) (sv_w_at hw) hc kf hk (C.2.2.2.2.1 _ hlink) hsame hfin htd hnar hfit (by rw [List.length_map]; exact hl0) hd (fun H1 locs1 hP1 hD1 hS1 => ?_)
  have e1 : (sv_w ad 0 ws).set a (ad a, .inr (ci, (fs.map (sv_v ad)).set kf (sv_v ad v))) = sv_w ad 0 (ws.set a (.inr (ci, fs.set kf v))) := by
    rw [← sv_w_put]
    show _ = (sv_w ad 0 ws).set a (ad a, .inr (ci, (fs.set kf v).map (sv_v ad)))
    rw [List.map_set]
  rw [e1] at hP1 hD1
  exact kk H1 locs1 ls hP1 hD1 hS1 hl
theorem sv_putF (C : sv_C p s m args meth c D cl tys A cc nL own ret) {Cn ref : String} {T : u_T} {N ci idx kf a : Nat} {fs : List Value} {v : Value} {ty : FieldType} (hin : ∀ w ∈ u_ws Cn T N, w ∈ sv_T) (ty0 : Nat → FieldType) (hty : ∀ k, k < N → parseFieldDescriptor (T k).2.2.1 = some (ty0 k)) (hnm : ∀ a, a < N → ∀ b, b < N → a ≠ b → (T a).2.1 ≠ (T b).2.1) (hc : cl[ci]? = some (Cn, T, N)) (hk : kf < N) (hlink : Cond.fieldLink own idx ref (T kf).2.1 (T kf).2.2.1 ∈ sv_T) (hsame : ∀ x, s.fieldFound? (T kf).1 (T kf).2.1 (T kf).2.2.1 = some x → s.fieldFound? ref (T kf).2.1 (T kf).2.2.1 = some x) (hfin : (T kf).2.2.2 = true) (hin2 : meth.name = "<init>") (hdecl : (T kf).1 = own) (htd : parseFieldDescriptor (T kf).2.2.1 = some ty) (hd : decode cc pc = .ok (.putfield idx, 3)) (hw : ws[a]? = some (.inr (ci, fs))) (hnar : narrow ty (sv_v ad v) = sv_v ad v) (hfit : fits ty (sv_v ad v) = true) (hl0 : kf < fs.length) (kk : sv_V p l e R s m args below meth c D cl A nL ad Q (pc + 3) lv st (ws.set a (.inr (ci, fs.set kf v))) k n) : sv_V p l e R s m args below meth c D cl A nL ad Q pc lv (v :: .ref a :: st) ws k n := by
  intro H locs ls hP hD hS hl
  refine va_putF (D := D) (ci := ci) (v := sv_v ad v) (ty := ty) (C := Cn) (T := T) (N := N) C.1 C.2.1 C.2.2.2.2.1 hin ty0 hty hnm C.2.2.2.1 C.2.2.2.2.2.1 hP hD hS a (fs := fs.map (sv_v ad)) (sv_w_at hw) hc kf hk (C.2.2.2.2.1 _ hlink) hsame hfin hin2 hdecl htd hnar hfit (by rw [List.length_map]; exact hl0) hd (fun H1 locs1 hP1 hD1 hS1 => ?_)
  have e1 : (sv_w ad 0 ws).set a (ad a, .inr (ci, (fs.map (sv_v ad)).set kf (sv_v ad v))) = sv_w ad 0 (ws.set a (.inr (ci, fs.set kf v))) := by
    rw [← sv_w_put]
    show _ = (sv_w ad 0 ws).set a (ad a, .inr (ci, (fs.set kf v).map (sv_v ad)))
    rw [List.map_set]
  rw [e1] at hP1 hD1
  exact kk H1 locs1 ls hP1 hD1 hS1 hl
theorem sv_iald (C : sv_C p s m args meth c D cl tys A cc nL own ret) {a N t0 : Nat} {cA : ClassId} {f : Nat → Int32} {i : Int32} (ht : tys[t0]? = some (cA, .int)) (hd : decode cc pc = .ok (.iaload, 1)) (hw : ws[a]? = some (.inl (cA, N, .inl f))) (hi : vp_in i N) (kk : sv_V p l e R s m args below meth c D cl A nL ad Q (pc + 1) lv (.int (f i.toNatClampNeg) :: st) ws k n) : sv_V p l e R s m args below meth c D cl A nL ad Q pc lv (.int i :: .ref a :: st) ws k n :=
  fun H locs ls hP hD hS hl => va_iald C.1 C.2.1 C.2.2.2.2.2.1 hP a t0 (f := f) (sv_w_at hw) ht hi hd (kk H locs ls hP hD hS hl)
theorem sv_lald (C : sv_C p s m args meth c D cl tys A cc nL own ret) {a N t0 : Nat} {cA : ClassId} {f : Nat → Int64} {i : Int32} (ht : tys[t0]? = some (cA, .long)) (hd : decode cc pc = .ok (.laload, 1)) (hw : ws[a]? = some (.inl (cA, N, .inr (.inl f)))) (hi : vp_in i N) (kk : sv_V p l e R s m args below meth c D cl A nL ad Q (pc + 1) lv (.long (f i.toNatClampNeg) :: st) ws k n) : sv_V p l e R s m args below meth c D cl A nL ad Q pc lv (.int i :: .ref a :: st) ws k n :=
  fun H locs ls hP hD hS hl => va_lald C.1 C.2.1 C.2.2.2.2.2.1 hP a t0 (f := f) (sv_w_at hw) ht hi hd (kk H locs ls hP hD hS hl)
theorem sv_zald (C : sv_C p s m args meth c D cl tys A cc nL own ret) {a N t0 : Nat} {cA : ClassId} {f : Nat → Int32} {i : Int32} (ht : tys[t0]? = some (cA, .boolean)) (hd : decode cc pc = .ok (.baload, 1)) (hw : ws[a]? = some (.inl (cA, N, .inl f))) (hi : vp_in i N) (kk : sv_V p l e R s m args below meth c D cl A nL ad Q (pc + 1) lv (.int (f i.toNatClampNeg) :: st) ws k n) : sv_V p l e R s m args below meth c D cl A nL ad Q pc lv (.int i :: .ref a :: st) ws k n :=
  fun H locs ls hP hD hS hl => va_zald C.1 C.2.1 C.2.2.2.2.2.1 hP a t0 (f := f) (sv_w_at hw) ht hi hd (kk H locs ls hP hD hS hl)
theorem sv_iast (C : sv_C p s m args meth c D cl tys A cc nL own ret) {a N t0 : Nat} {cA : ClassId} {f : Nat → Int32} {i : Int32} {x : Int32} (ht : tys[t0]? = some (cA, .int)) (hd : decode cc pc = .ok (.iastore, 1)) (hw : ws[a]? = some (.inl (cA, N, .inl f))) (hi : vp_in i N) (kk : sv_V p l e R s m args below meth c D cl A nL ad Q (pc + 1) lv st (ws.set a (.inl (cA, N, .inl (upd f i.toNatClampNeg x)))) k n) : sv_V p l e R s m args below meth c D cl A nL ad Q pc lv (.int x :: .int i :: .ref a :: st) ws k n := by
  intro H locs ls hP hD hS hl
  refine va_iast C.1 C.2.1 C.2.2.2.2.2.1 hP hD hS a t0 (f := f) (sv_w_at hw) ht hi hd (fun H1 locs1 hP1 hD1 hS1 => ?_)
  have e1 := sv_w_put ad ws a (.inl (cA, N, .inl (upd f i.toNatClampNeg x)))
  exact kk H1 locs1 ls (e1 ▸ hP1) (e1 ▸ hD1) hS1 hl
theorem sv_last (C : sv_C p s m args meth c D cl tys A cc nL own ret) {a N t0 : Nat} {cA : ClassId} {f : Nat → Int64} {i : Int32} {x : Int64} (ht : tys[t0]? = some (cA, .long)) (hd : decode cc pc = .ok (.lastore, 1)) (hw : ws[a]? = some (.inl (cA, N, .inr (.inl f)))) (hi : vp_in i N) (kk : sv_V p l e R s m args below meth c D cl A nL ad Q (pc + 1) lv st (ws.set a (.inl (cA, N, .inr (.inl (vp_updL f i.toNatClampNeg x))))) k n) : sv_V p l e R s m args below meth c D cl A nL ad Q pc lv (.long x :: .int i :: .ref a :: st) ws k n := by
  intro H locs ls hP hD hS hl
  refine va_last C.1 C.2.1 C.2.2.2.2.2.1 hP hD hS a t0 (f := f) (sv_w_at hw) ht hi hd (fun H1 locs1 hP1 hD1 hS1 => ?_)
  have e1 := sv_w_put ad ws a (.inl (cA, N, .inr (.inl (vp_updL f i.toNatClampNeg x))))
  exact kk H1 locs1 ls (e1 ▸ hP1) (e1 ▸ hD1) hS1 hl
theorem sv_zast (C : sv_C p s m args meth c D cl tys A cc nL own ret) {a N t0 : Nat} {cA : ClassId} {f : Nat → Int32} {i : Int32} {x : Int32} (ht : tys[t0]? = some (cA, .boolean)) (hd : decode cc pc = .ok (.bastore, 1)) (hw : ws[a]? = some (.inl (cA, N, .inl f))) (hi : vp_in i N) (kk : sv_V p l e R s m args below meth c D cl A nL ad Q (pc + 1) lv st (ws.set a (.inl (cA, N, .inl (upd f i.toNatClampNeg (vp_nar .boolean x))))) k n) : sv_V p l e R s m args below meth c D cl A nL ad Q pc lv (.int x :: .int i :: .ref a :: st) ws k n := by
  intro H locs ls hP hD hS hl
  refine va_zast C.1 C.2.1 C.2.2.2.2.2.1 hP hD hS a t0 (f := f) (sv_w_at hw) ht hi hd (fun H1 locs1 hP1 hD1 hS1 => ?_)
  have e1 := sv_w_put ad ws a (.inl (cA, N, .inl (upd f i.toNatClampNeg (vp_nar .boolean x))))
  exact kk H1 locs1 ls (e1 ▸ hP1) (e1 ▸ hD1) hS1 hl
theorem sv_alen (C : sv_C p s m args meth c D cl tys A cc nL own ret) {a t0 : Nat} {cA : ClassId} {x : vp_A} {ty : FieldType} {v : Int32} (ht : tys[t0]? = some (cA, ty)) (hd : decode cc pc = .ok (.arraylength, 1)) (hw : ws[a]? = some (.inl (cA, x))) (hv : Int32.ofNat x.1 = v) (kk : sv_V p l e R s m args below meth c D cl A nL ad Q (pc + 1) lv (.int v :: st) ws k n) : sv_V p l e R s m args below meth c D cl A nL ad Q pc lv (.ref a :: st) ws k n :=
  fun H locs ls hP hD hS hl => va_alen C.1 C.2.1 C.2.2.2.2.2.1 hP a t0 (sv_w_at hw) ht hv hd (kk H locs ls hP hD hS hl)
theorem sv_ldc (C : sv_C p s m args meth c D cl tys A cc nL own ret) {idx : Nat} {v : Int32} (hc : Jvm.Cond.constant own idx v ∈ sv_T) (hd : decode cc pc = .ok (.ldc idx, 2)) (kk : sv_V p l e R s m args below meth c D cl A nL ad Q (pc + 2) lv (.int v :: st) ws k n) : sv_V p l e R s m args below meth c D cl A nL ad Q pc lv st ws k n :=
  fun H locs ls hP hD hS hl => lv_ldc C.1 C.2.1 C.2.2.2.1 (C.2.2.2.2.1 _ hc) hd (kk H locs ls hP hD hS hl)
theorem sv_ldc2 (C : sv_C p s m args meth c D cl tys A cc nL own ret) {idx : Nat} {v : Int64} (hc : Jvm.Cond.constantLong own idx v ∈ sv_T) (hd : decode cc pc = .ok (.ldc2_w idx, 3)) (kk : sv_V p l e R s m args below meth c D cl A nL ad Q (pc + 3) lv (.long v :: st) ws k n) : sv_V p l e R s m args below meth c D cl A nL ad Q pc lv st ws k n :=
  fun H locs ls hP hD hS hl => lv_ldc2 C.1 C.2.1 C.2.2.2.1 (C.2.2.2.2.1 _ hc) hd (kk H locs ls hP hD hS hl)
def sv_mask : List Bool → List (Option Value) → List (Option Value)
  | true :: b, v :: r => v :: sv_mask b r
  | false :: b, _ :: r => none :: sv_mask b r
  | _, _ => []
theorem sv_mask_spec : ∀ (b : List Bool) (lv : List (Option Value)) (i : Nat) (v : Value), (sv_mask b lv)[i]? = some (some v) → lv[i]? = some (some v)
  | true :: b, x :: r, 0, v, h => h
  | true :: b, x :: r, i + 1, v, h => by
    simp only [sv_mask, List.getElem?_cons_succ] at h ⊢
    exact sv_mask_spec b r i v h
  | false :: b, x :: r, 0, v, h => by simp [sv_mask] at h
  | false :: b, x :: r, i + 1, v, h => by
    simp only [sv_mask, List.getElem?_cons_succ] at h ⊢
    exact sv_mask_spec b r i v h
  | [], lv, i, v, h => by simp [sv_mask] at h
  | true :: b, [], i, v, h => by simp [sv_mask] at h
  | false :: b, [], i, v, h => by simp [sv_mask] at h
theorem sv_drop (b : List Bool) (kk : sv_V p l e R s m args below meth c D cl A nL ad Q pc (sv_mask b lv) st ws k n) : sv_V p l e R s m args below meth c D cl A nL ad Q pc lv st ws k n := by
  intro H locs ls hP hD hS hl
  obtain ⟨l0, h1, h2⟩ := hl
  exact kk H locs ls hP hD hS ⟨l0, h1, fun i v hi => h2 i v (sv_mask_spec b lv i v hi)⟩
theorem sv_widen {k' n' : Nat} (hk : k ≤ k') (hn : n ≤ n') (kk : sv_V p l e R s m args below meth c D cl A nL ad Q pc lv st ws k' n') : sv_V p l e R s m args below meth c D cl A nL ad Q pc lv st ws k n :=
  fun H locs ls hP hD hS hl => W.widen hk hn (kk H locs ls hP hD hS hl)
/-- a computed number gets a name -/
theorem sv_topi {x : Int32} (kk : ∀ y : Int32, y = x → sv_V p l e R s m args below meth c D cl A nL ad Q pc lv (.int y :: st) ws k n) : sv_V p l e R s m args below meth c D cl A nL ad Q pc lv (.int x :: st) ws k n := kk x rfl
theorem sv_topl {x : Int64} (kk : ∀ y : Int64, y = x → sv_V p l e R s m args below meth c D cl A nL ad Q pc lv (.long y :: st) ws k n) : sv_V p l e R s m args below meth c D cl A nL ad Q pc lv (.long x :: st) ws k n := kk x rfl
end
end
section
/-! Rows of steps in a graph on numbers; what a search in depth leaves; rings. Pure: nothing of the machine. -/
def g_st (E : Nat → Nat → Prop) : Nat → Nat → Nat → Prop
  | 0, a, b => a = b
  | n + 1, a, b => ∃ c, E a c ∧ g_st E n c b
def g_re (E : Nat → Nat → Prop) (a b : Nat) : Prop := ∃ n, g_st E n a b
theorem g_st_tr {E : Nat → Nat → Prop} : ∀ (n k a b c : Nat), g_st E n a b → g_st E k b c → g_st E (n + k) a c
  | 0, k, a, b, c, h1, h2 => by
    have h1 : a = b := h1
    subst h1
    rw [Nat.zero_add]
    exact h2
  | n + 1, k, a, b, c, h1, h2 => by
    obtain ⟨x, hx, h1⟩ := h1
    have e : n + 1 + k = (n + k) + 1 := by omega
    rw [e]
    exact ⟨x, hx, g_st_tr n k x b c h1 h2⟩
theorem g_re_rf (E : Nat → Nat → Prop) (a : Nat) : g_re E a a := ⟨0, rfl⟩
theorem g_re_1 {E : Nat → Nat → Prop} {a b : Nat} (h : E a b) : g_re E a b := ⟨1, b, h, rfl⟩
theorem g_re_tr {E : Nat → Nat → Prop} {a b c : Nat} (h1 : g_re E a b) (h2 : g_re E b c) : g_re E a c := by
  obtain ⟨n, h1⟩ := h1
  obtain ⟨k, h2⟩ := h2
  exact ⟨n + k, g_st_tr n k a b c h1 h2⟩
theorem g_re_hd {E : Nat → Nat → Prop} {a b c : Nat} (h1 : E a b) (h2 : g_re E b c) : g_re E a c := g_re_tr (g_re_1 h1) h2
theorem g_re_tl {E : Nat → Nat → Prop} {a b c : Nat} (h1 : g_re E a b) (h2 : E b c) : g_re E a c := g_re_tr h1 (g_re_1 h2)
theorem g_st_back {E : Nat → Nat → Prop} {P : Nat → Prop} {b : Nat} (h0 : P b) (hs : ∀ x y, E x y → P y → P x) : ∀ (n a : Nat), g_st E n a b → P a
  | 0, a, h => by
    have h : a = b := h
    subst h
    exact h0
  | n + 1, a, h => by
    obtain ⟨c, hc, h⟩ := h
    exact hs a c hc (g_st_back h0 hs n c h)
theorem g_re_back {E : Nat → Nat → Prop} {P : Nat → Prop} {a b : Nat} (h : g_re E a b) (h0 : P b) (hs : ∀ x y, E x y → P y → P x) : P a := by
  obtain ⟨n, h⟩ := h
  exact g_st_back h0 hs n a h
theorem g_st_fwd {E : Nat → Nat → Prop} {P : Nat → Prop} (hs : ∀ x y, P x → E x y → P y) {b : Nat} : ∀ (n a : Nat), P a → g_st E n a b → P b
  | 0, a, h0, h => by
    have h : a = b := h
    subst h
    exact h0
  | n + 1, a, h0, h => by
    obtain ⟨c, hc, h⟩ := h
    exact g_st_fwd hs n c (hs a c h0 hc) h
theorem g_re_fwd {E : Nat → Nat → Prop} {P : Nat → Prop} {a b : Nat} (h : g_re E a b) (h0 : P a) (hs : ∀ x y, P x → E x y → P y) : P b := by
  obtain ⟨n, h⟩ := h
  exact g_st_fwd hs n a h0 h
theorem g_re_rev {E : Nat → Nat → Prop} {a b : Nat} (h : g_re (fun x y => E y x) a b) : g_re E b a :=
  g_re_back (P := fun x => g_re E b x) h (g_re_rf E b) (fun _ _ hxy hy => g_re_tl hy hxy)
theorem g_re_rev' {E : Nat → Nat → Prop} {a b : Nat} (h : g_re E b a) : g_re (fun x y => E y x) a b :=
  g_re_back (P := fun x => g_re (fun x y => E y x) a x) h (g_re_rf _ a) (fun _ _ hxy hy => g_re_tl hy hxy)
theorem g_re_cases {E : Nat → Nat → Prop} {a b : Nat} (h : g_re E a b) : a = b ∨ ∃ c, E a c ∧ g_re E c b := by
  obtain ⟨n, h⟩ := h
  cases n with
  | zero => exact Or.inl h
  | succ n =>
    obtain ⟨c, hc, h⟩ := h
    exact Or.inr ⟨c, hc, n, h⟩
theorem g_re_mono {E F : Nat → Nat → Prop} (hEF : ∀ x y, E x y → F x y) {a b : Nat} (h : g_re E a b) : g_re F a b :=
  g_re_back (P := fun x => g_re F x b) h (g_re_rf F b) (fun _ _ hxy hy => g_re_hd (hEF _ _ hxy) hy)
def g_eq (E : Nat → Nat → Prop) (a b : Nat) : Prop := g_re E a b ∧ g_re E b a
theorem g_eq_rf (E : Nat → Nat → Prop) (a : Nat) : g_eq E a a := ⟨g_re_rf E a, g_re_rf E a⟩
theorem g_eq_sy {E : Nat → Nat → Prop} {a b : Nat} (h : g_eq E a b) : g_eq E b a := ⟨h.2, h.1⟩
theorem g_eq_tr {E : Nat → Nat → Prop} {a b c : Nat} (h : g_eq E a b) (h2 : g_eq E b c) : g_eq E a c := ⟨g_re_tr h.1 h2.1, g_re_tr h2.2 h.2⟩
/-- b stands in the list at a or behind it -/
def g_bef (L : List Nat) (a b : Nat) : Prop := ∃ l1 l2, L = l1 ++ a :: l2 ∧ (b = a ∨ b ∈ l2)
theorem g_bef_cons {L : List Nat} {a b t : Nat} (h : g_bef L a b) : g_bef (t :: L) a b := by
  obtain ⟨l1, l2, e, h⟩ := h
  exact ⟨t :: l1, l2, by rw [e]; rfl, h⟩
theorem g_bef_hd {L : List Nat} {b t : Nat} (h : b ∈ t :: L) : g_bef (t :: L) t b := ⟨[], L, rfl, List.mem_cons.mp h⟩
/-- A SEARCH IN DEPTH: O open, P the path (its top first), L ended (the last first), of the states of X along E -/
def g_dfs (E : Nat → Nat → Prop) (X O : Nat → Prop) (P L : List Nat) : Prop :=
  (∀ x, X x ↔ (O x ∨ x ∈ P ∨ x ∈ L)) ∧ (∀ x, O x → x ∉ P ∧ x ∉ L) ∧ (∀ x, x ∈ P → x ∉ L) ∧ P.Nodup ∧ L.Nodup ∧
  (∀ l1 t l2, P = l1 ++ t :: l2 → ∀ g, g ∈ l2 → g_re E g t) ∧
  (∀ x, x ∈ L → ∀ y, E x y → ¬ O y) ∧
  (∀ x, x ∈ L → (∃ g, g ∈ P ∧ g_eq E g x) ∨ ∀ w, g_re E x w → w ∈ L ∧ ∃ x', g_eq E x x' ∧ g_bef L x' w)
theorem g_dfs_0 {E : Nat → Nat → Prop} {X : Nat → Prop} : g_dfs E X X [] [] := by
  refine ⟨fun x => ⟨fun h => Or.inl h, fun h => ?_⟩, fun x _ => ⟨List.not_mem_nil, List.not_mem_nil⟩, fun x _ => List.not_mem_nil, List.nodup_nil, List.nodup_nil, ?_, ?_, ?_⟩
  · rcases h with h | h | h
    · exact h
    · exact absurd h List.not_mem_nil
    · exact absurd h List.not_mem_nil
  · intro l1 t l2 h
    simp at h
  · intro x h
    exact absurd h List.not_mem_nil
  · intro x h
    exact absurd h List.not_mem_nil
/-- entering n -/
theorem g_dfs_in {E : Nat → Nat → Prop} {X O O' : Nat → Prop} {P L : List Nat} (h : g_dfs E X O P L) (n : Nat) (hn : O n) (hO : ∀ x, O' x ↔ (O x ∧ x ≠ n))
    (hP : P = [] ∨ ∃ t r, P = t :: r ∧ E t n) : g_dfs E X O' (n :: P) L := by
  obtain ⟨a1, a2, a3, a4, a5, a6, a7, a8⟩ := h
  refine ⟨fun x => ⟨fun hx => ?_, fun hx => ?_⟩, fun x hx => ?_, fun x hx => ?_, List.nodup_cons.mpr ⟨(a2 n hn).1, a4⟩, a5, ?_, ?_, ?_⟩
  · rcases (a1 x).mp hx with h | h | h
    · by_cases e : x = n
      · exact Or.inr (Or.inl (by rw [e]; exact List.mem_cons_self))
      · exact Or.inl ((hO x).mpr ⟨h, e⟩)
    · exact Or.inr (Or.inl (List.mem_cons_of_mem _ h))
    · exact Or.inr (Or.inr h)
  · rcases hx with h | h | h
    · exact (a1 x).mpr (Or.inl ((hO x).mp h).1)
    · rcases List.mem_cons.mp h with e | h
      · rw [e]
        exact (a1 n).mpr (Or.inl hn)
      · exact (a1 x).mpr (Or.inr (Or.inl h))
    · exact (a1 x).mpr (Or.inr (Or.inr h))
  · obtain ⟨h1, h2⟩ := (hO x).mp hx
    refine ⟨fun h => ?_, (a2 x h1).2⟩
    rcases List.mem_cons.mp h with e | h
    · exact h2 e
    · exact (a2 x h1).1 h
  · rcases List.mem_cons.mp hx with e | h
    · rw [e]
      exact (a2 n hn).2
    · exact a3 x h
  · intro l1 t l2 e g hg
    cases l1 with
    | nil =>
      rw [List.nil_append] at e
      injection e with e1 e2
      subst e1
      subst e2
      rcases hP with hP | ⟨t, r, hP, hE⟩
      · rw [hP] at hg
        exact absurd hg List.not_mem_nil
      · subst hP
        rcases List.mem_cons.mp hg with e | hg
        · rw [e]
          exact g_re_1 hE
        · exact g_re_tl (a6 [] t r rfl g hg) hE
    | cons b l1 =>
      rw [List.cons_append] at e
      injection e with e1 e2
      exact a6 l1 t l2 e2 g hg
  · intro x hx y hy h
    exact a7 x hx y hy ((hO y).mp h).1
  · intro x hx
    rcases a8 x hx with ⟨g, hg, hq⟩ | h
    · exact Or.inl ⟨g, List.mem_cons_of_mem _ hg, hq⟩
    · exact Or.inr h
/-- ending t: nothing open is behind it -/
theorem g_dfs_out {E : Nat → Nat → Prop} {X O : Nat → Prop} {P L : List Nat} {t : Nat} (hX : ∀ x y, E x y → X x ∧ X y) (h : g_dfs E X O (t :: P) L) (ht : ∀ y, E t y → ¬ O y) : g_dfs E X O P (t :: L) := by
  obtain ⟨a1, a2, a3, a4, a5, a6, a7, a8⟩ := h
  have htL : t ∉ L := a3 t List.mem_cons_self
  have htP : t ∉ P := (List.nodup_cons.mp a4).1
  have hno : ∀ x, x ∈ t :: L → ∀ y, E x y → ¬ O y := by
    intro x hx y hy
    rcases List.mem_cons.mp hx with e | hx
    · rw [e] at hy
      exact ht y hy
    · exact a7 x hx y hy
  have hup : ∀ g, g ∈ P → g_re E g t := fun g hg => a6 [] t P rfl g hg
  refine ⟨fun x => ⟨fun hx => ?_, fun hx => ?_⟩, fun x hx => ?_, fun x hx => ?_, (List.nodup_cons.mp a4).2, List.nodup_cons.mpr ⟨htL, a5⟩, ?_, hno, ?_⟩
  · rcases (a1 x).mp hx with h | h | h
    · exact Or.inl h
    · rcases List.mem_cons.mp h with e | h
      · exact Or.inr (Or.inr (by rw [e]; exact List.mem_cons_self))
      · exact Or.inr (Or.inl h)
    · exact Or.inr (Or.inr (List.mem_cons_of_mem _ h))
  · rcases hx with h | h | h
    · exact (a1 x).mpr (Or.inl h)
    · exact (a1 x).mpr (Or.inr (Or.inl (List.mem_cons_of_mem _ h)))
    · rcases List.mem_cons.mp h with e | h
      · exact (a1 x).mpr (Or.inr (Or.inl (by rw [e]; exact List.mem_cons_self)))
      · exact (a1 x).mpr (Or.inr (Or.inr h))
  · obtain ⟨h1, h2⟩ := a2 x hx
    refine ⟨fun h => h1 (List.mem_cons_of_mem _ h), fun h => ?_⟩
    rcases List.mem_cons.mp h with e | h
    · exact h1 (by rw [e]; exact List.mem_cons_self)
    · exact h2 h
  · intro h
    rcases List.mem_cons.mp h with e | h
    · exact htP (by rw [← e]; exact hx)
    · exact a3 x (List.mem_cons_of_mem _ hx) h
  · intro l1 t' l2 e g hg
    exact a6 (t :: l1) t' l2 (by rw [e]; rfl) g hg
  · -- the order
    have key : ∀ x, g_eq E t x → (∃ g, g ∈ P ∧ g_eq E g x) ∨ ∀ w, g_re E x w → w ∈ t :: L ∧ ∃ x', g_eq E x x' ∧ g_bef (t :: L) x' w := by
      intro x hx
      by_cases hg : ∃ g, g ∈ P ∧ g_eq E g t
      · obtain ⟨g, hg, hq⟩ := hg
        exact Or.inl ⟨g, hg, g_eq_tr hq hx⟩
      · refine Or.inr (fun w hw => ?_)
        have hin : w ∈ t :: L := by
          have hb : w ∈ t :: L ∧ g_re E t w := by
            refine g_re_fwd (P := fun z => z ∈ t :: L ∧ g_re E t z) (g_re_tr hx.1 hw) ⟨List.mem_cons_self, g_re_rf E t⟩ (fun y z hy hyz => ?_)
            have hz : g_re E t z := g_re_tl hy.2 hyz
            refine ⟨?_, hz⟩
            rcases (a1 z).mp (hX y z hyz).2 with h | h | h
            · exact absurd h (hno y hy.1 z hyz)
            · rcases List.mem_cons.mp h with e | h
              · rw [e]
                exact List.mem_cons_self
              · exact absurd ⟨z, h, hup z h, hz⟩ hg
            · exact List.mem_cons_of_mem _ h
          exact hb.1
        exact ⟨hin, t, g_eq_sy hx, g_bef_hd hin⟩
    intro x hx
    rcases List.mem_cons.mp hx with e | hx
    · rw [e]
      exact key t (g_eq_rf E t)
    · rcases a8 x hx with ⟨g, hg, hq⟩ | h
      · rcases List.mem_cons.mp hg with e | hg
        · rw [e] at hq
          exact key x hq
        · exact Or.inl ⟨g, hg, hq⟩
      · refine Or.inr (fun w hw => ?_)
        obtain ⟨h1, x', h2, h3⟩ := h w hw
        exact ⟨List.mem_cons_of_mem _ h1, x', h2, g_bef_cons h3⟩
/-- at the end: the list has all of X, once each, and whatever x leads to has one of x's ring at it or ahead of it -/
theorem g_dfs_end {E : Nat → Nat → Prop} {X O : Nat → Prop} {L : List Nat} (h : g_dfs E X O [] L) (hO : ∀ x, ¬ O x) :
    (∀ x, X x ↔ x ∈ L) ∧ L.Nodup ∧ ∀ x, X x → ∀ w, g_re E x w → ∃ x', g_eq E x x' ∧ g_bef L x' w := by
  obtain ⟨a1, a2, a3, a4, a5, a6, a7, a8⟩ := h
  have hX : ∀ x, X x ↔ x ∈ L := fun x => ⟨fun hx => by
    rcases (a1 x).mp hx with h | h | h
    · exact absurd h (hO x)
    · exact absurd h List.not_mem_nil
    · exact h, fun hx => (a1 x).mpr (Or.inr (Or.inr hx))⟩
  refine ⟨hX, a5, fun x hx w hw => ?_⟩
  rcases a8 x ((hX x).mp hx) with ⟨g, hg, -⟩ | h
  · exact absurd hg List.not_mem_nil
  · exact (h w hw).2
theorem g_split {done rest l1 l2 : List Nat} {r a : Nat} (hn : (done ++ r :: rest).Nodup) (e : done ++ r :: rest = l1 ++ a :: l2) (h : r = a ∨ r ∈ l2) : r = a ∨ a ∈ done := by
  induction done generalizing l1 with
  | nil =>
    cases l1 with
    | nil =>
      rw [List.nil_append, List.nil_append] at e
      injection e with e1 e2
      exact Or.inl e1
    | cons b l1 =>
      rw [List.nil_append, List.cons_append] at e
      injection e with e1 e2
      rw [List.nil_append] at hn
      have hr : r ∉ rest := (List.nodup_cons.mp hn).1
      exfalso
      refine hr ?_
      rw [e2]
      rcases h with h | h
      · rw [h]
        exact List.mem_append_right _ List.mem_cons_self
      · exact List.mem_append_right _ (List.mem_cons_of_mem _ h)
  | cons d done ih =>
    cases l1 with
    | nil =>
      rw [List.cons_append, List.nil_append] at e
      injection e with e1 e2
      exact Or.inr (by rw [e1]; exact List.mem_cons_self)
    | cons b l1 =>
      rw [List.cons_append, List.cons_append] at e
      injection e with e1 e2
      rw [List.cons_append] at hn
      rcases ih (List.nodup_cons.mp hn).2 e2 with q | q
      · exact Or.inl q
      · exact Or.inr (List.mem_cons_of_mem _ q)
/-- THE RINGS, one by one. B: the way back (the graph of the search), its list L; O2: what is open when r's turn comes: no ring of one that came before. Whatever open state r leads to is of r's ring. -/
theorem g_ring {E : Nat → Nat → Prop} {X O2 : Nat → Prop} {done rest : List Nat} {r : Nat}
    (hL : ∀ x, X x → ∀ w, g_re (fun a b => E b a) x w → ∃ x', g_eq (fun a b => E b a) x x' ∧ g_bef (done ++ r :: rest) x' w)
    (hn : (done ++ r :: rest).Nodup) (hO : ∀ x, O2 x ↔ (X x ∧ ∀ d, d ∈ done → ¬ g_eq E d x)) {w : Nat} (hw : O2 w) (hrw : g_re E r w) : g_eq E r w := by
  obtain ⟨hwX, hwd⟩ := (hO w).mp hw
  obtain ⟨w', hq, l1, l2, e, hr⟩ := hL w hwX r (g_re_rev' hrw)
  have hq' : g_eq E w w' := ⟨g_re_rev hq.2, g_re_rev hq.1⟩
  rcases g_split hn e hr with h | h
  · rw [h]
    exact g_eq_sy hq'
  · exact absurd (g_eq_sy hq') (hwd w' h)
/-- what is found from r through open states is r's ring -/
theorem g_found {E : Nat → Nat → Prop} {X O2 F : Nat → Prop} {done rest : List Nat} {r : Nat} (hX : ∀ x y, E x y → X x ∧ X y)
    (hL : ∀ x, X x → ∀ w, g_re (fun a b => E b a) x w → ∃ x', g_eq (fun a b => E b a) x x' ∧ g_bef (done ++ r :: rest) x' w)
    (hn : (done ++ r :: rest).Nodup) (hO : ∀ x, O2 x ↔ (X x ∧ ∀ d, d ∈ done → ¬ g_eq E d x)) (hr : O2 r)
    (hF : ∀ w, F w ↔ g_re (fun a b => O2 b ∧ E a b) r w) (w : Nat) : F w ↔ g_eq E r w := by
  rw [hF w]
  constructor
  · intro h
    have h1 : O2 w ∧ g_re E r w := g_re_fwd (P := fun z => O2 z ∧ g_re E r z) h ⟨hr, g_re_rf E r⟩ (fun x y hx hxy => ⟨hxy.1, g_re_tl hx.2 hxy.2⟩)
    exact g_ring hL hn hO h1.1 h1.2
  · intro h
    have hopen : ∀ z, X z → g_eq E r z → O2 z := fun z hz hq => (hO z).mpr ⟨hz, fun d hd hdz => ((hO r).mp hr).2 d hd (g_eq_tr hdz (g_eq_sy hq))⟩
    have h1 : g_re E w w ∧ (g_re E r w → g_re (fun a b => O2 b ∧ E a b) w w) := ⟨g_re_rf E w, fun _ => g_re_rf _ w⟩
    have h2 : g_re E r w ∧ (g_re E r r → g_re (fun a b => O2 b ∧ E a b) r w) :=
      g_re_back (P := fun x => g_re E x w ∧ (g_re E r x → g_re (fun a b => O2 b ∧ E a b) x w)) h.1 h1 (fun x y hxy hy => ⟨g_re_hd hxy hy.1, fun hrx => by
        have hry : g_re E r y := g_re_tl hrx hxy
        exact g_re_hd (E := fun a b => O2 b ∧ E a b) ⟨hopen y (hX x y hxy).2 ⟨hry, g_re_tr hy.1 h.2⟩, hxy⟩ (hy.2 hry)⟩)
    exact h2.2 (g_re_rf E r)
/-- an endless row through E from s on, with Y again and again -/
def g_ag (E : Nat → Nat → Prop) (Y : Nat → Prop) (s : Nat) : Prop := ∃ t, g_re E s t ∧ Y t ∧ ∃ u, E t u ∧ g_re E u t
theorem g_ag_back {E : Nat → Nat → Prop} {Y : Nat → Prop} {a b : Nat} (h : g_re E a b) (hb : g_ag E Y b) : g_ag E Y a := by
  obtain ⟨t, h1, h2⟩ := hb
  exact ⟨t, g_re_tr h h1, h2⟩
/-- A RING's TURN: T is right of all that is no more open -/
theorem g_turn {S E : Nat → Nat → Prop} {X Y O2 F T : Nat → Prop} {done rest : List Nat} {r : Nat} (hE : ∀ x y, E x y ↔ (X x ∧ X y ∧ S x y))
    (hL : ∀ x, X x → ∀ w, g_re (fun a b => E b a) x w → ∃ x', g_eq (fun a b => E b a) x x' ∧ g_bef (done ++ r :: rest) x' w)
    (hn : (done ++ r :: rest).Nodup) (hO : ∀ x, O2 x ↔ (X x ∧ ∀ d, d ∈ done → ¬ g_eq E d x)) (hr : O2 r)
    (hF : ∀ w, F w ↔ g_eq E r w) (hT : ∀ x, T x ↔ (X x ∧ ¬ O2 x ∧ g_ag E Y x)) (w : Nat) (hw : F w) :
    ((∃ x, F x ∧ ∃ v, S x v ∧ T v) ∨ ((∃ x, F x ∧ Y x) ∧ ((∃ x, F x ∧ x ≠ r) ∨ S r r))) ↔ g_ag E Y w := by
  have hrX : X r := ((hO r).mp hr).1
  have hFX : ∀ x, F x → X x := by
    intro x hx
    rcases g_re_cases ((hF x).mp hx).2 with e | ⟨c, hc, -⟩
    · rw [e]
      exact hrX
    · exact ((hE x c).mp hc).1
  have hwr : g_eq E r w := (hF w).mp hw
  constructor
  · rintro (⟨x, hx, v, hv, hT1⟩ | ⟨⟨y, hy, hY⟩, hround⟩)
    · obtain ⟨hvX, -, hag⟩ := (hT v).mp hT1
      have hxr : g_eq E r x := (hF x).mp hx
      have hE1 : E x v := (hE x v).mpr ⟨hFX x hx, hvX, hv⟩
      exact g_ag_back (g_re_tr hwr.2 (g_re_tl hxr.1 hE1)) hag
    · have hyr : g_eq E r y := (hF y).mp hy
      refine ⟨y, g_re_tr hwr.2 hyr.1, hY, ?_⟩
      rcases g_re_cases hyr.2 with e | ⟨c, hc, hcr⟩
      · subst e
        rcases hround with ⟨z, hz, hne⟩ | hself
        · have hzr : g_eq E y z := (hF z).mp hz
          rcases g_re_cases hzr.1 with e | ⟨c, hc, hcz⟩
          · exact absurd e.symm hne
          · exact ⟨c, hc, g_re_tr hcz hzr.2⟩
        · exact ⟨y, (hE y y).mpr ⟨hrX, hrX, hself⟩, g_re_rf E y⟩
      · exact ⟨c, hc, g_re_tr hcr hyr.1⟩
  · rintro ⟨t, hwt, hY, u, htu, hut⟩
    by_cases htr : g_eq E r t
    · refine Or.inr ⟨⟨t, (hF t).mpr htr, hY⟩, ?_⟩
      have hur : g_eq E r u := ⟨g_re_tl htr.1 htu, g_re_tr hut htr.2⟩
      by_cases e1 : u = r
      · by_cases e2 : t = r
        · subst e1
          subst e2
          exact Or.inr ((hE t t).mp htu).2.2
        · exact Or.inl ⟨t, (hF t).mpr htr, e2⟩
      · exact Or.inl ⟨u, (hF u).mpr hur, e1⟩
    · left
      have hag : ∀ y, g_re E y t → g_ag E Y y := fun y hy => ⟨t, hy, hY, u, htu, hut⟩
      have h0 : g_re E t t ∧ (g_eq E r t → ∃ x, F x ∧ ∃ v, S x v ∧ T v) := ⟨g_re_rf E t, fun h => absurd h htr⟩
      have h1 : g_re E w t ∧ (g_eq E r w → ∃ x, F x ∧ ∃ v, S x v ∧ T v) :=
        g_re_back (P := fun z => g_re E z t ∧ (g_eq E r z → ∃ x, F x ∧ ∃ v, S x v ∧ T v)) hwt h0 (fun x y hxy hy => by
          refine ⟨g_re_hd hxy hy.1, fun hrx => ?_⟩
          by_cases hry : g_eq E r y
          · exact hy.2 hry
          · obtain ⟨hx1, hx2, hx3⟩ := (hE x y).mp hxy
            refine ⟨x, (hF x).mpr hrx, y, hx3, (hT y).mpr ⟨hx2, fun ho => hry ?_, hag y hy.1⟩⟩
            exact g_ring hL hn hO ho (g_re_tl hrx.1 hxy))
      exact h1.2 hwr
/-- the open states behind r's turn -/
theorem g_open_next {E : Nat → Nat → Prop} {X O2 O3 F : Nat → Prop} {done : List Nat} {r : Nat} (hO : ∀ x, O2 x ↔ (X x ∧ ∀ d, d ∈ done → ¬ g_eq E d x))
    (hF : ∀ w, F w ↔ g_eq E r w) (h3 : ∀ x, O3 x ↔ (O2 x ∧ ¬ F x)) (x : Nat) : O3 x ↔ (X x ∧ ∀ d, d ∈ done ++ [r] → ¬ g_eq E d x) := by
  rw [h3 x, hO x, hF x]
  constructor
  · rintro ⟨⟨h1, h2⟩, h4⟩
    refine ⟨h1, fun d hd => ?_⟩
    rcases List.mem_append.mp hd with hd | hd
    · exact h2 d hd
    · rw [List.mem_singleton.mp hd]
      exact h4
  · rintro ⟨h1, h2⟩
    exact ⟨⟨h1, fun d hd => h2 d (List.mem_append_left _ hd)⟩, h2 r (List.mem_append_right _ (List.mem_singleton.mpr rfl))⟩
theorem g_open_skip {E : Nat → Nat → Prop} {X O2 : Nat → Prop} {done : List Nat} {r : Nat} (hO : ∀ x, O2 x ↔ (X x ∧ ∀ d, d ∈ done → ¬ g_eq E d x))
    (hrX : X r) (hr : ¬ O2 r) (x : Nat) : O2 x ↔ (X x ∧ ∀ d, d ∈ done ++ [r] → ¬ g_eq E d x) := by
  rw [hO x]
  constructor
  · rintro ⟨h1, h2⟩
    refine ⟨h1, fun d hd => ?_⟩
    rcases List.mem_append.mp hd with hd | hd
    · exact h2 d hd
    · rw [List.mem_singleton.mp hd]
      intro hq
      refine hr ((hO r).mpr ⟨hrX, fun d hd hdr => h2 d hd (g_eq_tr hdr hq)⟩)
  · rintro ⟨h1, h2⟩
    exact ⟨h1, fun d hd => h2 d (List.mem_append_left _ hd)⟩
/-! Counting; a search in breadth. Pure. -/
def g_cnt (O : Nat → Bool) : Nat → Nat
  | 0 => 0
  | n + 1 => g_cnt O n + (if O n = true then 1 else 0)
theorem g_cnt_le (O : Nat → Bool) : ∀ n, g_cnt O n ≤ n
  | 0 => Nat.le_refl 0
  | n + 1 => by
    have h := g_cnt_le O n
    simp only [g_cnt]
    split <;> omega
theorem g_cnt_congr {O O' : Nat → Bool} : ∀ n, (∀ x, x < n → O x = O' x) → g_cnt O n = g_cnt O' n
  | 0, _ => rfl
  | n + 1, h => by
    simp only [g_cnt]
    rw [g_cnt_congr n (fun x hx => h x (by omega)), h n (by omega)]
theorem g_cnt_drop {O O' : Nat → Bool} {k : Nat} (hk : O k = true) (hO : ∀ x, O' x = (O x && decide (x ≠ k))) : ∀ n, k < n → g_cnt O' n + 1 = g_cnt O n
  | 0, h => absurd h (Nat.not_lt_zero k)
  | n + 1, h => by
    simp only [g_cnt]
    by_cases e : k = n
    · subst e
      have h1 : g_cnt O' k = g_cnt O k := g_cnt_congr k (fun x hx => by
        rw [hO x]
        have : x ≠ k := by omega
        simp [this])
      have h2 : O' k = false := by rw [hO k]; simp
      rw [h1, h2, hk]
      simp
    · have h1 := g_cnt_drop hk hO n (by omega)
      have h2 : O' n = O n := by
        rw [hO n]
        have : n ≠ k := fun q => e q.symm
        simp [this]
      rw [h2]
      omega
theorem g_cnt_0 {O : Nat → Bool} : ∀ n, g_cnt O n = 0 → ∀ x, x < n → O x = false
  | 0, _, x, h => absurd h (Nat.not_lt_zero x)
  | n + 1, h, x, hx => by
    simp only [g_cnt] at h
    by_cases e : x = n
    · subst e
      cases ho : O x with
      | false => rfl
      | true => simp [ho] at h
    · exact g_cnt_0 n (by omega) x (by omega)
end
section
/-! Contracts over pictures: a method's start, its end, its calls. -/
def sv_P (D : va_G) (cl : List vw_C) (tys : List (ClassId × FieldType)) (av : List Value) (ws : List va_E) (ad : Nat → Nat) (sz : Nat) : Array Value → State → Prop :=
  va_Pc (av.map (sv_v ad)) (fun U => U.heap.size = sz ∧ va_P D cl (sv_w ad 0 ws) U.heap ∧ va_K D cl tys U ∧ va_D (fun _ => True) (sv_w ad 0 ws) ∧ sv_Z (va_A (sv_w ad 0 ws) sz) U)
def sv_Q (D : va_G) (cl : List vw_C) (A : Nat → Prop) (n0 n1 : Nat) (ad : Nat → Nat) (P : Option Value → List va_E → Prop) : Array Value → State → Outcome → State → Prop := fun _ st o t =>
  ∃ (v : Option Value) (ws' : List va_E) (ad' : Nat → Nat), o = .returned (v.map (sv_v ad')) ∧ P v ws' ∧ (∀ i, ¬ (n0 ≤ i ∧ i < n1) → ad' i = ad i) ∧ va_P D cl (sv_w ad' 0 ws') t.heap ∧ va_D A (sv_w ad' 0 ws') ∧ va_F A st t
def sv_X (D : va_G) (cl : List vw_C) (A : Nat → Prop) (ad : Nat → Nat) (X : String → List va_E → Prop) : String → State → State → Prop := fun E st t =>
  ∃ ws' : List va_E, X E ws' ∧ va_P D cl (sv_w ad 0 ws') t.heap ∧ va_D A (sv_w ad 0 ws') ∧ va_F A st t
/-- A METHOD's CONTRACT: with these arguments and cells it returns v and leaves ws' with P v ws', or throws an E with X E ws'; the places n0 .. n1 - 1 are new -/
def sv_M (l : Launch) (y : MethodName) (Wd : List Cond) (rm : Room) (D : va_G) (cl : List vw_C) (tys : List (ClassId × FieldType)) (av : List Value) (ws : List va_E) (n0 n1 : Nat) (P : Option Value → List va_E → Prop) (X : String → List va_E → Prop) (mc ms : Nat) : Prop :=
  ∀ (ad : Nat → Nat) (sz : Nat), vx_Met l y Wd rm (sv_P D cl tys av ws ad sz) (sv_Q D cl (va_A (sv_w ad 0 ws) sz) n0 n1 ad P) (sv_X D cl (va_A (sv_w ad 0 ws) sz) ad X) mc ms (va_A (sv_w ad 0 ws) sz)
/-- it never throws -/
def sv_no : String → List va_E → Prop := fun _ _ => False
/-- the locals at the entry -/
def sv_i0 : List Value → List (Option Value)
  | [] => []
  | v :: r => if v.category = 2 then some v :: none :: sv_i0 r else some v :: sv_i0 r
def sv_i (av : List Value) (n : Nat) : List (Option Value) := sv_i0 av ++ List.replicate (n - (sv_i0 av).length) none
theorem sv_i0_len (ad : Nat → Nat) : ∀ av : List Value, (lg_sl (av.map (sv_v ad))).length = (sv_i0 av).length
  | [] => rfl
  | v :: r => by
    have h := sv_i0_len ad r
    simp only [lg_sl, List.map_cons, List.flatMap_cons, List.length_append, sv_i0, sv_v_cat] at h ⊢
    split <;> simp [h] <;> omega
theorem sv_i0_in (ad : Nat → Nat) : ∀ (av : List Value) (j i : Nat) (v : Value), (sv_i0 av)[i]? = some (some v) → (j + i, sv_v ad v) ∈ lv_args j (av.map (sv_v ad))
  | [], j, i, v, h => by simp [sv_i0] at h
  | w :: r, j, i, v, h => by
    simp only [List.map_cons, lv_args, sv_v_cat]
    by_cases hc : w.category = 2
    · simp only [sv_i0, hc, if_true] at h ⊢
      match i, h with
      | 0, h =>
        have h : w = v := by simpa using h
        rw [h]
        exact List.mem_cons_self
      | 1, h => simp at h
      | i + 2, h =>
        have h1 := sv_i0_in ad r (j + 2) i v (by simpa using h)
        rw [show j + 2 + i = j + (i + 2) by omega] at h1
        exact List.mem_cons_of_mem _ h1
    · simp only [sv_i0, hc, if_false] at h ⊢
      match i, h with
      | 0, h =>
        have h : w = v := by simpa using h
        rw [h]
        exact List.mem_cons_self
      | i + 1, h =>
        have h1 := sv_i0_in ad r (j + 1) i v (by simpa using h)
        rw [show j + 1 + i = j + (i + 1) by omega] at h1
        exact List.mem_cons_of_mem _ h1
theorem sv_i_in {ad : Nat → Nat} {av : List Value} {n i : Nat} {v : Value} (h : (sv_i av n)[i]? = some (some v)) : (i, sv_v ad v) ∈ lv_args 0 (av.map (sv_v ad)) := by
  by_cases hi : i < (sv_i0 av).length
  · rw [sv_i, List.getElem?_append_left hi] at h
    have h1 := sv_i0_in ad av 0 i v h
    rwa [Nat.zero_add] at h1
  · rw [sv_i, List.getElem?_append_right (by omega), List.getElem?_replicate] at h
    split at h <;> simp at h
theorem sv_blind {D : va_G} {cl : List vw_C} {tys : List (ClassId × FieldType)} {av : List Value} {ws : List va_E} {ad : Nat → Nat} {sz : Nat} : FrameBlind (sv_P D cl tys av ws ad sz) := by
  intro a U g mk q
  obtain ⟨q0, q1, qP, qK, qD, z1, z2, s0, a0, z3, z4⟩ := q
  exact ⟨q0, q1, qP, va_K.moved (u := U) (U := U.calling g mk a) (Vm.Alike.refl U.vm) qK, qD, vx_Zq.moved (u := U) (U := U.calling g mk a) (Vm.Alike.refl U.vm) z1, vx_Zq.moved (u := U) (U := U.calling g mk a) (Vm.Alike.refl U.vm) z2, s0, a0, z3, z4⟩
/-- FROM A WALK TO A CONTRACT -/
theorem sv_of {l : Launch} {y : MethodName} {rm : Room} {D : va_G} {cl : List vw_C} {tys : List (ClassId × FieldType)} {av : List Value} {ws : List va_E} {n0 n1 : Nat} {P : Option Value → List va_E → Prop} {X : String → List va_E → Prop} {mc ms : Nat} {cc : ByteArray} {maxL : Nat} {ret : Option FieldType}
    (hy : plainName y.cls = true) (hlen : (sv_i0 av).length ≤ maxL)
    (body : ∀ (p : Program) (e : Env) (s : State) (m : MethodId) (args : Array Value) (below : List Frame) (meth : Method) (c : Code) (A : Nat → Prop) (ad : Nat → Nat), sv_C p s m args meth c D cl tys A cc maxL y.cls ret → (∀ x ∈ c.exceptionTable.toList, False) → meth.name = y.name →
      sv_V p l e rm s m args below meth c D cl A maxL ad (vx_MQ below (sv_Q D cl A n0 n1 ad P) (sv_X D cl A ad X) args s mc ms A) 0 (sv_i av maxL) [] ws 0 0) :
    sv_M l y [Cond.code y cc maxL ret] rm D cl tys av ws n0 n1 P X mc ms := by
  intro ad sz
  refine vx_ofW (cc := cc) (maxL := maxL) (ret := ret) hy rfl ?_
  intro p e s m args below meth c s₁ B hml htab hv
  obtain ⟨rfl, hsz, hP, hK, hD0, hZ⟩ := hv
  subst hsz
  have hC : sv_C p s m (av.map (sv_v ad)).toArray meth c D cl tys (va_A (sv_w ad 0 ws) s.heap.size) cc maxL y.cls ret :=
    ⟨B.exec, B.bytes, hml, findClass_of_methodNamed B.named, sv_Z_ts hZ _, hK, fun q h => Or.inr h, B.returns, B.notSynchronized, hZ⟩
  have hb := body p e s m _ below meth c _ ad hC htab (name_of_methodNamed B.named B.method).1
  have hl := lv_entry (av.map (sv_v ad)) (n := maxL) (by rw [sv_i0_len]; exact hlen)
  rw [lg_entry_eq]
  exact hb s.heap [] _ hP hD0.self va_S.rf ⟨_, hl, fun i v hi => sv_i_in hi⟩
section
variable {p : Program} {l : Launch} {e : Env} {R : Room} {s : State} {m : MethodId} {args : Array Value} {below : List Frame} {meth : Method} {c : Code} {D : va_G} {cl : List vw_C} {tys : List (ClassId × FieldType)} {A : Nat → Prop} {nL : Nat} {ad ad0 : Nat → Nat} {Q : State → Prop} {cc : ByteArray} {own : String} {ret : Option FieldType} {pc : Nat} {lv : List (Option Value)} {st : List Value} {ws : List va_E} {k n : Nat}
variable {n0 n1 mc ms : Nat} {P : Option Value → List va_E → Prop} {X : String → List va_E → Prop} {XC : String → State → State → Prop}
theorem sv_iret (C : sv_C p s m args meth c D cl tys A cc nL own ret) {ty : FieldType} {v : Int32} (hret : ret = some ty) (hnar : narrow ty (.int v) = .int v) (hd : decode cc pc = .ok (.ireturn, 1)) (hk : k ≤ mc) (hn : n ≤ ms) (hag : ∀ i, ¬ (n0 ≤ i ∧ i < n1) → ad i = ad0 i) (hP : P (some (.int v)) ws) :
    sv_V p l e R s m args below meth c D cl A nL ad (vx_MQ below (sv_Q D cl A n0 n1 ad0 P) XC args s mc ms A) pc lv [.int v] ws k n := by
  intro H locs ls hP1 hD hS hl
  have hlocks : meth.locks = false := C.2.2.2.2.2.2.2.2.1
  refine W.widen hk hn (vx_ret ?_)
  exact W.zret C.1 C.2.1 (C.2.2.2.2.2.2.2.1.trans hret) hnar (fun t ht hW => ⟨some (.int v), ws, ad, rfl, hP, hag, by rw [ht]; exact hP1, hD, hS.F ht⟩) hS.2.2 hd hlocks
theorem sv_vret (C : sv_C p s m args meth c D cl tys A cc nL own ret) (hret : ret = none) (hd : decode cc pc = .ok (.return_, 1)) (hk : k ≤ mc) (hn : n ≤ ms) (hag : ∀ i, ¬ (n0 ≤ i ∧ i < n1) → ad i = ad0 i) (hP : P none ws) :
    sv_V p l e R s m args below meth c D cl A nL ad (vx_MQ below (sv_Q D cl A n0 n1 ad0 P) XC args s mc ms A) pc lv [] ws k n := by
  intro H locs ls hP1 hD hS hl
  have hlocks : meth.locks = false := C.2.2.2.2.2.2.2.2.1
  refine W.widen hk hn (vx_ret ?_)
  exact W.vret C.1 C.2.1 (C.2.2.2.2.2.2.2.1.trans hret) (fun t ht hW => ⟨none, ws, ad, rfl, hP, hag, by rw [ht]; exact hP1, hD, hS.F ht⟩) hS.2.2 hd hlocks
/-- q, an E, is thrown over the frame at pc -/
def sv_VX (p : Program) (l : Launch) (e : Env) (R : Room) (s : State) (m : MethodId) (args : Array Value) (below : List Frame) (meth : Method) (c : Code) (D : va_G) (cl : List vw_C) (A : Nat → Prop) (nL : Nat) (ad : Nat → Nat) (Q : State → Prop) (pc : Nat) (lv : List (Option Value)) (E : String) (ws : List va_E) (k n : Nat) : Prop :=
  ∀ (H : Heap) (locs : List Loc) (ls : Array Slot) (st0 : List Value) (ce : Cell) (q : Addr), va_P D cl (sv_w ad 0 ws) H → va_D A (sv_w ad 0 ws) → va_S A s.heap H locs → sv_h ad ls nL lv → H[q]? = some ce → ce.vm = .none → s.vm.findClass E = some ce.cls → vx_W p l e R s m args below meth c H locs k n Q (F0 m pc ls st0) q
theorem sv_out (C : sv_C p s m args meth c D cl tys A cc nL own ret) {E : String} (htab : ∀ x ∈ c.exceptionTable.toList, False) (hk : k ≤ mc) (hn : n ≤ ms) {Qc : Array Value → State → Outcome → State → Prop} (hX : X E ws) :
    sv_VX p l e R s m args below meth c D cl A nL ad (vx_MQ below Qc (sv_X D cl A ad X) args s mc ms A) pc lv E ws k n := by
  intro H locs ls st0 ce q hP hD hS hl hc hv hE
  exact vx_out (fun x hx => absurd (htab x hx) id) C.2.2.2.2.2.2.2.2.1 hc hv hE (fun t ht hvm => ⟨ws, hX, by rw [ht]; exact hP, hD, hS.F ht⟩) hS.2.2 hk hn
/-- A CALL, however it is made -/
theorem sv_callG (C : sv_C p s m args meth c D cl tys A cc nL own ret) {st0 : List Value} {ar : Array Value} (hc : k + mc ≤ R.cells ∧ n + ms ≤ R.slots)
    (hrun : ∀ (H : Heap) (locs : List Loc) (ls : Array Slot), va_P D cl (sv_w ad 0 ws) H → va_D A (sv_w ad 0 ws) → va_S A s.heap H locs → ls.size = nL →
      vx_Run p l e R s m args below meth c H locs k n mc ms (F0 m pc ls (st0.map (sv_v ad))) (st.map (sv_v ad)) (sv_Q D cl (va_A (sv_w ad 0 ws) H.size) n0 n1 ad P ar) (sv_X D cl (va_A (sv_w ad 0 ws) H.size) ad X) (va_A (sv_w ad 0 ws) H.size))
    (kx : ∀ (E : String) (ws' : List va_E), X E ws' → sv_VX p l e R s m args below meth c D cl A nL ad Q pc lv E ws' (k + mc) (n + ms))
    (kk : ∀ (v : Option Value) (ws' : List va_E) (ad' : Nat → Nat), (∀ i, ¬ (n0 ≤ i ∧ i < n1) → ad' i = ad i) → P v ws' → ∀ (H : Heap) (locs : List Loc) (ls : Array Slot), va_P D cl (sv_w ad' 0 ws') H → va_D A (sv_w ad' 0 ws') → va_S A s.heap H locs → sv_h ad ls nL lv → W p l e R s m args below meth c H locs (k + mc) (n + ms) Q (F0 m (pc + 3) ls ((v.map (sv_v ad')).toList ++ st.map (sv_v ad)))) :
    sv_V p l e R s m args below meth c D cl A nL ad Q pc lv st0 ws k n := by
  intro H locs ls hP hD hS hl T hT X0
  have hsz : ls.size = nL := by
    obtain ⟨l0, h1, -⟩ := hl
    exact h1.1
  have hA1 : ∀ q, va_A (sv_w ad 0 ws) H.size q → A q := by
    rintro q (⟨j, x, hj⟩ | hq)
    · exact hD.2 j (q, x) hj
    · exact C.2.2.2.2.2.2.1 q (Nat.le_trans hS.1 hq)
  rcases hrun H locs ls hP hD hS hsz T hT X0 with ⟨v, st₀, t, T', L, h0, X', hL, e1, e2, hq, go⟩ | ⟨q, st₀, t, T', L, E, ce, h0, X', hL, e1, e2, hx, hce, hvm, hcls, go⟩
  · obtain ⟨v', ws', ad', ho, hp, hag, hP1, hD1, hF⟩ := hq
    obtain ⟨-, -, hS1⟩ := vx_keep h0 e1 hS (fun q _ h => hA1 q h) hA1 hL hF
    injection ho with ho
    subst ho
    obtain ⟨t2, s2, q2⟩ := kk v' ws' ad' hag hp T'.heap (locs ++ L) ls (by rw [e1]; exact hP1) (hD1.weaken (fun _ _ _ h => hA1 _ h)) hS1 hl T' rfl X'
    exact ⟨t2, go t2 s2, q2⟩
  · obtain ⟨ws', hX1, hP1, hD1, hF⟩ := hx
    obtain ⟨-, -, hS1⟩ := vx_keep h0 e1 hS (fun q _ h => hA1 q h) hA1 hL hF
    obtain ⟨t2, s2, q2⟩ := kx E ws' hX1 T'.heap (locs ++ L) ls _ ce q (by rw [e1]; exact hP1) (hD1.weaken (fun _ _ _ h => hA1 _ h)) hS1 hl (by rw [e1]; exact hce) hvm hcls T' rfl X'
    exact ⟨t2, go.trans s2, q2⟩
end
end
section
/-! Calls by their kinds, throws, making. -/
theorem sv_good {A : Nat → Prop} {s : State} (hZ : sv_Z A s) {w : Cond} (hw : w ∈ sv_T) : ∀ (a' : Array Value) (U : State), s.WarmedH U.vm → w.before a' U = true := fun a' U hW =>
  word_at hW (good_of_word (List.mem_filter.mp hw).2) (sv_Z_ts hZ #[] w hw)
def sv_dc : Cond → Bool
  | .declares _ => true
  | .castable _ _ => true
  | .methodLinkNest _ _ _ _ => true
  | _ => false
theorem sv_word {A : Nat → Prop} {s : State} (hZ : sv_Z A s) {w : Cond} (hw : w ∈ lw_tbl) (hg : (goodWord w || sv_dc w) = true) (args : Array Value) : w.before args s = true := by
  obtain ⟨-, -, s0, a0, hW, h, -⟩ := hZ
  have h0 := h w hw
  rcases Bool.or_eq_true_iff.mp hg with hg | hg
  · exact word_at hW (good_of_word hg) h0
  · cases w with
    | declares x => exact va_Nw.use rfl (va_Nw.warmD hW (va_Nw.of rfl h0))
    | castable a b => exact va_Nw.use rfl (va_Nw.warmC hW (va_Nw.of rfl h0))
    | methodLinkNest a i x b => exact va_Nw.use rfl (va_Nw.warmM hW (va_Nw.of rfl h0))
    | _ => exact absurd hg (by simp [sv_dc])
/-- what a call's instruction links: the callee, its code, its class -/
def sv_site (own : String) (idx : Nat) (y : MethodName) (bytes : ByteArray) (maxL : Nat) (rt : Option FieldType) (np : Nat) : Prop :=
  Cond.methodLink own idx y ∈ sv_T ∧ Cond.initialized y.cls ∈ sv_T ∧ Cond.code y bytes maxL rt ∈ sv_T ∧ (y.cls ≠ "java/lang/invoke/MethodHandle" ∧ y.cls ≠ "java/lang/invoke/VarHandle") ∧ (parseMethodDescriptor y.desc).map (fun d => d.parameters.length) = some np
def sv_fit (R rm : Room) (maxL mc ms : Nat) : Prop := rm.cells = mc ∧ rm.slots = ms ∧ rm.frames + 1 ≤ R.frames ∧ 8 + (maxL + 11) + rm.locals ≤ R.locals
theorem sv_met {l : Launch} {y : MethodName} {ws : List Cond} {rm : Room} {Pc : Array Value → State → Prop} {Qc : Array Value → State → Outcome → State → Prop} {XC : String → State → State → Prop} {mc ms : Nat} {free : Addr → Prop}
    (h : vx_Met l y ws rm Pc Qc XC mc ms free) (hX : ∀ E st t, ¬ XC E st t) : Met l y ws rm Pc Qc mc ms free := by
  intro p e ha hc hk s m args below hf happ hP hK
  obtain ⟨n, o, h1, h2, h3, h4⟩ := h p e ha hc hk s m args below hf happ hP hK
  refine ⟨n, o, h1, h2, h3, ?_⟩
  rcases h4 with h4 | ⟨q, -, E, ce, L, hx, -⟩
  · exact h4
  · exact absurd hx (hX _ _ _)
section
variable {p : Program} {l : Launch} {e : Env} {R : Room} {s : State} {m : MethodId} {args : Array Value} {below : List Frame} {meth : Method} {c : Code} {D : va_G} {cl : List vw_C} {tys : List (ClassId × FieldType)} {A : Nat → Prop} {nL : Nat} {ad ad0 : Nat → Nat} {Q : State → Prop} {cc : ByteArray} {own : String} {ret : Option FieldType} {pc : Nat} {lv : List (Option Value)} {st : List Value} {ws : List va_E} {k n : Nat}
variable {n0 n1 mc ms : Nat} {P : Option Value → List va_E → Prop} {X : String → List va_E → Prop} {XC : String → State → State → Prop}
variable {y : MethodName} {bytes : ByteArray} {maxL np idx : Nat} {rt : Option FieldType} {rm : Room} {av : List Value} {b : Nat}
theorem sv_cb (C : sv_C p s m args meth c D cl tys A cc nL own ret) (hs : sv_site own idx y bytes maxL rt np) (hr : sv_fit R rm maxL mc ms) : CallB R s args own idx y bytes maxL rt [Cond.code y bytes maxL rt] rm mc ms np := by
  have hZ := C.2.2.2.2.2.2.2.2.2
  refine ⟨hr.1, hr.2.1, hr.2.2.1, hr.2.2.2, fun w hw => ?_, List.mem_singleton.mpr rfl, C.2.2.2.2.1 _ hs.2.2.1, C.2.2.2.2.1 _ hs.2.1, hs.2.2.2.1, fun sig h => ?_, C.2.2.2.2.1 _ hs.1⟩
  · rw [List.mem_singleton.mp hw]
    exact sv_good hZ hs.2.2.1
  · have h1 := hs.2.2.2.2
    rw [h] at h1
    simpa using h1.symm
theorem sv_pre (C : sv_C p s m args meth c D cl tys A cc nL own ret) {H : Heap} {locs : List Loc} (hP : va_P D cl (sv_w ad 0 ws) H) (hD : va_D A (sv_w ad 0 ws)) (hS : va_S A s.heap H locs) {U : State} (hU : U.heap = H) (hW : s.WarmedH U.vm) : sv_P D cl tys av ws ad H.size (av.map (sv_v ad)).toArray U := by
  have hZ := C.2.2.2.2.2.2.2.2.2
  refine ⟨rfl, by rw [hU], by rw [hU]; exact hP, va_K.moved hW.alike C.2.2.2.2.2.1, hD.weaken (fun _ _ _ _ => trivial), sv_Z_next hZ hW (by rw [hU]; exact hS.2.1) ?_⟩
  rintro q (⟨j, x, hj⟩ | hq)
  · exact hD.2 j (q, x) hj
  · exact C.2.2.2.2.2.2.1 q (Nat.le_trans hS.1 hq)
theorem sv_room {ad : Nat → Nat} {st : List Value} {ls : Array Slot} {st0 : List Value} (h : (st.map fun v => v.category).sum ≤ 8) : 2 * (F0 m pc ls st0).monitorRoom + ((st.map (sv_v ad)).map fun v => v.category).sum ≤ 8 := lv_room (by rw [sv_cats]; exact h)
/-- behind a call that made nothing -/
theorem sv_kk (C : sv_C p s m args meth c D cl tys A cc nL own ret) (kk : ∀ (v : Option Value) (ws' : List va_E), P v ws' → sv_V p l e R s m args below meth c D cl A nL ad Q (pc + 3) lv (v.toList ++ st) ws' (k + mc) (n + ms)) :
    ∀ (v : Option Value) (ws' : List va_E) (ad' : Nat → Nat), (∀ i, ¬ (n0 ≤ i ∧ i < n0) → ad' i = ad i) → P v ws' → ∀ (H : Heap) (locs : List Loc) (ls : Array Slot), va_P D cl (sv_w ad' 0 ws') H → va_D A (sv_w ad' 0 ws') → va_S A s.heap H locs → sv_h ad ls nL lv → W p l e R s m args below meth c H locs (k + mc) (n + ms) Q (F0 m (pc + 3) ls ((v.map (sv_v ad')).toList ++ st.map (sv_v ad))) := by
  intro v ws' ad' hag hp H locs ls hP hD hS hl
  have hae : ad' = ad := funext (fun i => hag i (by omega))
  subst hae
  have h := kk v ws' hp H locs ls hP hD hS hl
  have e1 : (v.toList ++ st).map (sv_v ad') = (v.map (sv_v ad')).toList ++ st.map (sv_v ad') := by cases v <;> rfl
  rw [e1] at h
  exact h
theorem sv_callV (C : sv_C p s m args meth c D cl tys A cc nL own ret) {Cn : String} {T : u_T} {N ci : Nat} {fs : List Value} (hM : sv_M l y [Cond.code y bytes maxL rt] rm D cl tys (.ref b :: av) ws n0 n0 P X mc ms) (hs : sv_site own idx y bytes maxL rt av.length) (hi : Cond.instanceMethod y ∈ sv_T) (hsel : Cond.selects Cn y y ∈ sv_T) (hr : sv_fit R rm maxL mc ms)
    (hcl : cl[ci]? = some (Cn, T, N)) (hd : decode cc pc = .ok (.invokevirtual idx, 3)) (hb : ws[b]? = some (.inr (ci, fs))) (hst : (st.map fun v => v.category).sum ≤ 8) (hc : k + mc ≤ R.cells ∧ n + ms ≤ R.slots)
    (kx : ∀ (E : String) (ws' : List va_E), X E ws' → sv_VX p l e R s m args below meth c D cl A nL ad Q pc lv E ws' (k + mc) (n + ms))
    (kk : ∀ (v : Option Value) (ws' : List va_E), P v ws' → sv_V p l e R s m args below meth c D cl A nL ad Q (pc + 3) lv (v.toList ++ st) ws' (k + mc) (n + ms)) :
    sv_V p l e R s m args below meth c D cl A nL ad Q pc lv (av.reverse ++ .ref b :: st) ws k n := by
  refine sv_callG C (ar := (Value.ref (ad b) :: av.map (sv_v ad)).toArray) hc (fun H locs ls hP hD hS hsz => ?_) kx (sv_kk (n0 := n0) C kk)
  refine vx_runV (As := av.map (sv_v ad)) (b := ad b) ⟨C.1, C.2.1, C.2.2.1, C.2.2.2.1, C.2.2.2.2.1⟩ (hM ad H.size) ⟨sv_cb C hs hr, C.2.2.2.2.1 _ hi, C.2.2.2.2.1 _ hsel⟩ ⟨sv_blind, va_recv C.2.2.2.2.2.1 hP hcl (sv_w_at hb), fun U hU hW => sv_pre C hP hD hS hU hW⟩ rfl (by rw [List.length_map]) hsz ?_ (sv_room hst) hd hc
  show (av.reverse ++ .ref b :: st).map (sv_v ad) = _
  rw [List.map_append, List.map_reverse]
  rfl
theorem sv_callS (C : sv_C p s m args meth c D cl tys A cc nL own ret) (hM : sv_M l y [Cond.code y bytes maxL rt] rm D cl tys av ws n0 n0 P X mc ms) (hs : sv_site own idx y bytes maxL rt av.length) (hi : Cond.static y ∈ sv_T) (hr : sv_fit R rm maxL mc ms)
    (hd : decode cc pc = .ok (.invokestatic idx, 3)) (hst : (st.map fun v => v.category).sum ≤ 8) (hc : k + mc ≤ R.cells ∧ n + ms ≤ R.slots)
    (kx : ∀ (E : String) (ws' : List va_E), X E ws' → sv_VX p l e R s m args below meth c D cl A nL ad Q pc lv E ws' (k + mc) (n + ms))
    (kk : ∀ (v : Option Value) (ws' : List va_E), P v ws' → sv_V p l e R s m args below meth c D cl A nL ad Q (pc + 3) lv (v.toList ++ st) ws' (k + mc) (n + ms)) :
    sv_V p l e R s m args below meth c D cl A nL ad Q pc lv (av.reverse ++ st) ws k n := by
  refine sv_callG C (ar := (av.map (sv_v ad)).toArray) hc (fun H locs ls hP hD hS hsz => ?_) kx (sv_kk (n0 := n0) C kk)
  refine vx_runS (As := av.map (sv_v ad)) ⟨C.1, C.2.1, C.2.2.1, C.2.2.2.1, C.2.2.2.2.1⟩ (hM ad H.size) ⟨sv_cb C hs hr, C.2.2.2.2.1 _ hi⟩ ⟨sv_blind, fun U hU hW => sv_pre C hP hD hS hU hW⟩ rfl (by rw [List.length_map]) hsz ?_ (sv_room hst) hd hc
  show (av.reverse ++ st).map (sv_v ad) = _
  rw [List.map_append, List.map_reverse]
/-- a private static method of a nest mate -/
theorem sv_callSN (C : sv_C p s m args meth c D cl tys A cc nL own ret) {host : String} (hM : sv_M l y [Cond.code y bytes maxL rt] rm D cl tys av ws n0 n0 P sv_no mc ms) (hl : Cond.methodLinkNest own idx y host ∈ lw_tbl) (hin : Cond.initialized y.cls ∈ sv_T) (hco : Cond.code y bytes maxL rt ∈ sv_T) (hi : Cond.static y ∈ sv_T) (hmh : y.cls ≠ "java/lang/invoke/MethodHandle" ∧ y.cls ≠ "java/lang/invoke/VarHandle") (hnp : (parseMethodDescriptor y.desc).map (fun d => d.parameters.length) = some av.length) (hr : sv_fit R rm maxL mc ms)
    (hd : decode cc pc = .ok (.invokestatic idx, 3)) (hst : (st.map fun v => v.category).sum ≤ 8) (hc : k + mc ≤ R.cells ∧ n + ms ≤ R.slots)
    (kk : ∀ (v : Option Value) (ws' : List va_E), P v ws' → sv_V p l e R s m args below meth c D cl A nL ad Q (pc + 3) lv (v.toList ++ st) ws' (k + mc) (n + ms)) :
    sv_V p l e R s m args below meth c D cl A nL ad Q pc lv (av.reverse ++ st) ws k n := by
  have hZ := C.2.2.2.2.2.2.2.2.2
  refine sv_callG C (X := sv_no) (ar := (av.map (sv_v ad)).toArray) hc (fun H locs ls hP hD hS hsz => ?_) (fun E ws' h => absurd h id) (sv_kk (n0 := n0) C kk)
  have hrun := va_runSN (e := e) (R := R) (H := H) (locs := locs) (cells := k) (slots := n) (below := below) (meth := meth) (host := host) (g := F0 m pc ls ((av.reverse ++ st).map (sv_v ad))) (rest := st.map (sv_v ad)) (As := av.map (sv_v ad)) ⟨C.1, C.2.1, C.2.2.1, C.2.2.2.1, C.2.2.2.2.1⟩ (sv_met (hM ad H.size) (fun E st t h => by obtain ⟨ws', h, -⟩ := h; exact h))
    ⟨⟨⟨hr.1, hr.2.1, hr.2.2.1, hr.2.2.2, fun w hw => by rw [List.mem_singleton.mp hw]; exact sv_good hZ hco, List.mem_singleton.mpr rfl⟩, C.2.2.2.2.1 _ hco, C.2.2.2.2.1 _ hin, hmh, fun sig h => by rw [h] at hnp; simpa using hnp.symm, sv_word hZ hl (by simp [sv_dc]) args⟩, C.2.2.2.2.1 _ hi, trivial⟩
    ⟨sv_blind, fun U hU hW => sv_pre C hP hD hS hU hW⟩ rfl (by rw [List.length_map]) hsz (by show (av.reverse ++ st).map (sv_v ad) = _; rw [List.map_append, List.map_reverse]) (sv_room hst) hd hc
  intro T hT X0
  exact Or.inl (hrun T hT X0)
/-- throw new E("text"), in a method without handlers -/
theorem sv_throw (C : sv_C p s m args meth c D cl tys A cc nL "StateLogic" ret) (hl : l.stackTraces = false) {cls text : String} {names : List String} {ik is ic : Nat} (hcls : Bundle.fit cls = true) (hnames : ∀ n ∈ names, Bundle.fit n = true)
    (hk : Cond.classLink "StateLogic" ik cls ∈ sv_T) (hini : Cond.initialized cls ∈ sv_T) (hstr : (is, text) ∈ sv_S) (hat : ∀ w ∈ vx_atS "StateLogic" ic cls names, w ∈ lw_tbl ∧ (goodWord w || sv_dc w) = true)
    (hgood : ∀ w ∈ Cond.classLink "StateLogic" ik cls :: Cond.initialized cls :: vx_atS "StateLogic" ic cls names, vx_ot w = true)
    (d0 : decode cc pc = .ok (.new ik, 3)) (d3 : decode cc (pc + 3) = .ok (.dup, 1)) (d4 : decode cc (pc + 4) = .ok (.ldc is, 2)) (d6 : decode cc (pc + 6) = .ok (.invokespecial ic, 3)) (d9 : decode cc (pc + 9) = .ok (.athrow, 1))
    (htab : ∀ x ∈ c.exceptionTable.toList, False) (hRf : names.length + 3 < R.frames) (hRl : 13 * (names.length + 1) + 43 ≤ R.locals) (hRc : k + 1 ≤ R.cells ∧ n + 6 ≤ R.slots) (hc : k + 1 ≤ mc) (hn : n + 6 ≤ ms) {Qc : Array Value → State → Outcome → State → Prop} (hX : X cls ws) :
    sv_V p l e R s m args below meth c D cl A nL ad (vx_MQ below Qc (sv_X D cl A ad X) args s mc ms A) pc lv [] ws k n := by
  intro H locs ls hP hD hS hh
  have hZ := C.2.2.2.2.2.2.2.2.2
  have hlocks : meth.locks = false := C.2.2.2.2.2.2.2.2.1
  have hsz : ls.size = c.maxLocals := by
    obtain ⟨l0, h1, -⟩ := hh
    rw [h1.1, C.2.2.1]
  obtain ⟨s0, a0, hW0, h0, hs0⟩ := hZ.2.2
  obtain ⟨sa, hsa⟩ := hs0.1 (is, text) hstr
  exact vx_throwS (rest := []) C.1 C.2.1 hl C.2.2.2.1 hcls hnames (C.2.2.2.2.1 _ hk) (C.2.2.2.2.1 _ hini) (vk_R.warm hW0 hsa) (fun w hw => sv_word hZ (hat w hw).1 (hat w hw).2 args) hgood hZ.1 hZ.2.1 hS hsz d0 d3 d4 d6 d9 (fun x hx => absurd (htab x hx) id) hRf (by simpa using hRl) hRc.1 hRc.2 hlocks
    (fun t hvm hle hkeep => ⟨ws, hX, hP.kept (fun k q hk => hkeep q.1 (vx_lt hP hk)), hD, Nat.le_trans hS.1 hle, fun q h1 h2 => (hkeep q (Nat.lt_of_lt_of_le h1 hS.1)).trans (hS.2.1 q h1 h2)⟩) hS.2.2 hc hn
/-- Object's own constructor -/
theorem sv_objInit (C : sv_C p s m args meth c D cl tys A cc nL own ret) {a : Nat} (hlk : Cond.methodLink own idx Lib.objectInit ∈ sv_T) (hi : Cond.instanceMethod Lib.objectInit ∈ sv_T) (hco : Cond.code Lib.objectInit ⟨#[0xb1]⟩ 1 none ∈ sv_T) (hd : decode cc pc = .ok (.invokespecial idx, 3)) (hf : 1 ≤ R.frames) (hlo : (st.map fun v => v.category).sum + 12 ≤ R.locals)
    (kk : sv_V p l e R s m args below meth c D cl A nL ad Q (pc + 3) lv st ws k n) : sv_V p l e R s m args below meth c D cl A nL ad Q pc lv (.ref a :: st) ws k n := by
  intro H locs ls hP hD hS hl
  have hsz : ls.size = c.maxLocals := by
    obtain ⟨l0, h1, -⟩ := hl
    rw [h1.1, C.2.2.1]
  refine W.objInit C.1 C.2.1 C.2.2.2.1 (C.2.2.2.2.1 _ hlk) (C.2.2.2.2.1 _ hi) (C.2.2.2.2.1 _ hco) (g := F0 m pc ls ((.ref a :: st).map (sv_v ad))) rfl hsz rfl hd hf ?_ (kk H locs ls hP hD hS hl)
  show 0 + ((st.map (sv_v ad)).map fun v => v.category).sum + 12 ≤ R.locals
  rw [sv_cats]
  omega
end
end
section
/-! Names: classes, fields, methods, words: by program out of the Statement. -/
def F_Fo : u_T := fun k => match k with
  | 0 => ("StateLogic$Formulas", "machine", "LStateLogic$Machine;", true)
  | 1 => ("StateLogic$Formulas", "search", "LStateLogic$Search;", true)
  | 2 => ("StateLogic$Formulas", "truth", "LStateLogic$Sets;", true)
  | 3 => ("StateLogic$Formulas", "kinds", "[I", true)
  | 4 => ("StateLogic$Formulas", "xs", "[I", true)
  | 5 => ("StateLogic$Formulas", "ys", "[I", true)
  | 6 => ("StateLogic$Formulas", "settledAt", "[I", true)
  | 7 => ("StateLogic$Formulas", "wanted", "[Z", true)
  | 8 => ("StateLogic$Formulas", "made", "I", false)
  | _ => ("StateLogic$Formulas", "measured", "I", false)
def t_Fo : Nat → FieldType := fun k => match k with
  | 0 => (.object "StateLogic$Machine")
  | 1 => (.object "StateLogic$Search")
  | 2 => (.object "StateLogic$Sets")
  | 3 => (.array .int)
  | 4 => (.array .int)
  | 5 => (.array .int)
  | 6 => (.array .int)
  | 7 => (.array .boolean)
  | 8 => .int
  | _ => .int
theorem n_Fo : ∀ a, a < 10 → ∀ b, b < 10 → a ≠ b → (F_Fo a).2.1 ≠ (F_Fo b).2.1 := by decide +kernel
theorem t_Fo_ok : ∀ k, k < 10 → parseFieldDescriptor (F_Fo k).2.2.1 = some (t_Fo k) := by decide +kernel
theorem l_Fo_0 : u_lay "StateLogic$Formulas" F_Fo 0 ∈ sv_T := sv_in 135 (by decide +kernel) (by decide +kernel)
theorem l_Fo_1 : u_lay "StateLogic$Formulas" F_Fo 1 ∈ sv_T := sv_in 137 (by decide +kernel) (by decide +kernel)
theorem l_Fo_2 : u_lay "StateLogic$Formulas" F_Fo 2 ∈ sv_T := sv_in 139 (by decide +kernel) (by decide +kernel)
theorem l_Fo_3 : u_lay "StateLogic$Formulas" F_Fo 3 ∈ sv_T := sv_in 141 (by decide +kernel) (by decide +kernel)
theorem l_Fo_4 : u_lay "StateLogic$Formulas" F_Fo 4 ∈ sv_T := sv_in 143 (by decide +kernel) (by decide +kernel)
theorem l_Fo_5 : u_lay "StateLogic$Formulas" F_Fo 5 ∈ sv_T := sv_in 145 (by decide +kernel) (by decide +kernel)
theorem l_Fo_6 : u_lay "StateLogic$Formulas" F_Fo 6 ∈ sv_T := sv_in 147 (by decide +kernel) (by decide +kernel)
theorem l_Fo_7 : u_lay "StateLogic$Formulas" F_Fo 7 ∈ sv_T := sv_in 149 (by decide +kernel) (by decide +kernel)
theorem l_Fo_8 : u_lay "StateLogic$Formulas" F_Fo 8 ∈ sv_T := sv_in 151 (by decide +kernel) (by decide +kernel)
theorem l_Fo_9 : u_lay "StateLogic$Formulas" F_Fo 9 ∈ sv_T := sv_in 153 (by decide +kernel) (by decide +kernel)
theorem i_Fo : ∀ w ∈ u_ws "StateLogic$Formulas" F_Fo 10, w ∈ sv_T := by
  intro w hw
  obtain ⟨k, hk, rfl⟩ := List.mem_map.mp hw
  have hk := List.mem_range.mp hk
  match k, hk with
  | 0, _ => exact l_Fo_0
  | 1, _ => exact l_Fo_1
  | 2, _ => exact l_Fo_2
  | 3, _ => exact l_Fo_3
  | 4, _ => exact l_Fo_4
  | 5, _ => exact l_Fo_5
  | 6, _ => exact l_Fo_6
  | 7, _ => exact l_Fo_7
  | 8, _ => exact l_Fo_8
  | 9, _ => exact l_Fo_9
  | k + 10, h => exact absurd h (by omega)
def F_Ma : u_T := fun k => match k with
  | 0 => ("StateLogic$Machine", "all", "LStateLogic$Sets;", true)
  | 1 => ("StateLogic$Machine", "successors", "LStateLogic$Sets;", true)
  | 2 => ("StateLogic$Machine", "predecessors", "LStateLogic$Sets;", true)
  | 3 => ("StateLogic$Machine", "states", "I", false)
  | _ => ("StateLogic$Machine", "rules", "I", false)
def t_Ma : Nat → FieldType := fun k => match k with
  | 0 => (.object "StateLogic$Sets")
  | 1 => (.object "StateLogic$Sets")
  | 2 => (.object "StateLogic$Sets")
  | 3 => .int
  | _ => .int
theorem n_Ma : ∀ a, a < 5 → ∀ b, b < 5 → a ≠ b → (F_Ma a).2.1 ≠ (F_Ma b).2.1 := by decide +kernel
theorem t_Ma_ok : ∀ k, k < 5 → parseFieldDescriptor (F_Ma k).2.2.1 = some (t_Ma k) := by decide +kernel
theorem l_Ma_0 : u_lay "StateLogic$Machine" F_Ma 0 ∈ sv_T := sv_in 70 (by decide +kernel) (by decide +kernel)
theorem l_Ma_1 : u_lay "StateLogic$Machine" F_Ma 1 ∈ sv_T := sv_in 72 (by decide +kernel) (by decide +kernel)
theorem l_Ma_2 : u_lay "StateLogic$Machine" F_Ma 2 ∈ sv_T := sv_in 74 (by decide +kernel) (by decide +kernel)
theorem l_Ma_3 : u_lay "StateLogic$Machine" F_Ma 3 ∈ sv_T := sv_in 76 (by decide +kernel) (by decide +kernel)
theorem l_Ma_4 : u_lay "StateLogic$Machine" F_Ma 4 ∈ sv_T := sv_in 78 (by decide +kernel) (by decide +kernel)
theorem i_Ma : ∀ w ∈ u_ws "StateLogic$Machine" F_Ma 5, w ∈ sv_T := by
  intro w hw
  obtain ⟨k, hk, rfl⟩ := List.mem_map.mp hw
  have hk := List.mem_range.mp hk
  match k, hk with
  | 0, _ => exact l_Ma_0
  | 1, _ => exact l_Ma_1
  | 2, _ => exact l_Ma_2
  | 3, _ => exact l_Ma_3
  | 4, _ => exact l_Ma_4
  | k + 5, h => exact absurd h (by omega)
def F_Se : u_T := fun k => match k with
  | 0 => ("StateLogic$Search", "open", "LStateLogic$Sets;", true)
  | 1 => ("StateLogic$Search", "found", "[I", true)
  | 2 => ("StateLogic$Search", "distances", "[I", true)
  | 3 => ("StateLogic$Search", "path", "[I", true)
  | 4 => ("StateLogic$Search", "ended", "[I", true)
  | _ => ("StateLogic$Search", "foundCount", "I", false)
def t_Se : Nat → FieldType := fun k => match k with
  | 0 => (.object "StateLogic$Sets")
  | 1 => (.array .int)
  | 2 => (.array .int)
  | 3 => (.array .int)
  | 4 => (.array .int)
  | _ => .int
theorem n_Se : ∀ a, a < 6 → ∀ b, b < 6 → a ≠ b → (F_Se a).2.1 ≠ (F_Se b).2.1 := by decide +kernel
theorem t_Se_ok : ∀ k, k < 6 → parseFieldDescriptor (F_Se k).2.2.1 = some (t_Se k) := by decide +kernel
theorem l_Se_0 : u_lay "StateLogic$Search" F_Se 0 ∈ sv_T := sv_in 106 (by decide +kernel) (by decide +kernel)
theorem l_Se_1 : u_lay "StateLogic$Search" F_Se 1 ∈ sv_T := sv_in 108 (by decide +kernel) (by decide +kernel)
theorem l_Se_2 : u_lay "StateLogic$Search" F_Se 2 ∈ sv_T := sv_in 110 (by decide +kernel) (by decide +kernel)
theorem l_Se_3 : u_lay "StateLogic$Search" F_Se 3 ∈ sv_T := sv_in 112 (by decide +kernel) (by decide +kernel)
theorem l_Se_4 : u_lay "StateLogic$Search" F_Se 4 ∈ sv_T := sv_in 114 (by decide +kernel) (by decide +kernel)
theorem l_Se_5 : u_lay "StateLogic$Search" F_Se 5 ∈ sv_T := sv_in 116 (by decide +kernel) (by decide +kernel)
theorem i_Se : ∀ w ∈ u_ws "StateLogic$Search" F_Se 6, w ∈ sv_T := by
  intro w hw
  obtain ⟨k, hk, rfl⟩ := List.mem_map.mp hw
  have hk := List.mem_range.mp hk
  match k, hk with
  | 0, _ => exact l_Se_0
  | 1, _ => exact l_Se_1
  | 2, _ => exact l_Se_2
  | 3, _ => exact l_Se_3
  | 4, _ => exact l_Se_4
  | 5, _ => exact l_Se_5
  | k + 6, h => exact absurd h (by omega)
def F_St : u_T := fun k => match k with
  | _ => ("StateLogic$Sets", "words", "[J", true)
def t_St : Nat → FieldType := fun k => match k with
  | _ => (.array .long)
theorem n_St : ∀ a, a < 1 → ∀ b, b < 1 → a ≠ b → (F_St a).2.1 ≠ (F_St b).2.1 := by decide +kernel
theorem t_St_ok : ∀ k, k < 1 → parseFieldDescriptor (F_St k).2.2.1 = some (t_St k) := by decide +kernel
theorem l_St_0 : u_lay "StateLogic$Sets" F_St 0 ∈ sv_T := sv_in 39 (by decide +kernel) (by decide +kernel)
theorem i_St : ∀ w ∈ u_ws "StateLogic$Sets" F_St 1, w ∈ sv_T := by
  intro w hw
  obtain ⟨k, hk, rfl⟩ := List.mem_map.mp hw
  have hk := List.mem_range.mp hk
  match k, hk with
  | 0, _ => exact l_St_0
  | k + 1, h => exact absurd h (by omega)
def F_SL : u_T := fun k => match k with
  | 0 => ("StateLogic", "machine", "LStateLogic$Machine;", true)
  | _ => ("StateLogic", "formulas", "LStateLogic$Formulas;", true)
def t_SL : Nat → FieldType := fun k => match k with
  | 0 => (.object "StateLogic$Machine")
  | _ => (.object "StateLogic$Formulas")
theorem n_SL : ∀ a, a < 2 → ∀ b, b < 2 → a ≠ b → (F_SL a).2.1 ≠ (F_SL b).2.1 := by decide +kernel
theorem t_SL_ok : ∀ k, k < 2 → parseFieldDescriptor (F_SL k).2.2.1 = some (t_SL k) := by decide +kernel
theorem l_SL_0 : u_lay "StateLogic" F_SL 0 ∈ sv_T := sv_in 159 (by decide +kernel) (by decide +kernel)
theorem l_SL_1 : u_lay "StateLogic" F_SL 1 ∈ sv_T := sv_in 161 (by decide +kernel) (by decide +kernel)
theorem i_SL : ∀ w ∈ u_ws "StateLogic" F_SL 2, w ∈ sv_T := by
  intro w hw
  obtain ⟨k, hk, rfl⟩ := List.mem_map.mp hw
  have hk := List.mem_range.mp hk
  match k, hk with
  | 0, _ => exact l_SL_0
  | 1, _ => exact l_SL_1
  | k + 2, h => exact absurd h (by omega)
def F_Mo : u_T := fun k => match k with
  | 0 => ("StateLogicModel", "thrown", "I", false)
  | 1 => ("StateLogicModel", "bits", "I", false)
  | 2 => ("StateLogicModel", "rules", "I", false)
  | 3 => ("StateLogicModel", "mask", "[I", true)
  | 4 => ("StateLogicModel", "value", "[I", true)
  | 5 => ("StateLogicModel", "keep", "[I", true)
  | 6 => ("StateLogicModel", "flip", "[I", true)
  | 7 => ("StateLogicModel", "formulas", "I", false)
  | 8 => ("StateLogicModel", "known", "I", false)
  | 9 => ("StateLogicModel", "kinds", "[I", true)
  | 10 => ("StateLogicModel", "xs", "[I", true)
  | 11 => ("StateLogicModel", "ys", "[I", true)
  | 12 => ("StateLogicModel", "holds", "[Z", true)
  | 13 => ("StateLogicModel", "set", "[Z", true)
  | 14 => ("StateLogicModel", "goal", "[Z", true)
  | _ => ("StateLogicModel", "far", "[I", true)
def t_Mo : Nat → FieldType := fun k => match k with
  | 0 => .int
  | 1 => .int
  | 2 => .int
  | 3 => (.array .int)
  | 4 => (.array .int)
  | 5 => (.array .int)
  | 6 => (.array .int)
  | 7 => .int
  | 8 => .int
  | 9 => (.array .int)
  | 10 => (.array .int)
  | 11 => (.array .int)
  | 12 => (.array .boolean)
  | 13 => (.array .boolean)
  | 14 => (.array .boolean)
  | _ => (.array .int)
theorem n_Mo : ∀ a, a < 16 → ∀ b, b < 16 → a ≠ b → (F_Mo a).2.1 ≠ (F_Mo b).2.1 := by decide +kernel
theorem t_Mo_ok : ∀ k, k < 16 → parseFieldDescriptor (F_Mo k).2.2.1 = some (t_Mo k) := by decide +kernel
theorem l_Mo_0 : u_lay "StateLogicModel" F_Mo 0 ∈ sv_T := sv_in 536 (by decide +kernel) (by decide +kernel)
theorem l_Mo_1 : u_lay "StateLogicModel" F_Mo 1 ∈ sv_T := sv_in 538 (by decide +kernel) (by decide +kernel)
theorem l_Mo_2 : u_lay "StateLogicModel" F_Mo 2 ∈ sv_T := sv_in 540 (by decide +kernel) (by decide +kernel)
theorem l_Mo_3 : u_lay "StateLogicModel" F_Mo 3 ∈ sv_T := sv_in 542 (by decide +kernel) (by decide +kernel)
theorem l_Mo_4 : u_lay "StateLogicModel" F_Mo 4 ∈ sv_T := sv_in 544 (by decide +kernel) (by decide +kernel)
theorem l_Mo_5 : u_lay "StateLogicModel" F_Mo 5 ∈ sv_T := sv_in 546 (by decide +kernel) (by decide +kernel)
theorem l_Mo_6 : u_lay "StateLogicModel" F_Mo 6 ∈ sv_T := sv_in 548 (by decide +kernel) (by decide +kernel)
theorem l_Mo_7 : u_lay "StateLogicModel" F_Mo 7 ∈ sv_T := sv_in 550 (by decide +kernel) (by decide +kernel)
theorem l_Mo_8 : u_lay "StateLogicModel" F_Mo 8 ∈ sv_T := sv_in 552 (by decide +kernel) (by decide +kernel)
theorem l_Mo_9 : u_lay "StateLogicModel" F_Mo 9 ∈ sv_T := sv_in 554 (by decide +kernel) (by decide +kernel)
theorem l_Mo_10 : u_lay "StateLogicModel" F_Mo 10 ∈ sv_T := sv_in 556 (by decide +kernel) (by decide +kernel)
theorem l_Mo_11 : u_lay "StateLogicModel" F_Mo 11 ∈ sv_T := sv_in 558 (by decide +kernel) (by decide +kernel)
theorem l_Mo_12 : u_lay "StateLogicModel" F_Mo 12 ∈ sv_T := sv_in 560 (by decide +kernel) (by decide +kernel)
theorem l_Mo_13 : u_lay "StateLogicModel" F_Mo 13 ∈ sv_T := sv_in 562 (by decide +kernel) (by decide +kernel)
theorem l_Mo_14 : u_lay "StateLogicModel" F_Mo 14 ∈ sv_T := sv_in 564 (by decide +kernel) (by decide +kernel)
theorem l_Mo_15 : u_lay "StateLogicModel" F_Mo 15 ∈ sv_T := sv_in 566 (by decide +kernel) (by decide +kernel)
theorem i_Mo : ∀ w ∈ u_ws "StateLogicModel" F_Mo 16, w ∈ sv_T := by
  intro w hw
  obtain ⟨k, hk, rfl⟩ := List.mem_map.mp hw
  have hk := List.mem_range.mp hk
  match k, hk with
  | 0, _ => exact l_Mo_0
  | 1, _ => exact l_Mo_1
  | 2, _ => exact l_Mo_2
  | 3, _ => exact l_Mo_3
  | 4, _ => exact l_Mo_4
  | 5, _ => exact l_Mo_5
  | 6, _ => exact l_Mo_6
  | 7, _ => exact l_Mo_7
  | 8, _ => exact l_Mo_8
  | 9, _ => exact l_Mo_9
  | 10, _ => exact l_Mo_10
  | 11, _ => exact l_Mo_11
  | 12, _ => exact l_Mo_12
  | 13, _ => exact l_Mo_13
  | 14, _ => exact l_Mo_14
  | 15, _ => exact l_Mo_15
  | k + 16, h => exact absurd h (by omega)
abbrev sv_cl : List vw_C := [("StateLogic$Formulas", F_Fo, 10), ("StateLogic$Machine", F_Ma, 5), ("StateLogic$Search", F_Se, 6), ("StateLogic$Sets", F_St, 1), ("StateLogic", F_SL, 2), ("StateLogicModel", F_Mo, 16)]
theorem z_Ar : Cond.initialized "java/util/Arrays" ∈ sv_T := sv_in 4 (by decide +kernel) rfl
theorem z_Fo : Cond.initialized "StateLogic$Formulas" ∈ sv_T := sv_in 5 (by decide +kernel) rfl
theorem z_La : Cond.initialized "StateLogicLaw" ∈ sv_T := sv_in 0 (by decide +kernel) rfl
theorem z_Lo : Cond.initialized "java/lang/Long" ∈ sv_T := sv_in 15 (by decide +kernel) rfl
theorem z_Ma : Cond.initialized "StateLogic$Machine" ∈ sv_T := sv_in 2 (by decide +kernel) rfl
theorem z_Mo : Cond.initialized "StateLogicModel" ∈ sv_T := sv_in 7 (by decide +kernel) rfl
theorem z_SL : Cond.initialized "StateLogic" ∈ sv_T := sv_in 1 (by decide +kernel) rfl
theorem z_Se : Cond.initialized "StateLogic$Search" ∈ sv_T := sv_in 6 (by decide +kernel) rfl
theorem z_St : Cond.initialized "StateLogic$Sets" ∈ sv_T := sv_in 3 (by decide +kernel) rfl
theorem o_i : Cond.instanceMethod Lib.objectInit ∈ sv_T := sv_in 23 (by decide +kernel) rfl
theorem o_c : Cond.code Lib.objectInit ⟨#[0xb1]⟩ 1 none ∈ sv_T := sv_in 24 (by decide +kernel) rfl
theorem a_int : Cond.arrayClass .int ∈ sv_T := sv_in 119 (by decide +kernel) rfl
theorem a_long : Cond.arrayClass .long ∈ sv_T := sv_in 42 (by decide +kernel) rfl
theorem a_boolean : Cond.arrayClass .boolean ∈ sv_T := sv_in 156 (by decide +kernel) rfl
theorem in_Fo : Cond.instantiable "StateLogic$Formulas" 10 ∈ sv_T := sv_in 82 (by decide +kernel) rfl
theorem in_Ma : Cond.instantiable "StateLogic$Machine" 5 ∈ sv_T := sv_in 26 (by decide +kernel) rfl
theorem in_Se : Cond.instantiable "StateLogic$Search" 6 ∈ sv_T := sv_in 88 (by decide +kernel) rfl
theorem in_St : Cond.instantiable "StateLogic$Sets" 1 ∈ sv_T := sv_in 32 (by decide +kernel) rfl
theorem in_SL : Cond.instantiable "StateLogic" 2 ∈ sv_T := sv_in 18 (by decide +kernel) rfl
theorem in_Mo : Cond.instantiable "StateLogicModel" 16 ∈ sv_T := sv_in 515 (by decide +kernel) rfl
abbrev b_Ar_fill : ByteArray := prog_17_method_101_code
abbrev y_Ar_fill : MethodName := ⟨"java/util/Arrays", "fill", "([JJ)V"⟩
theorem k_Ar_fill : Cond.code y_Ar_fill b_Ar_fill 5 none ∈ sv_T := sv_in 53 (by decide +kernel) rfl
theorem kt_Ar_fill : Cond.static y_Ar_fill ∈ sv_T := sv_in 52 (by decide +kernel) rfl
abbrev b_Fo_addFormula : ByteArray := prog_2_method_4_code
abbrev y_Fo_addFormula : MethodName := ⟨"StateLogic$Formulas", "addFormula", "(III)I"⟩
theorem k_Fo_addFormula : Cond.code y_Fo_addFormula b_Fo_addFormula 4 (some .int) ∈ sv_T := sv_in 305 (by decide +kernel) rfl
theorem ki_Fo_addFormula : Cond.instanceMethod y_Fo_addFormula ∈ sv_T := sv_in 303 (by decide +kernel) rfl
theorem ks_Fo_addFormula : Cond.selects "StateLogic$Formulas" y_Fo_addFormula y_Fo_addFormula ∈ sv_T := sv_in 304 (by decide +kernel) rfl
abbrev b_Fo_evaluate : ByteArray := prog_2_method_7_code
abbrev y_Fo_evaluate : MethodName := ⟨"StateLogic$Formulas", "evaluate", "(I)V"⟩
theorem k_Fo_evaluate : Cond.code y_Fo_evaluate b_Fo_evaluate 2 none ∈ sv_T := sv_in 351 (by decide +kernel) rfl
theorem ki_Fo_evaluate : Cond.instanceMethod y_Fo_evaluate ∈ sv_T := sv_in 350 (by decide +kernel) rfl
theorem ks_Fo_evaluate : Cond.selects "StateLogic$Formulas" y_Fo_evaluate y_Fo_evaluate ∈ sv_T := sv_inP (by decide +kernel) rfl
abbrev b_Fo_evaluateAgain : ByteArray := prog_2_method_13_code
abbrev y_Fo_evaluateAgain : MethodName := ⟨"StateLogic$Formulas", "evaluateAgain", "(I)V"⟩
theorem k_Fo_evaluateAgain : Cond.code y_Fo_evaluateAgain b_Fo_evaluateAgain 5 none ∈ sv_T := sv_in 424 (by decide +kernel) rfl
theorem ki_Fo_evaluateAgain : Cond.instanceMethod y_Fo_evaluateAgain ∈ sv_T := sv_in 423 (by decide +kernel) rfl
theorem ks_Fo_evaluateAgain : Cond.selects "StateLogic$Formulas" y_Fo_evaluateAgain y_Fo_evaluateAgain ∈ sv_T := sv_inP (by decide +kernel) rfl
abbrev b_Fo_evaluateAtom : ByteArray := prog_2_method_8_code
abbrev y_Fo_evaluateAtom : MethodName := ⟨"StateLogic$Formulas", "evaluateAtom", "(I)V"⟩
theorem k_Fo_evaluateAtom : Cond.code y_Fo_evaluateAtom b_Fo_evaluateAtom 3 none ∈ sv_T := sv_in 359 (by decide +kernel) rfl
theorem ki_Fo_evaluateAtom : Cond.instanceMethod y_Fo_evaluateAtom ∈ sv_T := sv_in 358 (by decide +kernel) rfl
theorem ks_Fo_evaluateAtom : Cond.selects "StateLogic$Formulas" y_Fo_evaluateAtom y_Fo_evaluateAtom ∈ sv_T := sv_inP (by decide +kernel) rfl
abbrev b_Fo_evaluateNext : ByteArray := prog_2_method_10_code
abbrev y_Fo_evaluateNext : MethodName := ⟨"StateLogic$Formulas", "evaluateNext", "(I)V"⟩
theorem k_Fo_evaluateNext : Cond.code y_Fo_evaluateNext b_Fo_evaluateNext 3 none ∈ sv_T := sv_in 369 (by decide +kernel) rfl
theorem ki_Fo_evaluateNext : Cond.instanceMethod y_Fo_evaluateNext ∈ sv_T := sv_in 368 (by decide +kernel) rfl
theorem ks_Fo_evaluateNext : Cond.selects "StateLogic$Formulas" y_Fo_evaluateNext y_Fo_evaluateNext ∈ sv_T := sv_inP (by decide +kernel) rfl
abbrev b_Fo_evaluateRing : ByteArray := prog_2_method_14_code
abbrev y_Fo_evaluateRing : MethodName := ⟨"StateLogic$Formulas", "evaluateRing", "(II)V"⟩
theorem k_Fo_evaluateRing : Cond.code y_Fo_evaluateRing b_Fo_evaluateRing 7 none ∈ sv_T := sv_in 434 (by decide +kernel) rfl
theorem ki_Fo_evaluateRing : Cond.instanceMethod y_Fo_evaluateRing ∈ sv_T := sv_in 433 (by decide +kernel) rfl
theorem ks_Fo_evaluateRing : Cond.selects "StateLogic$Formulas" y_Fo_evaluateRing y_Fo_evaluateRing ∈ sv_T := sv_inP (by decide +kernel) rfl
abbrev b_Fo_evaluateUntil : ByteArray := prog_2_method_11_code
abbrev y_Fo_evaluateUntil : MethodName := ⟨"StateLogic$Formulas", "evaluateUntil", "(I)V"⟩
theorem k_Fo_evaluateUntil : Cond.code y_Fo_evaluateUntil b_Fo_evaluateUntil 3 none ∈ sv_T := sv_in 377 (by decide +kernel) rfl
theorem ki_Fo_evaluateUntil : Cond.instanceMethod y_Fo_evaluateUntil ∈ sv_T := sv_in 376 (by decide +kernel) rfl
theorem ks_Fo_evaluateUntil : Cond.selects "StateLogic$Formulas" y_Fo_evaluateUntil y_Fo_evaluateUntil ∈ sv_T := sv_inP (by decide +kernel) rfl
abbrev b_Fo_evaluateWords : ByteArray := prog_2_method_9_code
abbrev y_Fo_evaluateWords : MethodName := ⟨"StateLogic$Formulas", "evaluateWords", "(I)V"⟩
theorem k_Fo_evaluateWords : Cond.code y_Fo_evaluateWords b_Fo_evaluateWords 10 none ∈ sv_T := sv_in 364 (by decide +kernel) rfl
theorem ki_Fo_evaluateWords : Cond.instanceMethod y_Fo_evaluateWords ∈ sv_T := sv_in 363 (by decide +kernel) rfl
theorem ks_Fo_evaluateWords : Cond.selects "StateLogic$Formulas" y_Fo_evaluateWords y_Fo_evaluateWords ∈ sv_T := sv_inP (by decide +kernel) rfl
abbrev b_Fo_forgetAll : ByteArray := prog_2_method_2_code
abbrev y_Fo_forgetAll : MethodName := ⟨"StateLogic$Formulas", "forgetAll", "()V"⟩
theorem k_Fo_forgetAll : Cond.code y_Fo_forgetAll b_Fo_forgetAll 1 none ∈ sv_T := sv_in 245 (by decide +kernel) rfl
theorem ki_Fo_forgetAll : Cond.instanceMethod y_Fo_forgetAll ∈ sv_T := sv_in 243 (by decide +kernel) rfl
theorem ks_Fo_forgetAll : Cond.selects "StateLogic$Formulas" y_Fo_forgetAll y_Fo_forgetAll ∈ sv_T := sv_in 244 (by decide +kernel) rfl
abbrev b_Fo_init : ByteArray := prog_2_method_1_code
abbrev y_Fo_init : MethodName := ⟨"StateLogic$Formulas", "<init>", "(LStateLogic$Machine;)V"⟩
theorem k_Fo_init : Cond.code y_Fo_init b_Fo_init 2 none ∈ sv_T := sv_in 85 (by decide +kernel) rfl
theorem ki_Fo_init : Cond.instanceMethod y_Fo_init ∈ sv_T := sv_in 84 (by decide +kernel) rfl
abbrev b_Fo_isThere : ByteArray := prog_2_method_3_code
abbrev y_Fo_isThere : MethodName := ⟨"StateLogic$Formulas", "isThere", "(I)Z"⟩
theorem k_Fo_isThere : Cond.code y_Fo_isThere b_Fo_isThere 2 (some .boolean) ∈ sv_T := sv_in 296 (by decide +kernel) rfl
theorem ki_Fo_isThere : Cond.instanceMethod y_Fo_isThere ∈ sv_T := sv_in 294 (by decide +kernel) rfl
theorem ks_Fo_isThere : Cond.selects "StateLogic$Formulas" y_Fo_isThere y_Fo_isThere ∈ sv_T := sv_in 295 (by decide +kernel) rfl
abbrev b_Fo_nearerState : ByteArray := prog_2_method_17_code
abbrev y_Fo_nearerState : MethodName := ⟨"StateLogic$Formulas", "nearerState", "(I)I"⟩
theorem k_Fo_nearerState : Cond.code y_Fo_nearerState b_Fo_nearerState 5 (some .int) ∈ sv_T := sv_in 505 (by decide +kernel) rfl
theorem ki_Fo_nearerState : Cond.instanceMethod y_Fo_nearerState ∈ sv_T := sv_in 504 (by decide +kernel) rfl
theorem ks_Fo_nearerState : Cond.selects "StateLogic$Formulas" y_Fo_nearerState y_Fo_nearerState ∈ sv_T := sv_inP (by decide +kernel) rfl
abbrev b_Fo_putFound : ByteArray := prog_2_method_12_code
abbrev y_Fo_putFound : MethodName := ⟨"StateLogic$Formulas", "putFound", "(I)V"⟩
theorem k_Fo_putFound : Cond.code y_Fo_putFound b_Fo_putFound 3 none ∈ sv_T := sv_in 420 (by decide +kernel) rfl
theorem ki_Fo_putFound : Cond.instanceMethod y_Fo_putFound ∈ sv_T := sv_in 419 (by decide +kernel) rfl
theorem ks_Fo_putFound : Cond.selects "StateLogic$Formulas" y_Fo_putFound y_Fo_putFound ∈ sv_T := sv_inP (by decide +kernel) rfl
abbrev b_Fo_rowLength : ByteArray := prog_2_method_15_code
abbrev y_Fo_rowLength : MethodName := ⟨"StateLogic$Formulas", "rowLength", "(II)I"⟩
theorem k_Fo_rowLength : Cond.code y_Fo_rowLength b_Fo_rowLength 4 (some .int) ∈ sv_T := sv_in 473 (by decide +kernel) rfl
theorem ki_Fo_rowLength : Cond.instanceMethod y_Fo_rowLength ∈ sv_T := sv_in 471 (by decide +kernel) rfl
theorem ks_Fo_rowLength : Cond.selects "StateLogic$Formulas" y_Fo_rowLength y_Fo_rowLength ∈ sv_T := sv_in 472 (by decide +kernel) rfl
abbrev b_Fo_rowState : ByteArray := prog_2_method_16_code
abbrev y_Fo_rowState : MethodName := ⟨"StateLogic$Formulas", "rowState", "(II)I"⟩
theorem k_Fo_rowState : Cond.code y_Fo_rowState b_Fo_rowState 5 (some .int) ∈ sv_T := sv_in 501 (by decide +kernel) rfl
theorem ki_Fo_rowState : Cond.instanceMethod y_Fo_rowState ∈ sv_T := sv_in 499 (by decide +kernel) rfl
theorem ks_Fo_rowState : Cond.selects "StateLogic$Formulas" y_Fo_rowState y_Fo_rowState ∈ sv_T := sv_in 500 (by decide +kernel) rfl
abbrev b_Fo_settle : ByteArray := prog_2_method_5_code
abbrev y_Fo_settle : MethodName := ⟨"StateLogic$Formulas", "settle", "(I)V"⟩
theorem k_Fo_settle : Cond.code y_Fo_settle b_Fo_settle 3 none ∈ sv_T := sv_in 343 (by decide +kernel) rfl
theorem ki_Fo_settle : Cond.instanceMethod y_Fo_settle ∈ sv_T := sv_in 341 (by decide +kernel) rfl
theorem ks_Fo_settle : Cond.selects "StateLogic$Formulas" y_Fo_settle y_Fo_settle ∈ sv_T := sv_in 342 (by decide +kernel) rfl
abbrev b_Fo_want : ByteArray := prog_2_method_6_code
abbrev y_Fo_want : MethodName := ⟨"StateLogic$Formulas", "want", "(I)V"⟩
theorem k_Fo_want : Cond.code y_Fo_want b_Fo_want 2 none ∈ sv_T := sv_in 347 (by decide +kernel) rfl
theorem ki_Fo_want : Cond.instanceMethod y_Fo_want ∈ sv_T := sv_in 346 (by decide +kernel) rfl
theorem ks_Fo_want : Cond.selects "StateLogic$Formulas" y_Fo_want y_Fo_want ∈ sv_T := sv_inP (by decide +kernel) rfl
abbrev b_La_begin : ByteArray := method_3_code
abbrev y_La_begin : MethodName := ⟨"StateLogicLaw", "begin", "(LStateLogic;I)I"⟩
theorem k_La_begin : Cond.codeWith y_La_begin b_La_begin 3 (some .int) [(0, 5, 8, 13)] ∈ sv_T := sv_in 166 (by decide +kernel) rfl
theorem kt_La_begin : Cond.static y_La_begin ∈ sv_T := sv_in 165 (by decide +kernel) rfl
abbrev b_La_count : ByteArray := method_7_code
abbrev y_La_count : MethodName := ⟨"StateLogicLaw", "count", "(LStateLogic;I[J)I"⟩
theorem k_La_count : Cond.codeWith y_La_count b_La_count 4 (some .int) [(0, 9, 12, 29)] ∈ sv_T := sv_in 438 (by decide +kernel) rfl
theorem kt_La_count : Cond.static y_La_count ∈ sv_T := sv_in 437 (by decide +kernel) rfl
abbrev b_La_first : ByteArray := method_8_code
abbrev y_La_first : MethodName := ⟨"StateLogicLaw", "first", "(LStateLogic;II[J)I"⟩
theorem k_La_first : Cond.codeWith y_La_first b_La_first 5 (some .int) [(0, 10, 13, 29)] ∈ sv_T := sv_in 449 (by decide +kernel) rfl
theorem kt_La_first : Cond.static y_La_first ∈ sv_T := sv_in 448 (by decide +kernel) rfl
abbrev b_La_formula : ByteArray := method_5_code
abbrev y_La_formula : MethodName := ⟨"StateLogicLaw", "formula", "(LStateLogic;III[J)I"⟩
theorem k_La_formula : Cond.codeWith y_La_formula b_La_formula 6 (some .int) [(0, 12, 15, 13), (0, 12, 19, 19)] ∈ sv_T := sv_in 287 (by decide +kernel) rfl
theorem kt_La_formula : Cond.static y_La_formula ∈ sv_T := sv_in 286 (by decide +kernel) rfl
abbrev b_La_holds : ByteArray := method_6_code
abbrev y_La_holds : MethodName := ⟨"StateLogicLaw", "holds", "(LStateLogic;II[J)I"⟩
theorem k_La_holds : Cond.codeWith y_La_holds b_La_holds 5 (some .int) [(0, 17, 20, 29)] ∈ sv_T := sv_in 309 (by decide +kernel) rfl
theorem kt_La_holds : Cond.static y_La_holds ∈ sv_T := sv_in 308 (by decide +kernel) rfl
abbrev b_La_length : ByteArray := method_9_code
abbrev y_La_length : MethodName := ⟨"StateLogicLaw", "length", "(LStateLogic;II[J)I"⟩
theorem k_La_length : Cond.codeWith y_La_length b_La_length 5 (some .int) [(0, 10, 13, 29), (0, 10, 17, 13)] ∈ sv_T := sv_in 460 (by decide +kernel) rfl
theorem kt_La_length : Cond.static y_La_length ∈ sv_T := sv_in 459 (by decide +kernel) rfl
abbrev b_La_rule : ByteArray := method_4_code
abbrev y_La_rule : MethodName := ⟨"StateLogicLaw", "rule", "(LStateLogic;IIII[J)I"⟩
theorem k_La_rule : Cond.codeWith y_La_rule b_La_rule 7 (some .int) [(0, 14, 17, 13), (0, 14, 21, 19)] ∈ sv_T := sv_in 248 (by decide +kernel) rfl
theorem kt_La_rule : Cond.static y_La_rule ∈ sv_T := sv_in 247 (by decide +kernel) rfl
abbrev b_La_ways : ByteArray := method_11_code
abbrev y_La_ways : MethodName := ⟨"StateLogicLaw", "ways", "(LStateLogic;I[J)I"⟩
theorem k_La_ways : Cond.codeWith y_La_ways b_La_ways 4 (some .int) [(0, 9, 12, 29)] ∈ sv_T := sv_in 509 (by decide +kernel) rfl
theorem kt_La_ways : Cond.static y_La_ways ∈ sv_T := sv_in 508 (by decide +kernel) rfl
abbrev b_La_witness : ByteArray := method_10_code
abbrev y_La_witness : MethodName := ⟨"StateLogicLaw", "witness", "(LStateLogic;III[J)I"⟩
theorem k_La_witness : Cond.codeWith y_La_witness b_La_witness 6 (some .int) [(0, 12, 15, 29), (0, 12, 19, 13), (0, 12, 23, 45)] ∈ sv_T := sv_in 476 (by decide +kernel) rfl
theorem kt_La_witness : Cond.static y_La_witness ∈ sv_T := sv_in 475 (by decide +kernel) rfl
abbrev b_Lo_bitCount : ByteArray := prog_11_method_50_code
abbrev y_Lo_bitCount : MethodName := ⟨"java/lang/Long", "bitCount", "(J)I"⟩
theorem k_Lo_bitCount : Cond.code y_Lo_bitCount b_Lo_bitCount 2 (some .int) ∈ sv_T := sv_in 412 (by decide +kernel) rfl
theorem kt_Lo_bitCount : Cond.static y_Lo_bitCount ∈ sv_T := sv_in 411 (by decide +kernel) rfl
abbrev b_Ma_addRule : ByteArray := prog_3_method_4_code
abbrev y_Ma_addRule : MethodName := ⟨"StateLogic$Machine", "addRule", "(IIII)I"⟩
theorem k_Ma_addRule : Cond.code y_Ma_addRule b_Ma_addRule 7 (some .int) ∈ sv_T := sv_in 284 (by decide +kernel) rfl
theorem ki_Ma_addRule : Cond.instanceMethod y_Ma_addRule ∈ sv_T := sv_in 282 (by decide +kernel) rfl
theorem ks_Ma_addRule : Cond.selects "StateLogic$Machine" y_Ma_addRule y_Ma_addRule ∈ sv_T := sv_in 283 (by decide +kernel) rfl
abbrev b_Ma_init : ByteArray := prog_3_method_1_code
abbrev y_Ma_init : MethodName := ⟨"StateLogic$Machine", "<init>", "()V"⟩
theorem k_Ma_init : Cond.code y_Ma_init b_Ma_init 1 none ∈ sv_T := sv_in 29 (by decide +kernel) rfl
theorem ki_Ma_init : Cond.instanceMethod y_Ma_init ∈ sv_T := sv_in 28 (by decide +kernel) rfl
abbrev b_Ma_isState : ByteArray := prog_3_method_3_code
abbrev y_Ma_isState : MethodName := ⟨"StateLogic$Machine", "isState", "(I)Z"⟩
theorem k_Ma_isState : Cond.code y_Ma_isState b_Ma_isState 2 (some .boolean) ∈ sv_T := sv_in 261 (by decide +kernel) rfl
theorem ki_Ma_isState : Cond.instanceMethod y_Ma_isState ∈ sv_T := sv_in 259 (by decide +kernel) rfl
theorem ks_Ma_isState : Cond.selects "StateLogic$Machine" y_Ma_isState y_Ma_isState ∈ sv_T := sv_in 260 (by decide +kernel) rfl
abbrev b_Ma_restart : ByteArray := prog_3_method_2_code
abbrev y_Ma_restart : MethodName := ⟨"StateLogic$Machine", "restart", "(I)V"⟩
theorem k_Ma_restart : Cond.code y_Ma_restart b_Ma_restart 3 none ∈ sv_T := sv_in 46 (by decide +kernel) rfl
theorem ki_Ma_restart : Cond.instanceMethod y_Ma_restart ∈ sv_T := sv_in 44 (by decide +kernel) rfl
theorem ks_Ma_restart : Cond.selects "StateLogic$Machine" y_Ma_restart y_Ma_restart ∈ sv_T := sv_in 45 (by decide +kernel) rfl
abbrev b_Mo_again : ByteArray := prog_7_method_15_code
abbrev y_Mo_again : MethodName := ⟨"StateLogicModel", "again", "(III)V"⟩
theorem k_Mo_again : Cond.code y_Mo_again b_Mo_again 7 none ∈ sv_T := sv_in 632 (by decide +kernel) rfl
theorem ki_Mo_again : Cond.instanceMethod y_Mo_again ∈ sv_T := sv_in 631 (by decide +kernel) rfl
theorem ks_Mo_again : Cond.selects "StateLogicModel" y_Mo_again y_Mo_again ∈ sv_T := sv_inP (by decide +kernel) rfl
abbrev b_Mo_always : ByteArray := prog_7_method_14_code
abbrev y_Mo_always : MethodName := ⟨"StateLogicModel", "always", "(II)V"⟩
theorem k_Mo_always : Cond.code y_Mo_always b_Mo_always 6 none ∈ sv_T := sv_in 616 (by decide +kernel) rfl
theorem ki_Mo_always : Cond.instanceMethod y_Mo_always ∈ sv_T := sv_in 615 (by decide +kernel) rfl
theorem ks_Mo_always : Cond.selects "StateLogicModel" y_Mo_always y_Mo_always ∈ sv_T := sv_inP (by decide +kernel) rfl
abbrev b_Mo_begin : ByteArray := prog_7_method_6_code
abbrev y_Mo_begin : MethodName := ⟨"StateLogicModel", "begin", "(I)V"⟩
theorem k_Mo_begin : Cond.code y_Mo_begin b_Mo_begin 2 none ∈ sv_T := sv_in 576 (by decide +kernel) rfl
theorem ki_Mo_begin : Cond.instanceMethod y_Mo_begin ∈ sv_T := sv_in 574 (by decide +kernel) rfl
theorem ks_Mo_begin : Cond.selects "StateLogicModel" y_Mo_begin y_Mo_begin ∈ sv_T := sv_in 575 (by decide +kernel) rfl
abbrev b_Mo_count : ByteArray := prog_7_method_20_code
abbrev y_Mo_count : MethodName := ⟨"StateLogicModel", "count", "(I)I"⟩
theorem k_Mo_count : Cond.code y_Mo_count b_Mo_count 4 (some .int) ∈ sv_T := sv_in 644 (by decide +kernel) rfl
theorem ki_Mo_count : Cond.instanceMethod y_Mo_count ∈ sv_T := sv_in 642 (by decide +kernel) rfl
theorem ks_Mo_count : Cond.selects "StateLogicModel" y_Mo_count y_Mo_count ∈ sv_T := sv_in 643 (by decide +kernel) rfl
abbrev b_Mo_first : ByteArray := prog_7_method_21_code
abbrev y_Mo_first : MethodName := ⟨"StateLogicModel", "first", "(II)I"⟩
theorem k_Mo_first : Cond.code y_Mo_first b_Mo_first 4 (some .int) ∈ sv_T := sv_in 648 (by decide +kernel) rfl
theorem ki_Mo_first : Cond.instanceMethod y_Mo_first ∈ sv_T := sv_in 646 (by decide +kernel) rfl
theorem ks_Mo_first : Cond.selects "StateLogicModel" y_Mo_first y_Mo_first ∈ sv_T := sv_in 647 (by decide +kernel) rfl
abbrev b_Mo_formula : ByteArray := prog_7_method_9_code
abbrev y_Mo_formula : MethodName := ⟨"StateLogicModel", "formula", "(III)I"⟩
theorem k_Mo_formula : Cond.code y_Mo_formula b_Mo_formula 6 (some .int) ∈ sv_T := sv_in 596 (by decide +kernel) rfl
theorem ki_Mo_formula : Cond.instanceMethod y_Mo_formula ∈ sv_T := sv_in 594 (by decide +kernel) rfl
theorem ks_Mo_formula : Cond.selects "StateLogicModel" y_Mo_formula y_Mo_formula ∈ sv_T := sv_in 595 (by decide +kernel) rfl
abbrev b_Mo_goes : ByteArray := prog_7_method_10_code
abbrev y_Mo_goes : MethodName := ⟨"StateLogicModel", "goes", "(II)I"⟩
theorem k_Mo_goes : Cond.code y_Mo_goes b_Mo_goes 3 (some .int) ∈ sv_T := sv_in 628 (by decide +kernel) rfl
theorem ki_Mo_goes : Cond.instanceMethod y_Mo_goes ∈ sv_T := sv_in 627 (by decide +kernel) rfl
theorem ks_Mo_goes : Cond.selects "StateLogicModel" y_Mo_goes y_Mo_goes ∈ sv_T := sv_inP (by decide +kernel) rfl
abbrev b_Mo_goesInto : ByteArray := prog_7_method_11_code
abbrev y_Mo_goesInto : MethodName := ⟨"StateLogicModel", "goesInto", "(I[ZI)Z"⟩
theorem k_Mo_goesInto : Cond.code y_Mo_goesInto b_Mo_goesInto 7 (some .boolean) ∈ sv_T := sv_in 624 (by decide +kernel) rfl
theorem ki_Mo_goesInto : Cond.instanceMethod y_Mo_goesInto ∈ sv_T := sv_in 623 (by decide +kernel) rfl
theorem ks_Mo_goesInto : Cond.selects "StateLogicModel" y_Mo_goesInto y_Mo_goesInto ∈ sv_T := sv_inP (by decide +kernel) rfl
abbrev b_Mo_has : ByteArray := prog_7_method_12_code
abbrev y_Mo_has : MethodName := ⟨"StateLogicModel", "has", "(II)Z"⟩
theorem k_Mo_has : Cond.code y_Mo_has b_Mo_has 3 (some .boolean) ∈ sv_T := sv_in 620 (by decide +kernel) rfl
theorem ki_Mo_has : Cond.instanceMethod y_Mo_has ∈ sv_T := sv_in 619 (by decide +kernel) rfl
theorem ks_Mo_has : Cond.selects "StateLogicModel" y_Mo_has y_Mo_has ∈ sv_T := sv_inP (by decide +kernel) rfl
abbrev b_Mo_holds : ByteArray := prog_7_method_19_code
abbrev y_Mo_holds : MethodName := ⟨"StateLogicModel", "holds", "(II)Z"⟩
theorem k_Mo_holds : Cond.code y_Mo_holds b_Mo_holds 3 (some .boolean) ∈ sv_T := sv_in 604 (by decide +kernel) rfl
theorem ki_Mo_holds : Cond.instanceMethod y_Mo_holds ∈ sv_T := sv_in 602 (by decide +kernel) rfl
theorem ks_Mo_holds : Cond.selects "StateLogicModel" y_Mo_holds y_Mo_holds ∈ sv_T := sv_in 603 (by decide +kernel) rfl
abbrev b_Mo_init : ByteArray := prog_7_method_1_code
abbrev y_Mo_init : MethodName := ⟨"StateLogicModel", "<init>", "()V"⟩
theorem k_Mo_init : Cond.code y_Mo_init b_Mo_init 1 none ∈ sv_T := sv_in 518 (by decide +kernel) rfl
theorem ki_Mo_init : Cond.instanceMethod y_Mo_init ∈ sv_T := sv_in 517 (by decide +kernel) rfl
abbrev b_Mo_isFormula : ByteArray := prog_7_method_5_code
abbrev y_Mo_isFormula : MethodName := ⟨"StateLogicModel", "isFormula", "(I)Z"⟩
theorem k_Mo_isFormula : Cond.code y_Mo_isFormula b_Mo_isFormula 2 (some .boolean) ∈ sv_T := sv_in 600 (by decide +kernel) rfl
theorem ki_Mo_isFormula : Cond.instanceMethod y_Mo_isFormula ∈ sv_T := sv_in 599 (by decide +kernel) rfl
theorem ks_Mo_isFormula : Cond.selects "StateLogicModel" y_Mo_isFormula y_Mo_isFormula ∈ sv_T := sv_inP (by decide +kernel) rfl
abbrev b_Mo_isState : ByteArray := prog_7_method_4_code
abbrev y_Mo_isState : MethodName := ⟨"StateLogicModel", "isState", "(I)Z"⟩
theorem k_Mo_isState : Cond.code y_Mo_isState b_Mo_isState 2 (some .boolean) ∈ sv_T := sv_in 592 (by decide +kernel) rfl
theorem ki_Mo_isState : Cond.instanceMethod y_Mo_isState ∈ sv_T := sv_in 591 (by decide +kernel) rfl
theorem ks_Mo_isState : Cond.selects "StateLogicModel" y_Mo_isState y_Mo_isState ∈ sv_T := sv_inP (by decide +kernel) rfl
abbrev b_Mo_isTest : ByteArray := prog_7_method_7_code
abbrev y_Mo_isTest : MethodName := ⟨"StateLogicModel", "isTest", "(II)Z"⟩
theorem k_Mo_isTest : Cond.code y_Mo_isTest b_Mo_isTest 3 (some .boolean) ∈ sv_T := sv_in 588 (by decide +kernel) rfl
theorem ki_Mo_isTest : Cond.instanceMethod y_Mo_isTest ∈ sv_T := sv_in 587 (by decide +kernel) rfl
theorem ks_Mo_isTest : Cond.selects "StateLogicModel" y_Mo_isTest y_Mo_isTest ∈ sv_T := sv_inP (by decide +kernel) rfl
abbrev b_Mo_know : ByteArray := prog_7_method_18_code
abbrev y_Mo_know : MethodName := ⟨"StateLogicModel", "know", "(I)V"⟩
theorem k_Mo_know : Cond.code y_Mo_know b_Mo_know 2 none ∈ sv_T := sv_in 608 (by decide +kernel) rfl
theorem ki_Mo_know : Cond.instanceMethod y_Mo_know ∈ sv_T := sv_in 607 (by decide +kernel) rfl
theorem ks_Mo_know : Cond.selects "StateLogicModel" y_Mo_know y_Mo_know ∈ sv_T := sv_inP (by decide +kernel) rfl
abbrev b_Mo_length : ByteArray := prog_7_method_23_code
abbrev y_Mo_length : MethodName := ⟨"StateLogicModel", "length", "(II)I"⟩
theorem k_Mo_length : Cond.code y_Mo_length b_Mo_length 4 (some .int) ∈ sv_T := sv_in 652 (by decide +kernel) rfl
theorem ki_Mo_length : Cond.instanceMethod y_Mo_length ∈ sv_T := sv_in 650 (by decide +kernel) rfl
theorem ks_Mo_length : Cond.selects "StateLogicModel" y_Mo_length y_Mo_length ∈ sv_T := sv_in 651 (by decide +kernel) rfl
abbrev b_Mo_measure : ByteArray := prog_7_method_22_code
abbrev y_Mo_measure : MethodName := ⟨"StateLogicModel", "measure", "(I)V"⟩
theorem k_Mo_measure : Cond.code y_Mo_measure b_Mo_measure 7 none ∈ sv_T := sv_in 656 (by decide +kernel) rfl
theorem ki_Mo_measure : Cond.instanceMethod y_Mo_measure ∈ sv_T := sv_in 655 (by decide +kernel) rfl
theorem ks_Mo_measure : Cond.selects "StateLogicModel" y_Mo_measure y_Mo_measure ∈ sv_T := sv_inP (by decide +kernel) rfl
abbrev b_Mo_refuse : ByteArray := prog_7_method_3_code
abbrev y_Mo_refuse : MethodName := ⟨"StateLogicModel", "refuse", "(ZZZ)Z"⟩
theorem k_Mo_refuse : Cond.code y_Mo_refuse b_Mo_refuse 4 (some .boolean) ∈ sv_T := sv_in 580 (by decide +kernel) rfl
theorem ki_Mo_refuse : Cond.instanceMethod y_Mo_refuse ∈ sv_T := sv_in 579 (by decide +kernel) rfl
theorem ks_Mo_refuse : Cond.selects "StateLogicModel" y_Mo_refuse y_Mo_refuse ∈ sv_T := sv_inP (by decide +kernel) rfl
abbrev b_Mo_rule : ByteArray := prog_7_method_8_code
abbrev y_Mo_rule : MethodName := ⟨"StateLogicModel", "rule", "(IIII)I"⟩
theorem k_Mo_rule : Cond.code y_Mo_rule b_Mo_rule 6 (some .int) ∈ sv_T := sv_in 584 (by decide +kernel) rfl
theorem ki_Mo_rule : Cond.instanceMethod y_Mo_rule ∈ sv_T := sv_in 582 (by decide +kernel) rfl
theorem ks_Mo_rule : Cond.selects "StateLogicModel" y_Mo_rule y_Mo_rule ∈ sv_T := sv_in 583 (by decide +kernel) rfl
abbrev b_Mo_simple : ByteArray := prog_7_method_16_code
abbrev y_Mo_simple : MethodName := ⟨"StateLogicModel", "simple", "(II)Z"⟩
theorem k_Mo_simple : Cond.code y_Mo_simple b_Mo_simple 5 (some .boolean) ∈ sv_T := sv_in 640 (by decide +kernel) rfl
theorem ki_Mo_simple : Cond.instanceMethod y_Mo_simple ∈ sv_T := sv_in 639 (by decide +kernel) rfl
theorem ks_Mo_simple : Cond.selects "StateLogicModel" y_Mo_simple y_Mo_simple ∈ sv_T := sv_inP (by decide +kernel) rfl
abbrev b_Mo_thrown : ByteArray := prog_7_method_2_code
abbrev y_Mo_thrown : MethodName := ⟨"StateLogicModel", "thrown", "()I"⟩
theorem k_Mo_thrown : Cond.code y_Mo_thrown b_Mo_thrown 1 (some .int) ∈ sv_T := sv_in 572 (by decide +kernel) rfl
theorem ki_Mo_thrown : Cond.instanceMethod y_Mo_thrown ∈ sv_T := sv_in 570 (by decide +kernel) rfl
theorem ks_Mo_thrown : Cond.selects "StateLogicModel" y_Mo_thrown y_Mo_thrown ∈ sv_T := sv_in 571 (by decide +kernel) rfl
abbrev b_Mo_until : ByteArray := prog_7_method_13_code
abbrev y_Mo_until : MethodName := ⟨"StateLogicModel", "until", "(I)V"⟩
theorem k_Mo_until : Cond.code y_Mo_until b_Mo_until 5 none ∈ sv_T := sv_in 636 (by decide +kernel) rfl
theorem ki_Mo_until : Cond.instanceMethod y_Mo_until ∈ sv_T := sv_in 635 (by decide +kernel) rfl
theorem ks_Mo_until : Cond.selects "StateLogicModel" y_Mo_until y_Mo_until ∈ sv_T := sv_inP (by decide +kernel) rfl
abbrev b_Mo_ways : ByteArray := prog_7_method_25_code
abbrev y_Mo_ways : MethodName := ⟨"StateLogicModel", "ways", "(I)I"⟩
theorem k_Mo_ways : Cond.code y_Mo_ways b_Mo_ways 5 (some .int) ∈ sv_T := sv_in 664 (by decide +kernel) rfl
theorem ki_Mo_ways : Cond.instanceMethod y_Mo_ways ∈ sv_T := sv_in 662 (by decide +kernel) rfl
theorem ks_Mo_ways : Cond.selects "StateLogicModel" y_Mo_ways y_Mo_ways ∈ sv_T := sv_in 663 (by decide +kernel) rfl
abbrev b_Mo_witness : ByteArray := prog_7_method_24_code
abbrev y_Mo_witness : MethodName := ⟨"StateLogicModel", "witness", "(III)I"⟩
theorem k_Mo_witness : Cond.code y_Mo_witness b_Mo_witness 13 (some .int) ∈ sv_T := sv_in 660 (by decide +kernel) rfl
theorem ki_Mo_witness : Cond.instanceMethod y_Mo_witness ∈ sv_T := sv_in 658 (by decide +kernel) rfl
theorem ks_Mo_witness : Cond.selects "StateLogicModel" y_Mo_witness y_Mo_witness ∈ sv_T := sv_in 659 (by decide +kernel) rfl
abbrev b_Mo_workOut : ByteArray := prog_7_method_17_code
abbrev y_Mo_workOut : MethodName := ⟨"StateLogicModel", "workOut", "(I)V"⟩
theorem k_Mo_workOut : Cond.code y_Mo_workOut b_Mo_workOut 4 none ∈ sv_T := sv_in 612 (by decide +kernel) rfl
theorem ki_Mo_workOut : Cond.instanceMethod y_Mo_workOut ∈ sv_T := sv_in 611 (by decide +kernel) rfl
theorem ks_Mo_workOut : Cond.selects "StateLogicModel" y_Mo_workOut y_Mo_workOut ∈ sv_T := sv_inP (by decide +kernel) rfl
abbrev b_SL_begin : ByteArray := prog_1_method_2_code
abbrev y_SL_begin : MethodName := ⟨"StateLogic", "begin", "(I)V"⟩
theorem k_SL_begin : Cond.code y_SL_begin b_SL_begin 2 none ∈ sv_T := sv_in 171 (by decide +kernel) rfl
theorem ki_SL_begin : Cond.instanceMethod y_SL_begin ∈ sv_T := sv_in 169 (by decide +kernel) rfl
theorem ks_SL_begin : Cond.selects "StateLogic" y_SL_begin y_SL_begin ∈ sv_T := sv_in 170 (by decide +kernel) rfl
abbrev b_SL_count : ByteArray := prog_1_method_6_code
abbrev y_SL_count : MethodName := ⟨"StateLogic", "count", "(I)I"⟩
theorem k_SL_count : Cond.code y_SL_count b_SL_count 2 (some .int) ∈ sv_T := sv_in 442 (by decide +kernel) rfl
theorem ki_SL_count : Cond.instanceMethod y_SL_count ∈ sv_T := sv_in 440 (by decide +kernel) rfl
theorem ks_SL_count : Cond.selects "StateLogic" y_SL_count y_SL_count ∈ sv_T := sv_in 441 (by decide +kernel) rfl
abbrev b_SL_first : ByteArray := prog_1_method_7_code
abbrev y_SL_first : MethodName := ⟨"StateLogic", "first", "(II)I"⟩
theorem k_SL_first : Cond.code y_SL_first b_SL_first 3 (some .int) ∈ sv_T := sv_in 453 (by decide +kernel) rfl
theorem ki_SL_first : Cond.instanceMethod y_SL_first ∈ sv_T := sv_in 451 (by decide +kernel) rfl
theorem ks_SL_first : Cond.selects "StateLogic" y_SL_first y_SL_first ∈ sv_T := sv_in 452 (by decide +kernel) rfl
abbrev b_SL_formula : ByteArray := prog_1_method_4_code
abbrev y_SL_formula : MethodName := ⟨"StateLogic", "formula", "(III)I"⟩
theorem k_SL_formula : Cond.code y_SL_formula b_SL_formula 4 (some .int) ∈ sv_T := sv_in 291 (by decide +kernel) rfl
theorem ki_SL_formula : Cond.instanceMethod y_SL_formula ∈ sv_T := sv_in 289 (by decide +kernel) rfl
theorem ks_SL_formula : Cond.selects "StateLogic" y_SL_formula y_SL_formula ∈ sv_T := sv_in 290 (by decide +kernel) rfl
abbrev b_SL_hasTwoParts : ByteArray := prog_1_method_15_code
abbrev y_SL_hasTwoParts : MethodName := ⟨"StateLogic", "hasTwoParts", "(I)Z"⟩
theorem k_SL_hasTwoParts : Cond.code y_SL_hasTwoParts b_SL_hasTwoParts 1 (some .boolean) ∈ sv_T := sv_in 299 (by decide +kernel) rfl
theorem kt_SL_hasTwoParts : Cond.static y_SL_hasTwoParts ∈ sv_T := sv_in 298 (by decide +kernel) rfl
abbrev b_SL_holds : ByteArray := prog_1_method_5_code
abbrev y_SL_holds : MethodName := ⟨"StateLogic", "holds", "(II)Z"⟩
theorem k_SL_holds : Cond.code y_SL_holds b_SL_holds 3 (some .boolean) ∈ sv_T := sv_in 314 (by decide +kernel) rfl
theorem ki_SL_holds : Cond.instanceMethod y_SL_holds ∈ sv_T := sv_in 312 (by decide +kernel) rfl
theorem ks_SL_holds : Cond.selects "StateLogic" y_SL_holds y_SL_holds ∈ sv_T := sv_in 313 (by decide +kernel) rfl
abbrev b_SL_init : ByteArray := prog_1_method_1_code
abbrev y_SL_init : MethodName := ⟨"StateLogic", "<init>", "()V"⟩
theorem k_SL_init : Cond.code y_SL_init b_SL_init 1 none ∈ sv_T := sv_in 21 (by decide +kernel) rfl
theorem ki_SL_init : Cond.instanceMethod y_SL_init ∈ sv_T := sv_in 20 (by decide +kernel) rfl
abbrev b_SL_length : ByteArray := prog_1_method_8_code
abbrev y_SL_length : MethodName := ⟨"StateLogic", "length", "(II)I"⟩
theorem k_SL_length : Cond.code y_SL_length b_SL_length 3 (some .int) ∈ sv_T := sv_in 464 (by decide +kernel) rfl
theorem ki_SL_length : Cond.instanceMethod y_SL_length ∈ sv_T := sv_in 462 (by decide +kernel) rfl
theorem ks_SL_length : Cond.selects "StateLogic" y_SL_length y_SL_length ∈ sv_T := sv_in 463 (by decide +kernel) rfl
abbrev b_SL_requireFormula : ByteArray := prog_1_method_12_code
abbrev y_SL_requireFormula : MethodName := ⟨"StateLogic", "requireFormula", "(I)V"⟩
theorem k_SL_requireFormula : Cond.code y_SL_requireFormula b_SL_requireFormula 2 none ∈ sv_T := sv_in 318 (by decide +kernel) rfl
theorem ki_SL_requireFormula : Cond.instanceMethod y_SL_requireFormula ∈ sv_T := sv_in 317 (by decide +kernel) rfl
theorem ks_SL_requireFormula : Cond.selects "StateLogic" y_SL_requireFormula y_SL_requireFormula ∈ sv_T := sv_inP (by decide +kernel) rfl
abbrev b_SL_requirePattern : ByteArray := prog_1_method_11_code
abbrev y_SL_requirePattern : MethodName := ⟨"StateLogic", "requirePattern", "(II)V"⟩
theorem k_SL_requirePattern : Cond.code y_SL_requirePattern b_SL_requirePattern 3 none ∈ sv_T := sv_in 257 (by decide +kernel) rfl
theorem ki_SL_requirePattern : Cond.instanceMethod y_SL_requirePattern ∈ sv_T := sv_in 256 (by decide +kernel) rfl
theorem ks_SL_requirePattern : Cond.selects "StateLogic" y_SL_requirePattern y_SL_requirePattern ∈ sv_T := sv_inP (by decide +kernel) rfl
abbrev b_SL_requireState : ByteArray := prog_1_method_13_code
abbrev y_SL_requireState : MethodName := ⟨"StateLogic", "requireState", "(I)V"⟩
theorem k_SL_requireState : Cond.code y_SL_requireState b_SL_requireState 2 none ∈ sv_T := sv_in 338 (by decide +kernel) rfl
theorem ki_SL_requireState : Cond.instanceMethod y_SL_requireState ∈ sv_T := sv_in 337 (by decide +kernel) rfl
theorem ks_SL_requireState : Cond.selects "StateLogic" y_SL_requireState y_SL_requireState ∈ sv_T := sv_inP (by decide +kernel) rfl
abbrev b_SL_requireUntil : ByteArray := prog_1_method_14_code
abbrev y_SL_requireUntil : MethodName := ⟨"StateLogic", "requireUntil", "(I)V"⟩
theorem k_SL_requireUntil : Cond.code y_SL_requireUntil b_SL_requireUntil 2 none ∈ sv_T := sv_in 468 (by decide +kernel) rfl
theorem ki_SL_requireUntil : Cond.instanceMethod y_SL_requireUntil ∈ sv_T := sv_in 467 (by decide +kernel) rfl
theorem ks_SL_requireUntil : Cond.selects "StateLogic" y_SL_requireUntil y_SL_requireUntil ∈ sv_T := sv_inP (by decide +kernel) rfl
abbrev b_SL_rule : ByteArray := prog_1_method_3_code
abbrev y_SL_rule : MethodName := ⟨"StateLogic", "rule", "(IIII)I"⟩
theorem k_SL_rule : Cond.code y_SL_rule b_SL_rule 5 (some .int) ∈ sv_T := sv_in 253 (by decide +kernel) rfl
theorem ki_SL_rule : Cond.instanceMethod y_SL_rule ∈ sv_T := sv_in 251 (by decide +kernel) rfl
theorem ks_SL_rule : Cond.selects "StateLogic" y_SL_rule y_SL_rule ∈ sv_T := sv_in 252 (by decide +kernel) rfl
abbrev b_SL_ways : ByteArray := prog_1_method_10_code
abbrev y_SL_ways : MethodName := ⟨"StateLogic", "ways", "(I)I"⟩
theorem k_SL_ways : Cond.code y_SL_ways b_SL_ways 2 (some .int) ∈ sv_T := sv_in 513 (by decide +kernel) rfl
theorem ki_SL_ways : Cond.instanceMethod y_SL_ways ∈ sv_T := sv_in 511 (by decide +kernel) rfl
theorem ks_SL_ways : Cond.selects "StateLogic" y_SL_ways y_SL_ways ∈ sv_T := sv_in 512 (by decide +kernel) rfl
abbrev b_SL_witness : ByteArray := prog_1_method_9_code
abbrev y_SL_witness : MethodName := ⟨"StateLogic", "witness", "(III)I"⟩
theorem k_SL_witness : Cond.code y_SL_witness b_SL_witness 4 (some .int) ∈ sv_T := sv_in 481 (by decide +kernel) rfl
theorem ki_SL_witness : Cond.instanceMethod y_SL_witness ∈ sv_T := sv_in 479 (by decide +kernel) rfl
theorem ks_SL_witness : Cond.selects "StateLogic" y_SL_witness y_SL_witness ∈ sv_T := sv_in 480 (by decide +kernel) rfl
abbrev b_Se_find : ByteArray := prog_4_method_3_code
abbrev y_Se_find : MethodName := ⟨"StateLogic$Search", "find", "(II)V"⟩
theorem k_Se_find : Cond.code y_Se_find b_Se_find 3 none ∈ sv_T := sv_in 401 (by decide +kernel) rfl
theorem ki_Se_find : Cond.instanceMethod y_Se_find ∈ sv_T := sv_in 399 (by decide +kernel) rfl
theorem ks_Se_find : Cond.selects "StateLogic$Search" y_Se_find y_Se_find ∈ sv_T := sv_in 400 (by decide +kernel) rfl
abbrev b_Se_init : ByteArray := prog_4_method_1_code
abbrev y_Se_init : MethodName := ⟨"StateLogic$Search", "<init>", "()V"⟩
theorem k_Se_init : Cond.code y_Se_init b_Se_init 1 none ∈ sv_T := sv_in 91 (by decide +kernel) rfl
theorem ki_Se_init : Cond.instanceMethod y_Se_init ∈ sv_T := sv_in 90 (by decide +kernel) rfl
abbrev b_Se_listEnded : ByteArray := prog_4_method_5_code
abbrev y_Se_listEnded : MethodName := ⟨"StateLogic$Search", "listEnded", "(LStateLogic$Sets;I)I"⟩
theorem k_Se_listEnded : Cond.code y_Se_listEnded b_Se_listEnded 8 (some .int) ∈ sv_T := sv_in 428 (by decide +kernel) rfl
theorem ki_Se_listEnded : Cond.instanceMethod y_Se_listEnded ∈ sv_T := sv_in 426 (by decide +kernel) rfl
theorem ks_Se_listEnded : Cond.selects "StateLogic$Search" y_Se_listEnded y_Se_listEnded ∈ sv_T := sv_in 427 (by decide +kernel) rfl
abbrev b_Se_openAll : ByteArray := prog_4_method_2_code
abbrev y_Se_openAll : MethodName := ⟨"StateLogic$Search", "openAll", "(LStateLogic$Sets;I)V"⟩
theorem k_Se_openAll : Cond.code y_Se_openAll b_Se_openAll 3 none ∈ sv_T := sv_in 381 (by decide +kernel) rfl
theorem ki_Se_openAll : Cond.instanceMethod y_Se_openAll ∈ sv_T := sv_in 379 (by decide +kernel) rfl
theorem ks_Se_openAll : Cond.selects "StateLogic$Search" y_Se_openAll y_Se_openAll ∈ sv_T := sv_in 380 (by decide +kernel) rfl
abbrev b_Se_spread : ByteArray := prog_4_method_4_code
abbrev y_Se_spread : MethodName := ⟨"StateLogic$Search", "spread", "(LStateLogic$Sets;)V"⟩
theorem k_Se_spread : Cond.code y_Se_spread b_Se_spread 6 none ∈ sv_T := sv_in 405 (by decide +kernel) rfl
theorem ki_Se_spread : Cond.instanceMethod y_Se_spread ∈ sv_T := sv_in 403 (by decide +kernel) rfl
theorem ks_Se_spread : Cond.selects "StateLogic$Search" y_Se_spread y_Se_spread ∈ sv_T := sv_in 404 (by decide +kernel) rfl
abbrev b_St_copy : ByteArray := prog_5_method_4_code
abbrev y_St_copy : MethodName := ⟨"StateLogic$Sets", "copy", "(ILStateLogic$Sets;I)V"⟩
theorem k_St_copy : Cond.code y_St_copy b_St_copy 4 none ∈ sv_T := sv_in 385 (by decide +kernel) rfl
theorem ki_St_copy : Cond.instanceMethod y_St_copy ∈ sv_T := sv_in 383 (by decide +kernel) rfl
theorem ks_St_copy : Cond.selects "StateLogic$Sets" y_St_copy y_St_copy ∈ sv_T := sv_in 384 (by decide +kernel) rfl
abbrev b_St_drop : ByteArray := prog_5_method_7_code
abbrev y_St_drop : MethodName := ⟨"StateLogic$Sets", "drop", "(II)V"⟩
theorem k_St_drop : Cond.code y_St_drop b_St_drop 3 none ∈ sv_T := sv_in 396 (by decide +kernel) rfl
theorem ki_St_drop : Cond.instanceMethod y_St_drop ∈ sv_T := sv_in 394 (by decide +kernel) rfl
theorem ks_St_drop : Cond.selects "StateLogic$Sets" y_St_drop y_St_drop ∈ sv_T := sv_in 395 (by decide +kernel) rfl
abbrev b_St_empty : ByteArray := prog_5_method_3_code
abbrev y_St_empty : MethodName := ⟨"StateLogic$Sets", "empty", "(I)V"⟩
theorem k_St_empty : Cond.code y_St_empty b_St_empty 3 none ∈ sv_T := sv_in 355 (by decide +kernel) rfl
theorem ki_St_empty : Cond.instanceMethod y_St_empty ∈ sv_T := sv_in 353 (by decide +kernel) rfl
theorem ks_St_empty : Cond.selects "StateLogic$Sets" y_St_empty y_St_empty ∈ sv_T := sv_in 354 (by decide +kernel) rfl
abbrev b_St_emptyAll : ByteArray := prog_5_method_2_code
abbrev y_St_emptyAll : MethodName := ⟨"StateLogic$Sets", "emptyAll", "()V"⟩
theorem k_St_emptyAll : Cond.code y_St_emptyAll b_St_emptyAll 1 none ∈ sv_T := sv_in 50 (by decide +kernel) rfl
theorem ki_St_emptyAll : Cond.instanceMethod y_St_emptyAll ∈ sv_T := sv_in 48 (by decide +kernel) rfl
theorem ks_St_emptyAll : Cond.selects "StateLogic$Sets" y_St_emptyAll y_St_emptyAll ∈ sv_T := sv_in 49 (by decide +kernel) rfl
abbrev b_St_has : ByteArray := prog_5_method_5_code
abbrev y_St_has : MethodName := ⟨"StateLogic$Sets", "has", "(II)Z"⟩
theorem k_St_has : Cond.code y_St_has b_St_has 3 (some .boolean) ∈ sv_T := sv_in 392 (by decide +kernel) rfl
theorem ki_St_has : Cond.instanceMethod y_St_has ∈ sv_T := sv_in 390 (by decide +kernel) rfl
theorem ks_St_has : Cond.selects "StateLogic$Sets" y_St_has y_St_has ∈ sv_T := sv_in 391 (by decide +kernel) rfl
abbrev b_St_init : ByteArray := prog_5_method_1_code
abbrev y_St_init : MethodName := ⟨"StateLogic$Sets", "<init>", "(I)V"⟩
theorem k_St_init : Cond.code y_St_init b_St_init 2 none ∈ sv_T := sv_in 35 (by decide +kernel) rfl
theorem ki_St_init : Cond.instanceMethod y_St_init ∈ sv_T := sv_in 34 (by decide +kernel) rfl
abbrev b_St_leastFrom : ByteArray := prog_5_method_10_code
abbrev y_St_leastFrom : MethodName := ⟨"StateLogic$Sets", "leastFrom", "(II)I"⟩
theorem k_St_leastFrom : Cond.code y_St_leastFrom b_St_leastFrom 8 (some .int) ∈ sv_T := sv_in 457 (by decide +kernel) rfl
theorem ki_St_leastFrom : Cond.instanceMethod y_St_leastFrom ∈ sv_T := sv_in 455 (by decide +kernel) rfl
theorem ks_St_leastFrom : Cond.selects "StateLogic$Sets" y_St_leastFrom y_St_leastFrom ∈ sv_T := sv_in 456 (by decide +kernel) rfl
abbrev b_St_meets : ByteArray := prog_5_method_9_code
abbrev y_St_meets : MethodName := ⟨"StateLogic$Sets", "meets", "(ILStateLogic$Sets;I)Z"⟩
theorem k_St_meets : Cond.code y_St_meets b_St_meets 5 (some .boolean) ∈ sv_T := sv_in 373 (by decide +kernel) rfl
theorem ki_St_meets : Cond.instanceMethod y_St_meets ∈ sv_T := sv_in 371 (by decide +kernel) rfl
theorem ks_St_meets : Cond.selects "StateLogic$Sets" y_St_meets y_St_meets ∈ sv_T := sv_in 372 (by decide +kernel) rfl
abbrev b_St_put : ByteArray := prog_5_method_6_code
abbrev y_St_put : MethodName := ⟨"StateLogic$Sets", "put", "(II)V"⟩
theorem k_St_put : Cond.code y_St_put b_St_put 3 none ∈ sv_T := sv_in 57 (by decide +kernel) rfl
theorem ki_St_put : Cond.instanceMethod y_St_put ∈ sv_T := sv_in 55 (by decide +kernel) rfl
theorem ks_St_put : Cond.selects "StateLogic$Sets" y_St_put y_St_put ∈ sv_T := sv_in 56 (by decide +kernel) rfl
abbrev b_St_size : ByteArray := prog_5_method_8_code
abbrev y_St_size : MethodName := ⟨"StateLogic$Sets", "size", "(I)I"⟩
theorem k_St_size : Cond.code y_St_size b_St_size 4 (some .int) ∈ sv_T := sv_in 446 (by decide +kernel) rfl
theorem ki_St_size : Cond.instanceMethod y_St_size ∈ sv_T := sv_in 444 (by decide +kernel) rfl
theorem ks_St_size : Cond.selects "StateLogic$Sets" y_St_size y_St_size ∈ sv_T := sv_in 445 (by decide +kernel) rfl
abbrev b_St_takeShared : ByteArray := prog_5_method_11_code
abbrev y_St_takeShared : MethodName := ⟨"StateLogic$Sets", "takeShared", "(ILStateLogic$Sets;I)I"⟩
theorem k_St_takeShared : Cond.code y_St_takeShared b_St_takeShared 9 (some .int) ∈ sv_T := sv_in 409 (by decide +kernel) rfl
theorem ki_St_takeShared : Cond.instanceMethod y_St_takeShared ∈ sv_T := sv_in 407 (by decide +kernel) rfl
theorem ks_St_takeShared : Cond.selects "StateLogic$Sets" y_St_takeShared y_St_takeShared ∈ sv_T := sv_in 408 (by decide +kernel) rfl
end
section
/-! Links of fields and calls. -/
theorem f_Fo_27 : Cond.fieldLink "StateLogic$Formulas" 27 "StateLogic$Formulas" "kinds" "[I" ∈ sv_T := sv_in 126 (by decide +kernel) rfl
theorem f_Fo_52 : Cond.fieldLink "StateLogic$Formulas" 52 "StateLogic$Formulas" "made" "I" ∈ sv_T := sv_in 132 (by decide +kernel) rfl
theorem f_Fo_31 : Cond.fieldLink "StateLogic$Formulas" 31 "StateLogic$Formulas" "xs" "[I" ∈ sv_T := sv_in 128 (by decide +kernel) rfl
theorem f_Fo_34 : Cond.fieldLink "StateLogic$Formulas" 34 "StateLogic$Formulas" "ys" "[I" ∈ sv_T := sv_in 129 (by decide +kernel) rfl
theorem mn_Fo_55 : Cond.methodLinkNest "StateLogic$Formulas" 55 y_SL_hasTwoParts "StateLogic" ∈ lw_tbl := List.mem_append_right _ (List.mem_of_getElem? (i := 306) (by decide +kernel))
theorem f_Fo_37 : Cond.fieldLink "StateLogic$Formulas" 37 "StateLogic$Formulas" "settledAt" "[I" ∈ sv_T := sv_in 130 (by decide +kernel) rfl
theorem f_Fo_23 : Cond.fieldLink "StateLogic$Formulas" 23 "StateLogic$Formulas" "truth" "LStateLogic$Sets;" ∈ sv_T := sv_in 124 (by decide +kernel) rfl
theorem s_Fo_70 : sv_site "StateLogic$Formulas" 70 y_St_empty b_St_empty 3 none 1 := ⟨sv_in 352 (by decide +kernel) rfl, z_St, k_St_empty, by decide +kernel, by decide +kernel⟩
theorem s_Fo_73 : sv_site "StateLogic$Formulas" 73 y_Fo_evaluateAtom b_Fo_evaluateAtom 3 none 1 := ⟨sv_in 356 (by decide +kernel) rfl, z_Fo, k_Fo_evaluateAtom, by decide +kernel, by decide +kernel⟩
theorem s_Fo_76 : sv_site "StateLogic$Formulas" 76 y_Fo_evaluateWords b_Fo_evaluateWords 10 none 1 := ⟨sv_in 361 (by decide +kernel) rfl, z_Fo, k_Fo_evaluateWords, by decide +kernel, by decide +kernel⟩
theorem s_Fo_79 : sv_site "StateLogic$Formulas" 79 y_Fo_evaluateNext b_Fo_evaluateNext 3 none 1 := ⟨sv_in 366 (by decide +kernel) rfl, z_Fo, k_Fo_evaluateNext, by decide +kernel, by decide +kernel⟩
theorem s_Fo_82 : sv_site "StateLogic$Formulas" 82 y_Fo_evaluateUntil b_Fo_evaluateUntil 3 none 1 := ⟨sv_in 374 (by decide +kernel) rfl, z_Fo, k_Fo_evaluateUntil, by decide +kernel, by decide +kernel⟩
theorem s_Fo_85 : sv_site "StateLogic$Formulas" 85 y_Fo_evaluateAgain b_Fo_evaluateAgain 5 none 1 := ⟨sv_in 421 (by decide +kernel) rfl, z_Fo, k_Fo_evaluateAgain, by decide +kernel, by decide +kernel⟩
theorem f_Fo_48 : Cond.fieldLink "StateLogic$Formulas" 48 "StateLogic$Formulas" "measured" "I" ∈ sv_T := sv_in 134 (by decide +kernel) rfl
theorem f_Fo_12 : Cond.fieldLink "StateLogic$Formulas" 12 "StateLogic$Formulas" "search" "LStateLogic$Search;" ∈ sv_T := sv_in 123 (by decide +kernel) rfl
theorem s_Fo_111 : sv_site "StateLogic$Formulas" 111 y_Se_openAll b_Se_openAll 3 none 2 := ⟨sv_in 378 (by decide +kernel) rfl, z_Se, k_Se_openAll, by decide +kernel, by decide +kernel⟩
theorem f_Fo_44 : Cond.fieldLink "StateLogic$Formulas" 44 "StateLogic$Formulas" "machine" "LStateLogic$Machine;" ∈ sv_T := sv_in 122 (by decide +kernel) rfl
theorem f_Fo_131 : Cond.fieldLink "StateLogic$Formulas" 131 "StateLogic$Machine" "predecessors" "LStateLogic$Sets;" ∈ sv_T := sv_in 64 (by decide +kernel) rfl
theorem f_Fo_88 : Cond.fieldLink "StateLogic$Formulas" 88 "StateLogic$Machine" "states" "I" ∈ sv_T := sv_in 66 (by decide +kernel) rfl
theorem s_Fo_147 : sv_site "StateLogic$Formulas" 147 y_Se_listEnded b_Se_listEnded 8 (some .int) 2 := ⟨sv_in 425 (by decide +kernel) rfl, z_Se, k_Se_listEnded, by decide +kernel, by decide +kernel⟩
theorem f_Fo_151 : Cond.fieldLink "StateLogic$Formulas" 151 "StateLogic$Search" "ended" "[I" ∈ sv_T := sv_in 103 (by decide +kernel) rfl
theorem f_Fo_122 : Cond.fieldLink "StateLogic$Formulas" 122 "StateLogic$Search" "open" "LStateLogic$Sets;" ∈ sv_T := sv_in 96 (by decide +kernel) rfl
theorem s_Fo_118 : sv_site "StateLogic$Formulas" 118 y_St_has b_St_has 3 (some .boolean) 2 := ⟨sv_in 389 (by decide +kernel) rfl, z_St, k_St_has, by decide +kernel, by decide +kernel⟩
theorem s_Fo_125 : sv_site "StateLogic$Formulas" 125 y_St_drop b_St_drop 3 none 2 := ⟨sv_in 393 (by decide +kernel) rfl, z_St, k_St_drop, by decide +kernel, by decide +kernel⟩
theorem f_Fo_141 : Cond.fieldLink "StateLogic$Formulas" 141 "StateLogic$Search" "foundCount" "I" ∈ sv_T := sv_in 105 (by decide +kernel) rfl
theorem s_Fo_128 : sv_site "StateLogic$Formulas" 128 y_Se_find b_Se_find 3 none 2 := ⟨sv_in 398 (by decide +kernel) rfl, z_Se, k_Se_find, by decide +kernel, by decide +kernel⟩
theorem f_Fo_104 : Cond.fieldLink "StateLogic$Formulas" 104 "StateLogic$Machine" "successors" "LStateLogic$Sets;" ∈ sv_T := sv_in 62 (by decide +kernel) rfl
theorem s_Fo_134 : sv_site "StateLogic$Formulas" 134 y_Se_spread b_Se_spread 6 none 1 := ⟨sv_in 402 (by decide +kernel) rfl, z_Se, k_Se_spread, by decide +kernel, by decide +kernel⟩
theorem s_Fo_154 : sv_site "StateLogic$Formulas" 154 y_Fo_evaluateRing b_Fo_evaluateRing 7 none 2 := ⟨sv_in 431 (by decide +kernel) rfl, z_Fo, k_Fo_evaluateRing, by decide +kernel, by decide +kernel⟩
theorem s_Fo_91 : sv_site "StateLogic$Formulas" 91 y_St_put b_St_put 3 none 2 := ⟨sv_in 360 (by decide +kernel) rfl, z_St, k_St_put, by decide +kernel, by decide +kernel⟩
theorem s_Fo_107 : sv_site "StateLogic$Formulas" 107 y_St_meets b_St_meets 5 (some .boolean) 3 := ⟨sv_in 370 (by decide +kernel) rfl, z_St, k_St_meets, by decide +kernel, by decide +kernel⟩
theorem f_Fo_144 : Cond.fieldLink "StateLogic$Formulas" 144 "StateLogic$Search" "found" "[I" ∈ sv_T := sv_in 98 (by decide +kernel) rfl
theorem s_Fo_138 : sv_site "StateLogic$Formulas" 138 y_Fo_putFound b_Fo_putFound 3 none 1 := ⟨sv_in 417 (by decide +kernel) rfl, z_Fo, k_Fo_putFound, by decide +kernel, by decide +kernel⟩
theorem f_Fo_115 : Cond.fieldLink "StateLogic$Formulas" 115 "StateLogic$Search" "distances" "[I" ∈ sv_T := sv_in 100 (by decide +kernel) rfl
theorem f_Fo_95 : Cond.fieldLink "StateLogic$Formulas" 95 "StateLogic$Sets" "words" "[J" ∈ sv_T := sv_in 38 (by decide +kernel) rfl
theorem f_Fo_99 : Cond.fieldLink "StateLogic$Formulas" 99 "StateLogic$Machine" "all" "LStateLogic$Sets;" ∈ sv_T := sv_in 59 (by decide +kernel) rfl
theorem g_Fo_102 : Jvm.Cond.constantLong "StateLogic$Formulas" 102 (-1) ∈ sv_T := sv_in 365 (by decide +kernel) rfl
theorem m_Fo_3 : Cond.methodLink "StateLogic$Formulas" 3 Lib.objectInit ∈ sv_T := sv_in 86 (by decide +kernel) rfl
theorem c_Fo_9 : Cond.classLink "StateLogic$Formulas" 9 "StateLogic$Search" ∈ sv_T := sv_in 87 (by decide +kernel) rfl
theorem mn_Fo_11 : Cond.methodLinkNest "StateLogic$Formulas" 11 y_Se_init "StateLogic" ∈ lw_tbl := List.mem_append_right _ (List.mem_of_getElem? (i := 89) (by decide +kernel))
theorem c_Fo_18 : Cond.classLink "StateLogic$Formulas" 18 "StateLogic$Sets" ∈ sv_T := sv_in 120 (by decide +kernel) rfl
theorem s_Fo_20 : sv_site "StateLogic$Formulas" 20 y_St_init b_St_init 2 none 1 := ⟨sv_in 121 (by decide +kernel) rfl, z_St, k_St_init, by decide +kernel, by decide +kernel⟩
theorem f_Fo_40 : Cond.fieldLink "StateLogic$Formulas" 40 "StateLogic$Formulas" "wanted" "[Z" ∈ sv_T := sv_in 131 (by decide +kernel) rfl
theorem s_Fo_161 : sv_site "StateLogic$Formulas" 161 y_St_leastFrom b_St_leastFrom 8 (some .int) 2 := ⟨sv_in 506 (by decide +kernel) rfl, z_St, k_St_leastFrom, by decide +kernel, by decide +kernel⟩
theorem s_Fo_157 : sv_site "StateLogic$Formulas" 157 y_Fo_nearerState b_Fo_nearerState 5 (some .int) 1 := ⟨sv_in 502 (by decide +kernel) rfl, z_Fo, k_Fo_nearerState, by decide +kernel, by decide +kernel⟩
theorem s_Fo_59 : sv_site "StateLogic$Formulas" 59 y_Fo_want b_Fo_want 2 none 1 := ⟨sv_in 344 (by decide +kernel) rfl, z_Fo, k_Fo_want, by decide +kernel, by decide +kernel⟩
theorem s_Fo_62 : sv_site "StateLogic$Formulas" 62 y_Fo_evaluate b_Fo_evaluate 2 none 1 := ⟨sv_in 348 (by decide +kernel) rfl, z_Fo, k_Fo_evaluate, by decide +kernel, by decide +kernel⟩
theorem f_Fo_65 : Cond.fieldLink "StateLogic$Formulas" 65 "StateLogic$Machine" "rules" "I" ∈ sv_T := sv_in 69 (by decide +kernel) rfl
theorem s_La_7 : sv_site "StateLogicLaw" 7 y_SL_begin b_SL_begin 2 none 1 := ⟨sv_in 168 (by decide +kernel) rfl, z_SL, k_SL_begin, by decide +kernel, by decide +kernel⟩
theorem s_La_31 : sv_site "StateLogicLaw" 31 y_SL_count b_SL_count 2 (some .int) 1 := ⟨sv_in 439 (by decide +kernel) rfl, z_SL, k_SL_count, by decide +kernel, by decide +kernel⟩
theorem s_La_35 : sv_site "StateLogicLaw" 35 y_SL_first b_SL_first 3 (some .int) 2 := ⟨sv_in 450 (by decide +kernel) rfl, z_SL, k_SL_first, by decide +kernel, by decide +kernel⟩
theorem s_La_21 : sv_site "StateLogicLaw" 21 y_SL_formula b_SL_formula 4 (some .int) 3 := ⟨sv_in 288 (by decide +kernel) rfl, z_SL, k_SL_formula, by decide +kernel, by decide +kernel⟩
theorem s_La_25 : sv_site "StateLogicLaw" 25 y_SL_holds b_SL_holds 3 (some .boolean) 2 := ⟨sv_in 311 (by decide +kernel) rfl, z_SL, k_SL_holds, by decide +kernel, by decide +kernel⟩
theorem c_La_8 : Cond.classLink "StateLogicLaw" 8 "StateLogic" ∈ sv_T := sv_in 17 (by decide +kernel) rfl
theorem s_La_50 : sv_site "StateLogicLaw" 50 y_SL_init b_SL_init 1 none 0 := ⟨sv_in 19 (by decide +kernel) rfl, z_SL, k_SL_init, by decide +kernel, by decide +kernel⟩
theorem c_La_51 : Cond.classLink "StateLogicLaw" 51 "StateLogicModel" ∈ sv_T := sv_in 514 (by decide +kernel) rfl
theorem s_La_53 : sv_site "StateLogicLaw" 53 y_Mo_init b_Mo_init 1 none 0 := ⟨sv_in 516 (by decide +kernel) rfl, z_Mo, k_Mo_init, by decide +kernel, by decide +kernel⟩
theorem m_La_54 : Cond.methodLink "StateLogicLaw" 54 y_La_begin ∈ sv_T := sv_in 164 (by decide +kernel) rfl
theorem s_La_59 : sv_site "StateLogicLaw" 59 y_Mo_begin b_Mo_begin 2 none 1 := ⟨sv_in 573 (by decide +kernel) rfl, z_Mo, k_Mo_begin, by decide +kernel, by decide +kernel⟩
theorem s_La_60 : sv_site "StateLogicLaw" 60 y_Mo_thrown b_Mo_thrown 1 (some .int) 0 := ⟨sv_in 569 (by decide +kernel) rfl, z_Mo, k_Mo_thrown, by decide +kernel, by decide +kernel⟩
theorem m_La_64 : Cond.methodLink "StateLogicLaw" 64 y_La_rule ∈ sv_T := sv_in 246 (by decide +kernel) rfl
theorem s_La_67 : sv_site "StateLogicLaw" 67 y_Mo_rule b_Mo_rule 6 (some .int) 4 := ⟨sv_in 581 (by decide +kernel) rfl, z_Mo, k_Mo_rule, by decide +kernel, by decide +kernel⟩
theorem m_La_68 : Cond.methodLink "StateLogicLaw" 68 y_La_formula ∈ sv_T := sv_in 285 (by decide +kernel) rfl
theorem s_La_71 : sv_site "StateLogicLaw" 71 y_Mo_formula b_Mo_formula 6 (some .int) 3 := ⟨sv_in 593 (by decide +kernel) rfl, z_Mo, k_Mo_formula, by decide +kernel, by decide +kernel⟩
theorem m_La_72 : Cond.methodLink "StateLogicLaw" 72 y_La_holds ∈ sv_T := sv_in 307 (by decide +kernel) rfl
theorem s_La_75 : sv_site "StateLogicLaw" 75 y_Mo_holds b_Mo_holds 3 (some .boolean) 2 := ⟨sv_in 601 (by decide +kernel) rfl, z_Mo, k_Mo_holds, by decide +kernel, by decide +kernel⟩
theorem m_La_76 : Cond.methodLink "StateLogicLaw" 76 y_La_count ∈ sv_T := sv_in 436 (by decide +kernel) rfl
theorem s_La_79 : sv_site "StateLogicLaw" 79 y_Mo_count b_Mo_count 4 (some .int) 1 := ⟨sv_in 641 (by decide +kernel) rfl, z_Mo, k_Mo_count, by decide +kernel, by decide +kernel⟩
theorem m_La_80 : Cond.methodLink "StateLogicLaw" 80 y_La_first ∈ sv_T := sv_in 447 (by decide +kernel) rfl
theorem s_La_82 : sv_site "StateLogicLaw" 82 y_Mo_first b_Mo_first 4 (some .int) 2 := ⟨sv_in 645 (by decide +kernel) rfl, z_Mo, k_Mo_first, by decide +kernel, by decide +kernel⟩
theorem m_La_83 : Cond.methodLink "StateLogicLaw" 83 y_La_length ∈ sv_T := sv_in 458 (by decide +kernel) rfl
theorem s_La_85 : sv_site "StateLogicLaw" 85 y_Mo_length b_Mo_length 4 (some .int) 2 := ⟨sv_in 649 (by decide +kernel) rfl, z_Mo, k_Mo_length, by decide +kernel, by decide +kernel⟩
theorem m_La_86 : Cond.methodLink "StateLogicLaw" 86 y_La_witness ∈ sv_T := sv_in 474 (by decide +kernel) rfl
theorem s_La_88 : sv_site "StateLogicLaw" 88 y_Mo_witness b_Mo_witness 13 (some .int) 3 := ⟨sv_in 657 (by decide +kernel) rfl, z_Mo, k_Mo_witness, by decide +kernel, by decide +kernel⟩
theorem m_La_89 : Cond.methodLink "StateLogicLaw" 89 y_La_ways ∈ sv_T := sv_in 507 (by decide +kernel) rfl
theorem s_La_91 : sv_site "StateLogicLaw" 91 y_Mo_ways b_Mo_ways 5 (some .int) 1 := ⟨sv_in 661 (by decide +kernel) rfl, z_Mo, k_Mo_ways, by decide +kernel, by decide +kernel⟩
theorem s_La_39 : sv_site "StateLogicLaw" 39 y_SL_length b_SL_length 3 (some .int) 2 := ⟨sv_in 461 (by decide +kernel) rfl, z_SL, k_SL_length, by decide +kernel, by decide +kernel⟩
theorem s_La_15 : sv_site "StateLogicLaw" 15 y_SL_rule b_SL_rule 5 (some .int) 4 := ⟨sv_in 250 (by decide +kernel) rfl, z_SL, k_SL_rule, by decide +kernel, by decide +kernel⟩
theorem s_La_47 : sv_site "StateLogicLaw" 47 y_SL_ways b_SL_ways 2 (some .int) 1 := ⟨sv_in 510 (by decide +kernel) rfl, z_SL, k_SL_ways, by decide +kernel, by decide +kernel⟩
theorem s_La_42 : sv_site "StateLogicLaw" 42 y_SL_witness b_SL_witness 4 (some .int) 3 := ⟨sv_in 478 (by decide +kernel) rfl, z_SL, k_SL_witness, by decide +kernel, by decide +kernel⟩
theorem g_Lo_314 : Jvm.Cond.constantLong "java/lang/Long" 314 (6148914691236517205) ∈ sv_T := sv_in 413 (by decide +kernel) rfl
theorem g_Lo_316 : Jvm.Cond.constantLong "java/lang/Long" 316 (3689348814741910323) ∈ sv_T := sv_in 414 (by decide +kernel) rfl
theorem g_Lo_318 : Jvm.Cond.constantLong "java/lang/Long" 318 (1085102592571150095) ∈ sv_T := sv_in 415 (by decide +kernel) rfl
theorem f_Ma_29 : Cond.fieldLink "StateLogic$Machine" 29 "StateLogic$Machine" "states" "I" ∈ sv_T := sv_in 65 (by decide +kernel) rfl
theorem f_Ma_20 : Cond.fieldLink "StateLogic$Machine" 20 "StateLogic$Machine" "successors" "LStateLogic$Sets;" ∈ sv_T := sv_in 60 (by decide +kernel) rfl
theorem s_Ma_39 : sv_site "StateLogic$Machine" 39 y_St_put b_St_put 3 none 2 := ⟨sv_in 54 (by decide +kernel) rfl, z_St, k_St_put, by decide +kernel, by decide +kernel⟩
theorem f_Ma_23 : Cond.fieldLink "StateLogic$Machine" 23 "StateLogic$Machine" "predecessors" "LStateLogic$Sets;" ∈ sv_T := sv_in 63 (by decide +kernel) rfl
theorem f_Ma_33 : Cond.fieldLink "StateLogic$Machine" 33 "StateLogic$Machine" "rules" "I" ∈ sv_T := sv_in 67 (by decide +kernel) rfl
theorem m_Ma_3 : Cond.methodLink "StateLogic$Machine" 3 Lib.objectInit ∈ sv_T := sv_in 30 (by decide +kernel) rfl
theorem c_Ma_9 : Cond.classLink "StateLogic$Machine" 9 "StateLogic$Sets" ∈ sv_T := sv_in 31 (by decide +kernel) rfl
theorem s_Ma_11 : sv_site "StateLogic$Machine" 11 y_St_init b_St_init 2 none 1 := ⟨sv_in 33 (by decide +kernel) rfl, z_St, k_St_init, by decide +kernel, by decide +kernel⟩
theorem f_Ma_14 : Cond.fieldLink "StateLogic$Machine" 14 "StateLogic$Machine" "all" "LStateLogic$Sets;" ∈ sv_T := sv_in 58 (by decide +kernel) rfl
theorem s_Ma_26 : sv_site "StateLogic$Machine" 26 y_Ma_restart b_Ma_restart 3 none 1 := ⟨sv_in 43 (by decide +kernel) rfl, z_Ma, k_Ma_restart, by decide +kernel, by decide +kernel⟩
theorem s_Ma_36 : sv_site "StateLogic$Machine" 36 y_St_emptyAll b_St_emptyAll 1 none 0 := ⟨sv_in 47 (by decide +kernel) rfl, z_St, k_St_emptyAll, by decide +kernel, by decide +kernel⟩
theorem f_Mo_7 : Cond.fieldLink "StateLogicModel" 7 "StateLogicModel" "bits" "I" ∈ sv_T := sv_in 521 (by decide +kernel) rfl
theorem f_Mo_35 : Cond.fieldLink "StateLogicModel" 35 "StateLogicModel" "holds" "[Z" ∈ sv_T := sv_in 532 (by decide +kernel) rfl
theorem s_Mo_79 : sv_site "StateLogicModel" 79 y_Mo_has b_Mo_has 3 (some .boolean) 2 := ⟨sv_in 617 (by decide +kernel) rfl, z_Mo, k_Mo_has, by decide +kernel, by decide +kernel⟩
theorem f_Mo_42 : Cond.fieldLink "StateLogicModel" 42 "StateLogicModel" "goal" "[Z" ∈ sv_T := sv_in 534 (by decide +kernel) rfl
theorem s_Mo_86 : sv_site "StateLogicModel" 86 y_Mo_until b_Mo_until 5 none 1 := ⟨sv_in 633 (by decide +kernel) rfl, z_Mo, k_Mo_until, by decide +kernel, by decide +kernel⟩
theorem f_Mo_39 : Cond.fieldLink "StateLogicModel" 39 "StateLogicModel" "set" "[Z" ∈ sv_T := sv_in 533 (by decide +kernel) rfl
theorem s_Mo_82 : sv_site "StateLogicModel" 82 y_Mo_goesInto b_Mo_goesInto 7 (some .boolean) 3 := ⟨sv_in 621 (by decide +kernel) rfl, z_Mo, k_Mo_goesInto, by decide +kernel, by decide +kernel⟩
theorem s_Mo_54 : sv_site "StateLogicModel" 54 y_Mo_refuse b_Mo_refuse 4 (some .boolean) 3 := ⟨sv_in 577 (by decide +kernel) rfl, z_Mo, k_Mo_refuse, by decide +kernel, by decide +kernel⟩
theorem f_Mo_58 : Cond.fieldLink "StateLogicModel" 58 "StateLogicModel" "rules" "I" ∈ sv_T := sv_in 522 (by decide +kernel) rfl
theorem f_Mo_51 : Cond.fieldLink "StateLogicModel" 51 "StateLogicModel" "formulas" "I" ∈ sv_T := sv_in 527 (by decide +kernel) rfl
theorem f_Mo_61 : Cond.fieldLink "StateLogicModel" 61 "StateLogicModel" "known" "I" ∈ sv_T := sv_in 528 (by decide +kernel) rfl
theorem s_Mo_72 : sv_site "StateLogicModel" 72 y_Mo_isFormula b_Mo_isFormula 2 (some .boolean) 1 := ⟨sv_in 597 (by decide +kernel) rfl, z_Mo, k_Mo_isFormula, by decide +kernel, by decide +kernel⟩
theorem s_Mo_104 : sv_site "StateLogicModel" 104 y_Mo_know b_Mo_know 2 none 1 := ⟨sv_in 605 (by decide +kernel) rfl, z_Mo, k_Mo_know, by decide +kernel, by decide +kernel⟩
theorem s_Mo_64 : sv_site "StateLogicModel" 64 y_Mo_isState b_Mo_isState 2 (some .boolean) 1 := ⟨sv_in 589 (by decide +kernel) rfl, z_Mo, k_Mo_isState, by decide +kernel, by decide +kernel⟩
theorem s_Mo_68 : sv_site "StateLogicModel" 68 y_Mo_isTest b_Mo_isTest 3 (some .boolean) 2 := ⟨sv_in 585 (by decide +kernel) rfl, z_Mo, k_Mo_isTest, by decide +kernel, by decide +kernel⟩
theorem f_Mo_26 : Cond.fieldLink "StateLogicModel" 26 "StateLogicModel" "kinds" "[I" ∈ sv_T := sv_in 529 (by decide +kernel) rfl
theorem f_Mo_29 : Cond.fieldLink "StateLogicModel" 29 "StateLogicModel" "xs" "[I" ∈ sv_T := sv_in 530 (by decide +kernel) rfl
theorem f_Mo_32 : Cond.fieldLink "StateLogicModel" 32 "StateLogicModel" "ys" "[I" ∈ sv_T := sv_in 531 (by decide +kernel) rfl
theorem f_Mo_13 : Cond.fieldLink "StateLogicModel" 13 "StateLogicModel" "mask" "[I" ∈ sv_T := sv_in 523 (by decide +kernel) rfl
theorem f_Mo_17 : Cond.fieldLink "StateLogicModel" 17 "StateLogicModel" "value" "[I" ∈ sv_T := sv_in 524 (by decide +kernel) rfl
theorem f_Mo_20 : Cond.fieldLink "StateLogicModel" 20 "StateLogicModel" "keep" "[I" ∈ sv_T := sv_in 525 (by decide +kernel) rfl
theorem f_Mo_23 : Cond.fieldLink "StateLogicModel" 23 "StateLogicModel" "flip" "[I" ∈ sv_T := sv_in 526 (by decide +kernel) rfl
theorem s_Mo_75 : sv_site "StateLogicModel" 75 y_Mo_goes b_Mo_goes 3 (some .int) 2 := ⟨sv_in 625 (by decide +kernel) rfl, z_Mo, k_Mo_goes, by decide +kernel, by decide +kernel⟩
theorem m_Mo_1 : Cond.methodLink "StateLogicModel" 1 Lib.objectInit ∈ sv_T := sv_in 519 (by decide +kernel) rfl
theorem f_Mo_45 : Cond.fieldLink "StateLogicModel" 45 "StateLogicModel" "far" "[I" ∈ sv_T := sv_in 535 (by decide +kernel) rfl
theorem s_Mo_101 : sv_site "StateLogicModel" 101 y_Mo_workOut b_Mo_workOut 4 none 1 := ⟨sv_in 609 (by decide +kernel) rfl, z_Mo, k_Mo_workOut, by decide +kernel, by decide +kernel⟩
theorem s_Mo_107 : sv_site "StateLogicModel" 107 y_Mo_measure b_Mo_measure 7 none 1 := ⟨sv_in 653 (by decide +kernel) rfl, z_Mo, k_Mo_measure, by decide +kernel, by decide +kernel⟩
theorem f_Mo_48 : Cond.fieldLink "StateLogicModel" 48 "StateLogicModel" "thrown" "I" ∈ sv_T := sv_in 520 (by decide +kernel) rfl
theorem s_Mo_90 : sv_site "StateLogicModel" 90 y_Mo_always b_Mo_always 6 none 2 := ⟨sv_in 613 (by decide +kernel) rfl, z_Mo, k_Mo_always, by decide +kernel, by decide +kernel⟩
theorem s_Mo_94 : sv_site "StateLogicModel" 94 y_Mo_again b_Mo_again 7 none 3 := ⟨sv_in 629 (by decide +kernel) rfl, z_Mo, k_Mo_again, by decide +kernel, by decide +kernel⟩
theorem s_Mo_98 : sv_site "StateLogicModel" 98 y_Mo_simple b_Mo_simple 5 (some .boolean) 2 := ⟨sv_in 637 (by decide +kernel) rfl, z_Mo, k_Mo_simple, by decide +kernel, by decide +kernel⟩
theorem c_SL_25 : Cond.classLink "StateLogic" 25 "java/lang/IllegalArgumentException" ∈ sv_T := sv_in 172 (by decide +kernel) rfl
theorem f_SL_10 : Cond.fieldLink "StateLogic" 10 "StateLogic" "machine" "LStateLogic$Machine;" ∈ sv_T := sv_in 157 (by decide +kernel) rfl
theorem s_SL_32 : sv_site "StateLogic" 32 y_Ma_restart b_Ma_restart 3 none 1 := ⟨sv_in 241 (by decide +kernel) rfl, z_Ma, k_Ma_restart, by decide +kernel, by decide +kernel⟩
theorem f_SL_21 : Cond.fieldLink "StateLogic" 21 "StateLogic" "formulas" "LStateLogic$Formulas;" ∈ sv_T := sv_in 158 (by decide +kernel) rfl
theorem s_SL_36 : sv_site "StateLogic" 36 y_Fo_forgetAll b_Fo_forgetAll 1 none 0 := ⟨sv_in 242 (by decide +kernel) rfl, z_Fo, k_Fo_forgetAll, by decide +kernel, by decide +kernel⟩
theorem s_SL_81 : sv_site "StateLogic" 81 y_SL_requireFormula b_SL_requireFormula 2 none 1 := ⟨sv_in 315 (by decide +kernel) rfl, z_SL, k_SL_requireFormula, by decide +kernel, by decide +kernel⟩
theorem s_SL_87 : sv_site "StateLogic" 87 y_Fo_settle b_Fo_settle 3 none 1 := ⟨sv_in 340 (by decide +kernel) rfl, z_Fo, k_Fo_settle, by decide +kernel, by decide +kernel⟩
theorem f_SL_90 : Cond.fieldLink "StateLogic" 90 "StateLogic$Formulas" "truth" "LStateLogic$Sets;" ∈ sv_T := sv_in 125 (by decide +kernel) rfl
theorem s_SL_100 : sv_site "StateLogic" 100 y_St_size b_St_size 4 (some .int) 1 := ⟨sv_in 443 (by decide +kernel) rfl, z_St, k_St_size, by decide +kernel, by decide +kernel⟩
theorem s_SL_84 : sv_site "StateLogic" 84 y_SL_requireState b_SL_requireState 2 none 1 := ⟨sv_in 335 (by decide +kernel) rfl, z_SL, k_SL_requireState, by decide +kernel, by decide +kernel⟩
theorem s_SL_104 : sv_site "StateLogic" 104 y_St_leastFrom b_St_leastFrom 8 (some .int) 2 := ⟨sv_in 454 (by decide +kernel) rfl, z_St, k_St_leastFrom, by decide +kernel, by decide +kernel⟩
theorem s_SL_39 : sv_site "StateLogic" 39 y_SL_requirePattern b_SL_requirePattern 3 none 2 := ⟨sv_in 254 (by decide +kernel) rfl, z_SL, k_SL_requirePattern, by decide +kernel, by decide +kernel⟩
theorem s_SL_64 : sv_site "StateLogic" 64 y_Fo_isThere b_Fo_isThere 2 (some .boolean) 1 := ⟨sv_in 293 (by decide +kernel) rfl, z_Fo, k_Fo_isThere, by decide +kernel, by decide +kernel⟩
theorem s_SL_67 : sv_site "StateLogic" 67 y_SL_hasTwoParts b_SL_hasTwoParts 1 (some .boolean) 1 := ⟨sv_in 297 (by decide +kernel) rfl, z_SL, k_SL_hasTwoParts, by decide +kernel, by decide +kernel⟩
theorem f_SL_72 : Cond.fieldLink "StateLogic" 72 "StateLogic$Formulas" "made" "I" ∈ sv_T := sv_in 133 (by decide +kernel) rfl
theorem c_SL_53 : Cond.classLink "StateLogic" 53 "java/lang/UnsupportedOperationException" ∈ sv_T := sv_in 265 (by decide +kernel) rfl
theorem s_SL_77 : sv_site "StateLogic" 77 y_Fo_addFormula b_Fo_addFormula 4 (some .int) 3 := ⟨sv_in 302 (by decide +kernel) rfl, z_Fo, k_Fo_addFormula, by decide +kernel, by decide +kernel⟩
theorem s_SL_94 : sv_site "StateLogic" 94 y_St_has b_St_has 3 (some .boolean) 2 := ⟨sv_in 435 (by decide +kernel) rfl, z_St, k_St_has, by decide +kernel, by decide +kernel⟩
theorem m_SL_1 : Cond.methodLink "StateLogic" 1 Lib.objectInit ∈ sv_T := sv_in 22 (by decide +kernel) rfl
theorem c_SL_7 : Cond.classLink "StateLogic" 7 "StateLogic$Machine" ∈ sv_T := sv_in 25 (by decide +kernel) rfl
theorem s_SL_9 : sv_site "StateLogic" 9 y_Ma_init b_Ma_init 1 none 0 := ⟨sv_in 27 (by decide +kernel) rfl, z_Ma, k_Ma_init, by decide +kernel, by decide +kernel⟩
theorem c_SL_16 : Cond.classLink "StateLogic" 16 "StateLogic$Formulas" ∈ sv_T := sv_in 81 (by decide +kernel) rfl
theorem s_SL_18 : sv_site "StateLogic" 18 y_Fo_init b_Fo_init 2 none 1 := ⟨sv_in 83 (by decide +kernel) rfl, z_Fo, k_Fo_init, by decide +kernel, by decide +kernel⟩
theorem s_SL_108 : sv_site "StateLogic" 108 y_SL_requireUntil b_SL_requireUntil 2 none 1 := ⟨sv_in 465 (by decide +kernel) rfl, z_SL, k_SL_requireUntil, by decide +kernel, by decide +kernel⟩
theorem s_SL_111 : sv_site "StateLogic" 111 y_Fo_rowLength b_Fo_rowLength 4 (some .int) 2 := ⟨sv_in 470 (by decide +kernel) rfl, z_Fo, k_Fo_rowLength, by decide +kernel, by decide +kernel⟩
theorem c_SL_129 : Cond.classLink "StateLogic" 129 "java/lang/IndexOutOfBoundsException" ∈ sv_T := sv_in 319 (by decide +kernel) rfl
theorem s_SL_43 : sv_site "StateLogic" 43 y_Ma_isState b_Ma_isState 2 (some .boolean) 1 := ⟨sv_in 258 (by decide +kernel) rfl, z_Ma, k_Ma_isState, by decide +kernel, by decide +kernel⟩
theorem f_SL_136 : Cond.fieldLink "StateLogic" 136 "StateLogic$Formulas" "kinds" "[I" ∈ sv_T := sv_in 127 (by decide +kernel) rfl
theorem f_SL_49 : Cond.fieldLink "StateLogic" 49 "StateLogic$Machine" "rules" "I" ∈ sv_T := sv_in 68 (by decide +kernel) rfl
theorem s_SL_58 : sv_site "StateLogic" 58 y_Ma_addRule b_Ma_addRule 7 (some .int) 4 := ⟨sv_in 281 (by decide +kernel) rfl, z_Ma, k_Ma_addRule, by decide +kernel, by decide +kernel⟩
theorem f_SL_122 : Cond.fieldLink "StateLogic" 122 "StateLogic$Machine" "successors" "LStateLogic$Sets;" ∈ sv_T := sv_in 61 (by decide +kernel) rfl
theorem c_SL_114 : Cond.classLink "StateLogic" 114 "java/util/NoSuchElementException" ∈ sv_T := sv_in 482 (by decide +kernel) rfl
theorem s_SL_119 : sv_site "StateLogic" 119 y_Fo_rowState b_Fo_rowState 5 (some .int) 2 := ⟨sv_in 498 (by decide +kernel) rfl, z_Fo, k_Fo_rowState, by decide +kernel, by decide +kernel⟩
theorem f_Se_37 : Cond.fieldLink "StateLogic$Search" 37 "StateLogic$Search" "foundCount" "I" ∈ sv_T := sv_in 104 (by decide +kernel) rfl
theorem f_Se_20 : Cond.fieldLink "StateLogic$Search" 20 "StateLogic$Search" "found" "[I" ∈ sv_T := sv_in 97 (by decide +kernel) rfl
theorem f_Se_24 : Cond.fieldLink "StateLogic$Search" 24 "StateLogic$Search" "distances" "[I" ∈ sv_T := sv_in 99 (by decide +kernel) rfl
theorem m_Se_3 : Cond.methodLink "StateLogic$Search" 3 Lib.objectInit ∈ sv_T := sv_in 92 (by decide +kernel) rfl
theorem c_Se_9 : Cond.classLink "StateLogic$Search" 9 "StateLogic$Sets" ∈ sv_T := sv_in 93 (by decide +kernel) rfl
theorem s_Se_11 : sv_site "StateLogic$Search" 11 y_St_init b_St_init 2 none 1 := ⟨sv_in 94 (by decide +kernel) rfl, z_St, k_St_init, by decide +kernel, by decide +kernel⟩
theorem f_Se_14 : Cond.fieldLink "StateLogic$Search" 14 "StateLogic$Search" "open" "LStateLogic$Sets;" ∈ sv_T := sv_in 95 (by decide +kernel) rfl
theorem f_Se_27 : Cond.fieldLink "StateLogic$Search" 27 "StateLogic$Search" "path" "[I" ∈ sv_T := sv_in 101 (by decide +kernel) rfl
theorem f_Se_30 : Cond.fieldLink "StateLogic$Search" 30 "StateLogic$Search" "ended" "[I" ∈ sv_T := sv_in 102 (by decide +kernel) rfl
theorem s_Se_49 : sv_site "StateLogic$Search" 49 y_St_has b_St_has 3 (some .boolean) 2 := ⟨sv_in 429 (by decide +kernel) rfl, z_St, k_St_has, by decide +kernel, by decide +kernel⟩
theorem s_Se_53 : sv_site "StateLogic$Search" 53 y_St_drop b_St_drop 3 none 2 := ⟨sv_in 430 (by decide +kernel) rfl, z_St, k_St_drop, by decide +kernel, by decide +kernel⟩
theorem s_Se_41 : sv_site "StateLogic$Search" 41 y_St_takeShared b_St_takeShared 9 (some .int) 3 := ⟨sv_in 406 (by decide +kernel) rfl, z_St, k_St_takeShared, by decide +kernel, by decide +kernel⟩
theorem s_Se_33 : sv_site "StateLogic$Search" 33 y_St_copy b_St_copy 4 none 3 := ⟨sv_in 382 (by decide +kernel) rfl, z_St, k_St_copy, by decide +kernel, by decide +kernel⟩
theorem s_Se_45 : sv_site "StateLogic$Search" 45 y_Se_find b_Se_find 3 none 2 := ⟨sv_in 416 (by decide +kernel) rfl, z_Se, k_Se_find, by decide +kernel, by decide +kernel⟩
theorem f_St_11 : Cond.fieldLink "StateLogic$Sets" 11 "StateLogic$Sets" "words" "[J" ∈ sv_T := sv_in 37 (by decide +kernel) rfl
theorem g_St_27 : Jvm.Cond.constantLong "StateLogic$Sets" 27 (-1) ∈ sv_T := sv_in 397 (by decide +kernel) rfl
theorem s_St_15 : sv_site "StateLogic$Sets" 15 y_Ar_fill b_Ar_fill 5 none 2 := ⟨sv_in 51 (by decide +kernel) rfl, z_Ar, k_Ar_fill, by decide +kernel, by decide +kernel⟩
theorem m_St_3 : Cond.methodLink "StateLogic$Sets" 3 Lib.objectInit ∈ sv_T := sv_in 36 (by decide +kernel) rfl
theorem s_St_29 : sv_site "StateLogic$Sets" 29 y_Lo_bitCount b_Lo_bitCount 2 (some .int) 1 := ⟨sv_in 410 (by decide +kernel) rfl, z_Lo, k_Lo_bitCount, by decide +kernel, by decide +kernel⟩
end
section
/-! rows on bits, shifts and unsigned numbers, to paste: each family out of a closed proof of our own, whole with what it rests on; each by itself clean at Lean in its own claim (generation 39, form 5). Take a family whole -/
/-! ===== Int32 by its bits: bt x i ===== -/
def bt (x : Int32) (i : Nat) : Bool := x.toBitVec.getLsbD i
theorem b_ext {x y : Int32} (h : ∀ i, i < 32 → bt x i = bt y i) : x = y := Int32.toBitVec_inj.mp (BitVec.eq_of_getLsbD_eq (fun i hi => h i hi))
theorem b_or (x y : Int32) (i : Nat) : bt (x ||| y) i = (bt x i || bt y i) := by unfold bt; rw [Int32.toBitVec_or, BitVec.getLsbD_or]
theorem b_and (x y : Int32) (i : Nat) : bt (x &&& y) i = (bt x i && bt y i) := by unfold bt; rw [Int32.toBitVec_and, BitVec.getLsbD_and]
theorem b_xor (x y : Int32) (i : Nat) : bt (x ^^^ y) i = (bt x i ^^ bt y i) := by unfold bt; rw [Int32.toBitVec_xor, BitVec.getLsbD_xor]
theorem b_big {x : Int32} {i : Nat} (h : 32 ≤ i) : bt x i = false := BitVec.getLsbD_of_ge _ _ h
theorem b_255 (i : Nat) : bt 255 i = decide (i < 8) := by
  rcases Nat.lt_or_ge i 32 with h | h
  · exact (by decide +kernel : ∀ i, i < 32 → bt 255 i = decide (i < 8)) i h
  · rw [b_big h, decide_eq_false (by omega)]
theorem b_65535 (i : Nat) : bt 65535 i = decide (i < 16) := by
  rcases Nat.lt_or_ge i 32 with h | h
  · exact (by decide +kernel : ∀ i, i < 32 → bt 65535 i = decide (i < 16)) i h
  · rw [b_big h, decide_eq_false (by omega)]
theorem b_m1 : ∀ i, i < 32 → bt (-1) i = true := by decide +kernel
theorem b_0 (i : Nat) : bt 0 i = false := BitVec.getLsbD_zero
theorem s_l : ∀ n, n < 32 → ((nI n &&& 31).toBitVec.smod 32).toNat = n := by decide +kernel
theorem s_u : ∀ n, n < 32 → (((nI n).toUInt32 &&& Int32.toUInt32 31).toBitVec % 32).toNat = n := by decide +kernel
theorem b_shl (n : Nat) (hn : n < 32) (x : Int32) {i : Nat} (hi : i < 32) : bt (x <<< (nI n &&& 31)) i = (decide (n ≤ i) && bt x (i - n)) := by
  unfold bt
  rw [Int32.toBitVec_shiftLeft]
  show (x.toBitVec <<< ((nI n &&& 31).toBitVec.smod 32).toNat).getLsbD i = _
  rw [s_l n hn, BitVec.getLsbD_shiftLeft]
  rcases Nat.lt_or_ge i n with h | h
  · simp [h, Nat.not_le.mpr h]
  · simp [hi, h, Nat.not_lt.mpr h]
theorem b_ushr (n : Nat) (hn : n < 32) (x : Int32) (i : Nat) : bt ((x.toUInt32 >>> ((nI n).toUInt32 &&& Int32.toUInt32 31)).toInt32) i = bt x (n + i) := by
  show (x.toUInt32 >>> ((nI n).toUInt32 &&& Int32.toUInt32 31)).toBitVec.getLsbD i = x.toUInt32.toBitVec.getLsbD (n + i)
  rw [UInt32.toBitVec_shiftRight]
  show (x.toUInt32.toBitVec >>> (((nI n).toUInt32 &&& Int32.toUInt32 31).toBitVec % 32).toNat).getLsbD i = _
  rw [s_u n hn, BitVec.getLsbD_ushiftRight]
theorem b_sshr (n : Nat) (hn : n < 32) (x : Int32) {i : Nat} (hi : i < 32) : bt (x >>> (nI n &&& 31)) i = if n + i < 32 then bt x (n + i) else bt x 31 := by
  unfold bt
  rw [Int32.toBitVec_shiftRight]
  show (x.toBitVec.sshiftRight ((nI n &&& 31).toBitVec.smod 32).toNat).getLsbD i = _
  rw [s_l n hn, BitVec.getLsbD_sshiftRight, BitVec.msb_eq_getLsbD_last]
  simp [hi]
theorem b_shl8 (x : Int32) {i : Nat} (hi : i < 32) : bt (x <<< ((8 : Int32) &&& 31)) i = (decide (8 ≤ i) && bt x (i - 8)) := b_shl 8 (by omega) x hi
theorem b_shl16 (x : Int32) {i : Nat} (hi : i < 32) : bt (x <<< ((16 : Int32) &&& 31)) i = (decide (16 ≤ i) && bt x (i - 16)) := b_shl 16 (by omega) x hi
theorem b_shl24 (x : Int32) {i : Nat} (hi : i < 32) : bt (x <<< ((24 : Int32) &&& 31)) i = (decide (24 ≤ i) && bt x (i - 24)) := b_shl 24 (by omega) x hi
theorem b_sshr8 (x : Int32) {i : Nat} (hi : i < 32) : bt (x >>> ((8 : Int32) &&& 31)) i = if 8 + i < 32 then bt x (8 + i) else bt x 31 := b_sshr 8 (by omega) x hi
/-! ===== nI under and, xor, >>>, one bit, 65535 ===== -/
theorem nx_and (a b : Nat) : nI a &&& nI b = nI (a &&& b) := by
  apply Int32.toBitVec_inj.1
  show BitVec.ofNat 32 a &&& BitVec.ofNat 32 b = BitVec.ofNat 32 (a &&& b)
  apply BitVec.eq_of_getLsbD_eq
  intro i hi
  simp [hi]
theorem nx_xor (a b : Nat) : nI a ^^^ nI b = nI (a ^^^ b) := by
  apply Int32.toBitVec_inj.1
  show BitVec.ofNat 32 a ^^^ BitVec.ofNat 32 b = BitVec.ofNat 32 (a ^^^ b)
  apply BitVec.eq_of_getLsbD_eq
  intro i hi
  simp [hi]
theorem nx_cnt : ∀ j : Fin 32, (UInt32.ofNat j.val &&& Int32.toUInt32 31).toNat % 32 = j.val := by decide +kernel
theorem nx_ush {k j : Nat} (hk : k < 65536) (hj : j < 32) : ((nI k).toUInt32 >>> ((nI j).toUInt32 &&& Int32.toUInt32 31)).toInt32 = nI (k >>> j) := by
  have hs : k >>> j ≤ k := by
    rw [Nat.shiftRight_eq_div_pow]
    exact Nat.div_le_self _ _
  have e2 : UInt32.ofNat k >>> (UInt32.ofNat j &&& Int32.toUInt32 31) = UInt32.ofNat (k >>> j) := by
    apply UInt32.toNat_inj.1
    have h1 : (UInt32.ofNat k).toNat = k := Nat.mod_eq_of_lt (by omega)
    have h2 : (UInt32.ofNat (k >>> j)).toNat = k >>> j := Nat.mod_eq_of_lt (by omega)
    rw [UInt32.toNat_shiftRight, nx_cnt ⟨j, hj⟩, h1, h2]
  show (UInt32.ofNat k >>> (UInt32.ofNat j &&& Int32.toUInt32 31)).toInt32 = _
  rw [e2]
  rfl
theorem nx_bit {k j : Nat} (hk : k < 65536) (hj : j < 16) : (((nI k).toUInt32 >>> ((nI j).toUInt32 &&& Int32.toUInt32 31)).toInt32 &&& 1) = 0 ↔ k.testBit j = false := by
  rw [nx_ush hk (by omega)]
  show nI (k >>> j) &&& nI 1 = 0 ↔ _
  rw [nx_and, Nat.and_one_is_mod, ← nI_0, nI_eq (by omega) (by omega), Nat.testBit_eq_decide_div_mod_eq, Nat.shiftRight_eq_div_pow, decide_eq_false_iff_not]
  generalize k / 2 ^ j = z
  omega
theorem nx_mod (k : Nat) : nI k &&& 65535 = nI (k % 65536) := by
  show nI k &&& nI 65535 = _
  rw [nx_and, show (65535 : Nat) = 2 ^ 16 - 1 from rfl, Nat.and_two_pow_sub_one_eq_mod]
theorem nx_m16 {k : Nat} (h : k < 65536) : nI k &&& 65535 = nI k := by rw [nx_mod, Nat.mod_eq_of_lt h]
theorem nx_mask (x : Int32) : ∃ k, k < 65536 ∧ x &&& 65535 = nI k := by
  have e : x = nI x.toBitVec.toNat := by
    apply Int32.toBitVec_inj.1
    show x.toBitVec = BitVec.ofNat 32 x.toBitVec.toNat
    simp
  refine ⟨x.toBitVec.toNat % 65536, Nat.mod_lt _ (by omega), ?_⟩
  rw [← nx_mod, ← e]
/-! ===== Int32 as a set of bits: test, set ===== -/
def nf_M (m : Int32) : Nat := 4294967296 - m.toBitVec.toNat
theorem nf_sh : ∀ l, l < 32 → ((1 : Int32) <<< (nI l &&& 31)).toBitVec = BitVec.twoPow 32 l := by decide +kernel
theorem nf_sl : ∀ l, l < 32 → (((nI l).toUInt32 &&& Int32.toUInt32 31).toBitVec % 32).toNat = l := by decide +kernel
theorem nf_tp : ∀ l, l < 32 → BitVec.twoPow 32 l ≠ 0#32 := by decide +kernel
theorem nf_bit (m : Int32) (l : Nat) (hl : l < 32) : ((m.toUInt32 >>> ((nI l).toUInt32 &&& Int32.toUInt32 31)).toInt32 &&& 1) = 0 ↔ (m &&& ((1 : Int32) <<< (nI l &&& 31))) = 0 := by
  have e : ((m.toUInt32 >>> ((nI l).toUInt32 &&& Int32.toUInt32 31)).toInt32).toBitVec = m.toBitVec >>> l := by
    show m.toBitVec >>> (((nI l).toUInt32 &&& Int32.toUInt32 31).toBitVec % 32) = m.toBitVec >>> l
    rw [BitVec.ushiftRight_eq', nf_sl l hl]
  rw [← Int32.toBitVec_inj, ← Int32.toBitVec_inj, Int32.toBitVec_and, Int32.toBitVec_and, nf_sh l hl, e, BitVec.and_twoPow]
  show (m.toBitVec >>> l &&& 1#32) = 0#32 ↔ _ = 0#32
  rw [BitVec.and_one_eq_setWidth_ofBool_getLsbD, BitVec.getLsbD_ushiftRight, Nat.add_zero]
  cases hb : m.toBitVec.getLsbD l
  · exact ⟨fun _ => by simp, fun _ => by decide⟩
  · exact ⟨fun z => absurd z (by decide), fun z => absurd ((if_pos rfl).symm.trans z) (nf_tp l hl)⟩
theorem nf_gr (m k : Int32) (h : m &&& k = 0) (hk : k ≠ 0) : nf_M (m ||| k) < nf_M m := by
  have hm := m.toBitVec.isLt
  have hm' := (m ||| k).toBitVec.isLt
  have h1 : m.toBitVec.toNat ≤ (m ||| k).toBitVec.toNat := by
    rw [Int32.toBitVec_or, BitVec.toNat_or]
    exact Nat.left_le_or
  have h2 : m.toBitVec.toNat ≠ (m ||| k).toBitVec.toNat := by
    intro e
    have e2 : m = m ||| k := Int32.toBitVec_inj.mp (BitVec.eq_of_toNat_eq e)
    apply hk
    apply Int32.toBitVec_inj.mp
    show k.toBitVec = 0#32
    apply BitVec.eq_of_getLsbD_eq
    intro i hi
    have a : m.toBitVec.getLsbD i = (m.toBitVec.getLsbD i || k.toBitVec.getLsbD i) := by rw [← BitVec.getLsbD_or, ← Int32.toBitVec_or, ← e2]
    have b : (m.toBitVec.getLsbD i && k.toBitVec.getLsbD i) = false := by
      rw [← BitVec.getLsbD_and, ← Int32.toBitVec_and, h]
      exact BitVec.getLsbD_zero
    rw [BitVec.getLsbD_zero]
    revert a b
    cases m.toBitVec.getLsbD i <;> cases k.toBitVec.getLsbD i <;> simp
  unfold nf_M
  omega
/-! ===== a byte read unsigned ===== -/
theorem bp_b (x : Int32) : x.toInt8.toInt32 &&& 255 = x &&& 255 := by
  apply Int32.toBitVec_inj.mp
  rw [Int32.toBitVec_and, Int32.toBitVec_and, Int8.toBitVec_toInt32, Int32.toBitVec_toInt8]
  apply BitVec.eq_of_getLsbD_eq
  intro i hi
  rw [BitVec.getLsbD_and, BitVec.getLsbD_and]
  have hm : ∀ i < 32, 8 ≤ i → (255 : Int32).toBitVec.getLsbD i = false := by decide
  rcases Nat.lt_or_ge i 8 with z | z
  · rw [BitVec.getLsbD_signExtend, BitVec.getLsbD_signExtend, if_pos z, if_pos hi]
    simp only [z, hi, decide_true, Bool.true_and]
  · rw [hm i hi z]; simp
/-! ===== the char cast and 65535 ===== -/
/-! ===== Int64 as a set of bits: test, set, clear ===== -/
theorem ts_nf {x : Bool} (h : ¬ x = false) : x = true := by cases x <;> first | rfl | exact absurd rfl h
theorem ts_nt {x : Bool} (h : ¬ x = true) : x = false := by cases x <;> first | rfl | exact absurd rfl h
theorem ts_bit {w : Int64} {s : UInt64} {j : Nat} (hj : j < 64) (hs : s.toNat = j) : ((w.toUInt64 >>> s).toInt64 &&& 1) = 0 ↔ w.toBitVec.getLsbD j = false := by
  have e : (w.toUInt64 >>> s).toInt64.toBitVec = w.toBitVec >>> j := by
    apply BitVec.eq_of_toNat_eq
    show (w.toUInt64 >>> s).toNat = _
    rw [UInt64.toNat_shiftRight, hs, Nat.mod_eq_of_lt hj, BitVec.toNat_ushiftRight]
    rfl
  rw [← Int64.toBitVec_inj, Int64.toBitVec_and, e]
  show w.toBitVec >>> j &&& 1#64 = 0#64 ↔ _
  constructor
  · intro h
    have t := congrArg (fun x => x.getLsbD 0) h
    simpa using t
  · intro h
    apply BitVec.eq_of_getLsbD_eq
    intro i hi
    cases i with
    | zero => simp [h]
    | succ i => simp
theorem ts_or {w m : Int64} {j : Nat} (hj : j < 64) (hm : m.toBitVec = BitVec.twoPow 64 j) : (w ||| m) = w ↔ w.toBitVec.getLsbD j = true := by
  rw [← Int64.toBitVec_inj, Int64.toBitVec_or, hm]
  constructor
  · intro h
    have t := congrArg (fun x => x.getLsbD j) h
    simp only [BitVec.getLsbD_or, BitVec.getLsbD_twoPow] at t
    simpa [hj] using t.symm
  · intro h
    apply BitVec.eq_of_getLsbD_eq
    intro i hi
    rw [BitVec.getLsbD_or, BitVec.getLsbD_twoPow]
    by_cases e : j = i
    · subst e; rw [h, Bool.true_or]
    · simp [e]
theorem ts_and {w m : Int64} {j : Nat} (hj : j < 64) (hm : m.toBitVec = BitVec.twoPow 64 j) : (w &&& (m ^^^ (-1))) = w ↔ w.toBitVec.getLsbD j = false := by
  have ha : (-1 : Int64).toBitVec = BitVec.allOnes 64 := by decide
  rw [← Int64.toBitVec_inj, Int64.toBitVec_and, Int64.toBitVec_xor, hm, ha]
  constructor
  · intro h
    have t := congrArg (fun x => x.getLsbD j) h
    simp only [BitVec.getLsbD_and, BitVec.getLsbD_xor, BitVec.getLsbD_twoPow, BitVec.getLsbD_allOnes] at t
    simpa [hj] using t.symm
  · intro h
    apply BitVec.eq_of_getLsbD_eq
    intro i hi
    rw [BitVec.getLsbD_and, BitVec.getLsbD_xor, BitVec.getLsbD_twoPow, BitVec.getLsbD_allOnes]
    by_cases e : j = i
    · subst e; rw [h, Bool.false_and]
    · simp [e, hi]
/-! ===== lN n to 2^64: shifts, and, or, masks, one bit ===== -/
theorem wb_tb (n : Nat) : (lN n).toBitVec = BitVec.ofNat 64 n := rfl
theorem wb_inj {a b : Int64} (h : a.toBitVec = b.toBitVec) : a = b := Int64.toBitVec_inj.mp h
theorem wb_tn {n : Nat} (h : n < 2 ^ 64) : (lN n).toBitVec.toNat = n := by rw [wb_tb, BitVec.toNat_ofNat, Nat.mod_eq_of_lt h]
theorem wb_of (x : Int64) : ∃ n, n < 2 ^ 64 ∧ x = lN n := ⟨x.toBitVec.toNat, x.toBitVec.isLt, wb_inj (by rw [wb_tb]; simp)⟩
theorem wb_of32 (x : Int32) : ∃ n, n < 2 ^ 32 ∧ x = nI n := ⟨x.toBitVec.toNat, x.toBitVec.isLt, Int32.toBitVec_inj.mp (by show _ = BitVec.ofNat 32 _; simp)⟩
theorem wb_c : ∀ k, k < 64 → ((nI k).toInt64 &&& 63) = lN k := by decide +kernel
theorem wb_cu : ∀ k, k < 64 → ((nI k).toInt64.toUInt64 &&& Int64.toUInt64 63) = UInt64.ofNat k := by decide +kernel
theorem wb_sm : ∀ k, k < 64 → (BitVec.ofNat 64 k).smod 64 = BitVec.ofNat 64 k := by decide +kernel
theorem wb_pw {a b : Nat} (h : a ≤ b) : 2 ^ b = 2 ^ a * 2 ^ (b - a) := by rw [← Nat.pow_add]; congr 1; omega
theorem wb_lt2 {a b : Nat} (h : a < b) : 2 ^ a < 2 ^ b := Nat.pow_lt_pow_right (by decide) h
theorem wb_mod (n : Nat) : lN n = lN (n % 2 ^ 64) := wb_inj (by rw [wb_tb, wb_tb]; apply BitVec.eq_of_toNat_eq; rw [BitVec.toNat_ofNat, BitVec.toNat_ofNat, Nat.mod_mod])
theorem wb_shr {n k : Nat} (hn : n < 2 ^ 64) (hk : k < 64) : ((lN n).toUInt64 >>> ((nI k).toInt64.toUInt64 &&& Int64.toUInt64 63)).toInt64 = lN (n / 2 ^ k) := by
  rw [wb_cu k hk]
  apply wb_inj
  apply BitVec.eq_of_toNat_eq
  show ((lN n).toUInt64 >>> UInt64.ofNat k).toNat = (BitVec.ofNat 64 _).toNat
  have h1 : (UInt64.ofNat k).toNat = k := by
    show (BitVec.ofNat 64 k).toNat = k
    rw [BitVec.toNat_ofNat, Nat.mod_eq_of_lt (by omega)]
  have h2 : (lN n).toUInt64.toNat = n := wb_tn hn
  rw [UInt64.toNat_shiftRight, h1, h2, Nat.mod_eq_of_lt hk, Nat.shiftRight_eq_div_pow, BitVec.toNat_ofNat, Nat.mod_eq_of_lt (Nat.lt_of_le_of_lt (Nat.div_le_self _ _) hn)]
theorem wb_shl (n : Nat) {k : Nat} (hk : k < 64) : lN n <<< ((nI k).toInt64 &&& 63) = lN (n * 2 ^ k) := by
  rw [wb_c k hk]
  apply wb_inj
  rw [Int64.toBitVec_shiftLeft, wb_tb, wb_tb, wb_tb, wb_sm k hk]
  apply BitVec.eq_of_toNat_eq
  rw [BitVec.shiftLeft_eq', BitVec.toNat_shiftLeft, BitVec.toNat_ofNat, BitVec.toNat_ofNat, BitVec.toNat_ofNat, Nat.mod_eq_of_lt (show k < 2 ^ 64 by omega), Nat.shiftLeft_eq, Nat.mul_mod, Nat.mod_mod, ← Nat.mul_mod]
theorem wb_and {a b : Nat} (ha : a < 2 ^ 64) (hb : b < 2 ^ 64) : lN a &&& lN b = lN (a &&& b) := by
  apply wb_inj
  rw [Int64.toBitVec_and, wb_tb, wb_tb, wb_tb]
  apply BitVec.eq_of_toNat_eq
  rw [BitVec.toNat_and, BitVec.toNat_ofNat, BitVec.toNat_ofNat, BitVec.toNat_ofNat, Nat.mod_eq_of_lt ha, Nat.mod_eq_of_lt hb, Nat.mod_eq_of_lt (Nat.and_lt_two_pow _ hb)]
theorem wb_or {a b : Nat} (ha : a < 2 ^ 64) (hb : b < 2 ^ 64) : lN a ||| lN b = lN (a ||| b) := by
  apply wb_inj
  rw [Int64.toBitVec_or, wb_tb, wb_tb, wb_tb]
  apply BitVec.eq_of_toNat_eq
  rw [BitVec.toNat_or, BitVec.toNat_ofNat, BitVec.toNat_ofNat, BitVec.toNat_ofNat, Nat.mod_eq_of_lt ha, Nat.mod_eq_of_lt hb, Nat.mod_eq_of_lt (Nat.or_lt_two_pow ha hb)]
theorem wb_mask {n k : Nat} (hn : n < 2 ^ 64) (hk : k < 64) : lN n &&& lN (2 ^ k - 1) = lN (n % 2 ^ k) := by
  rw [wb_and hn (by have := wb_lt2 hk; omega), Nat.and_two_pow_sub_one_eq_mod]
theorem wb_a1 {n : Nat} (hn : n < 2 ^ 64) : lN n &&& 1 = lN (n % 2) := wb_mask (k := 1) hn (by decide)
theorem wb_bit {n k : Nat} (hn : n < 2 ^ 64) (hk : k < 64) : ((lN n).toUInt64 >>> ((nI k).toInt64.toUInt64 &&& Int64.toUInt64 63)).toInt64 &&& 1 = lN (n / 2 ^ k % 2) := by
  rw [wb_shr hn hk, wb_a1 (Nat.lt_of_le_of_lt (Nat.div_le_self _ _) hn)]
theorem wb_xor {q k : Nat} (hk : k < 63) (h : 2 ^ k ≤ q) (h2 : q < 2 ^ (k + 1)) : lN q ^^^ lN (2 ^ k) = lN (q - 2 ^ k) := by
  obtain ⟨r, rfl⟩ : ∃ r, q = 2 ^ k + r := ⟨q - 2 ^ k, by omega⟩
  have hr : r < 2 ^ k := by rw [Nat.pow_succ] at h2; omega
  have hx : (2 ^ k + r) ^^^ 2 ^ k = r := by
    apply Nat.eq_of_testBit_eq
    intro i
    rw [Nat.testBit_xor, Nat.testBit_two_pow]
    rcases Nat.lt_trichotomy i k with h | h | h
    · rw [Nat.testBit_two_pow_add_gt h]
      simp [show ¬ k = i by omega]
    · subst h
      rw [Nat.testBit_two_pow_add_eq]
      simp
    · have a1 : 2 ^ (k + 1) ≤ 2 ^ i := Nat.pow_le_pow_right (by decide) h
      rw [Nat.testBit_lt_two_pow (show 2 ^ k + r < 2 ^ i by omega), Nat.testBit_lt_two_pow (show r < 2 ^ i by omega)]
      simp [show ¬ k = i by omega]
  have b1 := wb_lt2 (show k + 1 < 64 by omega)
  have b2 := wb_lt2 (show k < 64 by omega)
  apply wb_inj
  rw [Int64.toBitVec_xor, wb_tb, wb_tb, wb_tb]
  apply BitVec.eq_of_toNat_eq
  rw [BitVec.toNat_xor, BitVec.toNat_ofNat, BitVec.toNat_ofNat, BitVec.toNat_ofNat, Nat.mod_eq_of_lt (by omega : 2 ^ k + r < 2 ^ 64), Nat.mod_eq_of_lt b2, hx, Nat.add_sub_cancel_left, Nat.mod_eq_of_lt (by omega)]
/-! ===== lN: masks, 'or' of parts that don't overlap is a sum ===== -/
theorem u_tn {n : Nat} (h : n < 2 ^ 64) : (UInt64.ofNat n).toNat = n := Nat.mod_eq_of_lt h
theorem g_and {a b c : Nat} (ha : a < 2 ^ 64) (hb : b < 2 ^ 64) (hc : a &&& b = c) : lN a &&& lN b = lN c := by
  subst hc
  have h : UInt64.ofNat a &&& UInt64.ofNat b = UInt64.ofNat (a &&& b) := UInt64.toNat_inj.mp (by rw [UInt64.toNat_and, u_tn ha, u_tn hb, u_tn (Nat.and_lt_two_pow a hb)])
  have h2 := congrArg UInt64.toInt64 h
  exact h2
theorem g_and1 {a : Nat} (ha : a < 2 ^ 64) : lN a &&& 1 = lN (a % 2) := g_and (b := 1) ha (by decide) (Nat.and_two_pow_sub_one_eq_mod a 1)
theorem g_mask {a s p : Nat} (hp : 2 ^ s = p) (hs : s < 64) (ha : a < 2 ^ 64) : lN a &&& lN (p - 1) = lN (a % p) := by
  subst hp
  have := Nat.pow_lt_pow_right (show 1 < 2 by decide) hs
  exact g_and ha (by omega) (Nat.and_two_pow_sub_one_eq_mod a s)
theorem g_or {k p a b : Nat} (hp : 2 ^ k = p) (ha : a < p) (h : b * p + a < 2 ^ 64) : lN (b * p) ||| lN a = lN (b * p + a) := by
  subst hp
  have h1 : b * 2 ^ k ||| a = b * 2 ^ k + a := by rw [← Nat.shiftLeft_eq, Nat.shiftLeft_add_eq_or_of_lt ha]
  have h3 : UInt64.ofNat (b * 2 ^ k) ||| UInt64.ofNat a = UInt64.ofNat (b * 2 ^ k + a) := UInt64.toNat_inj.mp (by rw [UInt64.toNat_or, u_tn (by omega), u_tn (by omega), u_tn h, h1])
  have h2 := congrArg UInt64.toInt64 h3
  exact h2
theorem g_or' {k p a b : Nat} (hp : 2 ^ k = p) (ha : a < p) (h : a + b * p < 2 ^ 64) : lN a ||| lN (b * p) = lN (a + b * p) := by
  rw [Int64.or_comm, g_or hp ha (by omega), Nat.add_comm]
theorem g_ushr {a k p : Nat} {y : UInt64} (hy : y = UInt64.ofNat k) (hk : k < 64) (hp : 2 ^ k = p) (ha : a < 2 ^ 64) : ((lN a).toUInt64 >>> y).toInt64 = lN (a / p) := by
  subst hy hp
  have h : UInt64.ofNat a >>> UInt64.ofNat k = UInt64.ofNat (a / 2 ^ k) := UInt64.toNat_inj.mp (by rw [UInt64.toNat_shiftRight, u_tn ha, u_tn (by omega), u_tn (Nat.lt_of_le_of_lt (Nat.div_le_self _ _) ha), Nat.mod_eq_of_lt hk, Nat.shiftRight_eq_div_pow])
  have h2 := congrArg UInt64.toInt64 h
  exact h2
theorem g_shl {a k p : Nat} {y : Int64} (hy : y.toBitVec.smod 64 = BitVec.ofNat 64 k) (hk : k < 64) (hp : 2 ^ k = p) (ha : a < 2 ^ 64) : lN a <<< y = lN (a * p) := by
  subst hp
  apply Int64.toBitVec_inj.mp
  rw [Int64.toBitVec_shiftLeft, hy]
  apply BitVec.eq_of_toNat_eq
  have hb : (lN a).toBitVec.toNat = a := Nat.mod_eq_of_lt ha
  have hk' : (BitVec.ofNat 64 k).toNat = k := Nat.mod_eq_of_lt (by omega)
  have h : ((lN a).toBitVec <<< BitVec.ofNat 64 k).toNat = (a * 2 ^ k) % 2 ^ 64 := by simp only [BitVec.shiftLeft_eq', BitVec.toNat_shiftLeft, hb, hk', Nat.shiftLeft_eq]
  exact h
/-! ===== lN to 2^62 under >> and >>> ===== -/
theorem pf_lI {a : Nat} (h : a < 2 ^ 63) : (lN a).toInt = (a : Int) := lg_ofNat_toInt h
theorem pf_shr {a d : Nat} {D : Int64} (hD : (D.toBitVec.smod 64).toNat = d) (h : a < 2 ^ 62) : lN a >>> D = lN (a / 2 ^ d) := by
  have hd : a / 2 ^ d ≤ a := Nat.div_le_self _ _
  apply Int64.toInt_inj.mp
  have e : (lN a >>> D).toInt = (lN a).toInt >>> d := by
    rw [← hD]
    exact BitVec.toInt_sshiftRight ..
  rw [e, Int.shiftRight_eq_div_pow, pf_lI (by omega), pf_lI (by omega)]
  rfl
theorem pf_ushr {a d : Nat} {D : UInt64} (hD : D.toNat % 64 = d) (h : a < 2 ^ 62) : ((lN a).toUInt64 >>> D).toInt64 = lN (a / 2 ^ d) := by
  have hd : a / 2 ^ d ≤ a := Nat.div_le_self _ _
  have e : (lN a).toUInt64 >>> D = UInt64.ofNat (a / 2 ^ d) := UInt64.toNat_inj.mp (by
    rw [UInt64.toNat_shiftRight, hD, Nat.shiftRight_eq_div_pow, UInt64.toNat_ofNat']
    show (UInt64.ofNat a).toNat / 2 ^ d = _
    rw [UInt64.toNat_ofNat', Nat.mod_eq_of_lt (by omega), Nat.mod_eq_of_lt (by omega)])
  rw [e]
  rfl
theorem pf_andw (x : Int64) : ∃ m, m < 2 ^ 32 ∧ x &&& 4294967295 = lN m := ⟨x.toBitVec.toNat % 2 ^ 32, Nat.mod_lt _ (by decide), Int64.toBitVec_inj.mp (BitVec.eq_of_toNat_eq (by
  show (x.toBitVec &&& 4294967295#64).toNat = (BitVec.ofNat 64 (x.toBitVec.toNat % 2 ^ 32)).toNat
  rw [BitVec.toNat_and, show (4294967295#64).toNat = 2 ^ 32 - 1 from by decide, Nat.and_two_pow_sub_one_eq_mod, BitVec.toNat_ofNat]
  omega))⟩
/-! ===== Int64 as an unsigned number: uN x ===== -/
def uN (x : Int64) : Nat := x.toUInt64.toNat
theorem uN_lt (x : Int64) : uN x < 18446744073709551616 := x.toUInt64.toNat_lt
theorem uN_inj {x y : Int64} (h : uN x = uN y) : x = y := congrArg UInt64.toInt64 (UInt64.toNat_inj.mp h)
theorem uN_add (x y : Int64) : uN (x + y) = (uN x + uN y) % 18446744073709551616 := by
  show (x.toUInt64 + y.toUInt64).toNat = _
  exact UInt64.toNat_add _ _
theorem uN_mul (x y : Int64) : uN (x * y) = (uN x * uN y) % 18446744073709551616 := by
  show (x.toUInt64 * y.toUInt64).toNat = _
  exact UInt64.toNat_mul _ _
theorem uN_shl (x : Int64) : uN (x <<< ((1 : Int32).toInt64 &&& 63)) = (2 * uN x) % 18446744073709551616 := by
  have h : (((1 : Int32).toInt64 &&& 63).toBitVec.smod 64).toNat = 1 := by decide
  show (x.toBitVec <<< (((1 : Int32).toInt64 &&& 63).toBitVec.smod 64).toNat).toNat = _
  rw [h, BitVec.toNat_shiftLeft, Nat.shiftLeft_eq, Nat.mul_comm]
  rfl
theorem uN_shr (x : Int64) (s : UInt64) : uN (x.toUInt64 >>> s).toInt64 = uN x / 2 ^ (s.toNat % 64) := by
  show (x.toUInt64 >>> s).toNat = _
  rw [UInt64.toNat_shiftRight, Nat.shiftRight_eq_div_pow]
  rfl
theorem uN_s32 (x : Int64) : uN (x.toUInt64 >>> ((32 : Int32).toInt64.toUInt64 &&& Int64.toUInt64 63)).toInt64 = uN x / 4294967296 := by
  have h : ((32 : Int32).toInt64.toUInt64 &&& Int64.toUInt64 63).toNat % 64 = 32 := by decide
  rw [uN_shr, h]
theorem uN_s63 (x : Int64) : uN (x.toUInt64 >>> ((63 : Int32).toInt64.toUInt64 &&& Int64.toUInt64 63)).toInt64 = uN x / 9223372036854775808 := by
  have h : ((63 : Int32).toInt64.toUInt64 &&& Int64.toUInt64 63).toNat % 64 = 63 := by decide
  rw [uN_shr, h]
theorem uN_lo (x : Int64) : uN (x &&& 4294967295) = uN x % 4294967296 := by
  show (x.toUInt64 &&& Int64.toUInt64 4294967295).toNat = _
  rw [UInt64.toNat_and]
  exact Nat.and_two_pow_sub_one_eq_mod _ 32
theorem uN_bit (x : Int64) : (x &&& 1) = 0 ↔ uN x % 2 = 0 := by
  have h : uN (x &&& 1) = uN x % 2 := by
    show (x.toUInt64 &&& Int64.toUInt64 1).toNat = _
    rw [UInt64.toNat_and]
    exact Nat.and_two_pow_sub_one_eq_mod _ 1
  rw [← h]
  exact ⟨fun z => by rw [z]; rfl, fun z => uN_inj (z.trans rfl)⟩
theorem uN_or {x y : Int64} (hy : uN y < 2) : uN ((x <<< ((1 : Int32).toInt64 &&& 63)) ||| y) = (2 * uN x) % 18446744073709551616 + uN y := by
  have h1 : uN ((x <<< ((1 : Int32).toInt64 &&& 63)) ||| y) = uN (x <<< ((1 : Int32).toInt64 &&& 63)) ||| uN y := UInt64.toNat_or _ _
  have h2 : (2 * uN x) % 18446744073709551616 = 2 ^ 1 * (uN x % 9223372036854775808) := by omega
  rw [h1, uN_shl, h2]
  exact (Nat.two_pow_add_eq_or_of_lt (i := 1) hy _).symm
theorem nat_xor {a : Nat} (h : a < 18446744073709551616) : a ^^^ 2 ^ 63 = (a + 9223372036854775808) % 18446744073709551616 := by
  have h1 : (a ^^^ 2 ^ 63) % 2 ^ 63 = a % 2 ^ 63 := by rw [Nat.xor_mod_two_pow, Nat.mod_self, Nat.xor_zero]
  have h2 : (a ^^^ 2 ^ 63) / 2 ^ 63 = (a / 2 ^ 63) ^^^ 1 := by rw [Nat.xor_div_two_pow, Nat.div_self (Nat.two_pow_pos 63)]
  have h3 : a / 2 ^ 63 = 0 ∨ a / 2 ^ 63 = 1 := by omega
  generalize a ^^^ 2 ^ 63 = t at h1 h2
  rcases h3 with h3 | h3
  · rw [h3] at h2
    have h2 : t / 2 ^ 63 = 1 := h2
    omega
  · rw [h3] at h2
    have h2 : t / 2 ^ 63 = 0 := h2
    omega
theorem uN_xor (x : Int64) : uN (x ^^^ (-9223372036854775808)) = (uN x + 9223372036854775808) % 18446744073709551616 := by
  rw [← nat_xor (uN_lt x)]
  exact UInt64.toNat_xor _ _
theorem uN_int (x : Int64) : x.toInt = if 2 * uN x < 18446744073709551616 then (uN x : Int) else (uN x : Int) - 18446744073709551616 := BitVec.toInt_eq_toNat_cond _
theorem uN_le (x y : Int64) : (x ^^^ (-9223372036854775808)) ≤ (y ^^^ (-9223372036854775808)) ↔ uN x ≤ uN y := by
  have hx := uN_lt x
  have hy := uN_lt y
  rw [Int64.le_iff_toInt_le, uN_int, uN_int, uN_xor, uN_xor]
  omega
theorem uN_sk (x : Int64) {k : Nat} (hk : k < 64) : uN (x.toUInt64 >>> ((nI k).toInt64.toUInt64 &&& Int64.toUInt64 63)).toInt64 = uN x / 2 ^ k := by
  have h : ((nI k).toInt64.toUInt64 &&& Int64.toUInt64 63).toNat % 64 = k := by
    rw [nI_l (by omega), UInt64.toNat_and]
    have e : (lN k).toUInt64.toNat = k % 2 ^ 64 := rfl
    have e2 : (Int64.toUInt64 63).toNat = 2 ^ 6 - 1 := by decide
    rw [e, e2, Nat.and_two_pow_sub_one_eq_mod]
    omega
  rw [uN_shr, h]
/-! ===== unsigned comparison by xor with the least ===== -/
theorem lN_bv (n : Nat) : (lN n).toBitVec = BitVec.ofNat 64 n := rfl
theorem lN_nat {n : Nat} (h : n < 2 ^ 64) : (lN n).toBitVec.toNat = n := by rw [lN_bv, BitVec.toNat_ofNat]; exact Nat.mod_eq_of_lt h
theorem lN_xor (a b : Nat) : lN a ^^^ lN b = lN (a ^^^ b) := by
  apply Int64.toBitVec_inj.mp; rw [Int64.toBitVec_xor, lN_bv, lN_bv, lN_bv]; apply BitVec.eq_of_getLsbD_eq; intro i hi; simp [BitVec.getLsbD_ofNat, Nat.testBit_xor, hi]
theorem lN_ti {m : Nat} (h : m < 2 ^ 64) : (lN m).toInt = if m < 2 ^ 63 then (m : Int) else (m : Int) - 2 ^ 64 := by
  have c := BitVec.toInt_eq_toNat_cond (lN m).toBitVec
  rw [lN_nat h] at c
  show (lN m).toBitVec.toInt = _
  rw [c]
  split <;> split <;> omega
theorem xor63 {x : Nat} (h : x < 2 ^ 63) : x ^^^ 2 ^ 63 = 2 ^ 63 + x := by
  apply Nat.eq_of_testBit_eq
  intro i
  rw [Nat.testBit_xor, Nat.testBit_two_pow]
  rcases Nat.lt_trichotomy i 63 with z | z | z
  · rw [Nat.testBit_two_pow_add_gt z, decide_eq_false (by omega)]; simp
  · subst z; rw [Nat.testBit_two_pow_add_eq]; simp
  · have hp : 2 ^ 64 ≤ 2 ^ i := Nat.pow_le_pow_right (by decide) z
    rw [Nat.testBit_lt_two_pow (show x < 2 ^ i by omega), Nat.testBit_lt_two_pow (show 2 ^ 63 + x < 2 ^ i by omega), decide_eq_false (by omega)]; rfl
theorem xorS {a : Nat} (h : a < 2 ^ 64) : (lN a ^^^ (-9223372036854775808)).toInt = (a : Int) - 2 ^ 63 := by
  rw [show (-9223372036854775808 : Int64) = lN (2 ^ 63) from by decide +kernel, lN_xor]
  rcases Nat.lt_or_ge a (2 ^ 63) with z | z
  · rw [xor63 z, lN_ti (by omega), if_neg (by omega)]; omega
  · obtain ⟨x, rfl⟩ : ∃ x, a = 2 ^ 63 + x := ⟨a - 2 ^ 63, by omega⟩
    rw [← xor63 (by omega), Nat.xor_assoc, Nat.xor_self, Nat.xor_zero, lN_ti (by omega), if_pos (by omega), xor63 (by omega)]; omega
theorem ultL {a b : Nat} (ha : a < 2 ^ 64) (hb : b < 2 ^ 64) : ((lN b ^^^ (-9223372036854775808)) ≤ (lN a ^^^ (-9223372036854775808))) ↔ b ≤ a := by
  rw [Int64.le_iff_toInt_le, xorS ha, xorS hb]; omega
/-! ===== Int64 masks of n low bits ===== -/
theorem cr_bits (W U M : BitVec 64) : ((W &&& U) &&& (U &&& (M ^^^ BitVec.allOnes 64))) = 0#64 ↔ (W &&& U) &&& M = W &&& U := by
  constructor
  · intro h
    apply BitVec.eq_of_getLsbD_eq
    intro i hi
    have e := congrArg (fun x => BitVec.getLsbD x i) h
    simp only [BitVec.getLsbD_and, BitVec.getLsbD_xor, BitVec.getLsbD_allOnes, BitVec.getLsbD_zero, hi, decide_true] at e ⊢
    revert e
    cases W.getLsbD i <;> cases U.getLsbD i <;> cases M.getLsbD i <;> decide
  · intro h
    apply BitVec.eq_of_getLsbD_eq
    intro i hi
    have e := congrArg (fun x => BitVec.getLsbD x i) h
    simp only [BitVec.getLsbD_and, BitVec.getLsbD_xor, BitVec.getLsbD_allOnes, BitVec.getLsbD_zero, hi, decide_true] at e ⊢
    revert e
    cases W.getLsbD i <;> cases U.getLsbD i <;> cases M.getLsbD i <;> decide
theorem cr_mask (w U m : Int64) (n : Nat) (hm : m.toBitVec.toNat = 2 ^ n - 1) : ((w &&& U) &&& (U &&& (m ^^^ (-1)))) = 0 ↔ (w &&& U).toBitVec.toNat < 2 ^ n := by
  have e0 : (-1 : Int64).toBitVec = BitVec.allOnes 64 := by decide
  have z0 : (0 : Int64).toBitVec = 0#64 := by decide
  rw [← Int64.toBitVec_inj, z0, Int64.toBitVec_and, Int64.toBitVec_and, Int64.toBitVec_and, Int64.toBitVec_xor, e0, cr_bits]
  generalize w.toBitVec &&& U.toBitVec = T
  rw [← BitVec.toNat_inj, BitVec.toNat_and, hm, Nat.and_two_pow_sub_one_eq_mod]
  constructor
  · intro h
    have t := Nat.mod_lt T.toNat (Nat.two_pow_pos n)
    rw [h] at t
    exact t
  · exact Nat.mod_eq_of_lt
theorem cr_shr (t : Int64) (x : UInt64) (n : Nat) (hx : x.toNat % 64 = n) : (t.toUInt64 >>> x).toInt64 = 0 ↔ t.toBitVec.toNat < 2 ^ n := by
  rw [← Int64.toBitVec_inj, ← BitVec.toNat_inj]
  show (t.toUInt64 >>> x).toNat = 0 ↔ t.toUInt64.toNat < 2 ^ n
  rw [UInt64.toNat_shiftRight, hx, Nat.shiftRight_eq_div_pow]
  constructor
  · intro h
    have d : t.toUInt64.toNat / 2 ^ n < 1 := by
      rw [h]
      decide
    have e := (Nat.div_lt_iff_lt_mul (Nat.two_pow_pos n)).mp d
    rw [Nat.one_mul] at e
    exact e
  · exact Nat.div_eq_of_lt
theorem cr_amt (s : Int64) : ∃ n, n < 64 ∧ s &&& 63 = lN n ∧ (s.toUInt64 &&& Int64.toUInt64 63).toNat % 64 = n := by
  have e : (s.toUInt64 &&& Int64.toUInt64 63).toNat = s.toUInt64.toNat % 2 ^ 6 := by
    rw [UInt64.toNat_and, show (Int64.toUInt64 63).toNat = 2 ^ 6 - 1 from by decide, Nat.and_two_pow_sub_one_eq_mod]
  refine ⟨s.toUInt64.toNat % 2 ^ 6, by omega, ?_, by omega⟩
  rw [← Int64.toBitVec_inj, ← BitVec.toNat_inj]
  show (s.toUInt64 &&& Int64.toUInt64 63).toNat = (BitVec.ofNat 64 (s.toUInt64.toNat % 2 ^ 6)).toNat
  rw [e, BitVec.toNat_ofNat]
  omega
end
section
/-! Sets of states in rows of words: bit x of set a. -/
def ss_b (f : Nat → Int64) (a x : Nat) : Bool := (f (a * 4 + x / 64)).toBitVec.getLsbD (x % 64)
theorem ss_ix (a : Nat) {x : Nat} (hx : x < 256) : nI a * 4 + (nI x >>> ((6 : Int32) &&& 31)) = nI (a * 4 + x / 64) := by
  rw [show (4 : Int32) = nI 4 from rfl, pk_mul, pk_shrN (by omega) _ 6 (by decide), nI_add]
theorem ss_lo {x : Nat} (hx : x < 256) : nI x &&& 63 = nI (x % 64) := pk_andN (by omega) 6 (by decide)
theorem ss_in {a x N : Nat} (hx : x < 256) (ha : a * 4 + 3 < N) (hN : N < 2 ^ 20) : vp_in (nI a * 4 + (nI x >>> ((6 : Int32) &&& 31))) N := by
  rw [ss_ix a hx]
  exact vp_in_nI (by omega) (by omega)
theorem ss_cl {a x N : Nat} (hx : x < 256) (ha : a * 4 + 3 < N) (hN : N < 2 ^ 20) : (nI a * 4 + (nI x >>> ((6 : Int32) &&& 31))).toNatClampNeg = a * 4 + x / 64 := by
  rw [ss_ix a hx]
  exact nI_clamp (by omega)
theorem ss_cmp (x y : Int64) : lg_cmp x y = 0 ↔ x = y := by
  unfold lg_cmp
  constructor
  · intro h
    split at h
    · exact absurd h (by decide)
    · split at h
      · assumption
      · exact absurd h (by decide)
  · intro h
    subst h
    have h1 : ¬ x > x := Int64.lt_irrefl
    simp [h1]
theorem ss_sh {k : Nat} (hk : k < 64) : ((nI k).toInt64.toUInt64 &&& Int64.toUInt64 63).toNat = k := by
  rw [wb_cu k hk]
  exact u_tn (by omega)
/-- one bit, as 'has' reads it -/
theorem ss_bit (w : Int64) {x : Nat} (hx : x < 256) : ((w.toUInt64 >>> ((nI x &&& 63).toInt64.toUInt64 &&& Int64.toUInt64 63)).toInt64 &&& 1) = 0 ↔ w.toBitVec.getLsbD (x % 64) = false := by
  rw [ss_lo hx]
  exact ts_bit (by omega) (ss_sh (by omega))
theorem ss_one {x : Nat} (hx : x < 256) : (1 : Int64) <<< ((nI x &&& 63).toInt64 &&& 63) = lN (2 ^ (x % 64)) := by
  rw [ss_lo hx, show (1 : Int64) = lN 1 from rfl, wb_shl 1 (by omega), Nat.one_mul]
theorem ss_pw {k j : Nat} (hk : k < 64) (hj : j < 64) : (lN (2 ^ k)).toBitVec.getLsbD j = decide (j = k) := by
  rw [wb_tb, BitVec.getLsbD_ofNat, Nat.testBit_two_pow]
  simp [hj, eq_comm]
theorem ss_or (w v : Int64) (j : Nat) : (w ||| v).toBitVec.getLsbD j = (w.toBitVec.getLsbD j || v.toBitVec.getLsbD j) := by
  rw [Int64.toBitVec_or, BitVec.getLsbD_or]
theorem ss_and (w v : Int64) (j : Nat) : (w &&& v).toBitVec.getLsbD j = (w.toBitVec.getLsbD j && v.toBitVec.getLsbD j) := by
  rw [Int64.toBitVec_and, BitVec.getLsbD_and]
theorem ss_xor (w v : Int64) (j : Nat) : (w ^^^ v).toBitVec.getLsbD j = (w.toBitVec.getLsbD j ^^ v.toBitVec.getLsbD j) := by
  rw [Int64.toBitVec_xor, BitVec.getLsbD_xor]
theorem ss_m1 {j : Nat} (hj : j < 64) : (-1 : Int64).toBitVec.getLsbD j = true := by
  have h : ∀ j, j < 64 → (-1 : Int64).toBitVec.getLsbD j = true := by decide +kernel
  exact h j hj
theorem ss_0 (j : Nat) : (0 : Int64).toBitVec.getLsbD j = false := BitVec.getLsbD_zero
/-- bit x of set a set, dropped, taken -/
def ss_put (f : Nat → Int64) (a x : Nat) : Nat → Int64 := vp_updL f (a * 4 + x / 64) (f (a * 4 + x / 64) ||| lN (2 ^ (x % 64)))
def ss_drop (f : Nat → Int64) (a x : Nat) : Nat → Int64 := vp_updL f (a * 4 + x / 64) (f (a * 4 + x / 64) &&& (lN (2 ^ (x % 64)) ^^^ (-1)))
theorem ss_put_b (f : Nat → Int64) (a x c z : Nat) (hz : z < 256) (hx : x < 256) : ss_b (ss_put f a x) c z = (ss_b f c z || (decide (c = a) && decide (z = x))) := by
  unfold ss_b ss_put
  by_cases e : c * 4 + z / 64 = a * 4 + x / 64
  · rw [e, pk_uLs, ss_or, ss_pw (by omega) (by omega)]
    congr 1
    by_cases e2 : z % 64 = x % 64
    · have h1 : c = a := by omega
      have h2 : z = x := by omega
      simp [e2, h1, h2]
    · have h2 : z ≠ x := fun h => e2 (by rw [h])
      simp [e2, h2]
  · rw [pk_uLn e]
    have h2 : ¬ (c = a ∧ z = x) := fun h => e (by rw [h.1, h.2])
    by_cases h3 : c = a
    · have h4 : z ≠ x := fun h => h2 ⟨h3, h⟩
      simp [h4]
    · simp [h3]
theorem ss_drop_b (f : Nat → Int64) (a x c z : Nat) (hz : z < 256) (hx : x < 256) : ss_b (ss_drop f a x) c z = (ss_b f c z && !(decide (c = a) && decide (z = x))) := by
  unfold ss_b ss_drop
  by_cases e : c * 4 + z / 64 = a * 4 + x / 64
  · rw [e, pk_uLs, ss_and, ss_xor, ss_pw (by omega) (by omega), ss_m1 (by omega)]
    congr 1
    by_cases e2 : z % 64 = x % 64
    · have h1 : c = a := by omega
      have h2 : z = x := by omega
      simp [e2, h1, h2]
    · have h2 : z ≠ x := fun h => e2 (by rw [h])
      simp [e2, h2]
  · rw [pk_uLn e]
    have h2 : ¬ (c = a ∧ z = x) := fun h => e (by rw [h.1, h.2])
    by_cases h3 : c = a
    · have h4 : z ≠ x := fun h => h2 ⟨h3, h⟩
      simp [h4]
    · simp [h3]
/-- the lowest bit of a word that isn't 0 -/
theorem ss_low {w : Int64} (h : w ≠ 0) : ∃ k, k < 64 ∧ w.toBitVec.getLsbD k = true ∧ (∀ j, j < k → w.toBitVec.getLsbD j = false) ∧ (w &&& -w) = lN (2 ^ k) := by
  have h0 : ∃ k, w.toBitVec.getLsbD k = true := by
    refine Classical.byContradiction (fun hn => h ?_)
    refine wb_inj (BitVec.eq_of_getLsbD_eq (fun i hi => ?_))
    rw [ss_0]
    cases hb : w.toBitVec.getLsbD i with
    | false => rfl
    | true => exact absurd ⟨i, hb⟩ hn
  obtain ⟨k, hk, hmin⟩ := pk_least _ h0
  have hk64 : k < 64 := by
    refine Classical.byContradiction (fun hn => ?_)
    rw [BitVec.getLsbD_of_ge _ _ (by omega)] at hk
    cases hk
  have hlo : ∀ j, j < k → w.toBitVec.getLsbD j = false := fun j hj => by
    cases hb : w.toBitVec.getLsbD j with
    | false => rfl
    | true => exact absurd hb (hmin j hj)
  refine ⟨k, hk64, hk, hlo, ?_⟩
  refine wb_inj (BitVec.eq_of_getLsbD_eq (fun i hi => ?_))
  rw [ss_and, ss_pw hk64 hi, Int64.toBitVec_neg, BitVec.getLsbD_neg]
  by_cases e : i = k
  · subst e
    have hno : ¬ ∃ j, j < i ∧ w.toBitVec.getLsbD j = true := by
      rintro ⟨j, hj, hb⟩
      rw [hlo j hj] at hb
      cases hb
    simp [hk, hno]
  · by_cases hlt : i < k
    · simp [hlo i hlt, e]
    · have hex : ∃ j, j < i ∧ w.toBitVec.getLsbD j = true := ⟨k, by omega, hk⟩
      simp [hex, e, hi]
end
section
/-! How many bits a word has: Long.bitCount's sums, byte by byte. -/
theorem pb_hi (d m j : Nat) (hd : d < 256) : (d + 256 * m).testBit j = if j < 8 then d.testBit j else m.testBit (j - 8) := by
  have h := Nat.testBit_two_pow_mul_add m (b := d) (i := 8) hd j
  rw [← h]
  congr 1
  omega
theorem pb_and (d m c M : Nat) (hd : d < 256) (hc : c < 256) : (d + 256 * m) &&& (c + 256 * M) = (d &&& c) + 256 * (m &&& M) := by
  have h1 : d &&& c < 256 := Nat.lt_of_le_of_lt Nat.and_le_left hd
  apply Nat.eq_of_testBit_eq
  intro j
  rw [Nat.testBit_and, pb_hi d m j hd, pb_hi c M j hc, pb_hi _ _ j h1]
  split
  · rw [Nat.testBit_and]
  · rw [Nat.testBit_and]
theorem pb_top {x r c s : Nat} (hs : s ≤ 8) (hx : x < 2 ^ (8 - s)) (hc : c < 2 ^ (8 - s)) : (x + 2 ^ (8 - s) * r) &&& c = x &&& c := by
  apply Nat.eq_of_testBit_eq
  intro j
  rw [Nat.testBit_and, Nat.testBit_and]
  have h := Nat.testBit_two_pow_mul_add r (b := x) (i := 8 - s) hx j
  rw [Nat.add_comm, h]
  split
  · rfl
  · rename_i hj
    have hcj : c.testBit j = false := Nat.testBit_lt_two_pow (Nat.lt_of_lt_of_le hc (Nat.pow_le_pow_right (by omega) (by omega)))
    rw [hcj, Bool.and_false, Bool.and_false]
def pb_rep (c : Nat) : Nat → Nat
  | 0 => 0
  | k + 1 => c + 256 * pb_rep c k
def pb_map (u : Nat → Nat) : Nat → Nat → Nat
  | 0, _ => 0
  | k + 1, n => u (n % 256) + 256 * pb_map u k (n / 256)
theorem pb_id : ∀ (k n : Nat), n < 256 ^ k → pb_map (fun d => d) k n = n
  | 0, n, h => by
    have : n = 0 := by simpa using h
    rw [this]
    rfl
  | k + 1, n, h => by
    have h1 : n / 256 < 256 ^ k := by
      rw [Nat.pow_succ] at h
      exact Nat.div_lt_of_lt_mul (by rw [Nat.mul_comm]; exact h)
    simp only [pb_map, pb_id k (n / 256) h1]
    omega
theorem pb_add (u v : Nat → Nat) : ∀ (k n : Nat), pb_map u k n + pb_map v k n = pb_map (fun d => u d + v d) k n
  | 0, n => rfl
  | k + 1, n => by
    simp only [pb_map, ← pb_add u v k (n / 256)]
    omega
theorem pb_sub (u v : Nat → Nat) (h : ∀ d, d < 256 → v d ≤ u d) : ∀ (k n : Nat), pb_map v k n ≤ pb_map u k n ∧ pb_map u k n - pb_map v k n = pb_map (fun d => u d - v d) k n
  | 0, n => ⟨Nat.le_refl _, rfl⟩
  | k + 1, n => by
    obtain ⟨h1, h2⟩ := pb_sub u v h k (n / 256)
    have h3 := h (n % 256) (by omega)
    simp only [pb_map, ← h2]
    omega
theorem pb_mask (u : Nat → Nat) (hu : ∀ d, d < 256 → u d < 256) (s c : Nat) (hs : s ≤ 8) (hc : c < 2 ^ (8 - s)) : ∀ (k n : Nat), (pb_map u k n / 2 ^ s) &&& pb_rep c k = pb_map (fun d => (u d / 2 ^ s) &&& c) k n
  | 0, n => by simp [pb_map, pb_rep]
  | k + 1, n => by
    have ih := pb_mask u hu s c hs hc k (n / 256)
    have hd : u (n % 256) < 256 := hu _ (by omega)
    simp only [pb_map, pb_rep]
    generalize u (n % 256) = x at hd
    generalize pb_map u k (n / 256) = r at ih ⊢
    rw [← ih]
    have hp : 2 ^ s * 2 ^ (8 - s) = 256 := by
      rw [← Nat.pow_add]
      have : s + (8 - s) = 8 := by omega
      rw [this]
    have hpos : 0 < 2 ^ s := Nat.two_pow_pos s
    have hc256 : c < 256 := by
      refine Nat.lt_of_lt_of_le hc ?_
      rw [← hp]
      exact Nat.le_mul_of_pos_left _ hpos
    have hdiv : (x + 256 * r) / 2 ^ s = x / 2 ^ s + 2 ^ (8 - s) * r := by
      rw [← hp, Nat.mul_assoc, Nat.add_mul_div_left _ _ hpos]
    have hxs : x / 2 ^ s < 2 ^ (8 - s) := Nat.div_lt_of_lt_mul (by rw [hp]; exact hd)
    have hrs : 2 ^ (8 - s) * r = 2 ^ (8 - s) * (r % 2 ^ s) + 256 * (r / 2 ^ s) := by
      have h9 := Nat.mod_add_div r (2 ^ s)
      calc 2 ^ (8 - s) * r = 2 ^ (8 - s) * (r % 2 ^ s + 2 ^ s * (r / 2 ^ s)) := by rw [h9]
        _ = 2 ^ (8 - s) * (r % 2 ^ s) + (2 ^ s * 2 ^ (8 - s)) * (r / 2 ^ s) := by rw [Nat.mul_add, ← Nat.mul_assoc, Nat.mul_comm (2 ^ (8 - s)) (2 ^ s)]
        _ = _ := by rw [hp]
    have hlow : x / 2 ^ s + 2 ^ (8 - s) * (r % 2 ^ s) < 256 := by
      have h1 : r % 2 ^ s + 1 ≤ 2 ^ s := Nat.mod_lt _ hpos
      have h2 : 2 ^ (8 - s) * (r % 2 ^ s + 1) ≤ 2 ^ (8 - s) * 2 ^ s := Nat.mul_le_mul_left _ h1
      rw [Nat.mul_comm (2 ^ (8 - s)) (2 ^ s), hp, Nat.mul_add, Nat.mul_one] at h2
      omega
    rw [hdiv, hrs, ← Nat.add_assoc, pb_and _ _ _ _ hlow hc256, pb_top hs hxs hc]
theorem pb_nib (u : Nat → Nat) (hu : ∀ d, d < 256 → u d % 16 ≤ 4 ∧ u d / 16 ≤ 4) : ∀ (k n : Nat), pb_map u k n % 16 ≤ 4 ∧ (pb_map u k n + pb_map u k n / 16) &&& pb_rep 15 k = pb_map (fun d => u d % 16 + u d / 16) k n
  | 0, n => by simp [pb_map, pb_rep]
  | k + 1, n => by
    obtain ⟨i1, i2⟩ := pb_nib u hu k (n / 256)
    obtain ⟨h1, h2⟩ := hu (n % 256) (by omega)
    simp only [pb_map, pb_rep]
    generalize u (n % 256) = x at h1 h2 ⊢
    generalize pb_map u k (n / 256) = r at i1 i2 ⊢
    refine ⟨by omega, ?_⟩
    rw [← i2]
    have e1 : x + 256 * r + (x + 256 * r) / 16 = (x + x / 16 + 16 * (r % 16)) + 256 * (r + r / 16) := by omega
    rw [e1, pb_and _ _ _ _ (by omega) (by decide)]
    have e2 : (x + x / 16 + 16 * (r % 16)) &&& 15 = (x + x / 16 + 16 * (r % 16)) % 16 := by
      have h := Nat.and_two_pow_sub_one_eq_mod (x + x / 16 + 16 * (r % 16)) 4
      simpa using h
    rw [e2]
    omega
/-- the bits of a byte -/
def pb_p (d : Nat) : Nat := g_cnt (fun j => d.testBit j) 8
def pb_u (d : Nat) : Nat := ((d - ((d / 2 ^ 1) &&& 85)) / 2 ^ 0 &&& 51) + ((d - ((d / 2 ^ 1) &&& 85)) / 2 ^ 2 &&& 51)
theorem pb_u_ok : ∀ d, d < 256 → (pb_u d % 16 ≤ 4 ∧ pb_u d / 16 ≤ 4) ∧ pb_u d % 16 + pb_u d / 16 = pb_p d := by decide +kernel
def pb_tot : Nat → Nat → Nat
  | 0, _ => 0
  | k + 1, n => pb_p (n % 256) + pb_tot k (n / 256)
theorem pb_sum : ∀ (k n : Nat), g_cnt (fun j => n.testBit j) (8 * k) = pb_tot k n
  | 0, n => rfl
  | k + 1, n => by
    have ih := pb_sum k (n / 256)
    have hsplit : ∀ (O : Nat → Bool) (a b : Nat), g_cnt O (a + b) = g_cnt O a + g_cnt (fun j => O (a + j)) b := by
      intro O a b
      induction b with
      | zero => rfl
      | succ b ih =>
        show g_cnt O (a + b) + (if O (a + b) = true then 1 else 0) = g_cnt O a + (g_cnt (fun j => O (a + j)) b + (if O (a + b) = true then 1 else 0))
        rw [ih, Nat.add_assoc]
    have e1 : 8 * (k + 1) = 8 + 8 * k := by omega
    rw [e1, hsplit]
    have e2 : g_cnt (fun j => n.testBit j) 8 = pb_p (n % 256) := by
      refine g_cnt_congr 8 (fun j hj => ?_)
      have h9 := Nat.testBit_mod_two_pow n 8 j
      simp only [hj, decide_true, Bool.true_and] at h9
      exact h9.symm
    have e3 : g_cnt (fun j => n.testBit (8 + j)) (8 * k) = g_cnt (fun j => (n / 256).testBit j) (8 * k) := by
      refine g_cnt_congr _ (fun j _ => ?_)
      have h9 := Nat.testBit_add n j 8
      rw [Nat.add_comm] at h9
      exact h9
    rw [e2, e3, ih]
    rfl
/-- a word's bits -/
def pb_cnt (w : Int64) : Nat := g_cnt (fun j => w.toBitVec.getLsbD j) 64
theorem pb_main (n : Nat) (hn : n < 2 ^ 64) : ∃ a b c, a = n - ((n / 2 ^ 1) &&& 6148914691236517205) ∧ (n / 2 ^ 1) &&& 6148914691236517205 ≤ n ∧ b = (a &&& 3689348814741910323) + ((a / 2 ^ 2) &&& 3689348814741910323) ∧ b + b / 2 ^ 4 < 2 ^ 64 ∧ c = (b + b / 2 ^ 4) &&& 1085102592571150095 ∧
    c = pb_map (fun d => pb_p d) 8 n := by
  have h8 : n < 256 ^ 8 := hn
  have r5 : pb_rep 85 8 = 6148914691236517205 := by decide
  have r3 : pb_rep 51 8 = 3689348814741910323 := by decide
  have r0 : pb_rep 15 8 = 1085102592571150095 := by decide
  have h1 := pb_mask (fun d => d) (fun d h => h) 1 85 (by omega) (by decide) 8 n
  rw [pb_id 8 n h8, r5] at h1
  obtain ⟨h2, h3⟩ := pb_sub (fun d => d) (fun d => (d / 2 ^ 1) &&& 85) (fun d _ => Nat.le_trans Nat.and_le_left (Nat.div_le_self _ _)) 8 n
  rw [pb_id 8 n h8] at h2 h3
  have ha : ∀ d, d < 256 → d - ((d / 2 ^ 1) &&& 85) < 256 := fun d hd => by omega
  have h4 := pb_mask (fun d => d - ((d / 2 ^ 1) &&& 85)) ha 0 51 (by omega) (by decide) 8 n
  have h5 := pb_mask (fun d => d - ((d / 2 ^ 1) &&& 85)) ha 2 51 (by omega) (by decide) 8 n
  rw [r3] at h4 h5
  have h6 := pb_add (fun d => ((d - ((d / 2 ^ 1) &&& 85)) / 2 ^ 0) &&& 51) (fun d => ((d - ((d / 2 ^ 1) &&& 85)) / 2 ^ 2) &&& 51) 8 n
  obtain ⟨-, h7⟩ := pb_nib pb_u (fun d hd => (pb_u_ok d hd).1) 8 n
  rw [r0] at h7
  refine ⟨_, _, _, rfl, ?_, rfl, ?_, rfl, ?_⟩
  · rw [h1]
    exact h2
  · rw [h1, h3]
    have hb1 := Nat.and_le_right (n := pb_map (fun d => d - ((d / 2 ^ 1) &&& 85)) 8 n) (m := 3689348814741910323)
    have hb2 := Nat.and_le_right (n := pb_map (fun d => d - ((d / 2 ^ 1) &&& 85)) 8 n / 2 ^ 2) (m := 3689348814741910323)
    omega
  · rw [h1, h3]
    have e1 : pb_map (fun d => d - ((d / 2 ^ 1) &&& 85)) 8 n &&& 3689348814741910323 = pb_map (fun d => ((d - ((d / 2 ^ 1) &&& 85)) / 2 ^ 0) &&& 51) 8 n := by
      rw [← h4, Nat.pow_zero, Nat.div_one]
    rw [e1, h5, h6]
    have e2 : pb_map (fun d => pb_u d % 16 + pb_u d / 16) 8 n = pb_map (fun d => pb_p d) 8 n := by
      have hc : ∀ (k m : Nat), pb_map (fun d => pb_u d % 16 + pb_u d / 16) k m = pb_map (fun d => pb_p d) k m := by
        intro k
        induction k with
        | zero => intro m; rfl
        | succ k ih => intro m; simp only [pb_map, ih, (pb_u_ok (m % 256) (by omega)).2]
      exact hc 8 n
    rw [← e2]
    exact h7
abbrev pb_sh (k : Int32) (x : Int64) : Int64 := (x.toUInt64 >>> (k.toInt64.toUInt64 &&& Int64.toUInt64 63)).toInt64
theorem pb_shN (k : Nat) (hk : k < 64) {n : Nat} (hn : n < 2 ^ 64) : pb_sh (nI k) (lN n) = lN (n / 2 ^ k) := wb_shr hn hk
theorem pb_fin (a0 a1 a2 a3 a4 a5 a6 a7 z : Nat) (p0 : a0 ≤ 8) (p1 : a1 ≤ 8) (p2 : a2 ≤ 8) (p3 : a3 ≤ 8) (p4 : a4 ≤ 8) (p5 : a5 ≤ 8) (p6 : a6 ≤ 8) (p7 : a7 ≤ 8) (hzz : z = a0 + 256 * a1 + 65536 * a2 + 16777216 * a3 + 4294967296 * a4 + 1099511627776 * a5 + 281474976710656 * a6 + 72057594037927936 * a7) :
    (z + z / 2 ^ 8 + (z + z / 2 ^ 8) / 2 ^ 16 + (z + z / 2 ^ 8 + (z + z / 2 ^ 8) / 2 ^ 16) / 2 ^ 32) % 2 ^ 32 % 2 ^ 7 = a0 + (a1 + (a2 + (a3 + (a4 + (a5 + (a6 + (a7 + 0))))))) := by
  have g1 : z / 2 ^ 8 = a1 + 256 * a2 + 65536 * a3 + 16777216 * a4 + 4294967296 * a5 + 1099511627776 * a6 + 281474976710656 * a7 := by omega
  have g2 : (z + z / 2 ^ 8) / 2 ^ 16 = a2 + 257 * a3 + 65792 * a4 + 16842752 * a5 + 4311744512 * a6 + 1103806595072 * a7 := by omega
  have g3 : (z + z / 2 ^ 8 + (z + z / 2 ^ 8) / 2 ^ 16) / 2 ^ 32 = a4 + 257 * a5 + 65793 * a6 + 16843009 * a7 := by omega
  rw [g3, g2, g1, hzz]
  omega
theorem pb_go {x i1 i2 i3 i4 i5 i6 : Int64} (e1 : i1 = x - (pb_sh 1 x &&& 6148914691236517205)) (e2 : i2 = (i1 &&& 3689348814741910323) + (pb_sh 2 i1 &&& 3689348814741910323)) (e3 : i3 = (i2 + pb_sh 4 i2) &&& 1085102592571150095)
    (e4 : i4 = i3 + pb_sh 8 i3) (e5 : i5 = i4 + pb_sh 16 i4) (e6 : i6 = i5 + pb_sh 32 i5) : i6.toInt32 &&& 127 = nI (pb_cnt x) := by
  obtain ⟨n, hn, rfl⟩ := wb_of x
  obtain ⟨a, b, c, ha, hle, hb, hlt, hc, hm⟩ := pb_main n hn
  have han : a < 2 ^ 64 := by omega
  have q1 : i1 = lN a := by
    rw [e1, show (1 : Int32) = nI 1 from rfl, pb_shN 1 (by omega) hn, show (6148914691236517205 : Int64) = lN 6148914691236517205 from rfl, wb_and (by omega) (by omega), lN_sub hle, ha]
  have hb1 := Nat.and_le_right (n := a) (m := 3689348814741910323)
  have hb2 := Nat.and_le_right (n := a / 2 ^ 2) (m := 3689348814741910323)
  have hbn : b < 2 ^ 64 := by omega
  have q2 : i2 = lN b := by
    rw [e2, q1, show (2 : Int32) = nI 2 from rfl, pb_shN 2 (by omega) han, show (3689348814741910323 : Int64) = lN 3689348814741910323 from rfl, wb_and han (by omega), wb_and (by omega) (by omega), lN_add, hb]
  have hb3 := Nat.and_le_right (n := b + b / 2 ^ 4) (m := 1085102592571150095)
  have hcn : c < 2 ^ 62 := by omega
  have q3 : i3 = lN c := by
    rw [e3, q2, show (4 : Int32) = nI 4 from rfl, pb_shN 4 (by omega) hbn, lN_add, show (1085102592571150095 : Int64) = lN 1085102592571150095 from rfl, wb_and hlt (by omega), hc]
  have q4 : i4 = lN (c + c / 2 ^ 8) := by rw [e4, q3, show (8 : Int32) = nI 8 from rfl, pb_shN 8 (by omega) (by omega), lN_add]
  have q5 : i5 = lN (c + c / 2 ^ 8 + (c + c / 2 ^ 8) / 2 ^ 16) := by rw [e5, q4, show (16 : Int32) = nI 16 from rfl, pb_shN 16 (by omega) (by omega), lN_add]
  have q6 : i6 = lN (c + c / 2 ^ 8 + (c + c / 2 ^ 8) / 2 ^ 16 + (c + c / 2 ^ 8 + (c + c / 2 ^ 8) / 2 ^ 16) / 2 ^ 32) := by rw [e6, q5, show (32 : Int32) = nI 32 from rfl, pb_shN 32 (by omega) (by omega), lN_add]
  have hcnt : pb_cnt (lN n) = pb_tot 8 n := by
    have h1 : pb_cnt (lN n) = g_cnt (fun j => n.testBit j) 64 := g_cnt_congr 64 (fun j hj => by rw [wb_tb, BitVec.getLsbD_ofNat]; simp [hj])
    rw [h1]
    exact pb_sum 8 n
  have hz : ∀ z : Nat, (nI z).toBitVec.toNat = z % 2 ^ 32 := fun z => by
    exact BitVec.toNat_ofNat z 32
  rw [q6, lN_i, pk_and _ 7 (by decide), hz, hcnt]
  congr 1
  have hp : ∀ d, pb_p d ≤ 8 := fun d => g_cnt_le _ 8
  rw [hm]
  simp only [pb_map, pb_tot, Nat.mul_zero]
  have p0 := hp (n % 256)
  have p1 := hp (n / 256 % 256)
  have p2 := hp (n / 256 / 256 % 256)
  have p3 := hp (n / 256 / 256 / 256 % 256)
  have p4 := hp (n / 256 / 256 / 256 / 256 % 256)
  have p5 := hp (n / 256 / 256 / 256 / 256 / 256 % 256)
  have p6 := hp (n / 256 / 256 / 256 / 256 / 256 / 256 % 256)
  have p7 := hp (n / 256 / 256 / 256 / 256 / 256 / 256 / 256 % 256)
  exact pb_fin _ _ _ _ _ _ _ _ _ p0 p1 p2 p3 p4 p5 p6 p7 (by omega)
end
section
theorem d_Ar_fill_0 : decode b_Ar_fill 0 = .ok (.iconst 0, 1) := by decide +kernel
theorem d_Ar_fill_1 : decode b_Ar_fill 1 = .ok (.istore_n 3, 1) := by decide +kernel
theorem d_Ar_fill_2 : decode b_Ar_fill 2 = .ok (.aload_n 0, 1) := by decide +kernel
theorem d_Ar_fill_3 : decode b_Ar_fill 3 = .ok (.arraylength, 1) := by decide +kernel
theorem d_Ar_fill_4 : decode b_Ar_fill 4 = .ok (.istore 4, 2) := by decide +kernel
theorem d_Ar_fill_6 : decode b_Ar_fill 6 = .ok (.iload_n 3, 1) := by decide +kernel
theorem d_Ar_fill_7 : decode b_Ar_fill 7 = .ok (.iload 4, 2) := by decide +kernel
theorem d_Ar_fill_9 : decode b_Ar_fill 9 = .ok (.if_icmp .ge 13, 3) := by decide +kernel
theorem d_Ar_fill_12 : decode b_Ar_fill 12 = .ok (.aload_n 0, 1) := by decide +kernel
theorem d_Ar_fill_13 : decode b_Ar_fill 13 = .ok (.iload_n 3, 1) := by decide +kernel
theorem d_Ar_fill_14 : decode b_Ar_fill 14 = .ok (.lload_n 1, 1) := by decide +kernel
theorem d_Ar_fill_15 : decode b_Ar_fill 15 = .ok (.lastore, 1) := by decide +kernel
theorem d_Ar_fill_16 : decode b_Ar_fill 16 = .ok (.iinc 3 1, 3) := by decide +kernel
theorem d_Ar_fill_19 : decode b_Ar_fill 19 = .ok (.goto (-13), 3) := by decide +kernel
theorem d_Ar_fill_22 : decode b_Ar_fill 22 = .ok (.return_, 1) := by decide +kernel
theorem d_Lo_bitCount_0 : decode b_Lo_bitCount 0 = .ok (.lload_n 0, 1) := by decide +kernel
theorem d_Lo_bitCount_1 : decode b_Lo_bitCount 1 = .ok (.lload_n 0, 1) := by decide +kernel
theorem d_Lo_bitCount_2 : decode b_Lo_bitCount 2 = .ok (.iconst 1, 1) := by decide +kernel
theorem d_Lo_bitCount_3 : decode b_Lo_bitCount 3 = .ok (.lushr, 1) := by decide +kernel
theorem d_Lo_bitCount_4 : decode b_Lo_bitCount 4 = .ok (.ldc2_w 314, 3) := by decide +kernel
theorem d_Lo_bitCount_7 : decode b_Lo_bitCount 7 = .ok (.land, 1) := by decide +kernel
theorem d_Lo_bitCount_8 : decode b_Lo_bitCount 8 = .ok (.lsub, 1) := by decide +kernel
theorem d_Lo_bitCount_9 : decode b_Lo_bitCount 9 = .ok (.lstore_n 0, 1) := by decide +kernel
theorem d_Lo_bitCount_10 : decode b_Lo_bitCount 10 = .ok (.lload_n 0, 1) := by decide +kernel
theorem d_Lo_bitCount_11 : decode b_Lo_bitCount 11 = .ok (.ldc2_w 316, 3) := by decide +kernel
theorem d_Lo_bitCount_14 : decode b_Lo_bitCount 14 = .ok (.land, 1) := by decide +kernel
theorem d_Lo_bitCount_15 : decode b_Lo_bitCount 15 = .ok (.lload_n 0, 1) := by decide +kernel
theorem d_Lo_bitCount_16 : decode b_Lo_bitCount 16 = .ok (.iconst 2, 1) := by decide +kernel
theorem d_Lo_bitCount_17 : decode b_Lo_bitCount 17 = .ok (.lushr, 1) := by decide +kernel
theorem d_Lo_bitCount_18 : decode b_Lo_bitCount 18 = .ok (.ldc2_w 316, 3) := by decide +kernel
theorem d_Lo_bitCount_21 : decode b_Lo_bitCount 21 = .ok (.land, 1) := by decide +kernel
theorem d_Lo_bitCount_22 : decode b_Lo_bitCount 22 = .ok (.ladd, 1) := by decide +kernel
theorem d_Lo_bitCount_23 : decode b_Lo_bitCount 23 = .ok (.lstore_n 0, 1) := by decide +kernel
theorem d_Lo_bitCount_24 : decode b_Lo_bitCount 24 = .ok (.lload_n 0, 1) := by decide +kernel
theorem d_Lo_bitCount_25 : decode b_Lo_bitCount 25 = .ok (.lload_n 0, 1) := by decide +kernel
theorem d_Lo_bitCount_26 : decode b_Lo_bitCount 26 = .ok (.iconst 4, 1) := by decide +kernel
theorem d_Lo_bitCount_27 : decode b_Lo_bitCount 27 = .ok (.lushr, 1) := by decide +kernel
theorem d_Lo_bitCount_28 : decode b_Lo_bitCount 28 = .ok (.ladd, 1) := by decide +kernel
theorem d_Lo_bitCount_29 : decode b_Lo_bitCount 29 = .ok (.ldc2_w 318, 3) := by decide +kernel
theorem d_Lo_bitCount_32 : decode b_Lo_bitCount 32 = .ok (.land, 1) := by decide +kernel
theorem d_Lo_bitCount_33 : decode b_Lo_bitCount 33 = .ok (.lstore_n 0, 1) := by decide +kernel
theorem d_Lo_bitCount_34 : decode b_Lo_bitCount 34 = .ok (.lload_n 0, 1) := by decide +kernel
theorem d_Lo_bitCount_35 : decode b_Lo_bitCount 35 = .ok (.lload_n 0, 1) := by decide +kernel
theorem d_Lo_bitCount_36 : decode b_Lo_bitCount 36 = .ok (.bipush 8, 2) := by decide +kernel
theorem d_Lo_bitCount_38 : decode b_Lo_bitCount 38 = .ok (.lushr, 1) := by decide +kernel
theorem d_Lo_bitCount_39 : decode b_Lo_bitCount 39 = .ok (.ladd, 1) := by decide +kernel
theorem d_Lo_bitCount_40 : decode b_Lo_bitCount 40 = .ok (.lstore_n 0, 1) := by decide +kernel
theorem d_Lo_bitCount_41 : decode b_Lo_bitCount 41 = .ok (.lload_n 0, 1) := by decide +kernel
theorem d_Lo_bitCount_42 : decode b_Lo_bitCount 42 = .ok (.lload_n 0, 1) := by decide +kernel
theorem d_Lo_bitCount_43 : decode b_Lo_bitCount 43 = .ok (.bipush 16, 2) := by decide +kernel
theorem d_Lo_bitCount_45 : decode b_Lo_bitCount 45 = .ok (.lushr, 1) := by decide +kernel
theorem d_Lo_bitCount_46 : decode b_Lo_bitCount 46 = .ok (.ladd, 1) := by decide +kernel
theorem d_Lo_bitCount_47 : decode b_Lo_bitCount 47 = .ok (.lstore_n 0, 1) := by decide +kernel
theorem d_Lo_bitCount_48 : decode b_Lo_bitCount 48 = .ok (.lload_n 0, 1) := by decide +kernel
theorem d_Lo_bitCount_49 : decode b_Lo_bitCount 49 = .ok (.lload_n 0, 1) := by decide +kernel
theorem d_Lo_bitCount_50 : decode b_Lo_bitCount 50 = .ok (.bipush 32, 2) := by decide +kernel
theorem d_Lo_bitCount_52 : decode b_Lo_bitCount 52 = .ok (.lushr, 1) := by decide +kernel
theorem d_Lo_bitCount_53 : decode b_Lo_bitCount 53 = .ok (.ladd, 1) := by decide +kernel
theorem d_Lo_bitCount_54 : decode b_Lo_bitCount 54 = .ok (.lstore_n 0, 1) := by decide +kernel
theorem d_Lo_bitCount_55 : decode b_Lo_bitCount 55 = .ok (.lload_n 0, 1) := by decide +kernel
theorem d_Lo_bitCount_56 : decode b_Lo_bitCount 56 = .ok (.l2i, 1) := by decide +kernel
theorem d_Lo_bitCount_57 : decode b_Lo_bitCount 57 = .ok (.bipush 127, 2) := by decide +kernel
theorem d_Lo_bitCount_59 : decode b_Lo_bitCount 59 = .ok (.iand, 1) := by decide +kernel
theorem d_Lo_bitCount_60 : decode b_Lo_bitCount 60 = .ok (.ireturn, 1) := by decide +kernel
theorem d_St_copy_0 : decode b_St_copy 0 = .ok (.aload_n 2, 1) := by decide +kernel
theorem d_St_copy_1 : decode b_St_copy 1 = .ok (.getfield 11, 3) := by decide +kernel
theorem d_St_copy_4 : decode b_St_copy 4 = .ok (.iload_n 3, 1) := by decide +kernel
theorem d_St_copy_5 : decode b_St_copy 5 = .ok (.iconst 4, 1) := by decide +kernel
theorem d_St_copy_6 : decode b_St_copy 6 = .ok (.imul, 1) := by decide +kernel
theorem d_St_copy_7 : decode b_St_copy 7 = .ok (.aload_n 0, 1) := by decide +kernel
theorem d_St_copy_8 : decode b_St_copy 8 = .ok (.getfield 11, 3) := by decide +kernel
theorem d_St_copy_11 : decode b_St_copy 11 = .ok (.iload_n 1, 1) := by decide +kernel
theorem d_St_copy_12 : decode b_St_copy 12 = .ok (.iconst 4, 1) := by decide +kernel
theorem d_St_copy_13 : decode b_St_copy 13 = .ok (.imul, 1) := by decide +kernel
theorem d_St_copy_14 : decode b_St_copy 14 = .ok (.iconst 4, 1) := by decide +kernel
theorem d_St_copy_15 : decode b_St_copy 15 = .ok (.invokestatic 21, 3) := by decide +kernel
theorem d_St_copy_18 : decode b_St_copy 18 = .ok (.return_, 1) := by decide +kernel
theorem d_St_drop_0 : decode b_St_drop 0 = .ok (.aload_n 0, 1) := by decide +kernel
theorem d_St_drop_1 : decode b_St_drop 1 = .ok (.getfield 11, 3) := by decide +kernel
theorem d_St_drop_4 : decode b_St_drop 4 = .ok (.iload_n 1, 1) := by decide +kernel
theorem d_St_drop_5 : decode b_St_drop 5 = .ok (.iconst 4, 1) := by decide +kernel
theorem d_St_drop_6 : decode b_St_drop 6 = .ok (.imul, 1) := by decide +kernel
theorem d_St_drop_7 : decode b_St_drop 7 = .ok (.iload_n 2, 1) := by decide +kernel
theorem d_St_drop_8 : decode b_St_drop 8 = .ok (.bipush 6, 2) := by decide +kernel
theorem d_St_drop_10 : decode b_St_drop 10 = .ok (.ishr, 1) := by decide +kernel
theorem d_St_drop_11 : decode b_St_drop 11 = .ok (.iadd, 1) := by decide +kernel
theorem d_St_drop_12 : decode b_St_drop 12 = .ok (.dup2, 1) := by decide +kernel
theorem d_St_drop_13 : decode b_St_drop 13 = .ok (.laload, 1) := by decide +kernel
theorem d_St_drop_14 : decode b_St_drop 14 = .ok (.lconst 1, 1) := by decide +kernel
theorem d_St_drop_15 : decode b_St_drop 15 = .ok (.iload_n 2, 1) := by decide +kernel
theorem d_St_drop_16 : decode b_St_drop 16 = .ok (.bipush 63, 2) := by decide +kernel
theorem d_St_drop_18 : decode b_St_drop 18 = .ok (.iand, 1) := by decide +kernel
theorem d_St_drop_19 : decode b_St_drop 19 = .ok (.lshl, 1) := by decide +kernel
theorem d_St_drop_20 : decode b_St_drop 20 = .ok (.ldc2_w 27, 3) := by decide +kernel
theorem d_St_drop_23 : decode b_St_drop 23 = .ok (.lxor, 1) := by decide +kernel
theorem d_St_drop_24 : decode b_St_drop 24 = .ok (.land, 1) := by decide +kernel
theorem d_St_drop_25 : decode b_St_drop 25 = .ok (.lastore, 1) := by decide +kernel
theorem d_St_drop_26 : decode b_St_drop 26 = .ok (.return_, 1) := by decide +kernel
theorem d_St_empty_0 : decode b_St_empty 0 = .ok (.iconst 0, 1) := by decide +kernel
theorem d_St_empty_1 : decode b_St_empty 1 = .ok (.istore_n 2, 1) := by decide +kernel
theorem d_St_empty_2 : decode b_St_empty 2 = .ok (.iload_n 2, 1) := by decide +kernel
theorem d_St_empty_3 : decode b_St_empty 3 = .ok (.iconst 4, 1) := by decide +kernel
theorem d_St_empty_4 : decode b_St_empty 4 = .ok (.if_icmp .ge 20, 3) := by decide +kernel
theorem d_St_empty_7 : decode b_St_empty 7 = .ok (.aload_n 0, 1) := by decide +kernel
theorem d_St_empty_8 : decode b_St_empty 8 = .ok (.getfield 11, 3) := by decide +kernel
theorem d_St_empty_11 : decode b_St_empty 11 = .ok (.iload_n 1, 1) := by decide +kernel
theorem d_St_empty_12 : decode b_St_empty 12 = .ok (.iconst 4, 1) := by decide +kernel
theorem d_St_empty_13 : decode b_St_empty 13 = .ok (.imul, 1) := by decide +kernel
theorem d_St_empty_14 : decode b_St_empty 14 = .ok (.iload_n 2, 1) := by decide +kernel
theorem d_St_empty_15 : decode b_St_empty 15 = .ok (.iadd, 1) := by decide +kernel
theorem d_St_empty_16 : decode b_St_empty 16 = .ok (.lconst 0, 1) := by decide +kernel
theorem d_St_empty_17 : decode b_St_empty 17 = .ok (.lastore, 1) := by decide +kernel
theorem d_St_empty_18 : decode b_St_empty 18 = .ok (.iinc 2 1, 3) := by decide +kernel
theorem d_St_empty_21 : decode b_St_empty 21 = .ok (.goto (-19), 3) := by decide +kernel
theorem d_St_empty_24 : decode b_St_empty 24 = .ok (.return_, 1) := by decide +kernel
theorem d_St_emptyAll_0 : decode b_St_emptyAll 0 = .ok (.aload_n 0, 1) := by decide +kernel
theorem d_St_emptyAll_1 : decode b_St_emptyAll 1 = .ok (.getfield 11, 3) := by decide +kernel
theorem d_St_emptyAll_4 : decode b_St_emptyAll 4 = .ok (.lconst 0, 1) := by decide +kernel
theorem d_St_emptyAll_5 : decode b_St_emptyAll 5 = .ok (.invokestatic 15, 3) := by decide +kernel
theorem d_St_emptyAll_8 : decode b_St_emptyAll 8 = .ok (.return_, 1) := by decide +kernel
theorem d_St_has_0 : decode b_St_has 0 = .ok (.aload_n 0, 1) := by decide +kernel
theorem d_St_has_1 : decode b_St_has 1 = .ok (.getfield 11, 3) := by decide +kernel
theorem d_St_has_4 : decode b_St_has 4 = .ok (.iload_n 1, 1) := by decide +kernel
theorem d_St_has_5 : decode b_St_has 5 = .ok (.iconst 4, 1) := by decide +kernel
theorem d_St_has_6 : decode b_St_has 6 = .ok (.imul, 1) := by decide +kernel
theorem d_St_has_7 : decode b_St_has 7 = .ok (.iload_n 2, 1) := by decide +kernel
theorem d_St_has_8 : decode b_St_has 8 = .ok (.bipush 6, 2) := by decide +kernel
theorem d_St_has_10 : decode b_St_has 10 = .ok (.ishr, 1) := by decide +kernel
theorem d_St_has_11 : decode b_St_has 11 = .ok (.iadd, 1) := by decide +kernel
theorem d_St_has_12 : decode b_St_has 12 = .ok (.laload, 1) := by decide +kernel
theorem d_St_has_13 : decode b_St_has 13 = .ok (.iload_n 2, 1) := by decide +kernel
theorem d_St_has_14 : decode b_St_has 14 = .ok (.bipush 63, 2) := by decide +kernel
theorem d_St_has_16 : decode b_St_has 16 = .ok (.iand, 1) := by decide +kernel
theorem d_St_has_17 : decode b_St_has 17 = .ok (.lushr, 1) := by decide +kernel
theorem d_St_has_18 : decode b_St_has 18 = .ok (.lconst 1, 1) := by decide +kernel
theorem d_St_has_19 : decode b_St_has 19 = .ok (.land, 1) := by decide +kernel
theorem d_St_has_20 : decode b_St_has 20 = .ok (.lconst 0, 1) := by decide +kernel
theorem d_St_has_21 : decode b_St_has 21 = .ok (.lcmp, 1) := by decide +kernel
theorem d_St_has_22 : decode b_St_has 22 = .ok (.ifCond .eq 7, 3) := by decide +kernel
theorem d_St_has_25 : decode b_St_has 25 = .ok (.iconst 1, 1) := by decide +kernel
theorem d_St_has_26 : decode b_St_has 26 = .ok (.goto 4, 3) := by decide +kernel
theorem d_St_has_29 : decode b_St_has 29 = .ok (.iconst 0, 1) := by decide +kernel
theorem d_St_has_30 : decode b_St_has 30 = .ok (.ireturn, 1) := by decide +kernel
theorem d_St_init_0 : decode b_St_init 0 = .ok (.aload_n 0, 1) := by decide +kernel
theorem d_St_init_1 : decode b_St_init 1 = .ok (.invokespecial 3, 3) := by decide +kernel
theorem d_St_init_4 : decode b_St_init 4 = .ok (.aload_n 0, 1) := by decide +kernel
theorem d_St_init_5 : decode b_St_init 5 = .ok (.iload_n 1, 1) := by decide +kernel
theorem d_St_init_6 : decode b_St_init 6 = .ok (.iconst 4, 1) := by decide +kernel
theorem d_St_init_7 : decode b_St_init 7 = .ok (.imul, 1) := by decide +kernel
theorem d_St_init_8 : decode b_St_init 8 = .ok (.newarray .long, 2) := by decide +kernel
theorem d_St_init_10 : decode b_St_init 10 = .ok (.putfield 11, 3) := by decide +kernel
theorem d_St_init_13 : decode b_St_init 13 = .ok (.return_, 1) := by decide +kernel
theorem d_St_leastFrom_0 : decode b_St_leastFrom 0 = .ok (.ldc2_w 27, 3) := by decide +kernel
theorem d_St_leastFrom_3 : decode b_St_leastFrom 3 = .ok (.iload_n 2, 1) := by decide +kernel
theorem d_St_leastFrom_4 : decode b_St_leastFrom 4 = .ok (.bipush 63, 2) := by decide +kernel
theorem d_St_leastFrom_6 : decode b_St_leastFrom 6 = .ok (.iand, 1) := by decide +kernel
theorem d_St_leastFrom_7 : decode b_St_leastFrom 7 = .ok (.lshl, 1) := by decide +kernel
theorem d_St_leastFrom_8 : decode b_St_leastFrom 8 = .ok (.lstore_n 3, 1) := by decide +kernel
theorem d_St_leastFrom_9 : decode b_St_leastFrom 9 = .ok (.iload_n 2, 1) := by decide +kernel
theorem d_St_leastFrom_10 : decode b_St_leastFrom 10 = .ok (.bipush 6, 2) := by decide +kernel
theorem d_St_leastFrom_12 : decode b_St_leastFrom 12 = .ok (.ishr, 1) := by decide +kernel
theorem d_St_leastFrom_13 : decode b_St_leastFrom 13 = .ok (.istore 5, 2) := by decide +kernel
theorem d_St_leastFrom_15 : decode b_St_leastFrom 15 = .ok (.iload 5, 2) := by decide +kernel
theorem d_St_leastFrom_17 : decode b_St_leastFrom 17 = .ok (.iconst 4, 1) := by decide +kernel
theorem d_St_leastFrom_18 : decode b_St_leastFrom 18 = .ok (.if_icmp .ge 53, 3) := by decide +kernel
theorem d_St_leastFrom_21 : decode b_St_leastFrom 21 = .ok (.aload_n 0, 1) := by decide +kernel
theorem d_St_leastFrom_22 : decode b_St_leastFrom 22 = .ok (.getfield 11, 3) := by decide +kernel
theorem d_St_leastFrom_25 : decode b_St_leastFrom 25 = .ok (.iload_n 1, 1) := by decide +kernel
theorem d_St_leastFrom_26 : decode b_St_leastFrom 26 = .ok (.iconst 4, 1) := by decide +kernel
theorem d_St_leastFrom_27 : decode b_St_leastFrom 27 = .ok (.imul, 1) := by decide +kernel
theorem d_St_leastFrom_28 : decode b_St_leastFrom 28 = .ok (.iload 5, 2) := by decide +kernel
theorem d_St_leastFrom_30 : decode b_St_leastFrom 30 = .ok (.iadd, 1) := by decide +kernel
theorem d_St_leastFrom_31 : decode b_St_leastFrom 31 = .ok (.laload, 1) := by decide +kernel
theorem d_St_leastFrom_32 : decode b_St_leastFrom 32 = .ok (.lload_n 3, 1) := by decide +kernel
theorem d_St_leastFrom_33 : decode b_St_leastFrom 33 = .ok (.land, 1) := by decide +kernel
theorem d_St_leastFrom_34 : decode b_St_leastFrom 34 = .ok (.lstore 6, 2) := by decide +kernel
theorem d_St_leastFrom_36 : decode b_St_leastFrom 36 = .ok (.lload 6, 2) := by decide +kernel
theorem d_St_leastFrom_38 : decode b_St_leastFrom 38 = .ok (.lconst 0, 1) := by decide +kernel
theorem d_St_leastFrom_39 : decode b_St_leastFrom 39 = .ok (.lcmp, 1) := by decide +kernel
theorem d_St_leastFrom_40 : decode b_St_leastFrom 40 = .ok (.ifCond .eq 21, 3) := by decide +kernel
theorem d_St_leastFrom_43 : decode b_St_leastFrom 43 = .ok (.iload 5, 2) := by decide +kernel
theorem d_St_leastFrom_45 : decode b_St_leastFrom 45 = .ok (.bipush 64, 2) := by decide +kernel
theorem d_St_leastFrom_47 : decode b_St_leastFrom 47 = .ok (.imul, 1) := by decide +kernel
theorem d_St_leastFrom_48 : decode b_St_leastFrom 48 = .ok (.lload 6, 2) := by decide +kernel
theorem d_St_leastFrom_50 : decode b_St_leastFrom 50 = .ok (.lload 6, 2) := by decide +kernel
theorem d_St_leastFrom_52 : decode b_St_leastFrom 52 = .ok (.lneg, 1) := by decide +kernel
theorem d_St_leastFrom_53 : decode b_St_leastFrom 53 = .ok (.land, 1) := by decide +kernel
theorem d_St_leastFrom_54 : decode b_St_leastFrom 54 = .ok (.lconst 1, 1) := by decide +kernel
theorem d_St_leastFrom_55 : decode b_St_leastFrom 55 = .ok (.lsub, 1) := by decide +kernel
theorem d_St_leastFrom_56 : decode b_St_leastFrom 56 = .ok (.invokestatic 29, 3) := by decide +kernel
theorem d_St_leastFrom_59 : decode b_St_leastFrom 59 = .ok (.iadd, 1) := by decide +kernel
theorem d_St_leastFrom_60 : decode b_St_leastFrom 60 = .ok (.ireturn, 1) := by decide +kernel
theorem d_St_leastFrom_61 : decode b_St_leastFrom 61 = .ok (.ldc2_w 27, 3) := by decide +kernel
theorem d_St_leastFrom_64 : decode b_St_leastFrom 64 = .ok (.lstore_n 3, 1) := by decide +kernel
theorem d_St_leastFrom_65 : decode b_St_leastFrom 65 = .ok (.iinc 5 1, 3) := by decide +kernel
theorem d_St_leastFrom_68 : decode b_St_leastFrom 68 = .ok (.goto (-53), 3) := by decide +kernel
theorem d_St_leastFrom_71 : decode b_St_leastFrom 71 = .ok (.iconst (-1), 1) := by decide +kernel
theorem d_St_leastFrom_72 : decode b_St_leastFrom 72 = .ok (.ireturn, 1) := by decide +kernel
theorem d_St_meets_0 : decode b_St_meets 0 = .ok (.iconst 0, 1) := by decide +kernel
theorem d_St_meets_1 : decode b_St_meets 1 = .ok (.istore 4, 2) := by decide +kernel
theorem d_St_meets_3 : decode b_St_meets 3 = .ok (.iload 4, 2) := by decide +kernel
theorem d_St_meets_5 : decode b_St_meets 5 = .ok (.iconst 4, 1) := by decide +kernel
theorem d_St_meets_6 : decode b_St_meets 6 = .ok (.if_icmp .ge 39, 3) := by decide +kernel
theorem d_St_meets_9 : decode b_St_meets 9 = .ok (.aload_n 0, 1) := by decide +kernel
theorem d_St_meets_10 : decode b_St_meets 10 = .ok (.getfield 11, 3) := by decide +kernel
theorem d_St_meets_13 : decode b_St_meets 13 = .ok (.iload_n 1, 1) := by decide +kernel
theorem d_St_meets_14 : decode b_St_meets 14 = .ok (.iconst 4, 1) := by decide +kernel
theorem d_St_meets_15 : decode b_St_meets 15 = .ok (.imul, 1) := by decide +kernel
theorem d_St_meets_16 : decode b_St_meets 16 = .ok (.iload 4, 2) := by decide +kernel
theorem d_St_meets_18 : decode b_St_meets 18 = .ok (.iadd, 1) := by decide +kernel
theorem d_St_meets_19 : decode b_St_meets 19 = .ok (.laload, 1) := by decide +kernel
theorem d_St_meets_20 : decode b_St_meets 20 = .ok (.aload_n 2, 1) := by decide +kernel
theorem d_St_meets_21 : decode b_St_meets 21 = .ok (.getfield 11, 3) := by decide +kernel
theorem d_St_meets_24 : decode b_St_meets 24 = .ok (.iload_n 3, 1) := by decide +kernel
theorem d_St_meets_25 : decode b_St_meets 25 = .ok (.iconst 4, 1) := by decide +kernel
theorem d_St_meets_26 : decode b_St_meets 26 = .ok (.imul, 1) := by decide +kernel
theorem d_St_meets_27 : decode b_St_meets 27 = .ok (.iload 4, 2) := by decide +kernel
theorem d_St_meets_29 : decode b_St_meets 29 = .ok (.iadd, 1) := by decide +kernel
theorem d_St_meets_30 : decode b_St_meets 30 = .ok (.laload, 1) := by decide +kernel
theorem d_St_meets_31 : decode b_St_meets 31 = .ok (.land, 1) := by decide +kernel
theorem d_St_meets_32 : decode b_St_meets 32 = .ok (.lconst 0, 1) := by decide +kernel
theorem d_St_meets_33 : decode b_St_meets 33 = .ok (.lcmp, 1) := by decide +kernel
theorem d_St_meets_34 : decode b_St_meets 34 = .ok (.ifCond .eq 5, 3) := by decide +kernel
theorem d_St_meets_37 : decode b_St_meets 37 = .ok (.iconst 1, 1) := by decide +kernel
theorem d_St_meets_38 : decode b_St_meets 38 = .ok (.ireturn, 1) := by decide +kernel
theorem d_St_meets_39 : decode b_St_meets 39 = .ok (.iinc 4 1, 3) := by decide +kernel
theorem d_St_meets_42 : decode b_St_meets 42 = .ok (.goto (-39), 3) := by decide +kernel
theorem d_St_meets_45 : decode b_St_meets 45 = .ok (.iconst 0, 1) := by decide +kernel
theorem d_St_meets_46 : decode b_St_meets 46 = .ok (.ireturn, 1) := by decide +kernel
theorem d_St_put_0 : decode b_St_put 0 = .ok (.aload_n 0, 1) := by decide +kernel
theorem d_St_put_1 : decode b_St_put 1 = .ok (.getfield 11, 3) := by decide +kernel
theorem d_St_put_4 : decode b_St_put 4 = .ok (.iload_n 1, 1) := by decide +kernel
theorem d_St_put_5 : decode b_St_put 5 = .ok (.iconst 4, 1) := by decide +kernel
theorem d_St_put_6 : decode b_St_put 6 = .ok (.imul, 1) := by decide +kernel
theorem d_St_put_7 : decode b_St_put 7 = .ok (.iload_n 2, 1) := by decide +kernel
theorem d_St_put_8 : decode b_St_put 8 = .ok (.bipush 6, 2) := by decide +kernel
theorem d_St_put_10 : decode b_St_put 10 = .ok (.ishr, 1) := by decide +kernel
theorem d_St_put_11 : decode b_St_put 11 = .ok (.iadd, 1) := by decide +kernel
theorem d_St_put_12 : decode b_St_put 12 = .ok (.dup2, 1) := by decide +kernel
theorem d_St_put_13 : decode b_St_put 13 = .ok (.laload, 1) := by decide +kernel
theorem d_St_put_14 : decode b_St_put 14 = .ok (.lconst 1, 1) := by decide +kernel
theorem d_St_put_15 : decode b_St_put 15 = .ok (.iload_n 2, 1) := by decide +kernel
theorem d_St_put_16 : decode b_St_put 16 = .ok (.bipush 63, 2) := by decide +kernel
theorem d_St_put_18 : decode b_St_put 18 = .ok (.iand, 1) := by decide +kernel
theorem d_St_put_19 : decode b_St_put 19 = .ok (.lshl, 1) := by decide +kernel
theorem d_St_put_20 : decode b_St_put 20 = .ok (.lor, 1) := by decide +kernel
theorem d_St_put_21 : decode b_St_put 21 = .ok (.lastore, 1) := by decide +kernel
theorem d_St_put_22 : decode b_St_put 22 = .ok (.return_, 1) := by decide +kernel
theorem d_St_size_0 : decode b_St_size 0 = .ok (.iconst 0, 1) := by decide +kernel
theorem d_St_size_1 : decode b_St_size 1 = .ok (.istore_n 2, 1) := by decide +kernel
theorem d_St_size_2 : decode b_St_size 2 = .ok (.iconst 0, 1) := by decide +kernel
theorem d_St_size_3 : decode b_St_size 3 = .ok (.istore_n 3, 1) := by decide +kernel
theorem d_St_size_4 : decode b_St_size 4 = .ok (.iload_n 3, 1) := by decide +kernel
theorem d_St_size_5 : decode b_St_size 5 = .ok (.iconst 4, 1) := by decide +kernel
theorem d_St_size_6 : decode b_St_size 6 = .ok (.if_icmp .ge 25, 3) := by decide +kernel
theorem d_St_size_9 : decode b_St_size 9 = .ok (.iload_n 2, 1) := by decide +kernel
theorem d_St_size_10 : decode b_St_size 10 = .ok (.aload_n 0, 1) := by decide +kernel
theorem d_St_size_11 : decode b_St_size 11 = .ok (.getfield 11, 3) := by decide +kernel
theorem d_St_size_14 : decode b_St_size 14 = .ok (.iload_n 1, 1) := by decide +kernel
theorem d_St_size_15 : decode b_St_size 15 = .ok (.iconst 4, 1) := by decide +kernel
theorem d_St_size_16 : decode b_St_size 16 = .ok (.imul, 1) := by decide +kernel
theorem d_St_size_17 : decode b_St_size 17 = .ok (.iload_n 3, 1) := by decide +kernel
theorem d_St_size_18 : decode b_St_size 18 = .ok (.iadd, 1) := by decide +kernel
theorem d_St_size_19 : decode b_St_size 19 = .ok (.laload, 1) := by decide +kernel
theorem d_St_size_20 : decode b_St_size 20 = .ok (.invokestatic 29, 3) := by decide +kernel
theorem d_St_size_23 : decode b_St_size 23 = .ok (.iadd, 1) := by decide +kernel
theorem d_St_size_24 : decode b_St_size 24 = .ok (.istore_n 2, 1) := by decide +kernel
theorem d_St_size_25 : decode b_St_size 25 = .ok (.iinc 3 1, 3) := by decide +kernel
theorem d_St_size_28 : decode b_St_size 28 = .ok (.goto (-24), 3) := by decide +kernel
theorem d_St_size_31 : decode b_St_size 31 = .ok (.iload_n 2, 1) := by decide +kernel
theorem d_St_size_32 : decode b_St_size 32 = .ok (.ireturn, 1) := by decide +kernel
theorem d_St_takeShared_0 : decode b_St_takeShared 0 = .ok (.iconst 0, 1) := by decide +kernel
theorem d_St_takeShared_1 : decode b_St_takeShared 1 = .ok (.istore 4, 2) := by decide +kernel
theorem d_St_takeShared_3 : decode b_St_takeShared 3 = .ok (.iload 4, 2) := by decide +kernel
theorem d_St_takeShared_5 : decode b_St_takeShared 5 = .ok (.iconst 4, 1) := by decide +kernel
theorem d_St_takeShared_6 : decode b_St_takeShared 6 = .ok (.if_icmp .ge 79, 3) := by decide +kernel
theorem d_St_takeShared_9 : decode b_St_takeShared 9 = .ok (.aload_n 0, 1) := by decide +kernel
theorem d_St_takeShared_10 : decode b_St_takeShared 10 = .ok (.getfield 11, 3) := by decide +kernel
theorem d_St_takeShared_13 : decode b_St_takeShared 13 = .ok (.iload_n 1, 1) := by decide +kernel
theorem d_St_takeShared_14 : decode b_St_takeShared 14 = .ok (.iconst 4, 1) := by decide +kernel
theorem d_St_takeShared_15 : decode b_St_takeShared 15 = .ok (.imul, 1) := by decide +kernel
theorem d_St_takeShared_16 : decode b_St_takeShared 16 = .ok (.iload 4, 2) := by decide +kernel
theorem d_St_takeShared_18 : decode b_St_takeShared 18 = .ok (.iadd, 1) := by decide +kernel
theorem d_St_takeShared_19 : decode b_St_takeShared 19 = .ok (.laload, 1) := by decide +kernel
theorem d_St_takeShared_20 : decode b_St_takeShared 20 = .ok (.aload_n 2, 1) := by decide +kernel
theorem d_St_takeShared_21 : decode b_St_takeShared 21 = .ok (.getfield 11, 3) := by decide +kernel
theorem d_St_takeShared_24 : decode b_St_takeShared 24 = .ok (.iload_n 3, 1) := by decide +kernel
theorem d_St_takeShared_25 : decode b_St_takeShared 25 = .ok (.iconst 4, 1) := by decide +kernel
theorem d_St_takeShared_26 : decode b_St_takeShared 26 = .ok (.imul, 1) := by decide +kernel
theorem d_St_takeShared_27 : decode b_St_takeShared 27 = .ok (.iload 4, 2) := by decide +kernel
theorem d_St_takeShared_29 : decode b_St_takeShared 29 = .ok (.iadd, 1) := by decide +kernel
theorem d_St_takeShared_30 : decode b_St_takeShared 30 = .ok (.laload, 1) := by decide +kernel
theorem d_St_takeShared_31 : decode b_St_takeShared 31 = .ok (.land, 1) := by decide +kernel
theorem d_St_takeShared_32 : decode b_St_takeShared 32 = .ok (.lstore 5, 2) := by decide +kernel
theorem d_St_takeShared_34 : decode b_St_takeShared 34 = .ok (.lload 5, 2) := by decide +kernel
theorem d_St_takeShared_36 : decode b_St_takeShared 36 = .ok (.lconst 0, 1) := by decide +kernel
theorem d_St_takeShared_37 : decode b_St_takeShared 37 = .ok (.lcmp, 1) := by decide +kernel
theorem d_St_takeShared_38 : decode b_St_takeShared 38 = .ok (.ifCond .eq 41, 3) := by decide +kernel
theorem d_St_takeShared_41 : decode b_St_takeShared 41 = .ok (.lload 5, 2) := by decide +kernel
theorem d_St_takeShared_43 : decode b_St_takeShared 43 = .ok (.lload 5, 2) := by decide +kernel
theorem d_St_takeShared_45 : decode b_St_takeShared 45 = .ok (.lneg, 1) := by decide +kernel
theorem d_St_takeShared_46 : decode b_St_takeShared 46 = .ok (.land, 1) := by decide +kernel
theorem d_St_takeShared_47 : decode b_St_takeShared 47 = .ok (.lstore 7, 2) := by decide +kernel
theorem d_St_takeShared_49 : decode b_St_takeShared 49 = .ok (.aload_n 0, 1) := by decide +kernel
theorem d_St_takeShared_50 : decode b_St_takeShared 50 = .ok (.getfield 11, 3) := by decide +kernel
theorem d_St_takeShared_53 : decode b_St_takeShared 53 = .ok (.iload_n 1, 1) := by decide +kernel
theorem d_St_takeShared_54 : decode b_St_takeShared 54 = .ok (.iconst 4, 1) := by decide +kernel
theorem d_St_takeShared_55 : decode b_St_takeShared 55 = .ok (.imul, 1) := by decide +kernel
theorem d_St_takeShared_56 : decode b_St_takeShared 56 = .ok (.iload 4, 2) := by decide +kernel
theorem d_St_takeShared_58 : decode b_St_takeShared 58 = .ok (.iadd, 1) := by decide +kernel
theorem d_St_takeShared_59 : decode b_St_takeShared 59 = .ok (.dup2, 1) := by decide +kernel
theorem d_St_takeShared_60 : decode b_St_takeShared 60 = .ok (.laload, 1) := by decide +kernel
theorem d_St_takeShared_61 : decode b_St_takeShared 61 = .ok (.lload 7, 2) := by decide +kernel
theorem d_St_takeShared_63 : decode b_St_takeShared 63 = .ok (.lxor, 1) := by decide +kernel
theorem d_St_takeShared_64 : decode b_St_takeShared 64 = .ok (.lastore, 1) := by decide +kernel
theorem d_St_takeShared_65 : decode b_St_takeShared 65 = .ok (.iload 4, 2) := by decide +kernel
theorem d_St_takeShared_67 : decode b_St_takeShared 67 = .ok (.bipush 64, 2) := by decide +kernel
theorem d_St_takeShared_69 : decode b_St_takeShared 69 = .ok (.imul, 1) := by decide +kernel
theorem d_St_takeShared_70 : decode b_St_takeShared 70 = .ok (.lload 7, 2) := by decide +kernel
theorem d_St_takeShared_72 : decode b_St_takeShared 72 = .ok (.lconst 1, 1) := by decide +kernel
theorem d_St_takeShared_73 : decode b_St_takeShared 73 = .ok (.lsub, 1) := by decide +kernel
theorem d_St_takeShared_74 : decode b_St_takeShared 74 = .ok (.invokestatic 29, 3) := by decide +kernel
theorem d_St_takeShared_77 : decode b_St_takeShared 77 = .ok (.iadd, 1) := by decide +kernel
theorem d_St_takeShared_78 : decode b_St_takeShared 78 = .ok (.ireturn, 1) := by decide +kernel
theorem d_St_takeShared_79 : decode b_St_takeShared 79 = .ok (.iinc 4 1, 3) := by decide +kernel
theorem d_St_takeShared_82 : decode b_St_takeShared 82 = .ok (.goto (-79), 3) := by decide +kernel
theorem d_St_takeShared_85 : decode b_St_takeShared 85 = .ok (.iconst (-1), 1) := by decide +kernel
theorem d_St_takeShared_86 : decode b_St_takeShared 86 = .ok (.ireturn, 1) := by decide +kernel
end
section
theorem d_Ma_addRule_0 : decode b_Ma_addRule 0 = .ok (.iconst 0, 1) := by decide +kernel
theorem d_Ma_addRule_1 : decode b_Ma_addRule 1 = .ok (.istore 5, 2) := by decide +kernel
theorem d_Ma_addRule_3 : decode b_Ma_addRule 3 = .ok (.iload 5, 2) := by decide +kernel
theorem d_Ma_addRule_5 : decode b_Ma_addRule 5 = .ok (.aload_n 0, 1) := by decide +kernel
theorem d_Ma_addRule_6 : decode b_Ma_addRule 6 = .ok (.getfield 29, 3) := by decide +kernel
theorem d_Ma_addRule_9 : decode b_Ma_addRule 9 = .ok (.if_icmp .ge 48, 3) := by decide +kernel
theorem d_Ma_addRule_12 : decode b_Ma_addRule 12 = .ok (.iload 5, 2) := by decide +kernel
theorem d_Ma_addRule_14 : decode b_Ma_addRule 14 = .ok (.iload_n 1, 1) := by decide +kernel
theorem d_Ma_addRule_15 : decode b_Ma_addRule 15 = .ok (.iand, 1) := by decide +kernel
theorem d_Ma_addRule_16 : decode b_Ma_addRule 16 = .ok (.iload_n 2, 1) := by decide +kernel
theorem d_Ma_addRule_17 : decode b_Ma_addRule 17 = .ok (.if_icmp .ne 34, 3) := by decide +kernel
theorem d_Ma_addRule_20 : decode b_Ma_addRule 20 = .ok (.iload 5, 2) := by decide +kernel
theorem d_Ma_addRule_22 : decode b_Ma_addRule 22 = .ok (.iload_n 3, 1) := by decide +kernel
theorem d_Ma_addRule_23 : decode b_Ma_addRule 23 = .ok (.iand, 1) := by decide +kernel
theorem d_Ma_addRule_24 : decode b_Ma_addRule 24 = .ok (.iload 4, 2) := by decide +kernel
theorem d_Ma_addRule_26 : decode b_Ma_addRule 26 = .ok (.ixor, 1) := by decide +kernel
theorem d_Ma_addRule_27 : decode b_Ma_addRule 27 = .ok (.istore 6, 2) := by decide +kernel
theorem d_Ma_addRule_29 : decode b_Ma_addRule 29 = .ok (.aload_n 0, 1) := by decide +kernel
theorem d_Ma_addRule_30 : decode b_Ma_addRule 30 = .ok (.getfield 20, 3) := by decide +kernel
theorem d_Ma_addRule_33 : decode b_Ma_addRule 33 = .ok (.iload 5, 2) := by decide +kernel
theorem d_Ma_addRule_35 : decode b_Ma_addRule 35 = .ok (.iload 6, 2) := by decide +kernel
theorem d_Ma_addRule_37 : decode b_Ma_addRule 37 = .ok (.invokevirtual 39, 3) := by decide +kernel
theorem d_Ma_addRule_40 : decode b_Ma_addRule 40 = .ok (.aload_n 0, 1) := by decide +kernel
theorem d_Ma_addRule_41 : decode b_Ma_addRule 41 = .ok (.getfield 23, 3) := by decide +kernel
theorem d_Ma_addRule_44 : decode b_Ma_addRule 44 = .ok (.iload 6, 2) := by decide +kernel
theorem d_Ma_addRule_46 : decode b_Ma_addRule 46 = .ok (.iload 5, 2) := by decide +kernel
theorem d_Ma_addRule_48 : decode b_Ma_addRule 48 = .ok (.invokevirtual 39, 3) := by decide +kernel
theorem d_Ma_addRule_51 : decode b_Ma_addRule 51 = .ok (.iinc 5 1, 3) := by decide +kernel
theorem d_Ma_addRule_54 : decode b_Ma_addRule 54 = .ok (.goto (-51), 3) := by decide +kernel
theorem d_Ma_addRule_57 : decode b_Ma_addRule 57 = .ok (.aload_n 0, 1) := by decide +kernel
theorem d_Ma_addRule_58 : decode b_Ma_addRule 58 = .ok (.dup, 1) := by decide +kernel
theorem d_Ma_addRule_59 : decode b_Ma_addRule 59 = .ok (.getfield 33, 3) := by decide +kernel
theorem d_Ma_addRule_62 : decode b_Ma_addRule 62 = .ok (.iconst 1, 1) := by decide +kernel
theorem d_Ma_addRule_63 : decode b_Ma_addRule 63 = .ok (.iadd, 1) := by decide +kernel
theorem d_Ma_addRule_64 : decode b_Ma_addRule 64 = .ok (.putfield 33, 3) := by decide +kernel
theorem d_Ma_addRule_67 : decode b_Ma_addRule 67 = .ok (.aload_n 0, 1) := by decide +kernel
theorem d_Ma_addRule_68 : decode b_Ma_addRule 68 = .ok (.getfield 33, 3) := by decide +kernel
theorem d_Ma_addRule_71 : decode b_Ma_addRule 71 = .ok (.iconst 1, 1) := by decide +kernel
theorem d_Ma_addRule_72 : decode b_Ma_addRule 72 = .ok (.isub, 1) := by decide +kernel
theorem d_Ma_addRule_73 : decode b_Ma_addRule 73 = .ok (.ireturn, 1) := by decide +kernel
theorem d_Ma_init_0 : decode b_Ma_init 0 = .ok (.aload_n 0, 1) := by decide +kernel
theorem d_Ma_init_1 : decode b_Ma_init 1 = .ok (.invokespecial 3, 3) := by decide +kernel
theorem d_Ma_init_4 : decode b_Ma_init 4 = .ok (.aload_n 0, 1) := by decide +kernel
theorem d_Ma_init_5 : decode b_Ma_init 5 = .ok (.new 9, 3) := by decide +kernel
theorem d_Ma_init_8 : decode b_Ma_init 8 = .ok (.dup, 1) := by decide +kernel
theorem d_Ma_init_9 : decode b_Ma_init 9 = .ok (.iconst 1, 1) := by decide +kernel
theorem d_Ma_init_10 : decode b_Ma_init 10 = .ok (.invokespecial 11, 3) := by decide +kernel
theorem d_Ma_init_13 : decode b_Ma_init 13 = .ok (.putfield 14, 3) := by decide +kernel
theorem d_Ma_init_16 : decode b_Ma_init 16 = .ok (.aload_n 0, 1) := by decide +kernel
theorem d_Ma_init_17 : decode b_Ma_init 17 = .ok (.new 9, 3) := by decide +kernel
theorem d_Ma_init_20 : decode b_Ma_init 20 = .ok (.dup, 1) := by decide +kernel
theorem d_Ma_init_21 : decode b_Ma_init 21 = .ok (.sipush 256, 3) := by decide +kernel
theorem d_Ma_init_24 : decode b_Ma_init 24 = .ok (.invokespecial 11, 3) := by decide +kernel
theorem d_Ma_init_27 : decode b_Ma_init 27 = .ok (.putfield 20, 3) := by decide +kernel
theorem d_Ma_init_30 : decode b_Ma_init 30 = .ok (.aload_n 0, 1) := by decide +kernel
theorem d_Ma_init_31 : decode b_Ma_init 31 = .ok (.new 9, 3) := by decide +kernel
theorem d_Ma_init_34 : decode b_Ma_init 34 = .ok (.dup, 1) := by decide +kernel
theorem d_Ma_init_35 : decode b_Ma_init 35 = .ok (.sipush 256, 3) := by decide +kernel
theorem d_Ma_init_38 : decode b_Ma_init 38 = .ok (.invokespecial 11, 3) := by decide +kernel
theorem d_Ma_init_41 : decode b_Ma_init 41 = .ok (.putfield 23, 3) := by decide +kernel
theorem d_Ma_init_44 : decode b_Ma_init 44 = .ok (.aload_n 0, 1) := by decide +kernel
theorem d_Ma_init_45 : decode b_Ma_init 45 = .ok (.iconst 1, 1) := by decide +kernel
theorem d_Ma_init_46 : decode b_Ma_init 46 = .ok (.invokevirtual 26, 3) := by decide +kernel
theorem d_Ma_init_49 : decode b_Ma_init 49 = .ok (.return_, 1) := by decide +kernel
theorem d_Ma_isState_0 : decode b_Ma_isState 0 = .ok (.iload_n 1, 1) := by decide +kernel
theorem d_Ma_isState_1 : decode b_Ma_isState 1 = .ok (.ifCond .lt 15, 3) := by decide +kernel
theorem d_Ma_isState_4 : decode b_Ma_isState 4 = .ok (.iload_n 1, 1) := by decide +kernel
theorem d_Ma_isState_5 : decode b_Ma_isState 5 = .ok (.aload_n 0, 1) := by decide +kernel
theorem d_Ma_isState_6 : decode b_Ma_isState 6 = .ok (.getfield 29, 3) := by decide +kernel
theorem d_Ma_isState_9 : decode b_Ma_isState 9 = .ok (.if_icmp .ge 7, 3) := by decide +kernel
theorem d_Ma_isState_12 : decode b_Ma_isState 12 = .ok (.iconst 1, 1) := by decide +kernel
theorem d_Ma_isState_13 : decode b_Ma_isState 13 = .ok (.goto 4, 3) := by decide +kernel
theorem d_Ma_isState_16 : decode b_Ma_isState 16 = .ok (.iconst 0, 1) := by decide +kernel
theorem d_Ma_isState_17 : decode b_Ma_isState 17 = .ok (.ireturn, 1) := by decide +kernel
theorem d_Ma_restart_0 : decode b_Ma_restart 0 = .ok (.aload_n 0, 1) := by decide +kernel
theorem d_Ma_restart_1 : decode b_Ma_restart 1 = .ok (.iconst 1, 1) := by decide +kernel
theorem d_Ma_restart_2 : decode b_Ma_restart 2 = .ok (.iload_n 1, 1) := by decide +kernel
theorem d_Ma_restart_3 : decode b_Ma_restart 3 = .ok (.ishl, 1) := by decide +kernel
theorem d_Ma_restart_4 : decode b_Ma_restart 4 = .ok (.putfield 29, 3) := by decide +kernel
theorem d_Ma_restart_7 : decode b_Ma_restart 7 = .ok (.aload_n 0, 1) := by decide +kernel
theorem d_Ma_restart_8 : decode b_Ma_restart 8 = .ok (.iconst 0, 1) := by decide +kernel
theorem d_Ma_restart_9 : decode b_Ma_restart 9 = .ok (.putfield 33, 3) := by decide +kernel
theorem d_Ma_restart_12 : decode b_Ma_restart 12 = .ok (.aload_n 0, 1) := by decide +kernel
theorem d_Ma_restart_13 : decode b_Ma_restart 13 = .ok (.getfield 14, 3) := by decide +kernel
theorem d_Ma_restart_16 : decode b_Ma_restart 16 = .ok (.invokevirtual 36, 3) := by decide +kernel
theorem d_Ma_restart_19 : decode b_Ma_restart 19 = .ok (.aload_n 0, 1) := by decide +kernel
theorem d_Ma_restart_20 : decode b_Ma_restart 20 = .ok (.getfield 20, 3) := by decide +kernel
theorem d_Ma_restart_23 : decode b_Ma_restart 23 = .ok (.invokevirtual 36, 3) := by decide +kernel
theorem d_Ma_restart_26 : decode b_Ma_restart 26 = .ok (.aload_n 0, 1) := by decide +kernel
theorem d_Ma_restart_27 : decode b_Ma_restart 27 = .ok (.getfield 23, 3) := by decide +kernel
theorem d_Ma_restart_30 : decode b_Ma_restart 30 = .ok (.invokevirtual 36, 3) := by decide +kernel
theorem d_Ma_restart_33 : decode b_Ma_restart 33 = .ok (.iconst 0, 1) := by decide +kernel
theorem d_Ma_restart_34 : decode b_Ma_restart 34 = .ok (.istore_n 2, 1) := by decide +kernel
theorem d_Ma_restart_35 : decode b_Ma_restart 35 = .ok (.iload_n 2, 1) := by decide +kernel
theorem d_Ma_restart_36 : decode b_Ma_restart 36 = .ok (.aload_n 0, 1) := by decide +kernel
theorem d_Ma_restart_37 : decode b_Ma_restart 37 = .ok (.getfield 29, 3) := by decide +kernel
theorem d_Ma_restart_40 : decode b_Ma_restart 40 = .ok (.if_icmp .ge 18, 3) := by decide +kernel
theorem d_Ma_restart_43 : decode b_Ma_restart 43 = .ok (.aload_n 0, 1) := by decide +kernel
theorem d_Ma_restart_44 : decode b_Ma_restart 44 = .ok (.getfield 14, 3) := by decide +kernel
theorem d_Ma_restart_47 : decode b_Ma_restart 47 = .ok (.iconst 0, 1) := by decide +kernel
theorem d_Ma_restart_48 : decode b_Ma_restart 48 = .ok (.iload_n 2, 1) := by decide +kernel
theorem d_Ma_restart_49 : decode b_Ma_restart 49 = .ok (.invokevirtual 39, 3) := by decide +kernel
theorem d_Ma_restart_52 : decode b_Ma_restart 52 = .ok (.iinc 2 1, 3) := by decide +kernel
theorem d_Ma_restart_55 : decode b_Ma_restart 55 = .ok (.goto (-20), 3) := by decide +kernel
theorem d_Ma_restart_58 : decode b_Ma_restart 58 = .ok (.return_, 1) := by decide +kernel
theorem d_Se_find_0 : decode b_Se_find 0 = .ok (.aload_n 0, 1) := by decide +kernel
theorem d_Se_find_1 : decode b_Se_find 1 = .ok (.getfield 37, 3) := by decide +kernel
theorem d_Se_find_4 : decode b_Se_find 4 = .ok (.sipush 256, 3) := by decide +kernel
theorem d_Se_find_7 : decode b_Se_find 7 = .ok (.if_icmp .ge 30, 3) := by decide +kernel
theorem d_Se_find_10 : decode b_Se_find 10 = .ok (.aload_n 0, 1) := by decide +kernel
theorem d_Se_find_11 : decode b_Se_find 11 = .ok (.getfield 20, 3) := by decide +kernel
theorem d_Se_find_14 : decode b_Se_find 14 = .ok (.aload_n 0, 1) := by decide +kernel
theorem d_Se_find_15 : decode b_Se_find 15 = .ok (.getfield 37, 3) := by decide +kernel
theorem d_Se_find_18 : decode b_Se_find 18 = .ok (.iload_n 1, 1) := by decide +kernel
theorem d_Se_find_19 : decode b_Se_find 19 = .ok (.iastore, 1) := by decide +kernel
theorem d_Se_find_20 : decode b_Se_find 20 = .ok (.aload_n 0, 1) := by decide +kernel
theorem d_Se_find_21 : decode b_Se_find 21 = .ok (.dup, 1) := by decide +kernel
theorem d_Se_find_22 : decode b_Se_find 22 = .ok (.getfield 37, 3) := by decide +kernel
theorem d_Se_find_25 : decode b_Se_find 25 = .ok (.iconst 1, 1) := by decide +kernel
theorem d_Se_find_26 : decode b_Se_find 26 = .ok (.iadd, 1) := by decide +kernel
theorem d_Se_find_27 : decode b_Se_find 27 = .ok (.putfield 37, 3) := by decide +kernel
theorem d_Se_find_30 : decode b_Se_find 30 = .ok (.aload_n 0, 1) := by decide +kernel
theorem d_Se_find_31 : decode b_Se_find 31 = .ok (.getfield 24, 3) := by decide +kernel
theorem d_Se_find_34 : decode b_Se_find 34 = .ok (.iload_n 1, 1) := by decide +kernel
theorem d_Se_find_35 : decode b_Se_find 35 = .ok (.iload_n 2, 1) := by decide +kernel
theorem d_Se_find_36 : decode b_Se_find 36 = .ok (.iastore, 1) := by decide +kernel
theorem d_Se_find_37 : decode b_Se_find 37 = .ok (.return_, 1) := by decide +kernel
theorem d_Se_init_0 : decode b_Se_init 0 = .ok (.aload_n 0, 1) := by decide +kernel
theorem d_Se_init_1 : decode b_Se_init 1 = .ok (.invokespecial 3, 3) := by decide +kernel
theorem d_Se_init_4 : decode b_Se_init 4 = .ok (.aload_n 0, 1) := by decide +kernel
theorem d_Se_init_5 : decode b_Se_init 5 = .ok (.new 9, 3) := by decide +kernel
theorem d_Se_init_8 : decode b_Se_init 8 = .ok (.dup, 1) := by decide +kernel
theorem d_Se_init_9 : decode b_Se_init 9 = .ok (.iconst 1, 1) := by decide +kernel
theorem d_Se_init_10 : decode b_Se_init 10 = .ok (.invokespecial 11, 3) := by decide +kernel
theorem d_Se_init_13 : decode b_Se_init 13 = .ok (.putfield 14, 3) := by decide +kernel
theorem d_Se_init_16 : decode b_Se_init 16 = .ok (.aload_n 0, 1) := by decide +kernel
theorem d_Se_init_17 : decode b_Se_init 17 = .ok (.sipush 256, 3) := by decide +kernel
theorem d_Se_init_20 : decode b_Se_init 20 = .ok (.newarray .int, 2) := by decide +kernel
theorem d_Se_init_22 : decode b_Se_init 22 = .ok (.putfield 20, 3) := by decide +kernel
theorem d_Se_init_25 : decode b_Se_init 25 = .ok (.aload_n 0, 1) := by decide +kernel
theorem d_Se_init_26 : decode b_Se_init 26 = .ok (.sipush 256, 3) := by decide +kernel
theorem d_Se_init_29 : decode b_Se_init 29 = .ok (.newarray .int, 2) := by decide +kernel
theorem d_Se_init_31 : decode b_Se_init 31 = .ok (.putfield 24, 3) := by decide +kernel
theorem d_Se_init_34 : decode b_Se_init 34 = .ok (.aload_n 0, 1) := by decide +kernel
theorem d_Se_init_35 : decode b_Se_init 35 = .ok (.sipush 256, 3) := by decide +kernel
theorem d_Se_init_38 : decode b_Se_init 38 = .ok (.newarray .int, 2) := by decide +kernel
theorem d_Se_init_40 : decode b_Se_init 40 = .ok (.putfield 27, 3) := by decide +kernel
theorem d_Se_init_43 : decode b_Se_init 43 = .ok (.aload_n 0, 1) := by decide +kernel
theorem d_Se_init_44 : decode b_Se_init 44 = .ok (.sipush 256, 3) := by decide +kernel
theorem d_Se_init_47 : decode b_Se_init 47 = .ok (.newarray .int, 2) := by decide +kernel
theorem d_Se_init_49 : decode b_Se_init 49 = .ok (.putfield 30, 3) := by decide +kernel
theorem d_Se_init_52 : decode b_Se_init 52 = .ok (.return_, 1) := by decide +kernel
theorem d_Se_listEnded_0 : decode b_Se_listEnded 0 = .ok (.iconst 0, 1) := by decide +kernel
theorem d_Se_listEnded_1 : decode b_Se_listEnded 1 = .ok (.istore_n 3, 1) := by decide +kernel
theorem d_Se_listEnded_2 : decode b_Se_listEnded 2 = .ok (.iconst 0, 1) := by decide +kernel
theorem d_Se_listEnded_3 : decode b_Se_listEnded 3 = .ok (.istore 4, 2) := by decide +kernel
theorem d_Se_listEnded_5 : decode b_Se_listEnded 5 = .ok (.iload 4, 2) := by decide +kernel
theorem d_Se_listEnded_7 : decode b_Se_listEnded 7 = .ok (.iload_n 2, 1) := by decide +kernel
theorem d_Se_listEnded_8 : decode b_Se_listEnded 8 = .ok (.if_icmp .ge 143, 3) := by decide +kernel
theorem d_Se_listEnded_11 : decode b_Se_listEnded 11 = .ok (.iconst 0, 1) := by decide +kernel
theorem d_Se_listEnded_12 : decode b_Se_listEnded 12 = .ok (.istore 5, 2) := by decide +kernel
theorem d_Se_listEnded_14 : decode b_Se_listEnded 14 = .ok (.aload_n 0, 1) := by decide +kernel
theorem d_Se_listEnded_15 : decode b_Se_listEnded 15 = .ok (.getfield 14, 3) := by decide +kernel
theorem d_Se_listEnded_18 : decode b_Se_listEnded 18 = .ok (.iconst 0, 1) := by decide +kernel
theorem d_Se_listEnded_19 : decode b_Se_listEnded 19 = .ok (.iload 4, 2) := by decide +kernel
theorem d_Se_listEnded_21 : decode b_Se_listEnded 21 = .ok (.invokevirtual 49, 3) := by decide +kernel
theorem d_Se_listEnded_24 : decode b_Se_listEnded 24 = .ok (.ifCond .eq 24, 3) := by decide +kernel
theorem d_Se_listEnded_27 : decode b_Se_listEnded 27 = .ok (.aload_n 0, 1) := by decide +kernel
theorem d_Se_listEnded_28 : decode b_Se_listEnded 28 = .ok (.getfield 14, 3) := by decide +kernel
theorem d_Se_listEnded_31 : decode b_Se_listEnded 31 = .ok (.iconst 0, 1) := by decide +kernel
theorem d_Se_listEnded_32 : decode b_Se_listEnded 32 = .ok (.iload 4, 2) := by decide +kernel
theorem d_Se_listEnded_34 : decode b_Se_listEnded 34 = .ok (.invokevirtual 53, 3) := by decide +kernel
theorem d_Se_listEnded_37 : decode b_Se_listEnded 37 = .ok (.aload_n 0, 1) := by decide +kernel
theorem d_Se_listEnded_38 : decode b_Se_listEnded 38 = .ok (.getfield 27, 3) := by decide +kernel
theorem d_Se_listEnded_41 : decode b_Se_listEnded 41 = .ok (.iconst 0, 1) := by decide +kernel
theorem d_Se_listEnded_42 : decode b_Se_listEnded 42 = .ok (.iload 4, 2) := by decide +kernel
theorem d_Se_listEnded_44 : decode b_Se_listEnded 44 = .ok (.iastore, 1) := by decide +kernel
theorem d_Se_listEnded_45 : decode b_Se_listEnded 45 = .ok (.iconst 1, 1) := by decide +kernel
theorem d_Se_listEnded_46 : decode b_Se_listEnded 46 = .ok (.istore 5, 2) := by decide +kernel
theorem d_Se_listEnded_48 : decode b_Se_listEnded 48 = .ok (.iconst 0, 1) := by decide +kernel
theorem d_Se_listEnded_49 : decode b_Se_listEnded 49 = .ok (.istore 6, 2) := by decide +kernel
theorem d_Se_listEnded_51 : decode b_Se_listEnded 51 = .ok (.iload 5, 2) := by decide +kernel
theorem d_Se_listEnded_53 : decode b_Se_listEnded 53 = .ok (.ifCond .le 92, 3) := by decide +kernel
theorem d_Se_listEnded_56 : decode b_Se_listEnded 56 = .ok (.iload 6, 2) := by decide +kernel
theorem d_Se_listEnded_58 : decode b_Se_listEnded 58 = .ok (.sipush 512, 3) := by decide +kernel
theorem d_Se_listEnded_61 : decode b_Se_listEnded 61 = .ok (.if_icmp .ge 84, 3) := by decide +kernel
theorem d_Se_listEnded_64 : decode b_Se_listEnded 64 = .ok (.aload_n 0, 1) := by decide +kernel
theorem d_Se_listEnded_65 : decode b_Se_listEnded 65 = .ok (.getfield 14, 3) := by decide +kernel
theorem d_Se_listEnded_68 : decode b_Se_listEnded 68 = .ok (.iconst 0, 1) := by decide +kernel
theorem d_Se_listEnded_69 : decode b_Se_listEnded 69 = .ok (.aload_n 1, 1) := by decide +kernel
theorem d_Se_listEnded_70 : decode b_Se_listEnded 70 = .ok (.aload_n 0, 1) := by decide +kernel
theorem d_Se_listEnded_71 : decode b_Se_listEnded 71 = .ok (.getfield 27, 3) := by decide +kernel
theorem d_Se_listEnded_74 : decode b_Se_listEnded 74 = .ok (.iload 5, 2) := by decide +kernel
theorem d_Se_listEnded_76 : decode b_Se_listEnded 76 = .ok (.iconst 1, 1) := by decide +kernel
theorem d_Se_listEnded_77 : decode b_Se_listEnded 77 = .ok (.isub, 1) := by decide +kernel
theorem d_Se_listEnded_78 : decode b_Se_listEnded 78 = .ok (.iaload, 1) := by decide +kernel
theorem d_Se_listEnded_79 : decode b_Se_listEnded 79 = .ok (.invokevirtual 41, 3) := by decide +kernel
theorem d_Se_listEnded_82 : decode b_Se_listEnded 82 = .ok (.istore 7, 2) := by decide +kernel
theorem d_Se_listEnded_84 : decode b_Se_listEnded 84 = .ok (.iload 7, 2) := by decide +kernel
theorem d_Se_listEnded_86 : decode b_Se_listEnded 86 = .ok (.iconst (-1), 1) := by decide +kernel
theorem d_Se_listEnded_87 : decode b_Se_listEnded 87 = .ok (.if_icmp .eq 26, 3) := by decide +kernel
theorem d_Se_listEnded_90 : decode b_Se_listEnded 90 = .ok (.iload 5, 2) := by decide +kernel
theorem d_Se_listEnded_92 : decode b_Se_listEnded 92 = .ok (.sipush 256, 3) := by decide +kernel
theorem d_Se_listEnded_95 : decode b_Se_listEnded 95 = .ok (.if_icmp .ge 18, 3) := by decide +kernel
theorem d_Se_listEnded_98 : decode b_Se_listEnded 98 = .ok (.aload_n 0, 1) := by decide +kernel
theorem d_Se_listEnded_99 : decode b_Se_listEnded 99 = .ok (.getfield 27, 3) := by decide +kernel
theorem d_Se_listEnded_102 : decode b_Se_listEnded 102 = .ok (.iload 5, 2) := by decide +kernel
theorem d_Se_listEnded_104 : decode b_Se_listEnded 104 = .ok (.iload 7, 2) := by decide +kernel
theorem d_Se_listEnded_106 : decode b_Se_listEnded 106 = .ok (.iastore, 1) := by decide +kernel
theorem d_Se_listEnded_107 : decode b_Se_listEnded 107 = .ok (.iinc 5 1, 3) := by decide +kernel
theorem d_Se_listEnded_110 : decode b_Se_listEnded 110 = .ok (.goto 29, 3) := by decide +kernel
theorem d_Se_listEnded_113 : decode b_Se_listEnded 113 = .ok (.iload_n 3, 1) := by decide +kernel
theorem d_Se_listEnded_114 : decode b_Se_listEnded 114 = .ok (.sipush 256, 3) := by decide +kernel
theorem d_Se_listEnded_117 : decode b_Se_listEnded 117 = .ok (.if_icmp .ge 22, 3) := by decide +kernel
theorem d_Se_listEnded_120 : decode b_Se_listEnded 120 = .ok (.iinc 5 (-1), 3) := by decide +kernel
theorem d_Se_listEnded_123 : decode b_Se_listEnded 123 = .ok (.aload_n 0, 1) := by decide +kernel
theorem d_Se_listEnded_124 : decode b_Se_listEnded 124 = .ok (.getfield 30, 3) := by decide +kernel
theorem d_Se_listEnded_127 : decode b_Se_listEnded 127 = .ok (.iload_n 3, 1) := by decide +kernel
theorem d_Se_listEnded_128 : decode b_Se_listEnded 128 = .ok (.aload_n 0, 1) := by decide +kernel
theorem d_Se_listEnded_129 : decode b_Se_listEnded 129 = .ok (.getfield 27, 3) := by decide +kernel
theorem d_Se_listEnded_132 : decode b_Se_listEnded 132 = .ok (.iload 5, 2) := by decide +kernel
theorem d_Se_listEnded_134 : decode b_Se_listEnded 134 = .ok (.iaload, 1) := by decide +kernel
theorem d_Se_listEnded_135 : decode b_Se_listEnded 135 = .ok (.iastore, 1) := by decide +kernel
theorem d_Se_listEnded_136 : decode b_Se_listEnded 136 = .ok (.iinc 3 1, 3) := by decide +kernel
theorem d_Se_listEnded_139 : decode b_Se_listEnded 139 = .ok (.iinc 6 1, 3) := by decide +kernel
theorem d_Se_listEnded_142 : decode b_Se_listEnded 142 = .ok (.goto (-91), 3) := by decide +kernel
theorem d_Se_listEnded_145 : decode b_Se_listEnded 145 = .ok (.iinc 4 1, 3) := by decide +kernel
theorem d_Se_listEnded_148 : decode b_Se_listEnded 148 = .ok (.goto (-143), 3) := by decide +kernel
theorem d_Se_listEnded_151 : decode b_Se_listEnded 151 = .ok (.iload_n 3, 1) := by decide +kernel
theorem d_Se_listEnded_152 : decode b_Se_listEnded 152 = .ok (.ireturn, 1) := by decide +kernel
theorem d_Se_openAll_0 : decode b_Se_openAll 0 = .ok (.aload_n 0, 1) := by decide +kernel
theorem d_Se_openAll_1 : decode b_Se_openAll 1 = .ok (.getfield 14, 3) := by decide +kernel
theorem d_Se_openAll_4 : decode b_Se_openAll 4 = .ok (.iconst 0, 1) := by decide +kernel
theorem d_Se_openAll_5 : decode b_Se_openAll 5 = .ok (.aload_n 1, 1) := by decide +kernel
theorem d_Se_openAll_6 : decode b_Se_openAll 6 = .ok (.iload_n 2, 1) := by decide +kernel
theorem d_Se_openAll_7 : decode b_Se_openAll 7 = .ok (.invokevirtual 33, 3) := by decide +kernel
theorem d_Se_openAll_10 : decode b_Se_openAll 10 = .ok (.aload_n 0, 1) := by decide +kernel
theorem d_Se_openAll_11 : decode b_Se_openAll 11 = .ok (.iconst 0, 1) := by decide +kernel
theorem d_Se_openAll_12 : decode b_Se_openAll 12 = .ok (.putfield 37, 3) := by decide +kernel
theorem d_Se_openAll_15 : decode b_Se_openAll 15 = .ok (.return_, 1) := by decide +kernel
theorem d_Se_spread_0 : decode b_Se_spread 0 = .ok (.iconst 0, 1) := by decide +kernel
theorem d_Se_spread_1 : decode b_Se_spread 1 = .ok (.istore_n 2, 1) := by decide +kernel
theorem d_Se_spread_2 : decode b_Se_spread 2 = .ok (.iload_n 2, 1) := by decide +kernel
theorem d_Se_spread_3 : decode b_Se_spread 3 = .ok (.aload_n 0, 1) := by decide +kernel
theorem d_Se_spread_4 : decode b_Se_spread 4 = .ok (.getfield 37, 3) := by decide +kernel
theorem d_Se_spread_7 : decode b_Se_spread 7 = .ok (.if_icmp .ge 84, 3) := by decide +kernel
theorem d_Se_spread_10 : decode b_Se_spread 10 = .ok (.iload_n 2, 1) := by decide +kernel
theorem d_Se_spread_11 : decode b_Se_spread 11 = .ok (.sipush 256, 3) := by decide +kernel
theorem d_Se_spread_14 : decode b_Se_spread 14 = .ok (.if_icmp .ge 77, 3) := by decide +kernel
theorem d_Se_spread_17 : decode b_Se_spread 17 = .ok (.aload_n 0, 1) := by decide +kernel
theorem d_Se_spread_18 : decode b_Se_spread 18 = .ok (.getfield 20, 3) := by decide +kernel
theorem d_Se_spread_21 : decode b_Se_spread 21 = .ok (.iload_n 2, 1) := by decide +kernel
theorem d_Se_spread_22 : decode b_Se_spread 22 = .ok (.iaload, 1) := by decide +kernel
theorem d_Se_spread_23 : decode b_Se_spread 23 = .ok (.istore_n 3, 1) := by decide +kernel
theorem d_Se_spread_24 : decode b_Se_spread 24 = .ok (.aload_n 0, 1) := by decide +kernel
theorem d_Se_spread_25 : decode b_Se_spread 25 = .ok (.getfield 14, 3) := by decide +kernel
theorem d_Se_spread_28 : decode b_Se_spread 28 = .ok (.iconst 0, 1) := by decide +kernel
theorem d_Se_spread_29 : decode b_Se_spread 29 = .ok (.aload_n 1, 1) := by decide +kernel
theorem d_Se_spread_30 : decode b_Se_spread 30 = .ok (.iload_n 3, 1) := by decide +kernel
theorem d_Se_spread_31 : decode b_Se_spread 31 = .ok (.invokevirtual 41, 3) := by decide +kernel
theorem d_Se_spread_34 : decode b_Se_spread 34 = .ok (.istore 4, 2) := by decide +kernel
theorem d_Se_spread_36 : decode b_Se_spread 36 = .ok (.iconst 0, 1) := by decide +kernel
theorem d_Se_spread_37 : decode b_Se_spread 37 = .ok (.istore 5, 2) := by decide +kernel
theorem d_Se_spread_39 : decode b_Se_spread 39 = .ok (.iload 4, 2) := by decide +kernel
theorem d_Se_spread_41 : decode b_Se_spread 41 = .ok (.iconst (-1), 1) := by decide +kernel
theorem d_Se_spread_42 : decode b_Se_spread 42 = .ok (.if_icmp .eq 43, 3) := by decide +kernel
theorem d_Se_spread_45 : decode b_Se_spread 45 = .ok (.iload 5, 2) := by decide +kernel
theorem d_Se_spread_47 : decode b_Se_spread 47 = .ok (.sipush 256, 3) := by decide +kernel
theorem d_Se_spread_50 : decode b_Se_spread 50 = .ok (.if_icmp .ge 35, 3) := by decide +kernel
theorem d_Se_spread_53 : decode b_Se_spread 53 = .ok (.aload_n 0, 1) := by decide +kernel
theorem d_Se_spread_54 : decode b_Se_spread 54 = .ok (.iload 4, 2) := by decide +kernel
theorem d_Se_spread_56 : decode b_Se_spread 56 = .ok (.aload_n 0, 1) := by decide +kernel
theorem d_Se_spread_57 : decode b_Se_spread 57 = .ok (.getfield 24, 3) := by decide +kernel
theorem d_Se_spread_60 : decode b_Se_spread 60 = .ok (.iload_n 3, 1) := by decide +kernel
theorem d_Se_spread_61 : decode b_Se_spread 61 = .ok (.iaload, 1) := by decide +kernel
theorem d_Se_spread_62 : decode b_Se_spread 62 = .ok (.iconst 1, 1) := by decide +kernel
theorem d_Se_spread_63 : decode b_Se_spread 63 = .ok (.iadd, 1) := by decide +kernel
theorem d_Se_spread_64 : decode b_Se_spread 64 = .ok (.invokevirtual 45, 3) := by decide +kernel
theorem d_Se_spread_67 : decode b_Se_spread 67 = .ok (.aload_n 0, 1) := by decide +kernel
theorem d_Se_spread_68 : decode b_Se_spread 68 = .ok (.getfield 14, 3) := by decide +kernel
theorem d_Se_spread_71 : decode b_Se_spread 71 = .ok (.iconst 0, 1) := by decide +kernel
theorem d_Se_spread_72 : decode b_Se_spread 72 = .ok (.aload_n 1, 1) := by decide +kernel
theorem d_Se_spread_73 : decode b_Se_spread 73 = .ok (.iload_n 3, 1) := by decide +kernel
theorem d_Se_spread_74 : decode b_Se_spread 74 = .ok (.invokevirtual 41, 3) := by decide +kernel
theorem d_Se_spread_77 : decode b_Se_spread 77 = .ok (.istore 4, 2) := by decide +kernel
theorem d_Se_spread_79 : decode b_Se_spread 79 = .ok (.iinc 5 1, 3) := by decide +kernel
theorem d_Se_spread_82 : decode b_Se_spread 82 = .ok (.goto (-43), 3) := by decide +kernel
theorem d_Se_spread_85 : decode b_Se_spread 85 = .ok (.iinc 2 1, 3) := by decide +kernel
theorem d_Se_spread_88 : decode b_Se_spread 88 = .ok (.goto (-86), 3) := by decide +kernel
theorem d_Se_spread_91 : decode b_Se_spread 91 = .ok (.return_, 1) := by decide +kernel
end
section
theorem d_SL_begin_0 : decode b_SL_begin 0 = .ok (.iload_n 1, 1) := by decide +kernel
theorem d_SL_begin_1 : decode b_SL_begin 1 = .ok (.iconst 1, 1) := by decide +kernel
theorem d_SL_begin_2 : decode b_SL_begin 2 = .ok (.if_icmp .lt 9, 3) := by decide +kernel
theorem d_SL_begin_5 : decode b_SL_begin 5 = .ok (.iload_n 1, 1) := by decide +kernel
theorem d_SL_begin_6 : decode b_SL_begin 6 = .ok (.bipush 8, 2) := by decide +kernel
theorem d_SL_begin_8 : decode b_SL_begin 8 = .ok (.if_icmp .le 13, 3) := by decide +kernel
theorem d_SL_begin_11 : decode b_SL_begin 11 = .ok (.new 25, 3) := by decide +kernel
theorem d_SL_begin_14 : decode b_SL_begin 14 = .ok (.dup, 1) := by decide +kernel
theorem d_SL_begin_15 : decode b_SL_begin 15 = .ok (.ldc 27, 2) := by decide +kernel
theorem d_SL_begin_17 : decode b_SL_begin 17 = .ok (.invokespecial 29, 3) := by decide +kernel
theorem d_SL_begin_20 : decode b_SL_begin 20 = .ok (.athrow, 1) := by decide +kernel
theorem d_SL_begin_21 : decode b_SL_begin 21 = .ok (.aload_n 0, 1) := by decide +kernel
theorem d_SL_begin_22 : decode b_SL_begin 22 = .ok (.getfield 10, 3) := by decide +kernel
theorem d_SL_begin_25 : decode b_SL_begin 25 = .ok (.iload_n 1, 1) := by decide +kernel
theorem d_SL_begin_26 : decode b_SL_begin 26 = .ok (.invokevirtual 32, 3) := by decide +kernel
theorem d_SL_begin_29 : decode b_SL_begin 29 = .ok (.aload_n 0, 1) := by decide +kernel
theorem d_SL_begin_30 : decode b_SL_begin 30 = .ok (.getfield 21, 3) := by decide +kernel
theorem d_SL_begin_33 : decode b_SL_begin 33 = .ok (.invokevirtual 36, 3) := by decide +kernel
theorem d_SL_begin_36 : decode b_SL_begin 36 = .ok (.return_, 1) := by decide +kernel
theorem d_SL_count_0 : decode b_SL_count 0 = .ok (.aload_n 0, 1) := by decide +kernel
theorem d_SL_count_1 : decode b_SL_count 1 = .ok (.iload_n 1, 1) := by decide +kernel
theorem d_SL_count_2 : decode b_SL_count 2 = .ok (.invokevirtual 81, 3) := by decide +kernel
theorem d_SL_count_5 : decode b_SL_count 5 = .ok (.aload_n 0, 1) := by decide +kernel
theorem d_SL_count_6 : decode b_SL_count 6 = .ok (.getfield 21, 3) := by decide +kernel
theorem d_SL_count_9 : decode b_SL_count 9 = .ok (.iload_n 1, 1) := by decide +kernel
theorem d_SL_count_10 : decode b_SL_count 10 = .ok (.invokevirtual 87, 3) := by decide +kernel
theorem d_SL_count_13 : decode b_SL_count 13 = .ok (.aload_n 0, 1) := by decide +kernel
theorem d_SL_count_14 : decode b_SL_count 14 = .ok (.getfield 21, 3) := by decide +kernel
theorem d_SL_count_17 : decode b_SL_count 17 = .ok (.getfield 90, 3) := by decide +kernel
theorem d_SL_count_20 : decode b_SL_count 20 = .ok (.iload_n 1, 1) := by decide +kernel
theorem d_SL_count_21 : decode b_SL_count 21 = .ok (.invokevirtual 100, 3) := by decide +kernel
theorem d_SL_count_24 : decode b_SL_count 24 = .ok (.ireturn, 1) := by decide +kernel
theorem d_SL_first_0 : decode b_SL_first 0 = .ok (.aload_n 0, 1) := by decide +kernel
theorem d_SL_first_1 : decode b_SL_first 1 = .ok (.iload_n 1, 1) := by decide +kernel
theorem d_SL_first_2 : decode b_SL_first 2 = .ok (.invokevirtual 81, 3) := by decide +kernel
theorem d_SL_first_5 : decode b_SL_first 5 = .ok (.aload_n 0, 1) := by decide +kernel
theorem d_SL_first_6 : decode b_SL_first 6 = .ok (.iload_n 2, 1) := by decide +kernel
theorem d_SL_first_7 : decode b_SL_first 7 = .ok (.invokevirtual 84, 3) := by decide +kernel
theorem d_SL_first_10 : decode b_SL_first 10 = .ok (.aload_n 0, 1) := by decide +kernel
theorem d_SL_first_11 : decode b_SL_first 11 = .ok (.getfield 21, 3) := by decide +kernel
theorem d_SL_first_14 : decode b_SL_first 14 = .ok (.iload_n 1, 1) := by decide +kernel
theorem d_SL_first_15 : decode b_SL_first 15 = .ok (.invokevirtual 87, 3) := by decide +kernel
theorem d_SL_first_18 : decode b_SL_first 18 = .ok (.aload_n 0, 1) := by decide +kernel
theorem d_SL_first_19 : decode b_SL_first 19 = .ok (.getfield 21, 3) := by decide +kernel
theorem d_SL_first_22 : decode b_SL_first 22 = .ok (.getfield 90, 3) := by decide +kernel
theorem d_SL_first_25 : decode b_SL_first 25 = .ok (.iload_n 1, 1) := by decide +kernel
theorem d_SL_first_26 : decode b_SL_first 26 = .ok (.iload_n 2, 1) := by decide +kernel
theorem d_SL_first_27 : decode b_SL_first 27 = .ok (.invokevirtual 104, 3) := by decide +kernel
theorem d_SL_first_30 : decode b_SL_first 30 = .ok (.ireturn, 1) := by decide +kernel
theorem d_SL_formula_0 : decode b_SL_formula 0 = .ok (.iload_n 1, 1) := by decide +kernel
theorem d_SL_formula_1 : decode b_SL_formula 1 = .ok (.ifCond .lt 9, 3) := by decide +kernel
theorem d_SL_formula_4 : decode b_SL_formula 4 = .ok (.iload_n 1, 1) := by decide +kernel
theorem d_SL_formula_5 : decode b_SL_formula 5 = .ok (.bipush 7, 2) := by decide +kernel
theorem d_SL_formula_7 : decode b_SL_formula 7 = .ok (.if_icmp .le 13, 3) := by decide +kernel
theorem d_SL_formula_10 : decode b_SL_formula 10 = .ok (.new 25, 3) := by decide +kernel
theorem d_SL_formula_13 : decode b_SL_formula 13 = .ok (.dup, 1) := by decide +kernel
theorem d_SL_formula_14 : decode b_SL_formula 14 = .ok (.ldc 62, 2) := by decide +kernel
theorem d_SL_formula_16 : decode b_SL_formula 16 = .ok (.invokespecial 29, 3) := by decide +kernel
theorem d_SL_formula_19 : decode b_SL_formula 19 = .ok (.athrow, 1) := by decide +kernel
theorem d_SL_formula_20 : decode b_SL_formula 20 = .ok (.iload_n 1, 1) := by decide +kernel
theorem d_SL_formula_21 : decode b_SL_formula 21 = .ok (.ifCond .ne 12, 3) := by decide +kernel
theorem d_SL_formula_24 : decode b_SL_formula 24 = .ok (.aload_n 0, 1) := by decide +kernel
theorem d_SL_formula_25 : decode b_SL_formula 25 = .ok (.iload_n 2, 1) := by decide +kernel
theorem d_SL_formula_26 : decode b_SL_formula 26 = .ok (.iload_n 3, 1) := by decide +kernel
theorem d_SL_formula_27 : decode b_SL_formula 27 = .ok (.invokevirtual 39, 3) := by decide +kernel
theorem d_SL_formula_30 : decode b_SL_formula 30 = .ok (.goto 42, 3) := by decide +kernel
theorem d_SL_formula_33 : decode b_SL_formula 33 = .ok (.aload_n 0, 1) := by decide +kernel
theorem d_SL_formula_34 : decode b_SL_formula 34 = .ok (.getfield 21, 3) := by decide +kernel
theorem d_SL_formula_37 : decode b_SL_formula 37 = .ok (.iload_n 2, 1) := by decide +kernel
theorem d_SL_formula_38 : decode b_SL_formula 38 = .ok (.invokevirtual 64, 3) := by decide +kernel
theorem d_SL_formula_41 : decode b_SL_formula 41 = .ok (.ifCond .eq 21, 3) := by decide +kernel
theorem d_SL_formula_44 : decode b_SL_formula 44 = .ok (.iload_n 1, 1) := by decide +kernel
theorem d_SL_formula_45 : decode b_SL_formula 45 = .ok (.invokestatic 67, 3) := by decide +kernel
theorem d_SL_formula_48 : decode b_SL_formula 48 = .ok (.ifCond .eq 24, 3) := by decide +kernel
theorem d_SL_formula_51 : decode b_SL_formula 51 = .ok (.aload_n 0, 1) := by decide +kernel
theorem d_SL_formula_52 : decode b_SL_formula 52 = .ok (.getfield 21, 3) := by decide +kernel
theorem d_SL_formula_55 : decode b_SL_formula 55 = .ok (.iload_n 3, 1) := by decide +kernel
theorem d_SL_formula_56 : decode b_SL_formula 56 = .ok (.invokevirtual 64, 3) := by decide +kernel
theorem d_SL_formula_59 : decode b_SL_formula 59 = .ok (.ifCond .ne 13, 3) := by decide +kernel
theorem d_SL_formula_62 : decode b_SL_formula 62 = .ok (.new 25, 3) := by decide +kernel
theorem d_SL_formula_65 : decode b_SL_formula 65 = .ok (.dup, 1) := by decide +kernel
theorem d_SL_formula_66 : decode b_SL_formula 66 = .ok (.ldc 70, 2) := by decide +kernel
theorem d_SL_formula_68 : decode b_SL_formula 68 = .ok (.invokespecial 29, 3) := by decide +kernel
theorem d_SL_formula_71 : decode b_SL_formula 71 = .ok (.athrow, 1) := by decide +kernel
theorem d_SL_formula_72 : decode b_SL_formula 72 = .ok (.aload_n 0, 1) := by decide +kernel
theorem d_SL_formula_73 : decode b_SL_formula 73 = .ok (.getfield 21, 3) := by decide +kernel
theorem d_SL_formula_76 : decode b_SL_formula 76 = .ok (.getfield 72, 3) := by decide +kernel
theorem d_SL_formula_79 : decode b_SL_formula 79 = .ok (.bipush 60, 2) := by decide +kernel
theorem d_SL_formula_81 : decode b_SL_formula 81 = .ok (.if_icmp .lt 13, 3) := by decide +kernel
theorem d_SL_formula_84 : decode b_SL_formula 84 = .ok (.new 53, 3) := by decide +kernel
theorem d_SL_formula_87 : decode b_SL_formula 87 = .ok (.dup, 1) := by decide +kernel
theorem d_SL_formula_88 : decode b_SL_formula 88 = .ok (.ldc 75, 2) := by decide +kernel
theorem d_SL_formula_90 : decode b_SL_formula 90 = .ok (.invokespecial 57, 3) := by decide +kernel
theorem d_SL_formula_93 : decode b_SL_formula 93 = .ok (.athrow, 1) := by decide +kernel
theorem d_SL_formula_94 : decode b_SL_formula 94 = .ok (.aload_n 0, 1) := by decide +kernel
theorem d_SL_formula_95 : decode b_SL_formula 95 = .ok (.getfield 21, 3) := by decide +kernel
theorem d_SL_formula_98 : decode b_SL_formula 98 = .ok (.iload_n 1, 1) := by decide +kernel
theorem d_SL_formula_99 : decode b_SL_formula 99 = .ok (.iload_n 2, 1) := by decide +kernel
theorem d_SL_formula_100 : decode b_SL_formula 100 = .ok (.iload_n 3, 1) := by decide +kernel
theorem d_SL_formula_101 : decode b_SL_formula 101 = .ok (.invokevirtual 77, 3) := by decide +kernel
theorem d_SL_formula_104 : decode b_SL_formula 104 = .ok (.ireturn, 1) := by decide +kernel
theorem d_SL_hasTwoParts_0 : decode b_SL_hasTwoParts 0 = .ok (.iload_n 0, 1) := by decide +kernel
theorem d_SL_hasTwoParts_1 : decode b_SL_hasTwoParts 1 = .ok (.iconst 2, 1) := by decide +kernel
theorem d_SL_hasTwoParts_2 : decode b_SL_hasTwoParts 2 = .ok (.if_icmp .eq 19, 3) := by decide +kernel
theorem d_SL_hasTwoParts_5 : decode b_SL_hasTwoParts 5 = .ok (.iload_n 0, 1) := by decide +kernel
theorem d_SL_hasTwoParts_6 : decode b_SL_hasTwoParts 6 = .ok (.iconst 3, 1) := by decide +kernel
theorem d_SL_hasTwoParts_7 : decode b_SL_hasTwoParts 7 = .ok (.if_icmp .eq 14, 3) := by decide +kernel
theorem d_SL_hasTwoParts_10 : decode b_SL_hasTwoParts 10 = .ok (.iload_n 0, 1) := by decide +kernel
theorem d_SL_hasTwoParts_11 : decode b_SL_hasTwoParts 11 = .ok (.iconst 5, 1) := by decide +kernel
theorem d_SL_hasTwoParts_12 : decode b_SL_hasTwoParts 12 = .ok (.if_icmp .eq 9, 3) := by decide +kernel
theorem d_SL_hasTwoParts_15 : decode b_SL_hasTwoParts 15 = .ok (.iload_n 0, 1) := by decide +kernel
theorem d_SL_hasTwoParts_16 : decode b_SL_hasTwoParts 16 = .ok (.bipush 7, 2) := by decide +kernel
theorem d_SL_hasTwoParts_18 : decode b_SL_hasTwoParts 18 = .ok (.if_icmp .ne 7, 3) := by decide +kernel
theorem d_SL_hasTwoParts_21 : decode b_SL_hasTwoParts 21 = .ok (.iconst 1, 1) := by decide +kernel
theorem d_SL_hasTwoParts_22 : decode b_SL_hasTwoParts 22 = .ok (.goto 4, 3) := by decide +kernel
theorem d_SL_hasTwoParts_25 : decode b_SL_hasTwoParts 25 = .ok (.iconst 0, 1) := by decide +kernel
theorem d_SL_hasTwoParts_26 : decode b_SL_hasTwoParts 26 = .ok (.ireturn, 1) := by decide +kernel
theorem d_SL_holds_0 : decode b_SL_holds 0 = .ok (.aload_n 0, 1) := by decide +kernel
theorem d_SL_holds_1 : decode b_SL_holds 1 = .ok (.iload_n 1, 1) := by decide +kernel
theorem d_SL_holds_2 : decode b_SL_holds 2 = .ok (.invokevirtual 81, 3) := by decide +kernel
theorem d_SL_holds_5 : decode b_SL_holds 5 = .ok (.aload_n 0, 1) := by decide +kernel
theorem d_SL_holds_6 : decode b_SL_holds 6 = .ok (.iload_n 2, 1) := by decide +kernel
theorem d_SL_holds_7 : decode b_SL_holds 7 = .ok (.invokevirtual 84, 3) := by decide +kernel
theorem d_SL_holds_10 : decode b_SL_holds 10 = .ok (.aload_n 0, 1) := by decide +kernel
theorem d_SL_holds_11 : decode b_SL_holds 11 = .ok (.getfield 21, 3) := by decide +kernel
theorem d_SL_holds_14 : decode b_SL_holds 14 = .ok (.iload_n 1, 1) := by decide +kernel
theorem d_SL_holds_15 : decode b_SL_holds 15 = .ok (.invokevirtual 87, 3) := by decide +kernel
theorem d_SL_holds_18 : decode b_SL_holds 18 = .ok (.aload_n 0, 1) := by decide +kernel
theorem d_SL_holds_19 : decode b_SL_holds 19 = .ok (.getfield 21, 3) := by decide +kernel
theorem d_SL_holds_22 : decode b_SL_holds 22 = .ok (.getfield 90, 3) := by decide +kernel
theorem d_SL_holds_25 : decode b_SL_holds 25 = .ok (.iload_n 1, 1) := by decide +kernel
theorem d_SL_holds_26 : decode b_SL_holds 26 = .ok (.iload_n 2, 1) := by decide +kernel
theorem d_SL_holds_27 : decode b_SL_holds 27 = .ok (.invokevirtual 94, 3) := by decide +kernel
theorem d_SL_holds_30 : decode b_SL_holds 30 = .ok (.ireturn, 1) := by decide +kernel
theorem d_SL_init_0 : decode b_SL_init 0 = .ok (.aload_n 0, 1) := by decide +kernel
theorem d_SL_init_1 : decode b_SL_init 1 = .ok (.invokespecial 1, 3) := by decide +kernel
theorem d_SL_init_4 : decode b_SL_init 4 = .ok (.aload_n 0, 1) := by decide +kernel
theorem d_SL_init_5 : decode b_SL_init 5 = .ok (.new 7, 3) := by decide +kernel
theorem d_SL_init_8 : decode b_SL_init 8 = .ok (.dup, 1) := by decide +kernel
theorem d_SL_init_9 : decode b_SL_init 9 = .ok (.invokespecial 9, 3) := by decide +kernel
theorem d_SL_init_12 : decode b_SL_init 12 = .ok (.putfield 10, 3) := by decide +kernel
theorem d_SL_init_15 : decode b_SL_init 15 = .ok (.aload_n 0, 1) := by decide +kernel
theorem d_SL_init_16 : decode b_SL_init 16 = .ok (.new 16, 3) := by decide +kernel
theorem d_SL_init_19 : decode b_SL_init 19 = .ok (.dup, 1) := by decide +kernel
theorem d_SL_init_20 : decode b_SL_init 20 = .ok (.aload_n 0, 1) := by decide +kernel
theorem d_SL_init_21 : decode b_SL_init 21 = .ok (.getfield 10, 3) := by decide +kernel
theorem d_SL_init_24 : decode b_SL_init 24 = .ok (.invokespecial 18, 3) := by decide +kernel
theorem d_SL_init_27 : decode b_SL_init 27 = .ok (.putfield 21, 3) := by decide +kernel
theorem d_SL_init_30 : decode b_SL_init 30 = .ok (.return_, 1) := by decide +kernel
theorem d_SL_length_0 : decode b_SL_length 0 = .ok (.aload_n 0, 1) := by decide +kernel
theorem d_SL_length_1 : decode b_SL_length 1 = .ok (.iload_n 1, 1) := by decide +kernel
theorem d_SL_length_2 : decode b_SL_length 2 = .ok (.invokevirtual 81, 3) := by decide +kernel
theorem d_SL_length_5 : decode b_SL_length 5 = .ok (.aload_n 0, 1) := by decide +kernel
theorem d_SL_length_6 : decode b_SL_length 6 = .ok (.iload_n 2, 1) := by decide +kernel
theorem d_SL_length_7 : decode b_SL_length 7 = .ok (.invokevirtual 84, 3) := by decide +kernel
theorem d_SL_length_10 : decode b_SL_length 10 = .ok (.aload_n 0, 1) := by decide +kernel
theorem d_SL_length_11 : decode b_SL_length 11 = .ok (.iload_n 1, 1) := by decide +kernel
theorem d_SL_length_12 : decode b_SL_length 12 = .ok (.invokevirtual 108, 3) := by decide +kernel
theorem d_SL_length_15 : decode b_SL_length 15 = .ok (.aload_n 0, 1) := by decide +kernel
theorem d_SL_length_16 : decode b_SL_length 16 = .ok (.getfield 21, 3) := by decide +kernel
theorem d_SL_length_19 : decode b_SL_length 19 = .ok (.iload_n 1, 1) := by decide +kernel
theorem d_SL_length_20 : decode b_SL_length 20 = .ok (.invokevirtual 87, 3) := by decide +kernel
theorem d_SL_length_23 : decode b_SL_length 23 = .ok (.aload_n 0, 1) := by decide +kernel
theorem d_SL_length_24 : decode b_SL_length 24 = .ok (.getfield 21, 3) := by decide +kernel
theorem d_SL_length_27 : decode b_SL_length 27 = .ok (.iload_n 1, 1) := by decide +kernel
theorem d_SL_length_28 : decode b_SL_length 28 = .ok (.iload_n 2, 1) := by decide +kernel
theorem d_SL_length_29 : decode b_SL_length 29 = .ok (.invokevirtual 111, 3) := by decide +kernel
theorem d_SL_length_32 : decode b_SL_length 32 = .ok (.ireturn, 1) := by decide +kernel
theorem d_SL_requireFormula_0 : decode b_SL_requireFormula 0 = .ok (.aload_n 0, 1) := by decide +kernel
theorem d_SL_requireFormula_1 : decode b_SL_requireFormula 1 = .ok (.getfield 21, 3) := by decide +kernel
theorem d_SL_requireFormula_4 : decode b_SL_requireFormula 4 = .ok (.iload_n 1, 1) := by decide +kernel
theorem d_SL_requireFormula_5 : decode b_SL_requireFormula 5 = .ok (.invokevirtual 64, 3) := by decide +kernel
theorem d_SL_requireFormula_8 : decode b_SL_requireFormula 8 = .ok (.ifCond .ne 13, 3) := by decide +kernel
theorem d_SL_requireFormula_11 : decode b_SL_requireFormula 11 = .ok (.new 129, 3) := by decide +kernel
theorem d_SL_requireFormula_14 : decode b_SL_requireFormula 14 = .ok (.dup, 1) := by decide +kernel
theorem d_SL_requireFormula_15 : decode b_SL_requireFormula 15 = .ok (.ldc 131, 2) := by decide +kernel
theorem d_SL_requireFormula_17 : decode b_SL_requireFormula 17 = .ok (.invokespecial 133, 3) := by decide +kernel
theorem d_SL_requireFormula_20 : decode b_SL_requireFormula 20 = .ok (.athrow, 1) := by decide +kernel
theorem d_SL_requireFormula_21 : decode b_SL_requireFormula 21 = .ok (.return_, 1) := by decide +kernel
theorem d_SL_requirePattern_0 : decode b_SL_requirePattern 0 = .ok (.aload_n 0, 1) := by decide +kernel
theorem d_SL_requirePattern_1 : decode b_SL_requirePattern 1 = .ok (.getfield 10, 3) := by decide +kernel
theorem d_SL_requirePattern_4 : decode b_SL_requirePattern 4 = .ok (.iload_n 1, 1) := by decide +kernel
theorem d_SL_requirePattern_5 : decode b_SL_requirePattern 5 = .ok (.invokevirtual 43, 3) := by decide +kernel
theorem d_SL_requirePattern_8 : decode b_SL_requirePattern 8 = .ok (.ifCond .eq 14, 3) := by decide +kernel
theorem d_SL_requirePattern_11 : decode b_SL_requirePattern 11 = .ok (.aload_n 0, 1) := by decide +kernel
theorem d_SL_requirePattern_12 : decode b_SL_requirePattern 12 = .ok (.getfield 10, 3) := by decide +kernel
theorem d_SL_requirePattern_15 : decode b_SL_requirePattern 15 = .ok (.iload_n 2, 1) := by decide +kernel
theorem d_SL_requirePattern_16 : decode b_SL_requirePattern 16 = .ok (.invokevirtual 43, 3) := by decide +kernel
theorem d_SL_requirePattern_19 : decode b_SL_requirePattern 19 = .ok (.ifCond .ne 13, 3) := by decide +kernel
theorem d_SL_requirePattern_22 : decode b_SL_requirePattern 22 = .ok (.new 25, 3) := by decide +kernel
theorem d_SL_requirePattern_25 : decode b_SL_requirePattern 25 = .ok (.dup, 1) := by decide +kernel
theorem d_SL_requirePattern_26 : decode b_SL_requirePattern 26 = .ok (.ldc 125, 2) := by decide +kernel
theorem d_SL_requirePattern_28 : decode b_SL_requirePattern 28 = .ok (.invokespecial 29, 3) := by decide +kernel
theorem d_SL_requirePattern_31 : decode b_SL_requirePattern 31 = .ok (.athrow, 1) := by decide +kernel
theorem d_SL_requirePattern_32 : decode b_SL_requirePattern 32 = .ok (.iload_n 2, 1) := by decide +kernel
theorem d_SL_requirePattern_33 : decode b_SL_requirePattern 33 = .ok (.iload_n 1, 1) := by decide +kernel
theorem d_SL_requirePattern_34 : decode b_SL_requirePattern 34 = .ok (.iconst (-1), 1) := by decide +kernel
theorem d_SL_requirePattern_35 : decode b_SL_requirePattern 35 = .ok (.ixor, 1) := by decide +kernel
theorem d_SL_requirePattern_36 : decode b_SL_requirePattern 36 = .ok (.iand, 1) := by decide +kernel
theorem d_SL_requirePattern_37 : decode b_SL_requirePattern 37 = .ok (.ifCond .eq 13, 3) := by decide +kernel
theorem d_SL_requirePattern_40 : decode b_SL_requirePattern 40 = .ok (.new 25, 3) := by decide +kernel
theorem d_SL_requirePattern_43 : decode b_SL_requirePattern 43 = .ok (.dup, 1) := by decide +kernel
theorem d_SL_requirePattern_44 : decode b_SL_requirePattern 44 = .ok (.ldc 127, 2) := by decide +kernel
theorem d_SL_requirePattern_46 : decode b_SL_requirePattern 46 = .ok (.invokespecial 29, 3) := by decide +kernel
theorem d_SL_requirePattern_49 : decode b_SL_requirePattern 49 = .ok (.athrow, 1) := by decide +kernel
theorem d_SL_requirePattern_50 : decode b_SL_requirePattern 50 = .ok (.return_, 1) := by decide +kernel
theorem d_SL_requireState_0 : decode b_SL_requireState 0 = .ok (.aload_n 0, 1) := by decide +kernel
theorem d_SL_requireState_1 : decode b_SL_requireState 1 = .ok (.getfield 10, 3) := by decide +kernel
theorem d_SL_requireState_4 : decode b_SL_requireState 4 = .ok (.iload_n 1, 1) := by decide +kernel
theorem d_SL_requireState_5 : decode b_SL_requireState 5 = .ok (.invokevirtual 43, 3) := by decide +kernel
theorem d_SL_requireState_8 : decode b_SL_requireState 8 = .ok (.ifCond .ne 13, 3) := by decide +kernel
theorem d_SL_requireState_11 : decode b_SL_requireState 11 = .ok (.new 129, 3) := by decide +kernel
theorem d_SL_requireState_14 : decode b_SL_requireState 14 = .ok (.dup, 1) := by decide +kernel
theorem d_SL_requireState_15 : decode b_SL_requireState 15 = .ok (.ldc 134, 2) := by decide +kernel
theorem d_SL_requireState_17 : decode b_SL_requireState 17 = .ok (.invokespecial 133, 3) := by decide +kernel
theorem d_SL_requireState_20 : decode b_SL_requireState 20 = .ok (.athrow, 1) := by decide +kernel
theorem d_SL_requireState_21 : decode b_SL_requireState 21 = .ok (.return_, 1) := by decide +kernel
theorem d_SL_requireUntil_0 : decode b_SL_requireUntil 0 = .ok (.aload_n 0, 1) := by decide +kernel
theorem d_SL_requireUntil_1 : decode b_SL_requireUntil 1 = .ok (.getfield 21, 3) := by decide +kernel
theorem d_SL_requireUntil_4 : decode b_SL_requireUntil 4 = .ok (.getfield 136, 3) := by decide +kernel
theorem d_SL_requireUntil_7 : decode b_SL_requireUntil 7 = .ok (.iload_n 1, 1) := by decide +kernel
theorem d_SL_requireUntil_8 : decode b_SL_requireUntil 8 = .ok (.iaload, 1) := by decide +kernel
theorem d_SL_requireUntil_9 : decode b_SL_requireUntil 9 = .ok (.iconst 5, 1) := by decide +kernel
theorem d_SL_requireUntil_10 : decode b_SL_requireUntil 10 = .ok (.if_icmp .eq 13, 3) := by decide +kernel
theorem d_SL_requireUntil_13 : decode b_SL_requireUntil 13 = .ok (.new 25, 3) := by decide +kernel
theorem d_SL_requireUntil_16 : decode b_SL_requireUntil 16 = .ok (.dup, 1) := by decide +kernel
theorem d_SL_requireUntil_17 : decode b_SL_requireUntil 17 = .ok (.ldc 140, 2) := by decide +kernel
theorem d_SL_requireUntil_19 : decode b_SL_requireUntil 19 = .ok (.invokespecial 29, 3) := by decide +kernel
theorem d_SL_requireUntil_22 : decode b_SL_requireUntil 22 = .ok (.athrow, 1) := by decide +kernel
theorem d_SL_requireUntil_23 : decode b_SL_requireUntil 23 = .ok (.return_, 1) := by decide +kernel
theorem d_SL_rule_0 : decode b_SL_rule 0 = .ok (.aload_n 0, 1) := by decide +kernel
theorem d_SL_rule_1 : decode b_SL_rule 1 = .ok (.iload_n 1, 1) := by decide +kernel
theorem d_SL_rule_2 : decode b_SL_rule 2 = .ok (.iload_n 2, 1) := by decide +kernel
theorem d_SL_rule_3 : decode b_SL_rule 3 = .ok (.invokevirtual 39, 3) := by decide +kernel
theorem d_SL_rule_6 : decode b_SL_rule 6 = .ok (.aload_n 0, 1) := by decide +kernel
theorem d_SL_rule_7 : decode b_SL_rule 7 = .ok (.getfield 10, 3) := by decide +kernel
theorem d_SL_rule_10 : decode b_SL_rule 10 = .ok (.iload_n 3, 1) := by decide +kernel
theorem d_SL_rule_11 : decode b_SL_rule 11 = .ok (.invokevirtual 43, 3) := by decide +kernel
theorem d_SL_rule_14 : decode b_SL_rule 14 = .ok (.ifCond .eq 15, 3) := by decide +kernel
theorem d_SL_rule_17 : decode b_SL_rule 17 = .ok (.aload_n 0, 1) := by decide +kernel
theorem d_SL_rule_18 : decode b_SL_rule 18 = .ok (.getfield 10, 3) := by decide +kernel
theorem d_SL_rule_21 : decode b_SL_rule 21 = .ok (.iload 4, 2) := by decide +kernel
theorem d_SL_rule_23 : decode b_SL_rule 23 = .ok (.invokevirtual 43, 3) := by decide +kernel
theorem d_SL_rule_26 : decode b_SL_rule 26 = .ok (.ifCond .ne 13, 3) := by decide +kernel
theorem d_SL_rule_29 : decode b_SL_rule 29 = .ok (.new 25, 3) := by decide +kernel
theorem d_SL_rule_32 : decode b_SL_rule 32 = .ok (.dup, 1) := by decide +kernel
theorem d_SL_rule_33 : decode b_SL_rule 33 = .ok (.ldc 47, 2) := by decide +kernel
theorem d_SL_rule_35 : decode b_SL_rule 35 = .ok (.invokespecial 29, 3) := by decide +kernel
theorem d_SL_rule_38 : decode b_SL_rule 38 = .ok (.athrow, 1) := by decide +kernel
theorem d_SL_rule_39 : decode b_SL_rule 39 = .ok (.aload_n 0, 1) := by decide +kernel
theorem d_SL_rule_40 : decode b_SL_rule 40 = .ok (.getfield 10, 3) := by decide +kernel
theorem d_SL_rule_43 : decode b_SL_rule 43 = .ok (.getfield 49, 3) := by decide +kernel
theorem d_SL_rule_46 : decode b_SL_rule 46 = .ok (.bipush 40, 2) := by decide +kernel
theorem d_SL_rule_48 : decode b_SL_rule 48 = .ok (.if_icmp .lt 13, 3) := by decide +kernel
theorem d_SL_rule_51 : decode b_SL_rule 51 = .ok (.new 53, 3) := by decide +kernel
theorem d_SL_rule_54 : decode b_SL_rule 54 = .ok (.dup, 1) := by decide +kernel
theorem d_SL_rule_55 : decode b_SL_rule 55 = .ok (.ldc 55, 2) := by decide +kernel
theorem d_SL_rule_57 : decode b_SL_rule 57 = .ok (.invokespecial 57, 3) := by decide +kernel
theorem d_SL_rule_60 : decode b_SL_rule 60 = .ok (.athrow, 1) := by decide +kernel
theorem d_SL_rule_61 : decode b_SL_rule 61 = .ok (.aload_n 0, 1) := by decide +kernel
theorem d_SL_rule_62 : decode b_SL_rule 62 = .ok (.getfield 10, 3) := by decide +kernel
theorem d_SL_rule_65 : decode b_SL_rule 65 = .ok (.iload_n 1, 1) := by decide +kernel
theorem d_SL_rule_66 : decode b_SL_rule 66 = .ok (.iload_n 2, 1) := by decide +kernel
theorem d_SL_rule_67 : decode b_SL_rule 67 = .ok (.iload_n 3, 1) := by decide +kernel
theorem d_SL_rule_68 : decode b_SL_rule 68 = .ok (.iload 4, 2) := by decide +kernel
theorem d_SL_rule_70 : decode b_SL_rule 70 = .ok (.invokevirtual 58, 3) := by decide +kernel
theorem d_SL_rule_73 : decode b_SL_rule 73 = .ok (.ireturn, 1) := by decide +kernel
theorem d_SL_ways_0 : decode b_SL_ways 0 = .ok (.aload_n 0, 1) := by decide +kernel
theorem d_SL_ways_1 : decode b_SL_ways 1 = .ok (.iload_n 1, 1) := by decide +kernel
theorem d_SL_ways_2 : decode b_SL_ways 2 = .ok (.invokevirtual 84, 3) := by decide +kernel
theorem d_SL_ways_5 : decode b_SL_ways 5 = .ok (.aload_n 0, 1) := by decide +kernel
theorem d_SL_ways_6 : decode b_SL_ways 6 = .ok (.getfield 10, 3) := by decide +kernel
theorem d_SL_ways_9 : decode b_SL_ways 9 = .ok (.getfield 122, 3) := by decide +kernel
theorem d_SL_ways_12 : decode b_SL_ways 12 = .ok (.iload_n 1, 1) := by decide +kernel
theorem d_SL_ways_13 : decode b_SL_ways 13 = .ok (.invokevirtual 100, 3) := by decide +kernel
theorem d_SL_ways_16 : decode b_SL_ways 16 = .ok (.ireturn, 1) := by decide +kernel
theorem d_SL_witness_0 : decode b_SL_witness 0 = .ok (.aload_n 0, 1) := by decide +kernel
theorem d_SL_witness_1 : decode b_SL_witness 1 = .ok (.iload_n 1, 1) := by decide +kernel
theorem d_SL_witness_2 : decode b_SL_witness 2 = .ok (.invokevirtual 81, 3) := by decide +kernel
theorem d_SL_witness_5 : decode b_SL_witness 5 = .ok (.aload_n 0, 1) := by decide +kernel
theorem d_SL_witness_6 : decode b_SL_witness 6 = .ok (.iload_n 2, 1) := by decide +kernel
theorem d_SL_witness_7 : decode b_SL_witness 7 = .ok (.invokevirtual 84, 3) := by decide +kernel
theorem d_SL_witness_10 : decode b_SL_witness 10 = .ok (.aload_n 0, 1) := by decide +kernel
theorem d_SL_witness_11 : decode b_SL_witness 11 = .ok (.iload_n 1, 1) := by decide +kernel
theorem d_SL_witness_12 : decode b_SL_witness 12 = .ok (.invokevirtual 108, 3) := by decide +kernel
theorem d_SL_witness_15 : decode b_SL_witness 15 = .ok (.aload_n 0, 1) := by decide +kernel
theorem d_SL_witness_16 : decode b_SL_witness 16 = .ok (.getfield 21, 3) := by decide +kernel
theorem d_SL_witness_19 : decode b_SL_witness 19 = .ok (.iload_n 1, 1) := by decide +kernel
theorem d_SL_witness_20 : decode b_SL_witness 20 = .ok (.invokevirtual 87, 3) := by decide +kernel
theorem d_SL_witness_23 : decode b_SL_witness 23 = .ok (.iload_n 3, 1) := by decide +kernel
theorem d_SL_witness_24 : decode b_SL_witness 24 = .ok (.ifCond .lt 16, 3) := by decide +kernel
theorem d_SL_witness_27 : decode b_SL_witness 27 = .ok (.iload_n 3, 1) := by decide +kernel
theorem d_SL_witness_28 : decode b_SL_witness 28 = .ok (.aload_n 0, 1) := by decide +kernel
theorem d_SL_witness_29 : decode b_SL_witness 29 = .ok (.getfield 21, 3) := by decide +kernel
theorem d_SL_witness_32 : decode b_SL_witness 32 = .ok (.iload_n 1, 1) := by decide +kernel
theorem d_SL_witness_33 : decode b_SL_witness 33 = .ok (.iload_n 2, 1) := by decide +kernel
theorem d_SL_witness_34 : decode b_SL_witness 34 = .ok (.invokevirtual 111, 3) := by decide +kernel
theorem d_SL_witness_37 : decode b_SL_witness 37 = .ok (.if_icmp .lt 13, 3) := by decide +kernel
theorem d_SL_witness_40 : decode b_SL_witness 40 = .ok (.new 114, 3) := by decide +kernel
theorem d_SL_witness_43 : decode b_SL_witness 43 = .ok (.dup, 1) := by decide +kernel
theorem d_SL_witness_44 : decode b_SL_witness 44 = .ok (.ldc 116, 2) := by decide +kernel
theorem d_SL_witness_46 : decode b_SL_witness 46 = .ok (.invokespecial 118, 3) := by decide +kernel
theorem d_SL_witness_49 : decode b_SL_witness 49 = .ok (.athrow, 1) := by decide +kernel
theorem d_SL_witness_50 : decode b_SL_witness 50 = .ok (.aload_n 0, 1) := by decide +kernel
theorem d_SL_witness_51 : decode b_SL_witness 51 = .ok (.getfield 21, 3) := by decide +kernel
theorem d_SL_witness_54 : decode b_SL_witness 54 = .ok (.iload_n 2, 1) := by decide +kernel
theorem d_SL_witness_55 : decode b_SL_witness 55 = .ok (.iload_n 3, 1) := by decide +kernel
theorem d_SL_witness_56 : decode b_SL_witness 56 = .ok (.invokevirtual 119, 3) := by decide +kernel
theorem d_SL_witness_59 : decode b_SL_witness 59 = .ok (.ireturn, 1) := by decide +kernel
end
section
theorem d_Fo_addFormula_0 : decode b_Fo_addFormula 0 = .ok (.aload_n 0, 1) := by decide +kernel
theorem d_Fo_addFormula_1 : decode b_Fo_addFormula 1 = .ok (.getfield 27, 3) := by decide +kernel
theorem d_Fo_addFormula_4 : decode b_Fo_addFormula 4 = .ok (.aload_n 0, 1) := by decide +kernel
theorem d_Fo_addFormula_5 : decode b_Fo_addFormula 5 = .ok (.getfield 52, 3) := by decide +kernel
theorem d_Fo_addFormula_8 : decode b_Fo_addFormula 8 = .ok (.iload_n 1, 1) := by decide +kernel
theorem d_Fo_addFormula_9 : decode b_Fo_addFormula 9 = .ok (.iastore, 1) := by decide +kernel
theorem d_Fo_addFormula_10 : decode b_Fo_addFormula 10 = .ok (.aload_n 0, 1) := by decide +kernel
theorem d_Fo_addFormula_11 : decode b_Fo_addFormula 11 = .ok (.getfield 31, 3) := by decide +kernel
theorem d_Fo_addFormula_14 : decode b_Fo_addFormula 14 = .ok (.aload_n 0, 1) := by decide +kernel
theorem d_Fo_addFormula_15 : decode b_Fo_addFormula 15 = .ok (.getfield 52, 3) := by decide +kernel
theorem d_Fo_addFormula_18 : decode b_Fo_addFormula 18 = .ok (.iload_n 2, 1) := by decide +kernel
theorem d_Fo_addFormula_19 : decode b_Fo_addFormula 19 = .ok (.iastore, 1) := by decide +kernel
theorem d_Fo_addFormula_20 : decode b_Fo_addFormula 20 = .ok (.aload_n 0, 1) := by decide +kernel
theorem d_Fo_addFormula_21 : decode b_Fo_addFormula 21 = .ok (.getfield 34, 3) := by decide +kernel
theorem d_Fo_addFormula_24 : decode b_Fo_addFormula 24 = .ok (.aload_n 0, 1) := by decide +kernel
theorem d_Fo_addFormula_25 : decode b_Fo_addFormula 25 = .ok (.getfield 52, 3) := by decide +kernel
theorem d_Fo_addFormula_28 : decode b_Fo_addFormula 28 = .ok (.iload_n 1, 1) := by decide +kernel
theorem d_Fo_addFormula_29 : decode b_Fo_addFormula 29 = .ok (.ifCond .eq 10, 3) := by decide +kernel
theorem d_Fo_addFormula_32 : decode b_Fo_addFormula 32 = .ok (.iload_n 1, 1) := by decide +kernel
theorem d_Fo_addFormula_33 : decode b_Fo_addFormula 33 = .ok (.invokestatic 55, 3) := by decide +kernel
theorem d_Fo_addFormula_36 : decode b_Fo_addFormula 36 = .ok (.ifCond .eq 7, 3) := by decide +kernel
theorem d_Fo_addFormula_39 : decode b_Fo_addFormula 39 = .ok (.iload_n 3, 1) := by decide +kernel
theorem d_Fo_addFormula_40 : decode b_Fo_addFormula 40 = .ok (.goto 4, 3) := by decide +kernel
theorem d_Fo_addFormula_43 : decode b_Fo_addFormula 43 = .ok (.iload_n 2, 1) := by decide +kernel
theorem d_Fo_addFormula_44 : decode b_Fo_addFormula 44 = .ok (.iastore, 1) := by decide +kernel
theorem d_Fo_addFormula_45 : decode b_Fo_addFormula 45 = .ok (.aload_n 0, 1) := by decide +kernel
theorem d_Fo_addFormula_46 : decode b_Fo_addFormula 46 = .ok (.getfield 37, 3) := by decide +kernel
theorem d_Fo_addFormula_49 : decode b_Fo_addFormula 49 = .ok (.aload_n 0, 1) := by decide +kernel
theorem d_Fo_addFormula_50 : decode b_Fo_addFormula 50 = .ok (.getfield 52, 3) := by decide +kernel
theorem d_Fo_addFormula_53 : decode b_Fo_addFormula 53 = .ok (.iconst (-1), 1) := by decide +kernel
theorem d_Fo_addFormula_54 : decode b_Fo_addFormula 54 = .ok (.iastore, 1) := by decide +kernel
theorem d_Fo_addFormula_55 : decode b_Fo_addFormula 55 = .ok (.aload_n 0, 1) := by decide +kernel
theorem d_Fo_addFormula_56 : decode b_Fo_addFormula 56 = .ok (.dup, 1) := by decide +kernel
theorem d_Fo_addFormula_57 : decode b_Fo_addFormula 57 = .ok (.getfield 52, 3) := by decide +kernel
theorem d_Fo_addFormula_60 : decode b_Fo_addFormula 60 = .ok (.iconst 1, 1) := by decide +kernel
theorem d_Fo_addFormula_61 : decode b_Fo_addFormula 61 = .ok (.iadd, 1) := by decide +kernel
theorem d_Fo_addFormula_62 : decode b_Fo_addFormula 62 = .ok (.putfield 52, 3) := by decide +kernel
theorem d_Fo_addFormula_65 : decode b_Fo_addFormula 65 = .ok (.aload_n 0, 1) := by decide +kernel
theorem d_Fo_addFormula_66 : decode b_Fo_addFormula 66 = .ok (.getfield 52, 3) := by decide +kernel
theorem d_Fo_addFormula_69 : decode b_Fo_addFormula 69 = .ok (.iconst 1, 1) := by decide +kernel
theorem d_Fo_addFormula_70 : decode b_Fo_addFormula 70 = .ok (.isub, 1) := by decide +kernel
theorem d_Fo_addFormula_71 : decode b_Fo_addFormula 71 = .ok (.ireturn, 1) := by decide +kernel
theorem d_Fo_evaluate_0 : decode b_Fo_evaluate 0 = .ok (.aload_n 0, 1) := by decide +kernel
theorem d_Fo_evaluate_1 : decode b_Fo_evaluate 1 = .ok (.getfield 23, 3) := by decide +kernel
theorem d_Fo_evaluate_4 : decode b_Fo_evaluate 4 = .ok (.iload_n 1, 1) := by decide +kernel
theorem d_Fo_evaluate_5 : decode b_Fo_evaluate 5 = .ok (.invokevirtual 70, 3) := by decide +kernel
theorem d_Fo_evaluate_8 : decode b_Fo_evaluate 8 = .ok (.aload_n 0, 1) := by decide +kernel
theorem d_Fo_evaluate_9 : decode b_Fo_evaluate 9 = .ok (.getfield 27, 3) := by decide +kernel
theorem d_Fo_evaluate_12 : decode b_Fo_evaluate 12 = .ok (.iload_n 1, 1) := by decide +kernel
theorem d_Fo_evaluate_13 : decode b_Fo_evaluate 13 = .ok (.iaload, 1) := by decide +kernel
theorem d_Fo_evaluate_14 : decode b_Fo_evaluate 14 = .ok (.tableswitch 86 0 7 #[46, 54, 54, 54, 62, 70, 78, 78], 46) := by decide +kernel
theorem d_Fo_evaluate_60 : decode b_Fo_evaluate 60 = .ok (.aload_n 0, 1) := by decide +kernel
theorem d_Fo_evaluate_61 : decode b_Fo_evaluate 61 = .ok (.iload_n 1, 1) := by decide +kernel
theorem d_Fo_evaluate_62 : decode b_Fo_evaluate 62 = .ok (.invokevirtual 73, 3) := by decide +kernel
theorem d_Fo_evaluate_65 : decode b_Fo_evaluate 65 = .ok (.goto 35, 3) := by decide +kernel
theorem d_Fo_evaluate_68 : decode b_Fo_evaluate 68 = .ok (.aload_n 0, 1) := by decide +kernel
theorem d_Fo_evaluate_69 : decode b_Fo_evaluate 69 = .ok (.iload_n 1, 1) := by decide +kernel
theorem d_Fo_evaluate_70 : decode b_Fo_evaluate 70 = .ok (.invokevirtual 76, 3) := by decide +kernel
theorem d_Fo_evaluate_73 : decode b_Fo_evaluate 73 = .ok (.goto 27, 3) := by decide +kernel
theorem d_Fo_evaluate_76 : decode b_Fo_evaluate 76 = .ok (.aload_n 0, 1) := by decide +kernel
theorem d_Fo_evaluate_77 : decode b_Fo_evaluate 77 = .ok (.iload_n 1, 1) := by decide +kernel
theorem d_Fo_evaluate_78 : decode b_Fo_evaluate 78 = .ok (.invokevirtual 79, 3) := by decide +kernel
theorem d_Fo_evaluate_81 : decode b_Fo_evaluate 81 = .ok (.goto 19, 3) := by decide +kernel
theorem d_Fo_evaluate_84 : decode b_Fo_evaluate 84 = .ok (.aload_n 0, 1) := by decide +kernel
theorem d_Fo_evaluate_85 : decode b_Fo_evaluate 85 = .ok (.iload_n 1, 1) := by decide +kernel
theorem d_Fo_evaluate_86 : decode b_Fo_evaluate 86 = .ok (.invokevirtual 82, 3) := by decide +kernel
theorem d_Fo_evaluate_89 : decode b_Fo_evaluate 89 = .ok (.goto 11, 3) := by decide +kernel
theorem d_Fo_evaluate_92 : decode b_Fo_evaluate 92 = .ok (.aload_n 0, 1) := by decide +kernel
theorem d_Fo_evaluate_93 : decode b_Fo_evaluate 93 = .ok (.iload_n 1, 1) := by decide +kernel
theorem d_Fo_evaluate_94 : decode b_Fo_evaluate 94 = .ok (.invokevirtual 85, 3) := by decide +kernel
theorem d_Fo_evaluate_97 : decode b_Fo_evaluate 97 = .ok (.goto 3, 3) := by decide +kernel
theorem d_Fo_evaluate_100 : decode b_Fo_evaluate 100 = .ok (.return_, 1) := by decide +kernel
theorem d_Fo_evaluateAgain_0 : decode b_Fo_evaluateAgain 0 = .ok (.aload_n 0, 1) := by decide +kernel
theorem d_Fo_evaluateAgain_1 : decode b_Fo_evaluateAgain 1 = .ok (.iconst (-1), 1) := by decide +kernel
theorem d_Fo_evaluateAgain_2 : decode b_Fo_evaluateAgain 2 = .ok (.putfield 48, 3) := by decide +kernel
theorem d_Fo_evaluateAgain_5 : decode b_Fo_evaluateAgain 5 = .ok (.aload_n 0, 1) := by decide +kernel
theorem d_Fo_evaluateAgain_6 : decode b_Fo_evaluateAgain 6 = .ok (.getfield 12, 3) := by decide +kernel
theorem d_Fo_evaluateAgain_9 : decode b_Fo_evaluateAgain 9 = .ok (.aload_n 0, 1) := by decide +kernel
theorem d_Fo_evaluateAgain_10 : decode b_Fo_evaluateAgain 10 = .ok (.getfield 23, 3) := by decide +kernel
theorem d_Fo_evaluateAgain_13 : decode b_Fo_evaluateAgain 13 = .ok (.aload_n 0, 1) := by decide +kernel
theorem d_Fo_evaluateAgain_14 : decode b_Fo_evaluateAgain 14 = .ok (.getfield 31, 3) := by decide +kernel
theorem d_Fo_evaluateAgain_17 : decode b_Fo_evaluateAgain 17 = .ok (.iload_n 1, 1) := by decide +kernel
theorem d_Fo_evaluateAgain_18 : decode b_Fo_evaluateAgain 18 = .ok (.iaload, 1) := by decide +kernel
theorem d_Fo_evaluateAgain_19 : decode b_Fo_evaluateAgain 19 = .ok (.invokevirtual 111, 3) := by decide +kernel
theorem d_Fo_evaluateAgain_22 : decode b_Fo_evaluateAgain 22 = .ok (.aload_n 0, 1) := by decide +kernel
theorem d_Fo_evaluateAgain_23 : decode b_Fo_evaluateAgain 23 = .ok (.getfield 12, 3) := by decide +kernel
theorem d_Fo_evaluateAgain_26 : decode b_Fo_evaluateAgain 26 = .ok (.aload_n 0, 1) := by decide +kernel
theorem d_Fo_evaluateAgain_27 : decode b_Fo_evaluateAgain 27 = .ok (.getfield 44, 3) := by decide +kernel
theorem d_Fo_evaluateAgain_30 : decode b_Fo_evaluateAgain 30 = .ok (.getfield 131, 3) := by decide +kernel
theorem d_Fo_evaluateAgain_33 : decode b_Fo_evaluateAgain 33 = .ok (.aload_n 0, 1) := by decide +kernel
theorem d_Fo_evaluateAgain_34 : decode b_Fo_evaluateAgain 34 = .ok (.getfield 44, 3) := by decide +kernel
theorem d_Fo_evaluateAgain_37 : decode b_Fo_evaluateAgain 37 = .ok (.getfield 88, 3) := by decide +kernel
theorem d_Fo_evaluateAgain_40 : decode b_Fo_evaluateAgain 40 = .ok (.invokevirtual 147, 3) := by decide +kernel
theorem d_Fo_evaluateAgain_43 : decode b_Fo_evaluateAgain 43 = .ok (.istore_n 2, 1) := by decide +kernel
theorem d_Fo_evaluateAgain_44 : decode b_Fo_evaluateAgain 44 = .ok (.aload_n 0, 1) := by decide +kernel
theorem d_Fo_evaluateAgain_45 : decode b_Fo_evaluateAgain 45 = .ok (.getfield 12, 3) := by decide +kernel
theorem d_Fo_evaluateAgain_48 : decode b_Fo_evaluateAgain 48 = .ok (.aload_n 0, 1) := by decide +kernel
theorem d_Fo_evaluateAgain_49 : decode b_Fo_evaluateAgain 49 = .ok (.getfield 23, 3) := by decide +kernel
theorem d_Fo_evaluateAgain_52 : decode b_Fo_evaluateAgain 52 = .ok (.aload_n 0, 1) := by decide +kernel
theorem d_Fo_evaluateAgain_53 : decode b_Fo_evaluateAgain 53 = .ok (.getfield 31, 3) := by decide +kernel
theorem d_Fo_evaluateAgain_56 : decode b_Fo_evaluateAgain 56 = .ok (.iload_n 1, 1) := by decide +kernel
theorem d_Fo_evaluateAgain_57 : decode b_Fo_evaluateAgain 57 = .ok (.iaload, 1) := by decide +kernel
theorem d_Fo_evaluateAgain_58 : decode b_Fo_evaluateAgain 58 = .ok (.invokevirtual 111, 3) := by decide +kernel
theorem d_Fo_evaluateAgain_61 : decode b_Fo_evaluateAgain 61 = .ok (.iload_n 2, 1) := by decide +kernel
theorem d_Fo_evaluateAgain_62 : decode b_Fo_evaluateAgain 62 = .ok (.iconst 1, 1) := by decide +kernel
theorem d_Fo_evaluateAgain_63 : decode b_Fo_evaluateAgain 63 = .ok (.isub, 1) := by decide +kernel
theorem d_Fo_evaluateAgain_64 : decode b_Fo_evaluateAgain 64 = .ok (.istore_n 3, 1) := by decide +kernel
theorem d_Fo_evaluateAgain_65 : decode b_Fo_evaluateAgain 65 = .ok (.iload_n 3, 1) := by decide +kernel
theorem d_Fo_evaluateAgain_66 : decode b_Fo_evaluateAgain 66 = .ok (.ifCond .lt 88, 3) := by decide +kernel
theorem d_Fo_evaluateAgain_69 : decode b_Fo_evaluateAgain 69 = .ok (.aload_n 0, 1) := by decide +kernel
theorem d_Fo_evaluateAgain_70 : decode b_Fo_evaluateAgain 70 = .ok (.getfield 12, 3) := by decide +kernel
theorem d_Fo_evaluateAgain_73 : decode b_Fo_evaluateAgain 73 = .ok (.getfield 151, 3) := by decide +kernel
theorem d_Fo_evaluateAgain_76 : decode b_Fo_evaluateAgain 76 = .ok (.iload_n 3, 1) := by decide +kernel
theorem d_Fo_evaluateAgain_77 : decode b_Fo_evaluateAgain 77 = .ok (.iaload, 1) := by decide +kernel
theorem d_Fo_evaluateAgain_78 : decode b_Fo_evaluateAgain 78 = .ok (.istore 4, 2) := by decide +kernel
theorem d_Fo_evaluateAgain_80 : decode b_Fo_evaluateAgain 80 = .ok (.aload_n 0, 1) := by decide +kernel
theorem d_Fo_evaluateAgain_81 : decode b_Fo_evaluateAgain 81 = .ok (.getfield 12, 3) := by decide +kernel
theorem d_Fo_evaluateAgain_84 : decode b_Fo_evaluateAgain 84 = .ok (.getfield 122, 3) := by decide +kernel
theorem d_Fo_evaluateAgain_87 : decode b_Fo_evaluateAgain 87 = .ok (.iconst 0, 1) := by decide +kernel
theorem d_Fo_evaluateAgain_88 : decode b_Fo_evaluateAgain 88 = .ok (.iload 4, 2) := by decide +kernel
theorem d_Fo_evaluateAgain_90 : decode b_Fo_evaluateAgain 90 = .ok (.invokevirtual 118, 3) := by decide +kernel
theorem d_Fo_evaluateAgain_93 : decode b_Fo_evaluateAgain 93 = .ok (.ifCond .eq 55, 3) := by decide +kernel
theorem d_Fo_evaluateAgain_96 : decode b_Fo_evaluateAgain 96 = .ok (.aload_n 0, 1) := by decide +kernel
theorem d_Fo_evaluateAgain_97 : decode b_Fo_evaluateAgain 97 = .ok (.getfield 12, 3) := by decide +kernel
theorem d_Fo_evaluateAgain_100 : decode b_Fo_evaluateAgain 100 = .ok (.getfield 122, 3) := by decide +kernel
theorem d_Fo_evaluateAgain_103 : decode b_Fo_evaluateAgain 103 = .ok (.iconst 0, 1) := by decide +kernel
theorem d_Fo_evaluateAgain_104 : decode b_Fo_evaluateAgain 104 = .ok (.iload 4, 2) := by decide +kernel
theorem d_Fo_evaluateAgain_106 : decode b_Fo_evaluateAgain 106 = .ok (.invokevirtual 125, 3) := by decide +kernel
theorem d_Fo_evaluateAgain_109 : decode b_Fo_evaluateAgain 109 = .ok (.aload_n 0, 1) := by decide +kernel
theorem d_Fo_evaluateAgain_110 : decode b_Fo_evaluateAgain 110 = .ok (.getfield 12, 3) := by decide +kernel
theorem d_Fo_evaluateAgain_113 : decode b_Fo_evaluateAgain 113 = .ok (.iconst 0, 1) := by decide +kernel
theorem d_Fo_evaluateAgain_114 : decode b_Fo_evaluateAgain 114 = .ok (.putfield 141, 3) := by decide +kernel
theorem d_Fo_evaluateAgain_117 : decode b_Fo_evaluateAgain 117 = .ok (.aload_n 0, 1) := by decide +kernel
theorem d_Fo_evaluateAgain_118 : decode b_Fo_evaluateAgain 118 = .ok (.getfield 12, 3) := by decide +kernel
theorem d_Fo_evaluateAgain_121 : decode b_Fo_evaluateAgain 121 = .ok (.iload 4, 2) := by decide +kernel
theorem d_Fo_evaluateAgain_123 : decode b_Fo_evaluateAgain 123 = .ok (.iconst 0, 1) := by decide +kernel
theorem d_Fo_evaluateAgain_124 : decode b_Fo_evaluateAgain 124 = .ok (.invokevirtual 128, 3) := by decide +kernel
theorem d_Fo_evaluateAgain_127 : decode b_Fo_evaluateAgain 127 = .ok (.aload_n 0, 1) := by decide +kernel
theorem d_Fo_evaluateAgain_128 : decode b_Fo_evaluateAgain 128 = .ok (.getfield 12, 3) := by decide +kernel
theorem d_Fo_evaluateAgain_131 : decode b_Fo_evaluateAgain 131 = .ok (.aload_n 0, 1) := by decide +kernel
theorem d_Fo_evaluateAgain_132 : decode b_Fo_evaluateAgain 132 = .ok (.getfield 44, 3) := by decide +kernel
theorem d_Fo_evaluateAgain_135 : decode b_Fo_evaluateAgain 135 = .ok (.getfield 104, 3) := by decide +kernel
theorem d_Fo_evaluateAgain_138 : decode b_Fo_evaluateAgain 138 = .ok (.invokevirtual 134, 3) := by decide +kernel
theorem d_Fo_evaluateAgain_141 : decode b_Fo_evaluateAgain 141 = .ok (.aload_n 0, 1) := by decide +kernel
theorem d_Fo_evaluateAgain_142 : decode b_Fo_evaluateAgain 142 = .ok (.iload_n 1, 1) := by decide +kernel
theorem d_Fo_evaluateAgain_143 : decode b_Fo_evaluateAgain 143 = .ok (.iload 4, 2) := by decide +kernel
theorem d_Fo_evaluateAgain_145 : decode b_Fo_evaluateAgain 145 = .ok (.invokevirtual 154, 3) := by decide +kernel
theorem d_Fo_evaluateAgain_148 : decode b_Fo_evaluateAgain 148 = .ok (.iinc 3 (-1), 3) := by decide +kernel
theorem d_Fo_evaluateAgain_151 : decode b_Fo_evaluateAgain 151 = .ok (.goto (-86), 3) := by decide +kernel
theorem d_Fo_evaluateAgain_154 : decode b_Fo_evaluateAgain 154 = .ok (.return_, 1) := by decide +kernel
theorem d_Fo_evaluateAtom_0 : decode b_Fo_evaluateAtom 0 = .ok (.iconst 0, 1) := by decide +kernel
theorem d_Fo_evaluateAtom_1 : decode b_Fo_evaluateAtom 1 = .ok (.istore_n 2, 1) := by decide +kernel
theorem d_Fo_evaluateAtom_2 : decode b_Fo_evaluateAtom 2 = .ok (.iload_n 2, 1) := by decide +kernel
theorem d_Fo_evaluateAtom_3 : decode b_Fo_evaluateAtom 3 = .ok (.aload_n 0, 1) := by decide +kernel
theorem d_Fo_evaluateAtom_4 : decode b_Fo_evaluateAtom 4 = .ok (.getfield 44, 3) := by decide +kernel
theorem d_Fo_evaluateAtom_7 : decode b_Fo_evaluateAtom 7 = .ok (.getfield 88, 3) := by decide +kernel
theorem d_Fo_evaluateAtom_10 : decode b_Fo_evaluateAtom 10 = .ok (.if_icmp .ge 35, 3) := by decide +kernel
theorem d_Fo_evaluateAtom_13 : decode b_Fo_evaluateAtom 13 = .ok (.iload_n 2, 1) := by decide +kernel
theorem d_Fo_evaluateAtom_14 : decode b_Fo_evaluateAtom 14 = .ok (.aload_n 0, 1) := by decide +kernel
theorem d_Fo_evaluateAtom_15 : decode b_Fo_evaluateAtom 15 = .ok (.getfield 31, 3) := by decide +kernel
theorem d_Fo_evaluateAtom_18 : decode b_Fo_evaluateAtom 18 = .ok (.iload_n 1, 1) := by decide +kernel
theorem d_Fo_evaluateAtom_19 : decode b_Fo_evaluateAtom 19 = .ok (.iaload, 1) := by decide +kernel
theorem d_Fo_evaluateAtom_20 : decode b_Fo_evaluateAtom 20 = .ok (.iand, 1) := by decide +kernel
theorem d_Fo_evaluateAtom_21 : decode b_Fo_evaluateAtom 21 = .ok (.aload_n 0, 1) := by decide +kernel
theorem d_Fo_evaluateAtom_22 : decode b_Fo_evaluateAtom 22 = .ok (.getfield 34, 3) := by decide +kernel
theorem d_Fo_evaluateAtom_25 : decode b_Fo_evaluateAtom 25 = .ok (.iload_n 1, 1) := by decide +kernel
theorem d_Fo_evaluateAtom_26 : decode b_Fo_evaluateAtom 26 = .ok (.iaload, 1) := by decide +kernel
theorem d_Fo_evaluateAtom_27 : decode b_Fo_evaluateAtom 27 = .ok (.if_icmp .ne 12, 3) := by decide +kernel
theorem d_Fo_evaluateAtom_30 : decode b_Fo_evaluateAtom 30 = .ok (.aload_n 0, 1) := by decide +kernel
theorem d_Fo_evaluateAtom_31 : decode b_Fo_evaluateAtom 31 = .ok (.getfield 23, 3) := by decide +kernel
theorem d_Fo_evaluateAtom_34 : decode b_Fo_evaluateAtom 34 = .ok (.iload_n 1, 1) := by decide +kernel
theorem d_Fo_evaluateAtom_35 : decode b_Fo_evaluateAtom 35 = .ok (.iload_n 2, 1) := by decide +kernel
theorem d_Fo_evaluateAtom_36 : decode b_Fo_evaluateAtom 36 = .ok (.invokevirtual 91, 3) := by decide +kernel
theorem d_Fo_evaluateAtom_39 : decode b_Fo_evaluateAtom 39 = .ok (.iinc 2 1, 3) := by decide +kernel
theorem d_Fo_evaluateAtom_42 : decode b_Fo_evaluateAtom 42 = .ok (.goto (-40), 3) := by decide +kernel
theorem d_Fo_evaluateAtom_45 : decode b_Fo_evaluateAtom 45 = .ok (.return_, 1) := by decide +kernel
theorem d_Fo_evaluateNext_0 : decode b_Fo_evaluateNext 0 = .ok (.iconst 0, 1) := by decide +kernel
theorem d_Fo_evaluateNext_1 : decode b_Fo_evaluateNext 1 = .ok (.istore_n 2, 1) := by decide +kernel
theorem d_Fo_evaluateNext_2 : decode b_Fo_evaluateNext 2 = .ok (.iload_n 2, 1) := by decide +kernel
theorem d_Fo_evaluateNext_3 : decode b_Fo_evaluateNext 3 = .ok (.aload_n 0, 1) := by decide +kernel
theorem d_Fo_evaluateNext_4 : decode b_Fo_evaluateNext 4 = .ok (.getfield 44, 3) := by decide +kernel
theorem d_Fo_evaluateNext_7 : decode b_Fo_evaluateNext 7 = .ok (.getfield 88, 3) := by decide +kernel
theorem d_Fo_evaluateNext_10 : decode b_Fo_evaluateNext 10 = .ok (.if_icmp .ge 42, 3) := by decide +kernel
theorem d_Fo_evaluateNext_13 : decode b_Fo_evaluateNext 13 = .ok (.aload_n 0, 1) := by decide +kernel
theorem d_Fo_evaluateNext_14 : decode b_Fo_evaluateNext 14 = .ok (.getfield 44, 3) := by decide +kernel
theorem d_Fo_evaluateNext_17 : decode b_Fo_evaluateNext 17 = .ok (.getfield 104, 3) := by decide +kernel
theorem d_Fo_evaluateNext_20 : decode b_Fo_evaluateNext 20 = .ok (.iload_n 2, 1) := by decide +kernel
theorem d_Fo_evaluateNext_21 : decode b_Fo_evaluateNext 21 = .ok (.aload_n 0, 1) := by decide +kernel
theorem d_Fo_evaluateNext_22 : decode b_Fo_evaluateNext 22 = .ok (.getfield 23, 3) := by decide +kernel
theorem d_Fo_evaluateNext_25 : decode b_Fo_evaluateNext 25 = .ok (.aload_n 0, 1) := by decide +kernel
theorem d_Fo_evaluateNext_26 : decode b_Fo_evaluateNext 26 = .ok (.getfield 31, 3) := by decide +kernel
theorem d_Fo_evaluateNext_29 : decode b_Fo_evaluateNext 29 = .ok (.iload_n 1, 1) := by decide +kernel
theorem d_Fo_evaluateNext_30 : decode b_Fo_evaluateNext 30 = .ok (.iaload, 1) := by decide +kernel
theorem d_Fo_evaluateNext_31 : decode b_Fo_evaluateNext 31 = .ok (.invokevirtual 107, 3) := by decide +kernel
theorem d_Fo_evaluateNext_34 : decode b_Fo_evaluateNext 34 = .ok (.ifCond .eq 12, 3) := by decide +kernel
theorem d_Fo_evaluateNext_37 : decode b_Fo_evaluateNext 37 = .ok (.aload_n 0, 1) := by decide +kernel
theorem d_Fo_evaluateNext_38 : decode b_Fo_evaluateNext 38 = .ok (.getfield 23, 3) := by decide +kernel
theorem d_Fo_evaluateNext_41 : decode b_Fo_evaluateNext 41 = .ok (.iload_n 1, 1) := by decide +kernel
theorem d_Fo_evaluateNext_42 : decode b_Fo_evaluateNext 42 = .ok (.iload_n 2, 1) := by decide +kernel
theorem d_Fo_evaluateNext_43 : decode b_Fo_evaluateNext 43 = .ok (.invokevirtual 91, 3) := by decide +kernel
theorem d_Fo_evaluateNext_46 : decode b_Fo_evaluateNext 46 = .ok (.iinc 2 1, 3) := by decide +kernel
theorem d_Fo_evaluateNext_49 : decode b_Fo_evaluateNext 49 = .ok (.goto (-47), 3) := by decide +kernel
theorem d_Fo_evaluateNext_52 : decode b_Fo_evaluateNext 52 = .ok (.return_, 1) := by decide +kernel
theorem d_Fo_evaluateRing_0 : decode b_Fo_evaluateRing 0 = .ok (.iconst 0, 1) := by decide +kernel
theorem d_Fo_evaluateRing_1 : decode b_Fo_evaluateRing 1 = .ok (.istore_n 3, 1) := by decide +kernel
theorem d_Fo_evaluateRing_2 : decode b_Fo_evaluateRing 2 = .ok (.iconst 0, 1) := by decide +kernel
theorem d_Fo_evaluateRing_3 : decode b_Fo_evaluateRing 3 = .ok (.istore 4, 2) := by decide +kernel
theorem d_Fo_evaluateRing_5 : decode b_Fo_evaluateRing 5 = .ok (.iconst 0, 1) := by decide +kernel
theorem d_Fo_evaluateRing_6 : decode b_Fo_evaluateRing 6 = .ok (.istore 5, 2) := by decide +kernel
theorem d_Fo_evaluateRing_8 : decode b_Fo_evaluateRing 8 = .ok (.iload 5, 2) := by decide +kernel
theorem d_Fo_evaluateRing_10 : decode b_Fo_evaluateRing 10 = .ok (.aload_n 0, 1) := by decide +kernel
theorem d_Fo_evaluateRing_11 : decode b_Fo_evaluateRing 11 = .ok (.getfield 12, 3) := by decide +kernel
theorem d_Fo_evaluateRing_14 : decode b_Fo_evaluateRing 14 = .ok (.getfield 141, 3) := by decide +kernel
theorem d_Fo_evaluateRing_17 : decode b_Fo_evaluateRing 17 = .ok (.if_icmp .ge 61, 3) := by decide +kernel
theorem d_Fo_evaluateRing_20 : decode b_Fo_evaluateRing 20 = .ok (.aload_n 0, 1) := by decide +kernel
theorem d_Fo_evaluateRing_21 : decode b_Fo_evaluateRing 21 = .ok (.getfield 12, 3) := by decide +kernel
theorem d_Fo_evaluateRing_24 : decode b_Fo_evaluateRing 24 = .ok (.getfield 144, 3) := by decide +kernel
theorem d_Fo_evaluateRing_27 : decode b_Fo_evaluateRing 27 = .ok (.iload 5, 2) := by decide +kernel
theorem d_Fo_evaluateRing_29 : decode b_Fo_evaluateRing 29 = .ok (.iaload, 1) := by decide +kernel
theorem d_Fo_evaluateRing_30 : decode b_Fo_evaluateRing 30 = .ok (.istore 6, 2) := by decide +kernel
theorem d_Fo_evaluateRing_32 : decode b_Fo_evaluateRing 32 = .ok (.iload_n 3, 1) := by decide +kernel
theorem d_Fo_evaluateRing_33 : decode b_Fo_evaluateRing 33 = .ok (.aload_n 0, 1) := by decide +kernel
theorem d_Fo_evaluateRing_34 : decode b_Fo_evaluateRing 34 = .ok (.getfield 44, 3) := by decide +kernel
theorem d_Fo_evaluateRing_37 : decode b_Fo_evaluateRing 37 = .ok (.getfield 104, 3) := by decide +kernel
theorem d_Fo_evaluateRing_40 : decode b_Fo_evaluateRing 40 = .ok (.iload 6, 2) := by decide +kernel
theorem d_Fo_evaluateRing_42 : decode b_Fo_evaluateRing 42 = .ok (.aload_n 0, 1) := by decide +kernel
theorem d_Fo_evaluateRing_43 : decode b_Fo_evaluateRing 43 = .ok (.getfield 23, 3) := by decide +kernel
theorem d_Fo_evaluateRing_46 : decode b_Fo_evaluateRing 46 = .ok (.iload_n 1, 1) := by decide +kernel
theorem d_Fo_evaluateRing_47 : decode b_Fo_evaluateRing 47 = .ok (.invokevirtual 107, 3) := by decide +kernel
theorem d_Fo_evaluateRing_50 : decode b_Fo_evaluateRing 50 = .ok (.ior, 1) := by decide +kernel
theorem d_Fo_evaluateRing_51 : decode b_Fo_evaluateRing 51 = .ok (.istore_n 3, 1) := by decide +kernel
theorem d_Fo_evaluateRing_52 : decode b_Fo_evaluateRing 52 = .ok (.iload 4, 2) := by decide +kernel
theorem d_Fo_evaluateRing_54 : decode b_Fo_evaluateRing 54 = .ok (.aload_n 0, 1) := by decide +kernel
theorem d_Fo_evaluateRing_55 : decode b_Fo_evaluateRing 55 = .ok (.getfield 23, 3) := by decide +kernel
theorem d_Fo_evaluateRing_58 : decode b_Fo_evaluateRing 58 = .ok (.aload_n 0, 1) := by decide +kernel
theorem d_Fo_evaluateRing_59 : decode b_Fo_evaluateRing 59 = .ok (.getfield 34, 3) := by decide +kernel
theorem d_Fo_evaluateRing_62 : decode b_Fo_evaluateRing 62 = .ok (.iload_n 1, 1) := by decide +kernel
theorem d_Fo_evaluateRing_63 : decode b_Fo_evaluateRing 63 = .ok (.iaload, 1) := by decide +kernel
theorem d_Fo_evaluateRing_64 : decode b_Fo_evaluateRing 64 = .ok (.iload 6, 2) := by decide +kernel
theorem d_Fo_evaluateRing_66 : decode b_Fo_evaluateRing 66 = .ok (.invokevirtual 118, 3) := by decide +kernel
theorem d_Fo_evaluateRing_69 : decode b_Fo_evaluateRing 69 = .ok (.ior, 1) := by decide +kernel
theorem d_Fo_evaluateRing_70 : decode b_Fo_evaluateRing 70 = .ok (.istore 4, 2) := by decide +kernel
theorem d_Fo_evaluateRing_72 : decode b_Fo_evaluateRing 72 = .ok (.iinc 5 1, 3) := by decide +kernel
theorem d_Fo_evaluateRing_75 : decode b_Fo_evaluateRing 75 = .ok (.goto (-67), 3) := by decide +kernel
theorem d_Fo_evaluateRing_78 : decode b_Fo_evaluateRing 78 = .ok (.aload_n 0, 1) := by decide +kernel
theorem d_Fo_evaluateRing_79 : decode b_Fo_evaluateRing 79 = .ok (.getfield 12, 3) := by decide +kernel
theorem d_Fo_evaluateRing_82 : decode b_Fo_evaluateRing 82 = .ok (.getfield 141, 3) := by decide +kernel
theorem d_Fo_evaluateRing_85 : decode b_Fo_evaluateRing 85 = .ok (.iconst 1, 1) := by decide +kernel
theorem d_Fo_evaluateRing_86 : decode b_Fo_evaluateRing 86 = .ok (.if_icmp .gt 18, 3) := by decide +kernel
theorem d_Fo_evaluateRing_89 : decode b_Fo_evaluateRing 89 = .ok (.aload_n 0, 1) := by decide +kernel
theorem d_Fo_evaluateRing_90 : decode b_Fo_evaluateRing 90 = .ok (.getfield 44, 3) := by decide +kernel
theorem d_Fo_evaluateRing_93 : decode b_Fo_evaluateRing 93 = .ok (.getfield 104, 3) := by decide +kernel
theorem d_Fo_evaluateRing_96 : decode b_Fo_evaluateRing 96 = .ok (.iload_n 2, 1) := by decide +kernel
theorem d_Fo_evaluateRing_97 : decode b_Fo_evaluateRing 97 = .ok (.iload_n 2, 1) := by decide +kernel
theorem d_Fo_evaluateRing_98 : decode b_Fo_evaluateRing 98 = .ok (.invokevirtual 118, 3) := by decide +kernel
theorem d_Fo_evaluateRing_101 : decode b_Fo_evaluateRing 101 = .ok (.ifCond .eq 7, 3) := by decide +kernel
theorem d_Fo_evaluateRing_104 : decode b_Fo_evaluateRing 104 = .ok (.iconst 1, 1) := by decide +kernel
theorem d_Fo_evaluateRing_105 : decode b_Fo_evaluateRing 105 = .ok (.goto 4, 3) := by decide +kernel
theorem d_Fo_evaluateRing_108 : decode b_Fo_evaluateRing 108 = .ok (.iconst 0, 1) := by decide +kernel
theorem d_Fo_evaluateRing_109 : decode b_Fo_evaluateRing 109 = .ok (.istore 5, 2) := by decide +kernel
theorem d_Fo_evaluateRing_111 : decode b_Fo_evaluateRing 111 = .ok (.iload_n 3, 1) := by decide +kernel
theorem d_Fo_evaluateRing_112 : decode b_Fo_evaluateRing 112 = .ok (.ifCond .ne 13, 3) := by decide +kernel
theorem d_Fo_evaluateRing_115 : decode b_Fo_evaluateRing 115 = .ok (.iload 4, 2) := by decide +kernel
theorem d_Fo_evaluateRing_117 : decode b_Fo_evaluateRing 117 = .ok (.ifCond .eq 13, 3) := by decide +kernel
theorem d_Fo_evaluateRing_120 : decode b_Fo_evaluateRing 120 = .ok (.iload 5, 2) := by decide +kernel
theorem d_Fo_evaluateRing_122 : decode b_Fo_evaluateRing 122 = .ok (.ifCond .eq 8, 3) := by decide +kernel
theorem d_Fo_evaluateRing_125 : decode b_Fo_evaluateRing 125 = .ok (.aload_n 0, 1) := by decide +kernel
theorem d_Fo_evaluateRing_126 : decode b_Fo_evaluateRing 126 = .ok (.iload_n 1, 1) := by decide +kernel
theorem d_Fo_evaluateRing_127 : decode b_Fo_evaluateRing 127 = .ok (.invokevirtual 138, 3) := by decide +kernel
theorem d_Fo_evaluateRing_130 : decode b_Fo_evaluateRing 130 = .ok (.return_, 1) := by decide +kernel
theorem d_Fo_evaluateUntil_0 : decode b_Fo_evaluateUntil 0 = .ok (.aload_n 0, 1) := by decide +kernel
theorem d_Fo_evaluateUntil_1 : decode b_Fo_evaluateUntil 1 = .ok (.getfield 12, 3) := by decide +kernel
theorem d_Fo_evaluateUntil_4 : decode b_Fo_evaluateUntil 4 = .ok (.aload_n 0, 1) := by decide +kernel
theorem d_Fo_evaluateUntil_5 : decode b_Fo_evaluateUntil 5 = .ok (.getfield 23, 3) := by decide +kernel
theorem d_Fo_evaluateUntil_8 : decode b_Fo_evaluateUntil 8 = .ok (.aload_n 0, 1) := by decide +kernel
theorem d_Fo_evaluateUntil_9 : decode b_Fo_evaluateUntil 9 = .ok (.getfield 31, 3) := by decide +kernel
theorem d_Fo_evaluateUntil_12 : decode b_Fo_evaluateUntil 12 = .ok (.iload_n 1, 1) := by decide +kernel
theorem d_Fo_evaluateUntil_13 : decode b_Fo_evaluateUntil 13 = .ok (.iaload, 1) := by decide +kernel
theorem d_Fo_evaluateUntil_14 : decode b_Fo_evaluateUntil 14 = .ok (.invokevirtual 111, 3) := by decide +kernel
theorem d_Fo_evaluateUntil_17 : decode b_Fo_evaluateUntil 17 = .ok (.iconst 0, 1) := by decide +kernel
theorem d_Fo_evaluateUntil_18 : decode b_Fo_evaluateUntil 18 = .ok (.istore_n 2, 1) := by decide +kernel
theorem d_Fo_evaluateUntil_19 : decode b_Fo_evaluateUntil 19 = .ok (.iload_n 2, 1) := by decide +kernel
theorem d_Fo_evaluateUntil_20 : decode b_Fo_evaluateUntil 20 = .ok (.aload_n 0, 1) := by decide +kernel
theorem d_Fo_evaluateUntil_21 : decode b_Fo_evaluateUntil 21 = .ok (.getfield 44, 3) := by decide +kernel
theorem d_Fo_evaluateUntil_24 : decode b_Fo_evaluateUntil 24 = .ok (.getfield 88, 3) := by decide +kernel
theorem d_Fo_evaluateUntil_27 : decode b_Fo_evaluateUntil 27 = .ok (.if_icmp .ge 57, 3) := by decide +kernel
theorem d_Fo_evaluateUntil_30 : decode b_Fo_evaluateUntil 30 = .ok (.aload_n 0, 1) := by decide +kernel
theorem d_Fo_evaluateUntil_31 : decode b_Fo_evaluateUntil 31 = .ok (.getfield 12, 3) := by decide +kernel
theorem d_Fo_evaluateUntil_34 : decode b_Fo_evaluateUntil 34 = .ok (.getfield 115, 3) := by decide +kernel
theorem d_Fo_evaluateUntil_37 : decode b_Fo_evaluateUntil 37 = .ok (.iload_n 2, 1) := by decide +kernel
theorem d_Fo_evaluateUntil_38 : decode b_Fo_evaluateUntil 38 = .ok (.iconst (-1), 1) := by decide +kernel
theorem d_Fo_evaluateUntil_39 : decode b_Fo_evaluateUntil 39 = .ok (.iastore, 1) := by decide +kernel
theorem d_Fo_evaluateUntil_40 : decode b_Fo_evaluateUntil 40 = .ok (.aload_n 0, 1) := by decide +kernel
theorem d_Fo_evaluateUntil_41 : decode b_Fo_evaluateUntil 41 = .ok (.getfield 23, 3) := by decide +kernel
theorem d_Fo_evaluateUntil_44 : decode b_Fo_evaluateUntil 44 = .ok (.aload_n 0, 1) := by decide +kernel
theorem d_Fo_evaluateUntil_45 : decode b_Fo_evaluateUntil 45 = .ok (.getfield 34, 3) := by decide +kernel
theorem d_Fo_evaluateUntil_48 : decode b_Fo_evaluateUntil 48 = .ok (.iload_n 1, 1) := by decide +kernel
theorem d_Fo_evaluateUntil_49 : decode b_Fo_evaluateUntil 49 = .ok (.iaload, 1) := by decide +kernel
theorem d_Fo_evaluateUntil_50 : decode b_Fo_evaluateUntil 50 = .ok (.iload_n 2, 1) := by decide +kernel
theorem d_Fo_evaluateUntil_51 : decode b_Fo_evaluateUntil 51 = .ok (.invokevirtual 118, 3) := by decide +kernel
theorem d_Fo_evaluateUntil_54 : decode b_Fo_evaluateUntil 54 = .ok (.ifCond .eq 24, 3) := by decide +kernel
theorem d_Fo_evaluateUntil_57 : decode b_Fo_evaluateUntil 57 = .ok (.aload_n 0, 1) := by decide +kernel
theorem d_Fo_evaluateUntil_58 : decode b_Fo_evaluateUntil 58 = .ok (.getfield 12, 3) := by decide +kernel
theorem d_Fo_evaluateUntil_61 : decode b_Fo_evaluateUntil 61 = .ok (.getfield 122, 3) := by decide +kernel
theorem d_Fo_evaluateUntil_64 : decode b_Fo_evaluateUntil 64 = .ok (.iconst 0, 1) := by decide +kernel
theorem d_Fo_evaluateUntil_65 : decode b_Fo_evaluateUntil 65 = .ok (.iload_n 2, 1) := by decide +kernel
theorem d_Fo_evaluateUntil_66 : decode b_Fo_evaluateUntil 66 = .ok (.invokevirtual 125, 3) := by decide +kernel
theorem d_Fo_evaluateUntil_69 : decode b_Fo_evaluateUntil 69 = .ok (.aload_n 0, 1) := by decide +kernel
theorem d_Fo_evaluateUntil_70 : decode b_Fo_evaluateUntil 70 = .ok (.getfield 12, 3) := by decide +kernel
theorem d_Fo_evaluateUntil_73 : decode b_Fo_evaluateUntil 73 = .ok (.iload_n 2, 1) := by decide +kernel
theorem d_Fo_evaluateUntil_74 : decode b_Fo_evaluateUntil 74 = .ok (.iconst 0, 1) := by decide +kernel
theorem d_Fo_evaluateUntil_75 : decode b_Fo_evaluateUntil 75 = .ok (.invokevirtual 128, 3) := by decide +kernel
theorem d_Fo_evaluateUntil_78 : decode b_Fo_evaluateUntil 78 = .ok (.iinc 2 1, 3) := by decide +kernel
theorem d_Fo_evaluateUntil_81 : decode b_Fo_evaluateUntil 81 = .ok (.goto (-62), 3) := by decide +kernel
theorem d_Fo_evaluateUntil_84 : decode b_Fo_evaluateUntil 84 = .ok (.aload_n 0, 1) := by decide +kernel
theorem d_Fo_evaluateUntil_85 : decode b_Fo_evaluateUntil 85 = .ok (.getfield 12, 3) := by decide +kernel
theorem d_Fo_evaluateUntil_88 : decode b_Fo_evaluateUntil 88 = .ok (.aload_n 0, 1) := by decide +kernel
theorem d_Fo_evaluateUntil_89 : decode b_Fo_evaluateUntil 89 = .ok (.getfield 44, 3) := by decide +kernel
theorem d_Fo_evaluateUntil_92 : decode b_Fo_evaluateUntil 92 = .ok (.getfield 131, 3) := by decide +kernel
theorem d_Fo_evaluateUntil_95 : decode b_Fo_evaluateUntil 95 = .ok (.invokevirtual 134, 3) := by decide +kernel
theorem d_Fo_evaluateUntil_98 : decode b_Fo_evaluateUntil 98 = .ok (.aload_n 0, 1) := by decide +kernel
theorem d_Fo_evaluateUntil_99 : decode b_Fo_evaluateUntil 99 = .ok (.iload_n 1, 1) := by decide +kernel
theorem d_Fo_evaluateUntil_100 : decode b_Fo_evaluateUntil 100 = .ok (.invokevirtual 138, 3) := by decide +kernel
theorem d_Fo_evaluateUntil_103 : decode b_Fo_evaluateUntil 103 = .ok (.aload_n 0, 1) := by decide +kernel
theorem d_Fo_evaluateUntil_104 : decode b_Fo_evaluateUntil 104 = .ok (.iload_n 1, 1) := by decide +kernel
theorem d_Fo_evaluateUntil_105 : decode b_Fo_evaluateUntil 105 = .ok (.putfield 48, 3) := by decide +kernel
theorem d_Fo_evaluateUntil_108 : decode b_Fo_evaluateUntil 108 = .ok (.return_, 1) := by decide +kernel
theorem d_Fo_evaluateWords_0 : decode b_Fo_evaluateWords 0 = .ok (.aload_n 0, 1) := by decide +kernel
theorem d_Fo_evaluateWords_1 : decode b_Fo_evaluateWords 1 = .ok (.getfield 23, 3) := by decide +kernel
theorem d_Fo_evaluateWords_4 : decode b_Fo_evaluateWords 4 = .ok (.getfield 95, 3) := by decide +kernel
theorem d_Fo_evaluateWords_7 : decode b_Fo_evaluateWords 7 = .ok (.astore_n 2, 1) := by decide +kernel
theorem d_Fo_evaluateWords_8 : decode b_Fo_evaluateWords 8 = .ok (.iconst 0, 1) := by decide +kernel
theorem d_Fo_evaluateWords_9 : decode b_Fo_evaluateWords 9 = .ok (.istore_n 3, 1) := by decide +kernel
theorem d_Fo_evaluateWords_10 : decode b_Fo_evaluateWords 10 = .ok (.iload_n 3, 1) := by decide +kernel
theorem d_Fo_evaluateWords_11 : decode b_Fo_evaluateWords 11 = .ok (.iconst 4, 1) := by decide +kernel
theorem d_Fo_evaluateWords_12 : decode b_Fo_evaluateWords 12 = .ok (.if_icmp .ge 103, 3) := by decide +kernel
theorem d_Fo_evaluateWords_15 : decode b_Fo_evaluateWords 15 = .ok (.aload_n 2, 1) := by decide +kernel
theorem d_Fo_evaluateWords_16 : decode b_Fo_evaluateWords 16 = .ok (.aload_n 0, 1) := by decide +kernel
theorem d_Fo_evaluateWords_17 : decode b_Fo_evaluateWords 17 = .ok (.getfield 31, 3) := by decide +kernel
theorem d_Fo_evaluateWords_20 : decode b_Fo_evaluateWords 20 = .ok (.iload_n 1, 1) := by decide +kernel
end
section
theorem d_Fo_evaluateWords_21 : decode b_Fo_evaluateWords 21 = .ok (.iaload, 1) := by decide +kernel
theorem d_Fo_evaluateWords_22 : decode b_Fo_evaluateWords 22 = .ok (.iconst 4, 1) := by decide +kernel
theorem d_Fo_evaluateWords_23 : decode b_Fo_evaluateWords 23 = .ok (.imul, 1) := by decide +kernel
theorem d_Fo_evaluateWords_24 : decode b_Fo_evaluateWords 24 = .ok (.iload_n 3, 1) := by decide +kernel
theorem d_Fo_evaluateWords_25 : decode b_Fo_evaluateWords 25 = .ok (.iadd, 1) := by decide +kernel
theorem d_Fo_evaluateWords_26 : decode b_Fo_evaluateWords 26 = .ok (.laload, 1) := by decide +kernel
theorem d_Fo_evaluateWords_27 : decode b_Fo_evaluateWords 27 = .ok (.lstore 4, 2) := by decide +kernel
theorem d_Fo_evaluateWords_29 : decode b_Fo_evaluateWords 29 = .ok (.aload_n 2, 1) := by decide +kernel
theorem d_Fo_evaluateWords_30 : decode b_Fo_evaluateWords 30 = .ok (.aload_n 0, 1) := by decide +kernel
theorem d_Fo_evaluateWords_31 : decode b_Fo_evaluateWords 31 = .ok (.getfield 34, 3) := by decide +kernel
theorem d_Fo_evaluateWords_34 : decode b_Fo_evaluateWords 34 = .ok (.iload_n 1, 1) := by decide +kernel
theorem d_Fo_evaluateWords_35 : decode b_Fo_evaluateWords 35 = .ok (.iaload, 1) := by decide +kernel
theorem d_Fo_evaluateWords_36 : decode b_Fo_evaluateWords 36 = .ok (.iconst 4, 1) := by decide +kernel
theorem d_Fo_evaluateWords_37 : decode b_Fo_evaluateWords 37 = .ok (.imul, 1) := by decide +kernel
theorem d_Fo_evaluateWords_38 : decode b_Fo_evaluateWords 38 = .ok (.iload_n 3, 1) := by decide +kernel
theorem d_Fo_evaluateWords_39 : decode b_Fo_evaluateWords 39 = .ok (.iadd, 1) := by decide +kernel
theorem d_Fo_evaluateWords_40 : decode b_Fo_evaluateWords 40 = .ok (.laload, 1) := by decide +kernel
theorem d_Fo_evaluateWords_41 : decode b_Fo_evaluateWords 41 = .ok (.lstore 6, 2) := by decide +kernel
theorem d_Fo_evaluateWords_43 : decode b_Fo_evaluateWords 43 = .ok (.aload_n 0, 1) := by decide +kernel
theorem d_Fo_evaluateWords_44 : decode b_Fo_evaluateWords 44 = .ok (.getfield 27, 3) := by decide +kernel
theorem d_Fo_evaluateWords_47 : decode b_Fo_evaluateWords 47 = .ok (.iload_n 1, 1) := by decide +kernel
theorem d_Fo_evaluateWords_48 : decode b_Fo_evaluateWords 48 = .ok (.iaload, 1) := by decide +kernel
theorem d_Fo_evaluateWords_49 : decode b_Fo_evaluateWords 49 = .ok (.iconst 2, 1) := by decide +kernel
theorem d_Fo_evaluateWords_50 : decode b_Fo_evaluateWords 50 = .ok (.if_icmp .ne 11, 3) := by decide +kernel
theorem d_Fo_evaluateWords_53 : decode b_Fo_evaluateWords 53 = .ok (.lload 4, 2) := by decide +kernel
theorem d_Fo_evaluateWords_55 : decode b_Fo_evaluateWords 55 = .ok (.lload 6, 2) := by decide +kernel
theorem d_Fo_evaluateWords_57 : decode b_Fo_evaluateWords 57 = .ok (.land, 1) := by decide +kernel
theorem d_Fo_evaluateWords_58 : decode b_Fo_evaluateWords 58 = .ok (.goto 8, 3) := by decide +kernel
theorem d_Fo_evaluateWords_61 : decode b_Fo_evaluateWords 61 = .ok (.lload 4, 2) := by decide +kernel
theorem d_Fo_evaluateWords_63 : decode b_Fo_evaluateWords 63 = .ok (.lload 6, 2) := by decide +kernel
theorem d_Fo_evaluateWords_65 : decode b_Fo_evaluateWords 65 = .ok (.lor, 1) := by decide +kernel
theorem d_Fo_evaluateWords_66 : decode b_Fo_evaluateWords 66 = .ok (.lstore 8, 2) := by decide +kernel
theorem d_Fo_evaluateWords_68 : decode b_Fo_evaluateWords 68 = .ok (.aload_n 2, 1) := by decide +kernel
theorem d_Fo_evaluateWords_69 : decode b_Fo_evaluateWords 69 = .ok (.iload_n 1, 1) := by decide +kernel
theorem d_Fo_evaluateWords_70 : decode b_Fo_evaluateWords 70 = .ok (.iconst 4, 1) := by decide +kernel
theorem d_Fo_evaluateWords_71 : decode b_Fo_evaluateWords 71 = .ok (.imul, 1) := by decide +kernel
theorem d_Fo_evaluateWords_72 : decode b_Fo_evaluateWords 72 = .ok (.iload_n 3, 1) := by decide +kernel
theorem d_Fo_evaluateWords_73 : decode b_Fo_evaluateWords 73 = .ok (.iadd, 1) := by decide +kernel
theorem d_Fo_evaluateWords_74 : decode b_Fo_evaluateWords 74 = .ok (.aload_n 0, 1) := by decide +kernel
theorem d_Fo_evaluateWords_75 : decode b_Fo_evaluateWords 75 = .ok (.getfield 27, 3) := by decide +kernel
theorem d_Fo_evaluateWords_78 : decode b_Fo_evaluateWords 78 = .ok (.iload_n 1, 1) := by decide +kernel
theorem d_Fo_evaluateWords_79 : decode b_Fo_evaluateWords 79 = .ok (.iaload, 1) := by decide +kernel
theorem d_Fo_evaluateWords_80 : decode b_Fo_evaluateWords 80 = .ok (.iconst 1, 1) := by decide +kernel
theorem d_Fo_evaluateWords_81 : decode b_Fo_evaluateWords 81 = .ok (.if_icmp .ne 25, 3) := by decide +kernel
theorem d_Fo_evaluateWords_84 : decode b_Fo_evaluateWords 84 = .ok (.aload_n 0, 1) := by decide +kernel
theorem d_Fo_evaluateWords_85 : decode b_Fo_evaluateWords 85 = .ok (.getfield 44, 3) := by decide +kernel
theorem d_Fo_evaluateWords_88 : decode b_Fo_evaluateWords 88 = .ok (.getfield 99, 3) := by decide +kernel
theorem d_Fo_evaluateWords_91 : decode b_Fo_evaluateWords 91 = .ok (.getfield 95, 3) := by decide +kernel
theorem d_Fo_evaluateWords_94 : decode b_Fo_evaluateWords 94 = .ok (.iload_n 3, 1) := by decide +kernel
theorem d_Fo_evaluateWords_95 : decode b_Fo_evaluateWords 95 = .ok (.laload, 1) := by decide +kernel
theorem d_Fo_evaluateWords_96 : decode b_Fo_evaluateWords 96 = .ok (.lload 4, 2) := by decide +kernel
theorem d_Fo_evaluateWords_98 : decode b_Fo_evaluateWords 98 = .ok (.ldc2_w 102, 3) := by decide +kernel
theorem d_Fo_evaluateWords_101 : decode b_Fo_evaluateWords 101 = .ok (.lxor, 1) := by decide +kernel
theorem d_Fo_evaluateWords_102 : decode b_Fo_evaluateWords 102 = .ok (.land, 1) := by decide +kernel
theorem d_Fo_evaluateWords_103 : decode b_Fo_evaluateWords 103 = .ok (.goto 5, 3) := by decide +kernel
theorem d_Fo_evaluateWords_106 : decode b_Fo_evaluateWords 106 = .ok (.lload 8, 2) := by decide +kernel
theorem d_Fo_evaluateWords_108 : decode b_Fo_evaluateWords 108 = .ok (.lastore, 1) := by decide +kernel
theorem d_Fo_evaluateWords_109 : decode b_Fo_evaluateWords 109 = .ok (.iinc 3 1, 3) := by decide +kernel
theorem d_Fo_evaluateWords_112 : decode b_Fo_evaluateWords 112 = .ok (.goto (-102), 3) := by decide +kernel
theorem d_Fo_evaluateWords_115 : decode b_Fo_evaluateWords 115 = .ok (.return_, 1) := by decide +kernel
theorem d_Fo_forgetAll_0 : decode b_Fo_forgetAll 0 = .ok (.aload_n 0, 1) := by decide +kernel
theorem d_Fo_forgetAll_1 : decode b_Fo_forgetAll 1 = .ok (.iconst 0, 1) := by decide +kernel
theorem d_Fo_forgetAll_2 : decode b_Fo_forgetAll 2 = .ok (.putfield 52, 3) := by decide +kernel
theorem d_Fo_forgetAll_5 : decode b_Fo_forgetAll 5 = .ok (.aload_n 0, 1) := by decide +kernel
theorem d_Fo_forgetAll_6 : decode b_Fo_forgetAll 6 = .ok (.iconst (-1), 1) := by decide +kernel
theorem d_Fo_forgetAll_7 : decode b_Fo_forgetAll 7 = .ok (.putfield 48, 3) := by decide +kernel
theorem d_Fo_forgetAll_10 : decode b_Fo_forgetAll 10 = .ok (.return_, 1) := by decide +kernel
theorem d_Fo_init_0 : decode b_Fo_init 0 = .ok (.aload_n 0, 1) := by decide +kernel
theorem d_Fo_init_1 : decode b_Fo_init 1 = .ok (.invokespecial 3, 3) := by decide +kernel
theorem d_Fo_init_4 : decode b_Fo_init 4 = .ok (.aload_n 0, 1) := by decide +kernel
theorem d_Fo_init_5 : decode b_Fo_init 5 = .ok (.new 9, 3) := by decide +kernel
theorem d_Fo_init_8 : decode b_Fo_init 8 = .ok (.dup, 1) := by decide +kernel
theorem d_Fo_init_9 : decode b_Fo_init 9 = .ok (.invokespecial 11, 3) := by decide +kernel
theorem d_Fo_init_12 : decode b_Fo_init 12 = .ok (.putfield 12, 3) := by decide +kernel
theorem d_Fo_init_15 : decode b_Fo_init 15 = .ok (.aload_n 0, 1) := by decide +kernel
theorem d_Fo_init_16 : decode b_Fo_init 16 = .ok (.new 18, 3) := by decide +kernel
theorem d_Fo_init_19 : decode b_Fo_init 19 = .ok (.dup, 1) := by decide +kernel
theorem d_Fo_init_20 : decode b_Fo_init 20 = .ok (.bipush 60, 2) := by decide +kernel
theorem d_Fo_init_22 : decode b_Fo_init 22 = .ok (.invokespecial 20, 3) := by decide +kernel
theorem d_Fo_init_25 : decode b_Fo_init 25 = .ok (.putfield 23, 3) := by decide +kernel
theorem d_Fo_init_28 : decode b_Fo_init 28 = .ok (.aload_n 0, 1) := by decide +kernel
theorem d_Fo_init_29 : decode b_Fo_init 29 = .ok (.bipush 60, 2) := by decide +kernel
theorem d_Fo_init_31 : decode b_Fo_init 31 = .ok (.newarray .int, 2) := by decide +kernel
theorem d_Fo_init_33 : decode b_Fo_init 33 = .ok (.putfield 27, 3) := by decide +kernel
theorem d_Fo_init_36 : decode b_Fo_init 36 = .ok (.aload_n 0, 1) := by decide +kernel
theorem d_Fo_init_37 : decode b_Fo_init 37 = .ok (.bipush 60, 2) := by decide +kernel
theorem d_Fo_init_39 : decode b_Fo_init 39 = .ok (.newarray .int, 2) := by decide +kernel
theorem d_Fo_init_41 : decode b_Fo_init 41 = .ok (.putfield 31, 3) := by decide +kernel
theorem d_Fo_init_44 : decode b_Fo_init 44 = .ok (.aload_n 0, 1) := by decide +kernel
theorem d_Fo_init_45 : decode b_Fo_init 45 = .ok (.bipush 60, 2) := by decide +kernel
theorem d_Fo_init_47 : decode b_Fo_init 47 = .ok (.newarray .int, 2) := by decide +kernel
theorem d_Fo_init_49 : decode b_Fo_init 49 = .ok (.putfield 34, 3) := by decide +kernel
theorem d_Fo_init_52 : decode b_Fo_init 52 = .ok (.aload_n 0, 1) := by decide +kernel
theorem d_Fo_init_53 : decode b_Fo_init 53 = .ok (.bipush 60, 2) := by decide +kernel
theorem d_Fo_init_55 : decode b_Fo_init 55 = .ok (.newarray .int, 2) := by decide +kernel
theorem d_Fo_init_57 : decode b_Fo_init 57 = .ok (.putfield 37, 3) := by decide +kernel
theorem d_Fo_init_60 : decode b_Fo_init 60 = .ok (.aload_n 0, 1) := by decide +kernel
theorem d_Fo_init_61 : decode b_Fo_init 61 = .ok (.bipush 60, 2) := by decide +kernel
theorem d_Fo_init_63 : decode b_Fo_init 63 = .ok (.newarray .boolean, 2) := by decide +kernel
theorem d_Fo_init_65 : decode b_Fo_init 65 = .ok (.putfield 40, 3) := by decide +kernel
theorem d_Fo_init_68 : decode b_Fo_init 68 = .ok (.aload_n 0, 1) := by decide +kernel
theorem d_Fo_init_69 : decode b_Fo_init 69 = .ok (.aload_n 1, 1) := by decide +kernel
theorem d_Fo_init_70 : decode b_Fo_init 70 = .ok (.putfield 44, 3) := by decide +kernel
theorem d_Fo_init_73 : decode b_Fo_init 73 = .ok (.aload_n 0, 1) := by decide +kernel
theorem d_Fo_init_74 : decode b_Fo_init 74 = .ok (.iconst (-1), 1) := by decide +kernel
theorem d_Fo_init_75 : decode b_Fo_init 75 = .ok (.putfield 48, 3) := by decide +kernel
theorem d_Fo_init_78 : decode b_Fo_init 78 = .ok (.return_, 1) := by decide +kernel
theorem d_Fo_isThere_0 : decode b_Fo_isThere 0 = .ok (.iload_n 1, 1) := by decide +kernel
theorem d_Fo_isThere_1 : decode b_Fo_isThere 1 = .ok (.ifCond .lt 15, 3) := by decide +kernel
theorem d_Fo_isThere_4 : decode b_Fo_isThere 4 = .ok (.iload_n 1, 1) := by decide +kernel
theorem d_Fo_isThere_5 : decode b_Fo_isThere 5 = .ok (.aload_n 0, 1) := by decide +kernel
theorem d_Fo_isThere_6 : decode b_Fo_isThere 6 = .ok (.getfield 52, 3) := by decide +kernel
theorem d_Fo_isThere_9 : decode b_Fo_isThere 9 = .ok (.if_icmp .ge 7, 3) := by decide +kernel
theorem d_Fo_isThere_12 : decode b_Fo_isThere 12 = .ok (.iconst 1, 1) := by decide +kernel
theorem d_Fo_isThere_13 : decode b_Fo_isThere 13 = .ok (.goto 4, 3) := by decide +kernel
theorem d_Fo_isThere_16 : decode b_Fo_isThere 16 = .ok (.iconst 0, 1) := by decide +kernel
theorem d_Fo_isThere_17 : decode b_Fo_isThere 17 = .ok (.ireturn, 1) := by decide +kernel
theorem d_Fo_nearerState_0 : decode b_Fo_nearerState 0 = .ok (.aload_n 0, 1) := by decide +kernel
theorem d_Fo_nearerState_1 : decode b_Fo_nearerState 1 = .ok (.getfield 12, 3) := by decide +kernel
theorem d_Fo_nearerState_4 : decode b_Fo_nearerState 4 = .ok (.getfield 115, 3) := by decide +kernel
theorem d_Fo_nearerState_7 : decode b_Fo_nearerState 7 = .ok (.iload_n 1, 1) := by decide +kernel
theorem d_Fo_nearerState_8 : decode b_Fo_nearerState 8 = .ok (.iaload, 1) := by decide +kernel
theorem d_Fo_nearerState_9 : decode b_Fo_nearerState 9 = .ok (.iconst 1, 1) := by decide +kernel
theorem d_Fo_nearerState_10 : decode b_Fo_nearerState 10 = .ok (.isub, 1) := by decide +kernel
theorem d_Fo_nearerState_11 : decode b_Fo_nearerState 11 = .ok (.istore_n 2, 1) := by decide +kernel
theorem d_Fo_nearerState_12 : decode b_Fo_nearerState 12 = .ok (.aload_n 0, 1) := by decide +kernel
theorem d_Fo_nearerState_13 : decode b_Fo_nearerState 13 = .ok (.getfield 44, 3) := by decide +kernel
theorem d_Fo_nearerState_16 : decode b_Fo_nearerState 16 = .ok (.getfield 104, 3) := by decide +kernel
theorem d_Fo_nearerState_19 : decode b_Fo_nearerState 19 = .ok (.iload_n 1, 1) := by decide +kernel
theorem d_Fo_nearerState_20 : decode b_Fo_nearerState 20 = .ok (.iconst 0, 1) := by decide +kernel
theorem d_Fo_nearerState_21 : decode b_Fo_nearerState 21 = .ok (.invokevirtual 161, 3) := by decide +kernel
theorem d_Fo_nearerState_24 : decode b_Fo_nearerState 24 = .ok (.istore_n 3, 1) := by decide +kernel
theorem d_Fo_nearerState_25 : decode b_Fo_nearerState 25 = .ok (.iconst 0, 1) := by decide +kernel
theorem d_Fo_nearerState_26 : decode b_Fo_nearerState 26 = .ok (.istore 4, 2) := by decide +kernel
theorem d_Fo_nearerState_28 : decode b_Fo_nearerState 28 = .ok (.iload_n 3, 1) := by decide +kernel
theorem d_Fo_nearerState_29 : decode b_Fo_nearerState 29 = .ok (.iconst (-1), 1) := by decide +kernel
theorem d_Fo_nearerState_30 : decode b_Fo_nearerState 30 = .ok (.if_icmp .eq 47, 3) := by decide +kernel
theorem d_Fo_nearerState_33 : decode b_Fo_nearerState 33 = .ok (.iload 4, 2) := by decide +kernel
theorem d_Fo_nearerState_35 : decode b_Fo_nearerState 35 = .ok (.sipush 256, 3) := by decide +kernel
theorem d_Fo_nearerState_38 : decode b_Fo_nearerState 38 = .ok (.if_icmp .ge 39, 3) := by decide +kernel
theorem d_Fo_nearerState_41 : decode b_Fo_nearerState 41 = .ok (.aload_n 0, 1) := by decide +kernel
theorem d_Fo_nearerState_42 : decode b_Fo_nearerState 42 = .ok (.getfield 12, 3) := by decide +kernel
theorem d_Fo_nearerState_45 : decode b_Fo_nearerState 45 = .ok (.getfield 115, 3) := by decide +kernel
theorem d_Fo_nearerState_48 : decode b_Fo_nearerState 48 = .ok (.iload_n 3, 1) := by decide +kernel
theorem d_Fo_nearerState_49 : decode b_Fo_nearerState 49 = .ok (.iaload, 1) := by decide +kernel
theorem d_Fo_nearerState_50 : decode b_Fo_nearerState 50 = .ok (.iload_n 2, 1) := by decide +kernel
theorem d_Fo_nearerState_51 : decode b_Fo_nearerState 51 = .ok (.if_icmp .ne 5, 3) := by decide +kernel
theorem d_Fo_nearerState_54 : decode b_Fo_nearerState 54 = .ok (.iload_n 3, 1) := by decide +kernel
theorem d_Fo_nearerState_55 : decode b_Fo_nearerState 55 = .ok (.ireturn, 1) := by decide +kernel
theorem d_Fo_nearerState_56 : decode b_Fo_nearerState 56 = .ok (.aload_n 0, 1) := by decide +kernel
theorem d_Fo_nearerState_57 : decode b_Fo_nearerState 57 = .ok (.getfield 44, 3) := by decide +kernel
theorem d_Fo_nearerState_60 : decode b_Fo_nearerState 60 = .ok (.getfield 104, 3) := by decide +kernel
theorem d_Fo_nearerState_63 : decode b_Fo_nearerState 63 = .ok (.iload_n 1, 1) := by decide +kernel
theorem d_Fo_nearerState_64 : decode b_Fo_nearerState 64 = .ok (.iload_n 3, 1) := by decide +kernel
theorem d_Fo_nearerState_65 : decode b_Fo_nearerState 65 = .ok (.iconst 1, 1) := by decide +kernel
theorem d_Fo_nearerState_66 : decode b_Fo_nearerState 66 = .ok (.iadd, 1) := by decide +kernel
theorem d_Fo_nearerState_67 : decode b_Fo_nearerState 67 = .ok (.invokevirtual 161, 3) := by decide +kernel
theorem d_Fo_nearerState_70 : decode b_Fo_nearerState 70 = .ok (.istore_n 3, 1) := by decide +kernel
theorem d_Fo_nearerState_71 : decode b_Fo_nearerState 71 = .ok (.iinc 4 1, 3) := by decide +kernel
theorem d_Fo_nearerState_74 : decode b_Fo_nearerState 74 = .ok (.goto (-46), 3) := by decide +kernel
theorem d_Fo_nearerState_77 : decode b_Fo_nearerState 77 = .ok (.iload_n 1, 1) := by decide +kernel
theorem d_Fo_nearerState_78 : decode b_Fo_nearerState 78 = .ok (.ireturn, 1) := by decide +kernel
theorem d_Fo_putFound_0 : decode b_Fo_putFound 0 = .ok (.iconst 0, 1) := by decide +kernel
theorem d_Fo_putFound_1 : decode b_Fo_putFound 1 = .ok (.istore_n 2, 1) := by decide +kernel
theorem d_Fo_putFound_2 : decode b_Fo_putFound 2 = .ok (.iload_n 2, 1) := by decide +kernel
theorem d_Fo_putFound_3 : decode b_Fo_putFound 3 = .ok (.aload_n 0, 1) := by decide +kernel
theorem d_Fo_putFound_4 : decode b_Fo_putFound 4 = .ok (.getfield 12, 3) := by decide +kernel
theorem d_Fo_putFound_7 : decode b_Fo_putFound 7 = .ok (.getfield 141, 3) := by decide +kernel
theorem d_Fo_putFound_10 : decode b_Fo_putFound 10 = .ok (.if_icmp .ge 26, 3) := by decide +kernel
theorem d_Fo_putFound_13 : decode b_Fo_putFound 13 = .ok (.aload_n 0, 1) := by decide +kernel
theorem d_Fo_putFound_14 : decode b_Fo_putFound 14 = .ok (.getfield 23, 3) := by decide +kernel
theorem d_Fo_putFound_17 : decode b_Fo_putFound 17 = .ok (.iload_n 1, 1) := by decide +kernel
theorem d_Fo_putFound_18 : decode b_Fo_putFound 18 = .ok (.aload_n 0, 1) := by decide +kernel
theorem d_Fo_putFound_19 : decode b_Fo_putFound 19 = .ok (.getfield 12, 3) := by decide +kernel
theorem d_Fo_putFound_22 : decode b_Fo_putFound 22 = .ok (.getfield 144, 3) := by decide +kernel
theorem d_Fo_putFound_25 : decode b_Fo_putFound 25 = .ok (.iload_n 2, 1) := by decide +kernel
theorem d_Fo_putFound_26 : decode b_Fo_putFound 26 = .ok (.iaload, 1) := by decide +kernel
theorem d_Fo_putFound_27 : decode b_Fo_putFound 27 = .ok (.invokevirtual 91, 3) := by decide +kernel
theorem d_Fo_putFound_30 : decode b_Fo_putFound 30 = .ok (.iinc 2 1, 3) := by decide +kernel
theorem d_Fo_putFound_33 : decode b_Fo_putFound 33 = .ok (.goto (-31), 3) := by decide +kernel
theorem d_Fo_putFound_36 : decode b_Fo_putFound 36 = .ok (.return_, 1) := by decide +kernel
theorem d_Fo_rowLength_0 : decode b_Fo_rowLength 0 = .ok (.aload_n 0, 1) := by decide +kernel
theorem d_Fo_rowLength_1 : decode b_Fo_rowLength 1 = .ok (.getfield 48, 3) := by decide +kernel
theorem d_Fo_rowLength_4 : decode b_Fo_rowLength 4 = .ok (.iload_n 1, 1) := by decide +kernel
theorem d_Fo_rowLength_5 : decode b_Fo_rowLength 5 = .ok (.if_icmp .eq 8, 3) := by decide +kernel
theorem d_Fo_rowLength_8 : decode b_Fo_rowLength 8 = .ok (.aload_n 0, 1) := by decide +kernel
theorem d_Fo_rowLength_9 : decode b_Fo_rowLength 9 = .ok (.iload_n 1, 1) := by decide +kernel
theorem d_Fo_rowLength_10 : decode b_Fo_rowLength 10 = .ok (.invokevirtual 82, 3) := by decide +kernel
theorem d_Fo_rowLength_13 : decode b_Fo_rowLength 13 = .ok (.aload_n 0, 1) := by decide +kernel
theorem d_Fo_rowLength_14 : decode b_Fo_rowLength 14 = .ok (.getfield 12, 3) := by decide +kernel
theorem d_Fo_rowLength_17 : decode b_Fo_rowLength 17 = .ok (.getfield 115, 3) := by decide +kernel
theorem d_Fo_rowLength_20 : decode b_Fo_rowLength 20 = .ok (.iload_n 2, 1) := by decide +kernel
theorem d_Fo_rowLength_21 : decode b_Fo_rowLength 21 = .ok (.iaload, 1) := by decide +kernel
theorem d_Fo_rowLength_22 : decode b_Fo_rowLength 22 = .ok (.istore_n 3, 1) := by decide +kernel
theorem d_Fo_rowLength_23 : decode b_Fo_rowLength 23 = .ok (.iload_n 3, 1) := by decide +kernel
theorem d_Fo_rowLength_24 : decode b_Fo_rowLength 24 = .ok (.iconst (-1), 1) := by decide +kernel
theorem d_Fo_rowLength_25 : decode b_Fo_rowLength 25 = .ok (.if_icmp .ne 7, 3) := by decide +kernel
theorem d_Fo_rowLength_28 : decode b_Fo_rowLength 28 = .ok (.iconst 0, 1) := by decide +kernel
theorem d_Fo_rowLength_29 : decode b_Fo_rowLength 29 = .ok (.goto 6, 3) := by decide +kernel
theorem d_Fo_rowLength_32 : decode b_Fo_rowLength 32 = .ok (.iload_n 3, 1) := by decide +kernel
theorem d_Fo_rowLength_33 : decode b_Fo_rowLength 33 = .ok (.iconst 1, 1) := by decide +kernel
theorem d_Fo_rowLength_34 : decode b_Fo_rowLength 34 = .ok (.iadd, 1) := by decide +kernel
theorem d_Fo_rowLength_35 : decode b_Fo_rowLength 35 = .ok (.ireturn, 1) := by decide +kernel
theorem d_Fo_rowState_0 : decode b_Fo_rowState 0 = .ok (.iload_n 1, 1) := by decide +kernel
theorem d_Fo_rowState_1 : decode b_Fo_rowState 1 = .ok (.istore_n 3, 1) := by decide +kernel
theorem d_Fo_rowState_2 : decode b_Fo_rowState 2 = .ok (.iconst 0, 1) := by decide +kernel
theorem d_Fo_rowState_3 : decode b_Fo_rowState 3 = .ok (.istore 4, 2) := by decide +kernel
theorem d_Fo_rowState_5 : decode b_Fo_rowState 5 = .ok (.iload 4, 2) := by decide +kernel
theorem d_Fo_rowState_7 : decode b_Fo_rowState 7 = .ok (.iload_n 2, 1) := by decide +kernel
theorem d_Fo_rowState_8 : decode b_Fo_rowState 8 = .ok (.if_icmp .ge 15, 3) := by decide +kernel
theorem d_Fo_rowState_11 : decode b_Fo_rowState 11 = .ok (.aload_n 0, 1) := by decide +kernel
theorem d_Fo_rowState_12 : decode b_Fo_rowState 12 = .ok (.iload_n 3, 1) := by decide +kernel
theorem d_Fo_rowState_13 : decode b_Fo_rowState 13 = .ok (.invokevirtual 157, 3) := by decide +kernel
theorem d_Fo_rowState_16 : decode b_Fo_rowState 16 = .ok (.istore_n 3, 1) := by decide +kernel
theorem d_Fo_rowState_17 : decode b_Fo_rowState 17 = .ok (.iinc 4 1, 3) := by decide +kernel
theorem d_Fo_rowState_20 : decode b_Fo_rowState 20 = .ok (.goto (-15), 3) := by decide +kernel
theorem d_Fo_rowState_23 : decode b_Fo_rowState 23 = .ok (.iload_n 3, 1) := by decide +kernel
theorem d_Fo_rowState_24 : decode b_Fo_rowState 24 = .ok (.ireturn, 1) := by decide +kernel
theorem d_Fo_settle_0 : decode b_Fo_settle 0 = .ok (.aload_n 0, 1) := by decide +kernel
theorem d_Fo_settle_1 : decode b_Fo_settle 1 = .ok (.iload_n 1, 1) := by decide +kernel
theorem d_Fo_settle_2 : decode b_Fo_settle 2 = .ok (.invokevirtual 59, 3) := by decide +kernel
theorem d_Fo_settle_5 : decode b_Fo_settle 5 = .ok (.iload_n 1, 1) := by decide +kernel
theorem d_Fo_settle_6 : decode b_Fo_settle 6 = .ok (.istore_n 2, 1) := by decide +kernel
theorem d_Fo_settle_7 : decode b_Fo_settle 7 = .ok (.iload_n 2, 1) := by decide +kernel
theorem d_Fo_settle_8 : decode b_Fo_settle 8 = .ok (.ifCond .lt 47, 3) := by decide +kernel
theorem d_Fo_settle_11 : decode b_Fo_settle 11 = .ok (.aload_n 0, 1) := by decide +kernel
theorem d_Fo_settle_12 : decode b_Fo_settle 12 = .ok (.getfield 40, 3) := by decide +kernel
theorem d_Fo_settle_15 : decode b_Fo_settle 15 = .ok (.iload_n 2, 1) := by decide +kernel
theorem d_Fo_settle_16 : decode b_Fo_settle 16 = .ok (.baload, 1) := by decide +kernel
theorem d_Fo_settle_17 : decode b_Fo_settle 17 = .ok (.ifCond .eq 32, 3) := by decide +kernel
theorem d_Fo_settle_20 : decode b_Fo_settle 20 = .ok (.aload_n 0, 1) := by decide +kernel
theorem d_Fo_settle_21 : decode b_Fo_settle 21 = .ok (.getfield 27, 3) := by decide +kernel
theorem d_Fo_settle_24 : decode b_Fo_settle 24 = .ok (.iload_n 2, 1) := by decide +kernel
theorem d_Fo_settle_25 : decode b_Fo_settle 25 = .ok (.iaload, 1) := by decide +kernel
theorem d_Fo_settle_26 : decode b_Fo_settle 26 = .ok (.ifCond .eq 23, 3) := by decide +kernel
theorem d_Fo_settle_29 : decode b_Fo_settle 29 = .ok (.aload_n 0, 1) := by decide +kernel
theorem d_Fo_settle_30 : decode b_Fo_settle 30 = .ok (.aload_n 0, 1) := by decide +kernel
theorem d_Fo_settle_31 : decode b_Fo_settle 31 = .ok (.getfield 31, 3) := by decide +kernel
theorem d_Fo_settle_34 : decode b_Fo_settle 34 = .ok (.iload_n 2, 1) := by decide +kernel
theorem d_Fo_settle_35 : decode b_Fo_settle 35 = .ok (.iaload, 1) := by decide +kernel
theorem d_Fo_settle_36 : decode b_Fo_settle 36 = .ok (.invokevirtual 59, 3) := by decide +kernel
theorem d_Fo_settle_39 : decode b_Fo_settle 39 = .ok (.aload_n 0, 1) := by decide +kernel
theorem d_Fo_settle_40 : decode b_Fo_settle 40 = .ok (.aload_n 0, 1) := by decide +kernel
theorem d_Fo_settle_41 : decode b_Fo_settle 41 = .ok (.getfield 34, 3) := by decide +kernel
theorem d_Fo_settle_44 : decode b_Fo_settle 44 = .ok (.iload_n 2, 1) := by decide +kernel
theorem d_Fo_settle_45 : decode b_Fo_settle 45 = .ok (.iaload, 1) := by decide +kernel
theorem d_Fo_settle_46 : decode b_Fo_settle 46 = .ok (.invokevirtual 59, 3) := by decide +kernel
theorem d_Fo_settle_49 : decode b_Fo_settle 49 = .ok (.iinc 2 (-1), 3) := by decide +kernel
theorem d_Fo_settle_52 : decode b_Fo_settle 52 = .ok (.goto (-45), 3) := by decide +kernel
theorem d_Fo_settle_55 : decode b_Fo_settle 55 = .ok (.iconst 0, 1) := by decide +kernel
theorem d_Fo_settle_56 : decode b_Fo_settle 56 = .ok (.istore_n 2, 1) := by decide +kernel
theorem d_Fo_settle_57 : decode b_Fo_settle 57 = .ok (.iload_n 2, 1) := by decide +kernel
theorem d_Fo_settle_58 : decode b_Fo_settle 58 = .ok (.iload_n 1, 1) := by decide +kernel
theorem d_Fo_settle_59 : decode b_Fo_settle 59 = .ok (.if_icmp .gt 43, 3) := by decide +kernel
theorem d_Fo_settle_62 : decode b_Fo_settle 62 = .ok (.aload_n 0, 1) := by decide +kernel
theorem d_Fo_settle_63 : decode b_Fo_settle 63 = .ok (.getfield 40, 3) := by decide +kernel
theorem d_Fo_settle_66 : decode b_Fo_settle 66 = .ok (.iload_n 2, 1) := by decide +kernel
theorem d_Fo_settle_67 : decode b_Fo_settle 67 = .ok (.baload, 1) := by decide +kernel
theorem d_Fo_settle_68 : decode b_Fo_settle 68 = .ok (.ifCond .eq 28, 3) := by decide +kernel
theorem d_Fo_settle_71 : decode b_Fo_settle 71 = .ok (.aload_n 0, 1) := by decide +kernel
theorem d_Fo_settle_72 : decode b_Fo_settle 72 = .ok (.getfield 40, 3) := by decide +kernel
theorem d_Fo_settle_75 : decode b_Fo_settle 75 = .ok (.iload_n 2, 1) := by decide +kernel
theorem d_Fo_settle_76 : decode b_Fo_settle 76 = .ok (.iconst 0, 1) := by decide +kernel
theorem d_Fo_settle_77 : decode b_Fo_settle 77 = .ok (.bastore, 1) := by decide +kernel
theorem d_Fo_settle_78 : decode b_Fo_settle 78 = .ok (.aload_n 0, 1) := by decide +kernel
theorem d_Fo_settle_79 : decode b_Fo_settle 79 = .ok (.iload_n 2, 1) := by decide +kernel
theorem d_Fo_settle_80 : decode b_Fo_settle 80 = .ok (.invokevirtual 62, 3) := by decide +kernel
theorem d_Fo_settle_83 : decode b_Fo_settle 83 = .ok (.aload_n 0, 1) := by decide +kernel
theorem d_Fo_settle_84 : decode b_Fo_settle 84 = .ok (.getfield 37, 3) := by decide +kernel
theorem d_Fo_settle_87 : decode b_Fo_settle 87 = .ok (.iload_n 2, 1) := by decide +kernel
theorem d_Fo_settle_88 : decode b_Fo_settle 88 = .ok (.aload_n 0, 1) := by decide +kernel
theorem d_Fo_settle_89 : decode b_Fo_settle 89 = .ok (.getfield 44, 3) := by decide +kernel
theorem d_Fo_settle_92 : decode b_Fo_settle 92 = .ok (.getfield 65, 3) := by decide +kernel
theorem d_Fo_settle_95 : decode b_Fo_settle 95 = .ok (.iastore, 1) := by decide +kernel
theorem d_Fo_settle_96 : decode b_Fo_settle 96 = .ok (.iinc 2 1, 3) := by decide +kernel
theorem d_Fo_settle_99 : decode b_Fo_settle 99 = .ok (.goto (-42), 3) := by decide +kernel
theorem d_Fo_settle_102 : decode b_Fo_settle 102 = .ok (.return_, 1) := by decide +kernel
theorem d_Fo_want_0 : decode b_Fo_want 0 = .ok (.aload_n 0, 1) := by decide +kernel
theorem d_Fo_want_1 : decode b_Fo_want 1 = .ok (.getfield 37, 3) := by decide +kernel
theorem d_Fo_want_4 : decode b_Fo_want 4 = .ok (.iload_n 1, 1) := by decide +kernel
theorem d_Fo_want_5 : decode b_Fo_want 5 = .ok (.iaload, 1) := by decide +kernel
theorem d_Fo_want_6 : decode b_Fo_want 6 = .ok (.aload_n 0, 1) := by decide +kernel
theorem d_Fo_want_7 : decode b_Fo_want 7 = .ok (.getfield 44, 3) := by decide +kernel
theorem d_Fo_want_10 : decode b_Fo_want 10 = .ok (.getfield 65, 3) := by decide +kernel
theorem d_Fo_want_13 : decode b_Fo_want 13 = .ok (.if_icmp .eq 10, 3) := by decide +kernel
theorem d_Fo_want_16 : decode b_Fo_want 16 = .ok (.aload_n 0, 1) := by decide +kernel
theorem d_Fo_want_17 : decode b_Fo_want 17 = .ok (.getfield 40, 3) := by decide +kernel
theorem d_Fo_want_20 : decode b_Fo_want 20 = .ok (.iload_n 1, 1) := by decide +kernel
theorem d_Fo_want_21 : decode b_Fo_want 21 = .ok (.iconst 1, 1) := by decide +kernel
theorem d_Fo_want_22 : decode b_Fo_want 22 = .ok (.bastore, 1) := by decide +kernel
theorem d_Fo_want_23 : decode b_Fo_want 23 = .ok (.return_, 1) := by decide +kernel
end
section
theorem d_La_begin_0 : decode b_La_begin 0 = .ok (.aload_n 0, 1) := by decide +kernel
theorem d_La_begin_1 : decode b_La_begin 1 = .ok (.iload_n 1, 1) := by decide +kernel
theorem d_La_begin_2 : decode b_La_begin 2 = .ok (.invokevirtual 7, 3) := by decide +kernel
theorem d_La_begin_5 : decode b_La_begin 5 = .ok (.goto 6, 3) := by decide +kernel
theorem d_La_begin_8 : decode b_La_begin 8 = .ok (.astore_n 2, 1) := by decide +kernel
theorem d_La_begin_9 : decode b_La_begin 9 = .ok (.iconst 1, 1) := by decide +kernel
theorem d_La_begin_10 : decode b_La_begin 10 = .ok (.ireturn, 1) := by decide +kernel
theorem d_La_begin_11 : decode b_La_begin 11 = .ok (.iconst 0, 1) := by decide +kernel
theorem d_La_begin_12 : decode b_La_begin 12 = .ok (.ireturn, 1) := by decide +kernel
theorem d_La_count_0 : decode b_La_count 0 = .ok (.aload_n 2, 1) := by decide +kernel
theorem d_La_count_1 : decode b_La_count 1 = .ok (.iconst 0, 1) := by decide +kernel
theorem d_La_count_2 : decode b_La_count 2 = .ok (.aload_n 0, 1) := by decide +kernel
theorem d_La_count_3 : decode b_La_count 3 = .ok (.iload_n 1, 1) := by decide +kernel
theorem d_La_count_4 : decode b_La_count 4 = .ok (.invokevirtual 31, 3) := by decide +kernel
theorem d_La_count_7 : decode b_La_count 7 = .ok (.i2l, 1) := by decide +kernel
theorem d_La_count_8 : decode b_La_count 8 = .ok (.lastore, 1) := by decide +kernel
theorem d_La_count_9 : decode b_La_count 9 = .ok (.goto 6, 3) := by decide +kernel
theorem d_La_count_12 : decode b_La_count 12 = .ok (.astore_n 3, 1) := by decide +kernel
theorem d_La_count_13 : decode b_La_count 13 = .ok (.iconst 1, 1) := by decide +kernel
theorem d_La_count_14 : decode b_La_count 14 = .ok (.ireturn, 1) := by decide +kernel
theorem d_La_count_15 : decode b_La_count 15 = .ok (.iconst 0, 1) := by decide +kernel
theorem d_La_count_16 : decode b_La_count 16 = .ok (.ireturn, 1) := by decide +kernel
theorem d_La_first_0 : decode b_La_first 0 = .ok (.aload_n 3, 1) := by decide +kernel
theorem d_La_first_1 : decode b_La_first 1 = .ok (.iconst 0, 1) := by decide +kernel
theorem d_La_first_2 : decode b_La_first 2 = .ok (.aload_n 0, 1) := by decide +kernel
theorem d_La_first_3 : decode b_La_first 3 = .ok (.iload_n 1, 1) := by decide +kernel
theorem d_La_first_4 : decode b_La_first 4 = .ok (.iload_n 2, 1) := by decide +kernel
theorem d_La_first_5 : decode b_La_first 5 = .ok (.invokevirtual 35, 3) := by decide +kernel
theorem d_La_first_8 : decode b_La_first 8 = .ok (.i2l, 1) := by decide +kernel
theorem d_La_first_9 : decode b_La_first 9 = .ok (.lastore, 1) := by decide +kernel
theorem d_La_first_10 : decode b_La_first 10 = .ok (.goto 7, 3) := by decide +kernel
theorem d_La_first_13 : decode b_La_first 13 = .ok (.astore 4, 2) := by decide +kernel
theorem d_La_first_15 : decode b_La_first 15 = .ok (.iconst 1, 1) := by decide +kernel
theorem d_La_first_16 : decode b_La_first 16 = .ok (.ireturn, 1) := by decide +kernel
theorem d_La_first_17 : decode b_La_first 17 = .ok (.iconst 0, 1) := by decide +kernel
theorem d_La_first_18 : decode b_La_first 18 = .ok (.ireturn, 1) := by decide +kernel
theorem d_La_formula_0 : decode b_La_formula 0 = .ok (.aload 4, 2) := by decide +kernel
theorem d_La_formula_2 : decode b_La_formula 2 = .ok (.iconst 0, 1) := by decide +kernel
theorem d_La_formula_3 : decode b_La_formula 3 = .ok (.aload_n 0, 1) := by decide +kernel
theorem d_La_formula_4 : decode b_La_formula 4 = .ok (.iload_n 1, 1) := by decide +kernel
theorem d_La_formula_5 : decode b_La_formula 5 = .ok (.iload_n 2, 1) := by decide +kernel
theorem d_La_formula_6 : decode b_La_formula 6 = .ok (.iload_n 3, 1) := by decide +kernel
theorem d_La_formula_7 : decode b_La_formula 7 = .ok (.invokevirtual 21, 3) := by decide +kernel
theorem d_La_formula_10 : decode b_La_formula 10 = .ok (.i2l, 1) := by decide +kernel
theorem d_La_formula_11 : decode b_La_formula 11 = .ok (.lastore, 1) := by decide +kernel
theorem d_La_formula_12 : decode b_La_formula 12 = .ok (.goto 11, 3) := by decide +kernel
theorem d_La_formula_15 : decode b_La_formula 15 = .ok (.astore 5, 2) := by decide +kernel
theorem d_La_formula_17 : decode b_La_formula 17 = .ok (.iconst 1, 1) := by decide +kernel
theorem d_La_formula_18 : decode b_La_formula 18 = .ok (.ireturn, 1) := by decide +kernel
theorem d_La_formula_19 : decode b_La_formula 19 = .ok (.astore 5, 2) := by decide +kernel
theorem d_La_formula_21 : decode b_La_formula 21 = .ok (.iconst 2, 1) := by decide +kernel
theorem d_La_formula_22 : decode b_La_formula 22 = .ok (.ireturn, 1) := by decide +kernel
theorem d_La_formula_23 : decode b_La_formula 23 = .ok (.iconst 0, 1) := by decide +kernel
theorem d_La_formula_24 : decode b_La_formula 24 = .ok (.ireturn, 1) := by decide +kernel
theorem d_La_holds_0 : decode b_La_holds 0 = .ok (.aload_n 3, 1) := by decide +kernel
theorem d_La_holds_1 : decode b_La_holds 1 = .ok (.iconst 0, 1) := by decide +kernel
theorem d_La_holds_2 : decode b_La_holds 2 = .ok (.aload_n 0, 1) := by decide +kernel
theorem d_La_holds_3 : decode b_La_holds 3 = .ok (.iload_n 1, 1) := by decide +kernel
theorem d_La_holds_4 : decode b_La_holds 4 = .ok (.iload_n 2, 1) := by decide +kernel
theorem d_La_holds_5 : decode b_La_holds 5 = .ok (.invokevirtual 25, 3) := by decide +kernel
theorem d_La_holds_8 : decode b_La_holds 8 = .ok (.ifCond .eq 7, 3) := by decide +kernel
theorem d_La_holds_11 : decode b_La_holds 11 = .ok (.lconst 1, 1) := by decide +kernel
theorem d_La_holds_12 : decode b_La_holds 12 = .ok (.goto 4, 3) := by decide +kernel
theorem d_La_holds_15 : decode b_La_holds 15 = .ok (.lconst 0, 1) := by decide +kernel
theorem d_La_holds_16 : decode b_La_holds 16 = .ok (.lastore, 1) := by decide +kernel
theorem d_La_holds_17 : decode b_La_holds 17 = .ok (.goto 7, 3) := by decide +kernel
theorem d_La_holds_20 : decode b_La_holds 20 = .ok (.astore 4, 2) := by decide +kernel
theorem d_La_holds_22 : decode b_La_holds 22 = .ok (.iconst 1, 1) := by decide +kernel
theorem d_La_holds_23 : decode b_La_holds 23 = .ok (.ireturn, 1) := by decide +kernel
theorem d_La_holds_24 : decode b_La_holds 24 = .ok (.iconst 0, 1) := by decide +kernel
theorem d_La_holds_25 : decode b_La_holds 25 = .ok (.ireturn, 1) := by decide +kernel
theorem d_La_law_0 : decode code 0 = .ok (.new 8, 3) := by decide +kernel
theorem d_La_law_3 : decode code 3 = .ok (.dup, 1) := by decide +kernel
theorem d_La_law_4 : decode code 4 = .ok (.invokespecial 50, 3) := by decide +kernel
theorem d_La_law_7 : decode code 7 = .ok (.astore_n 1, 1) := by decide +kernel
theorem d_La_law_8 : decode code 8 = .ok (.new 51, 3) := by decide +kernel
theorem d_La_law_11 : decode code 11 = .ok (.dup, 1) := by decide +kernel
theorem d_La_law_12 : decode code 12 = .ok (.invokespecial 53, 3) := by decide +kernel
theorem d_La_law_15 : decode code 15 = .ok (.astore_n 2, 1) := by decide +kernel
theorem d_La_law_16 : decode code 16 = .ok (.iconst 1, 1) := by decide +kernel
theorem d_La_law_17 : decode code 17 = .ok (.newarray .long, 2) := by decide +kernel
theorem d_La_law_19 : decode code 19 = .ok (.astore_n 3, 1) := by decide +kernel
theorem d_La_law_20 : decode code 20 = .ok (.iconst 0, 1) := by decide +kernel
theorem d_La_law_21 : decode code 21 = .ok (.istore 4, 2) := by decide +kernel
theorem d_La_law_23 : decode code 23 = .ok (.iload 4, 2) := by decide +kernel
theorem d_La_law_25 : decode code 25 = .ok (.aload_n 0, 1) := by decide +kernel
theorem d_La_law_26 : decode code 26 = .ok (.arraylength, 1) := by decide +kernel
theorem d_La_law_27 : decode code 27 = .ok (.iconst 5, 1) := by decide +kernel
theorem d_La_law_28 : decode code 28 = .ok (.isub, 1) := by decide +kernel
theorem d_La_law_29 : decode code 29 = .ok (.if_icmp .gt 676, 3) := by decide +kernel
theorem d_La_law_32 : decode code 32 = .ok (.aload_n 0, 1) := by decide +kernel
theorem d_La_law_33 : decode code 33 = .ok (.iload 4, 2) := by decide +kernel
theorem d_La_law_35 : decode code 35 = .ok (.iaload, 1) := by decide +kernel
theorem d_La_law_36 : decode code 36 = .ok (.bipush 15, 2) := by decide +kernel
theorem d_La_law_38 : decode code 38 = .ok (.iand, 1) := by decide +kernel
theorem d_La_law_39 : decode code 39 = .ok (.tableswitch 660 0 8 #[49, 85, 177, 257, 332, 388, 456, 524, 604], 49) := by decide +kernel
theorem d_La_law_88 : decode code 88 = .ok (.aload_n 1, 1) := by decide +kernel
theorem d_La_law_89 : decode code 89 = .ok (.aload_n 0, 1) := by decide +kernel
theorem d_La_law_90 : decode code 90 = .ok (.iload 4, 2) := by decide +kernel
theorem d_La_law_92 : decode code 92 = .ok (.iconst 1, 1) := by decide +kernel
theorem d_La_law_93 : decode code 93 = .ok (.iadd, 1) := by decide +kernel
theorem d_La_law_94 : decode code 94 = .ok (.iaload, 1) := by decide +kernel
theorem d_La_law_95 : decode code 95 = .ok (.invokestatic 54, 3) := by decide +kernel
theorem d_La_law_98 : decode code 98 = .ok (.istore 5, 2) := by decide +kernel
theorem d_La_law_100 : decode code 100 = .ok (.aload_n 2, 1) := by decide +kernel
theorem d_La_law_101 : decode code 101 = .ok (.aload_n 0, 1) := by decide +kernel
theorem d_La_law_102 : decode code 102 = .ok (.iload 4, 2) := by decide +kernel
theorem d_La_law_104 : decode code 104 = .ok (.iconst 1, 1) := by decide +kernel
theorem d_La_law_105 : decode code 105 = .ok (.iadd, 1) := by decide +kernel
theorem d_La_law_106 : decode code 106 = .ok (.iaload, 1) := by decide +kernel
theorem d_La_law_107 : decode code 107 = .ok (.invokevirtual 59, 3) := by decide +kernel
theorem d_La_law_110 : decode code 110 = .ok (.aload_n 2, 1) := by decide +kernel
theorem d_La_law_111 : decode code 111 = .ok (.invokevirtual 60, 3) := by decide +kernel
theorem d_La_law_114 : decode code 114 = .ok (.iload 5, 2) := by decide +kernel
theorem d_La_law_116 : decode code 116 = .ok (.if_icmp .eq 5, 3) := by decide +kernel
theorem d_La_law_119 : decode code 119 = .ok (.iconst 0, 1) := by decide +kernel
theorem d_La_law_120 : decode code 120 = .ok (.ireturn, 1) := by decide +kernel
theorem d_La_law_121 : decode code 121 = .ok (.goto 578, 3) := by decide +kernel
theorem d_La_law_124 : decode code 124 = .ok (.aload_n 1, 1) := by decide +kernel
theorem d_La_law_125 : decode code 125 = .ok (.aload_n 0, 1) := by decide +kernel
theorem d_La_law_126 : decode code 126 = .ok (.iload 4, 2) := by decide +kernel
theorem d_La_law_128 : decode code 128 = .ok (.iconst 1, 1) := by decide +kernel
theorem d_La_law_129 : decode code 129 = .ok (.iadd, 1) := by decide +kernel
theorem d_La_law_130 : decode code 130 = .ok (.iaload, 1) := by decide +kernel
theorem d_La_law_131 : decode code 131 = .ok (.aload_n 0, 1) := by decide +kernel
theorem d_La_law_132 : decode code 132 = .ok (.iload 4, 2) := by decide +kernel
theorem d_La_law_134 : decode code 134 = .ok (.iconst 2, 1) := by decide +kernel
theorem d_La_law_135 : decode code 135 = .ok (.iadd, 1) := by decide +kernel
theorem d_La_law_136 : decode code 136 = .ok (.iaload, 1) := by decide +kernel
theorem d_La_law_137 : decode code 137 = .ok (.aload_n 0, 1) := by decide +kernel
theorem d_La_law_138 : decode code 138 = .ok (.iload 4, 2) := by decide +kernel
theorem d_La_law_140 : decode code 140 = .ok (.iconst 3, 1) := by decide +kernel
theorem d_La_law_141 : decode code 141 = .ok (.iadd, 1) := by decide +kernel
theorem d_La_law_142 : decode code 142 = .ok (.iaload, 1) := by decide +kernel
theorem d_La_law_143 : decode code 143 = .ok (.aload_n 0, 1) := by decide +kernel
theorem d_La_law_144 : decode code 144 = .ok (.iload 4, 2) := by decide +kernel
theorem d_La_law_146 : decode code 146 = .ok (.iconst 4, 1) := by decide +kernel
theorem d_La_law_147 : decode code 147 = .ok (.iadd, 1) := by decide +kernel
theorem d_La_law_148 : decode code 148 = .ok (.iaload, 1) := by decide +kernel
theorem d_La_law_149 : decode code 149 = .ok (.aload_n 3, 1) := by decide +kernel
theorem d_La_law_150 : decode code 150 = .ok (.invokestatic 64, 3) := by decide +kernel
theorem d_La_law_153 : decode code 153 = .ok (.istore 5, 2) := by decide +kernel
theorem d_La_law_155 : decode code 155 = .ok (.aload_n 2, 1) := by decide +kernel
theorem d_La_law_156 : decode code 156 = .ok (.aload_n 0, 1) := by decide +kernel
theorem d_La_law_157 : decode code 157 = .ok (.iload 4, 2) := by decide +kernel
theorem d_La_law_159 : decode code 159 = .ok (.iconst 1, 1) := by decide +kernel
theorem d_La_law_160 : decode code 160 = .ok (.iadd, 1) := by decide +kernel
theorem d_La_law_161 : decode code 161 = .ok (.iaload, 1) := by decide +kernel
theorem d_La_law_162 : decode code 162 = .ok (.aload_n 0, 1) := by decide +kernel
theorem d_La_law_163 : decode code 163 = .ok (.iload 4, 2) := by decide +kernel
theorem d_La_law_165 : decode code 165 = .ok (.iconst 2, 1) := by decide +kernel
theorem d_La_law_166 : decode code 166 = .ok (.iadd, 1) := by decide +kernel
theorem d_La_law_167 : decode code 167 = .ok (.iaload, 1) := by decide +kernel
theorem d_La_law_168 : decode code 168 = .ok (.aload_n 0, 1) := by decide +kernel
theorem d_La_law_169 : decode code 169 = .ok (.iload 4, 2) := by decide +kernel
theorem d_La_law_171 : decode code 171 = .ok (.iconst 3, 1) := by decide +kernel
theorem d_La_law_172 : decode code 172 = .ok (.iadd, 1) := by decide +kernel
theorem d_La_law_173 : decode code 173 = .ok (.iaload, 1) := by decide +kernel
theorem d_La_law_174 : decode code 174 = .ok (.aload_n 0, 1) := by decide +kernel
theorem d_La_law_175 : decode code 175 = .ok (.iload 4, 2) := by decide +kernel
theorem d_La_law_177 : decode code 177 = .ok (.iconst 4, 1) := by decide +kernel
theorem d_La_law_178 : decode code 178 = .ok (.iadd, 1) := by decide +kernel
theorem d_La_law_179 : decode code 179 = .ok (.iaload, 1) := by decide +kernel
theorem d_La_law_180 : decode code 180 = .ok (.invokevirtual 67, 3) := by decide +kernel
theorem d_La_law_183 : decode code 183 = .ok (.istore 6, 2) := by decide +kernel
theorem d_La_law_185 : decode code 185 = .ok (.aload_n 2, 1) := by decide +kernel
theorem d_La_law_186 : decode code 186 = .ok (.invokevirtual 60, 3) := by decide +kernel
theorem d_La_law_189 : decode code 189 = .ok (.iload 5, 2) := by decide +kernel
theorem d_La_law_191 : decode code 191 = .ok (.if_icmp .eq 5, 3) := by decide +kernel
theorem d_La_law_194 : decode code 194 = .ok (.iconst 0, 1) := by decide +kernel
theorem d_La_law_195 : decode code 195 = .ok (.ireturn, 1) := by decide +kernel
theorem d_La_law_196 : decode code 196 = .ok (.iload 5, 2) := by decide +kernel
theorem d_La_law_198 : decode code 198 = .ok (.ifCond .ne 15, 3) := by decide +kernel
theorem d_La_law_201 : decode code 201 = .ok (.aload_n 3, 1) := by decide +kernel
theorem d_La_law_202 : decode code 202 = .ok (.iconst 0, 1) := by decide +kernel
theorem d_La_law_203 : decode code 203 = .ok (.laload, 1) := by decide +kernel
theorem d_La_law_204 : decode code 204 = .ok (.iload 6, 2) := by decide +kernel
theorem d_La_law_206 : decode code 206 = .ok (.i2l, 1) := by decide +kernel
theorem d_La_law_207 : decode code 207 = .ok (.lcmp, 1) := by decide +kernel
theorem d_La_law_208 : decode code 208 = .ok (.ifCond .eq 5, 3) := by decide +kernel
theorem d_La_law_211 : decode code 211 = .ok (.iconst 0, 1) := by decide +kernel
theorem d_La_law_212 : decode code 212 = .ok (.ireturn, 1) := by decide +kernel
theorem d_La_law_213 : decode code 213 = .ok (.goto 486, 3) := by decide +kernel
theorem d_La_law_216 : decode code 216 = .ok (.aload_n 1, 1) := by decide +kernel
theorem d_La_law_217 : decode code 217 = .ok (.aload_n 0, 1) := by decide +kernel
theorem d_La_law_218 : decode code 218 = .ok (.iload 4, 2) := by decide +kernel
theorem d_La_law_220 : decode code 220 = .ok (.iconst 1, 1) := by decide +kernel
theorem d_La_law_221 : decode code 221 = .ok (.iadd, 1) := by decide +kernel
theorem d_La_law_222 : decode code 222 = .ok (.iaload, 1) := by decide +kernel
theorem d_La_law_223 : decode code 223 = .ok (.aload_n 0, 1) := by decide +kernel
theorem d_La_law_224 : decode code 224 = .ok (.iload 4, 2) := by decide +kernel
theorem d_La_law_226 : decode code 226 = .ok (.iconst 2, 1) := by decide +kernel
theorem d_La_law_227 : decode code 227 = .ok (.iadd, 1) := by decide +kernel
theorem d_La_law_228 : decode code 228 = .ok (.iaload, 1) := by decide +kernel
theorem d_La_law_229 : decode code 229 = .ok (.aload_n 0, 1) := by decide +kernel
theorem d_La_law_230 : decode code 230 = .ok (.iload 4, 2) := by decide +kernel
theorem d_La_law_232 : decode code 232 = .ok (.iconst 3, 1) := by decide +kernel
theorem d_La_law_233 : decode code 233 = .ok (.iadd, 1) := by decide +kernel
theorem d_La_law_234 : decode code 234 = .ok (.iaload, 1) := by decide +kernel
theorem d_La_law_235 : decode code 235 = .ok (.aload_n 3, 1) := by decide +kernel
theorem d_La_law_236 : decode code 236 = .ok (.invokestatic 68, 3) := by decide +kernel
theorem d_La_law_239 : decode code 239 = .ok (.istore 5, 2) := by decide +kernel
theorem d_La_law_241 : decode code 241 = .ok (.aload_n 2, 1) := by decide +kernel
theorem d_La_law_242 : decode code 242 = .ok (.aload_n 0, 1) := by decide +kernel
theorem d_La_law_243 : decode code 243 = .ok (.iload 4, 2) := by decide +kernel
theorem d_La_law_245 : decode code 245 = .ok (.iconst 1, 1) := by decide +kernel
theorem d_La_law_246 : decode code 246 = .ok (.iadd, 1) := by decide +kernel
theorem d_La_law_247 : decode code 247 = .ok (.iaload, 1) := by decide +kernel
theorem d_La_law_248 : decode code 248 = .ok (.aload_n 0, 1) := by decide +kernel
theorem d_La_law_249 : decode code 249 = .ok (.iload 4, 2) := by decide +kernel
theorem d_La_law_251 : decode code 251 = .ok (.iconst 2, 1) := by decide +kernel
theorem d_La_law_252 : decode code 252 = .ok (.iadd, 1) := by decide +kernel
theorem d_La_law_253 : decode code 253 = .ok (.iaload, 1) := by decide +kernel
theorem d_La_law_254 : decode code 254 = .ok (.aload_n 0, 1) := by decide +kernel
theorem d_La_law_255 : decode code 255 = .ok (.iload 4, 2) := by decide +kernel
theorem d_La_law_257 : decode code 257 = .ok (.iconst 3, 1) := by decide +kernel
theorem d_La_law_258 : decode code 258 = .ok (.iadd, 1) := by decide +kernel
theorem d_La_law_259 : decode code 259 = .ok (.iaload, 1) := by decide +kernel
theorem d_La_law_260 : decode code 260 = .ok (.invokevirtual 71, 3) := by decide +kernel
theorem d_La_law_263 : decode code 263 = .ok (.istore 6, 2) := by decide +kernel
theorem d_La_law_265 : decode code 265 = .ok (.aload_n 2, 1) := by decide +kernel
theorem d_La_law_266 : decode code 266 = .ok (.invokevirtual 60, 3) := by decide +kernel
theorem d_La_law_269 : decode code 269 = .ok (.iload 5, 2) := by decide +kernel
theorem d_La_law_271 : decode code 271 = .ok (.if_icmp .eq 5, 3) := by decide +kernel
theorem d_La_law_274 : decode code 274 = .ok (.iconst 0, 1) := by decide +kernel
theorem d_La_law_275 : decode code 275 = .ok (.ireturn, 1) := by decide +kernel
theorem d_La_law_276 : decode code 276 = .ok (.iload 5, 2) := by decide +kernel
theorem d_La_law_278 : decode code 278 = .ok (.ifCond .ne 15, 3) := by decide +kernel
theorem d_La_law_281 : decode code 281 = .ok (.aload_n 3, 1) := by decide +kernel
theorem d_La_law_282 : decode code 282 = .ok (.iconst 0, 1) := by decide +kernel
theorem d_La_law_283 : decode code 283 = .ok (.laload, 1) := by decide +kernel
theorem d_La_law_284 : decode code 284 = .ok (.iload 6, 2) := by decide +kernel
theorem d_La_law_286 : decode code 286 = .ok (.i2l, 1) := by decide +kernel
theorem d_La_law_287 : decode code 287 = .ok (.lcmp, 1) := by decide +kernel
theorem d_La_law_288 : decode code 288 = .ok (.ifCond .eq 5, 3) := by decide +kernel
theorem d_La_law_291 : decode code 291 = .ok (.iconst 0, 1) := by decide +kernel
theorem d_La_law_292 : decode code 292 = .ok (.ireturn, 1) := by decide +kernel
theorem d_La_law_293 : decode code 293 = .ok (.goto 406, 3) := by decide +kernel
theorem d_La_law_296 : decode code 296 = .ok (.aload_n 1, 1) := by decide +kernel
theorem d_La_law_297 : decode code 297 = .ok (.aload_n 0, 1) := by decide +kernel
theorem d_La_law_298 : decode code 298 = .ok (.iload 4, 2) := by decide +kernel
theorem d_La_law_300 : decode code 300 = .ok (.iconst 1, 1) := by decide +kernel
theorem d_La_law_301 : decode code 301 = .ok (.iadd, 1) := by decide +kernel
theorem d_La_law_302 : decode code 302 = .ok (.iaload, 1) := by decide +kernel
theorem d_La_law_303 : decode code 303 = .ok (.aload_n 0, 1) := by decide +kernel
theorem d_La_law_304 : decode code 304 = .ok (.iload 4, 2) := by decide +kernel
theorem d_La_law_306 : decode code 306 = .ok (.iconst 2, 1) := by decide +kernel
theorem d_La_law_307 : decode code 307 = .ok (.iadd, 1) := by decide +kernel
theorem d_La_law_308 : decode code 308 = .ok (.iaload, 1) := by decide +kernel
theorem d_La_law_309 : decode code 309 = .ok (.aload_n 3, 1) := by decide +kernel
theorem d_La_law_310 : decode code 310 = .ok (.invokestatic 72, 3) := by decide +kernel
theorem d_La_law_313 : decode code 313 = .ok (.istore 5, 2) := by decide +kernel
theorem d_La_law_315 : decode code 315 = .ok (.aload_n 2, 1) := by decide +kernel
theorem d_La_law_316 : decode code 316 = .ok (.aload_n 0, 1) := by decide +kernel
theorem d_La_law_317 : decode code 317 = .ok (.iload 4, 2) := by decide +kernel
theorem d_La_law_319 : decode code 319 = .ok (.iconst 1, 1) := by decide +kernel
theorem d_La_law_320 : decode code 320 = .ok (.iadd, 1) := by decide +kernel
theorem d_La_law_321 : decode code 321 = .ok (.iaload, 1) := by decide +kernel
theorem d_La_law_322 : decode code 322 = .ok (.aload_n 0, 1) := by decide +kernel
theorem d_La_law_323 : decode code 323 = .ok (.iload 4, 2) := by decide +kernel
theorem d_La_law_325 : decode code 325 = .ok (.iconst 2, 1) := by decide +kernel
theorem d_La_law_326 : decode code 326 = .ok (.iadd, 1) := by decide +kernel
theorem d_La_law_327 : decode code 327 = .ok (.iaload, 1) := by decide +kernel
theorem d_La_law_328 : decode code 328 = .ok (.invokevirtual 75, 3) := by decide +kernel
theorem d_La_law_331 : decode code 331 = .ok (.istore 6, 2) := by decide +kernel
theorem d_La_law_333 : decode code 333 = .ok (.aload_n 2, 1) := by decide +kernel
theorem d_La_law_334 : decode code 334 = .ok (.invokevirtual 60, 3) := by decide +kernel
theorem d_La_law_337 : decode code 337 = .ok (.iload 5, 2) := by decide +kernel
theorem d_La_law_339 : decode code 339 = .ok (.if_icmp .eq 5, 3) := by decide +kernel
theorem d_La_law_342 : decode code 342 = .ok (.iconst 0, 1) := by decide +kernel
theorem d_La_law_343 : decode code 343 = .ok (.ireturn, 1) := by decide +kernel
theorem d_La_law_344 : decode code 344 = .ok (.iload 5, 2) := by decide +kernel
theorem d_La_law_346 : decode code 346 = .ok (.ifCond .ne 22, 3) := by decide +kernel
theorem d_La_law_349 : decode code 349 = .ok (.aload_n 3, 1) := by decide +kernel
theorem d_La_law_350 : decode code 350 = .ok (.iconst 0, 1) := by decide +kernel
theorem d_La_law_351 : decode code 351 = .ok (.laload, 1) := by decide +kernel
theorem d_La_law_352 : decode code 352 = .ok (.iload 6, 2) := by decide +kernel
theorem d_La_law_354 : decode code 354 = .ok (.ifCond .eq 7, 3) := by decide +kernel
theorem d_La_law_357 : decode code 357 = .ok (.lconst 1, 1) := by decide +kernel
theorem d_La_law_358 : decode code 358 = .ok (.goto 4, 3) := by decide +kernel
theorem d_La_law_361 : decode code 361 = .ok (.lconst 0, 1) := by decide +kernel
theorem d_La_law_362 : decode code 362 = .ok (.lcmp, 1) := by decide +kernel
theorem d_La_law_363 : decode code 363 = .ok (.ifCond .eq 5, 3) := by decide +kernel
theorem d_La_law_366 : decode code 366 = .ok (.iconst 0, 1) := by decide +kernel
theorem d_La_law_367 : decode code 367 = .ok (.ireturn, 1) := by decide +kernel
theorem d_La_law_368 : decode code 368 = .ok (.goto 331, 3) := by decide +kernel
theorem d_La_law_371 : decode code 371 = .ok (.aload_n 1, 1) := by decide +kernel
theorem d_La_law_372 : decode code 372 = .ok (.aload_n 0, 1) := by decide +kernel
theorem d_La_law_373 : decode code 373 = .ok (.iload 4, 2) := by decide +kernel
theorem d_La_law_375 : decode code 375 = .ok (.iconst 1, 1) := by decide +kernel
theorem d_La_law_376 : decode code 376 = .ok (.iadd, 1) := by decide +kernel
theorem d_La_law_377 : decode code 377 = .ok (.iaload, 1) := by decide +kernel
theorem d_La_law_378 : decode code 378 = .ok (.aload_n 3, 1) := by decide +kernel
theorem d_La_law_379 : decode code 379 = .ok (.invokestatic 76, 3) := by decide +kernel
theorem d_La_law_382 : decode code 382 = .ok (.istore 5, 2) := by decide +kernel
theorem d_La_law_384 : decode code 384 = .ok (.aload_n 2, 1) := by decide +kernel
theorem d_La_law_385 : decode code 385 = .ok (.aload_n 0, 1) := by decide +kernel
theorem d_La_law_386 : decode code 386 = .ok (.iload 4, 2) := by decide +kernel
theorem d_La_law_388 : decode code 388 = .ok (.iconst 1, 1) := by decide +kernel
theorem d_La_law_389 : decode code 389 = .ok (.iadd, 1) := by decide +kernel
theorem d_La_law_390 : decode code 390 = .ok (.iaload, 1) := by decide +kernel
theorem d_La_law_391 : decode code 391 = .ok (.invokevirtual 79, 3) := by decide +kernel
theorem d_La_law_394 : decode code 394 = .ok (.istore 6, 2) := by decide +kernel
theorem d_La_law_396 : decode code 396 = .ok (.aload_n 2, 1) := by decide +kernel
theorem d_La_law_397 : decode code 397 = .ok (.invokevirtual 60, 3) := by decide +kernel
theorem d_La_law_400 : decode code 400 = .ok (.iload 5, 2) := by decide +kernel
theorem d_La_law_402 : decode code 402 = .ok (.if_icmp .eq 5, 3) := by decide +kernel
theorem d_La_law_405 : decode code 405 = .ok (.iconst 0, 1) := by decide +kernel
theorem d_La_law_406 : decode code 406 = .ok (.ireturn, 1) := by decide +kernel
theorem d_La_law_407 : decode code 407 = .ok (.iload 5, 2) := by decide +kernel
theorem d_La_law_409 : decode code 409 = .ok (.ifCond .ne 15, 3) := by decide +kernel
theorem d_La_law_412 : decode code 412 = .ok (.aload_n 3, 1) := by decide +kernel
theorem d_La_law_413 : decode code 413 = .ok (.iconst 0, 1) := by decide +kernel
theorem d_La_law_414 : decode code 414 = .ok (.laload, 1) := by decide +kernel
theorem d_La_law_415 : decode code 415 = .ok (.iload 6, 2) := by decide +kernel
theorem d_La_law_417 : decode code 417 = .ok (.i2l, 1) := by decide +kernel
theorem d_La_law_418 : decode code 418 = .ok (.lcmp, 1) := by decide +kernel
theorem d_La_law_419 : decode code 419 = .ok (.ifCond .eq 5, 3) := by decide +kernel
theorem d_La_law_422 : decode code 422 = .ok (.iconst 0, 1) := by decide +kernel
theorem d_La_law_423 : decode code 423 = .ok (.ireturn, 1) := by decide +kernel
theorem d_La_law_424 : decode code 424 = .ok (.goto 275, 3) := by decide +kernel
theorem d_La_law_427 : decode code 427 = .ok (.aload_n 1, 1) := by decide +kernel
theorem d_La_law_428 : decode code 428 = .ok (.aload_n 0, 1) := by decide +kernel
theorem d_La_law_429 : decode code 429 = .ok (.iload 4, 2) := by decide +kernel
theorem d_La_law_431 : decode code 431 = .ok (.iconst 1, 1) := by decide +kernel
theorem d_La_law_432 : decode code 432 = .ok (.iadd, 1) := by decide +kernel
theorem d_La_law_433 : decode code 433 = .ok (.iaload, 1) := by decide +kernel
theorem d_La_law_434 : decode code 434 = .ok (.aload_n 0, 1) := by decide +kernel
theorem d_La_law_435 : decode code 435 = .ok (.iload 4, 2) := by decide +kernel
theorem d_La_law_437 : decode code 437 = .ok (.iconst 2, 1) := by decide +kernel
theorem d_La_law_438 : decode code 438 = .ok (.iadd, 1) := by decide +kernel
theorem d_La_law_439 : decode code 439 = .ok (.iaload, 1) := by decide +kernel
theorem d_La_law_440 : decode code 440 = .ok (.aload_n 3, 1) := by decide +kernel
theorem d_La_law_441 : decode code 441 = .ok (.invokestatic 80, 3) := by decide +kernel
theorem d_La_law_444 : decode code 444 = .ok (.istore 5, 2) := by decide +kernel
theorem d_La_law_446 : decode code 446 = .ok (.aload_n 2, 1) := by decide +kernel
theorem d_La_law_447 : decode code 447 = .ok (.aload_n 0, 1) := by decide +kernel
theorem d_La_law_448 : decode code 448 = .ok (.iload 4, 2) := by decide +kernel
theorem d_La_law_450 : decode code 450 = .ok (.iconst 1, 1) := by decide +kernel
theorem d_La_law_451 : decode code 451 = .ok (.iadd, 1) := by decide +kernel
end
section
theorem d_La_law_452 : decode code 452 = .ok (.iaload, 1) := by decide +kernel
theorem d_La_law_453 : decode code 453 = .ok (.aload_n 0, 1) := by decide +kernel
theorem d_La_law_454 : decode code 454 = .ok (.iload 4, 2) := by decide +kernel
theorem d_La_law_456 : decode code 456 = .ok (.iconst 2, 1) := by decide +kernel
theorem d_La_law_457 : decode code 457 = .ok (.iadd, 1) := by decide +kernel
theorem d_La_law_458 : decode code 458 = .ok (.iaload, 1) := by decide +kernel
theorem d_La_law_459 : decode code 459 = .ok (.invokevirtual 82, 3) := by decide +kernel
theorem d_La_law_462 : decode code 462 = .ok (.istore 6, 2) := by decide +kernel
theorem d_La_law_464 : decode code 464 = .ok (.aload_n 2, 1) := by decide +kernel
theorem d_La_law_465 : decode code 465 = .ok (.invokevirtual 60, 3) := by decide +kernel
theorem d_La_law_468 : decode code 468 = .ok (.iload 5, 2) := by decide +kernel
theorem d_La_law_470 : decode code 470 = .ok (.if_icmp .eq 5, 3) := by decide +kernel
theorem d_La_law_473 : decode code 473 = .ok (.iconst 0, 1) := by decide +kernel
theorem d_La_law_474 : decode code 474 = .ok (.ireturn, 1) := by decide +kernel
theorem d_La_law_475 : decode code 475 = .ok (.iload 5, 2) := by decide +kernel
theorem d_La_law_477 : decode code 477 = .ok (.ifCond .ne 15, 3) := by decide +kernel
theorem d_La_law_480 : decode code 480 = .ok (.aload_n 3, 1) := by decide +kernel
theorem d_La_law_481 : decode code 481 = .ok (.iconst 0, 1) := by decide +kernel
theorem d_La_law_482 : decode code 482 = .ok (.laload, 1) := by decide +kernel
theorem d_La_law_483 : decode code 483 = .ok (.iload 6, 2) := by decide +kernel
theorem d_La_law_485 : decode code 485 = .ok (.i2l, 1) := by decide +kernel
theorem d_La_law_486 : decode code 486 = .ok (.lcmp, 1) := by decide +kernel
theorem d_La_law_487 : decode code 487 = .ok (.ifCond .eq 5, 3) := by decide +kernel
theorem d_La_law_490 : decode code 490 = .ok (.iconst 0, 1) := by decide +kernel
theorem d_La_law_491 : decode code 491 = .ok (.ireturn, 1) := by decide +kernel
theorem d_La_law_492 : decode code 492 = .ok (.goto 207, 3) := by decide +kernel
theorem d_La_law_495 : decode code 495 = .ok (.aload_n 1, 1) := by decide +kernel
theorem d_La_law_496 : decode code 496 = .ok (.aload_n 0, 1) := by decide +kernel
theorem d_La_law_497 : decode code 497 = .ok (.iload 4, 2) := by decide +kernel
theorem d_La_law_499 : decode code 499 = .ok (.iconst 1, 1) := by decide +kernel
theorem d_La_law_500 : decode code 500 = .ok (.iadd, 1) := by decide +kernel
theorem d_La_law_501 : decode code 501 = .ok (.iaload, 1) := by decide +kernel
theorem d_La_law_502 : decode code 502 = .ok (.aload_n 0, 1) := by decide +kernel
theorem d_La_law_503 : decode code 503 = .ok (.iload 4, 2) := by decide +kernel
theorem d_La_law_505 : decode code 505 = .ok (.iconst 2, 1) := by decide +kernel
theorem d_La_law_506 : decode code 506 = .ok (.iadd, 1) := by decide +kernel
theorem d_La_law_507 : decode code 507 = .ok (.iaload, 1) := by decide +kernel
theorem d_La_law_508 : decode code 508 = .ok (.aload_n 3, 1) := by decide +kernel
theorem d_La_law_509 : decode code 509 = .ok (.invokestatic 83, 3) := by decide +kernel
theorem d_La_law_512 : decode code 512 = .ok (.istore 5, 2) := by decide +kernel
theorem d_La_law_514 : decode code 514 = .ok (.aload_n 2, 1) := by decide +kernel
theorem d_La_law_515 : decode code 515 = .ok (.aload_n 0, 1) := by decide +kernel
theorem d_La_law_516 : decode code 516 = .ok (.iload 4, 2) := by decide +kernel
theorem d_La_law_518 : decode code 518 = .ok (.iconst 1, 1) := by decide +kernel
theorem d_La_law_519 : decode code 519 = .ok (.iadd, 1) := by decide +kernel
theorem d_La_law_520 : decode code 520 = .ok (.iaload, 1) := by decide +kernel
theorem d_La_law_521 : decode code 521 = .ok (.aload_n 0, 1) := by decide +kernel
theorem d_La_law_522 : decode code 522 = .ok (.iload 4, 2) := by decide +kernel
theorem d_La_law_524 : decode code 524 = .ok (.iconst 2, 1) := by decide +kernel
theorem d_La_law_525 : decode code 525 = .ok (.iadd, 1) := by decide +kernel
theorem d_La_law_526 : decode code 526 = .ok (.iaload, 1) := by decide +kernel
theorem d_La_law_527 : decode code 527 = .ok (.invokevirtual 85, 3) := by decide +kernel
theorem d_La_law_530 : decode code 530 = .ok (.istore 6, 2) := by decide +kernel
theorem d_La_law_532 : decode code 532 = .ok (.aload_n 2, 1) := by decide +kernel
theorem d_La_law_533 : decode code 533 = .ok (.invokevirtual 60, 3) := by decide +kernel
theorem d_La_law_536 : decode code 536 = .ok (.iload 5, 2) := by decide +kernel
theorem d_La_law_538 : decode code 538 = .ok (.if_icmp .eq 5, 3) := by decide +kernel
theorem d_La_law_541 : decode code 541 = .ok (.iconst 0, 1) := by decide +kernel
theorem d_La_law_542 : decode code 542 = .ok (.ireturn, 1) := by decide +kernel
theorem d_La_law_543 : decode code 543 = .ok (.iload 5, 2) := by decide +kernel
theorem d_La_law_545 : decode code 545 = .ok (.ifCond .ne 15, 3) := by decide +kernel
theorem d_La_law_548 : decode code 548 = .ok (.aload_n 3, 1) := by decide +kernel
theorem d_La_law_549 : decode code 549 = .ok (.iconst 0, 1) := by decide +kernel
theorem d_La_law_550 : decode code 550 = .ok (.laload, 1) := by decide +kernel
theorem d_La_law_551 : decode code 551 = .ok (.iload 6, 2) := by decide +kernel
theorem d_La_law_553 : decode code 553 = .ok (.i2l, 1) := by decide +kernel
theorem d_La_law_554 : decode code 554 = .ok (.lcmp, 1) := by decide +kernel
theorem d_La_law_555 : decode code 555 = .ok (.ifCond .eq 5, 3) := by decide +kernel
theorem d_La_law_558 : decode code 558 = .ok (.iconst 0, 1) := by decide +kernel
theorem d_La_law_559 : decode code 559 = .ok (.ireturn, 1) := by decide +kernel
theorem d_La_law_560 : decode code 560 = .ok (.goto 139, 3) := by decide +kernel
theorem d_La_law_563 : decode code 563 = .ok (.aload_n 1, 1) := by decide +kernel
theorem d_La_law_564 : decode code 564 = .ok (.aload_n 0, 1) := by decide +kernel
theorem d_La_law_565 : decode code 565 = .ok (.iload 4, 2) := by decide +kernel
theorem d_La_law_567 : decode code 567 = .ok (.iconst 1, 1) := by decide +kernel
theorem d_La_law_568 : decode code 568 = .ok (.iadd, 1) := by decide +kernel
theorem d_La_law_569 : decode code 569 = .ok (.iaload, 1) := by decide +kernel
theorem d_La_law_570 : decode code 570 = .ok (.aload_n 0, 1) := by decide +kernel
theorem d_La_law_571 : decode code 571 = .ok (.iload 4, 2) := by decide +kernel
theorem d_La_law_573 : decode code 573 = .ok (.iconst 2, 1) := by decide +kernel
theorem d_La_law_574 : decode code 574 = .ok (.iadd, 1) := by decide +kernel
theorem d_La_law_575 : decode code 575 = .ok (.iaload, 1) := by decide +kernel
theorem d_La_law_576 : decode code 576 = .ok (.aload_n 0, 1) := by decide +kernel
theorem d_La_law_577 : decode code 577 = .ok (.iload 4, 2) := by decide +kernel
theorem d_La_law_579 : decode code 579 = .ok (.iconst 3, 1) := by decide +kernel
theorem d_La_law_580 : decode code 580 = .ok (.iadd, 1) := by decide +kernel
theorem d_La_law_581 : decode code 581 = .ok (.iaload, 1) := by decide +kernel
theorem d_La_law_582 : decode code 582 = .ok (.aload_n 3, 1) := by decide +kernel
theorem d_La_law_583 : decode code 583 = .ok (.invokestatic 86, 3) := by decide +kernel
theorem d_La_law_586 : decode code 586 = .ok (.istore 5, 2) := by decide +kernel
theorem d_La_law_588 : decode code 588 = .ok (.aload_n 2, 1) := by decide +kernel
theorem d_La_law_589 : decode code 589 = .ok (.aload_n 0, 1) := by decide +kernel
theorem d_La_law_590 : decode code 590 = .ok (.iload 4, 2) := by decide +kernel
theorem d_La_law_592 : decode code 592 = .ok (.iconst 1, 1) := by decide +kernel
theorem d_La_law_593 : decode code 593 = .ok (.iadd, 1) := by decide +kernel
theorem d_La_law_594 : decode code 594 = .ok (.iaload, 1) := by decide +kernel
theorem d_La_law_595 : decode code 595 = .ok (.aload_n 0, 1) := by decide +kernel
theorem d_La_law_596 : decode code 596 = .ok (.iload 4, 2) := by decide +kernel
theorem d_La_law_598 : decode code 598 = .ok (.iconst 2, 1) := by decide +kernel
theorem d_La_law_599 : decode code 599 = .ok (.iadd, 1) := by decide +kernel
theorem d_La_law_600 : decode code 600 = .ok (.iaload, 1) := by decide +kernel
theorem d_La_law_601 : decode code 601 = .ok (.aload_n 0, 1) := by decide +kernel
theorem d_La_law_602 : decode code 602 = .ok (.iload 4, 2) := by decide +kernel
theorem d_La_law_604 : decode code 604 = .ok (.iconst 3, 1) := by decide +kernel
theorem d_La_law_605 : decode code 605 = .ok (.iadd, 1) := by decide +kernel
theorem d_La_law_606 : decode code 606 = .ok (.iaload, 1) := by decide +kernel
theorem d_La_law_607 : decode code 607 = .ok (.invokevirtual 88, 3) := by decide +kernel
theorem d_La_law_610 : decode code 610 = .ok (.istore 6, 2) := by decide +kernel
theorem d_La_law_612 : decode code 612 = .ok (.aload_n 2, 1) := by decide +kernel
theorem d_La_law_613 : decode code 613 = .ok (.invokevirtual 60, 3) := by decide +kernel
theorem d_La_law_616 : decode code 616 = .ok (.iload 5, 2) := by decide +kernel
theorem d_La_law_618 : decode code 618 = .ok (.if_icmp .eq 5, 3) := by decide +kernel
theorem d_La_law_621 : decode code 621 = .ok (.iconst 0, 1) := by decide +kernel
theorem d_La_law_622 : decode code 622 = .ok (.ireturn, 1) := by decide +kernel
theorem d_La_law_623 : decode code 623 = .ok (.iload 5, 2) := by decide +kernel
theorem d_La_law_625 : decode code 625 = .ok (.ifCond .ne 15, 3) := by decide +kernel
theorem d_La_law_628 : decode code 628 = .ok (.aload_n 3, 1) := by decide +kernel
theorem d_La_law_629 : decode code 629 = .ok (.iconst 0, 1) := by decide +kernel
theorem d_La_law_630 : decode code 630 = .ok (.laload, 1) := by decide +kernel
theorem d_La_law_631 : decode code 631 = .ok (.iload 6, 2) := by decide +kernel
theorem d_La_law_633 : decode code 633 = .ok (.i2l, 1) := by decide +kernel
theorem d_La_law_634 : decode code 634 = .ok (.lcmp, 1) := by decide +kernel
theorem d_La_law_635 : decode code 635 = .ok (.ifCond .eq 5, 3) := by decide +kernel
theorem d_La_law_638 : decode code 638 = .ok (.iconst 0, 1) := by decide +kernel
theorem d_La_law_639 : decode code 639 = .ok (.ireturn, 1) := by decide +kernel
theorem d_La_law_640 : decode code 640 = .ok (.goto 59, 3) := by decide +kernel
theorem d_La_law_643 : decode code 643 = .ok (.aload_n 1, 1) := by decide +kernel
theorem d_La_law_644 : decode code 644 = .ok (.aload_n 0, 1) := by decide +kernel
theorem d_La_law_645 : decode code 645 = .ok (.iload 4, 2) := by decide +kernel
theorem d_La_law_647 : decode code 647 = .ok (.iconst 1, 1) := by decide +kernel
theorem d_La_law_648 : decode code 648 = .ok (.iadd, 1) := by decide +kernel
theorem d_La_law_649 : decode code 649 = .ok (.iaload, 1) := by decide +kernel
theorem d_La_law_650 : decode code 650 = .ok (.aload_n 3, 1) := by decide +kernel
theorem d_La_law_651 : decode code 651 = .ok (.invokestatic 89, 3) := by decide +kernel
theorem d_La_law_654 : decode code 654 = .ok (.istore 5, 2) := by decide +kernel
theorem d_La_law_656 : decode code 656 = .ok (.aload_n 2, 1) := by decide +kernel
theorem d_La_law_657 : decode code 657 = .ok (.aload_n 0, 1) := by decide +kernel
theorem d_La_law_658 : decode code 658 = .ok (.iload 4, 2) := by decide +kernel
theorem d_La_law_660 : decode code 660 = .ok (.iconst 1, 1) := by decide +kernel
theorem d_La_law_661 : decode code 661 = .ok (.iadd, 1) := by decide +kernel
theorem d_La_law_662 : decode code 662 = .ok (.iaload, 1) := by decide +kernel
theorem d_La_law_663 : decode code 663 = .ok (.invokevirtual 91, 3) := by decide +kernel
theorem d_La_law_666 : decode code 666 = .ok (.istore 6, 2) := by decide +kernel
theorem d_La_law_668 : decode code 668 = .ok (.aload_n 2, 1) := by decide +kernel
theorem d_La_law_669 : decode code 669 = .ok (.invokevirtual 60, 3) := by decide +kernel
theorem d_La_law_672 : decode code 672 = .ok (.iload 5, 2) := by decide +kernel
theorem d_La_law_674 : decode code 674 = .ok (.if_icmp .eq 5, 3) := by decide +kernel
theorem d_La_law_677 : decode code 677 = .ok (.iconst 0, 1) := by decide +kernel
theorem d_La_law_678 : decode code 678 = .ok (.ireturn, 1) := by decide +kernel
theorem d_La_law_679 : decode code 679 = .ok (.iload 5, 2) := by decide +kernel
theorem d_La_law_681 : decode code 681 = .ok (.ifCond .ne 15, 3) := by decide +kernel
theorem d_La_law_684 : decode code 684 = .ok (.aload_n 3, 1) := by decide +kernel
theorem d_La_law_685 : decode code 685 = .ok (.iconst 0, 1) := by decide +kernel
theorem d_La_law_686 : decode code 686 = .ok (.laload, 1) := by decide +kernel
theorem d_La_law_687 : decode code 687 = .ok (.iload 6, 2) := by decide +kernel
theorem d_La_law_689 : decode code 689 = .ok (.i2l, 1) := by decide +kernel
theorem d_La_law_690 : decode code 690 = .ok (.lcmp, 1) := by decide +kernel
theorem d_La_law_691 : decode code 691 = .ok (.ifCond .eq 5, 3) := by decide +kernel
theorem d_La_law_694 : decode code 694 = .ok (.iconst 0, 1) := by decide +kernel
theorem d_La_law_695 : decode code 695 = .ok (.ireturn, 1) := by decide +kernel
theorem d_La_law_696 : decode code 696 = .ok (.goto 3, 3) := by decide +kernel
theorem d_La_law_699 : decode code 699 = .ok (.iinc 4 5, 3) := by decide +kernel
theorem d_La_law_702 : decode code 702 = .ok (.goto (-679), 3) := by decide +kernel
theorem d_La_law_705 : decode code 705 = .ok (.iconst 1, 1) := by decide +kernel
theorem d_La_law_706 : decode code 706 = .ok (.ireturn, 1) := by decide +kernel
theorem d_La_length_0 : decode b_La_length 0 = .ok (.aload_n 3, 1) := by decide +kernel
theorem d_La_length_1 : decode b_La_length 1 = .ok (.iconst 0, 1) := by decide +kernel
theorem d_La_length_2 : decode b_La_length 2 = .ok (.aload_n 0, 1) := by decide +kernel
theorem d_La_length_3 : decode b_La_length 3 = .ok (.iload_n 1, 1) := by decide +kernel
theorem d_La_length_4 : decode b_La_length 4 = .ok (.iload_n 2, 1) := by decide +kernel
theorem d_La_length_5 : decode b_La_length 5 = .ok (.invokevirtual 39, 3) := by decide +kernel
theorem d_La_length_8 : decode b_La_length 8 = .ok (.i2l, 1) := by decide +kernel
theorem d_La_length_9 : decode b_La_length 9 = .ok (.lastore, 1) := by decide +kernel
theorem d_La_length_10 : decode b_La_length 10 = .ok (.goto 11, 3) := by decide +kernel
theorem d_La_length_13 : decode b_La_length 13 = .ok (.astore 4, 2) := by decide +kernel
theorem d_La_length_15 : decode b_La_length 15 = .ok (.iconst 1, 1) := by decide +kernel
theorem d_La_length_16 : decode b_La_length 16 = .ok (.ireturn, 1) := by decide +kernel
theorem d_La_length_17 : decode b_La_length 17 = .ok (.astore 4, 2) := by decide +kernel
theorem d_La_length_19 : decode b_La_length 19 = .ok (.iconst 2, 1) := by decide +kernel
theorem d_La_length_20 : decode b_La_length 20 = .ok (.ireturn, 1) := by decide +kernel
theorem d_La_length_21 : decode b_La_length 21 = .ok (.iconst 0, 1) := by decide +kernel
theorem d_La_length_22 : decode b_La_length 22 = .ok (.ireturn, 1) := by decide +kernel
theorem d_La_rule_0 : decode b_La_rule 0 = .ok (.aload 5, 2) := by decide +kernel
theorem d_La_rule_2 : decode b_La_rule 2 = .ok (.iconst 0, 1) := by decide +kernel
theorem d_La_rule_3 : decode b_La_rule 3 = .ok (.aload_n 0, 1) := by decide +kernel
theorem d_La_rule_4 : decode b_La_rule 4 = .ok (.iload_n 1, 1) := by decide +kernel
theorem d_La_rule_5 : decode b_La_rule 5 = .ok (.iload_n 2, 1) := by decide +kernel
theorem d_La_rule_6 : decode b_La_rule 6 = .ok (.iload_n 3, 1) := by decide +kernel
theorem d_La_rule_7 : decode b_La_rule 7 = .ok (.iload 4, 2) := by decide +kernel
theorem d_La_rule_9 : decode b_La_rule 9 = .ok (.invokevirtual 15, 3) := by decide +kernel
theorem d_La_rule_12 : decode b_La_rule 12 = .ok (.i2l, 1) := by decide +kernel
theorem d_La_rule_13 : decode b_La_rule 13 = .ok (.lastore, 1) := by decide +kernel
theorem d_La_rule_14 : decode b_La_rule 14 = .ok (.goto 11, 3) := by decide +kernel
theorem d_La_rule_17 : decode b_La_rule 17 = .ok (.astore 6, 2) := by decide +kernel
theorem d_La_rule_19 : decode b_La_rule 19 = .ok (.iconst 1, 1) := by decide +kernel
theorem d_La_rule_20 : decode b_La_rule 20 = .ok (.ireturn, 1) := by decide +kernel
theorem d_La_rule_21 : decode b_La_rule 21 = .ok (.astore 6, 2) := by decide +kernel
theorem d_La_rule_23 : decode b_La_rule 23 = .ok (.iconst 2, 1) := by decide +kernel
theorem d_La_rule_24 : decode b_La_rule 24 = .ok (.ireturn, 1) := by decide +kernel
theorem d_La_rule_25 : decode b_La_rule 25 = .ok (.iconst 0, 1) := by decide +kernel
theorem d_La_rule_26 : decode b_La_rule 26 = .ok (.ireturn, 1) := by decide +kernel
theorem d_La_ways_0 : decode b_La_ways 0 = .ok (.aload_n 2, 1) := by decide +kernel
theorem d_La_ways_1 : decode b_La_ways 1 = .ok (.iconst 0, 1) := by decide +kernel
theorem d_La_ways_2 : decode b_La_ways 2 = .ok (.aload_n 0, 1) := by decide +kernel
theorem d_La_ways_3 : decode b_La_ways 3 = .ok (.iload_n 1, 1) := by decide +kernel
theorem d_La_ways_4 : decode b_La_ways 4 = .ok (.invokevirtual 47, 3) := by decide +kernel
theorem d_La_ways_7 : decode b_La_ways 7 = .ok (.i2l, 1) := by decide +kernel
theorem d_La_ways_8 : decode b_La_ways 8 = .ok (.lastore, 1) := by decide +kernel
theorem d_La_ways_9 : decode b_La_ways 9 = .ok (.goto 6, 3) := by decide +kernel
theorem d_La_ways_12 : decode b_La_ways 12 = .ok (.astore_n 3, 1) := by decide +kernel
theorem d_La_ways_13 : decode b_La_ways 13 = .ok (.iconst 1, 1) := by decide +kernel
theorem d_La_ways_14 : decode b_La_ways 14 = .ok (.ireturn, 1) := by decide +kernel
theorem d_La_ways_15 : decode b_La_ways 15 = .ok (.iconst 0, 1) := by decide +kernel
theorem d_La_ways_16 : decode b_La_ways 16 = .ok (.ireturn, 1) := by decide +kernel
theorem d_La_witness_0 : decode b_La_witness 0 = .ok (.aload 4, 2) := by decide +kernel
theorem d_La_witness_2 : decode b_La_witness 2 = .ok (.iconst 0, 1) := by decide +kernel
theorem d_La_witness_3 : decode b_La_witness 3 = .ok (.aload_n 0, 1) := by decide +kernel
theorem d_La_witness_4 : decode b_La_witness 4 = .ok (.iload_n 1, 1) := by decide +kernel
theorem d_La_witness_5 : decode b_La_witness 5 = .ok (.iload_n 2, 1) := by decide +kernel
theorem d_La_witness_6 : decode b_La_witness 6 = .ok (.iload_n 3, 1) := by decide +kernel
theorem d_La_witness_7 : decode b_La_witness 7 = .ok (.invokevirtual 42, 3) := by decide +kernel
theorem d_La_witness_10 : decode b_La_witness 10 = .ok (.i2l, 1) := by decide +kernel
theorem d_La_witness_11 : decode b_La_witness 11 = .ok (.lastore, 1) := by decide +kernel
theorem d_La_witness_12 : decode b_La_witness 12 = .ok (.goto 15, 3) := by decide +kernel
theorem d_La_witness_15 : decode b_La_witness 15 = .ok (.astore 5, 2) := by decide +kernel
theorem d_La_witness_17 : decode b_La_witness 17 = .ok (.iconst 1, 1) := by decide +kernel
theorem d_La_witness_18 : decode b_La_witness 18 = .ok (.ireturn, 1) := by decide +kernel
theorem d_La_witness_19 : decode b_La_witness 19 = .ok (.astore 5, 2) := by decide +kernel
theorem d_La_witness_21 : decode b_La_witness 21 = .ok (.iconst 2, 1) := by decide +kernel
theorem d_La_witness_22 : decode b_La_witness 22 = .ok (.ireturn, 1) := by decide +kernel
theorem d_La_witness_23 : decode b_La_witness 23 = .ok (.astore 5, 2) := by decide +kernel
theorem d_La_witness_25 : decode b_La_witness 25 = .ok (.iconst 3, 1) := by decide +kernel
theorem d_La_witness_26 : decode b_La_witness 26 = .ok (.ireturn, 1) := by decide +kernel
theorem d_La_witness_27 : decode b_La_witness 27 = .ok (.iconst 0, 1) := by decide +kernel
theorem d_La_witness_28 : decode b_La_witness 28 = .ok (.ireturn, 1) := by decide +kernel
end
section
theorem d_Mo_again_0 : decode b_Mo_again 0 = .ok (.iconst 1, 1) := by decide +kernel
theorem d_Mo_again_1 : decode b_Mo_again 1 = .ok (.aload_n 0, 1) := by decide +kernel
theorem d_Mo_again_2 : decode b_Mo_again 2 = .ok (.getfield 7, 3) := by decide +kernel
theorem d_Mo_again_5 : decode b_Mo_again 5 = .ok (.ishl, 1) := by decide +kernel
theorem d_Mo_again_6 : decode b_Mo_again 6 = .ok (.istore 4, 2) := by decide +kernel
theorem d_Mo_again_8 : decode b_Mo_again 8 = .ok (.iconst 0, 1) := by decide +kernel
theorem d_Mo_again_9 : decode b_Mo_again 9 = .ok (.istore 5, 2) := by decide +kernel
theorem d_Mo_again_11 : decode b_Mo_again 11 = .ok (.iload 5, 2) := by decide +kernel
theorem d_Mo_again_13 : decode b_Mo_again 13 = .ok (.iload 4, 2) := by decide +kernel
theorem d_Mo_again_15 : decode b_Mo_again 15 = .ok (.if_icmp .ge 29, 3) := by decide +kernel
theorem d_Mo_again_18 : decode b_Mo_again 18 = .ok (.aload_n 0, 1) := by decide +kernel
theorem d_Mo_again_19 : decode b_Mo_again 19 = .ok (.getfield 35, 3) := by decide +kernel
theorem d_Mo_again_22 : decode b_Mo_again 22 = .ok (.sipush 256, 3) := by decide +kernel
theorem d_Mo_again_25 : decode b_Mo_again 25 = .ok (.iload_n 1, 1) := by decide +kernel
theorem d_Mo_again_26 : decode b_Mo_again 26 = .ok (.imul, 1) := by decide +kernel
theorem d_Mo_again_27 : decode b_Mo_again 27 = .ok (.iload 5, 2) := by decide +kernel
theorem d_Mo_again_29 : decode b_Mo_again 29 = .ok (.iadd, 1) := by decide +kernel
theorem d_Mo_again_30 : decode b_Mo_again 30 = .ok (.aload_n 0, 1) := by decide +kernel
theorem d_Mo_again_31 : decode b_Mo_again 31 = .ok (.iload_n 2, 1) := by decide +kernel
theorem d_Mo_again_32 : decode b_Mo_again 32 = .ok (.iload 5, 2) := by decide +kernel
theorem d_Mo_again_34 : decode b_Mo_again 34 = .ok (.invokevirtual 79, 3) := by decide +kernel
theorem d_Mo_again_37 : decode b_Mo_again 37 = .ok (.bastore, 1) := by decide +kernel
theorem d_Mo_again_38 : decode b_Mo_again 38 = .ok (.iinc 5 1, 3) := by decide +kernel
theorem d_Mo_again_41 : decode b_Mo_again 41 = .ok (.goto (-30), 3) := by decide +kernel
theorem d_Mo_again_44 : decode b_Mo_again 44 = .ok (.iconst 1, 1) := by decide +kernel
theorem d_Mo_again_45 : decode b_Mo_again 45 = .ok (.istore 5, 2) := by decide +kernel
theorem d_Mo_again_47 : decode b_Mo_again 47 = .ok (.iload 5, 2) := by decide +kernel
theorem d_Mo_again_49 : decode b_Mo_again 49 = .ok (.ifCond .eq 119, 3) := by decide +kernel
theorem d_Mo_again_52 : decode b_Mo_again 52 = .ok (.iconst 0, 1) := by decide +kernel
theorem d_Mo_again_53 : decode b_Mo_again 53 = .ok (.istore 5, 2) := by decide +kernel
theorem d_Mo_again_55 : decode b_Mo_again 55 = .ok (.iconst 0, 1) := by decide +kernel
theorem d_Mo_again_56 : decode b_Mo_again 56 = .ok (.istore 6, 2) := by decide +kernel
theorem d_Mo_again_58 : decode b_Mo_again 58 = .ok (.iload 6, 2) := by decide +kernel
theorem d_Mo_again_60 : decode b_Mo_again 60 = .ok (.iload 4, 2) := by decide +kernel
theorem d_Mo_again_62 : decode b_Mo_again 62 = .ok (.if_icmp .ge 41, 3) := by decide +kernel
theorem d_Mo_again_65 : decode b_Mo_again 65 = .ok (.aload_n 0, 1) := by decide +kernel
theorem d_Mo_again_66 : decode b_Mo_again 66 = .ok (.getfield 42, 3) := by decide +kernel
theorem d_Mo_again_69 : decode b_Mo_again 69 = .ok (.iload 6, 2) := by decide +kernel
theorem d_Mo_again_71 : decode b_Mo_again 71 = .ok (.aload_n 0, 1) := by decide +kernel
theorem d_Mo_again_72 : decode b_Mo_again 72 = .ok (.iload_n 1, 1) := by decide +kernel
theorem d_Mo_again_73 : decode b_Mo_again 73 = .ok (.iload 6, 2) := by decide +kernel
theorem d_Mo_again_75 : decode b_Mo_again 75 = .ok (.invokevirtual 79, 3) := by decide +kernel
theorem d_Mo_again_78 : decode b_Mo_again 78 = .ok (.ifCond .eq 17, 3) := by decide +kernel
theorem d_Mo_again_81 : decode b_Mo_again 81 = .ok (.aload_n 0, 1) := by decide +kernel
theorem d_Mo_again_82 : decode b_Mo_again 82 = .ok (.iload_n 3, 1) := by decide +kernel
theorem d_Mo_again_83 : decode b_Mo_again 83 = .ok (.iload 6, 2) := by decide +kernel
theorem d_Mo_again_85 : decode b_Mo_again 85 = .ok (.invokevirtual 79, 3) := by decide +kernel
theorem d_Mo_again_88 : decode b_Mo_again 88 = .ok (.ifCond .eq 7, 3) := by decide +kernel
theorem d_Mo_again_91 : decode b_Mo_again 91 = .ok (.iconst 1, 1) := by decide +kernel
theorem d_Mo_again_92 : decode b_Mo_again 92 = .ok (.goto 4, 3) := by decide +kernel
theorem d_Mo_again_95 : decode b_Mo_again 95 = .ok (.iconst 0, 1) := by decide +kernel
theorem d_Mo_again_96 : decode b_Mo_again 96 = .ok (.bastore, 1) := by decide +kernel
theorem d_Mo_again_97 : decode b_Mo_again 97 = .ok (.iinc 6 1, 3) := by decide +kernel
theorem d_Mo_again_100 : decode b_Mo_again 100 = .ok (.goto (-42), 3) := by decide +kernel
theorem d_Mo_again_103 : decode b_Mo_again 103 = .ok (.aload_n 0, 1) := by decide +kernel
theorem d_Mo_again_104 : decode b_Mo_again 104 = .ok (.iload_n 2, 1) := by decide +kernel
theorem d_Mo_again_105 : decode b_Mo_again 105 = .ok (.invokevirtual 86, 3) := by decide +kernel
theorem d_Mo_again_108 : decode b_Mo_again 108 = .ok (.iconst 0, 1) := by decide +kernel
theorem d_Mo_again_109 : decode b_Mo_again 109 = .ok (.istore 6, 2) := by decide +kernel
theorem d_Mo_again_111 : decode b_Mo_again 111 = .ok (.iload 6, 2) := by decide +kernel
theorem d_Mo_again_113 : decode b_Mo_again 113 = .ok (.iload 4, 2) := by decide +kernel
theorem d_Mo_again_115 : decode b_Mo_again 115 = .ok (.if_icmp .ge 50, 3) := by decide +kernel
theorem d_Mo_again_118 : decode b_Mo_again 118 = .ok (.aload_n 0, 1) := by decide +kernel
theorem d_Mo_again_119 : decode b_Mo_again 119 = .ok (.iload_n 1, 1) := by decide +kernel
theorem d_Mo_again_120 : decode b_Mo_again 120 = .ok (.iload 6, 2) := by decide +kernel
theorem d_Mo_again_122 : decode b_Mo_again 122 = .ok (.invokevirtual 79, 3) := by decide +kernel
theorem d_Mo_again_125 : decode b_Mo_again 125 = .ok (.ifCond .eq 34, 3) := by decide +kernel
theorem d_Mo_again_128 : decode b_Mo_again 128 = .ok (.aload_n 0, 1) := by decide +kernel
theorem d_Mo_again_129 : decode b_Mo_again 129 = .ok (.iload 6, 2) := by decide +kernel
theorem d_Mo_again_131 : decode b_Mo_again 131 = .ok (.aload_n 0, 1) := by decide +kernel
theorem d_Mo_again_132 : decode b_Mo_again 132 = .ok (.getfield 39, 3) := by decide +kernel
theorem d_Mo_again_135 : decode b_Mo_again 135 = .ok (.iconst 0, 1) := by decide +kernel
theorem d_Mo_again_136 : decode b_Mo_again 136 = .ok (.invokevirtual 82, 3) := by decide +kernel
theorem d_Mo_again_139 : decode b_Mo_again 139 = .ok (.ifCond .ne 20, 3) := by decide +kernel
theorem d_Mo_again_142 : decode b_Mo_again 142 = .ok (.aload_n 0, 1) := by decide +kernel
theorem d_Mo_again_143 : decode b_Mo_again 143 = .ok (.getfield 35, 3) := by decide +kernel
theorem d_Mo_again_146 : decode b_Mo_again 146 = .ok (.sipush 256, 3) := by decide +kernel
theorem d_Mo_again_149 : decode b_Mo_again 149 = .ok (.iload_n 1, 1) := by decide +kernel
theorem d_Mo_again_150 : decode b_Mo_again 150 = .ok (.imul, 1) := by decide +kernel
theorem d_Mo_again_151 : decode b_Mo_again 151 = .ok (.iload 6, 2) := by decide +kernel
theorem d_Mo_again_153 : decode b_Mo_again 153 = .ok (.iadd, 1) := by decide +kernel
theorem d_Mo_again_154 : decode b_Mo_again 154 = .ok (.iconst 0, 1) := by decide +kernel
theorem d_Mo_again_155 : decode b_Mo_again 155 = .ok (.bastore, 1) := by decide +kernel
theorem d_Mo_again_156 : decode b_Mo_again 156 = .ok (.iconst 1, 1) := by decide +kernel
theorem d_Mo_again_157 : decode b_Mo_again 157 = .ok (.istore 5, 2) := by decide +kernel
theorem d_Mo_again_159 : decode b_Mo_again 159 = .ok (.iinc 6 1, 3) := by decide +kernel
theorem d_Mo_again_162 : decode b_Mo_again 162 = .ok (.goto (-51), 3) := by decide +kernel
theorem d_Mo_again_165 : decode b_Mo_again 165 = .ok (.goto (-118), 3) := by decide +kernel
theorem d_Mo_again_168 : decode b_Mo_again 168 = .ok (.return_, 1) := by decide +kernel
theorem d_Mo_always_0 : decode b_Mo_always 0 = .ok (.iconst 1, 1) := by decide +kernel
theorem d_Mo_always_1 : decode b_Mo_always 1 = .ok (.aload_n 0, 1) := by decide +kernel
theorem d_Mo_always_2 : decode b_Mo_always 2 = .ok (.getfield 7, 3) := by decide +kernel
theorem d_Mo_always_5 : decode b_Mo_always 5 = .ok (.ishl, 1) := by decide +kernel
theorem d_Mo_always_6 : decode b_Mo_always 6 = .ok (.istore_n 3, 1) := by decide +kernel
theorem d_Mo_always_7 : decode b_Mo_always 7 = .ok (.iconst 0, 1) := by decide +kernel
theorem d_Mo_always_8 : decode b_Mo_always 8 = .ok (.istore 4, 2) := by decide +kernel
theorem d_Mo_always_10 : decode b_Mo_always 10 = .ok (.iload 4, 2) := by decide +kernel
theorem d_Mo_always_12 : decode b_Mo_always 12 = .ok (.iload_n 3, 1) := by decide +kernel
theorem d_Mo_always_13 : decode b_Mo_always 13 = .ok (.if_icmp .ge 29, 3) := by decide +kernel
theorem d_Mo_always_16 : decode b_Mo_always 16 = .ok (.aload_n 0, 1) := by decide +kernel
theorem d_Mo_always_17 : decode b_Mo_always 17 = .ok (.getfield 35, 3) := by decide +kernel
theorem d_Mo_always_20 : decode b_Mo_always 20 = .ok (.sipush 256, 3) := by decide +kernel
theorem d_Mo_always_23 : decode b_Mo_always 23 = .ok (.iload_n 1, 1) := by decide +kernel
theorem d_Mo_always_24 : decode b_Mo_always 24 = .ok (.imul, 1) := by decide +kernel
theorem d_Mo_always_25 : decode b_Mo_always 25 = .ok (.iload 4, 2) := by decide +kernel
theorem d_Mo_always_27 : decode b_Mo_always 27 = .ok (.iadd, 1) := by decide +kernel
theorem d_Mo_always_28 : decode b_Mo_always 28 = .ok (.aload_n 0, 1) := by decide +kernel
theorem d_Mo_always_29 : decode b_Mo_always 29 = .ok (.iload_n 2, 1) := by decide +kernel
theorem d_Mo_always_30 : decode b_Mo_always 30 = .ok (.iload 4, 2) := by decide +kernel
theorem d_Mo_always_32 : decode b_Mo_always 32 = .ok (.invokevirtual 79, 3) := by decide +kernel
theorem d_Mo_always_35 : decode b_Mo_always 35 = .ok (.bastore, 1) := by decide +kernel
theorem d_Mo_always_36 : decode b_Mo_always 36 = .ok (.iinc 4 1, 3) := by decide +kernel
theorem d_Mo_always_39 : decode b_Mo_always 39 = .ok (.goto (-29), 3) := by decide +kernel
theorem d_Mo_always_42 : decode b_Mo_always 42 = .ok (.iconst 1, 1) := by decide +kernel
theorem d_Mo_always_43 : decode b_Mo_always 43 = .ok (.istore 4, 2) := by decide +kernel
theorem d_Mo_always_45 : decode b_Mo_always 45 = .ok (.iload 4, 2) := by decide +kernel
theorem d_Mo_always_47 : decode b_Mo_always 47 = .ok (.ifCond .eq 69, 3) := by decide +kernel
theorem d_Mo_always_50 : decode b_Mo_always 50 = .ok (.iconst 0, 1) := by decide +kernel
theorem d_Mo_always_51 : decode b_Mo_always 51 = .ok (.istore 4, 2) := by decide +kernel
theorem d_Mo_always_53 : decode b_Mo_always 53 = .ok (.iconst 0, 1) := by decide +kernel
theorem d_Mo_always_54 : decode b_Mo_always 54 = .ok (.istore 5, 2) := by decide +kernel
theorem d_Mo_always_56 : decode b_Mo_always 56 = .ok (.iload 5, 2) := by decide +kernel
theorem d_Mo_always_58 : decode b_Mo_always 58 = .ok (.iload_n 3, 1) := by decide +kernel
theorem d_Mo_always_59 : decode b_Mo_always 59 = .ok (.if_icmp .ge 54, 3) := by decide +kernel
theorem d_Mo_always_62 : decode b_Mo_always 62 = .ok (.aload_n 0, 1) := by decide +kernel
theorem d_Mo_always_63 : decode b_Mo_always 63 = .ok (.iload_n 1, 1) := by decide +kernel
theorem d_Mo_always_64 : decode b_Mo_always 64 = .ok (.iload 5, 2) := by decide +kernel
theorem d_Mo_always_66 : decode b_Mo_always 66 = .ok (.invokevirtual 79, 3) := by decide +kernel
theorem d_Mo_always_69 : decode b_Mo_always 69 = .ok (.ifCond .eq 38, 3) := by decide +kernel
theorem d_Mo_always_72 : decode b_Mo_always 72 = .ok (.aload_n 0, 1) := by decide +kernel
theorem d_Mo_always_73 : decode b_Mo_always 73 = .ok (.iload 5, 2) := by decide +kernel
theorem d_Mo_always_75 : decode b_Mo_always 75 = .ok (.aload_n 0, 1) := by decide +kernel
theorem d_Mo_always_76 : decode b_Mo_always 76 = .ok (.getfield 35, 3) := by decide +kernel
theorem d_Mo_always_79 : decode b_Mo_always 79 = .ok (.sipush 256, 3) := by decide +kernel
theorem d_Mo_always_82 : decode b_Mo_always 82 = .ok (.iload_n 1, 1) := by decide +kernel
theorem d_Mo_always_83 : decode b_Mo_always 83 = .ok (.imul, 1) := by decide +kernel
theorem d_Mo_always_84 : decode b_Mo_always 84 = .ok (.invokevirtual 82, 3) := by decide +kernel
theorem d_Mo_always_87 : decode b_Mo_always 87 = .ok (.ifCond .ne 20, 3) := by decide +kernel
theorem d_Mo_always_90 : decode b_Mo_always 90 = .ok (.aload_n 0, 1) := by decide +kernel
theorem d_Mo_always_91 : decode b_Mo_always 91 = .ok (.getfield 35, 3) := by decide +kernel
theorem d_Mo_always_94 : decode b_Mo_always 94 = .ok (.sipush 256, 3) := by decide +kernel
theorem d_Mo_always_97 : decode b_Mo_always 97 = .ok (.iload_n 1, 1) := by decide +kernel
theorem d_Mo_always_98 : decode b_Mo_always 98 = .ok (.imul, 1) := by decide +kernel
theorem d_Mo_always_99 : decode b_Mo_always 99 = .ok (.iload 5, 2) := by decide +kernel
theorem d_Mo_always_101 : decode b_Mo_always 101 = .ok (.iadd, 1) := by decide +kernel
theorem d_Mo_always_102 : decode b_Mo_always 102 = .ok (.iconst 0, 1) := by decide +kernel
theorem d_Mo_always_103 : decode b_Mo_always 103 = .ok (.bastore, 1) := by decide +kernel
theorem d_Mo_always_104 : decode b_Mo_always 104 = .ok (.iconst 1, 1) := by decide +kernel
theorem d_Mo_always_105 : decode b_Mo_always 105 = .ok (.istore 4, 2) := by decide +kernel
theorem d_Mo_always_107 : decode b_Mo_always 107 = .ok (.iinc 5 1, 3) := by decide +kernel
theorem d_Mo_always_110 : decode b_Mo_always 110 = .ok (.goto (-54), 3) := by decide +kernel
theorem d_Mo_always_113 : decode b_Mo_always 113 = .ok (.goto (-68), 3) := by decide +kernel
theorem d_Mo_always_116 : decode b_Mo_always 116 = .ok (.return_, 1) := by decide +kernel
theorem d_Mo_begin_0 : decode b_Mo_begin 0 = .ok (.aload_n 0, 1) := by decide +kernel
theorem d_Mo_begin_1 : decode b_Mo_begin 1 = .ok (.iload_n 1, 1) := by decide +kernel
theorem d_Mo_begin_2 : decode b_Mo_begin 2 = .ok (.iconst 1, 1) := by decide +kernel
theorem d_Mo_begin_3 : decode b_Mo_begin 3 = .ok (.if_icmp .lt 9, 3) := by decide +kernel
theorem d_Mo_begin_6 : decode b_Mo_begin 6 = .ok (.iload_n 1, 1) := by decide +kernel
theorem d_Mo_begin_7 : decode b_Mo_begin 7 = .ok (.bipush 8, 2) := by decide +kernel
theorem d_Mo_begin_9 : decode b_Mo_begin 9 = .ok (.if_icmp .le 7, 3) := by decide +kernel
theorem d_Mo_begin_12 : decode b_Mo_begin 12 = .ok (.iconst 1, 1) := by decide +kernel
theorem d_Mo_begin_13 : decode b_Mo_begin 13 = .ok (.goto 4, 3) := by decide +kernel
theorem d_Mo_begin_16 : decode b_Mo_begin 16 = .ok (.iconst 0, 1) := by decide +kernel
theorem d_Mo_begin_17 : decode b_Mo_begin 17 = .ok (.iconst 0, 1) := by decide +kernel
theorem d_Mo_begin_18 : decode b_Mo_begin 18 = .ok (.iconst 0, 1) := by decide +kernel
theorem d_Mo_begin_19 : decode b_Mo_begin 19 = .ok (.invokevirtual 54, 3) := by decide +kernel
theorem d_Mo_begin_22 : decode b_Mo_begin 22 = .ok (.ifCond .ne 23, 3) := by decide +kernel
theorem d_Mo_begin_25 : decode b_Mo_begin 25 = .ok (.aload_n 0, 1) := by decide +kernel
theorem d_Mo_begin_26 : decode b_Mo_begin 26 = .ok (.iload_n 1, 1) := by decide +kernel
theorem d_Mo_begin_27 : decode b_Mo_begin 27 = .ok (.putfield 7, 3) := by decide +kernel
theorem d_Mo_begin_30 : decode b_Mo_begin 30 = .ok (.aload_n 0, 1) := by decide +kernel
theorem d_Mo_begin_31 : decode b_Mo_begin 31 = .ok (.iconst 0, 1) := by decide +kernel
theorem d_Mo_begin_32 : decode b_Mo_begin 32 = .ok (.putfield 58, 3) := by decide +kernel
theorem d_Mo_begin_35 : decode b_Mo_begin 35 = .ok (.aload_n 0, 1) := by decide +kernel
theorem d_Mo_begin_36 : decode b_Mo_begin 36 = .ok (.iconst 0, 1) := by decide +kernel
theorem d_Mo_begin_37 : decode b_Mo_begin 37 = .ok (.putfield 51, 3) := by decide +kernel
theorem d_Mo_begin_40 : decode b_Mo_begin 40 = .ok (.aload_n 0, 1) := by decide +kernel
theorem d_Mo_begin_41 : decode b_Mo_begin 41 = .ok (.iconst 0, 1) := by decide +kernel
theorem d_Mo_begin_42 : decode b_Mo_begin 42 = .ok (.putfield 61, 3) := by decide +kernel
theorem d_Mo_begin_45 : decode b_Mo_begin 45 = .ok (.return_, 1) := by decide +kernel
theorem d_Mo_count_0 : decode b_Mo_count 0 = .ok (.aload_n 0, 1) := by decide +kernel
theorem d_Mo_count_1 : decode b_Mo_count 1 = .ok (.aload_n 0, 1) := by decide +kernel
theorem d_Mo_count_2 : decode b_Mo_count 2 = .ok (.iload_n 1, 1) := by decide +kernel
theorem d_Mo_count_3 : decode b_Mo_count 3 = .ok (.invokevirtual 72, 3) := by decide +kernel
theorem d_Mo_count_6 : decode b_Mo_count 6 = .ok (.ifCond .ne 7, 3) := by decide +kernel
theorem d_Mo_count_9 : decode b_Mo_count 9 = .ok (.iconst 1, 1) := by decide +kernel
theorem d_Mo_count_10 : decode b_Mo_count 10 = .ok (.goto 4, 3) := by decide +kernel
theorem d_Mo_count_13 : decode b_Mo_count 13 = .ok (.iconst 0, 1) := by decide +kernel
theorem d_Mo_count_14 : decode b_Mo_count 14 = .ok (.iconst 0, 1) := by decide +kernel
theorem d_Mo_count_15 : decode b_Mo_count 15 = .ok (.iconst 0, 1) := by decide +kernel
theorem d_Mo_count_16 : decode b_Mo_count 16 = .ok (.invokevirtual 54, 3) := by decide +kernel
theorem d_Mo_count_19 : decode b_Mo_count 19 = .ok (.ifCond .eq 5, 3) := by decide +kernel
theorem d_Mo_count_22 : decode b_Mo_count 22 = .ok (.iconst 0, 1) := by decide +kernel
theorem d_Mo_count_23 : decode b_Mo_count 23 = .ok (.ireturn, 1) := by decide +kernel
theorem d_Mo_count_24 : decode b_Mo_count 24 = .ok (.aload_n 0, 1) := by decide +kernel
theorem d_Mo_count_25 : decode b_Mo_count 25 = .ok (.iload_n 1, 1) := by decide +kernel
theorem d_Mo_count_26 : decode b_Mo_count 26 = .ok (.invokevirtual 104, 3) := by decide +kernel
theorem d_Mo_count_29 : decode b_Mo_count 29 = .ok (.iconst 0, 1) := by decide +kernel
theorem d_Mo_count_30 : decode b_Mo_count 30 = .ok (.istore_n 2, 1) := by decide +kernel
theorem d_Mo_count_31 : decode b_Mo_count 31 = .ok (.iconst 0, 1) := by decide +kernel
theorem d_Mo_count_32 : decode b_Mo_count 32 = .ok (.istore_n 3, 1) := by decide +kernel
theorem d_Mo_count_33 : decode b_Mo_count 33 = .ok (.iload_n 3, 1) := by decide +kernel
theorem d_Mo_count_34 : decode b_Mo_count 34 = .ok (.iconst 1, 1) := by decide +kernel
theorem d_Mo_count_35 : decode b_Mo_count 35 = .ok (.aload_n 0, 1) := by decide +kernel
theorem d_Mo_count_36 : decode b_Mo_count 36 = .ok (.getfield 7, 3) := by decide +kernel
theorem d_Mo_count_39 : decode b_Mo_count 39 = .ok (.ishl, 1) := by decide +kernel
theorem d_Mo_count_40 : decode b_Mo_count 40 = .ok (.if_icmp .ge 26, 3) := by decide +kernel
theorem d_Mo_count_43 : decode b_Mo_count 43 = .ok (.aload_n 0, 1) := by decide +kernel
theorem d_Mo_count_44 : decode b_Mo_count 44 = .ok (.iload_n 1, 1) := by decide +kernel
theorem d_Mo_count_45 : decode b_Mo_count 45 = .ok (.iload_n 3, 1) := by decide +kernel
theorem d_Mo_count_46 : decode b_Mo_count 46 = .ok (.invokevirtual 79, 3) := by decide +kernel
theorem d_Mo_count_49 : decode b_Mo_count 49 = .ok (.ifCond .eq 9, 3) := by decide +kernel
theorem d_Mo_count_52 : decode b_Mo_count 52 = .ok (.iload_n 2, 1) := by decide +kernel
theorem d_Mo_count_53 : decode b_Mo_count 53 = .ok (.iconst 1, 1) := by decide +kernel
theorem d_Mo_count_54 : decode b_Mo_count 54 = .ok (.iadd, 1) := by decide +kernel
theorem d_Mo_count_55 : decode b_Mo_count 55 = .ok (.goto 4, 3) := by decide +kernel
theorem d_Mo_count_58 : decode b_Mo_count 58 = .ok (.iload_n 2, 1) := by decide +kernel
theorem d_Mo_count_59 : decode b_Mo_count 59 = .ok (.istore_n 2, 1) := by decide +kernel
theorem d_Mo_count_60 : decode b_Mo_count 60 = .ok (.iinc 3 1, 3) := by decide +kernel
theorem d_Mo_count_63 : decode b_Mo_count 63 = .ok (.goto (-30), 3) := by decide +kernel
theorem d_Mo_count_66 : decode b_Mo_count 66 = .ok (.iload_n 2, 1) := by decide +kernel
theorem d_Mo_count_67 : decode b_Mo_count 67 = .ok (.ireturn, 1) := by decide +kernel
theorem d_Mo_first_0 : decode b_Mo_first 0 = .ok (.aload_n 0, 1) := by decide +kernel
theorem d_Mo_first_1 : decode b_Mo_first 1 = .ok (.aload_n 0, 1) := by decide +kernel
theorem d_Mo_first_2 : decode b_Mo_first 2 = .ok (.iload_n 1, 1) := by decide +kernel
theorem d_Mo_first_3 : decode b_Mo_first 3 = .ok (.invokevirtual 72, 3) := by decide +kernel
theorem d_Mo_first_6 : decode b_Mo_first 6 = .ok (.ifCond .eq 11, 3) := by decide +kernel
theorem d_Mo_first_9 : decode b_Mo_first 9 = .ok (.aload_n 0, 1) := by decide +kernel
theorem d_Mo_first_10 : decode b_Mo_first 10 = .ok (.iload_n 2, 1) := by decide +kernel
theorem d_Mo_first_11 : decode b_Mo_first 11 = .ok (.invokevirtual 64, 3) := by decide +kernel
theorem d_Mo_first_14 : decode b_Mo_first 14 = .ok (.ifCond .ne 7, 3) := by decide +kernel
theorem d_Mo_first_17 : decode b_Mo_first 17 = .ok (.iconst 1, 1) := by decide +kernel
theorem d_Mo_first_18 : decode b_Mo_first 18 = .ok (.goto 4, 3) := by decide +kernel
theorem d_Mo_first_21 : decode b_Mo_first 21 = .ok (.iconst 0, 1) := by decide +kernel
theorem d_Mo_first_22 : decode b_Mo_first 22 = .ok (.iconst 0, 1) := by decide +kernel
theorem d_Mo_first_23 : decode b_Mo_first 23 = .ok (.iconst 0, 1) := by decide +kernel
theorem d_Mo_first_24 : decode b_Mo_first 24 = .ok (.invokevirtual 54, 3) := by decide +kernel
theorem d_Mo_first_27 : decode b_Mo_first 27 = .ok (.ifCond .eq 5, 3) := by decide +kernel
theorem d_Mo_first_30 : decode b_Mo_first 30 = .ok (.iconst 0, 1) := by decide +kernel
theorem d_Mo_first_31 : decode b_Mo_first 31 = .ok (.ireturn, 1) := by decide +kernel
theorem d_Mo_first_32 : decode b_Mo_first 32 = .ok (.aload_n 0, 1) := by decide +kernel
theorem d_Mo_first_33 : decode b_Mo_first 33 = .ok (.iload_n 1, 1) := by decide +kernel
theorem d_Mo_first_34 : decode b_Mo_first 34 = .ok (.invokevirtual 104, 3) := by decide +kernel
theorem d_Mo_first_37 : decode b_Mo_first 37 = .ok (.iload_n 2, 1) := by decide +kernel
theorem d_Mo_first_38 : decode b_Mo_first 38 = .ok (.istore_n 3, 1) := by decide +kernel
theorem d_Mo_first_39 : decode b_Mo_first 39 = .ok (.iload_n 3, 1) := by decide +kernel
theorem d_Mo_first_40 : decode b_Mo_first 40 = .ok (.iconst 1, 1) := by decide +kernel
theorem d_Mo_first_41 : decode b_Mo_first 41 = .ok (.aload_n 0, 1) := by decide +kernel
theorem d_Mo_first_42 : decode b_Mo_first 42 = .ok (.getfield 7, 3) := by decide +kernel
theorem d_Mo_first_45 : decode b_Mo_first 45 = .ok (.ishl, 1) := by decide +kernel
theorem d_Mo_first_46 : decode b_Mo_first 46 = .ok (.if_icmp .ge 20, 3) := by decide +kernel
theorem d_Mo_first_49 : decode b_Mo_first 49 = .ok (.aload_n 0, 1) := by decide +kernel
theorem d_Mo_first_50 : decode b_Mo_first 50 = .ok (.iload_n 1, 1) := by decide +kernel
theorem d_Mo_first_51 : decode b_Mo_first 51 = .ok (.iload_n 3, 1) := by decide +kernel
theorem d_Mo_first_52 : decode b_Mo_first 52 = .ok (.invokevirtual 79, 3) := by decide +kernel
theorem d_Mo_first_55 : decode b_Mo_first 55 = .ok (.ifCond .eq 5, 3) := by decide +kernel
theorem d_Mo_first_58 : decode b_Mo_first 58 = .ok (.iload_n 3, 1) := by decide +kernel
theorem d_Mo_first_59 : decode b_Mo_first 59 = .ok (.ireturn, 1) := by decide +kernel
theorem d_Mo_first_60 : decode b_Mo_first 60 = .ok (.iinc 3 1, 3) := by decide +kernel
theorem d_Mo_first_63 : decode b_Mo_first 63 = .ok (.goto (-24), 3) := by decide +kernel
theorem d_Mo_first_66 : decode b_Mo_first 66 = .ok (.iconst (-1), 1) := by decide +kernel
theorem d_Mo_first_67 : decode b_Mo_first 67 = .ok (.ireturn, 1) := by decide +kernel
theorem d_Mo_formula_0 : decode b_Mo_formula 0 = .ok (.iload_n 1, 1) := by decide +kernel
theorem d_Mo_formula_1 : decode b_Mo_formula 1 = .ok (.iconst 2, 1) := by decide +kernel
theorem d_Mo_formula_2 : decode b_Mo_formula 2 = .ok (.if_icmp .eq 19, 3) := by decide +kernel
theorem d_Mo_formula_5 : decode b_Mo_formula 5 = .ok (.iload_n 1, 1) := by decide +kernel
theorem d_Mo_formula_6 : decode b_Mo_formula 6 = .ok (.iconst 3, 1) := by decide +kernel
theorem d_Mo_formula_7 : decode b_Mo_formula 7 = .ok (.if_icmp .eq 14, 3) := by decide +kernel
theorem d_Mo_formula_10 : decode b_Mo_formula 10 = .ok (.iload_n 1, 1) := by decide +kernel
theorem d_Mo_formula_11 : decode b_Mo_formula 11 = .ok (.iconst 5, 1) := by decide +kernel
theorem d_Mo_formula_12 : decode b_Mo_formula 12 = .ok (.if_icmp .eq 9, 3) := by decide +kernel
theorem d_Mo_formula_15 : decode b_Mo_formula 15 = .ok (.iload_n 1, 1) := by decide +kernel
theorem d_Mo_formula_16 : decode b_Mo_formula 16 = .ok (.bipush 7, 2) := by decide +kernel
theorem d_Mo_formula_18 : decode b_Mo_formula 18 = .ok (.if_icmp .ne 7, 3) := by decide +kernel
theorem d_Mo_formula_21 : decode b_Mo_formula 21 = .ok (.iconst 1, 1) := by decide +kernel
theorem d_Mo_formula_22 : decode b_Mo_formula 22 = .ok (.goto 4, 3) := by decide +kernel
theorem d_Mo_formula_25 : decode b_Mo_formula 25 = .ok (.iconst 0, 1) := by decide +kernel
theorem d_Mo_formula_26 : decode b_Mo_formula 26 = .ok (.istore 4, 2) := by decide +kernel
theorem d_Mo_formula_28 : decode b_Mo_formula 28 = .ok (.iload_n 1, 1) := by decide +kernel
theorem d_Mo_formula_29 : decode b_Mo_formula 29 = .ok (.ifCond .lt 50, 3) := by decide +kernel
theorem d_Mo_formula_32 : decode b_Mo_formula 32 = .ok (.iload_n 1, 1) := by decide +kernel
theorem d_Mo_formula_33 : decode b_Mo_formula 33 = .ok (.bipush 7, 2) := by decide +kernel
theorem d_Mo_formula_35 : decode b_Mo_formula 35 = .ok (.if_icmp .gt 44, 3) := by decide +kernel
theorem d_Mo_formula_38 : decode b_Mo_formula 38 = .ok (.iload_n 1, 1) := by decide +kernel
theorem d_Mo_formula_39 : decode b_Mo_formula 39 = .ok (.ifCond .ne 15, 3) := by decide +kernel
theorem d_Mo_formula_42 : decode b_Mo_formula 42 = .ok (.aload_n 0, 1) := by decide +kernel
theorem d_Mo_formula_43 : decode b_Mo_formula 43 = .ok (.iload_n 2, 1) := by decide +kernel
theorem d_Mo_formula_44 : decode b_Mo_formula 44 = .ok (.iload_n 3, 1) := by decide +kernel
theorem d_Mo_formula_45 : decode b_Mo_formula 45 = .ok (.invokevirtual 68, 3) := by decide +kernel
theorem d_Mo_formula_48 : decode b_Mo_formula 48 = .ok (.ifCond .eq 31, 3) := by decide +kernel
theorem d_Mo_formula_51 : decode b_Mo_formula 51 = .ok (.goto 24, 3) := by decide +kernel
theorem d_Mo_formula_54 : decode b_Mo_formula 54 = .ok (.aload_n 0, 1) := by decide +kernel
theorem d_Mo_formula_55 : decode b_Mo_formula 55 = .ok (.iload_n 2, 1) := by decide +kernel
theorem d_Mo_formula_56 : decode b_Mo_formula 56 = .ok (.invokevirtual 72, 3) := by decide +kernel
theorem d_Mo_formula_59 : decode b_Mo_formula 59 = .ok (.ifCond .eq 20, 3) := by decide +kernel
theorem d_Mo_formula_62 : decode b_Mo_formula 62 = .ok (.iload 4, 2) := by decide +kernel
theorem d_Mo_formula_64 : decode b_Mo_formula 64 = .ok (.ifCond .eq 11, 3) := by decide +kernel
theorem d_Mo_formula_67 : decode b_Mo_formula 67 = .ok (.aload_n 0, 1) := by decide +kernel
theorem d_Mo_formula_68 : decode b_Mo_formula 68 = .ok (.iload_n 3, 1) := by decide +kernel
theorem d_Mo_formula_69 : decode b_Mo_formula 69 = .ok (.invokevirtual 72, 3) := by decide +kernel
theorem d_Mo_formula_72 : decode b_Mo_formula 72 = .ok (.ifCond .eq 7, 3) := by decide +kernel
theorem d_Mo_formula_75 : decode b_Mo_formula 75 = .ok (.iconst 1, 1) := by decide +kernel
theorem d_Mo_formula_76 : decode b_Mo_formula 76 = .ok (.goto 4, 3) := by decide +kernel
theorem d_Mo_formula_79 : decode b_Mo_formula 79 = .ok (.iconst 0, 1) := by decide +kernel
theorem d_Mo_formula_80 : decode b_Mo_formula 80 = .ok (.istore 5, 2) := by decide +kernel
theorem d_Mo_formula_82 : decode b_Mo_formula 82 = .ok (.aload_n 0, 1) := by decide +kernel
theorem d_Mo_formula_83 : decode b_Mo_formula 83 = .ok (.iload 5, 2) := by decide +kernel
theorem d_Mo_formula_85 : decode b_Mo_formula 85 = .ok (.ifCond .ne 7, 3) := by decide +kernel
theorem d_Mo_formula_88 : decode b_Mo_formula 88 = .ok (.iconst 1, 1) := by decide +kernel
theorem d_Mo_formula_89 : decode b_Mo_formula 89 = .ok (.goto 4, 3) := by decide +kernel
theorem d_Mo_formula_92 : decode b_Mo_formula 92 = .ok (.iconst 0, 1) := by decide +kernel
theorem d_Mo_formula_93 : decode b_Mo_formula 93 = .ok (.iload 5, 2) := by decide +kernel
theorem d_Mo_formula_95 : decode b_Mo_formula 95 = .ok (.ifCond .eq 16, 3) := by decide +kernel
theorem d_Mo_formula_98 : decode b_Mo_formula 98 = .ok (.aload_n 0, 1) := by decide +kernel
theorem d_Mo_formula_99 : decode b_Mo_formula 99 = .ok (.getfield 51, 3) := by decide +kernel
theorem d_Mo_formula_102 : decode b_Mo_formula 102 = .ok (.bipush 60, 2) := by decide +kernel
theorem d_Mo_formula_104 : decode b_Mo_formula 104 = .ok (.if_icmp .ne 7, 3) := by decide +kernel
theorem d_Mo_formula_107 : decode b_Mo_formula 107 = .ok (.iconst 1, 1) := by decide +kernel
theorem d_Mo_formula_108 : decode b_Mo_formula 108 = .ok (.goto 4, 3) := by decide +kernel
theorem d_Mo_formula_111 : decode b_Mo_formula 111 = .ok (.iconst 0, 1) := by decide +kernel
theorem d_Mo_formula_112 : decode b_Mo_formula 112 = .ok (.iconst 0, 1) := by decide +kernel
theorem d_Mo_formula_113 : decode b_Mo_formula 113 = .ok (.invokevirtual 54, 3) := by decide +kernel
theorem d_Mo_formula_116 : decode b_Mo_formula 116 = .ok (.ifCond .eq 5, 3) := by decide +kernel
theorem d_Mo_formula_119 : decode b_Mo_formula 119 = .ok (.iconst 0, 1) := by decide +kernel
theorem d_Mo_formula_120 : decode b_Mo_formula 120 = .ok (.ireturn, 1) := by decide +kernel
theorem d_Mo_formula_121 : decode b_Mo_formula 121 = .ok (.aload_n 0, 1) := by decide +kernel
theorem d_Mo_formula_122 : decode b_Mo_formula 122 = .ok (.getfield 26, 3) := by decide +kernel
theorem d_Mo_formula_125 : decode b_Mo_formula 125 = .ok (.aload_n 0, 1) := by decide +kernel
theorem d_Mo_formula_126 : decode b_Mo_formula 126 = .ok (.getfield 51, 3) := by decide +kernel
theorem d_Mo_formula_129 : decode b_Mo_formula 129 = .ok (.iload_n 1, 1) := by decide +kernel
theorem d_Mo_formula_130 : decode b_Mo_formula 130 = .ok (.iastore, 1) := by decide +kernel
theorem d_Mo_formula_131 : decode b_Mo_formula 131 = .ok (.aload_n 0, 1) := by decide +kernel
theorem d_Mo_formula_132 : decode b_Mo_formula 132 = .ok (.getfield 29, 3) := by decide +kernel
theorem d_Mo_formula_135 : decode b_Mo_formula 135 = .ok (.aload_n 0, 1) := by decide +kernel
theorem d_Mo_formula_136 : decode b_Mo_formula 136 = .ok (.getfield 51, 3) := by decide +kernel
theorem d_Mo_formula_139 : decode b_Mo_formula 139 = .ok (.iload_n 2, 1) := by decide +kernel
theorem d_Mo_formula_140 : decode b_Mo_formula 140 = .ok (.iastore, 1) := by decide +kernel
theorem d_Mo_formula_141 : decode b_Mo_formula 141 = .ok (.aload_n 0, 1) := by decide +kernel
theorem d_Mo_formula_142 : decode b_Mo_formula 142 = .ok (.getfield 32, 3) := by decide +kernel
theorem d_Mo_formula_145 : decode b_Mo_formula 145 = .ok (.aload_n 0, 1) := by decide +kernel
end
section
theorem d_Mo_formula_146 : decode b_Mo_formula 146 = .ok (.getfield 51, 3) := by decide +kernel
theorem d_Mo_formula_149 : decode b_Mo_formula 149 = .ok (.iload 4, 2) := by decide +kernel
theorem d_Mo_formula_151 : decode b_Mo_formula 151 = .ok (.ifCond .ne 7, 3) := by decide +kernel
theorem d_Mo_formula_154 : decode b_Mo_formula 154 = .ok (.iload_n 1, 1) := by decide +kernel
theorem d_Mo_formula_155 : decode b_Mo_formula 155 = .ok (.ifCond .ne 7, 3) := by decide +kernel
theorem d_Mo_formula_158 : decode b_Mo_formula 158 = .ok (.iload_n 3, 1) := by decide +kernel
theorem d_Mo_formula_159 : decode b_Mo_formula 159 = .ok (.goto 4, 3) := by decide +kernel
theorem d_Mo_formula_162 : decode b_Mo_formula 162 = .ok (.iconst 0, 1) := by decide +kernel
theorem d_Mo_formula_163 : decode b_Mo_formula 163 = .ok (.iastore, 1) := by decide +kernel
theorem d_Mo_formula_164 : decode b_Mo_formula 164 = .ok (.aload_n 0, 1) := by decide +kernel
theorem d_Mo_formula_165 : decode b_Mo_formula 165 = .ok (.dup, 1) := by decide +kernel
theorem d_Mo_formula_166 : decode b_Mo_formula 166 = .ok (.getfield 51, 3) := by decide +kernel
theorem d_Mo_formula_169 : decode b_Mo_formula 169 = .ok (.iconst 1, 1) := by decide +kernel
theorem d_Mo_formula_170 : decode b_Mo_formula 170 = .ok (.iadd, 1) := by decide +kernel
theorem d_Mo_formula_171 : decode b_Mo_formula 171 = .ok (.putfield 51, 3) := by decide +kernel
theorem d_Mo_formula_174 : decode b_Mo_formula 174 = .ok (.aload_n 0, 1) := by decide +kernel
theorem d_Mo_formula_175 : decode b_Mo_formula 175 = .ok (.getfield 51, 3) := by decide +kernel
theorem d_Mo_formula_178 : decode b_Mo_formula 178 = .ok (.iconst 1, 1) := by decide +kernel
theorem d_Mo_formula_179 : decode b_Mo_formula 179 = .ok (.isub, 1) := by decide +kernel
theorem d_Mo_formula_180 : decode b_Mo_formula 180 = .ok (.ireturn, 1) := by decide +kernel
theorem d_Mo_goes_0 : decode b_Mo_goes 0 = .ok (.iload_n 1, 1) := by decide +kernel
theorem d_Mo_goes_1 : decode b_Mo_goes 1 = .ok (.aload_n 0, 1) := by decide +kernel
theorem d_Mo_goes_2 : decode b_Mo_goes 2 = .ok (.getfield 13, 3) := by decide +kernel
theorem d_Mo_goes_5 : decode b_Mo_goes 5 = .ok (.iload_n 2, 1) := by decide +kernel
theorem d_Mo_goes_6 : decode b_Mo_goes 6 = .ok (.iaload, 1) := by decide +kernel
theorem d_Mo_goes_7 : decode b_Mo_goes 7 = .ok (.iand, 1) := by decide +kernel
theorem d_Mo_goes_8 : decode b_Mo_goes 8 = .ok (.aload_n 0, 1) := by decide +kernel
theorem d_Mo_goes_9 : decode b_Mo_goes 9 = .ok (.getfield 17, 3) := by decide +kernel
theorem d_Mo_goes_12 : decode b_Mo_goes 12 = .ok (.iload_n 2, 1) := by decide +kernel
theorem d_Mo_goes_13 : decode b_Mo_goes 13 = .ok (.iaload, 1) := by decide +kernel
theorem d_Mo_goes_14 : decode b_Mo_goes 14 = .ok (.if_icmp .ne 21, 3) := by decide +kernel
theorem d_Mo_goes_17 : decode b_Mo_goes 17 = .ok (.iload_n 1, 1) := by decide +kernel
theorem d_Mo_goes_18 : decode b_Mo_goes 18 = .ok (.aload_n 0, 1) := by decide +kernel
theorem d_Mo_goes_19 : decode b_Mo_goes 19 = .ok (.getfield 20, 3) := by decide +kernel
theorem d_Mo_goes_22 : decode b_Mo_goes 22 = .ok (.iload_n 2, 1) := by decide +kernel
theorem d_Mo_goes_23 : decode b_Mo_goes 23 = .ok (.iaload, 1) := by decide +kernel
theorem d_Mo_goes_24 : decode b_Mo_goes 24 = .ok (.iand, 1) := by decide +kernel
theorem d_Mo_goes_25 : decode b_Mo_goes 25 = .ok (.aload_n 0, 1) := by decide +kernel
theorem d_Mo_goes_26 : decode b_Mo_goes 26 = .ok (.getfield 23, 3) := by decide +kernel
theorem d_Mo_goes_29 : decode b_Mo_goes 29 = .ok (.iload_n 2, 1) := by decide +kernel
theorem d_Mo_goes_30 : decode b_Mo_goes 30 = .ok (.iaload, 1) := by decide +kernel
theorem d_Mo_goes_31 : decode b_Mo_goes 31 = .ok (.ixor, 1) := by decide +kernel
theorem d_Mo_goes_32 : decode b_Mo_goes 32 = .ok (.goto 4, 3) := by decide +kernel
theorem d_Mo_goes_35 : decode b_Mo_goes 35 = .ok (.iconst (-1), 1) := by decide +kernel
theorem d_Mo_goes_36 : decode b_Mo_goes 36 = .ok (.ireturn, 1) := by decide +kernel
theorem d_Mo_goesInto_0 : decode b_Mo_goesInto 0 = .ok (.iconst 0, 1) := by decide +kernel
theorem d_Mo_goesInto_1 : decode b_Mo_goesInto 1 = .ok (.istore 4, 2) := by decide +kernel
theorem d_Mo_goesInto_3 : decode b_Mo_goesInto 3 = .ok (.iconst 0, 1) := by decide +kernel
theorem d_Mo_goesInto_4 : decode b_Mo_goesInto 4 = .ok (.istore 5, 2) := by decide +kernel
theorem d_Mo_goesInto_6 : decode b_Mo_goesInto 6 = .ok (.iload 5, 2) := by decide +kernel
theorem d_Mo_goesInto_8 : decode b_Mo_goesInto 8 = .ok (.aload_n 0, 1) := by decide +kernel
theorem d_Mo_goesInto_9 : decode b_Mo_goesInto 9 = .ok (.getfield 58, 3) := by decide +kernel
theorem d_Mo_goesInto_12 : decode b_Mo_goesInto 12 = .ok (.if_icmp .ge 44, 3) := by decide +kernel
theorem d_Mo_goesInto_15 : decode b_Mo_goesInto 15 = .ok (.iload 4, 2) := by decide +kernel
theorem d_Mo_goesInto_17 : decode b_Mo_goesInto 17 = .ok (.ifCond .ne 39, 3) := by decide +kernel
theorem d_Mo_goesInto_20 : decode b_Mo_goesInto 20 = .ok (.aload_n 0, 1) := by decide +kernel
theorem d_Mo_goesInto_21 : decode b_Mo_goesInto 21 = .ok (.iload_n 1, 1) := by decide +kernel
theorem d_Mo_goesInto_22 : decode b_Mo_goesInto 22 = .ok (.iload 5, 2) := by decide +kernel
theorem d_Mo_goesInto_24 : decode b_Mo_goesInto 24 = .ok (.invokevirtual 75, 3) := by decide +kernel
theorem d_Mo_goesInto_27 : decode b_Mo_goesInto 27 = .ok (.istore 6, 2) := by decide +kernel
theorem d_Mo_goesInto_29 : decode b_Mo_goesInto 29 = .ok (.iload 6, 2) := by decide +kernel
theorem d_Mo_goesInto_31 : decode b_Mo_goesInto 31 = .ok (.ifCond .lt 16, 3) := by decide +kernel
theorem d_Mo_goesInto_34 : decode b_Mo_goesInto 34 = .ok (.aload_n 2, 1) := by decide +kernel
theorem d_Mo_goesInto_35 : decode b_Mo_goesInto 35 = .ok (.iload_n 3, 1) := by decide +kernel
theorem d_Mo_goesInto_36 : decode b_Mo_goesInto 36 = .ok (.iload 6, 2) := by decide +kernel
theorem d_Mo_goesInto_38 : decode b_Mo_goesInto 38 = .ok (.iadd, 1) := by decide +kernel
theorem d_Mo_goesInto_39 : decode b_Mo_goesInto 39 = .ok (.baload, 1) := by decide +kernel
theorem d_Mo_goesInto_40 : decode b_Mo_goesInto 40 = .ok (.ifCond .eq 7, 3) := by decide +kernel
theorem d_Mo_goesInto_43 : decode b_Mo_goesInto 43 = .ok (.iconst 1, 1) := by decide +kernel
theorem d_Mo_goesInto_44 : decode b_Mo_goesInto 44 = .ok (.goto 4, 3) := by decide +kernel
theorem d_Mo_goesInto_47 : decode b_Mo_goesInto 47 = .ok (.iconst 0, 1) := by decide +kernel
theorem d_Mo_goesInto_48 : decode b_Mo_goesInto 48 = .ok (.istore 4, 2) := by decide +kernel
theorem d_Mo_goesInto_50 : decode b_Mo_goesInto 50 = .ok (.iinc 5 1, 3) := by decide +kernel
theorem d_Mo_goesInto_53 : decode b_Mo_goesInto 53 = .ok (.goto (-47), 3) := by decide +kernel
theorem d_Mo_goesInto_56 : decode b_Mo_goesInto 56 = .ok (.iload 4, 2) := by decide +kernel
theorem d_Mo_goesInto_58 : decode b_Mo_goesInto 58 = .ok (.ireturn, 1) := by decide +kernel
theorem d_Mo_has_0 : decode b_Mo_has 0 = .ok (.aload_n 0, 1) := by decide +kernel
theorem d_Mo_has_1 : decode b_Mo_has 1 = .ok (.getfield 35, 3) := by decide +kernel
theorem d_Mo_has_4 : decode b_Mo_has 4 = .ok (.sipush 256, 3) := by decide +kernel
theorem d_Mo_has_7 : decode b_Mo_has 7 = .ok (.iload_n 1, 1) := by decide +kernel
theorem d_Mo_has_8 : decode b_Mo_has 8 = .ok (.imul, 1) := by decide +kernel
theorem d_Mo_has_9 : decode b_Mo_has 9 = .ok (.iload_n 2, 1) := by decide +kernel
theorem d_Mo_has_10 : decode b_Mo_has 10 = .ok (.iadd, 1) := by decide +kernel
theorem d_Mo_has_11 : decode b_Mo_has 11 = .ok (.baload, 1) := by decide +kernel
theorem d_Mo_has_12 : decode b_Mo_has 12 = .ok (.ireturn, 1) := by decide +kernel
theorem d_Mo_holds_0 : decode b_Mo_holds 0 = .ok (.aload_n 0, 1) := by decide +kernel
theorem d_Mo_holds_1 : decode b_Mo_holds 1 = .ok (.aload_n 0, 1) := by decide +kernel
theorem d_Mo_holds_2 : decode b_Mo_holds 2 = .ok (.iload_n 1, 1) := by decide +kernel
theorem d_Mo_holds_3 : decode b_Mo_holds 3 = .ok (.invokevirtual 72, 3) := by decide +kernel
theorem d_Mo_holds_6 : decode b_Mo_holds 6 = .ok (.ifCond .eq 11, 3) := by decide +kernel
theorem d_Mo_holds_9 : decode b_Mo_holds 9 = .ok (.aload_n 0, 1) := by decide +kernel
theorem d_Mo_holds_10 : decode b_Mo_holds 10 = .ok (.iload_n 2, 1) := by decide +kernel
theorem d_Mo_holds_11 : decode b_Mo_holds 11 = .ok (.invokevirtual 64, 3) := by decide +kernel
theorem d_Mo_holds_14 : decode b_Mo_holds 14 = .ok (.ifCond .ne 7, 3) := by decide +kernel
theorem d_Mo_holds_17 : decode b_Mo_holds 17 = .ok (.iconst 1, 1) := by decide +kernel
theorem d_Mo_holds_18 : decode b_Mo_holds 18 = .ok (.goto 4, 3) := by decide +kernel
theorem d_Mo_holds_21 : decode b_Mo_holds 21 = .ok (.iconst 0, 1) := by decide +kernel
theorem d_Mo_holds_22 : decode b_Mo_holds 22 = .ok (.iconst 0, 1) := by decide +kernel
theorem d_Mo_holds_23 : decode b_Mo_holds 23 = .ok (.iconst 0, 1) := by decide +kernel
theorem d_Mo_holds_24 : decode b_Mo_holds 24 = .ok (.invokevirtual 54, 3) := by decide +kernel
theorem d_Mo_holds_27 : decode b_Mo_holds 27 = .ok (.ifCond .eq 5, 3) := by decide +kernel
theorem d_Mo_holds_30 : decode b_Mo_holds 30 = .ok (.iconst 0, 1) := by decide +kernel
theorem d_Mo_holds_31 : decode b_Mo_holds 31 = .ok (.ireturn, 1) := by decide +kernel
theorem d_Mo_holds_32 : decode b_Mo_holds 32 = .ok (.aload_n 0, 1) := by decide +kernel
theorem d_Mo_holds_33 : decode b_Mo_holds 33 = .ok (.iload_n 1, 1) := by decide +kernel
theorem d_Mo_holds_34 : decode b_Mo_holds 34 = .ok (.invokevirtual 104, 3) := by decide +kernel
theorem d_Mo_holds_37 : decode b_Mo_holds 37 = .ok (.aload_n 0, 1) := by decide +kernel
theorem d_Mo_holds_38 : decode b_Mo_holds 38 = .ok (.iload_n 1, 1) := by decide +kernel
theorem d_Mo_holds_39 : decode b_Mo_holds 39 = .ok (.iload_n 2, 1) := by decide +kernel
theorem d_Mo_holds_40 : decode b_Mo_holds 40 = .ok (.invokevirtual 79, 3) := by decide +kernel
theorem d_Mo_holds_43 : decode b_Mo_holds 43 = .ok (.ireturn, 1) := by decide +kernel
theorem d_Mo_init_0 : decode b_Mo_init 0 = .ok (.aload_n 0, 1) := by decide +kernel
theorem d_Mo_init_1 : decode b_Mo_init 1 = .ok (.invokespecial 1, 3) := by decide +kernel
theorem d_Mo_init_4 : decode b_Mo_init 4 = .ok (.aload_n 0, 1) := by decide +kernel
theorem d_Mo_init_5 : decode b_Mo_init 5 = .ok (.iconst 1, 1) := by decide +kernel
theorem d_Mo_init_6 : decode b_Mo_init 6 = .ok (.putfield 7, 3) := by decide +kernel
theorem d_Mo_init_9 : decode b_Mo_init 9 = .ok (.aload_n 0, 1) := by decide +kernel
theorem d_Mo_init_10 : decode b_Mo_init 10 = .ok (.bipush 40, 2) := by decide +kernel
theorem d_Mo_init_12 : decode b_Mo_init 12 = .ok (.newarray .int, 2) := by decide +kernel
theorem d_Mo_init_14 : decode b_Mo_init 14 = .ok (.putfield 13, 3) := by decide +kernel
theorem d_Mo_init_17 : decode b_Mo_init 17 = .ok (.aload_n 0, 1) := by decide +kernel
theorem d_Mo_init_18 : decode b_Mo_init 18 = .ok (.bipush 40, 2) := by decide +kernel
theorem d_Mo_init_20 : decode b_Mo_init 20 = .ok (.newarray .int, 2) := by decide +kernel
theorem d_Mo_init_22 : decode b_Mo_init 22 = .ok (.putfield 17, 3) := by decide +kernel
theorem d_Mo_init_25 : decode b_Mo_init 25 = .ok (.aload_n 0, 1) := by decide +kernel
theorem d_Mo_init_26 : decode b_Mo_init 26 = .ok (.bipush 40, 2) := by decide +kernel
theorem d_Mo_init_28 : decode b_Mo_init 28 = .ok (.newarray .int, 2) := by decide +kernel
theorem d_Mo_init_30 : decode b_Mo_init 30 = .ok (.putfield 20, 3) := by decide +kernel
theorem d_Mo_init_33 : decode b_Mo_init 33 = .ok (.aload_n 0, 1) := by decide +kernel
theorem d_Mo_init_34 : decode b_Mo_init 34 = .ok (.bipush 40, 2) := by decide +kernel
theorem d_Mo_init_36 : decode b_Mo_init 36 = .ok (.newarray .int, 2) := by decide +kernel
theorem d_Mo_init_38 : decode b_Mo_init 38 = .ok (.putfield 23, 3) := by decide +kernel
theorem d_Mo_init_41 : decode b_Mo_init 41 = .ok (.aload_n 0, 1) := by decide +kernel
theorem d_Mo_init_42 : decode b_Mo_init 42 = .ok (.bipush 60, 2) := by decide +kernel
theorem d_Mo_init_44 : decode b_Mo_init 44 = .ok (.newarray .int, 2) := by decide +kernel
theorem d_Mo_init_46 : decode b_Mo_init 46 = .ok (.putfield 26, 3) := by decide +kernel
theorem d_Mo_init_49 : decode b_Mo_init 49 = .ok (.aload_n 0, 1) := by decide +kernel
theorem d_Mo_init_50 : decode b_Mo_init 50 = .ok (.bipush 60, 2) := by decide +kernel
theorem d_Mo_init_52 : decode b_Mo_init 52 = .ok (.newarray .int, 2) := by decide +kernel
theorem d_Mo_init_54 : decode b_Mo_init 54 = .ok (.putfield 29, 3) := by decide +kernel
theorem d_Mo_init_57 : decode b_Mo_init 57 = .ok (.aload_n 0, 1) := by decide +kernel
theorem d_Mo_init_58 : decode b_Mo_init 58 = .ok (.bipush 60, 2) := by decide +kernel
theorem d_Mo_init_60 : decode b_Mo_init 60 = .ok (.newarray .int, 2) := by decide +kernel
theorem d_Mo_init_62 : decode b_Mo_init 62 = .ok (.putfield 32, 3) := by decide +kernel
theorem d_Mo_init_65 : decode b_Mo_init 65 = .ok (.aload_n 0, 1) := by decide +kernel
theorem d_Mo_init_66 : decode b_Mo_init 66 = .ok (.sipush 15360, 3) := by decide +kernel
theorem d_Mo_init_69 : decode b_Mo_init 69 = .ok (.newarray .boolean, 2) := by decide +kernel
theorem d_Mo_init_71 : decode b_Mo_init 71 = .ok (.putfield 35, 3) := by decide +kernel
theorem d_Mo_init_74 : decode b_Mo_init 74 = .ok (.aload_n 0, 1) := by decide +kernel
theorem d_Mo_init_75 : decode b_Mo_init 75 = .ok (.sipush 256, 3) := by decide +kernel
theorem d_Mo_init_78 : decode b_Mo_init 78 = .ok (.newarray .boolean, 2) := by decide +kernel
theorem d_Mo_init_80 : decode b_Mo_init 80 = .ok (.putfield 39, 3) := by decide +kernel
theorem d_Mo_init_83 : decode b_Mo_init 83 = .ok (.aload_n 0, 1) := by decide +kernel
theorem d_Mo_init_84 : decode b_Mo_init 84 = .ok (.sipush 256, 3) := by decide +kernel
theorem d_Mo_init_87 : decode b_Mo_init 87 = .ok (.newarray .boolean, 2) := by decide +kernel
theorem d_Mo_init_89 : decode b_Mo_init 89 = .ok (.putfield 42, 3) := by decide +kernel
theorem d_Mo_init_92 : decode b_Mo_init 92 = .ok (.aload_n 0, 1) := by decide +kernel
theorem d_Mo_init_93 : decode b_Mo_init 93 = .ok (.sipush 256, 3) := by decide +kernel
theorem d_Mo_init_96 : decode b_Mo_init 96 = .ok (.newarray .int, 2) := by decide +kernel
theorem d_Mo_init_98 : decode b_Mo_init 98 = .ok (.putfield 45, 3) := by decide +kernel
theorem d_Mo_init_101 : decode b_Mo_init 101 = .ok (.return_, 1) := by decide +kernel
theorem d_Mo_isFormula_0 : decode b_Mo_isFormula 0 = .ok (.iload_n 1, 1) := by decide +kernel
theorem d_Mo_isFormula_1 : decode b_Mo_isFormula 1 = .ok (.ifCond .lt 15, 3) := by decide +kernel
theorem d_Mo_isFormula_4 : decode b_Mo_isFormula 4 = .ok (.iload_n 1, 1) := by decide +kernel
theorem d_Mo_isFormula_5 : decode b_Mo_isFormula 5 = .ok (.aload_n 0, 1) := by decide +kernel
theorem d_Mo_isFormula_6 : decode b_Mo_isFormula 6 = .ok (.getfield 51, 3) := by decide +kernel
theorem d_Mo_isFormula_9 : decode b_Mo_isFormula 9 = .ok (.if_icmp .ge 7, 3) := by decide +kernel
theorem d_Mo_isFormula_12 : decode b_Mo_isFormula 12 = .ok (.iconst 1, 1) := by decide +kernel
theorem d_Mo_isFormula_13 : decode b_Mo_isFormula 13 = .ok (.goto 4, 3) := by decide +kernel
theorem d_Mo_isFormula_16 : decode b_Mo_isFormula 16 = .ok (.iconst 0, 1) := by decide +kernel
theorem d_Mo_isFormula_17 : decode b_Mo_isFormula 17 = .ok (.ireturn, 1) := by decide +kernel
theorem d_Mo_isState_0 : decode b_Mo_isState 0 = .ok (.iload_n 1, 1) := by decide +kernel
theorem d_Mo_isState_1 : decode b_Mo_isState 1 = .ok (.ifCond .lt 17, 3) := by decide +kernel
theorem d_Mo_isState_4 : decode b_Mo_isState 4 = .ok (.iload_n 1, 1) := by decide +kernel
theorem d_Mo_isState_5 : decode b_Mo_isState 5 = .ok (.iconst 1, 1) := by decide +kernel
theorem d_Mo_isState_6 : decode b_Mo_isState 6 = .ok (.aload_n 0, 1) := by decide +kernel
theorem d_Mo_isState_7 : decode b_Mo_isState 7 = .ok (.getfield 7, 3) := by decide +kernel
theorem d_Mo_isState_10 : decode b_Mo_isState 10 = .ok (.ishl, 1) := by decide +kernel
theorem d_Mo_isState_11 : decode b_Mo_isState 11 = .ok (.if_icmp .ge 7, 3) := by decide +kernel
theorem d_Mo_isState_14 : decode b_Mo_isState 14 = .ok (.iconst 1, 1) := by decide +kernel
theorem d_Mo_isState_15 : decode b_Mo_isState 15 = .ok (.goto 4, 3) := by decide +kernel
theorem d_Mo_isState_18 : decode b_Mo_isState 18 = .ok (.iconst 0, 1) := by decide +kernel
theorem d_Mo_isState_19 : decode b_Mo_isState 19 = .ok (.ireturn, 1) := by decide +kernel
theorem d_Mo_isTest_0 : decode b_Mo_isTest 0 = .ok (.aload_n 0, 1) := by decide +kernel
theorem d_Mo_isTest_1 : decode b_Mo_isTest 1 = .ok (.iload_n 1, 1) := by decide +kernel
theorem d_Mo_isTest_2 : decode b_Mo_isTest 2 = .ok (.invokevirtual 64, 3) := by decide +kernel
theorem d_Mo_isTest_5 : decode b_Mo_isTest 5 = .ok (.ifCond .eq 23, 3) := by decide +kernel
theorem d_Mo_isTest_8 : decode b_Mo_isTest 8 = .ok (.aload_n 0, 1) := by decide +kernel
theorem d_Mo_isTest_9 : decode b_Mo_isTest 9 = .ok (.iload_n 2, 1) := by decide +kernel
theorem d_Mo_isTest_10 : decode b_Mo_isTest 10 = .ok (.invokevirtual 64, 3) := by decide +kernel
theorem d_Mo_isTest_13 : decode b_Mo_isTest 13 = .ok (.ifCond .eq 15, 3) := by decide +kernel
theorem d_Mo_isTest_16 : decode b_Mo_isTest 16 = .ok (.iload_n 2, 1) := by decide +kernel
theorem d_Mo_isTest_17 : decode b_Mo_isTest 17 = .ok (.iload_n 1, 1) := by decide +kernel
theorem d_Mo_isTest_18 : decode b_Mo_isTest 18 = .ok (.iconst (-1), 1) := by decide +kernel
theorem d_Mo_isTest_19 : decode b_Mo_isTest 19 = .ok (.ixor, 1) := by decide +kernel
theorem d_Mo_isTest_20 : decode b_Mo_isTest 20 = .ok (.iand, 1) := by decide +kernel
theorem d_Mo_isTest_21 : decode b_Mo_isTest 21 = .ok (.ifCond .ne 7, 3) := by decide +kernel
theorem d_Mo_isTest_24 : decode b_Mo_isTest 24 = .ok (.iconst 1, 1) := by decide +kernel
theorem d_Mo_isTest_25 : decode b_Mo_isTest 25 = .ok (.goto 4, 3) := by decide +kernel
theorem d_Mo_isTest_28 : decode b_Mo_isTest 28 = .ok (.iconst 0, 1) := by decide +kernel
theorem d_Mo_isTest_29 : decode b_Mo_isTest 29 = .ok (.ireturn, 1) := by decide +kernel
theorem d_Mo_know_0 : decode b_Mo_know 0 = .ok (.aload_n 0, 1) := by decide +kernel
theorem d_Mo_know_1 : decode b_Mo_know 1 = .ok (.getfield 61, 3) := by decide +kernel
theorem d_Mo_know_4 : decode b_Mo_know 4 = .ok (.iload_n 1, 1) := by decide +kernel
theorem d_Mo_know_5 : decode b_Mo_know 5 = .ok (.if_icmp .gt 24, 3) := by decide +kernel
theorem d_Mo_know_8 : decode b_Mo_know 8 = .ok (.aload_n 0, 1) := by decide +kernel
theorem d_Mo_know_9 : decode b_Mo_know 9 = .ok (.aload_n 0, 1) := by decide +kernel
theorem d_Mo_know_10 : decode b_Mo_know 10 = .ok (.getfield 61, 3) := by decide +kernel
theorem d_Mo_know_13 : decode b_Mo_know 13 = .ok (.invokevirtual 101, 3) := by decide +kernel
theorem d_Mo_know_16 : decode b_Mo_know 16 = .ok (.aload_n 0, 1) := by decide +kernel
theorem d_Mo_know_17 : decode b_Mo_know 17 = .ok (.dup, 1) := by decide +kernel
theorem d_Mo_know_18 : decode b_Mo_know 18 = .ok (.getfield 61, 3) := by decide +kernel
theorem d_Mo_know_21 : decode b_Mo_know 21 = .ok (.iconst 1, 1) := by decide +kernel
theorem d_Mo_know_22 : decode b_Mo_know 22 = .ok (.iadd, 1) := by decide +kernel
theorem d_Mo_know_23 : decode b_Mo_know 23 = .ok (.putfield 61, 3) := by decide +kernel
theorem d_Mo_know_26 : decode b_Mo_know 26 = .ok (.goto (-26), 3) := by decide +kernel
theorem d_Mo_know_29 : decode b_Mo_know 29 = .ok (.return_, 1) := by decide +kernel
theorem d_Mo_length_0 : decode b_Mo_length 0 = .ok (.aload_n 0, 1) := by decide +kernel
theorem d_Mo_length_1 : decode b_Mo_length 1 = .ok (.iload_n 1, 1) := by decide +kernel
theorem d_Mo_length_2 : decode b_Mo_length 2 = .ok (.invokevirtual 72, 3) := by decide +kernel
theorem d_Mo_length_5 : decode b_Mo_length 5 = .ok (.ifCond .eq 15, 3) := by decide +kernel
theorem d_Mo_length_8 : decode b_Mo_length 8 = .ok (.aload_n 0, 1) := by decide +kernel
theorem d_Mo_length_9 : decode b_Mo_length 9 = .ok (.iload_n 2, 1) := by decide +kernel
theorem d_Mo_length_10 : decode b_Mo_length 10 = .ok (.invokevirtual 64, 3) := by decide +kernel
theorem d_Mo_length_13 : decode b_Mo_length 13 = .ok (.ifCond .eq 7, 3) := by decide +kernel
theorem d_Mo_length_16 : decode b_Mo_length 16 = .ok (.iconst 1, 1) := by decide +kernel
theorem d_Mo_length_17 : decode b_Mo_length 17 = .ok (.goto 4, 3) := by decide +kernel
theorem d_Mo_length_20 : decode b_Mo_length 20 = .ok (.iconst 0, 1) := by decide +kernel
theorem d_Mo_length_21 : decode b_Mo_length 21 = .ok (.istore_n 3, 1) := by decide +kernel
theorem d_Mo_length_22 : decode b_Mo_length 22 = .ok (.aload_n 0, 1) := by decide +kernel
theorem d_Mo_length_23 : decode b_Mo_length 23 = .ok (.iload_n 3, 1) := by decide +kernel
theorem d_Mo_length_24 : decode b_Mo_length 24 = .ok (.ifCond .ne 7, 3) := by decide +kernel
theorem d_Mo_length_27 : decode b_Mo_length 27 = .ok (.iconst 1, 1) := by decide +kernel
theorem d_Mo_length_28 : decode b_Mo_length 28 = .ok (.goto 4, 3) := by decide +kernel
theorem d_Mo_length_31 : decode b_Mo_length 31 = .ok (.iconst 0, 1) := by decide +kernel
theorem d_Mo_length_32 : decode b_Mo_length 32 = .ok (.iload_n 3, 1) := by decide +kernel
theorem d_Mo_length_33 : decode b_Mo_length 33 = .ok (.ifCond .eq 25, 3) := by decide +kernel
theorem d_Mo_length_36 : decode b_Mo_length 36 = .ok (.aload_n 0, 1) := by decide +kernel
theorem d_Mo_length_37 : decode b_Mo_length 37 = .ok (.getfield 26, 3) := by decide +kernel
theorem d_Mo_length_40 : decode b_Mo_length 40 = .ok (.iload_n 3, 1) := by decide +kernel
theorem d_Mo_length_41 : decode b_Mo_length 41 = .ok (.ifCond .eq 7, 3) := by decide +kernel
theorem d_Mo_length_44 : decode b_Mo_length 44 = .ok (.iload_n 1, 1) := by decide +kernel
theorem d_Mo_length_45 : decode b_Mo_length 45 = .ok (.goto 4, 3) := by decide +kernel
theorem d_Mo_length_48 : decode b_Mo_length 48 = .ok (.iconst 0, 1) := by decide +kernel
theorem d_Mo_length_49 : decode b_Mo_length 49 = .ok (.iaload, 1) := by decide +kernel
theorem d_Mo_length_50 : decode b_Mo_length 50 = .ok (.iconst 5, 1) := by decide +kernel
theorem d_Mo_length_51 : decode b_Mo_length 51 = .ok (.if_icmp .eq 7, 3) := by decide +kernel
theorem d_Mo_length_54 : decode b_Mo_length 54 = .ok (.iconst 1, 1) := by decide +kernel
theorem d_Mo_length_55 : decode b_Mo_length 55 = .ok (.goto 4, 3) := by decide +kernel
theorem d_Mo_length_58 : decode b_Mo_length 58 = .ok (.iconst 0, 1) := by decide +kernel
theorem d_Mo_length_59 : decode b_Mo_length 59 = .ok (.iconst 0, 1) := by decide +kernel
theorem d_Mo_length_60 : decode b_Mo_length 60 = .ok (.invokevirtual 54, 3) := by decide +kernel
theorem d_Mo_length_63 : decode b_Mo_length 63 = .ok (.ifCond .eq 5, 3) := by decide +kernel
theorem d_Mo_length_66 : decode b_Mo_length 66 = .ok (.iconst 0, 1) := by decide +kernel
theorem d_Mo_length_67 : decode b_Mo_length 67 = .ok (.ireturn, 1) := by decide +kernel
theorem d_Mo_length_68 : decode b_Mo_length 68 = .ok (.aload_n 0, 1) := by decide +kernel
theorem d_Mo_length_69 : decode b_Mo_length 69 = .ok (.iload_n 1, 1) := by decide +kernel
theorem d_Mo_length_70 : decode b_Mo_length 70 = .ok (.invokevirtual 107, 3) := by decide +kernel
theorem d_Mo_length_73 : decode b_Mo_length 73 = .ok (.aload_n 0, 1) := by decide +kernel
theorem d_Mo_length_74 : decode b_Mo_length 74 = .ok (.getfield 45, 3) := by decide +kernel
theorem d_Mo_length_77 : decode b_Mo_length 77 = .ok (.iload_n 2, 1) := by decide +kernel
theorem d_Mo_length_78 : decode b_Mo_length 78 = .ok (.iaload, 1) := by decide +kernel
theorem d_Mo_length_79 : decode b_Mo_length 79 = .ok (.sipush 1000, 3) := by decide +kernel
theorem d_Mo_length_82 : decode b_Mo_length 82 = .ok (.if_icmp .ne 7, 3) := by decide +kernel
theorem d_Mo_length_85 : decode b_Mo_length 85 = .ok (.iconst 0, 1) := by decide +kernel
theorem d_Mo_length_86 : decode b_Mo_length 86 = .ok (.goto 9, 3) := by decide +kernel
theorem d_Mo_length_89 : decode b_Mo_length 89 = .ok (.aload_n 0, 1) := by decide +kernel
theorem d_Mo_length_90 : decode b_Mo_length 90 = .ok (.getfield 45, 3) := by decide +kernel
theorem d_Mo_length_93 : decode b_Mo_length 93 = .ok (.iload_n 2, 1) := by decide +kernel
theorem d_Mo_length_94 : decode b_Mo_length 94 = .ok (.iaload, 1) := by decide +kernel
theorem d_Mo_length_95 : decode b_Mo_length 95 = .ok (.ireturn, 1) := by decide +kernel
theorem d_Mo_measure_0 : decode b_Mo_measure 0 = .ok (.aload_n 0, 1) := by decide +kernel
theorem d_Mo_measure_1 : decode b_Mo_measure 1 = .ok (.iload_n 1, 1) := by decide +kernel
theorem d_Mo_measure_2 : decode b_Mo_measure 2 = .ok (.invokevirtual 104, 3) := by decide +kernel
theorem d_Mo_measure_5 : decode b_Mo_measure 5 = .ok (.iconst 1, 1) := by decide +kernel
theorem d_Mo_measure_6 : decode b_Mo_measure 6 = .ok (.aload_n 0, 1) := by decide +kernel
theorem d_Mo_measure_7 : decode b_Mo_measure 7 = .ok (.getfield 7, 3) := by decide +kernel
theorem d_Mo_measure_10 : decode b_Mo_measure 10 = .ok (.ishl, 1) := by decide +kernel
theorem d_Mo_measure_11 : decode b_Mo_measure 11 = .ok (.istore_n 2, 1) := by decide +kernel
theorem d_Mo_measure_12 : decode b_Mo_measure 12 = .ok (.iconst 0, 1) := by decide +kernel
theorem d_Mo_measure_13 : decode b_Mo_measure 13 = .ok (.istore_n 3, 1) := by decide +kernel
theorem d_Mo_measure_14 : decode b_Mo_measure 14 = .ok (.iload_n 3, 1) := by decide +kernel
theorem d_Mo_measure_15 : decode b_Mo_measure 15 = .ok (.iload_n 2, 1) := by decide +kernel
theorem d_Mo_measure_16 : decode b_Mo_measure 16 = .ok (.if_icmp .ge 36, 3) := by decide +kernel
theorem d_Mo_measure_19 : decode b_Mo_measure 19 = .ok (.aload_n 0, 1) := by decide +kernel
theorem d_Mo_measure_20 : decode b_Mo_measure 20 = .ok (.getfield 45, 3) := by decide +kernel
theorem d_Mo_measure_23 : decode b_Mo_measure 23 = .ok (.iload_n 3, 1) := by decide +kernel
theorem d_Mo_measure_24 : decode b_Mo_measure 24 = .ok (.aload_n 0, 1) := by decide +kernel
theorem d_Mo_measure_25 : decode b_Mo_measure 25 = .ok (.aload_n 0, 1) := by decide +kernel
theorem d_Mo_measure_26 : decode b_Mo_measure 26 = .ok (.getfield 32, 3) := by decide +kernel
theorem d_Mo_measure_29 : decode b_Mo_measure 29 = .ok (.iload_n 1, 1) := by decide +kernel
theorem d_Mo_measure_30 : decode b_Mo_measure 30 = .ok (.iaload, 1) := by decide +kernel
theorem d_Mo_measure_31 : decode b_Mo_measure 31 = .ok (.iload_n 3, 1) := by decide +kernel
theorem d_Mo_measure_32 : decode b_Mo_measure 32 = .ok (.invokevirtual 79, 3) := by decide +kernel
theorem d_Mo_measure_35 : decode b_Mo_measure 35 = .ok (.ifCond .eq 7, 3) := by decide +kernel
theorem d_Mo_measure_38 : decode b_Mo_measure 38 = .ok (.iconst 1, 1) := by decide +kernel
theorem d_Mo_measure_39 : decode b_Mo_measure 39 = .ok (.goto 6, 3) := by decide +kernel
theorem d_Mo_measure_42 : decode b_Mo_measure 42 = .ok (.sipush 1000, 3) := by decide +kernel
theorem d_Mo_measure_45 : decode b_Mo_measure 45 = .ok (.iastore, 1) := by decide +kernel
theorem d_Mo_measure_46 : decode b_Mo_measure 46 = .ok (.iinc 3 1, 3) := by decide +kernel
theorem d_Mo_measure_49 : decode b_Mo_measure 49 = .ok (.goto (-35), 3) := by decide +kernel
theorem d_Mo_measure_52 : decode b_Mo_measure 52 = .ok (.iconst 1, 1) := by decide +kernel
theorem d_Mo_measure_53 : decode b_Mo_measure 53 = .ok (.istore_n 3, 1) := by decide +kernel
theorem d_Mo_measure_54 : decode b_Mo_measure 54 = .ok (.iload_n 3, 1) := by decide +kernel
theorem d_Mo_measure_55 : decode b_Mo_measure 55 = .ok (.iload_n 2, 1) := by decide +kernel
theorem d_Mo_measure_56 : decode b_Mo_measure 56 = .ok (.if_icmp .gt 112, 3) := by decide +kernel
theorem d_Mo_measure_59 : decode b_Mo_measure 59 = .ok (.iconst 0, 1) := by decide +kernel
theorem d_Mo_measure_60 : decode b_Mo_measure 60 = .ok (.istore 4, 2) := by decide +kernel
theorem d_Mo_measure_62 : decode b_Mo_measure 62 = .ok (.iload 4, 2) := by decide +kernel
theorem d_Mo_measure_64 : decode b_Mo_measure 64 = .ok (.iload_n 2, 1) := by decide +kernel
theorem d_Mo_measure_65 : decode b_Mo_measure 65 = .ok (.if_icmp .ge 97, 3) := by decide +kernel
theorem d_Mo_measure_68 : decode b_Mo_measure 68 = .ok (.iconst 0, 1) := by decide +kernel
theorem d_Mo_measure_69 : decode b_Mo_measure 69 = .ok (.istore 5, 2) := by decide +kernel
theorem d_Mo_measure_71 : decode b_Mo_measure 71 = .ok (.iload 5, 2) := by decide +kernel
theorem d_Mo_measure_73 : decode b_Mo_measure 73 = .ok (.aload_n 0, 1) := by decide +kernel
theorem d_Mo_measure_74 : decode b_Mo_measure 74 = .ok (.getfield 58, 3) := by decide +kernel
theorem d_Mo_measure_77 : decode b_Mo_measure 77 = .ok (.if_icmp .ge 79, 3) := by decide +kernel
theorem d_Mo_measure_80 : decode b_Mo_measure 80 = .ok (.aload_n 0, 1) := by decide +kernel
theorem d_Mo_measure_81 : decode b_Mo_measure 81 = .ok (.getfield 45, 3) := by decide +kernel
theorem d_Mo_measure_84 : decode b_Mo_measure 84 = .ok (.iload 4, 2) := by decide +kernel
theorem d_Mo_measure_86 : decode b_Mo_measure 86 = .ok (.iaload, 1) := by decide +kernel
theorem d_Mo_measure_87 : decode b_Mo_measure 87 = .ok (.sipush 1000, 3) := by decide +kernel
theorem d_Mo_measure_90 : decode b_Mo_measure 90 = .ok (.if_icmp .ne 66, 3) := by decide +kernel
theorem d_Mo_measure_93 : decode b_Mo_measure 93 = .ok (.aload_n 0, 1) := by decide +kernel
theorem d_Mo_measure_94 : decode b_Mo_measure 94 = .ok (.aload_n 0, 1) := by decide +kernel
theorem d_Mo_measure_95 : decode b_Mo_measure 95 = .ok (.getfield 29, 3) := by decide +kernel
theorem d_Mo_measure_98 : decode b_Mo_measure 98 = .ok (.iload_n 1, 1) := by decide +kernel
theorem d_Mo_measure_99 : decode b_Mo_measure 99 = .ok (.iaload, 1) := by decide +kernel
theorem d_Mo_measure_100 : decode b_Mo_measure 100 = .ok (.iload 4, 2) := by decide +kernel
theorem d_Mo_measure_102 : decode b_Mo_measure 102 = .ok (.invokevirtual 79, 3) := by decide +kernel
theorem d_Mo_measure_105 : decode b_Mo_measure 105 = .ok (.ifCond .eq 51, 3) := by decide +kernel
theorem d_Mo_measure_108 : decode b_Mo_measure 108 = .ok (.aload_n 0, 1) := by decide +kernel
theorem d_Mo_measure_109 : decode b_Mo_measure 109 = .ok (.iload 4, 2) := by decide +kernel
theorem d_Mo_measure_111 : decode b_Mo_measure 111 = .ok (.iload 5, 2) := by decide +kernel
theorem d_Mo_measure_113 : decode b_Mo_measure 113 = .ok (.invokevirtual 75, 3) := by decide +kernel
theorem d_Mo_measure_116 : decode b_Mo_measure 116 = .ok (.istore 6, 2) := by decide +kernel
theorem d_Mo_measure_118 : decode b_Mo_measure 118 = .ok (.aload_n 0, 1) := by decide +kernel
theorem d_Mo_measure_119 : decode b_Mo_measure 119 = .ok (.getfield 45, 3) := by decide +kernel
theorem d_Mo_measure_122 : decode b_Mo_measure 122 = .ok (.iload 4, 2) := by decide +kernel
theorem d_Mo_measure_124 : decode b_Mo_measure 124 = .ok (.iload 6, 2) := by decide +kernel
end
section
theorem d_Mo_measure_126 : decode b_Mo_measure 126 = .ok (.ifCond .lt 20, 3) := by decide +kernel
theorem d_Mo_measure_129 : decode b_Mo_measure 129 = .ok (.aload_n 0, 1) := by decide +kernel
theorem d_Mo_measure_130 : decode b_Mo_measure 130 = .ok (.getfield 45, 3) := by decide +kernel
theorem d_Mo_measure_133 : decode b_Mo_measure 133 = .ok (.iload 6, 2) := by decide +kernel
theorem d_Mo_measure_135 : decode b_Mo_measure 135 = .ok (.iaload, 1) := by decide +kernel
theorem d_Mo_measure_136 : decode b_Mo_measure 136 = .ok (.iload_n 3, 1) := by decide +kernel
theorem d_Mo_measure_137 : decode b_Mo_measure 137 = .ok (.if_icmp .ne 9, 3) := by decide +kernel
theorem d_Mo_measure_140 : decode b_Mo_measure 140 = .ok (.iload_n 3, 1) := by decide +kernel
theorem d_Mo_measure_141 : decode b_Mo_measure 141 = .ok (.iconst 1, 1) := by decide +kernel
theorem d_Mo_measure_142 : decode b_Mo_measure 142 = .ok (.iadd, 1) := by decide +kernel
theorem d_Mo_measure_143 : decode b_Mo_measure 143 = .ok (.goto 6, 3) := by decide +kernel
theorem d_Mo_measure_146 : decode b_Mo_measure 146 = .ok (.sipush 1000, 3) := by decide +kernel
theorem d_Mo_measure_149 : decode b_Mo_measure 149 = .ok (.iastore, 1) := by decide +kernel
theorem d_Mo_measure_150 : decode b_Mo_measure 150 = .ok (.iinc 5 1, 3) := by decide +kernel
theorem d_Mo_measure_153 : decode b_Mo_measure 153 = .ok (.goto (-82), 3) := by decide +kernel
theorem d_Mo_measure_156 : decode b_Mo_measure 156 = .ok (.iinc 4 1, 3) := by decide +kernel
theorem d_Mo_measure_159 : decode b_Mo_measure 159 = .ok (.goto (-97), 3) := by decide +kernel
theorem d_Mo_measure_162 : decode b_Mo_measure 162 = .ok (.iinc 3 1, 3) := by decide +kernel
theorem d_Mo_measure_165 : decode b_Mo_measure 165 = .ok (.goto (-111), 3) := by decide +kernel
theorem d_Mo_measure_168 : decode b_Mo_measure 168 = .ok (.return_, 1) := by decide +kernel
theorem d_Mo_refuse_0 : decode b_Mo_refuse 0 = .ok (.aload_n 0, 1) := by decide +kernel
theorem d_Mo_refuse_1 : decode b_Mo_refuse 1 = .ok (.iload_n 1, 1) := by decide +kernel
theorem d_Mo_refuse_2 : decode b_Mo_refuse 2 = .ok (.ifCond .eq 7, 3) := by decide +kernel
theorem d_Mo_refuse_5 : decode b_Mo_refuse 5 = .ok (.iconst 1, 1) := by decide +kernel
theorem d_Mo_refuse_6 : decode b_Mo_refuse 6 = .ok (.goto 20, 3) := by decide +kernel
theorem d_Mo_refuse_9 : decode b_Mo_refuse 9 = .ok (.iload_n 2, 1) := by decide +kernel
theorem d_Mo_refuse_10 : decode b_Mo_refuse 10 = .ok (.ifCond .eq 7, 3) := by decide +kernel
theorem d_Mo_refuse_13 : decode b_Mo_refuse 13 = .ok (.iconst 2, 1) := by decide +kernel
theorem d_Mo_refuse_14 : decode b_Mo_refuse 14 = .ok (.goto 12, 3) := by decide +kernel
theorem d_Mo_refuse_17 : decode b_Mo_refuse 17 = .ok (.iload_n 3, 1) := by decide +kernel
theorem d_Mo_refuse_18 : decode b_Mo_refuse 18 = .ok (.ifCond .eq 7, 3) := by decide +kernel
theorem d_Mo_refuse_21 : decode b_Mo_refuse 21 = .ok (.iconst 3, 1) := by decide +kernel
theorem d_Mo_refuse_22 : decode b_Mo_refuse 22 = .ok (.goto 4, 3) := by decide +kernel
theorem d_Mo_refuse_25 : decode b_Mo_refuse 25 = .ok (.iconst 0, 1) := by decide +kernel
theorem d_Mo_refuse_26 : decode b_Mo_refuse 26 = .ok (.putfield 48, 3) := by decide +kernel
theorem d_Mo_refuse_29 : decode b_Mo_refuse 29 = .ok (.aload_n 0, 1) := by decide +kernel
theorem d_Mo_refuse_30 : decode b_Mo_refuse 30 = .ok (.getfield 48, 3) := by decide +kernel
theorem d_Mo_refuse_33 : decode b_Mo_refuse 33 = .ok (.ifCond .le 7, 3) := by decide +kernel
theorem d_Mo_refuse_36 : decode b_Mo_refuse 36 = .ok (.iconst 1, 1) := by decide +kernel
theorem d_Mo_refuse_37 : decode b_Mo_refuse 37 = .ok (.goto 4, 3) := by decide +kernel
theorem d_Mo_refuse_40 : decode b_Mo_refuse 40 = .ok (.iconst 0, 1) := by decide +kernel
theorem d_Mo_refuse_41 : decode b_Mo_refuse 41 = .ok (.ireturn, 1) := by decide +kernel
theorem d_Mo_rule_0 : decode b_Mo_rule 0 = .ok (.aload_n 0, 1) := by decide +kernel
theorem d_Mo_rule_1 : decode b_Mo_rule 1 = .ok (.iload_n 1, 1) := by decide +kernel
theorem d_Mo_rule_2 : decode b_Mo_rule 2 = .ok (.iload_n 2, 1) := by decide +kernel
theorem d_Mo_rule_3 : decode b_Mo_rule 3 = .ok (.invokevirtual 68, 3) := by decide +kernel
theorem d_Mo_rule_6 : decode b_Mo_rule 6 = .ok (.ifCond .eq 24, 3) := by decide +kernel
theorem d_Mo_rule_9 : decode b_Mo_rule 9 = .ok (.aload_n 0, 1) := by decide +kernel
theorem d_Mo_rule_10 : decode b_Mo_rule 10 = .ok (.iload_n 3, 1) := by decide +kernel
theorem d_Mo_rule_11 : decode b_Mo_rule 11 = .ok (.invokevirtual 64, 3) := by decide +kernel
theorem d_Mo_rule_14 : decode b_Mo_rule 14 = .ok (.ifCond .eq 16, 3) := by decide +kernel
theorem d_Mo_rule_17 : decode b_Mo_rule 17 = .ok (.aload_n 0, 1) := by decide +kernel
theorem d_Mo_rule_18 : decode b_Mo_rule 18 = .ok (.iload 4, 2) := by decide +kernel
theorem d_Mo_rule_20 : decode b_Mo_rule 20 = .ok (.invokevirtual 64, 3) := by decide +kernel
theorem d_Mo_rule_23 : decode b_Mo_rule 23 = .ok (.ifCond .eq 7, 3) := by decide +kernel
theorem d_Mo_rule_26 : decode b_Mo_rule 26 = .ok (.iconst 1, 1) := by decide +kernel
theorem d_Mo_rule_27 : decode b_Mo_rule 27 = .ok (.goto 4, 3) := by decide +kernel
theorem d_Mo_rule_30 : decode b_Mo_rule 30 = .ok (.iconst 0, 1) := by decide +kernel
theorem d_Mo_rule_31 : decode b_Mo_rule 31 = .ok (.istore 5, 2) := by decide +kernel
theorem d_Mo_rule_33 : decode b_Mo_rule 33 = .ok (.aload_n 0, 1) := by decide +kernel
theorem d_Mo_rule_34 : decode b_Mo_rule 34 = .ok (.iload 5, 2) := by decide +kernel
theorem d_Mo_rule_36 : decode b_Mo_rule 36 = .ok (.ifCond .ne 7, 3) := by decide +kernel
theorem d_Mo_rule_39 : decode b_Mo_rule 39 = .ok (.iconst 1, 1) := by decide +kernel
theorem d_Mo_rule_40 : decode b_Mo_rule 40 = .ok (.goto 4, 3) := by decide +kernel
theorem d_Mo_rule_43 : decode b_Mo_rule 43 = .ok (.iconst 0, 1) := by decide +kernel
theorem d_Mo_rule_44 : decode b_Mo_rule 44 = .ok (.iload 5, 2) := by decide +kernel
theorem d_Mo_rule_46 : decode b_Mo_rule 46 = .ok (.ifCond .eq 16, 3) := by decide +kernel
theorem d_Mo_rule_49 : decode b_Mo_rule 49 = .ok (.aload_n 0, 1) := by decide +kernel
theorem d_Mo_rule_50 : decode b_Mo_rule 50 = .ok (.getfield 58, 3) := by decide +kernel
theorem d_Mo_rule_53 : decode b_Mo_rule 53 = .ok (.bipush 40, 2) := by decide +kernel
theorem d_Mo_rule_55 : decode b_Mo_rule 55 = .ok (.if_icmp .ne 7, 3) := by decide +kernel
theorem d_Mo_rule_58 : decode b_Mo_rule 58 = .ok (.iconst 1, 1) := by decide +kernel
theorem d_Mo_rule_59 : decode b_Mo_rule 59 = .ok (.goto 4, 3) := by decide +kernel
theorem d_Mo_rule_62 : decode b_Mo_rule 62 = .ok (.iconst 0, 1) := by decide +kernel
theorem d_Mo_rule_63 : decode b_Mo_rule 63 = .ok (.iconst 0, 1) := by decide +kernel
theorem d_Mo_rule_64 : decode b_Mo_rule 64 = .ok (.invokevirtual 54, 3) := by decide +kernel
theorem d_Mo_rule_67 : decode b_Mo_rule 67 = .ok (.ifCond .eq 5, 3) := by decide +kernel
theorem d_Mo_rule_70 : decode b_Mo_rule 70 = .ok (.iconst 0, 1) := by decide +kernel
theorem d_Mo_rule_71 : decode b_Mo_rule 71 = .ok (.ireturn, 1) := by decide +kernel
theorem d_Mo_rule_72 : decode b_Mo_rule 72 = .ok (.aload_n 0, 1) := by decide +kernel
theorem d_Mo_rule_73 : decode b_Mo_rule 73 = .ok (.getfield 13, 3) := by decide +kernel
theorem d_Mo_rule_76 : decode b_Mo_rule 76 = .ok (.aload_n 0, 1) := by decide +kernel
theorem d_Mo_rule_77 : decode b_Mo_rule 77 = .ok (.getfield 58, 3) := by decide +kernel
theorem d_Mo_rule_80 : decode b_Mo_rule 80 = .ok (.iload_n 1, 1) := by decide +kernel
theorem d_Mo_rule_81 : decode b_Mo_rule 81 = .ok (.iastore, 1) := by decide +kernel
theorem d_Mo_rule_82 : decode b_Mo_rule 82 = .ok (.aload_n 0, 1) := by decide +kernel
theorem d_Mo_rule_83 : decode b_Mo_rule 83 = .ok (.getfield 17, 3) := by decide +kernel
theorem d_Mo_rule_86 : decode b_Mo_rule 86 = .ok (.aload_n 0, 1) := by decide +kernel
theorem d_Mo_rule_87 : decode b_Mo_rule 87 = .ok (.getfield 58, 3) := by decide +kernel
theorem d_Mo_rule_90 : decode b_Mo_rule 90 = .ok (.iload_n 2, 1) := by decide +kernel
theorem d_Mo_rule_91 : decode b_Mo_rule 91 = .ok (.iastore, 1) := by decide +kernel
theorem d_Mo_rule_92 : decode b_Mo_rule 92 = .ok (.aload_n 0, 1) := by decide +kernel
theorem d_Mo_rule_93 : decode b_Mo_rule 93 = .ok (.getfield 20, 3) := by decide +kernel
theorem d_Mo_rule_96 : decode b_Mo_rule 96 = .ok (.aload_n 0, 1) := by decide +kernel
theorem d_Mo_rule_97 : decode b_Mo_rule 97 = .ok (.getfield 58, 3) := by decide +kernel
theorem d_Mo_rule_100 : decode b_Mo_rule 100 = .ok (.iload_n 3, 1) := by decide +kernel
theorem d_Mo_rule_101 : decode b_Mo_rule 101 = .ok (.iastore, 1) := by decide +kernel
theorem d_Mo_rule_102 : decode b_Mo_rule 102 = .ok (.aload_n 0, 1) := by decide +kernel
theorem d_Mo_rule_103 : decode b_Mo_rule 103 = .ok (.getfield 23, 3) := by decide +kernel
theorem d_Mo_rule_106 : decode b_Mo_rule 106 = .ok (.aload_n 0, 1) := by decide +kernel
theorem d_Mo_rule_107 : decode b_Mo_rule 107 = .ok (.getfield 58, 3) := by decide +kernel
theorem d_Mo_rule_110 : decode b_Mo_rule 110 = .ok (.iload 4, 2) := by decide +kernel
theorem d_Mo_rule_112 : decode b_Mo_rule 112 = .ok (.iastore, 1) := by decide +kernel
theorem d_Mo_rule_113 : decode b_Mo_rule 113 = .ok (.aload_n 0, 1) := by decide +kernel
theorem d_Mo_rule_114 : decode b_Mo_rule 114 = .ok (.dup, 1) := by decide +kernel
theorem d_Mo_rule_115 : decode b_Mo_rule 115 = .ok (.getfield 58, 3) := by decide +kernel
theorem d_Mo_rule_118 : decode b_Mo_rule 118 = .ok (.iconst 1, 1) := by decide +kernel
theorem d_Mo_rule_119 : decode b_Mo_rule 119 = .ok (.iadd, 1) := by decide +kernel
theorem d_Mo_rule_120 : decode b_Mo_rule 120 = .ok (.putfield 58, 3) := by decide +kernel
theorem d_Mo_rule_123 : decode b_Mo_rule 123 = .ok (.aload_n 0, 1) := by decide +kernel
theorem d_Mo_rule_124 : decode b_Mo_rule 124 = .ok (.iconst 0, 1) := by decide +kernel
theorem d_Mo_rule_125 : decode b_Mo_rule 125 = .ok (.putfield 61, 3) := by decide +kernel
theorem d_Mo_rule_128 : decode b_Mo_rule 128 = .ok (.aload_n 0, 1) := by decide +kernel
theorem d_Mo_rule_129 : decode b_Mo_rule 129 = .ok (.getfield 58, 3) := by decide +kernel
theorem d_Mo_rule_132 : decode b_Mo_rule 132 = .ok (.iconst 1, 1) := by decide +kernel
theorem d_Mo_rule_133 : decode b_Mo_rule 133 = .ok (.isub, 1) := by decide +kernel
theorem d_Mo_rule_134 : decode b_Mo_rule 134 = .ok (.ireturn, 1) := by decide +kernel
theorem d_Mo_simple_0 : decode b_Mo_simple 0 = .ok (.aload_n 0, 1) := by decide +kernel
theorem d_Mo_simple_1 : decode b_Mo_simple 1 = .ok (.getfield 29, 3) := by decide +kernel
theorem d_Mo_simple_4 : decode b_Mo_simple 4 = .ok (.iload_n 1, 1) := by decide +kernel
theorem d_Mo_simple_5 : decode b_Mo_simple 5 = .ok (.iaload, 1) := by decide +kernel
theorem d_Mo_simple_6 : decode b_Mo_simple 6 = .ok (.istore_n 3, 1) := by decide +kernel
theorem d_Mo_simple_7 : decode b_Mo_simple 7 = .ok (.aload_n 0, 1) := by decide +kernel
theorem d_Mo_simple_8 : decode b_Mo_simple 8 = .ok (.getfield 32, 3) := by decide +kernel
theorem d_Mo_simple_11 : decode b_Mo_simple 11 = .ok (.iload_n 1, 1) := by decide +kernel
theorem d_Mo_simple_12 : decode b_Mo_simple 12 = .ok (.iaload, 1) := by decide +kernel
theorem d_Mo_simple_13 : decode b_Mo_simple 13 = .ok (.istore 4, 2) := by decide +kernel
theorem d_Mo_simple_15 : decode b_Mo_simple 15 = .ok (.aload_n 0, 1) := by decide +kernel
theorem d_Mo_simple_16 : decode b_Mo_simple 16 = .ok (.getfield 26, 3) := by decide +kernel
theorem d_Mo_simple_19 : decode b_Mo_simple 19 = .ok (.iload_n 1, 1) := by decide +kernel
theorem d_Mo_simple_20 : decode b_Mo_simple 20 = .ok (.iaload, 1) := by decide +kernel
theorem d_Mo_simple_21 : decode b_Mo_simple 21 = .ok (.tableswitch 110 0 3 #[31, 45, 60, 85], 31) := by decide +kernel
theorem d_Mo_simple_52 : decode b_Mo_simple 52 = .ok (.iload_n 2, 1) := by decide +kernel
theorem d_Mo_simple_53 : decode b_Mo_simple 53 = .ok (.iload_n 3, 1) := by decide +kernel
theorem d_Mo_simple_54 : decode b_Mo_simple 54 = .ok (.iand, 1) := by decide +kernel
theorem d_Mo_simple_55 : decode b_Mo_simple 55 = .ok (.iload 4, 2) := by decide +kernel
theorem d_Mo_simple_57 : decode b_Mo_simple 57 = .ok (.if_icmp .ne 7, 3) := by decide +kernel
theorem d_Mo_simple_60 : decode b_Mo_simple 60 = .ok (.iconst 1, 1) := by decide +kernel
theorem d_Mo_simple_61 : decode b_Mo_simple 61 = .ok (.goto 4, 3) := by decide +kernel
theorem d_Mo_simple_64 : decode b_Mo_simple 64 = .ok (.iconst 0, 1) := by decide +kernel
theorem d_Mo_simple_65 : decode b_Mo_simple 65 = .ok (.ireturn, 1) := by decide +kernel
theorem d_Mo_simple_66 : decode b_Mo_simple 66 = .ok (.aload_n 0, 1) := by decide +kernel
theorem d_Mo_simple_67 : decode b_Mo_simple 67 = .ok (.iload_n 3, 1) := by decide +kernel
theorem d_Mo_simple_68 : decode b_Mo_simple 68 = .ok (.iload_n 2, 1) := by decide +kernel
theorem d_Mo_simple_69 : decode b_Mo_simple 69 = .ok (.invokevirtual 79, 3) := by decide +kernel
theorem d_Mo_simple_72 : decode b_Mo_simple 72 = .ok (.ifCond .ne 7, 3) := by decide +kernel
theorem d_Mo_simple_75 : decode b_Mo_simple 75 = .ok (.iconst 1, 1) := by decide +kernel
theorem d_Mo_simple_76 : decode b_Mo_simple 76 = .ok (.goto 4, 3) := by decide +kernel
theorem d_Mo_simple_79 : decode b_Mo_simple 79 = .ok (.iconst 0, 1) := by decide +kernel
theorem d_Mo_simple_80 : decode b_Mo_simple 80 = .ok (.ireturn, 1) := by decide +kernel
theorem d_Mo_simple_81 : decode b_Mo_simple 81 = .ok (.aload_n 0, 1) := by decide +kernel
theorem d_Mo_simple_82 : decode b_Mo_simple 82 = .ok (.iload_n 3, 1) := by decide +kernel
theorem d_Mo_simple_83 : decode b_Mo_simple 83 = .ok (.iload_n 2, 1) := by decide +kernel
theorem d_Mo_simple_84 : decode b_Mo_simple 84 = .ok (.invokevirtual 79, 3) := by decide +kernel
theorem d_Mo_simple_87 : decode b_Mo_simple 87 = .ok (.ifCond .eq 17, 3) := by decide +kernel
theorem d_Mo_simple_90 : decode b_Mo_simple 90 = .ok (.aload_n 0, 1) := by decide +kernel
theorem d_Mo_simple_91 : decode b_Mo_simple 91 = .ok (.iload 4, 2) := by decide +kernel
theorem d_Mo_simple_93 : decode b_Mo_simple 93 = .ok (.iload_n 2, 1) := by decide +kernel
theorem d_Mo_simple_94 : decode b_Mo_simple 94 = .ok (.invokevirtual 79, 3) := by decide +kernel
theorem d_Mo_simple_97 : decode b_Mo_simple 97 = .ok (.ifCond .eq 7, 3) := by decide +kernel
theorem d_Mo_simple_100 : decode b_Mo_simple 100 = .ok (.iconst 1, 1) := by decide +kernel
theorem d_Mo_simple_101 : decode b_Mo_simple 101 = .ok (.goto 4, 3) := by decide +kernel
theorem d_Mo_simple_104 : decode b_Mo_simple 104 = .ok (.iconst 0, 1) := by decide +kernel
theorem d_Mo_simple_105 : decode b_Mo_simple 105 = .ok (.ireturn, 1) := by decide +kernel
theorem d_Mo_simple_106 : decode b_Mo_simple 106 = .ok (.aload_n 0, 1) := by decide +kernel
theorem d_Mo_simple_107 : decode b_Mo_simple 107 = .ok (.iload_n 3, 1) := by decide +kernel
theorem d_Mo_simple_108 : decode b_Mo_simple 108 = .ok (.iload_n 2, 1) := by decide +kernel
theorem d_Mo_simple_109 : decode b_Mo_simple 109 = .ok (.invokevirtual 79, 3) := by decide +kernel
theorem d_Mo_simple_112 : decode b_Mo_simple 112 = .ok (.ifCond .ne 13, 3) := by decide +kernel
theorem d_Mo_simple_115 : decode b_Mo_simple 115 = .ok (.aload_n 0, 1) := by decide +kernel
theorem d_Mo_simple_116 : decode b_Mo_simple 116 = .ok (.iload 4, 2) := by decide +kernel
theorem d_Mo_simple_118 : decode b_Mo_simple 118 = .ok (.iload_n 2, 1) := by decide +kernel
theorem d_Mo_simple_119 : decode b_Mo_simple 119 = .ok (.invokevirtual 79, 3) := by decide +kernel
theorem d_Mo_simple_122 : decode b_Mo_simple 122 = .ok (.ifCond .eq 7, 3) := by decide +kernel
theorem d_Mo_simple_125 : decode b_Mo_simple 125 = .ok (.iconst 1, 1) := by decide +kernel
theorem d_Mo_simple_126 : decode b_Mo_simple 126 = .ok (.goto 4, 3) := by decide +kernel
theorem d_Mo_simple_129 : decode b_Mo_simple 129 = .ok (.iconst 0, 1) := by decide +kernel
theorem d_Mo_simple_130 : decode b_Mo_simple 130 = .ok (.ireturn, 1) := by decide +kernel
theorem d_Mo_simple_131 : decode b_Mo_simple 131 = .ok (.aload_n 0, 1) := by decide +kernel
theorem d_Mo_simple_132 : decode b_Mo_simple 132 = .ok (.iload_n 2, 1) := by decide +kernel
theorem d_Mo_simple_133 : decode b_Mo_simple 133 = .ok (.aload_n 0, 1) := by decide +kernel
theorem d_Mo_simple_134 : decode b_Mo_simple 134 = .ok (.getfield 35, 3) := by decide +kernel
theorem d_Mo_simple_137 : decode b_Mo_simple 137 = .ok (.sipush 256, 3) := by decide +kernel
theorem d_Mo_simple_140 : decode b_Mo_simple 140 = .ok (.iload_n 3, 1) := by decide +kernel
theorem d_Mo_simple_141 : decode b_Mo_simple 141 = .ok (.imul, 1) := by decide +kernel
theorem d_Mo_simple_142 : decode b_Mo_simple 142 = .ok (.invokevirtual 82, 3) := by decide +kernel
theorem d_Mo_simple_145 : decode b_Mo_simple 145 = .ok (.ireturn, 1) := by decide +kernel
theorem d_Mo_thrown_0 : decode b_Mo_thrown 0 = .ok (.aload_n 0, 1) := by decide +kernel
theorem d_Mo_thrown_1 : decode b_Mo_thrown 1 = .ok (.getfield 48, 3) := by decide +kernel
theorem d_Mo_thrown_4 : decode b_Mo_thrown 4 = .ok (.ireturn, 1) := by decide +kernel
theorem d_Mo_until_0 : decode b_Mo_until 0 = .ok (.iconst 1, 1) := by decide +kernel
theorem d_Mo_until_1 : decode b_Mo_until 1 = .ok (.aload_n 0, 1) := by decide +kernel
theorem d_Mo_until_2 : decode b_Mo_until 2 = .ok (.getfield 7, 3) := by decide +kernel
theorem d_Mo_until_5 : decode b_Mo_until 5 = .ok (.ishl, 1) := by decide +kernel
theorem d_Mo_until_6 : decode b_Mo_until 6 = .ok (.istore_n 2, 1) := by decide +kernel
theorem d_Mo_until_7 : decode b_Mo_until 7 = .ok (.iconst 0, 1) := by decide +kernel
theorem d_Mo_until_8 : decode b_Mo_until 8 = .ok (.istore_n 3, 1) := by decide +kernel
theorem d_Mo_until_9 : decode b_Mo_until 9 = .ok (.iload_n 3, 1) := by decide +kernel
theorem d_Mo_until_10 : decode b_Mo_until 10 = .ok (.iload_n 2, 1) := by decide +kernel
theorem d_Mo_until_11 : decode b_Mo_until 11 = .ok (.if_icmp .ge 21, 3) := by decide +kernel
theorem d_Mo_until_14 : decode b_Mo_until 14 = .ok (.aload_n 0, 1) := by decide +kernel
theorem d_Mo_until_15 : decode b_Mo_until 15 = .ok (.getfield 39, 3) := by decide +kernel
theorem d_Mo_until_18 : decode b_Mo_until 18 = .ok (.iload_n 3, 1) := by decide +kernel
theorem d_Mo_until_19 : decode b_Mo_until 19 = .ok (.aload_n 0, 1) := by decide +kernel
theorem d_Mo_until_20 : decode b_Mo_until 20 = .ok (.getfield 42, 3) := by decide +kernel
theorem d_Mo_until_23 : decode b_Mo_until 23 = .ok (.iload_n 3, 1) := by decide +kernel
theorem d_Mo_until_24 : decode b_Mo_until 24 = .ok (.baload, 1) := by decide +kernel
theorem d_Mo_until_25 : decode b_Mo_until 25 = .ok (.bastore, 1) := by decide +kernel
theorem d_Mo_until_26 : decode b_Mo_until 26 = .ok (.iinc 3 1, 3) := by decide +kernel
theorem d_Mo_until_29 : decode b_Mo_until 29 = .ok (.goto (-20), 3) := by decide +kernel
theorem d_Mo_until_32 : decode b_Mo_until 32 = .ok (.iconst 1, 1) := by decide +kernel
theorem d_Mo_until_33 : decode b_Mo_until 33 = .ok (.istore_n 3, 1) := by decide +kernel
theorem d_Mo_until_34 : decode b_Mo_until 34 = .ok (.iload_n 3, 1) := by decide +kernel
theorem d_Mo_until_35 : decode b_Mo_until 35 = .ok (.ifCond .eq 67, 3) := by decide +kernel
theorem d_Mo_until_38 : decode b_Mo_until 38 = .ok (.iconst 0, 1) := by decide +kernel
theorem d_Mo_until_39 : decode b_Mo_until 39 = .ok (.istore_n 3, 1) := by decide +kernel
theorem d_Mo_until_40 : decode b_Mo_until 40 = .ok (.iconst 0, 1) := by decide +kernel
theorem d_Mo_until_41 : decode b_Mo_until 41 = .ok (.istore 4, 2) := by decide +kernel
theorem d_Mo_until_43 : decode b_Mo_until 43 = .ok (.iload 4, 2) := by decide +kernel
theorem d_Mo_until_45 : decode b_Mo_until 45 = .ok (.iload_n 2, 1) := by decide +kernel
theorem d_Mo_until_46 : decode b_Mo_until 46 = .ok (.if_icmp .ge 53, 3) := by decide +kernel
theorem d_Mo_until_49 : decode b_Mo_until 49 = .ok (.aload_n 0, 1) := by decide +kernel
theorem d_Mo_until_50 : decode b_Mo_until 50 = .ok (.getfield 39, 3) := by decide +kernel
theorem d_Mo_until_53 : decode b_Mo_until 53 = .ok (.iload 4, 2) := by decide +kernel
theorem d_Mo_until_55 : decode b_Mo_until 55 = .ok (.baload, 1) := by decide +kernel
theorem d_Mo_until_56 : decode b_Mo_until 56 = .ok (.ifCond .ne 37, 3) := by decide +kernel
theorem d_Mo_until_59 : decode b_Mo_until 59 = .ok (.aload_n 0, 1) := by decide +kernel
theorem d_Mo_until_60 : decode b_Mo_until 60 = .ok (.iload_n 1, 1) := by decide +kernel
theorem d_Mo_until_61 : decode b_Mo_until 61 = .ok (.iload 4, 2) := by decide +kernel
theorem d_Mo_until_63 : decode b_Mo_until 63 = .ok (.invokevirtual 79, 3) := by decide +kernel
theorem d_Mo_until_66 : decode b_Mo_until 66 = .ok (.ifCond .eq 27, 3) := by decide +kernel
theorem d_Mo_until_69 : decode b_Mo_until 69 = .ok (.aload_n 0, 1) := by decide +kernel
theorem d_Mo_until_70 : decode b_Mo_until 70 = .ok (.iload 4, 2) := by decide +kernel
theorem d_Mo_until_72 : decode b_Mo_until 72 = .ok (.aload_n 0, 1) := by decide +kernel
theorem d_Mo_until_73 : decode b_Mo_until 73 = .ok (.getfield 39, 3) := by decide +kernel
theorem d_Mo_until_76 : decode b_Mo_until 76 = .ok (.iconst 0, 1) := by decide +kernel
theorem d_Mo_until_77 : decode b_Mo_until 77 = .ok (.invokevirtual 82, 3) := by decide +kernel
theorem d_Mo_until_80 : decode b_Mo_until 80 = .ok (.ifCond .eq 13, 3) := by decide +kernel
theorem d_Mo_until_83 : decode b_Mo_until 83 = .ok (.aload_n 0, 1) := by decide +kernel
theorem d_Mo_until_84 : decode b_Mo_until 84 = .ok (.getfield 39, 3) := by decide +kernel
theorem d_Mo_until_87 : decode b_Mo_until 87 = .ok (.iload 4, 2) := by decide +kernel
theorem d_Mo_until_89 : decode b_Mo_until 89 = .ok (.iconst 1, 1) := by decide +kernel
theorem d_Mo_until_90 : decode b_Mo_until 90 = .ok (.bastore, 1) := by decide +kernel
theorem d_Mo_until_91 : decode b_Mo_until 91 = .ok (.iconst 1, 1) := by decide +kernel
theorem d_Mo_until_92 : decode b_Mo_until 92 = .ok (.istore_n 3, 1) := by decide +kernel
theorem d_Mo_until_93 : decode b_Mo_until 93 = .ok (.iinc 4 1, 3) := by decide +kernel
theorem d_Mo_until_96 : decode b_Mo_until 96 = .ok (.goto (-53), 3) := by decide +kernel
theorem d_Mo_until_99 : decode b_Mo_until 99 = .ok (.goto (-65), 3) := by decide +kernel
theorem d_Mo_until_102 : decode b_Mo_until 102 = .ok (.return_, 1) := by decide +kernel
theorem d_Mo_ways_0 : decode b_Mo_ways 0 = .ok (.aload_n 0, 1) := by decide +kernel
theorem d_Mo_ways_1 : decode b_Mo_ways 1 = .ok (.aload_n 0, 1) := by decide +kernel
theorem d_Mo_ways_2 : decode b_Mo_ways 2 = .ok (.iload_n 1, 1) := by decide +kernel
theorem d_Mo_ways_3 : decode b_Mo_ways 3 = .ok (.invokevirtual 64, 3) := by decide +kernel
theorem d_Mo_ways_6 : decode b_Mo_ways 6 = .ok (.ifCond .ne 7, 3) := by decide +kernel
theorem d_Mo_ways_9 : decode b_Mo_ways 9 = .ok (.iconst 1, 1) := by decide +kernel
theorem d_Mo_ways_10 : decode b_Mo_ways 10 = .ok (.goto 4, 3) := by decide +kernel
theorem d_Mo_ways_13 : decode b_Mo_ways 13 = .ok (.iconst 0, 1) := by decide +kernel
theorem d_Mo_ways_14 : decode b_Mo_ways 14 = .ok (.iconst 0, 1) := by decide +kernel
theorem d_Mo_ways_15 : decode b_Mo_ways 15 = .ok (.iconst 0, 1) := by decide +kernel
theorem d_Mo_ways_16 : decode b_Mo_ways 16 = .ok (.invokevirtual 54, 3) := by decide +kernel
theorem d_Mo_ways_19 : decode b_Mo_ways 19 = .ok (.ifCond .eq 5, 3) := by decide +kernel
theorem d_Mo_ways_22 : decode b_Mo_ways 22 = .ok (.iconst 0, 1) := by decide +kernel
theorem d_Mo_ways_23 : decode b_Mo_ways 23 = .ok (.ireturn, 1) := by decide +kernel
theorem d_Mo_ways_24 : decode b_Mo_ways 24 = .ok (.iconst 0, 1) := by decide +kernel
theorem d_Mo_ways_25 : decode b_Mo_ways 25 = .ok (.istore_n 2, 1) := by decide +kernel
theorem d_Mo_ways_26 : decode b_Mo_ways 26 = .ok (.iload_n 2, 1) := by decide +kernel
theorem d_Mo_ways_27 : decode b_Mo_ways 27 = .ok (.sipush 256, 3) := by decide +kernel
theorem d_Mo_ways_30 : decode b_Mo_ways 30 = .ok (.if_icmp .ge 16, 3) := by decide +kernel
theorem d_Mo_ways_33 : decode b_Mo_ways 33 = .ok (.aload_n 0, 1) := by decide +kernel
theorem d_Mo_ways_34 : decode b_Mo_ways 34 = .ok (.getfield 39, 3) := by decide +kernel
theorem d_Mo_ways_37 : decode b_Mo_ways 37 = .ok (.iload_n 2, 1) := by decide +kernel
theorem d_Mo_ways_38 : decode b_Mo_ways 38 = .ok (.iconst 0, 1) := by decide +kernel
theorem d_Mo_ways_39 : decode b_Mo_ways 39 = .ok (.bastore, 1) := by decide +kernel
theorem d_Mo_ways_40 : decode b_Mo_ways 40 = .ok (.iinc 2 1, 3) := by decide +kernel
theorem d_Mo_ways_43 : decode b_Mo_ways 43 = .ok (.goto (-17), 3) := by decide +kernel
theorem d_Mo_ways_46 : decode b_Mo_ways 46 = .ok (.iconst 0, 1) := by decide +kernel
theorem d_Mo_ways_47 : decode b_Mo_ways 47 = .ok (.istore_n 2, 1) := by decide +kernel
theorem d_Mo_ways_48 : decode b_Mo_ways 48 = .ok (.iconst 0, 1) := by decide +kernel
theorem d_Mo_ways_49 : decode b_Mo_ways 49 = .ok (.istore_n 3, 1) := by decide +kernel
theorem d_Mo_ways_50 : decode b_Mo_ways 50 = .ok (.iload_n 3, 1) := by decide +kernel
theorem d_Mo_ways_51 : decode b_Mo_ways 51 = .ok (.aload_n 0, 1) := by decide +kernel
theorem d_Mo_ways_52 : decode b_Mo_ways 52 = .ok (.getfield 58, 3) := by decide +kernel
theorem d_Mo_ways_55 : decode b_Mo_ways 55 = .ok (.if_icmp .ge 43, 3) := by decide +kernel
theorem d_Mo_ways_58 : decode b_Mo_ways 58 = .ok (.aload_n 0, 1) := by decide +kernel
theorem d_Mo_ways_59 : decode b_Mo_ways 59 = .ok (.iload_n 1, 1) := by decide +kernel
theorem d_Mo_ways_60 : decode b_Mo_ways 60 = .ok (.iload_n 3, 1) := by decide +kernel
theorem d_Mo_ways_61 : decode b_Mo_ways 61 = .ok (.invokevirtual 75, 3) := by decide +kernel
theorem d_Mo_ways_64 : decode b_Mo_ways 64 = .ok (.istore 4, 2) := by decide +kernel
theorem d_Mo_ways_66 : decode b_Mo_ways 66 = .ok (.iload 4, 2) := by decide +kernel
theorem d_Mo_ways_68 : decode b_Mo_ways 68 = .ok (.ifCond .lt 24, 3) := by decide +kernel
theorem d_Mo_ways_71 : decode b_Mo_ways 71 = .ok (.aload_n 0, 1) := by decide +kernel
theorem d_Mo_ways_72 : decode b_Mo_ways 72 = .ok (.getfield 39, 3) := by decide +kernel
theorem d_Mo_ways_75 : decode b_Mo_ways 75 = .ok (.iload 4, 2) := by decide +kernel
theorem d_Mo_ways_77 : decode b_Mo_ways 77 = .ok (.baload, 1) := by decide +kernel
theorem d_Mo_ways_78 : decode b_Mo_ways 78 = .ok (.ifCond .ne 14, 3) := by decide +kernel
theorem d_Mo_ways_81 : decode b_Mo_ways 81 = .ok (.aload_n 0, 1) := by decide +kernel
theorem d_Mo_ways_82 : decode b_Mo_ways 82 = .ok (.getfield 39, 3) := by decide +kernel
theorem d_Mo_ways_85 : decode b_Mo_ways 85 = .ok (.iload 4, 2) := by decide +kernel
theorem d_Mo_ways_87 : decode b_Mo_ways 87 = .ok (.iconst 1, 1) := by decide +kernel
theorem d_Mo_ways_88 : decode b_Mo_ways 88 = .ok (.bastore, 1) := by decide +kernel
theorem d_Mo_ways_89 : decode b_Mo_ways 89 = .ok (.iinc 2 1, 3) := by decide +kernel
theorem d_Mo_ways_92 : decode b_Mo_ways 92 = .ok (.iinc 3 1, 3) := by decide +kernel
theorem d_Mo_ways_95 : decode b_Mo_ways 95 = .ok (.goto (-45), 3) := by decide +kernel
theorem d_Mo_ways_98 : decode b_Mo_ways 98 = .ok (.iload_n 2, 1) := by decide +kernel
theorem d_Mo_ways_99 : decode b_Mo_ways 99 = .ok (.ireturn, 1) := by decide +kernel
theorem d_Mo_witness_0 : decode b_Mo_witness 0 = .ok (.aload_n 0, 1) := by decide +kernel
theorem d_Mo_witness_1 : decode b_Mo_witness 1 = .ok (.iload_n 1, 1) := by decide +kernel
theorem d_Mo_witness_2 : decode b_Mo_witness 2 = .ok (.invokevirtual 72, 3) := by decide +kernel
theorem d_Mo_witness_5 : decode b_Mo_witness 5 = .ok (.ifCond .eq 15, 3) := by decide +kernel
theorem d_Mo_witness_8 : decode b_Mo_witness 8 = .ok (.aload_n 0, 1) := by decide +kernel
theorem d_Mo_witness_9 : decode b_Mo_witness 9 = .ok (.iload_n 2, 1) := by decide +kernel
theorem d_Mo_witness_10 : decode b_Mo_witness 10 = .ok (.invokevirtual 64, 3) := by decide +kernel
theorem d_Mo_witness_13 : decode b_Mo_witness 13 = .ok (.ifCond .eq 7, 3) := by decide +kernel
theorem d_Mo_witness_16 : decode b_Mo_witness 16 = .ok (.iconst 1, 1) := by decide +kernel
theorem d_Mo_witness_17 : decode b_Mo_witness 17 = .ok (.goto 4, 3) := by decide +kernel
theorem d_Mo_witness_20 : decode b_Mo_witness 20 = .ok (.iconst 0, 1) := by decide +kernel
theorem d_Mo_witness_21 : decode b_Mo_witness 21 = .ok (.istore 4, 2) := by decide +kernel
theorem d_Mo_witness_23 : decode b_Mo_witness 23 = .ok (.iload 4, 2) := by decide +kernel
theorem d_Mo_witness_25 : decode b_Mo_witness 25 = .ok (.ifCond .eq 26, 3) := by decide +kernel
theorem d_Mo_witness_28 : decode b_Mo_witness 28 = .ok (.aload_n 0, 1) := by decide +kernel
theorem d_Mo_witness_29 : decode b_Mo_witness 29 = .ok (.getfield 26, 3) := by decide +kernel
theorem d_Mo_witness_32 : decode b_Mo_witness 32 = .ok (.iload 4, 2) := by decide +kernel
theorem d_Mo_witness_34 : decode b_Mo_witness 34 = .ok (.ifCond .eq 7, 3) := by decide +kernel
theorem d_Mo_witness_37 : decode b_Mo_witness 37 = .ok (.iload_n 1, 1) := by decide +kernel
theorem d_Mo_witness_38 : decode b_Mo_witness 38 = .ok (.goto 4, 3) := by decide +kernel
theorem d_Mo_witness_41 : decode b_Mo_witness 41 = .ok (.iconst 0, 1) := by decide +kernel
theorem d_Mo_witness_42 : decode b_Mo_witness 42 = .ok (.iaload, 1) := by decide +kernel
theorem d_Mo_witness_43 : decode b_Mo_witness 43 = .ok (.iconst 5, 1) := by decide +kernel
theorem d_Mo_witness_44 : decode b_Mo_witness 44 = .ok (.if_icmp .ne 7, 3) := by decide +kernel
theorem d_Mo_witness_47 : decode b_Mo_witness 47 = .ok (.iconst 1, 1) := by decide +kernel
theorem d_Mo_witness_48 : decode b_Mo_witness 48 = .ok (.goto 4, 3) := by decide +kernel
theorem d_Mo_witness_51 : decode b_Mo_witness 51 = .ok (.iconst 0, 1) := by decide +kernel
theorem d_Mo_witness_52 : decode b_Mo_witness 52 = .ok (.istore 5, 2) := by decide +kernel
theorem d_Mo_witness_54 : decode b_Mo_witness 54 = .ok (.iload 5, 2) := by decide +kernel
theorem d_Mo_witness_56 : decode b_Mo_witness 56 = .ok (.ifCond .eq 8, 3) := by decide +kernel
theorem d_Mo_witness_59 : decode b_Mo_witness 59 = .ok (.aload_n 0, 1) := by decide +kernel
theorem d_Mo_witness_60 : decode b_Mo_witness 60 = .ok (.iload_n 1, 1) := by decide +kernel
theorem d_Mo_witness_61 : decode b_Mo_witness 61 = .ok (.invokevirtual 107, 3) := by decide +kernel
theorem d_Mo_witness_64 : decode b_Mo_witness 64 = .ok (.iload 5, 2) := by decide +kernel
theorem d_Mo_witness_66 : decode b_Mo_witness 66 = .ok (.ifCond .eq 33, 3) := by decide +kernel
end
section
theorem d_Mo_witness_69 : decode b_Mo_witness 69 = .ok (.aload_n 0, 1) := by decide +kernel
theorem d_Mo_witness_70 : decode b_Mo_witness 70 = .ok (.getfield 45, 3) := by decide +kernel
theorem d_Mo_witness_73 : decode b_Mo_witness 73 = .ok (.iload 5, 2) := by decide +kernel
theorem d_Mo_witness_75 : decode b_Mo_witness 75 = .ok (.ifCond .eq 7, 3) := by decide +kernel
theorem d_Mo_witness_78 : decode b_Mo_witness 78 = .ok (.iload_n 2, 1) := by decide +kernel
theorem d_Mo_witness_79 : decode b_Mo_witness 79 = .ok (.goto 4, 3) := by decide +kernel
theorem d_Mo_witness_82 : decode b_Mo_witness 82 = .ok (.iconst 0, 1) := by decide +kernel
theorem d_Mo_witness_83 : decode b_Mo_witness 83 = .ok (.iaload, 1) := by decide +kernel
theorem d_Mo_witness_84 : decode b_Mo_witness 84 = .ok (.sipush 1000, 3) := by decide +kernel
theorem d_Mo_witness_87 : decode b_Mo_witness 87 = .ok (.if_icmp .ge 12, 3) := by decide +kernel
theorem d_Mo_witness_90 : decode b_Mo_witness 90 = .ok (.aload_n 0, 1) := by decide +kernel
theorem d_Mo_witness_91 : decode b_Mo_witness 91 = .ok (.getfield 45, 3) := by decide +kernel
theorem d_Mo_witness_94 : decode b_Mo_witness 94 = .ok (.iload_n 2, 1) := by decide +kernel
theorem d_Mo_witness_95 : decode b_Mo_witness 95 = .ok (.iaload, 1) := by decide +kernel
theorem d_Mo_witness_96 : decode b_Mo_witness 96 = .ok (.goto 4, 3) := by decide +kernel
theorem d_Mo_witness_99 : decode b_Mo_witness 99 = .ok (.iconst 0, 1) := by decide +kernel
theorem d_Mo_witness_100 : decode b_Mo_witness 100 = .ok (.istore 6, 2) := by decide +kernel
theorem d_Mo_witness_102 : decode b_Mo_witness 102 = .ok (.aload_n 0, 1) := by decide +kernel
theorem d_Mo_witness_103 : decode b_Mo_witness 103 = .ok (.iload 4, 2) := by decide +kernel
theorem d_Mo_witness_105 : decode b_Mo_witness 105 = .ok (.ifCond .ne 7, 3) := by decide +kernel
theorem d_Mo_witness_108 : decode b_Mo_witness 108 = .ok (.iconst 1, 1) := by decide +kernel
theorem d_Mo_witness_109 : decode b_Mo_witness 109 = .ok (.goto 4, 3) := by decide +kernel
theorem d_Mo_witness_112 : decode b_Mo_witness 112 = .ok (.iconst 0, 1) := by decide +kernel
theorem d_Mo_witness_113 : decode b_Mo_witness 113 = .ok (.iload 4, 2) := by decide +kernel
theorem d_Mo_witness_115 : decode b_Mo_witness 115 = .ok (.ifCond .eq 12, 3) := by decide +kernel
theorem d_Mo_witness_118 : decode b_Mo_witness 118 = .ok (.iload 5, 2) := by decide +kernel
theorem d_Mo_witness_120 : decode b_Mo_witness 120 = .ok (.ifCond .ne 7, 3) := by decide +kernel
theorem d_Mo_witness_123 : decode b_Mo_witness 123 = .ok (.iconst 1, 1) := by decide +kernel
theorem d_Mo_witness_124 : decode b_Mo_witness 124 = .ok (.goto 4, 3) := by decide +kernel
theorem d_Mo_witness_127 : decode b_Mo_witness 127 = .ok (.iconst 0, 1) := by decide +kernel
theorem d_Mo_witness_128 : decode b_Mo_witness 128 = .ok (.iload 5, 2) := by decide +kernel
theorem d_Mo_witness_130 : decode b_Mo_witness 130 = .ok (.ifCond .eq 17, 3) := by decide +kernel
theorem d_Mo_witness_133 : decode b_Mo_witness 133 = .ok (.iload_n 3, 1) := by decide +kernel
theorem d_Mo_witness_134 : decode b_Mo_witness 134 = .ok (.ifCond .lt 9, 3) := by decide +kernel
theorem d_Mo_witness_137 : decode b_Mo_witness 137 = .ok (.iload_n 3, 1) := by decide +kernel
theorem d_Mo_witness_138 : decode b_Mo_witness 138 = .ok (.iload 6, 2) := by decide +kernel
theorem d_Mo_witness_140 : decode b_Mo_witness 140 = .ok (.if_icmp .lt 7, 3) := by decide +kernel
theorem d_Mo_witness_143 : decode b_Mo_witness 143 = .ok (.iconst 1, 1) := by decide +kernel
theorem d_Mo_witness_144 : decode b_Mo_witness 144 = .ok (.goto 4, 3) := by decide +kernel
theorem d_Mo_witness_147 : decode b_Mo_witness 147 = .ok (.iconst 0, 1) := by decide +kernel
theorem d_Mo_witness_148 : decode b_Mo_witness 148 = .ok (.invokevirtual 54, 3) := by decide +kernel
theorem d_Mo_witness_151 : decode b_Mo_witness 151 = .ok (.ifCond .eq 5, 3) := by decide +kernel
theorem d_Mo_witness_154 : decode b_Mo_witness 154 = .ok (.iconst 0, 1) := by decide +kernel
theorem d_Mo_witness_155 : decode b_Mo_witness 155 = .ok (.ireturn, 1) := by decide +kernel
theorem d_Mo_witness_156 : decode b_Mo_witness 156 = .ok (.iload_n 2, 1) := by decide +kernel
theorem d_Mo_witness_157 : decode b_Mo_witness 157 = .ok (.istore 7, 2) := by decide +kernel
theorem d_Mo_witness_159 : decode b_Mo_witness 159 = .ok (.iconst 0, 1) := by decide +kernel
theorem d_Mo_witness_160 : decode b_Mo_witness 160 = .ok (.istore 8, 2) := by decide +kernel
theorem d_Mo_witness_162 : decode b_Mo_witness 162 = .ok (.iload 8, 2) := by decide +kernel
theorem d_Mo_witness_164 : decode b_Mo_witness 164 = .ok (.iload_n 3, 1) := by decide +kernel
theorem d_Mo_witness_165 : decode b_Mo_witness 165 = .ok (.if_icmp .ge 101, 3) := by decide +kernel
theorem d_Mo_witness_168 : decode b_Mo_witness 168 = .ok (.iconst (-1), 1) := by decide +kernel
theorem d_Mo_witness_169 : decode b_Mo_witness 169 = .ok (.istore 9, 2) := by decide +kernel
theorem d_Mo_witness_171 : decode b_Mo_witness 171 = .ok (.iconst 0, 1) := by decide +kernel
theorem d_Mo_witness_172 : decode b_Mo_witness 172 = .ok (.istore 10, 2) := by decide +kernel
theorem d_Mo_witness_174 : decode b_Mo_witness 174 = .ok (.iload 10, 2) := by decide +kernel
theorem d_Mo_witness_176 : decode b_Mo_witness 176 = .ok (.aload_n 0, 1) := by decide +kernel
theorem d_Mo_witness_177 : decode b_Mo_witness 177 = .ok (.getfield 58, 3) := by decide +kernel
theorem d_Mo_witness_180 : decode b_Mo_witness 180 = .ok (.if_icmp .ge 76, 3) := by decide +kernel
theorem d_Mo_witness_183 : decode b_Mo_witness 183 = .ok (.aload_n 0, 1) := by decide +kernel
theorem d_Mo_witness_184 : decode b_Mo_witness 184 = .ok (.iload 7, 2) := by decide +kernel
theorem d_Mo_witness_186 : decode b_Mo_witness 186 = .ok (.iload 10, 2) := by decide +kernel
theorem d_Mo_witness_188 : decode b_Mo_witness 188 = .ok (.invokevirtual 75, 3) := by decide +kernel
theorem d_Mo_witness_191 : decode b_Mo_witness 191 = .ok (.istore 11, 2) := by decide +kernel
theorem d_Mo_witness_193 : decode b_Mo_witness 193 = .ok (.iload 11, 2) := by decide +kernel
theorem d_Mo_witness_195 : decode b_Mo_witness 195 = .ok (.ifCond .lt 26, 3) := by decide +kernel
theorem d_Mo_witness_198 : decode b_Mo_witness 198 = .ok (.aload_n 0, 1) := by decide +kernel
theorem d_Mo_witness_199 : decode b_Mo_witness 199 = .ok (.getfield 45, 3) := by decide +kernel
theorem d_Mo_witness_202 : decode b_Mo_witness 202 = .ok (.iload 11, 2) := by decide +kernel
theorem d_Mo_witness_204 : decode b_Mo_witness 204 = .ok (.iaload, 1) := by decide +kernel
theorem d_Mo_witness_205 : decode b_Mo_witness 205 = .ok (.aload_n 0, 1) := by decide +kernel
theorem d_Mo_witness_206 : decode b_Mo_witness 206 = .ok (.getfield 45, 3) := by decide +kernel
theorem d_Mo_witness_209 : decode b_Mo_witness 209 = .ok (.iload 7, 2) := by decide +kernel
theorem d_Mo_witness_211 : decode b_Mo_witness 211 = .ok (.iaload, 1) := by decide +kernel
theorem d_Mo_witness_212 : decode b_Mo_witness 212 = .ok (.iconst 1, 1) := by decide +kernel
theorem d_Mo_witness_213 : decode b_Mo_witness 213 = .ok (.isub, 1) := by decide +kernel
theorem d_Mo_witness_214 : decode b_Mo_witness 214 = .ok (.if_icmp .ne 7, 3) := by decide +kernel
theorem d_Mo_witness_217 : decode b_Mo_witness 217 = .ok (.iconst 1, 1) := by decide +kernel
theorem d_Mo_witness_218 : decode b_Mo_witness 218 = .ok (.goto 4, 3) := by decide +kernel
theorem d_Mo_witness_221 : decode b_Mo_witness 221 = .ok (.iconst 0, 1) := by decide +kernel
theorem d_Mo_witness_222 : decode b_Mo_witness 222 = .ok (.istore 12, 2) := by decide +kernel
theorem d_Mo_witness_224 : decode b_Mo_witness 224 = .ok (.iload 12, 2) := by decide +kernel
theorem d_Mo_witness_226 : decode b_Mo_witness 226 = .ok (.ifCond .eq 20, 3) := by decide +kernel
theorem d_Mo_witness_229 : decode b_Mo_witness 229 = .ok (.iload 9, 2) := by decide +kernel
theorem d_Mo_witness_231 : decode b_Mo_witness 231 = .ok (.ifCond .lt 10, 3) := by decide +kernel
theorem d_Mo_witness_234 : decode b_Mo_witness 234 = .ok (.iload 11, 2) := by decide +kernel
theorem d_Mo_witness_236 : decode b_Mo_witness 236 = .ok (.iload 9, 2) := by decide +kernel
theorem d_Mo_witness_238 : decode b_Mo_witness 238 = .ok (.if_icmp .ge 8, 3) := by decide +kernel
theorem d_Mo_witness_241 : decode b_Mo_witness 241 = .ok (.iload 11, 2) := by decide +kernel
theorem d_Mo_witness_243 : decode b_Mo_witness 243 = .ok (.goto 5, 3) := by decide +kernel
theorem d_Mo_witness_246 : decode b_Mo_witness 246 = .ok (.iload 9, 2) := by decide +kernel
theorem d_Mo_witness_248 : decode b_Mo_witness 248 = .ok (.istore 9, 2) := by decide +kernel
theorem d_Mo_witness_250 : decode b_Mo_witness 250 = .ok (.iinc 10 1, 3) := by decide +kernel
theorem d_Mo_witness_253 : decode b_Mo_witness 253 = .ok (.goto (-79), 3) := by decide +kernel
theorem d_Mo_witness_256 : decode b_Mo_witness 256 = .ok (.iload 9, 2) := by decide +kernel
theorem d_Mo_witness_258 : decode b_Mo_witness 258 = .ok (.istore 7, 2) := by decide +kernel
theorem d_Mo_witness_260 : decode b_Mo_witness 260 = .ok (.iinc 8 1, 3) := by decide +kernel
theorem d_Mo_witness_263 : decode b_Mo_witness 263 = .ok (.goto (-101), 3) := by decide +kernel
theorem d_Mo_witness_266 : decode b_Mo_witness 266 = .ok (.iload 7, 2) := by decide +kernel
theorem d_Mo_witness_268 : decode b_Mo_witness 268 = .ok (.ireturn, 1) := by decide +kernel
theorem d_Mo_workOut_0 : decode b_Mo_workOut 0 = .ok (.iconst 1, 1) := by decide +kernel
theorem d_Mo_workOut_1 : decode b_Mo_workOut 1 = .ok (.aload_n 0, 1) := by decide +kernel
theorem d_Mo_workOut_2 : decode b_Mo_workOut 2 = .ok (.getfield 7, 3) := by decide +kernel
theorem d_Mo_workOut_5 : decode b_Mo_workOut 5 = .ok (.ishl, 1) := by decide +kernel
theorem d_Mo_workOut_6 : decode b_Mo_workOut 6 = .ok (.istore_n 2, 1) := by decide +kernel
theorem d_Mo_workOut_7 : decode b_Mo_workOut 7 = .ok (.aload_n 0, 1) := by decide +kernel
theorem d_Mo_workOut_8 : decode b_Mo_workOut 8 = .ok (.getfield 26, 3) := by decide +kernel
theorem d_Mo_workOut_11 : decode b_Mo_workOut 11 = .ok (.iload_n 1, 1) := by decide +kernel
theorem d_Mo_workOut_12 : decode b_Mo_workOut 12 = .ok (.iaload, 1) := by decide +kernel
theorem d_Mo_workOut_13 : decode b_Mo_workOut 13 = .ok (.bipush 6, 2) := by decide +kernel
theorem d_Mo_workOut_15 : decode b_Mo_workOut 15 = .ok (.if_icmp .ne 17, 3) := by decide +kernel
theorem d_Mo_workOut_18 : decode b_Mo_workOut 18 = .ok (.aload_n 0, 1) := by decide +kernel
theorem d_Mo_workOut_19 : decode b_Mo_workOut 19 = .ok (.iload_n 1, 1) := by decide +kernel
theorem d_Mo_workOut_20 : decode b_Mo_workOut 20 = .ok (.aload_n 0, 1) := by decide +kernel
theorem d_Mo_workOut_21 : decode b_Mo_workOut 21 = .ok (.getfield 29, 3) := by decide +kernel
theorem d_Mo_workOut_24 : decode b_Mo_workOut 24 = .ok (.iload_n 1, 1) := by decide +kernel
theorem d_Mo_workOut_25 : decode b_Mo_workOut 25 = .ok (.iaload, 1) := by decide +kernel
theorem d_Mo_workOut_26 : decode b_Mo_workOut 26 = .ok (.invokevirtual 90, 3) := by decide +kernel
theorem d_Mo_workOut_29 : decode b_Mo_workOut 29 = .ok (.goto 149, 3) := by decide +kernel
theorem d_Mo_workOut_32 : decode b_Mo_workOut 32 = .ok (.aload_n 0, 1) := by decide +kernel
theorem d_Mo_workOut_33 : decode b_Mo_workOut 33 = .ok (.getfield 26, 3) := by decide +kernel
theorem d_Mo_workOut_36 : decode b_Mo_workOut 36 = .ok (.iload_n 1, 1) := by decide +kernel
theorem d_Mo_workOut_37 : decode b_Mo_workOut 37 = .ok (.iaload, 1) := by decide +kernel
theorem d_Mo_workOut_38 : decode b_Mo_workOut 38 = .ok (.bipush 7, 2) := by decide +kernel
theorem d_Mo_workOut_40 : decode b_Mo_workOut 40 = .ok (.if_icmp .ne 23, 3) := by decide +kernel
theorem d_Mo_workOut_43 : decode b_Mo_workOut 43 = .ok (.aload_n 0, 1) := by decide +kernel
theorem d_Mo_workOut_44 : decode b_Mo_workOut 44 = .ok (.iload_n 1, 1) := by decide +kernel
theorem d_Mo_workOut_45 : decode b_Mo_workOut 45 = .ok (.aload_n 0, 1) := by decide +kernel
theorem d_Mo_workOut_46 : decode b_Mo_workOut 46 = .ok (.getfield 29, 3) := by decide +kernel
theorem d_Mo_workOut_49 : decode b_Mo_workOut 49 = .ok (.iload_n 1, 1) := by decide +kernel
theorem d_Mo_workOut_50 : decode b_Mo_workOut 50 = .ok (.iaload, 1) := by decide +kernel
theorem d_Mo_workOut_51 : decode b_Mo_workOut 51 = .ok (.aload_n 0, 1) := by decide +kernel
theorem d_Mo_workOut_52 : decode b_Mo_workOut 52 = .ok (.getfield 32, 3) := by decide +kernel
theorem d_Mo_workOut_55 : decode b_Mo_workOut 55 = .ok (.iload_n 1, 1) := by decide +kernel
theorem d_Mo_workOut_56 : decode b_Mo_workOut 56 = .ok (.iaload, 1) := by decide +kernel
theorem d_Mo_workOut_57 : decode b_Mo_workOut 57 = .ok (.invokevirtual 94, 3) := by decide +kernel
theorem d_Mo_workOut_60 : decode b_Mo_workOut 60 = .ok (.goto 118, 3) := by decide +kernel
theorem d_Mo_workOut_63 : decode b_Mo_workOut 63 = .ok (.aload_n 0, 1) := by decide +kernel
theorem d_Mo_workOut_64 : decode b_Mo_workOut 64 = .ok (.getfield 26, 3) := by decide +kernel
theorem d_Mo_workOut_67 : decode b_Mo_workOut 67 = .ok (.iload_n 1, 1) := by decide +kernel
theorem d_Mo_workOut_68 : decode b_Mo_workOut 68 = .ok (.iaload, 1) := by decide +kernel
theorem d_Mo_workOut_69 : decode b_Mo_workOut 69 = .ok (.iconst 5, 1) := by decide +kernel
theorem d_Mo_workOut_70 : decode b_Mo_workOut 70 = .ok (.if_icmp .ne 77, 3) := by decide +kernel
theorem d_Mo_workOut_73 : decode b_Mo_workOut 73 = .ok (.iconst 0, 1) := by decide +kernel
theorem d_Mo_workOut_74 : decode b_Mo_workOut 74 = .ok (.istore_n 3, 1) := by decide +kernel
theorem d_Mo_workOut_75 : decode b_Mo_workOut 75 = .ok (.iload_n 3, 1) := by decide +kernel
theorem d_Mo_workOut_76 : decode b_Mo_workOut 76 = .ok (.iload_n 2, 1) := by decide +kernel
theorem d_Mo_workOut_77 : decode b_Mo_workOut 77 = .ok (.if_icmp .ge 26, 3) := by decide +kernel
theorem d_Mo_workOut_80 : decode b_Mo_workOut 80 = .ok (.aload_n 0, 1) := by decide +kernel
theorem d_Mo_workOut_81 : decode b_Mo_workOut 81 = .ok (.getfield 42, 3) := by decide +kernel
theorem d_Mo_workOut_84 : decode b_Mo_workOut 84 = .ok (.iload_n 3, 1) := by decide +kernel
theorem d_Mo_workOut_85 : decode b_Mo_workOut 85 = .ok (.aload_n 0, 1) := by decide +kernel
theorem d_Mo_workOut_86 : decode b_Mo_workOut 86 = .ok (.aload_n 0, 1) := by decide +kernel
theorem d_Mo_workOut_87 : decode b_Mo_workOut 87 = .ok (.getfield 32, 3) := by decide +kernel
theorem d_Mo_workOut_90 : decode b_Mo_workOut 90 = .ok (.iload_n 1, 1) := by decide +kernel
theorem d_Mo_workOut_91 : decode b_Mo_workOut 91 = .ok (.iaload, 1) := by decide +kernel
theorem d_Mo_workOut_92 : decode b_Mo_workOut 92 = .ok (.iload_n 3, 1) := by decide +kernel
theorem d_Mo_workOut_93 : decode b_Mo_workOut 93 = .ok (.invokevirtual 79, 3) := by decide +kernel
theorem d_Mo_workOut_96 : decode b_Mo_workOut 96 = .ok (.bastore, 1) := by decide +kernel
theorem d_Mo_workOut_97 : decode b_Mo_workOut 97 = .ok (.iinc 3 1, 3) := by decide +kernel
theorem d_Mo_workOut_100 : decode b_Mo_workOut 100 = .ok (.goto (-25), 3) := by decide +kernel
theorem d_Mo_workOut_103 : decode b_Mo_workOut 103 = .ok (.aload_n 0, 1) := by decide +kernel
theorem d_Mo_workOut_104 : decode b_Mo_workOut 104 = .ok (.aload_n 0, 1) := by decide +kernel
theorem d_Mo_workOut_105 : decode b_Mo_workOut 105 = .ok (.getfield 29, 3) := by decide +kernel
theorem d_Mo_workOut_108 : decode b_Mo_workOut 108 = .ok (.iload_n 1, 1) := by decide +kernel
theorem d_Mo_workOut_109 : decode b_Mo_workOut 109 = .ok (.iaload, 1) := by decide +kernel
theorem d_Mo_workOut_110 : decode b_Mo_workOut 110 = .ok (.invokevirtual 86, 3) := by decide +kernel
theorem d_Mo_workOut_113 : decode b_Mo_workOut 113 = .ok (.iconst 0, 1) := by decide +kernel
theorem d_Mo_workOut_114 : decode b_Mo_workOut 114 = .ok (.istore_n 3, 1) := by decide +kernel
theorem d_Mo_workOut_115 : decode b_Mo_workOut 115 = .ok (.iload_n 3, 1) := by decide +kernel
theorem d_Mo_workOut_116 : decode b_Mo_workOut 116 = .ok (.iload_n 2, 1) := by decide +kernel
theorem d_Mo_workOut_117 : decode b_Mo_workOut 117 = .ok (.if_icmp .ge 27, 3) := by decide +kernel
theorem d_Mo_workOut_120 : decode b_Mo_workOut 120 = .ok (.aload_n 0, 1) := by decide +kernel
theorem d_Mo_workOut_121 : decode b_Mo_workOut 121 = .ok (.getfield 35, 3) := by decide +kernel
theorem d_Mo_workOut_124 : decode b_Mo_workOut 124 = .ok (.sipush 256, 3) := by decide +kernel
theorem d_Mo_workOut_127 : decode b_Mo_workOut 127 = .ok (.iload_n 1, 1) := by decide +kernel
theorem d_Mo_workOut_128 : decode b_Mo_workOut 128 = .ok (.imul, 1) := by decide +kernel
theorem d_Mo_workOut_129 : decode b_Mo_workOut 129 = .ok (.iload_n 3, 1) := by decide +kernel
theorem d_Mo_workOut_130 : decode b_Mo_workOut 130 = .ok (.iadd, 1) := by decide +kernel
theorem d_Mo_workOut_131 : decode b_Mo_workOut 131 = .ok (.aload_n 0, 1) := by decide +kernel
theorem d_Mo_workOut_132 : decode b_Mo_workOut 132 = .ok (.getfield 39, 3) := by decide +kernel
theorem d_Mo_workOut_135 : decode b_Mo_workOut 135 = .ok (.iload_n 3, 1) := by decide +kernel
theorem d_Mo_workOut_136 : decode b_Mo_workOut 136 = .ok (.baload, 1) := by decide +kernel
theorem d_Mo_workOut_137 : decode b_Mo_workOut 137 = .ok (.bastore, 1) := by decide +kernel
theorem d_Mo_workOut_138 : decode b_Mo_workOut 138 = .ok (.iinc 3 1, 3) := by decide +kernel
theorem d_Mo_workOut_141 : decode b_Mo_workOut 141 = .ok (.goto (-26), 3) := by decide +kernel
theorem d_Mo_workOut_144 : decode b_Mo_workOut 144 = .ok (.goto 34, 3) := by decide +kernel
theorem d_Mo_workOut_147 : decode b_Mo_workOut 147 = .ok (.iconst 0, 1) := by decide +kernel
theorem d_Mo_workOut_148 : decode b_Mo_workOut 148 = .ok (.istore_n 3, 1) := by decide +kernel
theorem d_Mo_workOut_149 : decode b_Mo_workOut 149 = .ok (.iload_n 3, 1) := by decide +kernel
theorem d_Mo_workOut_150 : decode b_Mo_workOut 150 = .ok (.iload_n 2, 1) := by decide +kernel
theorem d_Mo_workOut_151 : decode b_Mo_workOut 151 = .ok (.if_icmp .ge 27, 3) := by decide +kernel
theorem d_Mo_workOut_154 : decode b_Mo_workOut 154 = .ok (.aload_n 0, 1) := by decide +kernel
theorem d_Mo_workOut_155 : decode b_Mo_workOut 155 = .ok (.getfield 35, 3) := by decide +kernel
theorem d_Mo_workOut_158 : decode b_Mo_workOut 158 = .ok (.sipush 256, 3) := by decide +kernel
theorem d_Mo_workOut_161 : decode b_Mo_workOut 161 = .ok (.iload_n 1, 1) := by decide +kernel
theorem d_Mo_workOut_162 : decode b_Mo_workOut 162 = .ok (.imul, 1) := by decide +kernel
theorem d_Mo_workOut_163 : decode b_Mo_workOut 163 = .ok (.iload_n 3, 1) := by decide +kernel
theorem d_Mo_workOut_164 : decode b_Mo_workOut 164 = .ok (.iadd, 1) := by decide +kernel
theorem d_Mo_workOut_165 : decode b_Mo_workOut 165 = .ok (.aload_n 0, 1) := by decide +kernel
theorem d_Mo_workOut_166 : decode b_Mo_workOut 166 = .ok (.iload_n 1, 1) := by decide +kernel
theorem d_Mo_workOut_167 : decode b_Mo_workOut 167 = .ok (.iload_n 3, 1) := by decide +kernel
theorem d_Mo_workOut_168 : decode b_Mo_workOut 168 = .ok (.invokevirtual 98, 3) := by decide +kernel
theorem d_Mo_workOut_171 : decode b_Mo_workOut 171 = .ok (.bastore, 1) := by decide +kernel
theorem d_Mo_workOut_172 : decode b_Mo_workOut 172 = .ok (.iinc 3 1, 3) := by decide +kernel
theorem d_Mo_workOut_175 : decode b_Mo_workOut 175 = .ok (.goto (-26), 3) := by decide +kernel
theorem d_Mo_workOut_178 : decode b_Mo_workOut 178 = .ok (.return_, 1) := by decide +kernel
end
section
/-! StateLogic$Sets: reads and writes of single states -/
abbrev sv_ty (cI cJ cZ : ClassId) : List (ClassId × FieldType) := [(cI, .int), (cJ, .long), (cZ, .boolean)]
section
variable {p : Program} {l : Launch} {e : Env} {R : Room} {s : State} {m : MethodId} {args : Array Value} {below : List Frame} {meth : Method} {c : Code} {D : va_G} {cl : List vw_C} {tys : List (ClassId × FieldType)} {A : Nat → Prop} {nL : Nat} {ad : Nat → Nat} {Q : State → Prop} {cc : ByteArray} {own : String} {ret : Option FieldType} {pc : Nat} {lv : List (Option Value)} {st : List Value} {ws : List va_E} {k n : Nat}
theorem sv_iincN (C : sv_C p s m args meth c D cl tys A cc nL own ret) {i j : Nat} (hd : decode cc pc = .ok (.iinc i 1, 3)) (hv : lv[i]? = some (some (.int (nI j)))) (hn : i < nL) (hk : sv_lk lv i = true) (kk : sv_V p l e R s m args below meth c D cl A nL ad Q (pc + 3) (lv.set i (some (.int (nI (j + 1))))) st ws k n) : sv_V p l e R s m args below meth c D cl A nL ad Q pc lv st ws k n :=
  sv_iinc C hd hv (nI_1 j) hn hk kk
end
set_option maxRecDepth 100000 in
set_option maxHeartbeats 4000000 in
theorem c_St_has {l : Launch} {D : va_G} {cI cJ cZ : ClassId} {ws : List va_E} {b w N a x : Nat} {f : Nat → Int64} (hb : ws[b]? = some (.inr (3, [.ref w]))) (hw : ws[w]? = some (.inl (cJ, N, .inr (.inl f)))) (ha : a * 4 + 3 < N) (hN : N < 2 ^ 20) (hx : x < 256) :
    sv_M l y_St_has [Cond.code y_St_has b_St_has 3 (some .boolean)] ({ frames := 0, cells := 0, slots := 0, locals := 0 } : Room) D sv_cl (sv_ty cI cJ cZ) [.ref b, .int (nI a), .int (nI x)] ws 0 0 (fun v ws' => v = some (.int (if ss_b f a x = true then 1 else 0)) ∧ ws' = ws) sv_no 0 0 := by
  refine sv_of (cc := b_St_has) (by decide +kernel) (Nat.le_of_ble_eq_true rfl) ?_
  intro p e s m args below meth c A ad C htab hnm
  have hi := ss_in hx ha hN
  have hc := ss_cl hx ha hN
  refine sv_aload_n C d_St_has_0 rfl rfl ?_
  refine sv_get (ci := 3) (kf := 0) C i_St rfl (by decide) f_St_11 (fun _ h9 => h9) d_St_has_1 (by first | assumption | rfl) rfl ?_
  refine sv_iload_n C d_St_has_4 rfl rfl ?_
  refine sv_iconst (v := 4) C d_St_has_5 rfl ?_
  refine sv_imul C d_St_has_6 ?_
  refine sv_iload_n C d_St_has_7 rfl rfl ?_
  refine sv_bipush (v := 6) C d_St_has_8 rfl ?_
  refine sv_ishr C d_St_has_10 ?_
  refine sv_iadd C d_St_has_11 ?_
  refine sv_lald (t0 := 1) C rfl d_St_has_12 (by first | assumption | rfl) (by assumption) ?_
  refine sv_iload_n C d_St_has_13 rfl rfl ?_
  refine sv_bipush (v := 63) C d_St_has_14 rfl ?_
  refine sv_iand C d_St_has_16 ?_
  refine sv_lushr C d_St_has_17 ?_
  refine sv_lconst (v := 1) C d_St_has_18 rfl ?_
  refine sv_land C d_St_has_19 ?_
  refine sv_lconst (v := 0) C d_St_has_20 rfl ?_
  refine sv_lcmp C d_St_has_21 ?_
  have hbit : ((f (nI a * 4 + (nI x >>> ((6 : Int32) &&& 31))).toNatClampNeg).toUInt64 >>> ((nI x &&& 63).toInt64.toUInt64 &&& Int64.toUInt64 63)).toInt64 &&& 1 = 0 ↔ ss_b f a x = false := by
    rw [ss_bit _ hx, hc]
    rfl
  refine sv_if_eq (tgt := 29) C d_St_has_22 (by decide) (fun hT => ?_) (fun hF => ?_)
  · have h1 : ss_b f a x = false := hbit.mp ((ss_cmp _ _).mp hT)
    refine sv_iconst (v := 0) C d_St_has_29 rfl ?_
    exact sv_iret C rfl rfl d_St_has_30 (Nat.le_of_ble_eq_true rfl) (Nat.le_of_ble_eq_true rfl) (fun _ _ => rfl) (by rw [h1]; exact ⟨rfl, rfl⟩)
  · have h1 : ss_b f a x = true := by
      cases h : ss_b f a x with
      | true => rfl
      | false => exact absurd ((ss_cmp _ _).mpr (hbit.mpr h)) hF
    refine sv_iconst (v := 1) C d_St_has_25 rfl ?_
    refine sv_goto (tgt := 30) C d_St_has_26 (by decide) ?_
    exact sv_iret C rfl rfl d_St_has_30 (Nat.le_of_ble_eq_true rfl) (Nat.le_of_ble_eq_true rfl) (fun _ _ => rfl) (by rw [h1]; exact ⟨rfl, rfl⟩)
set_option maxRecDepth 100000 in
set_option maxHeartbeats 4000000 in
theorem c_St_put {l : Launch} {D : va_G} {cI cJ cZ : ClassId} {ws : List va_E} {b w N a x : Nat} {f : Nat → Int64} (hb : ws[b]? = some (.inr (3, [.ref w]))) (hw : ws[w]? = some (.inl (cJ, N, .inr (.inl f)))) (ha : a * 4 + 3 < N) (hN : N < 2 ^ 20) (hx : x < 256) :
    sv_M l y_St_put [Cond.code y_St_put b_St_put 3 none] ({ frames := 0, cells := 0, slots := 0, locals := 0 } : Room) D sv_cl (sv_ty cI cJ cZ) [.ref b, .int (nI a), .int (nI x)] ws 0 0 (fun v ws' => v = none ∧ ws' = ws.set w (.inl (cJ, N, .inr (.inl (ss_put f a x))))) sv_no 0 0 := by
  refine sv_of (cc := b_St_put) (by decide +kernel) (Nat.le_of_ble_eq_true rfl) ?_
  intro p e s m args below meth c A ad C htab hnm
  have hi := ss_in hx ha hN
  have hc := ss_cl hx ha hN
  refine sv_aload_n C d_St_put_0 rfl rfl ?_
  refine sv_get (ci := 3) (kf := 0) C i_St rfl (by decide) f_St_11 (fun _ h9 => h9) d_St_put_1 (by first | assumption | rfl) rfl ?_
  refine sv_iload_n C d_St_put_4 rfl rfl ?_
  refine sv_iconst (v := 4) C d_St_put_5 rfl ?_
  refine sv_imul C d_St_put_6 ?_
  refine sv_iload_n C d_St_put_7 rfl rfl ?_
  refine sv_bipush (v := 6) C d_St_put_8 rfl ?_
  refine sv_ishr C d_St_put_10 ?_
  refine sv_iadd C d_St_put_11 ?_
  refine sv_dup2 C d_St_put_12 rfl rfl ?_
  refine sv_lald (t0 := 1) C rfl d_St_put_13 (by first | assumption | rfl) (by assumption) ?_
  refine sv_lconst (v := 1) C d_St_put_14 rfl ?_
  refine sv_iload_n C d_St_put_15 rfl rfl ?_
  refine sv_bipush (v := 63) C d_St_put_16 rfl ?_
  refine sv_iand C d_St_put_18 ?_
  refine sv_lshl C d_St_put_19 ?_
  refine sv_lor C d_St_put_20 ?_
  refine sv_last (t0 := 1) C rfl d_St_put_21 (by first | assumption | rfl) (by assumption) ?_
  rw [hc, ss_one hx]
  exact sv_vret C rfl d_St_put_22 (Nat.le_of_ble_eq_true rfl) (Nat.le_of_ble_eq_true rfl) (fun _ _ => rfl) (⟨rfl, rfl⟩)
set_option maxRecDepth 100000 in
set_option maxHeartbeats 4000000 in
theorem c_St_drop {l : Launch} {D : va_G} {cI cJ cZ : ClassId} {ws : List va_E} {b w N a x : Nat} {f : Nat → Int64} (hb : ws[b]? = some (.inr (3, [.ref w]))) (hw : ws[w]? = some (.inl (cJ, N, .inr (.inl f)))) (ha : a * 4 + 3 < N) (hN : N < 2 ^ 20) (hx : x < 256) :
    sv_M l y_St_drop [Cond.code y_St_drop b_St_drop 3 none] ({ frames := 0, cells := 0, slots := 0, locals := 0 } : Room) D sv_cl (sv_ty cI cJ cZ) [.ref b, .int (nI a), .int (nI x)] ws 0 0 (fun v ws' => v = none ∧ ws' = ws.set w (.inl (cJ, N, .inr (.inl (ss_drop f a x))))) sv_no 0 0 := by
  refine sv_of (cc := b_St_drop) (by decide +kernel) (Nat.le_of_ble_eq_true rfl) ?_
  intro p e s m args below meth c A ad C htab hnm
  have hi := ss_in hx ha hN
  have hc := ss_cl hx ha hN
  refine sv_aload_n C d_St_drop_0 rfl rfl ?_
  refine sv_get (ci := 3) (kf := 0) C i_St rfl (by decide) f_St_11 (fun _ h9 => h9) d_St_drop_1 (by first | assumption | rfl) rfl ?_
  refine sv_iload_n C d_St_drop_4 rfl rfl ?_
  refine sv_iconst (v := 4) C d_St_drop_5 rfl ?_
  refine sv_imul C d_St_drop_6 ?_
  refine sv_iload_n C d_St_drop_7 rfl rfl ?_
  refine sv_bipush (v := 6) C d_St_drop_8 rfl ?_
  refine sv_ishr C d_St_drop_10 ?_
  refine sv_iadd C d_St_drop_11 ?_
  refine sv_dup2 C d_St_drop_12 rfl rfl ?_
  refine sv_lald (t0 := 1) C rfl d_St_drop_13 (by first | assumption | rfl) (by assumption) ?_
  refine sv_lconst (v := 1) C d_St_drop_14 rfl ?_
  refine sv_iload_n C d_St_drop_15 rfl rfl ?_
  refine sv_bipush (v := 63) C d_St_drop_16 rfl ?_
  refine sv_iand C d_St_drop_18 ?_
  refine sv_lshl C d_St_drop_19 ?_
  refine sv_ldc2 C g_St_27 d_St_drop_20 ?_
  refine sv_lxor C d_St_drop_23 ?_
  refine sv_land C d_St_drop_24 ?_
  refine sv_last (t0 := 1) C rfl d_St_drop_25 (by first | assumption | rfl) (by assumption) ?_
  rw [hc, ss_one hx]
  exact sv_vret C rfl d_St_drop_26 (Nat.le_of_ble_eq_true rfl) (Nat.le_of_ble_eq_true rfl) (fun _ _ => rfl) (⟨rfl, rfl⟩)
end
section
/-! loops; StateLogic$Sets: whole sets -/
section
variable {p : Program} {l : Launch} {e : Env} {R : Room} {s : State} {m : MethodId} {args : Array Value} {below : List Frame} {meth : Method} {c : Code} {D : va_G} {cl : List vw_C} {tys : List (ClassId × FieldType)} {A : Nat → Prop} {nL : Nat} {ad : Nat → Nat} {Q : State → Prop} {cc : ByteArray} {own : String} {ret : Option FieldType} {pc : Nat} {lv0 : List (Option Value)} {st : List Value} {ws0 : List va_E} {k n : Nat}
/-- A LOOP: its states, a measure that falls -/
theorem sv_ind {σ : Type} (I : σ → Prop) (μ : σ → Nat) (lv : σ → List (Option Value)) (ws : σ → List va_E)
    (hs : ∀ a, I a → (∀ b, I b → μ b < μ a → sv_V p l e R s m args below meth c D cl A nL ad Q pc (lv b) st (ws b) k n) → sv_V p l e R s m args below meth c D cl A nL ad Q pc (lv a) st (ws a) k n)
    (a : σ) (h : I a) : sv_V p l e R s m args below meth c D cl A nL ad Q pc (lv a) st (ws a) k n := by
  have hall : ∀ (N : Nat) (a : σ), μ a < N → I a → sv_V p l e R s m args below meth c D cl A nL ad Q pc (lv a) st (ws a) k n := by
    intro N
    induction N with
    | zero => intro a h; exact absurd h (Nat.not_lt_zero _)
    | succ N ih => intro a h1 h2; exact hs a h2 (fun b hb hm => ih b (by omega) hb)
  exact hall (μ a + 1) a (Nat.lt_succ_self _) h
theorem sv_eqw {lv : List (Option Value)} {ws ws' : List va_E} (h : ws = ws') (kk : sv_V p l e R s m args below meth c D cl A nL ad Q pc lv st ws' k n) : sv_V p l e R s m args below meth c D cl A nL ad Q pc lv st ws k n := h ▸ kk
theorem sv_eqs {lv : List (Option Value)} {st st' : List Value} {ws : List va_E} (h : st = st') (kk : sv_V p l e R s m args below meth c D cl A nL ad Q pc lv st' ws k n) : sv_V p l e R s m args below meth c D cl A nL ad Q pc lv st ws k n := h ▸ kk
theorem sv_eql {lv lv' : List (Option Value)} {ws : List va_E} (h : lv = lv') (kk : sv_V p l e R s m args below meth c D cl A nL ad Q pc lv' st ws k n) : sv_V p l e R s m args below meth c D cl A nL ad Q pc lv st ws k n := h ▸ kk
theorem sv_copyl (C : sv_C p s m args meth c D cl tys A cc nL own ret) {lv : List (Option Value)} {ws : List va_E} {idx t0 a0 a1 N0 N1 : Nat} {cJ : ClassId} {f g : Nat → Int64} {sp dp nn : Int32} (hlk : Cond.methodLink own idx arraycopyName ∈ sv_T) (hnat : Cond.native arraycopyName ∈ sv_T) (hst : Cond.static arraycopyName ∈ sv_T) (hini : Cond.initialized "java/lang/System" ∈ sv_T) (ht : tys[t0]? = some (cJ, .long)) (hd : decode cc pc = .ok (.invokestatic idx, 3))
    (h0 : ws[a0]? = some (.inl (cJ, N0, .inr (.inl f)))) (h1 : ws[a1]? = some (.inl (cJ, N1, .inr (.inl g)))) (q1 : ¬ sp < 0) (q2 : ¬ dp < 0) (q3 : ¬ nn < 0) (q4 : sp.toNatClampNeg + nn.toNatClampNeg ≤ N0) (q5 : dp.toNatClampNeg + nn.toNatClampNeg ≤ N1)
    (hf : 1 ≤ R.frames) (hlo : (st.map fun v => v.category).sum + (nativeFrameWords "java/lang/System" "arraycopy" 5 + 11) ≤ R.locals)
    (kk : sv_V p l e R s m args below meth c D cl A nL ad Q (pc + 3) lv st (ws.set a1 (.inl (cJ, N1, .inr (.inl (va_cpy f g sp.toNatClampNeg dp.toNatClampNeg nn.toNatClampNeg))))) k n) :
    sv_V p l e R s m args below meth c D cl A nL ad Q pc lv (.int nn :: .int dp :: .ref a1 :: .int sp :: .ref a0 :: st) ws k n := by
  intro H locs ls hP hD hS hl
  have hsz : c.maxLocals = ls.size := by
    obtain ⟨l0, h9, -⟩ := hl
    rw [h9.1, C.2.2.1]
  refine va_copyl C.1 C.2.1 hsz C.2.2.2.1 (C.2.2.2.2.1 _ hlk) (C.2.2.2.2.1 _ hnat) (C.2.2.2.2.1 _ hst) (C.2.2.2.2.1 _ hini) C.2.2.2.2.2.1 hP hD hS a0 a1 t0 t0 (sv_w_at h0) (sv_w_at h1) ht ht rfl q1 q2 q3 q4 q5 (fun _ _ => rfl) hf (by rw [sv_cats]; exact hlo) hd (fun H1 locs1 hP1 hD1 hS1 => ?_)
  have e1 := sv_w_put ad ws a1 (.inl (cJ, N1, .inr (.inl (va_cpy f g sp.toNatClampNeg dp.toNatClampNeg nn.toNatClampNeg))))
  exact kk H1 locs1 ls (e1 ▸ hP1) (e1 ▸ hD1) hS1 hl
end
theorem sv_same {ws : List va_E} {w : Nat} {x : va_E} (h : ws[w]? = some x) : ws.set w x = ws := by
  obtain ⟨hl, he⟩ := List.getElem?_eq_some_iff.mp h
  rw [← he]
  exact List.set_getElem_self hl
theorem sv_lt {ws : List va_E} {w : Nat} {x : va_E} (h : ws[w]? = some x) : w < ws.length := (List.getElem?_eq_some_iff.mp h).1
abbrev sv_J (cJ : ClassId) (N : Nat) (f : Nat → Int64) : va_E := .inl (cJ, N, .inr (.inl f))
abbrev sv_I (cI : ClassId) (N : Nat) (f : Nat → Int32) : va_E := .inl (cI, N, .inl f)
theorem sy_n : Cond.native arraycopyName ∈ sv_T := sv_in 388 (by decide +kernel) rfl
theorem sy_s : Cond.static arraycopyName ∈ sv_T := sv_in 387 (by decide +kernel) rfl
theorem sy_i : Cond.initialized "java/lang/System" ∈ sv_T := sv_in 14 (by decide +kernel) rfl
theorem sy_l : Cond.methodLink "StateLogic$Sets" 21 arraycopyName ∈ sv_T := sv_in 386 (by decide +kernel) rfl
set_option maxRecDepth 100000 in
set_option maxHeartbeats 4000000 in
theorem c_Lo_bitCount {l : Launch} {D : va_G} {cI cJ cZ : ClassId} {ws : List va_E} {x : Int64} :
    sv_M l y_Lo_bitCount [Cond.code y_Lo_bitCount b_Lo_bitCount 2 (some .int)] ({ frames := 0, cells := 0, slots := 0, locals := 0 } : Room) D sv_cl (sv_ty cI cJ cZ) [.long x] ws 0 0 (fun v ws' => v = some (.int (nI (pb_cnt x))) ∧ ws' = ws) sv_no 0 0 := by
  refine sv_of (cc := b_Lo_bitCount) (by decide +kernel) (Nat.le_of_ble_eq_true rfl) ?_
  intro p e s m args below meth c A ad C htab hnm
  refine sv_lload_n C d_Lo_bitCount_0 rfl rfl ?_
  refine sv_lload_n C d_Lo_bitCount_1 rfl rfl ?_
  refine sv_iconst (v := 1) C d_Lo_bitCount_2 rfl ?_
  refine sv_lushr C d_Lo_bitCount_3 ?_
  refine sv_ldc2 C g_Lo_314 d_Lo_bitCount_4 ?_
  refine sv_land C d_Lo_bitCount_7 ?_
  refine sv_lsub C d_Lo_bitCount_8 ?_
  refine sv_topl (fun i1 e1 => ?_)
  refine sv_lstore_n C d_Lo_bitCount_9 rfl (by decide) rfl ?_
  refine sv_lload_n C d_Lo_bitCount_10 rfl rfl ?_
  refine sv_ldc2 C g_Lo_316 d_Lo_bitCount_11 ?_
  refine sv_land C d_Lo_bitCount_14 ?_
  refine sv_lload_n C d_Lo_bitCount_15 rfl rfl ?_
  refine sv_iconst (v := 2) C d_Lo_bitCount_16 rfl ?_
  refine sv_lushr C d_Lo_bitCount_17 ?_
  refine sv_ldc2 C g_Lo_316 d_Lo_bitCount_18 ?_
  refine sv_land C d_Lo_bitCount_21 ?_
  refine sv_ladd C d_Lo_bitCount_22 ?_
  refine sv_topl (fun i2 e2 => ?_)
  refine sv_lstore_n C d_Lo_bitCount_23 rfl (by decide) rfl ?_
  refine sv_lload_n C d_Lo_bitCount_24 rfl rfl ?_
  refine sv_lload_n C d_Lo_bitCount_25 rfl rfl ?_
  refine sv_iconst (v := 4) C d_Lo_bitCount_26 rfl ?_
  refine sv_lushr C d_Lo_bitCount_27 ?_
  refine sv_ladd C d_Lo_bitCount_28 ?_
  refine sv_ldc2 C g_Lo_318 d_Lo_bitCount_29 ?_
  refine sv_land C d_Lo_bitCount_32 ?_
  refine sv_topl (fun i3 e3 => ?_)
  refine sv_lstore_n C d_Lo_bitCount_33 rfl (by decide) rfl ?_
  refine sv_lload_n C d_Lo_bitCount_34 rfl rfl ?_
  refine sv_lload_n C d_Lo_bitCount_35 rfl rfl ?_
  refine sv_bipush (v := 8) C d_Lo_bitCount_36 rfl ?_
  refine sv_lushr C d_Lo_bitCount_38 ?_
  refine sv_ladd C d_Lo_bitCount_39 ?_
  refine sv_topl (fun i4 e4 => ?_)
  refine sv_lstore_n C d_Lo_bitCount_40 rfl (by decide) rfl ?_
  refine sv_lload_n C d_Lo_bitCount_41 rfl rfl ?_
  refine sv_lload_n C d_Lo_bitCount_42 rfl rfl ?_
  refine sv_bipush (v := 16) C d_Lo_bitCount_43 rfl ?_
  refine sv_lushr C d_Lo_bitCount_45 ?_
  refine sv_ladd C d_Lo_bitCount_46 ?_
  refine sv_topl (fun i5 e5 => ?_)
  refine sv_lstore_n C d_Lo_bitCount_47 rfl (by decide) rfl ?_
  refine sv_lload_n C d_Lo_bitCount_48 rfl rfl ?_
  refine sv_lload_n C d_Lo_bitCount_49 rfl rfl ?_
  refine sv_bipush (v := 32) C d_Lo_bitCount_50 rfl ?_
  refine sv_lushr C d_Lo_bitCount_52 ?_
  refine sv_ladd C d_Lo_bitCount_53 ?_
  refine sv_topl (fun i6 e6 => ?_)
  refine sv_lstore_n C d_Lo_bitCount_54 rfl (by decide) rfl ?_
  refine sv_lload_n C d_Lo_bitCount_55 rfl rfl ?_
  refine sv_l2i C d_Lo_bitCount_56 ?_
  refine sv_bipush (v := 127) C d_Lo_bitCount_57 rfl ?_
  refine sv_iand C d_Lo_bitCount_59 ?_
  exact sv_iret C rfl rfl d_Lo_bitCount_60 (Nat.le_of_ble_eq_true rfl) (Nat.le_of_ble_eq_true rfl) (fun _ _ => rfl) (⟨by rw [pb_go e1 e2 e3 e4 e5 e6], rfl⟩)
def ss_fil (f : Nat → Int64) (i : Nat) (v : Int64) : Nat → Int64 := fun j => if j < i then v else f j
theorem ss_fil_s (f : Nat → Int64) (i : Nat) (v : Int64) : vp_updL (ss_fil f i v) i v = ss_fil f (i + 1) v := by
  funext j
  unfold vp_updL ss_fil
  by_cases e : j = i
  · subst e
    simp
  · by_cases h : j < i
    · have h2 : j < i + 1 := by omega
      simp [e, h, h2]
    · have h2 : ¬ j < i + 1 := by omega
      simp [e, h, h2]
set_option maxRecDepth 100000 in
set_option maxHeartbeats 4000000 in
theorem c_Ar_fill {l : Launch} {D : va_G} {cI cJ cZ : ClassId} {ws : List va_E} {w N : Nat} {f : Nat → Int64} {v : Int64} (hw : ws[w]? = some (.inl (cJ, N, .inr (.inl f)))) (hN : N < 2 ^ 20) :
    sv_M l y_Ar_fill [Cond.code y_Ar_fill b_Ar_fill 5 none] ({ frames := 0, cells := 0, slots := 0, locals := 0 } : Room) D sv_cl (sv_ty cI cJ cZ) [.ref w, .long v] ws 0 0 (fun r ws' => r = none ∧ ws' = ws.set w (.inl (cJ, N, .inr (.inl (ss_fil f N v))))) sv_no 0 0 := by
  refine sv_of (cc := b_Ar_fill) (by decide +kernel) (Nat.le_of_ble_eq_true rfl) ?_
  intro p e s m args below meth c A ad C htab hnm
  have hlt := sv_lt hw
  have hz : ws = ws.set w (sv_J cJ N (ss_fil f 0 v)) := by
    have h1 : ss_fil f 0 v = f := funext (fun j => by simp [ss_fil])
    rw [h1]
    exact (sv_same hw).symm
  refine sv_iconst (v := 0) C d_Ar_fill_0 rfl ?_
  refine sv_istore_n C d_Ar_fill_1 rfl (by decide) rfl ?_
  refine sv_aload_n C d_Ar_fill_2 rfl rfl ?_
  refine sv_alen (t0 := 1) C rfl d_Ar_fill_3 (by first | assumption | rfl) rfl ?_
  refine sv_istore C d_Ar_fill_4 (by decide) rfl ?_
  refine sv_eqw hz ?_
  refine sv_ind (σ := Nat) (I := fun i => i ≤ N) (μ := fun i => N - i) (lv := fun i => [some (.ref w), some (.long v), none, some (.int (nI i)), some (.int (nI N))]) (ws := fun i => ws.set w (sv_J cJ N (ss_fil f i v))) ?_ 0 (Nat.zero_le _)
  intro i hi ih
  have hg : (ws.set w (sv_J cJ N (ss_fil f i v)))[w]? = some (sv_J cJ N (ss_fil f i v)) := List.getElem?_set_self hlt
  refine sv_iload_n C d_Ar_fill_6 rfl rfl ?_
  refine sv_iload C d_Ar_fill_7 rfl ?_
  refine sv_icmp_ge (tgt := 22) C d_Ar_fill_9 (by decide) (fun hT => ?_) (fun hF => ?_)
  · have h1 : N ≤ i := (nI_leI (by omega) (by omega)).mp hT
    have h2 : i = N := by omega
    subst h2
    exact sv_vret C rfl d_Ar_fill_22 (Nat.le_of_ble_eq_true rfl) (Nat.le_of_ble_eq_true rfl) (fun _ _ => rfl) (⟨rfl, rfl⟩)
  · have h1 : ¬ N ≤ i := fun h => hF ((nI_leI (by omega) (by omega)).mpr h)
    have hin : vp_in (nI i) N := vp_in_nI (by omega) (by omega)
    refine sv_aload_n C d_Ar_fill_12 rfl rfl ?_
    refine sv_iload_n C d_Ar_fill_13 rfl rfl ?_
    refine sv_lload_n C d_Ar_fill_14 rfl rfl ?_
    refine sv_last (t0 := 1) C rfl d_Ar_fill_15 (by first | assumption | rfl) (by assumption) ?_
    refine sv_eqw (ws' := ws.set w (sv_J cJ N (ss_fil f (i + 1) v))) (by rw [List.set_set, nI_clamp (by omega), ss_fil_s]) ?_
    refine sv_iincN C d_Ar_fill_16 rfl (by decide) rfl ?_
    refine sv_goto (tgt := 6) C d_Ar_fill_19 (by decide) ?_
    exact ih (i + 1) (by show i + 1 ≤ N; omega) (by show N - (i + 1) < N - i; omega)
set_option maxRecDepth 100000 in
set_option maxHeartbeats 4000000 in
theorem c_St_emptyAll {l : Launch} {D : va_G} {cI cJ cZ : ClassId} {ws : List va_E} {b w N : Nat} {f : Nat → Int64} (hb : ws[b]? = some (.inr (3, [.ref w]))) (hw : ws[w]? = some (sv_J cJ N f)) (hN : N < 2 ^ 20) :
    sv_M l y_St_emptyAll [Cond.code y_St_emptyAll b_St_emptyAll 1 none] ({ frames := 1, cells := 0, slots := 0, locals := 24 } : Room) D sv_cl (sv_ty cI cJ cZ) [.ref b] ws 0 0 (fun r ws' => r = none ∧ ws' = ws.set w (sv_J cJ N (ss_fil f N 0))) sv_no 0 0 := by
  refine sv_of (cc := b_St_emptyAll) (by decide +kernel) (Nat.le_of_ble_eq_true rfl) ?_
  intro p e s m args below meth c A ad C htab hnm
  refine sv_aload_n C d_St_emptyAll_0 rfl rfl ?_
  refine sv_get (ci := 3) (kf := 0) C i_St rfl (by decide) f_St_11 (fun _ h9 => h9) d_St_emptyAll_1 (by first | assumption | rfl) rfl ?_
  refine sv_lconst (v := 0) C d_St_emptyAll_4 rfl ?_
  refine sv_callS C (c_Ar_fill (cI := cI) (cZ := cZ) (v := 0) hw hN) s_St_15 kt_Ar_fill ⟨rfl, rfl, Nat.le_of_ble_eq_true rfl, Nat.le_of_ble_eq_true rfl⟩ d_St_emptyAll_5 (Nat.le_of_ble_eq_true rfl) ⟨(Nat.le_of_ble_eq_true rfl), (Nat.le_of_ble_eq_true rfl)⟩ (fun E ws9 h9 => absurd h9 id) (fun v9 ws9 hp => ?_)
  obtain ⟨rfl, rfl⟩ := hp
  exact sv_vret C rfl d_St_emptyAll_8 (Nat.le_of_ble_eq_true rfl) (Nat.le_of_ble_eq_true rfl) (fun _ _ => rfl) (⟨rfl, rfl⟩)
set_option maxRecDepth 100000 in
set_option maxHeartbeats 4000000 in
theorem c_St_copy {l : Launch} {D : va_G} {cI cJ cZ : ClassId} {ws : List va_E} {b w N a b' w' N' a' : Nat} {f g : Nat → Int64} (hb : ws[b]? = some (.inr (3, [.ref w]))) (hw : ws[w]? = some (sv_J cJ N f)) (ha : a * 4 + 3 < N) (hN : N < 2 ^ 20) (hb' : ws[b']? = some (.inr (3, [.ref w']))) (hw' : ws[w']? = some (sv_J cJ N' g)) (ha' : a' * 4 + 3 < N') (hN' : N' < 2 ^ 20) :
    sv_M l y_St_copy [Cond.code y_St_copy b_St_copy 4 none] ({ frames := 1, cells := 0, slots := 0, locals := 60 } : Room) D sv_cl (sv_ty cI cJ cZ) [.ref b, .int (nI a), .ref b', .int (nI a')] ws 0 0 (fun r ws' => r = none ∧ ws' = ws.set w (sv_J cJ N (va_cpy g f (a' * 4) (a * 4) 4))) sv_no 0 0 := by
  refine sv_of (cc := b_St_copy) (by decide +kernel) (Nat.le_of_ble_eq_true rfl) ?_
  intro p e s m args below meth c A ad C htab hnm
  have e1 : nI a * 4 = nI (a * 4) := pk_mul a 4
  have e2 : nI a' * 4 = nI (a' * 4) := pk_mul a' 4
  have g1 : (nI a * 4).toNatClampNeg = a * 4 := by rw [e1]; exact nI_clamp (by omega)
  have g2 : (nI a' * 4).toNatClampNeg = a' * 4 := by rw [e2]; exact nI_clamp (by omega)
  have g3 : (4 : Int32).toNatClampNeg = 4 := by decide
  refine sv_aload_n C d_St_copy_0 rfl rfl ?_
  refine sv_get (ci := 3) (kf := 0) C i_St rfl (by decide) f_St_11 (fun _ h9 => h9) d_St_copy_1 (by first | assumption | rfl) rfl ?_
  refine sv_iload_n C d_St_copy_4 rfl rfl ?_
  refine sv_iconst (v := 4) C d_St_copy_5 rfl ?_
  refine sv_imul C d_St_copy_6 ?_
  refine sv_aload_n C d_St_copy_7 rfl rfl ?_
  refine sv_get (ci := 3) (kf := 0) C i_St rfl (by decide) f_St_11 (fun _ h9 => h9) d_St_copy_8 (by first | assumption | rfl) rfl ?_
  refine sv_iload_n C d_St_copy_11 rfl rfl ?_
  refine sv_iconst (v := 4) C d_St_copy_12 rfl ?_
  refine sv_imul C d_St_copy_13 ?_
  refine sv_iconst (v := 4) C d_St_copy_14 rfl ?_
  refine sv_copyl (t0 := 1) C sy_l sy_n sy_s sy_i rfl d_St_copy_15 hw' hw (by rw [e2]; exact nI_pos (by omega)) (by rw [e1]; exact nI_pos (by omega)) (by decide) (by rw [g2, g3]; omega) (by rw [g1, g3]; omega) (Nat.le_of_ble_eq_true rfl) (Nat.le_of_ble_eq_true rfl) ?_
  rw [g1, g2, g3]
  exact sv_vret C rfl d_St_copy_18 (Nat.le_of_ble_eq_true rfl) (Nat.le_of_ble_eq_true rfl) (fun _ _ => rfl) (⟨rfl, rfl⟩)
end
section
/-! StateLogic$Sets: empty, size, meets, leastFrom, takeShared -/
theorem g_cnt_add (O : Nat → Bool) (a b : Nat) : g_cnt O (a + b) = g_cnt O a + g_cnt (fun j => O (a + j)) b := by
  induction b with
  | zero => rfl
  | succ b ih =>
    show g_cnt O (a + b) + (if O (a + b) = true then 1 else 0) = g_cnt O a + (g_cnt (fun j => O (a + j)) b + (if O (a + b) = true then 1 else 0))
    rw [ih, Nat.add_assoc]
theorem ss_ij (a i : Nat) : nI a * 4 + nI i = nI (a * 4 + i) := by rw [show (4 : Int32) = nI 4 from rfl, pk_mul, nI_add]
theorem ss_jin {a i N : Nat} (hi : i < 4) (ha : a * 4 + 3 < N) (hN : N < 2 ^ 20) : vp_in (nI a * 4 + nI i) N := by
  rw [ss_ij]
  exact vp_in_nI (by omega) (by omega)
theorem ss_jcl {a i N : Nat} (hi : i < 4) (ha : a * 4 + 3 < N) (hN : N < 2 ^ 20) : (nI a * 4 + nI i).toNatClampNeg = a * 4 + i := by
  rw [ss_ij]
  exact nI_clamp (by omega)
def ss_clr (f : Nat → Int64) (a i : Nat) : Nat → Int64 := fun j => if a * 4 ≤ j ∧ j < a * 4 + i then 0 else f j
theorem ss_clr_s (f : Nat → Int64) (a i : Nat) : vp_updL (ss_clr f a i) (a * 4 + i) 0 = ss_clr f a (i + 1) := by
  funext j
  unfold vp_updL ss_clr
  by_cases e : j = a * 4 + i
  · have h2 : a * 4 ≤ j ∧ j < a * 4 + (i + 1) := by omega
    rw [if_pos e, if_pos h2]
  · by_cases h : a * 4 ≤ j ∧ j < a * 4 + i
    · have h2 : a * 4 ≤ j ∧ j < a * 4 + (i + 1) := by omega
      rw [if_neg e, if_pos h, if_pos h2]
    · have h2 : ¬ (a * 4 ≤ j ∧ j < a * 4 + (i + 1)) := by omega
      rw [if_neg e, if_neg h, if_neg h2]
theorem ss_clr_b (f : Nat → Int64) (a c z : Nat) (hz : z < 256) : ss_b (ss_clr f a 4) c z = (ss_b f c z && !decide (c = a)) := by
  unfold ss_b ss_clr
  by_cases e : c = a
  · subst e
    have h : c * 4 ≤ c * 4 + z / 64 ∧ c * 4 + z / 64 < c * 4 + 4 := by omega
    rw [if_pos h, ss_0]
    simp
  · have h : ¬ (a * 4 ≤ c * 4 + z / 64 ∧ c * 4 + z / 64 < a * 4 + 4) := by omega
    rw [if_neg h]
    simp [e]
set_option maxRecDepth 100000 in
set_option maxHeartbeats 4000000 in
theorem c_St_empty {l : Launch} {D : va_G} {cI cJ cZ : ClassId} {ws : List va_E} {b w N a : Nat} {f : Nat → Int64} (hb : ws[b]? = some (.inr (3, [.ref w]))) (hw : ws[w]? = some (sv_J cJ N f)) (ha : a * 4 + 3 < N) (hN : N < 2 ^ 20) :
    sv_M l y_St_empty [Cond.code y_St_empty b_St_empty 3 none] ({ frames := 0, cells := 0, slots := 0, locals := 0 } : Room) D sv_cl (sv_ty cI cJ cZ) [.ref b, .int (nI a)] ws 0 0 (fun r ws' => r = none ∧ ws' = ws.set w (sv_J cJ N (ss_clr f a 4))) sv_no 0 0 := by
  refine sv_of (cc := b_St_empty) (by decide +kernel) (Nat.le_of_ble_eq_true rfl) ?_
  intro p e s m args below meth c A ad C htab hnm
  have hlt := sv_lt hw
  have hbw : b ≠ w := fun h => by rw [h, hw] at hb; cases hb
  have hz : ws = ws.set w (sv_J cJ N (ss_clr f a 0)) := by
    have h1 : ss_clr f a 0 = f := funext (fun j => by
      have h : ¬ (a * 4 ≤ j ∧ j < a * 4 + 0) := by omega
      unfold ss_clr
      rw [if_neg h])
    rw [h1]
    exact (sv_same hw).symm
  refine sv_iconst (v := 0) C d_St_empty_0 rfl ?_
  refine sv_istore_n C d_St_empty_1 rfl (by decide) rfl ?_
  refine sv_eqw hz ?_
  refine sv_ind (σ := Nat) (I := fun i => i ≤ 4) (μ := fun i => 4 - i) (lv := fun i => [some (.ref b), some (.int (nI a)), some (.int (nI i))]) (ws := fun i => ws.set w (sv_J cJ N (ss_clr f a i))) ?_ 0 (Nat.zero_le _)
  intro i hi ih
  have hg : (ws.set w (sv_J cJ N (ss_clr f a i)))[w]? = some (sv_J cJ N (ss_clr f a i)) := List.getElem?_set_self hlt
  have hg2 : (ws.set w (sv_J cJ N (ss_clr f a i)))[b]? = some (.inr (3, [.ref w])) := by rw [List.getElem?_set_ne (fun h => hbw h.symm)]; exact hb
  refine sv_iload_n C d_St_empty_2 rfl rfl ?_
  refine sv_iconst (v := 4) C d_St_empty_3 rfl ?_
  refine sv_icmp_ge (tgt := 24) C d_St_empty_4 (by decide) (fun hT => ?_) (fun hF => ?_)
  · have h1 : nI 4 ≤ nI i := hT
    have h1 : 4 ≤ i := (nI_leI (by omega) (by omega)).mp h1
    have h2 : i = 4 := by omega
    subst h2
    exact sv_vret C rfl d_St_empty_24 (Nat.le_of_ble_eq_true rfl) (Nat.le_of_ble_eq_true rfl) (fun _ _ => rfl) (⟨rfl, rfl⟩)
  · have h1 : ¬ 4 ≤ i := fun h => hF ((nI_leI (a := 4) (b := i) (by omega) (by omega)).mpr h)
    have hin := ss_jin (a := a) (i := i) (by omega) ha hN
    refine sv_aload_n C d_St_empty_7 rfl rfl ?_
    refine sv_get (ci := 3) (kf := 0) C i_St rfl (by decide) f_St_11 (fun _ h9 => h9) d_St_empty_8 (by first | assumption | rfl) rfl ?_
    refine sv_iload_n C d_St_empty_11 rfl rfl ?_
    refine sv_iconst (v := 4) C d_St_empty_12 rfl ?_
    refine sv_imul C d_St_empty_13 ?_
    refine sv_iload_n C d_St_empty_14 rfl rfl ?_
    refine sv_iadd C d_St_empty_15 ?_
    refine sv_lconst (v := 0) C d_St_empty_16 rfl ?_
    refine sv_last (t0 := 1) C rfl d_St_empty_17 (by first | assumption | rfl) (by assumption) ?_
    refine sv_eqw (ws' := ws.set w (sv_J cJ N (ss_clr f a (i + 1)))) (by rw [List.set_set, ss_jcl (by omega) ha hN, ss_clr_s]) ?_
    refine sv_iincN C d_St_empty_18 rfl (by decide) rfl ?_
    refine sv_goto (tgt := 2) C d_St_empty_21 (by decide) ?_
    exact ih (i + 1) (by show i + 1 ≤ 4; omega) (by show 4 - (i + 1) < 4 - i; omega)
def ss_tot (f : Nat → Int64) (a : Nat) : Nat → Nat
  | 0 => 0
  | i + 1 => ss_tot f a i + pb_cnt (f (a * 4 + i))
theorem ss_tot_b (f : Nat → Int64) (a : Nat) : ∀ i, i ≤ 4 → g_cnt (fun x => ss_b f a x) (64 * i) = ss_tot f a i
  | 0, _ => rfl
  | i + 1, h => by
    have ih := ss_tot_b f a i (by omega)
    have e1 : 64 * (i + 1) = 64 * i + 64 := by omega
    rw [e1, g_cnt_add, ih]
    show _ + _ = ss_tot f a i + pb_cnt (f (a * 4 + i))
    congr 1
    refine g_cnt_congr 64 (fun j hj => ?_)
    unfold ss_b
    have h1 : (64 * i + j) / 64 = i := by omega
    have h2 : (64 * i + j) % 64 = j := by omega
    rw [h1, h2]
theorem ss_tot_le (f : Nat → Int64) (a : Nat) : ∀ i, ss_tot f a i ≤ 64 * i
  | 0 => Nat.le_refl _
  | i + 1 => by
    have h1 := ss_tot_le f a i
    have h2 : pb_cnt (f (a * 4 + i)) ≤ 64 := g_cnt_le _ 64
    show ss_tot f a i + pb_cnt (f (a * 4 + i)) ≤ _
    omega
set_option maxRecDepth 100000 in
set_option maxHeartbeats 4000000 in
theorem c_St_size {l : Launch} {D : va_G} {cI cJ cZ : ClassId} {ws : List va_E} {b w N a : Nat} {f : Nat → Int64} (hb : ws[b]? = some (.inr (3, [.ref w]))) (hw : ws[w]? = some (sv_J cJ N f)) (ha : a * 4 + 3 < N) (hN : N < 2 ^ 20) :
    sv_M l y_St_size [Cond.code y_St_size b_St_size 4 (some .int)] ({ frames := 1, cells := 0, slots := 0, locals := 21 } : Room) D sv_cl (sv_ty cI cJ cZ) [.ref b, .int (nI a)] ws 0 0 (fun r ws' => r = some (.int (nI (g_cnt (fun x => ss_b f a x) 256))) ∧ ws' = ws) sv_no 0 0 := by
  refine sv_of (cc := b_St_size) (by decide +kernel) (Nat.le_of_ble_eq_true rfl) ?_
  intro p e s m args below meth c A ad C htab hnm
  refine sv_iconst (v := 0) C d_St_size_0 rfl ?_
  refine sv_istore_n C d_St_size_1 rfl (by decide) rfl ?_
  refine sv_iconst (v := 0) C d_St_size_2 rfl ?_
  refine sv_istore_n C d_St_size_3 rfl (by decide) rfl ?_
  refine sv_ind (σ := Nat) (I := fun i => i ≤ 4) (μ := fun i => 4 - i) (lv := fun i => [some (.ref b), some (.int (nI a)), some (.int (nI (ss_tot f a i))), some (.int (nI i))]) (ws := fun _ => ws) ?_ 0 (Nat.zero_le _)
  intro i hi ih
  refine sv_iload_n C d_St_size_4 rfl rfl ?_
  refine sv_iconst (v := 4) C d_St_size_5 rfl ?_
  refine sv_icmp_ge (tgt := 31) C d_St_size_6 (by decide) (fun hT => ?_) (fun hF => ?_)
  · have h1 : 4 ≤ i := (nI_leI (a := 4) (b := i) (by omega) (by omega)).mp hT
    have h2 : i = 4 := by omega
    subst h2
    refine sv_iload_n C d_St_size_31 rfl rfl ?_
    exact sv_iret C rfl rfl d_St_size_32 (Nat.le_of_ble_eq_true rfl) (Nat.le_of_ble_eq_true rfl) (fun _ _ => rfl) (⟨by rw [← ss_tot_b f a 4 (by omega)], rfl⟩)
  · have h1 : ¬ 4 ≤ i := fun h => hF ((nI_leI (a := 4) (b := i) (by omega) (by omega)).mpr h)
    have hin := ss_jin (a := a) (i := i) (by omega) ha hN
    refine sv_iload_n C d_St_size_9 rfl rfl ?_
    refine sv_aload_n C d_St_size_10 rfl rfl ?_
    refine sv_get (ci := 3) (kf := 0) C i_St rfl (by decide) f_St_11 (fun _ h9 => h9) d_St_size_11 (by first | assumption | rfl) rfl ?_
    refine sv_iload_n C d_St_size_14 rfl rfl ?_
    refine sv_iconst (v := 4) C d_St_size_15 rfl ?_
    refine sv_imul C d_St_size_16 ?_
    refine sv_iload_n C d_St_size_17 rfl rfl ?_
    refine sv_iadd C d_St_size_18 ?_
    refine sv_lald (t0 := 1) C rfl d_St_size_19 (by first | assumption | rfl) (by assumption) ?_
    refine sv_callS C (c_Lo_bitCount (cI := cI) (cJ := cJ) (cZ := cZ)) s_St_29 kt_Lo_bitCount ⟨rfl, rfl, Nat.le_of_ble_eq_true rfl, Nat.le_of_ble_eq_true rfl⟩ d_St_size_20 (Nat.le_of_ble_eq_true rfl) ⟨(Nat.le_of_ble_eq_true rfl), (Nat.le_of_ble_eq_true rfl)⟩ (fun E ws9 h9 => absurd h9 id) (fun v9 ws9 hp => ?_)
    obtain ⟨rfl, rfl⟩ := hp
    refine sv_iadd C d_St_size_23 ?_
    refine sv_eqs (st' := [.int (nI (ss_tot f a (i + 1)))]) (by rw [ss_jcl (by omega) ha hN, nI_add]; rfl) ?_
    refine sv_istore_n C d_St_size_24 rfl (by decide) rfl ?_
    refine sv_iincN C d_St_size_25 rfl (by decide) rfl ?_
    refine sv_goto (tgt := 4) C d_St_size_28 (by decide) ?_
    exact ih (i + 1) (by show i + 1 ≤ 4; omega) (by show 4 - (i + 1) < 4 - i; omega)
theorem ss_any (w v : Int64) : (w &&& v) = 0 ↔ ∀ j, j < 64 → ¬ (w.toBitVec.getLsbD j = true ∧ v.toBitVec.getLsbD j = true) := by
  constructor
  · intro h j hj hb
    have h1 := ss_and w v j
    rw [h, ss_0, hb.1, hb.2] at h1
    cases h1
  · intro h
    refine wb_inj (BitVec.eq_of_getLsbD_eq (fun i hi => ?_))
    rw [ss_0, ss_and]
    have h1 := h i hi
    cases ha : w.toBitVec.getLsbD i <;> cases hb : v.toBitVec.getLsbD i <;> simp_all
theorem ss_at (f : Nat → Int64) (a i j : Nat) (hj : j < 64) : ss_b f a (64 * i + j) = (f (a * 4 + i)).toBitVec.getLsbD j := by
  unfold ss_b
  have h1 : (64 * i + j) / 64 = i := by omega
  have h2 : (64 * i + j) % 64 = j := by omega
  rw [h1, h2]
/-- no state of both below z -/
def ss_apart (f : Nat → Int64) (a : Nat) (g : Nat → Int64) (a' z : Nat) : Prop := ∀ x, x < z → ¬ (ss_b f a x = true ∧ ss_b g a' x = true)
theorem ss_apart_s {f g : Nat → Int64} {a a' i : Nat} (h : ss_apart f a g a' (64 * i)) (h0 : (f (a * 4 + i) &&& g (a' * 4 + i)) = 0) : ss_apart f a g a' (64 * (i + 1)) := by
  intro x hx
  by_cases hlt : x < 64 * i
  · exact h x hlt
  · have e : x = 64 * i + (x - 64 * i) := by omega
    rw [e, ss_at _ _ _ _ (by omega), ss_at _ _ _ _ (by omega)]
    exact (ss_any _ _).mp h0 _ (by omega)
set_option maxRecDepth 100000 in
set_option maxHeartbeats 4000000 in
theorem c_St_meets {l : Launch} {D : va_G} {cI cJ cZ : ClassId} {ws : List va_E} {b w N a b' w' N' a' : Nat} {f g : Nat → Int64} (hb : ws[b]? = some (.inr (3, [.ref w]))) (hw : ws[w]? = some (sv_J cJ N f)) (ha : a * 4 + 3 < N) (hN : N < 2 ^ 20) (hb' : ws[b']? = some (.inr (3, [.ref w']))) (hw' : ws[w']? = some (sv_J cJ N' g)) (ha' : a' * 4 + 3 < N') (hN' : N' < 2 ^ 20) :
    sv_M l y_St_meets [Cond.code y_St_meets b_St_meets 5 (some .boolean)] ({ frames := 0, cells := 0, slots := 0, locals := 0 } : Room) D sv_cl (sv_ty cI cJ cZ) [.ref b, .int (nI a), .ref b', .int (nI a')] ws 0 0 (fun r ws' => ∃ t : Bool, r = some (.int (if t = true then 1 else 0)) ∧ (t = true ↔ ∃ x, x < 256 ∧ ss_b f a x = true ∧ ss_b g a' x = true) ∧ ws' = ws) sv_no 0 0 := by
  refine sv_of (cc := b_St_meets) (by decide +kernel) (Nat.le_of_ble_eq_true rfl) ?_
  intro p e s m args below meth c A ad C htab hnm
  refine sv_iconst (v := 0) C d_St_meets_0 rfl ?_
  refine sv_istore C d_St_meets_1 (by decide) rfl ?_
  refine sv_ind (σ := Nat) (I := fun i => i ≤ 4 ∧ ss_apart f a g a' (64 * i)) (μ := fun i => 4 - i) (lv := fun i => [some (.ref b), some (.int (nI a)), some (.ref b'), some (.int (nI a')), some (.int (nI i))]) (ws := fun _ => ws) ?_ 0 ⟨Nat.zero_le _, fun x hx => absurd hx (by omega)⟩
  rintro i ⟨hi, hap⟩ ih
  refine sv_iload C d_St_meets_3 rfl ?_
  refine sv_iconst (v := 4) C d_St_meets_5 rfl ?_
  refine sv_icmp_ge (tgt := 45) C d_St_meets_6 (by decide) (fun hT => ?_) (fun hF => ?_)
  · have h1 : 4 ≤ i := (nI_leI (a := 4) (b := i) (by omega) (by omega)).mp hT
    have h2 : i = 4 := by omega
    subst h2
    refine sv_iconst (v := 0) C d_St_meets_45 rfl ?_
    exact sv_iret C rfl rfl d_St_meets_46 (Nat.le_of_ble_eq_true rfl) (Nat.le_of_ble_eq_true rfl) (fun _ _ => rfl) (⟨false, rfl, ⟨fun h => absurd h (by decide), fun ⟨x, hx, h⟩ => absurd h (hap x hx)⟩, rfl⟩)
  · have h1 : ¬ 4 ≤ i := fun h => hF ((nI_leI (a := 4) (b := i) (by omega) (by omega)).mpr h)
    have hin := ss_jin (a := a) (i := i) (by omega) ha hN
    have hin' := ss_jin (a := a') (i := i) (by omega) ha' hN'
    refine sv_aload_n C d_St_meets_9 rfl rfl ?_
    refine sv_get (ci := 3) (kf := 0) C i_St rfl (by decide) f_St_11 (fun _ h9 => h9) d_St_meets_10 (by first | assumption | rfl) rfl ?_
    refine sv_iload_n C d_St_meets_13 rfl rfl ?_
    refine sv_iconst (v := 4) C d_St_meets_14 rfl ?_
    refine sv_imul C d_St_meets_15 ?_
    refine sv_iload C d_St_meets_16 rfl ?_
    refine sv_iadd C d_St_meets_18 ?_
    refine sv_lald (t0 := 1) C rfl d_St_meets_19 (by first | assumption | rfl) (by assumption) ?_
    refine sv_aload_n C d_St_meets_20 rfl rfl ?_
    refine sv_get (ci := 3) (kf := 0) C i_St rfl (by decide) f_St_11 (fun _ h9 => h9) d_St_meets_21 (by first | assumption | rfl) rfl ?_
    refine sv_iload_n C d_St_meets_24 rfl rfl ?_
    refine sv_iconst (v := 4) C d_St_meets_25 rfl ?_
    refine sv_imul C d_St_meets_26 ?_
    refine sv_iload C d_St_meets_27 rfl ?_
    refine sv_iadd C d_St_meets_29 ?_
    refine sv_lald (t0 := 1) C rfl d_St_meets_30 (by first | assumption | rfl) (by assumption) ?_
    refine sv_land C d_St_meets_31 ?_
    refine sv_lconst (v := 0) C d_St_meets_32 rfl ?_
    refine sv_lcmp C d_St_meets_33 ?_
    refine sv_if_eq (tgt := 39) C d_St_meets_34 (by decide) (fun hT2 => ?_) (fun hF2 => ?_)
    · have h3 := (ss_cmp _ _).mp hT2
      rw [ss_jcl (by omega) ha hN, ss_jcl (by omega) ha' hN'] at h3
      refine sv_iincN C d_St_meets_39 rfl (by decide) rfl ?_
      refine sv_goto (tgt := 3) C d_St_meets_42 (by decide) ?_
      exact ih (i + 1) ⟨by omega, ss_apart_s hap h3⟩ (by show 4 - (i + 1) < 4 - i; omega)
    · have h3 : ¬ (f (a * 4 + i) &&& g (a' * 4 + i)) = 0 := fun h => hF2 ((ss_cmp _ _).mpr (by rw [ss_jcl (by omega) ha hN, ss_jcl (by omega) ha' hN']; exact h))
      have h4 : ∃ j, j < 64 ∧ (f (a * 4 + i)).toBitVec.getLsbD j = true ∧ (g (a' * 4 + i)).toBitVec.getLsbD j = true := by
        refine Classical.byContradiction (fun hn => h3 ((ss_any _ _).mpr (fun j hj hb => hn ⟨j, hj, hb⟩)))
      obtain ⟨j, hj, hb1, hb2⟩ := h4
      refine sv_iconst (v := 1) C d_St_meets_37 rfl ?_
      exact sv_iret C rfl rfl d_St_meets_38 (Nat.le_of_ble_eq_true rfl) (Nat.le_of_ble_eq_true rfl) (fun _ _ => rfl) (⟨true, rfl, ⟨fun _ => ⟨64 * i + j, by omega, by rw [ss_at _ _ _ _ hj]; exact hb1, by rw [ss_at _ _ _ _ hj]; exact hb2⟩, fun _ => rfl⟩, rfl⟩)
end
section
/-! StateLogic$Sets: leastFrom, takeShared -/
theorem ss_sl : ∀ k, k < 64 → ∀ j, j < 64 → ((-1 : Int64) <<< ((nI k).toInt64 &&& 63)).toBitVec.getLsbD j = decide (k ≤ j) := by decide +kernel
theorem ss_pc : ∀ k, k < 64 → pb_cnt (lN (2 ^ k) - 1) = k := by decide +kernel
theorem ss_64 (i k : Nat) : nI i * 64 + nI k = nI (64 * i + k) := by rw [show (64 : Int32) = nI 64 from rfl, pk_mul, nI_add, Nat.mul_comm]
/-- the least state of set a from x on, or none -/
def ss_least (f : Nat → Int64) (a x : Nat) (r : Option Value) : Prop :=
  (r = some (.int (-1)) ∧ ∀ z, x ≤ z → z < 256 → ss_b f a z = false) ∨ ∃ y, r = some (.int (nI y)) ∧ y < 256 ∧ x ≤ y ∧ ss_b f a y = true ∧ ∀ z, x ≤ z → z < y → ss_b f a z = false
set_option maxRecDepth 100000 in
set_option maxHeartbeats 4000000 in
theorem c_St_leastFrom {l : Launch} {D : va_G} {cI cJ cZ : ClassId} {ws : List va_E} {b w N a x : Nat} {f : Nat → Int64} (hb : ws[b]? = some (.inr (3, [.ref w]))) (hw : ws[w]? = some (sv_J cJ N f)) (ha : a * 4 + 3 < N) (hN : N < 2 ^ 20) (hx : x ≤ 256) :
    sv_M l y_St_leastFrom [Cond.code y_St_leastFrom b_St_leastFrom 8 (some .int)] ({ frames := 1, cells := 0, slots := 0, locals := 21 } : Room) D sv_cl (sv_ty cI cJ cZ) [.ref b, .int (nI a), .int (nI x)] ws 0 0 (fun r ws' => ss_least f a x r ∧ ws' = ws) sv_no 0 0 := by
  refine sv_of (cc := b_St_leastFrom) (by decide +kernel) (Nat.le_of_ble_eq_true rfl) ?_
  intro p e s m args below meth c A ad C htab hnm
  refine sv_ldc2 C g_St_27 d_St_leastFrom_0 ?_
  refine sv_iload_n C d_St_leastFrom_3 rfl rfl ?_
  refine sv_bipush (v := 63) C d_St_leastFrom_4 rfl ?_
  refine sv_iand C d_St_leastFrom_6 ?_
  refine sv_lshl C d_St_leastFrom_7 ?_
  refine sv_topl (fun w0 e0 => ?_)
  refine sv_lstore_n C d_St_leastFrom_8 rfl (by decide) rfl ?_
  refine sv_iload_n C d_St_leastFrom_9 rfl rfl ?_
  refine sv_bipush (v := 6) C d_St_leastFrom_10 rfl ?_
  refine sv_ishr C d_St_leastFrom_12 ?_
  refine sv_eqs (st' := [.int (nI (x / 64))]) (by rw [pk_shrN (by omega) _ 6 (by decide)]) ?_
  refine sv_istore C d_St_leastFrom_13 (by decide) rfl ?_
  have hw0 : ∀ j, j < 64 → w0.toBitVec.getLsbD j = decide (x ≤ 64 * (x / 64) + j) := by
    intro j hj
    have e1 : nI x &&& 63 = nI (x % 64) := pk_andN (by omega) 6 (by decide)
    rw [e0, e1, ss_sl (x % 64) (by omega) j hj]
    by_cases h : x % 64 ≤ j
    · have h2 : x ≤ 64 * (x / 64) + j := by omega
      simp [h, h2]
    · have h2 : ¬ x ≤ 64 * (x / 64) + j := by omega
      simp [h, h2]
  refine sv_ind (σ := Nat × Int64) (I := fun q => q.1 ≤ 4 ∧ x / 64 ≤ q.1 ∧ (∀ j, j < 64 → q.2.toBitVec.getLsbD j = decide (x ≤ 64 * q.1 + j)) ∧ ∀ z, x ≤ z → z < 64 * q.1 → ss_b f a z = false) (μ := fun q => 4 - q.1) (lv := fun q => [some (.ref b), some (.int (nI a)), some (.int (nI x)), some (.long q.2), none, some (.int (nI q.1)), none, none]) (ws := fun _ => ws) ?_ (x / 64, w0) ⟨by show x / 64 ≤ 4; omega, Nat.le_refl _, hw0, fun z h1 h2 => absurd h2 (by show ¬ z < 64 * (x / 64); omega)⟩
  rintro ⟨i, v⟩ ⟨hi, hxi, hv, hno⟩ ih
  dsimp only at hi hxi hv hno
  refine sv_iload C d_St_leastFrom_15 rfl ?_
  refine sv_iconst (v := 4) C d_St_leastFrom_17 rfl ?_
  refine sv_icmp_ge (tgt := 71) C d_St_leastFrom_18 (by decide) (fun hT => ?_) (fun hF => ?_)
  · have h1 : 4 ≤ i := (nI_leI (a := 4) (b := i) (by omega) (by omega)).mp hT
    refine sv_iconst (v := (-1)) C d_St_leastFrom_71 rfl ?_
    exact sv_iret C rfl rfl d_St_leastFrom_72 (Nat.le_of_ble_eq_true rfl) (Nat.le_of_ble_eq_true rfl) (fun _ _ => rfl) (⟨Or.inl ⟨rfl, fun z h1 h2 => hno z h1 (by omega)⟩, rfl⟩)
  · have h1 : ¬ 4 ≤ i := fun h => hF ((nI_leI (a := 4) (b := i) (by omega) (by omega)).mpr h)
    have hin := ss_jin (a := a) (i := i) (by omega) ha hN
    refine sv_aload_n C d_St_leastFrom_21 rfl rfl ?_
    refine sv_get (ci := 3) (kf := 0) C i_St rfl (by decide) f_St_11 (fun _ h9 => h9) d_St_leastFrom_22 (by first | assumption | rfl) rfl ?_
    refine sv_iload_n C d_St_leastFrom_25 rfl rfl ?_
    refine sv_iconst (v := 4) C d_St_leastFrom_26 rfl ?_
    refine sv_imul C d_St_leastFrom_27 ?_
    refine sv_iload C d_St_leastFrom_28 rfl ?_
    refine sv_iadd C d_St_leastFrom_30 ?_
    refine sv_lald (t0 := 1) C rfl d_St_leastFrom_31 (by first | assumption | rfl) (by assumption) ?_
    refine sv_lload_n C d_St_leastFrom_32 rfl rfl ?_
    refine sv_land C d_St_leastFrom_33 ?_
    refine sv_topl (fun r er => ?_)
    rw [ss_jcl (by omega) ha hN] at er
    refine sv_lstore C d_St_leastFrom_34 (by decide) rfl ?_
    refine sv_lload C d_St_leastFrom_36 rfl ?_
    refine sv_lconst (v := 0) C d_St_leastFrom_38 rfl ?_
    refine sv_lcmp C d_St_leastFrom_39 ?_
    refine sv_if_eq (tgt := 61) C d_St_leastFrom_40 (by decide) (fun hT2 => ?_) (fun hF2 => ?_)
    · have h3 := (ss_cmp _ _).mp hT2
      rw [er] at h3
      refine sv_ldc2 C g_St_27 d_St_leastFrom_61 ?_
      refine sv_lstore_n C d_St_leastFrom_64 rfl (by decide) rfl ?_
      refine sv_iincN C d_St_leastFrom_65 rfl (by decide) rfl ?_
      refine sv_goto (tgt := 15) C d_St_leastFrom_68 (by decide) ?_
      refine sv_drop [true, true, true, true, false, true, false, false] ?_
      refine ih (i + 1, -1) ⟨by show i + 1 ≤ 4; omega, by show x / 64 ≤ i + 1; omega, fun j hj => ?_, fun z hz1 hz2 => ?_⟩ (by show 4 - (i + 1) < 4 - i; omega)
      · have h4 : x ≤ 64 * (i + 1) + j := by omega
        show (-1 : Int64).toBitVec.getLsbD j = decide (x ≤ 64 * (i + 1) + j)
        rw [ss_m1 hj]
        simp [h4]
      · have hz2 : z < 64 * (i + 1) := hz2
        by_cases hlt : z < 64 * i
        · exact hno z hz1 hlt
        · have e : z = 64 * i + (z - 64 * i) := by omega
          have h5 := (ss_any _ _).mp h3 (z - 64 * i) (by omega)
          rw [hv _ (by omega), ← e, ← ss_at f a i _ (by omega), ← e] at h5
          cases hc : ss_b f a z with
          | false => rfl
          | true => exact absurd ⟨hc, by simp [hz1]⟩ h5
    · have h3 : r ≠ 0 := fun h => hF2 ((ss_cmp _ _).mpr h)
      obtain ⟨k, hk, hk1, hk2, hk3⟩ := ss_low h3
      have hrb : ∀ j, j < 64 → r.toBitVec.getLsbD j = (ss_b f a (64 * i + j) && decide (x ≤ 64 * i + j)) := by
        intro j hj
        rw [er, ss_and, hv j hj, ss_at _ _ _ _ hj]
      have hk1' := hrb k hk
      rw [hk1] at hk1'
      have hk4 : ss_b f a (64 * i + k) = true ∧ x ≤ 64 * i + k := by
        have h9 := hk1'.symm
        simp only [Bool.and_eq_true, decide_eq_true_eq] at h9
        exact h9
      refine sv_iload C d_St_leastFrom_43 rfl ?_
      refine sv_bipush (v := 64) C d_St_leastFrom_45 rfl ?_
      refine sv_imul C d_St_leastFrom_47 ?_
      refine sv_lload C d_St_leastFrom_48 rfl ?_
      refine sv_lload C d_St_leastFrom_50 rfl ?_
      refine sv_lneg C d_St_leastFrom_52 ?_
      refine sv_land C d_St_leastFrom_53 ?_
      refine sv_lconst (v := 1) C d_St_leastFrom_54 rfl ?_
      refine sv_lsub C d_St_leastFrom_55 ?_
      refine sv_callS C (c_Lo_bitCount (cI := cI) (cJ := cJ) (cZ := cZ)) s_St_29 kt_Lo_bitCount ⟨rfl, rfl, Nat.le_of_ble_eq_true rfl, Nat.le_of_ble_eq_true rfl⟩ d_St_leastFrom_56 (Nat.le_of_ble_eq_true rfl) ⟨(Nat.le_of_ble_eq_true rfl), (Nat.le_of_ble_eq_true rfl)⟩ (fun E ws9 h9 => absurd h9 id) (fun v9 ws9 hp => ?_)
      obtain ⟨rfl, rfl⟩ := hp
      rw [hk3, ss_pc k hk]
      refine sv_iadd C d_St_leastFrom_59 ?_
      refine sv_eqs (st' := [.int (nI (64 * i + k))]) (by rw [ss_64]) ?_
      refine sv_iret C rfl rfl d_St_leastFrom_60 (Nat.le_of_ble_eq_true rfl) (Nat.le_of_ble_eq_true rfl) (fun _ _ => rfl) (⟨Or.inr ⟨64 * i + k, rfl, by omega, hk4.2, hk4.1, fun z hz1 hz2 => ?_⟩, rfl⟩)
      by_cases hlt : z < 64 * i
      · exact hno z hz1 hlt
      · have e : z = 64 * i + (z - 64 * i) := by omega
        have h5 := hrb (z - 64 * i) (by omega)
        rw [hk2 _ (by omega), ← e] at h5
        cases hc : ss_b f a z with
        | false => rfl
        | true =>
          rw [hc] at h5
          simp [hz1] at h5
theorem ss_tk {f : Nat → Int64} {a i k : Nat} (hi : i < 4) (hk : k < 64) (hb : (f (a * 4 + i)).toBitVec.getLsbD k = true) (c z : Nat) (hz : z < 256) : ss_b (vp_updL f (a * 4 + i) (f (a * 4 + i) ^^^ lN (2 ^ k))) c z = (ss_b f c z && !(decide (c = a) && decide (z = 64 * i + k))) := by
  unfold ss_b
  by_cases e : c * 4 + z / 64 = a * 4 + i
  · rw [e, pk_uLs, ss_xor, ss_pw hk (by omega)]
    have h1 : c = a := by omega
    by_cases e2 : z % 64 = k
    · have h2 : z = 64 * i + k := by omega
      rw [e2, hb, h1, h2]
      simp
    · have h2 : z ≠ 64 * i + k := by omega
      simp [e2, h2]
  · rw [pk_uLn e]
    have h2 : ¬ (c = a ∧ z = 64 * i + k) := by omega
    by_cases h3 : c = a
    · have h4 : z ≠ 64 * i + k := fun h => h2 ⟨h3, h⟩
      simp [h4]
    · simp [h3]
set_option maxRecDepth 100000 in
set_option maxHeartbeats 4000000 in
theorem c_St_takeShared {l : Launch} {D : va_G} {cI cJ cZ : ClassId} {ws : List va_E} {b w N a b' w' N' a' : Nat} {f g : Nat → Int64} (hb : ws[b]? = some (.inr (3, [.ref w]))) (hw : ws[w]? = some (sv_J cJ N f)) (ha : a * 4 + 3 < N) (hN : N < 2 ^ 20) (hb' : ws[b']? = some (.inr (3, [.ref w']))) (hw' : ws[w']? = some (sv_J cJ N' g)) (ha' : a' * 4 + 3 < N') (hN' : N' < 2 ^ 20) :
    sv_M l y_St_takeShared [Cond.code y_St_takeShared b_St_takeShared 9 (some .int)] ({ frames := 1, cells := 0, slots := 0, locals := 21 } : Room) D sv_cl (sv_ty cI cJ cZ) [.ref b, .int (nI a), .ref b', .int (nI a')] ws 0 0 (fun r ws' => (r = some (.int (-1)) ∧ ss_apart f a g a' 256 ∧ ws' = ws) ∨ ∃ (x : Nat) (f' : Nat → Int64), r = some (.int (nI x)) ∧ x < 256 ∧ ss_b f a x = true ∧ ss_b g a' x = true ∧ ss_apart f a g a' x ∧ ws' = ws.set w (sv_J cJ N f') ∧ ∀ c z, z < 256 → ss_b f' c z = (ss_b f c z && !(decide (c = a) && decide (z = x)))) sv_no 0 0 := by
  refine sv_of (cc := b_St_takeShared) (by decide +kernel) (Nat.le_of_ble_eq_true rfl) ?_
  intro p e s m args below meth c A ad C htab hnm
  have hlt := sv_lt hw
  have hbw : b ≠ w := fun h => by rw [h, hw] at hb; cases hb
  refine sv_iconst (v := 0) C d_St_takeShared_0 rfl ?_
  refine sv_istore C d_St_takeShared_1 (by decide) rfl ?_
  refine sv_ind (σ := Nat) (I := fun i => i ≤ 4 ∧ ss_apart f a g a' (64 * i)) (μ := fun i => 4 - i) (lv := fun i => [some (.ref b), some (.int (nI a)), some (.ref b'), some (.int (nI a')), some (.int (nI i)), none, none, none, none]) (ws := fun _ => ws) ?_ 0 ⟨Nat.zero_le _, fun x hx => absurd hx (by omega)⟩
  rintro i ⟨hi, hap⟩ ih
  refine sv_iload C d_St_takeShared_3 rfl ?_
  refine sv_iconst (v := 4) C d_St_takeShared_5 rfl ?_
  refine sv_icmp_ge (tgt := 85) C d_St_takeShared_6 (by decide) (fun hT => ?_) (fun hF => ?_)
  · have h1 : 4 ≤ i := (nI_leI (a := 4) (b := i) (by omega) (by omega)).mp hT
    have h2 : i = 4 := by omega
    subst h2
    refine sv_iconst (v := (-1)) C d_St_takeShared_85 rfl ?_
    exact sv_iret C rfl rfl d_St_takeShared_86 (Nat.le_of_ble_eq_true rfl) (Nat.le_of_ble_eq_true rfl) (fun _ _ => rfl) (Or.inl ⟨rfl, hap, rfl⟩)
  · have h1 : ¬ 4 ≤ i := fun h => hF ((nI_leI (a := 4) (b := i) (by omega) (by omega)).mpr h)
    have hin := ss_jin (a := a) (i := i) (by omega) ha hN
    have hin' := ss_jin (a := a') (i := i) (by omega) ha' hN'
    refine sv_aload_n C d_St_takeShared_9 rfl rfl ?_
    refine sv_get (ci := 3) (kf := 0) C i_St rfl (by decide) f_St_11 (fun _ h9 => h9) d_St_takeShared_10 (by first | assumption | rfl) rfl ?_
    refine sv_iload_n C d_St_takeShared_13 rfl rfl ?_
    refine sv_iconst (v := 4) C d_St_takeShared_14 rfl ?_
    refine sv_imul C d_St_takeShared_15 ?_
    refine sv_iload C d_St_takeShared_16 rfl ?_
    refine sv_iadd C d_St_takeShared_18 ?_
    refine sv_lald (t0 := 1) C rfl d_St_takeShared_19 (by first | assumption | rfl) (by assumption) ?_
    refine sv_aload_n C d_St_takeShared_20 rfl rfl ?_
    refine sv_get (ci := 3) (kf := 0) C i_St rfl (by decide) f_St_11 (fun _ h9 => h9) d_St_takeShared_21 (by first | assumption | rfl) rfl ?_
    refine sv_iload_n C d_St_takeShared_24 rfl rfl ?_
    refine sv_iconst (v := 4) C d_St_takeShared_25 rfl ?_
    refine sv_imul C d_St_takeShared_26 ?_
    refine sv_iload C d_St_takeShared_27 rfl ?_
    refine sv_iadd C d_St_takeShared_29 ?_
    refine sv_lald (t0 := 1) C rfl d_St_takeShared_30 (by first | assumption | rfl) (by assumption) ?_
    refine sv_land C d_St_takeShared_31 ?_
    refine sv_topl (fun r er => ?_)
    rw [ss_jcl (by omega) ha hN, ss_jcl (by omega) ha' hN'] at er
    refine sv_lstore C d_St_takeShared_32 (by decide) rfl ?_
    refine sv_lload C d_St_takeShared_34 rfl ?_
    refine sv_lconst (v := 0) C d_St_takeShared_36 rfl ?_
    refine sv_lcmp C d_St_takeShared_37 ?_
    refine sv_if_eq (tgt := 79) C d_St_takeShared_38 (by decide) (fun hT2 => ?_) (fun hF2 => ?_)
    · have h3 := (ss_cmp _ _).mp hT2
      rw [er] at h3
      refine sv_iincN C d_St_takeShared_79 rfl (by decide) rfl ?_
      refine sv_goto (tgt := 3) C d_St_takeShared_82 (by decide) ?_
      refine sv_drop [true, true, true, true, true, false, false, false, false] ?_
      exact ih (i + 1) ⟨by omega, ss_apart_s hap h3⟩ (by show 4 - (i + 1) < 4 - i; omega)
    · have h3 : r ≠ 0 := fun h => hF2 ((ss_cmp _ _).mpr h)
      obtain ⟨k, hk, hk1, hk2, hk3⟩ := ss_low h3
      have hrb : ∀ j, j < 64 → r.toBitVec.getLsbD j = (ss_b f a (64 * i + j) && ss_b g a' (64 * i + j)) := by
        intro j hj
        rw [er, ss_and, ss_at _ _ _ _ hj, ss_at _ _ _ _ hj]
      have hk1' := hrb k hk
      rw [hk1] at hk1'
      have hk4 : ss_b f a (64 * i + k) = true ∧ ss_b g a' (64 * i + k) = true := by
        have h9 := hk1'.symm
        simp only [Bool.and_eq_true] at h9
        exact h9
      have hfk : (f (a * 4 + i)).toBitVec.getLsbD k = true := by rw [← ss_at f a i k hk]; exact hk4.1
      refine sv_lload C d_St_takeShared_41 rfl ?_
      refine sv_lload C d_St_takeShared_43 rfl ?_
      refine sv_lneg C d_St_takeShared_45 ?_
      refine sv_land C d_St_takeShared_46 ?_
      refine sv_topl (fun lo elo => ?_)
      rw [hk3] at elo
      refine sv_lstore C d_St_takeShared_47 (by decide) rfl ?_
      refine sv_aload_n C d_St_takeShared_49 rfl rfl ?_
      refine sv_get (ci := 3) (kf := 0) C i_St rfl (by decide) f_St_11 (fun _ h9 => h9) d_St_takeShared_50 (by first | assumption | rfl) rfl ?_
      refine sv_iload_n C d_St_takeShared_53 rfl rfl ?_
      refine sv_iconst (v := 4) C d_St_takeShared_54 rfl ?_
      refine sv_imul C d_St_takeShared_55 ?_
      refine sv_iload C d_St_takeShared_56 rfl ?_
      refine sv_iadd C d_St_takeShared_58 ?_
      refine sv_dup2 C d_St_takeShared_59 rfl rfl ?_
      refine sv_lald (t0 := 1) C rfl d_St_takeShared_60 (by first | assumption | rfl) (by assumption) ?_
      refine sv_lload C d_St_takeShared_61 rfl ?_
      refine sv_lxor C d_St_takeShared_63 ?_
      refine sv_last (t0 := 1) C rfl d_St_takeShared_64 (by first | assumption | rfl) (by assumption) ?_
      refine sv_iload C d_St_takeShared_65 rfl ?_
      refine sv_bipush (v := 64) C d_St_takeShared_67 rfl ?_
      refine sv_imul C d_St_takeShared_69 ?_
      refine sv_lload C d_St_takeShared_70 rfl ?_
      refine sv_lconst (v := 1) C d_St_takeShared_72 rfl ?_
      refine sv_lsub C d_St_takeShared_73 ?_
      refine sv_callS C (c_Lo_bitCount (cI := cI) (cJ := cJ) (cZ := cZ)) s_St_29 kt_Lo_bitCount ⟨rfl, rfl, Nat.le_of_ble_eq_true rfl, Nat.le_of_ble_eq_true rfl⟩ d_St_takeShared_74 (Nat.le_of_ble_eq_true rfl) ⟨(Nat.le_of_ble_eq_true rfl), (Nat.le_of_ble_eq_true rfl)⟩ (fun E ws9 h9 => absurd h9 id) (fun v9 ws9 hp => ?_)
      obtain ⟨rfl, rfl⟩ := hp
      rw [elo, ss_pc k hk]
      refine sv_iadd C d_St_takeShared_77 ?_
      refine sv_eqs (st' := [.int (nI (64 * i + k))]) (by rw [ss_64]) ?_
      rw [ss_jcl (by omega) ha hN]
      refine sv_iret C rfl rfl d_St_takeShared_78 (Nat.le_of_ble_eq_true rfl) (Nat.le_of_ble_eq_true rfl) (fun _ _ => rfl) (Or.inr ⟨64 * i + k, _, rfl, by omega, hk4.1, hk4.2, fun z hz hbz => ?_, rfl, fun c z hz => ss_tk (by omega) hk hfk c z hz⟩)
      by_cases hlt2 : z < 64 * i
      · exact hap z hlt2 hbz
      · have e : z = 64 * i + (z - 64 * i) := by omega
        have h5 := hrb (z - 64 * i) (by omega)
        rw [hk2 _ (by omega), ← e, hbz.1, hbz.2] at h5
        cases h5
end
section
/-! The class's cells in their places; StateLogic$Machine -/
def hu {α : Type} (F : Nat → α) (i : Nat) (x : α) : Nat → α := fun j => if j = i then x else F j
theorem hu_s {α : Type} (F : Nat → α) (i : Nat) (x : α) : hu F i x i = x := if_pos rfl
theorem hu_n {α : Type} {F : Nat → α} {i j : Nat} {x : α} (h : j ≠ i) : hu F i x j = F j := if_neg h
theorem hu_same {α : Type} (F : Nat → α) (i : Nat) : hu F i (F i) = F := funext (fun j => by
  by_cases h : j = i
  · rw [h, hu_s]
  · rw [hu_n h])
theorem hu_hu {α : Type} (F : Nat → α) (i : Nat) (x y : α) : hu (hu F i x) i y = hu F i y := funext (fun j => by
  by_cases h : j = i
  · rw [h, hu_s, hu_s]
  · rw [hu_n h, hu_n h, hu_n h])
theorem hu_sw {α : Type} (F : Nat → α) {i j : Nat} (x y : α) (hij : i ≠ j) : hu (hu F i x) j y = hu (hu F j y) i x := funext (fun k => by
  unfold hu
  by_cases h : k = j
  · have h2 : k ≠ i := fun q => hij (q.symm.trans h)
    simp [h]
    intro q
    exact absurd q.symm hij
  · simp [h])
/-- L: all, successors, predecessors, open, truth; I: found, distances, path, ended, kinds, xs, ys, settledAt, wanted; V: states, rules, foundCount, made, measured -/
def hC (cI cJ cZ : ClassId) (L : Nat → Nat → Int64) (I : Nat → Nat → Int32) (V : Nat → Int32) (tl : List va_E) : List va_E :=
  .inr (4, [.ref 1, .ref 8]) :: .inr (1, [.ref 2, .ref 4, .ref 6, .int (V 0), .int (V 1)]) :: .inr (3, [.ref 3]) :: sv_J cJ 4 (L 0) :: .inr (3, [.ref 5]) :: sv_J cJ 1024 (L 1) :: .inr (3, [.ref 7]) :: sv_J cJ 1024 (L 2) ::
  .inr (0, [.ref 1, .ref 9, .ref 16, .ref 18, .ref 19, .ref 20, .ref 21, .ref 22, .int (V 3), .int (V 4)]) :: .inr (2, [.ref 10, .ref 12, .ref 13, .ref 14, .ref 15, .int (V 2)]) :: .inr (3, [.ref 11]) :: sv_J cJ 4 (L 3) ::
  sv_I cI 256 (I 0) :: sv_I cI 256 (I 1) :: sv_I cI 256 (I 2) :: sv_I cI 256 (I 3) :: .inr (3, [.ref 17]) :: sv_J cJ 240 (L 4) :: sv_I cI 60 (I 4) :: sv_I cI 60 (I 5) :: sv_I cI 60 (I 6) :: sv_I cI 60 (I 7) :: sv_I cZ 60 (I 8) :: tl
set_option maxRecDepth 100000 in
set_option maxHeartbeats 4000000 in
theorem c_Ma_isState {l : Launch} {D : va_G} {cI cJ cZ : ClassId} {L : Nat → Nat → Int64} {I : Nat → Nat → Int32} {V : Nat → Int32} {tl : List va_E} {x : Int32} :
    sv_M l y_Ma_isState [Cond.code y_Ma_isState b_Ma_isState 2 (some .boolean)] ({ frames := 0, cells := 0, slots := 0, locals := 0 } : Room) D sv_cl (sv_ty cI cJ cZ) [.ref 1, .int x] (hC cI cJ cZ L I V tl) 0 0 (fun r ws' => r = some (.int (if 0 ≤ x ∧ x < V 0 then 1 else 0)) ∧ ws' = hC cI cJ cZ L I V tl) sv_no 0 0 := by
  refine sv_of (cc := b_Ma_isState) (by decide +kernel) (Nat.le_of_ble_eq_true rfl) ?_
  intro pX eX sX mX aX bX tX cX AX adX C htab hnm
  refine sv_iload_n C d_Ma_isState_0 rfl rfl ?_
  refine sv_if_lt (tgt := 16) C d_Ma_isState_1 (by decide) (fun hT => ?_) (fun hF => ?_)
  · have h : ¬ (0 ≤ x ∧ x < V 0) := fun h => absurd hT (Int32.not_lt.mpr h.1)
    refine sv_iconst (v := 0) C d_Ma_isState_16 rfl ?_
    exact sv_iret C rfl rfl d_Ma_isState_17 (Nat.le_of_ble_eq_true rfl) (Nat.le_of_ble_eq_true rfl) (fun _ _ => rfl) (by rw [if_neg h]; exact ⟨rfl, rfl⟩)
  · refine sv_iload_n C d_Ma_isState_4 rfl rfl ?_
    refine sv_aload_n C d_Ma_isState_5 rfl rfl ?_
    refine sv_get (ci := 1) (kf := 3) C i_Ma rfl (by decide) f_Ma_29 (fun _ h9 => h9) d_Ma_isState_6 (by first | assumption | rfl) rfl ?_
    refine sv_icmp_ge (tgt := 16) C d_Ma_isState_9 (by decide) (fun hT2 => ?_) (fun hF2 => ?_)
    · have h : ¬ (0 ≤ x ∧ x < V 0) := fun h => absurd hT2 (Int32.not_le.mpr h.2)
      refine sv_iconst (v := 0) C d_Ma_isState_16 rfl ?_
      exact sv_iret C rfl rfl d_Ma_isState_17 (Nat.le_of_ble_eq_true rfl) (Nat.le_of_ble_eq_true rfl) (fun _ _ => rfl) (by rw [if_neg h]; exact ⟨rfl, rfl⟩)
    · have h : 0 ≤ x ∧ x < V 0 := ⟨Int32.not_lt.mp hF, Int32.not_le.mp hF2⟩
      refine sv_iconst (v := 1) C d_Ma_isState_12 rfl ?_
      refine sv_goto (tgt := 17) C d_Ma_isState_13 (by decide) ?_
      exact sv_iret C rfl rfl d_Ma_isState_17 (Nat.le_of_ble_eq_true rfl) (Nat.le_of_ble_eq_true rfl) (fun _ _ => rfl) (by rw [if_pos h]; exact ⟨rfl, rfl⟩)
theorem ss_fil_b (f : Nat → Int64) (N a z : Nat) (hz : z < 256) (h : a * 4 + 3 < N) : ss_b (ss_fil f N 0) a z = false := by
  unfold ss_b ss_fil
  have h1 : a * 4 + z / 64 < N := by omega
  rw [if_pos h1, ss_0]
theorem ma_sh : ∀ k, k < 9 → (1 : Int32) <<< (nI k &&& 31) = nI (2 ^ k) := by decide +kernel
set_option maxRecDepth 100000 in
set_option maxHeartbeats 4000000 in
theorem c_Ma_restart {l : Launch} {D : va_G} {cI cJ cZ : ClassId} {L : Nat → Nat → Int64} {I : Nat → Nat → Int32} {V : Nat → Int32} {tl : List va_E} {k : Nat} (hk : k ≤ 8) :
    sv_M l y_Ma_restart [Cond.code y_Ma_restart b_Ma_restart 3 none] ({ frames := 2, cells := 0, slots := 0, locals := 44 } : Room) D sv_cl (sv_ty cI cJ cZ) [.ref 1, .int (nI k)] (hC cI cJ cZ L I V tl) 0 0 (fun r ws' => r = none ∧ ∃ f0 f1 f2 : Nat → Int64, ws' = hC cI cJ cZ (hu (hu (hu L 0 f0) 1 f1) 2 f2) I (hu (hu V 0 (nI (2 ^ k))) 1 0) tl ∧ (∀ z, z < 256 → ss_b f0 0 z = decide (z < 2 ^ k)) ∧ (∀ a z, a < 256 → z < 256 → ss_b f1 a z = false) ∧ ∀ a z, a < 256 → z < 256 → ss_b f2 a z = false) sv_no 0 0 := by
  refine sv_of (cc := b_Ma_restart) (by decide +kernel) (Nat.le_of_ble_eq_true rfl) ?_
  intro pX eX sX mX aX bX tX cX AX adX C htab hnm
  have hp8 : 2 ^ k ≤ 256 := by
    have h := Nat.pow_le_pow_right (n := 2) (by omega) hk
    exact h
  have hp1 : 0 < 2 ^ k := Nat.two_pow_pos k
  refine sv_aload_n C d_Ma_restart_0 rfl rfl ?_
  refine sv_iconst (v := 1) C d_Ma_restart_1 rfl ?_
  refine sv_iload_n C d_Ma_restart_2 rfl rfl ?_
  refine sv_ishl C d_Ma_restart_3 ?_
  rw [ma_sh k (by omega)]
  refine sv_put (ci := 1) (kf := 3) (ty := .int) C i_Ma t_Ma t_Ma_ok n_Ma rfl (by decide) f_Ma_29 (fun _ h9 => h9) rfl (by decide +kernel) d_Ma_restart_4 (by first | assumption | rfl) rfl rfl (Nat.le_of_ble_eq_true rfl) ?_
  refine sv_aload_n C d_Ma_restart_7 rfl rfl ?_
  refine sv_iconst (v := 0) C d_Ma_restart_8 rfl ?_
  refine sv_put (ci := 1) (kf := 4) (ty := .int) C i_Ma t_Ma t_Ma_ok n_Ma rfl (by decide) f_Ma_33 (fun _ h9 => h9) rfl (by decide +kernel) d_Ma_restart_9 (by first | assumption | rfl) rfl rfl (Nat.le_of_ble_eq_true rfl) ?_
  refine sv_aload_n C d_Ma_restart_12 rfl rfl ?_
  refine sv_get (ci := 1) (kf := 0) C i_Ma rfl (by decide) f_Ma_14 (fun _ h9 => h9) d_Ma_restart_13 (by first | assumption | rfl) rfl ?_
  refine sv_eqw (ws' := hC cI cJ cZ L I (hu (hu V 0 (nI (2 ^ k))) 1 0) tl) rfl ?_
  refine sv_callV (ci := 3) C (c_St_emptyAll (cI := cI) (cZ := cZ) (ws := hC cI cJ cZ L I (hu (hu V 0 (nI (2 ^ k))) 1 0) tl) (b := 2) (w := 3) (N := 4) (f := L 0) rfl rfl (by decide)) s_Ma_36 ki_St_emptyAll ks_St_emptyAll ⟨rfl, rfl, Nat.le_of_ble_eq_true rfl, Nat.le_of_ble_eq_true rfl⟩ rfl d_Ma_restart_16 (by first | assumption | rfl) (Nat.le_of_ble_eq_true rfl) ⟨(Nat.le_of_ble_eq_true rfl), (Nat.le_of_ble_eq_true rfl)⟩ (fun E ws9 h9 => absurd h9 id) (fun v9 ws9 hp => ?_)
  obtain ⟨rfl, rfl⟩ := hp
  refine sv_aload_n C d_Ma_restart_19 rfl rfl ?_
  refine sv_get (ci := 1) (kf := 1) C i_Ma rfl (by decide) f_Ma_20 (fun _ h9 => h9) d_Ma_restart_20 (by first | assumption | rfl) rfl ?_
  refine sv_eqw (ws' := hC cI cJ cZ (hu L 0 (ss_fil (L 0) 4 0)) I (hu (hu V 0 (nI (2 ^ k))) 1 0) tl) rfl ?_
  refine sv_callV (ci := 3) C (c_St_emptyAll (cI := cI) (cZ := cZ) (ws := hC cI cJ cZ (hu L 0 (ss_fil (L 0) 4 0)) I (hu (hu V 0 (nI (2 ^ k))) 1 0) tl) (b := 4) (w := 5) (N := 1024) (f := L 1) rfl rfl (by decide)) s_Ma_36 ki_St_emptyAll ks_St_emptyAll ⟨rfl, rfl, Nat.le_of_ble_eq_true rfl, Nat.le_of_ble_eq_true rfl⟩ rfl d_Ma_restart_23 (by first | assumption | rfl) (Nat.le_of_ble_eq_true rfl) ⟨(Nat.le_of_ble_eq_true rfl), (Nat.le_of_ble_eq_true rfl)⟩ (fun E ws9 h9 => absurd h9 id) (fun v9 ws9 hp => ?_)
  obtain ⟨rfl, rfl⟩ := hp
  refine sv_aload_n C d_Ma_restart_26 rfl rfl ?_
  refine sv_get (ci := 1) (kf := 2) C i_Ma rfl (by decide) f_Ma_23 (fun _ h9 => h9) d_Ma_restart_27 (by first | assumption | rfl) rfl ?_
  refine sv_eqw (ws' := hC cI cJ cZ (hu (hu L 0 (ss_fil (L 0) 4 0)) 1 (ss_fil (L 1) 1024 0)) I (hu (hu V 0 (nI (2 ^ k))) 1 0) tl) rfl ?_
  refine sv_callV (ci := 3) C (c_St_emptyAll (cI := cI) (cZ := cZ) (ws := hC cI cJ cZ (hu (hu L 0 (ss_fil (L 0) 4 0)) 1 (ss_fil (L 1) 1024 0)) I (hu (hu V 0 (nI (2 ^ k))) 1 0) tl) (b := 6) (w := 7) (N := 1024) (f := L 2) rfl rfl (by decide)) s_Ma_36 ki_St_emptyAll ks_St_emptyAll ⟨rfl, rfl, Nat.le_of_ble_eq_true rfl, Nat.le_of_ble_eq_true rfl⟩ rfl d_Ma_restart_30 (by first | assumption | rfl) (Nat.le_of_ble_eq_true rfl) ⟨(Nat.le_of_ble_eq_true rfl), (Nat.le_of_ble_eq_true rfl)⟩ (fun E ws9 h9 => absurd h9 id) (fun v9 ws9 hp => ?_)
  obtain ⟨rfl, rfl⟩ := hp
  refine sv_iconst (v := 0) C d_Ma_restart_33 rfl ?_
  refine sv_istore_n C d_Ma_restart_34 rfl (by decide) rfl ?_
  refine sv_eqw (ws' := hC cI cJ cZ (hu (hu (hu L 0 (ss_fil (L 0) 4 0)) 1 (ss_fil (L 1) 1024 0)) 2 (ss_fil (L 2) 1024 0)) I (hu (hu V 0 (nI (2 ^ k))) 1 0) tl) rfl ?_
  refine sv_ind (σ := Nat × (Nat → Int64)) (I := fun q => q.1 ≤ 2 ^ k ∧ ∀ z, z < 256 → ss_b q.2 0 z = decide (z < q.1)) (μ := fun q => 2 ^ k - q.1) (lv := fun q => [some (.ref 1), some (.int (nI k)), some (.int (nI q.1))]) (ws := fun q => hC cI cJ cZ (hu (hu (hu L 0 q.2) 1 (ss_fil (L 1) 1024 0)) 2 (ss_fil (L 2) 1024 0)) I (hu (hu V 0 (nI (2 ^ k))) 1 0) tl) ?_ (0, ss_fil (L 0) 4 0) ⟨Nat.zero_le _, fun z hz => by rw [ss_fil_b _ _ _ _ hz (by omega)]; simp⟩
  rintro ⟨i, f⟩ ⟨hi, hf⟩ ih
  dsimp only at hi hf
  refine sv_iload_n C d_Ma_restart_35 rfl rfl ?_
  refine sv_aload_n C d_Ma_restart_36 rfl rfl ?_
  refine sv_get (ci := 1) (kf := 3) C i_Ma rfl (by decide) f_Ma_29 (fun _ h9 => h9) d_Ma_restart_37 (by first | assumption | rfl) rfl ?_
  refine sv_icmp_ge (tgt := 58) C d_Ma_restart_40 (by decide) (fun hT => ?_) (fun hF => ?_)
  · have h1 : 2 ^ k ≤ i := (nI_leI (a := 2 ^ k) (b := i) (by omega) (by omega)).mp hT
    have h2 : i = 2 ^ k := by omega
    exact sv_vret C rfl d_Ma_restart_58 (Nat.le_of_ble_eq_true rfl) (Nat.le_of_ble_eq_true rfl) (fun _ _ => rfl) (⟨rfl, f, _, _, rfl, fun z hz => by rw [hf z hz, h2], fun a z ha hz => ss_fil_b _ _ _ _ hz (by omega), fun a z ha hz => ss_fil_b _ _ _ _ hz (by omega)⟩)
  · have h1 : ¬ 2 ^ k ≤ i := fun h => hF ((nI_leI (a := 2 ^ k) (b := i) (by omega) (by omega)).mpr h)
    refine sv_aload_n C d_Ma_restart_43 rfl rfl ?_
    refine sv_get (ci := 1) (kf := 0) C i_Ma rfl (by decide) f_Ma_14 (fun _ h9 => h9) d_Ma_restart_44 (by first | assumption | rfl) rfl ?_
    refine sv_iconst (v := 0) C d_Ma_restart_47 rfl ?_
    refine sv_iload_n C d_Ma_restart_48 rfl rfl ?_
    refine sv_callV (ci := 3) C (c_St_put (cI := cI) (cZ := cZ) (ws := hC cI cJ cZ (hu (hu (hu L 0 f) 1 (ss_fil (L 1) 1024 0)) 2 (ss_fil (L 2) 1024 0)) I (hu (hu V 0 (nI (2 ^ k))) 1 0) tl) (b := 2) (w := 3) (N := 4) (f := f) (a := 0) (x := i) rfl rfl (by decide) (by decide) (by omega)) s_Ma_39 ki_St_put ks_St_put ⟨rfl, rfl, Nat.le_of_ble_eq_true rfl, Nat.le_of_ble_eq_true rfl⟩ rfl d_Ma_restart_49 (by first | assumption | rfl) (Nat.le_of_ble_eq_true rfl) ⟨(Nat.le_of_ble_eq_true rfl), (Nat.le_of_ble_eq_true rfl)⟩ (fun E ws9 h9 => absurd h9 id) (fun v9 ws9 hp => ?_)
    obtain ⟨rfl, rfl⟩ := hp
    refine sv_iincN C d_Ma_restart_52 rfl (by decide) rfl ?_
    refine sv_goto (tgt := 35) C d_Ma_restart_55 (by decide) ?_
    refine ih (i + 1, ss_put f 0 i) ⟨by show i + 1 ≤ 2 ^ k; omega, fun z hz => ?_⟩ (by show 2 ^ k - (i + 1) < 2 ^ k - i; omega)
    show ss_b (ss_put f 0 i) 0 z = decide (z < i + 1)
    rw [ss_put_b f 0 i 0 z hz (by omega), hf z hz]
    by_cases e : z = i
    · simp [e]
    · by_cases h : z < i
      · have h2 : z < i + 1 := by omega
        simp [h, h2]
      · have h2 : ¬ z < i + 1 := by omega
        simp [e, h, h2]
end
section
/-! Machine.addRule -/
/-- the rule takes a to z -/
def ma_g (m v k f a z : Nat) : Bool := decide (a &&& m = v) && decide (z = (a &&& k) ^^^ f)
theorem ma_to {n a k f : Nat} (ha : a < 2 ^ n) (hf : f < 2 ^ n) : (a &&& k) ^^^ f < 2 ^ n := Nat.xor_lt_two_pow (Nat.lt_of_le_of_lt Nat.and_le_left ha) hf
set_option maxRecDepth 100000 in
set_option maxHeartbeats 4000000 in
theorem c_Ma_addRule {l : Launch} {D : va_G} {cI cJ cZ : ClassId} {L : Nat → Nat → Int64} {I : Nat → Nat → Int32} {V : Nat → Int32} {tl : List va_E} {n m v k f r : Nat} (hn : n ≤ 8) (hV0 : V 0 = nI (2 ^ n)) (hV1 : V 1 = nI r) (hm : m < 2 ^ n) (hv : v < 2 ^ n) (hk : k < 2 ^ n) (hf : f < 2 ^ n) :
    sv_M l y_Ma_addRule [Cond.code y_Ma_addRule b_Ma_addRule 7 (some .int)] ({ frames := 1, cells := 0, slots := 0, locals := 22 } : Room) D sv_cl (sv_ty cI cJ cZ) [.ref 1, .int (nI m), .int (nI v), .int (nI k), .int (nI f)] (hC cI cJ cZ L I V tl) 0 0 (fun q ws' => q = some (.int (nI r)) ∧ ∃ f1 f2 : Nat → Int64, ws' = hC cI cJ cZ (hu (hu L 1 f1) 2 f2) I (hu V 1 (nI (r + 1))) tl ∧ (∀ a z, a < 256 → z < 256 → ss_b f1 a z = (ss_b (L 1) a z || (decide (a < 2 ^ n) && ma_g m v k f a z))) ∧ ∀ a z, a < 256 → z < 256 → ss_b f2 z a = (ss_b (L 2) z a || (decide (a < 2 ^ n) && ma_g m v k f a z))) sv_no 0 0 := by
  refine sv_of (cc := b_Ma_addRule) (by decide +kernel) (Nat.le_of_ble_eq_true rfl) ?_
  intro pX eX sX mX aX bX tX cX AX adX C htab hnm
  have hp8 : 2 ^ n ≤ 256 := by
    have h := Nat.pow_le_pow_right (n := 2) (by omega) hn
    exact h
  refine sv_iconst (v := 0) C d_Ma_addRule_0 rfl ?_
  refine sv_istore C d_Ma_addRule_1 (by decide) rfl ?_
  refine sv_eqw (ws' := hC cI cJ cZ (hu (hu L 1 (L 1)) 2 (L 2)) I V tl) rfl ?_
  refine sv_ind (σ := Nat × (Nat → Int64) × (Nat → Int64)) (I := fun q => q.1 ≤ 2 ^ n ∧ (∀ a z, a < 256 → z < 256 → ss_b q.2.1 a z = (ss_b (L 1) a z || (decide (a < q.1) && ma_g m v k f a z))) ∧ ∀ a z, a < 256 → z < 256 → ss_b q.2.2 z a = (ss_b (L 2) z a || (decide (a < q.1) && ma_g m v k f a z))) (μ := fun q => 2 ^ n - q.1) (lv := fun q => [some (.ref 1), some (.int (nI m)), some (.int (nI v)), some (.int (nI k)), some (.int (nI f)), some (.int (nI q.1)), none]) (ws := fun q => hC cI cJ cZ (hu (hu L 1 q.2.1) 2 q.2.2) I V tl) ?_ (0, L 1, L 2) ⟨Nat.zero_le _, fun a z _ _ => by simp, fun a z _ _ => by simp⟩
  rintro ⟨i, f1, f2⟩ ⟨hi, h1, h2⟩ ih
  dsimp only at hi h1 h2
  refine sv_iload C d_Ma_addRule_3 rfl ?_
  refine sv_aload_n C d_Ma_addRule_5 rfl rfl ?_
  refine sv_get (ci := 1) (kf := 3) C i_Ma rfl (by decide) f_Ma_29 (fun _ h9 => h9) d_Ma_addRule_6 (by first | assumption | rfl) rfl ?_
  rw [hV0]
  refine sv_icmp_ge (tgt := 57) C d_Ma_addRule_9 (by decide) (fun hT => ?_) (fun hF => ?_)
  · have hi2 : 2 ^ n ≤ i := (nI_leI (a := 2 ^ n) (b := i) (by omega) (by omega)).mp hT
    have hie : i = 2 ^ n := by omega
    subst hie
    refine sv_aload_n C d_Ma_addRule_57 rfl rfl ?_
    refine sv_dup C d_Ma_addRule_58 rfl ?_
    refine sv_get (ci := 1) (kf := 4) C i_Ma rfl (by decide) f_Ma_33 (fun _ h9 => h9) d_Ma_addRule_59 (by first | assumption | rfl) rfl ?_
    refine sv_iconst (v := 1) C d_Ma_addRule_62 rfl ?_
    refine sv_iadd C d_Ma_addRule_63 ?_
    refine sv_put (ci := 1) (kf := 4) (ty := .int) C i_Ma t_Ma t_Ma_ok n_Ma rfl (by decide) f_Ma_33 (fun _ h9 => h9) rfl (by decide +kernel) d_Ma_addRule_64 (by first | assumption | rfl) rfl rfl (Nat.le_of_ble_eq_true rfl) ?_
    refine sv_aload_n C d_Ma_addRule_67 rfl rfl ?_
    refine sv_get (ci := 1) (kf := 4) C i_Ma rfl (by decide) f_Ma_33 (fun _ h9 => h9) d_Ma_addRule_68 (by first | assumption | rfl) rfl ?_
    refine sv_iconst (v := 1) C d_Ma_addRule_71 rfl ?_
    refine sv_isub C d_Ma_addRule_72 ?_
    refine sv_eqs (st' := [.int (nI r)]) (by show [Value.int (V 1 + 1 - 1)] = _; rw [hV1, nI_1, nI_pred]) ?_
    refine sv_eqw (ws' := hC cI cJ cZ (hu (hu L 1 f1) 2 f2) I (hu V 1 (nI (r + 1))) tl) (by rw [← nI_1, ← hV1]; rfl) ?_
    exact sv_iret C rfl rfl d_Ma_addRule_73 (Nat.le_of_ble_eq_true rfl) (Nat.le_of_ble_eq_true rfl) (fun _ _ => rfl) (⟨rfl, f1, f2, rfl, h1, h2⟩)
  · have hi2 : ¬ 2 ^ n ≤ i := fun h => hF ((nI_leI (a := 2 ^ n) (b := i) (by omega) (by omega)).mpr h)
    refine sv_iload C d_Ma_addRule_12 rfl ?_
    refine sv_iload_n C d_Ma_addRule_14 rfl rfl ?_
    refine sv_iand C d_Ma_addRule_15 ?_
    refine sv_iload_n C d_Ma_addRule_16 rfl rfl ?_
    refine sv_icmp_ne (tgt := 51) C d_Ma_addRule_17 (by decide) (fun hT2 => ?_) (fun hF2 => ?_)
    · have hne : ¬ i &&& m = v := fun h => hT2 (by rw [nx_and, h])
      refine sv_iincN C d_Ma_addRule_51 rfl (by decide) rfl ?_
      refine sv_goto (tgt := 3) C d_Ma_addRule_54 (by decide) ?_
      refine ih (i + 1, f1, f2) ⟨by show i + 1 ≤ 2 ^ n; omega, fun a z ha hz => ?_, fun a z ha hz => ?_⟩ (by show 2 ^ n - (i + 1) < 2 ^ n - i; omega)
      · show ss_b f1 a z = (ss_b (L 1) a z || (decide (a < i + 1) && ma_g m v k f a z))
        rw [h1 a z ha hz]
        by_cases e : a = i
        · have hg : ma_g m v k f a z = false := by unfold ma_g; rw [e]; simp [hne]
          rw [hg]
          simp
        · have e2 : decide (a < i + 1) = decide (a < i) := by simp; omega
          rw [e2]
      · show ss_b f2 z a = (ss_b (L 2) z a || (decide (a < i + 1) && ma_g m v k f a z))
        rw [h2 a z ha hz]
        by_cases e : a = i
        · have hg : ma_g m v k f a z = false := by unfold ma_g; rw [e]; simp [hne]
          rw [hg]
          simp
        · have e2 : decide (a < i + 1) = decide (a < i) := by simp; omega
          rw [e2]
    · have heq : i &&& m = v := (nI_eq (Nat.lt_of_le_of_lt Nat.and_le_left (by omega)) (by omega)).mp (by rw [← nx_and]; exact hF2)
      have hto := ma_to (n := n) (a := i) (k := k) (f := f) (by omega) hf
      refine sv_iload C d_Ma_addRule_20 rfl ?_
      refine sv_iload_n C d_Ma_addRule_22 rfl rfl ?_
      refine sv_iand C d_Ma_addRule_23 ?_
      refine sv_iload C d_Ma_addRule_24 rfl ?_
      refine sv_ixor C d_Ma_addRule_26 ?_
      refine sv_eqs (st' := [.int (nI ((i &&& k) ^^^ f))]) (by rw [nx_and, nx_xor]) ?_
      refine sv_istore C d_Ma_addRule_27 (by decide) rfl ?_
      refine sv_aload_n C d_Ma_addRule_29 rfl rfl ?_
      refine sv_get (ci := 1) (kf := 1) C i_Ma rfl (by decide) f_Ma_20 (fun _ h9 => h9) d_Ma_addRule_30 (by first | assumption | rfl) rfl ?_
      refine sv_iload C d_Ma_addRule_33 rfl ?_
      refine sv_iload C d_Ma_addRule_35 rfl ?_
      refine sv_callV (ci := 3) C (c_St_put (cI := cI) (cZ := cZ) (ws := hC cI cJ cZ (hu (hu L 1 f1) 2 f2) I V tl) (b := 4) (w := 5) (N := 1024) (f := f1) (a := i) (x := (i &&& k) ^^^ f) rfl rfl (by omega) (by decide) (by omega)) s_Ma_39 ki_St_put ks_St_put ⟨rfl, rfl, Nat.le_of_ble_eq_true rfl, Nat.le_of_ble_eq_true rfl⟩ rfl d_Ma_addRule_37 (by first | assumption | rfl) (Nat.le_of_ble_eq_true rfl) ⟨(Nat.le_of_ble_eq_true rfl), (Nat.le_of_ble_eq_true rfl)⟩ (fun E ws9 h9 => absurd h9 id) (fun v9 ws9 hp => ?_)
      obtain ⟨rfl, rfl⟩ := hp
      refine sv_eqw (ws' := hC cI cJ cZ (hu (hu L 1 (ss_put f1 i ((i &&& k) ^^^ f))) 2 f2) I V tl) rfl ?_
      refine sv_aload_n C d_Ma_addRule_40 rfl rfl ?_
      refine sv_get (ci := 1) (kf := 2) C i_Ma rfl (by decide) f_Ma_23 (fun _ h9 => h9) d_Ma_addRule_41 (by first | assumption | rfl) rfl ?_
      refine sv_iload C d_Ma_addRule_44 rfl ?_
      refine sv_iload C d_Ma_addRule_46 rfl ?_
      refine sv_callV (ci := 3) C (c_St_put (cI := cI) (cZ := cZ) (ws := hC cI cJ cZ (hu (hu L 1 (ss_put f1 i ((i &&& k) ^^^ f))) 2 f2) I V tl) (b := 6) (w := 7) (N := 1024) (f := f2) (a := (i &&& k) ^^^ f) (x := i) rfl rfl (by omega) (by decide) (by omega)) s_Ma_39 ki_St_put ks_St_put ⟨rfl, rfl, Nat.le_of_ble_eq_true rfl, Nat.le_of_ble_eq_true rfl⟩ rfl d_Ma_addRule_48 (by first | assumption | rfl) (Nat.le_of_ble_eq_true rfl) ⟨(Nat.le_of_ble_eq_true rfl), (Nat.le_of_ble_eq_true rfl)⟩ (fun E ws9 h9 => absurd h9 id) (fun v9 ws9 hp => ?_)
      obtain ⟨rfl, rfl⟩ := hp
      refine sv_eqw (ws' := hC cI cJ cZ (hu (hu L 1 (ss_put f1 i ((i &&& k) ^^^ f))) 2 (ss_put f2 ((i &&& k) ^^^ f) i)) I V tl) rfl ?_
      refine sv_iincN C d_Ma_addRule_51 rfl (by decide) rfl ?_
      refine sv_goto (tgt := 3) C d_Ma_addRule_54 (by decide) ?_
      refine sv_drop [true, true, true, true, true, true, false] ?_
      refine ih (i + 1, ss_put f1 i ((i &&& k) ^^^ f), ss_put f2 ((i &&& k) ^^^ f) i) ⟨by show i + 1 ≤ 2 ^ n; omega, fun a z ha hz => ?_, fun a z ha hz => ?_⟩ (by show 2 ^ n - (i + 1) < 2 ^ n - i; omega)
      · show ss_b (ss_put f1 i ((i &&& k) ^^^ f)) a z = (ss_b (L 1) a z || (decide (a < i + 1) && ma_g m v k f a z))
        rw [ss_put_b _ _ _ _ _ hz (by omega), h1 a z ha hz]
        by_cases e : a = i
        · subst e
          unfold ma_g
          simp [heq]
        · have e2 : decide (a < i + 1) = decide (a < i) := by simp; omega
          rw [e2]
          simp [e]
      · show ss_b (ss_put f2 ((i &&& k) ^^^ f) i) z a = (ss_b (L 2) z a || (decide (a < i + 1) && ma_g m v k f a z))
        rw [ss_put_b _ _ _ _ _ ha (by omega), h2 a z ha hz]
        by_cases e : a = i
        · subst e
          unfold ma_g
          simp [heq]
        · have e2 : decide (a < i + 1) = decide (a < i) := by simp; omega
          rw [e2]
          simp [e]
end
section
/-! A search in breadth: pure -/
theorem pig : ∀ (m n : Nat) (f : Nat → Nat), (∀ i, i < n → f i < m) → (∀ i j, i < n → j < n → f i = f j → i = j) → n ≤ m
  | 0, n, f, h, _ => by
    refine Classical.byContradiction (fun hn => ?_)
    exact absurd (h 0 (by omega)) (Nat.not_lt_zero _)
  | m + 1, n, f, h, hj => by
    by_cases hex : ∃ i, i < n ∧ f i = m
    · obtain ⟨i0, hi0, hf0⟩ := hex
      have h1 : n - 1 ≤ m := by
        refine pig m (n - 1) (fun i => if i = i0 then f (n - 1) else f i) (fun i hi => ?_) (fun i j hi hj2 e => ?_)
        · show (if i = i0 then f (n - 1) else f i) < m
          by_cases e : i = i0
          · rw [if_pos e]
            have h2 := h (n - 1) (by omega)
            have h3 : f (n - 1) ≠ m := fun q => by
              have := hj (n - 1) i0 (by omega) hi0 (q.trans hf0.symm)
              omega
            omega
          · rw [if_neg e]
            have h2 := h i (by omega)
            have h3 : f i ≠ m := fun q => e (hj i i0 (by omega) hi0 (q.trans hf0.symm))
            omega
        · have e' : (if i = i0 then f (n - 1) else f i) = (if j = i0 then f (n - 1) else f j) := e
          by_cases e1 : i = i0
          · by_cases e2 : j = i0
            · omega
            · rw [if_pos e1, if_neg e2] at e'
              have := hj (n - 1) j (by omega) (by omega) e'
              omega
          · by_cases e2 : j = i0
            · rw [if_neg e1, if_pos e2] at e'
              have := hj i (n - 1) (by omega) (by omega) e'
              omega
            · rw [if_neg e1, if_neg e2] at e'
              exact hj i j (by omega) (by omega) e'
      omega
    · have h1 : n ≤ m := pig m n f (fun i hi => by
        have h2 := h i hi
        have h3 : f i ≠ m := fun q => hex ⟨i, hi, q⟩
        omega) hj
      omega
def bf_F (fd : Nat → Nat) (cnt z : Nat) : Prop := ∃ i, i < cnt ∧ fd i = z
def bf_I (E : Nat → Nat → Prop) (O0 : Nat → Prop) (cnt0 : Nat) (fd0 : Nat → Nat) (a cnt : Nat) (fd dd : Nat → Nat) : Prop :=
  a ≤ cnt ∧ (∀ i, i < cnt → fd i < 256) ∧ (∀ i j, i < cnt → j < cnt → fd i = fd j → i = j) ∧ cnt0 ≤ cnt ∧ (∀ i, i < cnt0 → fd i = fd0 i) ∧ (∀ i, i < cnt → cnt0 ≤ i → O0 (fd i)) ∧
  (∀ i, i < cnt → ∃ k, k < cnt0 ∧ g_st E (dd (fd i)) (fd0 k) (fd i)) ∧
  (∀ i, i < a → ∀ z, E (fd i) z → bf_F fd cnt z ∧ dd z ≤ dd (fd i) + 1) ∧
  (∀ i j, i ≤ j → j < cnt → dd (fd i) ≤ dd (fd j)) ∧ (∀ j, j < cnt → a < cnt → dd (fd j) ≤ dd (fd a) + 1)
theorem bf_le {E : Nat → Nat → Prop} {O0 : Nat → Prop} {cnt0 a cnt : Nat} {fd0 fd dd : Nat → Nat} (h : bf_I E O0 cnt0 fd0 a cnt fd dd) : cnt ≤ 256 := pig 256 cnt fd h.2.1 h.2.2.1
theorem g_st_snoc {E : Nat → Nat → Prop} {n a b c : Nat} (h : g_st E n a b) (hbc : E b c) : g_st E (n + 1) a c := g_st_tr n 1 a b c h ⟨c, hbc, rfl⟩
theorem bf_inj {fd : Nat → Nat} {cnt x : Nat} (hj : ∀ i j, i < cnt → j < cnt → fd i = fd j → i = j) (hx : ¬ bf_F fd cnt x) : ∀ i j, i < cnt + 1 → j < cnt + 1 → hu fd cnt x i = hu fd cnt x j → i = j := by
  intro i j hi hj2 e
  by_cases e1 : i = cnt
  · by_cases e2 : j = cnt
    · omega
    · rw [e1, hu_s, hu_n e2] at e
      exact absurd ⟨j, by omega, e.symm⟩ hx
  · by_cases e2 : j = cnt
    · rw [e2, hu_s, hu_n e1] at e
      exact absurd ⟨i, by omega, e⟩ hx
    · rw [hu_n e1, hu_n e2] at e
      exact hj i j (by omega) (by omega) e
theorem bf_F_s {fd : Nat → Nat} {cnt x z : Nat} : bf_F (hu fd cnt x) (cnt + 1) z ↔ (bf_F fd cnt z ∨ z = x) := by
  constructor
  · rintro ⟨i, hi, e⟩
    by_cases e1 : i = cnt
    · rw [e1, hu_s] at e
      exact Or.inr e.symm
    · rw [hu_n e1] at e
      exact Or.inl ⟨i, by omega, e⟩
  · rintro (⟨i, hi, e⟩ | e)
    · exact ⟨i, by omega, by rw [hu_n (by omega)]; exact e⟩
    · exact ⟨cnt, by omega, by rw [hu_s, e]⟩
theorem bf_lt {E : Nat → Nat → Prop} {O0 : Nat → Prop} {cnt0 a cnt x : Nat} {fd0 fd dd : Nat → Nat} (h : bf_I E O0 cnt0 fd0 a cnt fd dd) (hx : x < 256) (hF : ¬ bf_F fd cnt x) : cnt < 256 := by
  have h1 := pig 256 (cnt + 1) (hu fd cnt x) (fun i hi => by
    by_cases e : i = cnt
    · rw [e, hu_s]
      exact hx
    · rw [hu_n e]
      exact h.2.1 i (by omega)) (bf_inj h.2.2.1 hF)
  omega
/-- x found from the one at a -/
theorem bf_add {E : Nat → Nat → Prop} {O0 : Nat → Prop} {cnt0 a cnt x : Nat} {fd0 fd dd : Nat → Nat} (h : bf_I E O0 cnt0 fd0 a cnt fd dd) (ha : a < cnt) (hE : E (fd a) x) (hO : O0 x) (hF : ¬ bf_F fd cnt x) (hx : x < 256) :
    bf_I E O0 cnt0 fd0 a (cnt + 1) (hu fd cnt x) (hu dd x (dd (fd a) + 1)) := by
  obtain ⟨a1, a2, a3, a4, a5, a6, a7, a8, a9, a10⟩ := h
  have hne : ∀ i, i < cnt → fd i ≠ x := fun i hi e => hF ⟨i, hi, e⟩
  have hd : ∀ i, i < cnt → hu dd x (dd (fd a) + 1) (fd i) = dd (fd i) := fun i hi => hu_n (hne i hi)
  have hf : ∀ i, i < cnt → hu fd cnt x i = fd i := fun i hi => hu_n (by omega)
  have hfa := hf a ha
  refine ⟨by omega, fun i hi => ?_, bf_inj a3 hF, by omega, fun i hi => by rw [hf i (by omega)]; exact a5 i hi, fun i hi hc => ?_, fun i hi => ?_, fun i hi z hz => ?_, fun i j hij hj => ?_, fun j hj _ => ?_⟩
  · by_cases e : i = cnt
    · rw [e, hu_s]
      exact hx
    · rw [hf i (by omega)]
      exact a2 i (by omega)
  · by_cases e : i = cnt
    · rw [e, hu_s]
      exact hO
    · rw [hf i (by omega)]
      exact a6 i (by omega) hc
  · by_cases e : i = cnt
    · rw [e, hu_s, hu_s]
      obtain ⟨k, hk, hst⟩ := a7 a ha
      exact ⟨k, hk, g_st_snoc hst hE⟩
    · rw [hf i (by omega), hd i (by omega)]
      exact a7 i (by omega)
  · rw [hf i (by omega)] at hz
    obtain ⟨⟨j, hj, e⟩, h2⟩ := a8 i hi z hz
    have hzx : z ≠ x := fun q => hne j hj (e.trans q)
    rw [hf i (by omega), hd i (by omega), hu_n hzx]
    exact ⟨bf_F_s.mpr (Or.inl ⟨j, hj, e⟩), h2⟩
  · by_cases e : j = cnt
    · rw [e, hu_s, hu_s]
      by_cases e2 : i = cnt
      · rw [e2, hu_s, hu_s]
        exact Nat.le_refl _
      · rw [hf i (by omega), hd i (by omega)]
        exact a10 i (by omega) ha
    · rw [hf j (by omega), hd j (by omega), hf i (by omega), hd i (by omega)]
      exact a9 i j hij (by omega)
  · rw [hfa, hd a ha]
    by_cases e : j = cnt
    · rw [e, hu_s, hu_s]
      exact Nat.le_refl _
    · rw [hf j (by omega), hd j (by omega)]
      exact a10 j (by omega) ha
theorem bf_next {E : Nat → Nat → Prop} {O0 : Nat → Prop} {cnt0 a cnt : Nat} {fd0 fd dd : Nat → Nat} (h : bf_I E O0 cnt0 fd0 a cnt fd dd) (ha : a < cnt) (hall : ∀ z, E (fd a) z → bf_F fd cnt z) : bf_I E O0 cnt0 fd0 (a + 1) cnt fd dd := by
  obtain ⟨a1, a2, a3, a4, a5, a6, a7, a8, a9, a10⟩ := h
  refine ⟨by omega, a2, a3, a4, a5, a6, a7, fun i hi z hz => ?_, a9, fun j hj h1 => ?_⟩
  · by_cases e : i = a
    · subst e
      obtain ⟨j, hj, e⟩ := hall z hz
      exact ⟨⟨j, hj, e⟩, by rw [← e]; exact a10 j hj ha⟩
    · exact a8 i (by omega) z hz
  · have h2 := a10 j hj ha
    have h3 := a9 a (a + 1) (by omega) h1
    omega
theorem bf_end {E : Nat → Nat → Prop} {O0 : Nat → Prop} {cnt0 cnt : Nat} {fd0 fd dd : Nat → Nat} (h : bf_I E O0 cnt0 fd0 cnt cnt fd dd) (h0 : ∀ k, k < cnt0 → dd (fd0 k) = 0) {k : Nat} (hk : k < cnt0) : ∀ (n z : Nat), g_st E n (fd0 k) z → bf_F fd cnt z ∧ dd z ≤ n := by
  obtain ⟨a1, a2, a3, a4, a5, a6, a7, a8, a9, a10⟩ := h
  have hs : ∀ (n z : Nat), g_st E (n + 1) (fd0 k) z → ∃ y, g_st E n (fd0 k) y ∧ E y z := by
    have hg : ∀ (n a z : Nat), g_st E (n + 1) a z → ∃ y, g_st E n a y ∧ E y z := by
      intro n
      induction n with
      | zero =>
        rintro a z ⟨c, hc, h⟩
        have h : c = z := h
        subst h
        exact ⟨a, rfl, hc⟩
      | succ n ih =>
        rintro a z ⟨c, hc, h⟩
        obtain ⟨y, hy, hyz⟩ := ih c z h
        exact ⟨y, ⟨c, hc, hy⟩, hyz⟩
    exact fun n z h => hg n _ z h
  intro n
  induction n with
  | zero =>
    intro z h
    have h : fd0 k = z := h
    subst h
    exact ⟨⟨k, by omega, a5 k hk⟩, by rw [h0 k hk]; exact Nat.le_refl _⟩
  | succ n ih =>
    intro z h
    obtain ⟨y, hy, hyz⟩ := hs n z h
    obtain ⟨⟨i, hi, e⟩, hd⟩ := ih y hy
    rw [← e] at hyz hd
    obtain ⟨hF, h2⟩ := a8 i hi z hyz
    exact ⟨hF, by omega⟩
end
section
/-! StateLogic$Search: openAll, find, spread -/
set_option maxRecDepth 100000 in
set_option maxHeartbeats 4000000 in
theorem c_Se_openAll {l : Launch} {D : va_G} {cI cJ cZ : ClassId} {L : Nat → Nat → Int64} {I : Nat → Nat → Int32} {V : Nat → Int32} {tl : List va_E} {a : Nat} (ha : a < 60) :
    sv_M l y_Se_openAll [Cond.code y_Se_openAll b_Se_openAll 3 none] ({ frames := 2, cells := 0, slots := 0, locals := 83 } : Room) D sv_cl (sv_ty cI cJ cZ) [.ref 9, .ref 16, .int (nI a)] (hC cI cJ cZ L I V tl) 0 0 (fun r ws' => r = none ∧ ∃ fO : Nat → Int64, ws' = hC cI cJ cZ (hu L 3 fO) I (hu V 2 0) tl ∧ ∀ z, z < 256 → ss_b fO 0 z = ss_b (L 4) a z) sv_no 0 0 := by
  refine sv_of (cc := b_Se_openAll) (by decide +kernel) (Nat.le_of_ble_eq_true rfl) ?_
  intro pX eX sX mX aX bX tX cX AX adX C htab hnm
  refine sv_aload_n C d_Se_openAll_0 rfl rfl ?_
  refine sv_get (ci := 2) (kf := 0) C i_Se rfl (by decide) f_Se_14 (fun _ h9 => h9) d_Se_openAll_1 (by first | assumption | rfl) rfl ?_
  refine sv_iconst (v := 0) C d_Se_openAll_4 rfl ?_
  refine sv_aload_n C d_Se_openAll_5 rfl rfl ?_
  refine sv_iload_n C d_Se_openAll_6 rfl rfl ?_
  refine sv_callV (ci := 3) C (c_St_copy (cI := cI) (cZ := cZ) (ws := hC cI cJ cZ L I V tl) (b := 10) (w := 11) (N := 4) (a := 0) (f := L 3) (b' := 16) (w' := 17) (N' := 240) (a' := a) (g := L 4) rfl rfl (by decide) (by decide) rfl rfl (by omega) (by decide)) s_Se_33 ki_St_copy ks_St_copy ⟨rfl, rfl, Nat.le_of_ble_eq_true rfl, Nat.le_of_ble_eq_true rfl⟩ rfl d_Se_openAll_7 (by first | assumption | rfl) (Nat.le_of_ble_eq_true rfl) ⟨(Nat.le_of_ble_eq_true rfl), (Nat.le_of_ble_eq_true rfl)⟩ (fun E ws9 h9 => absurd h9 id) (fun v9 ws9 hp => ?_)
  obtain ⟨rfl, rfl⟩ := hp
  refine sv_aload_n C d_Se_openAll_10 rfl rfl ?_
  refine sv_iconst (v := 0) C d_Se_openAll_11 rfl ?_
  refine sv_put (ci := 2) (kf := 5) (ty := .int) C i_Se t_Se t_Se_ok n_Se rfl (by decide) f_Se_37 (fun _ h9 => h9) rfl (by decide +kernel) d_Se_openAll_12 (by first | assumption | rfl) rfl rfl (Nat.le_of_ble_eq_true rfl) ?_
  exact sv_vret C rfl d_Se_openAll_15 (Nat.le_of_ble_eq_true rfl) (Nat.le_of_ble_eq_true rfl) (fun _ _ => rfl) (⟨rfl, va_cpy (L 4) (L 3) (a * 4) (0 * 4) 4, rfl, fun z hz => by unfold ss_b; rw [pk_cpy_in (by omega) (by omega)]; congr 3; omega⟩)
set_option maxRecDepth 100000 in
set_option maxHeartbeats 4000000 in
theorem c_Se_find {l : Launch} {D : va_G} {cI cJ cZ : ClassId} {L : Nat → Nat → Int64} {I : Nat → Nat → Int32} {V : Nat → Int32} {tl : List va_E} {n x : Nat} {d : Int32} (hn : n < 256) (hx : x < 256) (hV : V 2 = nI n) :
    sv_M l y_Se_find [Cond.code y_Se_find b_Se_find 3 none] ({ frames := 0, cells := 0, slots := 0, locals := 0 } : Room) D sv_cl (sv_ty cI cJ cZ) [.ref 9, .int (nI x), .int d] (hC cI cJ cZ L I V tl) 0 0 (fun r ws' => r = none ∧ ws' = hC cI cJ cZ L (hu (hu I 0 (upd (I 0) n (nI x))) 1 (upd (I 1) x d)) (hu V 2 (nI (n + 1))) tl) sv_no 0 0 := by
  refine sv_of (cc := b_Se_find) (by decide +kernel) (Nat.le_of_ble_eq_true rfl) ?_
  intro pX eX sX mX aX bX tX cX AX adX C htab hnm
  have h1 : vp_in (V 2) 256 := by rw [hV]; exact vp_in_nI hn (by omega)
  have h2 : vp_in (nI x) 256 := vp_in_nI hx (by omega)
  have e1 : (V 2).toNatClampNeg = n := by rw [hV]; exact nI_clamp (by omega)
  have e2 : (nI x).toNatClampNeg = x := nI_clamp (by omega)
  refine sv_aload_n C d_Se_find_0 rfl rfl ?_
  refine sv_get (ci := 2) (kf := 5) C i_Se rfl (by decide) f_Se_37 (fun _ h9 => h9) d_Se_find_1 (by first | assumption | rfl) rfl ?_
  refine sv_sipush (v := 256) C d_Se_find_4 rfl ?_
  refine sv_icmp_ge (tgt := 37) C d_Se_find_7 (by decide) (fun hT => ?_) (fun hF => ?_)
  · exfalso
    rw [hV] at hT
    have h3 : 256 ≤ n := (nI_leI (a := 256) (b := n) (by omega) (by omega)).mp hT
    omega
  · refine sv_aload_n C d_Se_find_10 rfl rfl ?_
    refine sv_get (ci := 2) (kf := 1) C i_Se rfl (by decide) f_Se_20 (fun _ h9 => h9) d_Se_find_11 (by first | assumption | rfl) rfl ?_
    refine sv_aload_n C d_Se_find_14 rfl rfl ?_
    refine sv_get (ci := 2) (kf := 5) C i_Se rfl (by decide) f_Se_37 (fun _ h9 => h9) d_Se_find_15 (by first | assumption | rfl) rfl ?_
    refine sv_iload_n C d_Se_find_18 rfl rfl ?_
    refine sv_iast (t0 := 0) C rfl d_Se_find_19 (by first | assumption | rfl) (by assumption) ?_
    refine sv_aload_n C d_Se_find_20 rfl rfl ?_
    refine sv_dup C d_Se_find_21 rfl ?_
    refine sv_get (ci := 2) (kf := 5) C i_Se rfl (by decide) f_Se_37 (fun _ h9 => h9) d_Se_find_22 (by first | assumption | rfl) rfl ?_
    refine sv_iconst (v := 1) C d_Se_find_25 rfl ?_
    refine sv_iadd C d_Se_find_26 ?_
    refine sv_put (ci := 2) (kf := 5) (ty := .int) C i_Se t_Se t_Se_ok n_Se rfl (by decide) f_Se_37 (fun _ h9 => h9) rfl (by decide +kernel) d_Se_find_27 (by first | assumption | rfl) rfl rfl (Nat.le_of_ble_eq_true rfl) ?_
    refine sv_aload_n C d_Se_find_30 rfl rfl ?_
    refine sv_get (ci := 2) (kf := 2) C i_Se rfl (by decide) f_Se_24 (fun _ h9 => h9) d_Se_find_31 (by first | assumption | rfl) rfl ?_
    refine sv_iload_n C d_Se_find_34 rfl rfl ?_
    refine sv_iload_n C d_Se_find_35 rfl rfl ?_
    refine sv_iast (t0 := 0) C rfl d_Se_find_36 (by first | assumption | rfl) (by assumption) ?_
    refine sv_eqw (ws' := hC cI cJ cZ L (hu (hu I 0 (upd (I 0) (V 2).toNatClampNeg (nI x))) 1 (upd (I 1) (nI x).toNatClampNeg d)) (hu V 2 (V 2 + 1)) tl) rfl ?_
    rw [e1, e2, hV, nI_1]
    exact sv_vret C rfl d_Se_find_37 (Nat.le_of_ble_eq_true rfl) (Nat.le_of_ble_eq_true rfl) (fun _ _ => rfl) (⟨rfl, rfl⟩)
def sp_E (g fO : Nat → Int64) (x z : Nat) : Prop := z < 256 ∧ ss_b g x z = true ∧ ss_b fO 0 z = true
def sp_R (g fO : Nat → Int64) (cnt0 : Nat) (fd0 : Nat → Nat) (I1 : Nat → Int32) (fO' : Nat → Int64) (I0' I1' : Nat → Int32) (cnt : Nat) (fd dd : Nat → Nat) : Prop :=
  cnt0 ≤ cnt ∧ cnt ≤ 256 ∧ (∀ i, i < cnt → fd i < 256 ∧ I0' i = nI (fd i)) ∧ (∀ i j, i < cnt → j < cnt → fd i = fd j → i = j) ∧ (∀ i, i < cnt0 → fd i = fd0 i) ∧
  (∀ z, z < 256 → (ss_b fO' 0 z = true ↔ (ss_b fO 0 z = true ∧ ¬ bf_F fd cnt z))) ∧
  (∀ z, bf_F fd cnt z → (∃ k, k < cnt0 ∧ g_st (sp_E g fO) (dd z) (fd0 k) z) ∧ I1' z = nI (dd z) ∧ dd z < 256) ∧
  (∀ k n z, k < cnt0 → g_st (sp_E g fO) n (fd0 k) z → bf_F fd cnt z ∧ dd z ≤ n) ∧
  (∀ z, z < 256 → ¬ bf_F fd cnt z → I1' z = I1 z)
/-- the state between the turns -/
def sp_S (g fO : Nat → Int64) (cnt0 : Nat) (fd0 : Nat → Nat) (I1 : Nat → Int32) (a cnt : Nat) (I0' I1' : Nat → Int32) (fd dd : Nat → Nat) : Prop :=
  bf_I (sp_E g fO) (fun z => ss_b fO 0 z = true) cnt0 fd0 a cnt fd dd ∧ (∀ i, i < cnt → I0' i = nI (fd i)) ∧ (∀ i, i < cnt → I1' (fd i) = nI (dd (fd i)) ∧ dd (fd i) ≤ i) ∧ (∀ z, z < 256 → ¬ bf_F fd cnt z → I1' z = I1 z) ∧ (∀ k, k < cnt0 → dd (fd0 k) = 0)
def sp_p : Option Nat → Int32
  | none => -1
  | some x => nI x
theorem sp_m1 {x : Nat} (hx : x < 2 ^ 31) : nI x ≠ -1 := by
  intro h
  have h1 := congrArg Int32.toInt h
  rw [nI_toInt hx] at h1
  have h2 : (-1 : Int32).toInt = -1 := by decide
  rw [h2] at h1
  omega
/-- x found: the arrays -/
theorem sp_add {g fO : Nat → Int64} {cnt0 : Nat} {fd0 : Nat → Nat} {I1 : Nat → Int32} {a cnt x : Nat} {I0' I1' : Nat → Int32} {fd dd : Nat → Nat} (h : sp_S g fO cnt0 fd0 I1 a cnt I0' I1' fd dd) (ha : a < cnt) (hx : x < 256) (hO : ss_b fO 0 x = true) (hS : ss_b g (fd a) x = true) (hF : ¬ bf_F fd cnt x) :
    sp_S g fO cnt0 fd0 I1 a (cnt + 1) (upd I0' cnt (nI x)) (upd I1' x (nI (dd (fd a) + 1))) (hu fd cnt x) (hu dd x (dd (fd a) + 1)) := by
  obtain ⟨h1, h2, h3, h4, h5⟩ := h
  have hne : ∀ i, i < cnt → fd i ≠ x := fun i hi e => hF ⟨i, hi, e⟩
  refine ⟨bf_add h1 ha ⟨hx, hS, hO⟩ hO hF hx, fun i hi => ?_, fun i hi => ?_, fun z hz hnf => ?_, fun k hk => ?_⟩
  · by_cases e : i = cnt
    · rw [e, pk_us, hu_s]
    · rw [pk_un e, hu_n e]
      exact h2 i (by omega)
  · by_cases e : i = cnt
    · rw [e, hu_s, pk_us, hu_s]
      have := (h3 a ha).2
      exact ⟨rfl, by omega⟩
    · rw [hu_n e, pk_un (hne i (by omega)), hu_n (hne i (by omega))]
      exact h3 i (by omega)
  · have hzx : z ≠ x := fun e => hnf (bf_F_s.mpr (Or.inr e))
    rw [pk_un hzx]
    exact h4 z hz (fun q => hnf (bf_F_s.mpr (Or.inl q)))
  · have hk2 : fd0 k ≠ x := by
      rw [← h1.2.2.2.2.1 k hk]
      exact hne k (Nat.lt_of_lt_of_le hk h1.2.2.2.1)
    rw [hu_n hk2]
    exact h5 k hk
theorem sp_fin {g fO fO' : Nat → Int64} {cnt0 : Nat} {fd0 : Nat → Nat} {I1 : Nat → Int32} {cnt : Nat} {I0' I1' : Nat → Int32} {fd dd : Nat → Nat} (h : sp_S g fO cnt0 fd0 I1 cnt cnt I0' I1' fd dd) (hO : ∀ z, z < 256 → (ss_b fO' 0 z = true ↔ (ss_b fO 0 z = true ∧ ¬ bf_F fd cnt z))) :
    sp_R g fO cnt0 fd0 I1 fO' I0' I1' cnt fd dd := by
  obtain ⟨h1, h2, h3, h4, h5⟩ := h
  have hle := bf_le h1
  refine ⟨h1.2.2.2.1, hle, fun i hi => ⟨h1.2.1 i hi, h2 i hi⟩, h1.2.2.1, h1.2.2.2.2.1, hO, fun z hz => ?_, fun k n z hk hst => bf_end h1 h5 hk n z hst, h4⟩
  obtain ⟨i, hi, e⟩ := hz
  obtain ⟨q1, q2⟩ := h3 i hi
  obtain ⟨k, hk, hst⟩ := h1.2.2.2.2.2.2.1 i hi
  subst e
  exact ⟨⟨k, hk, hst⟩, q1, by omega⟩
set_option maxRecDepth 100000 in
set_option maxHeartbeats 4000000 in
theorem c_Se_spread {l : Launch} {D : va_G} {cI cJ cZ : ClassId} {L : Nat → Nat → Int64} {I : Nat → Nat → Int32} {V : Nat → Int32} {tl : List va_E} {b w q cnt0 : Nat} {fd0 : Nat → Nat} (hq : (b = 4 ∧ w = 5 ∧ q = 1) ∨ (b = 6 ∧ w = 7 ∧ q = 2)) (hV : V 2 = nI cnt0)
    (hf0 : ∀ i, i < cnt0 → fd0 i < 256 ∧ I 0 i = nI (fd0 i) ∧ I 1 (fd0 i) = nI 0 ∧ ss_b (L 3) 0 (fd0 i) = false) (hj0 : ∀ i j, i < cnt0 → j < cnt0 → fd0 i = fd0 j → i = j) :
    sv_M l y_Se_spread [Cond.code y_Se_spread b_Se_spread 6 none] ({ frames := 2, cells := 0, slots := 0, locals := 49 } : Room) D sv_cl (sv_ty cI cJ cZ) [.ref 9, .ref b] (hC cI cJ cZ L I V tl) 0 0 (fun r ws' => r = none ∧ ∃ (fO' : Nat → Int64) (I0' I1' : Nat → Int32) (cnt : Nat) (fd dd : Nat → Nat), ws' = hC cI cJ cZ (hu L 3 fO') (hu (hu I 0 I0') 1 I1') (hu V 2 (nI cnt)) tl ∧ sp_R (L q) (L 3) cnt0 fd0 (I 1) fO' I0' I1' cnt fd dd) sv_no 0 0 := by
  refine sv_of (cc := b_Se_spread) (by decide +kernel) (Nat.le_of_ble_eq_true rfl) ?_
  intro pX eX sX mX aX bX tX cX AX adX C htab hnm
  have hbb : ∀ (L : Nat → Nat → Int64) (I : Nat → Nat → Int32) (V : Nat → Int32), (hC cI cJ cZ L I V tl)[b]? = some (.inr (3, [.ref w])) := by
    intro L I V
    rcases hq with ⟨rfl, rfl, rfl⟩ | ⟨rfl, rfl, rfl⟩ <;> rfl
  have hww : ∀ (L : Nat → Nat → Int64) (I : Nat → Nat → Int32) (V : Nat → Int32), (hC cI cJ cZ L I V tl)[w]? = some (sv_J cJ 1024 (L q)) := by
    intro L I V
    rcases hq with ⟨rfl, rfl, rfl⟩ | ⟨rfl, rfl, rfl⟩ <;> rfl
  have hq3 : q ≠ 3 := by omega
  refine sv_iconst (v := 0) C d_Se_spread_0 rfl ?_
  refine sv_istore_n C d_Se_spread_1 rfl (by decide) rfl ?_
  refine sv_eqw (ws' := hC cI cJ cZ (hu L 3 (L 3)) (hu (hu I 0 (I 0)) 1 (I 1)) (hu V 2 (nI cnt0)) tl) (by rw [hu_same, hu_same, hu_same, ← hV, hu_same]) ?_
  refine sv_ind (σ := Nat × Nat × (Nat → Int64) × (Nat → Int32) × (Nat → Int32) × (Nat → Nat) × (Nat → Nat)) (I := fun s => sp_S (L q) (L 3) cnt0 fd0 (I 1) s.1 s.2.1 s.2.2.2.1 s.2.2.2.2.1 s.2.2.2.2.2.1 s.2.2.2.2.2.2 ∧ ∀ z, z < 256 → (ss_b s.2.2.1 0 z = true ↔ (ss_b (L 3) 0 z = true ∧ ¬ bf_F s.2.2.2.2.2.1 s.2.1 z))) (μ := fun s => 256 - s.1)
    (lv := fun s => [some (.ref 9), some (.ref b), some (.int (nI s.1)), none, none, none]) (ws := fun s => hC cI cJ cZ (hu L 3 s.2.2.1) (hu (hu I 0 s.2.2.2.1) 1 s.2.2.2.2.1) (hu V 2 (nI s.2.1)) tl) ?_ (0, cnt0, L 3, I 0, I 1, fd0, fun _ => 0) ⟨⟨⟨Nat.zero_le _, fun i hi => (hf0 i hi).1, hj0, Nat.le_refl _, fun _ _ => rfl, fun i h1 h2 => absurd h1 (Nat.not_lt.mpr h2), fun i hi => ⟨i, hi, rfl⟩, fun i hi => absurd hi (Nat.not_lt_zero _), fun _ _ _ _ => Nat.le_refl _, fun _ _ _ => Nat.zero_le _⟩, fun i hi => (hf0 i hi).2.1, fun i hi => ⟨(hf0 i hi).2.2.1, Nat.zero_le _⟩, fun _ _ _ => rfl, fun _ _ => rfl⟩, fun z hz => ⟨fun h => ⟨h, fun ⟨i, hi, e⟩ => by
      rw [← e, (hf0 i hi).2.2.2] at h
      cases h⟩, fun h => h.1⟩⟩
  rintro ⟨a, cnt, fO, I0, I1, fd, dd⟩ ⟨hS, hO⟩ ih
  dsimp only at hS hO ih
  have hle := bf_le hS.1
  have hac := hS.1.1
  refine sv_iload_n C d_Se_spread_2 rfl rfl ?_
  refine sv_aload_n C d_Se_spread_3 rfl rfl ?_
  refine sv_get (ci := 2) (kf := 5) C i_Se rfl (by decide) f_Se_37 (fun _ h9 => h9) d_Se_spread_4 (by first | assumption | rfl) rfl ?_
  refine sv_icmp_ge (tgt := 91) C d_Se_spread_7 (by decide) (fun hT => ?_) (fun hF => ?_)
  · have h1 : cnt ≤ a := (nI_leI (a := cnt) (b := a) (by omega) (by omega)).mp hT
    have h2 : a = cnt := by omega
    subst h2
    exact sv_vret C rfl d_Se_spread_91 (Nat.le_of_ble_eq_true rfl) (Nat.le_of_ble_eq_true rfl) (fun _ _ => rfl) (⟨rfl, fO, I0, I1, a, fd, dd, rfl, sp_fin hS hO⟩)
  · have h1 : ¬ cnt ≤ a := fun h => hF ((nI_leI (a := cnt) (b := a) (by omega) (by omega)).mpr h)
    refine sv_iload_n C d_Se_spread_10 rfl rfl ?_
    refine sv_sipush (v := 256) C d_Se_spread_11 rfl ?_
    refine sv_icmp_ge (tgt := 91) C d_Se_spread_14 (by decide) (fun hT2 => ?_) (fun hF2 => ?_)
    · exfalso
      have h3 : 256 ≤ a := (nI_leI (a := 256) (b := a) (by omega) (by omega)).mp hT2
      omega
    · have hain : vp_in (nI a) 256 := vp_in_nI (by omega) (by omega)
      have hfa : fd a < 256 := hS.1.2.1 a (by omega)
      refine sv_aload_n C d_Se_spread_17 rfl rfl ?_
      refine sv_get (ci := 2) (kf := 1) C i_Se rfl (by decide) f_Se_20 (fun _ h9 => h9) d_Se_spread_18 (by first | assumption | rfl) rfl ?_
      refine sv_iload_n C d_Se_spread_21 rfl rfl ?_
      refine sv_iald (t0 := 0) C rfl d_Se_spread_22 (by first | assumption | rfl) (by assumption) ?_
      refine sv_eqs (st' := [.int (nI (fd a))]) (by show [Value.int (I0 (nI a).toNatClampNeg)] = _; rw [nI_clamp (by omega), hS.2.1 a (by omega)]) ?_
      refine sv_istore_n C d_Se_spread_23 rfl (by decide) rfl ?_
      refine sv_aload_n C d_Se_spread_24 rfl rfl ?_
      refine sv_get (ci := 2) (kf := 0) C i_Se rfl (by decide) f_Se_14 (fun _ h9 => h9) d_Se_spread_25 (by first | assumption | rfl) rfl ?_
      refine sv_iconst (v := 0) C d_Se_spread_28 rfl ?_
      refine sv_aload_n C d_Se_spread_29 rfl rfl ?_
      refine sv_iload_n C d_Se_spread_30 rfl rfl ?_
      refine sv_callV (ci := 3) C (c_St_takeShared (cI := cI) (cZ := cZ) (ws := hC cI cJ cZ (hu L 3 fO) (hu (hu I 0 I0) 1 I1) (hu V 2 (nI cnt)) tl) (b := 10) (w := 11) (N := 4) (a := 0) (f := fO) (b' := b) (w' := w) (N' := 1024) (a' := fd a) (g := L q) rfl rfl (by decide) (by decide) (hbb _ _ _) (by rw [hww, hu_n hq3]) (by omega) (by decide)) s_Se_41 ki_St_takeShared ks_St_takeShared ⟨rfl, rfl, Nat.le_of_ble_eq_true rfl, Nat.le_of_ble_eq_true rfl⟩ rfl d_Se_spread_31 (by first | assumption | rfl) (Nat.le_of_ble_eq_true rfl) ⟨(Nat.le_of_ble_eq_true rfl), (Nat.le_of_ble_eq_true rfl)⟩ (fun E ws9 h9 => absurd h9 id) (fun v9 ws9 hp => ?_)
      have hpend : ∃ (pd : Option Nat) (fO2 : Nat → Int64), v9 = some (.int (sp_p pd)) ∧ ws9 = hC cI cJ cZ (hu L 3 fO2) (hu (hu I 0 I0) 1 I1) (hu V 2 (nI cnt)) tl ∧ (match pd with | none => (∀ z, z < 256 → (ss_b fO2 0 z = true ↔ (ss_b (L 3) 0 z = true ∧ ¬ bf_F fd cnt z))) ∧ ∀ z, z < 256 → ss_b (L q) (fd a) z = true → ss_b fO2 0 z = false | some x => x < 256 ∧ ss_b (L 3) 0 x = true ∧ ss_b (L q) (fd a) x = true ∧ ¬ bf_F fd cnt x ∧ ∀ z, z < 256 → (ss_b fO2 0 z = true ↔ (ss_b (L 3) 0 z = true ∧ ¬ bf_F fd cnt z ∧ z ≠ x))) := by
        rcases hp with ⟨e1, e2, e3⟩ | ⟨x, f', e1, hx, hb1, hb2, -, e3, hb3⟩
        · refine ⟨none, fO, e1, e3, hO, fun z hz hg => ?_⟩
          cases hc : ss_b fO 0 z with
          | false => rfl
          | true => exact absurd ⟨hc, hg⟩ (e2 z hz)
        · have h4 := (hO x hx).mp hb1
          refine ⟨some x, f', e1, e3, hx, h4.1, hb2, h4.2, fun z hz => ?_⟩
          rw [hb3 0 z hz]
          by_cases e : z = x
          · simp [e]
          · simp only [e, decide_true, decide_false, Bool.and_false, Bool.not_false, Bool.and_true, ne_eq, not_false_eq_true, and_true]
            exact hO z hz
      obtain ⟨pd, fO2, rfl, rfl, hpd⟩ := hpend
      refine sv_istore C d_Se_spread_34 (by decide) rfl ?_
      refine sv_iconst (v := 0) C d_Se_spread_36 rfl ?_
      refine sv_istore C d_Se_spread_37 (by decide) rfl ?_
      refine sv_ind (σ := Nat × Nat × (Nat → Int64) × (Nat → Int32) × (Nat → Int32) × (Nat → Nat) × (Nat → Nat) × Option Nat) (I := fun s => s.1 < s.2.1 ∧ a < s.2.1 ∧ s.2.2.2.2.2.1 a = fd a ∧ sp_S (L q) (L 3) cnt0 fd0 (I 1) a s.2.1 s.2.2.2.1 s.2.2.2.2.1 s.2.2.2.2.2.1 s.2.2.2.2.2.2.1 ∧ (match s.2.2.2.2.2.2.2 with | none => (∀ z, z < 256 → (ss_b s.2.2.1 0 z = true ↔ (ss_b (L 3) 0 z = true ∧ ¬ bf_F s.2.2.2.2.2.1 s.2.1 z))) ∧ ∀ z, z < 256 → ss_b (L q) (fd a) z = true → ss_b s.2.2.1 0 z = false | some x => x < 256 ∧ ss_b (L 3) 0 x = true ∧ ss_b (L q) (fd a) x = true ∧ ¬ bf_F s.2.2.2.2.2.1 s.2.1 x ∧ ∀ z, z < 256 → (ss_b s.2.2.1 0 z = true ↔ (ss_b (L 3) 0 z = true ∧ ¬ bf_F s.2.2.2.2.2.1 s.2.1 z ∧ z ≠ x)))) (μ := fun s => 256 - s.2.1)
        (lv := fun s => [some (.ref 9), some (.ref b), some (.int (nI a)), some (.int (nI (fd a))), some (.int (sp_p s.2.2.2.2.2.2.2)), some (.int (nI s.1))]) (ws := fun s => hC cI cJ cZ (hu L 3 s.2.2.1) (hu (hu I 0 s.2.2.2.1) 1 s.2.2.2.2.1) (hu V 2 (nI s.2.1)) tl) ?_ (0, cnt, fO2, I0, I1, fd, dd, pd) ⟨by show 0 < cnt; omega, by show a < cnt; omega, rfl, hS, hpd⟩
      clear hpd hS hO hF hF2
      rintro ⟨t, n, fO, I0, I1, fe, dd, pd⟩ ⟨htn, han, hfe, hS, hpd⟩ ih2
      dsimp only at htn han hfe hS hpd ih2
      have hle := bf_le hS.1
      cases pd with
      | none =>
        refine sv_iload C d_Se_spread_39 rfl ?_
        refine sv_iconst (v := (-1)) C d_Se_spread_41 rfl ?_
        refine sv_icmp_eq (tgt := 85) C d_Se_spread_42 (by decide) (fun hT3 => ?_) (fun hF3 => ?_)
        · refine sv_iincN C d_Se_spread_85 rfl (by decide) rfl ?_
          refine sv_goto (tgt := 2) C d_Se_spread_88 (by decide) ?_
          refine sv_drop [true, true, true, false, false, false] ?_
          refine ih (a + 1, n, fO, I0, I1, fe, dd) ⟨⟨bf_next hS.1 han (fun z hz => ?_), hS.2⟩, hpd.1⟩ (by show 256 - (a + 1) < 256 - a; omega)
          refine Classical.byContradiction (fun hn => ?_)
          have hz : sp_E (L q) (L 3) (fe a) z := hz
          have hn : ¬ bf_F fe n z := hn
          rw [hfe] at hz
          have h5 := hpd.2 z hz.1 hz.2.1
          rw [(hpd.1 z hz.1).mpr ⟨hz.2.2, hn⟩] at h5
          cases h5
        · exact absurd rfl hF3
      | some x =>
        obtain ⟨hx, hOx, hSx, hFx, hOz⟩ := hpd
        have hn256 := bf_lt hS.1 hx hFx
        refine sv_iload C d_Se_spread_39 rfl ?_
        refine sv_iconst (v := (-1)) C d_Se_spread_41 rfl ?_
        refine sv_icmp_eq (tgt := 85) C d_Se_spread_42 (by decide) (fun hT3 => ?_) (fun hF3 => ?_)
        · exact absurd hT3 (sp_m1 (by omega))
        · refine sv_iload C d_Se_spread_45 rfl ?_
          refine sv_sipush (v := 256) C d_Se_spread_47 rfl ?_
          refine sv_icmp_ge (tgt := 85) C d_Se_spread_50 (by decide) (fun hT4 => ?_) (fun hF4 => ?_)
          · exfalso
            have h3 : 256 ≤ t := (nI_leI (a := 256) (b := t) (by omega) (by omega)).mp hT4
            omega
          · have hfin : vp_in (nI (fd a)) 256 := vp_in_nI hfa (by omega)
            refine sv_aload_n C d_Se_spread_53 rfl rfl ?_
            refine sv_iload C d_Se_spread_54 rfl ?_
            refine sv_aload_n C d_Se_spread_56 rfl rfl ?_
            refine sv_get (ci := 2) (kf := 2) C i_Se rfl (by decide) f_Se_24 (fun _ h9 => h9) d_Se_spread_57 (by first | assumption | rfl) rfl ?_
            refine sv_iload_n C d_Se_spread_60 rfl rfl ?_
            refine sv_iald (t0 := 0) C rfl d_Se_spread_61 (by first | assumption | rfl) (by assumption) ?_
            refine sv_iconst (v := 1) C d_Se_spread_62 rfl ?_
            refine sv_iadd C d_Se_spread_63 ?_
            refine sv_eqs (st' := [.int (nI (dd (fd a) + 1)), .int (nI x), .ref 9]) (by show [Value.int (I1 (nI (fd a)).toNatClampNeg + 1), _, _] = _; rw [nI_clamp (by omega), ← hfe, (hS.2.2.1 a han).1, nI_1]; rfl) ?_
            refine sv_callV (ci := 2) C (c_Se_find (cI := cI) (cJ := cJ) (cZ := cZ) (L := hu L 3 fO) (I := hu (hu I 0 I0) 1 I1) (V := hu V 2 (nI n)) (tl := tl) (n := n) (x := x) (d := nI (dd (fd a) + 1)) hn256 hx rfl) s_Se_45 ki_Se_find ks_Se_find ⟨rfl, rfl, Nat.le_of_ble_eq_true rfl, Nat.le_of_ble_eq_true rfl⟩ rfl d_Se_spread_64 (by first | assumption | rfl) (Nat.le_of_ble_eq_true rfl) ⟨(Nat.le_of_ble_eq_true rfl), (Nat.le_of_ble_eq_true rfl)⟩ (fun E ws9 h9 => absurd h9 id) (fun v9 ws9 hp => ?_)
            obtain ⟨rfl, rfl⟩ := hp
            have hS2 := sp_add hS han hx hOx (by rw [hfe]; exact hSx) hFx
            rw [hfe] at hS2
            refine sv_aload_n C d_Se_spread_67 rfl rfl ?_
            refine sv_get (ci := 2) (kf := 0) C i_Se rfl (by decide) f_Se_14 (fun _ h9 => h9) d_Se_spread_68 (by first | assumption | rfl) rfl ?_
            refine sv_iconst (v := 0) C d_Se_spread_71 rfl ?_
            refine sv_aload_n C d_Se_spread_72 rfl rfl ?_
            refine sv_iload_n C d_Se_spread_73 rfl rfl ?_
            refine sv_eqw (ws' := hC cI cJ cZ (hu L 3 fO) (hu (hu I 0 (upd I0 n (nI x))) 1 (upd I1 x (nI (dd (fd a) + 1)))) (hu V 2 (nI (n + 1))) tl) (by rw [hu_hu, hu_sw _ _ _ (show (1 : Nat) ≠ 0 by decide), hu_hu, hu_hu]; rfl) ?_
            refine sv_callV (ci := 3) C (c_St_takeShared (cI := cI) (cZ := cZ) (ws := hC cI cJ cZ (hu L 3 fO) (hu (hu I 0 (upd I0 n (nI x))) 1 (upd I1 x (nI (dd (fd a) + 1)))) (hu V 2 (nI (n + 1))) tl) (b := 10) (w := 11) (N := 4) (a := 0) (f := fO) (b' := b) (w' := w) (N' := 1024) (a' := fd a) (g := L q) rfl rfl (by decide) (by decide) (hbb _ _ _) (by rw [hww, hu_n hq3]) (by omega) (by decide)) s_Se_41 ki_St_takeShared ks_St_takeShared ⟨rfl, rfl, Nat.le_of_ble_eq_true rfl, Nat.le_of_ble_eq_true rfl⟩ rfl d_Se_spread_74 (by first | assumption | rfl) (Nat.le_of_ble_eq_true rfl) ⟨(Nat.le_of_ble_eq_true rfl), (Nat.le_of_ble_eq_true rfl)⟩ (fun E ws9 h9 => absurd h9 id) (fun v9 ws9 hp => ?_)
            have hOz2 : ∀ z, z < 256 → (ss_b fO 0 z = true ↔ (ss_b (L 3) 0 z = true ∧ ¬ bf_F (hu fe n x) (n + 1) z)) := by
              intro z hz
              rw [hOz z hz, bf_F_s]
              exact ⟨fun h => ⟨h.1, fun q => q.elim h.2.1 h.2.2⟩, fun h => ⟨h.1, fun q => h.2 (Or.inl q), fun q => h.2 (Or.inr q)⟩⟩
            have hpend : ∃ (pd : Option Nat) (fO2 : Nat → Int64), v9 = some (.int (sp_p pd)) ∧ ws9 = hC cI cJ cZ (hu L 3 fO2) (hu (hu I 0 (upd I0 n (nI x))) 1 (upd I1 x (nI (dd (fd a) + 1)))) (hu V 2 (nI (n + 1))) tl ∧ (match pd with | none => (∀ z, z < 256 → (ss_b fO2 0 z = true ↔ (ss_b (L 3) 0 z = true ∧ ¬ bf_F (hu fe n x) (n + 1) z))) ∧ ∀ z, z < 256 → ss_b (L q) (fd a) z = true → ss_b fO2 0 z = false | some x' => x' < 256 ∧ ss_b (L 3) 0 x' = true ∧ ss_b (L q) (fd a) x' = true ∧ ¬ bf_F (hu fe n x) (n + 1) x' ∧ ∀ z, z < 256 → (ss_b fO2 0 z = true ↔ (ss_b (L 3) 0 z = true ∧ ¬ bf_F (hu fe n x) (n + 1) z ∧ z ≠ x'))) := by
              rcases hp with ⟨e1, e2, e3⟩ | ⟨x', f', e1, hx', hb1, hb2, -, e3, hb3⟩
              · refine ⟨none, fO, e1, e3, hOz2, fun z hz hg => ?_⟩
                cases hc : ss_b fO 0 z with
                | false => rfl
                | true => exact absurd ⟨hc, hg⟩ (e2 z hz)
              · have h4 := (hOz2 x' hx').mp hb1
                refine ⟨some x', f', e1, e3, hx', h4.1, hb2, h4.2, fun z hz => ?_⟩
                rw [hb3 0 z hz]
                by_cases e : z = x'
                · simp [e]
                · simp only [e, decide_true, decide_false, Bool.and_false, Bool.not_false, Bool.and_true, ne_eq, not_false_eq_true, and_true]
                  exact hOz2 z hz
            obtain ⟨pd, fO2, rfl, rfl, hpd⟩ := hpend
            refine sv_istore C d_Se_spread_77 (by decide) rfl ?_
            refine sv_iincN C d_Se_spread_79 rfl (by decide) rfl ?_
            refine sv_goto (tgt := 39) C d_Se_spread_82 (by decide) ?_
            exact ih2 (t + 1, n + 1, fO2, upd I0 n (nI x), upd I1 x (nI (dd (fd a) + 1)), hu fe n x, hu dd x (dd (fd a) + 1), pd) ⟨by show t + 1 < n + 1; omega, by show a < n + 1; omega, by show hu fe n x a = fd a; rw [hu_n (by omega)]; exact hfe, hS2, hpd⟩ (by show 256 - (n + 1) < 256 - n; omega)
end
section
/-! Search.listEnded -/
def sp_q : Nat → Int32
  | 0 => -1
  | i + 1 => nI i
theorem sp_q_s (i : Nat) : nI i + Int32.ofInt (-1) = sp_q i := by
  cases i with
  | zero => decide
  | succ i => exact pk_m1 i
section
variable {p : Program} {l : Launch} {e : Env} {R : Room} {s : State} {m : MethodId} {args : Array Value} {below : List Frame} {meth : Method} {c : Code} {D : va_G} {cl : List vw_C} {tys : List (ClassId × FieldType)} {A : Nat → Prop} {nL : Nat} {ad : Nat → Nat} {Q : State → Prop} {cc : ByteArray} {own : String} {ret : Option FieldType} {pc : Nat} {lv : List (Option Value)} {st : List Value} {ws : List va_E} {k n : Nat}
theorem sv_iincD (C : sv_C p s m args meth c D cl tys A cc nL own ret) {i j : Nat} (hd : decode cc pc = .ok (.iinc i (-1), 3)) (hv : lv[i]? = some (some (.int (nI j)))) (hn : i < nL) (hk : sv_lk lv i = true) (kk : sv_V p l e R s m args below meth c D cl A nL ad Q (pc + 3) (lv.set i (some (.int (sp_q j)))) st ws k n) : sv_V p l e R s m args below meth c D cl A nL ad Q pc lv st ws k n :=
  sv_iinc C hd hv (sp_q_s j) hn hk kk
theorem sv_join {σ : Type} {lv0 : List (Option Value)} {ws0 : List va_E} {pc1 k1 n1 : Nat} {st1 : List Value} (J : σ → Prop) (lv1 : σ → List (Option Value)) (ws1 : σ → List va_E) (hj : ∀ a, J a → sv_V p l e R s m args below meth c D cl A nL ad Q pc1 (lv1 a) st1 (ws1 a) k1 n1)
    (kk : (∀ a, J a → sv_V p l e R s m args below meth c D cl A nL ad Q pc1 (lv1 a) st1 (ws1 a) k1 n1) → sv_V p l e R s m args below meth c D cl A nL ad Q pc lv0 st ws0 k n) : sv_V p l e R s m args below meth c D cl A nL ad Q pc lv0 st ws0 k n := kk hj
end
def g_lst (f : Nat → Nat) : Nat → List Nat
  | 0 => []
  | n + 1 => f n :: g_lst f n
theorem g_lst_mem {f : Nat → Nat} {x : Nat} : ∀ n, x ∈ g_lst f n ↔ ∃ i, i < n ∧ f i = x
  | 0 => ⟨fun h => absurd h List.not_mem_nil, fun ⟨i, h, _⟩ => absurd h (Nat.not_lt_zero i)⟩
  | n + 1 => by
    rw [g_lst, List.mem_cons, g_lst_mem n]
    constructor
    · rintro (h | ⟨i, hi, e⟩)
      · exact ⟨n, by omega, h.symm⟩
      · exact ⟨i, by omega, e⟩
    · rintro ⟨i, hi, e⟩
      by_cases h : i = n
      · exact Or.inl (by rw [← e, h])
      · exact Or.inr ⟨i, by omega, e⟩
theorem g_lst_cg {f f' : Nat → Nat} : ∀ n, (∀ i, i < n → f i = f' i) → g_lst f n = g_lst f' n
  | 0, _ => rfl
  | n + 1, h => by
    rw [g_lst, g_lst, h n (by omega), g_lst_cg n (fun i hi => h i (by omega))]
theorem g_lst_hu (f : Nat → Nat) (n x : Nat) : g_lst (hu f n x) (n + 1) = x :: g_lst f n := by
  rw [g_lst, hu_s, g_lst_cg n (fun i hi => hu_n (by omega))]
theorem g_lst_inj {f : Nat → Nat} : ∀ n, (g_lst f n).Nodup → ∀ i j, i < n → j < n → f i = f j → i = j
  | 0, _, i, j, hi, _, _ => absurd hi (Nat.not_lt_zero i)
  | n + 1, h, i, j, hi, hj, e => by
    obtain ⟨h1, h2⟩ := List.nodup_cons.mp h
    by_cases e1 : i = n
    · by_cases e2 : j = n
      · omega
      · exact absurd ((g_lst_mem n).mpr ⟨j, by omega, by rw [← e, e1]⟩) h1
    · by_cases e2 : j = n
      · exact absurd ((g_lst_mem n).mpr ⟨i, by omega, by rw [e, e2]⟩) h1
      · exact g_lst_inj n h2 i j (by omega) (by omega) e
theorem g_lst_lt {f : Nat → Nat} {n x : Nat} (h : (g_lst f n).Nodup) (h2 : ∀ i, i < n → f i < 256) (hx : x < 256) (hn : x ∉ g_lst f n) : n < 256 := by
  have h1 := pig 256 (n + 1) (hu f n x) (fun i hi => by
    by_cases e : i = n
    · rw [e, hu_s]
      exact hx
    · rw [hu_n e]
      exact h2 i (by omega)) (bf_inj (g_lst_inj n h) (fun ⟨i, hi, e⟩ => hn ((g_lst_mem n).mpr ⟨i, hi, e⟩)))
  omega
def le_X (fX : Nat → Int64) (x : Nat) : Prop := x < 256 ∧ ss_b fX 0 x = true
def le_E (g fX : Nat → Int64) (x z : Nat) : Prop := le_X fX x ∧ le_X fX z ∧ ss_b g x z = true
theorem le_E_X {g fX : Nat → Int64} : ∀ x y, le_E g fX x y → le_X fX x ∧ le_X fX y := fun _ _ h => ⟨h.1, h.2.1⟩
/-- between two turns: path and ended as arrays -/
def le_S (g fX fO : Nat → Int64) (I2 I3 : Nat → Int32) (pa en : Nat → Nat) (d n : Nat) : Prop :=
  g_dfs (le_E g fX) (le_X fX) (le_X fO) (g_lst pa d) (g_lst en n) ∧ (∀ i, i < d → I2 i = nI (pa i)) ∧ ∀ i, i < n → I3 i = nI (en i)
theorem le_lt {g fX fO : Nat → Int64} {I2 I3 : Nat → Int32} {pa en : Nat → Nat} {d n : Nat} (h : le_S g fX fO I2 I3 pa en d n) : (∀ i, i < d → pa i < 256) ∧ ∀ i, i < n → en i < 256 :=
  ⟨fun i hi => ((h.1.1 (pa i)).mpr (Or.inr (Or.inl ((g_lst_mem d).mpr ⟨i, hi, rfl⟩)))).1, fun i hi => ((h.1.1 (en i)).mpr (Or.inr (Or.inr ((g_lst_mem n).mpr ⟨i, hi, rfl⟩)))).1⟩
theorem le_cnt {fO fO' : Nat → Int64} {x : Nat} (hx : x < 256) (h : ss_b fO 0 x = true) (h2 : ∀ z, z < 256 → ss_b fO' 0 z = (ss_b fO 0 z && !decide (z = x))) : g_cnt (fun z => ss_b fO' 0 z) 256 + 1 = g_cnt (fun z => ss_b fO 0 z) 256 := by
  have h3 := g_cnt_drop (O := fun z => ss_b fO 0 z) (O' := fun z => ss_b fO 0 z && decide (z ≠ x)) (k := x) h (fun _ => rfl) 256 hx
  have h4 : g_cnt (fun z => ss_b fO' 0 z) 256 = g_cnt (fun z => ss_b fO 0 z && decide (z ≠ x)) 256 := g_cnt_congr 256 (fun z hz => by
    rw [h2 z hz]
    by_cases e : z = x <;> simp [e])
  rw [h4]
  exact h3
set_option maxRecDepth 100000 in
set_option maxHeartbeats 4000000 in
theorem c_Se_listEnded {l : Launch} {D : va_G} {cI cJ cZ : ClassId} {L : Nat → Nat → Int64} {I : Nat → Nat → Int32} {V : Nat → Int32} {tl : List va_E} {N : Nat} (hN : N ≤ 256) (hXN : ∀ z, z < 256 → ss_b (L 3) 0 z = true → z < N) :
    sv_M l y_Se_listEnded [Cond.code y_Se_listEnded b_Se_listEnded 8 (some .int)] ({ frames := 2, cells := 0, slots := 0, locals := 49 } : Room) D sv_cl (sv_ty cI cJ cZ) [.ref 9, .ref 6, .int (nI N)] (hC cI cJ cZ L I V tl) 0 0 (fun r ws' => ∃ (n : Nat) (fO : Nat → Int64) (I2 I3 : Nat → Int32) (en : Nat → Nat), r = some (.int (nI n)) ∧ ws' = hC cI cJ cZ (hu L 3 fO) (hu (hu I 2 I2) 3 I3) V tl ∧ n ≤ 256 ∧ (∀ i, i < n → en i < 256 ∧ I3 i = nI (en i)) ∧ (∀ x, le_X (L 3) x ↔ x ∈ g_lst en n) ∧ (g_lst en n).Nodup ∧ ∀ x, le_X (L 3) x → ∀ w, g_re (le_E (L 2) (L 3)) x w → ∃ x', g_eq (le_E (L 2) (L 3)) x x' ∧ g_bef (g_lst en n) x' w) sv_no 0 0 := by
  refine sv_of (cc := b_Se_listEnded) (by decide +kernel) (Nat.le_of_ble_eq_true rfl) ?_
  intro pX eX sX mX aX bX tX cX AX adX C htab hnm
  refine sv_iconst (v := 0) C d_Se_listEnded_0 rfl ?_
  refine sv_istore_n C d_Se_listEnded_1 rfl (by decide) rfl ?_
  refine sv_iconst (v := 0) C d_Se_listEnded_2 rfl ?_
  refine sv_istore C d_Se_listEnded_3 (by decide) rfl ?_
  refine sv_eqw (ws' := hC cI cJ cZ (hu L 3 (L 3)) (hu (hu I 2 (I 2)) 3 (I 3)) V tl) (by rw [hu_same, hu_same, hu_same]) ?_
  refine sv_ind (σ := Nat × Nat × (Nat → Int64) × (Nat → Int32) × (Nat → Int32) × (Nat → Nat) × (Nat → Nat)) (I := fun s => s.1 ≤ N ∧ (∀ z, z < s.1 → ¬ le_X s.2.2.1 z) ∧ le_S (L 2) (L 3) s.2.2.1 s.2.2.2.1 s.2.2.2.2.1 s.2.2.2.2.2.1 s.2.2.2.2.2.2 0 s.2.1) (μ := fun s => N - s.1)
    (lv := fun s => [some (.ref 9), some (.ref 6), some (.int (nI N)), some (.int (nI s.2.1)), some (.int (nI s.1)), none, none, none]) (ws := fun s => hC cI cJ cZ (hu L 3 s.2.2.1) (hu (hu I 2 s.2.2.2.1) 3 s.2.2.2.2.1) V tl) ?_ (0, 0, L 3, I 2, I 3, fun _ => 0, fun _ => 0) ⟨Nat.zero_le _, fun z hz => absurd hz (Nat.not_lt_zero z), g_dfs_0, fun i hi => absurd hi (Nat.not_lt_zero i), fun i hi => absurd hi (Nat.not_lt_zero i)⟩
  rintro ⟨root, n, fO, I2, I3, pa, en⟩ ⟨hr, hro, hS⟩ ih
  dsimp only at hr hro hS ih
  have hn256 : n ≤ 256 := pig 256 n en (le_lt hS).2 (g_lst_inj n hS.1.2.2.2.2.1)
  refine sv_iload C d_Se_listEnded_5 rfl ?_
  refine sv_iload_n C d_Se_listEnded_7 rfl rfl ?_
  refine sv_icmp_ge (tgt := 151) C d_Se_listEnded_8 (by decide) (fun hT => ?_) (fun hF => ?_)
  · have h1 : N ≤ root := (nI_leI (a := N) (b := root) (by omega) (by omega)).mp hT
    obtain ⟨q1, q2, q3⟩ := g_dfs_end hS.1 (fun x hx => by
      have h2 := (hS.1.1 x).mpr (Or.inl hx)
      exact hro x (by have := hXN x h2.1 h2.2; omega) hx)
    refine sv_iload_n C d_Se_listEnded_151 rfl rfl ?_
    exact sv_iret C rfl rfl d_Se_listEnded_152 (Nat.le_of_ble_eq_true rfl) (Nat.le_of_ble_eq_true rfl) (fun _ _ => rfl) (⟨n, fO, I2, I3, en, rfl, rfl, hn256, fun i hi => ⟨(le_lt hS).2 i hi, hS.2.2 i hi⟩, q1, q2, q3⟩)
  · have h1 : ¬ N ≤ root := fun h => hF ((nI_leI (a := N) (b := root) (by omega) (by omega)).mpr h)
    refine sv_iconst (v := 0) C d_Se_listEnded_11 rfl ?_
    refine sv_istore C d_Se_listEnded_12 (by decide) rfl ?_
    refine sv_aload_n C d_Se_listEnded_14 rfl rfl ?_
    refine sv_get (ci := 2) (kf := 0) C i_Se rfl (by decide) f_Se_14 (fun _ h9 => h9) d_Se_listEnded_15 (by first | assumption | rfl) rfl ?_
    refine sv_iconst (v := 0) C d_Se_listEnded_18 rfl ?_
    refine sv_iload C d_Se_listEnded_19 rfl ?_
    refine sv_callV (ci := 3) C (c_St_has (cI := cI) (cZ := cZ) (ws := hC cI cJ cZ (hu L 3 fO) (hu (hu I 2 I2) 3 I3) V tl) (b := 10) (w := 11) (N := 4) (a := 0) (x := root) (f := fO) rfl rfl (by decide) (by decide) (by omega)) s_Se_49 ki_St_has ks_St_has ⟨rfl, rfl, Nat.le_of_ble_eq_true rfl, Nat.le_of_ble_eq_true rfl⟩ rfl d_Se_listEnded_21 (by first | assumption | rfl) (Nat.le_of_ble_eq_true rfl) ⟨(Nat.le_of_ble_eq_true rfl), (Nat.le_of_ble_eq_true rfl)⟩ (fun E ws9 h9 => absurd h9 id) (fun v9 ws9 hp => ?_)
    obtain ⟨rfl, rfl⟩ := hp
    -- from here on: the inner loop
    refine sv_join (σ := Nat × (Nat → Int64) × (Nat → Int32) × (Nat → Nat)) (pc1 := 51) (st1 := []) (k1 := 0) (n1 := 0) (J := fun s => le_S (L 2) (L 3) s.2.1 s.2.2.1 I3 s.2.2.2 en s.1 n ∧ (∀ z, z < root + 1 → ¬ le_X s.2.1 z) ∧ (s.1 = 0 ∨ 2 * g_cnt (fun z => ss_b s.2.1 0 z) 256 + s.1 ≤ 511)) (lv1 := fun s => [some (.ref 9), some (.ref 6), some (.int (nI N)), some (.int (nI n)), some (.int (nI root)), some (.int (nI s.1)), some (.int (nI 0)), none]) (ws1 := fun s => hC cI cJ cZ (hu L 3 s.2.1) (hu (hu I 2 s.2.2.1) 3 I3) V tl) ?_ (fun inner => ?_)
    · rintro ⟨d0, fO0, I20, pa0⟩ ⟨hS0, hro0, hc0⟩
      dsimp only at hS0 hro0 hc0
      refine sv_ind (σ := Nat × Nat × Nat × (Nat → Int64) × (Nat → Int32) × (Nat → Int32) × (Nat → Nat) × (Nat → Nat)) (I := fun s => (s.2.1 = 0 ∨ s.1 + 2 * g_cnt (fun z => ss_b s.2.2.2.1 0 z) 256 + s.2.1 ≤ 511) ∧ (∀ z, z < root + 1 → ¬ le_X s.2.2.2.1 z) ∧ le_S (L 2) (L 3) s.2.2.2.1 s.2.2.2.2.1 s.2.2.2.2.2.1 s.2.2.2.2.2.2.1 s.2.2.2.2.2.2.2 s.2.1 s.2.2.1) (μ := fun s => 2 * g_cnt (fun z => ss_b s.2.2.2.1 0 z) 256 + s.2.1)
        (lv := fun s => [some (.ref 9), some (.ref 6), some (.int (nI N)), some (.int (nI s.2.2.1)), some (.int (nI root)), some (.int (nI s.2.1)), some (.int (nI s.1)), none]) (ws := fun s => hC cI cJ cZ (hu L 3 s.2.2.2.1) (hu (hu I 2 s.2.2.2.2.1) 3 s.2.2.2.2.2.1) V tl) ?_ (0, d0, n, fO0, I20, I3, pa0, en) ⟨by rcases hc0 with h | h; exact Or.inl h; exact Or.inr (by dsimp only; omega), hro0, hS0⟩
      rintro ⟨t, d, n, fO, I2, I3, pa, en⟩ ⟨hc, hro, hS⟩ ih2
      dsimp only at hc hro hS ih2
      have hdle : d ≤ 256 := pig 256 d pa (le_lt hS).1 (g_lst_inj d hS.1.2.2.2.1)
      refine sv_iload C d_Se_listEnded_51 rfl ?_
      refine sv_if_le (tgt := 145) C d_Se_listEnded_53 (by decide) (fun hT2 => ?_) (fun hF2 => ?_)
      · have h2 : d ≤ 0 := (nI_leI (a := d) (b := 0) (by omega) (by omega)).mp hT2
        have h2 : d = 0 := by omega
        subst h2
        refine sv_iincN C d_Se_listEnded_145 rfl (by decide) rfl ?_
        refine sv_goto (tgt := 5) C d_Se_listEnded_148 (by decide) ?_
        refine sv_drop [true, true, true, true, true, false, false, false] ?_
        exact ih (root + 1, n, fO, I2, I3, pa, en) ⟨by show root + 1 ≤ N; omega, hro, hS⟩ (by show N - (root + 1) < N - root; omega)
      · have h2 : ¬ d ≤ 0 := fun h => hF2 ((nI_leI (a := d) (b := 0) (by omega) (by omega)).mpr h)
        obtain ⟨e, rfl⟩ : ∃ e, d = e + 1 := ⟨d - 1, by omega⟩
        have hc : t + 2 * g_cnt (fun z => ss_b fO 0 z) 256 + (e + 1) ≤ 511 := hc.resolve_left (by omega)
        have hpe := (le_lt hS).1 e (by omega)
        refine sv_iload C d_Se_listEnded_56 rfl ?_
        refine sv_sipush (v := 512) C d_Se_listEnded_58 rfl ?_
        refine sv_icmp_ge (tgt := 145) C d_Se_listEnded_61 (by decide) (fun hT3 => ?_) (fun hF3 => ?_)
        · exfalso
          have h3 : 512 ≤ t := (nI_leI (a := 512) (b := t) (by omega) (by omega)).mp hT3
          omega
        · have hein : vp_in (nI (e + 1) - 1) 256 := by rw [nI_pred]; exact vp_in_nI (by omega) (by omega)
          refine sv_aload_n C d_Se_listEnded_64 rfl rfl ?_
          refine sv_get (ci := 2) (kf := 0) C i_Se rfl (by decide) f_Se_14 (fun _ h9 => h9) d_Se_listEnded_65 (by first | assumption | rfl) rfl ?_
          refine sv_iconst (v := 0) C d_Se_listEnded_68 rfl ?_
          refine sv_aload_n C d_Se_listEnded_69 rfl rfl ?_
          refine sv_aload_n C d_Se_listEnded_70 rfl rfl ?_
          refine sv_get (ci := 2) (kf := 3) C i_Se rfl (by decide) f_Se_27 (fun _ h9 => h9) d_Se_listEnded_71 (by first | assumption | rfl) rfl ?_
          refine sv_iload C d_Se_listEnded_74 rfl ?_
          refine sv_iconst (v := 1) C d_Se_listEnded_76 rfl ?_
          refine sv_isub C d_Se_listEnded_77 ?_
          refine sv_iald (t0 := 0) C rfl d_Se_listEnded_78 (by first | assumption | rfl) (by assumption) ?_
          refine sv_eqs (st' := [.int (nI (pa e)), .ref 6, .int 0, .ref 10]) (by show [Value.int (I2 (nI (e + 1) - 1).toNatClampNeg), _, _, _] = _; rw [nI_pred, nI_clamp (by omega), hS.2.1 e (by omega)]) ?_
          refine sv_callV (ci := 3) C (c_St_takeShared (cI := cI) (cZ := cZ) (ws := hC cI cJ cZ (hu L 3 fO) (hu (hu I 2 I2) 3 I3) V tl) (b := 10) (w := 11) (N := 4) (a := 0) (f := fO) (b' := 6) (w' := 7) (N' := 1024) (a' := pa e) (g := L 2) rfl rfl (by decide) (by decide) rfl rfl (by omega) (by decide)) s_Se_41 ki_St_takeShared ks_St_takeShared ⟨rfl, rfl, Nat.le_of_ble_eq_true rfl, Nat.le_of_ble_eq_true rfl⟩ rfl d_Se_listEnded_79 (by first | assumption | rfl) (Nat.le_of_ble_eq_true rfl) ⟨(Nat.le_of_ble_eq_true rfl), (Nat.le_of_ble_eq_true rfl)⟩ (fun E ws9 h9 => absurd h9 id) (fun v9 ws9 hp => ?_)
          rcases hp with ⟨rfl, hap, rfl⟩ | ⟨x, f', rfl, hx, hb1, hb2, -, rfl, hb3⟩
          · -- nothing open behind the top: it ends
            have hX := g_dfs_out (t := pa e) le_E_X hS.1 (fun y hy ho => hap y hy.2.1.1 ⟨ho.2, hy.2.2⟩)
            have htn : pa e ∉ g_lst en n := hS.1.2.2.1 (pa e) List.mem_cons_self
            have hnl := g_lst_lt hS.1.2.2.2.2.1 (le_lt hS).2 hpe htn
            refine sv_istore C d_Se_listEnded_82 (by decide) rfl ?_
            refine sv_iload C d_Se_listEnded_84 rfl ?_
            refine sv_iconst (v := (-1)) C d_Se_listEnded_86 rfl ?_
            refine sv_icmp_eq (tgt := 113) C d_Se_listEnded_87 (by decide) (fun hT4 => ?_) (fun hF4 => ?_)
            · refine sv_iload_n C d_Se_listEnded_113 rfl rfl ?_
              refine sv_sipush (v := 256) C d_Se_listEnded_114 rfl ?_
              refine sv_icmp_ge (tgt := 139) C d_Se_listEnded_117 (by decide) (fun hT5 => ?_) (fun hF5 => ?_)
              · exfalso
                have h3 : 256 ≤ n := (nI_leI (a := 256) (b := n) (by omega) (by omega)).mp hT5
                omega
              · have hnin : vp_in (nI n) 256 := vp_in_nI (by omega) (by omega)
                have hein2 : vp_in (nI e) 256 := vp_in_nI (by omega) (by omega)
                refine sv_iincD C d_Se_listEnded_120 rfl (by decide) rfl ?_
                refine sv_aload_n C d_Se_listEnded_123 rfl rfl ?_
                refine sv_get (ci := 2) (kf := 4) C i_Se rfl (by decide) f_Se_30 (fun _ h9 => h9) d_Se_listEnded_124 (by first | assumption | rfl) rfl ?_
                refine sv_iload_n C d_Se_listEnded_127 rfl rfl ?_
                refine sv_aload_n C d_Se_listEnded_128 rfl rfl ?_
                refine sv_get (ci := 2) (kf := 3) C i_Se rfl (by decide) f_Se_27 (fun _ h9 => h9) d_Se_listEnded_129 (by first | assumption | rfl) rfl ?_
                refine sv_iload C d_Se_listEnded_132 rfl ?_
                refine sv_iald (t0 := 0) C rfl d_Se_listEnded_134 (by first | assumption | rfl) hein2 ?_
                refine sv_eqs (st' := [.int (nI (pa e)), .int (nI n), .ref 15]) (by show [Value.int (I2 (nI e).toNatClampNeg), _, _] = _; rw [nI_clamp (by omega), hS.2.1 e (by omega)]) ?_
                refine sv_iast (t0 := 0) C rfl d_Se_listEnded_135 (by first | assumption | rfl) (by assumption) ?_
                refine sv_eqw (ws' := hC cI cJ cZ (hu L 3 fO) (hu (hu I 2 I2) 3 (upd I3 n (nI (pa e)))) V tl) (by rw [nI_clamp (by omega)]; rfl) ?_
                refine sv_iincN C d_Se_listEnded_136 rfl (by decide) rfl ?_
                refine sv_iincN C d_Se_listEnded_139 rfl (by decide) rfl ?_
                refine sv_goto (tgt := 51) C d_Se_listEnded_142 (by decide) ?_
                refine sv_drop [true, true, true, true, true, true, true, false] ?_
                refine ih2 (t + 1, e, n + 1, fO, I2, upd I3 n (nI (pa e)), pa, hu en n (pa e)) ⟨Or.inr (by dsimp only; omega), hro, ?_, fun i hi => hS.2.1 i (Nat.lt_succ_of_lt hi), fun i hi => ?_⟩ (by dsimp only; omega)
                · show g_dfs _ _ _ (g_lst pa e) (g_lst (hu en n (pa e)) (n + 1))
                  rw [g_lst_hu]
                  exact hX
                · show upd I3 n (nI (pa e)) i = nI (hu en n (pa e) i)
                  have hi : i < n + 1 := hi
                  by_cases e9 : i = n
                  · rw [e9, pk_us, hu_s]
                  · rw [pk_un e9, hu_n e9]
                    exact hS.2.2 i (by omega)
            · exact absurd rfl hF4
          · -- x is entered
            have hxO : le_X fO x := ⟨hx, hb1⟩
            have hpX : le_X (L 3) (pa e) := (hS.1.1 (pa e)).mpr (Or.inr (Or.inl List.mem_cons_self))
            have hxX : le_X (L 3) x := (hS.1.1 x).mpr (Or.inl hxO)
            have hb4 : ∀ z, z < 256 → ss_b f' 0 z = (ss_b fO 0 z && !decide (z = x)) := fun z hz => by
              rw [hb3 0 z hz]
              simp
            have hO' : ∀ z, le_X f' z ↔ (le_X fO z ∧ z ≠ x) := fun z => by
              constructor
              · rintro ⟨h1, h2⟩
                rw [hb4 z h1] at h2
                simp only [Bool.and_eq_true, Bool.not_eq_true', decide_eq_false_iff_not] at h2
                exact ⟨⟨h1, h2.1⟩, h2.2⟩
              · rintro ⟨⟨h1, h2⟩, h3⟩
                refine ⟨h1, ?_⟩
                rw [hb4 z h1, h2]
                simp [h3]
            have hX := g_dfs_in hS.1 x hxO hO' (Or.inr ⟨pa e, g_lst pa e, rfl, hpX, hxX, hb2⟩)
            have hdl := g_lst_lt hS.1.2.2.2.1 (le_lt hS).1 hx (hS.1.2.1 x hxO).1
            have hcn := le_cnt hx hb1 hb4
            refine sv_istore C d_Se_listEnded_82 (by decide) rfl ?_
            refine sv_iload C d_Se_listEnded_84 rfl ?_
            refine sv_iconst (v := (-1)) C d_Se_listEnded_86 rfl ?_
            refine sv_icmp_eq (tgt := 113) C d_Se_listEnded_87 (by decide) (fun hT4 => ?_) (fun hF4 => ?_)
            · exact absurd hT4 (sp_m1 (by omega))
            · refine sv_iload C d_Se_listEnded_90 rfl ?_
              refine sv_sipush (v := 256) C d_Se_listEnded_92 rfl ?_
              refine sv_icmp_ge (tgt := 113) C d_Se_listEnded_95 (by decide) (fun hT5 => ?_) (fun hF5 => ?_)
              · exfalso
                have h3 : 256 ≤ e + 1 := (nI_leI (a := 256) (b := e + 1) (by omega) (by omega)).mp hT5
                omega
              · have hdin : vp_in (nI (e + 1)) 256 := vp_in_nI (by omega) (by omega)
                refine sv_aload_n C d_Se_listEnded_98 rfl rfl ?_
                refine sv_get (ci := 2) (kf := 3) C i_Se rfl (by decide) f_Se_27 (fun _ h9 => h9) d_Se_listEnded_99 (by first | assumption | rfl) rfl ?_
                refine sv_iload C d_Se_listEnded_102 rfl ?_
                refine sv_iload C d_Se_listEnded_104 rfl ?_
                refine sv_iast (t0 := 0) C rfl d_Se_listEnded_106 (by first | assumption | rfl) (by assumption) ?_
                have hcl9 : (nI (e + 1)).toNatClampNeg = e + 1 := nI_clamp (by omega)
                refine sv_eqw (ws' := hC cI cJ cZ (hu L 3 f') (hu (hu I 2 (upd I2 (e + 1) (nI x))) 3 I3) V tl) (by dsimp only; rw [hcl9]; rfl) ?_
                refine sv_iincN C d_Se_listEnded_107 rfl (by decide) rfl ?_
                refine sv_goto (tgt := 139) C d_Se_listEnded_110 (by decide) ?_
                refine sv_iincN C d_Se_listEnded_139 rfl (by decide) rfl ?_
                refine sv_goto (tgt := 51) C d_Se_listEnded_142 (by decide) ?_
                refine sv_drop [true, true, true, true, true, true, true, false] ?_
                refine ih2 (t + 1, e + 1 + 1, n, f', upd I2 (e + 1) (nI x), I3, hu pa (e + 1) x, en) ⟨Or.inr (by dsimp only; omega), fun z hz h => hro z hz ((hO' z).mp h).1, ?_, fun i hi => ?_, hS.2.2⟩ (by dsimp only; omega)
                · show g_dfs _ _ _ (g_lst (hu pa (e + 1) x) (e + 1 + 1)) (g_lst en n)
                  rw [g_lst_hu]
                  exact hX
                · show upd I2 (e + 1) (nI x) i = nI (hu pa (e + 1) x i)
                  have hi : i < e + 1 + 1 := hi
                  by_cases e9 : i = e + 1
                  · rw [e9, pk_us, hu_s]
                  · rw [pk_un e9, hu_n e9]
                    exact hS.2.1 i (by omega)
    by_cases hopen : ss_b fO 0 root = true
    · rw [if_pos hopen]
      refine sv_if_eq (tgt := 48) C d_Se_listEnded_24 (by decide) (fun hT2 => ?_) (fun hF2 => ?_)
      · exact absurd hT2 (by decide)
      · refine sv_aload_n C d_Se_listEnded_27 rfl rfl ?_
        refine sv_get (ci := 2) (kf := 0) C i_Se rfl (by decide) f_Se_14 (fun _ h9 => h9) d_Se_listEnded_28 (by first | assumption | rfl) rfl ?_
        refine sv_iconst (v := 0) C d_Se_listEnded_31 rfl ?_
        refine sv_iload C d_Se_listEnded_32 rfl ?_
        refine sv_callV (ci := 3) C (c_St_drop (cI := cI) (cZ := cZ) (ws := hC cI cJ cZ (hu L 3 fO) (hu (hu I 2 I2) 3 I3) V tl) (b := 10) (w := 11) (N := 4) (a := 0) (x := root) (f := fO) rfl rfl (by decide) (by decide) (by omega)) s_Se_53 ki_St_drop ks_St_drop ⟨rfl, rfl, Nat.le_of_ble_eq_true rfl, Nat.le_of_ble_eq_true rfl⟩ rfl d_Se_listEnded_34 (by first | assumption | rfl) (Nat.le_of_ble_eq_true rfl) ⟨(Nat.le_of_ble_eq_true rfl), (Nat.le_of_ble_eq_true rfl)⟩ (fun E ws9 h9 => absurd h9 id) (fun v9 ws9 hp => ?_)
        obtain ⟨rfl, rfl⟩ := hp
        have hb4 : ∀ z, z < 256 → ss_b (ss_drop fO 0 root) 0 z = (ss_b fO 0 z && !decide (z = root)) := fun z hz => by
          rw [ss_drop_b fO 0 root 0 z hz (by omega)]
          simp
        have hO' : ∀ z, le_X (ss_drop fO 0 root) z ↔ (le_X fO z ∧ z ≠ root) := fun z => by
          constructor
          · rintro ⟨h1, h2⟩
            rw [hb4 z h1] at h2
            simp only [Bool.and_eq_true, Bool.not_eq_true', decide_eq_false_iff_not] at h2
            exact ⟨⟨h1, h2.1⟩, h2.2⟩
          · rintro ⟨⟨h1, h2⟩, h3⟩
            refine ⟨h1, ?_⟩
            rw [hb4 z h1, h2]
            simp [h3]
        have hX := g_dfs_in hS.1 root ⟨by omega, hopen⟩ hO' (Or.inl rfl)
        have hcn := le_cnt (by omega) hopen hb4
        have hcl := g_cnt_le (fun z => ss_b fO 0 z) 256
        have h0in : vp_in 0 256 := vp_in_nI (n := 0) (by omega) (by omega)
        refine sv_aload_n C d_Se_listEnded_37 rfl rfl ?_
        refine sv_get (ci := 2) (kf := 3) C i_Se rfl (by decide) f_Se_27 (fun _ h9 => h9) d_Se_listEnded_38 (by first | assumption | rfl) rfl ?_
        refine sv_iconst (v := 0) C d_Se_listEnded_41 rfl ?_
        refine sv_iload C d_Se_listEnded_42 rfl ?_
        refine sv_iast (t0 := 0) C rfl d_Se_listEnded_44 (by first | assumption | rfl) (by assumption) ?_
        refine sv_iconst (v := 1) C d_Se_listEnded_45 rfl ?_
        refine sv_istore C d_Se_listEnded_46 (by decide) rfl ?_
        refine sv_iconst (v := 0) C d_Se_listEnded_48 rfl ?_
        refine sv_istore C d_Se_listEnded_49 (by decide) rfl ?_
        refine sv_eqw (ws' := hC cI cJ cZ (hu L 3 (ss_drop fO 0 root)) (hu (hu I 2 (upd I2 0 (nI root))) 3 I3) V tl) rfl ?_
        exact inner (1, ss_drop fO 0 root, upd I2 0 (nI root), hu pa 0 root) ⟨⟨by show g_dfs _ _ _ (g_lst (hu pa 0 root) (0 + 1)) _; rw [g_lst_hu]; exact hX, fun i hi => by
          have h9 : i < 1 := hi
          have h9 : i = 0 := by omega
          show upd I2 0 (nI root) i = nI (hu pa 0 root i)
          rw [h9, pk_us, hu_s], hS.2.2⟩, fun z hz h => by
          have h9 := (hO' z).mp h
          exact hro z (by have := h9.2; omega) h9.1, Or.inr (by show 2 * g_cnt (fun z => ss_b (ss_drop fO 0 root) 0 z) 256 + 1 ≤ 511; omega)⟩
    · rw [if_neg hopen]
      refine sv_if_eq (tgt := 48) C d_Se_listEnded_24 (by decide) (fun hT2 => ?_) (fun hF2 => ?_)
      · refine sv_iconst (v := 0) C d_Se_listEnded_48 rfl ?_
        refine sv_istore C d_Se_listEnded_49 (by decide) rfl ?_
        exact inner (0, fO, I2, pa) ⟨hS, fun z hz h => by
          by_cases e9 : z = root
          · rw [e9] at h
            exact hopen h.2
          · exact hro z (by omega) h, Or.inl rfl⟩
      · exact absurd rfl hF2
end
section
/-! StateLogic$Formulas: the plain kinds -/
theorem b_iff {a b : Bool} {P : Prop} (h : a = b) (h2 : b = true ↔ P) : a = true ↔ P := by rw [h]; exact h2
theorem pow_le8 {n : Nat} (hn : n ≤ 8) : 2 ^ n ≤ 256 := Nat.pow_le_pow_right (n := 2) (by omega) hn
theorem ss_put_i {f : Nat → Int64} {a x c z : Nat} (hz : z < 256) (hx : x < 256) : ss_b (ss_put f a x) c z = true ↔ (ss_b f c z = true ∨ (c = a ∧ z = x)) := by
  rw [ss_put_b f a x c z hz hx]
  simp
set_option maxRecDepth 100000 in
set_option maxHeartbeats 4000000 in
theorem c_Fo_evaluateAtom {l : Launch} {D : va_G} {cI cJ cZ : ClassId} {L : Nat → Nat → Int64} {I : Nat → Nat → Int32} {V : Nat → Int32} {tl : List va_E} {n f x y : Nat} (hn : n ≤ 8) (hV0 : V 0 = nI (2 ^ n)) (hf : f < 60) (hx : I 5 f = nI x) (hy : I 6 f = nI y) (hx2 : x < 256) (hy2 : y < 256) :
    sv_M l y_Fo_evaluateAtom [Cond.code y_Fo_evaluateAtom b_Fo_evaluateAtom 3 none] ({ frames := 1, cells := 0, slots := 0, locals := 22 } : Room) D sv_cl (sv_ty cI cJ cZ) [.ref 8, .int (nI f)] (hC cI cJ cZ L I V tl) 0 0 (fun r ws' => r = none ∧ ∃ fT : Nat → Int64, ws' = hC cI cJ cZ (hu L 4 fT) I V tl ∧ ∀ c z, z < 256 → (ss_b fT c z = true ↔ (ss_b (L 4) c z = true ∨ (c = f ∧ z < 2 ^ n ∧ z &&& x = y)))) sv_no 0 0 := by
  refine sv_of (cc := b_Fo_evaluateAtom) (by decide +kernel) (Nat.le_of_ble_eq_true rfl) ?_
  intro pX eX sX mX aX bX tX cX AX adX C htab hnm
  have hp8 := pow_le8 hn
  have hfin : vp_in (nI f) 60 := vp_in_nI hf (by omega)
  have hfc : (nI f).toNatClampNeg = f := nI_clamp (by omega)
  refine sv_iconst (v := 0) C d_Fo_evaluateAtom_0 rfl ?_
  refine sv_istore_n C d_Fo_evaluateAtom_1 rfl (by decide) rfl ?_
  refine sv_eqw (ws' := hC cI cJ cZ (hu L 4 (L 4)) I V tl) (by rw [hu_same]) ?_
  refine sv_ind (σ := Nat × (Nat → Int64)) (I := fun s => s.1 ≤ 2 ^ n ∧ ∀ c z, z < 256 → (ss_b s.2 c z = true ↔ (ss_b (L 4) c z = true ∨ (c = f ∧ z < s.1 ∧ z &&& x = y)))) (μ := fun s => 2 ^ n - s.1) (lv := fun s => [some (.ref 8), some (.int (nI f)), some (.int (nI s.1))]) (ws := fun s => hC cI cJ cZ (hu L 4 s.2) I V tl) ?_ (0, L 4) ⟨Nat.zero_le _, fun c z hz => ⟨Or.inl, fun h => h.elim id (fun h => absurd h.2.1 (Nat.not_lt_zero z))⟩⟩
  rintro ⟨i, fT⟩ ⟨hi, hT⟩ ih
  dsimp only at hi hT ih
  refine sv_iload_n C d_Fo_evaluateAtom_2 rfl rfl ?_
  refine sv_aload_n C d_Fo_evaluateAtom_3 rfl rfl ?_
  refine sv_get (ci := 0) (kf := 0) C i_Fo rfl (by decide) f_Fo_44 (fun _ h9 => h9) d_Fo_evaluateAtom_4 (by first | assumption | rfl) rfl ?_
  refine sv_get (ci := 1) (kf := 3) C i_Ma rfl (by decide) f_Fo_88 (fun _ h9 => h9) d_Fo_evaluateAtom_7 (by first | assumption | rfl) rfl ?_
  rw [hV0]
  refine sv_icmp_ge (tgt := 45) C d_Fo_evaluateAtom_10 (by decide) (fun h1 => ?_) (fun h1 => ?_)
  · have h1 : 2 ^ n ≤ i := (nI_leI (a := 2 ^ n) (b := i) (by omega) (by omega)).mp h1
    have h2 : i = 2 ^ n := by omega
    subst h2
    exact sv_vret C rfl d_Fo_evaluateAtom_45 (Nat.le_of_ble_eq_true rfl) (Nat.le_of_ble_eq_true rfl) (fun _ _ => rfl) (⟨rfl, fT, rfl, hT⟩)
  · have h1 : ¬ 2 ^ n ≤ i := fun h => h1 ((nI_leI (a := 2 ^ n) (b := i) (by omega) (by omega)).mpr h)
    refine sv_iload_n C d_Fo_evaluateAtom_13 rfl rfl ?_
    refine sv_aload_n C d_Fo_evaluateAtom_14 rfl rfl ?_
    refine sv_get (ci := 0) (kf := 4) C i_Fo rfl (by decide) f_Fo_31 (fun _ h9 => h9) d_Fo_evaluateAtom_15 (by first | assumption | rfl) rfl ?_
    refine sv_iload_n C d_Fo_evaluateAtom_18 rfl rfl ?_
    refine sv_iald (t0 := 0) C rfl d_Fo_evaluateAtom_19 (by first | assumption | rfl) (by assumption) ?_
    refine sv_iand C d_Fo_evaluateAtom_20 ?_
    refine sv_aload_n C d_Fo_evaluateAtom_21 rfl rfl ?_
    refine sv_get (ci := 0) (kf := 5) C i_Fo rfl (by decide) f_Fo_34 (fun _ h9 => h9) d_Fo_evaluateAtom_22 (by first | assumption | rfl) rfl ?_
    refine sv_iload_n C d_Fo_evaluateAtom_25 rfl rfl ?_
    refine sv_iald (t0 := 0) C rfl d_Fo_evaluateAtom_26 (by first | assumption | rfl) (by assumption) ?_
    refine sv_eqs (st' := [.int (nI y), .int (nI (i &&& x))]) (by show [Value.int (I 6 (nI f).toNatClampNeg), Value.int (nI i &&& I 5 (nI f).toNatClampNeg)] = _; rw [hfc, hx, hy, nx_and]) ?_
    refine sv_icmp_ne (tgt := 39) C d_Fo_evaluateAtom_27 (by decide) (fun h2 => ?_) (fun h2 => ?_)
    · have hne : ¬ i &&& x = y := fun h => h2 (by rw [h])
      refine sv_iincN C d_Fo_evaluateAtom_39 rfl (by decide) rfl ?_
      refine sv_goto (tgt := 2) C d_Fo_evaluateAtom_42 (by decide) ?_
      refine ih (i + 1, fT) ⟨by dsimp only; omega, fun c z hz => (hT c z hz).trans ⟨fun h => h.elim Or.inl (fun h => Or.inr ⟨h.1, by dsimp only; omega, h.2.2⟩), fun h => h.elim Or.inl (fun h => ?_)⟩⟩ (by dsimp only; omega)
      obtain ⟨e1, e2, e3⟩ := h
      dsimp only at e2
      by_cases e : z = i
      · rw [e] at e3
        exact absurd e3 hne
      · exact Or.inr ⟨e1, by omega, e3⟩
    · have heq : i &&& x = y := (nI_eq (Nat.lt_of_le_of_lt Nat.and_le_left (by omega)) (by omega)).mp h2
      refine sv_aload_n C d_Fo_evaluateAtom_30 rfl rfl ?_
      refine sv_get (ci := 0) (kf := 2) C i_Fo rfl (by decide) f_Fo_23 (fun _ h9 => h9) d_Fo_evaluateAtom_31 (by first | assumption | rfl) rfl ?_
      refine sv_iload_n C d_Fo_evaluateAtom_34 rfl rfl ?_
      refine sv_iload_n C d_Fo_evaluateAtom_35 rfl rfl ?_
      refine sv_callV (ci := 3) C (c_St_put (cI := cI) (cZ := cZ) (ws := hC cI cJ cZ (hu L 4 fT) I V tl) (b := 16) (w := 17) (N := 240) (f := fT) (a := f) (x := i) rfl rfl (by omega) (by decide) (by omega)) s_Fo_91 ki_St_put ks_St_put ⟨rfl, rfl, Nat.le_of_ble_eq_true rfl, Nat.le_of_ble_eq_true rfl⟩ rfl d_Fo_evaluateAtom_36 (by first | assumption | rfl) (Nat.le_of_ble_eq_true rfl) ⟨(Nat.le_of_ble_eq_true rfl), (Nat.le_of_ble_eq_true rfl)⟩ (fun E ws9 h9 => absurd h9 id) (fun v9 ws9 hp => ?_)
      obtain ⟨rfl, rfl⟩ := hp
      refine sv_iincN C d_Fo_evaluateAtom_39 rfl (by decide) rfl ?_
      refine sv_goto (tgt := 2) C d_Fo_evaluateAtom_42 (by decide) ?_
      refine sv_eqw (ws' := hC cI cJ cZ (hu L 4 (ss_put fT f i)) I V tl) rfl ?_
      refine ih (i + 1, ss_put fT f i) ⟨by dsimp only; omega, fun c z hz => ?_⟩ (by dsimp only; omega)
      dsimp only
      rw [ss_put_i hz (by omega), hT c z hz]
      constructor
      · rintro ((h | ⟨h1, h2, h3⟩) | ⟨h1, h2⟩)
        · exact Or.inl h
        · exact Or.inr ⟨h1, by omega, h3⟩
        · exact Or.inr ⟨h1, by omega, by rw [h2]; exact heq⟩
      · rintro (h | ⟨h1, h2, h3⟩)
        · exact Or.inl (Or.inl h)
        · by_cases e : z = i
          · exact Or.inr ⟨h1, e⟩
          · exact Or.inl (Or.inr ⟨h1, by omega, h3⟩)
set_option maxRecDepth 100000 in
set_option maxHeartbeats 4000000 in
theorem c_Fo_evaluateNext {l : Launch} {D : va_G} {cI cJ cZ : ClassId} {L : Nat → Nat → Int64} {I : Nat → Nat → Int32} {V : Nat → Int32} {tl : List va_E} {n f x : Nat} (hn : n ≤ 8) (hV0 : V 0 = nI (2 ^ n)) (hf : f < 60) (hx : I 5 f = nI x) (hxf : x < f) :
    sv_M l y_Fo_evaluateNext [Cond.code y_Fo_evaluateNext b_Fo_evaluateNext 3 none] ({ frames := 1, cells := 0, slots := 0, locals := 24 } : Room) D sv_cl (sv_ty cI cJ cZ) [.ref 8, .int (nI f)] (hC cI cJ cZ L I V tl) 0 0 (fun r ws' => r = none ∧ ∃ fT : Nat → Int64, ws' = hC cI cJ cZ (hu L 4 fT) I V tl ∧ ∀ c z, z < 256 → (ss_b fT c z = true ↔ (ss_b (L 4) c z = true ∨ (c = f ∧ z < 2 ^ n ∧ ∃ t, t < 256 ∧ ss_b (L 1) z t = true ∧ ss_b (L 4) x t = true)))) sv_no 0 0 := by
  refine sv_of (cc := b_Fo_evaluateNext) (by decide +kernel) (Nat.le_of_ble_eq_true rfl) ?_
  intro pX eX sX mX aX bX tX cX AX adX C htab hnm
  have hp8 := pow_le8 hn
  have hfin : vp_in (nI f) 60 := vp_in_nI hf (by omega)
  have hfc : (nI f).toNatClampNeg = f := nI_clamp (by omega)
  refine sv_iconst (v := 0) C d_Fo_evaluateNext_0 rfl ?_
  refine sv_istore_n C d_Fo_evaluateNext_1 rfl (by decide) rfl ?_
  refine sv_eqw (ws' := hC cI cJ cZ (hu L 4 (L 4)) I V tl) (by rw [hu_same]) ?_
  refine sv_ind (σ := Nat × (Nat → Int64)) (I := fun s => s.1 ≤ 2 ^ n ∧ ∀ c z, z < 256 → (ss_b s.2 c z = true ↔ (ss_b (L 4) c z = true ∨ (c = f ∧ z < s.1 ∧ ∃ t, t < 256 ∧ ss_b (L 1) z t = true ∧ ss_b (L 4) x t = true)))) (μ := fun s => 2 ^ n - s.1) (lv := fun s => [some (.ref 8), some (.int (nI f)), some (.int (nI s.1))]) (ws := fun s => hC cI cJ cZ (hu L 4 s.2) I V tl) ?_ (0, L 4) ⟨Nat.zero_le _, fun c z hz => ⟨Or.inl, fun h => h.elim id (fun h => absurd h.2.1 (Nat.not_lt_zero z))⟩⟩
  rintro ⟨i, fT⟩ ⟨hi, hT⟩ ih
  dsimp only at hi hT ih
  have hTx : ∀ t, t < 256 → (ss_b fT x t = true ↔ ss_b (L 4) x t = true) := fun t ht => (hT x t ht).trans ⟨fun h => h.elim id (fun h => absurd h.1 (by omega)), Or.inl⟩
  refine sv_iload_n C d_Fo_evaluateNext_2 rfl rfl ?_
  refine sv_aload_n C d_Fo_evaluateNext_3 rfl rfl ?_
  refine sv_get (ci := 0) (kf := 0) C i_Fo rfl (by decide) f_Fo_44 (fun _ h9 => h9) d_Fo_evaluateNext_4 (by first | assumption | rfl) rfl ?_
  refine sv_get (ci := 1) (kf := 3) C i_Ma rfl (by decide) f_Fo_88 (fun _ h9 => h9) d_Fo_evaluateNext_7 (by first | assumption | rfl) rfl ?_
  rw [hV0]
  refine sv_icmp_ge (tgt := 52) C d_Fo_evaluateNext_10 (by decide) (fun h1 => ?_) (fun h1 => ?_)
  · have h1 : 2 ^ n ≤ i := (nI_leI (a := 2 ^ n) (b := i) (by omega) (by omega)).mp h1
    have h2 : i = 2 ^ n := by omega
    subst h2
    exact sv_vret C rfl d_Fo_evaluateNext_52 (Nat.le_of_ble_eq_true rfl) (Nat.le_of_ble_eq_true rfl) (fun _ _ => rfl) (⟨rfl, fT, rfl, hT⟩)
  · have h1 : ¬ 2 ^ n ≤ i := fun h => h1 ((nI_leI (a := 2 ^ n) (b := i) (by omega) (by omega)).mpr h)
    refine sv_aload_n C d_Fo_evaluateNext_13 rfl rfl ?_
    refine sv_get (ci := 0) (kf := 0) C i_Fo rfl (by decide) f_Fo_44 (fun _ h9 => h9) d_Fo_evaluateNext_14 (by first | assumption | rfl) rfl ?_
    refine sv_get (ci := 1) (kf := 1) C i_Ma rfl (by decide) f_Fo_104 (fun _ h9 => h9) d_Fo_evaluateNext_17 (by first | assumption | rfl) rfl ?_
    refine sv_iload_n C d_Fo_evaluateNext_20 rfl rfl ?_
    refine sv_aload_n C d_Fo_evaluateNext_21 rfl rfl ?_
    refine sv_get (ci := 0) (kf := 2) C i_Fo rfl (by decide) f_Fo_23 (fun _ h9 => h9) d_Fo_evaluateNext_22 (by first | assumption | rfl) rfl ?_
    refine sv_aload_n C d_Fo_evaluateNext_25 rfl rfl ?_
    refine sv_get (ci := 0) (kf := 4) C i_Fo rfl (by decide) f_Fo_31 (fun _ h9 => h9) d_Fo_evaluateNext_26 (by first | assumption | rfl) rfl ?_
    refine sv_iload_n C d_Fo_evaluateNext_29 rfl rfl ?_
    refine sv_iald (t0 := 0) C rfl d_Fo_evaluateNext_30 (by first | assumption | rfl) (by assumption) ?_
    refine sv_eqs (st' := [.int (nI x), .ref 16, .int (nI i), .ref 4]) (by show [Value.int (I 5 (nI f).toNatClampNeg), _, _, _] = _; rw [hfc, hx]) ?_
    refine sv_callV (ci := 3) C (c_St_meets (cI := cI) (cZ := cZ) (ws := hC cI cJ cZ (hu L 4 fT) I V tl) (b := 4) (w := 5) (N := 1024) (a := i) (f := L 1) (b' := 16) (w' := 17) (N' := 240) (a' := x) (g := fT) rfl rfl (by omega) (by decide) rfl rfl (by omega) (by decide)) s_Fo_107 ki_St_meets ks_St_meets ⟨rfl, rfl, Nat.le_of_ble_eq_true rfl, Nat.le_of_ble_eq_true rfl⟩ rfl d_Fo_evaluateNext_31 (by first | assumption | rfl) (Nat.le_of_ble_eq_true rfl) ⟨(Nat.le_of_ble_eq_true rfl), (Nat.le_of_ble_eq_true rfl)⟩ (fun E ws9 h9 => absurd h9 id) (fun v9 ws9 hp => ?_)
    obtain ⟨t, rfl, ht, rfl⟩ := hp
    have ht2 : t = true ↔ ∃ z, z < 256 ∧ ss_b (L 1) i z = true ∧ ss_b (L 4) x z = true := ht.trans ⟨fun ⟨z, h1, h2, h3⟩ => ⟨z, h1, h2, (hTx z h1).mp h3⟩, fun ⟨z, h1, h2, h3⟩ => ⟨z, h1, h2, (hTx z h1).mpr h3⟩⟩
    cases t with
    | false =>
      refine sv_if_eq (tgt := 46) C d_Fo_evaluateNext_34 (by decide) (fun h3 => ?_) (fun h3 => ?_)
      · refine sv_iincN C d_Fo_evaluateNext_46 rfl (by decide) rfl ?_
        refine sv_goto (tgt := 2) C d_Fo_evaluateNext_49 (by decide) ?_
        refine ih (i + 1, fT) ⟨by dsimp only; omega, fun c z hz => (hT c z hz).trans ⟨fun h => h.elim Or.inl (fun h => Or.inr ⟨h.1, by dsimp only; omega, h.2.2⟩), fun h => h.elim Or.inl (fun h => ?_)⟩⟩ (by dsimp only; omega)
        obtain ⟨e1, e2, e3⟩ := h
        dsimp only at e2
        by_cases e : z = i
        · rw [e] at e3
          exact absurd (ht2.mpr e3) (by decide)
        · exact Or.inr ⟨e1, by omega, e3⟩
      · exact absurd rfl h3
    | true =>
      refine sv_if_eq (tgt := 46) C d_Fo_evaluateNext_34 (by decide) (fun h3 => ?_) (fun h3 => ?_)
      · exact absurd h3 (by decide)
      · refine sv_aload_n C d_Fo_evaluateNext_37 rfl rfl ?_
        refine sv_get (ci := 0) (kf := 2) C i_Fo rfl (by decide) f_Fo_23 (fun _ h9 => h9) d_Fo_evaluateNext_38 (by first | assumption | rfl) rfl ?_
        refine sv_iload_n C d_Fo_evaluateNext_41 rfl rfl ?_
        refine sv_iload_n C d_Fo_evaluateNext_42 rfl rfl ?_
        refine sv_callV (ci := 3) C (c_St_put (cI := cI) (cZ := cZ) (ws := hC cI cJ cZ (hu L 4 fT) I V tl) (b := 16) (w := 17) (N := 240) (f := fT) (a := f) (x := i) rfl rfl (by omega) (by decide) (by omega)) s_Fo_91 ki_St_put ks_St_put ⟨rfl, rfl, Nat.le_of_ble_eq_true rfl, Nat.le_of_ble_eq_true rfl⟩ rfl d_Fo_evaluateNext_43 (by first | assumption | rfl) (Nat.le_of_ble_eq_true rfl) ⟨(Nat.le_of_ble_eq_true rfl), (Nat.le_of_ble_eq_true rfl)⟩ (fun E ws9 h9 => absurd h9 id) (fun v9 ws9 hp => ?_)
        obtain ⟨rfl, rfl⟩ := hp
        refine sv_iincN C d_Fo_evaluateNext_46 rfl (by decide) rfl ?_
        refine sv_goto (tgt := 2) C d_Fo_evaluateNext_49 (by decide) ?_
        refine sv_eqw (ws' := hC cI cJ cZ (hu L 4 (ss_put fT f i)) I V tl) rfl ?_
        refine ih (i + 1, ss_put fT f i) ⟨by dsimp only; omega, fun c z hz => ?_⟩ (by dsimp only; omega)
        dsimp only
        rw [ss_put_i hz (by omega), hT c z hz]
        constructor
        · rintro ((h | ⟨h1, h2, h3⟩) | ⟨h1, h2⟩)
          · exact Or.inl h
          · exact Or.inr ⟨h1, by omega, h3⟩
          · exact Or.inr ⟨h1, by omega, by rw [h2]; exact ht2.mp rfl⟩
        · rintro (h | ⟨h1, h2, h3⟩)
          · exact Or.inl (Or.inl h)
          · by_cases e : z = i
            · exact Or.inr ⟨h1, e⟩
            · exact Or.inl (Or.inr ⟨h1, by omega, h3⟩)
end
section
/-! StateLogic$Formulas: putFound, evaluateWords -/
set_option maxRecDepth 100000 in
set_option maxHeartbeats 4000000 in
theorem c_Fo_putFound {l : Launch} {D : va_G} {cI cJ cZ : ClassId} {L : Nat → Nat → Int64} {I : Nat → Nat → Int32} {V : Nat → Int32} {tl : List va_E} {f cnt : Nat} {fd : Nat → Nat} (hf : f < 60) (hV : V 2 = nI cnt) (hc : cnt ≤ 256) (hfd : ∀ i, i < cnt → fd i < 256 ∧ I 0 i = nI (fd i)) :
    sv_M l y_Fo_putFound [Cond.code y_Fo_putFound b_Fo_putFound 3 none] ({ frames := 1, cells := 0, slots := 0, locals := 22 } : Room) D sv_cl (sv_ty cI cJ cZ) [.ref 8, .int (nI f)] (hC cI cJ cZ L I V tl) 0 0 (fun r ws' => r = none ∧ ∃ fT : Nat → Int64, ws' = hC cI cJ cZ (hu L 4 fT) I V tl ∧ ∀ c z, z < 256 → (ss_b fT c z = true ↔ (ss_b (L 4) c z = true ∨ (c = f ∧ bf_F fd cnt z)))) sv_no 0 0 := by
  refine sv_of (cc := b_Fo_putFound) (by decide +kernel) (Nat.le_of_ble_eq_true rfl) ?_
  intro pX eX sX mX aX bX tX cX AX adX C htab hnm
  refine sv_iconst (v := 0) C d_Fo_putFound_0 rfl ?_
  refine sv_istore_n C d_Fo_putFound_1 rfl (by decide) rfl ?_
  refine sv_eqw (ws' := hC cI cJ cZ (hu L 4 (L 4)) I V tl) (by rw [hu_same]) ?_
  refine sv_ind (σ := Nat × (Nat → Int64)) (I := fun s => s.1 ≤ cnt ∧ ∀ c z, z < 256 → (ss_b s.2 c z = true ↔ (ss_b (L 4) c z = true ∨ (c = f ∧ bf_F fd s.1 z)))) (μ := fun s => cnt - s.1) (lv := fun s => [some (.ref 8), some (.int (nI f)), some (.int (nI s.1))]) (ws := fun s => hC cI cJ cZ (hu L 4 s.2) I V tl) ?_ (0, L 4) ⟨Nat.zero_le _, fun c z hz => ⟨Or.inl, fun h => h.elim id (fun h => by obtain ⟨-, i, hi, -⟩ := h; exact absurd hi (Nat.not_lt_zero i))⟩⟩
  rintro ⟨i, fT⟩ ⟨hi, hT⟩ ih
  dsimp only at hi hT ih
  refine sv_iload_n C d_Fo_putFound_2 rfl rfl ?_
  refine sv_aload_n C d_Fo_putFound_3 rfl rfl ?_
  refine sv_get (ci := 0) (kf := 1) C i_Fo rfl (by decide) f_Fo_12 (fun _ h9 => h9) d_Fo_putFound_4 (by first | assumption | rfl) rfl ?_
  refine sv_get (ci := 2) (kf := 5) C i_Se rfl (by decide) f_Fo_141 (fun _ h9 => h9) d_Fo_putFound_7 (by first | assumption | rfl) rfl ?_
  rw [hV]
  refine sv_icmp_ge (tgt := 36) C d_Fo_putFound_10 (by decide) (fun h1 => ?_) (fun h1 => ?_)
  · have h1 : cnt ≤ i := (nI_leI (a := cnt) (b := i) (by omega) (by omega)).mp h1
    have h2 : i = cnt := by omega
    subst h2
    exact sv_vret C rfl d_Fo_putFound_36 (Nat.le_of_ble_eq_true rfl) (Nat.le_of_ble_eq_true rfl) (fun _ _ => rfl) (⟨rfl, fT, rfl, hT⟩)
  · have h1 : ¬ cnt ≤ i := fun h => h1 ((nI_leI (a := cnt) (b := i) (by omega) (by omega)).mpr h)
    have hiin : vp_in (nI i) 256 := vp_in_nI (by omega) (by omega)
    have hfi := hfd i (by omega)
    refine sv_aload_n C d_Fo_putFound_13 rfl rfl ?_
    refine sv_get (ci := 0) (kf := 2) C i_Fo rfl (by decide) f_Fo_23 (fun _ h9 => h9) d_Fo_putFound_14 (by first | assumption | rfl) rfl ?_
    refine sv_iload_n C d_Fo_putFound_17 rfl rfl ?_
    refine sv_aload_n C d_Fo_putFound_18 rfl rfl ?_
    refine sv_get (ci := 0) (kf := 1) C i_Fo rfl (by decide) f_Fo_12 (fun _ h9 => h9) d_Fo_putFound_19 (by first | assumption | rfl) rfl ?_
    refine sv_get (ci := 2) (kf := 1) C i_Se rfl (by decide) f_Fo_144 (fun _ h9 => h9) d_Fo_putFound_22 (by first | assumption | rfl) rfl ?_
    refine sv_iload_n C d_Fo_putFound_25 rfl rfl ?_
    refine sv_iald (t0 := 0) C rfl d_Fo_putFound_26 (by first | assumption | rfl) (by assumption) ?_
    refine sv_eqs (st' := [.int (nI (fd i)), .int (nI f), .ref 16]) (by show [Value.int (I 0 (nI i).toNatClampNeg), _, _] = _; rw [nI_clamp (by omega), hfi.2]) ?_
    refine sv_callV (ci := 3) C (c_St_put (cI := cI) (cZ := cZ) (ws := hC cI cJ cZ (hu L 4 fT) I V tl) (b := 16) (w := 17) (N := 240) (f := fT) (a := f) (x := fd i) rfl rfl (by omega) (by decide) (by omega)) s_Fo_91 ki_St_put ks_St_put ⟨rfl, rfl, Nat.le_of_ble_eq_true rfl, Nat.le_of_ble_eq_true rfl⟩ rfl d_Fo_putFound_27 (by first | assumption | rfl) (Nat.le_of_ble_eq_true rfl) ⟨(Nat.le_of_ble_eq_true rfl), (Nat.le_of_ble_eq_true rfl)⟩ (fun E ws9 h9 => absurd h9 id) (fun v9 ws9 hp => ?_)
    obtain ⟨rfl, rfl⟩ := hp
    refine sv_iincN C d_Fo_putFound_30 rfl (by decide) rfl ?_
    refine sv_goto (tgt := 2) C d_Fo_putFound_33 (by decide) ?_
    refine sv_eqw (ws' := hC cI cJ cZ (hu L 4 (ss_put fT f (fd i))) I V tl) rfl ?_
    refine ih (i + 1, ss_put fT f (fd i)) ⟨by dsimp only; omega, fun c z hz => ?_⟩ (by dsimp only; omega)
    dsimp only
    rw [ss_put_i hz (by omega), hT c z hz]
    constructor
    · rintro ((h | ⟨h1, j, h2, h3⟩) | ⟨h1, h2⟩)
      · exact Or.inl h
      · exact Or.inr ⟨h1, j, by omega, h3⟩
      · exact Or.inr ⟨h1, i, by omega, h2.symm⟩
    · rintro (h | ⟨h1, j, h2, h3⟩)
      · exact Or.inl (Or.inl h)
      · by_cases e : j = i
        · exact Or.inr ⟨h1, by rw [← h3, e]⟩
        · exact Or.inl (Or.inr ⟨h1, j, by omega, h3⟩)
theorem ss_upd_b (f : Nat → Int64) (a i c z : Nat) (v : Int64) (hi : i < 4) (hz : z < 256) : ss_b (vp_updL f (a * 4 + i) v) c z = if c = a ∧ z / 64 = i then v.toBitVec.getLsbD (z % 64) else ss_b f c z := by
  unfold ss_b
  by_cases e : c * 4 + z / 64 = a * 4 + i
  · have h : c = a ∧ z / 64 = i := by omega
    rw [e, pk_uLs, if_pos h]
  · have h : ¬ (c = a ∧ z / 64 = i) := fun h => e (by rw [h.1, h.2])
    rw [pk_uLn e, if_neg h]
/-- the words of a set done, up to word i -/
def ew_I (fL fT : Nat → Int64) (f i : Nat) (val : Nat → Bool) : Prop := ∀ c z, z < 256 → ss_b fT c z = if c = f ∧ z < 64 * i then val z else ss_b fL c z
theorem ew_s {fL fT : Nat → Int64} {f i : Nat} {val : Nat → Bool} {v : Int64} (h : ew_I fL fT f i val) (hi : i < 4) (hv : ∀ j, j < 64 → v.toBitVec.getLsbD j = val (64 * i + j)) : ew_I fL (vp_updL fT (f * 4 + i) v) f (i + 1) val := by
  intro c z hz
  rw [ss_upd_b _ _ _ _ _ _ hi hz]
  by_cases e : c = f ∧ z / 64 = i
  · have h2 : c = f ∧ z < 64 * (i + 1) := ⟨e.1, by omega⟩
    have h3 : 64 * i + z % 64 = z := by omega
    rw [if_pos e, if_pos h2, hv _ (by omega), h3]
  · rw [if_neg e, h c z hz]
    by_cases e2 : c = f ∧ z < 64 * i
    · have h2 : c = f ∧ z < 64 * (i + 1) := ⟨e2.1, by omega⟩
      rw [if_pos e2, if_pos h2]
    · have h2 : ¬ (c = f ∧ z < 64 * (i + 1)) := by omega
      rw [if_neg e2, if_neg h2]
theorem ew_at {fL fT : Nat → Int64} {f i a : Nat} {val : Nat → Bool} (h : ew_I fL fT f i val) (ha : a ≠ f) (hi : i < 4) {j : Nat} (hj : j < 64) : (fT (a * 4 + i)).toBitVec.getLsbD j = ss_b fL a (64 * i + j) := by
  rw [← ss_at fT a i j hj, h a _ (by omega)]
  rw [if_neg (fun q => ha q.1)]
set_option maxRecDepth 100000 in
set_option maxHeartbeats 4000000 in
theorem c_Fo_wordsNot {l : Launch} {D : va_G} {cI cJ cZ : ClassId} {L : Nat → Nat → Int64} {I : Nat → Nat → Int32} {V : Nat → Int32} {tl : List va_E} {f x y : Nat} (hf : f < 60) (hk : I 4 f = nI 1) (hx : I 5 f = nI x) (hy : I 6 f = nI y) (hxf : x < f) (hyf : y < f) :
    sv_M l y_Fo_evaluateWords [Cond.code y_Fo_evaluateWords b_Fo_evaluateWords 10 none] ({ frames := 0, cells := 0, slots := 0, locals := 0 } : Room) D sv_cl (sv_ty cI cJ cZ) [.ref 8, .int (nI f)] (hC cI cJ cZ L I V tl) 0 0 (fun r ws' => r = none ∧ ∃ fT : Nat → Int64, ws' = hC cI cJ cZ (hu L 4 fT) I V tl ∧ ∀ c z, z < 256 → ss_b fT c z = if c = f then (ss_b (L 0) 0 z && !ss_b (L 4) x z) else ss_b (L 4) c z) sv_no 0 0 := by
  refine sv_of (cc := b_Fo_evaluateWords) (by decide +kernel) (Nat.le_of_ble_eq_true rfl) ?_
  intro pX eX sX mX aX bX tX cX AX adX C htab hnm
  have hfin : vp_in (nI f) 60 := vp_in_nI hf (by omega)
  have hfc : (nI f).toNatClampNeg = f := nI_clamp (by omega)
  refine sv_aload_n C d_Fo_evaluateWords_0 rfl rfl ?_
  refine sv_get (ci := 0) (kf := 2) C i_Fo rfl (by decide) f_Fo_23 (fun _ h9 => h9) d_Fo_evaluateWords_1 (by first | assumption | rfl) rfl ?_
  refine sv_get (ci := 3) (kf := 0) C i_St rfl (by decide) f_Fo_95 (fun _ h9 => h9) d_Fo_evaluateWords_4 (by first | assumption | rfl) rfl ?_
  refine sv_astore_n C d_Fo_evaluateWords_7 rfl (by decide) rfl ?_
  refine sv_iconst (v := 0) C d_Fo_evaluateWords_8 rfl ?_
  refine sv_istore_n C d_Fo_evaluateWords_9 rfl (by decide) rfl ?_
  refine sv_eqw (ws' := hC cI cJ cZ (hu L 4 (L 4)) I V tl) (by rw [hu_same]) ?_
  refine sv_ind (σ := Nat × (Nat → Int64)) (I := fun s => s.1 ≤ 4 ∧ ew_I (L 4) s.2 f s.1 (fun z => (ss_b (L 0) 0 z && !ss_b (L 4) x z))) (μ := fun s => 4 - s.1) (lv := fun s => [some (.ref 8), some (.int (nI f)), some (.ref 17), some (.int (nI s.1)), none, none, none, none, none, none]) (ws := fun s => hC cI cJ cZ (hu L 4 s.2) I V tl) ?_ (0, L 4) ⟨Nat.zero_le _, fun c z hz => by rw [if_neg (fun q => absurd q.2 (Nat.not_lt_zero z))]⟩
  rintro ⟨i, fT⟩ ⟨hi, hT⟩ ih
  dsimp only at hi hT ih
  refine sv_iload_n C d_Fo_evaluateWords_10 rfl rfl ?_
  refine sv_iconst (v := 4) C d_Fo_evaluateWords_11 rfl ?_
  refine sv_icmp_ge (tgt := 115) C d_Fo_evaluateWords_12 (by decide) (fun h1 => ?_) (fun h1 => ?_)
  · have h1 : 4 ≤ i := (nI_leI (a := 4) (b := i) (by omega) (by omega)).mp h1
    have h2 : i = 4 := by omega
    subst h2
    refine sv_vret C rfl d_Fo_evaluateWords_115 (Nat.le_of_ble_eq_true rfl) (Nat.le_of_ble_eq_true rfl) (fun _ _ => rfl) (⟨rfl, fT, rfl, fun c z hz => ?_⟩)
    rw [hT c z hz]
    by_cases e : c = f
    · rw [if_pos ⟨e, by omega⟩, if_pos e]
    · rw [if_neg (fun q => e q.1), if_neg e]
  · have h1 : ¬ 4 ≤ i := fun h => h1 ((nI_leI (a := 4) (b := i) (by omega) (by omega)).mpr h)
    have hxin := ss_jin (a := x) (i := i) (N := 240) (by omega) (by omega) (by decide)
    have hyin := ss_jin (a := y) (i := i) (N := 240) (by omega) (by omega) (by decide)
    have hffin := ss_jin (a := f) (i := i) (N := 240) (by omega) (by omega) (by decide)
    have hxc := ss_jcl (a := x) (i := i) (N := 240) (by omega) (by omega) (by decide)
    have hyc := ss_jcl (a := y) (i := i) (N := 240) (by omega) (by omega) (by decide)
    have hffc := ss_jcl (a := f) (i := i) (N := 240) (by omega) (by omega) (by decide)
    refine sv_aload_n C d_Fo_evaluateWords_15 rfl rfl ?_
    refine sv_aload_n C d_Fo_evaluateWords_16 rfl rfl ?_
    refine sv_get (ci := 0) (kf := 4) C i_Fo rfl (by decide) f_Fo_31 (fun _ h9 => h9) d_Fo_evaluateWords_17 (by first | assumption | rfl) rfl ?_
    refine sv_iload_n C d_Fo_evaluateWords_20 rfl rfl ?_
    refine sv_iald (t0 := 0) C rfl d_Fo_evaluateWords_21 (by first | assumption | rfl) (by assumption) ?_
    refine sv_eqs (st' := [.int (nI x), .ref 17]) (by show [Value.int (I 5 (nI f).toNatClampNeg), _] = _; rw [hfc, hx]) ?_
    refine sv_iconst (v := 4) C d_Fo_evaluateWords_22 rfl ?_
    refine sv_imul C d_Fo_evaluateWords_23 ?_
    refine sv_iload_n C d_Fo_evaluateWords_24 rfl rfl ?_
    refine sv_iadd C d_Fo_evaluateWords_25 ?_
    refine sv_lald (t0 := 1) C rfl d_Fo_evaluateWords_26 (by first | assumption | rfl) (by assumption) ?_
    refine sv_topl (fun wx ex => ?_)
    refine sv_lstore C d_Fo_evaluateWords_27 (by decide) rfl ?_
    refine sv_aload_n C d_Fo_evaluateWords_29 rfl rfl ?_
    refine sv_aload_n C d_Fo_evaluateWords_30 rfl rfl ?_
    refine sv_get (ci := 0) (kf := 5) C i_Fo rfl (by decide) f_Fo_34 (fun _ h9 => h9) d_Fo_evaluateWords_31 (by first | assumption | rfl) rfl ?_
    refine sv_iload_n C d_Fo_evaluateWords_34 rfl rfl ?_
    refine sv_iald (t0 := 0) C rfl d_Fo_evaluateWords_35 (by first | assumption | rfl) (by assumption) ?_
    refine sv_eqs (st' := [.int (nI y), .ref 17]) (by show [Value.int (I 6 (nI f).toNatClampNeg), _] = _; rw [hfc, hy]) ?_
    refine sv_iconst (v := 4) C d_Fo_evaluateWords_36 rfl ?_
    refine sv_imul C d_Fo_evaluateWords_37 ?_
    refine sv_iload_n C d_Fo_evaluateWords_38 rfl rfl ?_
    refine sv_iadd C d_Fo_evaluateWords_39 ?_
    refine sv_lald (t0 := 1) C rfl d_Fo_evaluateWords_40 (by first | assumption | rfl) (by assumption) ?_
    refine sv_topl (fun wy ey => ?_)
    have ex : wx = fT (x * 4 + i) := by rw [ex]; show fT (nI x * 4 + nI i).toNatClampNeg = _; rw [hxc]
    have ey : wy = fT (y * 4 + i) := by rw [ey]; show fT (nI y * 4 + nI i).toNatClampNeg = _; rw [hyc]
    have bx : ∀ j, j < 64 → wx.toBitVec.getLsbD j = ss_b (L 4) x (64 * i + j) := fun j hj => by rw [ex]; exact ew_at hT (by omega) (by omega) hj
    have byy : ∀ j, j < 64 → wy.toBitVec.getLsbD j = ss_b (L 4) y (64 * i + j) := fun j hj => by rw [ey]; exact ew_at hT (by omega) (by omega) hj
    refine sv_lstore C d_Fo_evaluateWords_41 (by decide) rfl ?_
    refine sv_aload_n C d_Fo_evaluateWords_43 rfl rfl ?_
    refine sv_get (ci := 0) (kf := 3) C i_Fo rfl (by decide) f_Fo_27 (fun _ h9 => h9) d_Fo_evaluateWords_44 (by first | assumption | rfl) rfl ?_
    refine sv_iload_n C d_Fo_evaluateWords_47 rfl rfl ?_
    refine sv_iald (t0 := 0) C rfl d_Fo_evaluateWords_48 (by first | assumption | rfl) (by assumption) ?_
    refine sv_iconst (v := 2) C d_Fo_evaluateWords_49 rfl ?_
    refine sv_eqs (st' := [.int 2, .int 1]) (by show [_, Value.int (I 4 (nI f).toNatClampNeg)] = _; rw [hfc, hk]; rfl) ?_
    refine sv_icmp_ne (tgt := 61) C d_Fo_evaluateWords_50 (by decide) (fun h2 => ?_) (fun h2 => ?_)
    · refine sv_lload C d_Fo_evaluateWords_61 rfl ?_
      refine sv_lload C d_Fo_evaluateWords_63 rfl ?_
      refine sv_lor C d_Fo_evaluateWords_65 ?_
      have hiin : vp_in (nI i) 4 := vp_in_nI (by omega) (by omega)
      refine sv_lstore C d_Fo_evaluateWords_66 (by decide) rfl ?_
      refine sv_aload_n C d_Fo_evaluateWords_68 rfl rfl ?_
      refine sv_iload_n C d_Fo_evaluateWords_69 rfl rfl ?_
      refine sv_iconst (v := 4) C d_Fo_evaluateWords_70 rfl ?_
      refine sv_imul C d_Fo_evaluateWords_71 ?_
      refine sv_iload_n C d_Fo_evaluateWords_72 rfl rfl ?_
      refine sv_iadd C d_Fo_evaluateWords_73 ?_
      refine sv_aload_n C d_Fo_evaluateWords_74 rfl rfl ?_
      refine sv_get (ci := 0) (kf := 3) C i_Fo rfl (by decide) f_Fo_27 (fun _ h9 => h9) d_Fo_evaluateWords_75 (by first | assumption | rfl) rfl ?_
      refine sv_iload_n C d_Fo_evaluateWords_78 rfl rfl ?_
      refine sv_iald (t0 := 0) C rfl d_Fo_evaluateWords_79 (by first | assumption | rfl) (by assumption) ?_
      refine sv_iconst (v := 1) C d_Fo_evaluateWords_80 rfl ?_
      refine sv_eqs (st' := [.int 1, .int 1, .int (nI f * 4 + nI i), .ref 17]) (by show [_, Value.int (I 4 (nI f).toNatClampNeg), _, _] = _; rw [hfc, hk]; rfl) ?_
      refine sv_icmp_ne (tgt := 106) C d_Fo_evaluateWords_81 (by decide) (fun h3 => ?_) (fun h3 => ?_)
      · exact absurd rfl h3
      · refine sv_aload_n C d_Fo_evaluateWords_84 rfl rfl ?_
        refine sv_get (ci := 0) (kf := 0) C i_Fo rfl (by decide) f_Fo_44 (fun _ h9 => h9) d_Fo_evaluateWords_85 (by first | assumption | rfl) rfl ?_
        refine sv_get (ci := 1) (kf := 0) C i_Ma rfl (by decide) f_Fo_99 (fun _ h9 => h9) d_Fo_evaluateWords_88 (by first | assumption | rfl) rfl ?_
        refine sv_get (ci := 3) (kf := 0) C i_St rfl (by decide) f_Fo_95 (fun _ h9 => h9) d_Fo_evaluateWords_91 (by first | assumption | rfl) rfl ?_
        refine sv_iload_n C d_Fo_evaluateWords_94 rfl rfl ?_
        refine sv_lald (t0 := 1) C rfl d_Fo_evaluateWords_95 (by first | assumption | rfl) hiin ?_
        refine sv_lload C d_Fo_evaluateWords_96 rfl ?_
        refine sv_ldc2 C g_Fo_102 d_Fo_evaluateWords_98 ?_
        refine sv_lxor C d_Fo_evaluateWords_101 ?_
        refine sv_land C d_Fo_evaluateWords_102 ?_
        refine sv_goto (tgt := 108) C d_Fo_evaluateWords_103 (by decide) ?_
        refine sv_topl (fun wv ev => ?_)
        refine sv_last (t0 := 1) C rfl d_Fo_evaluateWords_108 (by first | assumption | rfl) hffin ?_
        refine sv_eqw (ws' := hC cI cJ cZ (hu L 4 (vp_updL fT (f * 4 + i) wv)) I V tl) (by rw [hffc]; rfl) ?_
        refine sv_iincN C d_Fo_evaluateWords_109 rfl (by decide) rfl ?_
        refine sv_goto (tgt := 10) C d_Fo_evaluateWords_112 (by decide) ?_
        refine sv_drop [true, true, true, true, false, false, false, false, false, false] ?_
        refine ih (i + 1, vp_updL fT (f * 4 + i) wv) ⟨by dsimp only; omega, ew_s hT (by omega) (fun j hj => ?_)⟩ (by dsimp only; omega)
        rw [ev, ss_and, ss_xor, ss_m1 hj, bx j hj]
        have e9 : (L 0 (nI i).toNatClampNeg).toBitVec.getLsbD j = ss_b (L 0) 0 (64 * i + j) := by rw [nI_clamp (by omega), ss_at _ _ _ _ hj, Nat.zero_mul, Nat.zero_add]
        show (_ && _) = (_ && _)
        rw [show (hu L 4 fT 0) = L 0 from rfl, e9]
        simp
    · exact absurd h2 (by decide)
set_option maxRecDepth 100000 in
set_option maxHeartbeats 4000000 in
theorem c_Fo_wordsAnd {l : Launch} {D : va_G} {cI cJ cZ : ClassId} {L : Nat → Nat → Int64} {I : Nat → Nat → Int32} {V : Nat → Int32} {tl : List va_E} {f x y : Nat} (hf : f < 60) (hk : I 4 f = nI 2) (hx : I 5 f = nI x) (hy : I 6 f = nI y) (hxf : x < f) (hyf : y < f) :
    sv_M l y_Fo_evaluateWords [Cond.code y_Fo_evaluateWords b_Fo_evaluateWords 10 none] ({ frames := 0, cells := 0, slots := 0, locals := 0 } : Room) D sv_cl (sv_ty cI cJ cZ) [.ref 8, .int (nI f)] (hC cI cJ cZ L I V tl) 0 0 (fun r ws' => r = none ∧ ∃ fT : Nat → Int64, ws' = hC cI cJ cZ (hu L 4 fT) I V tl ∧ ∀ c z, z < 256 → ss_b fT c z = if c = f then (ss_b (L 4) x z && ss_b (L 4) y z) else ss_b (L 4) c z) sv_no 0 0 := by
  refine sv_of (cc := b_Fo_evaluateWords) (by decide +kernel) (Nat.le_of_ble_eq_true rfl) ?_
  intro pX eX sX mX aX bX tX cX AX adX C htab hnm
  have hfin : vp_in (nI f) 60 := vp_in_nI hf (by omega)
  have hfc : (nI f).toNatClampNeg = f := nI_clamp (by omega)
  refine sv_aload_n C d_Fo_evaluateWords_0 rfl rfl ?_
  refine sv_get (ci := 0) (kf := 2) C i_Fo rfl (by decide) f_Fo_23 (fun _ h9 => h9) d_Fo_evaluateWords_1 (by first | assumption | rfl) rfl ?_
  refine sv_get (ci := 3) (kf := 0) C i_St rfl (by decide) f_Fo_95 (fun _ h9 => h9) d_Fo_evaluateWords_4 (by first | assumption | rfl) rfl ?_
  refine sv_astore_n C d_Fo_evaluateWords_7 rfl (by decide) rfl ?_
  refine sv_iconst (v := 0) C d_Fo_evaluateWords_8 rfl ?_
  refine sv_istore_n C d_Fo_evaluateWords_9 rfl (by decide) rfl ?_
  refine sv_eqw (ws' := hC cI cJ cZ (hu L 4 (L 4)) I V tl) (by rw [hu_same]) ?_
  refine sv_ind (σ := Nat × (Nat → Int64)) (I := fun s => s.1 ≤ 4 ∧ ew_I (L 4) s.2 f s.1 (fun z => (ss_b (L 4) x z && ss_b (L 4) y z))) (μ := fun s => 4 - s.1) (lv := fun s => [some (.ref 8), some (.int (nI f)), some (.ref 17), some (.int (nI s.1)), none, none, none, none, none, none]) (ws := fun s => hC cI cJ cZ (hu L 4 s.2) I V tl) ?_ (0, L 4) ⟨Nat.zero_le _, fun c z hz => by rw [if_neg (fun q => absurd q.2 (Nat.not_lt_zero z))]⟩
  rintro ⟨i, fT⟩ ⟨hi, hT⟩ ih
  dsimp only at hi hT ih
  refine sv_iload_n C d_Fo_evaluateWords_10 rfl rfl ?_
  refine sv_iconst (v := 4) C d_Fo_evaluateWords_11 rfl ?_
  refine sv_icmp_ge (tgt := 115) C d_Fo_evaluateWords_12 (by decide) (fun h1 => ?_) (fun h1 => ?_)
  · have h1 : 4 ≤ i := (nI_leI (a := 4) (b := i) (by omega) (by omega)).mp h1
    have h2 : i = 4 := by omega
    subst h2
    refine sv_vret C rfl d_Fo_evaluateWords_115 (Nat.le_of_ble_eq_true rfl) (Nat.le_of_ble_eq_true rfl) (fun _ _ => rfl) (⟨rfl, fT, rfl, fun c z hz => ?_⟩)
    rw [hT c z hz]
    by_cases e : c = f
    · rw [if_pos ⟨e, by omega⟩, if_pos e]
    · rw [if_neg (fun q => e q.1), if_neg e]
  · have h1 : ¬ 4 ≤ i := fun h => h1 ((nI_leI (a := 4) (b := i) (by omega) (by omega)).mpr h)
    have hxin := ss_jin (a := x) (i := i) (N := 240) (by omega) (by omega) (by decide)
    have hyin := ss_jin (a := y) (i := i) (N := 240) (by omega) (by omega) (by decide)
    have hffin := ss_jin (a := f) (i := i) (N := 240) (by omega) (by omega) (by decide)
    have hxc := ss_jcl (a := x) (i := i) (N := 240) (by omega) (by omega) (by decide)
    have hyc := ss_jcl (a := y) (i := i) (N := 240) (by omega) (by omega) (by decide)
    have hffc := ss_jcl (a := f) (i := i) (N := 240) (by omega) (by omega) (by decide)
    refine sv_aload_n C d_Fo_evaluateWords_15 rfl rfl ?_
    refine sv_aload_n C d_Fo_evaluateWords_16 rfl rfl ?_
    refine sv_get (ci := 0) (kf := 4) C i_Fo rfl (by decide) f_Fo_31 (fun _ h9 => h9) d_Fo_evaluateWords_17 (by first | assumption | rfl) rfl ?_
    refine sv_iload_n C d_Fo_evaluateWords_20 rfl rfl ?_
    refine sv_iald (t0 := 0) C rfl d_Fo_evaluateWords_21 (by first | assumption | rfl) (by assumption) ?_
    refine sv_eqs (st' := [.int (nI x), .ref 17]) (by show [Value.int (I 5 (nI f).toNatClampNeg), _] = _; rw [hfc, hx]) ?_
    refine sv_iconst (v := 4) C d_Fo_evaluateWords_22 rfl ?_
    refine sv_imul C d_Fo_evaluateWords_23 ?_
    refine sv_iload_n C d_Fo_evaluateWords_24 rfl rfl ?_
    refine sv_iadd C d_Fo_evaluateWords_25 ?_
    refine sv_lald (t0 := 1) C rfl d_Fo_evaluateWords_26 (by first | assumption | rfl) (by assumption) ?_
    refine sv_topl (fun wx ex => ?_)
    refine sv_lstore C d_Fo_evaluateWords_27 (by decide) rfl ?_
    refine sv_aload_n C d_Fo_evaluateWords_29 rfl rfl ?_
    refine sv_aload_n C d_Fo_evaluateWords_30 rfl rfl ?_
    refine sv_get (ci := 0) (kf := 5) C i_Fo rfl (by decide) f_Fo_34 (fun _ h9 => h9) d_Fo_evaluateWords_31 (by first | assumption | rfl) rfl ?_
    refine sv_iload_n C d_Fo_evaluateWords_34 rfl rfl ?_
    refine sv_iald (t0 := 0) C rfl d_Fo_evaluateWords_35 (by first | assumption | rfl) (by assumption) ?_
    refine sv_eqs (st' := [.int (nI y), .ref 17]) (by show [Value.int (I 6 (nI f).toNatClampNeg), _] = _; rw [hfc, hy]) ?_
    refine sv_iconst (v := 4) C d_Fo_evaluateWords_36 rfl ?_
    refine sv_imul C d_Fo_evaluateWords_37 ?_
    refine sv_iload_n C d_Fo_evaluateWords_38 rfl rfl ?_
    refine sv_iadd C d_Fo_evaluateWords_39 ?_
    refine sv_lald (t0 := 1) C rfl d_Fo_evaluateWords_40 (by first | assumption | rfl) (by assumption) ?_
    refine sv_topl (fun wy ey => ?_)
    have ex : wx = fT (x * 4 + i) := by rw [ex]; show fT (nI x * 4 + nI i).toNatClampNeg = _; rw [hxc]
    have ey : wy = fT (y * 4 + i) := by rw [ey]; show fT (nI y * 4 + nI i).toNatClampNeg = _; rw [hyc]
    have bx : ∀ j, j < 64 → wx.toBitVec.getLsbD j = ss_b (L 4) x (64 * i + j) := fun j hj => by rw [ex]; exact ew_at hT (by omega) (by omega) hj
    have byy : ∀ j, j < 64 → wy.toBitVec.getLsbD j = ss_b (L 4) y (64 * i + j) := fun j hj => by rw [ey]; exact ew_at hT (by omega) (by omega) hj
    refine sv_lstore C d_Fo_evaluateWords_41 (by decide) rfl ?_
    refine sv_aload_n C d_Fo_evaluateWords_43 rfl rfl ?_
    refine sv_get (ci := 0) (kf := 3) C i_Fo rfl (by decide) f_Fo_27 (fun _ h9 => h9) d_Fo_evaluateWords_44 (by first | assumption | rfl) rfl ?_
    refine sv_iload_n C d_Fo_evaluateWords_47 rfl rfl ?_
    refine sv_iald (t0 := 0) C rfl d_Fo_evaluateWords_48 (by first | assumption | rfl) (by assumption) ?_
    refine sv_iconst (v := 2) C d_Fo_evaluateWords_49 rfl ?_
    refine sv_eqs (st' := [.int 2, .int 2]) (by show [_, Value.int (I 4 (nI f).toNatClampNeg)] = _; rw [hfc, hk]; rfl) ?_
    refine sv_icmp_ne (tgt := 61) C d_Fo_evaluateWords_50 (by decide) (fun h2 => ?_) (fun h2 => ?_)
    · exact absurd rfl h2
    · refine sv_lload C d_Fo_evaluateWords_53 rfl ?_
      refine sv_lload C d_Fo_evaluateWords_55 rfl ?_
      refine sv_land C d_Fo_evaluateWords_57 ?_
      refine sv_goto (tgt := 66) C d_Fo_evaluateWords_58 (by decide) ?_
      refine sv_lstore C d_Fo_evaluateWords_66 (by decide) rfl ?_
      refine sv_aload_n C d_Fo_evaluateWords_68 rfl rfl ?_
      refine sv_iload_n C d_Fo_evaluateWords_69 rfl rfl ?_
      refine sv_iconst (v := 4) C d_Fo_evaluateWords_70 rfl ?_
      refine sv_imul C d_Fo_evaluateWords_71 ?_
      refine sv_iload_n C d_Fo_evaluateWords_72 rfl rfl ?_
      refine sv_iadd C d_Fo_evaluateWords_73 ?_
      refine sv_aload_n C d_Fo_evaluateWords_74 rfl rfl ?_
      refine sv_get (ci := 0) (kf := 3) C i_Fo rfl (by decide) f_Fo_27 (fun _ h9 => h9) d_Fo_evaluateWords_75 (by first | assumption | rfl) rfl ?_
      refine sv_iload_n C d_Fo_evaluateWords_78 rfl rfl ?_
      refine sv_iald (t0 := 0) C rfl d_Fo_evaluateWords_79 (by first | assumption | rfl) (by assumption) ?_
      refine sv_iconst (v := 1) C d_Fo_evaluateWords_80 rfl ?_
      refine sv_eqs (st' := [.int 1, .int 2, .int (nI f * 4 + nI i), .ref 17]) (by show [_, Value.int (I 4 (nI f).toNatClampNeg), _, _] = _; rw [hfc, hk]; rfl) ?_
      refine sv_icmp_ne (tgt := 106) C d_Fo_evaluateWords_81 (by decide) (fun h3 => ?_) (fun h3 => ?_)
      · refine sv_lload C d_Fo_evaluateWords_106 rfl ?_
        refine sv_topl (fun wv ev => ?_)
        refine sv_last (t0 := 1) C rfl d_Fo_evaluateWords_108 (by first | assumption | rfl) hffin ?_
        refine sv_eqw (ws' := hC cI cJ cZ (hu L 4 (vp_updL fT (f * 4 + i) wv)) I V tl) (by rw [hffc]; rfl) ?_
        refine sv_iincN C d_Fo_evaluateWords_109 rfl (by decide) rfl ?_
        refine sv_goto (tgt := 10) C d_Fo_evaluateWords_112 (by decide) ?_
        refine sv_drop [true, true, true, true, false, false, false, false, false, false] ?_
        refine ih (i + 1, vp_updL fT (f * 4 + i) wv) ⟨by dsimp only; omega, ew_s hT (by omega) (fun j hj => ?_)⟩ (by dsimp only; omega)
        rw [ev, ss_and, bx j hj, byy j hj]
      · exact absurd h3 (by decide)
set_option maxRecDepth 100000 in
set_option maxHeartbeats 4000000 in
theorem c_Fo_wordsOr {l : Launch} {D : va_G} {cI cJ cZ : ClassId} {L : Nat → Nat → Int64} {I : Nat → Nat → Int32} {V : Nat → Int32} {tl : List va_E} {f x y : Nat} (hf : f < 60) (hk : I 4 f = nI 3) (hx : I 5 f = nI x) (hy : I 6 f = nI y) (hxf : x < f) (hyf : y < f) :
    sv_M l y_Fo_evaluateWords [Cond.code y_Fo_evaluateWords b_Fo_evaluateWords 10 none] ({ frames := 0, cells := 0, slots := 0, locals := 0 } : Room) D sv_cl (sv_ty cI cJ cZ) [.ref 8, .int (nI f)] (hC cI cJ cZ L I V tl) 0 0 (fun r ws' => r = none ∧ ∃ fT : Nat → Int64, ws' = hC cI cJ cZ (hu L 4 fT) I V tl ∧ ∀ c z, z < 256 → ss_b fT c z = if c = f then (ss_b (L 4) x z || ss_b (L 4) y z) else ss_b (L 4) c z) sv_no 0 0 := by
  refine sv_of (cc := b_Fo_evaluateWords) (by decide +kernel) (Nat.le_of_ble_eq_true rfl) ?_
  intro pX eX sX mX aX bX tX cX AX adX C htab hnm
  have hfin : vp_in (nI f) 60 := vp_in_nI hf (by omega)
  have hfc : (nI f).toNatClampNeg = f := nI_clamp (by omega)
  refine sv_aload_n C d_Fo_evaluateWords_0 rfl rfl ?_
  refine sv_get (ci := 0) (kf := 2) C i_Fo rfl (by decide) f_Fo_23 (fun _ h9 => h9) d_Fo_evaluateWords_1 (by first | assumption | rfl) rfl ?_
  refine sv_get (ci := 3) (kf := 0) C i_St rfl (by decide) f_Fo_95 (fun _ h9 => h9) d_Fo_evaluateWords_4 (by first | assumption | rfl) rfl ?_
  refine sv_astore_n C d_Fo_evaluateWords_7 rfl (by decide) rfl ?_
  refine sv_iconst (v := 0) C d_Fo_evaluateWords_8 rfl ?_
  refine sv_istore_n C d_Fo_evaluateWords_9 rfl (by decide) rfl ?_
  refine sv_eqw (ws' := hC cI cJ cZ (hu L 4 (L 4)) I V tl) (by rw [hu_same]) ?_
  refine sv_ind (σ := Nat × (Nat → Int64)) (I := fun s => s.1 ≤ 4 ∧ ew_I (L 4) s.2 f s.1 (fun z => (ss_b (L 4) x z || ss_b (L 4) y z))) (μ := fun s => 4 - s.1) (lv := fun s => [some (.ref 8), some (.int (nI f)), some (.ref 17), some (.int (nI s.1)), none, none, none, none, none, none]) (ws := fun s => hC cI cJ cZ (hu L 4 s.2) I V tl) ?_ (0, L 4) ⟨Nat.zero_le _, fun c z hz => by rw [if_neg (fun q => absurd q.2 (Nat.not_lt_zero z))]⟩
  rintro ⟨i, fT⟩ ⟨hi, hT⟩ ih
  dsimp only at hi hT ih
  refine sv_iload_n C d_Fo_evaluateWords_10 rfl rfl ?_
  refine sv_iconst (v := 4) C d_Fo_evaluateWords_11 rfl ?_
  refine sv_icmp_ge (tgt := 115) C d_Fo_evaluateWords_12 (by decide) (fun h1 => ?_) (fun h1 => ?_)
  · have h1 : 4 ≤ i := (nI_leI (a := 4) (b := i) (by omega) (by omega)).mp h1
    have h2 : i = 4 := by omega
    subst h2
    refine sv_vret C rfl d_Fo_evaluateWords_115 (Nat.le_of_ble_eq_true rfl) (Nat.le_of_ble_eq_true rfl) (fun _ _ => rfl) (⟨rfl, fT, rfl, fun c z hz => ?_⟩)
    rw [hT c z hz]
    by_cases e : c = f
    · rw [if_pos ⟨e, by omega⟩, if_pos e]
    · rw [if_neg (fun q => e q.1), if_neg e]
  · have h1 : ¬ 4 ≤ i := fun h => h1 ((nI_leI (a := 4) (b := i) (by omega) (by omega)).mpr h)
    have hxin := ss_jin (a := x) (i := i) (N := 240) (by omega) (by omega) (by decide)
    have hyin := ss_jin (a := y) (i := i) (N := 240) (by omega) (by omega) (by decide)
    have hffin := ss_jin (a := f) (i := i) (N := 240) (by omega) (by omega) (by decide)
    have hxc := ss_jcl (a := x) (i := i) (N := 240) (by omega) (by omega) (by decide)
    have hyc := ss_jcl (a := y) (i := i) (N := 240) (by omega) (by omega) (by decide)
    have hffc := ss_jcl (a := f) (i := i) (N := 240) (by omega) (by omega) (by decide)
    refine sv_aload_n C d_Fo_evaluateWords_15 rfl rfl ?_
    refine sv_aload_n C d_Fo_evaluateWords_16 rfl rfl ?_
    refine sv_get (ci := 0) (kf := 4) C i_Fo rfl (by decide) f_Fo_31 (fun _ h9 => h9) d_Fo_evaluateWords_17 (by first | assumption | rfl) rfl ?_
    refine sv_iload_n C d_Fo_evaluateWords_20 rfl rfl ?_
    refine sv_iald (t0 := 0) C rfl d_Fo_evaluateWords_21 (by first | assumption | rfl) (by assumption) ?_
    refine sv_eqs (st' := [.int (nI x), .ref 17]) (by show [Value.int (I 5 (nI f).toNatClampNeg), _] = _; rw [hfc, hx]) ?_
    refine sv_iconst (v := 4) C d_Fo_evaluateWords_22 rfl ?_
    refine sv_imul C d_Fo_evaluateWords_23 ?_
    refine sv_iload_n C d_Fo_evaluateWords_24 rfl rfl ?_
    refine sv_iadd C d_Fo_evaluateWords_25 ?_
    refine sv_lald (t0 := 1) C rfl d_Fo_evaluateWords_26 (by first | assumption | rfl) (by assumption) ?_
    refine sv_topl (fun wx ex => ?_)
    refine sv_lstore C d_Fo_evaluateWords_27 (by decide) rfl ?_
    refine sv_aload_n C d_Fo_evaluateWords_29 rfl rfl ?_
    refine sv_aload_n C d_Fo_evaluateWords_30 rfl rfl ?_
    refine sv_get (ci := 0) (kf := 5) C i_Fo rfl (by decide) f_Fo_34 (fun _ h9 => h9) d_Fo_evaluateWords_31 (by first | assumption | rfl) rfl ?_
    refine sv_iload_n C d_Fo_evaluateWords_34 rfl rfl ?_
    refine sv_iald (t0 := 0) C rfl d_Fo_evaluateWords_35 (by first | assumption | rfl) (by assumption) ?_
    refine sv_eqs (st' := [.int (nI y), .ref 17]) (by show [Value.int (I 6 (nI f).toNatClampNeg), _] = _; rw [hfc, hy]) ?_
    refine sv_iconst (v := 4) C d_Fo_evaluateWords_36 rfl ?_
    refine sv_imul C d_Fo_evaluateWords_37 ?_
    refine sv_iload_n C d_Fo_evaluateWords_38 rfl rfl ?_
    refine sv_iadd C d_Fo_evaluateWords_39 ?_
    refine sv_lald (t0 := 1) C rfl d_Fo_evaluateWords_40 (by first | assumption | rfl) (by assumption) ?_
    refine sv_topl (fun wy ey => ?_)
    have ex : wx = fT (x * 4 + i) := by rw [ex]; show fT (nI x * 4 + nI i).toNatClampNeg = _; rw [hxc]
    have ey : wy = fT (y * 4 + i) := by rw [ey]; show fT (nI y * 4 + nI i).toNatClampNeg = _; rw [hyc]
    have bx : ∀ j, j < 64 → wx.toBitVec.getLsbD j = ss_b (L 4) x (64 * i + j) := fun j hj => by rw [ex]; exact ew_at hT (by omega) (by omega) hj
    have byy : ∀ j, j < 64 → wy.toBitVec.getLsbD j = ss_b (L 4) y (64 * i + j) := fun j hj => by rw [ey]; exact ew_at hT (by omega) (by omega) hj
    refine sv_lstore C d_Fo_evaluateWords_41 (by decide) rfl ?_
    refine sv_aload_n C d_Fo_evaluateWords_43 rfl rfl ?_
    refine sv_get (ci := 0) (kf := 3) C i_Fo rfl (by decide) f_Fo_27 (fun _ h9 => h9) d_Fo_evaluateWords_44 (by first | assumption | rfl) rfl ?_
    refine sv_iload_n C d_Fo_evaluateWords_47 rfl rfl ?_
    refine sv_iald (t0 := 0) C rfl d_Fo_evaluateWords_48 (by first | assumption | rfl) (by assumption) ?_
    refine sv_iconst (v := 2) C d_Fo_evaluateWords_49 rfl ?_
    refine sv_eqs (st' := [.int 2, .int 3]) (by show [_, Value.int (I 4 (nI f).toNatClampNeg)] = _; rw [hfc, hk]; rfl) ?_
    refine sv_icmp_ne (tgt := 61) C d_Fo_evaluateWords_50 (by decide) (fun h2 => ?_) (fun h2 => ?_)
    · refine sv_lload C d_Fo_evaluateWords_61 rfl ?_
      refine sv_lload C d_Fo_evaluateWords_63 rfl ?_
      refine sv_lor C d_Fo_evaluateWords_65 ?_
      refine sv_lstore C d_Fo_evaluateWords_66 (by decide) rfl ?_
      refine sv_aload_n C d_Fo_evaluateWords_68 rfl rfl ?_
      refine sv_iload_n C d_Fo_evaluateWords_69 rfl rfl ?_
      refine sv_iconst (v := 4) C d_Fo_evaluateWords_70 rfl ?_
      refine sv_imul C d_Fo_evaluateWords_71 ?_
      refine sv_iload_n C d_Fo_evaluateWords_72 rfl rfl ?_
      refine sv_iadd C d_Fo_evaluateWords_73 ?_
      refine sv_aload_n C d_Fo_evaluateWords_74 rfl rfl ?_
      refine sv_get (ci := 0) (kf := 3) C i_Fo rfl (by decide) f_Fo_27 (fun _ h9 => h9) d_Fo_evaluateWords_75 (by first | assumption | rfl) rfl ?_
      refine sv_iload_n C d_Fo_evaluateWords_78 rfl rfl ?_
      refine sv_iald (t0 := 0) C rfl d_Fo_evaluateWords_79 (by first | assumption | rfl) (by assumption) ?_
      refine sv_iconst (v := 1) C d_Fo_evaluateWords_80 rfl ?_
      refine sv_eqs (st' := [.int 1, .int 3, .int (nI f * 4 + nI i), .ref 17]) (by show [_, Value.int (I 4 (nI f).toNatClampNeg), _, _] = _; rw [hfc, hk]; rfl) ?_
      refine sv_icmp_ne (tgt := 106) C d_Fo_evaluateWords_81 (by decide) (fun h3 => ?_) (fun h3 => ?_)
      · refine sv_lload C d_Fo_evaluateWords_106 rfl ?_
        refine sv_topl (fun wv ev => ?_)
        refine sv_last (t0 := 1) C rfl d_Fo_evaluateWords_108 (by first | assumption | rfl) hffin ?_
        refine sv_eqw (ws' := hC cI cJ cZ (hu L 4 (vp_updL fT (f * 4 + i) wv)) I V tl) (by rw [hffc]; rfl) ?_
        refine sv_iincN C d_Fo_evaluateWords_109 rfl (by decide) rfl ?_
        refine sv_goto (tgt := 10) C d_Fo_evaluateWords_112 (by decide) ?_
        refine sv_drop [true, true, true, true, false, false, false, false, false, false] ?_
        refine ih (i + 1, vp_updL fT (f * 4 + i) wv) ⟨by dsimp only; omega, ew_s hT (by omega) (fun j hj => ?_)⟩ (by dsimp only; omega)
        rw [ev, ss_or, bx j hj, byy j hj]
      · exact absurd h3 (by decide)
    · exact absurd h2 (by decide)
end
section
/-! StateLogic$Formulas: evaluateUntil -/
theorem g_st_unsnoc {E : Nat → Nat → Prop} : ∀ (n a z : Nat), g_st E (n + 1) a z → ∃ y, g_st E n a y ∧ E y z
  | 0, a, z, ⟨c, hc, h⟩ => by
    have h : c = z := h
    subst h
    exact ⟨a, rfl, hc⟩
  | n + 1, a, z, ⟨c, hc, h⟩ => by
    obtain ⟨y, hy, hyz⟩ := g_st_unsnoc n c z h
    exact ⟨y, ⟨c, hc, hy⟩, hyz⟩
/-- a row of n steps from z to a state of Y, all ahead of it in X -/
def um (S : Nat → Nat → Prop) (X Y : Nat → Prop) (n z : Nat) : Prop := ∃ t, Y t ∧ g_st (fun a b => X a ∧ S a b) n z t
theorem um_of {E S : Nat → Nat → Prop} {X : Nat → Prop} (h : ∀ a b, E a b → X b ∧ S b a) : ∀ (n y z : Nat), g_st E n y z → g_st (fun a b => X a ∧ S a b) n z y
  | 0, y, z, h1 => by
    have h1 : y = z := h1
    exact h1.symm
  | n + 1, y, z, h1 => by
    obtain ⟨c, hc, hcz⟩ := g_st_unsnoc n y z h1
    exact ⟨c, h c z hcz, um_of h n y c hc⟩
theorem of_um {E S : Nat → Nat → Prop} {X Y : Nat → Prop} (h : ∀ a b, X b → S b a → ¬ Y b → E a b) : ∀ (n z : Nat), um S X Y n z → ∃ k y, k ≤ n ∧ Y y ∧ g_st E k y z
  | 0, z, ⟨t, ht, h1⟩ => by
    have h1 : z = t := h1
    subst h1
    exact ⟨0, z, Nat.le_refl _, ht, rfl⟩
  | n + 1, z, ⟨t, ht, c, hc, h1⟩ => by
    by_cases hY : Y z
    · exact ⟨0, z, Nat.zero_le _, hY, rfl⟩
    · obtain ⟨k, y, hk, hy, hst⟩ := of_um h n c ⟨t, ht, h1⟩
      exact ⟨k + 1, y, by omega, hy, g_st_snoc hst (h c z hc.1 hc.2 hY)⟩
def ev_S (g : Nat → Int64) (a b : Nat) : Prop := b < 256 ∧ ss_b g a b = true
def ev_T (fT : Nat → Int64) (i z : Nat) : Prop := z < 256 ∧ ss_b fT i z = true
/-- the distances of an UNTIL -/
def un_ok (S : Nat → Nat → Prop) (X Y : Nat → Prop) (N : Nat) (I1 : Nat → Int32) : Prop :=
  ∀ z, z < N → (∃ d, d < 256 ∧ I1 z = nI d ∧ um S X Y d z ∧ ∀ k, um S X Y k z → d ≤ k) ∨ (I1 z = -1 ∧ ∀ k, ¬ um S X Y k z)
set_option maxRecDepth 100000 in
set_option maxHeartbeats 8000000 in
theorem c_Fo_evaluateUntil {l : Launch} {D : va_G} {cI cJ cZ : ClassId} {L : Nat → Nat → Int64} {I : Nat → Nat → Int32} {V : Nat → Int32} {tl : List va_E} {n f x y : Nat} (hn : n ≤ 8) (hV0 : V 0 = nI (2 ^ n)) (hf : f < 60) (hx : I 5 f = nI x) (hy : I 6 f = nI y) (hxf : x < f) (hyf : y < f)
    (hSP : ∀ a b, a < 256 → b < 256 → ss_b (L 2) b a = ss_b (L 1) a b) (hXN : ∀ z, ev_T (L 4) x z → z < 2 ^ n) (hYN : ∀ z, ev_T (L 4) y z → z < 2 ^ n) :
    sv_M l y_Fo_evaluateUntil [Cond.code y_Fo_evaluateUntil b_Fo_evaluateUntil 3 none] ({ frames := 3, cells := 0, slots := 0, locals := 105 } : Room) D sv_cl (sv_ty cI cJ cZ) [.ref 8, .int (nI f)] (hC cI cJ cZ L I V tl) 0 0 (fun r ws' => r = none ∧ ∃ (fO fT : Nat → Int64) (I0 I1 : Nat → Int32) (v2 : Int32), ws' = hC cI cJ cZ (hu (hu L 3 fO) 4 fT) (hu (hu I 0 I0) 1 I1) (hu (hu V 2 v2) 4 (nI f)) tl ∧ (∀ c z, z < 256 → (ss_b fT c z = true ↔ (ss_b (L 4) c z = true ∨ (c = f ∧ ∃ k, um (ev_S (L 1)) (ev_T (L 4) x) (ev_T (L 4) y) k z)))) ∧ un_ok (ev_S (L 1)) (ev_T (L 4) x) (ev_T (L 4) y) (2 ^ n) I1) sv_no 0 0 := by
  refine sv_of (cc := b_Fo_evaluateUntil) (by decide +kernel) (Nat.le_of_ble_eq_true rfl) ?_
  intro pX eX sX mX aX bX tX cX AX adX C htab hnm
  have hp8 := pow_le8 hn
  have hfin : vp_in (nI f) 60 := vp_in_nI hf (by omega)
  have hfc : (nI f).toNatClampNeg = f := nI_clamp (by omega)
  refine sv_aload_n C d_Fo_evaluateUntil_0 rfl rfl ?_
  refine sv_get (ci := 0) (kf := 1) C i_Fo rfl (by decide) f_Fo_12 (fun _ h9 => h9) d_Fo_evaluateUntil_1 (by first | assumption | rfl) rfl ?_
  refine sv_aload_n C d_Fo_evaluateUntil_4 rfl rfl ?_
  refine sv_get (ci := 0) (kf := 2) C i_Fo rfl (by decide) f_Fo_23 (fun _ h9 => h9) d_Fo_evaluateUntil_5 (by first | assumption | rfl) rfl ?_
  refine sv_aload_n C d_Fo_evaluateUntil_8 rfl rfl ?_
  refine sv_get (ci := 0) (kf := 4) C i_Fo rfl (by decide) f_Fo_31 (fun _ h9 => h9) d_Fo_evaluateUntil_9 (by first | assumption | rfl) rfl ?_
  refine sv_iload_n C d_Fo_evaluateUntil_12 rfl rfl ?_
  refine sv_iald (t0 := 0) C rfl d_Fo_evaluateUntil_13 (by first | assumption | rfl) (by assumption) ?_
  refine sv_eqs (st' := [.int (nI x), .ref 16, .ref 9]) (by show [Value.int (I 5 (nI f).toNatClampNeg), _, _] = _; rw [hfc, hx]) ?_
  refine sv_callV (ci := 2) C (c_Se_openAll (cI := cI) (cJ := cJ) (cZ := cZ) (L := L) (I := I) (V := V) (tl := tl) (a := x) (by omega)) s_Fo_111 ki_Se_openAll ks_Se_openAll ⟨rfl, rfl, Nat.le_of_ble_eq_true rfl, Nat.le_of_ble_eq_true rfl⟩ rfl d_Fo_evaluateUntil_14 (by first | assumption | rfl) (Nat.le_of_ble_eq_true rfl) ⟨(Nat.le_of_ble_eq_true rfl), (Nat.le_of_ble_eq_true rfl)⟩ (fun E ws9 h9 => absurd h9 id) (fun v9 ws9 hp => ?_)
  obtain ⟨rfl, fX, rfl, hfX⟩ := hp
  refine sv_iconst (v := 0) C d_Fo_evaluateUntil_17 rfl ?_
  refine sv_istore_n C d_Fo_evaluateUntil_18 rfl (by decide) rfl ?_
  refine sv_eqw (ws' := hC cI cJ cZ (hu L 3 fX) (hu (hu I 0 (I 0)) 1 (I 1)) (hu V 2 (nI 0)) tl) (by rw [hu_same, hu_same]; rfl) ?_
  refine sv_ind (σ := Nat × Nat × (Nat → Int64) × (Nat → Int32) × (Nat → Int32) × (Nat → Nat)) (I := fun s => s.1 ≤ 2 ^ n ∧ s.2.1 ≤ s.1 ∧ (∀ k, k < s.2.1 → s.2.2.2.2.2 k < s.1 ∧ ss_b (L 4) y (s.2.2.2.2.2 k) = true ∧ s.2.2.2.1 k = nI (s.2.2.2.2.2 k) ∧ s.2.2.2.2.1 (s.2.2.2.2.2 k) = nI 0) ∧ (∀ i j, i < s.2.1 → j < s.2.1 → s.2.2.2.2.2 i = s.2.2.2.2.2 j → i = j) ∧ (∀ z, z < s.1 → ss_b (L 4) y z = true → bf_F s.2.2.2.2.2 s.2.1 z) ∧ (∀ z, z < s.1 → ss_b (L 4) y z = false → s.2.2.2.2.1 z = -1) ∧ (∀ z, z < 256 → (ss_b s.2.2.1 0 z = true ↔ (ss_b (L 4) x z = true ∧ ¬ (z < s.1 ∧ ss_b (L 4) y z = true))))) (μ := fun s => 2 ^ n - s.1)
    (lv := fun s => [some (.ref 8), some (.int (nI f)), some (.int (nI s.1))]) (ws := fun s => hC cI cJ cZ (hu L 3 s.2.2.1) (hu (hu I 0 s.2.2.2.1) 1 s.2.2.2.2.1) (hu V 2 (nI s.2.1)) tl) ?_ (0, 0, fX, I 0, I 1, fun _ => 0) ⟨Nat.zero_le _, Nat.le_refl _, fun k hk => absurd hk (Nat.not_lt_zero k), fun i j hi => absurd hi (Nat.not_lt_zero i), fun z hz => absurd hz (Nat.not_lt_zero z), fun z hz => absurd hz (Nat.not_lt_zero z), fun z hz => by dsimp only; rw [hfX z hz]; exact ⟨fun h => ⟨h, fun q => absurd q.1 (Nat.not_lt_zero z)⟩, fun h => h.1⟩⟩
  rintro ⟨i, cnt, fO, I0, I1, fd⟩ ⟨hi, hci, hk, hj, hY1, hY0, hO⟩ ih
  dsimp only at hi hci hk hj hY1 hY0 hO ih
  refine sv_iload_n C d_Fo_evaluateUntil_19 rfl rfl ?_
  refine sv_aload_n C d_Fo_evaluateUntil_20 rfl rfl ?_
  refine sv_get (ci := 0) (kf := 0) C i_Fo rfl (by decide) f_Fo_44 (fun _ h9 => h9) d_Fo_evaluateUntil_21 (by first | assumption | rfl) rfl ?_
  refine sv_get (ci := 1) (kf := 3) C i_Ma rfl (by decide) f_Fo_88 (fun _ h9 => h9) d_Fo_evaluateUntil_24 (by first | assumption | rfl) rfl ?_
  refine sv_eqs (st' := [.int (nI (2 ^ n)), .int (nI i)]) (by show [Value.int (V 0), _] = _; rw [hV0]) ?_
  refine sv_icmp_ge (tgt := 84) C d_Fo_evaluateUntil_27 (by decide) (fun h1 => ?_) (fun h1 => ?_)
  · have h1 : 2 ^ n ≤ i := (nI_leI (a := 2 ^ n) (b := i) (by omega) (by omega)).mp h1
    have h2 : i = 2 ^ n := by omega
    subst h2
    refine sv_aload_n C d_Fo_evaluateUntil_84 rfl rfl ?_
    refine sv_get (ci := 0) (kf := 1) C i_Fo rfl (by decide) f_Fo_12 (fun _ h9 => h9) d_Fo_evaluateUntil_85 (by first | assumption | rfl) rfl ?_
    refine sv_aload_n C d_Fo_evaluateUntil_88 rfl rfl ?_
    refine sv_get (ci := 0) (kf := 0) C i_Fo rfl (by decide) f_Fo_44 (fun _ h9 => h9) d_Fo_evaluateUntil_89 (by first | assumption | rfl) rfl ?_
    refine sv_get (ci := 1) (kf := 2) C i_Ma rfl (by decide) f_Fo_131 (fun _ h9 => h9) d_Fo_evaluateUntil_92 (by first | assumption | rfl) rfl ?_
    refine sv_callV (ci := 2) C (c_Se_spread (cI := cI) (cJ := cJ) (cZ := cZ) (L := hu L 3 fO) (I := hu (hu I 0 I0) 1 I1) (V := hu V 2 (nI cnt)) (tl := tl) (b := 6) (w := 7) (q := 2) (cnt0 := cnt) (fd0 := fd) (Or.inr ⟨rfl, rfl, rfl⟩) rfl (fun k hk9 => ⟨by have := (hk k hk9).1; omega, (hk k hk9).2.2.1, (hk k hk9).2.2.2, by show ss_b fO 0 (fd k) = false; cases hc9 : ss_b fO 0 (fd k) with | false => rfl | true => exact absurd ⟨(hk k hk9).1, (hk k hk9).2.1⟩ ((hO (fd k) (by have := (hk k hk9).1; omega)).mp hc9).2⟩) hj) s_Fo_134 ki_Se_spread ks_Se_spread ⟨rfl, rfl, Nat.le_of_ble_eq_true rfl, Nat.le_of_ble_eq_true rfl⟩ rfl d_Fo_evaluateUntil_95 (by first | assumption | rfl) (Nat.le_of_ble_eq_true rfl) ⟨(Nat.le_of_ble_eq_true rfl), (Nat.le_of_ble_eq_true rfl)⟩ (fun E ws9 h9 => absurd h9 id) (fun v9 ws9 hp => ?_)
    obtain ⟨rfl, fO', I0', I1', cnt', fd', dd, rfl, hR⟩ := hp
    refine sv_eqw (ws' := hC cI cJ cZ (hu L 3 fO') (hu (hu I 0 I0') 1 I1') (hu V 2 (nI cnt')) tl) (by rw [hu_hu, hu_hu, hu_sw (hu I 0 I0) _ _ (show (1 : Nat) ≠ 0 by decide), hu_hu, hu_hu]) ?_
    obtain ⟨r1, r2, r3, r4, r5, r6, r7, r8, r9⟩ := hR
    refine sv_aload_n C d_Fo_evaluateUntil_98 rfl rfl ?_
    refine sv_iload_n C d_Fo_evaluateUntil_99 rfl rfl ?_
    refine sv_callV (ci := 0) C (c_Fo_putFound (cI := cI) (cJ := cJ) (cZ := cZ) (L := hu L 3 fO') (I := hu (hu I 0 I0') 1 I1') (V := hu V 2 (nI cnt')) (tl := tl) (f := f) (cnt := cnt') (fd := fd') hf rfl r2 r3) s_Fo_138 ki_Fo_putFound ks_Fo_putFound ⟨rfl, rfl, Nat.le_of_ble_eq_true rfl, Nat.le_of_ble_eq_true rfl⟩ rfl d_Fo_evaluateUntil_100 (by first | assumption | rfl) (Nat.le_of_ble_eq_true rfl) ⟨(Nat.le_of_ble_eq_true rfl), (Nat.le_of_ble_eq_true rfl)⟩ (fun E ws9 h9 => absurd h9 id) (fun v9 ws9 hp => ?_)
    obtain ⟨rfl, fT, rfl, hT⟩ := hp
    refine sv_aload_n C d_Fo_evaluateUntil_103 rfl rfl ?_
    refine sv_iload_n C d_Fo_evaluateUntil_104 rfl rfl ?_
    refine sv_put (ci := 0) (kf := 9) (ty := .int) C i_Fo t_Fo t_Fo_ok n_Fo rfl (by decide) f_Fo_48 (fun _ h9 => h9) rfl (by decide +kernel) d_Fo_evaluateUntil_105 (by first | assumption | rfl) rfl rfl (Nat.le_of_ble_eq_true rfl) ?_
    have hE1 : ∀ a b, sp_E (L 2) fO a b → ev_T (L 4) x b ∧ ev_S (L 1) b a ∨ True := fun _ _ _ => Or.inr trivial
    have key1 : ∀ (k z : Nat) (m : Nat), m < cnt → g_st (sp_E (L 2) fO) k (fd m) z → um (ev_S (L 1)) (ev_T (L 4) x) (ev_T (L 4) y) k z := by
      intro k z m hm hst
      have hm2 := hk m hm
      refine ⟨fd m, ⟨by omega, hm2.2.1⟩, ?_⟩
      -- along the way every state is below 256
      have hall : ∀ (k : Nat) (z : Nat), g_st (sp_E (L 2) fO) k (fd m) z → z < 256 ∧ g_st (fun a b => ev_T (L 4) x a ∧ ev_S (L 1) a b) k z (fd m) := by
        intro k
        induction k with
        | zero =>
          intro z h
          have h : fd m = z := h
          exact ⟨by omega, h.symm⟩
        | succ k ihk =>
          intro z h
          obtain ⟨c, hc, hcz⟩ := g_st_unsnoc k _ z h
          obtain ⟨g1, g2⟩ := ihk c hc
          have g3 := (hO z hcz.1).mp hcz.2.2
          exact ⟨hcz.1, c, ⟨⟨hcz.1, g3.1⟩, g1, by rw [← hSP z c hcz.1 g1]; exact hcz.2.1⟩, g2⟩
      exact (hall k z hst).2
    have key2 : ∀ (k z : Nat), um (ev_S (L 1)) (ev_T (L 4) x) (ev_T (L 4) y) k z → ∃ k' m, k' ≤ k ∧ m < cnt ∧ g_st (sp_E (L 2) fO) k' (fd m) z := by
      intro k z hu
      obtain ⟨k', y', hk', hy', hst⟩ := of_um (E := sp_E (L 2) fO) (fun a b hb hba hnY => ⟨hb.1, by rw [hSP b a hb.1 hba.1]; exact hba.2, (hO b hb.1).mpr ⟨hb.2, fun q => hnY ⟨hb.1, q.2⟩⟩⟩) k z hu
      obtain ⟨m, hm, e⟩ := hY1 y' (hYN y' hy') hy'.2
      exact ⟨k', m, hk', hm, by rw [e]; exact hst⟩
    refine sv_eqw (ws' := hC cI cJ cZ (hu (hu L 3 fO') 4 fT) (hu (hu I 0 I0') 1 I1') (hu (hu V 2 (nI cnt')) 4 (nI f)) tl) rfl ?_
    refine sv_vret C rfl d_Fo_evaluateUntil_108 (Nat.le_of_ble_eq_true rfl) (Nat.le_of_ble_eq_true rfl) (fun _ _ => rfl) (⟨rfl, fO', fT, I0', I1', nI cnt', rfl, fun c z hz => (hT c z hz).trans ⟨fun h => h.elim Or.inl (fun h => Or.inr ⟨h.1, ?_⟩), fun h => h.elim Or.inl (fun h => Or.inr ⟨h.1, ?_⟩)⟩, fun z hz => ?_⟩)
    · obtain ⟨⟨m, hm, hst⟩, -, -⟩ := r7 z h.2
      exact ⟨dd z, key1 _ _ m hm hst⟩
    · obtain ⟨k, hku⟩ := h.2
      obtain ⟨k', m, -, hm, hst⟩ := key2 k z hku
      exact (r8 m k' z hm hst).1
    · by_cases hF : bf_F fd' cnt' z
      · obtain ⟨⟨m, hm, hst⟩, e1, e2⟩ := r7 z hF
        refine Or.inl ⟨dd z, e2, e1, key1 _ _ m hm hst, fun k hku => ?_⟩
        obtain ⟨k', m', hk', hm', hst'⟩ := key2 k z hku
        have := (r8 m' k' z hm' hst').2
        omega
      · have hz256 : z < 256 := by omega
        refine Or.inr ⟨?_, fun k hku => ?_⟩
        · rw [r9 z hz256 hF]
          refine hY0 z hz ?_
          cases hc9 : ss_b (L 4) y z with
          | false => rfl
          | true =>
            exfalso
            obtain ⟨m, hm, e⟩ := hY1 z hz hc9
            exact hF (r8 m 0 z hm e).1
        · obtain ⟨k', m, -, hm, hst⟩ := key2 k z hku
          exact hF (r8 m k' z hm hst).1
  · have h1 : ¬ 2 ^ n ≤ i := fun h => h1 ((nI_leI (a := 2 ^ n) (b := i) (by omega) (by omega)).mpr h)
    have hiin : vp_in (nI i) 256 := vp_in_nI (by omega) (by omega)
    have hic : (nI i).toNatClampNeg = i := nI_clamp (by omega)
    refine sv_aload_n C d_Fo_evaluateUntil_30 rfl rfl ?_
    refine sv_get (ci := 0) (kf := 1) C i_Fo rfl (by decide) f_Fo_12 (fun _ h9 => h9) d_Fo_evaluateUntil_31 (by first | assumption | rfl) rfl ?_
    refine sv_get (ci := 2) (kf := 2) C i_Se rfl (by decide) f_Fo_115 (fun _ h9 => h9) d_Fo_evaluateUntil_34 (by first | assumption | rfl) rfl ?_
    refine sv_iload_n C d_Fo_evaluateUntil_37 rfl rfl ?_
    refine sv_iconst (v := (-1)) C d_Fo_evaluateUntil_38 rfl ?_
    refine sv_iast (t0 := 0) C rfl d_Fo_evaluateUntil_39 (by first | assumption | rfl) (by assumption) ?_
    refine sv_eqw (ws' := hC cI cJ cZ (hu L 3 fO) (hu (hu I 0 I0) 1 (upd I1 i (-1))) (hu V 2 (nI cnt)) tl) (by dsimp only; rw [hic]; rfl) ?_
    refine sv_aload_n C d_Fo_evaluateUntil_40 rfl rfl ?_
    refine sv_get (ci := 0) (kf := 2) C i_Fo rfl (by decide) f_Fo_23 (fun _ h9 => h9) d_Fo_evaluateUntil_41 (by first | assumption | rfl) rfl ?_
    refine sv_aload_n C d_Fo_evaluateUntil_44 rfl rfl ?_
    refine sv_get (ci := 0) (kf := 5) C i_Fo rfl (by decide) f_Fo_34 (fun _ h9 => h9) d_Fo_evaluateUntil_45 (by first | assumption | rfl) rfl ?_
    refine sv_iload_n C d_Fo_evaluateUntil_48 rfl rfl ?_
    refine sv_iald (t0 := 0) C rfl d_Fo_evaluateUntil_49 (by first | assumption | rfl) (by assumption) ?_
    refine sv_iload_n C d_Fo_evaluateUntil_50 rfl rfl ?_
    refine sv_eqs (st' := [.int (nI i), .int (nI y), .ref 16]) (by show [_, Value.int (I 6 (nI f).toNatClampNeg), _] = _; rw [hfc, hy]) ?_
    refine sv_callV (ci := 3) C (c_St_has (cI := cI) (cZ := cZ) (ws := hC cI cJ cZ (hu L 3 fO) (hu (hu I 0 I0) 1 (upd I1 i (-1))) (hu V 2 (nI cnt)) tl) (b := 16) (w := 17) (N := 240) (a := y) (x := i) (f := L 4) rfl rfl (by omega) (by decide) (by omega)) s_Fo_118 ki_St_has ks_St_has ⟨rfl, rfl, Nat.le_of_ble_eq_true rfl, Nat.le_of_ble_eq_true rfl⟩ rfl d_Fo_evaluateUntil_51 (by first | assumption | rfl) (Nat.le_of_ble_eq_true rfl) ⟨(Nat.le_of_ble_eq_true rfl), (Nat.le_of_ble_eq_true rfl)⟩ (fun E ws9 h9 => absurd h9 id) (fun v9 ws9 hp => ?_)
    obtain ⟨rfl, rfl⟩ := hp
    cases hyi : ss_b (L 4) y i with
    | false =>
      refine sv_if_eq (tgt := 78) C d_Fo_evaluateUntil_54 (by decide) (fun h2 => ?_) (fun h2 => ?_)
      · refine sv_iincN C d_Fo_evaluateUntil_78 rfl (by decide) rfl ?_
        refine sv_goto (tgt := 19) C d_Fo_evaluateUntil_81 (by decide) ?_
        refine ih (i + 1, cnt, fO, I0, upd I1 i (-1), fd) ⟨by dsimp only; omega, by dsimp only; omega, fun k hk9 => ?_, hj, fun z hz hb => ?_, fun z hz hb => ?_, fun z hz => ?_⟩ (by dsimp only; omega)
        · have h9 := hk k hk9
          refine ⟨by dsimp only; omega, h9.2.1, h9.2.2.1, ?_⟩
          show upd I1 i (-1) (fd k) = nI 0
          rw [pk_un (by omega)]
          exact h9.2.2.2
        · dsimp only at hz
          by_cases e : z = i
          · rw [e, hyi] at hb
            cases hb
          · exact hY1 z (by omega) hb
        · dsimp only at hz
          show upd I1 i (-1) z = -1
          by_cases e : z = i
          · rw [e, pk_us]
          · rw [pk_un e]
            exact hY0 z (by omega) hb
        · dsimp only
          rw [hO z hz]
          constructor
          · rintro ⟨g1, g2⟩
            refine ⟨g1, fun q => g2 ⟨?_, q.2⟩⟩
            by_cases e : z = i
            · rw [e, hyi] at q
              exact absurd q.2 (by decide)
            · omega
          · rintro ⟨g1, g2⟩
            exact ⟨g1, fun q => g2 ⟨by omega, q.2⟩⟩
      · exact absurd rfl h2
    | true =>
      refine sv_if_eq (tgt := 78) C d_Fo_evaluateUntil_54 (by decide) (fun h2 => ?_) (fun h2 => ?_)
      · exact absurd h2 (by decide)
      · refine sv_aload_n C d_Fo_evaluateUntil_57 rfl rfl ?_
        refine sv_get (ci := 0) (kf := 1) C i_Fo rfl (by decide) f_Fo_12 (fun _ h9 => h9) d_Fo_evaluateUntil_58 (by first | assumption | rfl) rfl ?_
        refine sv_get (ci := 2) (kf := 0) C i_Se rfl (by decide) f_Fo_122 (fun _ h9 => h9) d_Fo_evaluateUntil_61 (by first | assumption | rfl) rfl ?_
        refine sv_iconst (v := 0) C d_Fo_evaluateUntil_64 rfl ?_
        refine sv_iload_n C d_Fo_evaluateUntil_65 rfl rfl ?_
        refine sv_callV (ci := 3) C (c_St_drop (cI := cI) (cZ := cZ) (ws := hC cI cJ cZ (hu L 3 fO) (hu (hu I 0 I0) 1 (upd I1 i (-1))) (hu V 2 (nI cnt)) tl) (b := 10) (w := 11) (N := 4) (a := 0) (x := i) (f := fO) rfl rfl (by decide) (by decide) (by omega)) s_Fo_125 ki_St_drop ks_St_drop ⟨rfl, rfl, Nat.le_of_ble_eq_true rfl, Nat.le_of_ble_eq_true rfl⟩ rfl d_Fo_evaluateUntil_66 (by first | assumption | rfl) (Nat.le_of_ble_eq_true rfl) ⟨(Nat.le_of_ble_eq_true rfl), (Nat.le_of_ble_eq_true rfl)⟩ (fun E ws9 h9 => absurd h9 id) (fun v9 ws9 hp => ?_)
        obtain ⟨rfl, rfl⟩ := hp
        refine sv_aload_n C d_Fo_evaluateUntil_69 rfl rfl ?_
        refine sv_get (ci := 0) (kf := 1) C i_Fo rfl (by decide) f_Fo_12 (fun _ h9 => h9) d_Fo_evaluateUntil_70 (by first | assumption | rfl) rfl ?_
        refine sv_iload_n C d_Fo_evaluateUntil_73 rfl rfl ?_
        refine sv_iconst (v := 0) C d_Fo_evaluateUntil_74 rfl ?_
        refine sv_eqw (ws' := hC cI cJ cZ (hu L 3 (ss_drop fO 0 i)) (hu (hu I 0 I0) 1 (upd I1 i (-1))) (hu V 2 (nI cnt)) tl) rfl ?_
        refine sv_callV (ci := 2) C (c_Se_find (cI := cI) (cJ := cJ) (cZ := cZ) (L := hu L 3 (ss_drop fO 0 i)) (I := hu (hu I 0 I0) 1 (upd I1 i (-1))) (V := hu V 2 (nI cnt)) (tl := tl) (n := cnt) (x := i) (d := 0) (by omega) (by omega) rfl) s_Fo_128 ki_Se_find ks_Se_find ⟨rfl, rfl, Nat.le_of_ble_eq_true rfl, Nat.le_of_ble_eq_true rfl⟩ rfl d_Fo_evaluateUntil_75 (by first | assumption | rfl) (Nat.le_of_ble_eq_true rfl) ⟨(Nat.le_of_ble_eq_true rfl), (Nat.le_of_ble_eq_true rfl)⟩ (fun E ws9 h9 => absurd h9 id) (fun v9 ws9 hp => ?_)
        obtain ⟨rfl, rfl⟩ := hp
        refine sv_iincN C d_Fo_evaluateUntil_78 rfl (by decide) rfl ?_
        refine sv_goto (tgt := 19) C d_Fo_evaluateUntil_81 (by decide) ?_
        refine sv_eqw (ws' := hC cI cJ cZ (hu L 3 (ss_drop fO 0 i)) (hu (hu I 0 (upd I0 cnt (nI i))) 1 (upd (upd I1 i (-1)) i 0)) (hu V 2 (nI (cnt + 1))) tl) (by rw [hu_hu, hu_sw (hu I 0 I0) _ _ (show (1 : Nat) ≠ 0 by decide), hu_hu, hu_hu]; rfl) ?_
        have hnF : ¬ bf_F fd cnt i := fun ⟨k, hk9, e⟩ => by
          have := (hk k hk9).1
          omega
        refine ih (i + 1, cnt + 1, ss_drop fO 0 i, upd I0 cnt (nI i), upd (upd I1 i (-1)) i 0, hu fd cnt i) ⟨by dsimp only; omega, by dsimp only; omega, fun k hk9 => ?_, bf_inj hj hnF, fun z hz hb => ?_, fun z hz hb => ?_, fun z hz => ?_⟩ (by dsimp only; omega)
        · dsimp only at hk9 ⊢
          by_cases e : k = cnt
          · rw [e, hu_s, pk_us, pk_us]
            exact ⟨by omega, hyi, rfl, rfl⟩
          · have h9 := hk k (by omega)
            rw [hu_n e, pk_un e, pk_un (by omega), pk_un (by omega)]
            exact ⟨by omega, h9.2⟩
        · dsimp only at hz ⊢
          by_cases e : z = i
          · exact bf_F_s.mpr (Or.inr e)
          · exact bf_F_s.mpr (Or.inl (hY1 z (by omega) hb))
        · dsimp only at hz ⊢
          have e : z ≠ i := fun q => by
            rw [q, hyi] at hb
            cases hb
          rw [pk_un e, pk_un e]
          exact hY0 z (by omega) hb
        · dsimp only
          rw [ss_drop_b fO 0 i 0 z hz (by omega)]
          by_cases e : z = i
          · subst e
            simp [hyi]
          · have e1 : ss_b fO 0 z = true ↔ (ss_b (L 4) x z = true ∧ ¬ (z < i + 1 ∧ ss_b (L 4) y z = true)) := (hO z hz).trans ⟨fun q => ⟨q.1, fun r => q.2 ⟨by omega, r.2⟩⟩, fun q => ⟨q.1, fun r => q.2 ⟨by omega, r.2⟩⟩⟩
            simp only [e, decide_true, decide_false, Bool.and_false, Bool.not_false, Bool.and_true]
            exact e1
end
section
/-! StateLogic$Formulas: evaluateRing -/
def b2i (a : Bool) : Int32 := if a = true then 1 else 0
theorem b2i_or (a b : Bool) : b2i a ||| b2i b = b2i (a || b) := by cases a <;> cases b <;> decide
def rg_C (L : Nat → Nat → Int64) (f y root cnt : Nat) (fd : Nat → Nat) : Prop :=
  (∃ i, i < cnt ∧ ∃ t, t < 256 ∧ ss_b (L 1) (fd i) t = true ∧ ss_b (L 4) f t = true) ∨ ((∃ i, i < cnt ∧ ss_b (L 4) y (fd i) = true) ∧ (1 < cnt ∨ ss_b (L 1) root root = true))
set_option maxRecDepth 100000 in
set_option maxHeartbeats 8000000 in
theorem c_Fo_evaluateRing {l : Launch} {D : va_G} {cI cJ cZ : ClassId} {L : Nat → Nat → Int64} {I : Nat → Nat → Int32} {V : Nat → Int32} {tl : List va_E} {f y root cnt : Nat} {fd : Nat → Nat} (hf : f < 60) (hy : I 6 f = nI y) (hy2 : y < 60) (hr : root < 256) (hV : V 2 = nI cnt) (hc : cnt ≤ 256) (hfd : ∀ i, i < cnt → fd i < 256 ∧ I 0 i = nI (fd i)) :
    sv_M l y_Fo_evaluateRing [Cond.code y_Fo_evaluateRing b_Fo_evaluateRing 7 none] ({ frames := 2, cells := 0, slots := 0, locals := 44 } : Room) D sv_cl (sv_ty cI cJ cZ) [.ref 8, .int (nI f), .int (nI root)] (hC cI cJ cZ L I V tl) 0 0 (fun r ws' => r = none ∧ ∃ fT : Nat → Int64, ws' = hC cI cJ cZ (hu L 4 fT) I V tl ∧ ∀ c z, z < 256 → (ss_b fT c z = true ↔ (ss_b (L 4) c z = true ∨ (c = f ∧ bf_F fd cnt z ∧ rg_C L f y root cnt fd)))) sv_no 0 0 := by
  refine sv_of (cc := b_Fo_evaluateRing) (by decide +kernel) (Nat.le_of_ble_eq_true rfl) ?_
  intro pX eX sX mX aX bX tX cX AX adX C htab hnm
  have hfin : vp_in (nI f) 60 := vp_in_nI hf (by omega)
  have hfc : (nI f).toNatClampNeg = f := nI_clamp (by omega)
  refine sv_iconst (v := 0) C d_Fo_evaluateRing_0 rfl ?_
  refine sv_istore_n C d_Fo_evaluateRing_1 rfl (by decide) rfl ?_
  refine sv_iconst (v := 0) C d_Fo_evaluateRing_2 rfl ?_
  refine sv_istore C d_Fo_evaluateRing_3 (by decide) rfl ?_
  refine sv_iconst (v := 0) C d_Fo_evaluateRing_5 rfl ?_
  refine sv_istore C d_Fo_evaluateRing_6 (by decide) rfl ?_
  refine sv_ind (σ := Nat × Bool × Bool) (I := fun s => s.1 ≤ cnt ∧ (s.2.1 = true ↔ ∃ i, i < s.1 ∧ ∃ t, t < 256 ∧ ss_b (L 1) (fd i) t = true ∧ ss_b (L 4) f t = true) ∧ (s.2.2 = true ↔ ∃ i, i < s.1 ∧ ss_b (L 4) y (fd i) = true)) (μ := fun s => cnt - s.1)
    (lv := fun s => [some (.ref 8), some (.int (nI f)), some (.int (nI root)), some (.int (b2i s.2.1)), some (.int (b2i s.2.2)), some (.int (nI s.1)), none]) (ws := fun _ => hC cI cJ cZ L I V tl) ?_ (0, false, false) ⟨Nat.zero_le _, ⟨fun h => absurd h (by decide), fun ⟨i, hi, _⟩ => absurd hi (Nat.not_lt_zero i)⟩, ⟨fun h => absurd h (by decide), fun ⟨i, hi, _⟩ => absurd hi (Nat.not_lt_zero i)⟩⟩
  rintro ⟨i, a, b⟩ ⟨hi, ha, hb⟩ ih
  dsimp only at hi ha hb ih
  refine sv_iload C d_Fo_evaluateRing_8 rfl ?_
  refine sv_aload_n C d_Fo_evaluateRing_10 rfl rfl ?_
  refine sv_get (ci := 0) (kf := 1) C i_Fo rfl (by decide) f_Fo_12 (fun _ h9 => h9) d_Fo_evaluateRing_11 (by first | assumption | rfl) rfl ?_
  refine sv_get (ci := 2) (kf := 5) C i_Se rfl (by decide) f_Fo_141 (fun _ h9 => h9) d_Fo_evaluateRing_14 (by first | assumption | rfl) rfl ?_
  refine sv_eqs (st' := [.int (nI cnt), .int (nI i)]) (by show [Value.int (V 2), _] = _; rw [hV]) ?_
  refine sv_icmp_ge (tgt := 78) C d_Fo_evaluateRing_17 (by decide) (fun h1 => ?_) (fun h1 => ?_)
  · have h1 : cnt ≤ i := (nI_leI (a := cnt) (b := i) (by omega) (by omega)).mp h1
    have h2 : i = cnt := by omega
    subst h2
    refine sv_join (σ := Bool) (pc1 := 111) (st1 := []) (k1 := 0) (n1 := 0) (J := fun g => g = true ↔ (1 < i ∨ ss_b (L 1) root root = true)) (lv1 := fun g => [some (.ref 8), some (.int (nI f)), some (.int (nI root)), some (.int (b2i a)), some (.int (b2i b)), some (.int (b2i g)), none]) (ws1 := fun _ => hC cI cJ cZ L I V tl) ?_ (fun hj => ?_)
    · intro g hg
      cases a with
      | true =>
        have hC : rg_C L f y root i fd := Or.inl (ha.mp rfl)
        refine sv_iload_n C d_Fo_evaluateRing_111 rfl rfl ?_
        refine sv_if_ne (tgt := 125) C d_Fo_evaluateRing_112 (by decide) (fun h2 => ?_) (fun h2 => ?_)
        · refine sv_aload_n C d_Fo_evaluateRing_125 rfl rfl ?_
          refine sv_iload_n C d_Fo_evaluateRing_126 rfl rfl ?_
          refine sv_callV (ci := 0) C (c_Fo_putFound (cI := cI) (cJ := cJ) (cZ := cZ) (L := L) (I := I) (V := V) (tl := tl) (f := f) (cnt := i) (fd := fd) hf hV hc hfd) s_Fo_138 ki_Fo_putFound ks_Fo_putFound ⟨rfl, rfl, Nat.le_of_ble_eq_true rfl, Nat.le_of_ble_eq_true rfl⟩ rfl d_Fo_evaluateRing_127 (by first | assumption | rfl) (Nat.le_of_ble_eq_true rfl) ⟨(Nat.le_of_ble_eq_true rfl), (Nat.le_of_ble_eq_true rfl)⟩ (fun E ws9 h9 => absurd h9 id) (fun v9 ws9 hp => ?_)
          obtain ⟨rfl, fT, rfl, hT⟩ := hp
          exact sv_vret C rfl d_Fo_evaluateRing_130 (Nat.le_of_ble_eq_true rfl) (Nat.le_of_ble_eq_true rfl) (fun _ _ => rfl) (⟨rfl, fT, rfl, fun c z hz => (hT c z hz).trans ⟨fun h => h.elim Or.inl (fun h => Or.inr ⟨h.1, h.2, hC⟩), fun h => h.elim Or.inl (fun h => Or.inr ⟨h.1, h.2.1⟩)⟩⟩)
        · exact absurd h2 (by decide)
      | false =>
        have hna : ¬ ∃ j, j < i ∧ ∃ t, t < 256 ∧ ss_b (L 1) (fd j) t = true ∧ ss_b (L 4) f t = true := fun h => absurd (ha.mpr h) (by decide)
        refine sv_iload_n C d_Fo_evaluateRing_111 rfl rfl ?_
        refine sv_if_ne (tgt := 125) C d_Fo_evaluateRing_112 (by decide) (fun h2 => ?_) (fun h2 => ?_)
        · exact absurd rfl h2
        · cases b with
          | false =>
            have hnC : ¬ rg_C L f y root i fd := fun h => h.elim hna (fun h => absurd (hb.mpr h.1) (by decide))
            refine sv_iload C d_Fo_evaluateRing_115 rfl ?_
            refine sv_if_eq (tgt := 130) C d_Fo_evaluateRing_117 (by decide) (fun h3 => ?_) (fun h3 => ?_)
            · refine sv_eqw (ws' := hC cI cJ cZ (hu L 4 (L 4)) I V tl) (by rw [hu_same]) ?_
              exact sv_vret C rfl d_Fo_evaluateRing_130 (Nat.le_of_ble_eq_true rfl) (Nat.le_of_ble_eq_true rfl) (fun _ _ => rfl) (⟨rfl, L 4, rfl, fun c z hz => ⟨Or.inl, fun h => h.elim id (fun h => absurd h.2.2 hnC)⟩⟩)
            · exact absurd rfl h3
          | true =>
            refine sv_iload C d_Fo_evaluateRing_115 rfl ?_
            refine sv_if_eq (tgt := 130) C d_Fo_evaluateRing_117 (by decide) (fun h3 => ?_) (fun h3 => ?_)
            · exact absurd h3 (by decide)
            · cases g with
              | false =>
                have hnC : ¬ rg_C L f y root i fd := fun h => h.elim hna (fun h => absurd (hg.mpr h.2) (by decide))
                refine sv_iload C d_Fo_evaluateRing_120 rfl ?_
                refine sv_if_eq (tgt := 130) C d_Fo_evaluateRing_122 (by decide) (fun h4 => ?_) (fun h4 => ?_)
                · refine sv_eqw (ws' := hC cI cJ cZ (hu L 4 (L 4)) I V tl) (by rw [hu_same]) ?_
                  exact sv_vret C rfl d_Fo_evaluateRing_130 (Nat.le_of_ble_eq_true rfl) (Nat.le_of_ble_eq_true rfl) (fun _ _ => rfl) (⟨rfl, L 4, rfl, fun c z hz => ⟨Or.inl, fun h => h.elim id (fun h => absurd h.2.2 hnC)⟩⟩)
                · exact absurd rfl h4
              | true =>
                have hC : rg_C L f y root i fd := Or.inr ⟨hb.mp rfl, hg.mp rfl⟩
                refine sv_iload C d_Fo_evaluateRing_120 rfl ?_
                refine sv_if_eq (tgt := 130) C d_Fo_evaluateRing_122 (by decide) (fun h4 => ?_) (fun h4 => ?_)
                · exact absurd h4 (by decide)
                · refine sv_aload_n C d_Fo_evaluateRing_125 rfl rfl ?_
                  refine sv_iload_n C d_Fo_evaluateRing_126 rfl rfl ?_
                  refine sv_callV (ci := 0) C (c_Fo_putFound (cI := cI) (cJ := cJ) (cZ := cZ) (L := L) (I := I) (V := V) (tl := tl) (f := f) (cnt := i) (fd := fd) hf hV hc hfd) s_Fo_138 ki_Fo_putFound ks_Fo_putFound ⟨rfl, rfl, Nat.le_of_ble_eq_true rfl, Nat.le_of_ble_eq_true rfl⟩ rfl d_Fo_evaluateRing_127 (by first | assumption | rfl) (Nat.le_of_ble_eq_true rfl) ⟨(Nat.le_of_ble_eq_true rfl), (Nat.le_of_ble_eq_true rfl)⟩ (fun E ws9 h9 => absurd h9 id) (fun v9 ws9 hp => ?_)
                  obtain ⟨rfl, fT, rfl, hT⟩ := hp
                  exact sv_vret C rfl d_Fo_evaluateRing_130 (Nat.le_of_ble_eq_true rfl) (Nat.le_of_ble_eq_true rfl) (fun _ _ => rfl) (⟨rfl, fT, rfl, fun c z hz => (hT c z hz).trans ⟨fun h => h.elim Or.inl (fun h => Or.inr ⟨h.1, h.2, hC⟩), fun h => h.elim Or.inl (fun h => Or.inr ⟨h.1, h.2.1⟩)⟩⟩)
    · refine sv_aload_n C d_Fo_evaluateRing_78 rfl rfl ?_
      refine sv_get (ci := 0) (kf := 1) C i_Fo rfl (by decide) f_Fo_12 (fun _ h9 => h9) d_Fo_evaluateRing_79 (by first | assumption | rfl) rfl ?_
      refine sv_get (ci := 2) (kf := 5) C i_Se rfl (by decide) f_Fo_141 (fun _ h9 => h9) d_Fo_evaluateRing_82 (by first | assumption | rfl) rfl ?_
      refine sv_iconst (v := 1) C d_Fo_evaluateRing_85 rfl ?_
      refine sv_eqs (st' := [.int 1, .int (nI i)]) (by show [_, Value.int (V 2)] = _; rw [hV]) ?_
      refine sv_icmp_gt (tgt := 104) C d_Fo_evaluateRing_86 (by decide) (fun h2 => ?_) (fun h2 => ?_)
      · have h2 : 1 < i := (nI_ltI (a := 1) (b := i) (by omega) (by omega)).mp h2
        refine sv_iconst (v := 1) C d_Fo_evaluateRing_104 rfl ?_
        refine sv_goto (tgt := 109) C d_Fo_evaluateRing_105 (by decide) ?_
        refine sv_istore C d_Fo_evaluateRing_109 (by decide) rfl ?_
        exact hj true ⟨fun _ => Or.inl h2, fun _ => rfl⟩
      · have h2 : ¬ 1 < i := fun h => h2 ((nI_ltI (a := 1) (b := i) (by omega) (by omega)).mpr h)
        refine sv_aload_n C d_Fo_evaluateRing_89 rfl rfl ?_
        refine sv_get (ci := 0) (kf := 0) C i_Fo rfl (by decide) f_Fo_44 (fun _ h9 => h9) d_Fo_evaluateRing_90 (by first | assumption | rfl) rfl ?_
        refine sv_get (ci := 1) (kf := 1) C i_Ma rfl (by decide) f_Fo_104 (fun _ h9 => h9) d_Fo_evaluateRing_93 (by first | assumption | rfl) rfl ?_
        refine sv_iload_n C d_Fo_evaluateRing_96 rfl rfl ?_
        refine sv_iload_n C d_Fo_evaluateRing_97 rfl rfl ?_
        refine sv_callV (ci := 3) C (c_St_has (cI := cI) (cZ := cZ) (ws := hC cI cJ cZ L I V tl) (b := 4) (w := 5) (N := 1024) (a := root) (x := root) (f := L 1) rfl rfl (by omega) (by decide) (by omega)) s_Fo_118 ki_St_has ks_St_has ⟨rfl, rfl, Nat.le_of_ble_eq_true rfl, Nat.le_of_ble_eq_true rfl⟩ rfl d_Fo_evaluateRing_98 (by first | assumption | rfl) (Nat.le_of_ble_eq_true rfl) ⟨(Nat.le_of_ble_eq_true rfl), (Nat.le_of_ble_eq_true rfl)⟩ (fun E ws9 h9 => absurd h9 id) (fun v9 ws9 hp => ?_)
        obtain ⟨rfl, rfl⟩ := hp
        cases hs : ss_b (L 1) root root with
        | true =>
          refine sv_if_eq (tgt := 108) C d_Fo_evaluateRing_101 (by decide) (fun h3 => ?_) (fun h3 => ?_)
          · exact absurd h3 (by decide)
          · refine sv_iconst (v := 1) C d_Fo_evaluateRing_104 rfl ?_
            refine sv_goto (tgt := 109) C d_Fo_evaluateRing_105 (by decide) ?_
            refine sv_istore C d_Fo_evaluateRing_109 (by decide) rfl ?_
            exact hj true ⟨fun _ => Or.inr hs, fun _ => rfl⟩
        | false =>
          refine sv_if_eq (tgt := 108) C d_Fo_evaluateRing_101 (by decide) (fun h3 => ?_) (fun h3 => ?_)
          · refine sv_iconst (v := 0) C d_Fo_evaluateRing_108 rfl ?_
            refine sv_istore C d_Fo_evaluateRing_109 (by decide) rfl ?_
            exact hj false ⟨fun h => absurd h (by decide), fun h => h.elim (fun q => absurd q h2) (fun q => by rw [hs] at q; exact q)⟩
          · exact absurd rfl h3
  · have h1 : ¬ cnt ≤ i := fun h => h1 ((nI_leI (a := cnt) (b := i) (by omega) (by omega)).mpr h)
    have hiin : vp_in (nI i) 256 := vp_in_nI (by omega) (by omega)
    have hfi := hfd i (by omega)
    refine sv_aload_n C d_Fo_evaluateRing_20 rfl rfl ?_
    refine sv_get (ci := 0) (kf := 1) C i_Fo rfl (by decide) f_Fo_12 (fun _ h9 => h9) d_Fo_evaluateRing_21 (by first | assumption | rfl) rfl ?_
    refine sv_get (ci := 2) (kf := 1) C i_Se rfl (by decide) f_Fo_144 (fun _ h9 => h9) d_Fo_evaluateRing_24 (by first | assumption | rfl) rfl ?_
    refine sv_iload C d_Fo_evaluateRing_27 rfl ?_
    refine sv_iald (t0 := 0) C rfl d_Fo_evaluateRing_29 (by first | assumption | rfl) (by assumption) ?_
    refine sv_eqs (st' := [.int (nI (fd i))]) (by show [Value.int (I 0 (nI i).toNatClampNeg)] = _; rw [nI_clamp (by omega), hfi.2]) ?_
    refine sv_istore C d_Fo_evaluateRing_30 (by decide) rfl ?_
    refine sv_iload_n C d_Fo_evaluateRing_32 rfl rfl ?_
    refine sv_aload_n C d_Fo_evaluateRing_33 rfl rfl ?_
    refine sv_get (ci := 0) (kf := 0) C i_Fo rfl (by decide) f_Fo_44 (fun _ h9 => h9) d_Fo_evaluateRing_34 (by first | assumption | rfl) rfl ?_
    refine sv_get (ci := 1) (kf := 1) C i_Ma rfl (by decide) f_Fo_104 (fun _ h9 => h9) d_Fo_evaluateRing_37 (by first | assumption | rfl) rfl ?_
    refine sv_iload C d_Fo_evaluateRing_40 rfl ?_
    refine sv_aload_n C d_Fo_evaluateRing_42 rfl rfl ?_
    refine sv_get (ci := 0) (kf := 2) C i_Fo rfl (by decide) f_Fo_23 (fun _ h9 => h9) d_Fo_evaluateRing_43 (by first | assumption | rfl) rfl ?_
    refine sv_iload_n C d_Fo_evaluateRing_46 rfl rfl ?_
    refine sv_callV (ci := 3) C (c_St_meets (cI := cI) (cZ := cZ) (ws := hC cI cJ cZ L I V tl) (b := 4) (w := 5) (N := 1024) (a := fd i) (f := L 1) (b' := 16) (w' := 17) (N' := 240) (a' := f) (g := L 4) rfl rfl (by omega) (by decide) rfl rfl (by omega) (by decide)) s_Fo_107 ki_St_meets ks_St_meets ⟨rfl, rfl, Nat.le_of_ble_eq_true rfl, Nat.le_of_ble_eq_true rfl⟩ rfl d_Fo_evaluateRing_47 (by first | assumption | rfl) (Nat.le_of_ble_eq_true rfl) ⟨(Nat.le_of_ble_eq_true rfl), (Nat.le_of_ble_eq_true rfl)⟩ (fun E ws9 h9 => absurd h9 id) (fun v9 ws9 hp => ?_)
    obtain ⟨t, rfl, ht, rfl⟩ := hp
    refine sv_ior C d_Fo_evaluateRing_50 ?_
    refine sv_eqs (st' := [.int (b2i (a || t))]) (by rw [← b2i_or]; rfl) ?_
    refine sv_istore_n C d_Fo_evaluateRing_51 rfl (by decide) rfl ?_
    refine sv_iload C d_Fo_evaluateRing_52 rfl ?_
    refine sv_aload_n C d_Fo_evaluateRing_54 rfl rfl ?_
    refine sv_get (ci := 0) (kf := 2) C i_Fo rfl (by decide) f_Fo_23 (fun _ h9 => h9) d_Fo_evaluateRing_55 (by first | assumption | rfl) rfl ?_
    refine sv_aload_n C d_Fo_evaluateRing_58 rfl rfl ?_
    refine sv_get (ci := 0) (kf := 5) C i_Fo rfl (by decide) f_Fo_34 (fun _ h9 => h9) d_Fo_evaluateRing_59 (by first | assumption | rfl) rfl ?_
    refine sv_iload_n C d_Fo_evaluateRing_62 rfl rfl ?_
    refine sv_iald (t0 := 0) C rfl d_Fo_evaluateRing_63 (by first | assumption | rfl) (by assumption) ?_
    refine sv_iload C d_Fo_evaluateRing_64 rfl ?_
    refine sv_eqs (st' := [.int (nI (fd i)), .int (nI y), .ref 16, .int (b2i b)]) (by show [_, Value.int (I 6 (nI f).toNatClampNeg), _, _] = _; rw [hfc, hy]) ?_
    refine sv_callV (ci := 3) C (c_St_has (cI := cI) (cZ := cZ) (ws := hC cI cJ cZ L I V tl) (b := 16) (w := 17) (N := 240) (a := y) (x := fd i) (f := L 4) rfl rfl (by omega) (by decide) (by omega)) s_Fo_118 ki_St_has ks_St_has ⟨rfl, rfl, Nat.le_of_ble_eq_true rfl, Nat.le_of_ble_eq_true rfl⟩ rfl d_Fo_evaluateRing_66 (by first | assumption | rfl) (Nat.le_of_ble_eq_true rfl) ⟨(Nat.le_of_ble_eq_true rfl), (Nat.le_of_ble_eq_true rfl)⟩ (fun E ws9 h9 => absurd h9 id) (fun v9 ws9 hp => ?_)
    obtain ⟨rfl, rfl⟩ := hp
    refine sv_ior C d_Fo_evaluateRing_69 ?_
    refine sv_eqs (st' := [.int (b2i (b || ss_b (L 4) y (fd i)))]) (by rw [← b2i_or]; rfl) ?_
    refine sv_istore C d_Fo_evaluateRing_70 (by decide) rfl ?_
    refine sv_iincN C d_Fo_evaluateRing_72 rfl (by decide) rfl ?_
    refine sv_goto (tgt := 8) C d_Fo_evaluateRing_75 (by decide) ?_
    refine sv_drop [true, true, true, true, true, true, false] ?_
    refine ih (i + 1, a || t, b || ss_b (L 4) y (fd i)) ⟨by dsimp only; omega, ?_, ?_⟩ (by dsimp only; omega)
    · dsimp only
      rw [Bool.or_eq_true, ha, ht]
      constructor
      · rintro (⟨j, hj, h⟩ | h)
        · exact ⟨j, by omega, h⟩
        · exact ⟨i, by omega, h⟩
      · rintro ⟨j, hj, h⟩
        by_cases e : j = i
        · rw [e] at h
          exact Or.inr h
        · exact Or.inl ⟨j, by omega, h⟩
    · dsimp only
      rw [Bool.or_eq_true, hb]
      constructor
      · rintro (⟨j, hj, h⟩ | h)
        · exact ⟨j, by omega, h⟩
        · exact ⟨i, by omega, h⟩
      · rintro ⟨j, hj, h⟩
        by_cases e : j = i
        · rw [e] at h
          exact Or.inr h
        · exact Or.inl ⟨j, by omega, h⟩
end
section
/-! StateLogic$Formulas: evaluateAgain -/
def fw_E (g fX : Nat → Int64) (a b : Nat) : Prop := le_X fX a ∧ le_X fX b ∧ ss_b g a b = true
theorem fw_rev {g p fX : Nat → Int64} (h : ∀ a b, a < 256 → b < 256 → ss_b p b a = ss_b g a b) : le_E p fX = fun a b => fw_E g fX b a := by
  funext a b
  refine propext ⟨fun q => ⟨q.2.1, q.1, by rw [← h b a q.2.1.1 q.1.1]; exact q.2.2⟩, fun q => ⟨q.2.1, q.1, by rw [h b a q.1.1 q.2.1.1]; exact q.2.2⟩⟩
theorem sp_qm (n : Nat) : nI n - 1 = sp_q n := by
  cases n with
  | zero => decide
  | succ n => exact nI_pred n
theorem sp_qlt {i : Nat} (hi : i ≤ 256) : sp_q i < 0 ↔ i = 0 := by
  cases i with
  | zero => exact ⟨fun _ => rfl, fun _ => by decide⟩
  | succ i => exact ⟨fun h => absurd h (nI_pos (n := i) (by omega)), fun h => absurd h (by omega)⟩
/-- found through open states but r, or through open states: the same -/
theorem fw_found {g fX fO fO' : Nat → Int64} {r : Nat} (hr : le_X fO r) (hOX : ∀ z, le_X fO z → le_X fX z) (h' : ∀ z, le_X fO' z ↔ (le_X fO z ∧ z ≠ r)) (w : Nat) :
    g_re (sp_E g fO') r w ↔ g_re (fun a b => le_X fO b ∧ fw_E g fX a b) r w := by
  constructor
  · intro h
    have h1 : le_X fO w ∧ g_re (fun a b => le_X fO b ∧ fw_E g fX a b) r w := g_re_fwd (P := fun z => le_X fO z ∧ g_re (fun a b => le_X fO b ∧ fw_E g fX a b) r z) h ⟨hr, g_re_rf _ r⟩ (fun x y hx hxy => by
      have hy := ((h' y).mp ⟨hxy.1, hxy.2.2⟩).1
      exact ⟨hy, g_re_tl (E := fun a b => le_X fO b ∧ fw_E g fX a b) hx.2 ⟨hy, hOX x hx.1, hOX y hy, hxy.2.1⟩⟩)
    exact h1.2
  · intro h
    exact g_re_fwd (P := fun z => g_re (sp_E g fO') r z) h (g_re_rf _ r) (fun x y hx hxy => by
      by_cases e : y = r
      · rw [e]
        exact g_re_rf _ r
      · have hy := (h' y).mpr ⟨hxy.1, e⟩
        exact g_re_tl (E := sp_E g fO') hx ⟨hxy.1.1, hxy.2.2.2, hy.2⟩)
set_option maxRecDepth 100000 in
set_option maxHeartbeats 8000000 in
theorem c_Fo_evaluateAgain {l : Launch} {D : va_G} {cI cJ cZ : ClassId} {L : Nat → Nat → Int64} {I : Nat → Nat → Int32} {V : Nat → Int32} {tl : List va_E} {n f x y : Nat} (hn : n ≤ 8) (hV0 : V 0 = nI (2 ^ n)) (hf : f < 60) (hx : I 5 f = nI x) (hy : I 6 f = nI y) (hxf : x < f) (hyf : y < f)
    (hSP : ∀ a b, a < 256 → b < 256 → ss_b (L 2) b a = ss_b (L 1) a b) (hXN : ∀ z, ev_T (L 4) x z → z < 2 ^ n) (hf0 : ∀ z, z < 256 → ss_b (L 4) f z = false) :
    sv_M l y_Fo_evaluateAgain [Cond.code y_Fo_evaluateAgain b_Fo_evaluateAgain 5 none] ({ frames := 3, cells := 0, slots := 0, locals := 105 } : Room) D sv_cl (sv_ty cI cJ cZ) [.ref 8, .int (nI f)] (hC cI cJ cZ L I V tl) 0 0 (fun r ws' => r = none ∧ ∃ (fO fT : Nat → Int64) (I0 I1 I2 I3 : Nat → Int32) (v2 : Int32), ws' = hC cI cJ cZ (hu (hu L 3 fO) 4 fT) (hu (hu (hu (hu I 0 I0) 1 I1) 2 I2) 3 I3) (hu (hu V 2 v2) 4 (-1)) tl ∧ (∀ c z, z < 256 → (ss_b fT c z = true ↔ (ss_b (L 4) c z = true ∨ (c = f ∧ ev_T (L 4) x z ∧ g_ag (fun a b => ev_T (L 4) x a ∧ ev_T (L 4) x b ∧ ss_b (L 1) a b = true) (ev_T (L 4) y) z))))) sv_no 0 0 := by
  refine sv_of (cc := b_Fo_evaluateAgain) (by decide +kernel) (Nat.le_of_ble_eq_true rfl) ?_
  intro pX eX sX mX aX bX tX cX AX adX C htab hnm
  have hp8 := pow_le8 hn
  have hfin : vp_in (nI f) 60 := vp_in_nI hf (by omega)
  have hfc : (nI f).toNatClampNeg = f := nI_clamp (by omega)
  refine sv_aload_n C d_Fo_evaluateAgain_0 rfl rfl ?_
  refine sv_iconst (v := (-1)) C d_Fo_evaluateAgain_1 rfl ?_
  refine sv_put (ci := 0) (kf := 9) (ty := .int) C i_Fo t_Fo t_Fo_ok n_Fo rfl (by decide) f_Fo_48 (fun _ h9 => h9) rfl (by decide +kernel) d_Fo_evaluateAgain_2 (by first | assumption | rfl) rfl rfl (Nat.le_of_ble_eq_true rfl) ?_
  refine sv_aload_n C d_Fo_evaluateAgain_5 rfl rfl ?_
  refine sv_get (ci := 0) (kf := 1) C i_Fo rfl (by decide) f_Fo_12 (fun _ h9 => h9) d_Fo_evaluateAgain_6 (by first | assumption | rfl) rfl ?_
  refine sv_aload_n C d_Fo_evaluateAgain_9 rfl rfl ?_
  refine sv_get (ci := 0) (kf := 2) C i_Fo rfl (by decide) f_Fo_23 (fun _ h9 => h9) d_Fo_evaluateAgain_10 (by first | assumption | rfl) rfl ?_
  refine sv_aload_n C d_Fo_evaluateAgain_13 rfl rfl ?_
  refine sv_get (ci := 0) (kf := 4) C i_Fo rfl (by decide) f_Fo_31 (fun _ h9 => h9) d_Fo_evaluateAgain_14 (by first | assumption | rfl) rfl ?_
  refine sv_iload_n C d_Fo_evaluateAgain_17 rfl rfl ?_
  refine sv_iald (t0 := 0) C rfl d_Fo_evaluateAgain_18 (by first | assumption | rfl) (by assumption) ?_
  refine sv_eqs (st' := [.int (nI x), .ref 16, .ref 9]) (by show [Value.int (I 5 (nI f).toNatClampNeg), _, _] = _; rw [hfc, hx]) ?_
  refine sv_eqw (ws' := hC cI cJ cZ L I (hu V 4 (-1)) tl) rfl ?_
  refine sv_callV (ci := 2) C (c_Se_openAll (cI := cI) (cJ := cJ) (cZ := cZ) (L := L) (I := I) (V := hu V 4 (-1)) (tl := tl) (a := x) (by omega)) s_Fo_111 ki_Se_openAll ks_Se_openAll ⟨rfl, rfl, Nat.le_of_ble_eq_true rfl, Nat.le_of_ble_eq_true rfl⟩ rfl d_Fo_evaluateAgain_19 (by first | assumption | rfl) (Nat.le_of_ble_eq_true rfl) ⟨(Nat.le_of_ble_eq_true rfl), (Nat.le_of_ble_eq_true rfl)⟩ (fun E ws9 h9 => absurd h9 id) (fun v9 ws9 hp => ?_)
  obtain ⟨rfl, fX, rfl, hfX⟩ := hp
  refine sv_aload_n C d_Fo_evaluateAgain_22 rfl rfl ?_
  refine sv_get (ci := 0) (kf := 1) C i_Fo rfl (by decide) f_Fo_12 (fun _ h9 => h9) d_Fo_evaluateAgain_23 (by first | assumption | rfl) rfl ?_
  refine sv_aload_n C d_Fo_evaluateAgain_26 rfl rfl ?_
  refine sv_get (ci := 0) (kf := 0) C i_Fo rfl (by decide) f_Fo_44 (fun _ h9 => h9) d_Fo_evaluateAgain_27 (by first | assumption | rfl) rfl ?_
  refine sv_get (ci := 1) (kf := 2) C i_Ma rfl (by decide) f_Fo_131 (fun _ h9 => h9) d_Fo_evaluateAgain_30 (by first | assumption | rfl) rfl ?_
  refine sv_aload_n C d_Fo_evaluateAgain_33 rfl rfl ?_
  refine sv_get (ci := 0) (kf := 0) C i_Fo rfl (by decide) f_Fo_44 (fun _ h9 => h9) d_Fo_evaluateAgain_34 (by first | assumption | rfl) rfl ?_
  refine sv_get (ci := 1) (kf := 3) C i_Ma rfl (by decide) f_Fo_88 (fun _ h9 => h9) d_Fo_evaluateAgain_37 (by first | assumption | rfl) rfl ?_
  refine sv_eqs (st' := [.int (nI (2 ^ n)), .ref 6, .ref 9]) (by show [Value.int (V 0), _, _] = _; rw [hV0]) ?_
  refine sv_callV (ci := 2) C (c_Se_listEnded (cI := cI) (cJ := cJ) (cZ := cZ) (L := hu L 3 fX) (I := I) (V := hu (hu V 4 (-1)) 2 0) (tl := tl) (N := 2 ^ n) hp8 (fun z hz h => hXN z ⟨hz, by rw [← hfX z hz]; exact h⟩)) s_Fo_147 ki_Se_listEnded ks_Se_listEnded ⟨rfl, rfl, Nat.le_of_ble_eq_true rfl, Nat.le_of_ble_eq_true rfl⟩ rfl d_Fo_evaluateAgain_40 (by first | assumption | rfl) (Nat.le_of_ble_eq_true rfl) ⟨(Nat.le_of_ble_eq_true rfl), (Nat.le_of_ble_eq_true rfl)⟩ (fun E ws9 h9 => absurd h9 id) (fun v9 ws9 hp => ?_)
  obtain ⟨nl, fO1, I2, I3, en, rfl, rfl, hnl, hen, hXL, hnd, hord⟩ := hp
  have hXL : ∀ z, le_X fX z ↔ z ∈ g_lst en nl := hXL
  have hord : ∀ z, le_X fX z → ∀ w, g_re (le_E (L 2) fX) z w → ∃ z', g_eq (le_E (L 2) fX) z z' ∧ g_bef (g_lst en nl) z' w := hord
  rw [fw_rev hSP] at hord
  refine sv_eqw (ws' := hC cI cJ cZ (hu L 3 fO1) (hu (hu I 2 I2) 3 I3) (hu (hu V 4 (-1)) 2 0) tl) (by rw [hu_hu]) ?_
  refine sv_istore_n C d_Fo_evaluateAgain_43 rfl (by decide) rfl ?_
  refine sv_aload_n C d_Fo_evaluateAgain_44 rfl rfl ?_
  refine sv_get (ci := 0) (kf := 1) C i_Fo rfl (by decide) f_Fo_12 (fun _ h9 => h9) d_Fo_evaluateAgain_45 (by first | assumption | rfl) rfl ?_
  refine sv_aload_n C d_Fo_evaluateAgain_48 rfl rfl ?_
  refine sv_get (ci := 0) (kf := 2) C i_Fo rfl (by decide) f_Fo_23 (fun _ h9 => h9) d_Fo_evaluateAgain_49 (by first | assumption | rfl) rfl ?_
  refine sv_aload_n C d_Fo_evaluateAgain_52 rfl rfl ?_
  refine sv_get (ci := 0) (kf := 4) C i_Fo rfl (by decide) f_Fo_31 (fun _ h9 => h9) d_Fo_evaluateAgain_53 (by first | assumption | rfl) rfl ?_
  refine sv_iload_n C d_Fo_evaluateAgain_56 rfl rfl ?_
  refine sv_iald (t0 := 0) C rfl d_Fo_evaluateAgain_57 (by first | assumption | rfl) (by assumption) ?_
  refine sv_eqs (st' := [.int (nI x), .ref 16, .ref 9]) (by show [Value.int (I 5 (nI f).toNatClampNeg), _, _] = _; rw [hfc, hx]) ?_
  refine sv_callV (ci := 2) C (c_Se_openAll (cI := cI) (cJ := cJ) (cZ := cZ) (L := hu L 3 fO1) (I := hu (hu I 2 I2) 3 I3) (V := hu (hu V 4 (-1)) 2 0) (tl := tl) (a := x) (by omega)) s_Fo_111 ki_Se_openAll ks_Se_openAll ⟨rfl, rfl, Nat.le_of_ble_eq_true rfl, Nat.le_of_ble_eq_true rfl⟩ rfl d_Fo_evaluateAgain_58 (by first | assumption | rfl) (Nat.le_of_ble_eq_true rfl) ⟨(Nat.le_of_ble_eq_true rfl), (Nat.le_of_ble_eq_true rfl)⟩ (fun E ws9 h9 => absurd h9 id) (fun v9 ws9 hp => ?_)
  obtain ⟨rfl, fX2, rfl, hfX2⟩ := hp
  have hfX2 : ∀ z, z < 256 → ss_b fX2 0 z = ss_b (L 4) x z := hfX2
  have hXe : ∀ z, le_X fX z ↔ ev_T (L 4) x z := fun z => ⟨fun h => ⟨h.1, by rw [← hfX z h.1]; exact h.2⟩, fun h => ⟨h.1, by rw [hfX z h.1]; exact h.2⟩⟩
  have hX2 : ∀ z, le_X fX2 z ↔ le_X fX z := fun z => ⟨fun h => ⟨h.1, by rw [hfX z h.1, ← hfX2 z h.1]; exact h.2⟩, fun h => ⟨h.1, by rw [hfX2 z h.1, ← hfX z h.1]; exact h.2⟩⟩
  have hEe : fw_E (L 1) fX = fun a b => ev_T (L 4) x a ∧ ev_T (L 4) x b ∧ ss_b (L 1) a b = true := by
    funext a b
    exact propext ⟨fun h => ⟨(hXe a).mp h.1, (hXe b).mp h.2.1, h.2.2⟩, fun h => ⟨(hXe a).mpr h.1, (hXe b).mpr h.2.1, h.2.2⟩⟩
  have hEX : ∀ a b, fw_E (L 1) fX a b → le_X fX a ∧ le_X fX b := fun _ _ h => ⟨h.1, h.2.1⟩
  refine sv_iload_n C d_Fo_evaluateAgain_61 rfl rfl ?_
  refine sv_iconst (v := 1) C d_Fo_evaluateAgain_62 rfl ?_
  refine sv_isub C d_Fo_evaluateAgain_63 ?_
  refine sv_eqs (st' := [.int (sp_q nl)]) (by rw [← sp_qm]; rfl) ?_
  refine sv_istore_n C d_Fo_evaluateAgain_64 rfl (by decide) rfl ?_
  refine sv_eqw (ws' := hC cI cJ cZ (hu (hu L 3 fX2) 4 (L 4)) (hu (hu (hu (hu I 0 (I 0)) 1 (I 1)) 2 I2) 3 I3) (hu (hu V 2 0) 4 (-1)) tl) (by rw [hu_hu, hu_hu, hu_same, hu_same, hu_sw V _ _ (show (4 : Nat) ≠ 2 by decide), hu_sw L _ _ (show (3 : Nat) ≠ 4 by decide), hu_same]) ?_
  refine sv_ind (σ := Nat × List Nat × (Nat → Int64) × (Nat → Int64) × (Nat → Int32) × (Nat → Int32) × Int32) (I := fun s => s.1 ≤ nl ∧ g_lst en nl = s.2.1 ++ g_lst en s.1 ∧ (∀ z, le_X s.2.2.1 z ↔ (le_X fX z ∧ ∀ d, d ∈ s.2.1 → ¬ g_eq (fw_E (L 1) fX) d z)) ∧ ∀ c z, z < 256 → (ss_b s.2.2.2.1 c z = true ↔ ((c ≠ f ∧ ss_b (L 4) c z = true) ∨ (c = f ∧ le_X fX z ∧ ¬ le_X s.2.2.1 z ∧ g_ag (fw_E (L 1) fX) (ev_T (L 4) y) z)))) (μ := fun s => s.1)
    (lv := fun s => [some (.ref 8), some (.int (nI f)), some (.int (nI nl)), some (.int (sp_q s.1)), none]) (ws := fun s => hC cI cJ cZ (hu (hu L 3 s.2.2.1) 4 s.2.2.2.1) (hu (hu (hu (hu I 0 s.2.2.2.2.1) 1 s.2.2.2.2.2.1) 2 I2) 3 I3) (hu (hu V 2 s.2.2.2.2.2.2) 4 (-1)) tl) ?_ (nl, [], fX2, L 4, I 0, I 1, 0) ⟨Nat.le_refl _, rfl, fun z => (hX2 z).trans ⟨fun h => ⟨h, fun d hd => absurd hd List.not_mem_nil⟩, fun h => h.1⟩, fun c z hz => ?_⟩
  rotate_left
  · dsimp only
    by_cases e : c = f
    · subst e
      rw [hf0 z hz]
      refine ⟨fun h => absurd h (by decide), fun h => h.elim (fun q => absurd rfl q.1) (fun q => absurd ((hX2 z).mpr q.2.1) q.2.2.1)⟩
    · exact ⟨fun h => Or.inl ⟨e, h⟩, fun h => h.elim (fun q => q.2) (fun q => absurd q.1 e)⟩
  rintro ⟨i, done, fO, fT, I0, I1, v2⟩ ⟨hi, hsplit, hO, hT⟩ ih
  dsimp only at hi hsplit hO hT ih
  refine sv_iload_n C d_Fo_evaluateAgain_65 rfl rfl ?_
  refine sv_if_lt (tgt := 154) C d_Fo_evaluateAgain_66 (by decide) (fun h1 => ?_) (fun h1 => ?_)
  · have h1 : i = 0 := (sp_qlt (by omega)).mp h1
    subst h1
    have hdone : ∀ z, le_X fX z → ¬ le_X fO z := fun z hz ho => by
      have h2 := (hXL z).mp hz
      rw [hsplit, show g_lst en 0 = [] from rfl, List.append_nil] at h2
      exact ((hO z).mp ho).2 z h2 (g_eq_rf _ z)
    refine sv_vret C rfl d_Fo_evaluateAgain_154 (Nat.le_of_ble_eq_true rfl) (Nat.le_of_ble_eq_true rfl) (fun _ _ => rfl) (⟨rfl, fO, fT, I0, I1, I2, I3, v2, rfl, fun c z hz => (hT c z hz).trans ?_⟩)
    rw [← hEe]
    constructor
    · rintro (⟨h1, h2⟩ | ⟨h1, h2, h3, h4⟩)
      · exact Or.inl h2
      · exact Or.inr ⟨h1, (hXe z).mp h2, h4⟩
    · rintro (h | ⟨h1, h2, h3⟩)
      · by_cases e : c = f
        · rw [e, hf0 z hz] at h
          exact absurd h (by decide)
        · exact Or.inl ⟨e, h⟩
      · exact Or.inr ⟨h1, (hXe z).mpr h2, hdone z ((hXe z).mpr h2), h3⟩
  · obtain ⟨j, rfl⟩ : ∃ j, i = j + 1 := by
      refine ⟨i - 1, ?_⟩
      have h2 : i ≠ 0 := fun h => h1 ((sp_qlt (by omega)).mpr h)
      omega
    have henj := hen j (by omega)
    have hjin : vp_in (nI j) 256 := vp_in_nI (by omega) (by omega)
    have hrX : le_X fX (en j) := (hXL (en j)).mpr (by rw [hsplit]; exact List.mem_append_right _ List.mem_cons_self)
    have hnd2 : (done ++ en j :: g_lst en j).Nodup := by
      have h9 := hnd
      rw [hsplit] at h9
      exact h9
    have hord2 : ∀ z, le_X fX z → ∀ w, g_re (fun a b => fw_E (L 1) fX b a) z w → ∃ z', g_eq (fun a b => fw_E (L 1) fX b a) z z' ∧ g_bef (done ++ en j :: g_lst en j) z' w := by
      have h9 := hord
      rw [hsplit] at h9
      exact h9
    refine sv_aload_n C d_Fo_evaluateAgain_69 rfl rfl ?_
    refine sv_get (ci := 0) (kf := 1) C i_Fo rfl (by decide) f_Fo_12 (fun _ h9 => h9) d_Fo_evaluateAgain_70 (by first | assumption | rfl) rfl ?_
    refine sv_get (ci := 2) (kf := 4) C i_Se rfl (by decide) f_Fo_151 (fun _ h9 => h9) d_Fo_evaluateAgain_73 (by first | assumption | rfl) rfl ?_
    refine sv_iload_n C d_Fo_evaluateAgain_76 rfl rfl ?_
    refine sv_iald (t0 := 0) C rfl d_Fo_evaluateAgain_77 (by first | assumption | rfl) (by assumption) ?_
    refine sv_eqs (st' := [.int (nI (en j))]) (by show [Value.int (I3 (nI j).toNatClampNeg)] = _; rw [nI_clamp (by omega), henj.2]) ?_
    refine sv_istore C d_Fo_evaluateAgain_78 (by decide) rfl ?_
    refine sv_aload_n C d_Fo_evaluateAgain_80 rfl rfl ?_
    refine sv_get (ci := 0) (kf := 1) C i_Fo rfl (by decide) f_Fo_12 (fun _ h9 => h9) d_Fo_evaluateAgain_81 (by first | assumption | rfl) rfl ?_
    refine sv_get (ci := 2) (kf := 0) C i_Se rfl (by decide) f_Fo_122 (fun _ h9 => h9) d_Fo_evaluateAgain_84 (by first | assumption | rfl) rfl ?_
    refine sv_iconst (v := 0) C d_Fo_evaluateAgain_87 rfl ?_
    refine sv_iload C d_Fo_evaluateAgain_88 rfl ?_
    refine sv_callV (ci := 3) C (c_St_has (cI := cI) (cZ := cZ) (ws := hC cI cJ cZ (hu (hu L 3 fO) 4 fT) (hu (hu (hu (hu I 0 I0) 1 I1) 2 I2) 3 I3) (hu (hu V 2 v2) 4 (-1)) tl) (b := 10) (w := 11) (N := 4) (a := 0) (x := en j) (f := fO) rfl rfl (by decide) (by decide) henj.1) s_Fo_118 ki_St_has ks_St_has ⟨rfl, rfl, Nat.le_of_ble_eq_true rfl, Nat.le_of_ble_eq_true rfl⟩ rfl d_Fo_evaluateAgain_90 (by first | assumption | rfl) (Nat.le_of_ble_eq_true rfl) ⟨(Nat.le_of_ble_eq_true rfl), (Nat.le_of_ble_eq_true rfl)⟩ (fun E ws9 h9 => absurd h9 id) (fun v9 ws9 hp => ?_)
    obtain ⟨rfl, rfl⟩ := hp
    cases hop : ss_b fO 0 (en j) with
    | false =>
      refine sv_if_eq (tgt := 148) C d_Fo_evaluateAgain_93 (by decide) (fun h2 => ?_) (fun h2 => ?_)
      · refine sv_iincD C d_Fo_evaluateAgain_148 rfl (by decide) rfl ?_
        refine sv_goto (tgt := 65) C d_Fo_evaluateAgain_151 (by decide) ?_
        refine sv_drop [true, true, true, true, false] ?_
        refine ih (j, done ++ [en j], fO, fT, I0, I1, v2) ⟨by dsimp only; omega, ?_, fun z => g_open_skip hO hrX (fun h => by have h9 := h.2; rw [hop] at h9; exact absurd h9 (by decide)) z, hT⟩ (by dsimp only; omega)
        dsimp only
        rw [hsplit, List.append_assoc]
        rfl
      · exact absurd rfl h2
    | true =>
      have hrO : le_X fO (en j) := ⟨henj.1, hop⟩
      refine sv_if_eq (tgt := 148) C d_Fo_evaluateAgain_93 (by decide) (fun h2 => ?_) (fun h2 => ?_)
      · exact absurd h2 (by decide)
      · refine sv_aload_n C d_Fo_evaluateAgain_96 rfl rfl ?_
        refine sv_get (ci := 0) (kf := 1) C i_Fo rfl (by decide) f_Fo_12 (fun _ h9 => h9) d_Fo_evaluateAgain_97 (by first | assumption | rfl) rfl ?_
        refine sv_get (ci := 2) (kf := 0) C i_Se rfl (by decide) f_Fo_122 (fun _ h9 => h9) d_Fo_evaluateAgain_100 (by first | assumption | rfl) rfl ?_
        refine sv_iconst (v := 0) C d_Fo_evaluateAgain_103 rfl ?_
        refine sv_iload C d_Fo_evaluateAgain_104 rfl ?_
        refine sv_callV (ci := 3) C (c_St_drop (cI := cI) (cZ := cZ) (ws := hC cI cJ cZ (hu (hu L 3 fO) 4 fT) (hu (hu (hu (hu I 0 I0) 1 I1) 2 I2) 3 I3) (hu (hu V 2 v2) 4 (-1)) tl) (b := 10) (w := 11) (N := 4) (a := 0) (x := en j) (f := fO) rfl rfl (by decide) (by decide) henj.1) s_Fo_125 ki_St_drop ks_St_drop ⟨rfl, rfl, Nat.le_of_ble_eq_true rfl, Nat.le_of_ble_eq_true rfl⟩ rfl d_Fo_evaluateAgain_106 (by first | assumption | rfl) (Nat.le_of_ble_eq_true rfl) ⟨(Nat.le_of_ble_eq_true rfl), (Nat.le_of_ble_eq_true rfl)⟩ (fun E ws9 h9 => absurd h9 id) (fun v9 ws9 hp => ?_)
        obtain ⟨rfl, rfl⟩ := hp
        have hb4 : ∀ z, z < 256 → ss_b (ss_drop fO 0 (en j)) 0 z = (ss_b fO 0 z && !decide (z = en j)) := fun z hz => by
          rw [ss_drop_b fO 0 (en j) 0 z hz henj.1]
          simp
        have hO' : ∀ z, le_X (ss_drop fO 0 (en j)) z ↔ (le_X fO z ∧ z ≠ en j) := fun z => by
          constructor
          · rintro ⟨h1, h2⟩
            rw [hb4 z h1] at h2
            simp only [Bool.and_eq_true, Bool.not_eq_true', decide_eq_false_iff_not] at h2
            exact ⟨⟨h1, h2.1⟩, h2.2⟩
          · rintro ⟨⟨h1, h2⟩, h3⟩
            refine ⟨h1, ?_⟩
            rw [hb4 z h1, h2]
            simp [h3]
        refine sv_aload_n C d_Fo_evaluateAgain_109 rfl rfl ?_
        refine sv_get (ci := 0) (kf := 1) C i_Fo rfl (by decide) f_Fo_12 (fun _ h9 => h9) d_Fo_evaluateAgain_110 (by first | assumption | rfl) rfl ?_
        refine sv_iconst (v := 0) C d_Fo_evaluateAgain_113 rfl ?_
        refine sv_put (ci := 2) (kf := 5) (ty := .int) C i_Se t_Se t_Se_ok n_Se rfl (by decide) f_Fo_141 (fun _ h9 => h9) rfl (by decide +kernel) d_Fo_evaluateAgain_114 (by first | assumption | rfl) rfl rfl (Nat.le_of_ble_eq_true rfl) ?_
        refine sv_aload_n C d_Fo_evaluateAgain_117 rfl rfl ?_
        refine sv_get (ci := 0) (kf := 1) C i_Fo rfl (by decide) f_Fo_12 (fun _ h9 => h9) d_Fo_evaluateAgain_118 (by first | assumption | rfl) rfl ?_
        refine sv_iload C d_Fo_evaluateAgain_121 rfl ?_
        refine sv_iconst (v := 0) C d_Fo_evaluateAgain_123 rfl ?_
        refine sv_eqw (ws' := hC cI cJ cZ (hu (hu L 3 (ss_drop fO 0 (en j))) 4 fT) (hu (hu (hu (hu I 0 I0) 1 I1) 2 I2) 3 I3) (hu (hu V 2 (nI 0)) 4 (-1)) tl) rfl ?_
        refine sv_callV (ci := 2) C (c_Se_find (cI := cI) (cJ := cJ) (cZ := cZ) (L := hu (hu L 3 (ss_drop fO 0 (en j))) 4 fT) (I := hu (hu (hu (hu I 0 I0) 1 I1) 2 I2) 3 I3) (V := hu (hu V 2 (nI 0)) 4 (-1)) (tl := tl) (n := 0) (x := en j) (d := 0) (by omega) henj.1 rfl) s_Fo_128 ki_Se_find ks_Se_find ⟨rfl, rfl, Nat.le_of_ble_eq_true rfl, Nat.le_of_ble_eq_true rfl⟩ rfl d_Fo_evaluateAgain_124 (by first | assumption | rfl) (Nat.le_of_ble_eq_true rfl) ⟨(Nat.le_of_ble_eq_true rfl), (Nat.le_of_ble_eq_true rfl)⟩ (fun E ws9 h9 => absurd h9 id) (fun v9 ws9 hp => ?_)
        obtain ⟨rfl, rfl⟩ := hp
        refine sv_aload_n C d_Fo_evaluateAgain_127 rfl rfl ?_
        refine sv_get (ci := 0) (kf := 1) C i_Fo rfl (by decide) f_Fo_12 (fun _ h9 => h9) d_Fo_evaluateAgain_128 (by first | assumption | rfl) rfl ?_
        refine sv_aload_n C d_Fo_evaluateAgain_131 rfl rfl ?_
        refine sv_get (ci := 0) (kf := 0) C i_Fo rfl (by decide) f_Fo_44 (fun _ h9 => h9) d_Fo_evaluateAgain_132 (by first | assumption | rfl) rfl ?_
        refine sv_get (ci := 1) (kf := 1) C i_Ma rfl (by decide) f_Fo_104 (fun _ h9 => h9) d_Fo_evaluateAgain_135 (by first | assumption | rfl) rfl ?_
        refine sv_eqw (ws' := hC cI cJ cZ (hu (hu L 3 (ss_drop fO 0 (en j))) 4 fT) (hu (hu (hu (hu I 0 (upd I0 0 (nI (en j)))) 1 (upd I1 (en j) 0)) 2 I2) 3 I3) (hu (hu V 2 (nI 1)) 4 (-1)) tl) rfl ?_
        refine sv_callV (ci := 2) C (c_Se_spread (cI := cI) (cJ := cJ) (cZ := cZ) (L := hu (hu L 3 (ss_drop fO 0 (en j))) 4 fT) (I := hu (hu (hu (hu I 0 (upd I0 0 (nI (en j)))) 1 (upd I1 (en j) 0)) 2 I2) 3 I3) (V := hu (hu V 2 (nI 1)) 4 (-1)) (tl := tl) (b := 4) (w := 5) (q := 1) (cnt0 := 1) (fd0 := fun _ => en j) (Or.inl ⟨rfl, rfl, rfl⟩) rfl (fun k hk => ⟨henj.1, by show upd I0 0 (nI (en j)) k = _; rw [show k = 0 by omega, pk_us], by show upd I1 (en j) 0 (en j) = nI 0; rw [pk_us]; rfl, by show ss_b (ss_drop fO 0 (en j)) 0 (en j) = false; rw [hb4 _ henj.1]; simp⟩) (fun a b ha hb _ => by omega)) s_Fo_134 ki_Se_spread ks_Se_spread ⟨rfl, rfl, Nat.le_of_ble_eq_true rfl, Nat.le_of_ble_eq_true rfl⟩ rfl d_Fo_evaluateAgain_138 (by first | assumption | rfl) (Nat.le_of_ble_eq_true rfl) ⟨(Nat.le_of_ble_eq_true rfl), (Nat.le_of_ble_eq_true rfl)⟩ (fun E ws9 h9 => absurd h9 id) (fun v9 ws9 hp => ?_)
        obtain ⟨rfl, fO', I0', I1', cnt, fd, dd, rfl, hR⟩ := hp
        refine sv_eqw (ws' := hC cI cJ cZ (hu (hu L 3 fO') 4 fT) (hu (hu (hu (hu I 0 I0') 1 I1') 2 I2) 3 I3) (hu (hu V 2 (nI cnt)) 4 (-1)) tl) rfl ?_
        obtain ⟨r1, r2, r3, r4, r5, r6, r7, r8, r9⟩ := hR
        refine sv_aload_n C d_Fo_evaluateAgain_141 rfl rfl ?_
        refine sv_iload_n C d_Fo_evaluateAgain_142 rfl rfl ?_
        refine sv_iload C d_Fo_evaluateAgain_143 rfl ?_
        refine sv_callV (ci := 0) C (c_Fo_evaluateRing (cI := cI) (cJ := cJ) (cZ := cZ) (L := hu (hu L 3 fO') 4 fT) (I := hu (hu (hu (hu I 0 I0') 1 I1') 2 I2) 3 I3) (V := hu (hu V 2 (nI cnt)) 4 (-1)) (tl := tl) (f := f) (y := y) (root := en j) (cnt := cnt) (fd := fd) hf hy (by omega) henj.1 rfl r2 r3) s_Fo_154 ki_Fo_evaluateRing ks_Fo_evaluateRing ⟨rfl, rfl, Nat.le_of_ble_eq_true rfl, Nat.le_of_ble_eq_true rfl⟩ rfl d_Fo_evaluateAgain_145 (by first | assumption | rfl) (Nat.le_of_ble_eq_true rfl) ⟨(Nat.le_of_ble_eq_true rfl), (Nat.le_of_ble_eq_true rfl)⟩ (fun E ws9 h9 => absurd h9 id) (fun v9 ws9 hp => ?_)
        obtain ⟨rfl, fT', rfl, hT'⟩ := hp
        refine sv_iincD C d_Fo_evaluateAgain_148 rfl (by decide) rfl ?_
        refine sv_goto (tgt := 65) C d_Fo_evaluateAgain_151 (by decide) ?_
        refine sv_eqw (ws' := hC cI cJ cZ (hu (hu L 3 fO') 4 fT') (hu (hu (hu (hu I 0 I0') 1 I1') 2 I2) 3 I3) (hu (hu V 2 (nI cnt)) 4 (-1)) tl) (by rw [hu_hu]) ?_
        have hFF : ∀ w, bf_F fd cnt w ↔ g_eq (fw_E (L 1) fX) (en j) w := by
          refine g_found (rest := g_lst en j) hEX hord2 hnd2 hO hrO (fun w => ?_)
          rw [← fw_found (g := L 1) (fX := fX) hrO (fun z hz => ((hO z).mp hz).1) hO' w]
          constructor
          · intro h
            obtain ⟨⟨k, hk, hst⟩, -, -⟩ := r7 w h
            exact ⟨dd w, hst⟩
          · rintro ⟨k, hst⟩
            exact (r8 0 k w (by omega) hst).1
        have hO2 : ∀ z, le_X fO' z ↔ (le_X fO z ∧ ¬ bf_F fd cnt z) := fun z => by
          constructor
          · rintro ⟨h1, h2⟩
            have h3 := (r6 z h1).mp h2
            exact ⟨((hO' z).mp ⟨h1, h3.1⟩).1, h3.2⟩
          · rintro ⟨h1, h2⟩
            have hne : z ≠ en j := fun e => h2 (by rw [e]; exact (hFF _).mpr (g_eq_rf _ _))
            exact ⟨h1.1, (r6 z h1.1).mpr ⟨((hO' z).mpr ⟨h1, hne⟩).2, h2⟩⟩
        have hTf : ∀ z, ev_T fT f z ↔ (le_X fX z ∧ ¬ le_X fO z ∧ g_ag (fw_E (L 1) fX) (ev_T (L 4) y) z) := fun z => by
          constructor
          · rintro ⟨h1, h2⟩
            exact ((hT f z h1).mp h2).elim (fun q => absurd rfl q.1) (fun q => q.2)
          · intro h
            exact ⟨h.1.1, (hT f z h.1.1).mpr (Or.inr ⟨rfl, h⟩)⟩
        have hTy : ∀ z, z < 256 → (ss_b fT y z = true ↔ ss_b (L 4) y z = true) := fun z hz => (hT y z hz).trans ⟨fun q => q.elim (fun q => q.2) (fun q => absurd q.1 (by omega)), fun q => Or.inl ⟨by omega, q⟩⟩
        have hcnt1 : (1 < cnt) ↔ ∃ z, bf_F fd cnt z ∧ z ≠ en j := by
          constructor
          · intro h
            refine ⟨fd 1, ⟨1, h, rfl⟩, fun e => ?_⟩
            have h9 := r4 1 0 h (by omega) (by rw [e, r5 0 (by omega)])
            omega
          · rintro ⟨z, ⟨k, hk, e⟩, hne⟩
            refine Classical.byContradiction (fun hn => hne ?_)
            rw [← e, show k = 0 by omega]
            exact r5 0 (by omega)
        have hcond : ∀ w, bf_F fd cnt w → (rg_C (hu (hu L 3 fO') 4 fT) f y (en j) cnt fd ↔ g_ag (fw_E (L 1) fX) (ev_T (L 4) y) w) := by
          intro w hw
          refine Iff.trans ?_ (g_turn (S := fun a b => ss_b (L 1) a b = true) (E := fw_E (L 1) fX) (T := ev_T fT f) (F := bf_F fd cnt) (rest := g_lst en j) (fun a b => Iff.rfl) hord2 hnd2 hO hrO hFF hTf w hw)
          constructor
          · rintro (⟨k, hk, t, ht, h1, h2⟩ | ⟨⟨k, hk, h1⟩, h2⟩)
            · exact Or.inl ⟨fd k, ⟨k, hk, rfl⟩, t, h1, ht, h2⟩
            · exact Or.inr ⟨⟨fd k, ⟨k, hk, rfl⟩, (r3 k hk).1, (hTy _ (r3 k hk).1).mp h1⟩, h2.elim (fun q => Or.inl (hcnt1.mp q)) Or.inr⟩
          · rintro (⟨z, ⟨k, hk, e⟩, t, h1, h2⟩ | ⟨⟨z, ⟨k, hk, e⟩, h1⟩, h2⟩)
            · exact Or.inl ⟨k, hk, t, h2.1, by rw [e]; exact h1, h2.2⟩
            · exact Or.inr ⟨⟨k, hk, by show ss_b fT y (fd k) = true; rw [e]; exact (hTy z h1.1).mpr h1.2⟩, h2.elim (fun q => Or.inl (hcnt1.mpr q)) Or.inr⟩
        refine sv_drop [true, true, true, true, false] ?_
        refine ih (j, done ++ [en j], fO', fT', I0', I1', nI cnt) ⟨by dsimp only; omega, ?_, fun z => g_open_next hO hFF hO2 z, fun c z hz => ?_⟩ (by dsimp only; omega)
        · dsimp only
          rw [hsplit, List.append_assoc]
          rfl
        · dsimp only
          refine (hT' c z hz).trans ?_
          show (ss_b fT c z = true ∨ _) ↔ _
          rw [hT c z hz]
          have hFX : ∀ w, bf_F fd cnt w → le_X fX w := fun w hw => by
            rcases g_re_cases ((hFF w).mp hw).2 with e | ⟨c, hc, -⟩
            · rw [e]
              exact hrX
            · exact hc.1
          constructor
          · rintro ((h | ⟨h1, h2, h3, h4⟩) | ⟨h1, h2, h3⟩)
            · exact Or.inl h
            · exact Or.inr ⟨h1, h2, fun q => h3 ((hO2 z).mp q).1, h4⟩
            · exact Or.inr ⟨h1, hFX z h2, fun q => ((hO2 z).mp q).2 h2, (hcond z h2).mp h3⟩
          · rintro (h | ⟨h1, h2, h3, h4⟩)
            · exact Or.inl (Or.inl h)
            · by_cases hF : bf_F fd cnt z
              · exact Or.inr ⟨h1, hF, (hcond z hF).mpr h4⟩
              · exact Or.inl (Or.inr ⟨h1, h2, fun q => h3 ((hO2 z).mpr ⟨q, hF⟩), h4⟩)
end
section
/-! StateLogic$Formulas: evaluate -/
/-- what a formula of kind k with parts x and y says of z, by the truths T of its parts -/
def fm_v (S : Nat → Nat → Prop) (T : Nat → Nat → Prop) (k x y z : Nat) : Prop :=
  if k = 0 then z &&& x = y else if k = 1 then ¬ T x z else if k = 2 then T x z ∧ T y z else if k = 3 then T x z ∨ T y z else if k = 4 then ∃ t, S z t ∧ T x t else if k = 5 then ∃ m, um S (T x) (T y) m z
  else if k = 6 then T x z ∧ g_ag (fun a b => T x a ∧ T x b ∧ S a b) (T x) z else T x z ∧ g_ag (fun a b => T x a ∧ T x b ∧ S a b) (T y) z
section
variable {p : Program} {l : Launch} {e : Env} {R : Room} {s : State} {m : MethodId} {args : Array Value} {below : List Frame} {meth : Method} {c : Code} {D : va_G} {cl : List vw_C} {tys : List (ClassId × FieldType)} {A : Nat → Prop} {nL : Nat} {ad : Nat → Nat} {Q : State → Prop} {cc : ByteArray} {own : String} {ret : Option FieldType} {pc : Nat} {lv : List (Option Value)} {st : List Value} {ws : List va_E} {k n : Nat}
theorem sv_tab (C : sv_C p s m args meth c D cl tys A cc nL own ret) {dflt lo hi : Int} {offs : Array Int} {len : Nat} {x : Int32} {off : Int} {tgt : Nat} (hd : decode cc pc = .ok (.tableswitch dflt lo hi offs, len)) (h1 : ¬ x.toInt < lo) (h2 : ¬ hi < x.toInt) (ho : offs[(x.toInt - lo).toNat]? = some off) (ht : (pc : Int) + off = (tgt : Int))
    (kk : sv_V p l e R s m args below meth c D cl A nL ad Q tgt lv st ws k n) : sv_V p l e R s m args below meth c D cl A nL ad Q pc lv (.int x :: st) ws k n :=
  fun H locs ls hP hD hS hl => lv_tableIn C.1 C.2.1 hd h1 h2 ho ht (kk H locs ls hP hD hS hl)
theorem sv_tabOut (C : sv_C p s m args meth c D cl tys A cc nL own ret) {dflt lo hi : Int} {offs : Array Int} {len : Nat} {x : Int32} {tgt : Nat} (hd : decode cc pc = .ok (.tableswitch dflt lo hi offs, len)) (h : x.toInt < lo ∨ hi < x.toInt) (ht : (pc : Int) + dflt = (tgt : Int))
    (kk : sv_V p l e R s m args below meth c D cl A nL ad Q tgt lv st ws k n) : sv_V p l e R s m args below meth c D cl A nL ad Q pc lv (.int x :: st) ws k n :=
  fun H locs ls hP hD hS hl => lv_tableOut C.1 C.2.1 hd h ht (kk H locs ls hP hD hS hl)
end
theorem ev_clr {g : Nat → Int64} {f x : Nat} (h : x ≠ f) : ev_T (ss_clr g f 4) x = ev_T g x := by
  funext z
  refine propext ⟨fun q => ⟨q.1, ?_⟩, fun q => ⟨q.1, ?_⟩⟩
  · have h1 := q.2
    rw [ss_clr_b g f x z q.1] at h1
    simpa [h] using h1
  · rw [ss_clr_b g f x z q.1, q.2]
    simp [h]
set_option maxRecDepth 100000 in
set_option maxHeartbeats 8000000 in
theorem c_Fo_evaluate {l : Launch} {D : va_G} {cI cJ cZ : ClassId} {L : Nat → Nat → Int64} {I : Nat → Nat → Int32} {V : Nat → Int32} {tl : List va_E} {n f k x y : Nat} (hn : n ≤ 8) (hV0 : V 0 = nI (2 ^ n)) (hf : f < 60) (hk : I 4 f = nI k) (hk7 : k ≤ 7) (hx : I 5 f = nI x) (hy : I 6 f = nI y) (hp0 : k = 0 → x < 256 ∧ y < 256) (hp1 : k ≠ 0 → x < f ∧ y < f) (hp6 : k = 6 → y = x)
    (hall : ∀ z, z < 256 → ss_b (L 0) 0 z = decide (z < 2 ^ n)) (hSP : ∀ a b, a < 256 → b < 256 → ss_b (L 2) b a = ss_b (L 1) a b) (hXN : k ≠ 0 → ∀ z, ev_T (L 4) x z → z < 2 ^ n) (hYN : k ≠ 0 → ∀ z, ev_T (L 4) y z → z < 2 ^ n) :
    sv_M l y_Fo_evaluate [Cond.code y_Fo_evaluate b_Fo_evaluate 2 none] ({ frames := 4, cells := 0, slots := 0, locals := 129 } : Room) D sv_cl (sv_ty cI cJ cZ) [.ref 8, .int (nI f)] (hC cI cJ cZ L I V tl) 0 0 (fun r ws' => r = none ∧ ∃ (fO fT : Nat → Int64) (I0 I1 I2 I3 : Nat → Int32) (v2 v4 : Int32), ws' = hC cI cJ cZ (hu (hu L 3 fO) 4 fT) (hu (hu (hu (hu I 0 I0) 1 I1) 2 I2) 3 I3) (hu (hu V 2 v2) 4 v4) tl ∧ (∀ c z, z < 256 → c ≠ f → ss_b fT c z = ss_b (L 4) c z) ∧ (∀ z, ev_T fT f z ↔ (z < 2 ^ n ∧ fm_v (ev_S (L 1)) (ev_T (L 4)) k x y z)) ∧ (k = 5 → v4 = nI f ∧ un_ok (ev_S (L 1)) (ev_T (L 4) x) (ev_T (L 4) y) (2 ^ n) I1) ∧ (k ≠ 5 → v4 = -1 ∨ (v4 = V 4 ∧ I1 = I 1))) sv_no 0 0 := by
  refine sv_of (cc := b_Fo_evaluate) (by decide +kernel) (Nat.le_of_ble_eq_true rfl) ?_
  intro pX eX sX mX aX bX tX cX AX adX C htab hnm
  have hp8 := pow_le8 hn
  have hfin : vp_in (nI f) 60 := vp_in_nI hf (by omega)
  have hfc : (nI f).toNatClampNeg = f := nI_clamp (by omega)
  refine sv_aload_n C d_Fo_evaluate_0 rfl rfl ?_
  refine sv_get (ci := 0) (kf := 2) C i_Fo rfl (by decide) f_Fo_23 (fun _ h9 => h9) d_Fo_evaluate_1 (by first | assumption | rfl) rfl ?_
  refine sv_iload_n C d_Fo_evaluate_4 rfl rfl ?_
  refine sv_callV (ci := 3) C (c_St_empty (cI := cI) (cZ := cZ) (ws := hC cI cJ cZ L I V tl) (b := 16) (w := 17) (N := 240) (a := f) (f := L 4) rfl rfl (by omega) (by decide)) s_Fo_70 ki_St_empty ks_St_empty ⟨rfl, rfl, Nat.le_of_ble_eq_true rfl, Nat.le_of_ble_eq_true rfl⟩ rfl d_Fo_evaluate_5 (by first | assumption | rfl) (Nat.le_of_ble_eq_true rfl) ⟨(Nat.le_of_ble_eq_true rfl), (Nat.le_of_ble_eq_true rfl)⟩ (fun E ws9 h9 => absurd h9 id) (fun v9 ws9 hp => ?_)
  obtain ⟨rfl, rfl⟩ := hp
  refine sv_aload_n C d_Fo_evaluate_8 rfl rfl ?_
  refine sv_get (ci := 0) (kf := 3) C i_Fo rfl (by decide) f_Fo_27 (fun _ h9 => h9) d_Fo_evaluate_9 (by first | assumption | rfl) rfl ?_
  refine sv_iload_n C d_Fo_evaluate_12 rfl rfl ?_
  refine sv_iald (t0 := 0) C rfl d_Fo_evaluate_13 (by first | assumption | rfl) (by assumption) ?_
  refine sv_eqs (st' := [.int (nI k)]) (by show [Value.int (I 4 (nI f).toNatClampNeg)] = _; rw [hfc, hk]) ?_
  refine sv_eqw (ws' := hC cI cJ cZ (hu L 4 (ss_clr (L 4) f 4)) I V tl) rfl ?_
  have hcf : ∀ z, z < 256 → ss_b (ss_clr (L 4) f 4) f z = false := fun z hz => by
    rw [ss_clr_b (L 4) f f z hz]
    simp
  have hcn : ∀ c z, z < 256 → c ≠ f → ss_b (ss_clr (L 4) f 4) c z = ss_b (L 4) c z := fun c z hz hc => by
    rw [ss_clr_b (L 4) f c z hz]
    simp [hc]
  have hkk : k = 0 ∨ (k = 1 ∨ k = 2 ∨ k = 3) ∨ k = 4 ∨ k = 5 ∨ k = 6 ∨ k = 7 := by omega
  rcases hkk with rfl | (rfl | rfl | rfl) | rfl | rfl | rfl | rfl
  · refine sv_tab (off := 46) (tgt := 60) C d_Fo_evaluate_14 (by decide) (by decide) (by decide) (by decide) ?_
    refine sv_aload_n C d_Fo_evaluate_60 rfl rfl ?_
    refine sv_iload_n C d_Fo_evaluate_61 rfl rfl ?_
    refine sv_callV (ci := 0) C (c_Fo_evaluateAtom (cI := cI) (cJ := cJ) (cZ := cZ) (L := hu L 4 (ss_clr (L 4) f 4)) (I := I) (V := V) (tl := tl) (n := n) (f := f) (x := x) (y := y) hn hV0 hf hx hy (hp0 rfl).1 (hp0 rfl).2) s_Fo_73 ki_Fo_evaluateAtom ks_Fo_evaluateAtom ⟨rfl, rfl, Nat.le_of_ble_eq_true rfl, Nat.le_of_ble_eq_true rfl⟩ rfl d_Fo_evaluate_62 (by first | assumption | rfl) (Nat.le_of_ble_eq_true rfl) ⟨(Nat.le_of_ble_eq_true rfl), (Nat.le_of_ble_eq_true rfl)⟩ (fun E ws9 h9 => absurd h9 id) (fun v9 ws9 hp => ?_)
    obtain ⟨rfl, fT, rfl, hT⟩ := hp
    refine sv_goto (tgt := 100) C d_Fo_evaluate_65 (by decide) ?_
    refine sv_vret C rfl d_Fo_evaluate_100 (Nat.le_of_ble_eq_true rfl) (Nat.le_of_ble_eq_true rfl) (fun _ _ => rfl) (⟨rfl, L 3, fT, I 0, I 1, I 2, I 3, V 2, V 4, rfl, fun c z hz hc => ?_, fun z => ?_, fun h => absurd h (by decide), fun _ => Or.inr ⟨rfl, rfl⟩⟩)
    · rw [Bool.eq_iff_iff, hT c z hz]
      show (ss_b (ss_clr (L 4) f 4) c z = true ∨ _) ↔ _
      rw [hcn c z hz hc]
      exact ⟨fun h => h.elim id (fun q => absurd q.1 hc), Or.inl⟩
    · constructor
      · rintro ⟨h1, h2⟩
        rcases (hT f z h1).mp h2 with h3 | h3
        · have h3 : ss_b (ss_clr (L 4) f 4) f z = true := h3
          rw [hcf z h1] at h3
          exact absurd h3 (by decide)
        · exact ⟨h3.2.1, h3.2.2⟩
      · rintro ⟨h1, h2⟩
        exact ⟨by omega, (hT f z (by omega)).mpr (Or.inr ⟨rfl, h1, h2⟩)⟩
  · have hxf := (hp1 (by decide)).1
    have hyf := (hp1 (by decide)).2
    have hXN := hXN (by decide)
    have hYN := hYN (by decide)
    refine sv_tab (off := 54) (tgt := 68) C d_Fo_evaluate_14 (by decide) (by decide) (by decide) (by decide) ?_
    refine sv_aload_n C d_Fo_evaluate_68 rfl rfl ?_
    refine sv_iload_n C d_Fo_evaluate_69 rfl rfl ?_
    refine sv_callV (ci := 0) C (c_Fo_wordsNot (cI := cI) (cJ := cJ) (cZ := cZ) (L := hu L 4 (ss_clr (L 4) f 4)) (I := I) (V := V) (tl := tl) (f := f) (x := x) (y := y) hf hk hx hy hxf hyf) s_Fo_76 ki_Fo_evaluateWords ks_Fo_evaluateWords ⟨rfl, rfl, Nat.le_of_ble_eq_true rfl, Nat.le_of_ble_eq_true rfl⟩ rfl d_Fo_evaluate_70 (by first | assumption | rfl) (Nat.le_of_ble_eq_true rfl) ⟨(Nat.le_of_ble_eq_true rfl), (Nat.le_of_ble_eq_true rfl)⟩ (fun E ws9 h9 => absurd h9 id) (fun v9 ws9 hp => ?_)
    obtain ⟨rfl, fT, rfl, hT⟩ := hp
    refine sv_goto (tgt := 100) C d_Fo_evaluate_73 (by decide) ?_
    refine sv_vret C rfl d_Fo_evaluate_100 (Nat.le_of_ble_eq_true rfl) (Nat.le_of_ble_eq_true rfl) (fun _ _ => rfl) (⟨rfl, L 3, fT, I 0, I 1, I 2, I 3, V 2, V 4, rfl, fun c z hz hc => ?_, fun z => ?_, fun h => absurd h (by decide), fun _ => Or.inr ⟨rfl, rfl⟩⟩)
    · rw [hT c z hz, if_neg hc]
      exact hcn c z hz hc
    · have hval : ∀ z, z < 256 → ss_b fT f z = (ss_b (L 0) 0 z && !ss_b (L 4) x z) := fun z hz => by
        rw [hT f z hz, if_pos rfl]
        show (ss_b (L 0) 0 z && !ss_b (ss_clr (L 4) f 4) x z) = _
        rw [hcn x z hz (by omega)]
      constructor
      · rintro ⟨h1, h2⟩
        rw [hval z h1] at h2
        rw [hall z h1] at h2
        simp only [Bool.and_eq_true, decide_eq_true_eq, Bool.not_eq_true'] at h2
        refine ⟨h2.1, fun q => ?_⟩
        have q9 := q.2
        rw [h2.2] at q9
        exact absurd q9 (by decide)
      · rintro ⟨h1, h2⟩
        refine ⟨by omega, ?_⟩
        rw [hval z (by omega)]
        rw [hall z (by omega)]
        have h2 : ¬ ev_T (L 4) x z := h2
        cases hc : ss_b (L 4) x z with
        | false => simp [h1]
        | true => exact absurd ⟨by omega, hc⟩ h2
  · have hxf := (hp1 (by decide)).1
    have hyf := (hp1 (by decide)).2
    have hXN := hXN (by decide)
    have hYN := hYN (by decide)
    refine sv_tab (off := 54) (tgt := 68) C d_Fo_evaluate_14 (by decide) (by decide) (by decide) (by decide) ?_
    refine sv_aload_n C d_Fo_evaluate_68 rfl rfl ?_
    refine sv_iload_n C d_Fo_evaluate_69 rfl rfl ?_
    refine sv_callV (ci := 0) C (c_Fo_wordsAnd (cI := cI) (cJ := cJ) (cZ := cZ) (L := hu L 4 (ss_clr (L 4) f 4)) (I := I) (V := V) (tl := tl) (f := f) (x := x) (y := y) hf hk hx hy hxf hyf) s_Fo_76 ki_Fo_evaluateWords ks_Fo_evaluateWords ⟨rfl, rfl, Nat.le_of_ble_eq_true rfl, Nat.le_of_ble_eq_true rfl⟩ rfl d_Fo_evaluate_70 (by first | assumption | rfl) (Nat.le_of_ble_eq_true rfl) ⟨(Nat.le_of_ble_eq_true rfl), (Nat.le_of_ble_eq_true rfl)⟩ (fun E ws9 h9 => absurd h9 id) (fun v9 ws9 hp => ?_)
    obtain ⟨rfl, fT, rfl, hT⟩ := hp
    refine sv_goto (tgt := 100) C d_Fo_evaluate_73 (by decide) ?_
    refine sv_vret C rfl d_Fo_evaluate_100 (Nat.le_of_ble_eq_true rfl) (Nat.le_of_ble_eq_true rfl) (fun _ _ => rfl) (⟨rfl, L 3, fT, I 0, I 1, I 2, I 3, V 2, V 4, rfl, fun c z hz hc => ?_, fun z => ?_, fun h => absurd h (by decide), fun _ => Or.inr ⟨rfl, rfl⟩⟩)
    · rw [hT c z hz, if_neg hc]
      exact hcn c z hz hc
    · have hval : ∀ z, z < 256 → ss_b fT f z = (ss_b (L 4) x z && ss_b (L 4) y z) := fun z hz => by
        rw [hT f z hz, if_pos rfl]
        show (ss_b (ss_clr (L 4) f 4) x z && ss_b (ss_clr (L 4) f 4) y z) = _
        rw [hcn x z hz (by omega), hcn y z hz (by omega)]
      constructor
      · rintro ⟨h1, h2⟩
        rw [hval z h1] at h2
        simp only [Bool.and_eq_true] at h2
        exact ⟨hXN z ⟨h1, h2.1⟩, ⟨h1, h2.1⟩, h1, h2.2⟩
      · rintro ⟨h1, h2⟩
        refine ⟨by omega, ?_⟩
        rw [hval z (by omega)]
        have h2 : ev_T (L 4) x z ∧ ev_T (L 4) y z := h2
        rw [h2.1.2, h2.2.2]
        rfl
  · have hxf := (hp1 (by decide)).1
    have hyf := (hp1 (by decide)).2
    have hXN := hXN (by decide)
    have hYN := hYN (by decide)
    refine sv_tab (off := 54) (tgt := 68) C d_Fo_evaluate_14 (by decide) (by decide) (by decide) (by decide) ?_
    refine sv_aload_n C d_Fo_evaluate_68 rfl rfl ?_
    refine sv_iload_n C d_Fo_evaluate_69 rfl rfl ?_
    refine sv_callV (ci := 0) C (c_Fo_wordsOr (cI := cI) (cJ := cJ) (cZ := cZ) (L := hu L 4 (ss_clr (L 4) f 4)) (I := I) (V := V) (tl := tl) (f := f) (x := x) (y := y) hf hk hx hy hxf hyf) s_Fo_76 ki_Fo_evaluateWords ks_Fo_evaluateWords ⟨rfl, rfl, Nat.le_of_ble_eq_true rfl, Nat.le_of_ble_eq_true rfl⟩ rfl d_Fo_evaluate_70 (by first | assumption | rfl) (Nat.le_of_ble_eq_true rfl) ⟨(Nat.le_of_ble_eq_true rfl), (Nat.le_of_ble_eq_true rfl)⟩ (fun E ws9 h9 => absurd h9 id) (fun v9 ws9 hp => ?_)
    obtain ⟨rfl, fT, rfl, hT⟩ := hp
    refine sv_goto (tgt := 100) C d_Fo_evaluate_73 (by decide) ?_
    refine sv_vret C rfl d_Fo_evaluate_100 (Nat.le_of_ble_eq_true rfl) (Nat.le_of_ble_eq_true rfl) (fun _ _ => rfl) (⟨rfl, L 3, fT, I 0, I 1, I 2, I 3, V 2, V 4, rfl, fun c z hz hc => ?_, fun z => ?_, fun h => absurd h (by decide), fun _ => Or.inr ⟨rfl, rfl⟩⟩)
    · rw [hT c z hz, if_neg hc]
      exact hcn c z hz hc
    · have hval : ∀ z, z < 256 → ss_b fT f z = (ss_b (L 4) x z || ss_b (L 4) y z) := fun z hz => by
        rw [hT f z hz, if_pos rfl]
        show (ss_b (ss_clr (L 4) f 4) x z || ss_b (ss_clr (L 4) f 4) y z) = _
        rw [hcn x z hz (by omega), hcn y z hz (by omega)]
      constructor
      · rintro ⟨h1, h2⟩
        rw [hval z h1] at h2
        simp only [Bool.or_eq_true] at h2
        exact h2.elim (fun q => ⟨hXN z ⟨h1, q⟩, Or.inl ⟨h1, q⟩⟩) (fun q => ⟨hYN z ⟨h1, q⟩, Or.inr ⟨h1, q⟩⟩)
      · rintro ⟨h1, h2⟩
        refine ⟨by omega, ?_⟩
        rw [hval z (by omega)]
        have h2 : ev_T (L 4) x z ∨ ev_T (L 4) y z := h2
        rcases h2 with h2 | h2
        · rw [h2.2]
          rfl
        · rw [h2.2, Bool.or_true]
  · have hxf := (hp1 (by decide)).1
    refine sv_tab (off := 62) (tgt := 76) C d_Fo_evaluate_14 (by decide) (by decide) (by decide) (by decide) ?_
    refine sv_aload_n C d_Fo_evaluate_76 rfl rfl ?_
    refine sv_iload_n C d_Fo_evaluate_77 rfl rfl ?_
    refine sv_callV (ci := 0) C (c_Fo_evaluateNext (cI := cI) (cJ := cJ) (cZ := cZ) (L := hu L 4 (ss_clr (L 4) f 4)) (I := I) (V := V) (tl := tl) (n := n) (f := f) (x := x) hn hV0 hf hx hxf) s_Fo_79 ki_Fo_evaluateNext ks_Fo_evaluateNext ⟨rfl, rfl, Nat.le_of_ble_eq_true rfl, Nat.le_of_ble_eq_true rfl⟩ rfl d_Fo_evaluate_78 (by first | assumption | rfl) (Nat.le_of_ble_eq_true rfl) ⟨(Nat.le_of_ble_eq_true rfl), (Nat.le_of_ble_eq_true rfl)⟩ (fun E ws9 h9 => absurd h9 id) (fun v9 ws9 hp => ?_)
    obtain ⟨rfl, fT, rfl, hT⟩ := hp
    refine sv_goto (tgt := 100) C d_Fo_evaluate_81 (by decide) ?_
    refine sv_vret C rfl d_Fo_evaluate_100 (Nat.le_of_ble_eq_true rfl) (Nat.le_of_ble_eq_true rfl) (fun _ _ => rfl) (⟨rfl, L 3, fT, I 0, I 1, I 2, I 3, V 2, V 4, rfl, fun c z hz hc => ?_, fun z => ?_, fun h => absurd h (by decide), fun _ => Or.inr ⟨rfl, rfl⟩⟩)
    · rw [Bool.eq_iff_iff, hT c z hz]
      show (ss_b (ss_clr (L 4) f 4) c z = true ∨ _) ↔ _
      rw [hcn c z hz hc]
      exact ⟨fun h => h.elim id (fun q => absurd q.1 hc), Or.inl⟩
    · constructor
      · rintro ⟨h1, h2⟩
        rcases (hT f z h1).mp h2 with h3 | ⟨-, h3, t, h4, h5, h6⟩
        · have h3 : ss_b (ss_clr (L 4) f 4) f z = true := h3
          rw [hcf z h1] at h3
          exact absurd h3 (by decide)
        · have h6 : ss_b (ss_clr (L 4) f 4) x t = true := h6
          rw [hcn x t h4 (by omega)] at h6
          exact ⟨h3, t, ⟨h4, h5⟩, h4, h6⟩
      · rintro ⟨h1, t, h4, h5⟩
        exact ⟨by omega, (hT f z (by omega)).mpr (Or.inr ⟨rfl, h1, t, h4.1, h4.2, by show ss_b (ss_clr (L 4) f 4) x t = true; rw [hcn x t h4.1 (by omega)]; exact h5.2⟩)⟩
  · have hxf := (hp1 (by decide)).1
    have hyf := (hp1 (by decide)).2
    have hXN := hXN (by decide)
    have hYN := hYN (by decide)
    refine sv_tab (off := 70) (tgt := 84) C d_Fo_evaluate_14 (by decide) (by decide) (by decide) (by decide) ?_
    refine sv_aload_n C d_Fo_evaluate_84 rfl rfl ?_
    refine sv_iload_n C d_Fo_evaluate_85 rfl rfl ?_
    refine sv_callV (ci := 0) C (c_Fo_evaluateUntil (cI := cI) (cJ := cJ) (cZ := cZ) (L := hu L 4 (ss_clr (L 4) f 4)) (I := I) (V := V) (tl := tl) (n := n) (f := f) (x := x) (y := y) hn hV0 hf hx hy hxf hyf hSP (by show ∀ z, ev_T (ss_clr (L 4) f 4) x z → _; rw [ev_clr (by omega)]; exact hXN) (by show ∀ z, ev_T (ss_clr (L 4) f 4) y z → _; rw [ev_clr (by omega)]; exact hYN)) s_Fo_82 ki_Fo_evaluateUntil ks_Fo_evaluateUntil ⟨rfl, rfl, Nat.le_of_ble_eq_true rfl, Nat.le_of_ble_eq_true rfl⟩ rfl d_Fo_evaluate_86 (by first | assumption | rfl) (Nat.le_of_ble_eq_true rfl) ⟨(Nat.le_of_ble_eq_true rfl), (Nat.le_of_ble_eq_true rfl)⟩ (fun E ws9 h9 => absurd h9 id) (fun v9 ws9 hp => ?_)
    obtain ⟨rfl, fO, fT, I0, I1, v2, rfl, hT, hun⟩ := hp
    have hT : ∀ c z, z < 256 → (ss_b fT c z = true ↔ (ss_b (ss_clr (L 4) f 4) c z = true ∨ (c = f ∧ ∃ k, um (ev_S (L 1)) (ev_T (ss_clr (L 4) f 4) x) (ev_T (ss_clr (L 4) f 4) y) k z))) := hT
    have hun : un_ok (ev_S (L 1)) (ev_T (ss_clr (L 4) f 4) x) (ev_T (ss_clr (L 4) f 4) y) (2 ^ n) I1 := hun
    rw [ev_clr (by omega), ev_clr (by omega)] at hun
    rw [ev_clr (show x ≠ f by omega), ev_clr (show y ≠ f by omega)] at hT
    refine sv_goto (tgt := 100) C d_Fo_evaluate_89 (by decide) ?_
    refine sv_vret C rfl d_Fo_evaluate_100 (Nat.le_of_ble_eq_true rfl) (Nat.le_of_ble_eq_true rfl) (fun _ _ => rfl) (⟨rfl, fO, fT, I0, I1, I 2, I 3, v2, nI f, rfl, fun c z hz hc => ?_, fun z => ?_, fun _ => ⟨rfl, hun⟩, fun h => absurd rfl h⟩)
    · rw [Bool.eq_iff_iff, hT c z hz, hcn c z hz hc]
      exact ⟨fun h => h.elim id (fun q => absurd q.1 hc), Or.inl⟩
    · constructor
      · rintro ⟨h1, h2⟩
        rcases (hT f z h1).mp h2 with h3 | ⟨-, m, h3⟩
        · rw [hcf z h1] at h3
          exact absurd h3 (by decide)
        · refine ⟨?_, m, h3⟩
          obtain ⟨t, ht, hst⟩ := h3
          cases m with
          | zero =>
            have hst : z = t := hst
            rw [hst]
            exact hYN t ht
          | succ m =>
            obtain ⟨c, hc, -⟩ := hst
            exact hXN z hc.1
      · rintro ⟨h1, h2⟩
        exact ⟨by omega, (hT f z (by omega)).mpr (Or.inr ⟨rfl, h2⟩)⟩
  · have hxf := (hp1 (by decide)).1
    have hyf := (hp1 (by decide)).2
    have hXN := hXN (by decide)
    refine sv_tab (off := 78) (tgt := 92) C d_Fo_evaluate_14 (by decide) (by decide) (by decide) (by decide) ?_
    refine sv_aload_n C d_Fo_evaluate_92 rfl rfl ?_
    refine sv_iload_n C d_Fo_evaluate_93 rfl rfl ?_
    refine sv_callV (ci := 0) C (c_Fo_evaluateAgain (cI := cI) (cJ := cJ) (cZ := cZ) (L := hu L 4 (ss_clr (L 4) f 4)) (I := I) (V := V) (tl := tl) (n := n) (f := f) (x := x) (y := y) hn hV0 hf hx hy hxf hyf hSP (by show ∀ z, ev_T (ss_clr (L 4) f 4) x z → _; rw [ev_clr (by omega)]; exact hXN) hcf) s_Fo_85 ki_Fo_evaluateAgain ks_Fo_evaluateAgain ⟨rfl, rfl, Nat.le_of_ble_eq_true rfl, Nat.le_of_ble_eq_true rfl⟩ rfl d_Fo_evaluate_94 (by first | assumption | rfl) (Nat.le_of_ble_eq_true rfl) ⟨(Nat.le_of_ble_eq_true rfl), (Nat.le_of_ble_eq_true rfl)⟩ (fun E ws9 h9 => absurd h9 id) (fun v9 ws9 hp => ?_)
    obtain ⟨rfl, fO, fT, I0, I1, I2, I3, v2, rfl, hT⟩ := hp
    have hT : ∀ c z, z < 256 → (ss_b fT c z = true ↔ (ss_b (ss_clr (L 4) f 4) c z = true ∨ (c = f ∧ ev_T (ss_clr (L 4) f 4) x z ∧ g_ag (fun a b => ev_T (ss_clr (L 4) f 4) x a ∧ ev_T (ss_clr (L 4) f 4) x b ∧ ss_b (L 1) a b = true) (ev_T (ss_clr (L 4) f 4) y) z))) := hT
    rw [ev_clr (show x ≠ f by omega), ev_clr (show y ≠ f by omega)] at hT
    have hEe : (fun a b => ev_T (L 4) x a ∧ ev_T (L 4) x b ∧ ss_b (L 1) a b = true) = fun a b => ev_T (L 4) x a ∧ ev_T (L 4) x b ∧ ev_S (L 1) a b := by
      funext a b
      exact propext ⟨fun q => ⟨q.1, q.2.1, q.2.1.1, q.2.2⟩, fun q => ⟨q.1, q.2.1, q.2.2.2⟩⟩
    rw [hEe] at hT
    refine sv_goto (tgt := 100) C d_Fo_evaluate_97 (by decide) ?_
    refine sv_vret C rfl d_Fo_evaluate_100 (Nat.le_of_ble_eq_true rfl) (Nat.le_of_ble_eq_true rfl) (fun _ _ => rfl) (⟨rfl, fO, fT, I0, I1, I2, I3, v2, -1, rfl, fun c z hz hc => ?_, fun z => ?_, fun h => absurd h (by decide), fun _ => Or.inl rfl⟩)
    · rw [Bool.eq_iff_iff, hT c z hz, hcn c z hz hc]
      exact ⟨fun h => h.elim id (fun q => absurd q.1 hc), Or.inl⟩
    · have e9 := hp6 rfl
      subst e9
      constructor
      · rintro ⟨h1, h2⟩
        rcases (hT f z h1).mp h2 with h3 | ⟨-, h3, h4⟩
        · rw [hcf z h1] at h3
          exact absurd h3 (by decide)
        · exact ⟨hXN z h3, h3, h4⟩
      · rintro ⟨h1, h2⟩
        exact ⟨by omega, (hT f z (by omega)).mpr (Or.inr ⟨rfl, h2⟩)⟩
  · have hxf := (hp1 (by decide)).1
    have hyf := (hp1 (by decide)).2
    have hXN := hXN (by decide)
    refine sv_tab (off := 78) (tgt := 92) C d_Fo_evaluate_14 (by decide) (by decide) (by decide) (by decide) ?_
    refine sv_aload_n C d_Fo_evaluate_92 rfl rfl ?_
    refine sv_iload_n C d_Fo_evaluate_93 rfl rfl ?_
    refine sv_callV (ci := 0) C (c_Fo_evaluateAgain (cI := cI) (cJ := cJ) (cZ := cZ) (L := hu L 4 (ss_clr (L 4) f 4)) (I := I) (V := V) (tl := tl) (n := n) (f := f) (x := x) (y := y) hn hV0 hf hx hy hxf hyf hSP (by show ∀ z, ev_T (ss_clr (L 4) f 4) x z → _; rw [ev_clr (by omega)]; exact hXN) hcf) s_Fo_85 ki_Fo_evaluateAgain ks_Fo_evaluateAgain ⟨rfl, rfl, Nat.le_of_ble_eq_true rfl, Nat.le_of_ble_eq_true rfl⟩ rfl d_Fo_evaluate_94 (by first | assumption | rfl) (Nat.le_of_ble_eq_true rfl) ⟨(Nat.le_of_ble_eq_true rfl), (Nat.le_of_ble_eq_true rfl)⟩ (fun E ws9 h9 => absurd h9 id) (fun v9 ws9 hp => ?_)
    obtain ⟨rfl, fO, fT, I0, I1, I2, I3, v2, rfl, hT⟩ := hp
    have hT : ∀ c z, z < 256 → (ss_b fT c z = true ↔ (ss_b (ss_clr (L 4) f 4) c z = true ∨ (c = f ∧ ev_T (ss_clr (L 4) f 4) x z ∧ g_ag (fun a b => ev_T (ss_clr (L 4) f 4) x a ∧ ev_T (ss_clr (L 4) f 4) x b ∧ ss_b (L 1) a b = true) (ev_T (ss_clr (L 4) f 4) y) z))) := hT
    rw [ev_clr (show x ≠ f by omega), ev_clr (show y ≠ f by omega)] at hT
    have hEe : (fun a b => ev_T (L 4) x a ∧ ev_T (L 4) x b ∧ ss_b (L 1) a b = true) = fun a b => ev_T (L 4) x a ∧ ev_T (L 4) x b ∧ ev_S (L 1) a b := by
      funext a b
      exact propext ⟨fun q => ⟨q.1, q.2.1, q.2.1.1, q.2.2⟩, fun q => ⟨q.1, q.2.1, q.2.2.2⟩⟩
    rw [hEe] at hT
    refine sv_goto (tgt := 100) C d_Fo_evaluate_97 (by decide) ?_
    refine sv_vret C rfl d_Fo_evaluate_100 (Nat.le_of_ble_eq_true rfl) (Nat.le_of_ble_eq_true rfl) (fun _ _ => rfl) (⟨rfl, fO, fT, I0, I1, I2, I3, v2, -1, rfl, fun c z hz hc => ?_, fun z => ?_, fun h => absurd h (by decide), fun _ => Or.inl rfl⟩)
    · rw [Bool.eq_iff_iff, hT c z hz, hcn c z hz hc]
      exact ⟨fun h => h.elim id (fun q => absurd q.1 hc), Or.inl⟩
    · constructor
      · rintro ⟨h1, h2⟩
        rcases (hT f z h1).mp h2 with h3 | ⟨-, h3, h4⟩
        · rw [hcf z h1] at h3
          exact absurd h3 (by decide)
        · exact ⟨hXN z h3, h3, h4⟩
      · rintro ⟨h1, h2⟩
        exact ⟨by omega, (hT f z (by omega)).mpr (Or.inr ⟨rfl, h2⟩)⟩
end
section
/-! StateLogic$Formulas: want, settle -/
theorem fm_cg {S : Nat → Nat → Prop} {T T' : Nat → Nat → Prop} {k x y z : Nat} (hx : k ≠ 0 → T x = T' x) (hy : k ≠ 0 → T y = T' y) : fm_v S T k x y z ↔ fm_v S T' k x y z := by
  by_cases h : k = 0
  · unfold fm_v
    rw [if_pos h, if_pos h]
  · unfold fm_v
    rw [hx h, hy h]
/-- the formulas as the cells hold them; w: what is wanted just now -/
def fo_ok (L : Nat → Nat → Int64) (I : Nat → Nat → Int32) (V : Nat → Int32) (n r mk : Nat) (kd xs ys : Nat → Nat) (w : Nat → Bool) : Prop :=
  (n ≤ 8 ∧ V 0 = nI (2 ^ n) ∧ V 1 = nI r ∧ r ≤ 40 ∧ V 3 = nI mk ∧ mk ≤ 60 ∧ (∀ z, z < 256 → ss_b (L 0) 0 z = decide (z < 2 ^ n)) ∧ ∀ a b, a < 256 → b < 256 → ss_b (L 2) b a = ss_b (L 1) a b) ∧
  (∀ i, i < mk → I 4 i = nI (kd i) ∧ I 5 i = nI (xs i) ∧ I 6 i = nI (ys i) ∧ kd i ≤ 7 ∧ (kd i = 0 → xs i < 256 ∧ ys i < 256) ∧ (kd i ≠ 0 → xs i < i ∧ ys i < i) ∧ (kd i = 6 → ys i = xs i)) ∧
  (∀ i, i < mk → I 7 i = -1 ∨ ∃ q, q ≤ r ∧ I 7 i = nI q) ∧
  (∀ i, i < mk → I 7 i = nI r → (kd i ≠ 0 → I 7 (xs i) = nI r ∧ I 7 (ys i) = nI r) ∧ ∀ z, ev_T (L 4) i z ↔ (z < 2 ^ n ∧ fm_v (ev_S (L 1)) (ev_T (L 4)) (kd i) (xs i) (ys i) z)) ∧
  (∀ i, i < 60 → I 8 i = b2i (w i)) ∧
  (V 4 = -1 ∨ ∃ i, i < mk ∧ V 4 = nI i ∧ kd i = 5 ∧ (I 7 i = nI r → un_ok (ev_S (L 1)) (ev_T (L 4) (xs i)) (ev_T (L 4) (ys i)) (2 ^ n) (I 1)))
set_option maxRecDepth 100000 in
set_option maxHeartbeats 4000000 in
theorem c_Fo_want {l : Launch} {D : va_G} {cI cJ cZ : ClassId} {L : Nat → Nat → Int64} {I : Nat → Nat → Int32} {V : Nat → Int32} {tl : List va_E} {i : Nat} (hi : i < 60) :
    sv_M l y_Fo_want [Cond.code y_Fo_want b_Fo_want 2 none] ({ frames := 0, cells := 0, slots := 0, locals := 0 } : Room) D sv_cl (sv_ty cI cJ cZ) [.ref 8, .int (nI i)] (hC cI cJ cZ L I V tl) 0 0 (fun r ws' => r = none ∧ ∃ w8 : Nat → Int32, ws' = hC cI cJ cZ L (hu I 8 w8) V tl ∧ (I 7 i = V 1 → w8 = I 8) ∧ (I 7 i ≠ V 1 → w8 = upd (I 8) i 1)) sv_no 0 0 := by
  refine sv_of (cc := b_Fo_want) (by decide +kernel) (Nat.le_of_ble_eq_true rfl) ?_
  intro pX eX sX mX aX bX tX cX AX adX C htab hnm
  have hin : vp_in (nI i) 60 := vp_in_nI hi (by omega)
  have hic : (nI i).toNatClampNeg = i := nI_clamp (by omega)
  refine sv_aload_n C d_Fo_want_0 rfl rfl ?_
  refine sv_get (ci := 0) (kf := 6) C i_Fo rfl (by decide) f_Fo_37 (fun _ h9 => h9) d_Fo_want_1 (by first | assumption | rfl) rfl ?_
  refine sv_iload_n C d_Fo_want_4 rfl rfl ?_
  refine sv_iald (t0 := 0) C rfl d_Fo_want_5 (by first | assumption | rfl) (by assumption) ?_
  refine sv_aload_n C d_Fo_want_6 rfl rfl ?_
  refine sv_get (ci := 0) (kf := 0) C i_Fo rfl (by decide) f_Fo_44 (fun _ h9 => h9) d_Fo_want_7 (by first | assumption | rfl) rfl ?_
  refine sv_get (ci := 1) (kf := 4) C i_Ma rfl (by decide) f_Fo_65 (fun _ h9 => h9) d_Fo_want_10 (by first | assumption | rfl) rfl ?_
  refine sv_eqs (st' := [.int (V 1), .int (I 7 i)]) (by show [_, Value.int (I 7 (nI i).toNatClampNeg)] = _; rw [hic]) ?_
  refine sv_icmp_eq (tgt := 23) C d_Fo_want_13 (by decide) (fun h1 => ?_) (fun h1 => ?_)
  · refine sv_eqw (ws' := hC cI cJ cZ L (hu I 8 (I 8)) V tl) (by rw [hu_same]) ?_
    exact sv_vret C rfl d_Fo_want_23 (Nat.le_of_ble_eq_true rfl) (Nat.le_of_ble_eq_true rfl) (fun _ _ => rfl) (⟨rfl, I 8, rfl, fun _ => rfl, fun h => absurd h1 h⟩)
  · refine sv_aload_n C d_Fo_want_16 rfl rfl ?_
    refine sv_get (ci := 0) (kf := 7) C i_Fo rfl (by decide) f_Fo_40 (fun _ h9 => h9) d_Fo_want_17 (by first | assumption | rfl) rfl ?_
    refine sv_iload_n C d_Fo_want_20 rfl rfl ?_
    refine sv_iconst (v := 1) C d_Fo_want_21 rfl ?_
    refine sv_zast (t0 := 2) C rfl d_Fo_want_22 (by first | assumption | rfl) (by assumption) ?_
    refine sv_eqw (ws' := hC cI cJ cZ L (hu I 8 (upd (I 8) i 1)) V tl) (by rw [hic]; rfl) ?_
    exact sv_vret C rfl d_Fo_want_23 (Nat.le_of_ble_eq_true rfl) (Nat.le_of_ble_eq_true rfl) (fun _ _ => rfl) (⟨rfl, upd (I 8) i 1, rfl, fun h => absurd h h1, fun _ => rfl⟩)
theorem wa_put {I8 : Nat → Int32} {w : Nat → Bool} {i : Nat} (h : ∀ j, j < 60 → I8 j = b2i (w j)) : ∀ j, j < 60 → upd I8 i 1 j = b2i (hu w i true j) := by
  intro j hj
  by_cases e : j = i
  · rw [e, pk_us, hu_s]
    rfl
  · rw [pk_un e, hu_n e]
    exact h j hj
theorem nI_inj {a b : Nat} (ha : a < 2 ^ 31) (hb : b < 2 ^ 31) (h : nI a = nI b) : a = b := (nI_eq ha hb).mp h
/-- the first half of settle: what is wanted, from i on up to f -/
def wa_I (I7 : Nat → Int32) (r f i : Nat) (kd xs ys : Nat → Nat) (w : Nat → Bool) : Prop :=
  (∀ j, w j = true → j ≤ f ∧ I7 j ≠ nI r) ∧ (I7 f ≠ nI r → w f = true) ∧ ∀ j, i ≤ j → w j = true → kd j ≠ 0 → (I7 (xs j) ≠ nI r → w (xs j) = true) ∧ (I7 (ys j) ≠ nI r → w (ys j) = true)
theorem wa_add {I7 : Nat → Int32} {r f i k : Nat} {kd xs ys : Nat → Nat} {w : Nat → Bool} (h : wa_I I7 r f i kd xs ys w) (hk : k < i) (hkf : k ≤ f) (h7 : I7 k ≠ nI r) : wa_I I7 r f i kd xs ys (hu w k true) := by
  obtain ⟨h1, h2, h3⟩ := h
  have hm : ∀ j, w j = true → hu w k true j = true := fun j hj => by
    by_cases e : j = k
    · rw [e, hu_s]
    · rw [hu_n e]
      exact hj
  refine ⟨fun j hj => ?_, fun q => hm f (h2 q), fun j hj hw hkd => ?_⟩
  · by_cases e : j = k
    · rw [e]
      exact ⟨hkf, h7⟩
    · rw [hu_n e] at hj
      exact h1 j hj
  · rw [hu_n (by omega)] at hw
    have h4 := h3 j hj hw hkd
    exact ⟨fun q => hm _ (h4.1 q), fun q => hm _ (h4.2 q)⟩
set_option maxRecDepth 100000 in
set_option maxHeartbeats 8000000 in
theorem c_Fo_settle {l : Launch} {D : va_G} {cI cJ cZ : ClassId} {L : Nat → Nat → Int64} {I : Nat → Nat → Int32} {V : Nat → Int32} {tl : List va_E} {n r mk f : Nat} {kd xs ys : Nat → Nat} (hok : fo_ok L I V n r mk kd xs ys (fun _ => false)) (hf : f < mk) :
    sv_M l y_Fo_settle [Cond.code y_Fo_settle b_Fo_settle 3 none] ({ frames := 5, cells := 0, slots := 0, locals := 150 } : Room) D sv_cl (sv_ty cI cJ cZ) [.ref 8, .int (nI f)] (hC cI cJ cZ L I V tl) 0 0 (fun q ws' => q = none ∧ ∃ (L' : Nat → Nat → Int64) (I' : Nat → Nat → Int32) (V' : Nat → Int32), ws' = hC cI cJ cZ L' I' V' tl ∧ fo_ok L' I' V' n r mk kd xs ys (fun _ => false) ∧ I' 7 f = nI r ∧ L' 0 = L 0 ∧ L' 1 = L 1 ∧ L' 2 = L 2) sv_no 0 0 := by
  refine sv_of (cc := b_Fo_settle) (by decide +kernel) (Nat.le_of_ble_eq_true rfl) ?_
  intro pX eX sX mX aX bX tX cX AX adX C htab hnm
  obtain ⟨⟨hn, hV0, hV1, hr40, hV3, hmk, hall, hSP⟩, hfm, hset, hst, hwa, hme⟩ := hok
  have hp8 := pow_le8 hn
  refine sv_aload_n C d_Fo_settle_0 rfl rfl ?_
  refine sv_iload_n C d_Fo_settle_1 rfl rfl ?_
  refine sv_callV (ci := 0) C (c_Fo_want (cI := cI) (cJ := cJ) (cZ := cZ) (L := L) (I := I) (V := V) (tl := tl) (i := f) (by omega)) s_Fo_59 ki_Fo_want ks_Fo_want ⟨rfl, rfl, Nat.le_of_ble_eq_true rfl, Nat.le_of_ble_eq_true rfl⟩ rfl d_Fo_settle_2 (by first | assumption | rfl) (Nat.le_of_ble_eq_true rfl) ⟨(Nat.le_of_ble_eq_true rfl), (Nat.le_of_ble_eq_true rfl)⟩ (fun E ws9 h9 => absurd h9 id) (fun v9 ws9 hp => ?_)
  obtain ⟨rfl, w8, rfl, hw1, hw2⟩ := hp
  have hstart : ∃ w : Nat → Bool, (∀ j, j < 60 → w8 j = b2i (w j)) ∧ wa_I (I 7) r f (f + 1) kd xs ys w := by
    by_cases h : I 7 f = V 1
    · refine ⟨fun _ => false, by rw [hw1 h]; exact hwa, fun j hj => absurd hj Bool.false_ne_true, fun q => absurd (h.trans hV1) q, fun j _ hj => absurd hj Bool.false_ne_true⟩
    · refine ⟨hu (fun _ => false) f true, by rw [hw2 h]; exact wa_put hwa, fun j hj => ?_, fun _ => hu_s _ _ _, fun j hjf hj => ?_⟩
      · by_cases e : j = f
        · rw [e]
          exact ⟨Nat.le_refl _, fun q => h (q.trans hV1.symm)⟩
        · rw [hu_n e] at hj
          exact absurd hj (by decide)
      · rw [hu_n (by omega)] at hj
        exact absurd hj (by decide)
  obtain ⟨w0, hw0, hwI0⟩ := hstart
  refine sv_iload_n C d_Fo_settle_5 rfl rfl ?_
  refine sv_istore_n C d_Fo_settle_6 rfl (by decide) rfl ?_
  refine sv_ind (σ := Nat × (Nat → Int32) × (Nat → Bool)) (I := fun s => s.1 ≤ f + 1 ∧ (∀ j, j < 60 → s.2.1 j = b2i (s.2.2 j)) ∧ wa_I (I 7) r f s.1 kd xs ys s.2.2) (μ := fun s => s.1)
    (lv := fun s => [some (.ref 8), some (.int (nI f)), some (.int (sp_q s.1))]) (ws := fun s => hC cI cJ cZ L (hu I 8 s.2.1) V tl) ?_ (f + 1, w8, w0) ⟨Nat.le_refl _, hw0, hwI0⟩
  clear hw1 hw2 hw0 hwI0
  rintro ⟨i, w8, w⟩ ⟨hi, hw8, hwI⟩ ih
  dsimp only at hi hw8 hwI ih
  refine sv_iload_n C d_Fo_settle_7 rfl rfl ?_
  refine sv_if_lt (tgt := 55) C d_Fo_settle_8 (by decide) (fun h1 => ?_) (fun h1 => ?_)
  · -- all parts are wanted: now they are worked out, from 0 on
    have h1 : i = 0 := (sp_qlt (by omega)).mp h1
    subst h1
    refine sv_iconst (v := 0) C d_Fo_settle_55 rfl ?_
    refine sv_istore_n C d_Fo_settle_56 rfl (by decide) rfl ?_
    refine sv_ind (σ := Nat × (Nat → Nat → Int64) × (Nat → Nat → Int32) × (Nat → Int32) × (Nat → Bool)) (I := fun s => s.1 ≤ f + 1 ∧ fo_ok s.2.1 s.2.2.1 s.2.2.2.1 n r mk kd xs ys s.2.2.2.2 ∧ (∀ j, s.2.2.2.2 j = true → s.1 ≤ j ∧ j ≤ f ∧ s.2.2.1 7 j ≠ nI r) ∧ (s.2.2.1 7 f = nI r ∨ s.2.2.2.2 f = true) ∧ (∀ j, s.2.2.2.2 j = true → kd j ≠ 0 → (s.2.2.1 7 (xs j) = nI r ∨ s.2.2.2.2 (xs j) = true) ∧ (s.2.2.1 7 (ys j) = nI r ∨ s.2.2.2.2 (ys j) = true)) ∧ s.2.1 0 = L 0 ∧ s.2.1 1 = L 1 ∧ s.2.1 2 = L 2) (μ := fun s => f + 1 - s.1)
      (lv := fun s => [some (.ref 8), some (.int (nI f)), some (.int (nI s.1))]) (ws := fun s => hC cI cJ cZ s.2.1 s.2.2.1 s.2.2.2.1 tl) ?_ (0, L, hu I 8 w8, V, w) ⟨Nat.zero_le _, ⟨⟨hn, hV0, hV1, hr40, hV3, hmk, hall, hSP⟩, hfm, hset, hst, hw8, hme⟩, fun j hj => ⟨Nat.zero_le _, hwI.1 j hj⟩, ?_, fun j hj hkd => ⟨?_, ?_⟩, rfl, rfl, rfl⟩
    rotate_left
    · by_cases h : I 7 f = nI r
      · exact Or.inl h
      · exact Or.inr (hwI.2.1 h)
    · by_cases h : I 7 (xs j) = nI r
      · exact Or.inl h
      · exact Or.inr ((hwI.2.2 j (Nat.zero_le _) hj hkd).1 h)
    · by_cases h : I 7 (ys j) = nI r
      · exact Or.inl h
      · exact Or.inr ((hwI.2.2 j (Nat.zero_le _) hj hkd).2 h)
    clear hwI hw8 ih hall hSP hV0 hV1 hV3 hfm hset hst hwa hme
    rintro ⟨i, L2, I2, V2, w⟩ ⟨hi, hok, hw, hff, hcl, e0, e1, e2⟩ ih
    dsimp only at hi hok hw hff hcl e0 e1 e2 ih
    have hok' := hok
    obtain ⟨⟨-, hV0, hV1, -, hV3, -, hall, hSP⟩, hfm, hset, hst, hwa, hme⟩ := hok'
    refine sv_iload_n C d_Fo_settle_57 rfl rfl ?_
    refine sv_iload_n C d_Fo_settle_58 rfl rfl ?_
    refine sv_icmp_gt (tgt := 102) C d_Fo_settle_59 (by decide) (fun h2 => ?_) (fun h2 => ?_)
    · have h2 : f < i := (nI_ltI (a := f) (b := i) (by omega) (by omega)).mp h2
      have hwf : w = fun _ => false := funext (fun j => by
        cases hj : w j with
        | false => rfl
        | true =>
          have := hw j hj
          omega)
      rw [hwf] at hok hff
      exact sv_vret C rfl d_Fo_settle_102 (Nat.le_of_ble_eq_true rfl) (Nat.le_of_ble_eq_true rfl) (fun _ _ => rfl) (⟨rfl, L2, I2, V2, rfl, hok, hff.resolve_right Bool.false_ne_true, e0, e1, e2⟩)
    · have h2 : ¬ f < i := fun h => h2 ((nI_ltI (a := f) (b := i) (by omega) (by omega)).mpr h)
      have hiin : vp_in (nI i) 60 := vp_in_nI (by omega) (by omega)
      have hic : (nI i).toNatClampNeg = i := nI_clamp (by omega)
      refine sv_aload_n C d_Fo_settle_62 rfl rfl ?_
      refine sv_get (ci := 0) (kf := 7) C i_Fo rfl (by decide) f_Fo_40 (fun _ h9 => h9) d_Fo_settle_63 (by first | assumption | rfl) rfl ?_
      refine sv_iload_n C d_Fo_settle_66 rfl rfl ?_
      refine sv_zald (t0 := 2) C rfl d_Fo_settle_67 (by first | assumption | rfl) (by assumption) ?_
      refine sv_eqs (st' := [.int (b2i (w i))]) (by show [Value.int (I2 8 (nI i).toNatClampNeg)] = _; rw [hic, hwa i (by omega)]) ?_
      cases hwi : w i with
      | false =>
        refine sv_if_eq (tgt := 96) C d_Fo_settle_68 (by decide) (fun h3 => ?_) (fun h3 => ?_)
        · refine sv_iincN C d_Fo_settle_96 rfl (by decide) rfl ?_
          refine sv_goto (tgt := 57) C d_Fo_settle_99 (by decide) ?_
          exact ih (i + 1, L2, I2, V2, w) ⟨by dsimp only; omega, hok, fun j hj => ⟨by
            have hj : w j = true := hj
            have := (hw j hj).1
            have e : j ≠ i := fun e => by rw [e, hwi] at hj; exact absurd hj (by decide)
            dsimp only
            omega, (hw j hj).2⟩, hff, hcl, e0, e1, e2⟩ (by dsimp only; omega)
        · exact absurd rfl h3
      | true =>
        obtain ⟨k1, k2, k3, k4, k5, k6, k7⟩ := hfm i (by omega)
        have hi7 := (hw i hwi).2.2
        have hparts : kd i ≠ 0 → I2 7 (xs i) = nI r ∧ I2 7 (ys i) = nI r := fun hkd => by
          have h4 := hcl i hwi hkd
          have h5 := k6 hkd
          exact ⟨h4.1.resolve_right (fun q => by have := (hw _ q).1; omega), h4.2.resolve_right (fun q => by have := (hw _ q).1; omega)⟩
        have hb1 : kd i ≠ 0 → ∀ z, ev_T (L2 4) (xs i) z → z < 2 ^ n := fun hkd z hz => (((hst (xs i) (by have := k6 hkd; omega) (hparts hkd).1).2 z).mp hz).1
        have hb2 : kd i ≠ 0 → ∀ z, ev_T (L2 4) (ys i) z → z < 2 ^ n := fun hkd z hz => (((hst (ys i) (by have := k6 hkd; omega) (hparts hkd).2).2 z).mp hz).1
        refine sv_if_eq (tgt := 96) C d_Fo_settle_68 (by decide) (fun h3 => ?_) (fun h3 => ?_)
        · exact absurd h3 (by decide)
        · refine sv_aload_n C d_Fo_settle_71 rfl rfl ?_
          refine sv_get (ci := 0) (kf := 7) C i_Fo rfl (by decide) f_Fo_40 (fun _ h9 => h9) d_Fo_settle_72 (by first | assumption | rfl) rfl ?_
          refine sv_iload_n C d_Fo_settle_75 rfl rfl ?_
          refine sv_iconst (v := 0) C d_Fo_settle_76 rfl ?_
          refine sv_zast (t0 := 2) C rfl d_Fo_settle_77 (by first | assumption | rfl) (by assumption) ?_
          refine sv_aload_n C d_Fo_settle_78 rfl rfl ?_
          refine sv_iload_n C d_Fo_settle_79 rfl rfl ?_
          refine sv_eqw (ws' := hC cI cJ cZ L2 (hu I2 8 (upd (I2 8) i 0)) V2 tl) (by dsimp only; rw [hic]; rfl) ?_
          refine sv_callV (ci := 0) C (c_Fo_evaluate (cI := cI) (cJ := cJ) (cZ := cZ) (L := L2) (I := hu I2 8 (upd (I2 8) i 0)) (V := V2) (tl := tl) (n := n) (f := i) (k := kd i) (x := xs i) (y := ys i) hn hV0 (by omega) k1 k4 k2 k3 k5 k6 k7 hall hSP hb1 hb2) s_Fo_62 ki_Fo_evaluate ks_Fo_evaluate ⟨rfl, rfl, Nat.le_of_ble_eq_true rfl, Nat.le_of_ble_eq_true rfl⟩ rfl d_Fo_settle_80 (by first | assumption | rfl) (Nat.le_of_ble_eq_true rfl) ⟨(Nat.le_of_ble_eq_true rfl), (Nat.le_of_ble_eq_true rfl)⟩ (fun E ws9 h9 => absurd h9 id) (fun v9 ws9 hp => ?_)
          obtain ⟨rfl, fO, fT, I0, I1, J2, J3, v2, v4, rfl, hT1, hT2, hU5, hU⟩ := hp
          refine sv_aload_n C d_Fo_settle_83 rfl rfl ?_
          refine sv_get (ci := 0) (kf := 6) C i_Fo rfl (by decide) f_Fo_37 (fun _ h9 => h9) d_Fo_settle_84 (by first | assumption | rfl) rfl ?_
          refine sv_iload_n C d_Fo_settle_87 rfl rfl ?_
          refine sv_aload_n C d_Fo_settle_88 rfl rfl ?_
          refine sv_get (ci := 0) (kf := 0) C i_Fo rfl (by decide) f_Fo_44 (fun _ h9 => h9) d_Fo_settle_89 (by first | assumption | rfl) rfl ?_
          refine sv_get (ci := 1) (kf := 4) C i_Ma rfl (by decide) f_Fo_65 (fun _ h9 => h9) d_Fo_settle_92 (by first | assumption | rfl) rfl ?_
          refine sv_iast (t0 := 0) C rfl d_Fo_settle_95 (by first | assumption | rfl) (by assumption) ?_
          refine sv_eqw (ws' := hC cI cJ cZ (hu (hu L2 3 fO) 4 fT) (hu (hu (hu (hu (hu (hu I2 8 (upd (I2 8) i 0)) 0 I0) 1 I1) 2 J2) 3 J3) 7 (upd (I2 7) i (nI r))) (hu (hu V2 2 v2) 4 v4) tl) (by show _ = _; rw [← hV1, hic]; rfl) ?_
          refine sv_iincN C d_Fo_settle_96 rfl (by decide) rfl ?_
          refine sv_goto (tgt := 57) C d_Fo_settle_99 (by decide) ?_
          have hev : ∀ c, c ≠ i → ev_T fT c = ev_T (L2 4) c := fun c hc => by
            funext z
            exact propext ⟨fun q => ⟨q.1, by rw [← hT1 c z q.1 hc]; exact q.2⟩, fun q => ⟨q.1, by rw [hT1 c z q.1 hc]; exact q.2⟩⟩
          have h7n : ∀ j, j ≠ i → upd (I2 7) i (nI r) j = I2 7 j := fun j hj => pk_un hj
          have hpn : kd i ≠ 0 → xs i ≠ i ∧ ys i ≠ i := fun hkd => by have := k6 hkd; omega
          have hstn : ∀ j, I2 7 j = nI r → j ≠ i := fun j hj e => hi7 (by rw [← e]; exact hj)
          refine ih (i + 1, hu (hu L2 3 fO) 4 fT, hu (hu (hu (hu (hu (hu I2 8 (upd (I2 8) i 0)) 0 I0) 1 I1) 2 J2) 3 J3) 7 (upd (I2 7) i (nI r)), hu (hu V2 2 v2) 4 v4, hu w i false) ⟨by dsimp only; omega, ⟨⟨hn, hV0, hV1, hr40, hV3, hmk, hall, hSP⟩, hfm, fun j hj => ?_, fun j hj h7 => ?_, fun j hj => ?_, ?_⟩, fun j hj => ?_, ?_, fun j hj hkd => ?_, e0, e1, e2⟩ (by dsimp only; omega)
          · show upd (I2 7) i (nI r) j = -1 ∨ ∃ q, q ≤ r ∧ upd (I2 7) i (nI r) j = nI q
            by_cases e : j = i
            · rw [e, pk_us]
              exact Or.inr ⟨r, Nat.le_refl _, rfl⟩
            · rw [h7n j e]
              exact hset j hj
          · have h7 : upd (I2 7) i (nI r) j = nI r := h7
            show (kd j ≠ 0 → upd (I2 7) i (nI r) (xs j) = nI r ∧ upd (I2 7) i (nI r) (ys j) = nI r) ∧ ∀ z, ev_T fT j z ↔ (z < 2 ^ n ∧ fm_v (ev_S (L2 1)) (ev_T fT) (kd j) (xs j) (ys j) z)
            by_cases e : j = i
            · rw [e]
              refine ⟨fun hkd => ⟨by rw [h7n _ (hpn hkd).1]; exact (hparts hkd).1, by rw [h7n _ (hpn hkd).2]; exact (hparts hkd).2⟩, fun z => ?_⟩
              rw [hT2 z]
              exact and_congr_right (fun _ => fm_cg (fun hkd => (hev _ (hpn hkd).1).symm) (fun hkd => (hev _ (hpn hkd).2).symm))
            · rw [h7n j e] at h7
              obtain ⟨g1, g2⟩ := hst j hj h7
              refine ⟨fun hkd => ?_, fun z => ?_⟩
              · have g3 := g1 hkd
                rw [h7n _ (hstn _ g3.1), h7n _ (hstn _ g3.2)]
                exact g3
              · rw [hev j e, g2 z]
                exact and_congr_right (fun _ => fm_cg (fun hkd => (hev _ (hstn _ (g1 hkd).1)).symm) (fun hkd => (hev _ (hstn _ (g1 hkd).2)).symm))
          · show upd (I2 8) i 0 j = b2i (hu w i false j)
            by_cases e : j = i
            · rw [e, pk_us, hu_s]
              rfl
            · rw [pk_un e, hu_n e]
              exact hwa j hj
          · show v4 = -1 ∨ ∃ j, j < mk ∧ v4 = nI j ∧ kd j = 5 ∧ (upd (I2 7) i (nI r) j = nI r → un_ok (ev_S (L2 1)) (ev_T fT (xs j)) (ev_T fT (ys j)) (2 ^ n) I1)
            by_cases h5 : kd i = 5
            · obtain ⟨g1, g2⟩ := hU5 h5
              refine Or.inr ⟨i, by omega, g1, h5, fun _ => ?_⟩
              rw [hev _ (hpn (by omega)).1, hev _ (hpn (by omega)).2]
              exact g2
            · rcases hU h5 with g1 | ⟨g1, g2⟩
              · exact Or.inl g1
              · rcases hme with g3 | ⟨j, g3, g4, g5, g6⟩
                · exact Or.inl (g1.trans g3)
                · refine Or.inr ⟨j, g3, g1.trans g4, g5, fun h7 => ?_⟩
                  have hji : j ≠ i := fun e => h5 (by rw [← e]; exact g5)
                  rw [h7n j hji] at h7
                  have g7 := (hst j g3 h7).1 (by omega)
                  rw [hev _ (hstn _ g7.1), hev _ (hstn _ g7.2), g2]
                  exact g6 h7
          · dsimp only at hj
            by_cases e : j = i
            · rw [e, hu_s] at hj
              exact absurd hj (by decide)
            · rw [hu_n e] at hj
              have g1 := hw j hj
              exact ⟨by dsimp only; omega, g1.2.1, by show upd (I2 7) i (nI r) j ≠ nI r; rw [h7n j e]; exact g1.2.2⟩
          · show upd (I2 7) i (nI r) f = nI r ∨ hu w i false f = true
            by_cases e : f = i
            · rw [e, pk_us]
              exact Or.inl rfl
            · rw [h7n f e, hu_n e]
              exact hff
          · dsimp only at hj
            by_cases e : j = i
            · rw [e, hu_s] at hj
              exact absurd hj (by decide)
            · rw [hu_n e] at hj
              have g1 := hcl j hj hkd
              show (upd (I2 7) i (nI r) (xs j) = nI r ∨ hu w i false (xs j) = true) ∧ (upd (I2 7) i (nI r) (ys j) = nI r ∨ hu w i false (ys j) = true)
              constructor
              · by_cases e2 : xs j = i
                · rw [e2, pk_us]
                  exact Or.inl rfl
                · rw [h7n _ e2, hu_n e2]
                  exact g1.1
              · by_cases e2 : ys j = i
                · rw [e2, pk_us]
                  exact Or.inl rfl
                · rw [h7n _ e2, hu_n e2]
                  exact g1.2
  · obtain ⟨j, rfl⟩ : ∃ j, i = j + 1 := by
      refine ⟨i - 1, ?_⟩
      have h2 : i ≠ 0 := fun h => h1 ((sp_qlt (by omega)).mpr h)
      omega
    have hjin : vp_in (nI j) 60 := vp_in_nI (by omega) (by omega)
    have hjc : (nI j).toNatClampNeg = j := nI_clamp (by omega)
    obtain ⟨k1, k2, k3, k4, k5, k6, k7⟩ := hfm j (by omega)
    refine sv_aload_n C d_Fo_settle_11 rfl rfl ?_
    refine sv_get (ci := 0) (kf := 7) C i_Fo rfl (by decide) f_Fo_40 (fun _ h9 => h9) d_Fo_settle_12 (by first | assumption | rfl) rfl ?_
    refine sv_iload_n C d_Fo_settle_15 rfl rfl ?_
    refine sv_zald (t0 := 2) C rfl d_Fo_settle_16 (by first | assumption | rfl) (by assumption) ?_
    refine sv_eqs (st' := [.int (b2i (w j))]) (by show [Value.int (w8 (nI j).toNatClampNeg)] = _; rw [hjc, hw8 j (by omega)]) ?_
    cases hwj : w j with
    | false =>
      refine sv_if_eq (tgt := 49) C d_Fo_settle_17 (by decide) (fun h2 => ?_) (fun h2 => ?_)
      · refine sv_iincD C d_Fo_settle_49 rfl (by decide) rfl ?_
        refine sv_goto (tgt := 7) C d_Fo_settle_52 (by decide) ?_
        exact ih (j, w8, w) ⟨by dsimp only; omega, hw8, hwI.1, hwI.2.1, fun k hk hk2 => by
          have hk2 : w k = true := hk2
          by_cases e : k = j
          · rw [e, hwj] at hk2
            exact absurd hk2 (by decide)
          · exact hwI.2.2 k (by dsimp only at hk; omega) hk2⟩ (by dsimp only; omega)
      · exact absurd rfl h2
    | true =>
      refine sv_if_eq (tgt := 49) C d_Fo_settle_17 (by decide) (fun h2 => ?_) (fun h2 => ?_)
      · exact absurd h2 (by decide)
      · refine sv_aload_n C d_Fo_settle_20 rfl rfl ?_
        refine sv_get (ci := 0) (kf := 3) C i_Fo rfl (by decide) f_Fo_27 (fun _ h9 => h9) d_Fo_settle_21 (by first | assumption | rfl) rfl ?_
        refine sv_iload_n C d_Fo_settle_24 rfl rfl ?_
        refine sv_iald (t0 := 0) C rfl d_Fo_settle_25 (by first | assumption | rfl) (by assumption) ?_
        refine sv_eqs (st' := [.int (nI (kd j))]) (by show [Value.int (I 4 (nI j).toNatClampNeg)] = _; rw [hjc, k1]) ?_
        refine sv_if_eq (tgt := 49) C d_Fo_settle_26 (by decide) (fun h3 => ?_) (fun h3 => ?_)
        · have h3 : kd j = 0 := nI_inj (b := 0) (by omega) (by omega) h3
          refine sv_iincD C d_Fo_settle_49 rfl (by decide) rfl ?_
          refine sv_goto (tgt := 7) C d_Fo_settle_52 (by decide) ?_
          exact ih (j, w8, w) ⟨by dsimp only; omega, hw8, hwI.1, hwI.2.1, fun k hk hk2 hkd => by
            by_cases e : k = j
            · rw [e] at hkd
              exact absurd h3 hkd
            · exact hwI.2.2 k (by dsimp only at hk; omega) hk2 hkd⟩ (by dsimp only; omega)
        · have hkd : kd j ≠ 0 := fun h => h3 (by rw [h]; rfl)
          have hxy := k6 hkd
          refine sv_aload_n C d_Fo_settle_29 rfl rfl ?_
          refine sv_aload_n C d_Fo_settle_30 rfl rfl ?_
          refine sv_get (ci := 0) (kf := 4) C i_Fo rfl (by decide) f_Fo_31 (fun _ h9 => h9) d_Fo_settle_31 (by first | assumption | rfl) rfl ?_
          refine sv_iload_n C d_Fo_settle_34 rfl rfl ?_
          refine sv_iald (t0 := 0) C rfl d_Fo_settle_35 (by first | assumption | rfl) (by assumption) ?_
          refine sv_eqs (st' := [.int (nI (xs j)), .ref 8]) (by show [Value.int (I 5 (nI j).toNatClampNeg), _] = _; rw [hjc, k2]) ?_
          refine sv_callV (ci := 0) C (c_Fo_want (cI := cI) (cJ := cJ) (cZ := cZ) (L := L) (I := hu I 8 w8) (V := V) (tl := tl) (i := xs j) (by omega)) s_Fo_59 ki_Fo_want ks_Fo_want ⟨rfl, rfl, Nat.le_of_ble_eq_true rfl, Nat.le_of_ble_eq_true rfl⟩ rfl d_Fo_settle_36 (by first | assumption | rfl) (Nat.le_of_ble_eq_true rfl) ⟨(Nat.le_of_ble_eq_true rfl), (Nat.le_of_ble_eq_true rfl)⟩ (fun E ws9 h9 => absurd h9 id) (fun v9 ws9 hp => ?_)
          obtain ⟨rfl, wb, rfl, hb1, hb2⟩ := hp
          have hb1 : I 7 (xs j) = V 1 → wb = w8 := hb1
          have hb2 : I 7 (xs j) ≠ V 1 → wb = upd w8 (xs j) 1 := hb2
          have hA : ∃ wB : Nat → Bool, (∀ k, k < 60 → wb k = b2i (wB k)) ∧ wa_I (I 7) r f (j + 1) kd xs ys wB ∧ (I 7 (xs j) ≠ nI r → wB (xs j) = true) := by
            by_cases h : I 7 (xs j) = V 1
            · exact ⟨w, by rw [hb1 h]; exact hw8, hwI, fun q => absurd (h.trans hV1) q⟩
            · exact ⟨hu w (xs j) true, by rw [hb2 h]; exact wa_put hw8, wa_add hwI (by omega) (by omega) (fun q => h (q.trans hV1.symm)), fun _ => hu_s _ _ _⟩
          obtain ⟨wB, hwB, hwBI, hwBx⟩ := hA
          refine sv_eqw (ws' := hC cI cJ cZ L (hu I 8 wb) V tl) (by rw [hu_hu]) ?_
          refine sv_aload_n C d_Fo_settle_39 rfl rfl ?_
          refine sv_aload_n C d_Fo_settle_40 rfl rfl ?_
          refine sv_get (ci := 0) (kf := 5) C i_Fo rfl (by decide) f_Fo_34 (fun _ h9 => h9) d_Fo_settle_41 (by first | assumption | rfl) rfl ?_
          refine sv_iload_n C d_Fo_settle_44 rfl rfl ?_
          refine sv_iald (t0 := 0) C rfl d_Fo_settle_45 (by first | assumption | rfl) (by assumption) ?_
          refine sv_eqs (st' := [.int (nI (ys j)), .ref 8]) (by show [Value.int (I 6 (nI j).toNatClampNeg), _] = _; rw [hjc, k3]) ?_
          refine sv_callV (ci := 0) C (c_Fo_want (cI := cI) (cJ := cJ) (cZ := cZ) (L := L) (I := hu I 8 wb) (V := V) (tl := tl) (i := ys j) (by omega)) s_Fo_59 ki_Fo_want ks_Fo_want ⟨rfl, rfl, Nat.le_of_ble_eq_true rfl, Nat.le_of_ble_eq_true rfl⟩ rfl d_Fo_settle_46 (by first | assumption | rfl) (Nat.le_of_ble_eq_true rfl) ⟨(Nat.le_of_ble_eq_true rfl), (Nat.le_of_ble_eq_true rfl)⟩ (fun E ws9 h9 => absurd h9 id) (fun v9 ws9 hp => ?_)
          obtain ⟨rfl, wc, rfl, hc1, hc2⟩ := hp
          have hc1 : I 7 (ys j) = V 1 → wc = wb := hc1
          have hc2 : I 7 (ys j) ≠ V 1 → wc = upd wb (ys j) 1 := hc2
          have hB : ∃ wC : Nat → Bool, (∀ k, k < 60 → wc k = b2i (wC k)) ∧ wa_I (I 7) r f (j + 1) kd xs ys wC ∧ (I 7 (xs j) ≠ nI r → wC (xs j) = true) ∧ (I 7 (ys j) ≠ nI r → wC (ys j) = true) := by
            by_cases h : I 7 (ys j) = V 1
            · exact ⟨wB, by rw [hc1 h]; exact hwB, hwBI, hwBx, fun q => absurd (h.trans hV1) q⟩
            · refine ⟨hu wB (ys j) true, by rw [hc2 h]; exact wa_put hwB, wa_add hwBI (by omega) (by omega) (fun q => h (q.trans hV1.symm)), fun q => ?_, fun _ => hu_s _ _ _⟩
              by_cases e : xs j = ys j
              · rw [e, hu_s]
              · rw [hu_n e]
                exact hwBx q
          obtain ⟨wC, hwC, hwCI, hwCx, hwCy⟩ := hB
          refine sv_eqw (ws' := hC cI cJ cZ L (hu I 8 wc) V tl) (by rw [hu_hu]) ?_
          refine sv_iincD C d_Fo_settle_49 rfl (by decide) rfl ?_
          refine sv_goto (tgt := 7) C d_Fo_settle_52 (by decide) ?_
          exact ih (j, wc, wC) ⟨by dsimp only; omega, hwC, hwCI.1, hwCI.2.1, fun k hk hk2 hkd2 => by
            by_cases e : k = j
            · rw [e]
              exact ⟨hwCx, hwCy⟩
            · exact hwCI.2.2 k (by dsimp only at hk; omega) hk2 hkd2⟩ (by dsimp only; omega)
end
section
/-! StateLogic$Formulas: the rest; StateLogic.hasTwoParts -/
set_option maxRecDepth 100000 in
set_option maxHeartbeats 4000000 in
theorem c_Fo_forgetAll {l : Launch} {D : va_G} {cI cJ cZ : ClassId} {L : Nat → Nat → Int64} {I : Nat → Nat → Int32} {V : Nat → Int32} {tl : List va_E} :
    sv_M l y_Fo_forgetAll [Cond.code y_Fo_forgetAll b_Fo_forgetAll 1 none] ({ frames := 0, cells := 0, slots := 0, locals := 0 } : Room) D sv_cl (sv_ty cI cJ cZ) [.ref 8] (hC cI cJ cZ L I V tl) 0 0 (fun r ws' => r = none ∧ ws' = hC cI cJ cZ L I (hu (hu V 3 0) 4 (-1)) tl) sv_no 0 0 := by
  refine sv_of (cc := b_Fo_forgetAll) (by decide +kernel) (Nat.le_of_ble_eq_true rfl) ?_
  intro pX eX sX mX aX bX tX cX AX adX C htab hnm
  refine sv_aload_n C d_Fo_forgetAll_0 rfl rfl ?_
  refine sv_iconst (v := 0) C d_Fo_forgetAll_1 rfl ?_
  refine sv_put (ci := 0) (kf := 8) (ty := .int) C i_Fo t_Fo t_Fo_ok n_Fo rfl (by decide) f_Fo_52 (fun _ h9 => h9) rfl (by decide +kernel) d_Fo_forgetAll_2 (by first | assumption | rfl) rfl rfl (Nat.le_of_ble_eq_true rfl) ?_
  refine sv_aload_n C d_Fo_forgetAll_5 rfl rfl ?_
  refine sv_iconst (v := (-1)) C d_Fo_forgetAll_6 rfl ?_
  refine sv_put (ci := 0) (kf := 9) (ty := .int) C i_Fo t_Fo t_Fo_ok n_Fo rfl (by decide) f_Fo_48 (fun _ h9 => h9) rfl (by decide +kernel) d_Fo_forgetAll_7 (by first | assumption | rfl) rfl rfl (Nat.le_of_ble_eq_true rfl) ?_
  exact sv_vret C rfl d_Fo_forgetAll_10 (Nat.le_of_ble_eq_true rfl) (Nat.le_of_ble_eq_true rfl) (fun _ _ => rfl) (⟨rfl, rfl⟩)
set_option maxRecDepth 100000 in
set_option maxHeartbeats 4000000 in
theorem c_Fo_isThere {l : Launch} {D : va_G} {cI cJ cZ : ClassId} {L : Nat → Nat → Int64} {I : Nat → Nat → Int32} {V : Nat → Int32} {tl : List va_E} {x : Int32} :
    sv_M l y_Fo_isThere [Cond.code y_Fo_isThere b_Fo_isThere 2 (some .boolean)] ({ frames := 0, cells := 0, slots := 0, locals := 0 } : Room) D sv_cl (sv_ty cI cJ cZ) [.ref 8, .int x] (hC cI cJ cZ L I V tl) 0 0 (fun r ws' => r = some (.int (if 0 ≤ x ∧ x < V 3 then 1 else 0)) ∧ ws' = hC cI cJ cZ L I V tl) sv_no 0 0 := by
  refine sv_of (cc := b_Fo_isThere) (by decide +kernel) (Nat.le_of_ble_eq_true rfl) ?_
  intro pX eX sX mX aX bX tX cX AX adX C htab hnm
  refine sv_iload_n C d_Fo_isThere_0 rfl rfl ?_
  refine sv_if_lt (tgt := 16) C d_Fo_isThere_1 (by decide) (fun hT => ?_) (fun hF => ?_)
  · have h : ¬ (0 ≤ x ∧ x < V 3) := fun h => absurd hT (Int32.not_lt.mpr h.1)
    refine sv_iconst (v := 0) C d_Fo_isThere_16 rfl ?_
    exact sv_iret C rfl rfl d_Fo_isThere_17 (Nat.le_of_ble_eq_true rfl) (Nat.le_of_ble_eq_true rfl) (fun _ _ => rfl) (by rw [if_neg h]; exact ⟨rfl, rfl⟩)
  · refine sv_iload_n C d_Fo_isThere_4 rfl rfl ?_
    refine sv_aload_n C d_Fo_isThere_5 rfl rfl ?_
    refine sv_get (ci := 0) (kf := 8) C i_Fo rfl (by decide) f_Fo_52 (fun _ h9 => h9) d_Fo_isThere_6 (by first | assumption | rfl) rfl ?_
    refine sv_icmp_ge (tgt := 16) C d_Fo_isThere_9 (by decide) (fun hT2 => ?_) (fun hF2 => ?_)
    · have h : ¬ (0 ≤ x ∧ x < V 3) := fun h => absurd hT2 (Int32.not_le.mpr h.2)
      refine sv_iconst (v := 0) C d_Fo_isThere_16 rfl ?_
      exact sv_iret C rfl rfl d_Fo_isThere_17 (Nat.le_of_ble_eq_true rfl) (Nat.le_of_ble_eq_true rfl) (fun _ _ => rfl) (by rw [if_neg h]; exact ⟨rfl, rfl⟩)
    · have h : 0 ≤ x ∧ x < V 3 := ⟨Int32.not_lt.mp hF, Int32.not_le.mp hF2⟩
      refine sv_iconst (v := 1) C d_Fo_isThere_12 rfl ?_
      refine sv_goto (tgt := 17) C d_Fo_isThere_13 (by decide) ?_
      exact sv_iret C rfl rfl d_Fo_isThere_17 (Nat.le_of_ble_eq_true rfl) (Nat.le_of_ble_eq_true rfl) (fun _ _ => rfl) (by rw [if_pos h]; exact ⟨rfl, rfl⟩)
def tp (k : Int32) : Prop := k = 2 ∨ k = 3 ∨ k = 5 ∨ k = 7
set_option maxRecDepth 100000 in
set_option maxHeartbeats 4000000 in
theorem c_SL_hasTwoParts {l : Launch} {D : va_G} {cI cJ cZ : ClassId} {ws : List va_E} {k : Int32} :
    sv_M l y_SL_hasTwoParts [Cond.code y_SL_hasTwoParts b_SL_hasTwoParts 1 (some .boolean)] ({ frames := 0, cells := 0, slots := 0, locals := 0 } : Room) D sv_cl (sv_ty cI cJ cZ) [.int k] ws 0 0 (fun r ws' => ∃ t : Bool, r = some (.int (b2i t)) ∧ (t = true ↔ tp k) ∧ ws' = ws) sv_no 0 0 := by
  refine sv_of (cc := b_SL_hasTwoParts) (by decide +kernel) (Nat.le_of_ble_eq_true rfl) ?_
  intro pX eX sX mX aX bX tX cX AX adX C htab hnm
  refine sv_iload_n C d_SL_hasTwoParts_0 rfl rfl ?_
  refine sv_iconst (v := 2) C d_SL_hasTwoParts_1 rfl ?_
  refine sv_icmp_eq (tgt := 21) C d_SL_hasTwoParts_2 (by decide) (fun h1 => ?_) (fun h1 => ?_)
  · refine sv_iconst (v := 1) C d_SL_hasTwoParts_21 rfl ?_
    refine sv_goto (tgt := 26) C d_SL_hasTwoParts_22 (by decide) ?_
    exact sv_iret C rfl rfl d_SL_hasTwoParts_26 (Nat.le_of_ble_eq_true rfl) (Nat.le_of_ble_eq_true rfl) (fun _ _ => rfl) (⟨true, rfl, ⟨fun _ => Or.inl h1, fun _ => rfl⟩, rfl⟩)
  · refine sv_iload_n C d_SL_hasTwoParts_5 rfl rfl ?_
    refine sv_iconst (v := 3) C d_SL_hasTwoParts_6 rfl ?_
    refine sv_icmp_eq (tgt := 21) C d_SL_hasTwoParts_7 (by decide) (fun h2 => ?_) (fun h2 => ?_)
    · refine sv_iconst (v := 1) C d_SL_hasTwoParts_21 rfl ?_
      refine sv_goto (tgt := 26) C d_SL_hasTwoParts_22 (by decide) ?_
      exact sv_iret C rfl rfl d_SL_hasTwoParts_26 (Nat.le_of_ble_eq_true rfl) (Nat.le_of_ble_eq_true rfl) (fun _ _ => rfl) (⟨true, rfl, ⟨fun _ => Or.inr (Or.inl h2), fun _ => rfl⟩, rfl⟩)
    · refine sv_iload_n C d_SL_hasTwoParts_10 rfl rfl ?_
      refine sv_iconst (v := 5) C d_SL_hasTwoParts_11 rfl ?_
      refine sv_icmp_eq (tgt := 21) C d_SL_hasTwoParts_12 (by decide) (fun h3 => ?_) (fun h3 => ?_)
      · refine sv_iconst (v := 1) C d_SL_hasTwoParts_21 rfl ?_
        refine sv_goto (tgt := 26) C d_SL_hasTwoParts_22 (by decide) ?_
        exact sv_iret C rfl rfl d_SL_hasTwoParts_26 (Nat.le_of_ble_eq_true rfl) (Nat.le_of_ble_eq_true rfl) (fun _ _ => rfl) (⟨true, rfl, ⟨fun _ => Or.inr (Or.inr (Or.inl h3)), fun _ => rfl⟩, rfl⟩)
      · refine sv_iload_n C d_SL_hasTwoParts_15 rfl rfl ?_
        refine sv_bipush (v := 7) C d_SL_hasTwoParts_16 rfl ?_
        refine sv_icmp_ne (tgt := 25) C d_SL_hasTwoParts_18 (by decide) (fun h4 => ?_) (fun h4 => ?_)
        · refine sv_iconst (v := 0) C d_SL_hasTwoParts_25 rfl ?_
          exact sv_iret C rfl rfl d_SL_hasTwoParts_26 (Nat.le_of_ble_eq_true rfl) (Nat.le_of_ble_eq_true rfl) (fun _ _ => rfl) (⟨false, rfl, ⟨fun h => absurd h (by decide), fun h => by rcases h with h | h | h | h; exact absurd h h1; exact absurd h h2; exact absurd h h3; exact absurd h h4⟩, rfl⟩)
        · refine sv_iconst (v := 1) C d_SL_hasTwoParts_21 rfl ?_
          refine sv_goto (tgt := 26) C d_SL_hasTwoParts_22 (by decide) ?_
          exact sv_iret C rfl rfl d_SL_hasTwoParts_26 (Nat.le_of_ble_eq_true rfl) (Nat.le_of_ble_eq_true rfl) (fun _ _ => rfl) (⟨true, rfl, ⟨fun _ => Or.inr (Or.inr (Or.inr h4)), fun _ => rfl⟩, rfl⟩)
set_option maxRecDepth 100000 in
set_option maxHeartbeats 4000000 in
theorem c_Fo_addFormula {l : Launch} {D : va_G} {cI cJ cZ : ClassId} {L : Nat → Nat → Int64} {I : Nat → Nat → Int32} {V : Nat → Int32} {tl : List va_E} {mk : Nat} {k x y : Int32} (hm : mk < 60) (hV : V 3 = nI mk) :
    sv_M l y_Fo_addFormula [Cond.code y_Fo_addFormula b_Fo_addFormula 4 (some .int)] ({ frames := 1, cells := 0, slots := 0, locals := 20 } : Room) D sv_cl (sv_ty cI cJ cZ) [.ref 8, .int k, .int x, .int y] (hC cI cJ cZ L I V tl) 0 0 (fun r ws' => r = some (.int (nI mk)) ∧ ∃ y' : Int32, ws' = hC cI cJ cZ L (hu (hu (hu (hu I 4 (upd (I 4) mk k)) 5 (upd (I 5) mk x)) 6 (upd (I 6) mk y')) 7 (upd (I 7) mk (-1))) (hu V 3 (nI (mk + 1))) tl ∧ ((k = 0 ∨ tp k) → y' = y) ∧ (¬ (k = 0 ∨ tp k) → y' = x)) sv_no 0 0 := by
  refine sv_of (cc := b_Fo_addFormula) (by decide +kernel) (Nat.le_of_ble_eq_true rfl) ?_
  intro pX eX sX mX aX bX tX cX AX adX C htab hnm
  have h1 : vp_in (V 3) 60 := by rw [hV]; exact vp_in_nI hm (by omega)
  have e1 : (V 3).toNatClampNeg = mk := by rw [hV]; exact nI_clamp (by omega)
  refine sv_join (σ := Int32) (pc1 := 44) (st1 := []) (k1 := 0) (n1 := 0) (J := fun _ => False) (lv1 := fun _ => []) (ws1 := fun _ => []) (fun _ h => absurd h id) (fun _ => ?_)
  refine sv_aload_n C d_Fo_addFormula_0 rfl rfl ?_
  refine sv_get (ci := 0) (kf := 3) C i_Fo rfl (by decide) f_Fo_27 (fun _ h9 => h9) d_Fo_addFormula_1 (by first | assumption | rfl) rfl ?_
  refine sv_aload_n C d_Fo_addFormula_4 rfl rfl ?_
  refine sv_get (ci := 0) (kf := 8) C i_Fo rfl (by decide) f_Fo_52 (fun _ h9 => h9) d_Fo_addFormula_5 (by first | assumption | rfl) rfl ?_
  refine sv_iload_n C d_Fo_addFormula_8 rfl rfl ?_
  refine sv_iast (t0 := 0) C rfl d_Fo_addFormula_9 (by first | assumption | rfl) (by assumption) ?_
  refine sv_aload_n C d_Fo_addFormula_10 rfl rfl ?_
  refine sv_get (ci := 0) (kf := 4) C i_Fo rfl (by decide) f_Fo_31 (fun _ h9 => h9) d_Fo_addFormula_11 (by first | assumption | rfl) rfl ?_
  refine sv_aload_n C d_Fo_addFormula_14 rfl rfl ?_
  refine sv_get (ci := 0) (kf := 8) C i_Fo rfl (by decide) f_Fo_52 (fun _ h9 => h9) d_Fo_addFormula_15 (by first | assumption | rfl) rfl ?_
  refine sv_iload_n C d_Fo_addFormula_18 rfl rfl ?_
  refine sv_iast (t0 := 0) C rfl d_Fo_addFormula_19 (by first | assumption | rfl) (by assumption) ?_
  refine sv_aload_n C d_Fo_addFormula_20 rfl rfl ?_
  refine sv_get (ci := 0) (kf := 5) C i_Fo rfl (by decide) f_Fo_34 (fun _ h9 => h9) d_Fo_addFormula_21 (by first | assumption | rfl) rfl ?_
  refine sv_aload_n C d_Fo_addFormula_24 rfl rfl ?_
  refine sv_get (ci := 0) (kf := 8) C i_Fo rfl (by decide) f_Fo_52 (fun _ h9 => h9) d_Fo_addFormula_25 (by first | assumption | rfl) rfl ?_
  refine sv_iload_n C d_Fo_addFormula_28 rfl rfl ?_
  have fin : ∀ y' : Int32, hC cI cJ cZ L (hu (hu (hu (hu I 4 (upd (I 4) (V 3).toNatClampNeg k)) 5 (upd (I 5) (V 3).toNatClampNeg x)) 6 (upd (I 6) (V 3).toNatClampNeg y')) 7 (upd (I 7) (V 3).toNatClampNeg (-1))) (hu V 3 (V 3 + 1)) tl = hC cI cJ cZ L (hu (hu (hu (hu I 4 (upd (I 4) mk k)) 5 (upd (I 5) mk x)) 6 (upd (I 6) mk y')) 7 (upd (I 7) mk (-1))) (hu V 3 (nI (mk + 1))) tl := fun y' => by rw [e1, hV, nI_1]
  have fin2 : V 3 + 1 - 1 = nI mk := by rw [hV, nI_1, nI_pred]
  refine sv_if_eq (tgt := 39) C d_Fo_addFormula_29 (by decide) (fun h2 => ?_) (fun h2 => ?_)
  · refine sv_iload_n C d_Fo_addFormula_39 rfl rfl ?_
    refine sv_goto (tgt := 44) C d_Fo_addFormula_40 (by decide) ?_
    refine sv_iast (t0 := 0) C rfl d_Fo_addFormula_44 (by first | assumption | rfl) (by assumption) ?_
    refine sv_aload_n C d_Fo_addFormula_45 rfl rfl ?_
    refine sv_get (ci := 0) (kf := 6) C i_Fo rfl (by decide) f_Fo_37 (fun _ h9 => h9) d_Fo_addFormula_46 (by first | assumption | rfl) rfl ?_
    refine sv_aload_n C d_Fo_addFormula_49 rfl rfl ?_
    refine sv_get (ci := 0) (kf := 8) C i_Fo rfl (by decide) f_Fo_52 (fun _ h9 => h9) d_Fo_addFormula_50 (by first | assumption | rfl) rfl ?_
    refine sv_iconst (v := (-1)) C d_Fo_addFormula_53 rfl ?_
    refine sv_iast (t0 := 0) C rfl d_Fo_addFormula_54 (by first | assumption | rfl) (by assumption) ?_
    refine sv_aload_n C d_Fo_addFormula_55 rfl rfl ?_
    refine sv_dup C d_Fo_addFormula_56 rfl ?_
    refine sv_get (ci := 0) (kf := 8) C i_Fo rfl (by decide) f_Fo_52 (fun _ h9 => h9) d_Fo_addFormula_57 (by first | assumption | rfl) rfl ?_
    refine sv_iconst (v := 1) C d_Fo_addFormula_60 rfl ?_
    refine sv_iadd C d_Fo_addFormula_61 ?_
    refine sv_put (ci := 0) (kf := 8) (ty := .int) C i_Fo t_Fo t_Fo_ok n_Fo rfl (by decide) f_Fo_52 (fun _ h9 => h9) rfl (by decide +kernel) d_Fo_addFormula_62 (by first | assumption | rfl) rfl rfl (Nat.le_of_ble_eq_true rfl) ?_
    refine sv_aload_n C d_Fo_addFormula_65 rfl rfl ?_
    refine sv_get (ci := 0) (kf := 8) C i_Fo rfl (by decide) f_Fo_52 (fun _ h9 => h9) d_Fo_addFormula_66 (by first | assumption | rfl) rfl ?_
    refine sv_iconst (v := 1) C d_Fo_addFormula_69 rfl ?_
    refine sv_isub C d_Fo_addFormula_70 ?_
    refine sv_eqs (st' := [.int (nI mk)]) (by rw [← fin2]) ?_
    refine sv_eqw (fin y) ?_
    exact sv_iret C rfl rfl d_Fo_addFormula_71 (Nat.le_of_ble_eq_true rfl) (Nat.le_of_ble_eq_true rfl) (fun _ _ => rfl) (⟨rfl, y, rfl, fun _ => rfl, fun h => absurd (Or.inl h2) h⟩)
  · refine sv_iload_n C d_Fo_addFormula_32 rfl rfl ?_
    refine sv_callSN C (c_SL_hasTwoParts (cI := cI) (cJ := cJ) (cZ := cZ) (k := k)) mn_Fo_55 z_SL k_SL_hasTwoParts kt_SL_hasTwoParts (by decide +kernel) (show (parseMethodDescriptor y_SL_hasTwoParts.desc).map (fun d => d.parameters.length) = some 1 by decide +kernel) ⟨rfl, rfl, Nat.le_of_ble_eq_true rfl, Nat.le_of_ble_eq_true rfl⟩ d_Fo_addFormula_33 (Nat.le_of_ble_eq_true rfl) ⟨(Nat.le_of_ble_eq_true rfl), (Nat.le_of_ble_eq_true rfl)⟩ (fun v9 ws9 hp => ?_)
    obtain ⟨t, rfl, ht, rfl⟩ := hp
    cases t with
    | true =>
      refine sv_if_eq (tgt := 43) C d_Fo_addFormula_36 (by decide) (fun h3 => ?_) (fun h3 => ?_)
      · exact absurd h3 (by decide)
      · refine sv_iload_n C d_Fo_addFormula_39 rfl rfl ?_
        refine sv_goto (tgt := 44) C d_Fo_addFormula_40 (by decide) ?_
        refine sv_iast (t0 := 0) C rfl d_Fo_addFormula_44 (by first | assumption | rfl) (by assumption) ?_
        refine sv_aload_n C d_Fo_addFormula_45 rfl rfl ?_
        refine sv_get (ci := 0) (kf := 6) C i_Fo rfl (by decide) f_Fo_37 (fun _ h9 => h9) d_Fo_addFormula_46 (by first | assumption | rfl) rfl ?_
        refine sv_aload_n C d_Fo_addFormula_49 rfl rfl ?_
        refine sv_get (ci := 0) (kf := 8) C i_Fo rfl (by decide) f_Fo_52 (fun _ h9 => h9) d_Fo_addFormula_50 (by first | assumption | rfl) rfl ?_
        refine sv_iconst (v := (-1)) C d_Fo_addFormula_53 rfl ?_
        refine sv_iast (t0 := 0) C rfl d_Fo_addFormula_54 (by first | assumption | rfl) (by assumption) ?_
        refine sv_aload_n C d_Fo_addFormula_55 rfl rfl ?_
        refine sv_dup C d_Fo_addFormula_56 rfl ?_
        refine sv_get (ci := 0) (kf := 8) C i_Fo rfl (by decide) f_Fo_52 (fun _ h9 => h9) d_Fo_addFormula_57 (by first | assumption | rfl) rfl ?_
        refine sv_iconst (v := 1) C d_Fo_addFormula_60 rfl ?_
        refine sv_iadd C d_Fo_addFormula_61 ?_
        refine sv_put (ci := 0) (kf := 8) (ty := .int) C i_Fo t_Fo t_Fo_ok n_Fo rfl (by decide) f_Fo_52 (fun _ h9 => h9) rfl (by decide +kernel) d_Fo_addFormula_62 (by first | assumption | rfl) rfl rfl (Nat.le_of_ble_eq_true rfl) ?_
        refine sv_aload_n C d_Fo_addFormula_65 rfl rfl ?_
        refine sv_get (ci := 0) (kf := 8) C i_Fo rfl (by decide) f_Fo_52 (fun _ h9 => h9) d_Fo_addFormula_66 (by first | assumption | rfl) rfl ?_
        refine sv_iconst (v := 1) C d_Fo_addFormula_69 rfl ?_
        refine sv_isub C d_Fo_addFormula_70 ?_
        refine sv_eqs (st' := [.int (nI mk)]) (by rw [← fin2]) ?_
        refine sv_eqw (fin y) ?_
        exact sv_iret C rfl rfl d_Fo_addFormula_71 (Nat.le_of_ble_eq_true rfl) (Nat.le_of_ble_eq_true rfl) (fun _ _ => rfl) (⟨rfl, y, rfl, fun _ => rfl, fun h => absurd (Or.inr (ht.mp rfl)) h⟩)
    | false =>
      refine sv_if_eq (tgt := 43) C d_Fo_addFormula_36 (by decide) (fun h3 => ?_) (fun h3 => ?_)
      · refine sv_iload_n C d_Fo_addFormula_43 rfl rfl ?_
        refine sv_iast (t0 := 0) C rfl d_Fo_addFormula_44 (by first | assumption | rfl) (by assumption) ?_
        refine sv_aload_n C d_Fo_addFormula_45 rfl rfl ?_
        refine sv_get (ci := 0) (kf := 6) C i_Fo rfl (by decide) f_Fo_37 (fun _ h9 => h9) d_Fo_addFormula_46 (by first | assumption | rfl) rfl ?_
        refine sv_aload_n C d_Fo_addFormula_49 rfl rfl ?_
        refine sv_get (ci := 0) (kf := 8) C i_Fo rfl (by decide) f_Fo_52 (fun _ h9 => h9) d_Fo_addFormula_50 (by first | assumption | rfl) rfl ?_
        refine sv_iconst (v := (-1)) C d_Fo_addFormula_53 rfl ?_
        refine sv_iast (t0 := 0) C rfl d_Fo_addFormula_54 (by first | assumption | rfl) (by assumption) ?_
        refine sv_aload_n C d_Fo_addFormula_55 rfl rfl ?_
        refine sv_dup C d_Fo_addFormula_56 rfl ?_
        refine sv_get (ci := 0) (kf := 8) C i_Fo rfl (by decide) f_Fo_52 (fun _ h9 => h9) d_Fo_addFormula_57 (by first | assumption | rfl) rfl ?_
        refine sv_iconst (v := 1) C d_Fo_addFormula_60 rfl ?_
        refine sv_iadd C d_Fo_addFormula_61 ?_
        refine sv_put (ci := 0) (kf := 8) (ty := .int) C i_Fo t_Fo t_Fo_ok n_Fo rfl (by decide) f_Fo_52 (fun _ h9 => h9) rfl (by decide +kernel) d_Fo_addFormula_62 (by first | assumption | rfl) rfl rfl (Nat.le_of_ble_eq_true rfl) ?_
        refine sv_aload_n C d_Fo_addFormula_65 rfl rfl ?_
        refine sv_get (ci := 0) (kf := 8) C i_Fo rfl (by decide) f_Fo_52 (fun _ h9 => h9) d_Fo_addFormula_66 (by first | assumption | rfl) rfl ?_
        refine sv_iconst (v := 1) C d_Fo_addFormula_69 rfl ?_
        refine sv_isub C d_Fo_addFormula_70 ?_
        refine sv_eqs (st' := [.int (nI mk)]) (by rw [← fin2]) ?_
        refine sv_eqw (fin x) ?_
        exact sv_iret C rfl rfl d_Fo_addFormula_71 (Nat.le_of_ble_eq_true rfl) (Nat.le_of_ble_eq_true rfl) (fun _ _ => rfl) (⟨rfl, x, rfl, fun h => h.elim (fun q => absurd q h2) (fun q => absurd (ht.mpr q) (by decide)), fun _ => rfl⟩)
      · exact absurd rfl h3
/-- the fewest steps -/
def umin (S : Nat → Nat → Prop) (X Y : Nat → Prop) (d z : Nat) : Prop := um S X Y d z ∧ ∀ k, um S X Y k z → d ≤ k
theorem umin_eq {S : Nat → Nat → Prop} {X Y : Nat → Prop} {d d' z : Nat} (h : umin S X Y d z) (h' : umin S X Y d' z) : d = d' := Nat.le_antisymm (h.2 _ h'.1) (h'.2 _ h.1)
/-- the next state of the witness -/
def wst (S : Nat → Nat → Prop) (X Y : Nat → Prop) (u t : Nat) : Prop := ∃ d, umin S X Y (d + 1) u ∧ S u t ∧ umin S X Y d t ∧ ∀ t', t' < t → S u t' → ¬ umin S X Y d t'
def wit (S : Nat → Nat → Prop) (X Y : Nat → Prop) (s : Nat) : Nat → Nat → Prop
  | 0, t => t = s
  | k + 1, t => ∃ u, wit S X Y s k u ∧ wst S X Y u t
theorem umin_step {S : Nat → Nat → Prop} {X Y : Nat → Prop} {d u : Nat} (h : umin S X Y (d + 1) u) : ∃ t, S u t ∧ umin S X Y d t := by
  obtain ⟨⟨y, hy, c, hc, hst⟩, hmin⟩ := h
  refine ⟨c, hc.2, ⟨y, hy, hst⟩, fun k hk => ?_⟩
  obtain ⟨y', hy', hst'⟩ := hk
  have := hmin (k + 1) ⟨y', hy', c, hc, hst'⟩
  omega
set_option maxRecDepth 100000 in
set_option maxHeartbeats 8000000 in
theorem c_Fo_rowLength {l : Launch} {D : va_G} {cI cJ cZ : ClassId} {L : Nat → Nat → Int64} {I : Nat → Nat → Int32} {V : Nat → Int32} {tl : List va_E} {n r mk f s : Nat} {kd xs ys : Nat → Nat} (hok : fo_ok L I V n r mk kd xs ys (fun _ => false)) (hf : f < mk) (h5 : kd f = 5) (h7 : I 7 f = nI r) (hs : s < 2 ^ n) :
    sv_M l y_Fo_rowLength [Cond.code y_Fo_rowLength b_Fo_rowLength 4 (some .int)] ({ frames := 4, cells := 0, slots := 0, locals := 127 } : Room) D sv_cl (sv_ty cI cJ cZ) [.ref 8, .int (nI f), .int (nI s)] (hC cI cJ cZ L I V tl) 0 0 (fun q ws' => ∃ (L' : Nat → Nat → Int64) (I' : Nat → Nat → Int32) (V' : Nat → Int32), ws' = hC cI cJ cZ L' I' V' tl ∧ fo_ok L' I' V' n r mk kd xs ys (fun _ => false) ∧ I' 7 f = nI r ∧ L' 0 = L 0 ∧ L' 1 = L 1 ∧ L' 2 = L 2 ∧ (∀ c, ev_T (L' 4) c = ev_T (L 4) c) ∧ un_ok (ev_S (L 1)) (ev_T (L 4) (xs f)) (ev_T (L 4) (ys f)) (2 ^ n) (I' 1) ∧
      ((∃ d, d < 256 ∧ q = some (.int (nI (d + 1))) ∧ umin (ev_S (L 1)) (ev_T (L 4) (xs f)) (ev_T (L 4) (ys f)) d s) ∨ (q = some (.int 0) ∧ ∀ k, ¬ um (ev_S (L 1)) (ev_T (L 4) (xs f)) (ev_T (L 4) (ys f)) k s))) sv_no 0 0 := by
  refine sv_of (cc := b_Fo_rowLength) (by decide +kernel) (Nat.le_of_ble_eq_true rfl) ?_
  intro pX eX sX mX aX bX tX cX AX adX C htab hnm
  have hok' := hok
  obtain ⟨⟨hn, hV0, hV1, hr40, hV3, hmk, hall, hSP⟩, hfm, hset, hst, hwa, hme⟩ := hok'
  have hp8 := pow_le8 hn
  obtain ⟨k1, k2, k3, k4, k5, k6, k7⟩ := hfm f hf
  have k6 := k6 (by omega)
  have hsin : vp_in (nI s) 256 := vp_in_nI (by omega) (by omega)
  have hsc : (nI s).toNatClampNeg = s := nI_clamp (by omega)
  have hst1 := hst f hf h7
  have hst2 := hst1.1 (by omega)
  refine sv_join (σ := (Nat → Nat → Int64) × (Nat → Nat → Int32) × (Nat → Int32)) (pc1 := 13) (st1 := []) (k1 := 0) (n1 := 0) (J := fun q => fo_ok q.1 q.2.1 q.2.2 n r mk kd xs ys (fun _ => false) ∧ q.2.1 7 f = nI r ∧ q.1 0 = L 0 ∧ q.1 1 = L 1 ∧ q.1 2 = L 2 ∧ (∀ c, ev_T (q.1 4) c = ev_T (L 4) c) ∧ un_ok (ev_S (L 1)) (ev_T (L 4) (xs f)) (ev_T (L 4) (ys f)) (2 ^ n) (q.2.1 1)) (lv1 := fun _ => [some (.ref 8), some (.int (nI f)), some (.int (nI s)), none]) (ws1 := fun q => hC cI cJ cZ q.1 q.2.1 q.2.2 tl) ?_ (fun hj => ?_)
  · rintro ⟨L', I', V'⟩ ⟨g1, g2, g3, g4, g5, g6, g7⟩
    dsimp only at g1 g2 g3 g4 g5 g6 g7
    refine sv_aload_n C d_Fo_rowLength_13 rfl rfl ?_
    refine sv_get (ci := 0) (kf := 1) C i_Fo rfl (by decide) f_Fo_12 (fun _ h9 => h9) d_Fo_rowLength_14 (by first | assumption | rfl) rfl ?_
    refine sv_get (ci := 2) (kf := 2) C i_Se rfl (by decide) f_Fo_115 (fun _ h9 => h9) d_Fo_rowLength_17 (by first | assumption | rfl) rfl ?_
    refine sv_iload_n C d_Fo_rowLength_20 rfl rfl ?_
    refine sv_iald (t0 := 0) C rfl d_Fo_rowLength_21 (by first | assumption | rfl) (by assumption) ?_
    refine sv_eqs (st' := [.int (I' 1 s)]) (by rw [hsc]) ?_
    rcases g7 s hs with ⟨d, hd, e1, e2, e3⟩ | ⟨e1, e2⟩
    · rw [e1]
      refine sv_istore_n C d_Fo_rowLength_22 rfl (by decide) rfl ?_
      refine sv_iload_n C d_Fo_rowLength_23 rfl rfl ?_
      refine sv_iconst (v := (-1)) C d_Fo_rowLength_24 rfl ?_
      refine sv_icmp_ne (tgt := 32) C d_Fo_rowLength_25 (by decide) (fun h1 => ?_) (fun h1 => ?_)
      · refine sv_iload_n C d_Fo_rowLength_32 rfl rfl ?_
        refine sv_iconst (v := 1) C d_Fo_rowLength_33 rfl ?_
        refine sv_iadd C d_Fo_rowLength_34 ?_
        refine sv_eqs (st' := [.int (nI (d + 1))]) (by rw [← nI_1]) ?_
        exact sv_iret C rfl rfl d_Fo_rowLength_35 (Nat.le_of_ble_eq_true rfl) (Nat.le_of_ble_eq_true rfl) (fun _ _ => rfl) (⟨L', I', V', rfl, g1, g2, g3, g4, g5, g6, g7, Or.inl ⟨d, hd, rfl, e2, e3⟩⟩)
      · exact absurd h1 (sp_m1 (by omega))
    · rw [e1]
      refine sv_istore_n C d_Fo_rowLength_22 rfl (by decide) rfl ?_
      refine sv_iload_n C d_Fo_rowLength_23 rfl rfl ?_
      refine sv_iconst (v := (-1)) C d_Fo_rowLength_24 rfl ?_
      refine sv_icmp_ne (tgt := 32) C d_Fo_rowLength_25 (by decide) (fun h1 => ?_) (fun h1 => ?_)
      · exact absurd rfl h1
      · refine sv_iconst (v := 0) C d_Fo_rowLength_28 rfl ?_
        refine sv_goto (tgt := 35) C d_Fo_rowLength_29 (by decide) ?_
        exact sv_iret C rfl rfl d_Fo_rowLength_35 (Nat.le_of_ble_eq_true rfl) (Nat.le_of_ble_eq_true rfl) (fun _ _ => rfl) (⟨L', I', V', rfl, g1, g2, g3, g4, g5, g6, g7, Or.inr ⟨rfl, e2⟩⟩)
  · refine sv_aload_n C d_Fo_rowLength_0 rfl rfl ?_
    refine sv_get (ci := 0) (kf := 9) C i_Fo rfl (by decide) f_Fo_48 (fun _ h9 => h9) d_Fo_rowLength_1 (by first | assumption | rfl) rfl ?_
    refine sv_iload_n C d_Fo_rowLength_4 rfl rfl ?_
    refine sv_icmp_eq (tgt := 13) C d_Fo_rowLength_5 (by decide) (fun h1 => ?_) (fun h1 => ?_)
    · refine hj (L, I, V) ⟨hok, h7, rfl, rfl, rfl, fun _ => rfl, ?_⟩
      rcases hme with g | ⟨j, g1, g2, g3, g4⟩
      · exact absurd (h1.symm.trans g) (sp_m1 (by omega))
      · have e := nI_inj (by omega) (by omega) (g2.symm.trans h1)
        subst e
        exact g4 h7
    · refine sv_aload_n C d_Fo_rowLength_8 rfl rfl ?_
      refine sv_iload_n C d_Fo_rowLength_9 rfl rfl ?_
      refine sv_callV (ci := 0) C (c_Fo_evaluateUntil (cI := cI) (cJ := cJ) (cZ := cZ) (L := L) (I := I) (V := V) (tl := tl) (n := n) (f := f) (x := xs f) (y := ys f) hn hV0 (by omega) k2 k3 k6.1 k6.2 hSP (fun z hz => (((hst (xs f) (by omega) hst2.1).2 z).mp hz).1) (fun z hz => (((hst (ys f) (by omega) hst2.2).2 z).mp hz).1)) s_Fo_82 ki_Fo_evaluateUntil ks_Fo_evaluateUntil ⟨rfl, rfl, Nat.le_of_ble_eq_true rfl, Nat.le_of_ble_eq_true rfl⟩ rfl d_Fo_rowLength_10 (by first | assumption | rfl) (Nat.le_of_ble_eq_true rfl) ⟨(Nat.le_of_ble_eq_true rfl), (Nat.le_of_ble_eq_true rfl)⟩ (fun E ws9 h9 => absurd h9 id) (fun v9 ws9 hp => ?_)
      obtain ⟨rfl, fO, fT, I0, I1, v2, rfl, hT, hun⟩ := hp
      have hev : ∀ c, ev_T fT c = ev_T (L 4) c := fun c => by
        funext z
        refine propext ⟨fun q => ?_, fun q => ⟨q.1, (hT c z q.1).mpr (Or.inl q.2)⟩⟩
        rcases (hT c z q.1).mp q.2 with g | ⟨e, m, g⟩
        · exact ⟨q.1, g⟩
        · rw [e]
          refine (hst1.2 z).mpr ⟨?_, ?_⟩
          · obtain ⟨t, ht, hs9⟩ := g
            cases m with
            | zero =>
              have hs9 : z = t := hs9
              rw [hs9]
              exact (((hst (ys f) (by omega) hst2.2).2 t).mp ht).1
            | succ m =>
              obtain ⟨c, hc, -⟩ := hs9
              exact (((hst (xs f) (by omega) hst2.1).2 z).mp hc.1).1
          · rw [h5]
            exact ⟨m, g⟩
      have hevT : ev_T fT = ev_T (L 4) := funext hev
      refine hj (hu (hu L 3 fO) 4 fT, hu (hu I 0 I0) 1 I1, hu (hu V 2 v2) 4 (nI f)) ⟨⟨⟨hn, hV0, hV1, hr40, hV3, hmk, hall, hSP⟩, hfm, hset, fun j hj9 hj7 => ?_, hwa, Or.inr ⟨f, hf, rfl, h5, fun _ => ?_⟩⟩, h7, rfl, rfl, rfl, hev, hun⟩
      · show (kd j ≠ 0 → I 7 (xs j) = nI r ∧ I 7 (ys j) = nI r) ∧ ∀ z, ev_T fT j z ↔ (z < 2 ^ n ∧ fm_v (ev_S (L 1)) (ev_T fT) (kd j) (xs j) (ys j) z)
        rw [hevT]
        exact hst j hj9 hj7
      · show un_ok (ev_S (L 1)) (ev_T fT (xs f)) (ev_T fT (ys f)) (2 ^ n) I1
        rw [hevT]
        exact hun
set_option maxRecDepth 100000 in
set_option maxHeartbeats 8000000 in
theorem c_Fo_nearerState {l : Launch} {D : va_G} {cI cJ cZ : ClassId} {L : Nat → Nat → Int64} {I : Nat → Nat → Int32} {V : Nat → Int32} {tl : List va_E} {n s d : Nat} {X Y : Nat → Prop} (hn : n ≤ 8) (hun : un_ok (ev_S (L 1)) X Y (2 ^ n) (I 1)) (hSN : ∀ a b, ev_S (L 1) a b → b < 2 ^ n) (hs : s < 2 ^ n) (hd : umin (ev_S (L 1)) X Y (d + 1) s) :
    sv_M l y_Fo_nearerState [Cond.code y_Fo_nearerState b_Fo_nearerState 5 (some .int)] ({ frames := 2, cells := 0, slots := 0, locals := 48 } : Room) D sv_cl (sv_ty cI cJ cZ) [.ref 8, .int (nI s)] (hC cI cJ cZ L I V tl) 0 0 (fun q ws' => (∃ t, t < 2 ^ n ∧ q = some (.int (nI t)) ∧ wst (ev_S (L 1)) X Y s t) ∧ ws' = hC cI cJ cZ L I V tl) sv_no 0 0 := by
  refine sv_of (cc := b_Fo_nearerState) (by decide +kernel) (Nat.le_of_ble_eq_true rfl) ?_
  intro pX eX sX mX aX bX tX cX AX adX C htab hnm
  have hp8 := pow_le8 hn
  have hsin : vp_in (nI s) 256 := vp_in_nI (by omega) (by omega)
  have hsc : (nI s).toNatClampNeg = s := nI_clamp (by omega)
  have hds : I 1 s = nI (d + 1) := by
    rcases hun s hs with ⟨d', -, e1, e2, e3⟩ | ⟨-, e2⟩
    · rw [e1, umin_eq ⟨e2, e3⟩ hd]
    · exact absurd hd.1 (e2 _)
  have hd256 : d < 256 := by
    rcases hun s hs with ⟨d', h1, e1, e2, e3⟩ | ⟨-, e2⟩
    · have := umin_eq ⟨e2, e3⟩ hd
      omega
    · exact absurd hd.1 (e2 _)
  have hiff : ∀ t, t < 2 ^ n → (I 1 t = nI d ↔ umin (ev_S (L 1)) X Y d t) := fun t ht => by
    rcases hun t ht with ⟨d', h1, e1, e2, e3⟩ | ⟨e1, e2⟩
    · constructor
      · intro h
        rw [e1] at h
        rw [← nI_inj (by omega) (by omega) h]
        exact ⟨e2, e3⟩
      · intro h
        rw [e1, umin_eq ⟨e2, e3⟩ h]
    · exact ⟨fun h => absurd (h.symm.trans e1) (sp_m1 (by omega)), fun h => absurd h.1 (e2 _)⟩
  obtain ⟨t0, ht0, hm0⟩ := umin_step hd
  refine sv_aload_n C d_Fo_nearerState_0 rfl rfl ?_
  refine sv_get (ci := 0) (kf := 1) C i_Fo rfl (by decide) f_Fo_12 (fun _ h9 => h9) d_Fo_nearerState_1 (by first | assumption | rfl) rfl ?_
  refine sv_get (ci := 2) (kf := 2) C i_Se rfl (by decide) f_Fo_115 (fun _ h9 => h9) d_Fo_nearerState_4 (by first | assumption | rfl) rfl ?_
  refine sv_iload_n C d_Fo_nearerState_7 rfl rfl ?_
  refine sv_iald (t0 := 0) C rfl d_Fo_nearerState_8 (by first | assumption | rfl) (by assumption) ?_
  refine sv_iconst (v := 1) C d_Fo_nearerState_9 rfl ?_
  refine sv_isub C d_Fo_nearerState_10 ?_
  refine sv_eqs (st' := [.int (nI d)]) (by show [Value.int (I 1 (nI s).toNatClampNeg - 1)] = _; rw [hsc, hds, nI_pred]) ?_
  refine sv_istore_n C d_Fo_nearerState_11 rfl (by decide) rfl ?_
  refine sv_aload_n C d_Fo_nearerState_12 rfl rfl ?_
  refine sv_get (ci := 0) (kf := 0) C i_Fo rfl (by decide) f_Fo_44 (fun _ h9 => h9) d_Fo_nearerState_13 (by first | assumption | rfl) rfl ?_
  refine sv_get (ci := 1) (kf := 1) C i_Ma rfl (by decide) f_Fo_104 (fun _ h9 => h9) d_Fo_nearerState_16 (by first | assumption | rfl) rfl ?_
  refine sv_iload_n C d_Fo_nearerState_19 rfl rfl ?_
  refine sv_iconst (v := 0) C d_Fo_nearerState_20 rfl ?_
  refine sv_callV (ci := 3) C (c_St_leastFrom (cI := cI) (cZ := cZ) (ws := hC cI cJ cZ L I V tl) (b := 4) (w := 5) (N := 1024) (a := s) (x := 0) (f := L 1) rfl rfl (by omega) (by decide) (by omega)) s_Fo_161 ki_St_leastFrom ks_St_leastFrom ⟨rfl, rfl, Nat.le_of_ble_eq_true rfl, Nat.le_of_ble_eq_true rfl⟩ rfl d_Fo_nearerState_21 (by first | assumption | rfl) (Nat.le_of_ble_eq_true rfl) ⟨(Nat.le_of_ble_eq_true rfl), (Nat.le_of_ble_eq_true rfl)⟩ (fun E ws9 h9 => absurd h9 id) (fun v9 ws9 hp => ?_)
  obtain ⟨hle, rfl⟩ := hp
  have hpd : ∃ pd : Option Nat, v9 = some (.int (sp_p pd)) ∧ (match pd with | none => ∀ z, 0 ≤ z → z < 256 → ss_b (L 1) s z = false | some y => y < 256 ∧ ss_b (L 1) s y = true ∧ ∀ z, 0 ≤ z → z < y → ss_b (L 1) s z = false) := by
    rcases hle with ⟨e1, e2⟩ | ⟨y, e1, e2, -, e3, e4⟩
    · exact ⟨none, e1, e2⟩
    · exact ⟨some y, e1, e2, e3, e4⟩
  obtain ⟨pd, rfl, hpd⟩ := hpd
  refine sv_istore_n C d_Fo_nearerState_24 rfl (by decide) rfl ?_
  refine sv_iconst (v := 0) C d_Fo_nearerState_25 rfl ?_
  refine sv_istore C d_Fo_nearerState_26 (by decide) rfl ?_
  refine sv_ind (σ := Nat × Nat × Option Nat) (I := fun q => q.1 ≤ q.2.1 ∧ (∀ z, z < q.2.1 → ss_b (L 1) s z = true → I 1 z ≠ nI d) ∧ (match q.2.2 with | none => ∀ z, q.2.1 ≤ z → z < 256 → ss_b (L 1) s z = false | some y => y < 256 ∧ q.2.1 ≤ y ∧ ss_b (L 1) s y = true ∧ ∀ z, q.2.1 ≤ z → z < y → ss_b (L 1) s z = false)) (μ := fun q => 256 - q.2.1)
    (lv := fun q => [some (.ref 8), some (.int (nI s)), some (.int (nI d)), some (.int (sp_p q.2.2)), some (.int (nI q.1))]) (ws := fun _ => hC cI cJ cZ L I V tl) ?_ (0, 0, pd) ⟨Nat.le_refl _, fun z hz => absurd hz (Nat.not_lt_zero z), ?_⟩
  rotate_left
  · cases pd with
    | none => exact hpd
    | some y => exact ⟨hpd.1, Nat.zero_le _, hpd.2.1, hpd.2.2⟩
  clear hpd hle
  rintro ⟨t, lo, pd⟩ ⟨htl, hlo, hpd⟩ ih
  dsimp only at htl hlo hpd ih
  cases pd with
  | none =>
    exfalso
    have hpd : ∀ z, lo ≤ z → z < 256 → ss_b (L 1) s z = false := hpd
    by_cases h : t0 < lo
    · exact hlo t0 h ht0.2 ((hiff t0 (hSN _ _ ht0)).mpr hm0)
    · have h9 := hpd t0 (by omega) ht0.1
      rw [ht0.2] at h9
      exact absurd h9 (by decide)
  | some y =>
    obtain ⟨hy, hloy, hSy, hnoy⟩ := hpd
    have hyN : y < 2 ^ n := hSN s y ⟨hy, hSy⟩
    have hyin : vp_in (nI y) 256 := vp_in_nI hy (by omega)
    have hyc : (nI y).toNatClampNeg = y := nI_clamp (by omega)
    refine sv_iload_n C d_Fo_nearerState_28 rfl rfl ?_
    refine sv_iconst (v := (-1)) C d_Fo_nearerState_29 rfl ?_
    refine sv_icmp_eq (tgt := 77) C d_Fo_nearerState_30 (by decide) (fun h1 => ?_) (fun h1 => ?_)
    · exact absurd h1 (sp_m1 (by omega))
    · refine sv_iload C d_Fo_nearerState_33 rfl ?_
      refine sv_sipush (v := 256) C d_Fo_nearerState_35 rfl ?_
      refine sv_icmp_ge (tgt := 77) C d_Fo_nearerState_38 (by decide) (fun h2 => ?_) (fun h2 => ?_)
      · exfalso
        have h2 : 256 ≤ t := by
          refine Classical.byContradiction (fun hn => ?_)
          have h3 : ¬ nI 256 ≤ nI t := fun q => hn ((nI_leI (by omega) (by omega)).mp q)
          exact h3 h2
        omega
      · refine sv_aload_n C d_Fo_nearerState_41 rfl rfl ?_
        refine sv_get (ci := 0) (kf := 1) C i_Fo rfl (by decide) f_Fo_12 (fun _ h9 => h9) d_Fo_nearerState_42 (by first | assumption | rfl) rfl ?_
        refine sv_get (ci := 2) (kf := 2) C i_Se rfl (by decide) f_Fo_115 (fun _ h9 => h9) d_Fo_nearerState_45 (by first | assumption | rfl) rfl ?_
        refine sv_iload_n C d_Fo_nearerState_48 rfl rfl ?_
        refine sv_iald (t0 := 0) C rfl d_Fo_nearerState_49 (by first | assumption | rfl) hyin ?_
        refine sv_iload_n C d_Fo_nearerState_50 rfl rfl ?_
        refine sv_eqs (st' := [.int (nI d), .int (I 1 y)]) (by show [_, Value.int (I 1 (nI y).toNatClampNeg)] = _; rw [hyc]) ?_
        refine sv_icmp_ne (tgt := 56) C d_Fo_nearerState_51 (by decide) (fun h3 => ?_) (fun h3 => ?_)
        · refine sv_aload_n C d_Fo_nearerState_56 rfl rfl ?_
          refine sv_get (ci := 0) (kf := 0) C i_Fo rfl (by decide) f_Fo_44 (fun _ h9 => h9) d_Fo_nearerState_57 (by first | assumption | rfl) rfl ?_
          refine sv_get (ci := 1) (kf := 1) C i_Ma rfl (by decide) f_Fo_104 (fun _ h9 => h9) d_Fo_nearerState_60 (by first | assumption | rfl) rfl ?_
          refine sv_iload_n C d_Fo_nearerState_63 rfl rfl ?_
          refine sv_iload_n C d_Fo_nearerState_64 rfl rfl ?_
          refine sv_iconst (v := 1) C d_Fo_nearerState_65 rfl ?_
          refine sv_iadd C d_Fo_nearerState_66 ?_
          refine sv_eqs (st' := [.int (nI (y + 1)), .int (nI s), .ref 4]) (by rw [← nI_1]; rfl) ?_
          refine sv_callV (ci := 3) C (c_St_leastFrom (cI := cI) (cZ := cZ) (ws := hC cI cJ cZ L I V tl) (b := 4) (w := 5) (N := 1024) (a := s) (x := y + 1) (f := L 1) rfl rfl (by omega) (by decide) (by omega)) s_Fo_161 ki_St_leastFrom ks_St_leastFrom ⟨rfl, rfl, Nat.le_of_ble_eq_true rfl, Nat.le_of_ble_eq_true rfl⟩ rfl d_Fo_nearerState_67 (by first | assumption | rfl) (Nat.le_of_ble_eq_true rfl) ⟨(Nat.le_of_ble_eq_true rfl), (Nat.le_of_ble_eq_true rfl)⟩ (fun E ws9 h9 => absurd h9 id) (fun v9 ws9 hp => ?_)
          obtain ⟨hle, rfl⟩ := hp
          have hpd : ∃ pd : Option Nat, v9 = some (.int (sp_p pd)) ∧ (match pd with | none => ∀ z, y + 1 ≤ z → z < 256 → ss_b (L 1) s z = false | some y' => y' < 256 ∧ y + 1 ≤ y' ∧ ss_b (L 1) s y' = true ∧ ∀ z, y + 1 ≤ z → z < y' → ss_b (L 1) s z = false) := by
            rcases hle with ⟨e1, e2⟩ | ⟨y', e1, e2, e5, e3, e4⟩
            · exact ⟨none, e1, e2⟩
            · exact ⟨some y', e1, e2, e5, e3, e4⟩
          obtain ⟨pd, rfl, hpd⟩ := hpd
          refine sv_istore_n C d_Fo_nearerState_70 rfl (by decide) rfl ?_
          refine sv_iincN C d_Fo_nearerState_71 rfl (by decide) rfl ?_
          refine sv_goto (tgt := 28) C d_Fo_nearerState_74 (by decide) ?_
          refine ih (t + 1, y + 1, pd) ⟨by dsimp only; omega, fun z hz hS => ?_, hpd⟩ (by dsimp only; omega)
          dsimp only at hz
          by_cases e1 : z = y
          · rw [e1]
            exact h3
          · by_cases e2 : z < lo
            · exact hlo z e2 hS
            · rw [hnoy z (by omega) (by omega)] at hS
              exact absurd hS (by decide)
        · refine sv_iload_n C d_Fo_nearerState_54 rfl rfl ?_
          refine sv_iret C rfl rfl d_Fo_nearerState_55 (Nat.le_of_ble_eq_true rfl) (Nat.le_of_ble_eq_true rfl) (fun _ _ => rfl) (⟨⟨y, hyN, rfl, d, hd, ⟨hy, hSy⟩, (hiff y hyN).mp h3, fun t' ht' hS' hm' => ?_⟩, rfl⟩)
          by_cases e2 : t' < lo
          · exact hlo t' e2 hS'.2 ((hiff t' (hSN _ _ hS')).mpr hm')
          · have h9 := hnoy t' (by omega) ht'
            rw [hS'.2] at h9
            exact absurd h9 (by decide)
set_option maxRecDepth 100000 in
set_option maxHeartbeats 8000000 in
theorem c_Fo_rowState {l : Launch} {D : va_G} {cI cJ cZ : ClassId} {L : Nat → Nat → Int64} {I : Nat → Nat → Int32} {V : Nat → Int32} {tl : List va_E} {n s k d : Nat} {X Y : Nat → Prop} (hn : n ≤ 8) (hun : un_ok (ev_S (L 1)) X Y (2 ^ n) (I 1)) (hSN : ∀ a b, ev_S (L 1) a b → b < 2 ^ n) (hs : s < 2 ^ n) (hd : umin (ev_S (L 1)) X Y d s) (hd2 : d < 256) (hk : k ≤ d) :
    sv_M l y_Fo_rowState [Cond.code y_Fo_rowState b_Fo_rowState 5 (some .int)] ({ frames := 3, cells := 0, slots := 0, locals := 72 } : Room) D sv_cl (sv_ty cI cJ cZ) [.ref 8, .int (nI s), .int (nI k)] (hC cI cJ cZ L I V tl) 0 0 (fun q ws' => (∃ t, t < 2 ^ n ∧ q = some (.int (nI t)) ∧ wit (ev_S (L 1)) X Y s k t) ∧ ws' = hC cI cJ cZ L I V tl) sv_no 0 0 := by
  refine sv_of (cc := b_Fo_rowState) (by decide +kernel) (Nat.le_of_ble_eq_true rfl) ?_
  intro pX eX sX mX aX bX tX cX AX adX C htab hnm
  have hp8 := pow_le8 hn
  refine sv_iload_n C d_Fo_rowState_0 rfl rfl ?_
  refine sv_istore_n C d_Fo_rowState_1 rfl (by decide) rfl ?_
  refine sv_iconst (v := 0) C d_Fo_rowState_2 rfl ?_
  refine sv_istore C d_Fo_rowState_3 (by decide) rfl ?_
  refine sv_ind (σ := Nat × Nat) (I := fun q => q.1 ≤ k ∧ q.2 < 2 ^ n ∧ wit (ev_S (L 1)) X Y s q.1 q.2 ∧ umin (ev_S (L 1)) X Y (d - q.1) q.2) (μ := fun q => k - q.1)
    (lv := fun q => [some (.ref 8), some (.int (nI s)), some (.int (nI k)), some (.int (nI q.2)), some (.int (nI q.1))]) (ws := fun _ => hC cI cJ cZ L I V tl) ?_ (0, s) ⟨Nat.zero_le _, hs, rfl, hd⟩
  rintro ⟨i, t⟩ ⟨hi, ht, hw, hm⟩ ih
  dsimp only at hi ht hw hm ih
  refine sv_iload C d_Fo_rowState_5 rfl ?_
  refine sv_iload_n C d_Fo_rowState_7 rfl rfl ?_
  refine sv_icmp_ge (tgt := 23) C d_Fo_rowState_8 (by decide) (fun h1 => ?_) (fun h1 => ?_)
  · have h1 : k ≤ i := (nI_leI (a := k) (b := i) (by omega) (by omega)).mp h1
    have h2 : i = k := by omega
    subst h2
    refine sv_iload_n C d_Fo_rowState_23 rfl rfl ?_
    exact sv_iret C rfl rfl d_Fo_rowState_24 (Nat.le_of_ble_eq_true rfl) (Nat.le_of_ble_eq_true rfl) (fun _ _ => rfl) (⟨⟨t, ht, rfl, hw⟩, rfl⟩)
  · have h1 : ¬ k ≤ i := fun h => h1 ((nI_leI (a := k) (b := i) (by omega) (by omega)).mpr h)
    refine sv_aload_n C d_Fo_rowState_11 rfl rfl ?_
    refine sv_iload_n C d_Fo_rowState_12 rfl rfl ?_
    refine sv_callV (ci := 0) C (c_Fo_nearerState (cI := cI) (cJ := cJ) (cZ := cZ) (L := L) (I := I) (V := V) (tl := tl) (n := n) (s := t) (d := d - (i + 1)) (X := X) (Y := Y) hn hun hSN ht (by rw [show d - (i + 1) + 1 = d - i by omega]; exact hm)) s_Fo_157 ki_Fo_nearerState ks_Fo_nearerState ⟨rfl, rfl, Nat.le_of_ble_eq_true rfl, Nat.le_of_ble_eq_true rfl⟩ rfl d_Fo_rowState_13 (by first | assumption | rfl) (Nat.le_of_ble_eq_true rfl) ⟨(Nat.le_of_ble_eq_true rfl), (Nat.le_of_ble_eq_true rfl)⟩ (fun E ws9 h9 => absurd h9 id) (fun v9 ws9 hp => ?_)
    obtain ⟨⟨t2, ht2, rfl, hw2⟩, rfl⟩ := hp
    refine sv_istore_n C d_Fo_rowState_16 rfl (by decide) rfl ?_
    refine sv_iincN C d_Fo_rowState_17 rfl (by decide) rfl ?_
    refine sv_goto (tgt := 5) C d_Fo_rowState_20 (by decide) ?_
    refine ih (i + 1, t2) ⟨by dsimp only; omega, ht2, ⟨t, hw, hw2⟩, ?_⟩ (by dsimp only; omega)
    obtain ⟨d', h3, -, h4, -⟩ := hw2
    have h5 := umin_eq h3 hm
    show umin _ _ _ (d - (i + 1)) t2
    rw [show d - (i + 1) = d' by omega]
    exact h4
end
