section
-- ===== PART A: goes FIRST, ahead of the names: the tables' words, and 'selects' of the private methods out of them =====
/-- a private method of a class that the tables say can be made, by its rows of tables_1 -/
def lw_okq (q : MethodName × Nat) : Prop := (q.1.cls ≠ "java/lang/invoke/MethodHandle" ∧ q.1.cls ≠ "java/lang/invoke/VarHandle") ∧ Cond.instantiable q.1.cls q.2 ∈ tables_1 ∧ Cond.privateMethod q.1 ∈ tables_1 ∧ Cond.instanceMethod q.1 ∈ tables_1
theorem lw_p0 : lw_okq (⟨"java/lang/Throwable", "fillInStackTrace", "(I)Ljava/lang/Throwable;"⟩, 6) := ⟨⟨by decide +kernel, by decide +kernel⟩, List.mem_of_getElem? (i := 212) (by decide +kernel), List.mem_of_getElem? (i := 210) (by decide +kernel), List.mem_of_getElem? (i := 211) (by decide +kernel)⟩
theorem lw_p1 : lw_okq (⟨"StateLogic", "requirePattern", "(II)V"⟩, 2) := ⟨⟨by decide +kernel, by decide +kernel⟩, List.mem_of_getElem? (i := 18) (by decide +kernel), List.mem_of_getElem? (i := 255) (by decide +kernel), List.mem_of_getElem? (i := 256) (by decide +kernel)⟩
theorem lw_p2 : lw_okq (⟨"StateLogic", "requireFormula", "(I)V"⟩, 2) := ⟨⟨by decide +kernel, by decide +kernel⟩, List.mem_of_getElem? (i := 18) (by decide +kernel), List.mem_of_getElem? (i := 316) (by decide +kernel), List.mem_of_getElem? (i := 317) (by decide +kernel)⟩
theorem lw_p3 : lw_okq (⟨"StateLogic", "requireState", "(I)V"⟩, 2) := ⟨⟨by decide +kernel, by decide +kernel⟩, List.mem_of_getElem? (i := 18) (by decide +kernel), List.mem_of_getElem? (i := 336) (by decide +kernel), List.mem_of_getElem? (i := 337) (by decide +kernel)⟩
theorem lw_p4 : lw_okq (⟨"StateLogic$Formulas", "want", "(I)V"⟩, 10) := ⟨⟨by decide +kernel, by decide +kernel⟩, List.mem_of_getElem? (i := 82) (by decide +kernel), List.mem_of_getElem? (i := 345) (by decide +kernel), List.mem_of_getElem? (i := 346) (by decide +kernel)⟩
theorem lw_p5 : lw_okq (⟨"StateLogic$Formulas", "evaluate", "(I)V"⟩, 10) := ⟨⟨by decide +kernel, by decide +kernel⟩, List.mem_of_getElem? (i := 82) (by decide +kernel), List.mem_of_getElem? (i := 349) (by decide +kernel), List.mem_of_getElem? (i := 350) (by decide +kernel)⟩
theorem lw_p6 : lw_okq (⟨"StateLogic$Formulas", "evaluateAtom", "(I)V"⟩, 10) := ⟨⟨by decide +kernel, by decide +kernel⟩, List.mem_of_getElem? (i := 82) (by decide +kernel), List.mem_of_getElem? (i := 357) (by decide +kernel), List.mem_of_getElem? (i := 358) (by decide +kernel)⟩
theorem lw_p7 : lw_okq (⟨"StateLogic$Formulas", "evaluateWords", "(I)V"⟩, 10) := ⟨⟨by decide +kernel, by decide +kernel⟩, List.mem_of_getElem? (i := 82) (by decide +kernel), List.mem_of_getElem? (i := 362) (by decide +kernel), List.mem_of_getElem? (i := 363) (by decide +kernel)⟩
theorem lw_p8 : lw_okq (⟨"StateLogic$Formulas", "evaluateNext", "(I)V"⟩, 10) := ⟨⟨by decide +kernel, by decide +kernel⟩, List.mem_of_getElem? (i := 82) (by decide +kernel), List.mem_of_getElem? (i := 367) (by decide +kernel), List.mem_of_getElem? (i := 368) (by decide +kernel)⟩
theorem lw_p9 : lw_okq (⟨"StateLogic$Formulas", "evaluateUntil", "(I)V"⟩, 10) := ⟨⟨by decide +kernel, by decide +kernel⟩, List.mem_of_getElem? (i := 82) (by decide +kernel), List.mem_of_getElem? (i := 375) (by decide +kernel), List.mem_of_getElem? (i := 376) (by decide +kernel)⟩
theorem lw_p10 : lw_okq (⟨"StateLogic$Formulas", "putFound", "(I)V"⟩, 10) := ⟨⟨by decide +kernel, by decide +kernel⟩, List.mem_of_getElem? (i := 82) (by decide +kernel), List.mem_of_getElem? (i := 418) (by decide +kernel), List.mem_of_getElem? (i := 419) (by decide +kernel)⟩
theorem lw_p11 : lw_okq (⟨"StateLogic$Formulas", "evaluateAgain", "(I)V"⟩, 10) := ⟨⟨by decide +kernel, by decide +kernel⟩, List.mem_of_getElem? (i := 82) (by decide +kernel), List.mem_of_getElem? (i := 422) (by decide +kernel), List.mem_of_getElem? (i := 423) (by decide +kernel)⟩
theorem lw_p12 : lw_okq (⟨"StateLogic$Formulas", "evaluateRing", "(II)V"⟩, 10) := ⟨⟨by decide +kernel, by decide +kernel⟩, List.mem_of_getElem? (i := 82) (by decide +kernel), List.mem_of_getElem? (i := 432) (by decide +kernel), List.mem_of_getElem? (i := 433) (by decide +kernel)⟩
theorem lw_p13 : lw_okq (⟨"StateLogic", "requireUntil", "(I)V"⟩, 2) := ⟨⟨by decide +kernel, by decide +kernel⟩, List.mem_of_getElem? (i := 18) (by decide +kernel), List.mem_of_getElem? (i := 466) (by decide +kernel), List.mem_of_getElem? (i := 467) (by decide +kernel)⟩
theorem lw_p14 : lw_okq (⟨"StateLogic$Formulas", "nearerState", "(I)I"⟩, 10) := ⟨⟨by decide +kernel, by decide +kernel⟩, List.mem_of_getElem? (i := 82) (by decide +kernel), List.mem_of_getElem? (i := 503) (by decide +kernel), List.mem_of_getElem? (i := 504) (by decide +kernel)⟩
theorem lw_p15 : lw_okq (⟨"StateLogicModel", "refuse", "(ZZZ)Z"⟩, 16) := ⟨⟨by decide +kernel, by decide +kernel⟩, List.mem_of_getElem? (i := 515) (by decide +kernel), List.mem_of_getElem? (i := 578) (by decide +kernel), List.mem_of_getElem? (i := 579) (by decide +kernel)⟩
def lw_privs_1 : List (MethodName × Nat) := [(⟨"java/lang/Throwable", "fillInStackTrace", "(I)Ljava/lang/Throwable;"⟩, 6), (⟨"StateLogic", "requirePattern", "(II)V"⟩, 2), (⟨"StateLogic", "requireFormula", "(I)V"⟩, 2), (⟨"StateLogic", "requireState", "(I)V"⟩, 2), (⟨"StateLogic$Formulas", "want", "(I)V"⟩, 10), (⟨"StateLogic$Formulas", "evaluate", "(I)V"⟩, 10), (⟨"StateLogic$Formulas", "evaluateAtom", "(I)V"⟩, 10), (⟨"StateLogic$Formulas", "evaluateWords", "(I)V"⟩, 10), (⟨"StateLogic$Formulas", "evaluateNext", "(I)V"⟩, 10), (⟨"StateLogic$Formulas", "evaluateUntil", "(I)V"⟩, 10), (⟨"StateLogic$Formulas", "putFound", "(I)V"⟩, 10), (⟨"StateLogic$Formulas", "evaluateAgain", "(I)V"⟩, 10), (⟨"StateLogic$Formulas", "evaluateRing", "(II)V"⟩, 10), (⟨"StateLogic", "requireUntil", "(I)V"⟩, 2), (⟨"StateLogic$Formulas", "nearerState", "(I)I"⟩, 10), (⟨"StateLogicModel", "refuse", "(ZZZ)Z"⟩, 16)]
theorem lw_r1 : ∀ q ∈ lw_privs_1, lw_okq q := List.forall_mem_cons.mpr ⟨lw_p0, List.forall_mem_cons.mpr ⟨lw_p1, List.forall_mem_cons.mpr ⟨lw_p2, List.forall_mem_cons.mpr ⟨lw_p3, List.forall_mem_cons.mpr ⟨lw_p4, List.forall_mem_cons.mpr ⟨lw_p5, List.forall_mem_cons.mpr ⟨lw_p6, List.forall_mem_cons.mpr ⟨lw_p7, List.forall_mem_cons.mpr ⟨lw_p8, List.forall_mem_cons.mpr ⟨lw_p9, List.forall_mem_cons.mpr ⟨lw_p10, List.forall_mem_cons.mpr ⟨lw_p11, List.forall_mem_cons.mpr ⟨lw_p12, List.forall_mem_cons.mpr ⟨lw_p13, List.forall_mem_cons.mpr ⟨lw_p14, List.forall_mem_cons.mpr ⟨lw_p15, fun _ h => absurd h List.not_mem_nil⟩⟩⟩⟩⟩⟩⟩⟩⟩⟩⟩⟩⟩⟩⟩⟩
theorem lw_p16 : lw_okq (⟨"StateLogicModel", "isTest", "(II)Z"⟩, 16) := ⟨⟨by decide +kernel, by decide +kernel⟩, List.mem_of_getElem? (i := 515) (by decide +kernel), List.mem_of_getElem? (i := 586) (by decide +kernel), List.mem_of_getElem? (i := 587) (by decide +kernel)⟩
theorem lw_p17 : lw_okq (⟨"StateLogicModel", "isState", "(I)Z"⟩, 16) := ⟨⟨by decide +kernel, by decide +kernel⟩, List.mem_of_getElem? (i := 515) (by decide +kernel), List.mem_of_getElem? (i := 590) (by decide +kernel), List.mem_of_getElem? (i := 591) (by decide +kernel)⟩
theorem lw_p18 : lw_okq (⟨"StateLogicModel", "isFormula", "(I)Z"⟩, 16) := ⟨⟨by decide +kernel, by decide +kernel⟩, List.mem_of_getElem? (i := 515) (by decide +kernel), List.mem_of_getElem? (i := 598) (by decide +kernel), List.mem_of_getElem? (i := 599) (by decide +kernel)⟩
theorem lw_p19 : lw_okq (⟨"StateLogicModel", "know", "(I)V"⟩, 16) := ⟨⟨by decide +kernel, by decide +kernel⟩, List.mem_of_getElem? (i := 515) (by decide +kernel), List.mem_of_getElem? (i := 606) (by decide +kernel), List.mem_of_getElem? (i := 607) (by decide +kernel)⟩
theorem lw_p20 : lw_okq (⟨"StateLogicModel", "workOut", "(I)V"⟩, 16) := ⟨⟨by decide +kernel, by decide +kernel⟩, List.mem_of_getElem? (i := 515) (by decide +kernel), List.mem_of_getElem? (i := 610) (by decide +kernel), List.mem_of_getElem? (i := 611) (by decide +kernel)⟩
theorem lw_p21 : lw_okq (⟨"StateLogicModel", "always", "(II)V"⟩, 16) := ⟨⟨by decide +kernel, by decide +kernel⟩, List.mem_of_getElem? (i := 515) (by decide +kernel), List.mem_of_getElem? (i := 614) (by decide +kernel), List.mem_of_getElem? (i := 615) (by decide +kernel)⟩
theorem lw_p22 : lw_okq (⟨"StateLogicModel", "has", "(II)Z"⟩, 16) := ⟨⟨by decide +kernel, by decide +kernel⟩, List.mem_of_getElem? (i := 515) (by decide +kernel), List.mem_of_getElem? (i := 618) (by decide +kernel), List.mem_of_getElem? (i := 619) (by decide +kernel)⟩
theorem lw_p23 : lw_okq (⟨"StateLogicModel", "goesInto", "(I[ZI)Z"⟩, 16) := ⟨⟨by decide +kernel, by decide +kernel⟩, List.mem_of_getElem? (i := 515) (by decide +kernel), List.mem_of_getElem? (i := 622) (by decide +kernel), List.mem_of_getElem? (i := 623) (by decide +kernel)⟩
theorem lw_p24 : lw_okq (⟨"StateLogicModel", "goes", "(II)I"⟩, 16) := ⟨⟨by decide +kernel, by decide +kernel⟩, List.mem_of_getElem? (i := 515) (by decide +kernel), List.mem_of_getElem? (i := 626) (by decide +kernel), List.mem_of_getElem? (i := 627) (by decide +kernel)⟩
theorem lw_p25 : lw_okq (⟨"StateLogicModel", "again", "(III)V"⟩, 16) := ⟨⟨by decide +kernel, by decide +kernel⟩, List.mem_of_getElem? (i := 515) (by decide +kernel), List.mem_of_getElem? (i := 630) (by decide +kernel), List.mem_of_getElem? (i := 631) (by decide +kernel)⟩
theorem lw_p26 : lw_okq (⟨"StateLogicModel", "until", "(I)V"⟩, 16) := ⟨⟨by decide +kernel, by decide +kernel⟩, List.mem_of_getElem? (i := 515) (by decide +kernel), List.mem_of_getElem? (i := 634) (by decide +kernel), List.mem_of_getElem? (i := 635) (by decide +kernel)⟩
theorem lw_p27 : lw_okq (⟨"StateLogicModel", "simple", "(II)Z"⟩, 16) := ⟨⟨by decide +kernel, by decide +kernel⟩, List.mem_of_getElem? (i := 515) (by decide +kernel), List.mem_of_getElem? (i := 638) (by decide +kernel), List.mem_of_getElem? (i := 639) (by decide +kernel)⟩
theorem lw_p28 : lw_okq (⟨"StateLogicModel", "measure", "(I)V"⟩, 16) := ⟨⟨by decide +kernel, by decide +kernel⟩, List.mem_of_getElem? (i := 515) (by decide +kernel), List.mem_of_getElem? (i := 654) (by decide +kernel), List.mem_of_getElem? (i := 655) (by decide +kernel)⟩
def lw_privs_2 : List (MethodName × Nat) := [(⟨"StateLogicModel", "isTest", "(II)Z"⟩, 16), (⟨"StateLogicModel", "isState", "(I)Z"⟩, 16), (⟨"StateLogicModel", "isFormula", "(I)Z"⟩, 16), (⟨"StateLogicModel", "know", "(I)V"⟩, 16), (⟨"StateLogicModel", "workOut", "(I)V"⟩, 16), (⟨"StateLogicModel", "always", "(II)V"⟩, 16), (⟨"StateLogicModel", "has", "(II)Z"⟩, 16), (⟨"StateLogicModel", "goesInto", "(I[ZI)Z"⟩, 16), (⟨"StateLogicModel", "goes", "(II)I"⟩, 16), (⟨"StateLogicModel", "again", "(III)V"⟩, 16), (⟨"StateLogicModel", "until", "(I)V"⟩, 16), (⟨"StateLogicModel", "simple", "(II)Z"⟩, 16), (⟨"StateLogicModel", "measure", "(I)V"⟩, 16)]
theorem lw_r2 : ∀ q ∈ lw_privs_2, lw_okq q := List.forall_mem_cons.mpr ⟨lw_p16, List.forall_mem_cons.mpr ⟨lw_p17, List.forall_mem_cons.mpr ⟨lw_p18, List.forall_mem_cons.mpr ⟨lw_p19, List.forall_mem_cons.mpr ⟨lw_p20, List.forall_mem_cons.mpr ⟨lw_p21, List.forall_mem_cons.mpr ⟨lw_p22, List.forall_mem_cons.mpr ⟨lw_p23, List.forall_mem_cons.mpr ⟨lw_p24, List.forall_mem_cons.mpr ⟨lw_p25, List.forall_mem_cons.mpr ⟨lw_p26, List.forall_mem_cons.mpr ⟨lw_p27, List.forall_mem_cons.mpr ⟨lw_p28, fun _ h => absurd h List.not_mem_nil⟩⟩⟩⟩⟩⟩⟩⟩⟩⟩⟩⟩⟩
def lw_privs : List (MethodName × Nat) := lw_privs_1 ++ (lw_privs_2)
def lw_tbl : List Cond := k2_sels lw_privs ++ tables_1
theorem lw_privs_ok : ∀ q ∈ lw_privs, lw_okq q := by
  show ∀ q ∈ lw_privs_1 ++ (lw_privs_2), lw_okq q
  exact List.forall_mem_append.mpr ⟨lw_r1, lw_r2⟩
end
section
/-! ===== BEGIN words of one list among another's, by their places ===== -/
theorem goodIn_r {big : List Cond} (ws : List Cond) (ps : List Nat) (hp : ws = ps.filterMap (fun i => big[i]?)) (h : ws.all goodWord = true) : GoodIn big ws := by
  intro w hw
  have h1 := List.all_eq_true.mp h w hw
  rw [hp] at hw
  obtain ⟨i, -, hi⟩ := List.mem_filterMap.mp hw
  have hm : w ∈ big := by first | exact List.mem_of_getElem? hi | exact List.getElem?_mem hi
  exact ⟨hm, good_of_word h1⟩
theorem goodIn_app {big a b : List Cond} (ha : GoodIn big a) (hb : GoodIn big b) : GoodIn big (a ++ b) := fun w h => (List.mem_append.mp h).elim (ha w) (hb w)
theorem goodIn_ca {big a b : List Cond} {c : Cond} (ha : GoodIn big (c :: a)) (hb : GoodIn big b) : GoodIn big (c :: (a ++ b)) := fun w h => (List.mem_cons.mp h).elim (fun e => ha w (List.mem_cons.mpr (Or.inl e))) (fun h => (List.mem_append.mp h).elim (fun h => ha w (List.mem_cons.mpr (Or.inr h))) (hb w))
theorem goodIn_sub {big ws : List Cond} (hm : ∀ w ∈ ws, w ∈ big) (h : ws.all goodWord = true) : GoodIn big ws := fun w hw => ⟨hm w hw, good_of_word (List.all_eq_true.mp h w hw)⟩
/-! ===== END ===== -/

/-! ===== BEGIN exceptions that leave a method, and their catching by the caller (launches without stack traces) ===== -/
section VXA
/-! The laws vx_back, vx_callV, vx_callS, vx_callSW, vx_throw0, vx_throwS follow proofs of the library, with one case more: JvmDerived/Free/Laws.lean (Back.of_free), Shelf42/LK1.lean (callV, callS), Shelf/KitTraced.lean (throwNew0V, throwNewS). -/
/-- where a method has thrown q: the class by its name, the cell, what was written, the world -/
def vx_T (XC : String → State → State → Prop) (st : State) (q : Addr) (t : State) (mc ms : Nat) (free : Addr → Prop) : Prop :=
  ∃ (E : String) (ce : Cell) (L : List Loc), XC E st t ∧ t.heap[q]? = some ce ∧ ce.vm = .none ∧ st.vm.findClass E = some ce.cls ∧ st.WarmedH t.vm ∧ st.sameButNew ({ t with vm := st.vm } : State) L mc ms ∧ ∀ z ∈ L, free z.base
def vx_Q (Qc : Array Value → State → Outcome → State → Prop) (XC : String → State → State → Prop) (mc ms : Nat) (free : Addr → Prop) : Array Value → State → Outcome → State → Prop := fun a st o t =>
  (Qc a st o t ∧ ∃ L, FrameEnd st o t L mc ms ∧ ∀ q ∈ L, free q.base) ∨ ∃ q, o = .threw q ∧ vx_T XC st q t mc ms free
/-- a callee that returns or throws -/
def vx_Met (l : Launch) (y : MethodName) (ws : List Cond) (rm : Room) (Pc : Array Value → State → Prop) (Qc : Array Value → State → Outcome → State → Prop) (XC : String → State → State → Prop) (mc ms : Nat) (free : Addr → Prop) : Prop :=
  MetFree l y (headSpec ws rm) Pc (fun _ _ _ _ _ => True) (vx_Q Qc XC mc ms free)
def vx_Post (XC : String → State → State → Prop) (mc ms : Nat) (free : Addr → Prop) : Pt → Array Value → Addr → Pt → Prop := fun A a q B =>
  ∃ (g : JFrame) (mk : MethodId) (t : State) (L : List Loc) (E : String) (ce : Cell), B.U.heap = t.heap ∧ B.U.vm = t.vm ∧ XC E (A.U.calling g mk a) t ∧ t.heap[q]? = some ce ∧ ce.vm = .none ∧ A.U.vm.findClass E = some ce.cls ∧ B.locs = A.locs ++ L ∧ (∀ z ∈ L, free z.base) ∧ B.cells = A.cells + mc ∧ B.slots = A.slots + ms
def vx_Back (l : Launch) (R : Room) (p : Program) (e : Env) (below : List Frame) (s : State) (sargs : Array Value) (y : MethodName) (len W9 : Nat)
    (Pre : Pt → Array Value → Prop) (Post : Pt → Array Value → Option Value → Pt → Prop) (PostX : Pt → Array Value → Addr → Pt → Prop) : Prop :=
  ∀ (m : MethodId) (meth : Method) (c : Code) (A : Pt) (g : JFrame) (ig : Instr) (mk : MethodId) (a : Array Value),
    Stand p l e R s m sargs below meth c A.U A.locs A.cells A.slots → g.method = m → g.locals.size = c.maxLocals → decode c.code g.pc = .ok (ig, len) →
    2 * g.monitorRoom + (g.stack.map fun v => v.category).sum ≤ W9 → A.U.methodNamed? y = some mk → Pre A a →
    (∃ (v : Option Value) (B : Pt), Stand p l e R s m sargs below meth c B.U B.locs B.cells B.slots ∧ Post A a v B ∧
      Steps p.tables e below (doInvoke e (A.U.setTop g) [] mk a).1 (B.U.setTop { g with pc := g.pc + len, stack := v.toList ++ g.stack })) ∨
    (∃ (q : Addr) (B : Pt), Stand p l e R s m sargs below meth c B.U B.locs B.cells B.slots ∧ PostX A a q B ∧
      Steps p.tables e below (doInvoke e (A.U.setTop g) [] mk a).1 ((B.U.setTop g).pushFrame (.throwing q)))
section Payer
variable {l : Launch} {R : Room} {p : Program} {e : Env} {below : List Frame} {s : State} {sargs : Array Value} {y : MethodName} {len W9 : Nat}
theorem vx_back {ws : List Cond} {rm : Room} {Pc : Array Value → State → Prop} {Qc : Array Value → State → Outcome → State → Prop} {XC : String → State → State → Prop} {mc ms : Nat} {free : Addr → Prop} {bytes : ByteArray} {maxL : Nat} {ret : Option FieldType}
    (hM : vx_Met l y ws rm Pc Qc XC mc ms free) (hblind : FrameBlind Pc) (hrc : rm.cells = mc) (hrs : rm.slots = ms)
    (hframes : rm.frames + 1 ≤ R.frames) (hlocals : W9 + (maxL + 11) + rm.locals ≤ R.locals)
    (hws : ∀ w ∈ ws, ∀ a' U, s.WarmedH U.vm → w.before a' U = true) (hcode : Cond.code y bytes maxL ret ∈ ws) (hinit : ∀ a' U, s.WarmedH U.vm → (Cond.initialized y.cls).before a' U = true) :
    vx_Back l R p e below s sargs y len W9 (PreOf R mc ms Pc) (PostOf Qc mc ms free) (vx_Post XC mc ms free) := by
  intro m meth c A g ig mk a X hg hsize hdg hW hn hp
  have h1 : (headSpec ws rm).pre.before a A.U = true := atoms_intro fun w hw => hws w hw _ _ X.warmed
  have h2 : (Cond.code y bytes maxL ret).before a A.U = true := hws _ hcode _ _ X.warmed
  have h3 : (Cond.initialized y.cls).before a A.U = true := hinit _ _ X.warmed
  have h4 : A.cells + (headSpec ws rm).room.cells ≤ R.cells := by rw [show (headSpec ws rm).room.cells = mc from hrc]; exact hp.1
  have h5 : A.slots + (headSpec ws rm).room.slots ≤ R.slots := by rw [show (headSpec ws rm).room.slots = ms from hrs]; exact hp.2.1
  have hPc : Pc a (A.U.calling g mk a) := hblind _ _ _ _ hp.2.2
  obtain ⟨U, Ls, c0, s0⟩ := A
  dsimp only [Pt.U, Pt.locs, Pt.cells, Pt.slots] at h1 h2 h3 h4 h5 X hn hPc ⊢
  obtain ⟨methY, cY, hmY, hcY, -, hlY, -, -, -, -⟩ := Cond.code_spec hn h2
  obtain ⟨kY, hkY, -⟩ := className_of_methodNamed hn
  have hinitY : kY.init = .initialized := Cond.initialized_spec (findClass_of_methodNamed hn) hkY h3
  have h : At U g.method c below := by rw [hg]; exact X.here
  have hlocals9 : W9 + (maxL + 11) + (headSpec ws rm).room.locals ≤ R.locals := hlocals
  have happ : (headSpec ws rm).appliesLoose y e.platform (U.calling g mk a) = true :=
    Spec.appliesLoose_calling (g := g) h hdg hn hkY hinitY
      (X.room_calling (g := g) (R' := (headSpec ws rm).room) hsize hmY hcY hframes (by rw [hlY]; omega) h4 h5) h1
  obtain ⟨mid, hmid⟩ := h.above
  have hfr : (U.setTop g).frames = (.java g :: mid) ++ below := by rw [State.frames_setTop' g h.top, hmid]; rfl
  obtain ⟨o, s₂, hsteps, -, hend, hq⟩ := Steps.callFree hM p X.admits X.cas X.clock (acts := []) hfr happ hPc trivial
  have hq' : vx_Q Qc XC mc ms free a (U.calling g mk a) o s₂ := hq
  rw [State.frames_setTop' g h.top] at hend
  obtain ⟨g₀, hg0⟩ := Option.isSome_iff_exists.mp h.top
  obtain ⟨r, hr⟩ := State.topJava?_eq_some.mp hg0
  have hr' : (({ U with heap := s₂.heap, slotsUsed := s₂.slotsUsed } : State).setVm s₂.vm).frames = .java g₀ :: r := hr
  rcases hq' with ⟨hqc, L, hfe, hL⟩ | ⟨q, rfl, E, ce, L, hx, hce, hcv, hcl, hW₂, hsm, hL⟩
  · obtain ⟨⟨v, rfl⟩, hW₂, e2, q2, q3, q4, q5, q6⟩ := id hfe
    have e3 : s₂ = ({ (U.calling g mk a).setFrames s₂.frames with heap := s₂.heap, slotsUsed := s₂.slotsUsed } : State).setVm s₂.vm := by
      have : s₂ = ({ s₂ with vm := (U.calling g mk a).vm } : State).setVm s₂.vm := rfl
      rw [e2] at this
      exact this
    obtain ⟨c₂, i₂, len₂, hc₂, hd₂, hf₂⟩ := hend
    have hW' : U.WarmedH s₂.vm := hW₂
    have hcc : c₂ = c := by
      have h1 : s₂.code? g.method = U.code? g.method := by
        rw [State.code?_eq, State.code?_eq, hW'.alike.method?]
      exact Option.some.inj (hc₂.symm.trans (h1.trans h.code))
    subst hcc
    have hlen : len₂ = len := by rw [hdg] at hd₂; cases hd₂; rfl
    subst hlen
    have hs₂ : s₂ = (({ U with heap := s₂.heap, slotsUsed := s₂.slotsUsed } : State).setVm s₂.vm).setTop { g with pc := g.pc + len₂, stack := v.toList ++ g.stack } := by
      refine e3.trans ?_
      rw [hf₂, State.calling_eq h.top, State.setFrames_setFrames, State.setTop_of_frames _ hr', hr]
      rfl
    have hsame : U.sameButNew ({ U with heap := s₂.heap, slotsUsed := s₂.slotsUsed } : State) L mc ms := by
      refine ⟨?_, q2, q3, q4, q5, q6⟩
      obtain ⟨t, ht, -⟩ := State.frames_cons hr
      show ({ U with heap := s₂.heap, slotsUsed := s₂.slotsUsed } : State) = { U.setFrames U.frames with heap := s₂.heap, slotsUsed := s₂.slotsUsed }
      rw [State.setFrames_self ht]
    subst hg
    refine Or.inl ⟨v, ⟨(({ U with heap := s₂.heap, slotsUsed := s₂.slotsUsed } : State).setVm s₂.vm), Ls ++ L, c0 + mc, s0 + ms⟩,
      ⟨X.admits, X.cas, X.clock, X.frames, X.room, X.hears, X.method, X.code, (X.here.setHeapUsed s₂.heap s₂.slotsUsed).setVm hW'.alike, X.tail, State.WarmedH.trans X.warmed hW', X.limits, X.bytes, X.same.trans (hsame.setVm s.vm)⟩,
      ⟨g, mk, s₂, L, rfl, rfl, hqc, rfl, hL, rfl, rfl⟩, ?_⟩
    show Steps p.tables e below _ ((({ U with heap := s₂.heap, slotsUsed := s₂.slotsUsed } : State).setVm s₂.vm).setTop { g with pc := g.pc + len₂, stack := v.toList ++ g.stack })
    rw [← hs₂]
    exact hsteps
  · obtain ⟨e2, q2, q3, q4, q5, q6⟩ := id hsm
    have e3 : s₂ = ({ (U.calling g mk a).setFrames s₂.frames with heap := s₂.heap, slotsUsed := s₂.slotsUsed } : State).setVm s₂.vm := by
      have : s₂ = ({ s₂ with vm := (U.calling g mk a).vm } : State).setVm s₂.vm := rfl
      rw [e2] at this
      exact this
    have hf₂ : s₂.frames = .throwing q :: .java g :: U.frames.tail := hend
    have hW' : U.WarmedH s₂.vm := hW₂
    have hs₂ : s₂ = ((({ U with heap := s₂.heap, slotsUsed := s₂.slotsUsed } : State).setVm s₂.vm).setTop g).pushFrame (.throwing q) := by
      refine e3.trans ?_
      rw [hf₂, State.calling_eq h.top, State.setFrames_setFrames, State.pushFrame, State.frames_setTop _ hr', State.setTop_of_frames _ hr', State.setFrames_setFrames, hr]
      rfl
    have hsame : U.sameButNew ({ U with heap := s₂.heap, slotsUsed := s₂.slotsUsed } : State) L mc ms := by
      refine ⟨?_, q2, q3, q4, q5, q6⟩
      obtain ⟨t, ht, -⟩ := State.frames_cons hr
      show ({ U with heap := s₂.heap, slotsUsed := s₂.slotsUsed } : State) = { U.setFrames U.frames with heap := s₂.heap, slotsUsed := s₂.slotsUsed }
      rw [State.setFrames_self ht]
    subst hg
    refine Or.inr ⟨q, ⟨(({ U with heap := s₂.heap, slotsUsed := s₂.slotsUsed } : State).setVm s₂.vm), Ls ++ L, c0 + mc, s0 + ms⟩,
      ⟨X.admits, X.cas, X.clock, X.frames, X.room, X.hears, X.method, X.code, (X.here.setHeapUsed s₂.heap s₂.slotsUsed).setVm hW'.alike, X.tail, State.WarmedH.trans X.warmed hW', X.limits, X.bytes, X.same.trans (hsame.setVm s.vm)⟩,
      ⟨g, mk, s₂, L, E, ce, rfl, rfl, hx, hce, hcv, hcl, rfl, hL, rfl, rfl⟩, ?_⟩
    show Steps p.tables e below _ (((({ U with heap := s₂.heap, slotsUsed := s₂.slotsUsed } : State).setVm s₂.vm).setTop g).pushFrame (.throwing q))
    rw [← hs₂]
    exact hsteps
end Payer
section Calls
variable {p : Program} {l : Launch} {e : Env} {R : Room} {s : State} {m : MethodId} {args : Array Value} {below : List Frame} {meth : Method} {c : Code} {T : State} {locs : List Loc} {cells slots : Nat}
theorem vx_callV (X : Stand p l e R s m args below meth c T locs cells slots) (hexec : p.tables.exec = Jvm.exec) {own C : String} {index : Nat} {y : MethodName} {bytes : ByteArray} {maxL : Nat} {ret : Option FieldType}
    (hown : s.vm.findClass own = some m.cls) (hlink : (Cond.methodLink own index y).before args s = true) (hinst : (Cond.instanceMethod y).before args s = true) (hsel : (Cond.selects C y y).before args s = true)
    (hcode : (Cond.code y bytes maxL ret).before args s = true) (hy : y.cls ≠ "java/lang/invoke/MethodHandle" ∧ y.cls ≠ "java/lang/invoke/VarHandle")
    {W9 : Nat} {Pre : Pt → Array Value → Prop} {Post : Pt → Array Value → Option Value → Pt → Prop} {PostX : Pt → Array Value → Addr → Pt → Prop} (hK : vx_Back l R p e below s args y 3 W9 Pre Post PostX)
    {b : Addr} {cellB : Cell} (hcell : T.heap[b]? = some cellB) (hobj : cellB.vm.isStatics = false) (hcls : s.vm.findClass C = some cellB.cls)
    {g : JFrame} (hg : g.method = m) (hsize : g.locals.size = c.maxLocals) {argsL rest : List Value} (hlen : ∀ sig, parseMethodDescriptor y.desc = some sig → argsL.length = sig.parameters.length)
    (hstack : g.stack = argsL.reverse ++ .ref b :: rest) (hW : 2 * g.monitorRoom + (rest.map fun v => v.category).sum ≤ W9) (hdg : decode c.code g.pc = .ok (.invokevirtual index, 3))
    (hpre : ∀ vm₁, s.WarmedH vm₁ → Pre ⟨T.setVm vm₁, locs, cells, slots⟩ (Value.ref b :: argsL).toArray) :
    (∃ (v : Option Value) (vm₁ : Vm) (B : Pt), s.WarmedH vm₁ ∧ Stand p l e R s m args below meth c B.U B.locs B.cells B.slots ∧ Post ⟨T.setVm vm₁, locs, cells, slots⟩ (Value.ref b :: argsL).toArray v B ∧
      ∀ target, Steps p.tables e below (B.U.setTop { g with pc := g.pc + 3, stack := v.toList ++ rest }) target → Steps p.tables e below (T.setTop g) target) ∨
    (∃ (q : Addr) (vm₁ : Vm) (B : Pt), s.WarmedH vm₁ ∧ Stand p l e R s m args below meth c B.U B.locs B.cells B.slots ∧ PostX ⟨T.setVm vm₁, locs, cells, slots⟩ (Value.ref b :: argsL).toArray q B ∧
      Steps p.tables e below (T.setTop g) ((B.U.setTop { g with stack := rest }).pushFrame (.throwing q))) := by
  obtain ⟨mk, methM, hnamed, hmethM, hstM, habM⟩ := Cond.instanceMethod_spec hinst
  obtain ⟨methM', cM, hmethM', -, -, -, -, -, -, hsigM⟩ := Cond.code_spec hnamed hcode
  cases hmethM.symm.trans hmethM'
  obtain ⟨c2, r2, m2, q1, q2, q3, q4, kP, hkP, hkPi⟩ := Cond.selects_spec hsel
  cases hcls.symm.trans q1
  cases (State.methodFound?_of_named hnamed hy).symm.trans q2
  cases hnamed.symm.trans q3
  have hselP : selectMethod e.platform s.vm cellB.cls mk = .method mk := by rw [Launch.admits_selectMethod X.admits]; exact q4
  obtain ⟨vm₁, X₁, hstep₁⟩ := X.invokevirtual hexec hown hlink hnamed hmethM hstM hkP hkPi hy (a := b) (cell := cellB) hcell
    (fun z h => by rw [h] at hobj; cases hobj) hselP hmethM habM hkP hkPi (g := g) hg (argsL := argsL) (rest := rest) (hlen _ hsigM) hstack hdg
  rcases hK m meth c ⟨T.setVm vm₁, locs, cells, slots⟩ { g with stack := rest } (.invokevirtual index) mk (Value.ref b :: argsL).toArray X₁ hg hsize hdg hW (X₁.named hnamed) (hpre vm₁ X₁.warmed) with ⟨v, B, X', hpost, hsteps⟩ | ⟨q, B, X', hpost, hsteps⟩
  · exact Or.inl ⟨v, vm₁, B, X₁.warmed, X', hpost, fun target h => hstep₁ _ fun acts => by rw [doInvoke_state]; exact hsteps.trans h⟩
  · exact Or.inr ⟨q, vm₁, B, X₁.warmed, X', hpost, hstep₁ _ fun acts => by rw [doInvoke_state]; exact hsteps⟩
theorem vx_callS (X : Stand p l e R s m args below meth c T locs cells slots) (hexec : p.tables.exec = Jvm.exec) {own : String} {index : Nat} {y : MethodName} {bytes : ByteArray} {maxL : Nat} {ret : Option FieldType}
    (hown : s.vm.findClass own = some m.cls) (hlink : (Cond.methodLink own index y).before args s = true) (hstat : (Cond.static y).before args s = true) (hinit : (Cond.initialized y.cls).before args s = true)
    (hcode : (Cond.code y bytes maxL ret).before args s = true) (hy : y.cls ≠ "java/lang/invoke/MethodHandle" ∧ y.cls ≠ "java/lang/invoke/VarHandle")
    {W9 : Nat} {Pre : Pt → Array Value → Prop} {Post : Pt → Array Value → Option Value → Pt → Prop} {PostX : Pt → Array Value → Addr → Pt → Prop} (hK : vx_Back l R p e below s args y 3 W9 Pre Post PostX)
    {g : JFrame} (hg : g.method = m) (hsize : g.locals.size = c.maxLocals) {argsL rest : List Value} (hlen : ∀ sig, parseMethodDescriptor y.desc = some sig → argsL.length = sig.parameters.length)
    (hstack : g.stack = argsL.reverse ++ rest) (hW : 2 * g.monitorRoom + (rest.map fun v => v.category).sum ≤ W9) (hdg : decode c.code g.pc = .ok (.invokestatic index, 3))
    (hpre : ∀ vm₁, s.WarmedH vm₁ → Pre ⟨T.setVm vm₁, locs, cells, slots⟩ argsL.toArray) :
    (∃ (v : Option Value) (vm₁ : Vm) (B : Pt), s.WarmedH vm₁ ∧ Stand p l e R s m args below meth c B.U B.locs B.cells B.slots ∧ Post ⟨T.setVm vm₁, locs, cells, slots⟩ argsL.toArray v B ∧
      ∀ target, Steps p.tables e below (B.U.setTop { g with pc := g.pc + 3, stack := v.toList ++ rest }) target → Steps p.tables e below (T.setTop g) target) ∨
    (∃ (q : Addr) (vm₁ : Vm) (B : Pt), s.WarmedH vm₁ ∧ Stand p l e R s m args below meth c B.U B.locs B.cells B.slots ∧ PostX ⟨T.setVm vm₁, locs, cells, slots⟩ argsL.toArray q B ∧
      Steps p.tables e below (T.setTop g) ((B.U.setTop { g with stack := rest }).pushFrame (.throwing q))) := by
  obtain ⟨mk, hnamed⟩ := Cond.code_named hcode
  obtain ⟨methM, cM, hmethM, -, -, -, -, -, -, hsigM⟩ := Cond.code_spec hnamed hcode
  have hstatic : methM.isStatic = true := Cond.static_spec hnamed hmethM hstat
  obtain ⟨kP, hkP, -⟩ := className_of_methodNamed hnamed
  have hinitP : kP.init = .initialized := Cond.initialized_spec (findClass_of_methodNamed hnamed) hkP hinit
  obtain ⟨vm₁, X₁, hstep₁⟩ := X.invokestatic hexec hown hlink hnamed hmethM hstatic hkP hinitP hy (g := g) hg (argsL := argsL) (rest := rest) (hlen _ hsigM) hstack hdg
  rcases hK m meth c ⟨T.setVm vm₁, locs, cells, slots⟩ { g with stack := rest } (.invokestatic index) mk argsL.toArray X₁ hg hsize hdg hW (X₁.named hnamed) (hpre vm₁ X₁.warmed) with ⟨v, B, X', hpost, hsteps⟩ | ⟨q, B, X', hpost, hsteps⟩
  · exact Or.inl ⟨v, vm₁, B, X₁.warmed, X', hpost, fun target h => hstep₁ _ fun acts => by rw [doInvoke_state]; exact hsteps.trans h⟩
  · exact Or.inr ⟨q, vm₁, B, X₁.warmed, X', hpost, hstep₁ _ fun acts => by rw [doInvoke_state]; exact hsteps⟩
end Calls
theorem vx_cls {s : State} {T : State} {vm₁ : Vm} {E : String} {k : ClassId} (hW : s.WarmedH vm₁) (h : (T.setVm vm₁).vm.findClass E = some k) : s.vm.findClass E = some k := by
  have h1 : vm₁.findClass E = some k := h
  rw [hW.alike.findClass] at h1
  exact h1
/-- the method's frame g, with q thrown over it -/
def vx_W (p : Program) (l : Launch) (e : Env) (R : Room) (s : State) (m : MethodId) (args : Array Value) (below : List Frame) (meth : Method) (c : Code) (H : Heap) (locs : List Loc) (cells slots : Nat) (Q : State → Prop) (g : JFrame) (q : Addr) : Prop :=
  ∀ T : State, T.heap = H → Stand p l e R s m args below meth c T locs cells slots → ∃ t, Steps p.tables e below ((T.setTop g).pushFrame (.throwing q)) t ∧ Q t
def vx_Run (p : Program) (l : Launch) (e : Env) (R : Room) (s : State) (m : MethodId) (args : Array Value) (below : List Frame) (meth : Method) (c : Code) (H : Heap) (locs : List Loc) (cells slots mc ms : Nat) (g : JFrame) (rest : List Value) (Qa : State → Outcome → State → Prop) (XC : String → State → State → Prop) (free : Addr → Prop) : Prop :=
  ∀ T : State, T.heap = H → Stand p l e R s m args below meth c T locs cells slots →
    (∃ (v : Option Value) (st₀ t T' : State) (L : List Loc), st₀.heap = H ∧ Stand p l e R s m args below meth c T' (locs ++ L) (cells + mc) (slots + ms) ∧ (∀ q ∈ L, free q.base) ∧ T'.heap = t.heap ∧ T'.vm = t.vm ∧ Qa st₀ (.returned v) t ∧
      Goes p e below T g T' { g with pc := g.pc + 3, stack := v.toList ++ rest }) ∨
    (∃ (q : Addr) (st₀ t T' : State) (L : List Loc) (E : String) (ce : Cell), st₀.heap = H ∧ Stand p l e R s m args below meth c T' (locs ++ L) (cells + mc) (slots + ms) ∧ (∀ z ∈ L, free z.base) ∧ T'.heap = t.heap ∧ T'.vm = t.vm ∧ XC E st₀ t ∧ t.heap[q]? = some ce ∧ ce.vm = .none ∧ s.vm.findClass E = some ce.cls ∧
      Steps p.tables e below (T.setTop g) ((T'.setTop { g with stack := rest }).pushFrame (.throwing q)))
def vx_X {S : Type} (px : S → Prop) (B : String → S → State → Prop) (A : Nat → Prop) : String → State → State → Prop := fun E st t => ∃ u : S, px u ∧ B E u t ∧ va_F A st t
section Runs
variable {p : Program} {l : Launch} {e : Env} {R : Room} {s : State} {m : MethodId} {args : Array Value} {below : List Frame} {meth : Method} {c : Code} {H : Heap} {locs : List Loc} {cells slots : Nat}
variable {y : MethodName} {bytes cc : ByteArray} {maxL nL mc ms n index : Nat} {ret : Option FieldType} {ws : List Cond} {rm : Room} {Pc : Array Value → State → Prop} {Qc : Array Value → State → Outcome → State → Prop} {XC : String → State → State → Prop} {free : Addr → Prop} {Ts : List Cond} {own C : String} {b : Addr} {As rest : List Value} {g : JFrame}
theorem vx_callBack (cb : CallB R s args own index y bytes maxL ret ws rm mc ms n) (hM : vx_Met l y ws rm Pc Qc XC mc ms free) (hbl : FrameBlind Pc) : vx_Back l R p e below s args y 3 8 (PreOf R mc ms Pc) (PostOf Qc mc ms free) (vx_Post XC mc ms free) := by
  obtain ⟨hrc, hrs, hfr, hlo, hws, hcw, -, hini, -⟩ := cb
  exact vx_back (bytes := bytes) (maxL := maxL) (ret := ret) hM hbl hrc hrs hfr hlo hws hcw (fun a' U hW => word_at hW (Or.inl (by first | rfl | simp [Cond.onTables, Cond.keeps, Cond.steady])) hini)
theorem vx_runV (S : CallFix p m c cc nL s args Ts own) (hM : vx_Met l y ws rm Pc Qc XC mc ms free) (cw : CallW R s args own C index y bytes maxL ret ws rm mc ms n) (hp : PreV s H C b Pc As)
    (hg : g.method = m) (hn : As.length = n) (hsize : g.locals.size = nL) (hstack : g.stack = As.reverse ++ .ref b :: rest) (hW : 2 * g.monitorRoom + (rest.map fun v => v.category).sum ≤ 8) (hdg : decode cc g.pc = .ok (.invokevirtual index, 3)) (hf : cells + mc ≤ R.cells ∧ slots + ms ≤ R.slots) :
    vx_Run p l e R s m args below meth c H locs cells slots mc ms g rest (Qc (Value.ref b :: As).toArray) XC free := by
  have hK : vx_Back l R p e below s args y 3 8 (PreOf R mc ms Pc) (PostOf Qc mc ms free) (vx_Post XC mc ms free) := vx_callBack cw.1 hM hp.1
  obtain ⟨⟨-, -, -, -, -, -, hcode, -, hy, hlen, hl⟩, hin, hse⟩ := cw
  obtain ⟨hx, hb, hml, ho, -⟩ := S
  obtain ⟨-, ⟨cellB, hcB, hoB, hclB⟩, hPc⟩ := hp
  intro T hT X
  rcases vx_callV X hx (C := C) (bytes := bytes) (maxL := maxL) (ret := ret) ho hl hin hse hcode hy hK (by rw [hT]; exact hcB) hoB hclB hg (hsize.trans hml.symm) (argsL := As) (rest := rest) (fun sig h => hn.trans (hlen sig h)) hstack hW (by rw [hb]; exact hdg)
    (fun vm₁ hW₁ => ⟨hf.1, hf.2, hPc (T.setVm vm₁) hT hW₁⟩) with ⟨v, vm₁, ⟨U', l2, c2, s2⟩, hW₁, X', ⟨g', mk, t, L, e1, e2, hq, h1, hL, h2, h3⟩, st⟩ | ⟨q, vm₁, ⟨U', l2, c2, s2⟩, hW₁, X', ⟨g', mk, t, L, E, ce, e1, e2, hq, hce, hcv, hcl, h1, hL, h2, h3⟩, st⟩
  · dsimp only [Pt.U, Pt.locs, Pt.cells, Pt.slots] at X' e1 e2 h1 h2 h3 st
    subst h1; subst h2; subst h3
    exact Or.inl ⟨v, (T.setVm vm₁).calling g' mk (Value.ref b :: As).toArray, t, U', L, hT, X', hL, e1, e2, hq, st⟩
  · dsimp only [Pt.U, Pt.locs, Pt.cells, Pt.slots] at X' e1 e2 h1 h2 h3 st hcl
    subst h1; subst h2; subst h3
    exact Or.inr ⟨q, (T.setVm vm₁).calling g' mk (Value.ref b :: As).toArray, t, U', L, E, ce, hT, X', hL, e1, e2, hq, hce, hcv, vx_cls hW₁ hcl, st⟩
theorem vx_runS (S : CallFix p m c cc nL s args Ts own) (hM : vx_Met l y ws rm Pc Qc XC mc ms free) (cw : CallB R s args own index y bytes maxL ret ws rm mc ms n ∧ (Cond.static y).before args s = true) (hp : PreS s H Pc As)
    (hg : g.method = m) (hn : As.length = n) (hsize : g.locals.size = nL) (hstack : g.stack = As.reverse ++ rest) (hW : 2 * g.monitorRoom + (rest.map fun v => v.category).sum ≤ 8) (hdg : decode cc g.pc = .ok (.invokestatic index, 3)) (hf : cells + mc ≤ R.cells ∧ slots + ms ≤ R.slots) :
    vx_Run p l e R s m args below meth c H locs cells slots mc ms g rest (Qc As.toArray) XC free := by
  have hK : vx_Back l R p e below s args y 3 8 (PreOf R mc ms Pc) (PostOf Qc mc ms free) (vx_Post XC mc ms free) := vx_callBack cw.1 hM hp.1
  obtain ⟨⟨-, -, -, -, -, -, hcode, hini, hy, hlen, hl⟩, hstt⟩ := cw
  obtain ⟨hx, hb, hml, ho, -⟩ := S
  intro T hT X
  rcases vx_callS X hx (bytes := bytes) (maxL := maxL) (ret := ret) ho hl hstt hini hcode hy hK hg (hsize.trans hml.symm) (argsL := As) (rest := rest) (fun sig h => hn.trans (hlen sig h)) hstack hW (by rw [hb]; exact hdg)
    (fun vm₁ hW₁ => ⟨hf.1, hf.2, hp.2 (T.setVm vm₁) hT hW₁⟩) with ⟨v, vm₁, ⟨U', l2, c2, s2⟩, hW₁, X', ⟨g', mk, t, L, e1, e2, hq, h1, hL, h2, h3⟩, st⟩ | ⟨q, vm₁, ⟨U', l2, c2, s2⟩, hW₁, X', ⟨g', mk, t, L, E, ce, e1, e2, hq, hce, hcv, hcl, h1, hL, h2, h3⟩, st⟩
  · dsimp only [Pt.U, Pt.locs, Pt.cells, Pt.slots] at X' e1 e2 h1 h2 h3 st
    subst h1; subst h2; subst h3
    exact Or.inl ⟨v, (T.setVm vm₁).calling g' mk As.toArray, t, U', L, hT, X', hL, e1, e2, hq, st⟩
  · dsimp only [Pt.U, Pt.locs, Pt.cells, Pt.slots] at X' e1 e2 h1 h2 h3 st hcl
    subst h1; subst h2; subst h3
    exact Or.inr ⟨q, (T.setVm vm₁).calling g' mk As.toArray, t, U', L, E, ce, hT, X', hL, e1, e2, hq, hce, hcv, vx_cls hW₁ hcl, st⟩
end Runs
section Rows
variable {p : Program} {l : Launch} {e : Env} {R : Room} {s : State} {m : MethodId} {args : Array Value} {below : List Frame} {meth : Method} {c : Code} {H : Heap} {locs : List Loc} {cells slots : Nat} {Q : State → Prop}
variable {mc ms : Nat} {free : Addr → Prop} {A0 A1 : Nat → Prop} {H0 : Heap} {a : Array Value} {pc : Nat} {ls : Array Slot} {st0 rest : List Value}
theorem vx_keep {st₀ t T' : State} {L : List Loc} (h0 : st₀.heap = H) (e1 : T'.heap = t.heap) (hS : va_S A0 H0 H locs) (hA : ∀ q, q < H.size → A1 q → A0 q) (hf : ∀ q, free q → A0 q) (hL : ∀ q ∈ L, free q.base) (hF : va_F A1 st₀ t) :
    H.size ≤ T'.heap.size ∧ (∀ q : Nat, q < H.size → ¬ A1 q → T'.heap[q]? = H[q]?) ∧ va_S A0 H0 T'.heap (locs ++ L) := by
  obtain ⟨hz, hk⟩ := hF
  rw [h0] at hz hk
  exact ⟨by rw [e1]; exact hz, fun q h1 h2 => by rw [e1]; exact hk q h1 h2,
    ⟨Nat.le_trans hS.1 (by rw [e1]; exact hz), fun q h1 h2 => by rw [e1, hk q (Nat.lt_of_lt_of_le h1 hS.1) (fun z => h2 (hA q (Nat.lt_of_lt_of_le h1 hS.1) z))]; exact hS.2.1 q h1 h2, fun q hq => by
      rcases List.mem_append.mp hq with h | h
      · exact hS.2.2 q h
      · exact hf _ (hL q h)⟩⟩
theorem vx_calli {S SX : Type} {post : Int32 → S → Prop} {px : SX → Prop} {B : S → State → Prop} {BX : String → SX → State → Prop} {AX : Nat → Prop} (hr : vx_Run p l e R s m args below meth c H locs cells slots mc ms (F0 m pc ls st0) rest (va_Qi post B A1 a) (vx_X px BX AX) free) (hS : va_S A0 H0 H locs) (hA : ∀ q, q < H.size → A1 q → A0 q) (hf : ∀ q, free q → A0 q) (hAX : ∀ q, q < H.size → AX q → A0 q)
    (kx : ∀ (E : String) (ce : Cell) (q9 : Addr) (u : SX) (t : State) (H1 : Heap) (locs1 : List Loc), t.heap = H1 → s.vm.Alike t.vm → px u → BX E u t → H.size ≤ H1.size → (∀ q : Nat, q < H.size → ¬ AX q → H1[q]? = H[q]?) → va_S A0 H0 H1 locs1 → H1[q9]? = some ce → ce.vm = .none → s.vm.findClass E = some ce.cls → vx_W p l e R s m args below meth c H1 locs1 (cells + mc) (slots + ms) Q (F0 m pc ls rest) q9)
    (kk : ∀ (r : Int32) (u : S) (t : State) (H1 : Heap) (locs1 : List Loc), t.heap = H1 → s.vm.Alike t.vm → post r u → B u t → H.size ≤ H1.size → (∀ q : Nat, q < H.size → ¬ A1 q → H1[q]? = H[q]?) → va_S A0 H0 H1 locs1 → W p l e R s m args below meth c H1 locs1 (cells + mc) (slots + ms) Q (F0 m (pc + 3) ls (.int r :: rest))) : W p l e R s m args below meth c H locs cells slots Q (F0 m pc ls st0) := by
  intro T hT X
  rcases hr T hT X with ⟨v, st₀, t, T', L, h0, X', hL, e1, e2, ⟨⟨r, u, hv, hp, hb⟩, hF⟩, st⟩ | ⟨q, st₀, t, T', L, E, ce, h0, X', hL, e1, e2, ⟨u, hp, hb, hF⟩, hce, hcv, hcl, st⟩
  · cases hv
    obtain ⟨k1, k2, k3⟩ := vx_keep h0 e1 hS hA hf hL hF
    obtain ⟨t2, a1, b1⟩ := kk r u t T'.heap (locs ++ L) e1.symm (by rw [← e2]; exact X'.warmed.alike) hp hb k1 k2 k3 T' rfl X'
    exact ⟨t2, st t2 a1, b1⟩
  · obtain ⟨k1, k2, k3⟩ := vx_keep h0 e1 hS hAX hf hL hF
    obtain ⟨t2, a1, b1⟩ := kx E ce q u t T'.heap (locs ++ L) e1.symm (by rw [← e2]; exact X'.warmed.alike) hp hb k1 k2 k3 (by rw [e1]; exact hce) hcv hcl T' rfl X'
    exact ⟨t2, st.trans a1, b1⟩
theorem vx_calll {S SX : Type} {post : Int64 → S → Prop} {px : SX → Prop} {B : S → State → Prop} {BX : String → SX → State → Prop} {AX : Nat → Prop} (hr : vx_Run p l e R s m args below meth c H locs cells slots mc ms (F0 m pc ls st0) rest (va_Ql post B A1 a) (vx_X px BX AX) free) (hS : va_S A0 H0 H locs) (hA : ∀ q, q < H.size → A1 q → A0 q) (hf : ∀ q, free q → A0 q) (hAX : ∀ q, q < H.size → AX q → A0 q)
    (kx : ∀ (E : String) (ce : Cell) (q9 : Addr) (u : SX) (t : State) (H1 : Heap) (locs1 : List Loc), t.heap = H1 → s.vm.Alike t.vm → px u → BX E u t → H.size ≤ H1.size → (∀ q : Nat, q < H.size → ¬ AX q → H1[q]? = H[q]?) → va_S A0 H0 H1 locs1 → H1[q9]? = some ce → ce.vm = .none → s.vm.findClass E = some ce.cls → vx_W p l e R s m args below meth c H1 locs1 (cells + mc) (slots + ms) Q (F0 m pc ls rest) q9)
    (kk : ∀ (r : Int64) (u : S) (t : State) (H1 : Heap) (locs1 : List Loc), t.heap = H1 → s.vm.Alike t.vm → post r u → B u t → H.size ≤ H1.size → (∀ q : Nat, q < H.size → ¬ A1 q → H1[q]? = H[q]?) → va_S A0 H0 H1 locs1 → W p l e R s m args below meth c H1 locs1 (cells + mc) (slots + ms) Q (F0 m (pc + 3) ls (.long r :: rest))) : W p l e R s m args below meth c H locs cells slots Q (F0 m pc ls st0) := by
  intro T hT X
  rcases hr T hT X with ⟨v, st₀, t, T', L, h0, X', hL, e1, e2, ⟨⟨r, u, hv, hp, hb⟩, hF⟩, st⟩ | ⟨q, st₀, t, T', L, E, ce, h0, X', hL, e1, e2, ⟨u, hp, hb, hF⟩, hce, hcv, hcl, st⟩
  · cases hv
    obtain ⟨k1, k2, k3⟩ := vx_keep h0 e1 hS hA hf hL hF
    obtain ⟨t2, a1, b1⟩ := kk r u t T'.heap (locs ++ L) e1.symm (by rw [← e2]; exact X'.warmed.alike) hp hb k1 k2 k3 T' rfl X'
    exact ⟨t2, st t2 a1, b1⟩
  · obtain ⟨k1, k2, k3⟩ := vx_keep h0 e1 hS hAX hf hL hF
    obtain ⟨t2, a1, b1⟩ := kx E ce q u t T'.heap (locs ++ L) e1.symm (by rw [← e2]; exact X'.warmed.alike) hp hb k1 k2 k3 (by rw [e1]; exact hce) hcv hcl T' rfl X'
    exact ⟨t2, st.trans a1, b1⟩
theorem vx_callf {S SX : Type} {post : UInt32 → S → Prop} {px : SX → Prop} {B : S → State → Prop} {BX : String → SX → State → Prop} {AX : Nat → Prop} (hr : vx_Run p l e R s m args below meth c H locs cells slots mc ms (F0 m pc ls st0) rest (va_Qf post B A1 a) (vx_X px BX AX) free) (hS : va_S A0 H0 H locs) (hA : ∀ q, q < H.size → A1 q → A0 q) (hf : ∀ q, free q → A0 q) (hAX : ∀ q, q < H.size → AX q → A0 q)
    (kx : ∀ (E : String) (ce : Cell) (q9 : Addr) (u : SX) (t : State) (H1 : Heap) (locs1 : List Loc), t.heap = H1 → s.vm.Alike t.vm → px u → BX E u t → H.size ≤ H1.size → (∀ q : Nat, q < H.size → ¬ AX q → H1[q]? = H[q]?) → va_S A0 H0 H1 locs1 → H1[q9]? = some ce → ce.vm = .none → s.vm.findClass E = some ce.cls → vx_W p l e R s m args below meth c H1 locs1 (cells + mc) (slots + ms) Q (F0 m pc ls rest) q9)
    (kk : ∀ (r : UInt32) (u : S) (t : State) (H1 : Heap) (locs1 : List Loc), t.heap = H1 → s.vm.Alike t.vm → post r u → B u t → H.size ≤ H1.size → (∀ q : Nat, q < H.size → ¬ A1 q → H1[q]? = H[q]?) → va_S A0 H0 H1 locs1 → W p l e R s m args below meth c H1 locs1 (cells + mc) (slots + ms) Q (F0 m (pc + 3) ls (.float r :: rest))) : W p l e R s m args below meth c H locs cells slots Q (F0 m pc ls st0) := by
  intro T hT X
  rcases hr T hT X with ⟨v, st₀, t, T', L, h0, X', hL, e1, e2, ⟨⟨r, u, hv, hp, hb⟩, hF⟩, st⟩ | ⟨q, st₀, t, T', L, E, ce, h0, X', hL, e1, e2, ⟨u, hp, hb, hF⟩, hce, hcv, hcl, st⟩
  · cases hv
    obtain ⟨k1, k2, k3⟩ := vx_keep h0 e1 hS hA hf hL hF
    obtain ⟨t2, a1, b1⟩ := kk r u t T'.heap (locs ++ L) e1.symm (by rw [← e2]; exact X'.warmed.alike) hp hb k1 k2 k3 T' rfl X'
    exact ⟨t2, st t2 a1, b1⟩
  · obtain ⟨k1, k2, k3⟩ := vx_keep h0 e1 hS hAX hf hL hF
    obtain ⟨t2, a1, b1⟩ := kx E ce q u t T'.heap (locs ++ L) e1.symm (by rw [← e2]; exact X'.warmed.alike) hp hb k1 k2 k3 (by rw [e1]; exact hce) hcv hcl T' rfl X'
    exact ⟨t2, st.trans a1, b1⟩
theorem vx_calld {S SX : Type} {post : UInt64 → S → Prop} {px : SX → Prop} {B : S → State → Prop} {BX : String → SX → State → Prop} {AX : Nat → Prop} (hr : vx_Run p l e R s m args below meth c H locs cells slots mc ms (F0 m pc ls st0) rest (va_Qd post B A1 a) (vx_X px BX AX) free) (hS : va_S A0 H0 H locs) (hA : ∀ q, q < H.size → A1 q → A0 q) (hf : ∀ q, free q → A0 q) (hAX : ∀ q, q < H.size → AX q → A0 q)
    (kx : ∀ (E : String) (ce : Cell) (q9 : Addr) (u : SX) (t : State) (H1 : Heap) (locs1 : List Loc), t.heap = H1 → s.vm.Alike t.vm → px u → BX E u t → H.size ≤ H1.size → (∀ q : Nat, q < H.size → ¬ AX q → H1[q]? = H[q]?) → va_S A0 H0 H1 locs1 → H1[q9]? = some ce → ce.vm = .none → s.vm.findClass E = some ce.cls → vx_W p l e R s m args below meth c H1 locs1 (cells + mc) (slots + ms) Q (F0 m pc ls rest) q9)
    (kk : ∀ (r : UInt64) (u : S) (t : State) (H1 : Heap) (locs1 : List Loc), t.heap = H1 → s.vm.Alike t.vm → post r u → B u t → H.size ≤ H1.size → (∀ q : Nat, q < H.size → ¬ A1 q → H1[q]? = H[q]?) → va_S A0 H0 H1 locs1 → W p l e R s m args below meth c H1 locs1 (cells + mc) (slots + ms) Q (F0 m (pc + 3) ls (.double r :: rest))) : W p l e R s m args below meth c H locs cells slots Q (F0 m pc ls st0) := by
  intro T hT X
  rcases hr T hT X with ⟨v, st₀, t, T', L, h0, X', hL, e1, e2, ⟨⟨r, u, hv, hp, hb⟩, hF⟩, st⟩ | ⟨q, st₀, t, T', L, E, ce, h0, X', hL, e1, e2, ⟨u, hp, hb, hF⟩, hce, hcv, hcl, st⟩
  · cases hv
    obtain ⟨k1, k2, k3⟩ := vx_keep h0 e1 hS hA hf hL hF
    obtain ⟨t2, a1, b1⟩ := kk r u t T'.heap (locs ++ L) e1.symm (by rw [← e2]; exact X'.warmed.alike) hp hb k1 k2 k3 T' rfl X'
    exact ⟨t2, st t2 a1, b1⟩
  · obtain ⟨k1, k2, k3⟩ := vx_keep h0 e1 hS hAX hf hL hF
    obtain ⟨t2, a1, b1⟩ := kx E ce q u t T'.heap (locs ++ L) e1.symm (by rw [← e2]; exact X'.warmed.alike) hp hb k1 k2 k3 (by rw [e1]; exact hce) hcv hcl T' rfl X'
    exact ⟨t2, st.trans a1, b1⟩
theorem vx_callv {S SX : Type} {post : S → Prop} {px : SX → Prop} {B : S → State → Prop} {BX : String → SX → State → Prop} {AX : Nat → Prop} (hr : vx_Run p l e R s m args below meth c H locs cells slots mc ms (F0 m pc ls st0) rest (va_Qv post B A1 a) (vx_X px BX AX) free) (hS : va_S A0 H0 H locs) (hA : ∀ q, q < H.size → A1 q → A0 q) (hf : ∀ q, free q → A0 q) (hAX : ∀ q, q < H.size → AX q → A0 q)
    (kx : ∀ (E : String) (ce : Cell) (q9 : Addr) (u : SX) (t : State) (H1 : Heap) (locs1 : List Loc), t.heap = H1 → s.vm.Alike t.vm → px u → BX E u t → H.size ≤ H1.size → (∀ q : Nat, q < H.size → ¬ AX q → H1[q]? = H[q]?) → va_S A0 H0 H1 locs1 → H1[q9]? = some ce → ce.vm = .none → s.vm.findClass E = some ce.cls → vx_W p l e R s m args below meth c H1 locs1 (cells + mc) (slots + ms) Q (F0 m pc ls rest) q9)
    (kk : ∀ (u : S) (t : State) (H1 : Heap) (locs1 : List Loc), t.heap = H1 → s.vm.Alike t.vm → post u → B u t → H.size ≤ H1.size → (∀ q : Nat, q < H.size → ¬ A1 q → H1[q]? = H[q]?) → va_S A0 H0 H1 locs1 → W p l e R s m args below meth c H1 locs1 (cells + mc) (slots + ms) Q (F0 m (pc + 3) ls (rest))) : W p l e R s m args below meth c H locs cells slots Q (F0 m pc ls st0) := by
  intro T hT X
  rcases hr T hT X with ⟨v, st₀, t, T', L, h0, X', hL, e1, e2, ⟨⟨u, hv, hp, hb⟩, hF⟩, st⟩ | ⟨q, st₀, t, T', L, E, ce, h0, X', hL, e1, e2, ⟨u, hp, hb, hF⟩, hce, hcv, hcl, st⟩
  · cases hv
    obtain ⟨k1, k2, k3⟩ := vx_keep h0 e1 hS hA hf hL hF
    obtain ⟨t2, a1, b1⟩ := kk u t T'.heap (locs ++ L) e1.symm (by rw [← e2]; exact X'.warmed.alike) hp hb k1 k2 k3 T' rfl X'
    exact ⟨t2, st t2 a1, b1⟩
  · obtain ⟨k1, k2, k3⟩ := vx_keep h0 e1 hS hAX hf hL hF
    obtain ⟨t2, a1, b1⟩ := kx E ce q u t T'.heap (locs ++ L) e1.symm (by rw [← e2]; exact X'.warmed.alike) hp hb k1 k2 k3 (by rw [e1]; exact hce) hcv hcl T' rfl X'
    exact ⟨t2, st.trans a1, b1⟩
/-- caught by the row x of this method's table; the rows ahead don't take it -/
theorem vx_catch {own name : String} {E : String} {ce : Cell} {q : Addr} (hown : s.vm.findClass own = some m.cls) (pre : List ExceptionTableEntry) (x : ExceptionTableEntry) (suf : List ExceptionTableEntry) (hsplit : c.exceptionTable.toList = pre ++ x :: suf)
    (hpass : ∀ z ∈ pre, covers z pc = false ∨ (z.catchType ≠ 0 ∧ ∃ nm : String, (Cond.classLink own z.catchType nm).before args s = true ∧ va_Nc E nm s)) (hx : covers x pc = true) (h0 : x.catchType ≠ 0)
    (hlink : (Cond.classLink own x.catchType name).before args s = true) (hcast : (Cond.castable E name).before args s = true) (hcell : H[q]? = some ce) (hv : ce.vm = .none) (hcl : s.vm.findClass E = some ce.cls)
    (kk : W p l e R s m args below meth c H locs cells slots Q (F0 m x.handlerPc ls [.ref q])) : vx_W p l e R s m args below meth c H locs cells slots Q (F0 m pc ls rest) q := by
  intro T hT X
  have hpl : e.platform.magicAccessors = ({} : Platform).magicAccessors := by rw [X.admits.platform]
  obtain ⟨c3, c4, hc3, hc4, hasg⟩ := Cond.castable_spec hcast
  cases Option.some.inj (hc3.symm.trans hcl)
  obtain ⟨c5, hc5, hcl5⟩ := Cond.classLink_spec hown hlink e.platform hpl
  cases Option.some.inj (hc4.symm.trans hc5)
  obtain ⟨vm', X', st⟩ := X.thenCaughtThrough q (g := F0 m pc ls rest) rfl (Steps.refl _) (by rw [hT]; exact hcell) (by rw [hv]; rfl) (by obtain ⟨k9, h9, -⟩ := Vm.findClass_spec hcl; exact ⟨k9, h9⟩) pre x suf hsplit
    (fun z hz => by
      rcases hpass z hz with h | ⟨hz0, nm, hl1, hn1⟩
      · exact Or.inl h
      · obtain ⟨c6, hc6, hcl6⟩ := Cond.classLink_spec hown hl1 e.platform hpl
        obtain ⟨a8, b8, h1, h2, h3⟩ := hn1
        cases Option.some.inj (h1.symm.trans hcl)
        cases Option.some.inj (h2.symm.trans hc6)
        exact Or.inr ⟨hz0, _, hcl6, h3⟩) hx (Or.inr ⟨h0, c4, hcl5, hasg⟩)
  obtain ⟨t, a1, b1⟩ := kk (T.setVm vm') hT X'
  exact ⟨t, st.trans a1, b1⟩
end Rows
section Ends
variable {p : Program} {l : Launch} {e : Env} {R : Room} {s : State} {m : MethodId} {args : Array Value} {below : List Frame} {meth : Method} {c : Code} {H : Heap} {locs : List Loc} {cells slots : Nat} {Q : State → Prop}
variable {mc ms : Nat} {free : Addr → Prop} {A0 A1 : Nat → Prop} {H0 : Heap} {a : Array Value} {ls : Array Slot} {st0 rest : List Value}
variable {Qc : Array Value → State → Outcome → State → Prop} {XC : String → State → State → Prop}
/-- what a body that may throw owes at its end -/
def vx_MQ (below : List Frame) (Qc : Array Value → State → Outcome → State → Prop) (XC : String → State → State → Prop) (a : Array Value) (s : State) (mc ms : Nat) (free : Addr → Prop) : State → Prop := fun t =>
  ∃ o, t.status = .running ∧ Ended t below o ∧ vx_Q Qc XC mc ms free a s o t
theorem vx_ret {g : JFrame} {mc ms : Nat} (k : W p l e R s m args below meth c H locs cells slots (MQ below Qc args s mc ms free) g) : W p l e R s m args below meth c H locs cells slots (vx_MQ below Qc XC args s mc ms free) g := by
  intro T hT X
  obtain ⟨t, a1, o, b1, b2, b3, b4⟩ := k T hT X
  exact ⟨t, a1, o, b1, b2, Or.inl ⟨b3, b4⟩⟩
/-- not caught here: it goes on to the caller -/
theorem vx_widen {g : JFrame} {q : Addr} {k n : Nat} (h1 : cells ≤ k) (h2 : slots ≤ n) (kk : vx_W p l e R s m args below meth c H locs k n Q g q) : vx_W p l e R s m args below meth c H locs cells slots Q g q := fun T hT X => kk T hT (stand_widen X h1 h2)
theorem vx_out {pc : Nat} {E : String} {ce : Cell} {q : Addr} {mc ms : Nat} (hout : ∀ x ∈ c.exceptionTable.toList, covers x pc = false) (hlocks : meth.locks = false) (hcell : H[q]? = some ce) (hv : ce.vm = .none) (hcl : s.vm.findClass E = some ce.cls)
    (hx : ∀ t : State, t.heap = H → s.vm.Alike t.vm → XC E s t) (hf : ∀ z ∈ locs, free z.base) (hc : cells ≤ mc) (hs : slots ≤ ms) :
    vx_W p l e R s m args below meth c H locs cells slots (vx_MQ below Qc XC args s mc ms free) (F0 m pc ls rest) q := by
  intro T hT X
  obtain ⟨st1, hrun, hend, hW, hsm⟩ := X.leaveThrown q (g := F0 m pc ls rest) rfl rfl rfl hout hlocks
  have hcell9 : (T.setFrames (.throwing q :: below)).heap[q]? = some ce := by
    show T.heap[q]? = some ce
    rw [hT]; exact hcell
  exact ⟨_, st1, .threw q, hrun, hend, Or.inr ⟨q, rfl, E, ce, locs, hx _ hT hW.alike, hcell9, hv, hcl, hW, hsm.mono hc hs, hf⟩⟩
theorem vx_frame {U : State} {k n : Nat} (h : s.sameButNew ({ U with vm := s.vm } : State) locs k n) : s.heap.size ≤ U.heap.size ∧ ∀ q : Nat, q < s.heap.size → (∀ z ∈ locs, z.base ≠ q) → U.heap[q]? = s.heap[q]? := by
  obtain ⟨-, h2, -, -, -, h6⟩ := h
  refine ⟨h2, fun q hq hz => ?_⟩
  obtain ⟨c9, e1, e2, e3, e4⟩ := h6 q _ (Array.getElem?_eq_getElem hq)
  have hs : c9.slots = (s.heap[q]).slots := Array.ext_getElem? fun i => e4 i fun hm => hz _ hm rfl
  have h9 : c9 = s.heap[q] := by
    rw [hs] at e2
    exact e2
  have e5 : U.heap[q]? = some c9 := e1
  rw [e5, h9, Array.getElem?_eq_getElem hq]
/-- the words of a throw but the four that speak of the heap -/
def vx_no (w : Cond) : Bool := decide (w ≠ .isRef (.static Bundle.tN "UNASSIGNED_STACK" Bundle.steD)) && decide (w ≠ .isRef (.static Bundle.tN "SUPPRESSED_SENTINEL" Bundle.listD)) && decide (w ≠ .laysStatic Bundle.tN "UNASSIGNED_STACK" Bundle.steD) && decide (w ≠ .laysStatic Bundle.tN "SUPPRESSED_SENTINEL" Bundle.listD)
def vx_at0 (own : String) (ic : Nat) (X : String) (names : List String) : List Cond := (Bundle.ownAtoms0 own ic X names).filter vx_no
def vx_atS (own : String) (ic : Nat) (X : String) (names : List String) : List Cond := (Bundle.ownAtoms own ic X names).filter vx_no
/-- a word that the tables alone decide, or a good one -/
def vx_ot (w : Cond) : Bool := w.onTables || goodWord w
theorem vx_ot_at {args a' : Array Value} {s U : State} {w : Cond} (hW : s.WarmedH U.vm) (hvm : s.vm = U.vm) (hg : vx_ot w = true) (h : w.before args s = true) : w.before a' U = true := by
  simp only [vx_ot, Bool.or_eq_true] at hg
  rcases hg with hg | hg
  · exact va_tabs hg hvm h
  · exact word_at hW (good_of_word hg) h
/-- a list's words: the good ones out of the method's own list, the others by premises of their own -/
theorem vx_hat {args : Array Value} {s : State} {L B : List Cond} (h1 : ∀ w ∈ L.filter goodWord, w.before args s = true) (h2 : ∀ w ∈ L.filter (fun w => !goodWord w), w ∈ B) (h3 : ∀ w ∈ B, w.before args s = true) : ∀ w ∈ L, w.before args s = true := by
  intro w hw
  by_cases g : goodWord w = true
  · exact h1 w (List.mem_filter.mpr ⟨hw, g⟩)
  · refine h3 w (h2 w (List.mem_filter.mpr ⟨hw, ?_⟩))
    show (!goodWord w) = true
    cases hgw : goodWord w
    · rfl
    · exact absurd hgw g
theorem vx_c {args : Array Value} {s : State} {w : Cond} {B : List Cond} (h : w.before args s = true) (t : ∀ w ∈ B, w.before args s = true) : ∀ w' ∈ w :: B, w'.before args s = true := fun w' h' => (List.mem_cons.mp h').elim (fun e => by rw [e]; exact h) (t w')
theorem vx_n {args : Array Value} {s : State} : ∀ w ∈ ([] : List Cond), w.before args s = true := fun _ h => nomatch h
theorem vx_own {args : Array Value} {s : State} {L : List Cond} (h1 : ∀ w ∈ L.filter vx_no, w.before args s = true)
    (hU : (Cond.isRef (.static Bundle.tN "UNASSIGNED_STACK" Bundle.steD)).before args s = true) (hN : (Cond.isRef (.static Bundle.tN "SUPPRESSED_SENTINEL" Bundle.listD)).before args s = true)
    (lU : (Cond.laysStatic Bundle.tN "UNASSIGNED_STACK" Bundle.steD).before args s = true) (lN : (Cond.laysStatic Bundle.tN "SUPPRESSED_SENTINEL" Bundle.listD).before args s = true) : ∀ w ∈ L, w.before args s = true := by
  intro w hw
  by_cases e1 : w = .isRef (.static Bundle.tN "UNASSIGNED_STACK" Bundle.steD)
  · rw [e1]; exact hU
  · by_cases e2 : w = .isRef (.static Bundle.tN "SUPPRESSED_SENTINEL" Bundle.listD)
    · rw [e2]; exact hN
    · by_cases e3 : w = .laysStatic Bundle.tN "UNASSIGNED_STACK" Bundle.steD
      · rw [e3]; exact lU
      · by_cases e4 : w = .laysStatic Bundle.tN "SUPPRESSED_SENTINEL" Bundle.listD
        · rw [e4]; exact lN
        · exact h1 w (List.mem_filter.mpr ⟨hw, by unfold vx_no; rw [decide_eq_true e1, decide_eq_true e2, decide_eq_true e3, decide_eq_true e4]; rfl⟩)
/-- where a static field lies, its class's statics cell in H -/
def vx_L (C n d : String) (A : Nat → Prop) (U : State) (H : Heap) : Prop := ∃ (c : ClassId) (k : Class) (i : Nat) (f : Field) (a : Nat) (cell : Cell), U.vm.findClass C = some c ∧ U.fieldFound? C n d = some (c, k, i, f) ∧ f.isStatic = true ∧ k.statics = some a ∧ H[a]? = some cell ∧ cell.vm.isStatics = true ∧ cell.cls = c ∧ f.slot < cell.slots.size ∧ k.staticTypes[f.slot]? = some f.type ∧ ¬ A a
theorem vx_L.moved {C n d : String} {A : Nat → Prop} {u U : State} {H : Heap} (hvm : u.vm.Alike U.vm) (h : vx_L C n d A u H) : vx_L C n d A U H := by
  obtain ⟨c, k, i, f, a, cell, h1, h2, h3, h4, h5, h6, h7, h8, h9, h10⟩ := h
  obtain ⟨k', hi', he⟩ := State.fieldFound?_setVm hvm h2
  exact ⟨c, k', i, f, a, cell, by rw [hvm.findClass]; exact h1, hi', h3, by rw [he]; exact h4, h5, h6, h7, h8, by rw [he]; exact h9, h10⟩
theorem vx_L.kept {C n d : String} {A : Nat → Prop} {U : State} {H H1 : Heap} (h : vx_L C n d A U H) (hq : ∀ a : Nat, a < H.size → ¬ A a → H1[a]? = H[a]?) : vx_L C n d A U H1 := by
  obtain ⟨c, k, i, f, a, cell, h1, h2, h3, h4, h5, h6, h7, h8, h9, h10⟩ := h
  exact ⟨c, k, i, f, a, cell, h1, h2, h3, h4, by rw [hq a (Array.getElem?_eq_some_iff.mp h5).1 h10]; exact h5, h6, h7, h8, h9, h10⟩
theorem vx_L.narrow {C n d : String} {A B : Nat → Prop} {U : State} {H : Heap} (h : vx_L C n d A U H) (hAB : ∀ q, B q → A q) : vx_L C n d B U H := by
  obtain ⟨c, k, i, f, a, cell, h1, h2, h3, h4, h5, h6, h7, h8, h9, h10⟩ := h
  exact ⟨c, k, i, f, a, cell, h1, h2, h3, h4, h5, h6, h7, h8, h9, fun z => h10 (hAB _ z)⟩
theorem vx_L.word {C n d : String} {A : Nat → Prop} {s : State} {args : Array Value} (h : vx_L C n d A s s.heap) : (Cond.laysStatic C n d).before args s = true := by
  obtain ⟨c, k, i, f, a, cell, h1, h2, h3, h4, h5, h6, h7, h8, h9, -⟩ := h
  show (Cond.laysStatic C n d).holds args s none s [] = true
  exact Cond.laysStatic_of h1 h2 h3 h4 h5 h6 h7 h8 h9
/-- .. and what it holds: null or some reference -/
def vx_Zq (C n d : String) (A : Nat → Prop) (U : State) (H : Heap) : Prop := va_Zq C n d A U H ∧ vx_L C n d A U H
theorem vx_Zq.moved {C n d : String} {A : Nat → Prop} {u U : State} {H : Heap} (hvm : u.vm.Alike U.vm) (h : vx_Zq C n d A u H) : vx_Zq C n d A U H := ⟨va_Zq.moved hvm h.1, vx_L.moved hvm h.2⟩
theorem vx_Zq.kept {C n d : String} {A : Nat → Prop} {U : State} {H H1 : Heap} (h : vx_Zq C n d A U H) (hq : ∀ a : Nat, a < H.size → ¬ A a → H1[a]? = H[a]?) : vx_Zq C n d A U H1 := ⟨va_Zq.kept h.1 hq, vx_L.kept h.2 hq⟩
theorem vx_Zq.narrow {C n d : String} {A B : Nat → Prop} {U : State} {H : Heap} (h : vx_Zq C n d A U H) (hAB : ∀ q, B q → A q) : vx_Zq C n d B U H := ⟨va_Zq.narrow h.1 hAB, vx_L.narrow h.2 hAB⟩
theorem vx_Zqof {args : Array Value} {s : State} {C n d : String} {A : Nat → Prop} (hl : (Cond.laysStatic C n d).before args s = true) (hini : (Cond.initialized C).before args s = true) (h : (Cond.isRef (.static C n d)).before args s = true) (hA : ∀ a : Nat, a < s.heap.size → ¬ A a) : vx_Zq C n d A s s.heap := by
  refine ⟨va_Zqof hl hini h hA, ?_⟩
  obtain ⟨c, k, i, f, a, cell, h1, h2, h3, h4, h5, h6, h7, h8, h9⟩ := Cond.laysStatic_spec hl
  exact ⟨c, k, i, f, a, cell, h1, h2, h3, h4, h5, h6, h7, h8, h9, hA a (Array.getElem?_eq_some_iff.mp h5).1⟩
theorem vx_isRef {C n d : String} {v : Value} {A : Nat → Prop} {s : State} {args : Array Value} (h : va_Z C n d v A s s.heap) (hv : v.isRef = true) : (Cond.isRef (.static C n d)).before args s = true := by
  obtain ⟨cf, kf, fi, f, a, cell, h1, h2, h3, h4, h5, h6, h7, -⟩ := h
  have he : (Term.static C n d).eval args s none [] s = some v := by
    simp [Term.eval, State.fieldNamed?, h1, h2, h4, h5, h6, h7]
  simp only [Cond.before, Cond.holds, Cond.value, he]
  cases v <;> simp_all [Value.isRef]
theorem vx_isRefq {C n d : String} {A : Nat → Prop} {s : State} {args : Array Value} (h : va_Zq C n d A s s.heap) : (Cond.isRef (.static C n d)).before args s = true := by
  rcases h with h | ⟨t, h⟩
  · exact vx_isRef h rfl
  · exact vx_isRef h rfl
/-- the same frame, seen from here: as if the method were called anew in this heap -/
theorem vx_rebase {T : State} (X : Stand p l e R s m args below meth c T locs cells slots) {R' : Room} (hf : R'.frames ≤ R.frames) (hl : R'.locals ≤ R.locals) (hc : cells + R'.cells ≤ R.cells) (hs : slots + R'.slots ≤ R.slots) :
    Stand p l e R' ((T.setVm s.vm).setFrames (.invoking m args :: below)) m args below meth c T [] 0 0 := by
  have htop : (T.setVm s.vm).topJava?.isSome := X.here.top
  have hF : ((T.setVm s.vm).setFrames (.invoking m args :: below)).frames = .invoking m args :: below := State.frames_setFrames _ (State.cur_lt_of_top htop)
  obtain ⟨g₀, hg0⟩ := Option.isSome_iff_exists.mp htop
  obtain ⟨r, hr⟩ := State.topJava?_eq_some.mp hg0
  have hl9 : e.platform.stackLimits (T.setVm s.vm).me = e.platform.stackLimits s.me := X.limits
  have hb9 : (T.setVm s.vm).me.stackBytes = s.me.stackBytes := X.bytes
  refine ⟨X.admits, X.cas, X.clock, hF, ?_, X.hears, X.method, X.code, X.here, X.tail, X.warmed, ?_, ?_, ?_⟩
  · have h := X.room
    have hU : ((T.setVm s.vm).setFrames (.invoking m args :: below)).localsInUse = s.localsInUse := by
      rw [State.localsInUse_invoking hF (meth := meth) (c := c) X.method X.code, State.localsInUse_invoking X.frames X.method X.code]
    simp only [State.hasRoom, Bool.and_eq_true, decide_eq_true_eq] at h ⊢
    obtain ⟨⟨⟨⟨h1, h2, h3, h4, h5, h6⟩, h7⟩, h8⟩, h9⟩ := h
    rw [X.frames, List.length_cons] at h2 h3
    have q1 := X.heapSize
    have q2 := X.used
    simp only [hF, hU, List.length_cons, State.stackLimits_setFrames, State.stackBytes_setFrames, hl9, hb9]
    refine ⟨⟨⟨⟨by omega, by omega, by omega, by omega, by omega, h6⟩, ?_⟩, ?_⟩, X.book⟩
    · show T.heap.size + R'.cells ≤ e.platform.maxCells
      omega
    · show T.slotsUsed + R'.slots ≤ e.platform.maxSlots
      omega
  · rw [State.stackLimits_setFrames]; rfl
  · rw [State.stackBytes_setFrames]; rfl
  · refine ⟨?_, Nat.le_refl _, Nat.le_refl _, ?_, ?_, fun a c9 h9 => ⟨c9, h9, rfl, rfl, fun _ _ => rfl⟩⟩
    · obtain ⟨t, ht, -⟩ := State.frames_cons hr
      show T.setVm s.vm = { ((T.setVm s.vm).setFrames (.invoking m args :: below)).setFrames (T.setVm s.vm).frames with heap := T.heap, slotsUsed := T.slotsUsed }
      rw [State.setFrames_setFrames, State.setFrames_self ht]
      rfl
    · show T.slotsUsed = T.slotsUsed + ((T.heap.toList.drop T.heap.size).map (·.slots.size)).sum
      rw [List.drop_eq_nil_of_le (Nat.le_of_eq Array.length_toList)]
      rfl
    · show ((T.heap.toList.drop T.heap.size).map (·.slots.size)).sum ≤ 0
      rw [List.drop_eq_nil_of_le (Nat.le_of_eq Array.length_toList)]
      exact Nat.le_refl _
/-- 'throw new E()': new; dup; invokespecial; athrow -/
theorem vx_throw0 {cc : ByteArray} {pc : Nat} (hexec : p.tables.exec = Jvm.exec) (hb : c.code = cc) (hl : l.stackTraces = false) {own cls : String} {names : List String} {ik ic mc ms : Nat} {A : Nat → Prop}
    (hown : s.vm.findClass own = some m.cls) (hcls : Bundle.fit cls = true) (hnames : ∀ n ∈ names, Bundle.fit n = true)
    (hk : (Cond.classLink own ik cls).before args s = true) (hini : (Cond.initialized cls).before args s = true) (hat : ∀ w ∈ vx_at0 own ic cls names, w.before args s = true)
    (hgood : ∀ w ∈ Cond.classLink own ik cls :: Cond.initialized cls :: vx_at0 own ic cls names, vx_ot w = true)
    (hU : vx_Zq Bundle.tN "UNASSIGNED_STACK" Bundle.steD A s s.heap) (hN : vx_Zq Bundle.tN "SUPPRESSED_SENTINEL" Bundle.listD A s s.heap) (hS : va_S A s.heap H locs) (hsize : ls.size = c.maxLocals)
    (d0 : decode cc pc = .ok (.new ik, 3)) (d3 : decode cc (pc + 3) = .ok (.dup, 1)) (d4 : decode cc (pc + 4) = .ok (.invokespecial ic, 3)) (d7 : decode cc (pc + 7) = .ok (.athrow, 1))
    (hout : ∀ x ∈ c.exceptionTable.toList, covers x (pc + 7) = false)
    (hRframes : names.length + 3 < R.frames) (hRlocals : (rest.map fun v => v.category).sum + (13 * (names.length + 1) + 42) ≤ R.locals) (hRcells : cells + 1 ≤ R.cells) (hRslots : slots + 6 ≤ R.slots) (hlocks : meth.locks = false)
    (hx : ∀ t : State, s.vm.Alike t.vm → H.size ≤ t.heap.size → (∀ q : Nat, q < H.size → t.heap[q]? = H[q]?) → XC cls s t)
    (hf : ∀ z ∈ locs, free z.base) (hc : cells + 1 ≤ mc) (hs : slots + 6 ≤ ms) :
    W p l e R s m args below meth c H locs cells slots (vx_MQ below Qc XC args s mc ms free) (F0 m pc ls rest) := by
  intro T hT X
  have htr : e.platform.stackTraces = false := (show e.platform.stackTraces = l.stackTraces by rw [X.admits.platform]).trans hl
  have Y := vx_rebase X (R' := { frames := R.frames, locals := R.locals, cells := 1, slots := 6 }) (Nat.le_refl _) (Nat.le_refl _) hRcells hRslots
  obtain ⟨s', hA⟩ : ∃ z, z = (T.setVm s.vm).setFrames (.invoking m args :: below) := ⟨_, rfl⟩
  rw [← hA] at Y
  have hvm : s'.vm = s.vm := by rw [hA]; rfl
  have hhp : s'.heap = H := by rw [hA]; exact hT
  have hW0 : s.WarmedH s'.vm := by rw [hvm]; exact State.WarmedH.refl s
  have hat' : ∀ w ∈ vx_at0 own ic cls names, w.before args s' = true := fun w hw => vx_ot_at hW0 hvm.symm (hgood w (List.mem_cons_of_mem _ (List.mem_cons_of_mem _ hw))) (hat w hw)
  have hk' : (Cond.classLink own ik cls).before args s' = true := vx_ot_at hW0 hvm.symm (hgood _ List.mem_cons_self) hk
  have hini' : (Cond.initialized cls).before args s' = true := vx_ot_at hW0 hvm.symm (hgood _ (List.mem_cons_of_mem _ List.mem_cons_self)) hini
  have hU' : vx_Zq Bundle.tN "UNASSIGNED_STACK" Bundle.steD A s' s'.heap := by rw [hhp]; exact vx_Zq.moved hW0.alike (hU.kept hS.2.1)
  have hN' : vx_Zq Bundle.tN "SUPPRESSED_SENTINEL" Bundle.listD A s' s'.heap := by rw [hhp]; exact vx_Zq.moved hW0.alike (hN.kept hS.2.1)
  have h : ∀ w ∈ Bundle.ownAtoms0 own ic cls names, w.before args s' = true := vx_own hat' (vx_isRefq hU'.1) (vx_isRefq hN'.1) hU'.2.word hN'.2.word
  have hown' : s'.vm.findClass own = some m.cls := by rw [hvm]; exact hown
  have hins : (Cond.instantiable cls 6).before args s' = true := h _ (by simp [Bundle.ownAtoms0])
  obtain ⟨vm₁, cX, kX, hfX, hkX, -, -, X₁, st1⟩ := Y.newCold hexec (own := own) (C := cls) (index := ik) (n := 6) hown' hk' hins hini'
    (g := F0 m pc ls rest) rfl (by rw [hb]; exact d0) (Nat.le_refl _) (Nat.le_refl _)
  generalize hT1 : (T.setVm vm₁).pushCell { cls := cX, slots := kX.instanceTypes.map defaultValue, vm := .none } = T1 at X₁ st1
  have hcat : (Value.ref T.heap.size).category = 1 := rfl
  have hcellA : T1.heap[T.heap.size]? = some (freshCell cX kX) := by rw [← hT1]; exact State.heap_pushCell_size _ _
  have d3' : decode c.code (pc + 3) = .ok (.dup, 1) := by rw [hb]; exact d3
  obtain ⟨U, hsteps, hrun, hend, hW, hsame, ce, hce, hO⟩ := X₁.ctorThrow0 hexec htr (own := own) (cls := cls) (names := names) (ic := ic) hown' hcls hnames h (fun x hx => nomatch hx) hfX hkX hcellA (by rw [hhp, hT]; exact Nat.le_refl _)
    (g := { method := m, pc := pc + 4, locals := ls, stack := .ref T.heap.size :: .ref T.heap.size :: rest, locked := none }) rfl hsize rfl rfl (rest := rest) rfl
    (by rw [hb]; exact d4) (by rw [hb]; exact d7) hout hRframes (by simp only [List.map_cons, List.sum_cons, hcat]; omega) hlocks
  obtain ⟨f1, f2⟩ := vx_frame hsame
  rw [hhp] at f1 f2
  have hWs : s.WarmedH U.vm := State.WarmedH.trans hW0 hW
  have hcl : s.vm.findClass cls = some ce.cls := by
    have h9 := hO.cls
    rw [hvm] at h9
    exact h9
  have hall : s.sameButNew ({ U with vm := s.vm } : State) locs mc ms := by
    subst hA
    obtain ⟨e1, e2⟩ := hsame
    rw [State.setFrames_setFrames] at e1
    have h2 : (T.setVm s.vm).sameButNew ({ U with vm := s.vm } : State) [] (0 + 1) (0 + 6) := ⟨e1, e2⟩
    have h3 := X.same.trans h2
    rw [List.append_nil] at h3
    exact h3.mono hc hs
  refine ⟨U, ?_, .threw T.heap.size, hrun, hend, Or.inr ⟨T.heap.size, rfl, cls, ce, locs, hx U hWs.alike f1 (fun q hq => f2 q hq (fun z hz => nomatch hz)), hce, hO.vm, hcl, hWs, hall, hf⟩⟩
  refine st1 _ ?_
  show Steps p.tables e below (T1.setTop { method := m, pc := pc + 3, locals := ls, stack := .ref T.heap.size :: rest, locked := none }) _
  jvm_step X₁.here [X₁.here.top, hexec, d3', Value.category]
  exact hsteps
/-- 'throw new E("text")': new; dup; ldc; invokespecial; athrow -/
theorem vx_throwS {cc : ByteArray} {pc : Nat} (hexec : p.tables.exec = Jvm.exec) (hb : c.code = cc) (hl : l.stackTraces = false) {own cls text : String} {names : List String} {ik is ic mc ms sa : Nat} {A : Nat → Prop}
    (hown : s.vm.findClass own = some m.cls) (hcls : Bundle.fit cls = true) (hnames : ∀ n ∈ names, Bundle.fit n = true)
    (hk : (Cond.classLink own ik cls).before args s = true) (hini : (Cond.initialized cls).before args s = true) (hstr : vk_R own is text sa s) (hat : ∀ w ∈ vx_atS own ic cls names, w.before args s = true)
    (hgood : ∀ w ∈ Cond.classLink own ik cls :: Cond.initialized cls :: vx_atS own ic cls names, vx_ot w = true)
    (hU : vx_Zq Bundle.tN "UNASSIGNED_STACK" Bundle.steD A s s.heap) (hN : vx_Zq Bundle.tN "SUPPRESSED_SENTINEL" Bundle.listD A s s.heap) (hS : va_S A s.heap H locs) (hsize : ls.size = c.maxLocals)
    (d0 : decode cc pc = .ok (.new ik, 3)) (d3 : decode cc (pc + 3) = .ok (.dup, 1)) (d4 : decode cc (pc + 4) = .ok (.ldc is, 2)) (d6 : decode cc (pc + 6) = .ok (.invokespecial ic, 3)) (d9 : decode cc (pc + 9) = .ok (.athrow, 1))
    (hout : ∀ x ∈ c.exceptionTable.toList, covers x (pc + 9) = false)
    (hRframes : names.length + 3 < R.frames) (hRlocals : (rest.map fun v => v.category).sum + (13 * (names.length + 1) + 43) ≤ R.locals) (hRcells : cells + 1 ≤ R.cells) (hRslots : slots + 6 ≤ R.slots) (hlocks : meth.locks = false)
    (hx : ∀ t : State, s.vm.Alike t.vm → H.size ≤ t.heap.size → (∀ q : Nat, q < H.size → t.heap[q]? = H[q]?) → XC cls s t)
    (hf : ∀ z ∈ locs, free z.base) (hc : cells + 1 ≤ mc) (hs : slots + 6 ≤ ms) :
    W p l e R s m args below meth c H locs cells slots (vx_MQ below Qc XC args s mc ms free) (F0 m pc ls rest) := by
  intro T hT X
  have htr : e.platform.stackTraces = false := (show e.platform.stackTraces = l.stackTraces by rw [X.admits.platform]).trans hl
  have Y := vx_rebase X (R' := { frames := R.frames, locals := R.locals, cells := 1, slots := 6 }) (Nat.le_refl _) (Nat.le_refl _) hRcells hRslots
  obtain ⟨s', hA⟩ : ∃ z, z = (T.setVm s.vm).setFrames (.invoking m args :: below) := ⟨_, rfl⟩
  rw [← hA] at Y
  have hvm : s'.vm = s.vm := by rw [hA]; rfl
  have hhp : s'.heap = H := by rw [hA]; exact hT
  have hW0 : s.WarmedH s'.vm := by rw [hvm]; exact State.WarmedH.refl s
  have hat' : ∀ w ∈ vx_atS own ic cls names, w.before args s' = true := fun w hw => vx_ot_at hW0 hvm.symm (hgood w (List.mem_cons_of_mem _ (List.mem_cons_of_mem _ hw))) (hat w hw)
  have hk' : (Cond.classLink own ik cls).before args s' = true := vx_ot_at hW0 hvm.symm (hgood _ List.mem_cons_self) hk
  have hini' : (Cond.initialized cls).before args s' = true := vx_ot_at hW0 hvm.symm (hgood _ (List.mem_cons_of_mem _ List.mem_cons_self)) hini
  have hU' : vx_Zq Bundle.tN "UNASSIGNED_STACK" Bundle.steD A s' s'.heap := by rw [hhp]; exact vx_Zq.moved hW0.alike (hU.kept hS.2.1)
  have hN' : vx_Zq Bundle.tN "SUPPRESSED_SENTINEL" Bundle.listD A s' s'.heap := by rw [hhp]; exact vx_Zq.moved hW0.alike (hN.kept hS.2.1)
  have h : ∀ w ∈ Bundle.ownAtoms own ic cls names, w.before args s' = true := vx_own hat' (vx_isRefq hU'.1) (vx_isRefq hN'.1) hU'.2.word hN'.2.word
  have hown' : s'.vm.findClass own = some m.cls := by rw [hvm]; exact hown
  have hins : (Cond.instantiable cls 6).before args s' = true := h _ (by simp [Bundle.ownAtoms])
  obtain ⟨vm₁, cX, kX, hfX, hkX, -, -, X₁, st1⟩ := Y.newCold hexec (own := own) (C := cls) (index := ik) (n := 6) hown' hk' hins hini'
    (g := F0 m pc ls rest) rfl (by rw [hb]; exact d0) (Nat.le_refl _) (Nat.le_refl _)
  generalize hT1 : (T.setVm vm₁).pushCell { cls := cX, slots := kX.instanceTypes.map defaultValue, vm := .none } = T1 at X₁ st1
  have hcat : (Value.ref T.heap.size).category = 1 := rfl
  have hcellA : T1.heap[T.heap.size]? = some (freshCell cX kX) := by rw [← hT1]; exact State.heap_pushCell_size _ _
  have d3' : decode c.code (pc + 3) = .ok (.dup, 1) := by rw [hb]; exact d3
  have d4' : decode c.code (pc + 4) = .ok (.ldc is, 2) := by rw [hb]; exact d4
  have hstr' : vk_R own is text sa s' := vk_R.warm hW0 hstr
  obtain ⟨U, hsteps, hrun, hend, hW, hsame, ce, hce, hO⟩ := X₁.ctorThrowS hexec htr (own := own) (cls := cls) (names := names) (ic := ic) hown' hcls hnames h (fun x hx => nomatch hx) hfX hkX hcellA (by rw [hhp, hT]; exact Nat.le_refl _) (msg := .ref sa) rfl
    (g := { method := m, pc := pc + 6, locals := ls, stack := .ref sa :: .ref T.heap.size :: .ref T.heap.size :: rest, locked := none }) rfl hsize rfl rfl (rest := rest) rfl
    (by rw [hb]; exact d6) (by rw [hb]; exact d9) hout hRframes (by simp only [List.map_cons, List.sum_cons, hcat]; omega) hlocks
  obtain ⟨f1, f2⟩ := vx_frame hsame
  rw [hhp] at f1 f2
  have hWs : s.WarmedH U.vm := State.WarmedH.trans hW0 hW
  have hcl : s.vm.findClass cls = some ce.cls := by
    have h9 := hO.cls
    rw [hvm] at h9
    exact h9
  have hall : s.sameButNew ({ U with vm := s.vm } : State) locs mc ms := by
    subst hA
    obtain ⟨e1, e2⟩ := hsame
    rw [State.setFrames_setFrames] at e1
    have h2 : (T.setVm s.vm).sameButNew ({ U with vm := s.vm } : State) [] (0 + 1) (0 + 6) := ⟨e1, e2⟩
    have h3 := X.same.trans h2
    rw [List.append_nil] at h3
    exact h3.mono hc hs
  refine ⟨U, ?_, .threw T.heap.size, hrun, hend, Or.inr ⟨T.heap.size, rfl, cls, ce, locs, hx U hWs.alike f1 (fun q hq => f2 q hq (fun z hz => nomatch hz)), hce, hO.vm, hcl, hWs, hall, hf⟩⟩
  refine st1 _ ?_
  show Steps p.tables e below (T1.setTop { method := m, pc := pc + 3, locals := ls, stack := .ref T.heap.size :: rest, locked := none }) _
  jvm_step X₁.here [X₁.here.top, hexec, d3', Value.category]
  exact X₁.ldcString hexec (own := own) (text := text) (index := is) (a := sa) hown' hstr'.1 hstr'.2
    (g := { method := m, pc := pc + 4, locals := ls, stack := .ref T.heap.size :: .ref T.heap.size :: rest, locked := none }) rfl d4' _ hsteps
/-- 'throw new E("text")', the text by a wide index -/
theorem vx_throwSW {cc : ByteArray} {pc : Nat} (hexec : p.tables.exec = Jvm.exec) (hb : c.code = cc) (hl : l.stackTraces = false) {own cls text : String} {names : List String} {ik is ic mc ms sa : Nat} {A : Nat → Prop}
    (hown : s.vm.findClass own = some m.cls) (hcls : Bundle.fit cls = true) (hnames : ∀ n ∈ names, Bundle.fit n = true)
    (hk : (Cond.classLink own ik cls).before args s = true) (hini : (Cond.initialized cls).before args s = true) (hstr : vk_R own is text sa s) (hat : ∀ w ∈ vx_atS own ic cls names, w.before args s = true)
    (hgood : ∀ w ∈ Cond.classLink own ik cls :: Cond.initialized cls :: vx_atS own ic cls names, vx_ot w = true)
    (hU : vx_Zq Bundle.tN "UNASSIGNED_STACK" Bundle.steD A s s.heap) (hN : vx_Zq Bundle.tN "SUPPRESSED_SENTINEL" Bundle.listD A s s.heap) (hS : va_S A s.heap H locs) (hsize : ls.size = c.maxLocals)
    (d0 : decode cc pc = .ok (.new ik, 3)) (d3 : decode cc (pc + 3) = .ok (.dup, 1)) (d4 : decode cc (pc + 4) = .ok (.ldc_w is, 3)) (d7 : decode cc (pc + 7) = .ok (.invokespecial ic, 3)) (d10 : decode cc (pc + 10) = .ok (.athrow, 1))
    (hout : ∀ x ∈ c.exceptionTable.toList, covers x (pc + 10) = false)
    (hRframes : names.length + 3 < R.frames) (hRlocals : (rest.map fun v => v.category).sum + (13 * (names.length + 1) + 43) ≤ R.locals) (hRcells : cells + 1 ≤ R.cells) (hRslots : slots + 6 ≤ R.slots) (hlocks : meth.locks = false)
    (hx : ∀ t : State, s.vm.Alike t.vm → H.size ≤ t.heap.size → (∀ q : Nat, q < H.size → t.heap[q]? = H[q]?) → XC cls s t)
    (hf : ∀ z ∈ locs, free z.base) (hc : cells + 1 ≤ mc) (hs : slots + 6 ≤ ms) :
    W p l e R s m args below meth c H locs cells slots (vx_MQ below Qc XC args s mc ms free) (F0 m pc ls rest) := by
  intro T hT X
  have htr : e.platform.stackTraces = false := (show e.platform.stackTraces = l.stackTraces by rw [X.admits.platform]).trans hl
  have Y := vx_rebase X (R' := { frames := R.frames, locals := R.locals, cells := 1, slots := 6 }) (Nat.le_refl _) (Nat.le_refl _) hRcells hRslots
  obtain ⟨s', hA⟩ : ∃ z, z = (T.setVm s.vm).setFrames (.invoking m args :: below) := ⟨_, rfl⟩
  rw [← hA] at Y
  have hvm : s'.vm = s.vm := by rw [hA]; rfl
  have hhp : s'.heap = H := by rw [hA]; exact hT
  have hW0 : s.WarmedH s'.vm := by rw [hvm]; exact State.WarmedH.refl s
  have hat' : ∀ w ∈ vx_atS own ic cls names, w.before args s' = true := fun w hw => vx_ot_at hW0 hvm.symm (hgood w (List.mem_cons_of_mem _ (List.mem_cons_of_mem _ hw))) (hat w hw)
  have hk' : (Cond.classLink own ik cls).before args s' = true := vx_ot_at hW0 hvm.symm (hgood _ List.mem_cons_self) hk
  have hini' : (Cond.initialized cls).before args s' = true := vx_ot_at hW0 hvm.symm (hgood _ (List.mem_cons_of_mem _ List.mem_cons_self)) hini
  have hU' : vx_Zq Bundle.tN "UNASSIGNED_STACK" Bundle.steD A s' s'.heap := by rw [hhp]; exact vx_Zq.moved hW0.alike (hU.kept hS.2.1)
  have hN' : vx_Zq Bundle.tN "SUPPRESSED_SENTINEL" Bundle.listD A s' s'.heap := by rw [hhp]; exact vx_Zq.moved hW0.alike (hN.kept hS.2.1)
  have h : ∀ w ∈ Bundle.ownAtoms own ic cls names, w.before args s' = true := vx_own hat' (vx_isRefq hU'.1) (vx_isRefq hN'.1) hU'.2.word hN'.2.word
  have hown' : s'.vm.findClass own = some m.cls := by rw [hvm]; exact hown
  have hins : (Cond.instantiable cls 6).before args s' = true := h _ (by simp [Bundle.ownAtoms])
  obtain ⟨vm₁, cX, kX, hfX, hkX, -, -, X₁, st1⟩ := Y.newCold hexec (own := own) (C := cls) (index := ik) (n := 6) hown' hk' hins hini'
    (g := F0 m pc ls rest) rfl (by rw [hb]; exact d0) (Nat.le_refl _) (Nat.le_refl _)
  generalize hT1 : (T.setVm vm₁).pushCell { cls := cX, slots := kX.instanceTypes.map defaultValue, vm := .none } = T1 at X₁ st1
  have hcat : (Value.ref T.heap.size).category = 1 := rfl
  have hcellA : T1.heap[T.heap.size]? = some (freshCell cX kX) := by rw [← hT1]; exact State.heap_pushCell_size _ _
  have d3' : decode c.code (pc + 3) = .ok (.dup, 1) := by rw [hb]; exact d3
  have d4' : decode c.code (pc + 4) = .ok (.ldc_w is, 3) := by rw [hb]; exact d4
  have hstr' : vk_R own is text sa s' := vk_R.warm hW0 hstr
  obtain ⟨U, hsteps, hrun, hend, hW, hsame, ce, hce, hO⟩ := X₁.ctorThrowS hexec htr (own := own) (cls := cls) (names := names) (ic := ic) hown' hcls hnames h (fun x hx => nomatch hx) hfX hkX hcellA (by rw [hhp, hT]; exact Nat.le_refl _) (msg := .ref sa) rfl
    (g := { method := m, pc := pc + 7, locals := ls, stack := .ref sa :: .ref T.heap.size :: .ref T.heap.size :: rest, locked := none }) rfl hsize rfl rfl (rest := rest) rfl
    (by rw [hb]; exact d7) (by rw [hb]; exact d10) hout hRframes (by simp only [List.map_cons, List.sum_cons, hcat]; omega) hlocks
  obtain ⟨f1, f2⟩ := vx_frame hsame
  rw [hhp] at f1 f2
  have hWs : s.WarmedH U.vm := State.WarmedH.trans hW0 hW
  have hcl : s.vm.findClass cls = some ce.cls := by
    have h9 := hO.cls
    rw [hvm] at h9
    exact h9
  have hall : s.sameButNew ({ U with vm := s.vm } : State) locs mc ms := by
    subst hA
    obtain ⟨e1, e2⟩ := hsame
    rw [State.setFrames_setFrames] at e1
    have h2 : (T.setVm s.vm).sameButNew ({ U with vm := s.vm } : State) [] (0 + 1) (0 + 6) := ⟨e1, e2⟩
    have h3 := X.same.trans h2
    rw [List.append_nil] at h3
    exact h3.mono hc hs
  refine ⟨U, ?_, .threw T.heap.size, hrun, hend, Or.inr ⟨T.heap.size, rfl, cls, ce, locs, hx U hWs.alike f1 (fun q hq => f2 q hq (fun z hz => nomatch hz)), hce, hO.vm, hcl, hWs, hall, hf⟩⟩
  refine st1 _ ?_
  show Steps p.tables e below (T1.setTop { method := m, pc := pc + 3, locals := ls, stack := .ref T.heap.size :: rest, locked := none }) _
  jvm_step X₁.here [X₁.here.top, hexec, d3', Value.category]
  exact X₁.ldcStringW hexec (own := own) (text := text) (index := is) (a := sa) hown' hstr'.1 hstr'.2
    (g := { method := m, pc := pc + 4, locals := ls, stack := .ref T.heap.size :: .ref T.heap.size :: rest, locked := none }) rfl d4' _ hsteps
end Ends
section Bodies
variable {l : Launch}
theorem vx_ofW {y : MethodName} {ws ws' : List Cond} {rm : Room} {Pc : Array Value → State → Prop} {Qc : Array Value → State → Outcome → State → Prop} {XC : String → State → State → Prop} {mc ms : Nat} {free : Addr → Prop} {cc : ByteArray} {maxL : Nat} {ret : Option FieldType}
    (hy : plainName y.cls = true) (hw : ws = Cond.code y cc maxL ret :: ws')
    (body : ∀ p e s m args below meth c s₁, BodyLoose p l y (headSpec ws rm) cc maxL ret e s m args below meth c s₁ → c.maxLocals = maxL → (∀ x ∈ c.exceptionTable.toList, False) → Pc args s →
      W p l e (headSpec ws rm).room s m args below meth c s.heap [] 0 0 (vx_MQ below Qc XC args s mc ms free) (entryFrame m args maxL)) : vx_Met l y ws rm Pc Qc XC mc ms free := by
  refine MetFree.of_bodyS (code := cc) (maxLocals := maxL) (ret := ret) hy ?_ ?_
  · intro args s m h hn
    obtain ⟨meth, c, h1, h2, h3, h4, h5, h6, -, -⟩ := Cond.code_spec hn (atoms_spec (ws := ws) h _ (by rw [hw]; exact List.mem_cons_self))
    exact ⟨meth, c, h1, h2, h3, h4, h5, h6⟩
  · intro p e s m args below meth c s₁ B hml hP _
    have hh0 : s₁.heap = s.heap := by rw [B.state]; rfl
    have ht : ∀ x ∈ c.exceptionTable.toList, False := by
      obtain ⟨meth9, c9, h1, h2, -, -, -, -, h7, -⟩ := Cond.code_spec B.named (atoms_spec (ws := ws) B.pre _ (by rw [hw]; exact List.mem_cons_self))
      cases Option.some.inj (h1.symm.trans B.method)
      cases Option.some.inj (h2.symm.trans (Stand.of_body B).code)
      intro x hx
      rw [Array.isEmpty_iff.mp h7] at hx
      cases hx
    obtain ⟨t, a1, o, b1, b2, b3⟩ := body p e s m args below meth c s₁ B hml ht hP s₁ hh0 (Stand.of_body B)
    exact ⟨t, o, a1, b1, b2, b3⟩
/-- the table of a body with handlers -/
theorem vx_table {p : Program} {x y : MethodName} {S : Spec} {cc bytes : ByteArray} {maxL maxL' : Nat} {ret ret' : Option FieldType} {e : Env} {s s₁ : State} {m : MethodId} {args : Array Value} {below : List Frame} {meth : Method} {c : Code} {hh : List (Nat × Nat × Nat × Nat)}
    (B : BodyLoose p l y S cc maxL ret e s m args below meth c s₁) (h : (Cond.codeWith y bytes maxL' ret' hh).before args s = true) : c.exceptionTable.toList = tableOf hh := by
  obtain ⟨m9, meth9, c9, hn9, h1, h2, -, -, h6, -⟩ := Cond.codeWith_spec h
  cases Option.some.inj (hn9.symm.trans B.named)
  cases Option.some.inj (h1.symm.trans B.method)
  cases Option.some.inj (h2.symm.trans (Stand.of_body B).code)
  rw [← h6, table_eq]
end Bodies
end VXA
/-! ===== END ===== -/
/-! ===== BEGIN a static call of a method with an exception table ===== -/
section VXS
variable {p : Program} {l : Launch} {e : Env} {R : Room} {s : State} {m : MethodId} {args : Array Value} {below : List Frame} {meth : Method} {c : Code} {T : State} {H : Heap} {locs : List Loc} {cells slots : Nat}
abbrev vx_CSW (R : Room) (s : State) (args : Array Value) (own : String) (index : Nat) (y : MethodName) (bytes : ByteArray) (maxL : Nat) (ret : Option FieldType) (hh : List (Nat × Nat × Nat × Nat)) (ws : List Cond) (rm : Room) (mc ms n : Nat) : Prop :=
  (rm.cells = mc ∧ rm.slots = ms ∧ rm.frames + 1 ≤ R.frames ∧ 8 + (maxL + 11) + rm.locals ≤ R.locals ∧ (∀ w ∈ ws, ∀ (a' : Array Value) (U : State), s.WarmedH U.vm → w.before a' U = true) ∧ Cond.codeWith y bytes maxL ret hh ∈ ws) ∧
  (Cond.codeWith y bytes maxL ret hh).before args s = true ∧ (Cond.initialized y.cls).before args s = true ∧ (y.cls ≠ "java/lang/invoke/MethodHandle" ∧ y.cls ≠ "java/lang/invoke/VarHandle") ∧
  (∀ sig, parseMethodDescriptor y.desc = some sig → n = sig.parameters.length) ∧ (Cond.methodLink own index y).before args s = true ∧ (Cond.static y).before args s = true
theorem vx_cwSW {own : String} {index maxL mc ms : Nat} {y : MethodName} {bytes : ByteArray} {ret : Option FieldType} {hh : List (Nat × Nat × Nat × Nat)} {Ts ws ws' : List Cond} {rm : Room} (n : Nat) (ht : ∀ w ∈ Ts, w.before args s = true) (hT : GoodIn Ts (va_wsS own index y ws)) (hw : ws = Cond.codeWith y bytes maxL ret hh :: ws') (hrc : rm.cells = mc) (hrs : rm.slots = ms)
    (hd : y.cls ≠ "java/lang/invoke/MethodHandle" ∧ y.cls ≠ "java/lang/invoke/VarHandle" ∧ (parseMethodDescriptor y.desc).map (fun d => d.parameters.length) = some n) (hR : rm.frames + 1 ≤ R.frames ∧ 8 + (maxL + 11) + rm.locals ≤ R.locals) :
    vx_CSW R s args own index y bytes maxL ret hh ws rm mc ms n := by
  have ok : ∀ w ∈ va_wsS own index y ws, w.before args s = true := fun w h => ht w (hT w h).1
  have hG : GoodIn Ts ws := fun w h => hT w (by unfold va_wsS; exact List.mem_append_right _ h)
  have hc : Cond.codeWith y bytes maxL ret hh ∈ ws := by rw [hw]; exact List.mem_cons_self
  refine ⟨⟨hrc, hrs, hR.1, hR.2, pay_in ht hG, hc⟩, ht _ (hG _ hc).1, ok _ (by simp [va_wsS]), ⟨hd.1, hd.2.1⟩, fun sig h => ?_, ok _ (by simp [va_wsS]), ok _ (by simp [va_wsS])⟩
  have h2 := hd.2.2
  rw [h] at h2
  exact (Option.some.inj h2).symm
theorem vx_callSW (X : Stand p l e R s m args below meth c T locs cells slots) (hexec : p.tables.exec = Jvm.exec) {own : String} {index : Nat} {y : MethodName} {bytes : ByteArray} {maxL : Nat} {ret : Option FieldType} {hh : List (Nat × Nat × Nat × Nat)}
    (hown : s.vm.findClass own = some m.cls) (hlink : (Cond.methodLink own index y).before args s = true) (hstat : (Cond.static y).before args s = true) (hinit : (Cond.initialized y.cls).before args s = true)
    (hcode : (Cond.codeWith y bytes maxL ret hh).before args s = true) (hy : y.cls ≠ "java/lang/invoke/MethodHandle" ∧ y.cls ≠ "java/lang/invoke/VarHandle")
    {W9 : Nat} {Pre : Pt → Array Value → Prop} {Post : Pt → Array Value → Option Value → Pt → Prop} (hK : Back l R p e below s args y 3 W9 Pre Post)
    {g : JFrame} (hg : g.method = m) (hsize : g.locals.size = c.maxLocals) {argsL rest : List Value} (hlen : ∀ sig, parseMethodDescriptor y.desc = some sig → argsL.length = sig.parameters.length)
    (hstack : g.stack = argsL.reverse ++ rest) (hW : 2 * g.monitorRoom + (rest.map fun v => v.category).sum ≤ W9) (hdg : decode c.code g.pc = .ok (.invokestatic index, 3))
    (hpre : ∀ vm₁, s.WarmedH vm₁ → Pre ⟨T.setVm vm₁, locs, cells, slots⟩ argsL.toArray) :
    ∃ (v : Option Value) (vm₁ : Vm) (B : Pt), s.WarmedH vm₁ ∧ Stand p l e R s m args below meth c B.U B.locs B.cells B.slots ∧ Post ⟨T.setVm vm₁, locs, cells, slots⟩ argsL.toArray v B ∧
      ∀ target, Steps p.tables e below (B.U.setTop { g with pc := g.pc + 3, stack := v.toList ++ rest }) target → Steps p.tables e below (T.setTop g) target := by
  obtain ⟨mk, methM, cM, hnamed, hmethM, -, -, -, -, -, -, hsigM⟩ := Cond.codeWith_spec hcode
  have hstatic : methM.isStatic = true := Cond.static_spec hnamed hmethM hstat
  obtain ⟨kP, hkP, -⟩ := className_of_methodNamed hnamed
  have hinitP : kP.init = .initialized := Cond.initialized_spec (findClass_of_methodNamed hnamed) hkP hinit
  obtain ⟨vm₁, X₁, hstep₁⟩ := X.invokestatic hexec hown hlink hnamed hmethM hstatic hkP hinitP hy (g := g) hg (argsL := argsL) (rest := rest) (hlen _ hsigM) hstack hdg
  obtain ⟨v, B, X', hpost, hsteps⟩ := hK m meth c ⟨T.setVm vm₁, locs, cells, slots⟩ { g with stack := rest } (.invokestatic index) mk argsL.toArray X₁ hg hsize hdg hW (X₁.named hnamed) (hpre vm₁ X₁.warmed)
  exact ⟨v, vm₁, B, X₁.warmed, X', hpost, fun target h => hstep₁ _ fun acts => by rw [doInvoke_state]; exact hsteps.trans h⟩
theorem vx_runSW {y : MethodName} {bytes cc : ByteArray} {maxL nL mc ms n index : Nat} {ret : Option FieldType} {hh : List (Nat × Nat × Nat × Nat)} {ws : List Cond} {rm : Room} {Pc : Array Value → State → Prop} {Qc : Array Value → State → Outcome → State → Prop} {free : Addr → Prop} {Ts : List Cond} {own : String} {As rest : List Value} {g : JFrame}
    (S : CallFix p m c cc nL s args Ts own) (hM : Met l y ws rm Pc Qc mc ms free) (cw : vx_CSW R s args own index y bytes maxL ret hh ws rm mc ms n) (hp : PreS s H Pc As)
    (hg : g.method = m) (hn : As.length = n) (hsize : g.locals.size = nL) (hstack : g.stack = As.reverse ++ rest) (hW : 2 * g.monitorRoom + (rest.map fun v => v.category).sum ≤ 8) (hdg : decode cc g.pc = .ok (.invokestatic index, 3)) (hf : cells + mc ≤ R.cells ∧ slots + ms ≤ R.slots) :
    va_Run p l e R s m args below meth c H locs cells slots mc ms g rest (Qc As.toArray) (free) := by
  obtain ⟨⟨hrc, hrs, hfr, hlo, hws, hcw⟩, hcode, hini, hy, hlen, hl, hstt⟩ := cw
  have hK : Back l R p e below s args y 3 8 (PreOf R mc ms Pc) (PostOf Qc mc ms free) := va_backW (hh := hh) (bytes := bytes) (maxL := maxL) (ret := ret) hM hp.1 hrc hrs hfr hlo hws hcw (fun a' U hW => word_at hW (Or.inl (by first | rfl | simp [Cond.onTables, Cond.keeps, Cond.steady])) hini)
  obtain ⟨hx, hb, hml, ho, -⟩ := S
  intro T hT X
  obtain ⟨v, vm₁, ⟨U', l2, c2, s2⟩, hW₁, X', ⟨g', mk, t, L, e1, e2, hq, h1, hL, h2, h3⟩, st⟩ := vx_callSW X hx (hh := hh) (bytes := bytes) (maxL := maxL) (ret := ret) ho hl hstt hini hcode hy hK hg (hsize.trans hml.symm) (argsL := As) (rest := rest) (fun sig h => hn.trans (hlen sig h)) hstack hW (by rw [hb]; exact hdg)
    (fun vm₁ hW₁ => ⟨hf.1, hf.2, hp.2 (T.setVm vm₁) hT hW₁⟩)
  dsimp only [Pt.U, Pt.locs, Pt.cells, Pt.slots] at X' e1 e2 h1 h2 h3 st
  subst h1; subst h2; subst h3
  exact ⟨v, (T.setVm vm₁).calling g' mk As.toArray, t, U', L, hT, X', hL, e1, e2, hq, st⟩
/-- a thing of a world lies in the heap -/
theorem vx_lt {D : va_G} {cl : List vw_C} {ws : va_W} {H1 : Heap} (h : va_P D cl ws H1) {k : Nat} {q : Nat × va_E} (hk : ws[k]? = some q) : q.1 < H1.size := (h k q hk).lt
end VXS
/-! ===== END ===== -/
/-! ===== BEGIN methods with a table of their own: called by a name, returning or throwing ===== -/
section VXH
/-! vx_backW, vx_callVX, vx_callSX, vx_callVW, vx_runVW, vx_runVX, vx_runSX, vx_ofWH follow the same proofs as their sisters above (Free/Laws.lean, Shelf42/LK1.lean); vx_outP calls Shelf42/NT130.lean (outThrough). -/
section
variable {l : Launch} {R : Room} {p : Program} {e : Env} {below : List Frame} {s : State} {sargs : Array Value} {y : MethodName} {len W9 : Nat}
theorem vx_backW {ws : List Cond} {rm : Room} {Pc : Array Value → State → Prop} {Qc : Array Value → State → Outcome → State → Prop} {XC : String → State → State → Prop} {mc ms : Nat} {free : Addr → Prop} {bytes : ByteArray} {maxL : Nat} {ret : Option FieldType} {hh : List (Nat × Nat × Nat × Nat)}
    (hM : vx_Met l y ws rm Pc Qc XC mc ms free) (hblind : FrameBlind Pc) (hrc : rm.cells = mc) (hrs : rm.slots = ms)
    (hframes : rm.frames + 1 ≤ R.frames) (hlocals : W9 + (maxL + 11) + rm.locals ≤ R.locals)
    (hws : ∀ w ∈ ws, ∀ a' U, s.WarmedH U.vm → w.before a' U = true) (hcode : Cond.codeWith y bytes maxL ret hh ∈ ws) (hinit : ∀ a' U, s.WarmedH U.vm → (Cond.initialized y.cls).before a' U = true) :
    vx_Back l R p e below s sargs y len W9 (PreOf R mc ms Pc) (PostOf Qc mc ms free) (vx_Post XC mc ms free) := by
  intro m meth c A g ig mk a X hg hsize hdg hW hn hp
  have h1 : (headSpec ws rm).pre.before a A.U = true := atoms_intro fun w hw => hws w hw _ _ X.warmed
  have h2 : (Cond.codeWith y bytes maxL ret hh).before a A.U = true := hws _ hcode _ _ X.warmed
  have h3 : (Cond.initialized y.cls).before a A.U = true := hinit _ _ X.warmed
  have h4 : A.cells + (headSpec ws rm).room.cells ≤ R.cells := by rw [show (headSpec ws rm).room.cells = mc from hrc]; exact hp.1
  have h5 : A.slots + (headSpec ws rm).room.slots ≤ R.slots := by rw [show (headSpec ws rm).room.slots = ms from hrs]; exact hp.2.1
  have hPc : Pc a (A.U.calling g mk a) := hblind _ _ _ _ hp.2.2
  obtain ⟨U, Ls, c0, s0⟩ := A
  dsimp only [Pt.U, Pt.locs, Pt.cells, Pt.slots] at h1 h2 h3 h4 h5 X hn hPc ⊢
  obtain ⟨m9, methY, cY, hn9, hmY, hcY, -, hlY, -⟩ := Cond.codeWith_spec h2
  cases Option.some.inj (hn9.symm.trans hn)
  obtain ⟨kY, hkY, -⟩ := className_of_methodNamed hn
  have hinitY : kY.init = .initialized := Cond.initialized_spec (findClass_of_methodNamed hn) hkY h3
  have h : At U g.method c below := by rw [hg]; exact X.here
  have hlocals9 : W9 + (maxL + 11) + (headSpec ws rm).room.locals ≤ R.locals := hlocals
  have happ : (headSpec ws rm).appliesLoose y e.platform (U.calling g mk a) = true :=
    Spec.appliesLoose_calling (g := g) h hdg hn hkY hinitY
      (X.room_calling (g := g) (R' := (headSpec ws rm).room) hsize hmY hcY hframes (by rw [hlY]; omega) h4 h5) h1
  obtain ⟨mid, hmid⟩ := h.above
  have hfr : (U.setTop g).frames = (.java g :: mid) ++ below := by rw [State.frames_setTop' g h.top, hmid]; rfl
  obtain ⟨o, s₂, hsteps, -, hend, hq⟩ := Steps.callFree hM p X.admits X.cas X.clock (acts := []) hfr happ hPc trivial
  have hq' : vx_Q Qc XC mc ms free a (U.calling g mk a) o s₂ := hq
  rw [State.frames_setTop' g h.top] at hend
  obtain ⟨g₀, hg0⟩ := Option.isSome_iff_exists.mp h.top
  obtain ⟨r, hr⟩ := State.topJava?_eq_some.mp hg0
  have hr' : (({ U with heap := s₂.heap, slotsUsed := s₂.slotsUsed } : State).setVm s₂.vm).frames = .java g₀ :: r := hr
  rcases hq' with ⟨hqc, L, hfe, hL⟩ | ⟨q, rfl, E, ce, L, hx, hce, hcv, hcl, hW₂, hsm, hL⟩
  · obtain ⟨⟨v, rfl⟩, hW₂, e2, q2, q3, q4, q5, q6⟩ := id hfe
    have e3 : s₂ = ({ (U.calling g mk a).setFrames s₂.frames with heap := s₂.heap, slotsUsed := s₂.slotsUsed } : State).setVm s₂.vm := by
      have : s₂ = ({ s₂ with vm := (U.calling g mk a).vm } : State).setVm s₂.vm := rfl
      rw [e2] at this
      exact this
    obtain ⟨c₂, i₂, len₂, hc₂, hd₂, hf₂⟩ := hend
    have hW' : U.WarmedH s₂.vm := hW₂
    have hcc : c₂ = c := by
      have h1 : s₂.code? g.method = U.code? g.method := by
        rw [State.code?_eq, State.code?_eq, hW'.alike.method?]
      exact Option.some.inj (hc₂.symm.trans (h1.trans h.code))
    subst hcc
    have hlen : len₂ = len := by rw [hdg] at hd₂; cases hd₂; rfl
    subst hlen
    have hs₂ : s₂ = (({ U with heap := s₂.heap, slotsUsed := s₂.slotsUsed } : State).setVm s₂.vm).setTop { g with pc := g.pc + len₂, stack := v.toList ++ g.stack } := by
      refine e3.trans ?_
      rw [hf₂, State.calling_eq h.top, State.setFrames_setFrames, State.setTop_of_frames _ hr', hr]
      rfl
    have hsame : U.sameButNew ({ U with heap := s₂.heap, slotsUsed := s₂.slotsUsed } : State) L mc ms := by
      refine ⟨?_, q2, q3, q4, q5, q6⟩
      obtain ⟨t, ht, -⟩ := State.frames_cons hr
      show ({ U with heap := s₂.heap, slotsUsed := s₂.slotsUsed } : State) = { U.setFrames U.frames with heap := s₂.heap, slotsUsed := s₂.slotsUsed }
      rw [State.setFrames_self ht]
    subst hg
    refine Or.inl ⟨v, ⟨(({ U with heap := s₂.heap, slotsUsed := s₂.slotsUsed } : State).setVm s₂.vm), Ls ++ L, c0 + mc, s0 + ms⟩,
      ⟨X.admits, X.cas, X.clock, X.frames, X.room, X.hears, X.method, X.code, (X.here.setHeapUsed s₂.heap s₂.slotsUsed).setVm hW'.alike, X.tail, State.WarmedH.trans X.warmed hW', X.limits, X.bytes, X.same.trans (hsame.setVm s.vm)⟩,
      ⟨g, mk, s₂, L, rfl, rfl, hqc, rfl, hL, rfl, rfl⟩, ?_⟩
    show Steps p.tables e below _ ((({ U with heap := s₂.heap, slotsUsed := s₂.slotsUsed } : State).setVm s₂.vm).setTop { g with pc := g.pc + len₂, stack := v.toList ++ g.stack })
    rw [← hs₂]
    exact hsteps
  · obtain ⟨e2, q2, q3, q4, q5, q6⟩ := id hsm
    have e3 : s₂ = ({ (U.calling g mk a).setFrames s₂.frames with heap := s₂.heap, slotsUsed := s₂.slotsUsed } : State).setVm s₂.vm := by
      have : s₂ = ({ s₂ with vm := (U.calling g mk a).vm } : State).setVm s₂.vm := rfl
      rw [e2] at this
      exact this
    have hf₂ : s₂.frames = .throwing q :: .java g :: U.frames.tail := hend
    have hW' : U.WarmedH s₂.vm := hW₂
    have hs₂ : s₂ = ((({ U with heap := s₂.heap, slotsUsed := s₂.slotsUsed } : State).setVm s₂.vm).setTop g).pushFrame (.throwing q) := by
      refine e3.trans ?_
      rw [hf₂, State.calling_eq h.top, State.setFrames_setFrames, State.pushFrame, State.frames_setTop _ hr', State.setTop_of_frames _ hr', State.setFrames_setFrames, hr]
      rfl
    have hsame : U.sameButNew ({ U with heap := s₂.heap, slotsUsed := s₂.slotsUsed } : State) L mc ms := by
      refine ⟨?_, q2, q3, q4, q5, q6⟩
      obtain ⟨t, ht, -⟩ := State.frames_cons hr
      show ({ U with heap := s₂.heap, slotsUsed := s₂.slotsUsed } : State) = { U.setFrames U.frames with heap := s₂.heap, slotsUsed := s₂.slotsUsed }
      rw [State.setFrames_self ht]
    subst hg
    refine Or.inr ⟨q, ⟨(({ U with heap := s₂.heap, slotsUsed := s₂.slotsUsed } : State).setVm s₂.vm), Ls ++ L, c0 + mc, s0 + ms⟩,
      ⟨X.admits, X.cas, X.clock, X.frames, X.room, X.hears, X.method, X.code, (X.here.setHeapUsed s₂.heap s₂.slotsUsed).setVm hW'.alike, X.tail, State.WarmedH.trans X.warmed hW', X.limits, X.bytes, X.same.trans (hsame.setVm s.vm)⟩,
      ⟨g, mk, s₂, L, E, ce, rfl, rfl, hx, hce, hcv, hcl, rfl, hL, rfl, rfl⟩, ?_⟩
    show Steps p.tables e below _ (((({ U with heap := s₂.heap, slotsUsed := s₂.slotsUsed } : State).setVm s₂.vm).setTop g).pushFrame (.throwing q))
    rw [← hs₂]
    exact hsteps
end
variable {p : Program} {l : Launch} {e : Env} {R : Room} {s : State} {m : MethodId} {args : Array Value} {below : List Frame} {meth : Method} {c : Code} {T : State} {H : Heap} {locs : List Loc} {cells slots : Nat}
theorem vx_callVX (X : Stand p l e R s m args below meth c T locs cells slots) (hexec : p.tables.exec = Jvm.exec) {own C : String} {index : Nat} {y : MethodName} {bytes : ByteArray} {maxL : Nat} {ret : Option FieldType} {hh : List (Nat × Nat × Nat × Nat)}
    (hown : s.vm.findClass own = some m.cls) (hlink : (Cond.methodLink own index y).before args s = true) (hinst : (Cond.instanceMethod y).before args s = true) (hsel : (Cond.selects C y y).before args s = true)
    (hcode : (Cond.codeWith y bytes maxL ret hh).before args s = true) (hy : y.cls ≠ "java/lang/invoke/MethodHandle" ∧ y.cls ≠ "java/lang/invoke/VarHandle")
    {W9 : Nat} {Pre : Pt → Array Value → Prop} {Post : Pt → Array Value → Option Value → Pt → Prop} {PostX : Pt → Array Value → Addr → Pt → Prop} (hK : vx_Back l R p e below s args y 3 W9 Pre Post PostX)
    {b : Addr} {cellB : Cell} (hcell : T.heap[b]? = some cellB) (hobj : cellB.vm.isStatics = false) (hcls : s.vm.findClass C = some cellB.cls)
    {g : JFrame} (hg : g.method = m) (hsize : g.locals.size = c.maxLocals) {argsL rest : List Value} (hlen : ∀ sig, parseMethodDescriptor y.desc = some sig → argsL.length = sig.parameters.length)
    (hstack : g.stack = argsL.reverse ++ .ref b :: rest) (hW : 2 * g.monitorRoom + (rest.map fun v => v.category).sum ≤ W9) (hdg : decode c.code g.pc = .ok (.invokevirtual index, 3))
    (hpre : ∀ vm₁, s.WarmedH vm₁ → Pre ⟨T.setVm vm₁, locs, cells, slots⟩ (Value.ref b :: argsL).toArray) :
    (∃ (v : Option Value) (vm₁ : Vm) (B : Pt), s.WarmedH vm₁ ∧ Stand p l e R s m args below meth c B.U B.locs B.cells B.slots ∧ Post ⟨T.setVm vm₁, locs, cells, slots⟩ (Value.ref b :: argsL).toArray v B ∧
      ∀ target, Steps p.tables e below (B.U.setTop { g with pc := g.pc + 3, stack := v.toList ++ rest }) target → Steps p.tables e below (T.setTop g) target) ∨
    (∃ (q : Addr) (vm₁ : Vm) (B : Pt), s.WarmedH vm₁ ∧ Stand p l e R s m args below meth c B.U B.locs B.cells B.slots ∧ PostX ⟨T.setVm vm₁, locs, cells, slots⟩ (Value.ref b :: argsL).toArray q B ∧
      Steps p.tables e below (T.setTop g) ((B.U.setTop { g with stack := rest }).pushFrame (.throwing q))) := by
  obtain ⟨mk, methM, hnamed, hmethM, hstM, habM⟩ := Cond.instanceMethod_spec hinst
  obtain ⟨m8, methM', cM, hn8, hmethM', -, -, -, -, -, -, hsigM⟩ := Cond.codeWith_spec hcode
  cases Option.some.inj (hn8.symm.trans hnamed)
  cases hmethM.symm.trans hmethM'
  obtain ⟨c2, r2, m2, q1, q2, q3, q4, kP, hkP, hkPi⟩ := Cond.selects_spec hsel
  cases hcls.symm.trans q1
  cases (State.methodFound?_of_named hnamed hy).symm.trans q2
  cases hnamed.symm.trans q3
  have hselP : selectMethod e.platform s.vm cellB.cls mk = .method mk := by rw [Launch.admits_selectMethod X.admits]; exact q4
  obtain ⟨vm₁, X₁, hstep₁⟩ := X.invokevirtual hexec hown hlink hnamed hmethM hstM hkP hkPi hy (a := b) (cell := cellB) hcell
    (fun z h => by rw [h] at hobj; cases hobj) hselP hmethM habM hkP hkPi (g := g) hg (argsL := argsL) (rest := rest) (hlen _ hsigM) hstack hdg
  rcases hK m meth c ⟨T.setVm vm₁, locs, cells, slots⟩ { g with stack := rest } (.invokevirtual index) mk (Value.ref b :: argsL).toArray X₁ hg hsize hdg hW (X₁.named hnamed) (hpre vm₁ X₁.warmed) with ⟨v, B, X', hpost, hsteps⟩ | ⟨q, B, X', hpost, hsteps⟩
  · exact Or.inl ⟨v, vm₁, B, X₁.warmed, X', hpost, fun target h => hstep₁ _ fun acts => by rw [doInvoke_state]; exact hsteps.trans h⟩
  · exact Or.inr ⟨q, vm₁, B, X₁.warmed, X', hpost, hstep₁ _ fun acts => by rw [doInvoke_state]; exact hsteps⟩
theorem vx_callSX (X : Stand p l e R s m args below meth c T locs cells slots) (hexec : p.tables.exec = Jvm.exec) {own : String} {index : Nat} {y : MethodName} {bytes : ByteArray} {maxL : Nat} {ret : Option FieldType} {hh : List (Nat × Nat × Nat × Nat)}
    (hown : s.vm.findClass own = some m.cls) (hlink : (Cond.methodLink own index y).before args s = true) (hstat : (Cond.static y).before args s = true) (hinit : (Cond.initialized y.cls).before args s = true)
    (hcode : (Cond.codeWith y bytes maxL ret hh).before args s = true) (hy : y.cls ≠ "java/lang/invoke/MethodHandle" ∧ y.cls ≠ "java/lang/invoke/VarHandle")
    {W9 : Nat} {Pre : Pt → Array Value → Prop} {Post : Pt → Array Value → Option Value → Pt → Prop} {PostX : Pt → Array Value → Addr → Pt → Prop} (hK : vx_Back l R p e below s args y 3 W9 Pre Post PostX)
    {g : JFrame} (hg : g.method = m) (hsize : g.locals.size = c.maxLocals) {argsL rest : List Value} (hlen : ∀ sig, parseMethodDescriptor y.desc = some sig → argsL.length = sig.parameters.length)
    (hstack : g.stack = argsL.reverse ++ rest) (hW : 2 * g.monitorRoom + (rest.map fun v => v.category).sum ≤ W9) (hdg : decode c.code g.pc = .ok (.invokestatic index, 3))
    (hpre : ∀ vm₁, s.WarmedH vm₁ → Pre ⟨T.setVm vm₁, locs, cells, slots⟩ argsL.toArray) :
    (∃ (v : Option Value) (vm₁ : Vm) (B : Pt), s.WarmedH vm₁ ∧ Stand p l e R s m args below meth c B.U B.locs B.cells B.slots ∧ Post ⟨T.setVm vm₁, locs, cells, slots⟩ argsL.toArray v B ∧
      ∀ target, Steps p.tables e below (B.U.setTop { g with pc := g.pc + 3, stack := v.toList ++ rest }) target → Steps p.tables e below (T.setTop g) target) ∨
    (∃ (q : Addr) (vm₁ : Vm) (B : Pt), s.WarmedH vm₁ ∧ Stand p l e R s m args below meth c B.U B.locs B.cells B.slots ∧ PostX ⟨T.setVm vm₁, locs, cells, slots⟩ argsL.toArray q B ∧
      Steps p.tables e below (T.setTop g) ((B.U.setTop { g with stack := rest }).pushFrame (.throwing q))) := by
  obtain ⟨mk, methM, cM, hnamed, hmethM, -, -, -, -, -, -, hsigM⟩ := Cond.codeWith_spec hcode
  have hstatic : methM.isStatic = true := Cond.static_spec hnamed hmethM hstat
  obtain ⟨kP, hkP, -⟩ := className_of_methodNamed hnamed
  have hinitP : kP.init = .initialized := Cond.initialized_spec (findClass_of_methodNamed hnamed) hkP hinit
  obtain ⟨vm₁, X₁, hstep₁⟩ := X.invokestatic hexec hown hlink hnamed hmethM hstatic hkP hinitP hy (g := g) hg (argsL := argsL) (rest := rest) (hlen _ hsigM) hstack hdg
  rcases hK m meth c ⟨T.setVm vm₁, locs, cells, slots⟩ { g with stack := rest } (.invokestatic index) mk argsL.toArray X₁ hg hsize hdg hW (X₁.named hnamed) (hpre vm₁ X₁.warmed) with ⟨v, B, X', hpost, hsteps⟩ | ⟨q, B, X', hpost, hsteps⟩
  · exact Or.inl ⟨v, vm₁, B, X₁.warmed, X', hpost, fun target h => hstep₁ _ fun acts => by rw [doInvoke_state]; exact hsteps.trans h⟩
  · exact Or.inr ⟨q, vm₁, B, X₁.warmed, X', hpost, hstep₁ _ fun acts => by rw [doInvoke_state]; exact hsteps⟩
theorem vx_callVW (X : Stand p l e R s m args below meth c T locs cells slots) (hexec : p.tables.exec = Jvm.exec) {own C : String} {index : Nat} {y : MethodName} {bytes : ByteArray} {maxL : Nat} {ret : Option FieldType} {hh : List (Nat × Nat × Nat × Nat)}
    (hown : s.vm.findClass own = some m.cls) (hlink : (Cond.methodLink own index y).before args s = true) (hinst : (Cond.instanceMethod y).before args s = true) (hsel : (Cond.selects C y y).before args s = true)
    (hcode : (Cond.codeWith y bytes maxL ret hh).before args s = true) (hy : y.cls ≠ "java/lang/invoke/MethodHandle" ∧ y.cls ≠ "java/lang/invoke/VarHandle")
    {W9 : Nat} {Pre : Pt → Array Value → Prop} {Post : Pt → Array Value → Option Value → Pt → Prop} (hK : Back l R p e below s args y 3 W9 Pre Post)
    {b : Addr} {cellB : Cell} (hcell : T.heap[b]? = some cellB) (hobj : cellB.vm.isStatics = false) (hcls : s.vm.findClass C = some cellB.cls)
    {g : JFrame} (hg : g.method = m) (hsize : g.locals.size = c.maxLocals) {argsL rest : List Value} (hlen : ∀ sig, parseMethodDescriptor y.desc = some sig → argsL.length = sig.parameters.length)
    (hstack : g.stack = argsL.reverse ++ .ref b :: rest) (hW : 2 * g.monitorRoom + (rest.map fun v => v.category).sum ≤ W9) (hdg : decode c.code g.pc = .ok (.invokevirtual index, 3))
    (hpre : ∀ vm₁, s.WarmedH vm₁ → Pre ⟨T.setVm vm₁, locs, cells, slots⟩ (Value.ref b :: argsL).toArray) :
    ∃ (v : Option Value) (vm₁ : Vm) (B : Pt), s.WarmedH vm₁ ∧ Stand p l e R s m args below meth c B.U B.locs B.cells B.slots ∧ Post ⟨T.setVm vm₁, locs, cells, slots⟩ (Value.ref b :: argsL).toArray v B ∧
      ∀ target, Steps p.tables e below (B.U.setTop { g with pc := g.pc + 3, stack := v.toList ++ rest }) target → Steps p.tables e below (T.setTop g) target := by
  obtain ⟨mk, methM, hnamed, hmethM, hstM, habM⟩ := Cond.instanceMethod_spec hinst
  obtain ⟨m8, methM', cM, hn8, hmethM', -, -, -, -, -, -, hsigM⟩ := Cond.codeWith_spec hcode
  cases Option.some.inj (hn8.symm.trans hnamed)
  cases hmethM.symm.trans hmethM'
  obtain ⟨c2, r2, m2, q1, q2, q3, q4, kP, hkP, hkPi⟩ := Cond.selects_spec hsel
  cases hcls.symm.trans q1
  cases (State.methodFound?_of_named hnamed hy).symm.trans q2
  cases hnamed.symm.trans q3
  have hselP : selectMethod e.platform s.vm cellB.cls mk = .method mk := by rw [Launch.admits_selectMethod X.admits]; exact q4
  obtain ⟨vm₁, X₁, hstep₁⟩ := X.invokevirtual hexec hown hlink hnamed hmethM hstM hkP hkPi hy (a := b) (cell := cellB) hcell
    (fun z h => by rw [h] at hobj; cases hobj) hselP hmethM habM hkP hkPi (g := g) hg (argsL := argsL) (rest := rest) (hlen _ hsigM) hstack hdg
  obtain ⟨v, B, X', hpost, hsteps⟩ := hK m meth c ⟨T.setVm vm₁, locs, cells, slots⟩ { g with stack := rest } (.invokevirtual index) mk (Value.ref b :: argsL).toArray X₁ hg hsize hdg hW (X₁.named hnamed) (hpre vm₁ X₁.warmed)
  exact ⟨v, vm₁, B, X₁.warmed, X', hpost, fun target h => hstep₁ _ fun acts => by rw [doInvoke_state]; exact hsteps.trans h⟩
abbrev vx_CVW (R : Room) (s : State) (args : Array Value) (own C : String) (index : Nat) (y : MethodName) (bytes : ByteArray) (maxL : Nat) (ret : Option FieldType) (hh : List (Nat × Nat × Nat × Nat)) (ws : List Cond) (rm : Room) (mc ms n : Nat) : Prop :=
  (rm.cells = mc ∧ rm.slots = ms ∧ rm.frames + 1 ≤ R.frames ∧ 8 + (maxL + 11) + rm.locals ≤ R.locals ∧ (∀ w ∈ ws, ∀ (a' : Array Value) (U : State), s.WarmedH U.vm → w.before a' U = true) ∧ Cond.codeWith y bytes maxL ret hh ∈ ws) ∧
  (Cond.codeWith y bytes maxL ret hh).before args s = true ∧ (Cond.initialized y.cls).before args s = true ∧ (y.cls ≠ "java/lang/invoke/MethodHandle" ∧ y.cls ≠ "java/lang/invoke/VarHandle") ∧
  (∀ sig, parseMethodDescriptor y.desc = some sig → n = sig.parameters.length) ∧ (Cond.methodLink own index y).before args s = true ∧ (Cond.instanceMethod y).before args s = true ∧ (Cond.selects C y y).before args s = true
theorem vx_cwVW {own C : String} {index maxL mc ms : Nat} {y : MethodName} {bytes : ByteArray} {ret : Option FieldType} {hh : List (Nat × Nat × Nat × Nat)} {Ts ws ws' : List Cond} {rm : Room} (n : Nat) (ht : ∀ w ∈ Ts, w.before args s = true) (hT : GoodIn Ts (wsV own index C y ws)) (hw : ws = Cond.codeWith y bytes maxL ret hh :: ws') (hrc : rm.cells = mc) (hrs : rm.slots = ms)
    (hd : y.cls = C ∧ y.cls ≠ "java/lang/invoke/MethodHandle" ∧ y.cls ≠ "java/lang/invoke/VarHandle" ∧ (parseMethodDescriptor y.desc).map (fun d => d.parameters.length) = some n) (hR : rm.frames + 1 ≤ R.frames ∧ 8 + (maxL + 11) + rm.locals ≤ R.locals) :
    vx_CVW R s args own C index y bytes maxL ret hh ws rm mc ms n := by
  obtain ⟨hC, hd⟩ := hd
  subst hC
  have ok : ∀ w ∈ wsV own index y.cls y ws, w.before args s = true := fun w h => ht w (hT w h).1
  have hG : GoodIn Ts ws := fun w h => hT w (by unfold wsV; exact List.mem_append_right _ h)
  have hc : Cond.codeWith y bytes maxL ret hh ∈ ws := by rw [hw]; exact List.mem_cons_self
  refine ⟨⟨hrc, hrs, hR.1, hR.2, pay_in ht hG, hc⟩, ht _ (hG _ hc).1, ok _ (by simp [wsV]), ⟨hd.1, hd.2.1⟩, fun sig h => ?_, ok _ (by simp [wsV]), ok _ (by simp [wsV]), ok _ (by simp [wsV])⟩
  have h2 := hd.2.2
  rw [h] at h2
  exact (Option.some.inj h2).symm
theorem vx_runVW {y : MethodName} {bytes cc : ByteArray} {maxL nL mc ms n index : Nat} {ret : Option FieldType} {hh : List (Nat × Nat × Nat × Nat)} {ws : List Cond} {rm : Room} {Pc : Array Value → State → Prop} {Qc : Array Value → State → Outcome → State → Prop} {free : Addr → Prop} {Ts : List Cond} {own C : String} {b : Addr} {As rest : List Value} {g : JFrame}
    (S : CallFix p m c cc nL s args Ts own) (hM : Met l y ws rm Pc Qc mc ms free) (cw : vx_CVW R s args own C index y bytes maxL ret hh ws rm mc ms n) (hp : PreV s H C b Pc As)
    (hg : g.method = m) (hn : As.length = n) (hsize : g.locals.size = nL) (hstack : g.stack = As.reverse ++ .ref b :: rest) (hW : 2 * g.monitorRoom + (rest.map fun v => v.category).sum ≤ 8) (hdg : decode cc g.pc = .ok (.invokevirtual index, 3)) (hf : cells + mc ≤ R.cells ∧ slots + ms ≤ R.slots) :
    va_Run p l e R s m args below meth c H locs cells slots mc ms g rest (Qc (Value.ref b :: As).toArray) free := by
  obtain ⟨⟨hrc, hrs, hfr, hlo, hws, hcw⟩, hcode, hini, hy, hlen, hl, hin, hse⟩ := cw
  have hK : Back l R p e below s args y 3 8 (PreOf R mc ms Pc) (PostOf Qc mc ms free) := va_backW (hh := hh) (bytes := bytes) (maxL := maxL) (ret := ret) hM hp.1 hrc hrs hfr hlo hws hcw (fun a' U hW => word_at hW (Or.inl (by first | rfl | simp [Cond.onTables, Cond.keeps, Cond.steady])) hini)
  obtain ⟨hx, hb, hml, ho, -⟩ := S
  obtain ⟨-, ⟨cellB, hcB, hoB, hclB⟩, hPc⟩ := hp
  intro T hT X
  obtain ⟨v, vm₁, ⟨U', l2, c2, s2⟩, hW₁, X', ⟨g', mk, t, L, e1, e2, hq, h1, hL, h2, h3⟩, st⟩ := vx_callVW X hx (C := C) (hh := hh) (bytes := bytes) (maxL := maxL) (ret := ret) ho hl hin hse hcode hy hK (by rw [hT]; exact hcB) hoB hclB hg (hsize.trans hml.symm) (argsL := As) (rest := rest) (fun sig h => hn.trans (hlen sig h)) hstack hW (by rw [hb]; exact hdg)
    (fun vm₁ hW₁ => ⟨hf.1, hf.2, hPc (T.setVm vm₁) hT hW₁⟩)
  dsimp only [Pt.U, Pt.locs, Pt.cells, Pt.slots] at X' e1 e2 h1 h2 h3 st
  subst h1; subst h2; subst h3
  exact ⟨v, (T.setVm vm₁).calling g' mk (Value.ref b :: As).toArray, t, U', L, hT, X', hL, e1, e2, hq, st⟩
section
variable {y : MethodName} {bytes cc : ByteArray} {maxL nL mc ms n index : Nat} {ret : Option FieldType} {ws : List Cond} {rm : Room} {Pc : Array Value → State → Prop} {Qc : Array Value → State → Outcome → State → Prop} {XC : String → State → State → Prop} {free : Addr → Prop} {Ts : List Cond} {own C : String} {b : Addr} {As rest : List Value} {g : JFrame}
theorem vx_runVX {hh : List (Nat × Nat × Nat × Nat)} (S : CallFix p m c cc nL s args Ts own) (hM : vx_Met l y ws rm Pc Qc XC mc ms free) (cw : vx_CVW R s args own C index y bytes maxL ret hh ws rm mc ms n) (hp : PreV s H C b Pc As)
    (hg : g.method = m) (hn : As.length = n) (hsize : g.locals.size = nL) (hstack : g.stack = As.reverse ++ .ref b :: rest) (hW : 2 * g.monitorRoom + (rest.map fun v => v.category).sum ≤ 8) (hdg : decode cc g.pc = .ok (.invokevirtual index, 3)) (hf : cells + mc ≤ R.cells ∧ slots + ms ≤ R.slots) :
    vx_Run p l e R s m args below meth c H locs cells slots mc ms g rest (Qc (Value.ref b :: As).toArray) XC free := by
  obtain ⟨⟨hrc, hrs, hfr, hlo, hws, hcw⟩, hcode, hini, hy, hlen, hl, hin, hse⟩ := cw
  have hK : vx_Back l R p e below s args y 3 8 (PreOf R mc ms Pc) (PostOf Qc mc ms free) (vx_Post XC mc ms free) := vx_backW (hh := hh) (bytes := bytes) (maxL := maxL) (ret := ret) hM hp.1 hrc hrs hfr hlo hws hcw (fun a' U hW => word_at hW (Or.inl (by first | rfl | simp [Cond.onTables, Cond.keeps, Cond.steady])) hini)
  obtain ⟨hx, hb, hml, ho, -⟩ := S
  obtain ⟨-, ⟨cellB, hcB, hoB, hclB⟩, hPc⟩ := hp
  intro T hT X
  rcases vx_callVX X hx (C := C) (hh := hh) (bytes := bytes) (maxL := maxL) (ret := ret) ho hl hin hse hcode hy hK (by rw [hT]; exact hcB) hoB hclB hg (hsize.trans hml.symm) (argsL := As) (rest := rest) (fun sig h => hn.trans (hlen sig h)) hstack hW (by rw [hb]; exact hdg)
    (fun vm₁ hW₁ => ⟨hf.1, hf.2, hPc (T.setVm vm₁) hT hW₁⟩) with ⟨v, vm₁, ⟨U', l2, c2, s2⟩, hW₁, X', ⟨g', mk, t, L, e1, e2, hq, h1, hL, h2, h3⟩, st⟩ | ⟨q, vm₁, ⟨U', l2, c2, s2⟩, hW₁, X', ⟨g', mk, t, L, E, ce, e1, e2, hq, hce, hcv, hcl, h1, hL, h2, h3⟩, st⟩
  · dsimp only [Pt.U, Pt.locs, Pt.cells, Pt.slots] at X' e1 e2 h1 h2 h3 st
    subst h1; subst h2; subst h3
    exact Or.inl ⟨v, (T.setVm vm₁).calling g' mk (Value.ref b :: As).toArray, t, U', L, hT, X', hL, e1, e2, hq, st⟩
  · dsimp only [Pt.U, Pt.locs, Pt.cells, Pt.slots] at X' e1 e2 h1 h2 h3 st hcl
    subst h1; subst h2; subst h3
    exact Or.inr ⟨q, (T.setVm vm₁).calling g' mk (Value.ref b :: As).toArray, t, U', L, E, ce, hT, X', hL, e1, e2, hq, hce, hcv, vx_cls hW₁ hcl, st⟩
theorem vx_runSX {hh : List (Nat × Nat × Nat × Nat)} (S : CallFix p m c cc nL s args Ts own) (hM : vx_Met l y ws rm Pc Qc XC mc ms free) (cw : vx_CSW R s args own index y bytes maxL ret hh ws rm mc ms n) (hp : PreS s H Pc As)
    (hg : g.method = m) (hn : As.length = n) (hsize : g.locals.size = nL) (hstack : g.stack = As.reverse ++ rest) (hW : 2 * g.monitorRoom + (rest.map fun v => v.category).sum ≤ 8) (hdg : decode cc g.pc = .ok (.invokestatic index, 3)) (hf : cells + mc ≤ R.cells ∧ slots + ms ≤ R.slots) :
    vx_Run p l e R s m args below meth c H locs cells slots mc ms g rest (Qc As.toArray) XC free := by
  obtain ⟨⟨hrc, hrs, hfr, hlo, hws, hcw⟩, hcode, hini, hy, hlen, hl, hstt⟩ := cw
  have hK : vx_Back l R p e below s args y 3 8 (PreOf R mc ms Pc) (PostOf Qc mc ms free) (vx_Post XC mc ms free) := vx_backW (hh := hh) (bytes := bytes) (maxL := maxL) (ret := ret) hM hp.1 hrc hrs hfr hlo hws hcw (fun a' U hW => word_at hW (Or.inl (by first | rfl | simp [Cond.onTables, Cond.keeps, Cond.steady])) hini)
  obtain ⟨hx, hb, hml, ho, -⟩ := S
  intro T hT X
  rcases vx_callSX X hx (hh := hh) (bytes := bytes) (maxL := maxL) (ret := ret) ho hl hstt hini hcode hy hK hg (hsize.trans hml.symm) (argsL := As) (rest := rest) (fun sig h => hn.trans (hlen sig h)) hstack hW (by rw [hb]; exact hdg)
    (fun vm₁ hW₁ => ⟨hf.1, hf.2, hp.2 (T.setVm vm₁) hT hW₁⟩) with ⟨v, vm₁, ⟨U', l2, c2, s2⟩, hW₁, X', ⟨g', mk, t, L, e1, e2, hq, h1, hL, h2, h3⟩, st⟩ | ⟨q, vm₁, ⟨U', l2, c2, s2⟩, hW₁, X', ⟨g', mk, t, L, E, ce, e1, e2, hq, hce, hcv, hcl, h1, hL, h2, h3⟩, st⟩
  · dsimp only [Pt.U, Pt.locs, Pt.cells, Pt.slots] at X' e1 e2 h1 h2 h3 st
    subst h1; subst h2; subst h3
    exact Or.inl ⟨v, (T.setVm vm₁).calling g' mk As.toArray, t, U', L, hT, X', hL, e1, e2, hq, st⟩
  · dsimp only [Pt.U, Pt.locs, Pt.cells, Pt.slots] at X' e1 e2 h1 h2 h3 st hcl
    subst h1; subst h2; subst h3
    exact Or.inr ⟨q, (T.setVm vm₁).calling g' mk As.toArray, t, U', L, E, ce, hT, X', hL, e1, e2, hq, hce, hcv, vx_cls hW₁ hcl, st⟩
end
end VXH
theorem vx_ofWH {l : Launch} {y : MethodName} {ws ws' : List Cond} {rm : Room} {Pc : Array Value → State → Prop} {Qc : Array Value → State → Outcome → State → Prop} {XC : String → State → State → Prop} {mc ms : Nat} {free : Addr → Prop} {cc : ByteArray} {maxL : Nat} {ret : Option FieldType} {hh : List (Nat × Nat × Nat × Nat)}
    (hy : plainName y.cls = true) (hw : ws = Cond.codeWith y cc maxL ret hh :: ws')
    (body : ∀ p e s m args below meth c s₁, BodyLoose p l y (headSpec ws rm) cc maxL ret e s m args below meth c s₁ → c.maxLocals = maxL → Pc args s →
      W p l e (headSpec ws rm).room s m args below meth c s.heap [] 0 0 (vx_MQ below Qc XC args s mc ms free) (entryFrame m args maxL)) : vx_Met l y ws rm Pc Qc XC mc ms free := by
  refine MetFree.of_bodyS (code := cc) (maxLocals := maxL) (ret := ret) hy ?_ ?_
  · intro args s m h hn
    obtain ⟨m9, meth, c, hn9, h1, h2, h3, h4, -, h5, h6, -⟩ := Cond.codeWith_spec (atoms_spec (ws := ws) h _ (by rw [hw]; exact List.mem_cons_self))
    cases hn.symm.trans hn9
    exact ⟨meth, c, h1, h2, h3, h4, h5, h6⟩
  · intro p e s m args below meth c s₁ B hml hP _
    have hh0 : s₁.heap = s.heap := by rw [B.state]; rfl
    obtain ⟨t, a1, o, b1, b2, b3⟩ := body p e s m args below meth c s₁ B hml hP s₁ hh0 (Stand.of_body B)
    exact ⟨t, o, a1, b1, b2, b3⟩
/-! ===== END ===== -/
end
section
/-- the words of the tables that stay true -/
def sv_T : List Cond := lw_tbl.filter goodWord
/-- the class's text constants, by their entries -/
def sv_S : List (Nat × String) := [(27, "the number of bits isn't 1 .. 8"), (125, "the mask or the value isn't a state"), (127, "the value has a bit that the mask hasn't"), (47, "the bits kept or flipped aren't a state"), (55, "there are 40 rules"), (62, "there is no such kind"), (70, "a part isn't there"), (75, "there are 60 formulas"), (131, "there is no such formula"), (134, "there is no such state"), (140, "the formula is no UNTIL"), (116, "the witness has no such state")]
/-- what a state knows of the launch: where two statics of Throwable lie, and that its tables are warmer than ones in which every word holds -/
def sv_Z (A : Nat → Prop) (U : State) : Prop := vx_Zq Bundle.tN "UNASSIGNED_STACK" Bundle.steD A U U.heap ∧ vx_Zq Bundle.tN "SUPPRESSED_SENTINEL" Bundle.listD A U U.heap ∧
  ∃ (s0 : State) (a0 : Array Value), s0.WarmedH U.vm ∧ (∀ w ∈ lw_tbl, w.before a0 s0 = true) ∧ ∀ q ∈ sv_S, ∃ a, vk_R "StateLogic" q.1 q.2 a s0
theorem sv_Z_ts {A : Nat → Prop} {U : State} (h : sv_Z A U) (a : Array Value) : ∀ w ∈ sv_T, w.before a U = true := by
  obtain ⟨-, -, s0, a0, hW, h, -⟩ := h
  intro w hw
  obtain ⟨h1, h2⟩ := List.mem_filter.mp hw
  exact word_at hW (good_of_word h2) (h w h1)
theorem sv_Z_next {A B : Nat → Prop} {s U : State} (h : sv_Z A s) (hW : s.WarmedH U.vm) (hS : ∀ q : Nat, q < s.heap.size → ¬ A q → U.heap[q]? = s.heap[q]?) (hB : ∀ q, B q → A q) : sv_Z B U := by
  obtain ⟨h1, h2, s0, a0, hW0, h3, h4⟩ := h
  exact ⟨(vx_Zq.moved hW.alike (h1.kept hS)).narrow hB, (vx_Zq.moved hW.alike (h2.kept hS)).narrow hB, s0, a0, State.WarmedH.trans hW0 hW, h3, h4⟩
theorem sv_in {w : Cond} (i : Nat) (h : tables_1[i]? = some w) (g : goodWord w = true) : w ∈ sv_T := List.mem_filter.mpr ⟨List.mem_append_right _ (List.mem_of_getElem? h), g⟩
theorem sv_inP {w : Cond} (h : w ∈ k2_sels lw_privs) (g : goodWord w = true) : w ∈ sv_T := List.mem_filter.mpr ⟨List.mem_append_left _ h, g⟩

/-! A walk over a picture of the heap: cells in a row, a reference is the place of its cell. -/
/-- a value, its reference read as a place, as the machine has it -/
def sv_v (ad : Nat → Nat) : Value → Value
  | .ref k => .ref (ad k)
  | v => v
def sv_e (ad : Nat → Nat) : va_E → va_E
  | .inl x => .inl x
  | .inr o => .inr (o.1, o.2.map (sv_v ad))
def sv_w (ad : Nat → Nat) : Nat → List va_E → va_W
  | _, [] => []
  | i, x :: r => (ad i, sv_e ad x) :: sv_w ad (i + 1) r
theorem sv_v_cat (ad : Nat → Nat) (v : Value) : (sv_v ad v).category = v.category := by cases v <;> rfl
theorem sv_cats (ad : Nat → Nat) (st : List Value) : ((st.map (sv_v ad)).map fun v => v.category) = st.map fun v => v.category := by
  rw [List.map_map]
  exact List.map_congr_left (fun v _ => sv_v_cat ad v)
theorem sv_w_get (ad : Nat → Nat) : ∀ (i : Nat) (ws : List va_E) (k : Nat), (sv_w ad i ws)[k]? = (ws[k]?).map (fun x => (ad (i + k), sv_e ad x))
  | i, [], k => by simp [sv_w]
  | i, x :: r, 0 => by simp [sv_w]
  | i, x :: r, k + 1 => by
    have h := sv_w_get ad (i + 1) r k
    rw [show i + 1 + k = i + (k + 1) by omega] at h
    simpa [sv_w] using h
theorem sv_w_at {ad : Nat → Nat} {ws : List va_E} {k : Nat} {x : va_E} (h : ws[k]? = some x) : (sv_w ad 0 ws)[k]? = some (ad k, sv_e ad x) := by
  rw [sv_w_get, h, Nat.zero_add]
  rfl
theorem sv_w_set (ad : Nat → Nat) : ∀ (i : Nat) (ws : List va_E) (k : Nat) (x : va_E), (sv_w ad i ws).set k (ad (i + k), sv_e ad x) = sv_w ad i (ws.set k x)
  | i, [], k, x => by simp [sv_w]
  | i, y :: r, 0, x => by simp [sv_w]
  | i, y :: r, k + 1, x => by
    have h := sv_w_set ad (i + 1) r k x
    rw [show i + 1 + k = i + (k + 1) by omega] at h
    simpa [sv_w] using h
theorem sv_w_put (ad : Nat → Nat) (ws : List va_E) (k : Nat) (x : va_E) : (sv_w ad 0 ws).set k (ad k, sv_e ad x) = sv_w ad 0 (ws.set k x) := by
  have h := sv_w_set ad 0 ws k x
  rwa [Nat.zero_add] at h
theorem sv_w_app (ad : Nat → Nat) : ∀ (i : Nat) (ws : List va_E) (x : va_E), sv_w ad i (ws ++ [x]) = sv_w ad i ws ++ [(ad (i + ws.length), sv_e ad x)]
  | i, [], x => by simp [sv_w]
  | i, y :: r, x => by
    have h := sv_w_app ad (i + 1) r x
    rw [show i + 1 + r.length = i + (r.length + 1) by omega] at h
    simpa [sv_w] using h
/-- what is known of the locals -/
def sv_h (ad : Nat → Nat) (ls : Array Slot) (nL : Nat) (lv : List (Option Value)) : Prop := ∃ l, lv_has ls nL l ∧ ∀ (i : Nat) (v : Value), lv[i]? = some (some v) → (i, sv_v ad v) ∈ l
theorem sv_h_at {ad : Nat → Nat} {ls : Array Slot} {nL : Nat} {lv : List (Option Value)} (h : sv_h ad ls nL lv) {i : Nat} {v : Value} (hi : lv[i]? = some (some v)) : ls[i]? = some (.val (sv_v ad v)) := by
  obtain ⟨l, hl, h⟩ := h
  exact hl.2.2 _ (h i v hi)
/-- no long lies just ahead of the place i -/
def sv_lk (lv : List (Option Value)) (i : Nat) : Bool := match i with
  | 0 => true
  | j + 1 => match lv[j]? with
    | some (some v) => v.category != 2
    | _ => true
theorem sv_lk_spec {lv : List (Option Value)} {i j : Nat} {v : Value} (h : sv_lk lv i = true) (hj : lv[j]? = some (some v)) : ¬ (j + 1 = i ∧ v.category = 2) := by
  rintro ⟨rfl, hc⟩
  simp [sv_lk, hj, hc] at h
theorem sv_h_set1 {ad : Nat → Nat} {ls : Array Slot} {nL : Nat} {l : List (Nat × Value)} {lv : List (Option Value)} {i : Nat} {v w : Value} (hw : w = sv_v ad v) (hk : sv_lk lv i = true) (h : ∀ (i : Nat) (v : Value), lv[i]? = some (some v) → (i, sv_v ad v) ∈ l)
    (hl : lv_has ls nL ((i, w) :: l.filter (fun q => !(q.1 == i) && !(q.1 + 1 == i && q.2.category == 2)))) : sv_h ad ls nL (lv.set i (some v)) := by
  refine ⟨_, hl, fun j u hj => ?_⟩
  by_cases e : j = i
  · subst e
    rw [List.getElem?_set] at hj
    simp only [if_true] at hj
    split at hj
    · have hj : v = u := by simpa using hj
      rw [hw, hj]
      exact List.mem_cons_self
    · cases hj
  · rw [List.getElem?_set_ne (fun q => e q.symm)] at hj
    refine List.mem_cons_of_mem _ (List.mem_filter.mpr ⟨h j u hj, ?_⟩)
    have h2 := sv_lk_spec hk hj
    simp only [sv_v_cat, Bool.and_eq_true, Bool.not_eq_true', beq_eq_false_iff_ne, Bool.and_eq_false_iff, ne_eq]
    refine ⟨e, ?_⟩
    by_cases e2 : j + 1 = i
    · exact Or.inr (fun q => h2 ⟨e2, q⟩)
    · exact Or.inl e2
theorem sv_h_set2 {ad : Nat → Nat} {ls : Array Slot} {nL : Nat} {l : List (Nat × Value)} {lv : List (Option Value)} {i : Nat} {v w : Value} (hw : w = sv_v ad v) (hk : sv_lk lv i = true) (h : ∀ (i : Nat) (v : Value), lv[i]? = some (some v) → (i, sv_v ad v) ∈ l)
    (hl : lv_has ls nL ((i, w) :: l.filter (fun q => !(q.1 == i) && (!(q.1 == i + 1) && !(q.1 + 1 == i && q.2.category == 2))))) : sv_h ad ls nL ((lv.set i (some v)).set (i + 1) none) := by
  refine ⟨_, hl, fun j u hj => ?_⟩
  by_cases e1 : j = i + 1
  · subst e1
    rw [List.getElem?_set] at hj
    simp only [if_true] at hj
    split at hj <;> simp at hj
  · rw [List.getElem?_set_ne (fun q => e1 q.symm)] at hj
    by_cases e : j = i
    · subst e
      rw [List.getElem?_set] at hj
      simp only [if_true] at hj
      split at hj
      · have hj : v = u := by simpa using hj
        rw [hw, hj]
        exact List.mem_cons_self
      · cases hj
    · rw [List.getElem?_set_ne (fun q => e q.symm)] at hj
      refine List.mem_cons_of_mem _ (List.mem_filter.mpr ⟨h j u hj, ?_⟩)
      have h2 := sv_lk_spec hk hj
      simp only [sv_v_cat, Bool.and_eq_true, Bool.not_eq_true', beq_eq_false_iff_ne, Bool.and_eq_false_iff, ne_eq]
      refine ⟨e, e1, ?_⟩
      by_cases e2 : j + 1 = i
      · exact Or.inr (fun q => h2 ⟨e2, q⟩)
      · exact Or.inl e2
/-- THE WALK at pc, with locals lv, stack st, cells ws, k cells of n slots made -/
def sv_V (p : Program) (l : Launch) (e : Env) (R : Room) (s : State) (m : MethodId) (args : Array Value) (below : List Frame) (meth : Method) (c : Code) (D : va_G) (cl : List vw_C) (A : Nat → Prop) (nL : Nat) (ad : Nat → Nat) (Q : State → Prop) (pc : Nat) (lv : List (Option Value)) (st : List Value) (ws : List va_E) (k n : Nat) : Prop :=
  ∀ (H : Heap) (locs : List Loc) (ls : Array Slot), va_P D cl (sv_w ad 0 ws) H → va_D A (sv_w ad 0 ws) → va_S A s.heap H locs → sv_h ad ls nL lv → W p l e R s m args below meth c H locs k n Q (F0 m pc ls (st.map (sv_v ad)))
/-- what a walk knows all along -/
def sv_C (p : Program) (s : State) (m : MethodId) (args : Array Value) (meth : Method) (c : Code) (D : va_G) (cl : List vw_C) (tys : List (ClassId × FieldType)) (A : Nat → Prop) (cc : ByteArray) (nL : Nat) (own : String) (ret : Option FieldType) : Prop :=
  p.tables.exec = Jvm.exec ∧ c.code = cc ∧ c.maxLocals = nL ∧ s.vm.findClass own = some m.cls ∧ (∀ w ∈ sv_T, w.before args s = true) ∧ va_K D cl tys s ∧ (∀ q, s.heap.size ≤ q → A q) ∧ meth.sig.returnType = ret ∧ meth.locks = false ∧ sv_Z A s
section
variable {p : Program} {l : Launch} {e : Env} {R : Room} {s : State} {m : MethodId} {args : Array Value} {below : List Frame} {meth : Method} {c : Code} {D : va_G} {cl : List vw_C} {tys : List (ClassId × FieldType)} {A : Nat → Prop} {nL : Nat} {ad : Nat → Nat} {Q : State → Prop} {cc : ByteArray} {own : String} {ret : Option FieldType} {pc : Nat} {lv : List (Option Value)} {st : List Value} {ws : List va_E} {k n : Nat}
theorem sv_iadd (C : sv_C p s m args meth c D cl tys A cc nL own ret) {x y : Int32} (hd : decode cc pc = .ok (.iadd, 1)) (kk : sv_V p l e R s m args below meth c D cl A nL ad Q (pc + 1) lv (.int (x + y) :: st) ws k n) : sv_V p l e R s m args below meth c D cl A nL ad Q pc lv (.int y :: .int x :: st) ws k n :=
  fun H locs ls hP hD hS hl => lv_iadd C.1 C.2.1 hd (kk H locs ls hP hD hS hl)
theorem sv_isub (C : sv_C p s m args meth c D cl tys A cc nL own ret) {x y : Int32} (hd : decode cc pc = .ok (.isub, 1)) (kk : sv_V p l e R s m args below meth c D cl A nL ad Q (pc + 1) lv (.int (x - y) :: st) ws k n) : sv_V p l e R s m args below meth c D cl A nL ad Q pc lv (.int y :: .int x :: st) ws k n :=
  fun H locs ls hP hD hS hl => lv_isub C.1 C.2.1 hd (kk H locs ls hP hD hS hl)
theorem sv_imul (C : sv_C p s m args meth c D cl tys A cc nL own ret) {x y : Int32} (hd : decode cc pc = .ok (.imul, 1)) (kk : sv_V p l e R s m args below meth c D cl A nL ad Q (pc + 1) lv (.int (x * y) :: st) ws k n) : sv_V p l e R s m args below meth c D cl A nL ad Q pc lv (.int y :: .int x :: st) ws k n :=
  fun H locs ls hP hD hS hl => lv_imul C.1 C.2.1 hd (kk H locs ls hP hD hS hl)
theorem sv_iand (C : sv_C p s m args meth c D cl tys A cc nL own ret) {x y : Int32} (hd : decode cc pc = .ok (.iand, 1)) (kk : sv_V p l e R s m args below meth c D cl A nL ad Q (pc + 1) lv (.int (x &&& y) :: st) ws k n) : sv_V p l e R s m args below meth c D cl A nL ad Q pc lv (.int y :: .int x :: st) ws k n :=
  fun H locs ls hP hD hS hl => lv_iand C.1 C.2.1 hd (kk H locs ls hP hD hS hl)
theorem sv_ior (C : sv_C p s m args meth c D cl tys A cc nL own ret) {x y : Int32} (hd : decode cc pc = .ok (.ior, 1)) (kk : sv_V p l e R s m args below meth c D cl A nL ad Q (pc + 1) lv (.int (x ||| y) :: st) ws k n) : sv_V p l e R s m args below meth c D cl A nL ad Q pc lv (.int y :: .int x :: st) ws k n :=
  fun H locs ls hP hD hS hl => lv_ior C.1 C.2.1 hd (kk H locs ls hP hD hS hl)
theorem sv_ixor (C : sv_C p s m args meth c D cl tys A cc nL own ret) {x y : Int32} (hd : decode cc pc = .ok (.ixor, 1)) (kk : sv_V p l e R s m args below meth c D cl A nL ad Q (pc + 1) lv (.int (x ^^^ y) :: st) ws k n) : sv_V p l e R s m args below meth c D cl A nL ad Q pc lv (.int y :: .int x :: st) ws k n :=
  fun H locs ls hP hD hS hl => lv_ixor C.1 C.2.1 hd (kk H locs ls hP hD hS hl)
theorem sv_ladd (C : sv_C p s m args meth c D cl tys A cc nL own ret) {x y : Int64} (hd : decode cc pc = .ok (.ladd, 1)) (kk : sv_V p l e R s m args below meth c D cl A nL ad Q (pc + 1) lv (.long (x + y) :: st) ws k n) : sv_V p l e R s m args below meth c D cl A nL ad Q pc lv (.long y :: .long x :: st) ws k n :=
  fun H locs ls hP hD hS hl => lv_ladd C.1 C.2.1 hd (kk H locs ls hP hD hS hl)
theorem sv_lsub (C : sv_C p s m args meth c D cl tys A cc nL own ret) {x y : Int64} (hd : decode cc pc = .ok (.lsub, 1)) (kk : sv_V p l e R s m args below meth c D cl A nL ad Q (pc + 1) lv (.long (x - y) :: st) ws k n) : sv_V p l e R s m args below meth c D cl A nL ad Q pc lv (.long y :: .long x :: st) ws k n :=
  fun H locs ls hP hD hS hl => lv_lsub C.1 C.2.1 hd (kk H locs ls hP hD hS hl)
theorem sv_lmul (C : sv_C p s m args meth c D cl tys A cc nL own ret) {x y : Int64} (hd : decode cc pc = .ok (.lmul, 1)) (kk : sv_V p l e R s m args below meth c D cl A nL ad Q (pc + 1) lv (.long (x * y) :: st) ws k n) : sv_V p l e R s m args below meth c D cl A nL ad Q pc lv (.long y :: .long x :: st) ws k n :=
  fun H locs ls hP hD hS hl => lv_lmul C.1 C.2.1 hd (kk H locs ls hP hD hS hl)
theorem sv_land (C : sv_C p s m args meth c D cl tys A cc nL own ret) {x y : Int64} (hd : decode cc pc = .ok (.land, 1)) (kk : sv_V p l e R s m args below meth c D cl A nL ad Q (pc + 1) lv (.long (x &&& y) :: st) ws k n) : sv_V p l e R s m args below meth c D cl A nL ad Q pc lv (.long y :: .long x :: st) ws k n :=
  fun H locs ls hP hD hS hl => lv_land C.1 C.2.1 hd (kk H locs ls hP hD hS hl)
theorem sv_lor (C : sv_C p s m args meth c D cl tys A cc nL own ret) {x y : Int64} (hd : decode cc pc = .ok (.lor, 1)) (kk : sv_V p l e R s m args below meth c D cl A nL ad Q (pc + 1) lv (.long (x ||| y) :: st) ws k n) : sv_V p l e R s m args below meth c D cl A nL ad Q pc lv (.long y :: .long x :: st) ws k n :=
  fun H locs ls hP hD hS hl => lv_lor C.1 C.2.1 hd (kk H locs ls hP hD hS hl)
theorem sv_lxor (C : sv_C p s m args meth c D cl tys A cc nL own ret) {x y : Int64} (hd : decode cc pc = .ok (.lxor, 1)) (kk : sv_V p l e R s m args below meth c D cl A nL ad Q (pc + 1) lv (.long (x ^^^ y) :: st) ws k n) : sv_V p l e R s m args below meth c D cl A nL ad Q pc lv (.long y :: .long x :: st) ws k n :=
  fun H locs ls hP hD hS hl => lv_lxor C.1 C.2.1 hd (kk H locs ls hP hD hS hl)
theorem sv_ishl (C : sv_C p s m args meth c D cl tys A cc nL own ret) {x y : Int32} (hd : decode cc pc = .ok (.ishl, 1)) (kk : sv_V p l e R s m args below meth c D cl A nL ad Q (pc + 1) lv (.int (x <<< (y &&& 31)) :: st) ws k n) : sv_V p l e R s m args below meth c D cl A nL ad Q pc lv (.int y :: .int x :: st) ws k n :=
  fun H locs ls hP hD hS hl => lv_ishl C.1 C.2.1 hd (kk H locs ls hP hD hS hl)
theorem sv_ishr (C : sv_C p s m args meth c D cl tys A cc nL own ret) {x y : Int32} (hd : decode cc pc = .ok (.ishr, 1)) (kk : sv_V p l e R s m args below meth c D cl A nL ad Q (pc + 1) lv (.int (x >>> (y &&& 31)) :: st) ws k n) : sv_V p l e R s m args below meth c D cl A nL ad Q pc lv (.int y :: .int x :: st) ws k n :=
  fun H locs ls hP hD hS hl => lv_ishr C.1 C.2.1 hd (kk H locs ls hP hD hS hl)
theorem sv_iushr (C : sv_C p s m args meth c D cl tys A cc nL own ret) {x y : Int32} (hd : decode cc pc = .ok (.iushr, 1)) (kk : sv_V p l e R s m args below meth c D cl A nL ad Q (pc + 1) lv (.int ((x.toUInt32 >>> (y.toUInt32 &&& Int32.toUInt32 31)).toInt32) :: st) ws k n) : sv_V p l e R s m args below meth c D cl A nL ad Q pc lv (.int y :: .int x :: st) ws k n :=
  fun H locs ls hP hD hS hl => lv_iushr C.1 C.2.1 hd rfl (kk H locs ls hP hD hS hl)
theorem sv_lushr (C : sv_C p s m args meth c D cl tys A cc nL own ret) {x : Int64} {y : Int32} (hd : decode cc pc = .ok (.lushr, 1)) (kk : sv_V p l e R s m args below meth c D cl A nL ad Q (pc + 1) lv (.long ((x.toUInt64 >>> (y.toInt64.toUInt64 &&& Int64.toUInt64 63)).toInt64) :: st) ws k n) : sv_V p l e R s m args below meth c D cl A nL ad Q pc lv (.int y :: .long x :: st) ws k n :=
  fun H locs ls hP hD hS hl => lv_lushr C.1 C.2.1 hd rfl (kk H locs ls hP hD hS hl)
theorem sv_lshl (C : sv_C p s m args meth c D cl tys A cc nL own ret) {x : Int64} {y : Int32} (hd : decode cc pc = .ok (.lshl, 1)) (kk : sv_V p l e R s m args below meth c D cl A nL ad Q (pc + 1) lv (.long (x <<< (y.toInt64 &&& 63)) :: st) ws k n) : sv_V p l e R s m args below meth c D cl A nL ad Q pc lv (.int y :: .long x :: st) ws k n :=
  fun H locs ls hP hD hS hl => lv_lshl C.1 C.2.1 hd rfl (kk H locs ls hP hD hS hl)
theorem sv_ineg (C : sv_C p s m args meth c D cl tys A cc nL own ret) {x : Int32} (hd : decode cc pc = .ok (.ineg, 1)) (kk : sv_V p l e R s m args below meth c D cl A nL ad Q (pc + 1) lv (.int (-x) :: st) ws k n) : sv_V p l e R s m args below meth c D cl A nL ad Q pc lv (.int x :: st) ws k n :=
  fun H locs ls hP hD hS hl => lv_ineg C.1 C.2.1 hd (kk H locs ls hP hD hS hl)
theorem sv_lneg (C : sv_C p s m args meth c D cl tys A cc nL own ret) {x : Int64} (hd : decode cc pc = .ok (.lneg, 1)) (kk : sv_V p l e R s m args below meth c D cl A nL ad Q (pc + 1) lv (.long (-x) :: st) ws k n) : sv_V p l e R s m args below meth c D cl A nL ad Q pc lv (.long x :: st) ws k n :=
  fun H locs ls hP hD hS hl => lv_lneg C.1 C.2.1 hd (kk H locs ls hP hD hS hl)
theorem sv_i2l (C : sv_C p s m args meth c D cl tys A cc nL own ret) {x : Int32} (hd : decode cc pc = .ok (.i2l, 1)) (kk : sv_V p l e R s m args below meth c D cl A nL ad Q (pc + 1) lv (.long x.toInt64 :: st) ws k n) : sv_V p l e R s m args below meth c D cl A nL ad Q pc lv (.int x :: st) ws k n :=
  fun H locs ls hP hD hS hl => lv_i2l C.1 C.2.1 hd rfl (kk H locs ls hP hD hS hl)
theorem sv_l2i (C : sv_C p s m args meth c D cl tys A cc nL own ret) {x : Int64} (hd : decode cc pc = .ok (.l2i, 1)) (kk : sv_V p l e R s m args below meth c D cl A nL ad Q (pc + 1) lv (.int x.toInt32 :: st) ws k n) : sv_V p l e R s m args below meth c D cl A nL ad Q pc lv (.long x :: st) ws k n :=
  fun H locs ls hP hD hS hl => lv_l2i C.1 C.2.1 hd rfl (kk H locs ls hP hD hS hl)
theorem sv_lcmp (C : sv_C p s m args meth c D cl tys A cc nL own ret) {x y : Int64} (hd : decode cc pc = .ok (.lcmp, 1)) (kk : sv_V p l e R s m args below meth c D cl A nL ad Q (pc + 1) lv (.int (lg_cmp x y) :: st) ws k n) : sv_V p l e R s m args below meth c D cl A nL ad Q pc lv (.long y :: .long x :: st) ws k n :=
  fun H locs ls hP hD hS hl => W.lcmp C.1 C.2.1 hd (kk H locs ls hP hD hS hl)
theorem sv_idiv (C : sv_C p s m args meth c D cl tys A cc nL own ret) {x y : Int32} (hd : decode cc pc = .ok (.idiv, 1)) (hne : ¬ y = 0) (kk : sv_V p l e R s m args below meth c D cl A nL ad Q (pc + 1) lv (.int (x / y) :: st) ws k n) : sv_V p l e R s m args below meth c D cl A nL ad Q pc lv (.int y :: .int x :: st) ws k n :=
  fun H locs ls hP hD hS hl => lv_idiv C.1 C.2.1 hd hne (kk H locs ls hP hD hS hl)
theorem sv_irem (C : sv_C p s m args meth c D cl tys A cc nL own ret) {x y : Int32} (hd : decode cc pc = .ok (.irem, 1)) (hne : ¬ y = 0) (kk : sv_V p l e R s m args below meth c D cl A nL ad Q (pc + 1) lv (.int (x - x / y * y) :: st) ws k n) : sv_V p l e R s m args below meth c D cl A nL ad Q pc lv (.int y :: .int x :: st) ws k n :=
  fun H locs ls hP hD hS hl => lv_irem C.1 C.2.1 hd hne (kk H locs ls hP hD hS hl)
theorem sv_iconst (C : sv_C p s m args meth c D cl tys A cc nL own ret) {z : Int} {v : Int32} (hd : decode cc pc = .ok (.iconst z, 1)) (hv : Int32.ofInt z = v) (kk : sv_V p l e R s m args below meth c D cl A nL ad Q (pc + 1) lv (.int v :: st) ws k n) : sv_V p l e R s m args below meth c D cl A nL ad Q pc lv (st) ws k n :=
  fun H locs ls hP hD hS hl => lv_iconst C.1 C.2.1 hd hv (kk H locs ls hP hD hS hl)
theorem sv_bipush (C : sv_C p s m args meth c D cl tys A cc nL own ret) {z : Int} {v : Int32} (hd : decode cc pc = .ok (.bipush z, 2)) (hv : (Int8.ofInt z).toInt32 = v) (kk : sv_V p l e R s m args below meth c D cl A nL ad Q (pc + 2) lv (.int v :: st) ws k n) : sv_V p l e R s m args below meth c D cl A nL ad Q pc lv (st) ws k n :=
  fun H locs ls hP hD hS hl => lv_bipush C.1 C.2.1 hd hv (kk H locs ls hP hD hS hl)
theorem sv_sipush (C : sv_C p s m args meth c D cl tys A cc nL own ret) {z : Int} {v : Int32} (hd : decode cc pc = .ok (.sipush z, 3)) (hv : (Int16.ofInt z).toInt32 = v) (kk : sv_V p l e R s m args below meth c D cl A nL ad Q (pc + 3) lv (.int v :: st) ws k n) : sv_V p l e R s m args below meth c D cl A nL ad Q pc lv (st) ws k n :=
  fun H locs ls hP hD hS hl => lv_sipush C.1 C.2.1 hd hv (kk H locs ls hP hD hS hl)
theorem sv_lconst (C : sv_C p s m args meth c D cl tys A cc nL own ret) {z : Fin 2} {v : Int64} (hd : decode cc pc = .ok (.lconst z, 1)) (hv : Int64.ofNat (z : Nat) = v) (kk : sv_V p l e R s m args below meth c D cl A nL ad Q (pc + 1) lv (.long v :: st) ws k n) : sv_V p l e R s m args below meth c D cl A nL ad Q pc lv (st) ws k n :=
  fun H locs ls hP hD hS hl => lv_lconst C.1 C.2.1 hd hv (kk H locs ls hP hD hS hl)
theorem sv_iload_n (C : sv_C p s m args meth c D cl tys A cc nL own ret) {z : Fin 4} {i : Nat} {x : Int32} (hd : decode cc pc = .ok (.iload_n z, 1)) (hi : (z : Nat) = i) (hv : lv[i]? = some (some (.int x))) (kk : sv_V p l e R s m args below meth c D cl A nL ad Q (pc + 1) lv (.int x :: st) ws k n) : sv_V p l e R s m args below meth c D cl A nL ad Q pc lv (st) ws k n :=
  fun H locs ls hP hD hS hl => lv_iload_n C.1 C.2.1 hd hi (sv_h_at hl hv) (kk H locs ls hP hD hS hl)
theorem sv_iload (C : sv_C p s m args meth c D cl tys A cc nL own ret) {i : Nat} {x : Int32} (hd : decode cc pc = .ok (.iload i, 2)) (hv : lv[i]? = some (some (.int x))) (kk : sv_V p l e R s m args below meth c D cl A nL ad Q (pc + 2) lv (.int x :: st) ws k n) : sv_V p l e R s m args below meth c D cl A nL ad Q pc lv (st) ws k n :=
  fun H locs ls hP hD hS hl => lv_iload C.1 C.2.1 hd (sv_h_at hl hv) (kk H locs ls hP hD hS hl)
theorem sv_istore_n (C : sv_C p s m args meth c D cl tys A cc nL own ret) {z : Fin 4} {i : Nat} {x : Int32} (hd : decode cc pc = .ok (.istore_n z, 1)) (hi : (z : Nat) = i) (hn : i < nL) (hk : sv_lk lv i = true) (kk : sv_V p l e R s m args below meth c D cl A nL ad Q (pc + 1) (lv.set i (some (.int x))) st ws k n) : sv_V p l e R s m args below meth c D cl A nL ad Q pc lv (.int x :: st) ws k n := by
  intro H locs ls hP hD hS hl
  obtain ⟨l0, h1, h2⟩ := hl
  exact lv_istore_n C.1 C.2.1 hd hi h1 hn rfl (fun ls' h3 => kk H locs ls' hP hD hS (sv_h_set1 (v := .int x) rfl hk h2 h3))
theorem sv_istore (C : sv_C p s m args meth c D cl tys A cc nL own ret) {i : Nat} {x : Int32} (hd : decode cc pc = .ok (.istore i, 2)) (hn : i < nL) (hk : sv_lk lv i = true) (kk : sv_V p l e R s m args below meth c D cl A nL ad Q (pc + 2) (lv.set i (some (.int x))) st ws k n) : sv_V p l e R s m args below meth c D cl A nL ad Q pc lv (.int x :: st) ws k n := by
  intro H locs ls hP hD hS hl
  obtain ⟨l0, h1, h2⟩ := hl
  exact lv_istore C.1 C.2.1 hd h1 hn rfl (fun ls' h3 => kk H locs ls' hP hD hS (sv_h_set1 (v := .int x) rfl hk h2 h3))
theorem sv_lload_n (C : sv_C p s m args meth c D cl tys A cc nL own ret) {z : Fin 4} {i : Nat} {x : Int64} (hd : decode cc pc = .ok (.lload_n z, 1)) (hi : (z : Nat) = i) (hv : lv[i]? = some (some (.long x))) (kk : sv_V p l e R s m args below meth c D cl A nL ad Q (pc + 1) lv (.long x :: st) ws k n) : sv_V p l e R s m args below meth c D cl A nL ad Q pc lv (st) ws k n :=
  fun H locs ls hP hD hS hl => lv_lload_n C.1 C.2.1 hd hi (sv_h_at hl hv) (kk H locs ls hP hD hS hl)
theorem sv_lload (C : sv_C p s m args meth c D cl tys A cc nL own ret) {i : Nat} {x : Int64} (hd : decode cc pc = .ok (.lload i, 2)) (hv : lv[i]? = some (some (.long x))) (kk : sv_V p l e R s m args below meth c D cl A nL ad Q (pc + 2) lv (.long x :: st) ws k n) : sv_V p l e R s m args below meth c D cl A nL ad Q pc lv (st) ws k n :=
  fun H locs ls hP hD hS hl => lv_lload C.1 C.2.1 hd (sv_h_at hl hv) (kk H locs ls hP hD hS hl)
theorem sv_lstore_n (C : sv_C p s m args meth c D cl tys A cc nL own ret) {z : Fin 4} {i : Nat} {x : Int64} (hd : decode cc pc = .ok (.lstore_n z, 1)) (hi : (z : Nat) = i) (hn : i + 1 < nL) (hk : sv_lk lv i = true) (kk : sv_V p l e R s m args below meth c D cl A nL ad Q (pc + 1) ((lv.set i (some (.long x))).set (i + 1) none) st ws k n) : sv_V p l e R s m args below meth c D cl A nL ad Q pc lv (.long x :: st) ws k n := by
  intro H locs ls hP hD hS hl
  obtain ⟨l0, h1, h2⟩ := hl
  exact lv_lstore_n C.1 C.2.1 hd hi h1 hn rfl (fun ls' h3 => kk H locs ls' hP hD hS (sv_h_set2 (v := .long x) rfl hk h2 h3))
theorem sv_lstore (C : sv_C p s m args meth c D cl tys A cc nL own ret) {i : Nat} {x : Int64} (hd : decode cc pc = .ok (.lstore i, 2)) (hn : i + 1 < nL) (hk : sv_lk lv i = true) (kk : sv_V p l e R s m args below meth c D cl A nL ad Q (pc + 2) ((lv.set i (some (.long x))).set (i + 1) none) st ws k n) : sv_V p l e R s m args below meth c D cl A nL ad Q pc lv (.long x :: st) ws k n := by
  intro H locs ls hP hD hS hl
  obtain ⟨l0, h1, h2⟩ := hl
  exact lv_lstore C.1 C.2.1 hd h1 hn rfl (fun ls' h3 => kk H locs ls' hP hD hS (sv_h_set2 (v := .long x) rfl hk h2 h3))
theorem sv_aload_n (C : sv_C p s m args meth c D cl tys A cc nL own ret) {z : Fin 4} {i : Nat} {x : Nat} (hd : decode cc pc = .ok (.aload_n z, 1)) (hi : (z : Nat) = i) (hv : lv[i]? = some (some (.ref x))) (kk : sv_V p l e R s m args below meth c D cl A nL ad Q (pc + 1) lv (.ref x :: st) ws k n) : sv_V p l e R s m args below meth c D cl A nL ad Q pc lv (st) ws k n :=
  fun H locs ls hP hD hS hl => lv_aload_n C.1 C.2.1 hd hi (sv_h_at hl hv) (kk H locs ls hP hD hS hl)
theorem sv_aload (C : sv_C p s m args meth c D cl tys A cc nL own ret) {i : Nat} {x : Nat} (hd : decode cc pc = .ok (.aload i, 2)) (hv : lv[i]? = some (some (.ref x))) (kk : sv_V p l e R s m args below meth c D cl A nL ad Q (pc + 2) lv (.ref x :: st) ws k n) : sv_V p l e R s m args below meth c D cl A nL ad Q pc lv (st) ws k n :=
  fun H locs ls hP hD hS hl => lv_aload C.1 C.2.1 hd (sv_h_at hl hv) (kk H locs ls hP hD hS hl)
theorem sv_astore_n (C : sv_C p s m args meth c D cl tys A cc nL own ret) {z : Fin 4} {i : Nat} {x : Nat} (hd : decode cc pc = .ok (.astore_n z, 1)) (hi : (z : Nat) = i) (hn : i < nL) (hk : sv_lk lv i = true) (kk : sv_V p l e R s m args below meth c D cl A nL ad Q (pc + 1) (lv.set i (some (.ref x))) st ws k n) : sv_V p l e R s m args below meth c D cl A nL ad Q pc lv (.ref x :: st) ws k n := by
  intro H locs ls hP hD hS hl
  obtain ⟨l0, h1, h2⟩ := hl
  exact lv_astore_n C.1 C.2.1 hd hi h1 hn rfl (fun ls' h3 => kk H locs ls' hP hD hS (sv_h_set1 (v := .ref x) rfl hk h2 h3))
theorem sv_astore (C : sv_C p s m args meth c D cl tys A cc nL own ret) {i : Nat} {x : Nat} (hd : decode cc pc = .ok (.astore i, 2)) (hn : i < nL) (hk : sv_lk lv i = true) (kk : sv_V p l e R s m args below meth c D cl A nL ad Q (pc + 2) (lv.set i (some (.ref x))) st ws k n) : sv_V p l e R s m args below meth c D cl A nL ad Q pc lv (.ref x :: st) ws k n := by
  intro H locs ls hP hD hS hl
  obtain ⟨l0, h1, h2⟩ := hl
  exact lv_astore C.1 C.2.1 hd h1 hn rfl (fun ls' h3 => kk H locs ls' hP hD hS (sv_h_set1 (v := .ref x) rfl hk h2 h3))
theorem sv_iinc (C : sv_C p s m args meth c D cl tys A cc nL own ret) {i : Nat} {z : Int} {x : Int32} {y : Int32} (hd : decode cc pc = .ok (.iinc i z, 3)) (hv : lv[i]? = some (some (.int x))) (hz : x + Int32.ofInt z = y) (hn : i < nL) (hk : sv_lk lv i = true) (kk : sv_V p l e R s m args below meth c D cl A nL ad Q (pc + 3) (lv.set i (some (.int y))) st ws k n) : sv_V p l e R s m args below meth c D cl A nL ad Q pc lv st ws k n := by
  intro H locs ls hP hD hS hl
  obtain ⟨l0, h1, h2⟩ := hl
  obtain ⟨j, hj⟩ := List.mem_iff_getElem?.mp (h2 i _ hv)
  exact lv_iinc (k := j) C.1 C.2.1 hd h1 hj hz hn rfl (fun ls' h3 => kk H locs ls' hP hD hS (sv_h_set1 (v := .int y) rfl hk h2 h3))
theorem sv_dup (C : sv_C p s m args meth c D cl tys A cc nL own ret) {v : Value} (hd : decode cc pc = .ok (.dup, 1)) (hv : v.category = 1) (kk : sv_V p l e R s m args below meth c D cl A nL ad Q (pc + 1) lv (v :: v :: st) ws k n) : sv_V p l e R s m args below meth c D cl A nL ad Q pc lv (v :: st) ws k n :=
  fun H locs ls hP hD hS hl => lv_dup C.1 C.2.1 hd (by rw [sv_v_cat]; exact hv) (kk H locs ls hP hD hS hl)
theorem sv_pop (C : sv_C p s m args meth c D cl tys A cc nL own ret) {v : Value} (hd : decode cc pc = .ok (.pop, 1)) (hv : v.category = 1) (kk : sv_V p l e R s m args below meth c D cl A nL ad Q (pc + 1) lv st ws k n) : sv_V p l e R s m args below meth c D cl A nL ad Q pc lv (v :: st) ws k n :=
  fun H locs ls hP hD hS hl => lv_pop C.1 C.2.1 hd (by rw [sv_v_cat]; exact hv) (kk H locs ls hP hD hS hl)
theorem sv_dup_x1 (C : sv_C p s m args meth c D cl tys A cc nL own ret) {v w : Value} (hd : decode cc pc = .ok (.dup_x1, 1)) (hv : v.category = 1) (hw : w.category = 1) (kk : sv_V p l e R s m args below meth c D cl A nL ad Q (pc + 1) lv (v :: w :: v :: st) ws k n) : sv_V p l e R s m args below meth c D cl A nL ad Q pc lv (v :: w :: st) ws k n :=
  fun H locs ls hP hD hS hl => lv_dup_x1 C.1 C.2.1 hd (by rw [sv_v_cat]; exact hv) (by rw [sv_v_cat]; exact hw) (kk H locs ls hP hD hS hl)
theorem sv_dup2 (C : sv_C p s m args meth c D cl tys A cc nL own ret) {v w : Value} (hd : decode cc pc = .ok (.dup2, 1)) (hv : v.category = 1) (hw : w.category = 1) (kk : sv_V p l e R s m args below meth c D cl A nL ad Q (pc + 1) lv (v :: w :: v :: w :: st) ws k n) : sv_V p l e R s m args below meth c D cl A nL ad Q pc lv (v :: w :: st) ws k n :=
  fun H locs ls hP hD hS hl => lv_dup2_11 C.1 C.2.1 hd (by rw [sv_v_cat]; exact hv) (by rw [sv_v_cat]; exact hw) (kk H locs ls hP hD hS hl)
theorem sv_goto (C : sv_C p s m args meth c D cl tys A cc nL own ret) {z : Int} {tgt : Nat} (hd : decode cc pc = .ok (.goto z, 3)) (ht : (pc : Int) + z = (tgt : Int)) (kk : sv_V p l e R s m args below meth c D cl A nL ad Q tgt lv st ws k n) : sv_V p l e R s m args below meth c D cl A nL ad Q pc lv st ws k n :=
  fun H locs ls hP hD hS hl => lv_goto C.1 C.2.1 hd ht (kk H locs ls hP hD hS hl)
theorem sv_if_eq (C : sv_C p s m args meth c D cl tys A cc nL own ret) {x : Int32} {z : Int} {tgt : Nat} (hd : decode cc pc = .ok (.ifCond .eq z, 3)) (ht : (pc : Int) + z = (tgt : Int)) (kt : x = 0 → sv_V p l e R s m args below meth c D cl A nL ad Q tgt lv st ws k n) (kf : ¬ x = 0 → sv_V p l e R s m args below meth c D cl A nL ad Q (pc + 3) lv st ws k n) : sv_V p l e R s m args below meth c D cl A nL ad Q pc lv (.int x :: st) ws k n :=
  fun H locs ls hP hD hS hl => lv_if_eq C.1 C.2.1 hd ht (fun h => kt h H locs ls hP hD hS hl) (fun h => kf h H locs ls hP hD hS hl)
theorem sv_if_ne (C : sv_C p s m args meth c D cl tys A cc nL own ret) {x : Int32} {z : Int} {tgt : Nat} (hd : decode cc pc = .ok (.ifCond .ne z, 3)) (ht : (pc : Int) + z = (tgt : Int)) (kt : ¬ x = 0 → sv_V p l e R s m args below meth c D cl A nL ad Q tgt lv st ws k n) (kf : x = 0 → sv_V p l e R s m args below meth c D cl A nL ad Q (pc + 3) lv st ws k n) : sv_V p l e R s m args below meth c D cl A nL ad Q pc lv (.int x :: st) ws k n :=
  fun H locs ls hP hD hS hl => lv_if_ne C.1 C.2.1 hd ht (fun h => kt h H locs ls hP hD hS hl) (fun h => kf h H locs ls hP hD hS hl)
theorem sv_if_lt (C : sv_C p s m args meth c D cl tys A cc nL own ret) {x : Int32} {z : Int} {tgt : Nat} (hd : decode cc pc = .ok (.ifCond .lt z, 3)) (ht : (pc : Int) + z = (tgt : Int)) (kt : x < 0 → sv_V p l e R s m args below meth c D cl A nL ad Q tgt lv st ws k n) (kf : ¬ x < 0 → sv_V p l e R s m args below meth c D cl A nL ad Q (pc + 3) lv st ws k n) : sv_V p l e R s m args below meth c D cl A nL ad Q pc lv (.int x :: st) ws k n :=
  fun H locs ls hP hD hS hl => lv_if_lt C.1 C.2.1 hd ht (fun h => kt h H locs ls hP hD hS hl) (fun h => kf h H locs ls hP hD hS hl)
theorem sv_if_ge (C : sv_C p s m args meth c D cl tys A cc nL own ret) {x : Int32} {z : Int} {tgt : Nat} (hd : decode cc pc = .ok (.ifCond .ge z, 3)) (ht : (pc : Int) + z = (tgt : Int)) (kt : 0 ≤ x → sv_V p l e R s m args below meth c D cl A nL ad Q tgt lv st ws k n) (kf : ¬ 0 ≤ x → sv_V p l e R s m args below meth c D cl A nL ad Q (pc + 3) lv st ws k n) : sv_V p l e R s m args below meth c D cl A nL ad Q pc lv (.int x :: st) ws k n :=
  fun H locs ls hP hD hS hl => lv_if_ge C.1 C.2.1 hd ht (fun h => kt h H locs ls hP hD hS hl) (fun h => kf h H locs ls hP hD hS hl)
theorem sv_if_gt (C : sv_C p s m args meth c D cl tys A cc nL own ret) {x : Int32} {z : Int} {tgt : Nat} (hd : decode cc pc = .ok (.ifCond .gt z, 3)) (ht : (pc : Int) + z = (tgt : Int)) (kt : 0 < x → sv_V p l e R s m args below meth c D cl A nL ad Q tgt lv st ws k n) (kf : ¬ 0 < x → sv_V p l e R s m args below meth c D cl A nL ad Q (pc + 3) lv st ws k n) : sv_V p l e R s m args below meth c D cl A nL ad Q pc lv (.int x :: st) ws k n :=
  fun H locs ls hP hD hS hl => lv_if_gt C.1 C.2.1 hd ht (fun h => kt h H locs ls hP hD hS hl) (fun h => kf h H locs ls hP hD hS hl)
theorem sv_if_le (C : sv_C p s m args meth c D cl tys A cc nL own ret) {x : Int32} {z : Int} {tgt : Nat} (hd : decode cc pc = .ok (.ifCond .le z, 3)) (ht : (pc : Int) + z = (tgt : Int)) (kt : x ≤ 0 → sv_V p l e R s m args below meth c D cl A nL ad Q tgt lv st ws k n) (kf : ¬ x ≤ 0 → sv_V p l e R s m args below meth c D cl A nL ad Q (pc + 3) lv st ws k n) : sv_V p l e R s m args below meth c D cl A nL ad Q pc lv (.int x :: st) ws k n :=
  fun H locs ls hP hD hS hl => lv_if_le C.1 C.2.1 hd ht (fun h => kt h H locs ls hP hD hS hl) (fun h => kf h H locs ls hP hD hS hl)
theorem sv_icmp_eq (C : sv_C p s m args meth c D cl tys A cc nL own ret) {x y : Int32} {z : Int} {tgt : Nat} (hd : decode cc pc = .ok (.if_icmp .eq z, 3)) (ht : (pc : Int) + z = (tgt : Int)) (kt : x = y → sv_V p l e R s m args below meth c D cl A nL ad Q tgt lv st ws k n) (kf : ¬ x = y → sv_V p l e R s m args below meth c D cl A nL ad Q (pc + 3) lv st ws k n) : sv_V p l e R s m args below meth c D cl A nL ad Q pc lv (.int y :: .int x :: st) ws k n :=
  fun H locs ls hP hD hS hl => lv_icmp_eq C.1 C.2.1 hd ht (fun h => kt h H locs ls hP hD hS hl) (fun h => kf h H locs ls hP hD hS hl)
theorem sv_icmp_ne (C : sv_C p s m args meth c D cl tys A cc nL own ret) {x y : Int32} {z : Int} {tgt : Nat} (hd : decode cc pc = .ok (.if_icmp .ne z, 3)) (ht : (pc : Int) + z = (tgt : Int)) (kt : ¬ x = y → sv_V p l e R s m args below meth c D cl A nL ad Q tgt lv st ws k n) (kf : x = y → sv_V p l e R s m args below meth c D cl A nL ad Q (pc + 3) lv st ws k n) : sv_V p l e R s m args below meth c D cl A nL ad Q pc lv (.int y :: .int x :: st) ws k n :=
  fun H locs ls hP hD hS hl => lv_icmp_ne C.1 C.2.1 hd ht (fun h => kt h H locs ls hP hD hS hl) (fun h => kf h H locs ls hP hD hS hl)
theorem sv_icmp_lt (C : sv_C p s m args meth c D cl tys A cc nL own ret) {x y : Int32} {z : Int} {tgt : Nat} (hd : decode cc pc = .ok (.if_icmp .lt z, 3)) (ht : (pc : Int) + z = (tgt : Int)) (kt : x < y → sv_V p l e R s m args below meth c D cl A nL ad Q tgt lv st ws k n) (kf : ¬ x < y → sv_V p l e R s m args below meth c D cl A nL ad Q (pc + 3) lv st ws k n) : sv_V p l e R s m args below meth c D cl A nL ad Q pc lv (.int y :: .int x :: st) ws k n :=
  fun H locs ls hP hD hS hl => lv_icmp_lt C.1 C.2.1 hd ht (fun h => kt h H locs ls hP hD hS hl) (fun h => kf h H locs ls hP hD hS hl)
theorem sv_icmp_ge (C : sv_C p s m args meth c D cl tys A cc nL own ret) {x y : Int32} {z : Int} {tgt : Nat} (hd : decode cc pc = .ok (.if_icmp .ge z, 3)) (ht : (pc : Int) + z = (tgt : Int)) (kt : y ≤ x → sv_V p l e R s m args below meth c D cl A nL ad Q tgt lv st ws k n) (kf : ¬ y ≤ x → sv_V p l e R s m args below meth c D cl A nL ad Q (pc + 3) lv st ws k n) : sv_V p l e R s m args below meth c D cl A nL ad Q pc lv (.int y :: .int x :: st) ws k n :=
  fun H locs ls hP hD hS hl => lv_icmp_ge C.1 C.2.1 hd ht (fun h => kt h H locs ls hP hD hS hl) (fun h => kf h H locs ls hP hD hS hl)
theorem sv_icmp_gt (C : sv_C p s m args meth c D cl tys A cc nL own ret) {x y : Int32} {z : Int} {tgt : Nat} (hd : decode cc pc = .ok (.if_icmp .gt z, 3)) (ht : (pc : Int) + z = (tgt : Int)) (kt : y < x → sv_V p l e R s m args below meth c D cl A nL ad Q tgt lv st ws k n) (kf : ¬ y < x → sv_V p l e R s m args below meth c D cl A nL ad Q (pc + 3) lv st ws k n) : sv_V p l e R s m args below meth c D cl A nL ad Q pc lv (.int y :: .int x :: st) ws k n :=
  fun H locs ls hP hD hS hl => lv_icmp_gt C.1 C.2.1 hd ht (fun h => kt h H locs ls hP hD hS hl) (fun h => kf h H locs ls hP hD hS hl)
theorem sv_icmp_le (C : sv_C p s m args meth c D cl tys A cc nL own ret) {x y : Int32} {z : Int} {tgt : Nat} (hd : decode cc pc = .ok (.if_icmp .le z, 3)) (ht : (pc : Int) + z = (tgt : Int)) (kt : x ≤ y → sv_V p l e R s m args below meth c D cl A nL ad Q tgt lv st ws k n) (kf : ¬ x ≤ y → sv_V p l e R s m args below meth c D cl A nL ad Q (pc + 3) lv st ws k n) : sv_V p l e R s m args below meth c D cl A nL ad Q pc lv (.int y :: .int x :: st) ws k n :=
  fun H locs ls hP hD hS hl => lv_icmp_le C.1 C.2.1 hd ht (fun h => kt h H locs ls hP hD hS hl) (fun h => kf h H locs ls hP hD hS hl)
theorem sv_get (C : sv_C p s m args meth c D cl tys A cc nL own ret) {Cn ref : String} {T : u_T} {N ci idx kf a : Nat} {fs : List Value} {v : Value} (hin : ∀ w ∈ u_ws Cn T N, w ∈ sv_T) (hc : cl[ci]? = some (Cn, T, N)) (hk : kf < N) (hlink : Cond.fieldLink own idx ref (T kf).2.1 (T kf).2.2.1 ∈ sv_T) (hsame : ∀ x, s.fieldFound? (T kf).1 (T kf).2.1 (T kf).2.2.1 = some x → s.fieldFound? ref (T kf).2.1 (T kf).2.2.1 = some x) (hd : decode cc pc = .ok (.getfield idx, 3)) (hw : ws[a]? = some (.inr (ci, fs))) (hv : fs[kf]? = some v) (kk : sv_V p l e R s m args below meth c D cl A nL ad Q (pc + 3) lv (v :: st) ws k n) : sv_V p l e R s m args below meth c D cl A nL ad Q pc lv (.ref a :: st) ws k n :=
  fun H locs ls hP hD hS hl => va_get (D := D) (ci := ci) (v := sv_v ad v) (C := Cn) (T := T) (N := N) C.1 C.2.1 C.2.2.2.2.1 hin C.2.2.2.1 C.2.2.2.2.2.1 hP a (fs := fs.map (sv_v ad)) (sv_w_at hw) hc kf hk (C.2.2.2.2.1 _ hlink) hsame (by rw [List.getElem?_map, hv]; rfl) hd (kk H locs ls hP hD hS hl)
theorem sv_put (C : sv_C p s m args meth c D cl tys A cc nL own ret) {Cn ref : String} {T : u_T} {N ci idx kf a : Nat} {fs : List Value} {v : Value} {ty : FieldType} (hin : ∀ w ∈ u_ws Cn T N, w ∈ sv_T) (ty0 : Nat → FieldType) (hty : ∀ k, k < N → parseFieldDescriptor (T k).2.2.1 = some (ty0 k)) (hnm : ∀ a, a < N → ∀ b, b < N → a ≠ b → (T a).2.1 ≠ (T b).2.1) (hc : cl[ci]? = some (Cn, T, N)) (hk : kf < N) (hlink : Cond.fieldLink own idx ref (T kf).2.1 (T kf).2.2.1 ∈ sv_T) (hsame : ∀ x, s.fieldFound? (T kf).1 (T kf).2.1 (T kf).2.2.1 = some x → s.fieldFound? ref (T kf).2.1 (T kf).2.2.1 = some x) (hfin : (T kf).2.2.2 = false) (htd : parseFieldDescriptor (T kf).2.2.1 = some ty) (hd : decode cc pc = .ok (.putfield idx, 3)) (hw : ws[a]? = some (.inr (ci, fs))) (hnar : narrow ty (sv_v ad v) = sv_v ad v) (hfit : fits ty (sv_v ad v) = true) (hl0 : kf < fs.length) (kk : sv_V p l e R s m args below meth c D cl A nL ad Q (pc + 3) lv st (ws.set a (.inr (ci, fs.set kf v))) k n) : sv_V p l e R s m args below meth c D cl A nL ad Q pc lv (v :: .ref a :: st) ws k n := by
  intro H locs ls hP hD hS hl
  refine va_put (D := D) (ci := ci) (v := sv_v ad v) (ty := ty) (C := Cn) (T := T) (N := N) C.1 C.2.1 C.2.2.2.2.1 hin ty0 hty hnm C.2.2.2.1 C.2.2.2.2.2.1 hP hD hS a (fs := fs.map (sv_v ad)) (sv_w_at hw) hc kf hk (C.2.2.2.2.1 _ hlink) hsame hfin htd hnar hfit (by rw [List.length_map]; exact hl0) hd (fun H1 locs1 hP1 hD1 hS1 => ?_)
  have e1 : (sv_w ad 0 ws).set a (ad a, .inr (ci, (fs.map (sv_v ad)).set kf (sv_v ad v))) = sv_w ad 0 (ws.set a (.inr (ci, fs.set kf v))) := by
    rw [← sv_w_put]
    show _ = (sv_w ad 0 ws).set a (ad a, .inr (ci, (fs.set kf v).map (sv_v ad)))
    rw [List.map_set]
  rw [e1] at hP1 hD1
  exact kk H1 locs1 ls hP1 hD1 hS1 hl
theorem sv_putF (C : sv_C p s m args meth c D cl tys A cc nL own ret) {Cn ref : String} {T : u_T} {N ci idx kf a : Nat} {fs : List Value} {v : Value} {ty : FieldType} (hin : ∀ w ∈ u_ws Cn T N, w ∈ sv_T) (ty0 : Nat → FieldType) (hty : ∀ k, k < N → parseFieldDescriptor (T k).2.2.1 = some (ty0 k)) (hnm : ∀ a, a < N → ∀ b, b < N → a ≠ b → (T a).2.1 ≠ (T b).2.1) (hc : cl[ci]? = some (Cn, T, N)) (hk : kf < N) (hlink : Cond.fieldLink own idx ref (T kf).2.1 (T kf).2.2.1 ∈ sv_T) (hsame : ∀ x, s.fieldFound? (T kf).1 (T kf).2.1 (T kf).2.2.1 = some x → s.fieldFound? ref (T kf).2.1 (T kf).2.2.1 = some x) (hfin : (T kf).2.2.2 = true) (hin2 : meth.name = "<init>") (hdecl : (T kf).1 = own) (htd : parseFieldDescriptor (T kf).2.2.1 = some ty) (hd : decode cc pc = .ok (.putfield idx, 3)) (hw : ws[a]? = some (.inr (ci, fs))) (hnar : narrow ty (sv_v ad v) = sv_v ad v) (hfit : fits ty (sv_v ad v) = true) (hl0 : kf < fs.length) (kk : sv_V p l e R s m args below meth c D cl A nL ad Q (pc + 3) lv st (ws.set a (.inr (ci, fs.set kf v))) k n) : sv_V p l e R s m args below meth c D cl A nL ad Q pc lv (v :: .ref a :: st) ws k n := by
  intro H locs ls hP hD hS hl
  refine va_putF (D := D) (ci := ci) (v := sv_v ad v) (ty := ty) (C := Cn) (T := T) (N := N) C.1 C.2.1 C.2.2.2.2.1 hin ty0 hty hnm C.2.2.2.1 C.2.2.2.2.2.1 hP hD hS a (fs := fs.map (sv_v ad)) (sv_w_at hw) hc kf hk (C.2.2.2.2.1 _ hlink) hsame hfin hin2 hdecl htd hnar hfit (by rw [List.length_map]; exact hl0) hd (fun H1 locs1 hP1 hD1 hS1 => ?_)
  have e1 : (sv_w ad 0 ws).set a (ad a, .inr (ci, (fs.map (sv_v ad)).set kf (sv_v ad v))) = sv_w ad 0 (ws.set a (.inr (ci, fs.set kf v))) := by
    rw [← sv_w_put]
    show _ = (sv_w ad 0 ws).set a (ad a, .inr (ci, (fs.set kf v).map (sv_v ad)))
    rw [List.map_set]
  rw [e1] at hP1 hD1
  exact kk H1 locs1 ls hP1 hD1 hS1 hl
theorem sv_iald (C : sv_C p s m args meth c D cl tys A cc nL own ret) {a N t0 : Nat} {cA : ClassId} {f : Nat → Int32} {i : Int32} (ht : tys[t0]? = some (cA, .int)) (hd : decode cc pc = .ok (.iaload, 1)) (hw : ws[a]? = some (.inl (cA, N, .inl f))) (hi : vp_in i N) (kk : sv_V p l e R s m args below meth c D cl A nL ad Q (pc + 1) lv (.int (f i.toNatClampNeg) :: st) ws k n) : sv_V p l e R s m args below meth c D cl A nL ad Q pc lv (.int i :: .ref a :: st) ws k n :=
  fun H locs ls hP hD hS hl => va_iald C.1 C.2.1 C.2.2.2.2.2.1 hP a t0 (f := f) (sv_w_at hw) ht hi hd (kk H locs ls hP hD hS hl)
theorem sv_lald (C : sv_C p s m args meth c D cl tys A cc nL own ret) {a N t0 : Nat} {cA : ClassId} {f : Nat → Int64} {i : Int32} (ht : tys[t0]? = some (cA, .long)) (hd : decode cc pc = .ok (.laload, 1)) (hw : ws[a]? = some (.inl (cA, N, .inr (.inl f)))) (hi : vp_in i N) (kk : sv_V p l e R s m args below meth c D cl A nL ad Q (pc + 1) lv (.long (f i.toNatClampNeg) :: st) ws k n) : sv_V p l e R s m args below meth c D cl A nL ad Q pc lv (.int i :: .ref a :: st) ws k n :=
  fun H locs ls hP hD hS hl => va_lald C.1 C.2.1 C.2.2.2.2.2.1 hP a t0 (f := f) (sv_w_at hw) ht hi hd (kk H locs ls hP hD hS hl)
theorem sv_zald (C : sv_C p s m args meth c D cl tys A cc nL own ret) {a N t0 : Nat} {cA : ClassId} {f : Nat → Int32} {i : Int32} (ht : tys[t0]? = some (cA, .boolean)) (hd : decode cc pc = .ok (.baload, 1)) (hw : ws[a]? = some (.inl (cA, N, .inl f))) (hi : vp_in i N) (kk : sv_V p l e R s m args below meth c D cl A nL ad Q (pc + 1) lv (.int (f i.toNatClampNeg) :: st) ws k n) : sv_V p l e R s m args below meth c D cl A nL ad Q pc lv (.int i :: .ref a :: st) ws k n :=
  fun H locs ls hP hD hS hl => va_zald C.1 C.2.1 C.2.2.2.2.2.1 hP a t0 (f := f) (sv_w_at hw) ht hi hd (kk H locs ls hP hD hS hl)
theorem sv_iast (C : sv_C p s m args meth c D cl tys A cc nL own ret) {a N t0 : Nat} {cA : ClassId} {f : Nat → Int32} {i : Int32} {x : Int32} (ht : tys[t0]? = some (cA, .int)) (hd : decode cc pc = .ok (.iastore, 1)) (hw : ws[a]? = some (.inl (cA, N, .inl f))) (hi : vp_in i N) (kk : sv_V p l e R s m args below meth c D cl A nL ad Q (pc + 1) lv st (ws.set a (.inl (cA, N, .inl (upd f i.toNatClampNeg x)))) k n) : sv_V p l e R s m args below meth c D cl A nL ad Q pc lv (.int x :: .int i :: .ref a :: st) ws k n := by
  intro H locs ls hP hD hS hl
  refine va_iast C.1 C.2.1 C.2.2.2.2.2.1 hP hD hS a t0 (f := f) (sv_w_at hw) ht hi hd (fun H1 locs1 hP1 hD1 hS1 => ?_)
  have e1 := sv_w_put ad ws a (.inl (cA, N, .inl (upd f i.toNatClampNeg x)))
  exact kk H1 locs1 ls (e1 ▸ hP1) (e1 ▸ hD1) hS1 hl
theorem sv_last (C : sv_C p s m args meth c D cl tys A cc nL own ret) {a N t0 : Nat} {cA : ClassId} {f : Nat → Int64} {i : Int32} {x : Int64} (ht : tys[t0]? = some (cA, .long)) (hd : decode cc pc = .ok (.lastore, 1)) (hw : ws[a]? = some (.inl (cA, N, .inr (.inl f)))) (hi : vp_in i N) (kk : sv_V p l e R s m args below meth c D cl A nL ad Q (pc + 1) lv st (ws.set a (.inl (cA, N, .inr (.inl (vp_updL f i.toNatClampNeg x))))) k n) : sv_V p l e R s m args below meth c D cl A nL ad Q pc lv (.long x :: .int i :: .ref a :: st) ws k n := by
  intro H locs ls hP hD hS hl
  refine va_last C.1 C.2.1 C.2.2.2.2.2.1 hP hD hS a t0 (f := f) (sv_w_at hw) ht hi hd (fun H1 locs1 hP1 hD1 hS1 => ?_)
  have e1 := sv_w_put ad ws a (.inl (cA, N, .inr (.inl (vp_updL f i.toNatClampNeg x))))
  exact kk H1 locs1 ls (e1 ▸ hP1) (e1 ▸ hD1) hS1 hl
theorem sv_zast (C : sv_C p s m args meth c D cl tys A cc nL own ret) {a N t0 : Nat} {cA : ClassId} {f : Nat → Int32} {i : Int32} {x : Int32} (ht : tys[t0]? = some (cA, .boolean)) (hd : decode cc pc = .ok (.bastore, 1)) (hw : ws[a]? = some (.inl (cA, N, .inl f))) (hi : vp_in i N) (kk : sv_V p l e R s m args below meth c D cl A nL ad Q (pc + 1) lv st (ws.set a (.inl (cA, N, .inl (upd f i.toNatClampNeg (vp_nar .boolean x))))) k n) : sv_V p l e R s m args below meth c D cl A nL ad Q pc lv (.int x :: .int i :: .ref a :: st) ws k n := by
  intro H locs ls hP hD hS hl
  refine va_zast C.1 C.2.1 C.2.2.2.2.2.1 hP hD hS a t0 (f := f) (sv_w_at hw) ht hi hd (fun H1 locs1 hP1 hD1 hS1 => ?_)
  have e1 := sv_w_put ad ws a (.inl (cA, N, .inl (upd f i.toNatClampNeg (vp_nar .boolean x))))
  exact kk H1 locs1 ls (e1 ▸ hP1) (e1 ▸ hD1) hS1 hl
theorem sv_alen (C : sv_C p s m args meth c D cl tys A cc nL own ret) {a t0 : Nat} {cA : ClassId} {x : vp_A} {ty : FieldType} {v : Int32} (ht : tys[t0]? = some (cA, ty)) (hd : decode cc pc = .ok (.arraylength, 1)) (hw : ws[a]? = some (.inl (cA, x))) (hv : Int32.ofNat x.1 = v) (kk : sv_V p l e R s m args below meth c D cl A nL ad Q (pc + 1) lv (.int v :: st) ws k n) : sv_V p l e R s m args below meth c D cl A nL ad Q pc lv (.ref a :: st) ws k n :=
  fun H locs ls hP hD hS hl => va_alen C.1 C.2.1 C.2.2.2.2.2.1 hP a t0 (sv_w_at hw) ht hv hd (kk H locs ls hP hD hS hl)
theorem sv_ldc (C : sv_C p s m args meth c D cl tys A cc nL own ret) {idx : Nat} {v : Int32} (hc : Jvm.Cond.constant own idx v ∈ sv_T) (hd : decode cc pc = .ok (.ldc idx, 2)) (kk : sv_V p l e R s m args below meth c D cl A nL ad Q (pc + 2) lv (.int v :: st) ws k n) : sv_V p l e R s m args below meth c D cl A nL ad Q pc lv st ws k n :=
  fun H locs ls hP hD hS hl => lv_ldc C.1 C.2.1 C.2.2.2.1 (C.2.2.2.2.1 _ hc) hd (kk H locs ls hP hD hS hl)
theorem sv_ldc2 (C : sv_C p s m args meth c D cl tys A cc nL own ret) {idx : Nat} {v : Int64} (hc : Jvm.Cond.constantLong own idx v ∈ sv_T) (hd : decode cc pc = .ok (.ldc2_w idx, 3)) (kk : sv_V p l e R s m args below meth c D cl A nL ad Q (pc + 3) lv (.long v :: st) ws k n) : sv_V p l e R s m args below meth c D cl A nL ad Q pc lv st ws k n :=
  fun H locs ls hP hD hS hl => lv_ldc2 C.1 C.2.1 C.2.2.2.1 (C.2.2.2.2.1 _ hc) hd (kk H locs ls hP hD hS hl)
def sv_mask : List Bool → List (Option Value) → List (Option Value)
  | true :: b, v :: r => v :: sv_mask b r
  | false :: b, _ :: r => none :: sv_mask b r
  | _, _ => []
theorem sv_mask_spec : ∀ (b : List Bool) (lv : List (Option Value)) (i : Nat) (v : Value), (sv_mask b lv)[i]? = some (some v) → lv[i]? = some (some v)
  | true :: b, x :: r, 0, v, h => h
  | true :: b, x :: r, i + 1, v, h => by
    simp only [sv_mask, List.getElem?_cons_succ] at h ⊢
    exact sv_mask_spec b r i v h
  | false :: b, x :: r, 0, v, h => by simp [sv_mask] at h
  | false :: b, x :: r, i + 1, v, h => by
    simp only [sv_mask, List.getElem?_cons_succ] at h ⊢
    exact sv_mask_spec b r i v h
  | [], lv, i, v, h => by simp [sv_mask] at h
  | true :: b, [], i, v, h => by simp [sv_mask] at h
  | false :: b, [], i, v, h => by simp [sv_mask] at h
theorem sv_drop (b : List Bool) (kk : sv_V p l e R s m args below meth c D cl A nL ad Q pc (sv_mask b lv) st ws k n) : sv_V p l e R s m args below meth c D cl A nL ad Q pc lv st ws k n := by
  intro H locs ls hP hD hS hl
  obtain ⟨l0, h1, h2⟩ := hl
  exact kk H locs ls hP hD hS ⟨l0, h1, fun i v hi => h2 i v (sv_mask_spec b lv i v hi)⟩
theorem sv_widen {k' n' : Nat} (hk : k ≤ k') (hn : n ≤ n') (kk : sv_V p l e R s m args below meth c D cl A nL ad Q pc lv st ws k' n') : sv_V p l e R s m args below meth c D cl A nL ad Q pc lv st ws k n :=
  fun H locs ls hP hD hS hl => W.widen hk hn (kk H locs ls hP hD hS hl)
/-- a computed number gets a name -/
theorem sv_topi {x : Int32} (kk : ∀ y : Int32, y = x → sv_V p l e R s m args below meth c D cl A nL ad Q pc lv (.int y :: st) ws k n) : sv_V p l e R s m args below meth c D cl A nL ad Q pc lv (.int x :: st) ws k n := kk x rfl
theorem sv_topl {x : Int64} (kk : ∀ y : Int64, y = x → sv_V p l e R s m args below meth c D cl A nL ad Q pc lv (.long y :: st) ws k n) : sv_V p l e R s m args below meth c D cl A nL ad Q pc lv (.long x :: st) ws k n := kk x rfl
end
end
section
/-! Rows of steps in a graph on numbers; what a search in depth leaves; rings. Pure: nothing of the machine. -/
def g_st (E : Nat → Nat → Prop) : Nat → Nat → Nat → Prop
  | 0, a, b => a = b
  | n + 1, a, b => ∃ c, E a c ∧ g_st E n c b
def g_re (E : Nat → Nat → Prop) (a b : Nat) : Prop := ∃ n, g_st E n a b
theorem g_st_tr {E : Nat → Nat → Prop} : ∀ (n k a b c : Nat), g_st E n a b → g_st E k b c → g_st E (n + k) a c
  | 0, k, a, b, c, h1, h2 => by
    have h1 : a = b := h1
    subst h1
    rw [Nat.zero_add]
    exact h2
  | n + 1, k, a, b, c, h1, h2 => by
    obtain ⟨x, hx, h1⟩ := h1
    have e : n + 1 + k = (n + k) + 1 := by omega
    rw [e]
    exact ⟨x, hx, g_st_tr n k x b c h1 h2⟩
theorem g_re_rf (E : Nat → Nat → Prop) (a : Nat) : g_re E a a := ⟨0, rfl⟩
theorem g_re_1 {E : Nat → Nat → Prop} {a b : Nat} (h : E a b) : g_re E a b := ⟨1, b, h, rfl⟩
theorem g_re_tr {E : Nat → Nat → Prop} {a b c : Nat} (h1 : g_re E a b) (h2 : g_re E b c) : g_re E a c := by
  obtain ⟨n, h1⟩ := h1
  obtain ⟨k, h2⟩ := h2
  exact ⟨n + k, g_st_tr n k a b c h1 h2⟩
theorem g_re_hd {E : Nat → Nat → Prop} {a b c : Nat} (h1 : E a b) (h2 : g_re E b c) : g_re E a c := g_re_tr (g_re_1 h1) h2
theorem g_re_tl {E : Nat → Nat → Prop} {a b c : Nat} (h1 : g_re E a b) (h2 : E b c) : g_re E a c := g_re_tr h1 (g_re_1 h2)
theorem g_st_back {E : Nat → Nat → Prop} {P : Nat → Prop} {b : Nat} (h0 : P b) (hs : ∀ x y, E x y → P y → P x) : ∀ (n a : Nat), g_st E n a b → P a
  | 0, a, h => by
    have h : a = b := h
    subst h
    exact h0
  | n + 1, a, h => by
    obtain ⟨c, hc, h⟩ := h
    exact hs a c hc (g_st_back h0 hs n c h)
theorem g_re_back {E : Nat → Nat → Prop} {P : Nat → Prop} {a b : Nat} (h : g_re E a b) (h0 : P b) (hs : ∀ x y, E x y → P y → P x) : P a := by
  obtain ⟨n, h⟩ := h
  exact g_st_back h0 hs n a h
theorem g_st_fwd {E : Nat → Nat → Prop} {P : Nat → Prop} (hs : ∀ x y, P x → E x y → P y) {b : Nat} : ∀ (n a : Nat), P a → g_st E n a b → P b
  | 0, a, h0, h => by
    have h : a = b := h
    subst h
    exact h0
  | n + 1, a, h0, h => by
    obtain ⟨c, hc, h⟩ := h
    exact g_st_fwd hs n c (hs a c h0 hc) h
theorem g_re_fwd {E : Nat → Nat → Prop} {P : Nat → Prop} {a b : Nat} (h : g_re E a b) (h0 : P a) (hs : ∀ x y, P x → E x y → P y) : P b := by
  obtain ⟨n, h⟩ := h
  exact g_st_fwd hs n a h0 h
theorem g_re_rev {E : Nat → Nat → Prop} {a b : Nat} (h : g_re (fun x y => E y x) a b) : g_re E b a :=
  g_re_back (P := fun x => g_re E b x) h (g_re_rf E b) (fun _ _ hxy hy => g_re_tl hy hxy)
theorem g_re_rev' {E : Nat → Nat → Prop} {a b : Nat} (h : g_re E b a) : g_re (fun x y => E y x) a b :=
  g_re_back (P := fun x => g_re (fun x y => E y x) a x) h (g_re_rf _ a) (fun _ _ hxy hy => g_re_tl hy hxy)
theorem g_re_cases {E : Nat → Nat → Prop} {a b : Nat} (h : g_re E a b) : a = b ∨ ∃ c, E a c ∧ g_re E c b := by
  obtain ⟨n, h⟩ := h
  cases n with
  | zero => exact Or.inl h
  | succ n =>
    obtain ⟨c, hc, h⟩ := h
    exact Or.inr ⟨c, hc, n, h⟩
theorem g_re_mono {E F : Nat → Nat → Prop} (hEF : ∀ x y, E x y → F x y) {a b : Nat} (h : g_re E a b) : g_re F a b :=
  g_re_back (P := fun x => g_re F x b) h (g_re_rf F b) (fun _ _ hxy hy => g_re_hd (hEF _ _ hxy) hy)
def g_eq (E : Nat → Nat → Prop) (a b : Nat) : Prop := g_re E a b ∧ g_re E b a
theorem g_eq_rf (E : Nat → Nat → Prop) (a : Nat) : g_eq E a a := ⟨g_re_rf E a, g_re_rf E a⟩
theorem g_eq_sy {E : Nat → Nat → Prop} {a b : Nat} (h : g_eq E a b) : g_eq E b a := ⟨h.2, h.1⟩
theorem g_eq_tr {E : Nat → Nat → Prop} {a b c : Nat} (h : g_eq E a b) (h2 : g_eq E b c) : g_eq E a c := ⟨g_re_tr h.1 h2.1, g_re_tr h2.2 h.2⟩
/-- b stands in the list at a or behind it -/
def g_bef (L : List Nat) (a b : Nat) : Prop := ∃ l1 l2, L = l1 ++ a :: l2 ∧ (b = a ∨ b ∈ l2)
theorem g_bef_cons {L : List Nat} {a b t : Nat} (h : g_bef L a b) : g_bef (t :: L) a b := by
  obtain ⟨l1, l2, e, h⟩ := h
  exact ⟨t :: l1, l2, by rw [e]; rfl, h⟩
theorem g_bef_hd {L : List Nat} {b t : Nat} (h : b ∈ t :: L) : g_bef (t :: L) t b := ⟨[], L, rfl, List.mem_cons.mp h⟩
/-- A SEARCH IN DEPTH: O open, P the path (its top first), L ended (the last first), of the states of X along E -/
def g_dfs (E : Nat → Nat → Prop) (X O : Nat → Prop) (P L : List Nat) : Prop :=
  (∀ x, X x ↔ (O x ∨ x ∈ P ∨ x ∈ L)) ∧ (∀ x, O x → x ∉ P ∧ x ∉ L) ∧ (∀ x, x ∈ P → x ∉ L) ∧ P.Nodup ∧ L.Nodup ∧
  (∀ l1 t l2, P = l1 ++ t :: l2 → ∀ g, g ∈ l2 → g_re E g t) ∧
  (∀ x, x ∈ L → ∀ y, E x y → ¬ O y) ∧
  (∀ x, x ∈ L → (∃ g, g ∈ P ∧ g_eq E g x) ∨ ∀ w, g_re E x w → w ∈ L ∧ ∃ x', g_eq E x x' ∧ g_bef L x' w)
theorem g_dfs_0 {E : Nat → Nat → Prop} {X : Nat → Prop} : g_dfs E X X [] [] := by
  refine ⟨fun x => ⟨fun h => Or.inl h, fun h => ?_⟩, fun x _ => ⟨List.not_mem_nil, List.not_mem_nil⟩, fun x _ => List.not_mem_nil, List.nodup_nil, List.nodup_nil, ?_, ?_, ?_⟩
  · rcases h with h | h | h
    · exact h
    · exact absurd h List.not_mem_nil
    · exact absurd h List.not_mem_nil
  · intro l1 t l2 h
    simp at h
  · intro x h
    exact absurd h List.not_mem_nil
  · intro x h
    exact absurd h List.not_mem_nil
/-- entering n -/
theorem g_dfs_in {E : Nat → Nat → Prop} {X O O' : Nat → Prop} {P L : List Nat} (h : g_dfs E X O P L) (n : Nat) (hn : O n) (hO : ∀ x, O' x ↔ (O x ∧ x ≠ n))
    (hP : P = [] ∨ ∃ t r, P = t :: r ∧ E t n) : g_dfs E X O' (n :: P) L := by
  obtain ⟨a1, a2, a3, a4, a5, a6, a7, a8⟩ := h
  refine ⟨fun x => ⟨fun hx => ?_, fun hx => ?_⟩, fun x hx => ?_, fun x hx => ?_, List.nodup_cons.mpr ⟨(a2 n hn).1, a4⟩, a5, ?_, ?_, ?_⟩
  · rcases (a1 x).mp hx with h | h | h
    · by_cases e : x = n
      · exact Or.inr (Or.inl (by rw [e]; exact List.mem_cons_self))
      · exact Or.inl ((hO x).mpr ⟨h, e⟩)
    · exact Or.inr (Or.inl (List.mem_cons_of_mem _ h))
    · exact Or.inr (Or.inr h)
  · rcases hx with h | h | h
    · exact (a1 x).mpr (Or.inl ((hO x).mp h).1)
    · rcases List.mem_cons.mp h with e | h
      · rw [e]
        exact (a1 n).mpr (Or.inl hn)
      · exact (a1 x).mpr (Or.inr (Or.inl h))
    · exact (a1 x).mpr (Or.inr (Or.inr h))
  · obtain ⟨h1, h2⟩ := (hO x).mp hx
    refine ⟨fun h => ?_, (a2 x h1).2⟩
    rcases List.mem_cons.mp h with e | h
    · exact h2 e
    · exact (a2 x h1).1 h
  · rcases List.mem_cons.mp hx with e | h
    · rw [e]
      exact (a2 n hn).2
    · exact a3 x h
  · intro l1 t l2 e g hg
    cases l1 with
    | nil =>
      rw [List.nil_append] at e
      injection e with e1 e2
      subst e1
      subst e2
      rcases hP with hP | ⟨t, r, hP, hE⟩
      · rw [hP] at hg
        exact absurd hg List.not_mem_nil
      · subst hP
        rcases List.mem_cons.mp hg with e | hg
        · rw [e]
          exact g_re_1 hE
        · exact g_re_tl (a6 [] t r rfl g hg) hE
    | cons b l1 =>
      rw [List.cons_append] at e
      injection e with e1 e2
      exact a6 l1 t l2 e2 g hg
  · intro x hx y hy h
    exact a7 x hx y hy ((hO y).mp h).1
  · intro x hx
    rcases a8 x hx with ⟨g, hg, hq⟩ | h
    · exact Or.inl ⟨g, List.mem_cons_of_mem _ hg, hq⟩
    · exact Or.inr h
/-- ending t: nothing open is behind it -/
theorem g_dfs_out {E : Nat → Nat → Prop} {X O : Nat → Prop} {P L : List Nat} {t : Nat} (hX : ∀ x y, E x y → X x ∧ X y) (h : g_dfs E X O (t :: P) L) (ht : ∀ y, E t y → ¬ O y) : g_dfs E X O P (t :: L) := by
  obtain ⟨a1, a2, a3, a4, a5, a6, a7, a8⟩ := h
  have htL : t ∉ L := a3 t List.mem_cons_self
  have htP : t ∉ P := (List.nodup_cons.mp a4).1
  have hno : ∀ x, x ∈ t :: L → ∀ y, E x y → ¬ O y := by
    intro x hx y hy
    rcases List.mem_cons.mp hx with e | hx
    · rw [e] at hy
      exact ht y hy
    · exact a7 x hx y hy
  have hup : ∀ g, g ∈ P → g_re E g t := fun g hg => a6 [] t P rfl g hg
  refine ⟨fun x => ⟨fun hx => ?_, fun hx => ?_⟩, fun x hx => ?_, fun x hx => ?_, (List.nodup_cons.mp a4).2, List.nodup_cons.mpr ⟨htL, a5⟩, ?_, hno, ?_⟩
  · rcases (a1 x).mp hx with h | h | h
    · exact Or.inl h
    · rcases List.mem_cons.mp h with e | h
      · exact Or.inr (Or.inr (by rw [e]; exact List.mem_cons_self))
      · exact Or.inr (Or.inl h)
    · exact Or.inr (Or.inr (List.mem_cons_of_mem _ h))
  · rcases hx with h | h | h
    · exact (a1 x).mpr (Or.inl h)
    · exact (a1 x).mpr (Or.inr (Or.inl (List.mem_cons_of_mem _ h)))
    · rcases List.mem_cons.mp h with e | h
      · exact (a1 x).mpr (Or.inr (Or.inl (by rw [e]; exact List.mem_cons_self)))
      · exact (a1 x).mpr (Or.inr (Or.inr h))
  · obtain ⟨h1, h2⟩ := a2 x hx
    refine ⟨fun h => h1 (List.mem_cons_of_mem _ h), fun h => ?_⟩
    rcases List.mem_cons.mp h with e | h
    · exact h1 (by rw [e]; exact List.mem_cons_self)
    · exact h2 h
  · intro h
    rcases List.mem_cons.mp h with e | h
    · exact htP (by rw [← e]; exact hx)
    · exact a3 x (List.mem_cons_of_mem _ hx) h
  · intro l1 t' l2 e g hg
    exact a6 (t :: l1) t' l2 (by rw [e]; rfl) g hg
  · -- the order
    have key : ∀ x, g_eq E t x → (∃ g, g ∈ P ∧ g_eq E g x) ∨ ∀ w, g_re E x w → w ∈ t :: L ∧ ∃ x', g_eq E x x' ∧ g_bef (t :: L) x' w := by
      intro x hx
      by_cases hg : ∃ g, g ∈ P ∧ g_eq E g t
      · obtain ⟨g, hg, hq⟩ := hg
        exact Or.inl ⟨g, hg, g_eq_tr hq hx⟩
      · refine Or.inr (fun w hw => ?_)
        have hin : w ∈ t :: L := by
          have hb : w ∈ t :: L ∧ g_re E t w := by
            refine g_re_fwd (P := fun z => z ∈ t :: L ∧ g_re E t z) (g_re_tr hx.1 hw) ⟨List.mem_cons_self, g_re_rf E t⟩ (fun y z hy hyz => ?_)
            have hz : g_re E t z := g_re_tl hy.2 hyz
            refine ⟨?_, hz⟩
            rcases (a1 z).mp (hX y z hyz).2 with h | h | h
            · exact absurd h (hno y hy.1 z hyz)
            · rcases List.mem_cons.mp h with e | h
              · rw [e]
                exact List.mem_cons_self
              · exact absurd ⟨z, h, hup z h, hz⟩ hg
            · exact List.mem_cons_of_mem _ h
          exact hb.1
        exact ⟨hin, t, g_eq_sy hx, g_bef_hd hin⟩
    intro x hx
    rcases List.mem_cons.mp hx with e | hx
    · rw [e]
      exact key t (g_eq_rf E t)
    · rcases a8 x hx with ⟨g, hg, hq⟩ | h
      · rcases List.mem_cons.mp hg with e | hg
        · rw [e] at hq
          exact key x hq
        · exact Or.inl ⟨g, hg, hq⟩
      · refine Or.inr (fun w hw => ?_)
        obtain ⟨h1, x', h2, h3⟩ := h w hw
        exact ⟨List.mem_cons_of_mem _ h1, x', h2, g_bef_cons h3⟩
/-- at the end: the list has all of X, once each, and whatever x leads to has one of x's ring at it or ahead of it -/
theorem g_dfs_end {E : Nat → Nat → Prop} {X O : Nat → Prop} {L : List Nat} (h : g_dfs E X O [] L) (hO : ∀ x, ¬ O x) :
    (∀ x, X x ↔ x ∈ L) ∧ L.Nodup ∧ ∀ x, X x → ∀ w, g_re E x w → ∃ x', g_eq E x x' ∧ g_bef L x' w := by
  obtain ⟨a1, a2, a3, a4, a5, a6, a7, a8⟩ := h
  have hX : ∀ x, X x ↔ x ∈ L := fun x => ⟨fun hx => by
    rcases (a1 x).mp hx with h | h | h
    · exact absurd h (hO x)
    · exact absurd h List.not_mem_nil
    · exact h, fun hx => (a1 x).mpr (Or.inr (Or.inr hx))⟩
  refine ⟨hX, a5, fun x hx w hw => ?_⟩
  rcases a8 x ((hX x).mp hx) with ⟨g, hg, -⟩ | h
  · exact absurd hg List.not_mem_nil
  · exact (h w hw).2
theorem g_split {done rest l1 l2 : List Nat} {r a : Nat} (hn : (done ++ r :: rest).Nodup) (e : done ++ r :: rest = l1 ++ a :: l2) (h : r = a ∨ r ∈ l2) : r = a ∨ a ∈ done := by
  induction done generalizing l1 with
  | nil =>
    cases l1 with
    | nil =>
      rw [List.nil_append, List.nil_append] at e
      injection e with e1 e2
      exact Or.inl e1
    | cons b l1 =>
      rw [List.nil_append, List.cons_append] at e
      injection e with e1 e2
      rw [List.nil_append] at hn
      have hr : r ∉ rest := (List.nodup_cons.mp hn).1
      exfalso
      refine hr ?_
      rw [e2]
      rcases h with h | h
      · rw [h]
        exact List.mem_append_right _ List.mem_cons_self
      · exact List.mem_append_right _ (List.mem_cons_of_mem _ h)
  | cons d done ih =>
    cases l1 with
    | nil =>
      rw [List.cons_append, List.nil_append] at e
      injection e with e1 e2
      exact Or.inr (by rw [e1]; exact List.mem_cons_self)
    | cons b l1 =>
      rw [List.cons_append, List.cons_append] at e
      injection e with e1 e2
      rw [List.cons_append] at hn
      rcases ih (List.nodup_cons.mp hn).2 e2 with q | q
      · exact Or.inl q
      · exact Or.inr (List.mem_cons_of_mem _ q)
/-- THE RINGS, one by one. B: the way back (the graph of the search), its list L; O2: what is open when r's turn comes: no ring of one that came before. Whatever open state r leads to is of r's ring. -/
theorem g_ring {E : Nat → Nat → Prop} {X O2 : Nat → Prop} {done rest : List Nat} {r : Nat}
    (hL : ∀ x, X x → ∀ w, g_re (fun a b => E b a) x w → ∃ x', g_eq (fun a b => E b a) x x' ∧ g_bef (done ++ r :: rest) x' w)
    (hn : (done ++ r :: rest).Nodup) (hO : ∀ x, O2 x ↔ (X x ∧ ∀ d, d ∈ done → ¬ g_eq E d x)) {w : Nat} (hw : O2 w) (hrw : g_re E r w) : g_eq E r w := by
  obtain ⟨hwX, hwd⟩ := (hO w).mp hw
  obtain ⟨w', hq, l1, l2, e, hr⟩ := hL w hwX r (g_re_rev' hrw)
  have hq' : g_eq E w w' := ⟨g_re_rev hq.2, g_re_rev hq.1⟩
  rcases g_split hn e hr with h | h
  · rw [h]
    exact g_eq_sy hq'
  · exact absurd (g_eq_sy hq') (hwd w' h)
/-- what is found from r through open states is r's ring -/
theorem g_found {E : Nat → Nat → Prop} {X O2 F : Nat → Prop} {done rest : List Nat} {r : Nat} (hX : ∀ x y, E x y → X x ∧ X y)
    (hL : ∀ x, X x → ∀ w, g_re (fun a b => E b a) x w → ∃ x', g_eq (fun a b => E b a) x x' ∧ g_bef (done ++ r :: rest) x' w)
    (hn : (done ++ r :: rest).Nodup) (hO : ∀ x, O2 x ↔ (X x ∧ ∀ d, d ∈ done → ¬ g_eq E d x)) (hr : O2 r)
    (hF : ∀ w, F w ↔ g_re (fun a b => O2 b ∧ E a b) r w) (w : Nat) : F w ↔ g_eq E r w := by
  rw [hF w]
  constructor
  · intro h
    have h1 : O2 w ∧ g_re E r w := g_re_fwd (P := fun z => O2 z ∧ g_re E r z) h ⟨hr, g_re_rf E r⟩ (fun x y hx hxy => ⟨hxy.1, g_re_tl hx.2 hxy.2⟩)
    exact g_ring hL hn hO h1.1 h1.2
  · intro h
    have hopen : ∀ z, X z → g_eq E r z → O2 z := fun z hz hq => (hO z).mpr ⟨hz, fun d hd hdz => ((hO r).mp hr).2 d hd (g_eq_tr hdz (g_eq_sy hq))⟩
    have h1 : g_re E w w ∧ (g_re E r w → g_re (fun a b => O2 b ∧ E a b) w w) := ⟨g_re_rf E w, fun _ => g_re_rf _ w⟩
    have h2 : g_re E r w ∧ (g_re E r r → g_re (fun a b => O2 b ∧ E a b) r w) :=
      g_re_back (P := fun x => g_re E x w ∧ (g_re E r x → g_re (fun a b => O2 b ∧ E a b) x w)) h.1 h1 (fun x y hxy hy => ⟨g_re_hd hxy hy.1, fun hrx => by
        have hry : g_re E r y := g_re_tl hrx hxy
        exact g_re_hd (E := fun a b => O2 b ∧ E a b) ⟨hopen y (hX x y hxy).2 ⟨hry, g_re_tr hy.1 h.2⟩, hxy⟩ (hy.2 hry)⟩)
    exact h2.2 (g_re_rf E r)
/-- an endless row through E from s on, with Y again and again -/
def g_ag (E : Nat → Nat → Prop) (Y : Nat → Prop) (s : Nat) : Prop := ∃ t, g_re E s t ∧ Y t ∧ ∃ u, E t u ∧ g_re E u t
theorem g_ag_back {E : Nat → Nat → Prop} {Y : Nat → Prop} {a b : Nat} (h : g_re E a b) (hb : g_ag E Y b) : g_ag E Y a := by
  obtain ⟨t, h1, h2⟩ := hb
  exact ⟨t, g_re_tr h h1, h2⟩
/-- A RING's TURN: T is right of all that is no more open -/
theorem g_turn {S E : Nat → Nat → Prop} {X Y O2 F T : Nat → Prop} {done rest : List Nat} {r : Nat} (hE : ∀ x y, E x y ↔ (X x ∧ X y ∧ S x y))
    (hL : ∀ x, X x → ∀ w, g_re (fun a b => E b a) x w → ∃ x', g_eq (fun a b => E b a) x x' ∧ g_bef (done ++ r :: rest) x' w)
    (hn : (done ++ r :: rest).Nodup) (hO : ∀ x, O2 x ↔ (X x ∧ ∀ d, d ∈ done → ¬ g_eq E d x)) (hr : O2 r)
    (hF : ∀ w, F w ↔ g_eq E r w) (hT : ∀ x, T x ↔ (X x ∧ ¬ O2 x ∧ g_ag E Y x)) (w : Nat) (hw : F w) :
    ((∃ x, F x ∧ ∃ v, S x v ∧ T v) ∨ ((∃ x, F x ∧ Y x) ∧ ((∃ x, F x ∧ x ≠ r) ∨ S r r))) ↔ g_ag E Y w := by
  have hrX : X r := ((hO r).mp hr).1
  have hFX : ∀ x, F x → X x := by
    intro x hx
    rcases g_re_cases ((hF x).mp hx).2 with e | ⟨c, hc, -⟩
    · rw [e]
      exact hrX
    · exact ((hE x c).mp hc).1
  have hwr : g_eq E r w := (hF w).mp hw
  constructor
  · rintro (⟨x, hx, v, hv, hT1⟩ | ⟨⟨y, hy, hY⟩, hround⟩)
    · obtain ⟨hvX, -, hag⟩ := (hT v).mp hT1
      have hxr : g_eq E r x := (hF x).mp hx
      have hE1 : E x v := (hE x v).mpr ⟨hFX x hx, hvX, hv⟩
      exact g_ag_back (g_re_tr hwr.2 (g_re_tl hxr.1 hE1)) hag
    · have hyr : g_eq E r y := (hF y).mp hy
      refine ⟨y, g_re_tr hwr.2 hyr.1, hY, ?_⟩
      rcases g_re_cases hyr.2 with e | ⟨c, hc, hcr⟩
      · subst e
        rcases hround with ⟨z, hz, hne⟩ | hself
        · have hzr : g_eq E y z := (hF z).mp hz
          rcases g_re_cases hzr.1 with e | ⟨c, hc, hcz⟩
          · exact absurd e.symm hne
          · exact ⟨c, hc, g_re_tr hcz hzr.2⟩
        · exact ⟨y, (hE y y).mpr ⟨hrX, hrX, hself⟩, g_re_rf E y⟩
      · exact ⟨c, hc, g_re_tr hcr hyr.1⟩
  · rintro ⟨t, hwt, hY, u, htu, hut⟩
    by_cases htr : g_eq E r t
    · refine Or.inr ⟨⟨t, (hF t).mpr htr, hY⟩, ?_⟩
      have hur : g_eq E r u := ⟨g_re_tl htr.1 htu, g_re_tr hut htr.2⟩
      by_cases e1 : u = r
      · by_cases e2 : t = r
        · subst e1
          subst e2
          exact Or.inr ((hE t t).mp htu).2.2
        · exact Or.inl ⟨t, (hF t).mpr htr, e2⟩
      · exact Or.inl ⟨u, (hF u).mpr hur, e1⟩
    · left
      have hag : ∀ y, g_re E y t → g_ag E Y y := fun y hy => ⟨t, hy, hY, u, htu, hut⟩
      have h0 : g_re E t t ∧ (g_eq E r t → ∃ x, F x ∧ ∃ v, S x v ∧ T v) := ⟨g_re_rf E t, fun h => absurd h htr⟩
      have h1 : g_re E w t ∧ (g_eq E r w → ∃ x, F x ∧ ∃ v, S x v ∧ T v) :=
        g_re_back (P := fun z => g_re E z t ∧ (g_eq E r z → ∃ x, F x ∧ ∃ v, S x v ∧ T v)) hwt h0 (fun x y hxy hy => by
          refine ⟨g_re_hd hxy hy.1, fun hrx => ?_⟩
          by_cases hry : g_eq E r y
          · exact hy.2 hry
          · obtain ⟨hx1, hx2, hx3⟩ := (hE x y).mp hxy
            refine ⟨x, (hF x).mpr hrx, y, hx3, (hT y).mpr ⟨hx2, fun ho => hry ?_, hag y hy.1⟩⟩
            exact g_ring hL hn hO ho (g_re_tl hrx.1 hxy))
      exact h1.2 hwr
/-- the open states behind r's turn -/
theorem g_open_next {E : Nat → Nat → Prop} {X O2 O3 F : Nat → Prop} {done : List Nat} {r : Nat} (hO : ∀ x, O2 x ↔ (X x ∧ ∀ d, d ∈ done → ¬ g_eq E d x))
    (hF : ∀ w, F w ↔ g_eq E r w) (h3 : ∀ x, O3 x ↔ (O2 x ∧ ¬ F x)) (x : Nat) : O3 x ↔ (X x ∧ ∀ d, d ∈ done ++ [r] → ¬ g_eq E d x) := by
  rw [h3 x, hO x, hF x]
  constructor
  · rintro ⟨⟨h1, h2⟩, h4⟩
    refine ⟨h1, fun d hd => ?_⟩
    rcases List.mem_append.mp hd with hd | hd
    · exact h2 d hd
    · rw [List.mem_singleton.mp hd]
      exact h4
  · rintro ⟨h1, h2⟩
    exact ⟨⟨h1, fun d hd => h2 d (List.mem_append_left _ hd)⟩, h2 r (List.mem_append_right _ (List.mem_singleton.mpr rfl))⟩
theorem g_open_skip {E : Nat → Nat → Prop} {X O2 : Nat → Prop} {done : List Nat} {r : Nat} (hO : ∀ x, O2 x ↔ (X x ∧ ∀ d, d ∈ done → ¬ g_eq E d x))
    (hrX : X r) (hr : ¬ O2 r) (x : Nat) : O2 x ↔ (X x ∧ ∀ d, d ∈ done ++ [r] → ¬ g_eq E d x) := by
  rw [hO x]
  constructor
  · rintro ⟨h1, h2⟩
    refine ⟨h1, fun d hd => ?_⟩
    rcases List.mem_append.mp hd with hd | hd
    · exact h2 d hd
    · rw [List.mem_singleton.mp hd]
      intro hq
      refine hr ((hO r).mpr ⟨hrX, fun d hd hdr => h2 d hd (g_eq_tr hdr hq)⟩)
  · rintro ⟨h1, h2⟩
    exact ⟨h1, fun d hd => h2 d (List.mem_append_left _ hd)⟩
/-! Counting; a search in breadth. Pure. -/
def g_cnt (O : Nat → Bool) : Nat → Nat
  | 0 => 0
  | n + 1 => g_cnt O n + (if O n = true then 1 else 0)
theorem g_cnt_le (O : Nat → Bool) : ∀ n, g_cnt O n ≤ n
  | 0 => Nat.le_refl 0
  | n + 1 => by
    have h := g_cnt_le O n
    simp only [g_cnt]
    split <;> omega
theorem g_cnt_congr {O O' : Nat → Bool} : ∀ n, (∀ x, x < n → O x = O' x) → g_cnt O n = g_cnt O' n
  | 0, _ => rfl
  | n + 1, h => by
    simp only [g_cnt]
    rw [g_cnt_congr n (fun x hx => h x (by omega)), h n (by omega)]
theorem g_cnt_drop {O O' : Nat → Bool} {k : Nat} (hk : O k = true) (hO : ∀ x, O' x = (O x && decide (x ≠ k))) : ∀ n, k < n → g_cnt O' n + 1 = g_cnt O n
  | 0, h => absurd h (Nat.not_lt_zero k)
  | n + 1, h => by
    simp only [g_cnt]
    by_cases e : k = n
    · subst e
      have h1 : g_cnt O' k = g_cnt O k := g_cnt_congr k (fun x hx => by
        rw [hO x]
        have : x ≠ k := by omega
        simp [this])
      have h2 : O' k = false := by rw [hO k]; simp
      rw [h1, h2, hk]
      simp
    · have h1 := g_cnt_drop hk hO n (by omega)
      have h2 : O' n = O n := by
        rw [hO n]
        have : n ≠ k := fun q => e q.symm
        simp [this]
      rw [h2]
      omega
theorem g_cnt_0 {O : Nat → Bool} : ∀ n, g_cnt O n = 0 → ∀ x, x < n → O x = false
  | 0, _, x, h => absurd h (Nat.not_lt_zero x)
  | n + 1, h, x, hx => by
    simp only [g_cnt] at h
    by_cases e : x = n
    · subst e
      cases ho : O x with
      | false => rfl
      | true => simp [ho] at h
    · exact g_cnt_0 n (by omega) x (by omega)
end
section
/-! Contracts over pictures: a method's start, its end, its calls. -/
def sv_P (D : va_G) (cl : List vw_C) (tys : List (ClassId × FieldType)) (av : List Value) (ws : List va_E) (ad : Nat → Nat) (sz : Nat) : Array Value → State → Prop :=
  va_Pc (av.map (sv_v ad)) (fun U => U.heap.size = sz ∧ va_P D cl (sv_w ad 0 ws) U.heap ∧ va_K D cl tys U ∧ va_D (fun _ => True) (sv_w ad 0 ws) ∧ sv_Z (va_A (sv_w ad 0 ws) sz) U)
def sv_Q (D : va_G) (cl : List vw_C) (A : Nat → Prop) (n0 n1 : Nat) (ad : Nat → Nat) (P : Option Value → List va_E → Prop) : Array Value → State → Outcome → State → Prop := fun _ st o t =>
  ∃ (v : Option Value) (ws' : List va_E) (ad' : Nat → Nat), o = .returned (v.map (sv_v ad')) ∧ P v ws' ∧ (∀ i, ¬ (n0 ≤ i ∧ i < n1) → ad' i = ad i) ∧ va_P D cl (sv_w ad' 0 ws') t.heap ∧ va_D A (sv_w ad' 0 ws') ∧ va_F A st t
def sv_X (D : va_G) (cl : List vw_C) (A : Nat → Prop) (ad : Nat → Nat) (X : String → List va_E → Prop) : String → State → State → Prop := fun E st t =>
  ∃ ws' : List va_E, X E ws' ∧ va_P D cl (sv_w ad 0 ws') t.heap ∧ va_D A (sv_w ad 0 ws') ∧ va_F A st t
/-- A METHOD's CONTRACT: with these arguments and cells it returns v and leaves ws' with P v ws', or throws an E with X E ws'; the places n0 .. n1 - 1 are new -/
def sv_M (l : Launch) (y : MethodName) (Wd : List Cond) (rm : Room) (D : va_G) (cl : List vw_C) (tys : List (ClassId × FieldType)) (av : List Value) (ws : List va_E) (n0 n1 : Nat) (P : Option Value → List va_E → Prop) (X : String → List va_E → Prop) (mc ms : Nat) : Prop :=
  ∀ (ad : Nat → Nat) (sz : Nat), vx_Met l y Wd rm (sv_P D cl tys av ws ad sz) (sv_Q D cl (va_A (sv_w ad 0 ws) sz) n0 n1 ad P) (sv_X D cl (va_A (sv_w ad 0 ws) sz) ad X) mc ms (va_A (sv_w ad 0 ws) sz)
/-- it never throws -/
def sv_no : String → List va_E → Prop := fun _ _ => False
/-- the locals at the entry -/
def sv_i0 : List Value → List (Option Value)
  | [] => []
  | v :: r => if v.category = 2 then some v :: none :: sv_i0 r else some v :: sv_i0 r
def sv_i (av : List Value) (n : Nat) : List (Option Value) := sv_i0 av ++ List.replicate (n - (sv_i0 av).length) none
theorem sv_i0_len (ad : Nat → Nat) : ∀ av : List Value, (lg_sl (av.map (sv_v ad))).length = (sv_i0 av).length
  | [] => rfl
  | v :: r => by
    have h := sv_i0_len ad r
    simp only [lg_sl, List.map_cons, List.flatMap_cons, List.length_append, sv_i0, sv_v_cat] at h ⊢
    split <;> simp [h] <;> omega
theorem sv_i0_in (ad : Nat → Nat) : ∀ (av : List Value) (j i : Nat) (v : Value), (sv_i0 av)[i]? = some (some v) → (j + i, sv_v ad v) ∈ lv_args j (av.map (sv_v ad))
  | [], j, i, v, h => by simp [sv_i0] at h
  | w :: r, j, i, v, h => by
    simp only [List.map_cons, lv_args, sv_v_cat]
    by_cases hc : w.category = 2
    · simp only [sv_i0, hc, if_true] at h ⊢
      match i, h with
      | 0, h =>
        have h : w = v := by simpa using h
        rw [h]
        exact List.mem_cons_self
      | 1, h => simp at h
      | i + 2, h =>
        have h1 := sv_i0_in ad r (j + 2) i v (by simpa using h)
        rw [show j + 2 + i = j + (i + 2) by omega] at h1
        exact List.mem_cons_of_mem _ h1
    · simp only [sv_i0, hc, if_false] at h ⊢
      match i, h with
      | 0, h =>
        have h : w = v := by simpa using h
        rw [h]
        exact List.mem_cons_self
      | i + 1, h =>
        have h1 := sv_i0_in ad r (j + 1) i v (by simpa using h)
        rw [show j + 1 + i = j + (i + 1) by omega] at h1
        exact List.mem_cons_of_mem _ h1
theorem sv_i_in {ad : Nat → Nat} {av : List Value} {n i : Nat} {v : Value} (h : (sv_i av n)[i]? = some (some v)) : (i, sv_v ad v) ∈ lv_args 0 (av.map (sv_v ad)) := by
  by_cases hi : i < (sv_i0 av).length
  · rw [sv_i, List.getElem?_append_left hi] at h
    have h1 := sv_i0_in ad av 0 i v h
    rwa [Nat.zero_add] at h1
  · rw [sv_i, List.getElem?_append_right (by omega), List.getElem?_replicate] at h
    split at h <;> simp at h
theorem sv_blind {D : va_G} {cl : List vw_C} {tys : List (ClassId × FieldType)} {av : List Value} {ws : List va_E} {ad : Nat → Nat} {sz : Nat} : FrameBlind (sv_P D cl tys av ws ad sz) := by
  intro a U g mk q
  obtain ⟨q0, q1, qP, qK, qD, z1, z2, s0, a0, z3, z4⟩ := q
  exact ⟨q0, q1, qP, va_K.moved (u := U) (U := U.calling g mk a) (Vm.Alike.refl U.vm) qK, qD, vx_Zq.moved (u := U) (U := U.calling g mk a) (Vm.Alike.refl U.vm) z1, vx_Zq.moved (u := U) (U := U.calling g mk a) (Vm.Alike.refl U.vm) z2, s0, a0, z3, z4⟩
/-- FROM A WALK TO A CONTRACT -/
theorem sv_of {l : Launch} {y : MethodName} {rm : Room} {D : va_G} {cl : List vw_C} {tys : List (ClassId × FieldType)} {av : List Value} {ws : List va_E} {n0 n1 : Nat} {P : Option Value → List va_E → Prop} {X : String → List va_E → Prop} {mc ms : Nat} {cc : ByteArray} {maxL : Nat} {ret : Option FieldType}
    (hy : plainName y.cls = true) (hlen : (sv_i0 av).length ≤ maxL)
    (body : ∀ (p : Program) (e : Env) (s : State) (m : MethodId) (args : Array Value) (below : List Frame) (meth : Method) (c : Code) (A : Nat → Prop) (ad : Nat → Nat), sv_C p s m args meth c D cl tys A cc maxL y.cls ret → (∀ x ∈ c.exceptionTable.toList, False) → meth.name = y.name →
      sv_V p l e rm s m args below meth c D cl A maxL ad (vx_MQ below (sv_Q D cl A n0 n1 ad P) (sv_X D cl A ad X) args s mc ms A) 0 (sv_i av maxL) [] ws 0 0) :
    sv_M l y [Cond.code y cc maxL ret] rm D cl tys av ws n0 n1 P X mc ms := by
  intro ad sz
  refine vx_ofW (cc := cc) (maxL := maxL) (ret := ret) hy rfl ?_
  intro p e s m args below meth c s₁ B hml htab hv
  obtain ⟨rfl, hsz, hP, hK, hD0, hZ⟩ := hv
  subst hsz
  have hC : sv_C p s m (av.map (sv_v ad)).toArray meth c D cl tys (va_A (sv_w ad 0 ws) s.heap.size) cc maxL y.cls ret :=
    ⟨B.exec, B.bytes, hml, findClass_of_methodNamed B.named, sv_Z_ts hZ _, hK, fun q h => Or.inr h, B.returns, B.notSynchronized, hZ⟩
  have hb := body p e s m _ below meth c _ ad hC htab (name_of_methodNamed B.named B.method).1
  have hl := lv_entry (av.map (sv_v ad)) (n := maxL) (by rw [sv_i0_len]; exact hlen)
  rw [lg_entry_eq]
  exact hb s.heap [] _ hP hD0.self va_S.rf ⟨_, hl, fun i v hi => sv_i_in hi⟩
section
variable {p : Program} {l : Launch} {e : Env} {R : Room} {s : State} {m : MethodId} {args : Array Value} {below : List Frame} {meth : Method} {c : Code} {D : va_G} {cl : List vw_C} {tys : List (ClassId × FieldType)} {A : Nat → Prop} {nL : Nat} {ad ad0 : Nat → Nat} {Q : State → Prop} {cc : ByteArray} {own : String} {ret : Option FieldType} {pc : Nat} {lv : List (Option Value)} {st : List Value} {ws : List va_E} {k n : Nat}
variable {n0 n1 mc ms : Nat} {P : Option Value → List va_E → Prop} {X : String → List va_E → Prop} {XC : String → State → State → Prop}
theorem sv_iret (C : sv_C p s m args meth c D cl tys A cc nL own ret) {ty : FieldType} {v : Int32} (hret : ret = some ty) (hnar : narrow ty (.int v) = .int v) (hd : decode cc pc = .ok (.ireturn, 1)) (hk : k ≤ mc) (hn : n ≤ ms) (hag : ∀ i, ¬ (n0 ≤ i ∧ i < n1) → ad i = ad0 i) (hP : P (some (.int v)) ws) :
    sv_V p l e R s m args below meth c D cl A nL ad (vx_MQ below (sv_Q D cl A n0 n1 ad0 P) XC args s mc ms A) pc lv [.int v] ws k n := by
  intro H locs ls hP1 hD hS hl
  have hlocks : meth.locks = false := C.2.2.2.2.2.2.2.2.1
  refine W.widen hk hn (vx_ret ?_)
  exact W.zret C.1 C.2.1 (C.2.2.2.2.2.2.2.1.trans hret) hnar (fun t ht hW => ⟨some (.int v), ws, ad, rfl, hP, hag, by rw [ht]; exact hP1, hD, hS.F ht⟩) hS.2.2 hd hlocks
theorem sv_vret (C : sv_C p s m args meth c D cl tys A cc nL own ret) (hret : ret = none) (hd : decode cc pc = .ok (.return_, 1)) (hk : k ≤ mc) (hn : n ≤ ms) (hag : ∀ i, ¬ (n0 ≤ i ∧ i < n1) → ad i = ad0 i) (hP : P none ws) :
    sv_V p l e R s m args below meth c D cl A nL ad (vx_MQ below (sv_Q D cl A n0 n1 ad0 P) XC args s mc ms A) pc lv [] ws k n := by
  intro H locs ls hP1 hD hS hl
  have hlocks : meth.locks = false := C.2.2.2.2.2.2.2.2.1
  refine W.widen hk hn (vx_ret ?_)
  exact W.vret C.1 C.2.1 (C.2.2.2.2.2.2.2.1.trans hret) (fun t ht hW => ⟨none, ws, ad, rfl, hP, hag, by rw [ht]; exact hP1, hD, hS.F ht⟩) hS.2.2 hd hlocks
/-- q, an E, is thrown over the frame at pc -/
def sv_VX (p : Program) (l : Launch) (e : Env) (R : Room) (s : State) (m : MethodId) (args : Array Value) (below : List Frame) (meth : Method) (c : Code) (D : va_G) (cl : List vw_C) (A : Nat → Prop) (nL : Nat) (ad : Nat → Nat) (Q : State → Prop) (pc : Nat) (lv : List (Option Value)) (E : String) (ws : List va_E) (k n : Nat) : Prop :=
  ∀ (H : Heap) (locs : List Loc) (ls : Array Slot) (st0 : List Value) (ce : Cell) (q : Addr), va_P D cl (sv_w ad 0 ws) H → va_D A (sv_w ad 0 ws) → va_S A s.heap H locs → sv_h ad ls nL lv → H[q]? = some ce → ce.vm = .none → s.vm.findClass E = some ce.cls → vx_W p l e R s m args below meth c H locs k n Q (F0 m pc ls st0) q
theorem sv_out (C : sv_C p s m args meth c D cl tys A cc nL own ret) {E : String} (htab : ∀ x ∈ c.exceptionTable.toList, False) (hk : k ≤ mc) (hn : n ≤ ms) {Qc : Array Value → State → Outcome → State → Prop} (hX : X E ws) :
    sv_VX p l e R s m args below meth c D cl A nL ad (vx_MQ below Qc (sv_X D cl A ad X) args s mc ms A) pc lv E ws k n := by
  intro H locs ls st0 ce q hP hD hS hl hc hv hE
  exact vx_out (fun x hx => absurd (htab x hx) id) C.2.2.2.2.2.2.2.2.1 hc hv hE (fun t ht hvm => ⟨ws, hX, by rw [ht]; exact hP, hD, hS.F ht⟩) hS.2.2 hk hn
/-- A CALL, however it is made -/
theorem sv_callG (C : sv_C p s m args meth c D cl tys A cc nL own ret) {st0 : List Value} {ar : Array Value} (hc : k + mc ≤ R.cells ∧ n + ms ≤ R.slots)
    (hrun : ∀ (H : Heap) (locs : List Loc) (ls : Array Slot), va_P D cl (sv_w ad 0 ws) H → va_D A (sv_w ad 0 ws) → va_S A s.heap H locs → ls.size = nL →
      vx_Run p l e R s m args below meth c H locs k n mc ms (F0 m pc ls (st0.map (sv_v ad))) (st.map (sv_v ad)) (sv_Q D cl (va_A (sv_w ad 0 ws) H.size) n0 n1 ad P ar) (sv_X D cl (va_A (sv_w ad 0 ws) H.size) ad X) (va_A (sv_w ad 0 ws) H.size))
    (kx : ∀ (E : String) (ws' : List va_E), X E ws' → sv_VX p l e R s m args below meth c D cl A nL ad Q pc lv E ws' (k + mc) (n + ms))
    (kk : ∀ (v : Option Value) (ws' : List va_E) (ad' : Nat → Nat), (∀ i, ¬ (n0 ≤ i ∧ i < n1) → ad' i = ad i) → P v ws' → ∀ (H : Heap) (locs : List Loc) (ls : Array Slot), va_P D cl (sv_w ad' 0 ws') H → va_D A (sv_w ad' 0 ws') → va_S A s.heap H locs → sv_h ad ls nL lv → W p l e R s m args below meth c H locs (k + mc) (n + ms) Q (F0 m (pc + 3) ls ((v.map (sv_v ad')).toList ++ st.map (sv_v ad)))) :
    sv_V p l e R s m args below meth c D cl A nL ad Q pc lv st0 ws k n := by
  intro H locs ls hP hD hS hl T hT X0
  have hsz : ls.size = nL := by
    obtain ⟨l0, h1, -⟩ := hl
    exact h1.1
  have hA1 : ∀ q, va_A (sv_w ad 0 ws) H.size q → A q := by
    rintro q (⟨j, x, hj⟩ | hq)
    · exact hD.2 j (q, x) hj
    · exact C.2.2.2.2.2.2.1 q (Nat.le_trans hS.1 hq)
  rcases hrun H locs ls hP hD hS hsz T hT X0 with ⟨v, st₀, t, T', L, h0, X', hL, e1, e2, hq, go⟩ | ⟨q, st₀, t, T', L, E, ce, h0, X', hL, e1, e2, hx, hce, hvm, hcls, go⟩
  · obtain ⟨v', ws', ad', ho, hp, hag, hP1, hD1, hF⟩ := hq
    obtain ⟨-, -, hS1⟩ := vx_keep h0 e1 hS (fun q _ h => hA1 q h) hA1 hL hF
    injection ho with ho
    subst ho
    obtain ⟨t2, s2, q2⟩ := kk v' ws' ad' hag hp T'.heap (locs ++ L) ls (by rw [e1]; exact hP1) (hD1.weaken (fun _ _ _ h => hA1 _ h)) hS1 hl T' rfl X'
    exact ⟨t2, go t2 s2, q2⟩
  · obtain ⟨ws', hX1, hP1, hD1, hF⟩ := hx
    obtain ⟨-, -, hS1⟩ := vx_keep h0 e1 hS (fun q _ h => hA1 q h) hA1 hL hF
    obtain ⟨t2, s2, q2⟩ := kx E ws' hX1 T'.heap (locs ++ L) ls _ ce q (by rw [e1]; exact hP1) (hD1.weaken (fun _ _ _ h => hA1 _ h)) hS1 hl (by rw [e1]; exact hce) hvm hcls T' rfl X'
    exact ⟨t2, go.trans s2, q2⟩
end
end
section
/-! Calls by their kinds, throws, making. -/
theorem sv_good {A : Nat → Prop} {s : State} (hZ : sv_Z A s) {w : Cond} (hw : w ∈ sv_T) : ∀ (a' : Array Value) (U : State), s.WarmedH U.vm → w.before a' U = true := fun a' U hW =>
  word_at hW (good_of_word (List.mem_filter.mp hw).2) (sv_Z_ts hZ #[] w hw)
def sv_dc : Cond → Bool
  | .declares _ => true
  | .castable _ _ => true
  | .methodLinkNest _ _ _ _ => true
  | _ => false
theorem sv_word {A : Nat → Prop} {s : State} (hZ : sv_Z A s) {w : Cond} (hw : w ∈ lw_tbl) (hg : (goodWord w || sv_dc w) = true) (args : Array Value) : w.before args s = true := by
  obtain ⟨-, -, s0, a0, hW, h, -⟩ := hZ
  have h0 := h w hw
  rcases Bool.or_eq_true_iff.mp hg with hg | hg
  · exact word_at hW (good_of_word hg) h0
  · cases w with
    | declares x => exact va_Nw.use rfl (va_Nw.warmD hW (va_Nw.of rfl h0))
    | castable a b => exact va_Nw.use rfl (va_Nw.warmC hW (va_Nw.of rfl h0))
    | methodLinkNest a i x b => exact va_Nw.use rfl (va_Nw.warmM hW (va_Nw.of rfl h0))
    | _ => exact absurd hg (by simp [sv_dc])
/-- what a call's instruction links: the callee, its code, its class -/
def sv_site (own : String) (idx : Nat) (y : MethodName) (bytes : ByteArray) (maxL : Nat) (rt : Option FieldType) (np : Nat) : Prop :=
  Cond.methodLink own idx y ∈ sv_T ∧ Cond.initialized y.cls ∈ sv_T ∧ Cond.code y bytes maxL rt ∈ sv_T ∧ (y.cls ≠ "java/lang/invoke/MethodHandle" ∧ y.cls ≠ "java/lang/invoke/VarHandle") ∧ (parseMethodDescriptor y.desc).map (fun d => d.parameters.length) = some np
def sv_fit (R rm : Room) (maxL mc ms : Nat) : Prop := rm.cells = mc ∧ rm.slots = ms ∧ rm.frames + 1 ≤ R.frames ∧ 8 + (maxL + 11) + rm.locals ≤ R.locals
theorem sv_met {l : Launch} {y : MethodName} {ws : List Cond} {rm : Room} {Pc : Array Value → State → Prop} {Qc : Array Value → State → Outcome → State → Prop} {XC : String → State → State → Prop} {mc ms : Nat} {free : Addr → Prop}
    (h : vx_Met l y ws rm Pc Qc XC mc ms free) (hX : ∀ E st t, ¬ XC E st t) : Met l y ws rm Pc Qc mc ms free := by
  intro p e ha hc hk s m args below hf happ hP hK
  obtain ⟨n, o, h1, h2, h3, h4⟩ := h p e ha hc hk s m args below hf happ hP hK
  refine ⟨n, o, h1, h2, h3, ?_⟩
  rcases h4 with h4 | ⟨q, -, E, ce, L, hx, -⟩
  · exact h4
  · exact absurd hx (hX _ _ _)
section
variable {p : Program} {l : Launch} {e : Env} {R : Room} {s : State} {m : MethodId} {args : Array Value} {below : List Frame} {meth : Method} {c : Code} {D : va_G} {cl : List vw_C} {tys : List (ClassId × FieldType)} {A : Nat → Prop} {nL : Nat} {ad ad0 : Nat → Nat} {Q : State → Prop} {cc : ByteArray} {own : String} {ret : Option FieldType} {pc : Nat} {lv : List (Option Value)} {st : List Value} {ws : List va_E} {k n : Nat}
variable {n0 n1 mc ms : Nat} {P : Option Value → List va_E → Prop} {X : String → List va_E → Prop} {XC : String → State → State → Prop}
variable {y : MethodName} {bytes : ByteArray} {maxL np idx : Nat} {rt : Option FieldType} {rm : Room} {av : List Value} {b : Nat}
theorem sv_cb (C : sv_C p s m args meth c D cl tys A cc nL own ret) (hs : sv_site own idx y bytes maxL rt np) (hr : sv_fit R rm maxL mc ms) : CallB R s args own idx y bytes maxL rt [Cond.code y bytes maxL rt] rm mc ms np := by
  have hZ := C.2.2.2.2.2.2.2.2.2
  refine ⟨hr.1, hr.2.1, hr.2.2.1, hr.2.2.2, fun w hw => ?_, List.mem_singleton.mpr rfl, C.2.2.2.2.1 _ hs.2.2.1, C.2.2.2.2.1 _ hs.2.1, hs.2.2.2.1, fun sig h => ?_, C.2.2.2.2.1 _ hs.1⟩
  · rw [List.mem_singleton.mp hw]
    exact sv_good hZ hs.2.2.1
  · have h1 := hs.2.2.2.2
    rw [h] at h1
    simpa using h1.symm
theorem sv_pre (C : sv_C p s m args meth c D cl tys A cc nL own ret) {H : Heap} {locs : List Loc} (hP : va_P D cl (sv_w ad 0 ws) H) (hD : va_D A (sv_w ad 0 ws)) (hS : va_S A s.heap H locs) {U : State} (hU : U.heap = H) (hW : s.WarmedH U.vm) : sv_P D cl tys av ws ad H.size (av.map (sv_v ad)).toArray U := by
  have hZ := C.2.2.2.2.2.2.2.2.2
  refine ⟨rfl, by rw [hU], by rw [hU]; exact hP, va_K.moved hW.alike C.2.2.2.2.2.1, hD.weaken (fun _ _ _ _ => trivial), sv_Z_next hZ hW (by rw [hU]; exact hS.2.1) ?_⟩
  rintro q (⟨j, x, hj⟩ | hq)
  · exact hD.2 j (q, x) hj
  · exact C.2.2.2.2.2.2.1 q (Nat.le_trans hS.1 hq)
theorem sv_room {ad : Nat → Nat} {st : List Value} {ls : Array Slot} {st0 : List Value} (h : (st.map fun v => v.category).sum ≤ 8) : 2 * (F0 m pc ls st0).monitorRoom + ((st.map (sv_v ad)).map fun v => v.category).sum ≤ 8 := lv_room (by rw [sv_cats]; exact h)
/-- behind a call that made nothing -/
theorem sv_kk (C : sv_C p s m args meth c D cl tys A cc nL own ret) (kk : ∀ (v : Option Value) (ws' : List va_E), P v ws' → sv_V p l e R s m args below meth c D cl A nL ad Q (pc + 3) lv (v.toList ++ st) ws' (k + mc) (n + ms)) :
    ∀ (v : Option Value) (ws' : List va_E) (ad' : Nat → Nat), (∀ i, ¬ (n0 ≤ i ∧ i < n0) → ad' i = ad i) → P v ws' → ∀ (H : Heap) (locs : List Loc) (ls : Array Slot), va_P D cl (sv_w ad' 0 ws') H → va_D A (sv_w ad' 0 ws') → va_S A s.heap H locs → sv_h ad ls nL lv → W p l e R s m args below meth c H locs (k + mc) (n + ms) Q (F0 m (pc + 3) ls ((v.map (sv_v ad')).toList ++ st.map (sv_v ad))) := by
  intro v ws' ad' hag hp H locs ls hP hD hS hl
  have hae : ad' = ad := funext (fun i => hag i (by omega))
  subst hae
  have h := kk v ws' hp H locs ls hP hD hS hl
  have e1 : (v.toList ++ st).map (sv_v ad') = (v.map (sv_v ad')).toList ++ st.map (sv_v ad') := by cases v <;> rfl
  rw [e1] at h
  exact h
theorem sv_callV (C : sv_C p s m args meth c D cl tys A cc nL own ret) {Cn : String} {T : u_T} {N ci : Nat} {fs : List Value} (hM : sv_M l y [Cond.code y bytes maxL rt] rm D cl tys (.ref b :: av) ws n0 n0 P X mc ms) (hs : sv_site own idx y bytes maxL rt av.length) (hi : Cond.instanceMethod y ∈ sv_T) (hsel : Cond.selects Cn y y ∈ sv_T) (hr : sv_fit R rm maxL mc ms)
    (hcl : cl[ci]? = some (Cn, T, N)) (hd : decode cc pc = .ok (.invokevirtual idx, 3)) (hb : ws[b]? = some (.inr (ci, fs))) (hst : (st.map fun v => v.category).sum ≤ 8) (hc : k + mc ≤ R.cells ∧ n + ms ≤ R.slots)
    (kx : ∀ (E : String) (ws' : List va_E), X E ws' → sv_VX p l e R s m args below meth c D cl A nL ad Q pc lv E ws' (k + mc) (n + ms))
    (kk : ∀ (v : Option Value) (ws' : List va_E), P v ws' → sv_V p l e R s m args below meth c D cl A nL ad Q (pc + 3) lv (v.toList ++ st) ws' (k + mc) (n + ms)) :
    sv_V p l e R s m args below meth c D cl A nL ad Q pc lv (av.reverse ++ .ref b :: st) ws k n := by
  refine sv_callG C (ar := (Value.ref (ad b) :: av.map (sv_v ad)).toArray) hc (fun H locs ls hP hD hS hsz => ?_) kx (sv_kk (n0 := n0) C kk)
  refine vx_runV (As := av.map (sv_v ad)) (b := ad b) ⟨C.1, C.2.1, C.2.2.1, C.2.2.2.1, C.2.2.2.2.1⟩ (hM ad H.size) ⟨sv_cb C hs hr, C.2.2.2.2.1 _ hi, C.2.2.2.2.1 _ hsel⟩ ⟨sv_blind, va_recv C.2.2.2.2.2.1 hP hcl (sv_w_at hb), fun U hU hW => sv_pre C hP hD hS hU hW⟩ rfl (by rw [List.length_map]) hsz ?_ (sv_room hst) hd hc
  show (av.reverse ++ .ref b :: st).map (sv_v ad) = _
  rw [List.map_append, List.map_reverse]
  rfl
theorem sv_callS (C : sv_C p s m args meth c D cl tys A cc nL own ret) (hM : sv_M l y [Cond.code y bytes maxL rt] rm D cl tys av ws n0 n0 P X mc ms) (hs : sv_site own idx y bytes maxL rt av.length) (hi : Cond.static y ∈ sv_T) (hr : sv_fit R rm maxL mc ms)
    (hd : decode cc pc = .ok (.invokestatic idx, 3)) (hst : (st.map fun v => v.category).sum ≤ 8) (hc : k + mc ≤ R.cells ∧ n + ms ≤ R.slots)
    (kx : ∀ (E : String) (ws' : List va_E), X E ws' → sv_VX p l e R s m args below meth c D cl A nL ad Q pc lv E ws' (k + mc) (n + ms))
    (kk : ∀ (v : Option Value) (ws' : List va_E), P v ws' → sv_V p l e R s m args below meth c D cl A nL ad Q (pc + 3) lv (v.toList ++ st) ws' (k + mc) (n + ms)) :
    sv_V p l e R s m args below meth c D cl A nL ad Q pc lv (av.reverse ++ st) ws k n := by
  refine sv_callG C (ar := (av.map (sv_v ad)).toArray) hc (fun H locs ls hP hD hS hsz => ?_) kx (sv_kk (n0 := n0) C kk)
  refine vx_runS (As := av.map (sv_v ad)) ⟨C.1, C.2.1, C.2.2.1, C.2.2.2.1, C.2.2.2.2.1⟩ (hM ad H.size) ⟨sv_cb C hs hr, C.2.2.2.2.1 _ hi⟩ ⟨sv_blind, fun U hU hW => sv_pre C hP hD hS hU hW⟩ rfl (by rw [List.length_map]) hsz ?_ (sv_room hst) hd hc
  show (av.reverse ++ st).map (sv_v ad) = _
  rw [List.map_append, List.map_reverse]
/-- a private static method of a nest mate -/
theorem sv_callSN (C : sv_C p s m args meth c D cl tys A cc nL own ret) {host : String} (hM : sv_M l y [Cond.code y bytes maxL rt] rm D cl tys av ws n0 n0 P sv_no mc ms) (hl : Cond.methodLinkNest own idx y host ∈ lw_tbl) (hin : Cond.initialized y.cls ∈ sv_T) (hco : Cond.code y bytes maxL rt ∈ sv_T) (hi : Cond.static y ∈ sv_T) (hmh : y.cls ≠ "java/lang/invoke/MethodHandle" ∧ y.cls ≠ "java/lang/invoke/VarHandle") (hnp : (parseMethodDescriptor y.desc).map (fun d => d.parameters.length) = some av.length) (hr : sv_fit R rm maxL mc ms)
    (hd : decode cc pc = .ok (.invokestatic idx, 3)) (hst : (st.map fun v => v.category).sum ≤ 8) (hc : k + mc ≤ R.cells ∧ n + ms ≤ R.slots)
    (kk : ∀ (v : Option Value) (ws' : List va_E), P v ws' → sv_V p l e R s m args below meth c D cl A nL ad Q (pc + 3) lv (v.toList ++ st) ws' (k + mc) (n + ms)) :
    sv_V p l e R s m args below meth c D cl A nL ad Q pc lv (av.reverse ++ st) ws k n := by
  have hZ := C.2.2.2.2.2.2.2.2.2
  refine sv_callG C (X := sv_no) (ar := (av.map (sv_v ad)).toArray) hc (fun H locs ls hP hD hS hsz => ?_) (fun E ws' h => absurd h id) (sv_kk (n0 := n0) C kk)
  have hrun := va_runSN (e := e) (R := R) (H := H) (locs := locs) (cells := k) (slots := n) (below := below) (meth := meth) (host := host) (g := F0 m pc ls ((av.reverse ++ st).map (sv_v ad))) (rest := st.map (sv_v ad)) (As := av.map (sv_v ad)) ⟨C.1, C.2.1, C.2.2.1, C.2.2.2.1, C.2.2.2.2.1⟩ (sv_met (hM ad H.size) (fun E st t h => by obtain ⟨ws', h, -⟩ := h; exact h))
    ⟨⟨⟨hr.1, hr.2.1, hr.2.2.1, hr.2.2.2, fun w hw => by rw [List.mem_singleton.mp hw]; exact sv_good hZ hco, List.mem_singleton.mpr rfl⟩, C.2.2.2.2.1 _ hco, C.2.2.2.2.1 _ hin, hmh, fun sig h => by rw [h] at hnp; simpa using hnp.symm, sv_word hZ hl (by simp [sv_dc]) args⟩, C.2.2.2.2.1 _ hi, trivial⟩
    ⟨sv_blind, fun U hU hW => sv_pre C hP hD hS hU hW⟩ rfl (by rw [List.length_map]) hsz (by show (av.reverse ++ st).map (sv_v ad) = _; rw [List.map_append, List.map_reverse]) (sv_room hst) hd hc
  intro T hT X0
  exact Or.inl (hrun T hT X0)
/-- throw new E("text"), in a method without handlers -/
theorem sv_throw (C : sv_C p s m args meth c D cl tys A cc nL "StateLogic" ret) (hl : l.stackTraces = false) {cls text : String} {names : List String} {ik is ic : Nat} (hcls : Bundle.fit cls = true) (hnames : ∀ n ∈ names, Bundle.fit n = true)
    (hk : Cond.classLink "StateLogic" ik cls ∈ sv_T) (hini : Cond.initialized cls ∈ sv_T) (hstr : (is, text) ∈ sv_S) (hat : ∀ w ∈ vx_atS "StateLogic" ic cls names, w ∈ lw_tbl ∧ (goodWord w || sv_dc w) = true)
    (hgood : ∀ w ∈ Cond.classLink "StateLogic" ik cls :: Cond.initialized cls :: vx_atS "StateLogic" ic cls names, vx_ot w = true)
    (d0 : decode cc pc = .ok (.new ik, 3)) (d3 : decode cc (pc + 3) = .ok (.dup, 1)) (d4 : decode cc (pc + 4) = .ok (.ldc is, 2)) (d6 : decode cc (pc + 6) = .ok (.invokespecial ic, 3)) (d9 : decode cc (pc + 9) = .ok (.athrow, 1))
    (htab : ∀ x ∈ c.exceptionTable.toList, False) (hRf : names.length + 3 < R.frames) (hRl : 13 * (names.length + 1) + 43 ≤ R.locals) (hRc : k + 1 ≤ R.cells ∧ n + 6 ≤ R.slots) (hc : k + 1 ≤ mc) (hn : n + 6 ≤ ms) {Qc : Array Value → State → Outcome → State → Prop} (hX : X cls ws) :
    sv_V p l e R s m args below meth c D cl A nL ad (vx_MQ below Qc (sv_X D cl A ad X) args s mc ms A) pc lv [] ws k n := by
  intro H locs ls hP hD hS hh
  have hZ := C.2.2.2.2.2.2.2.2.2
  have hlocks : meth.locks = false := C.2.2.2.2.2.2.2.2.1
  have hsz : ls.size = c.maxLocals := by
    obtain ⟨l0, h1, -⟩ := hh
    rw [h1.1, C.2.2.1]
  obtain ⟨s0, a0, hW0, h0, hs0⟩ := hZ.2.2
  obtain ⟨sa, hsa⟩ := hs0 (is, text) hstr
  exact vx_throwS (rest := []) C.1 C.2.1 hl C.2.2.2.1 hcls hnames (C.2.2.2.2.1 _ hk) (C.2.2.2.2.1 _ hini) (vk_R.warm hW0 hsa) (fun w hw => sv_word hZ (hat w hw).1 (hat w hw).2 args) hgood hZ.1 hZ.2.1 hS hsz d0 d3 d4 d6 d9 (fun x hx => absurd (htab x hx) id) hRf (by simpa using hRl) hRc.1 hRc.2 hlocks
    (fun t hvm hle hkeep => ⟨ws, hX, hP.kept (fun k q hk => hkeep q.1 (vx_lt hP hk)), hD, Nat.le_trans hS.1 hle, fun q h1 h2 => (hkeep q (Nat.lt_of_lt_of_le h1 hS.1)).trans (hS.2.1 q h1 h2)⟩) hS.2.2 hc hn
/-- Object's own constructor -/
theorem sv_objInit (C : sv_C p s m args meth c D cl tys A cc nL own ret) {a : Nat} (hlk : Cond.methodLink own idx Lib.objectInit ∈ sv_T) (hi : Cond.instanceMethod Lib.objectInit ∈ sv_T) (hco : Cond.code Lib.objectInit ⟨#[0xb1]⟩ 1 none ∈ sv_T) (hd : decode cc pc = .ok (.invokespecial idx, 3)) (hf : 1 ≤ R.frames) (hlo : (st.map fun v => v.category).sum + 12 ≤ R.locals)
    (kk : sv_V p l e R s m args below meth c D cl A nL ad Q (pc + 3) lv st ws k n) : sv_V p l e R s m args below meth c D cl A nL ad Q pc lv (.ref a :: st) ws k n := by
  intro H locs ls hP hD hS hl
  have hsz : ls.size = c.maxLocals := by
    obtain ⟨l0, h1, -⟩ := hl
    rw [h1.1, C.2.2.1]
  refine W.objInit C.1 C.2.1 C.2.2.2.1 (C.2.2.2.2.1 _ hlk) (C.2.2.2.2.1 _ hi) (C.2.2.2.2.1 _ hco) (g := F0 m pc ls ((.ref a :: st).map (sv_v ad))) rfl hsz rfl hd hf ?_ (kk H locs ls hP hD hS hl)
  show 0 + ((st.map (sv_v ad)).map fun v => v.category).sum + 12 ≤ R.locals
  rw [sv_cats]
  omega
end
end
