/-! Methods with handlers: their start, what they catch, their calls -/
theorem sv_ofH {l : Launch} {y : MethodName} {rm : Room} {D : va_G} {cl : List vw_C} {tys : List (ClassId × FieldType)} {av : List Value} {ws : List va_E} {n0 n1 : Nat} {P : Option Value → List va_E → Prop} {X : String → List va_E → Prop} {mc ms : Nat} {cc : ByteArray} {maxL : Nat} {ret : Option FieldType} {hh : List (Nat × Nat × Nat × Nat)}
    (hy : plainName y.cls = true) (hk : Cond.codeWith y cc maxL ret hh ∈ sv_T) (hlen : (sv_i0 av).length ≤ maxL)
    (body : ∀ (p : Program) (e : Env) (s : State) (m : MethodId) (args : Array Value) (below : List Frame) (meth : Method) (c : Code) (A : Nat → Prop) (ad : Nat → Nat), sv_C p s m args meth c D cl tys A cc maxL y.cls ret → c.exceptionTable.toList = tableOf hh → meth.name = y.name →
      sv_V p l e rm s m args below meth c D cl A maxL ad (vx_MQ below (sv_Q D cl A n0 n1 ad P) (sv_X D cl A ad X) args s mc ms A) 0 (sv_i av maxL) [] ws 0 0) :
    sv_M l y [Cond.codeWith y cc maxL ret hh] rm D cl tys av ws n0 n1 P X mc ms := by
  intro ad sz
  refine vx_ofWH (cc := cc) (maxL := maxL) (ret := ret) (hh := hh) hy rfl ?_
  intro p e s m args below meth c s₁ B hml hv
  obtain ⟨rfl, hsz, hP, hK, hD0, hZ⟩ := hv
  subst hsz
  have htab : c.exceptionTable.toList = tableOf hh := vx_table (x := y) B (sv_Z_ts hZ _ _ hk)
  have hC : sv_C p s m (av.map (sv_v ad)).toArray meth c D cl tys (va_A (sv_w ad 0 ws) s.heap.size) cc maxL y.cls ret :=
    ⟨B.exec, B.bytes, hml, findClass_of_methodNamed B.named, sv_Z_ts hZ _, hK, fun q h => Or.inr h, B.returns, B.notSynchronized, hZ⟩
  have hb := body p e s m _ below meth c _ ad hC htab (name_of_methodNamed B.named B.method).1
  have hl := lv_entry (av.map (sv_v ad)) (n := maxL) (by rw [sv_i0_len]; exact hlen)
  rw [lg_entry_eq]
  exact hb s.heap [] _ hP hD0.self va_S.rf ⟨_, hl, fun i v hi => sv_i_in hi⟩
section
variable {p : Program} {l : Launch} {e : Env} {R : Room} {s : State} {m : MethodId} {args : Array Value} {below : List Frame} {meth : Method} {c : Code} {D : va_G} {cl : List vw_C} {tys : List (ClassId × FieldType)} {A : Nat → Prop} {nL : Nat} {ad ad0 : Nat → Nat} {Q : State → Prop} {cc : ByteArray} {own : String} {ret : Option FieldType} {pc : Nat} {lv : List (Option Value)} {st : List Value} {ws : List va_E} {k n : Nat}
variable {n0 n1 mc ms : Nat} {P : Option Value → List va_E → Prop} {X : String → List va_E → Prop} {XC : String → State → State → Prop}
variable {y : MethodName} {bytes : ByteArray} {maxL np idx : Nat} {rt : Option FieldType} {rm : Room} {av : List Value} {b : Nat}
/-- an E is caught and put by; the rows ahead don't take it -/
theorem sv_catchG (C : sv_C p s m args meth c D cl tys A cc nL own ret) {E name : String} {pc' : Nat} (pre : List ExceptionTableEntry) (x : ExceptionTableEntry) (suf : List ExceptionTableEntry) (hsplit : c.exceptionTable.toList = pre ++ x :: suf)
    (hpass : ∀ z ∈ pre, z.catchType ≠ 0 ∧ ∃ nm : String, Cond.classLink own z.catchType nm ∈ sv_T ∧ (E, nm) ∈ sv_N) (hx : covers x pc = true) (h0 : x.catchType ≠ 0)
    (hlink : Cond.classLink own x.catchType name ∈ sv_T) (hcast : Cond.castable E name ∈ lw_tbl)
    (hst : ∀ (H : Heap) (locs : List Loc) (ls : Array Slot) (q : Nat), ls.size = nL → sv_h ad ls nL lv → (∀ ls' : Array Slot, sv_h ad ls' nL [] → W p l e R s m args below meth c H locs k n Q (F0 m pc' ls' [])) → W p l e R s m args below meth c H locs k n Q (F0 m x.handlerPc ls [.ref q]))
    (kk : sv_V p l e R s m args below meth c D cl A nL ad Q pc' [] [] ws k n) : sv_VX p l e R s m args below meth c D cl A nL ad Q pc lv E ws k n := by
  intro H locs ls st0 ce q hP hD hS hl hc hv hE
  have hZ := C.2.2.2.2.2.2.2.2.2
  have hsz : ls.size = nL := by
    obtain ⟨l0, h1, -⟩ := hl
    exact h1.1
  obtain ⟨s0, a0, hW0, h0', h1', h2'⟩ := hZ.2.2
  refine vx_catch C.2.2.2.1 pre x suf hsplit (fun z hz => ?_) hx h0 (C.2.2.2.2.1 _ hlink) (sv_word hZ hcast (by simp [sv_dc]) args) hc hv hE (hst H locs ls q hsz hl (fun ls' h' => kk H locs ls' hP hD hS h'))
  obtain ⟨hz0, nm, hl1, hn1⟩ := hpass z hz
  exact Or.inr ⟨hz0, nm, C.2.2.2.2.1 _ hl1, va_Nc.moved hW0.alike (h2' _ hn1)⟩
theorem sv_catchN (C : sv_C p s m args meth c D cl tys A cc nL own ret) {E name : String} {z : Fin 4} (pre : List ExceptionTableEntry) (x : ExceptionTableEntry) (suf : List ExceptionTableEntry) (hsplit : c.exceptionTable.toList = pre ++ x :: suf)
    (hpass : ∀ z ∈ pre, z.catchType ≠ 0 ∧ ∃ nm : String, Cond.classLink own z.catchType nm ∈ sv_T ∧ (E, nm) ∈ sv_N) (hx : covers x pc = true) (h0 : x.catchType ≠ 0)
    (hlink : Cond.classLink own x.catchType name ∈ sv_T) (hcast : Cond.castable E name ∈ lw_tbl) (hd : decode cc x.handlerPc = .ok (.astore_n z, 1)) (hi : (z : Nat) < nL)
    (kk : sv_V p l e R s m args below meth c D cl A nL ad Q (x.handlerPc + 1) [] [] ws k n) : sv_VX p l e R s m args below meth c D cl A nL ad Q pc lv E ws k n :=
  sv_catchG C pre x suf hsplit hpass hx h0 hlink hcast (fun H locs ls q _ hl go => by
    obtain ⟨l0, h1, h2⟩ := hl
    exact lv_astore_n C.1 C.2.1 hd rfl h1 hi rfl (fun ls' h3 => go ls' ⟨_, h3, fun i v hv => by simp at hv⟩)) kk
theorem sv_catch (C : sv_C p s m args meth c D cl tys A cc nL own ret) {E name : String} {i : Nat} (pre : List ExceptionTableEntry) (x : ExceptionTableEntry) (suf : List ExceptionTableEntry) (hsplit : c.exceptionTable.toList = pre ++ x :: suf)
    (hpass : ∀ z ∈ pre, z.catchType ≠ 0 ∧ ∃ nm : String, Cond.classLink own z.catchType nm ∈ sv_T ∧ (E, nm) ∈ sv_N) (hx : covers x pc = true) (h0 : x.catchType ≠ 0)
    (hlink : Cond.classLink own x.catchType name ∈ sv_T) (hcast : Cond.castable E name ∈ lw_tbl) (hd : decode cc x.handlerPc = .ok (.astore i, 2)) (hi : i < nL)
    (kk : sv_V p l e R s m args below meth c D cl A nL ad Q (x.handlerPc + 2) [] [] ws k n) : sv_VX p l e R s m args below meth c D cl A nL ad Q pc lv E ws k n :=
  sv_catchG C pre x suf hsplit hpass hx h0 hlink hcast (fun H locs ls q _ hl go => by
    obtain ⟨l0, h1, h2⟩ := hl
    exact lv_astore C.1 C.2.1 hd h1 hi rfl (fun ls' h3 => go ls' ⟨_, h3, fun i v hv => by simp at hv⟩)) kk
/-- a static call of a method with handlers -/
theorem sv_callSX (C : sv_C p s m args meth c D cl tys A cc nL own ret) {hh : List (Nat × Nat × Nat × Nat)} (hM : sv_M l y [Cond.codeWith y bytes maxL rt hh] rm D cl tys av ws n0 n0 P X mc ms) (hlk : Cond.methodLink own idx y ∈ sv_T) (hin : Cond.initialized y.cls ∈ sv_T) (hco : Cond.codeWith y bytes maxL rt hh ∈ sv_T) (hi : Cond.static y ∈ sv_T) (hmh : y.cls ≠ "java/lang/invoke/MethodHandle" ∧ y.cls ≠ "java/lang/invoke/VarHandle") (hnp : (parseMethodDescriptor y.desc).map (fun d => d.parameters.length) = some av.length) (hr : sv_fit R rm maxL mc ms)
    (hd : decode cc pc = .ok (.invokestatic idx, 3)) (hst : (st.map fun v => v.category).sum ≤ 8) (hc : k + mc ≤ R.cells ∧ n + ms ≤ R.slots)
    (kx : ∀ (E : String) (ws' : List va_E), X E ws' → sv_VX p l e R s m args below meth c D cl A nL ad Q pc lv E ws' (k + mc) (n + ms))
    (kk : ∀ (v : Option Value) (ws' : List va_E), P v ws' → sv_V p l e R s m args below meth c D cl A nL ad Q (pc + 3) lv (v.toList ++ st) ws' (k + mc) (n + ms)) :
    sv_V p l e R s m args below meth c D cl A nL ad Q pc lv (av.reverse ++ st) ws k n := by
  have hZ := C.2.2.2.2.2.2.2.2.2
  refine sv_callG C (ar := (av.map (sv_v ad)).toArray) hc (fun H locs ls hP hD hS hsz => ?_) kx (sv_kk (n0 := n0) C kk)
  refine vx_runSX (hh := hh) (As := av.map (sv_v ad)) ⟨C.1, C.2.1, C.2.2.1, C.2.2.2.1, C.2.2.2.2.1⟩ (hM ad H.size)
    ⟨⟨hr.1, hr.2.1, hr.2.2.1, hr.2.2.2, fun w hw => by rw [List.mem_singleton.mp hw]; exact sv_good hZ hco, List.mem_singleton.mpr rfl⟩, C.2.2.2.2.1 _ hco, C.2.2.2.2.1 _ hin, hmh, fun sig h => by rw [h] at hnp; simpa using hnp.symm, C.2.2.2.2.1 _ hlk, C.2.2.2.2.1 _ hi⟩ ⟨sv_blind, fun U hU hW => sv_pre C hP hD hS hU hW⟩ rfl (by rw [List.length_map]) hsz ?_ (sv_room hst) hd hc
  show (av.reverse ++ st).map (sv_v ad) = _
  rw [List.map_append, List.map_reverse]
end
theorem q_La_13 : Cond.classLink "StateLogicLaw" 13 xIA ∈ sv_T := sv_in 167 (by decide +kernel) rfl
theorem q_La_19 : Cond.classLink "StateLogicLaw" 19 xUO ∈ sv_T := sv_in 249 (by decide +kernel) rfl
theorem q_La_29 : Cond.classLink "StateLogicLaw" 29 xIO ∈ sv_T := sv_in 310 (by decide +kernel) rfl
theorem q_La_45 : Cond.classLink "StateLogicLaw" 45 xNS ∈ sv_T := sv_in 477 (by decide +kernel) rfl
theorem qc_IA : Cond.castable xIA xIA ∈ lw_tbl := List.mem_append_right _ (List.mem_of_getElem? (i := 174) (by decide +kernel))
theorem qc_UO : Cond.castable xUO xUO ∈ lw_tbl := List.mem_append_right _ (List.mem_of_getElem? (i := 267) (by decide +kernel))
theorem qc_IO : Cond.castable xIO xIO ∈ lw_tbl := List.mem_append_right _ (List.mem_of_getElem? (i := 321) (by decide +kernel))
theorem qc_NS : Cond.castable xNS xNS ∈ lw_tbl := List.mem_append_right _ (List.mem_of_getElem? (i := 484) (by decide +kernel))
theorem qn_UOIA : (xUO, xIA) ∈ sv_N := by decide +kernel
theorem qn_IAIO : (xIA, xIO) ∈ sv_N := by decide +kernel
theorem qn_NSIO : (xNS, xIO) ∈ sv_N := by decide +kernel
theorem qn_NSIA : (xNS, xIA) ∈ sv_N := by decide +kernel
