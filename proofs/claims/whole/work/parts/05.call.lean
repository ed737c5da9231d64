/-! Calls by their kinds, throws, making. -/
theorem sv_good {A : Nat → Prop} {s : State} (hZ : sv_Z A s) {w : Cond} (hw : w ∈ sv_T) : ∀ (a' : Array Value) (U : State), s.WarmedH U.vm → w.before a' U = true := fun a' U hW =>
  word_at hW (good_of_word (List.mem_filter.mp hw).2) (sv_Z_ts hZ #[] w hw)
def sv_dc : Cond → Bool
  | .declares _ => true
  | .castable _ _ => true
  | .methodLinkNest _ _ _ _ => true
  | _ => false
theorem sv_word {A : Nat → Prop} {s : State} (hZ : sv_Z A s) {w : Cond} (hw : w ∈ lw_tbl) (hg : (goodWord w || sv_dc w) = true) (args : Array Value) : w.before args s = true := by
  obtain ⟨-, -, s0, a0, hW, h, -⟩ := hZ
  have h0 := h w hw
  rcases Bool.or_eq_true_iff.mp hg with hg | hg
  · exact word_at hW (good_of_word hg) h0
  · cases w with
    | declares x => exact va_Nw.use rfl (va_Nw.warmD hW (va_Nw.of rfl h0))
    | castable a b => exact va_Nw.use rfl (va_Nw.warmC hW (va_Nw.of rfl h0))
    | methodLinkNest a i x b => exact va_Nw.use rfl (va_Nw.warmM hW (va_Nw.of rfl h0))
    | _ => exact absurd hg (by simp [sv_dc])
/-- what a call's instruction links: the callee, its code, its class -/
def sv_site (own : String) (idx : Nat) (y : MethodName) (bytes : ByteArray) (maxL : Nat) (rt : Option FieldType) (np : Nat) : Prop :=
  Cond.methodLink own idx y ∈ sv_T ∧ Cond.initialized y.cls ∈ sv_T ∧ Cond.code y bytes maxL rt ∈ sv_T ∧ (y.cls ≠ "java/lang/invoke/MethodHandle" ∧ y.cls ≠ "java/lang/invoke/VarHandle") ∧ (parseMethodDescriptor y.desc).map (fun d => d.parameters.length) = some np
def sv_fit (R rm : Room) (maxL mc ms : Nat) : Prop := rm.cells = mc ∧ rm.slots = ms ∧ rm.frames + 1 ≤ R.frames ∧ 8 + (maxL + 11) + rm.locals ≤ R.locals
theorem sv_met {l : Launch} {y : MethodName} {ws : List Cond} {rm : Room} {Pc : Array Value → State → Prop} {Qc : Array Value → State → Outcome → State → Prop} {XC : String → State → State → Prop} {mc ms : Nat} {free : Addr → Prop}
    (h : vx_Met l y ws rm Pc Qc XC mc ms free) (hX : ∀ E st t, ¬ XC E st t) : Met l y ws rm Pc Qc mc ms free := by
  intro p e ha hc hk s m args below hf happ hP hK
  obtain ⟨n, o, h1, h2, h3, h4⟩ := h p e ha hc hk s m args below hf happ hP hK
  refine ⟨n, o, h1, h2, h3, ?_⟩
  rcases h4 with h4 | ⟨q, -, E, ce, L, hx, -⟩
  · exact h4
  · exact absurd hx (hX _ _ _)
section
variable {p : Program} {l : Launch} {e : Env} {R : Room} {s : State} {m : MethodId} {args : Array Value} {below : List Frame} {meth : Method} {c : Code} {D : va_G} {cl : List vw_C} {tys : List (ClassId × FieldType)} {A : Nat → Prop} {nL : Nat} {ad ad0 : Nat → Nat} {Q : State → Prop} {cc : ByteArray} {own : String} {ret : Option FieldType} {pc : Nat} {lv : List (Option Value)} {st : List Value} {ws : List va_E} {k n : Nat}
variable {n0 n1 mc ms : Nat} {P : Option Value → List va_E → Prop} {X : String → List va_E → Prop} {XC : String → State → State → Prop}
variable {y : MethodName} {bytes : ByteArray} {maxL np idx : Nat} {rt : Option FieldType} {rm : Room} {av : List Value} {b : Nat}
theorem sv_cb (C : sv_C p s m args meth c D cl tys A cc nL own ret) (hs : sv_site own idx y bytes maxL rt np) (hr : sv_fit R rm maxL mc ms) : CallB R s args own idx y bytes maxL rt [Cond.code y bytes maxL rt] rm mc ms np := by
  have hZ := C.2.2.2.2.2.2.2.2.2
  refine ⟨hr.1, hr.2.1, hr.2.2.1, hr.2.2.2, fun w hw => ?_, List.mem_singleton.mpr rfl, C.2.2.2.2.1 _ hs.2.2.1, C.2.2.2.2.1 _ hs.2.1, hs.2.2.2.1, fun sig h => ?_, C.2.2.2.2.1 _ hs.1⟩
  · rw [List.mem_singleton.mp hw]
    exact sv_good hZ hs.2.2.1
  · have h1 := hs.2.2.2.2
    rw [h] at h1
    simpa using h1.symm
theorem sv_pre (C : sv_C p s m args meth c D cl tys A cc nL own ret) {H : Heap} {locs : List Loc} (hP : va_P D cl (sv_w ad 0 ws) H) (hD : va_D A (sv_w ad 0 ws)) (hS : va_S A s.heap H locs) {U : State} (hU : U.heap = H) (hW : s.WarmedH U.vm) : sv_P D cl tys av ws ad H.size (av.map (sv_v ad)).toArray U := by
  have hZ := C.2.2.2.2.2.2.2.2.2
  refine ⟨rfl, by rw [hU], by rw [hU]; exact hP, va_K.moved hW.alike C.2.2.2.2.2.1, hD.weaken (fun _ _ _ _ => trivial), sv_Z_next hZ hW (by rw [hU]; exact hS.2.1) ?_⟩
  rintro q (⟨j, x, hj⟩ | hq)
  · exact hD.2 j (q, x) hj
  · exact C.2.2.2.2.2.2.1 q (Nat.le_trans hS.1 hq)
theorem sv_room {ad : Nat → Nat} {st : List Value} {ls : Array Slot} {st0 : List Value} (h : (st.map fun v => v.category).sum ≤ 8) : 2 * (F0 m pc ls st0).monitorRoom + ((st.map (sv_v ad)).map fun v => v.category).sum ≤ 8 := lv_room (by rw [sv_cats]; exact h)
/-- behind a call that made nothing -/
theorem sv_kk (C : sv_C p s m args meth c D cl tys A cc nL own ret) (kk : ∀ (v : Option Value) (ws' : List va_E), P v ws' → sv_V p l e R s m args below meth c D cl A nL ad Q (pc + 3) lv (v.toList ++ st) ws' (k + mc) (n + ms)) :
    ∀ (v : Option Value) (ws' : List va_E) (ad' : Nat → Nat), (∀ i, ¬ (n0 ≤ i ∧ i < n0) → ad' i = ad i) → P v ws' → ∀ (H : Heap) (locs : List Loc) (ls : Array Slot), va_P D cl (sv_w ad' 0 ws') H → va_D A (sv_w ad' 0 ws') → va_S A s.heap H locs → sv_h ad ls nL lv → W p l e R s m args below meth c H locs (k + mc) (n + ms) Q (F0 m (pc + 3) ls ((v.map (sv_v ad')).toList ++ st.map (sv_v ad))) := by
  intro v ws' ad' hag hp H locs ls hP hD hS hl
  have hae : ad' = ad := funext (fun i => hag i (by omega))
  subst hae
  have h := kk v ws' hp H locs ls hP hD hS hl
  have e1 : (v.toList ++ st).map (sv_v ad') = (v.map (sv_v ad')).toList ++ st.map (sv_v ad') := by cases v <;> rfl
  rw [e1] at h
  exact h
theorem sv_callV (C : sv_C p s m args meth c D cl tys A cc nL own ret) {Cn : String} {T : u_T} {N ci : Nat} {fs : List Value} (hM : sv_M l y [Cond.code y bytes maxL rt] rm D cl tys (.ref b :: av) ws n0 n0 P X mc ms) (hs : sv_site own idx y bytes maxL rt av.length) (hi : Cond.instanceMethod y ∈ sv_T) (hsel : Cond.selects Cn y y ∈ sv_T) (hr : sv_fit R rm maxL mc ms)
    (hcl : cl[ci]? = some (Cn, T, N)) (hd : decode cc pc = .ok (.invokevirtual idx, 3)) (hb : ws[b]? = some (.inr (ci, fs))) (hst : (st.map fun v => v.category).sum ≤ 8) (hc : k + mc ≤ R.cells ∧ n + ms ≤ R.slots)
    (kx : ∀ (E : String) (ws' : List va_E), X E ws' → sv_VX p l e R s m args below meth c D cl A nL ad Q pc lv E ws' (k + mc) (n + ms))
    (kk : ∀ (v : Option Value) (ws' : List va_E), P v ws' → sv_V p l e R s m args below meth c D cl A nL ad Q (pc + 3) lv (v.toList ++ st) ws' (k + mc) (n + ms)) :
    sv_V p l e R s m args below meth c D cl A nL ad Q pc lv (av.reverse ++ .ref b :: st) ws k n := by
  refine sv_callG C (ar := (Value.ref (ad b) :: av.map (sv_v ad)).toArray) hc (fun H locs ls hP hD hS hsz => ?_) kx (sv_kk (n0 := n0) C kk)
  refine vx_runV (As := av.map (sv_v ad)) (b := ad b) ⟨C.1, C.2.1, C.2.2.1, C.2.2.2.1, C.2.2.2.2.1⟩ (hM ad H.size) ⟨sv_cb C hs hr, C.2.2.2.2.1 _ hi, C.2.2.2.2.1 _ hsel⟩ ⟨sv_blind, va_recv C.2.2.2.2.2.1 hP hcl (sv_w_at hb), fun U hU hW => sv_pre C hP hD hS hU hW⟩ rfl (by rw [List.length_map]) hsz ?_ (sv_room hst) hd hc
  show (av.reverse ++ .ref b :: st).map (sv_v ad) = _
  rw [List.map_append, List.map_reverse]
  rfl
theorem sv_callS (C : sv_C p s m args meth c D cl tys A cc nL own ret) (hM : sv_M l y [Cond.code y bytes maxL rt] rm D cl tys av ws n0 n0 P X mc ms) (hs : sv_site own idx y bytes maxL rt av.length) (hi : Cond.static y ∈ sv_T) (hr : sv_fit R rm maxL mc ms)
    (hd : decode cc pc = .ok (.invokestatic idx, 3)) (hst : (st.map fun v => v.category).sum ≤ 8) (hc : k + mc ≤ R.cells ∧ n + ms ≤ R.slots)
    (kx : ∀ (E : String) (ws' : List va_E), X E ws' → sv_VX p l e R s m args below meth c D cl A nL ad Q pc lv E ws' (k + mc) (n + ms))
    (kk : ∀ (v : Option Value) (ws' : List va_E), P v ws' → sv_V p l e R s m args below meth c D cl A nL ad Q (pc + 3) lv (v.toList ++ st) ws' (k + mc) (n + ms)) :
    sv_V p l e R s m args below meth c D cl A nL ad Q pc lv (av.reverse ++ st) ws k n := by
  refine sv_callG C (ar := (av.map (sv_v ad)).toArray) hc (fun H locs ls hP hD hS hsz => ?_) kx (sv_kk (n0 := n0) C kk)
  refine vx_runS (As := av.map (sv_v ad)) ⟨C.1, C.2.1, C.2.2.1, C.2.2.2.1, C.2.2.2.2.1⟩ (hM ad H.size) ⟨sv_cb C hs hr, C.2.2.2.2.1 _ hi⟩ ⟨sv_blind, fun U hU hW => sv_pre C hP hD hS hU hW⟩ rfl (by rw [List.length_map]) hsz ?_ (sv_room hst) hd hc
  show (av.reverse ++ st).map (sv_v ad) = _
  rw [List.map_append, List.map_reverse]
/-- a private static method of a nest mate -/
theorem sv_callSN (C : sv_C p s m args meth c D cl tys A cc nL own ret) {host : String} (hM : sv_M l y [Cond.code y bytes maxL rt] rm D cl tys av ws n0 n0 P sv_no mc ms) (hl : Cond.methodLinkNest own idx y host ∈ lw_tbl) (hin : Cond.initialized y.cls ∈ sv_T) (hco : Cond.code y bytes maxL rt ∈ sv_T) (hi : Cond.static y ∈ sv_T) (hmh : y.cls ≠ "java/lang/invoke/MethodHandle" ∧ y.cls ≠ "java/lang/invoke/VarHandle") (hnp : (parseMethodDescriptor y.desc).map (fun d => d.parameters.length) = some av.length) (hr : sv_fit R rm maxL mc ms)
    (hd : decode cc pc = .ok (.invokestatic idx, 3)) (hst : (st.map fun v => v.category).sum ≤ 8) (hc : k + mc ≤ R.cells ∧ n + ms ≤ R.slots)
    (kk : ∀ (v : Option Value) (ws' : List va_E), P v ws' → sv_V p l e R s m args below meth c D cl A nL ad Q (pc + 3) lv (v.toList ++ st) ws' (k + mc) (n + ms)) :
    sv_V p l e R s m args below meth c D cl A nL ad Q pc lv (av.reverse ++ st) ws k n := by
  have hZ := C.2.2.2.2.2.2.2.2.2
  refine sv_callG C (X := sv_no) (ar := (av.map (sv_v ad)).toArray) hc (fun H locs ls hP hD hS hsz => ?_) (fun E ws' h => absurd h id) (sv_kk (n0 := n0) C kk)
  have hrun := va_runSN (e := e) (R := R) (H := H) (locs := locs) (cells := k) (slots := n) (below := below) (meth := meth) (host := host) (g := F0 m pc ls ((av.reverse ++ st).map (sv_v ad))) (rest := st.map (sv_v ad)) (As := av.map (sv_v ad)) ⟨C.1, C.2.1, C.2.2.1, C.2.2.2.1, C.2.2.2.2.1⟩ (sv_met (hM ad H.size) (fun E st t h => by obtain ⟨ws', h, -⟩ := h; exact h))
    ⟨⟨⟨hr.1, hr.2.1, hr.2.2.1, hr.2.2.2, fun w hw => by rw [List.mem_singleton.mp hw]; exact sv_good hZ hco, List.mem_singleton.mpr rfl⟩, C.2.2.2.2.1 _ hco, C.2.2.2.2.1 _ hin, hmh, fun sig h => by rw [h] at hnp; simpa using hnp.symm, sv_word hZ hl (by simp [sv_dc]) args⟩, C.2.2.2.2.1 _ hi, trivial⟩
    ⟨sv_blind, fun U hU hW => sv_pre C hP hD hS hU hW⟩ rfl (by rw [List.length_map]) hsz (by show (av.reverse ++ st).map (sv_v ad) = _; rw [List.map_append, List.map_reverse]) (sv_room hst) hd hc
  intro T hT X0
  exact Or.inl (hrun T hT X0)
/-- throw new E("text"), in a method without handlers -/
theorem sv_throw (C : sv_C p s m args meth c D cl tys A cc nL "StateLogic" ret) (hl : l.stackTraces = false) {cls text : String} {names : List String} {ik is ic : Nat} (hcls : Bundle.fit cls = true) (hnames : ∀ n ∈ names, Bundle.fit n = true)
    (hk : Cond.classLink "StateLogic" ik cls ∈ sv_T) (hini : Cond.initialized cls ∈ sv_T) (hstr : (is, text) ∈ sv_S) (hat : ∀ w ∈ vx_atS "StateLogic" ic cls names, w ∈ lw_tbl ∧ (goodWord w || sv_dc w) = true)
    (hgood : ∀ w ∈ Cond.classLink "StateLogic" ik cls :: Cond.initialized cls :: vx_atS "StateLogic" ic cls names, vx_ot w = true)
    (d0 : decode cc pc = .ok (.new ik, 3)) (d3 : decode cc (pc + 3) = .ok (.dup, 1)) (d4 : decode cc (pc + 4) = .ok (.ldc is, 2)) (d6 : decode cc (pc + 6) = .ok (.invokespecial ic, 3)) (d9 : decode cc (pc + 9) = .ok (.athrow, 1))
    (htab : ∀ x ∈ c.exceptionTable.toList, False) (hRf : names.length + 3 < R.frames) (hRl : 13 * (names.length + 1) + 43 ≤ R.locals) (hRc : k + 1 ≤ R.cells ∧ n + 6 ≤ R.slots) (hc : k + 1 ≤ mc) (hn : n + 6 ≤ ms) {Qc : Array Value → State → Outcome → State → Prop} (hX : X cls ws) :
    sv_V p l e R s m args below meth c D cl A nL ad (vx_MQ below Qc (sv_X D cl A ad X) args s mc ms A) pc lv [] ws k n := by
  intro H locs ls hP hD hS hh
  have hZ := C.2.2.2.2.2.2.2.2.2
  have hlocks : meth.locks = false := C.2.2.2.2.2.2.2.2.1
  have hsz : ls.size = c.maxLocals := by
    obtain ⟨l0, h1, -⟩ := hh
    rw [h1.1, C.2.2.1]
  obtain ⟨s0, a0, hW0, h0, hs0⟩ := hZ.2.2
  obtain ⟨sa, hsa⟩ := hs0.1 (is, text) hstr
  exact vx_throwS (rest := []) C.1 C.2.1 hl C.2.2.2.1 hcls hnames (C.2.2.2.2.1 _ hk) (C.2.2.2.2.1 _ hini) (vk_R.warm hW0 hsa) (fun w hw => sv_word hZ (hat w hw).1 (hat w hw).2 args) hgood hZ.1 hZ.2.1 hS hsz d0 d3 d4 d6 d9 (fun x hx => absurd (htab x hx) id) hRf (by simpa using hRl) hRc.1 hRc.2 hlocks
    (fun t hvm hle hkeep => ⟨ws, hX, hP.kept (fun k q hk => hkeep q.1 (vx_lt hP hk)), hD, Nat.le_trans hS.1 hle, fun q h1 h2 => (hkeep q (Nat.lt_of_lt_of_le h1 hS.1)).trans (hS.2.1 q h1 h2)⟩) hS.2.2 hc hn
/-- Object's own constructor -/
theorem sv_objInit (C : sv_C p s m args meth c D cl tys A cc nL own ret) {a : Nat} (hlk : Cond.methodLink own idx Lib.objectInit ∈ sv_T) (hi : Cond.instanceMethod Lib.objectInit ∈ sv_T) (hco : Cond.code Lib.objectInit ⟨#[0xb1]⟩ 1 none ∈ sv_T) (hd : decode cc pc = .ok (.invokespecial idx, 3)) (hf : 1 ≤ R.frames) (hlo : (st.map fun v => v.category).sum + 12 ≤ R.locals)
    (kk : sv_V p l e R s m args below meth c D cl A nL ad Q (pc + 3) lv st ws k n) : sv_V p l e R s m args below meth c D cl A nL ad Q pc lv (.ref a :: st) ws k n := by
  intro H locs ls hP hD hS hl
  have hsz : ls.size = c.maxLocals := by
    obtain ⟨l0, h1, -⟩ := hl
    rw [h1.1, C.2.2.1]
  refine W.objInit C.1 C.2.1 C.2.2.2.1 (C.2.2.2.2.1 _ hlk) (C.2.2.2.2.1 _ hi) (C.2.2.2.2.1 _ hco) (g := F0 m pc ls ((.ref a :: st).map (sv_v ad))) rfl hsz rfl hd hf ?_ (kk H locs ls hP hD hS hl)
  show 0 + ((st.map (sv_v ad)).map fun v => v.category).sum + 12 ≤ R.locals
  rw [sv_cats]
  omega
end
