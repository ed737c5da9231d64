/-! Contracts over pictures: a method's start, its end, its calls. -/
def sv_P (D : va_G) (cl : List vw_C) (tys : List (ClassId × FieldType)) (av : List Value) (ws : List va_E) (ad : Nat → Nat) (sz : Nat) : Array Value → State → Prop :=
  va_Pc (av.map (sv_v ad)) (fun U => U.heap.size = sz ∧ va_P D cl (sv_w ad 0 ws) U.heap ∧ va_K D cl tys U ∧ va_D (fun _ => True) (sv_w ad 0 ws) ∧ sv_Z (va_A (sv_w ad 0 ws) sz) U)
def sv_Q (D : va_G) (cl : List vw_C) (A : Nat → Prop) (n0 n1 : Nat) (ad : Nat → Nat) (P : Option Value → List va_E → Prop) : Array Value → State → Outcome → State → Prop := fun _ st o t =>
  ∃ (v : Option Value) (ws' : List va_E) (ad' : Nat → Nat), o = .returned (v.map (sv_v ad')) ∧ P v ws' ∧ (∀ i, ¬ (n0 ≤ i ∧ i < n1) → ad' i = ad i) ∧ va_P D cl (sv_w ad' 0 ws') t.heap ∧ va_D A (sv_w ad' 0 ws') ∧ va_F A st t
def sv_X (D : va_G) (cl : List vw_C) (A : Nat → Prop) (ad : Nat → Nat) (X : String → List va_E → Prop) : String → State → State → Prop := fun E st t =>
  ∃ ws' : List va_E, X E ws' ∧ va_P D cl (sv_w ad 0 ws') t.heap ∧ va_D A (sv_w ad 0 ws') ∧ va_F A st t
/-- A METHOD's CONTRACT: with these arguments and cells it returns v and leaves ws' with P v ws', or throws an E with X E ws'; the places n0 .. n1 - 1 are new -/
def sv_M (l : Launch) (y : MethodName) (Wd : List Cond) (rm : Room) (D : va_G) (cl : List vw_C) (tys : List (ClassId × FieldType)) (av : List Value) (ws : List va_E) (n0 n1 : Nat) (P : Option Value → List va_E → Prop) (X : String → List va_E → Prop) (mc ms : Nat) : Prop :=
  ∀ (ad : Nat → Nat) (sz : Nat), vx_Met l y Wd rm (sv_P D cl tys av ws ad sz) (sv_Q D cl (va_A (sv_w ad 0 ws) sz) n0 n1 ad P) (sv_X D cl (va_A (sv_w ad 0 ws) sz) ad X) mc ms (va_A (sv_w ad 0 ws) sz)
/-- it never throws -/
def sv_no : String → List va_E → Prop := fun _ _ => False
/-- the locals at the entry -/
def sv_i0 : List Value → List (Option Value)
  | [] => []
  | v :: r => if v.category = 2 then some v :: none :: sv_i0 r else some v :: sv_i0 r
def sv_i (av : List Value) (n : Nat) : List (Option Value) := sv_i0 av ++ List.replicate (n - (sv_i0 av).length) none
theorem sv_i0_len (ad : Nat → Nat) : ∀ av : List Value, (lg_sl (av.map (sv_v ad))).length = (sv_i0 av).length
  | [] => rfl
  | v :: r => by
    have h := sv_i0_len ad r
    simp only [lg_sl, List.map_cons, List.flatMap_cons, List.length_append, sv_i0, sv_v_cat] at h ⊢
    split <;> simp [h] <;> omega
theorem sv_i0_in (ad : Nat → Nat) : ∀ (av : List Value) (j i : Nat) (v : Value), (sv_i0 av)[i]? = some (some v) → (j + i, sv_v ad v) ∈ lv_args j (av.map (sv_v ad))
  | [], j, i, v, h => by simp [sv_i0] at h
  | w :: r, j, i, v, h => by
    simp only [List.map_cons, lv_args, sv_v_cat]
    by_cases hc : w.category = 2
    · simp only [sv_i0, hc, if_true] at h ⊢
      match i, h with
      | 0, h =>
        have h : w = v := by simpa using h
        rw [h]
        exact List.mem_cons_self
      | 1, h => simp at h
      | i + 2, h =>
        have h1 := sv_i0_in ad r (j + 2) i v (by simpa using h)
        rw [show j + 2 + i = j + (i + 2) by omega] at h1
        exact List.mem_cons_of_mem _ h1
    · simp only [sv_i0, hc, if_false] at h ⊢
      match i, h with
      | 0, h =>
        have h : w = v := by simpa using h
        rw [h]
        exact List.mem_cons_self
      | i + 1, h =>
        have h1 := sv_i0_in ad r (j + 1) i v (by simpa using h)
        rw [show j + 1 + i = j + (i + 1) by omega] at h1
        exact List.mem_cons_of_mem _ h1
theorem sv_i_in {ad : Nat → Nat} {av : List Value} {n i : Nat} {v : Value} (h : (sv_i av n)[i]? = some (some v)) : (i, sv_v ad v) ∈ lv_args 0 (av.map (sv_v ad)) := by
  by_cases hi : i < (sv_i0 av).length
  · rw [sv_i, List.getElem?_append_left hi] at h
    have h1 := sv_i0_in ad av 0 i v h
    rwa [Nat.zero_add] at h1
  · rw [sv_i, List.getElem?_append_right (by omega), List.getElem?_replicate] at h
    split at h <;> simp at h
theorem sv_blind {D : va_G} {cl : List vw_C} {tys : List (ClassId × FieldType)} {av : List Value} {ws : List va_E} {ad : Nat → Nat} {sz : Nat} : FrameBlind (sv_P D cl tys av ws ad sz) := by
  intro a U g mk q
  obtain ⟨q0, q1, qP, qK, qD, z1, z2, s0, a0, z3, z4⟩ := q
  exact ⟨q0, q1, qP, va_K.moved (u := U) (U := U.calling g mk a) (Vm.Alike.refl U.vm) qK, qD, vx_Zq.moved (u := U) (U := U.calling g mk a) (Vm.Alike.refl U.vm) z1, vx_Zq.moved (u := U) (U := U.calling g mk a) (Vm.Alike.refl U.vm) z2, s0, a0, z3, z4⟩
/-- FROM A WALK TO A CONTRACT -/
theorem sv_of {l : Launch} {y : MethodName} {rm : Room} {D : va_G} {cl : List vw_C} {tys : List (ClassId × FieldType)} {av : List Value} {ws : List va_E} {n0 n1 : Nat} {P : Option Value → List va_E → Prop} {X : String → List va_E → Prop} {mc ms : Nat} {cc : ByteArray} {maxL : Nat} {ret : Option FieldType}
    (hy : plainName y.cls = true) (hlen : (sv_i0 av).length ≤ maxL)
    (body : ∀ (p : Program) (e : Env) (s : State) (m : MethodId) (args : Array Value) (below : List Frame) (meth : Method) (c : Code) (A : Nat → Prop) (ad : Nat → Nat), sv_C p s m args meth c D cl tys A cc maxL y.cls ret → (∀ x ∈ c.exceptionTable.toList, False) → meth.name = y.name →
      sv_V p l e rm s m args below meth c D cl A maxL ad (vx_MQ below (sv_Q D cl A n0 n1 ad P) (sv_X D cl A ad X) args s mc ms A) 0 (sv_i av maxL) [] ws 0 0) :
    sv_M l y [Cond.code y cc maxL ret] rm D cl tys av ws n0 n1 P X mc ms := by
  intro ad sz
  refine vx_ofW (cc := cc) (maxL := maxL) (ret := ret) hy rfl ?_
  intro p e s m args below meth c s₁ B hml htab hv
  obtain ⟨rfl, hsz, hP, hK, hD0, hZ⟩ := hv
  subst hsz
  have hC : sv_C p s m (av.map (sv_v ad)).toArray meth c D cl tys (va_A (sv_w ad 0 ws) s.heap.size) cc maxL y.cls ret :=
    ⟨B.exec, B.bytes, hml, findClass_of_methodNamed B.named, sv_Z_ts hZ _, hK, fun q h => Or.inr h, B.returns, B.notSynchronized, hZ⟩
  have hb := body p e s m _ below meth c _ ad hC htab (name_of_methodNamed B.named B.method).1
  have hl := lv_entry (av.map (sv_v ad)) (n := maxL) (by rw [sv_i0_len]; exact hlen)
  rw [lg_entry_eq]
  exact hb s.heap [] _ hP hD0.self va_S.rf ⟨_, hl, fun i v hi => sv_i_in hi⟩
section
variable {p : Program} {l : Launch} {e : Env} {R : Room} {s : State} {m : MethodId} {args : Array Value} {below : List Frame} {meth : Method} {c : Code} {D : va_G} {cl : List vw_C} {tys : List (ClassId × FieldType)} {A : Nat → Prop} {nL : Nat} {ad ad0 : Nat → Nat} {Q : State → Prop} {cc : ByteArray} {own : String} {ret : Option FieldType} {pc : Nat} {lv : List (Option Value)} {st : List Value} {ws : List va_E} {k n : Nat}
variable {n0 n1 mc ms : Nat} {P : Option Value → List va_E → Prop} {X : String → List va_E → Prop} {XC : String → State → State → Prop}
theorem sv_iret (C : sv_C p s m args meth c D cl tys A cc nL own ret) {ty : FieldType} {v : Int32} (hret : ret = some ty) (hnar : narrow ty (.int v) = .int v) (hd : decode cc pc = .ok (.ireturn, 1)) (hk : k ≤ mc) (hn : n ≤ ms) (hag : ∀ i, ¬ (n0 ≤ i ∧ i < n1) → ad i = ad0 i) (hP : P (some (.int v)) ws) :
    sv_V p l e R s m args below meth c D cl A nL ad (vx_MQ below (sv_Q D cl A n0 n1 ad0 P) XC args s mc ms A) pc lv [.int v] ws k n := by
  intro H locs ls hP1 hD hS hl
  have hlocks : meth.locks = false := C.2.2.2.2.2.2.2.2.1
  refine W.widen hk hn (vx_ret ?_)
  exact W.zret C.1 C.2.1 (C.2.2.2.2.2.2.2.1.trans hret) hnar (fun t ht hW => ⟨some (.int v), ws, ad, rfl, hP, hag, by rw [ht]; exact hP1, hD, hS.F ht⟩) hS.2.2 hd hlocks
theorem sv_vret (C : sv_C p s m args meth c D cl tys A cc nL own ret) (hret : ret = none) (hd : decode cc pc = .ok (.return_, 1)) (hk : k ≤ mc) (hn : n ≤ ms) (hag : ∀ i, ¬ (n0 ≤ i ∧ i < n1) → ad i = ad0 i) (hP : P none ws) :
    sv_V p l e R s m args below meth c D cl A nL ad (vx_MQ below (sv_Q D cl A n0 n1 ad0 P) XC args s mc ms A) pc lv [] ws k n := by
  intro H locs ls hP1 hD hS hl
  have hlocks : meth.locks = false := C.2.2.2.2.2.2.2.2.1
  refine W.widen hk hn (vx_ret ?_)
  exact W.vret C.1 C.2.1 (C.2.2.2.2.2.2.2.1.trans hret) (fun t ht hW => ⟨none, ws, ad, rfl, hP, hag, by rw [ht]; exact hP1, hD, hS.F ht⟩) hS.2.2 hd hlocks
/-- q, an E, is thrown over the frame at pc -/
def sv_VX (p : Program) (l : Launch) (e : Env) (R : Room) (s : State) (m : MethodId) (args : Array Value) (below : List Frame) (meth : Method) (c : Code) (D : va_G) (cl : List vw_C) (A : Nat → Prop) (nL : Nat) (ad : Nat → Nat) (Q : State → Prop) (pc : Nat) (lv : List (Option Value)) (E : String) (ws : List va_E) (k n : Nat) : Prop :=
  ∀ (H : Heap) (locs : List Loc) (ls : Array Slot) (st0 : List Value) (ce : Cell) (q : Addr), va_P D cl (sv_w ad 0 ws) H → va_D A (sv_w ad 0 ws) → va_S A s.heap H locs → sv_h ad ls nL lv → H[q]? = some ce → ce.vm = .none → s.vm.findClass E = some ce.cls → vx_W p l e R s m args below meth c H locs k n Q (F0 m pc ls st0) q
theorem sv_out (C : sv_C p s m args meth c D cl tys A cc nL own ret) {E : String} (htab : ∀ x ∈ c.exceptionTable.toList, False) (hk : k ≤ mc) (hn : n ≤ ms) {Qc : Array Value → State → Outcome → State → Prop} (hX : X E ws) :
    sv_VX p l e R s m args below meth c D cl A nL ad (vx_MQ below Qc (sv_X D cl A ad X) args s mc ms A) pc lv E ws k n := by
  intro H locs ls st0 ce q hP hD hS hl hc hv hE
  exact vx_out (fun x hx => absurd (htab x hx) id) C.2.2.2.2.2.2.2.2.1 hc hv hE (fun t ht hvm => ⟨ws, hX, by rw [ht]; exact hP, hD, hS.F ht⟩) hS.2.2 hk hn
/-- A CALL, however it is made -/
theorem sv_callG (C : sv_C p s m args meth c D cl tys A cc nL own ret) {st0 : List Value} {ar : Array Value} (hc : k + mc ≤ R.cells ∧ n + ms ≤ R.slots)
    (hrun : ∀ (H : Heap) (locs : List Loc) (ls : Array Slot), va_P D cl (sv_w ad 0 ws) H → va_D A (sv_w ad 0 ws) → va_S A s.heap H locs → ls.size = nL →
      vx_Run p l e R s m args below meth c H locs k n mc ms (F0 m pc ls (st0.map (sv_v ad))) (st.map (sv_v ad)) (sv_Q D cl (va_A (sv_w ad 0 ws) H.size) n0 n1 ad P ar) (sv_X D cl (va_A (sv_w ad 0 ws) H.size) ad X) (va_A (sv_w ad 0 ws) H.size))
    (kx : ∀ (E : String) (ws' : List va_E), X E ws' → sv_VX p l e R s m args below meth c D cl A nL ad Q pc lv E ws' (k + mc) (n + ms))
    (kk : ∀ (v : Option Value) (ws' : List va_E) (ad' : Nat → Nat), (∀ i, ¬ (n0 ≤ i ∧ i < n1) → ad' i = ad i) → P v ws' → ∀ (H : Heap) (locs : List Loc) (ls : Array Slot), va_P D cl (sv_w ad' 0 ws') H → va_D A (sv_w ad' 0 ws') → va_S A s.heap H locs → sv_h ad ls nL lv → W p l e R s m args below meth c H locs (k + mc) (n + ms) Q (F0 m (pc + 3) ls ((v.map (sv_v ad')).toList ++ st.map (sv_v ad)))) :
    sv_V p l e R s m args below meth c D cl A nL ad Q pc lv st0 ws k n := by
  intro H locs ls hP hD hS hl T hT X0
  have hsz : ls.size = nL := by
    obtain ⟨l0, h1, -⟩ := hl
    exact h1.1
  have hA1 : ∀ q, va_A (sv_w ad 0 ws) H.size q → A q := by
    rintro q (⟨j, x, hj⟩ | hq)
    · exact hD.2 j (q, x) hj
    · exact C.2.2.2.2.2.2.1 q (Nat.le_trans hS.1 hq)
  rcases hrun H locs ls hP hD hS hsz T hT X0 with ⟨v, st₀, t, T', L, h0, X', hL, e1, e2, hq, go⟩ | ⟨q, st₀, t, T', L, E, ce, h0, X', hL, e1, e2, hx, hce, hvm, hcls, go⟩
  · obtain ⟨v', ws', ad', ho, hp, hag, hP1, hD1, hF⟩ := hq
    obtain ⟨-, -, hS1⟩ := vx_keep h0 e1 hS (fun q _ h => hA1 q h) hA1 hL hF
    injection ho with ho
    subst ho
    obtain ⟨t2, s2, q2⟩ := kk v' ws' ad' hag hp T'.heap (locs ++ L) ls (by rw [e1]; exact hP1) (hD1.weaken (fun _ _ _ h => hA1 _ h)) hS1 hl T' rfl X'
    exact ⟨t2, go t2 s2, q2⟩
  · obtain ⟨ws', hX1, hP1, hD1, hF⟩ := hx
    obtain ⟨-, -, hS1⟩ := vx_keep h0 e1 hS (fun q _ h => hA1 q h) hA1 hL hF
    obtain ⟨t2, s2, q2⟩ := kx E ws' hX1 T'.heap (locs ++ L) ls _ ce q (by rw [e1]; exact hP1) (hD1.weaken (fun _ _ _ h => hA1 _ h)) hS1 hl (by rw [e1]; exact hce) hvm hcls T' rfl X'
    exact ⟨t2, go.trans s2, q2⟩
end
