/-- the words of the tables that stay true -/
def sv_T : List Cond := lw_tbl.filter goodWord
/-- the class's text constants, by their entries -/
def sv_S : List (Nat × String) := [(27, "the number of bits isn't 1 .. 8"), (125, "the mask or the value isn't a state"), (127, "the value has a bit that the mask hasn't"), (47, "the bits kept or flipped aren't a state"), (55, "there are 40 rules"), (62, "there is no such kind"), (70, "a part isn't there"), (75, "there are 60 formulas"), (131, "there is no such formula"), (134, "there is no such state"), (140, "the formula is no UNTIL"), (116, "the witness has no such state")]
/-- thrown classes, and names of handlers that they don't come to -/
def sv_N : List (String × String) := [("java/lang/UnsupportedOperationException", "java/lang/IllegalArgumentException"), ("java/lang/IllegalArgumentException", "java/lang/IndexOutOfBoundsException"), ("java/util/NoSuchElementException", "java/lang/IndexOutOfBoundsException"), ("java/util/NoSuchElementException", "java/lang/IllegalArgumentException")]
/-- what a state knows of the launch: where two statics of Throwable lie, and that its tables are warmer than ones in which every word holds -/
def sv_Z (A : Nat → Prop) (U : State) : Prop := vx_Zq Bundle.tN "UNASSIGNED_STACK" Bundle.steD A U U.heap ∧ vx_Zq Bundle.tN "SUPPRESSED_SENTINEL" Bundle.listD A U U.heap ∧
  ∃ (s0 : State) (a0 : Array Value), s0.WarmedH U.vm ∧ (∀ w ∈ lw_tbl, w.before a0 s0 = true) ∧ (∀ q ∈ sv_S, ∃ a, vk_R "StateLogic" q.1 q.2 a s0) ∧ ∀ q ∈ sv_N, va_Nc q.1 q.2 s0
theorem sv_Z_ts {A : Nat → Prop} {U : State} (h : sv_Z A U) (a : Array Value) : ∀ w ∈ sv_T, w.before a U = true := by
  obtain ⟨-, -, s0, a0, hW, h, -⟩ := h
  intro w hw
  obtain ⟨h1, h2⟩ := List.mem_filter.mp hw
  exact word_at hW (good_of_word h2) (h w h1)
theorem sv_Z_next {A B : Nat → Prop} {s U : State} (h : sv_Z A s) (hW : s.WarmedH U.vm) (hS : ∀ q : Nat, q < s.heap.size → ¬ A q → U.heap[q]? = s.heap[q]?) (hB : ∀ q, B q → A q) : sv_Z B U := by
  obtain ⟨h1, h2, s0, a0, hW0, h3, h4⟩ := h
  exact ⟨(vx_Zq.moved hW.alike (h1.kept hS)).narrow hB, (vx_Zq.moved hW.alike (h2.kept hS)).narrow hB, s0, a0, State.WarmedH.trans hW0 hW, h3, h4⟩
theorem sv_in {w : Cond} (i : Nat) (h : tables_1[i]? = some w) (g : goodWord w = true) : w ∈ sv_T := List.mem_filter.mpr ⟨List.mem_append_right _ (List.mem_of_getElem? h), g⟩
theorem sv_inP {w : Cond} (h : w ∈ k2_sels lw_privs) (g : goodWord w = true) : w ∈ sv_T := List.mem_filter.mpr ⟨List.mem_append_left _ h, g⟩

/-! A walk over a picture of the heap: cells in a row, a reference is the place of its cell. -/
/-- a value, its reference read as a place, as the machine has it -/
def sv_v (ad : Nat → Nat) : Value → Value
  | .ref k => .ref (ad k)
  | v => v
def sv_e (ad : Nat → Nat) : va_E → va_E
  | .inl x => .inl x
  | .inr o => .inr (o.1, o.2.map (sv_v ad))
def sv_w (ad : Nat → Nat) : Nat → List va_E → va_W
  | _, [] => []
  | i, x :: r => (ad i, sv_e ad x) :: sv_w ad (i + 1) r
theorem sv_v_cat (ad : Nat → Nat) (v : Value) : (sv_v ad v).category = v.category := by cases v <;> rfl
theorem sv_cats (ad : Nat → Nat) (st : List Value) : ((st.map (sv_v ad)).map fun v => v.category) = st.map fun v => v.category := by
  rw [List.map_map]
  exact List.map_congr_left (fun v _ => sv_v_cat ad v)
theorem sv_w_get (ad : Nat → Nat) : ∀ (i : Nat) (ws : List va_E) (k : Nat), (sv_w ad i ws)[k]? = (ws[k]?).map (fun x => (ad (i + k), sv_e ad x))
  | i, [], k => by simp [sv_w]
  | i, x :: r, 0 => by simp [sv_w]
  | i, x :: r, k + 1 => by
    have h := sv_w_get ad (i + 1) r k
    rw [show i + 1 + k = i + (k + 1) by omega] at h
    simpa [sv_w] using h
theorem sv_w_at {ad : Nat → Nat} {ws : List va_E} {k : Nat} {x : va_E} (h : ws[k]? = some x) : (sv_w ad 0 ws)[k]? = some (ad k, sv_e ad x) := by
  rw [sv_w_get, h, Nat.zero_add]
  rfl
theorem sv_w_set (ad : Nat → Nat) : ∀ (i : Nat) (ws : List va_E) (k : Nat) (x : va_E), (sv_w ad i ws).set k (ad (i + k), sv_e ad x) = sv_w ad i (ws.set k x)
  | i, [], k, x => by simp [sv_w]
  | i, y :: r, 0, x => by simp [sv_w]
  | i, y :: r, k + 1, x => by
    have h := sv_w_set ad (i + 1) r k x
    rw [show i + 1 + k = i + (k + 1) by omega] at h
    simpa [sv_w] using h
theorem sv_w_put (ad : Nat → Nat) (ws : List va_E) (k : Nat) (x : va_E) : (sv_w ad 0 ws).set k (ad k, sv_e ad x) = sv_w ad 0 (ws.set k x) := by
  have h := sv_w_set ad 0 ws k x
  rwa [Nat.zero_add] at h
theorem sv_w_app (ad : Nat → Nat) : ∀ (i : Nat) (ws : List va_E) (x : va_E), sv_w ad i (ws ++ [x]) = sv_w ad i ws ++ [(ad (i + ws.length), sv_e ad x)]
  | i, [], x => by simp [sv_w]
  | i, y :: r, x => by
    have h := sv_w_app ad (i + 1) r x
    rw [show i + 1 + r.length = i + (r.length + 1) by omega] at h
    simpa [sv_w] using h
/-- what is known of the locals -/
def sv_h (ad : Nat → Nat) (ls : Array Slot) (nL : Nat) (lv : List (Option Value)) : Prop := ∃ l, lv_has ls nL l ∧ ∀ (i : Nat) (v : Value), lv[i]? = some (some v) → (i, sv_v ad v) ∈ l
theorem sv_h_at {ad : Nat → Nat} {ls : Array Slot} {nL : Nat} {lv : List (Option Value)} (h : sv_h ad ls nL lv) {i : Nat} {v : Value} (hi : lv[i]? = some (some v)) : ls[i]? = some (.val (sv_v ad v)) := by
  obtain ⟨l, hl, h⟩ := h
  exact hl.2.2 _ (h i v hi)
/-- no long lies just ahead of the place i -/
def sv_lk (lv : List (Option Value)) (i : Nat) : Bool := match i with
  | 0 => true
  | j + 1 => match lv[j]? with
    | some (some v) => v.category != 2
    | _ => true
theorem sv_lk_spec {lv : List (Option Value)} {i j : Nat} {v : Value} (h : sv_lk lv i = true) (hj : lv[j]? = some (some v)) : ¬ (j + 1 = i ∧ v.category = 2) := by
  rintro ⟨rfl, hc⟩
  simp [sv_lk, hj, hc] at h
theorem sv_h_set1 {ad : Nat → Nat} {ls : Array Slot} {nL : Nat} {l : List (Nat × Value)} {lv : List (Option Value)} {i : Nat} {v w : Value} (hw : w = sv_v ad v) (hk : sv_lk lv i = true) (h : ∀ (i : Nat) (v : Value), lv[i]? = some (some v) → (i, sv_v ad v) ∈ l)
    (hl : lv_has ls nL ((i, w) :: l.filter (fun q => !(q.1 == i) && !(q.1 + 1 == i && q.2.category == 2)))) : sv_h ad ls nL (lv.set i (some v)) := by
  refine ⟨_, hl, fun j u hj => ?_⟩
  by_cases e : j = i
  · subst e
    rw [List.getElem?_set] at hj
    simp only [if_true] at hj
    split at hj
    · have hj : v = u := by simpa using hj
      rw [hw, hj]
      exact List.mem_cons_self
    · cases hj
  · rw [List.getElem?_set_ne (fun q => e q.symm)] at hj
    refine List.mem_cons_of_mem _ (List.mem_filter.mpr ⟨h j u hj, ?_⟩)
    have h2 := sv_lk_spec hk hj
    simp only [sv_v_cat, Bool.and_eq_true, Bool.not_eq_true', beq_eq_false_iff_ne, Bool.and_eq_false_iff, ne_eq]
    refine ⟨e, ?_⟩
    by_cases e2 : j + 1 = i
    · exact Or.inr (fun q => h2 ⟨e2, q⟩)
    · exact Or.inl e2
theorem sv_h_set2 {ad : Nat → Nat} {ls : Array Slot} {nL : Nat} {l : List (Nat × Value)} {lv : List (Option Value)} {i : Nat} {v w : Value} (hw : w = sv_v ad v) (hk : sv_lk lv i = true) (h : ∀ (i : Nat) (v : Value), lv[i]? = some (some v) → (i, sv_v ad v) ∈ l)
    (hl : lv_has ls nL ((i, w) :: l.filter (fun q => !(q.1 == i) && (!(q.1 == i + 1) && !(q.1 + 1 == i && q.2.category == 2))))) : sv_h ad ls nL ((lv.set i (some v)).set (i + 1) none) := by
  refine ⟨_, hl, fun j u hj => ?_⟩
  by_cases e1 : j = i + 1
  · subst e1
    rw [List.getElem?_set] at hj
    simp only [if_true] at hj
    split at hj <;> simp at hj
  · rw [List.getElem?_set_ne (fun q => e1 q.symm)] at hj
    by_cases e : j = i
    · subst e
      rw [List.getElem?_set] at hj
      simp only [if_true] at hj
      split at hj
      · have hj : v = u := by simpa using hj
        rw [hw, hj]
        exact List.mem_cons_self
      · cases hj
    · rw [List.getElem?_set_ne (fun q => e q.symm)] at hj
      refine List.mem_cons_of_mem _ (List.mem_filter.mpr ⟨h j u hj, ?_⟩)
      have h2 := sv_lk_spec hk hj
      simp only [sv_v_cat, Bool.and_eq_true, Bool.not_eq_true', beq_eq_false_iff_ne, Bool.and_eq_false_iff, ne_eq]
      refine ⟨e, e1, ?_⟩
      by_cases e2 : j + 1 = i
      · exact Or.inr (fun q => h2 ⟨e2, q⟩)
      · exact Or.inl e2
/-- THE WALK at pc, with locals lv, stack st, cells ws, k cells of n slots made -/
def sv_V (p : Program) (l : Launch) (e : Env) (R : Room) (s : State) (m : MethodId) (args : Array Value) (below : List Frame) (meth : Method) (c : Code) (D : va_G) (cl : List vw_C) (A : Nat → Prop) (nL : Nat) (ad : Nat → Nat) (Q : State → Prop) (pc : Nat) (lv : List (Option Value)) (st : List Value) (ws : List va_E) (k n : Nat) : Prop :=
  ∀ (H : Heap) (locs : List Loc) (ls : Array Slot), va_P D cl (sv_w ad 0 ws) H → va_D A (sv_w ad 0 ws) → va_S A s.heap H locs → sv_h ad ls nL lv → W p l e R s m args below meth c H locs k n Q (F0 m pc ls (st.map (sv_v ad)))
/-- what a walk knows all along -/
def sv_C (p : Program) (s : State) (m : MethodId) (args : Array Value) (meth : Method) (c : Code) (D : va_G) (cl : List vw_C) (tys : List (ClassId × FieldType)) (A : Nat → Prop) (cc : ByteArray) (nL : Nat) (own : String) (ret : Option FieldType) : Prop :=
  p.tables.exec = Jvm.exec ∧ c.code = cc ∧ c.maxLocals = nL ∧ s.vm.findClass own = some m.cls ∧ (∀ w ∈ sv_T, w.before args s = true) ∧ va_K D cl tys s ∧ (∀ q, s.heap.size ≤ q → A q) ∧ meth.sig.returnType = ret ∧ meth.locks = false ∧ sv_Z A s
section
variable {p : Program} {l : Launch} {e : Env} {R : Room} {s : State} {m : MethodId} {args : Array Value} {below : List Frame} {meth : Method} {c : Code} {D : va_G} {cl : List vw_C} {tys : List (ClassId × FieldType)} {A : Nat → Prop} {nL : Nat} {ad : Nat → Nat} {Q : State → Prop} {cc : ByteArray} {own : String} {ret : Option FieldType} {pc : Nat} {lv : List (Option Value)} {st : List Value} {ws : List va_E} {k n : Nat}
theorem sv_iadd (C : sv_C p s m args meth c D cl tys A cc nL own ret) {x y : Int32} (hd : decode cc pc = .ok (.iadd, 1)) (kk : sv_V p l e R s m args below meth c D cl A nL ad Q (pc + 1) lv (.int (x + y) :: st) ws k n) : sv_V p l e R s m args below meth c D cl A nL ad Q pc lv (.int y :: .int x :: st) ws k n :=
  fun H locs ls hP hD hS hl => lv_iadd C.1 C.2.1 hd (kk H locs ls hP hD hS hl)
theorem sv_isub (C : sv_C p s m args meth c D cl tys A cc nL own ret) {x y : Int32} (hd : decode cc pc = .ok (.isub, 1)) (kk : sv_V p l e R s m args below meth c D cl A nL ad Q (pc + 1) lv (.int (x - y) :: st) ws k n) : sv_V p l e R s m args below meth c D cl A nL ad Q pc lv (.int y :: .int x :: st) ws k n :=
  fun H locs ls hP hD hS hl => lv_isub C.1 C.2.1 hd (kk H locs ls hP hD hS hl)
theorem sv_imul (C : sv_C p s m args meth c D cl tys A cc nL own ret) {x y : Int32} (hd : decode cc pc = .ok (.imul, 1)) (kk : sv_V p l e R s m args below meth c D cl A nL ad Q (pc + 1) lv (.int (x * y) :: st) ws k n) : sv_V p l e R s m args below meth c D cl A nL ad Q pc lv (.int y :: .int x :: st) ws k n :=
  fun H locs ls hP hD hS hl => lv_imul C.1 C.2.1 hd (kk H locs ls hP hD hS hl)
theorem sv_iand (C : sv_C p s m args meth c D cl tys A cc nL own ret) {x y : Int32} (hd : decode cc pc = .ok (.iand, 1)) (kk : sv_V p l e R s m args below meth c D cl A nL ad Q (pc + 1) lv (.int (x &&& y) :: st) ws k n) : sv_V p l e R s m args below meth c D cl A nL ad Q pc lv (.int y :: .int x :: st) ws k n :=
  fun H locs ls hP hD hS hl => lv_iand C.1 C.2.1 hd (kk H locs ls hP hD hS hl)
theorem sv_ior (C : sv_C p s m args meth c D cl tys A cc nL own ret) {x y : Int32} (hd : decode cc pc = .ok (.ior, 1)) (kk : sv_V p l e R s m args below meth c D cl A nL ad Q (pc + 1) lv (.int (x ||| y) :: st) ws k n) : sv_V p l e R s m args below meth c D cl A nL ad Q pc lv (.int y :: .int x :: st) ws k n :=
  fun H locs ls hP hD hS hl => lv_ior C.1 C.2.1 hd (kk H locs ls hP hD hS hl)
theorem sv_ixor (C : sv_C p s m args meth c D cl tys A cc nL own ret) {x y : Int32} (hd : decode cc pc = .ok (.ixor, 1)) (kk : sv_V p l e R s m args below meth c D cl A nL ad Q (pc + 1) lv (.int (x ^^^ y) :: st) ws k n) : sv_V p l e R s m args below meth c D cl A nL ad Q pc lv (.int y :: .int x :: st) ws k n :=
  fun H locs ls hP hD hS hl => lv_ixor C.1 C.2.1 hd (kk H locs ls hP hD hS hl)
theorem sv_ladd (C : sv_C p s m args meth c D cl tys A cc nL own ret) {x y : Int64} (hd : decode cc pc = .ok (.ladd, 1)) (kk : sv_V p l e R s m args below meth c D cl A nL ad Q (pc + 1) lv (.long (x + y) :: st) ws k n) : sv_V p l e R s m args below meth c D cl A nL ad Q pc lv (.long y :: .long x :: st) ws k n :=
  fun H locs ls hP hD hS hl => lv_ladd C.1 C.2.1 hd (kk H locs ls hP hD hS hl)
theorem sv_lsub (C : sv_C p s m args meth c D cl tys A cc nL own ret) {x y : Int64} (hd : decode cc pc = .ok (.lsub, 1)) (kk : sv_V p l e R s m args below meth c D cl A nL ad Q (pc + 1) lv (.long (x - y) :: st) ws k n) : sv_V p l e R s m args below meth c D cl A nL ad Q pc lv (.long y :: .long x :: st) ws k n :=
  fun H locs ls hP hD hS hl => lv_lsub C.1 C.2.1 hd (kk H locs ls hP hD hS hl)
theorem sv_lmul (C : sv_C p s m args meth c D cl tys A cc nL own ret) {x y : Int64} (hd : decode cc pc = .ok (.lmul, 1)) (kk : sv_V p l e R s m args below meth c D cl A nL ad Q (pc + 1) lv (.long (x * y) :: st) ws k n) : sv_V p l e R s m args below meth c D cl A nL ad Q pc lv (.long y :: .long x :: st) ws k n :=
  fun H locs ls hP hD hS hl => lv_lmul C.1 C.2.1 hd (kk H locs ls hP hD hS hl)
theorem sv_land (C : sv_C p s m args meth c D cl tys A cc nL own ret) {x y : Int64} (hd : decode cc pc = .ok (.land, 1)) (kk : sv_V p l e R s m args below meth c D cl A nL ad Q (pc + 1) lv (.long (x &&& y) :: st) ws k n) : sv_V p l e R s m args below meth c D cl A nL ad Q pc lv (.long y :: .long x :: st) ws k n :=
  fun H locs ls hP hD hS hl => lv_land C.1 C.2.1 hd (kk H locs ls hP hD hS hl)
theorem sv_lor (C : sv_C p s m args meth c D cl tys A cc nL own ret) {x y : Int64} (hd : decode cc pc = .ok (.lor, 1)) (kk : sv_V p l e R s m args below meth c D cl A nL ad Q (pc + 1) lv (.long (x ||| y) :: st) ws k n) : sv_V p l e R s m args below meth c D cl A nL ad Q pc lv (.long y :: .long x :: st) ws k n :=
  fun H locs ls hP hD hS hl => lv_lor C.1 C.2.1 hd (kk H locs ls hP hD hS hl)
theorem sv_lxor (C : sv_C p s m args meth c D cl tys A cc nL own ret) {x y : Int64} (hd : decode cc pc = .ok (.lxor, 1)) (kk : sv_V p l e R s m args below meth c D cl A nL ad Q (pc + 1) lv (.long (x ^^^ y) :: st) ws k n) : sv_V p l e R s m args below meth c D cl A nL ad Q pc lv (.long y :: .long x :: st) ws k n :=
  fun H locs ls hP hD hS hl => lv_lxor C.1 C.2.1 hd (kk H locs ls hP hD hS hl)
theorem sv_ishl (C : sv_C p s m args meth c D cl tys A cc nL own ret) {x y : Int32} (hd : decode cc pc = .ok (.ishl, 1)) (kk : sv_V p l e R s m args below meth c D cl A nL ad Q (pc + 1) lv (.int (x <<< (y &&& 31)) :: st) ws k n) : sv_V p l e R s m args below meth c D cl A nL ad Q pc lv (.int y :: .int x :: st) ws k n :=
  fun H locs ls hP hD hS hl => lv_ishl C.1 C.2.1 hd (kk H locs ls hP hD hS hl)
theorem sv_ishr (C : sv_C p s m args meth c D cl tys A cc nL own ret) {x y : Int32} (hd : decode cc pc = .ok (.ishr, 1)) (kk : sv_V p l e R s m args below meth c D cl A nL ad Q (pc + 1) lv (.int (x >>> (y &&& 31)) :: st) ws k n) : sv_V p l e R s m args below meth c D cl A nL ad Q pc lv (.int y :: .int x :: st) ws k n :=
  fun H locs ls hP hD hS hl => lv_ishr C.1 C.2.1 hd (kk H locs ls hP hD hS hl)
theorem sv_iushr (C : sv_C p s m args meth c D cl tys A cc nL own ret) {x y : Int32} (hd : decode cc pc = .ok (.iushr, 1)) (kk : sv_V p l e R s m args below meth c D cl A nL ad Q (pc + 1) lv (.int ((x.toUInt32 >>> (y.toUInt32 &&& Int32.toUInt32 31)).toInt32) :: st) ws k n) : sv_V p l e R s m args below meth c D cl A nL ad Q pc lv (.int y :: .int x :: st) ws k n :=
  fun H locs ls hP hD hS hl => lv_iushr C.1 C.2.1 hd rfl (kk H locs ls hP hD hS hl)
theorem sv_lushr (C : sv_C p s m args meth c D cl tys A cc nL own ret) {x : Int64} {y : Int32} (hd : decode cc pc = .ok (.lushr, 1)) (kk : sv_V p l e R s m args below meth c D cl A nL ad Q (pc + 1) lv (.long ((x.toUInt64 >>> (y.toInt64.toUInt64 &&& Int64.toUInt64 63)).toInt64) :: st) ws k n) : sv_V p l e R s m args below meth c D cl A nL ad Q pc lv (.int y :: .long x :: st) ws k n :=
  fun H locs ls hP hD hS hl => lv_lushr C.1 C.2.1 hd rfl (kk H locs ls hP hD hS hl)
theorem sv_lshl (C : sv_C p s m args meth c D cl tys A cc nL own ret) {x : Int64} {y : Int32} (hd : decode cc pc = .ok (.lshl, 1)) (kk : sv_V p l e R s m args below meth c D cl A nL ad Q (pc + 1) lv (.long (x <<< (y.toInt64 &&& 63)) :: st) ws k n) : sv_V p l e R s m args below meth c D cl A nL ad Q pc lv (.int y :: .long x :: st) ws k n :=
  fun H locs ls hP hD hS hl => lv_lshl C.1 C.2.1 hd rfl (kk H locs ls hP hD hS hl)
theorem sv_ineg (C : sv_C p s m args meth c D cl tys A cc nL own ret) {x : Int32} (hd : decode cc pc = .ok (.ineg, 1)) (kk : sv_V p l e R s m args below meth c D cl A nL ad Q (pc + 1) lv (.int (-x) :: st) ws k n) : sv_V p l e R s m args below meth c D cl A nL ad Q pc lv (.int x :: st) ws k n :=
  fun H locs ls hP hD hS hl => lv_ineg C.1 C.2.1 hd (kk H locs ls hP hD hS hl)
theorem sv_lneg (C : sv_C p s m args meth c D cl tys A cc nL own ret) {x : Int64} (hd : decode cc pc = .ok (.lneg, 1)) (kk : sv_V p l e R s m args below meth c D cl A nL ad Q (pc + 1) lv (.long (-x) :: st) ws k n) : sv_V p l e R s m args below meth c D cl A nL ad Q pc lv (.long x :: st) ws k n :=
  fun H locs ls hP hD hS hl => lv_lneg C.1 C.2.1 hd (kk H locs ls hP hD hS hl)
theorem sv_i2l (C : sv_C p s m args meth c D cl tys A cc nL own ret) {x : Int32} (hd : decode cc pc = .ok (.i2l, 1)) (kk : sv_V p l e R s m args below meth c D cl A nL ad Q (pc + 1) lv (.long x.toInt64 :: st) ws k n) : sv_V p l e R s m args below meth c D cl A nL ad Q pc lv (.int x :: st) ws k n :=
  fun H locs ls hP hD hS hl => lv_i2l C.1 C.2.1 hd rfl (kk H locs ls hP hD hS hl)
theorem sv_l2i (C : sv_C p s m args meth c D cl tys A cc nL own ret) {x : Int64} (hd : decode cc pc = .ok (.l2i, 1)) (kk : sv_V p l e R s m args below meth c D cl A nL ad Q (pc + 1) lv (.int x.toInt32 :: st) ws k n) : sv_V p l e R s m args below meth c D cl A nL ad Q pc lv (.long x :: st) ws k n :=
  fun H locs ls hP hD hS hl => lv_l2i C.1 C.2.1 hd rfl (kk H locs ls hP hD hS hl)
theorem sv_lcmp (C : sv_C p s m args meth c D cl tys A cc nL own ret) {x y : Int64} (hd : decode cc pc = .ok (.lcmp, 1)) (kk : sv_V p l e R s m args below meth c D cl A nL ad Q (pc + 1) lv (.int (lg_cmp x y) :: st) ws k n) : sv_V p l e R s m args below meth c D cl A nL ad Q pc lv (.long y :: .long x :: st) ws k n :=
  fun H locs ls hP hD hS hl => W.lcmp C.1 C.2.1 hd (kk H locs ls hP hD hS hl)
theorem sv_idiv (C : sv_C p s m args meth c D cl tys A cc nL own ret) {x y : Int32} (hd : decode cc pc = .ok (.idiv, 1)) (hne : ¬ y = 0) (kk : sv_V p l e R s m args below meth c D cl A nL ad Q (pc + 1) lv (.int (x / y) :: st) ws k n) : sv_V p l e R s m args below meth c D cl A nL ad Q pc lv (.int y :: .int x :: st) ws k n :=
  fun H locs ls hP hD hS hl => lv_idiv C.1 C.2.1 hd hne (kk H locs ls hP hD hS hl)
theorem sv_irem (C : sv_C p s m args meth c D cl tys A cc nL own ret) {x y : Int32} (hd : decode cc pc = .ok (.irem, 1)) (hne : ¬ y = 0) (kk : sv_V p l e R s m args below meth c D cl A nL ad Q (pc + 1) lv (.int (x - x / y * y) :: st) ws k n) : sv_V p l e R s m args below meth c D cl A nL ad Q pc lv (.int y :: .int x :: st) ws k n :=
  fun H locs ls hP hD hS hl => lv_irem C.1 C.2.1 hd hne (kk H locs ls hP hD hS hl)
theorem sv_iconst (C : sv_C p s m args meth c D cl tys A cc nL own ret) {z : Int} {v : Int32} (hd : decode cc pc = .ok (.iconst z, 1)) (hv : Int32.ofInt z = v) (kk : sv_V p l e R s m args below meth c D cl A nL ad Q (pc + 1) lv (.int v :: st) ws k n) : sv_V p l e R s m args below meth c D cl A nL ad Q pc lv (st) ws k n :=
  fun H locs ls hP hD hS hl => lv_iconst C.1 C.2.1 hd hv (kk H locs ls hP hD hS hl)
theorem sv_bipush (C : sv_C p s m args meth c D cl tys A cc nL own ret) {z : Int} {v : Int32} (hd : decode cc pc = .ok (.bipush z, 2)) (hv : (Int8.ofInt z).toInt32 = v) (kk : sv_V p l e R s m args below meth c D cl A nL ad Q (pc + 2) lv (.int v :: st) ws k n) : sv_V p l e R s m args below meth c D cl A nL ad Q pc lv (st) ws k n :=
  fun H locs ls hP hD hS hl => lv_bipush C.1 C.2.1 hd hv (kk H locs ls hP hD hS hl)
theorem sv_sipush (C : sv_C p s m args meth c D cl tys A cc nL own ret) {z : Int} {v : Int32} (hd : decode cc pc = .ok (.sipush z, 3)) (hv : (Int16.ofInt z).toInt32 = v) (kk : sv_V p l e R s m args below meth c D cl A nL ad Q (pc + 3) lv (.int v :: st) ws k n) : sv_V p l e R s m args below meth c D cl A nL ad Q pc lv (st) ws k n :=
  fun H locs ls hP hD hS hl => lv_sipush C.1 C.2.1 hd hv (kk H locs ls hP hD hS hl)
theorem sv_lconst (C : sv_C p s m args meth c D cl tys A cc nL own ret) {z : Fin 2} {v : Int64} (hd : decode cc pc = .ok (.lconst z, 1)) (hv : Int64.ofNat (z : Nat) = v) (kk : sv_V p l e R s m args below meth c D cl A nL ad Q (pc + 1) lv (.long v :: st) ws k n) : sv_V p l e R s m args below meth c D cl A nL ad Q pc lv (st) ws k n :=
  fun H locs ls hP hD hS hl => lv_lconst C.1 C.2.1 hd hv (kk H locs ls hP hD hS hl)
theorem sv_iload_n (C : sv_C p s m args meth c D cl tys A cc nL own ret) {z : Fin 4} {i : Nat} {x : Int32} (hd : decode cc pc = .ok (.iload_n z, 1)) (hi : (z : Nat) = i) (hv : lv[i]? = some (some (.int x))) (kk : sv_V p l e R s m args below meth c D cl A nL ad Q (pc + 1) lv (.int x :: st) ws k n) : sv_V p l e R s m args below meth c D cl A nL ad Q pc lv (st) ws k n :=
  fun H locs ls hP hD hS hl => lv_iload_n C.1 C.2.1 hd hi (sv_h_at hl hv) (kk H locs ls hP hD hS hl)
theorem sv_iload (C : sv_C p s m args meth c D cl tys A cc nL own ret) {i : Nat} {x : Int32} (hd : decode cc pc = .ok (.iload i, 2)) (hv : lv[i]? = some (some (.int x))) (kk : sv_V p l e R s m args below meth c D cl A nL ad Q (pc + 2) lv (.int x :: st) ws k n) : sv_V p l e R s m args below meth c D cl A nL ad Q pc lv (st) ws k n :=
  fun H locs ls hP hD hS hl => lv_iload C.1 C.2.1 hd (sv_h_at hl hv) (kk H locs ls hP hD hS hl)
theorem sv_istore_n (C : sv_C p s m args meth c D cl tys A cc nL own ret) {z : Fin 4} {i : Nat} {x : Int32} (hd : decode cc pc = .ok (.istore_n z, 1)) (hi : (z : Nat) = i) (hn : i < nL) (hk : sv_lk lv i = true) (kk : sv_V p l e R s m args below meth c D cl A nL ad Q (pc + 1) (lv.set i (some (.int x))) st ws k n) : sv_V p l e R s m args below meth c D cl A nL ad Q pc lv (.int x :: st) ws k n := by
  intro H locs ls hP hD hS hl
  obtain ⟨l0, h1, h2⟩ := hl
  exact lv_istore_n C.1 C.2.1 hd hi h1 hn rfl (fun ls' h3 => kk H locs ls' hP hD hS (sv_h_set1 (v := .int x) rfl hk h2 h3))
theorem sv_istore (C : sv_C p s m args meth c D cl tys A cc nL own ret) {i : Nat} {x : Int32} (hd : decode cc pc = .ok (.istore i, 2)) (hn : i < nL) (hk : sv_lk lv i = true) (kk : sv_V p l e R s m args below meth c D cl A nL ad Q (pc + 2) (lv.set i (some (.int x))) st ws k n) : sv_V p l e R s m args below meth c D cl A nL ad Q pc lv (.int x :: st) ws k n := by
  intro H locs ls hP hD hS hl
  obtain ⟨l0, h1, h2⟩ := hl
  exact lv_istore C.1 C.2.1 hd h1 hn rfl (fun ls' h3 => kk H locs ls' hP hD hS (sv_h_set1 (v := .int x) rfl hk h2 h3))
theorem sv_lload_n (C : sv_C p s m args meth c D cl tys A cc nL own ret) {z : Fin 4} {i : Nat} {x : Int64} (hd : decode cc pc = .ok (.lload_n z, 1)) (hi : (z : Nat) = i) (hv : lv[i]? = some (some (.long x))) (kk : sv_V p l e R s m args below meth c D cl A nL ad Q (pc + 1) lv (.long x :: st) ws k n) : sv_V p l e R s m args below meth c D cl A nL ad Q pc lv (st) ws k n :=
  fun H locs ls hP hD hS hl => lv_lload_n C.1 C.2.1 hd hi (sv_h_at hl hv) (kk H locs ls hP hD hS hl)
theorem sv_lload (C : sv_C p s m args meth c D cl tys A cc nL own ret) {i : Nat} {x : Int64} (hd : decode cc pc = .ok (.lload i, 2)) (hv : lv[i]? = some (some (.long x))) (kk : sv_V p l e R s m args below meth c D cl A nL ad Q (pc + 2) lv (.long x :: st) ws k n) : sv_V p l e R s m args below meth c D cl A nL ad Q pc lv (st) ws k n :=
  fun H locs ls hP hD hS hl => lv_lload C.1 C.2.1 hd (sv_h_at hl hv) (kk H locs ls hP hD hS hl)
theorem sv_lstore_n (C : sv_C p s m args meth c D cl tys A cc nL own ret) {z : Fin 4} {i : Nat} {x : Int64} (hd : decode cc pc = .ok (.lstore_n z, 1)) (hi : (z : Nat) = i) (hn : i + 1 < nL) (hk : sv_lk lv i = true) (kk : sv_V p l e R s m args below meth c D cl A nL ad Q (pc + 1) ((lv.set i (some (.long x))).set (i + 1) none) st ws k n) : sv_V p l e R s m args below meth c D cl A nL ad Q pc lv (.long x :: st) ws k n := by
  intro H locs ls hP hD hS hl
  obtain ⟨l0, h1, h2⟩ := hl
  exact lv_lstore_n C.1 C.2.1 hd hi h1 hn rfl (fun ls' h3 => kk H locs ls' hP hD hS (sv_h_set2 (v := .long x) rfl hk h2 h3))
theorem sv_lstore (C : sv_C p s m args meth c D cl tys A cc nL own ret) {i : Nat} {x : Int64} (hd : decode cc pc = .ok (.lstore i, 2)) (hn : i + 1 < nL) (hk : sv_lk lv i = true) (kk : sv_V p l e R s m args below meth c D cl A nL ad Q (pc + 2) ((lv.set i (some (.long x))).set (i + 1) none) st ws k n) : sv_V p l e R s m args below meth c D cl A nL ad Q pc lv (.long x :: st) ws k n := by
  intro H locs ls hP hD hS hl
  obtain ⟨l0, h1, h2⟩ := hl
  exact lv_lstore C.1 C.2.1 hd h1 hn rfl (fun ls' h3 => kk H locs ls' hP hD hS (sv_h_set2 (v := .long x) rfl hk h2 h3))
theorem sv_aload_n (C : sv_C p s m args meth c D cl tys A cc nL own ret) {z : Fin 4} {i : Nat} {x : Nat} (hd : decode cc pc = .ok (.aload_n z, 1)) (hi : (z : Nat) = i) (hv : lv[i]? = some (some (.ref x))) (kk : sv_V p l e R s m args below meth c D cl A nL ad Q (pc + 1) lv (.ref x :: st) ws k n) : sv_V p l e R s m args below meth c D cl A nL ad Q pc lv (st) ws k n :=
  fun H locs ls hP hD hS hl => lv_aload_n C.1 C.2.1 hd hi (sv_h_at hl hv) (kk H locs ls hP hD hS hl)
theorem sv_aload (C : sv_C p s m args meth c D cl tys A cc nL own ret) {i : Nat} {x : Nat} (hd : decode cc pc = .ok (.aload i, 2)) (hv : lv[i]? = some (some (.ref x))) (kk : sv_V p l e R s m args below meth c D cl A nL ad Q (pc + 2) lv (.ref x :: st) ws k n) : sv_V p l e R s m args below meth c D cl A nL ad Q pc lv (st) ws k n :=
  fun H locs ls hP hD hS hl => lv_aload C.1 C.2.1 hd (sv_h_at hl hv) (kk H locs ls hP hD hS hl)
theorem sv_astore_n (C : sv_C p s m args meth c D cl tys A cc nL own ret) {z : Fin 4} {i : Nat} {x : Nat} (hd : decode cc pc = .ok (.astore_n z, 1)) (hi : (z : Nat) = i) (hn : i < nL) (hk : sv_lk lv i = true) (kk : sv_V p l e R s m args below meth c D cl A nL ad Q (pc + 1) (lv.set i (some (.ref x))) st ws k n) : sv_V p l e R s m args below meth c D cl A nL ad Q pc lv (.ref x :: st) ws k n := by
  intro H locs ls hP hD hS hl
  obtain ⟨l0, h1, h2⟩ := hl
  exact lv_astore_n C.1 C.2.1 hd hi h1 hn rfl (fun ls' h3 => kk H locs ls' hP hD hS (sv_h_set1 (v := .ref x) rfl hk h2 h3))
theorem sv_astore (C : sv_C p s m args meth c D cl tys A cc nL own ret) {i : Nat} {x : Nat} (hd : decode cc pc = .ok (.astore i, 2)) (hn : i < nL) (hk : sv_lk lv i = true) (kk : sv_V p l e R s m args below meth c D cl A nL ad Q (pc + 2) (lv.set i (some (.ref x))) st ws k n) : sv_V p l e R s m args below meth c D cl A nL ad Q pc lv (.ref x :: st) ws k n := by
  intro H locs ls hP hD hS hl
  obtain ⟨l0, h1, h2⟩ := hl
  exact lv_astore C.1 C.2.1 hd h1 hn rfl (fun ls' h3 => kk H locs ls' hP hD hS (sv_h_set1 (v := .ref x) rfl hk h2 h3))
theorem sv_iinc (C : sv_C p s m args meth c D cl tys A cc nL own ret) {i : Nat} {z : Int} {x : Int32} {y : Int32} (hd : decode cc pc = .ok (.iinc i z, 3)) (hv : lv[i]? = some (some (.int x))) (hz : x + Int32.ofInt z = y) (hn : i < nL) (hk : sv_lk lv i = true) (kk : sv_V p l e R s m args below meth c D cl A nL ad Q (pc + 3) (lv.set i (some (.int y))) st ws k n) : sv_V p l e R s m args below meth c D cl A nL ad Q pc lv st ws k n := by
  intro H locs ls hP hD hS hl
  obtain ⟨l0, h1, h2⟩ := hl
  obtain ⟨j, hj⟩ := List.mem_iff_getElem?.mp (h2 i _ hv)
  exact lv_iinc (k := j) C.1 C.2.1 hd h1 hj hz hn rfl (fun ls' h3 => kk H locs ls' hP hD hS (sv_h_set1 (v := .int y) rfl hk h2 h3))
theorem sv_dup (C : sv_C p s m args meth c D cl tys A cc nL own ret) {v : Value} (hd : decode cc pc = .ok (.dup, 1)) (hv : v.category = 1) (kk : sv_V p l e R s m args below meth c D cl A nL ad Q (pc + 1) lv (v :: v :: st) ws k n) : sv_V p l e R s m args below meth c D cl A nL ad Q pc lv (v :: st) ws k n :=
  fun H locs ls hP hD hS hl => lv_dup C.1 C.2.1 hd (by rw [sv_v_cat]; exact hv) (kk H locs ls hP hD hS hl)
theorem sv_pop (C : sv_C p s m args meth c D cl tys A cc nL own ret) {v : Value} (hd : decode cc pc = .ok (.pop, 1)) (hv : v.category = 1) (kk : sv_V p l e R s m args below meth c D cl A nL ad Q (pc + 1) lv st ws k n) : sv_V p l e R s m args below meth c D cl A nL ad Q pc lv (v :: st) ws k n :=
  fun H locs ls hP hD hS hl => lv_pop C.1 C.2.1 hd (by rw [sv_v_cat]; exact hv) (kk H locs ls hP hD hS hl)
theorem sv_dup_x1 (C : sv_C p s m args meth c D cl tys A cc nL own ret) {v w : Value} (hd : decode cc pc = .ok (.dup_x1, 1)) (hv : v.category = 1) (hw : w.category = 1) (kk : sv_V p l e R s m args below meth c D cl A nL ad Q (pc + 1) lv (v :: w :: v :: st) ws k n) : sv_V p l e R s m args below meth c D cl A nL ad Q pc lv (v :: w :: st) ws k n :=
  fun H locs ls hP hD hS hl => lv_dup_x1 C.1 C.2.1 hd (by rw [sv_v_cat]; exact hv) (by rw [sv_v_cat]; exact hw) (kk H locs ls hP hD hS hl)
theorem sv_dup2 (C : sv_C p s m args meth c D cl tys A cc nL own ret) {v w : Value} (hd : decode cc pc = .ok (.dup2, 1)) (hv : v.category = 1) (hw : w.category = 1) (kk : sv_V p l e R s m args below meth c D cl A nL ad Q (pc + 1) lv (v :: w :: v :: w :: st) ws k n) : sv_V p l e R s m args below meth c D cl A nL ad Q pc lv (v :: w :: st) ws k n :=
  fun H locs ls hP hD hS hl => lv_dup2_11 C.1 C.2.1 hd (by rw [sv_v_cat]; exact hv) (by rw [sv_v_cat]; exact hw) (kk H locs ls hP hD hS hl)
theorem sv_goto (C : sv_C p s m args meth c D cl tys A cc nL own ret) {z : Int} {tgt : Nat} (hd : decode cc pc = .ok (.goto z, 3)) (ht : (pc : Int) + z = (tgt : Int)) (kk : sv_V p l e R s m args below meth c D cl A nL ad Q tgt lv st ws k n) : sv_V p l e R s m args below meth c D cl A nL ad Q pc lv st ws k n :=
  fun H locs ls hP hD hS hl => lv_goto C.1 C.2.1 hd ht (kk H locs ls hP hD hS hl)
theorem sv_if_eq (C : sv_C p s m args meth c D cl tys A cc nL own ret) {x : Int32} {z : Int} {tgt : Nat} (hd : decode cc pc = .ok (.ifCond .eq z, 3)) (ht : (pc : Int) + z = (tgt : Int)) (kt : x = 0 → sv_V p l e R s m args below meth c D cl A nL ad Q tgt lv st ws k n) (kf : ¬ x = 0 → sv_V p l e R s m args below meth c D cl A nL ad Q (pc + 3) lv st ws k n) : sv_V p l e R s m args below meth c D cl A nL ad Q pc lv (.int x :: st) ws k n :=
  fun H locs ls hP hD hS hl => lv_if_eq C.1 C.2.1 hd ht (fun h => kt h H locs ls hP hD hS hl) (fun h => kf h H locs ls hP hD hS hl)
theorem sv_if_ne (C : sv_C p s m args meth c D cl tys A cc nL own ret) {x : Int32} {z : Int} {tgt : Nat} (hd : decode cc pc = .ok (.ifCond .ne z, 3)) (ht : (pc : Int) + z = (tgt : Int)) (kt : ¬ x = 0 → sv_V p l e R s m args below meth c D cl A nL ad Q tgt lv st ws k n) (kf : x = 0 → sv_V p l e R s m args below meth c D cl A nL ad Q (pc + 3) lv st ws k n) : sv_V p l e R s m args below meth c D cl A nL ad Q pc lv (.int x :: st) ws k n :=
  fun H locs ls hP hD hS hl => lv_if_ne C.1 C.2.1 hd ht (fun h => kt h H locs ls hP hD hS hl) (fun h => kf h H locs ls hP hD hS hl)
theorem sv_if_lt (C : sv_C p s m args meth c D cl tys A cc nL own ret) {x : Int32} {z : Int} {tgt : Nat} (hd : decode cc pc = .ok (.ifCond .lt z, 3)) (ht : (pc : Int) + z = (tgt : Int)) (kt : x < 0 → sv_V p l e R s m args below meth c D cl A nL ad Q tgt lv st ws k n) (kf : ¬ x < 0 → sv_V p l e R s m args below meth c D cl A nL ad Q (pc + 3) lv st ws k n) : sv_V p l e R s m args below meth c D cl A nL ad Q pc lv (.int x :: st) ws k n :=
  fun H locs ls hP hD hS hl => lv_if_lt C.1 C.2.1 hd ht (fun h => kt h H locs ls hP hD hS hl) (fun h => kf h H locs ls hP hD hS hl)
theorem sv_if_ge (C : sv_C p s m args meth c D cl tys A cc nL own ret) {x : Int32} {z : Int} {tgt : Nat} (hd : decode cc pc = .ok (.ifCond .ge z, 3)) (ht : (pc : Int) + z = (tgt : Int)) (kt : 0 ≤ x → sv_V p l e R s m args below meth c D cl A nL ad Q tgt lv st ws k n) (kf : ¬ 0 ≤ x → sv_V p l e R s m args below meth c D cl A nL ad Q (pc + 3) lv st ws k n) : sv_V p l e R s m args below meth c D cl A nL ad Q pc lv (.int x :: st) ws k n :=
  fun H locs ls hP hD hS hl => lv_if_ge C.1 C.2.1 hd ht (fun h => kt h H locs ls hP hD hS hl) (fun h => kf h H locs ls hP hD hS hl)
theorem sv_if_gt (C : sv_C p s m args meth c D cl tys A cc nL own ret) {x : Int32} {z : Int} {tgt : Nat} (hd : decode cc pc = .ok (.ifCond .gt z, 3)) (ht : (pc : Int) + z = (tgt : Int)) (kt : 0 < x → sv_V p l e R s m args below meth c D cl A nL ad Q tgt lv st ws k n) (kf : ¬ 0 < x → sv_V p l e R s m args below meth c D cl A nL ad Q (pc + 3) lv st ws k n) : sv_V p l e R s m args below meth c D cl A nL ad Q pc lv (.int x :: st) ws k n :=
  fun H locs ls hP hD hS hl => lv_if_gt C.1 C.2.1 hd ht (fun h => kt h H locs ls hP hD hS hl) (fun h => kf h H locs ls hP hD hS hl)
theorem sv_if_le (C : sv_C p s m args meth c D cl tys A cc nL own ret) {x : Int32} {z : Int} {tgt : Nat} (hd : decode cc pc = .ok (.ifCond .le z, 3)) (ht : (pc : Int) + z = (tgt : Int)) (kt : x ≤ 0 → sv_V p l e R s m args below meth c D cl A nL ad Q tgt lv st ws k n) (kf : ¬ x ≤ 0 → sv_V p l e R s m args below meth c D cl A nL ad Q (pc + 3) lv st ws k n) : sv_V p l e R s m args below meth c D cl A nL ad Q pc lv (.int x :: st) ws k n :=
  fun H locs ls hP hD hS hl => lv_if_le C.1 C.2.1 hd ht (fun h => kt h H locs ls hP hD hS hl) (fun h => kf h H locs ls hP hD hS hl)
theorem sv_icmp_eq (C : sv_C p s m args meth c D cl tys A cc nL own ret) {x y : Int32} {z : Int} {tgt : Nat} (hd : decode cc pc = .ok (.if_icmp .eq z, 3)) (ht : (pc : Int) + z = (tgt : Int)) (kt : x = y → sv_V p l e R s m args below meth c D cl A nL ad Q tgt lv st ws k n) (kf : ¬ x = y → sv_V p l e R s m args below meth c D cl A nL ad Q (pc + 3) lv st ws k n) : sv_V p l e R s m args below meth c D cl A nL ad Q pc lv (.int y :: .int x :: st) ws k n :=
  fun H locs ls hP hD hS hl => lv_icmp_eq C.1 C.2.1 hd ht (fun h => kt h H locs ls hP hD hS hl) (fun h => kf h H locs ls hP hD hS hl)
theorem sv_icmp_ne (C : sv_C p s m args meth c D cl tys A cc nL own ret) {x y : Int32} {z : Int} {tgt : Nat} (hd : decode cc pc = .ok (.if_icmp .ne z, 3)) (ht : (pc : Int) + z = (tgt : Int)) (kt : ¬ x = y → sv_V p l e R s m args below meth c D cl A nL ad Q tgt lv st ws k n) (kf : x = y → sv_V p l e R s m args below meth c D cl A nL ad Q (pc + 3) lv st ws k n) : sv_V p l e R s m args below meth c D cl A nL ad Q pc lv (.int y :: .int x :: st) ws k n :=
  fun H locs ls hP hD hS hl => lv_icmp_ne C.1 C.2.1 hd ht (fun h => kt h H locs ls hP hD hS hl) (fun h => kf h H locs ls hP hD hS hl)
theorem sv_icmp_lt (C : sv_C p s m args meth c D cl tys A cc nL own ret) {x y : Int32} {z : Int} {tgt : Nat} (hd : decode cc pc = .ok (.if_icmp .lt z, 3)) (ht : (pc : Int) + z = (tgt : Int)) (kt : x < y → sv_V p l e R s m args below meth c D cl A nL ad Q tgt lv st ws k n) (kf : ¬ x < y → sv_V p l e R s m args below meth c D cl A nL ad Q (pc + 3) lv st ws k n) : sv_V p l e R s m args below meth c D cl A nL ad Q pc lv (.int y :: .int x :: st) ws k n :=
  fun H locs ls hP hD hS hl => lv_icmp_lt C.1 C.2.1 hd ht (fun h => kt h H locs ls hP hD hS hl) (fun h => kf h H locs ls hP hD hS hl)
theorem sv_icmp_ge (C : sv_C p s m args meth c D cl tys A cc nL own ret) {x y : Int32} {z : Int} {tgt : Nat} (hd : decode cc pc = .ok (.if_icmp .ge z, 3)) (ht : (pc : Int) + z = (tgt : Int)) (kt : y ≤ x → sv_V p l e R s m args below meth c D cl A nL ad Q tgt lv st ws k n) (kf : ¬ y ≤ x → sv_V p l e R s m args below meth c D cl A nL ad Q (pc + 3) lv st ws k n) : sv_V p l e R s m args below meth c D cl A nL ad Q pc lv (.int y :: .int x :: st) ws k n :=
  fun H locs ls hP hD hS hl => lv_icmp_ge C.1 C.2.1 hd ht (fun h => kt h H locs ls hP hD hS hl) (fun h => kf h H locs ls hP hD hS hl)
theorem sv_icmp_gt (C : sv_C p s m args meth c D cl tys A cc nL own ret) {x y : Int32} {z : Int} {tgt : Nat} (hd : decode cc pc = .ok (.if_icmp .gt z, 3)) (ht : (pc : Int) + z = (tgt : Int)) (kt : y < x → sv_V p l e R s m args below meth c D cl A nL ad Q tgt lv st ws k n) (kf : ¬ y < x → sv_V p l e R s m args below meth c D cl A nL ad Q (pc + 3) lv st ws k n) : sv_V p l e R s m args below meth c D cl A nL ad Q pc lv (.int y :: .int x :: st) ws k n :=
  fun H locs ls hP hD hS hl => lv_icmp_gt C.1 C.2.1 hd ht (fun h => kt h H locs ls hP hD hS hl) (fun h => kf h H locs ls hP hD hS hl)
theorem sv_icmp_le (C : sv_C p s m args meth c D cl tys A cc nL own ret) {x y : Int32} {z : Int} {tgt : Nat} (hd : decode cc pc = .ok (.if_icmp .le z, 3)) (ht : (pc : Int) + z = (tgt : Int)) (kt : x ≤ y → sv_V p l e R s m args below meth c D cl A nL ad Q tgt lv st ws k n) (kf : ¬ x ≤ y → sv_V p l e R s m args below meth c D cl A nL ad Q (pc + 3) lv st ws k n) : sv_V p l e R s m args below meth c D cl A nL ad Q pc lv (.int y :: .int x :: st) ws k n :=
  fun H locs ls hP hD hS hl => lv_icmp_le C.1 C.2.1 hd ht (fun h => kt h H locs ls hP hD hS hl) (fun h => kf h H locs ls hP hD hS hl)
theorem sv_get (C : sv_C p s m args meth c D cl tys A cc nL own ret) {Cn ref : String} {T : u_T} {N ci idx kf a : Nat} {fs : List Value} {v : Value} (hin : ∀ w ∈ u_ws Cn T N, w ∈ sv_T) (hc : cl[ci]? = some (Cn, T, N)) (hk : kf < N) (hlink : Cond.fieldLink own idx ref (T kf).2.1 (T kf).2.2.1 ∈ sv_T) (hsame : ∀ x, s.fieldFound? (T kf).1 (T kf).2.1 (T kf).2.2.1 = some x → s.fieldFound? ref (T kf).2.1 (T kf).2.2.1 = some x) (hd : decode cc pc = .ok (.getfield idx, 3)) (hw : ws[a]? = some (.inr (ci, fs))) (hv : fs[kf]? = some v) (kk : sv_V p l e R s m args below meth c D cl A nL ad Q (pc + 3) lv (v :: st) ws k n) : sv_V p l e R s m args below meth c D cl A nL ad Q pc lv (.ref a :: st) ws k n :=
  fun H locs ls hP hD hS hl => va_get (D := D) (ci := ci) (v := sv_v ad v) (C := Cn) (T := T) (N := N) C.1 C.2.1 C.2.2.2.2.1 hin C.2.2.2.1 C.2.2.2.2.2.1 hP a (fs := fs.map (sv_v ad)) (sv_w_at hw) hc kf hk (C.2.2.2.2.1 _ hlink) hsame (by rw [List.getElem?_map, hv]; rfl) hd (kk H locs ls hP hD hS hl)
theorem sv_put (C : sv_C p s m args meth c D cl tys A cc nL own ret) {Cn ref : String} {T : u_T} {N ci idx kf a : Nat} {fs : List Value} {v : Value} {ty : FieldType} (hin : ∀ w ∈ u_ws Cn T N, w ∈ sv_T) (ty0 : Nat → FieldType) (hty : ∀ k, k < N → parseFieldDescriptor (T k).2.2.1 = some (ty0 k)) (hnm : ∀ a, a < N → ∀ b, b < N → a ≠ b → (T a).2.1 ≠ (T b).2.1) (hc : cl[ci]? = some (Cn, T, N)) (hk : kf < N) (hlink : Cond.fieldLink own idx ref (T kf).2.1 (T kf).2.2.1 ∈ sv_T) (hsame : ∀ x, s.fieldFound? (T kf).1 (T kf).2.1 (T kf).2.2.1 = some x → s.fieldFound? ref (T kf).2.1 (T kf).2.2.1 = some x) (hfin : (T kf).2.2.2 = false) (htd : parseFieldDescriptor (T kf).2.2.1 = some ty) (hd : decode cc pc = .ok (.putfield idx, 3)) (hw : ws[a]? = some (.inr (ci, fs))) (hnar : narrow ty (sv_v ad v) = sv_v ad v) (hfit : fits ty (sv_v ad v) = true) (hl0 : kf < fs.length) (kk : sv_V p l e R s m args below meth c D cl A nL ad Q (pc + 3) lv st (ws.set a (.inr (ci, fs.set kf v))) k n) : sv_V p l e R s m args below meth c D cl A nL ad Q pc lv (v :: .ref a :: st) ws k n := by
  intro H locs ls hP hD hS hl
  refine va_put (D := D) (ci := ci) (v := sv_v ad v) (ty := ty) (C := Cn) (T := T) (N := N) C.1 C.2.1 C.2.2.2.2.1 hin ty0 hty hnm C.2.2.2.1 C.2.2.2.2.2.1 hP hD hS a (fs := fs.map (sv_v ad)) (sv_w_at hw) hc kf hk (C.2.2.2.2.1 _ hlink) hsame hfin htd hnar hfit (by rw [List.length_map]; exact hl0) hd (fun H1 locs1 hP1 hD1 hS1 => ?_)
  have e1 : (sv_w ad 0 ws).set a (ad a, .inr (ci, (fs.map (sv_v ad)).set kf (sv_v ad v))) = sv_w ad 0 (ws.set a (.inr (ci, fs.set kf v))) := by
    rw [← sv_w_put]
    show _ = (sv_w ad 0 ws).set a (ad a, .inr (ci, (fs.set kf v).map (sv_v ad)))
    rw [List.map_set]
  rw [e1] at hP1 hD1
  exact kk H1 locs1 ls hP1 hD1 hS1 hl
theorem sv_putF (C : sv_C p s m args meth c D cl tys A cc nL own ret) {Cn ref : String} {T : u_T} {N ci idx kf a : Nat} {fs : List Value} {v : Value} {ty : FieldType} (hin : ∀ w ∈ u_ws Cn T N, w ∈ sv_T) (ty0 : Nat → FieldType) (hty : ∀ k, k < N → parseFieldDescriptor (T k).2.2.1 = some (ty0 k)) (hnm : ∀ a, a < N → ∀ b, b < N → a ≠ b → (T a).2.1 ≠ (T b).2.1) (hc : cl[ci]? = some (Cn, T, N)) (hk : kf < N) (hlink : Cond.fieldLink own idx ref (T kf).2.1 (T kf).2.2.1 ∈ sv_T) (hsame : ∀ x, s.fieldFound? (T kf).1 (T kf).2.1 (T kf).2.2.1 = some x → s.fieldFound? ref (T kf).2.1 (T kf).2.2.1 = some x) (hfin : (T kf).2.2.2 = true) (hin2 : meth.name = "<init>") (hdecl : (T kf).1 = own) (htd : parseFieldDescriptor (T kf).2.2.1 = some ty) (hd : decode cc pc = .ok (.putfield idx, 3)) (hw : ws[a]? = some (.inr (ci, fs))) (hnar : narrow ty (sv_v ad v) = sv_v ad v) (hfit : fits ty (sv_v ad v) = true) (hl0 : kf < fs.length) (kk : sv_V p l e R s m args below meth c D cl A nL ad Q (pc + 3) lv st (ws.set a (.inr (ci, fs.set kf v))) k n) : sv_V p l e R s m args below meth c D cl A nL ad Q pc lv (v :: .ref a :: st) ws k n := by
  intro H locs ls hP hD hS hl
  refine va_putF (D := D) (ci := ci) (v := sv_v ad v) (ty := ty) (C := Cn) (T := T) (N := N) C.1 C.2.1 C.2.2.2.2.1 hin ty0 hty hnm C.2.2.2.1 C.2.2.2.2.2.1 hP hD hS a (fs := fs.map (sv_v ad)) (sv_w_at hw) hc kf hk (C.2.2.2.2.1 _ hlink) hsame hfin hin2 hdecl htd hnar hfit (by rw [List.length_map]; exact hl0) hd (fun H1 locs1 hP1 hD1 hS1 => ?_)
  have e1 : (sv_w ad 0 ws).set a (ad a, .inr (ci, (fs.map (sv_v ad)).set kf (sv_v ad v))) = sv_w ad 0 (ws.set a (.inr (ci, fs.set kf v))) := by
    rw [← sv_w_put]
    show _ = (sv_w ad 0 ws).set a (ad a, .inr (ci, (fs.set kf v).map (sv_v ad)))
    rw [List.map_set]
  rw [e1] at hP1 hD1
  exact kk H1 locs1 ls hP1 hD1 hS1 hl
theorem sv_iald (C : sv_C p s m args meth c D cl tys A cc nL own ret) {a N t0 : Nat} {cA : ClassId} {f : Nat → Int32} {i : Int32} (ht : tys[t0]? = some (cA, .int)) (hd : decode cc pc = .ok (.iaload, 1)) (hw : ws[a]? = some (.inl (cA, N, .inl f))) (hi : vp_in i N) (kk : sv_V p l e R s m args below meth c D cl A nL ad Q (pc + 1) lv (.int (f i.toNatClampNeg) :: st) ws k n) : sv_V p l e R s m args below meth c D cl A nL ad Q pc lv (.int i :: .ref a :: st) ws k n :=
  fun H locs ls hP hD hS hl => va_iald C.1 C.2.1 C.2.2.2.2.2.1 hP a t0 (f := f) (sv_w_at hw) ht hi hd (kk H locs ls hP hD hS hl)
theorem sv_lald (C : sv_C p s m args meth c D cl tys A cc nL own ret) {a N t0 : Nat} {cA : ClassId} {f : Nat → Int64} {i : Int32} (ht : tys[t0]? = some (cA, .long)) (hd : decode cc pc = .ok (.laload, 1)) (hw : ws[a]? = some (.inl (cA, N, .inr (.inl f)))) (hi : vp_in i N) (kk : sv_V p l e R s m args below meth c D cl A nL ad Q (pc + 1) lv (.long (f i.toNatClampNeg) :: st) ws k n) : sv_V p l e R s m args below meth c D cl A nL ad Q pc lv (.int i :: .ref a :: st) ws k n :=
  fun H locs ls hP hD hS hl => va_lald C.1 C.2.1 C.2.2.2.2.2.1 hP a t0 (f := f) (sv_w_at hw) ht hi hd (kk H locs ls hP hD hS hl)
theorem sv_zald (C : sv_C p s m args meth c D cl tys A cc nL own ret) {a N t0 : Nat} {cA : ClassId} {f : Nat → Int32} {i : Int32} (ht : tys[t0]? = some (cA, .boolean)) (hd : decode cc pc = .ok (.baload, 1)) (hw : ws[a]? = some (.inl (cA, N, .inl f))) (hi : vp_in i N) (kk : sv_V p l e R s m args below meth c D cl A nL ad Q (pc + 1) lv (.int (f i.toNatClampNeg) :: st) ws k n) : sv_V p l e R s m args below meth c D cl A nL ad Q pc lv (.int i :: .ref a :: st) ws k n :=
  fun H locs ls hP hD hS hl => va_zald C.1 C.2.1 C.2.2.2.2.2.1 hP a t0 (f := f) (sv_w_at hw) ht hi hd (kk H locs ls hP hD hS hl)
theorem sv_iast (C : sv_C p s m args meth c D cl tys A cc nL own ret) {a N t0 : Nat} {cA : ClassId} {f : Nat → Int32} {i : Int32} {x : Int32} (ht : tys[t0]? = some (cA, .int)) (hd : decode cc pc = .ok (.iastore, 1)) (hw : ws[a]? = some (.inl (cA, N, .inl f))) (hi : vp_in i N) (kk : sv_V p l e R s m args below meth c D cl A nL ad Q (pc + 1) lv st (ws.set a (.inl (cA, N, .inl (upd f i.toNatClampNeg x)))) k n) : sv_V p l e R s m args below meth c D cl A nL ad Q pc lv (.int x :: .int i :: .ref a :: st) ws k n := by
  intro H locs ls hP hD hS hl
  refine va_iast C.1 C.2.1 C.2.2.2.2.2.1 hP hD hS a t0 (f := f) (sv_w_at hw) ht hi hd (fun H1 locs1 hP1 hD1 hS1 => ?_)
  have e1 := sv_w_put ad ws a (.inl (cA, N, .inl (upd f i.toNatClampNeg x)))
  exact kk H1 locs1 ls (e1 ▸ hP1) (e1 ▸ hD1) hS1 hl
theorem sv_last (C : sv_C p s m args meth c D cl tys A cc nL own ret) {a N t0 : Nat} {cA : ClassId} {f : Nat → Int64} {i : Int32} {x : Int64} (ht : tys[t0]? = some (cA, .long)) (hd : decode cc pc = .ok (.lastore, 1)) (hw : ws[a]? = some (.inl (cA, N, .inr (.inl f)))) (hi : vp_in i N) (kk : sv_V p l e R s m args below meth c D cl A nL ad Q (pc + 1) lv st (ws.set a (.inl (cA, N, .inr (.inl (vp_updL f i.toNatClampNeg x))))) k n) : sv_V p l e R s m args below meth c D cl A nL ad Q pc lv (.long x :: .int i :: .ref a :: st) ws k n := by
  intro H locs ls hP hD hS hl
  refine va_last C.1 C.2.1 C.2.2.2.2.2.1 hP hD hS a t0 (f := f) (sv_w_at hw) ht hi hd (fun H1 locs1 hP1 hD1 hS1 => ?_)
  have e1 := sv_w_put ad ws a (.inl (cA, N, .inr (.inl (vp_updL f i.toNatClampNeg x))))
  exact kk H1 locs1 ls (e1 ▸ hP1) (e1 ▸ hD1) hS1 hl
theorem sv_zast (C : sv_C p s m args meth c D cl tys A cc nL own ret) {a N t0 : Nat} {cA : ClassId} {f : Nat → Int32} {i : Int32} {x : Int32} (ht : tys[t0]? = some (cA, .boolean)) (hd : decode cc pc = .ok (.bastore, 1)) (hw : ws[a]? = some (.inl (cA, N, .inl f))) (hi : vp_in i N) (kk : sv_V p l e R s m args below meth c D cl A nL ad Q (pc + 1) lv st (ws.set a (.inl (cA, N, .inl (upd f i.toNatClampNeg (vp_nar .boolean x))))) k n) : sv_V p l e R s m args below meth c D cl A nL ad Q pc lv (.int x :: .int i :: .ref a :: st) ws k n := by
  intro H locs ls hP hD hS hl
  refine va_zast C.1 C.2.1 C.2.2.2.2.2.1 hP hD hS a t0 (f := f) (sv_w_at hw) ht hi hd (fun H1 locs1 hP1 hD1 hS1 => ?_)
  have e1 := sv_w_put ad ws a (.inl (cA, N, .inl (upd f i.toNatClampNeg (vp_nar .boolean x))))
  exact kk H1 locs1 ls (e1 ▸ hP1) (e1 ▸ hD1) hS1 hl
theorem sv_alen (C : sv_C p s m args meth c D cl tys A cc nL own ret) {a t0 : Nat} {cA : ClassId} {x : vp_A} {ty : FieldType} {v : Int32} (ht : tys[t0]? = some (cA, ty)) (hd : decode cc pc = .ok (.arraylength, 1)) (hw : ws[a]? = some (.inl (cA, x))) (hv : Int32.ofNat x.1 = v) (kk : sv_V p l e R s m args below meth c D cl A nL ad Q (pc + 1) lv (.int v :: st) ws k n) : sv_V p l e R s m args below meth c D cl A nL ad Q pc lv (.ref a :: st) ws k n :=
  fun H locs ls hP hD hS hl => va_alen C.1 C.2.1 C.2.2.2.2.2.1 hP a t0 (sv_w_at hw) ht hv hd (kk H locs ls hP hD hS hl)
theorem sv_ldc (C : sv_C p s m args meth c D cl tys A cc nL own ret) {idx : Nat} {v : Int32} (hc : Jvm.Cond.constant own idx v ∈ sv_T) (hd : decode cc pc = .ok (.ldc idx, 2)) (kk : sv_V p l e R s m args below meth c D cl A nL ad Q (pc + 2) lv (.int v :: st) ws k n) : sv_V p l e R s m args below meth c D cl A nL ad Q pc lv st ws k n :=
  fun H locs ls hP hD hS hl => lv_ldc C.1 C.2.1 C.2.2.2.1 (C.2.2.2.2.1 _ hc) hd (kk H locs ls hP hD hS hl)
theorem sv_ldc2 (C : sv_C p s m args meth c D cl tys A cc nL own ret) {idx : Nat} {v : Int64} (hc : Jvm.Cond.constantLong own idx v ∈ sv_T) (hd : decode cc pc = .ok (.ldc2_w idx, 3)) (kk : sv_V p l e R s m args below meth c D cl A nL ad Q (pc + 3) lv (.long v :: st) ws k n) : sv_V p l e R s m args below meth c D cl A nL ad Q pc lv st ws k n :=
  fun H locs ls hP hD hS hl => lv_ldc2 C.1 C.2.1 C.2.2.2.1 (C.2.2.2.2.1 _ hc) hd (kk H locs ls hP hD hS hl)
def sv_mask : List Bool → List (Option Value) → List (Option Value)
  | true :: b, v :: r => v :: sv_mask b r
  | false :: b, _ :: r => none :: sv_mask b r
  | _, _ => []
theorem sv_mask_spec : ∀ (b : List Bool) (lv : List (Option Value)) (i : Nat) (v : Value), (sv_mask b lv)[i]? = some (some v) → lv[i]? = some (some v)
  | true :: b, x :: r, 0, v, h => h
  | true :: b, x :: r, i + 1, v, h => by
    simp only [sv_mask, List.getElem?_cons_succ] at h ⊢
    exact sv_mask_spec b r i v h
  | false :: b, x :: r, 0, v, h => by simp [sv_mask] at h
  | false :: b, x :: r, i + 1, v, h => by
    simp only [sv_mask, List.getElem?_cons_succ] at h ⊢
    exact sv_mask_spec b r i v h
  | [], lv, i, v, h => by simp [sv_mask] at h
  | true :: b, [], i, v, h => by simp [sv_mask] at h
  | false :: b, [], i, v, h => by simp [sv_mask] at h
theorem sv_drop (b : List Bool) (kk : sv_V p l e R s m args below meth c D cl A nL ad Q pc (sv_mask b lv) st ws k n) : sv_V p l e R s m args below meth c D cl A nL ad Q pc lv st ws k n := by
  intro H locs ls hP hD hS hl
  obtain ⟨l0, h1, h2⟩ := hl
  exact kk H locs ls hP hD hS ⟨l0, h1, fun i v hi => h2 i v (sv_mask_spec b lv i v hi)⟩
theorem sv_widen {k' n' : Nat} (hk : k ≤ k') (hn : n ≤ n') (kk : sv_V p l e R s m args below meth c D cl A nL ad Q pc lv st ws k' n') : sv_V p l e R s m args below meth c D cl A nL ad Q pc lv st ws k n :=
  fun H locs ls hP hD hS hl => W.widen hk hn (kk H locs ls hP hD hS hl)
/-- a computed number gets a name -/
theorem sv_topi {x : Int32} (kk : ∀ y : Int32, y = x → sv_V p l e R s m args below meth c D cl A nL ad Q pc lv (.int y :: st) ws k n) : sv_V p l e R s m args below meth c D cl A nL ad Q pc lv (.int x :: st) ws k n := kk x rfl
theorem sv_topl {x : Int64} (kk : ∀ y : Int64, y = x → sv_V p l e R s m args below meth c D cl A nL ad Q pc lv (.long y :: st) ws k n) : sv_V p l e R s m args below meth c D cl A nL ad Q pc lv (.long x :: st) ws k n := kk x rfl
end
