/-! Making: new cells get the next places -/
def sv_bl (b : Nat) : Value → Bool
  | .ref k => Nat.ble (k + 1) b
  | _ => true
def sv_blE (b : Nat) : va_E → Bool
  | .inl _ => true
  | .inr o => o.2.all (sv_bl b)
def sv_blL (b : Nat) : Option Value → Bool
  | some v => sv_bl b v
  | none => true
theorem sv_v_ag {ad ad' : Nat → Nat} {b : Nat} (h : ∀ i, i < b → ad' i = ad i) {v : Value} (hv : sv_bl b v = true) : sv_v ad' v = sv_v ad v := by
  cases v with
  | ref k =>
    have hk : k + 1 ≤ b := Nat.le_of_ble_eq_true hv
    show Value.ref (ad' k) = Value.ref (ad k)
    rw [h k hk]
  | _ => rfl
theorem sv_vs_ag {ad ad' : Nat → Nat} {b : Nat} (h : ∀ i, i < b → ad' i = ad i) : ∀ {st : List Value}, st.all (sv_bl b) = true → st.map (sv_v ad') = st.map (sv_v ad)
  | [], _ => rfl
  | v :: r, hs => by
    have hs := Bool.and_eq_true_iff.mp (show (sv_bl b v && r.all (sv_bl b)) = true from hs)
    rw [List.map_cons, List.map_cons, sv_v_ag h hs.1, sv_vs_ag h hs.2]
theorem sv_e_ag {ad ad' : Nat → Nat} {b : Nat} (h : ∀ i, i < b → ad' i = ad i) {x : va_E} (hx : sv_blE b x = true) : sv_e ad' x = sv_e ad x := by
  cases x with
  | inl y => rfl
  | inr o =>
    show (Sum.inr (o.1, o.2.map (sv_v ad')) : va_E) = Sum.inr (o.1, o.2.map (sv_v ad))
    rw [sv_vs_ag h hx]
theorem sv_w_ag {ad ad' : Nat → Nat} {b : Nat} (h : ∀ i, i < b → ad' i = ad i) : ∀ {i : Nat} {ws : List va_E}, i + ws.length ≤ b → ws.all (sv_blE b) = true → sv_w ad' i ws = sv_w ad i ws
  | i, [], _, _ => rfl
  | i, x :: r, hl, hs => by
    have hs := Bool.and_eq_true_iff.mp (show (sv_blE b x && r.all (sv_blE b)) = true from hs)
    have hl : i + (r.length + 1) ≤ b := hl
    show (ad' i, sv_e ad' x) :: sv_w ad' (i + 1) r = (ad i, sv_e ad x) :: sv_w ad (i + 1) r
    rw [h i (by omega), sv_e_ag h hs.1, sv_w_ag h (by omega) hs.2]
theorem sv_h_ag {ad ad' : Nat → Nat} {b : Nat} (h : ∀ i, i < b → ad' i = ad i) {ls : Array Slot} {nL : Nat} {lv : List (Option Value)} (hs : lv.all (sv_blL b) = true) (hl : sv_h ad ls nL lv) : sv_h ad' ls nL lv := by
  obtain ⟨l, h1, h2⟩ := hl
  refine ⟨l, h1, fun i v hi => ?_⟩
  have h3 : sv_blL b (some v) = true := List.all_eq_true.mp hs _ (List.mem_of_getElem? hi)
  rw [sv_v_ag h h3]
  exact h2 i v hi
section
variable {p : Program} {l : Launch} {e : Env} {R : Room} {s : State} {m : MethodId} {args : Array Value} {below : List Frame} {meth : Method} {c : Code} {D : va_G} {cl : List vw_C} {tys : List (ClassId × FieldType)} {A : Nat → Prop} {nL : Nat} {ad ad0 : Nat → Nat} {Q : State → Prop} {cc : ByteArray} {own : String} {ret : Option FieldType} {pc : Nat} {lv : List (Option Value)} {st : List Value} {ws : List va_E} {k n : Nat}
variable {n0 n1 mc ms : Nat} {P : Option Value → List va_E → Prop} {X : String → List va_E → Prop} {XC : String → State → State → Prop}
variable {y : MethodName} {bytes : ByteArray} {maxL np idx : Nat} {rt : Option FieldType} {rm : Room} {av : List Value} {b : Nat}
theorem sv_new (C : sv_C p s m args meth c D cl tys A cc nL own ret) {Cn : String} {T : u_T} {N ci : Nat} {fs : List Value} (hin : ∀ w ∈ u_ws Cn T N, w ∈ sv_T) (ty0 : Nat → FieldType) (hty : ∀ k, k < N → parseFieldDescriptor (T k).2.2.1 = some (ty0 k)) (hlk : Cond.classLink own idx Cn ∈ sv_T) (hinst : Cond.instantiable Cn N ∈ sv_T) (hini : Cond.initialized Cn ∈ sv_T)
    (hcl : cl[ci]? = some (Cn, T, N)) (hfs : ∀ j, j < N → defaultValue (ty0 j) = vp_V fs j) (hnr : fs.all (sv_bl 0) = true) (hd : decode cc pc = .ok (.new idx, 3)) {z : Nat} (hz : ws.length = z) (hws : ws.all (sv_blE z) = true) (hlv : lv.all (sv_blL z) = true) (hss : st.all (sv_bl z) = true) (hc : k + 1 ≤ R.cells ∧ n + N ≤ R.slots)
    (kk : ∀ q : Nat, sv_V p l e R s m args below meth c D cl A nL (hu ad z q) Q (pc + 3) lv (.ref z :: st) (ws ++ [.inr (ci, fs)]) (k + 1) (n + N)) :
    sv_V p l e R s m args below meth c D cl A nL ad Q pc lv st ws k n := by
  intro H locs ls hP hD hS hl
  refine va_new (ci := ci) (fs := fs) C.1 C.2.1 C.2.2.2.2.1 hin ty0 hty C.2.2.2.1 (C.2.2.2.2.1 _ hlk) (C.2.2.2.2.1 _ hinst) (C.2.2.2.2.1 _ hini) C.2.2.2.2.2.1 hP hD hS C.2.2.2.2.2.2.1 hcl hfs hc.1 hc.2 hd (fun q H1 hP1 hD1 hS1 => ?_)
  have hag : ∀ i, i < z → hu ad z q i = ad i := fun i hi => hu_n (by omega)
  have e0 : fs.map (sv_v (hu ad z q)) = fs := by
    have h0 : fs.map (sv_v (hu ad z q)) = fs.map (sv_v (fun i => i)) := sv_vs_ag (b := 0) (fun i hi => absurd hi (Nat.not_lt_zero i)) hnr
    rw [h0]
    conv => rhs; rw [← List.map_id fs]
    refine List.map_congr_left (fun v _ => ?_)
    cases v <;> rfl
  have e1 : sv_w ad 0 ws ++ [(q, .inr (ci, fs))] = sv_w (hu ad z q) 0 (ws ++ [.inr (ci, fs)]) := by
    rw [sv_w_app, sv_w_ag hag (by omega) hws, Nat.zero_add, hz, hu_s]
    show _ = sv_w ad 0 ws ++ [(q, .inr (ci, fs.map (sv_v (hu ad z q))))]
    rw [e0]
  rw [e1] at hP1 hD1
  have h := kk q H1 locs ls hP1 hD1 hS1 (sv_h_ag hag hlv hl)
  have e2 : (.ref z :: st).map (sv_v (hu ad z q)) = .ref q :: st.map (sv_v ad) := by
    rw [List.map_cons, sv_vs_ag hag hss]
    show Value.ref (hu ad z q z) :: _ = _
    rw [hu_s]
  rw [e2] at h
  exact h
theorem sv_newa (C : sv_C p s m args meth c D cl tys A cc nL own ret) {atype : ArrayType} {ty : FieldType} (hty : newarray.typeOf atype = ty) {t0 N : Nat} {cA : ClassId} {a0 : vp_A} {i : Int32} (harr : Cond.arrayClass (newarray.typeOf atype) ∈ sv_T) (ht : tys[t0]? = some (cA, ty)) (hra : ∀ (U : State) (cB : ClassId), va_RA U cB ty = (U.vm.findClass ("[" ++ ty.toString) = some cB))
    (ha : ∀ cA : ClassId, vp_cell cA a0 = arrV cA N (fun _ => defaultValue ty)) (hn : ¬ i < 0) (hN : i.toNatClampNeg = N) (hbytes : N * componentBytes ty ≤ 536870912) (hd : decode cc pc = .ok (.newarray atype, 2)) {z : Nat} (hz : ws.length = z) (hws : ws.all (sv_blE z) = true) (hlv : lv.all (sv_blL z) = true) (hss : st.all (sv_bl z) = true) (hc : k + 1 ≤ R.cells ∧ n + N ≤ R.slots)
    (kk : ∀ q : Nat, sv_V p l e R s m args below meth c D cl A nL (hu ad z q) Q (pc + 2) lv (.ref z :: st) (ws ++ [.inl (cA, a0)]) (k + 1) (n + N)) :
    sv_V p l e R s m args below meth c D cl A nL ad Q pc lv (.int i :: st) ws k n := by
  intro H locs ls hP hD hS hl
  refine va_newa C.1 C.2.1 (C.2.2.2.2.1 _ harr) hty C.2.2.2.2.2.1 hP hD hS C.2.2.2.2.2.2.1 ha hn hN hbytes hc.1 hc.2 hd (fun q cB H1 hK1 hP1 hD1 hS1 => ?_)
  have e3 : cB = cA := by
    have h1 := (hK1.2 tys.length (cB, ty) (by simp)).2
    have h2 := (C.2.2.2.2.2.1.2 t0 _ ht).2
    rw [hra] at h1 h2
    exact Option.some.inj (h1.symm.trans h2)
  subst e3
  have hag : ∀ i, i < z → hu ad z q i = ad i := fun i hi => hu_n (by omega)
  have e1 : sv_w ad 0 ws ++ [(q, .inl (cB, a0))] = sv_w (hu ad z q) 0 (ws ++ [.inl (cB, a0)]) := by
    rw [sv_w_app, sv_w_ag hag (by omega) hws, Nat.zero_add, hz, hu_s]
    rfl
  rw [e1] at hP1 hD1
  have h := kk q H1 locs ls hP1 hD1 hS1 (sv_h_ag hag hlv hl)
  have e2 : (.ref z :: st).map (sv_v (hu ad z q)) = .ref q :: st.map (sv_v ad) := by
    rw [List.map_cons, sv_vs_ag hag hss]
    show Value.ref (hu ad z q z) :: _ = _
    rw [hu_s]
  rw [e2] at h
  exact h
/-- behind a call that made cells -/
theorem sv_kn (hlv : lv.all (sv_blL n0) = true) (hss : st.all (sv_bl n0) = true) (kk : ∀ (v : Option Value) (ws' : List va_E) (ad' : Nat → Nat), (∀ i, ¬ (n0 ≤ i ∧ i < n1) → ad' i = ad i) → P v ws' → sv_V p l e R s m args below meth c D cl A nL ad' Q (pc + 3) lv (v.toList ++ st) ws' (k + mc) (n + ms)) :
    ∀ (v : Option Value) (ws' : List va_E) (ad' : Nat → Nat), (∀ i, ¬ (n0 ≤ i ∧ i < n1) → ad' i = ad i) → P v ws' → ∀ (H : Heap) (locs : List Loc) (ls : Array Slot), va_P D cl (sv_w ad' 0 ws') H → va_D A (sv_w ad' 0 ws') → va_S A s.heap H locs → sv_h ad ls nL lv → W p l e R s m args below meth c H locs (k + mc) (n + ms) Q (F0 m (pc + 3) ls ((v.map (sv_v ad')).toList ++ st.map (sv_v ad))) := by
  intro v ws' ad' hag hp H locs ls hP hD hS hl
  have hag2 : ∀ i, i < n0 → ad' i = ad i := fun i hi => hag i (by omega)
  have h := kk v ws' ad' hag hp H locs ls hP hD hS (sv_h_ag hag2 hlv hl)
  have e1 : (v.toList ++ st).map (sv_v ad') = (v.map (sv_v ad')).toList ++ st.map (sv_v ad) := by
    rw [List.map_append, sv_vs_ag hag2 hss]
    cases v <;> rfl
  rw [e1] at h
  exact h
theorem sv_callI (C : sv_C p s m args meth c D cl tys A cc nL own ret) (hM : sv_M l y [Cond.code y bytes maxL none] rm D cl tys (.ref b :: av) ws n0 n1 P sv_no mc ms) (hs : sv_site own idx y bytes maxL none av.length) (hy : y.name = "<init>") (hi : Cond.instanceMethod y ∈ sv_T) (hr : sv_fit R rm maxL mc ms)
    (hd : decode cc pc = .ok (.invokespecial idx, 3)) (hst : (st.map fun v => v.category).sum ≤ 8) (hc : k + mc ≤ R.cells ∧ n + ms ≤ R.slots) (hlv : lv.all (sv_blL n0) = true) (hss : st.all (sv_bl n0) = true)
    (kk : ∀ (v : Option Value) (ws' : List va_E) (ad' : Nat → Nat), (∀ i, ¬ (n0 ≤ i ∧ i < n1) → ad' i = ad i) → P v ws' → sv_V p l e R s m args below meth c D cl A nL ad' Q (pc + 3) lv (v.toList ++ st) ws' (k + mc) (n + ms)) :
    sv_V p l e R s m args below meth c D cl A nL ad Q pc lv (av.reverse ++ .ref b :: st) ws k n := by
  refine sv_callG C (X := sv_no) (ar := (Value.ref (ad b) :: av.map (sv_v ad)).toArray) hc (fun H locs ls hP hD hS hsz => ?_) (fun E ws' h => absurd h id) (sv_kn hlv hss kk)
  have hrun := va_runI (e := e) (R := R) (H := H) (locs := locs) (cells := k) (slots := n) (below := below) (meth := meth) (g := F0 m pc ls ((av.reverse ++ .ref b :: st).map (sv_v ad))) (rest := st.map (sv_v ad)) (As := av.map (sv_v ad)) (b := ad b) ⟨C.1, C.2.1, C.2.2.1, C.2.2.2.1, C.2.2.2.2.1⟩ (sv_met (hM ad H.size) (fun E st t h => by obtain ⟨ws', h, -⟩ := h; exact h))
    ⟨sv_cb C hs hr, hy, C.2.2.2.2.1 _ hi⟩ ⟨sv_blind, fun U hU hW => sv_pre C hP hD hS hU hW⟩ rfl (by rw [List.length_map]) hsz (by show (av.reverse ++ .ref b :: st).map (sv_v ad) = _; rw [List.map_append, List.map_reverse]; rfl) (sv_room hst) hd hc
  intro T hT X0
  exact Or.inl (hrun T hT X0)
theorem sv_callIN (C : sv_C p s m args meth c D cl tys A cc nL own ret) {host : String} (hM : sv_M l y [Cond.code y bytes maxL none] rm D cl tys (.ref b :: av) ws n0 n1 P sv_no mc ms) (hl : Cond.methodLinkNest own idx y host ∈ lw_tbl) (hin : Cond.initialized y.cls ∈ sv_T) (hco : Cond.code y bytes maxL none ∈ sv_T) (hmh : y.cls ≠ "java/lang/invoke/MethodHandle" ∧ y.cls ≠ "java/lang/invoke/VarHandle") (hnp : (parseMethodDescriptor y.desc).map (fun d => d.parameters.length) = some av.length) (hy : y.name = "<init>") (hi : Cond.instanceMethod y ∈ sv_T) (hr : sv_fit R rm maxL mc ms)
    (hd : decode cc pc = .ok (.invokespecial idx, 3)) (hst : (st.map fun v => v.category).sum ≤ 8) (hc : k + mc ≤ R.cells ∧ n + ms ≤ R.slots) (hlv : lv.all (sv_blL n0) = true) (hss : st.all (sv_bl n0) = true)
    (kk : ∀ (v : Option Value) (ws' : List va_E) (ad' : Nat → Nat), (∀ i, ¬ (n0 ≤ i ∧ i < n1) → ad' i = ad i) → P v ws' → sv_V p l e R s m args below meth c D cl A nL ad' Q (pc + 3) lv (v.toList ++ st) ws' (k + mc) (n + ms)) :
    sv_V p l e R s m args below meth c D cl A nL ad Q pc lv (av.reverse ++ .ref b :: st) ws k n := by
  have hZ := C.2.2.2.2.2.2.2.2.2
  refine sv_callG C (X := sv_no) (ar := (Value.ref (ad b) :: av.map (sv_v ad)).toArray) hc (fun H locs ls hP hD hS hsz => ?_) (fun E ws' h => absurd h id) (sv_kn hlv hss kk)
  have hrun := va_runIN (e := e) (R := R) (H := H) (locs := locs) (cells := k) (slots := n) (below := below) (meth := meth) (host := host) (g := F0 m pc ls ((av.reverse ++ .ref b :: st).map (sv_v ad))) (rest := st.map (sv_v ad)) (As := av.map (sv_v ad)) (b := ad b) ⟨C.1, C.2.1, C.2.2.1, C.2.2.2.1, C.2.2.2.2.1⟩ (sv_met (hM ad H.size) (fun E st t h => by obtain ⟨ws', h, -⟩ := h; exact h))
    ⟨⟨⟨hr.1, hr.2.1, hr.2.2.1, hr.2.2.2, fun w hw => by rw [List.mem_singleton.mp hw]; exact sv_good hZ hco, List.mem_singleton.mpr rfl⟩, C.2.2.2.2.1 _ hco, C.2.2.2.2.1 _ hin, hmh, fun sig h => by rw [h] at hnp; simpa using hnp.symm, sv_word hZ hl (by simp [sv_dc]) args⟩, hy, C.2.2.2.2.1 _ hi⟩ ⟨sv_blind, fun U hU hW => sv_pre C hP hD hS hU hW⟩ rfl (by rw [List.length_map]) hsz (by show (av.reverse ++ .ref b :: st).map (sv_v ad) = _; rw [List.map_append, List.map_reverse]; rfl) (sv_room hst) hd hc
  intro T hT X0
  exact Or.inl (hrun T hT X0)
end
