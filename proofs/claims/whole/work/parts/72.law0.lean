/-! Rows for the law: its script lies at the place 36, which is no cell of the picture -/
def sv_off (n0 n1 : Nat) : Option Value → Bool
  | some (.ref k) => Nat.blt k n0 || Nat.ble n1 k
  | _ => true
theorem sv_h_off {ad ad' : Nat → Nat} {n0 n1 : Nat} (h : ∀ i, ¬ (n0 ≤ i ∧ i < n1) → ad' i = ad i) {ls : Array Slot} {nL : Nat} {lv : List (Option Value)} (hs : lv.all (sv_off n0 n1) = true) (hl : sv_h ad ls nL lv) : sv_h ad' ls nL lv := by
  obtain ⟨l, h1, h2⟩ := hl
  refine ⟨l, h1, fun i v hi => ?_⟩
  have h3 : sv_off n0 n1 (some v) = true := List.all_eq_true.mp hs _ (List.mem_of_getElem? hi)
  have h4 : sv_v ad' v = sv_v ad v := by
    cases v with
    | ref k =>
      have h5 : (Nat.blt k n0 || Nat.ble n1 k) = true := h3
      show Value.ref (ad' k) = Value.ref (ad k)
      rw [h k (fun q => ?_)]
      rcases Bool.or_eq_true_iff.mp h5 with h6 | h6
      · exact absurd q.1 (Nat.not_le.mpr (Nat.le_of_ble_eq_true h6))
      · exact absurd q.2 (Nat.not_lt.mpr (Nat.le_of_ble_eq_true h6))
    | _ => rfl
  rw [h4]
  exact h2 i v hi
section
variable {p : Program} {l : Launch} {e : Env} {R : Room} {s : State} {m : MethodId} {args : Array Value} {below : List Frame} {meth : Method} {c : Code} {D : va_G} {cl : List vw_C} {tys : List (ClassId × FieldType)} {A : Nat → Prop} {nL : Nat} {ad ad0 : Nat → Nat} {Q : State → Prop} {cc : ByteArray} {own : String} {ret : Option FieldType} {pc : Nat} {lv : List (Option Value)} {st : List Value} {ws : List va_E} {k n : Nat}
variable {n0 n1 mc ms : Nat} {P : Option Value → List va_E → Prop} {X : String → List va_E → Prop} {XC : String → State → State → Prop}
variable {y : MethodName} {bytes : ByteArray} {maxL np idx : Nat} {rt : Option FieldType} {rm : Room} {av : List Value} {b : Nat}
theorem sv_newL (C : sv_C p s m args meth c D cl tys A cc nL own ret) {Cn : String} {T : u_T} {N ci : Nat} {fs : List Value} (hin : ∀ w ∈ u_ws Cn T N, w ∈ sv_T) (ty0 : Nat → FieldType) (hty : ∀ k, k < N → parseFieldDescriptor (T k).2.2.1 = some (ty0 k)) (hlk : Cond.classLink own idx Cn ∈ sv_T) (hinst : Cond.instantiable Cn N ∈ sv_T) (hini : Cond.initialized Cn ∈ sv_T)
    (hcl : cl[ci]? = some (Cn, T, N)) (hfs : ∀ j, j < N → defaultValue (ty0 j) = vp_V fs j) (hnr : fs.all (sv_bl 0) = true) (hd : decode cc pc = .ok (.new idx, 3)) {z : Nat} (hz : ws.length = z) (hws : ws.all (sv_blE z) = true) (hlv : lv.all (sv_off z (z + 1)) = true) (hss : st.all (sv_bl z) = true) (hc : k + 1 ≤ R.cells ∧ n + N ≤ R.slots)
    (kk : ∀ q : Nat, sv_V p l e R s m args below meth c D cl A nL (hu ad z q) Q (pc + 3) lv (.ref z :: st) (ws ++ [.inr (ci, fs)]) (k + 1) (n + N)) :
    sv_V p l e R s m args below meth c D cl A nL ad Q pc lv st ws k n := by
  intro H locs ls hP hD hS hl
  refine va_new (ci := ci) (fs := fs) C.1 C.2.1 C.2.2.2.2.1 hin ty0 hty C.2.2.2.1 (C.2.2.2.2.1 _ hlk) (C.2.2.2.2.1 _ hinst) (C.2.2.2.2.1 _ hini) C.2.2.2.2.2.1 hP hD hS C.2.2.2.2.2.2.1 hcl hfs hc.1 hc.2 hd (fun q H1 hP1 hD1 hS1 => ?_)
  have hag : ∀ i, i < z → hu ad z q i = ad i := fun i hi => hu_n (by omega)
  have e0 : fs.map (sv_v (hu ad z q)) = fs := by
    have h0 : fs.map (sv_v (hu ad z q)) = fs.map (sv_v (fun i => i)) := sv_vs_ag (b := 0) (fun i hi => absurd hi (Nat.not_lt_zero i)) hnr
    rw [h0]
    conv => rhs; rw [← List.map_id fs]
    refine List.map_congr_left (fun v _ => ?_)
    cases v <;> rfl
  have e1 : sv_w ad 0 ws ++ [(q, .inr (ci, fs))] = sv_w (hu ad z q) 0 (ws ++ [.inr (ci, fs)]) := by
    rw [sv_w_app, sv_w_ag hag (by omega) hws, Nat.zero_add, hz, hu_s]
    show _ = sv_w ad 0 ws ++ [(q, .inr (ci, fs.map (sv_v (hu ad z q))))]
    rw [e0]
  rw [e1] at hP1 hD1
  have h := kk q H1 locs ls hP1 hD1 hS1 (sv_h_off (fun i hi => hu_n (by omega)) hlv hl)
  have e2 : (.ref z :: st).map (sv_v (hu ad z q)) = .ref q :: st.map (sv_v ad) := by
    rw [List.map_cons, sv_vs_ag hag hss]
    show Value.ref (hu ad z q z) :: _ = _
    rw [hu_s]
  rw [e2] at h
  exact h
theorem sv_newaL (C : sv_C p s m args meth c D cl tys A cc nL own ret) {atype : ArrayType} {ty : FieldType} (hty : newarray.typeOf atype = ty) {t0 N : Nat} {cA : ClassId} {a0 : vp_A} {i : Int32} (harr : Cond.arrayClass (newarray.typeOf atype) ∈ sv_T) (ht : tys[t0]? = some (cA, ty)) (hra : ∀ (U : State) (cB : ClassId), va_RA U cB ty = (U.vm.findClass ("[" ++ ty.toString) = some cB))
    (ha : ∀ cA : ClassId, vp_cell cA a0 = arrV cA N (fun _ => defaultValue ty)) (hn : ¬ i < 0) (hN : i.toNatClampNeg = N) (hbytes : N * componentBytes ty ≤ 536870912) (hd : decode cc pc = .ok (.newarray atype, 2)) {z : Nat} (hz : ws.length = z) (hws : ws.all (sv_blE z) = true) (hlv : lv.all (sv_off z (z + 1)) = true) (hss : st.all (sv_bl z) = true) (hc : k + 1 ≤ R.cells ∧ n + N ≤ R.slots)
    (kk : ∀ q : Nat, sv_V p l e R s m args below meth c D cl A nL (hu ad z q) Q (pc + 2) lv (.ref z :: st) (ws ++ [.inl (cA, a0)]) (k + 1) (n + N)) :
    sv_V p l e R s m args below meth c D cl A nL ad Q pc lv (.int i :: st) ws k n := by
  intro H locs ls hP hD hS hl
  refine va_newa C.1 C.2.1 (C.2.2.2.2.1 _ harr) hty C.2.2.2.2.2.1 hP hD hS C.2.2.2.2.2.2.1 ha hn hN hbytes hc.1 hc.2 hd (fun q cB H1 hK1 hP1 hD1 hS1 => ?_)
  have e3 : cB = cA := by
    have h1 := (hK1.2 tys.length (cB, ty) (by simp)).2
    have h2 := (C.2.2.2.2.2.1.2 t0 _ ht).2
    rw [hra] at h1 h2
    exact Option.some.inj (h1.symm.trans h2)
  subst e3
  have hag : ∀ i, i < z → hu ad z q i = ad i := fun i hi => hu_n (by omega)
  have e1 : sv_w ad 0 ws ++ [(q, .inl (cB, a0))] = sv_w (hu ad z q) 0 (ws ++ [.inl (cB, a0)]) := by
    rw [sv_w_app, sv_w_ag hag (by omega) hws, Nat.zero_add, hz, hu_s]
    rfl
  rw [e1] at hP1 hD1
  have h := kk q H1 locs ls hP1 hD1 hS1 (sv_h_off (fun i hi => hu_n (by omega)) hlv hl)
  have e2 : (.ref z :: st).map (sv_v (hu ad z q)) = .ref q :: st.map (sv_v ad) := by
    rw [List.map_cons, sv_vs_ag hag hss]
    show Value.ref (hu ad z q z) :: _ = _
    rw [hu_s]
  rw [e2] at h
  exact h
theorem sv_knL (hlv : lv.all (sv_off n0 n1) = true) (hss : st.all (sv_bl n0) = true) (kk : ∀ (v : Option Value) (ws' : List va_E) (ad' : Nat → Nat), (∀ i, ¬ (n0 ≤ i ∧ i < n1) → ad' i = ad i) → P v ws' → sv_V p l e R s m args below meth c D cl A nL ad' Q (pc + 3) lv (v.toList ++ st) ws' (k + mc) (n + ms)) :
    ∀ (v : Option Value) (ws' : List va_E) (ad' : Nat → Nat), (∀ i, ¬ (n0 ≤ i ∧ i < n1) → ad' i = ad i) → P v ws' → ∀ (H : Heap) (locs : List Loc) (ls : Array Slot), va_P D cl (sv_w ad' 0 ws') H → va_D A (sv_w ad' 0 ws') → va_S A s.heap H locs → sv_h ad ls nL lv → W p l e R s m args below meth c H locs (k + mc) (n + ms) Q (F0 m (pc + 3) ls ((v.map (sv_v ad')).toList ++ st.map (sv_v ad))) := by
  intro v ws' ad' hag hp H locs ls hP hD hS hl
  have hag2 : ∀ i, i < n0 → ad' i = ad i := fun i hi => hag i (by omega)
  have h := kk v ws' ad' hag hp H locs ls hP hD hS (sv_h_off hag hlv hl)
  have e1 : (v.toList ++ st).map (sv_v ad') = (v.map (sv_v ad')).toList ++ st.map (sv_v ad) := by
    rw [List.map_append, sv_vs_ag hag2 hss]
    cases v <;> rfl
  rw [e1] at h
  exact h
theorem sv_callIL (C : sv_C p s m args meth c D cl tys A cc nL own ret) (hM : sv_M l y [Cond.code y bytes maxL none] rm D cl tys (.ref b :: av) ws n0 n1 P sv_no mc ms) (hs : sv_site own idx y bytes maxL none av.length) (hy : y.name = "<init>") (hi : Cond.instanceMethod y ∈ sv_T) (hr : sv_fit R rm maxL mc ms)
    (hd : decode cc pc = .ok (.invokespecial idx, 3)) (hst : (st.map fun v => v.category).sum ≤ 8) (hc : k + mc ≤ R.cells ∧ n + ms ≤ R.slots) (hlv : lv.all (sv_off n0 n1) = true) (hss : st.all (sv_bl n0) = true)
    (kk : ∀ (v : Option Value) (ws' : List va_E) (ad' : Nat → Nat), (∀ i, ¬ (n0 ≤ i ∧ i < n1) → ad' i = ad i) → P v ws' → sv_V p l e R s m args below meth c D cl A nL ad' Q (pc + 3) lv (v.toList ++ st) ws' (k + mc) (n + ms)) :
    sv_V p l e R s m args below meth c D cl A nL ad Q pc lv (av.reverse ++ .ref b :: st) ws k n := by
  refine sv_callG C (X := sv_no) (ar := (Value.ref (ad b) :: av.map (sv_v ad)).toArray) hc (fun H locs ls hP hD hS hsz => ?_) (fun E ws' h => absurd h id) (sv_knL hlv hss kk)
  have hrun := va_runI (e := e) (R := R) (H := H) (locs := locs) (cells := k) (slots := n) (below := below) (meth := meth) (g := F0 m pc ls ((av.reverse ++ .ref b :: st).map (sv_v ad))) (rest := st.map (sv_v ad)) (As := av.map (sv_v ad)) (b := ad b) ⟨C.1, C.2.1, C.2.2.1, C.2.2.2.1, C.2.2.2.2.1⟩ (sv_met (hM ad H.size) (fun E st t h => by obtain ⟨ws', h, -⟩ := h; exact h))
    ⟨sv_cb C hs hr, hy, C.2.2.2.2.1 _ hi⟩ ⟨sv_blind, fun U hU hW => sv_pre C hP hD hS hU hW⟩ rfl (by rw [List.length_map]) hsz (by show (av.reverse ++ .ref b :: st).map (sv_v ad) = _; rw [List.map_append, List.map_reverse]; rfl) (sv_room hst) hd hc
  intro T hT X0
  exact Or.inl (hrun T hT X0)
/-- the script is where it was -/
def sv_scr (s : State) (A : Nat → Prop) (ad : Nat → Nat) (Ls : Nat) (f : Nat → Int32) : Prop := va_X (ad 36) Ls f s s.heap ∧ ad 36 < s.heap.size ∧ ¬ A (ad 36)
theorem sv_sld (C : sv_C p s m args meth c D cl tys A cc nL own ret) {Ls : Nat} {f : Nat → Int32} {i : Int32} (hs : sv_scr s A ad Ls f) (hd : decode cc pc = .ok (.iaload, 1)) (hi : vp_in i Ls) (kk : sv_V p l e R s m args below meth c D cl A nL ad Q (pc + 1) lv (.int (f i.toNatClampNeg) :: st) ws k n) : sv_V p l e R s m args below meth c D cl A nL ad Q pc lv (.int i :: .ref 36 :: st) ws k n :=
  fun H locs ls hP hD hS hl => va_sld C.1 C.2.1 hs.1 hs.2.1 hs.2.2 hS hi hd (kk H locs ls hP hD hS hl)
theorem sv_slen (C : sv_C p s m args meth c D cl tys A cc nL own ret) {Ls : Nat} {f : Nat → Int32} (hs : sv_scr s A ad Ls f) (hd : decode cc pc = .ok (.arraylength, 1)) (kk : sv_V p l e R s m args below meth c D cl A nL ad Q (pc + 1) lv (.int (nI Ls) :: st) ws k n) : sv_V p l e R s m args below meth c D cl A nL ad Q pc lv (.ref 36 :: st) ws k n :=
  fun H locs ls hP hD hS hl => va_slen C.1 C.2.1 hs.1 hs.2.1 hs.2.2 hS hd (kk H locs ls hP hD hS hl)
end
theorem lg_cmp_rf (x : Int64) : lg_cmp x x = 0 := by
  unfold lg_cmp
  rw [if_neg (Int64.lt_irrefl), if_pos rfl]
/-- class and reference stand alike -/
def lw_inv (L : Nat → Nat → Int64) (I : Nat → Nat → Int32) (V : Nat → Int32) (W : Nat → Int32) (J : Nat → Nat → Int32) (B : Nat → Nat → Bool) : Prop :=
  ∃ (n r mk : Nat) (rl : Nat → Nat × Nat × Nat × Nat) (kd xs ys : Nat → Nat), sl_ok L I V n r mk rl kd xs ys ∧ mo_ok W J B n r mk rl kd xs ys
def lw_lv (i : Nat) : List (Option Value) := [some (.ref 36), some (.ref 0), some (.ref 23), some (.ref 35), some (.int (nI i)), none, none]
