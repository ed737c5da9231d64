/-! loops; StateLogic$Sets: whole sets -/
section
variable {p : Program} {l : Launch} {e : Env} {R : Room} {s : State} {m : MethodId} {args : Array Value} {below : List Frame} {meth : Method} {c : Code} {D : va_G} {cl : List vw_C} {tys : List (ClassId × FieldType)} {A : Nat → Prop} {nL : Nat} {ad : Nat → Nat} {Q : State → Prop} {cc : ByteArray} {own : String} {ret : Option FieldType} {pc : Nat} {lv0 : List (Option Value)} {st : List Value} {ws0 : List va_E} {k n : Nat}
/-- A LOOP: its states, a measure that falls -/
theorem sv_ind {σ : Type} (I : σ → Prop) (μ : σ → Nat) (lv : σ → List (Option Value)) (ws : σ → List va_E)
    (hs : ∀ a, I a → (∀ b, I b → μ b < μ a → sv_V p l e R s m args below meth c D cl A nL ad Q pc (lv b) st (ws b) k n) → sv_V p l e R s m args below meth c D cl A nL ad Q pc (lv a) st (ws a) k n)
    (a : σ) (h : I a) : sv_V p l e R s m args below meth c D cl A nL ad Q pc (lv a) st (ws a) k n := by
  have hall : ∀ (N : Nat) (a : σ), μ a < N → I a → sv_V p l e R s m args below meth c D cl A nL ad Q pc (lv a) st (ws a) k n := by
    intro N
    induction N with
    | zero => intro a h; exact absurd h (Nat.not_lt_zero _)
    | succ N ih => intro a h1 h2; exact hs a h2 (fun b hb hm => ih b (by omega) hb)
  exact hall (μ a + 1) a (Nat.lt_succ_self _) h
theorem sv_eqw {lv : List (Option Value)} {ws ws' : List va_E} (h : ws = ws') (kk : sv_V p l e R s m args below meth c D cl A nL ad Q pc lv st ws' k n) : sv_V p l e R s m args below meth c D cl A nL ad Q pc lv st ws k n := h ▸ kk
theorem sv_eqs {lv : List (Option Value)} {st st' : List Value} {ws : List va_E} (h : st = st') (kk : sv_V p l e R s m args below meth c D cl A nL ad Q pc lv st' ws k n) : sv_V p l e R s m args below meth c D cl A nL ad Q pc lv st ws k n := h ▸ kk
theorem sv_eql {lv lv' : List (Option Value)} {ws : List va_E} (h : lv = lv') (kk : sv_V p l e R s m args below meth c D cl A nL ad Q pc lv' st ws k n) : sv_V p l e R s m args below meth c D cl A nL ad Q pc lv st ws k n := h ▸ kk
theorem sv_copyl (C : sv_C p s m args meth c D cl tys A cc nL own ret) {lv : List (Option Value)} {ws : List va_E} {idx t0 a0 a1 N0 N1 : Nat} {cJ : ClassId} {f g : Nat → Int64} {sp dp nn : Int32} (hlk : Cond.methodLink own idx arraycopyName ∈ sv_T) (hnat : Cond.native arraycopyName ∈ sv_T) (hst : Cond.static arraycopyName ∈ sv_T) (hini : Cond.initialized "java/lang/System" ∈ sv_T) (ht : tys[t0]? = some (cJ, .long)) (hd : decode cc pc = .ok (.invokestatic idx, 3))
    (h0 : ws[a0]? = some (.inl (cJ, N0, .inr (.inl f)))) (h1 : ws[a1]? = some (.inl (cJ, N1, .inr (.inl g)))) (q1 : ¬ sp < 0) (q2 : ¬ dp < 0) (q3 : ¬ nn < 0) (q4 : sp.toNatClampNeg + nn.toNatClampNeg ≤ N0) (q5 : dp.toNatClampNeg + nn.toNatClampNeg ≤ N1)
    (hf : 1 ≤ R.frames) (hlo : (st.map fun v => v.category).sum + (nativeFrameWords "java/lang/System" "arraycopy" 5 + 11) ≤ R.locals)
    (kk : sv_V p l e R s m args below meth c D cl A nL ad Q (pc + 3) lv st (ws.set a1 (.inl (cJ, N1, .inr (.inl (va_cpy f g sp.toNatClampNeg dp.toNatClampNeg nn.toNatClampNeg))))) k n) :
    sv_V p l e R s m args below meth c D cl A nL ad Q pc lv (.int nn :: .int dp :: .ref a1 :: .int sp :: .ref a0 :: st) ws k n := by
  intro H locs ls hP hD hS hl
  have hsz : c.maxLocals = ls.size := by
    obtain ⟨l0, h9, -⟩ := hl
    rw [h9.1, C.2.2.1]
  refine va_copyl C.1 C.2.1 hsz C.2.2.2.1 (C.2.2.2.2.1 _ hlk) (C.2.2.2.2.1 _ hnat) (C.2.2.2.2.1 _ hst) (C.2.2.2.2.1 _ hini) C.2.2.2.2.2.1 hP hD hS a0 a1 t0 t0 (sv_w_at h0) (sv_w_at h1) ht ht rfl q1 q2 q3 q4 q5 (fun _ _ => rfl) hf (by rw [sv_cats]; exact hlo) hd (fun H1 locs1 hP1 hD1 hS1 => ?_)
  have e1 := sv_w_put ad ws a1 (.inl (cJ, N1, .inr (.inl (va_cpy f g sp.toNatClampNeg dp.toNatClampNeg nn.toNatClampNeg))))
  exact kk H1 locs1 ls (e1 ▸ hP1) (e1 ▸ hD1) hS1 hl
end
theorem sv_same {ws : List va_E} {w : Nat} {x : va_E} (h : ws[w]? = some x) : ws.set w x = ws := by
  obtain ⟨hl, he⟩ := List.getElem?_eq_some_iff.mp h
  rw [← he]
  exact List.set_getElem_self hl
theorem sv_lt {ws : List va_E} {w : Nat} {x : va_E} (h : ws[w]? = some x) : w < ws.length := (List.getElem?_eq_some_iff.mp h).1
abbrev sv_J (cJ : ClassId) (N : Nat) (f : Nat → Int64) : va_E := .inl (cJ, N, .inr (.inl f))
abbrev sv_I (cI : ClassId) (N : Nat) (f : Nat → Int32) : va_E := .inl (cI, N, .inl f)
theorem sy_n : Cond.native arraycopyName ∈ sv_T := sv_in 388 (by decide +kernel) rfl
theorem sy_s : Cond.static arraycopyName ∈ sv_T := sv_in 387 (by decide +kernel) rfl
theorem sy_i : Cond.initialized "java/lang/System" ∈ sv_T := sv_in 14 (by decide +kernel) rfl
theorem sy_l : Cond.methodLink "StateLogic$Sets" 21 arraycopyName ∈ sv_T := sv_in 386 (by decide +kernel) rfl
set_option maxRecDepth 100000 in
set_option maxHeartbeats 4000000 in
theorem c_Lo_bitCount {l : Launch} {D : va_G} {cI cJ cZ : ClassId} {ws : List va_E} {x : Int64} :
    sv_M l y_Lo_bitCount [Cond.code y_Lo_bitCount b_Lo_bitCount 2 (some .int)] ({ frames := 0, cells := 0, slots := 0, locals := 0 } : Room) D sv_cl (sv_ty cI cJ cZ) [.long x] ws 0 0 (fun v ws' => v = some (.int (nI (pb_cnt x))) ∧ ws' = ws) sv_no 0 0 := by
  refine sv_of (cc := b_Lo_bitCount) (by decide +kernel) (Nat.le_of_ble_eq_true rfl) ?_
  intro p e s m args below meth c A ad C htab hnm
  refine sv_lload_n C d_Lo_bitCount_0 rfl rfl ?_
  refine sv_lload_n C d_Lo_bitCount_1 rfl rfl ?_
  refine sv_iconst (v := 1) C d_Lo_bitCount_2 rfl ?_
  refine sv_lushr C d_Lo_bitCount_3 ?_
  refine sv_ldc2 C g_Lo_314 d_Lo_bitCount_4 ?_
  refine sv_land C d_Lo_bitCount_7 ?_
  refine sv_lsub C d_Lo_bitCount_8 ?_
  refine sv_topl (fun i1 e1 => ?_)
  refine sv_lstore_n C d_Lo_bitCount_9 rfl (by decide) rfl ?_
  refine sv_lload_n C d_Lo_bitCount_10 rfl rfl ?_
  refine sv_ldc2 C g_Lo_316 d_Lo_bitCount_11 ?_
  refine sv_land C d_Lo_bitCount_14 ?_
  refine sv_lload_n C d_Lo_bitCount_15 rfl rfl ?_
  refine sv_iconst (v := 2) C d_Lo_bitCount_16 rfl ?_
  refine sv_lushr C d_Lo_bitCount_17 ?_
  refine sv_ldc2 C g_Lo_316 d_Lo_bitCount_18 ?_
  refine sv_land C d_Lo_bitCount_21 ?_
  refine sv_ladd C d_Lo_bitCount_22 ?_
  refine sv_topl (fun i2 e2 => ?_)
  refine sv_lstore_n C d_Lo_bitCount_23 rfl (by decide) rfl ?_
  refine sv_lload_n C d_Lo_bitCount_24 rfl rfl ?_
  refine sv_lload_n C d_Lo_bitCount_25 rfl rfl ?_
  refine sv_iconst (v := 4) C d_Lo_bitCount_26 rfl ?_
  refine sv_lushr C d_Lo_bitCount_27 ?_
  refine sv_ladd C d_Lo_bitCount_28 ?_
  refine sv_ldc2 C g_Lo_318 d_Lo_bitCount_29 ?_
  refine sv_land C d_Lo_bitCount_32 ?_
  refine sv_topl (fun i3 e3 => ?_)
  refine sv_lstore_n C d_Lo_bitCount_33 rfl (by decide) rfl ?_
  refine sv_lload_n C d_Lo_bitCount_34 rfl rfl ?_
  refine sv_lload_n C d_Lo_bitCount_35 rfl rfl ?_
  refine sv_bipush (v := 8) C d_Lo_bitCount_36 rfl ?_
  refine sv_lushr C d_Lo_bitCount_38 ?_
  refine sv_ladd C d_Lo_bitCount_39 ?_
  refine sv_topl (fun i4 e4 => ?_)
  refine sv_lstore_n C d_Lo_bitCount_40 rfl (by decide) rfl ?_
  refine sv_lload_n C d_Lo_bitCount_41 rfl rfl ?_
  refine sv_lload_n C d_Lo_bitCount_42 rfl rfl ?_
  refine sv_bipush (v := 16) C d_Lo_bitCount_43 rfl ?_
  refine sv_lushr C d_Lo_bitCount_45 ?_
  refine sv_ladd C d_Lo_bitCount_46 ?_
  refine sv_topl (fun i5 e5 => ?_)
  refine sv_lstore_n C d_Lo_bitCount_47 rfl (by decide) rfl ?_
  refine sv_lload_n C d_Lo_bitCount_48 rfl rfl ?_
  refine sv_lload_n C d_Lo_bitCount_49 rfl rfl ?_
  refine sv_bipush (v := 32) C d_Lo_bitCount_50 rfl ?_
  refine sv_lushr C d_Lo_bitCount_52 ?_
  refine sv_ladd C d_Lo_bitCount_53 ?_
  refine sv_topl (fun i6 e6 => ?_)
  refine sv_lstore_n C d_Lo_bitCount_54 rfl (by decide) rfl ?_
  refine sv_lload_n C d_Lo_bitCount_55 rfl rfl ?_
  refine sv_l2i C d_Lo_bitCount_56 ?_
  refine sv_bipush (v := 127) C d_Lo_bitCount_57 rfl ?_
  refine sv_iand C d_Lo_bitCount_59 ?_
  exact sv_iret C rfl rfl d_Lo_bitCount_60 (Nat.le_of_ble_eq_true rfl) (Nat.le_of_ble_eq_true rfl) (fun _ _ => rfl) (⟨by rw [pb_go e1 e2 e3 e4 e5 e6], rfl⟩)
def ss_fil (f : Nat → Int64) (i : Nat) (v : Int64) : Nat → Int64 := fun j => if j < i then v else f j
theorem ss_fil_s (f : Nat → Int64) (i : Nat) (v : Int64) : vp_updL (ss_fil f i v) i v = ss_fil f (i + 1) v := by
  funext j
  unfold vp_updL ss_fil
  by_cases e : j = i
  · subst e
    simp
  · by_cases h : j < i
    · have h2 : j < i + 1 := by omega
      simp [e, h, h2]
    · have h2 : ¬ j < i + 1 := by omega
      simp [e, h, h2]
set_option maxRecDepth 100000 in
set_option maxHeartbeats 4000000 in
theorem c_Ar_fill {l : Launch} {D : va_G} {cI cJ cZ : ClassId} {ws : List va_E} {w N : Nat} {f : Nat → Int64} {v : Int64} (hw : ws[w]? = some (.inl (cJ, N, .inr (.inl f)))) (hN : N < 2 ^ 20) :
    sv_M l y_Ar_fill [Cond.code y_Ar_fill b_Ar_fill 5 none] ({ frames := 0, cells := 0, slots := 0, locals := 0 } : Room) D sv_cl (sv_ty cI cJ cZ) [.ref w, .long v] ws 0 0 (fun r ws' => r = none ∧ ws' = ws.set w (.inl (cJ, N, .inr (.inl (ss_fil f N v))))) sv_no 0 0 := by
  refine sv_of (cc := b_Ar_fill) (by decide +kernel) (Nat.le_of_ble_eq_true rfl) ?_
  intro p e s m args below meth c A ad C htab hnm
  have hlt := sv_lt hw
  have hz : ws = ws.set w (sv_J cJ N (ss_fil f 0 v)) := by
    have h1 : ss_fil f 0 v = f := funext (fun j => by simp [ss_fil])
    rw [h1]
    exact (sv_same hw).symm
  refine sv_iconst (v := 0) C d_Ar_fill_0 rfl ?_
  refine sv_istore_n C d_Ar_fill_1 rfl (by decide) rfl ?_
  refine sv_aload_n C d_Ar_fill_2 rfl rfl ?_
  refine sv_alen (t0 := 1) C rfl d_Ar_fill_3 (by first | assumption | rfl) rfl ?_
  refine sv_istore C d_Ar_fill_4 (by decide) rfl ?_
  refine sv_eqw hz ?_
  refine sv_ind (σ := Nat) (I := fun i => i ≤ N) (μ := fun i => N - i) (lv := fun i => [some (.ref w), some (.long v), none, some (.int (nI i)), some (.int (nI N))]) (ws := fun i => ws.set w (sv_J cJ N (ss_fil f i v))) ?_ 0 (Nat.zero_le _)
  intro i hi ih
  have hg : (ws.set w (sv_J cJ N (ss_fil f i v)))[w]? = some (sv_J cJ N (ss_fil f i v)) := List.getElem?_set_self hlt
  refine sv_iload_n C d_Ar_fill_6 rfl rfl ?_
  refine sv_iload C d_Ar_fill_7 rfl ?_
  refine sv_icmp_ge (tgt := 22) C d_Ar_fill_9 (by decide) (fun hT => ?_) (fun hF => ?_)
  · have h1 : N ≤ i := (nI_leI (by omega) (by omega)).mp hT
    have h2 : i = N := by omega
    subst h2
    exact sv_vret C rfl d_Ar_fill_22 (Nat.le_of_ble_eq_true rfl) (Nat.le_of_ble_eq_true rfl) (fun _ _ => rfl) (⟨rfl, rfl⟩)
  · have h1 : ¬ N ≤ i := fun h => hF ((nI_leI (by omega) (by omega)).mpr h)
    have hin : vp_in (nI i) N := vp_in_nI (by omega) (by omega)
    refine sv_aload_n C d_Ar_fill_12 rfl rfl ?_
    refine sv_iload_n C d_Ar_fill_13 rfl rfl ?_
    refine sv_lload_n C d_Ar_fill_14 rfl rfl ?_
    refine sv_last (t0 := 1) C rfl d_Ar_fill_15 (by first | assumption | rfl) (by assumption) ?_
    refine sv_eqw (ws' := ws.set w (sv_J cJ N (ss_fil f (i + 1) v))) (by rw [List.set_set, nI_clamp (by omega), ss_fil_s]) ?_
    refine sv_iincN C d_Ar_fill_16 rfl (by decide) rfl ?_
    refine sv_goto (tgt := 6) C d_Ar_fill_19 (by decide) ?_
    exact ih (i + 1) (by show i + 1 ≤ N; omega) (by show N - (i + 1) < N - i; omega)
set_option maxRecDepth 100000 in
set_option maxHeartbeats 4000000 in
theorem c_St_emptyAll {l : Launch} {D : va_G} {cI cJ cZ : ClassId} {ws : List va_E} {b w N : Nat} {f : Nat → Int64} (hb : ws[b]? = some (.inr (3, [.ref w]))) (hw : ws[w]? = some (sv_J cJ N f)) (hN : N < 2 ^ 20) :
    sv_M l y_St_emptyAll [Cond.code y_St_emptyAll b_St_emptyAll 1 none] ({ frames := 1, cells := 0, slots := 0, locals := 24 } : Room) D sv_cl (sv_ty cI cJ cZ) [.ref b] ws 0 0 (fun r ws' => r = none ∧ ws' = ws.set w (sv_J cJ N (ss_fil f N 0))) sv_no 0 0 := by
  refine sv_of (cc := b_St_emptyAll) (by decide +kernel) (Nat.le_of_ble_eq_true rfl) ?_
  intro p e s m args below meth c A ad C htab hnm
  refine sv_aload_n C d_St_emptyAll_0 rfl rfl ?_
  refine sv_get (ci := 3) (kf := 0) C i_St rfl (by decide) f_St_11 (fun _ h9 => h9) d_St_emptyAll_1 (by first | assumption | rfl) rfl ?_
  refine sv_lconst (v := 0) C d_St_emptyAll_4 rfl ?_
  refine sv_callS C (c_Ar_fill (cI := cI) (cZ := cZ) (v := 0) hw hN) s_St_15 kt_Ar_fill ⟨rfl, rfl, Nat.le_of_ble_eq_true rfl, Nat.le_of_ble_eq_true rfl⟩ d_St_emptyAll_5 (Nat.le_of_ble_eq_true rfl) ⟨(Nat.le_of_ble_eq_true rfl), (Nat.le_of_ble_eq_true rfl)⟩ (fun E ws9 h9 => absurd h9 id) (fun v9 ws9 hp => ?_)
  obtain ⟨rfl, rfl⟩ := hp
  exact sv_vret C rfl d_St_emptyAll_8 (Nat.le_of_ble_eq_true rfl) (Nat.le_of_ble_eq_true rfl) (fun _ _ => rfl) (⟨rfl, rfl⟩)
set_option maxRecDepth 100000 in
set_option maxHeartbeats 4000000 in
theorem c_St_copy {l : Launch} {D : va_G} {cI cJ cZ : ClassId} {ws : List va_E} {b w N a b' w' N' a' : Nat} {f g : Nat → Int64} (hb : ws[b]? = some (.inr (3, [.ref w]))) (hw : ws[w]? = some (sv_J cJ N f)) (ha : a * 4 + 3 < N) (hN : N < 2 ^ 20) (hb' : ws[b']? = some (.inr (3, [.ref w']))) (hw' : ws[w']? = some (sv_J cJ N' g)) (ha' : a' * 4 + 3 < N') (hN' : N' < 2 ^ 20) :
    sv_M l y_St_copy [Cond.code y_St_copy b_St_copy 4 none] ({ frames := 1, cells := 0, slots := 0, locals := 60 } : Room) D sv_cl (sv_ty cI cJ cZ) [.ref b, .int (nI a), .ref b', .int (nI a')] ws 0 0 (fun r ws' => r = none ∧ ws' = ws.set w (sv_J cJ N (va_cpy g f (a' * 4) (a * 4) 4))) sv_no 0 0 := by
  refine sv_of (cc := b_St_copy) (by decide +kernel) (Nat.le_of_ble_eq_true rfl) ?_
  intro p e s m args below meth c A ad C htab hnm
  have e1 : nI a * 4 = nI (a * 4) := pk_mul a 4
  have e2 : nI a' * 4 = nI (a' * 4) := pk_mul a' 4
  have g1 : (nI a * 4).toNatClampNeg = a * 4 := by rw [e1]; exact nI_clamp (by omega)
  have g2 : (nI a' * 4).toNatClampNeg = a' * 4 := by rw [e2]; exact nI_clamp (by omega)
  have g3 : (4 : Int32).toNatClampNeg = 4 := by decide
  refine sv_aload_n C d_St_copy_0 rfl rfl ?_
  refine sv_get (ci := 3) (kf := 0) C i_St rfl (by decide) f_St_11 (fun _ h9 => h9) d_St_copy_1 (by first | assumption | rfl) rfl ?_
  refine sv_iload_n C d_St_copy_4 rfl rfl ?_
  refine sv_iconst (v := 4) C d_St_copy_5 rfl ?_
  refine sv_imul C d_St_copy_6 ?_
  refine sv_aload_n C d_St_copy_7 rfl rfl ?_
  refine sv_get (ci := 3) (kf := 0) C i_St rfl (by decide) f_St_11 (fun _ h9 => h9) d_St_copy_8 (by first | assumption | rfl) rfl ?_
  refine sv_iload_n C d_St_copy_11 rfl rfl ?_
  refine sv_iconst (v := 4) C d_St_copy_12 rfl ?_
  refine sv_imul C d_St_copy_13 ?_
  refine sv_iconst (v := 4) C d_St_copy_14 rfl ?_
  refine sv_copyl (t0 := 1) C sy_l sy_n sy_s sy_i rfl d_St_copy_15 hw' hw (by rw [e2]; exact nI_pos (by omega)) (by rw [e1]; exact nI_pos (by omega)) (by decide) (by rw [g2, g3]; omega) (by rw [g1, g3]; omega) (Nat.le_of_ble_eq_true rfl) (Nat.le_of_ble_eq_true rfl) ?_
  rw [g1, g2, g3]
  exact sv_vret C rfl d_St_copy_18 (Nat.le_of_ble_eq_true rfl) (Nat.le_of_ble_eq_true rfl) (fun _ _ => rfl) (⟨rfl, rfl⟩)
