/-! The law's loop, its start, its end; the claim -/
def R_law : String := "StateLogicLaw"
def lw_P (b : Addr) (xs : List Int32) (args : Array Value) (s : State) : Prop := args = #[.ref b] ∧ s.IntsAt b xs ∧ xs.length ≤ 2560 ∧ (Jvm.Cond.and given_1 narrow_1).before args s = true
def lw_Q (_ : Array Value) (s : State) (o : Outcome) (t : State) : Prop := o = .returned (some (.int 1)) ∧ Framed s o t [] 601024 7293034
def lw_Z (below : List Frame) (a : Array Value) (s : State) : State → Prop := fun t => ∃ o, t.status = .running ∧ Ended t below o ∧ lw_Q a s o t
/-- the law's own end, with 1 on the stack, nothing written that was there before, its room as the claim has it -/
theorem lw_ret {p : Program} {l : Launch} {e : Env} {s : State} {m : MethodId} {below : List Frame} {meth : Method} {c : Code} {b : Nat} (hx : p.tables.exec = Jvm.exec) (hb : c.code = code) (hr : meth.sig.returnType = ret) (hlocks : meth.locks = false) {pc : Nat} {H : Heap} {ls : Array Slot} (hdg : decode code pc = .ok (.ireturn, 1)) : W p l e room_1 s m #[Value.ref b] below meth c H [] 601024 7293034 (lw_Z below #[Value.ref b] s) (F0 m pc ls [.int 1]) := by
  intro T hT X
  obtain ⟨fs, hret, hrun, hended, hW, hframe⟩ := X.leave (v := some (.int 1)) (hlocks := hlocks) (fun h => by rw [hr] at h; cases h)
  have hmeth' : T.vm.method? m = some meth := X.method'
  refine ⟨T.setFrames fs, ?_, .returned (some (.int 1)), hrun, hended, rfl, ⟨_, rfl⟩, hW, hframe⟩
  jvm_step X.here [X.here.top, hx, hb, hdg, hmeth', hr, ret, narrow_b1]
  (try refine ⟨rfl, ?_⟩); (try refine ⟨rfl, ?_⟩)
  first | (intro acts; rw [hret _ acts rfl rfl rfl]) | rw [hret _ _ rfl rfl rfl]
  exact Steps.refl _
/-- what holds at the law's entry: the machine, the code, the tables' words (any of lw_tbl by 'hts w (by decide +kernel)'), the script of L ints xs at the cell b, what the Statement gives of the start (any of its parts by flat_of_before) -/
def lw_At (p : Program) (s : State) (m : MethodId) (meth : Method) (c : Code) (b L : Nat) (xs : Nat → Int32) : Prop :=
  p.tables.exec = Jvm.exec ∧ c.code = code ∧ meth.sig.returnType = ret ∧ c.maxLocals = 7 ∧ s.vm.findClass R_law = some m.cls ∧ (∀ w ∈ lw_tbl, w.before #[Value.ref b] s = true) ∧ va_X b L xs s s.heap ∧ b < s.heap.size ∧ meth.locks = false ∧ (Jvm.Cond.and given_1 narrow_1).before #[Value.ref b] s = true
theorem la_cmp {Ls i : Nat} (hL : Ls ≤ 2560) (hi : i ≤ 2600) : nI Ls - 5 < nI i ↔ Ls < i + 5 := by
  by_cases h5 : 5 ≤ Ls
  · obtain ⟨a, rfl⟩ : ∃ a, Ls = a + 5 := ⟨Ls - 5, by omega⟩
    have e : nI (a + 5) - 5 = nI a := by
      rw [← nI_add a 5]
      exact Int32.add_sub_cancel _ _
    rw [e, nI_ltI (by omega) (by omega)]
    omega
  · have h0 : (0 : Int32) ≤ nI i := nI_pos' (by omega)
    have hlt : nI Ls - 5 < 0 := by
      rcases (show Ls = 0 ∨ Ls = 1 ∨ Ls = 2 ∨ Ls = 3 ∨ Ls = 4 by omega) with rfl | rfl | rfl | rfl | rfl <;> decide
    exact ⟨fun _ => by omega, fun _ => Int32.lt_of_lt_of_le hlt h0⟩
theorem tab9 {x : Int32} (h : x ≠ 0 ∧ x ≠ 1 ∧ x ≠ 2 ∧ x ≠ 3 ∧ x ≠ 4 ∧ x ≠ 5 ∧ x ≠ 6 ∧ x ≠ 7 ∧ x ≠ 8) : x.toInt < 0 ∨ 8 < x.toInt := by
  by_cases h1 : x.toInt < 0
  · exact Or.inl h1
  · by_cases h2 : 8 < x.toInt
    · exact Or.inr h2
    · exfalso
      have q : ∀ y : Int32, x.toInt = y.toInt → x = y := fun y e => Int32.toInt_inj.mp e
      rcases (show x.toInt = 0 ∨ x.toInt = 1 ∨ x.toInt = 2 ∨ x.toInt = 3 ∨ x.toInt = 4 ∨ x.toInt = 5 ∨ x.toInt = 6 ∨ x.toInt = 7 ∨ x.toInt = 8 by omega) with e | e | e | e | e | e | e | e | e
      · exact h.1 (q 0 e)
      · exact h.2.1 (q 1 e)
      · exact h.2.2.1 (q 2 e)
      · exact h.2.2.2.1 (q 3 e)
      · exact h.2.2.2.2.1 (q 4 e)
      · exact h.2.2.2.2.2.1 (q 5 e)
      · exact h.2.2.2.2.2.2.1 (q 6 e)
      · exact h.2.2.2.2.2.2.2.1 (q 7 e)
      · exact h.2.2.2.2.2.2.2.2 (q 8 e)
set_option maxRecDepth 100000 in
set_option maxHeartbeats 8000000 in
theorem la_loop {p : Program} {l : Launch} {e : Env} {s : State} {m : MethodId} {args : Array Value} {below : List Frame} {meth : Method} {c : Code} {D : va_G} {cI cJ cZ : ClassId} {A : Nat → Prop} {ad : Nat → Nat} {Q : State → Prop} {Ls : Nat} {scr : Nat → Int32} (C : sv_C p s m args meth c D sv_cl (sv_ty cI cJ cZ) A code 7 "StateLogicLaw" (some .boolean)) (hl : l.stackTraces = false) (hscr : sv_scr s A ad Ls scr) (hL : Ls ≤ 2560)
    (hend : ∀ (lv : List (Option Value)) (ws : List va_E) (k n : Nat), k ≤ 601024 → n ≤ 7293034 → sv_V p l e room_1 s m args below meth c D sv_cl A 7 ad Q 705 lv [] ws k n) :
    ∀ (N j : Nat), Ls + 5 - 5 * j < N → 5 * j ≤ Ls + 4 → ∀ (L : Nat → Nat → Int64) (I : Nat → Nat → Int32) (V : Nat → Int32) (W : Nat → Int32) (J : Nat → Nat → Int32) (B : Nat → Nat → Bool) (o : Nat → Int64), lw_inv L I V W J B → sv_V p l e room_1 s m args below meth c D sv_cl A 7 ad Q 23 (lw_lv (5 * j)) [] (hM cI cJ cZ L I V W J B [sv_J cJ 1 o]) (36 + 4 * j) (20133 + 24 * j) := by
  intro N
  induction N with
  | zero => intro j h; exact absurd h (Nat.not_lt_zero _)
  | succ N ih =>
    intro j hN hj L I V W J B o hinv
    unfold lw_lv
    refine sv_iload C d_La_law_23 rfl ?_
    refine sv_aload_n C d_La_law_25 rfl rfl ?_
    refine sv_slen C hscr d_La_law_26 ?_
    refine sv_iconst (v := 5) C d_La_law_27 rfl ?_
    refine sv_isub C d_La_law_28 ?_
    refine sv_icmp_gt (tgt := 705) C d_La_law_29 (by decide) (fun h1 => ?_) (fun h1 => ?_)
    · exact hend _ _ _ _ (by omega) (by omega)
    have h1 : ¬ Ls < 5 * j + 5 := fun h => h1 ((la_cmp hL (by omega)).mpr h)
    have hi : 5 * j + 5 ≤ Ls := by omega
    have hin0 : vp_in (nI (5 * j)) Ls := vp_in_nI (by omega) (by omega)
    have hk : 36 + 4 * j + 4 ≤ 601024 := by omega
    have hn : 20133 + 24 * j + 24 ≤ 7293034 := by omega
    have nx : ∀ (L : Nat → Nat → Int64) (I : Nat → Nat → Int32) (V : Nat → Int32) (W : Nat → Int32) (J : Nat → Nat → Int32) (B : Nat → Nat → Bool) (o : Nat → Int64), lw_inv L I V W J B → sv_V p l e room_1 s m args below meth c D sv_cl A 7 ad Q 699 (lw_lv (5 * j)) [] (hM cI cJ cZ L I V W J B [sv_J cJ 1 o]) (36 + 4 * j + 4) (20133 + 24 * j + 24) := by
      intro L I V W J B o hinv
      unfold lw_lv
      refine sv_iinc C d_La_law_699 rfl rfl (by decide) rfl ?_
      refine sv_goto (tgt := 23) C d_La_law_702 (by decide) ?_
      refine sv_eql (lv' := lw_lv (5 * (j + 1))) (by rw [show 5 * (j + 1) = 5 * j + 5 by omega]; unfold lw_lv; rw [← nI_add (5 * j) 5]; rfl) ?_
      exact sv_widen (k' := 36 + 4 * (j + 1)) (n' := 20133 + 24 * (j + 1)) (by omega) (by omega) (ih (j + 1) (by omega) (by omega) L I V W J B o hinv)
    refine sv_aload_n C d_La_law_32 rfl rfl ?_
    refine sv_iload C d_La_law_33 rfl ?_
    refine sv_sld C hscr d_La_law_35 hin0 ?_
    refine sv_bipush (v := 15) C d_La_law_36 rfl ?_
    refine sv_iand C d_La_law_38 ?_
    generalize scr (nI (5 * j)).toNatClampNeg &&& 15 = v
    by_cases h0 : v = 0
    · rw [h0]
      refine sv_tab (off := 49) (tgt := 88) C d_La_law_39 (by decide) (by decide) (by decide) (by decide) ?_
      exact la_begin C hl hscr hL hi hk hn hinv nx
    by_cases h1' : v = 1
    · rw [h1']
      refine sv_tab (off := 85) (tgt := 124) C d_La_law_39 (by decide) (by decide) (by decide) (by decide) ?_
      exact la_rule C hl hscr hL hi hk hn hinv nx
    by_cases h2 : v = 2
    · rw [h2]
      refine sv_tab (off := 177) (tgt := 216) C d_La_law_39 (by decide) (by decide) (by decide) (by decide) ?_
      exact la_formula C hl hscr hL hi hk hn hinv nx
    by_cases h3 : v = 3
    · rw [h3]
      refine sv_tab (off := 257) (tgt := 296) C d_La_law_39 (by decide) (by decide) (by decide) (by decide) ?_
      exact la_holds C hl hscr hL hi hk hn hinv nx
    by_cases h4 : v = 4
    · rw [h4]
      refine sv_tab (off := 332) (tgt := 371) C d_La_law_39 (by decide) (by decide) (by decide) (by decide) ?_
      exact la_count C hl hscr hL hi hk hn hinv nx
    by_cases h5 : v = 5
    · rw [h5]
      refine sv_tab (off := 388) (tgt := 427) C d_La_law_39 (by decide) (by decide) (by decide) (by decide) ?_
      exact la_first C hl hscr hL hi hk hn hinv nx
    by_cases h6 : v = 6
    · rw [h6]
      refine sv_tab (off := 456) (tgt := 495) C d_La_law_39 (by decide) (by decide) (by decide) (by decide) ?_
      exact la_length C hl hscr hL hi hk hn hinv nx
    by_cases h7 : v = 7
    · rw [h7]
      refine sv_tab (off := 524) (tgt := 563) C d_La_law_39 (by decide) (by decide) (by decide) (by decide) ?_
      exact la_witness C hl hscr hL hi hk hn hinv nx
    by_cases h8 : v = 8
    · rw [h8]
      refine sv_tab (off := 604) (tgt := 643) C d_La_law_39 (by decide) (by decide) (by decide) (by decide) ?_
      exact la_ways C hl hscr hL hi hk hn hinv nx
    refine sv_tabOut (tgt := 699) C d_La_law_39 (tab9 ⟨h0, h1', h2, h3, h4, h5, h6, h7, h8⟩) (by decide) ?_
    exact sv_widen (k' := 36 + 4 * j + 4) (n' := 20133 + 24 * j + 24) (by omega) (by omega) (nx _ _ _ _ _ _ o hinv)
theorem lw_str {s : State} {a : Array Value} (hts : ∀ w ∈ lw_tbl, w.before a s = true) (hgv : (Jvm.Cond.and given_1 narrow_1).before a s = true) {k : Nat} {tx : String} (h1 : Cond.stringRef "StateLogic" k tx ∈ lw_tbl) (h2 : Cond.exactly (.string "StateLogic" k) "java/lang/String" ∈ flatC (Jvm.Cond.and given_1 narrow_1)) : ∃ q, vk_R "StateLogic" k tx q s := by
  obtain ⟨q, c, cA, kA, q1, -⟩ := Cond.exactly_spec (args := a) (first := s) (o := none) (s := s) (idx := []) (t := .string "StateLogic" k) (cls := "java/lang/String") (flat_of_before _ hgv _ h2)
  exact ⟨q, vk_R.of (hts _ h1) q1⟩
theorem lw_arr {s : State} {a : Array Value} {ty : FieldType} (h : (Cond.arrayClass ty).before a s = true) : ∃ cA : ClassId, ArrOfT s cA ty ∧ s.vm.findClass ("[" ++ ty.toString) = some cA := by
  obtain ⟨cA, kA, comp, h1, h2, h3⟩ := Cond.arrayClass_spec (args := a) (first := s) (o := none) (s := s) (idx := []) h
  exact ⟨cA, fun n z => ⟨fun k h => (by cases h), kA, h2, comp, h3⟩, h1⟩
set_option maxRecDepth 100000 in
theorem lw_strs {s : State} {a : Array Value} (hts : ∀ w ∈ lw_tbl, w.before a s = true) (hgv : (Jvm.Cond.and given_1 narrow_1).before a s = true) : ∀ q ∈ sv_S, ∃ b, vk_R "StateLogic" q.1 q.2 b s := by
  refine List.forall_mem_cons.mpr ⟨lw_str hts hgv (by decide +kernel) (by decide +kernel), ?_⟩
  refine List.forall_mem_cons.mpr ⟨lw_str hts hgv (by decide +kernel) (by decide +kernel), ?_⟩
  refine List.forall_mem_cons.mpr ⟨lw_str hts hgv (by decide +kernel) (by decide +kernel), ?_⟩
  refine List.forall_mem_cons.mpr ⟨lw_str hts hgv (by decide +kernel) (by decide +kernel), ?_⟩
  refine List.forall_mem_cons.mpr ⟨lw_str hts hgv (by decide +kernel) (by decide +kernel), ?_⟩
  refine List.forall_mem_cons.mpr ⟨lw_str hts hgv (by decide +kernel) (by decide +kernel), ?_⟩
  refine List.forall_mem_cons.mpr ⟨lw_str hts hgv (by decide +kernel) (by decide +kernel), ?_⟩
  refine List.forall_mem_cons.mpr ⟨lw_str hts hgv (by decide +kernel) (by decide +kernel), ?_⟩
  refine List.forall_mem_cons.mpr ⟨lw_str hts hgv (by decide +kernel) (by decide +kernel), ?_⟩
  refine List.forall_mem_cons.mpr ⟨lw_str hts hgv (by decide +kernel) (by decide +kernel), ?_⟩
  refine List.forall_mem_cons.mpr ⟨lw_str hts hgv (by decide +kernel) (by decide +kernel), ?_⟩
  refine List.forall_mem_cons.mpr ⟨lw_str hts hgv (by decide +kernel) (by decide +kernel), ?_⟩
  exact fun _ h => absurd h List.not_mem_nil
set_option maxRecDepth 100000 in
theorem lw_ncs {s : State} {a : Array Value} (hgv : (Jvm.Cond.and given_1 narrow_1).before a s = true) : ∀ q ∈ sv_N, va_Nc q.1 q.2 s := by
  refine List.forall_mem_cons.mpr ⟨va_Nc.of (flat_of_before _ hgv _ (by decide +kernel)), ?_⟩
  refine List.forall_mem_cons.mpr ⟨va_Nc.of (flat_of_before _ hgv _ (by decide +kernel)), ?_⟩
  refine List.forall_mem_cons.mpr ⟨va_Nc.of (flat_of_before _ hgv _ (by decide +kernel)), ?_⟩
  refine List.forall_mem_cons.mpr ⟨va_Nc.of (flat_of_before _ hgv _ (by decide +kernel)), ?_⟩
  exact fun _ h => absurd h List.not_mem_nil
set_option maxRecDepth 100000 in
set_option maxHeartbeats 16000000 in
theorem whole_start {p : Program} {e : Env} {s : State} {m : MethodId} {below : List Frame} {meth : Method} {c : Code} (l : Launch) (hl : l.stackTraces = false) {b Ls : Nat} {scr : Nat → Int32} (hL : Ls ≤ 2560) (C0 : lw_At p s m meth c b Ls scr) : W p l e room_1 s m #[Value.ref b] below meth c s.heap [] 0 0 (lw_Z below #[Value.ref b] s) (entryFrame m ([Value.ref b] : List Value).toArray 7) := by
  obtain ⟨hx, hb, hr, hml, hown, hts, hX, hbl, hlocks, hgv⟩ := id C0
  have hT : ∀ w ∈ sv_T, w.before #[Value.ref b] s = true := fun w hw => hts w (List.mem_filter.mp hw).1
  obtain ⟨c0, iS0, hKn0⟩ := u_known (C := "StateLogic$Formulas") (T := F_Fo) (N := 10) (n := 10) hT i_Fo (hT _ in_Fo)
  obtain ⟨c1, iS1, hKn1⟩ := u_known (C := "StateLogic$Machine") (T := F_Ma) (N := 5) (n := 5) hT i_Ma (hT _ in_Ma)
  obtain ⟨c2, iS2, hKn2⟩ := u_known (C := "StateLogic$Search") (T := F_Se) (N := 6) (n := 6) hT i_Se (hT _ in_Se)
  obtain ⟨c3, iS3, hKn3⟩ := u_known (C := "StateLogic$Sets") (T := F_St) (N := 1) (n := 1) hT i_St (hT _ in_St)
  obtain ⟨c4, iS4, hKn4⟩ := u_known (C := "StateLogic") (T := F_SL) (N := 2) (n := 2) hT i_SL (hT _ in_SL)
  obtain ⟨c5, iS5, hKn5⟩ := u_known (C := "StateLogicModel") (T := F_Mo) (N := 16) (n := 16) hT i_Mo (hT _ in_Mo)
  obtain ⟨cI, hI1, hI2⟩ := lw_arr (hT _ a_int)
  obtain ⟨cJ, hJ1, hJ2⟩ := lw_arr (hT _ a_long)
  obtain ⟨cZ, hZ1, hZ2⟩ := lw_arr (hT _ a_boolean)
  have hA0 : ∀ q : Nat, q < s.heap.size → ¬ (fun q : Nat => s.heap.size ≤ q) q := fun q h => Nat.not_le.mpr h
  have hZ : sv_Z (fun q : Nat => s.heap.size ≤ q) s := by
    refine ⟨vx_Zqof (hts (.laysStatic Bundle.tN "UNASSIGNED_STACK" Bundle.steD) (by decide +kernel)) (hts (.initialized Bundle.tN) (by decide +kernel)) (flat_of_before _ hgv (.isRef (.static Bundle.tN "UNASSIGNED_STACK" Bundle.steD)) (by decide +kernel)) hA0, vx_Zqof (hts (.laysStatic Bundle.tN "SUPPRESSED_SENTINEL" Bundle.listD) (by decide +kernel)) (hts (.initialized Bundle.tN) (by decide +kernel)) (flat_of_before _ hgv (.isRef (.static Bundle.tN "SUPPRESSED_SENTINEL" Bundle.listD)) (by decide +kernel)) hA0, s, #[Value.ref b], State.WarmedH.refl s, hts, lw_strs hts hgv, lw_ncs hgv⟩
  have hK : va_K (fun k => if k = 0 then c0 else if k = 1 then c1 else if k = 2 then c2 else if k = 3 then c3 else if k = 4 then c4 else c5, fun k => if k = 0 then iS0 else if k = 1 then iS1 else if k = 2 then iS2 else if k = 3 then iS3 else if k = 4 then iS4 else iS5) sv_cl (sv_ty cI cJ cZ) s := by
    refine ⟨fun k q hq => ?_, fun k q hq => ?_⟩
    · match k, hq with
      | 0, hq => cases hq; exact hKn0
      | 1, hq => cases hq; exact hKn1
      | 2, hq => cases hq; exact hKn2
      | 3, hq => cases hq; exact hKn3
      | 4, hq => cases hq; exact hKn4
      | 5, hq => cases hq; exact hKn5
      | k + 6, hq => simp [sv_cl] at hq
    · match k, hq with
      | 0, hq => cases hq; exact ⟨hI1, hI2⟩
      | 1, hq => cases hq; exact ⟨hJ1, hJ2⟩
      | 2, hq => cases hq; exact ⟨hZ1, hZ2⟩
      | k + 3, hq => simp at hq
  generalize ((fun k => if k = 0 then c0 else if k = 1 then c1 else if k = 2 then c2 else if k = 3 then c3 else if k = 4 then c4 else c5, fun k => if k = 0 then iS0 else if k = 1 then iS1 else if k = 2 then iS2 else if k = 3 then iS3 else if k = 4 then iS4 else iS5) : va_G) = D at hK
  have C : sv_C p s m #[Value.ref b] meth c D sv_cl (sv_ty cI cJ cZ) (fun q : Nat => s.heap.size ≤ q) code 7 "StateLogicLaw" (some .boolean) := ⟨hx, hb, hml, hown, hT, hK, fun _ h => h, hr, hlocks, hZ⟩
  have hend : ∀ (ad : Nat → Nat) (lv : List (Option Value)) (ws : List va_E) (k n : Nat), k ≤ 601024 → n ≤ 7293034 → sv_V p l e room_1 s m #[Value.ref b] below meth c D sv_cl (fun q : Nat => s.heap.size ≤ q) 7 ad (lw_Z below #[Value.ref b] s) 705 lv [] ws k n := by
    intro ad lv ws k n hk hn
    refine sv_iconst (v := 1) C d_La_law_705 rfl ?_
    intro H locs ls hP hD hS h
    exact va_forget (fun q hq => hS.2.2 q hq) (W.widen hk hn (lw_ret hx hb hr hlocks d_La_law_706))
  have hent := lv_entry ([.ref b]) (n := 7) (Nat.le_of_ble_eq_true rfl)
  rw [lg_entry_eq]
  have key : sv_V p l e room_1 s m #[Value.ref b] below meth c D sv_cl (fun q : Nat => s.heap.size ≤ q) 7 (fun _ => b) (lw_Z below #[Value.ref b] s) 0 [some (.ref 36), none, none, none, none, none, none] [] [] 0 0 := by
    refine sv_newL (ci := 4) (fs := nv_SL) (z := 0) C i_SL t_SL t_SL_ok c_La_8 in_SL z_SL rfl nf_SL rfl d_La_law_0 rfl rfl rfl rfl ⟨(Nat.le_of_ble_eq_true rfl), (Nat.le_of_ble_eq_true rfl)⟩ (fun q0 => ?_)
    refine sv_dup C d_La_law_3 rfl ?_
    refine sv_eqw (ws' := [.inr (4, [.null, .null])]) rfl ?_
    refine sv_callIL C (c_SL_init (cI := cI) (cJ := cJ) (cZ := cZ) (rl := fun _ => (0, 0, 0, 0)) (kd := fun _ => 0) (xs := fun _ => 0) (ys := fun _ => 0)) s_La_50 rfl ki_SL_init ⟨rfl, rfl, Nat.le_of_ble_eq_true rfl, Nat.le_of_ble_eq_true rfl⟩ d_La_law_4 (Nat.le_of_ble_eq_true rfl) ⟨(Nat.le_of_ble_eq_true rfl), (Nat.le_of_ble_eq_true rfl)⟩ rfl rfl (fun v9 ws9 ad1 hag1 hp => ?_)
    obtain ⟨rfl, L, I, V, rfl, hsl⟩ := hp
    refine sv_astore_n C d_La_law_7 rfl (by decide) rfl ?_
    refine sv_newL (ci := 5) (fs := nv_Mo) (z := 23) C i_Mo t_Mo t_Mo_ok c_La_51 in_Mo z_Mo rfl nf_Mo rfl d_La_law_8 rfl rfl rfl rfl ⟨(Nat.le_of_ble_eq_true rfl), (Nat.le_of_ble_eq_true rfl)⟩ (fun q1 => ?_)
    refine sv_dup C d_La_law_11 rfl ?_
    refine sv_eqw (ws' := hC cI cJ cZ L I V [.inr (5, nv_Mo)]) rfl ?_
    refine sv_callIL C (c_Mo_init (cI := cI) (cJ := cJ) (cZ := cZ) (L := L) (I := I) (V := V) (rl := fun _ => (0, 0, 0, 0)) (kd := fun _ => 0) (xs := fun _ => 0) (ys := fun _ => 0)) s_La_53 rfl ki_Mo_init ⟨rfl, rfl, Nat.le_of_ble_eq_true rfl, Nat.le_of_ble_eq_true rfl⟩ d_La_law_12 (Nat.le_of_ble_eq_true rfl) ⟨(Nat.le_of_ble_eq_true rfl), (Nat.le_of_ble_eq_true rfl)⟩ rfl rfl (fun v9 ws9 ad2 hag2 hp => ?_)
    obtain ⟨rfl, W, J, B, rfl, hmo⟩ := hp
    refine sv_astore_n C d_La_law_15 rfl (by decide) rfl ?_
    refine sv_iconst (v := 1) C d_La_law_16 rfl ?_
    refine sv_newaL (atype := .long) (ty := .long) (t0 := 1) (N := 1) (a0 := (1, .inr (.inl (fun _ => 0)))) (z := 35) C rfl a_long rfl (fun _ _ => rfl) (fun _ => rfl) (by decide +kernel) (by decide +kernel) (by decide) d_La_law_17 rfl rfl rfl rfl ⟨(Nat.le_of_ble_eq_true rfl), (Nat.le_of_ble_eq_true rfl)⟩ (fun q2 => ?_)
    refine sv_astore_n C d_La_law_19 rfl (by decide) rfl ?_
    refine sv_iconst (v := 0) C d_La_law_20 rfl ?_
    refine sv_istore C d_La_law_21 (by decide) rfl ?_
    refine sv_eqw (ws' := hM cI cJ cZ L I V W J B [sv_J cJ 1 (fun _ => 0)]) rfl ?_
    have had : hu ad2 35 q2 36 = b := by
      rw [hu_n (by decide), hag2 36 (by decide), hu_n (by decide), hag1 36 (by decide), hu_n (by decide)]
    have hscr : sv_scr s (fun q : Nat => s.heap.size ≤ q) (hu ad2 35 q2) Ls scr := by
      unfold sv_scr
      rw [had]
      exact ⟨hX, hbl, Nat.not_le.mpr hbl⟩
    exact la_loop C hl hscr hL (hend _) (Ls + 6) 0 (by omega) (by omega) L I V W J B _ ⟨_, _, _, _, _, _, _, hsl, hmo⟩
  refine key s.heap [] _ (fun k q h => by simp [sv_w] at h) ⟨fun i j p q h => by simp [sv_w] at h, fun k q h => by simp [sv_w] at h⟩ va_S.rf ⟨_, hent, fun i v hi => ?_⟩
  match i, hi with
  | 0, hi => cases hi; exact List.mem_cons_self
  | 1, hi => simp at hi
  | 2, hi => simp at hi
  | 3, hi => simp at hi
  | 4, hi => simp at hi
  | 5, hi => simp at hi
  | 6, hi => simp at hi
  | i + 7, hi => simp at hi
