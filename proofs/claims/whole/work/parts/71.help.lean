/-! What each call answers; the law's helpers -/
/-- holds(f, s) answers x, or is refused as k says -/
def aHo (n r mk : Nat) (rl : Nat → Nat × Nat × Nat × Nat) (kd xs ys : Nat → Nat) (f s k x : Int32) : Prop := (k = 0 ∧ iF mk f ∧ iS n s ∧ ∃ t : Bool, x = b2i t ∧ (t = true ↔ tF (rs n r rl) (2 ^ n) kd xs ys f.toNatClampNeg s.toNatClampNeg)) ∨ (k = 1 ∧ ¬ (iF mk f ∧ iS n s))
def aCo (n r mk : Nat) (rl : Nat → Nat × Nat × Nat × Nat) (kd xs ys : Nat → Nat) (f k x : Int32) : Prop := (k = 0 ∧ iF mk f ∧ ∃ Q : Nat → Bool, x = nI (g_cnt Q 256) ∧ ∀ z, z < 256 → (Q z = true ↔ tF (rs n r rl) (2 ^ n) kd xs ys f.toNatClampNeg z)) ∨ (k = 1 ∧ ¬ iF mk f)
def aFi (n r mk : Nat) (rl : Nat → Nat × Nat × Nat × Nat) (kd xs ys : Nat → Nat) (f s k x : Int32) : Prop := (k = 0 ∧ iF mk f ∧ iS n s ∧ ((x = -1 ∧ ∀ z, s.toNatClampNeg ≤ z → ¬ tF (rs n r rl) (2 ^ n) kd xs ys f.toNatClampNeg z) ∨ ∃ y, x = nI y ∧ y < 256 ∧ s.toNatClampNeg ≤ y ∧ tF (rs n r rl) (2 ^ n) kd xs ys f.toNatClampNeg y ∧ ∀ z, s.toNatClampNeg ≤ z → z < y → ¬ tF (rs n r rl) (2 ^ n) kd xs ys f.toNatClampNeg z)) ∨ (k = 1 ∧ ¬ (iF mk f ∧ iS n s))
def aLe (n r mk : Nat) (rl : Nat → Nat × Nat × Nat × Nat) (kd xs ys : Nat → Nat) (f s k x : Int32) : Prop := (k = 0 ∧ iF mk f ∧ iS n s ∧ kd f.toNatClampNeg = 5 ∧ ∃ m, x = nI m ∧ rlen (rs n r rl) (tF (rs n r rl) (2 ^ n) kd xs ys (xs f.toNatClampNeg)) (tF (rs n r rl) (2 ^ n) kd xs ys (ys f.toNatClampNeg)) s.toNatClampNeg m) ∨ (k = 1 ∧ ¬ (iF mk f ∧ iS n s)) ∨ (k = 2 ∧ iF mk f ∧ iS n s ∧ kd f.toNatClampNeg ≠ 5)
def aWi (n r mk : Nat) (rl : Nat → Nat × Nat × Nat × Nat) (kd xs ys : Nat → Nat) (f s j k x : Int32) : Prop := (k = 0 ∧ iF mk f ∧ iS n s ∧ kd f.toNatClampNeg = 5 ∧ ∃ m t, rlen (rs n r rl) (tF (rs n r rl) (2 ^ n) kd xs ys (xs f.toNatClampNeg)) (tF (rs n r rl) (2 ^ n) kd xs ys (ys f.toNatClampNeg)) s.toNatClampNeg m ∧ (0 ≤ j ∧ j < nI m) ∧ x = nI t ∧ wit (rs n r rl) (tF (rs n r rl) (2 ^ n) kd xs ys (xs f.toNatClampNeg)) (tF (rs n r rl) (2 ^ n) kd xs ys (ys f.toNatClampNeg)) s.toNatClampNeg j.toNatClampNeg t) ∨ (k = 1 ∧ ¬ (iF mk f ∧ iS n s)) ∨ (k = 2 ∧ iF mk f ∧ iS n s ∧ kd f.toNatClampNeg ≠ 5) ∨ (k = 3 ∧ iF mk f ∧ iS n s ∧ kd f.toNatClampNeg = 5 ∧ (j < 0 ∨ ∃ m, rlen (rs n r rl) (tF (rs n r rl) (2 ^ n) kd xs ys (xs f.toNatClampNeg)) (tF (rs n r rl) (2 ^ n) kd xs ys (ys f.toNatClampNeg)) s.toNatClampNeg m ∧ ¬ j < nI m))
def aWa (n r mk : Nat) (rl : Nat → Nat × Nat × Nat × Nat) (kd xs ys : Nat → Nat) (s k x : Int32) : Prop := (k = 0 ∧ iS n s ∧ ∃ Q : Nat → Bool, x = nI (g_cnt Q 256) ∧ ∀ z, z < 256 → (Q z = true ↔ rs n r rl s.toNatClampNeg z)) ∨ (k = 1 ∧ ¬ iS n s)
theorem bq {p : Prop} {a b : Bool} (h1 : a = true ↔ p) (h2 : b = true ↔ p) : a = b := by
  cases a <;> cases b
  · rfl
  · exact absurd (h1.mpr (h2.mp rfl)) Bool.false_ne_true
  · exact absurd (h2.mpr (h1.mp rfl)) Bool.false_ne_true
  · rfl
theorem aHo_un {n r mk : Nat} {rl : Nat → Nat × Nat × Nat × Nat} {kd xs ys : Nat → Nat} {f s k x k' x' : Int32} (h : aHo n r mk rl kd xs ys f s k x) (h' : aHo n r mk rl kd xs ys f s k' x') : k' = k ∧ (k = 0 → x = x') := by
  rcases h with ⟨rfl, a1, a2, t, rfl, a3⟩ | ⟨rfl, a1⟩ <;> rcases h' with ⟨rfl, b1, b2, t', rfl, b3⟩ | ⟨rfl, b1⟩
  · exact ⟨rfl, fun _ => by rw [bq a3 b3]⟩
  · exact absurd ⟨a1, a2⟩ b1
  · exact absurd ⟨b1, b2⟩ a1
  · exact ⟨rfl, fun h => absurd h (by decide)⟩
theorem aCo_un {n r mk : Nat} {rl : Nat → Nat × Nat × Nat × Nat} {kd xs ys : Nat → Nat} {f k x k' x' : Int32} (h : aCo n r mk rl kd xs ys f k x) (h' : aCo n r mk rl kd xs ys f k' x') : k' = k ∧ (k = 0 → x = x') := by
  rcases h with ⟨rfl, a1, Q, rfl, a3⟩ | ⟨rfl, a1⟩ <;> rcases h' with ⟨rfl, b1, Q', rfl, b3⟩ | ⟨rfl, b1⟩
  · exact ⟨rfl, fun _ => congrArg nI (g_cnt_congr 256 (fun z hz => bq (a3 z hz) (b3 z hz)))⟩
  · exact absurd a1 b1
  · exact absurd b1 a1
  · exact ⟨rfl, fun h => absurd h (by decide)⟩
theorem aWa_un {n r mk : Nat} {rl : Nat → Nat × Nat × Nat × Nat} {kd xs ys : Nat → Nat} {s k x k' x' : Int32} (h : aWa n r mk rl kd xs ys s k x) (h' : aWa n r mk rl kd xs ys s k' x') : k' = k ∧ (k = 0 → x = x') := by
  rcases h with ⟨rfl, a1, Q, rfl, a3⟩ | ⟨rfl, a1⟩ <;> rcases h' with ⟨rfl, b1, Q', rfl, b3⟩ | ⟨rfl, b1⟩
  · exact ⟨rfl, fun _ => congrArg nI (g_cnt_congr 256 (fun z hz => bq (a3 z hz) (b3 z hz)))⟩
  · exact absurd a1 b1
  · exact absurd b1 a1
  · exact ⟨rfl, fun h => absurd h (by decide)⟩
theorem aFi_un {n r mk : Nat} {rl : Nat → Nat × Nat × Nat × Nat} {kd xs ys : Nat → Nat} {f s k x k' x' : Int32} (h : aFi n r mk rl kd xs ys f s k x) (h' : aFi n r mk rl kd xs ys f s k' x') : k' = k ∧ (k = 0 → x = x') := by
  rcases h with ⟨rfl, a1, a2, a3⟩ | ⟨rfl, a1⟩ <;> rcases h' with ⟨rfl, b1, b2, b3⟩ | ⟨rfl, b1⟩
  · refine ⟨rfl, fun _ => ?_⟩
    rcases a3 with ⟨rfl, a3⟩ | ⟨y, rfl, -, a4, a5, a6⟩ <;> rcases b3 with ⟨rfl, b3⟩ | ⟨y', rfl, -, b4, b5, b6⟩
    · rfl
    · exact absurd b5 (a3 y' b4)
    · exact absurd a5 (b3 y a4)
    · rcases Nat.lt_trichotomy y y' with q | q | q
      · exact absurd a5 (b6 y a4 q)
      · rw [q]
      · exact absurd b5 (a6 y' b4 q)
  · exact absurd ⟨a1, a2⟩ b1
  · exact absurd ⟨b1, b2⟩ a1
  · exact ⟨rfl, fun h => absurd h (by decide)⟩
theorem aLe_un {n r mk : Nat} {rl : Nat → Nat × Nat × Nat × Nat} {kd xs ys : Nat → Nat} {f s k x k' x' : Int32} (h : aLe n r mk rl kd xs ys f s k x) (h' : aLe n r mk rl kd xs ys f s k' x') : k' = k ∧ (k = 0 → x = x') := by
  rcases h with ⟨rfl, a1, a2, a3, m, rfl, a4⟩ | ⟨rfl, a1⟩ | ⟨rfl, a1, a2, a3⟩ <;> rcases h' with ⟨rfl, b1, b2, b3, m', rfl, b4⟩ | ⟨rfl, b1⟩ | ⟨rfl, b1, b2, b3⟩
  · exact ⟨rfl, fun _ => by rw [rlen_un a4 b4]⟩
  · exact absurd ⟨a1, a2⟩ b1
  · exact absurd a3 b3
  · exact absurd ⟨b1, b2⟩ a1
  · exact ⟨rfl, fun h => absurd h (by decide)⟩
  · exact absurd ⟨b1, b2⟩ a1
  · exact absurd b3 a3
  · exact absurd ⟨a1, a2⟩ b1
  · exact ⟨rfl, fun h => absurd h (by decide)⟩
theorem aWi_un {n r mk : Nat} {rl : Nat → Nat × Nat × Nat × Nat} {kd xs ys : Nat → Nat} {f s j k x k' x' : Int32} (h : aWi n r mk rl kd xs ys f s j k x) (h' : aWi n r mk rl kd xs ys f s j k' x') : k' = k ∧ (k = 0 → x = x') := by
  have no : ∀ {m : Nat}, rlen (rs n r rl) (tF (rs n r rl) (2 ^ n) kd xs ys (xs f.toNatClampNeg)) (tF (rs n r rl) (2 ^ n) kd xs ys (ys f.toNatClampNeg)) s.toNatClampNeg m → (0 ≤ j ∧ j < nI m) → ¬ (j < 0 ∨ ∃ m, rlen (rs n r rl) (tF (rs n r rl) (2 ^ n) kd xs ys (xs f.toNatClampNeg)) (tF (rs n r rl) (2 ^ n) kd xs ys (ys f.toNatClampNeg)) s.toNatClampNeg m ∧ ¬ j < nI m) := by
    rintro m h1 h2 (q | ⟨m', q1, q2⟩)
    · exact absurd q (Int32.not_lt.mpr h2.1)
    · rw [rlen_un q1 h1] at q2
      exact q2 h2.2
  rcases h with ⟨rfl, a1, a2, a3, m, t, a4, a5, rfl, a6⟩ | ⟨rfl, a1⟩ | ⟨rfl, a1, a2, a3⟩ | ⟨rfl, a1, a2, a3, a4⟩ <;> rcases h' with ⟨rfl, b1, b2, b3, m', t', b4, b5, rfl, b6⟩ | ⟨rfl, b1⟩ | ⟨rfl, b1, b2, b3⟩ | ⟨rfl, b1, b2, b3, b4⟩
  · exact ⟨rfl, fun _ => by rw [wit_un a6 b6]⟩
  · exact absurd ⟨a1, a2⟩ b1
  · exact absurd a3 b3
  · exact absurd b4 (no a4 a5)
  · exact absurd ⟨b1, b2⟩ a1
  · exact ⟨rfl, fun h => absurd h (by decide)⟩
  · exact absurd ⟨b1, b2⟩ a1
  · exact absurd ⟨b1, b2⟩ a1
  · exact absurd b3 a3
  · exact absurd ⟨a1, a2⟩ b1
  · exact ⟨rfl, fun h => absurd h (by decide)⟩
  · exact absurd b3 a3
  · exact absurd a4 (no b4 b5)
  · exact absurd ⟨a1, a2⟩ b1
  · exact absurd a3 b3
  · exact ⟨rfl, fun h => absurd h (by decide)⟩
set_option maxRecDepth 100000 in
set_option maxHeartbeats 8000000 in
theorem c_La_begin {l : Launch} {D : va_G} {cI cJ cZ : ClassId} {L : Nat → Nat → Int64} {I : Nat → Nat → Int32} {V : Nat → Int32} {W : Nat → Int32} {J : Nat → Nat → Int32} {B : Nat → Nat → Bool} {o : Nat → Int64} (hl : l.stackTraces = false) {n r mk : Nat} {rl : Nat → Nat × Nat × Nat × Nat} {kd xs ys : Nat → Nat} (hok : sl_ok L I V n r mk rl kd xs ys) {x : Int32} :
    sv_M l y_La_begin [Cond.codeWith y_La_begin b_La_begin 3 (some .int) [(0, 5, 8, 13)]] ({ frames := 7, cells := 4, slots := 24, locals := 121 } : Room) D sv_cl (sv_ty cI cJ cZ) [.ref 0, .int x] (hM cI cJ cZ L I V W J B [sv_J cJ 1 o]) 0 0 (fun q ws' => ∃ k : Int32, q = some (.int k) ∧ ∃ (L' : Nat → Nat → Int64) (I' : Nat → Nat → Int32) (V' : Nat → Int32), ws' = hM cI cJ cZ L' I' V' W J B [sv_J cJ 1 o] ∧ ((k = 0 ∧ bG x ∧ sl_ok L' I' V' x.toNatClampNeg 0 0 rl kd xs ys) ∨ (k = 1 ∧ ¬ bG x ∧ sl_ok L' I' V' n r mk rl kd xs ys))) sv_no 4 24 := by
  refine sv_ofH (cc := b_La_begin) (by decide +kernel) k_La_begin (Nat.le_of_ble_eq_true rfl) ?_
  intro pX eX sX mX aX bX tX cX AX adX C htab hnm
  refine sv_aload_n C d_La_begin_0 rfl rfl ?_
  refine sv_iload_n C d_La_begin_1 rfl rfl ?_
  refine sv_callV (ci := 4) C (c_SL_begin (cI := cI) (cJ := cJ) (cZ := cZ) (L := L) (I := I) (V := V) (tl := mC cI cZ W J B [sv_J cJ 1 o]) hl (n := n) (r := r) (mk := mk) (rl := rl) (kd := kd) (xs := xs) (ys := ys) hok (x := x)) s_La_7 ki_SL_begin ks_SL_begin ⟨rfl, rfl, Nat.le_of_ble_eq_true rfl, Nat.le_of_ble_eq_true rfl⟩ rfl d_La_begin_2 (by first | assumption | rfl) (Nat.le_of_ble_eq_true rfl) ⟨(Nat.le_of_ble_eq_true rfl), (Nat.le_of_ble_eq_true rfl)⟩ (fun E ws9 hx => ?_) (fun v9 ws9 hp => ?_)
  · obtain ⟨rfl, rfl, hno⟩ := hx
    refine sv_catchN (z := 2) C [] ⟨0, 5, 8, 13⟩ [] htab (fun z9 h9 => nomatch h9) (by decide) (by decide) q_La_13 qc_IA d_La_begin_8 (by decide) ?_
    refine sv_iconst (v := 1) C d_La_begin_9 rfl ?_
    exact sv_iret C rfl rfl d_La_begin_10 (Nat.le_of_ble_eq_true rfl) (Nat.le_of_ble_eq_true rfl) (fun _ _ => rfl) (⟨1, rfl, L, I, V, rfl, Or.inr ⟨rfl, hno, hok⟩⟩)
  · obtain ⟨rfl, hg, L', I', V', rfl, hok'⟩ := hp
    refine sv_goto (tgt := 11) C d_La_begin_5 (by decide) ?_
    refine sv_iconst (v := 0) C d_La_begin_11 rfl ?_
    exact sv_iret C rfl rfl d_La_begin_12 (Nat.le_of_ble_eq_true rfl) (Nat.le_of_ble_eq_true rfl) (fun _ _ => rfl) (⟨0, rfl, L', I', V', rfl, Or.inl ⟨rfl, hg, hok'⟩⟩)
theorem in01 : vp_in (0 : Int32) 1 := vp_in_nI (n := 0) (by omega) (by omega)
set_option maxRecDepth 100000 in
set_option maxHeartbeats 8000000 in
theorem c_La_rule {l : Launch} {D : va_G} {cI cJ cZ : ClassId} {L : Nat → Nat → Int64} {I : Nat → Nat → Int32} {V : Nat → Int32} {W : Nat → Int32} {J : Nat → Nat → Int32} {B : Nat → Nat → Bool} {o : Nat → Int64} (hl : l.stackTraces = false) {n r mk : Nat} {rl : Nat → Nat × Nat × Nat × Nat} {kd xs ys : Nat → Nat} (hok : sl_ok L I V n r mk rl kd xs ys) {m v k f : Int32} :
    sv_M l y_La_rule [Cond.codeWith y_La_rule b_La_rule 7 (some .int) [(0, 14, 17, 13), (0, 14, 21, 19)]] ({ frames := 8, cells := 4, slots := 24, locals := 146 } : Room) D sv_cl (sv_ty cI cJ cZ) [.ref 0, .int m, .int v, .int k, .int f, .ref 35] (hM cI cJ cZ L I V W J B [sv_J cJ 1 o]) 0 0 (fun q ws' => ∃ u : Int32, q = some (.int u) ∧ ∃ (L' : Nat → Nat → Int64) (I' : Nat → Nat → Int32) (V' : Nat → Int32) (o' : Nat → Int64), ws' = hM cI cJ cZ L' I' V' W J B [sv_J cJ 1 o'] ∧ ((u = 0 ∧ o' 0 = (nI r).toInt64 ∧ ruG n m v k f ∧ r < 40 ∧ sl_ok L' I' V' n (r + 1) mk (ruN rl r m v k f) kd xs ys) ∨ (u = 1 ∧ ¬ ruG n m v k f ∧ sl_ok L' I' V' n r mk rl kd xs ys) ∨ (u = 2 ∧ (ruG n m v k f ∧ ¬ r < 40) ∧ sl_ok L' I' V' n r mk rl kd xs ys))) sv_no 4 24 := by
  refine sv_ofH (cc := b_La_rule) (by decide +kernel) k_La_rule (Nat.le_of_ble_eq_true rfl) ?_
  intro pX eX sX mX aX bX tX cX AX adX C htab hnm
  refine sv_aload C d_La_rule_0 rfl ?_
  refine sv_iconst (v := 0) C d_La_rule_2 rfl ?_
  refine sv_aload_n C d_La_rule_3 rfl rfl ?_
  refine sv_iload_n C d_La_rule_4 rfl rfl ?_
  refine sv_iload_n C d_La_rule_5 rfl rfl ?_
  refine sv_iload_n C d_La_rule_6 rfl rfl ?_
  refine sv_iload C d_La_rule_7 rfl ?_
  refine sv_callV (ci := 4) C (c_SL_rule (cI := cI) (cJ := cJ) (cZ := cZ) (L := L) (I := I) (V := V) (tl := mC cI cZ W J B [sv_J cJ 1 o]) hl (n := n) (r := r) (mk := mk) (rl := rl) (kd := kd) (xs := xs) (ys := ys) hok (m := m) (v := v) (k := k) (f := f)) s_La_15 ki_SL_rule ks_SL_rule ⟨rfl, rfl, Nat.le_of_ble_eq_true rfl, Nat.le_of_ble_eq_true rfl⟩ rfl d_La_rule_9 (by first | assumption | rfl) (Nat.le_of_ble_eq_true rfl) ⟨(Nat.le_of_ble_eq_true rfl), (Nat.le_of_ble_eq_true rfl)⟩ (fun E ws9 hx => ?_) (fun v9 ws9 hp => ?_)
  · obtain ⟨rfl, ⟨rfl, hno⟩ | ⟨rfl, hno⟩⟩ := hx
    · refine sv_catch (i := 6) C [] ⟨0, 14, 17, 13⟩ [⟨0, 14, 21, 19⟩] htab (fun z9 h9 => nomatch h9) (by decide) (by decide) q_La_13 qc_IA d_La_rule_17 (by decide) ?_
      refine sv_iconst (v := 1) C d_La_rule_19 rfl ?_
      exact sv_iret C rfl rfl d_La_rule_20 (Nat.le_of_ble_eq_true rfl) (Nat.le_of_ble_eq_true rfl) (fun _ _ => rfl) (⟨1, rfl, L, I, V, o, rfl, Or.inr (Or.inl ⟨rfl, hno, hok⟩)⟩)
    · refine sv_catch (i := 6) C [⟨0, 14, 17, 13⟩] ⟨0, 14, 21, 19⟩ [] htab (by
          intro z9 h9
          simp only [List.mem_cons, List.not_mem_nil, or_false] at h9
          subst h9
          exact ⟨by decide, xIA, q_La_13, qn_UOIA⟩) (by decide) (by decide) q_La_19 qc_UO d_La_rule_21 (by decide) ?_
      refine sv_iconst (v := 2) C d_La_rule_23 rfl ?_
      exact sv_iret C rfl rfl d_La_rule_24 (Nat.le_of_ble_eq_true rfl) (Nat.le_of_ble_eq_true rfl) (fun _ _ => rfl) (⟨2, rfl, L, I, V, o, rfl, Or.inr (Or.inr ⟨rfl, hno, hok⟩)⟩)
  · obtain ⟨rfl, hg1, hg2, L', I', V', rfl, hok'⟩ := hp
    refine sv_i2l C d_La_rule_12 ?_
    refine sv_last (t0 := 1) C rfl d_La_rule_13 (by first | assumption | rfl) in01 ?_
    refine sv_eqw (ws' := hM cI cJ cZ L' I' V' W J B [sv_J cJ 1 (vp_updL o 0 (nI r).toInt64)]) rfl ?_
    refine sv_goto (tgt := 25) C d_La_rule_14 (by decide) ?_
    refine sv_iconst (v := 0) C d_La_rule_25 rfl ?_
    exact sv_iret C rfl rfl d_La_rule_26 (Nat.le_of_ble_eq_true rfl) (Nat.le_of_ble_eq_true rfl) (fun _ _ => rfl) (⟨0, rfl, L', I', V', _, rfl, Or.inl ⟨rfl, rfl, hg1, hg2, hok'⟩⟩)
set_option maxRecDepth 100000 in
set_option maxHeartbeats 8000000 in
theorem c_La_formula {l : Launch} {D : va_G} {cI cJ cZ : ClassId} {L : Nat → Nat → Int64} {I : Nat → Nat → Int32} {V : Nat → Int32} {W : Nat → Int32} {J : Nat → Nat → Int32} {B : Nat → Nat → Bool} {o : Nat → Int64} (hl : l.stackTraces = false) {n r mk : Nat} {rl : Nat → Nat × Nat × Nat × Nat} {kd xs ys : Nat → Nat} (hok : sl_ok L I V n r mk rl kd xs ys) {k x y : Int32} :
    sv_M l y_La_formula [Cond.codeWith y_La_formula b_La_formula 6 (some .int) [(0, 12, 15, 13), (0, 12, 19, 19)]] ({ frames := 8, cells := 4, slots := 24, locals := 145 } : Room) D sv_cl (sv_ty cI cJ cZ) [.ref 0, .int k, .int x, .int y, .ref 35] (hM cI cJ cZ L I V W J B [sv_J cJ 1 o]) 0 0 (fun q ws' => ∃ u : Int32, q = some (.int u) ∧ ∃ (L' : Nat → Nat → Int64) (I' : Nat → Nat → Int32) (V' : Nat → Int32) (o' : Nat → Int64), ws' = hM cI cJ cZ L' I' V' W J B [sv_J cJ 1 o'] ∧ ((u = 0 ∧ o' 0 = (nI mk).toInt64 ∧ fG n mk k x y ∧ mk < 60 ∧ sl_ok L' I' V' n r (mk + 1) rl (hu kd mk k.toNatClampNeg) (hu xs mk x.toNatClampNeg) (hu ys mk (yN k x y).toNatClampNeg)) ∨ (u = 1 ∧ ¬ fG n mk k x y ∧ sl_ok L' I' V' n r mk rl kd xs ys) ∨ (u = 2 ∧ (fG n mk k x y ∧ ¬ mk < 60) ∧ sl_ok L' I' V' n r mk rl kd xs ys))) sv_no 4 24 := by
  refine sv_ofH (cc := b_La_formula) (by decide +kernel) k_La_formula (Nat.le_of_ble_eq_true rfl) ?_
  intro pX eX sX mX aX bX tX cX AX adX C htab hnm
  refine sv_aload C d_La_formula_0 rfl ?_
  refine sv_iconst (v := 0) C d_La_formula_2 rfl ?_
  refine sv_aload_n C d_La_formula_3 rfl rfl ?_
  refine sv_iload_n C d_La_formula_4 rfl rfl ?_
  refine sv_iload_n C d_La_formula_5 rfl rfl ?_
  refine sv_iload_n C d_La_formula_6 rfl rfl ?_
  refine sv_callV (ci := 4) C (c_SL_formula (cI := cI) (cJ := cJ) (cZ := cZ) (L := L) (I := I) (V := V) (tl := mC cI cZ W J B [sv_J cJ 1 o]) hl (n := n) (r := r) (mk := mk) (rl := rl) (kd := kd) (xs := xs) (ys := ys) hok (k := k) (x := x) (y := y)) s_La_21 ki_SL_formula ks_SL_formula ⟨rfl, rfl, Nat.le_of_ble_eq_true rfl, Nat.le_of_ble_eq_true rfl⟩ rfl d_La_formula_7 (by first | assumption | rfl) (Nat.le_of_ble_eq_true rfl) ⟨(Nat.le_of_ble_eq_true rfl), (Nat.le_of_ble_eq_true rfl)⟩ (fun E ws9 hx => ?_) (fun v9 ws9 hp => ?_)
  · obtain ⟨rfl, ⟨rfl, hno⟩ | ⟨rfl, hno⟩⟩ := hx
    · refine sv_catch (i := 5) C [] ⟨0, 12, 15, 13⟩ [⟨0, 12, 19, 19⟩] htab (fun z9 h9 => nomatch h9) (by decide) (by decide) q_La_13 qc_IA d_La_formula_15 (by decide) ?_
      refine sv_iconst (v := 1) C d_La_formula_17 rfl ?_
      exact sv_iret C rfl rfl d_La_formula_18 (Nat.le_of_ble_eq_true rfl) (Nat.le_of_ble_eq_true rfl) (fun _ _ => rfl) (⟨1, rfl, L, I, V, o, rfl, Or.inr (Or.inl ⟨rfl, hno, hok⟩)⟩)
    · refine sv_catch (i := 5) C [⟨0, 12, 15, 13⟩] ⟨0, 12, 19, 19⟩ [] htab (by
          intro z9 h9
          simp only [List.mem_cons, List.not_mem_nil, or_false] at h9
          subst h9
          exact ⟨by decide, xIA, q_La_13, qn_UOIA⟩) (by decide) (by decide) q_La_19 qc_UO d_La_formula_19 (by decide) ?_
      refine sv_iconst (v := 2) C d_La_formula_21 rfl ?_
      exact sv_iret C rfl rfl d_La_formula_22 (Nat.le_of_ble_eq_true rfl) (Nat.le_of_ble_eq_true rfl) (fun _ _ => rfl) (⟨2, rfl, L, I, V, o, rfl, Or.inr (Or.inr ⟨rfl, hno, hok⟩)⟩)
  · obtain ⟨rfl, hg1, hg2, L', I', V', rfl, hok'⟩ := hp
    refine sv_i2l C d_La_formula_10 ?_
    refine sv_last (t0 := 1) C rfl d_La_formula_11 (by first | assumption | rfl) in01 ?_
    refine sv_eqw (ws' := hM cI cJ cZ L' I' V' W J B [sv_J cJ 1 (vp_updL o 0 (nI mk).toInt64)]) rfl ?_
    refine sv_goto (tgt := 23) C d_La_formula_12 (by decide) ?_
    refine sv_iconst (v := 0) C d_La_formula_23 rfl ?_
    exact sv_iret C rfl rfl d_La_formula_24 (Nat.le_of_ble_eq_true rfl) (Nat.le_of_ble_eq_true rfl) (fun _ _ => rfl) (⟨0, rfl, L', I', V', _, rfl, Or.inl ⟨rfl, rfl, hg1, hg2, hok'⟩⟩)
set_option maxRecDepth 100000 in
set_option maxHeartbeats 8000000 in
theorem c_La_holds {l : Launch} {D : va_G} {cI cJ cZ : ClassId} {L : Nat → Nat → Int64} {I : Nat → Nat → Int32} {V : Nat → Int32} {W : Nat → Int32} {J : Nat → Nat → Int32} {B : Nat → Nat → Bool} {o : Nat → Int64} (hl : l.stackTraces = false) {n r mk : Nat} {rl : Nat → Nat × Nat × Nat × Nat} {kd xs ys : Nat → Nat} (hok : sl_ok L I V n r mk rl kd xs ys) {f s : Int32} :
    sv_M l y_La_holds [Cond.codeWith y_La_holds b_La_holds 5 (some .int) [(0, 17, 20, 29)]] ({ frames := 8, cells := 4, slots := 24, locals := 194 } : Room) D sv_cl (sv_ty cI cJ cZ) [.ref 0, .int f, .int s, .ref 35] (hM cI cJ cZ L I V W J B [sv_J cJ 1 o]) 0 0 (fun q ws' => ∃ k : Int32, q = some (.int k) ∧ ∃ (L' : Nat → Nat → Int64) (I' : Nat → Nat → Int32) (V' : Nat → Int32) (o' : Nat → Int64) (x : Int32), ws' = hM cI cJ cZ L' I' V' W J B [sv_J cJ 1 o'] ∧ sl_ok L' I' V' n r mk rl kd xs ys ∧ (k = 0 → o' 0 = x.toInt64) ∧ aHo n r mk rl kd xs ys f s k x) sv_no 4 24 := by
  refine sv_ofH (cc := b_La_holds) (by decide +kernel) k_La_holds (Nat.le_of_ble_eq_true rfl) ?_
  intro pX eX sX mX aX bX tX cX AX adX C htab hnm
  refine sv_aload_n C d_La_holds_0 rfl rfl ?_
  refine sv_iconst (v := 0) C d_La_holds_1 rfl ?_
  refine sv_aload_n C d_La_holds_2 rfl rfl ?_
  refine sv_iload_n C d_La_holds_3 rfl rfl ?_
  refine sv_iload_n C d_La_holds_4 rfl rfl ?_
  refine sv_callV (ci := 4) C (c_SL_holds (cI := cI) (cJ := cJ) (cZ := cZ) (L := L) (I := I) (V := V) (tl := mC cI cZ W J B [sv_J cJ 1 o]) hl (n := n) (r := r) (mk := mk) (rl := rl) (kd := kd) (xs := xs) (ys := ys) hok (f := f) (s := s)) s_La_25 ki_SL_holds ks_SL_holds ⟨rfl, rfl, Nat.le_of_ble_eq_true rfl, Nat.le_of_ble_eq_true rfl⟩ rfl d_La_holds_5 (by first | assumption | rfl) (Nat.le_of_ble_eq_true rfl) ⟨(Nat.le_of_ble_eq_true rfl), (Nat.le_of_ble_eq_true rfl)⟩ (fun E ws9 hx => ?_) (fun v9 ws9 hp => ?_)
  · obtain ⟨hx, L', I', V', rfl, hok'⟩ := hx
    obtain ⟨rfl, hno⟩ := hx
    refine sv_catch (i := 4) C [] ⟨0, 17, 20, 29⟩ [] htab (fun z9 h9 => nomatch h9) (by decide) (by decide) q_La_29 qc_IO d_La_holds_20 (by decide) ?_
    refine sv_iconst (v := 1) C d_La_holds_22 rfl ?_
    exact sv_iret C rfl rfl d_La_holds_23 (Nat.le_of_ble_eq_true rfl) (Nat.le_of_ble_eq_true rfl) (fun _ _ => rfl) (⟨1, rfl, L', I', V', o, 0, rfl, hok', fun h => absurd h (by decide), Or.inr ⟨rfl, hno⟩⟩)
  · obtain ⟨⟨h1, h2, t, rfl, ht⟩, L', I', V', rfl, hok'⟩ := hp
    cases t with
    | true =>
      refine sv_if_eq (tgt := 15) C d_La_holds_8 (by decide) (fun h => ?_) (fun h => ?_)
      · exact absurd h (by decide)
      · refine sv_lconst (v := 1) C d_La_holds_11 rfl ?_
        refine sv_goto (tgt := 16) C d_La_holds_12 (by decide) ?_
        refine sv_last (t0 := 1) C rfl d_La_holds_16 (by first | assumption | rfl) in01 ?_
        refine sv_eqw (ws' := hM cI cJ cZ L' I' V' W J B [sv_J cJ 1 (vp_updL o 0 1)]) rfl ?_
        refine sv_goto (tgt := 24) C d_La_holds_17 (by decide) ?_
        refine sv_iconst (v := 0) C d_La_holds_24 rfl ?_
        exact sv_iret C rfl rfl d_La_holds_25 (Nat.le_of_ble_eq_true rfl) (Nat.le_of_ble_eq_true rfl) (fun _ _ => rfl) (⟨0, rfl, L', I', V', _, 1, rfl, hok', fun _ => rfl, Or.inl ⟨rfl, h1, h2, true, rfl, ht⟩⟩)
    | false =>
      refine sv_if_eq (tgt := 15) C d_La_holds_8 (by decide) (fun h => ?_) (fun h => ?_)
      · refine sv_lconst (v := 0) C d_La_holds_15 rfl ?_
        refine sv_last (t0 := 1) C rfl d_La_holds_16 (by first | assumption | rfl) in01 ?_
        refine sv_eqw (ws' := hM cI cJ cZ L' I' V' W J B [sv_J cJ 1 (vp_updL o 0 0)]) rfl ?_
        refine sv_goto (tgt := 24) C d_La_holds_17 (by decide) ?_
        refine sv_iconst (v := 0) C d_La_holds_24 rfl ?_
        exact sv_iret C rfl rfl d_La_holds_25 (Nat.le_of_ble_eq_true rfl) (Nat.le_of_ble_eq_true rfl) (fun _ _ => rfl) (⟨0, rfl, L', I', V', _, 0, rfl, hok', fun _ => rfl, Or.inl ⟨rfl, h1, h2, false, rfl, ht⟩⟩)
      · exact absurd rfl h
set_option maxRecDepth 100000 in
set_option maxHeartbeats 8000000 in
theorem c_La_count {l : Launch} {D : va_G} {cI cJ cZ : ClassId} {L : Nat → Nat → Int64} {I : Nat → Nat → Int32} {V : Nat → Int32} {W : Nat → Int32} {J : Nat → Nat → Int32} {B : Nat → Nat → Bool} {o : Nat → Int64} (hl : l.stackTraces = false) {n r mk : Nat} {rl : Nat → Nat × Nat × Nat × Nat} {kd xs ys : Nat → Nat} (hok : sl_ok L I V n r mk rl kd xs ys) {f : Int32} :
    sv_M l y_La_count [Cond.codeWith y_La_count b_La_count 4 (some .int) [(0, 9, 12, 29)]] ({ frames := 8, cells := 4, slots := 24, locals := 193 } : Room) D sv_cl (sv_ty cI cJ cZ) [.ref 0, .int f, .ref 35] (hM cI cJ cZ L I V W J B [sv_J cJ 1 o]) 0 0 (fun q ws' => ∃ k : Int32, q = some (.int k) ∧ ∃ (L' : Nat → Nat → Int64) (I' : Nat → Nat → Int32) (V' : Nat → Int32) (o' : Nat → Int64) (x : Int32), ws' = hM cI cJ cZ L' I' V' W J B [sv_J cJ 1 o'] ∧ sl_ok L' I' V' n r mk rl kd xs ys ∧ (k = 0 → o' 0 = x.toInt64) ∧ aCo n r mk rl kd xs ys f k x) sv_no 4 24 := by
  refine sv_ofH (cc := b_La_count) (by decide +kernel) k_La_count (Nat.le_of_ble_eq_true rfl) ?_
  intro pX eX sX mX aX bX tX cX AX adX C htab hnm
  refine sv_aload_n C d_La_count_0 rfl rfl ?_
  refine sv_iconst (v := 0) C d_La_count_1 rfl ?_
  refine sv_aload_n C d_La_count_2 rfl rfl ?_
  refine sv_iload_n C d_La_count_3 rfl rfl ?_
  refine sv_callV (ci := 4) C (c_SL_count (cI := cI) (cJ := cJ) (cZ := cZ) (L := L) (I := I) (V := V) (tl := mC cI cZ W J B [sv_J cJ 1 o]) hl (n := n) (r := r) (mk := mk) (rl := rl) (kd := kd) (xs := xs) (ys := ys) hok (f := f)) s_La_31 ki_SL_count ks_SL_count ⟨rfl, rfl, Nat.le_of_ble_eq_true rfl, Nat.le_of_ble_eq_true rfl⟩ rfl d_La_count_4 (by first | assumption | rfl) (Nat.le_of_ble_eq_true rfl) ⟨(Nat.le_of_ble_eq_true rfl), (Nat.le_of_ble_eq_true rfl)⟩ (fun E ws9 hx => ?_) (fun v9 ws9 hp => ?_)
  · obtain ⟨hx, L', I', V', rfl, hok'⟩ := hx
    obtain ⟨rfl, hno⟩ := hx
    refine sv_catchN (z := 3) C [] ⟨0, 9, 12, 29⟩ [] htab (fun z9 h9 => nomatch h9) (by decide) (by decide) q_La_29 qc_IO d_La_count_12 (by decide) ?_
    refine sv_iconst (v := 1) C d_La_count_13 rfl ?_
    exact sv_iret C rfl rfl d_La_count_14 (Nat.le_of_ble_eq_true rfl) (Nat.le_of_ble_eq_true rfl) (fun _ _ => rfl) (⟨1, rfl, L', I', V', o, 0, rfl, hok', fun h => absurd h (by decide), Or.inr ⟨rfl, hno⟩⟩)
  · obtain ⟨⟨h1, Q, rfl, hQ⟩, L', I', V', rfl, hok'⟩ := hp
    refine sv_i2l C d_La_count_7 ?_
    refine sv_last (t0 := 1) C rfl d_La_count_8 (by first | assumption | rfl) in01 ?_
    refine sv_eqw (ws' := hM cI cJ cZ L' I' V' W J B [sv_J cJ 1 (vp_updL o 0 (nI (g_cnt Q 256)).toInt64)]) rfl ?_
    refine sv_goto (tgt := 15) C d_La_count_9 (by decide) ?_
    refine sv_iconst (v := 0) C d_La_count_15 rfl ?_
    exact sv_iret C rfl rfl d_La_count_16 (Nat.le_of_ble_eq_true rfl) (Nat.le_of_ble_eq_true rfl) (fun _ _ => rfl) (⟨0, rfl, L', I', V', _, (nI (g_cnt Q 256)), rfl, hok', fun _ => rfl, Or.inl ⟨rfl, h1, Q, rfl, hQ⟩⟩)
set_option maxRecDepth 100000 in
set_option maxHeartbeats 8000000 in
theorem c_La_first {l : Launch} {D : va_G} {cI cJ cZ : ClassId} {L : Nat → Nat → Int64} {I : Nat → Nat → Int32} {V : Nat → Int32} {W : Nat → Int32} {J : Nat → Nat → Int32} {B : Nat → Nat → Bool} {o : Nat → Int64} (hl : l.stackTraces = false) {n r mk : Nat} {rl : Nat → Nat × Nat × Nat × Nat} {kd xs ys : Nat → Nat} (hok : sl_ok L I V n r mk rl kd xs ys) {f s : Int32} :
    sv_M l y_La_first [Cond.codeWith y_La_first b_La_first 5 (some .int) [(0, 10, 13, 29)]] ({ frames := 8, cells := 4, slots := 24, locals := 194 } : Room) D sv_cl (sv_ty cI cJ cZ) [.ref 0, .int f, .int s, .ref 35] (hM cI cJ cZ L I V W J B [sv_J cJ 1 o]) 0 0 (fun q ws' => ∃ k : Int32, q = some (.int k) ∧ ∃ (L' : Nat → Nat → Int64) (I' : Nat → Nat → Int32) (V' : Nat → Int32) (o' : Nat → Int64) (x : Int32), ws' = hM cI cJ cZ L' I' V' W J B [sv_J cJ 1 o'] ∧ sl_ok L' I' V' n r mk rl kd xs ys ∧ (k = 0 → o' 0 = x.toInt64) ∧ aFi n r mk rl kd xs ys f s k x) sv_no 4 24 := by
  refine sv_ofH (cc := b_La_first) (by decide +kernel) k_La_first (Nat.le_of_ble_eq_true rfl) ?_
  intro pX eX sX mX aX bX tX cX AX adX C htab hnm
  refine sv_aload_n C d_La_first_0 rfl rfl ?_
  refine sv_iconst (v := 0) C d_La_first_1 rfl ?_
  refine sv_aload_n C d_La_first_2 rfl rfl ?_
  refine sv_iload_n C d_La_first_3 rfl rfl ?_
  refine sv_iload_n C d_La_first_4 rfl rfl ?_
  refine sv_callV (ci := 4) C (c_SL_first (cI := cI) (cJ := cJ) (cZ := cZ) (L := L) (I := I) (V := V) (tl := mC cI cZ W J B [sv_J cJ 1 o]) hl (n := n) (r := r) (mk := mk) (rl := rl) (kd := kd) (xs := xs) (ys := ys) hok (f := f) (s := s)) s_La_35 ki_SL_first ks_SL_first ⟨rfl, rfl, Nat.le_of_ble_eq_true rfl, Nat.le_of_ble_eq_true rfl⟩ rfl d_La_first_5 (by first | assumption | rfl) (Nat.le_of_ble_eq_true rfl) ⟨(Nat.le_of_ble_eq_true rfl), (Nat.le_of_ble_eq_true rfl)⟩ (fun E ws9 hx => ?_) (fun v9 ws9 hp => ?_)
  · obtain ⟨hx, L', I', V', rfl, hok'⟩ := hx
    obtain ⟨rfl, hno⟩ := hx
    refine sv_catch (i := 4) C [] ⟨0, 10, 13, 29⟩ [] htab (fun z9 h9 => nomatch h9) (by decide) (by decide) q_La_29 qc_IO d_La_first_13 (by decide) ?_
    refine sv_iconst (v := 1) C d_La_first_15 rfl ?_
    exact sv_iret C rfl rfl d_La_first_16 (Nat.le_of_ble_eq_true rfl) (Nat.le_of_ble_eq_true rfl) (fun _ _ => rfl) (⟨1, rfl, L', I', V', o, 0, rfl, hok', fun h => absurd h (by decide), Or.inr ⟨rfl, hno⟩⟩)
  · obtain ⟨⟨h1, h2, h3⟩, L', I', V', rfl, hok'⟩ := hp
    rcases h3 with ⟨rfl, h3⟩ | ⟨y, rfl, h3⟩
    · refine sv_i2l C d_La_first_8 ?_
      refine sv_last (t0 := 1) C rfl d_La_first_9 (by first | assumption | rfl) in01 ?_
      refine sv_eqw (ws' := hM cI cJ cZ L' I' V' W J B [sv_J cJ 1 (vp_updL o 0 (-1).toInt64)]) rfl ?_
      refine sv_goto (tgt := 17) C d_La_first_10 (by decide) ?_
      refine sv_iconst (v := 0) C d_La_first_17 rfl ?_
      exact sv_iret C rfl rfl d_La_first_18 (Nat.le_of_ble_eq_true rfl) (Nat.le_of_ble_eq_true rfl) (fun _ _ => rfl) (⟨0, rfl, L', I', V', _, (-1), rfl, hok', fun _ => rfl, Or.inl ⟨rfl, h1, h2, Or.inl ⟨rfl, h3⟩⟩⟩)
    · refine sv_i2l C d_La_first_8 ?_
      refine sv_last (t0 := 1) C rfl d_La_first_9 (by first | assumption | rfl) in01 ?_
      refine sv_eqw (ws' := hM cI cJ cZ L' I' V' W J B [sv_J cJ 1 (vp_updL o 0 (nI y).toInt64)]) rfl ?_
      refine sv_goto (tgt := 17) C d_La_first_10 (by decide) ?_
      refine sv_iconst (v := 0) C d_La_first_17 rfl ?_
      exact sv_iret C rfl rfl d_La_first_18 (Nat.le_of_ble_eq_true rfl) (Nat.le_of_ble_eq_true rfl) (fun _ _ => rfl) (⟨0, rfl, L', I', V', _, (nI y), rfl, hok', fun _ => rfl, Or.inl ⟨rfl, h1, h2, Or.inr ⟨y, rfl, h3⟩⟩⟩)
set_option maxRecDepth 100000 in
set_option maxHeartbeats 8000000 in
theorem c_La_length {l : Launch} {D : va_G} {cI cJ cZ : ClassId} {L : Nat → Nat → Int64} {I : Nat → Nat → Int32} {V : Nat → Int32} {W : Nat → Int32} {J : Nat → Nat → Int32} {B : Nat → Nat → Bool} {o : Nat → Int64} (hl : l.stackTraces = false) {n r mk : Nat} {rl : Nat → Nat × Nat × Nat × Nat} {kd xs ys : Nat → Nat} (hok : sl_ok L I V n r mk rl kd xs ys) {f s : Int32} :
    sv_M l y_La_length [Cond.codeWith y_La_length b_La_length 5 (some .int) [(0, 10, 13, 29), (0, 10, 17, 13)]] ({ frames := 8, cells := 4, slots := 24, locals := 194 } : Room) D sv_cl (sv_ty cI cJ cZ) [.ref 0, .int f, .int s, .ref 35] (hM cI cJ cZ L I V W J B [sv_J cJ 1 o]) 0 0 (fun q ws' => ∃ k : Int32, q = some (.int k) ∧ ∃ (L' : Nat → Nat → Int64) (I' : Nat → Nat → Int32) (V' : Nat → Int32) (o' : Nat → Int64) (x : Int32), ws' = hM cI cJ cZ L' I' V' W J B [sv_J cJ 1 o'] ∧ sl_ok L' I' V' n r mk rl kd xs ys ∧ (k = 0 → o' 0 = x.toInt64) ∧ aLe n r mk rl kd xs ys f s k x) sv_no 4 24 := by
  refine sv_ofH (cc := b_La_length) (by decide +kernel) k_La_length (Nat.le_of_ble_eq_true rfl) ?_
  intro pX eX sX mX aX bX tX cX AX adX C htab hnm
  refine sv_aload_n C d_La_length_0 rfl rfl ?_
  refine sv_iconst (v := 0) C d_La_length_1 rfl ?_
  refine sv_aload_n C d_La_length_2 rfl rfl ?_
  refine sv_iload_n C d_La_length_3 rfl rfl ?_
  refine sv_iload_n C d_La_length_4 rfl rfl ?_
  refine sv_callV (ci := 4) C (c_SL_length (cI := cI) (cJ := cJ) (cZ := cZ) (L := L) (I := I) (V := V) (tl := mC cI cZ W J B [sv_J cJ 1 o]) hl (n := n) (r := r) (mk := mk) (rl := rl) (kd := kd) (xs := xs) (ys := ys) hok (f := f) (s := s)) s_La_39 ki_SL_length ks_SL_length ⟨rfl, rfl, Nat.le_of_ble_eq_true rfl, Nat.le_of_ble_eq_true rfl⟩ rfl d_La_length_5 (by first | assumption | rfl) (Nat.le_of_ble_eq_true rfl) ⟨(Nat.le_of_ble_eq_true rfl), (Nat.le_of_ble_eq_true rfl)⟩ (fun E ws9 hx => ?_) (fun v9 ws9 hp => ?_)
  · obtain ⟨hx, L', I', V', rfl, hok'⟩ := hx
    rcases hx with ⟨rfl, hno⟩ | ⟨rfl, hno⟩
    · refine sv_catch (i := 4) C [] ⟨0, 10, 13, 29⟩ [⟨0, 10, 17, 13⟩] htab (fun z9 h9 => nomatch h9) (by decide) (by decide) q_La_29 qc_IO d_La_length_13 (by decide) ?_
      refine sv_iconst (v := 1) C d_La_length_15 rfl ?_
      exact sv_iret C rfl rfl d_La_length_16 (Nat.le_of_ble_eq_true rfl) (Nat.le_of_ble_eq_true rfl) (fun _ _ => rfl) (⟨1, rfl, L', I', V', o, 0, rfl, hok', fun h => absurd h (by decide), Or.inr (Or.inl ⟨rfl, hno⟩)⟩)
    · refine sv_catch (i := 4) C [⟨0, 10, 13, 29⟩] ⟨0, 10, 17, 13⟩ [] htab (by
          intro z9 h9
          simp only [List.mem_cons, List.not_mem_nil, or_false] at h9
          subst h9
          exact ⟨by decide, xIO, q_La_29, qn_IAIO⟩) (by decide) (by decide) q_La_13 qc_IA d_La_length_17 (by decide) ?_
      refine sv_iconst (v := 2) C d_La_length_19 rfl ?_
      exact sv_iret C rfl rfl d_La_length_20 (Nat.le_of_ble_eq_true rfl) (Nat.le_of_ble_eq_true rfl) (fun _ _ => rfl) (⟨2, rfl, L', I', V', o, 0, rfl, hok', fun h => absurd h (by decide), Or.inr (Or.inr ⟨rfl, hno⟩)⟩)
  · obtain ⟨⟨h1, h2, h3, m, rfl, h4⟩, L', I', V', rfl, hok'⟩ := hp
    refine sv_i2l C d_La_length_8 ?_
    refine sv_last (t0 := 1) C rfl d_La_length_9 (by first | assumption | rfl) in01 ?_
    refine sv_eqw (ws' := hM cI cJ cZ L' I' V' W J B [sv_J cJ 1 (vp_updL o 0 (nI m).toInt64)]) rfl ?_
    refine sv_goto (tgt := 21) C d_La_length_10 (by decide) ?_
    refine sv_iconst (v := 0) C d_La_length_21 rfl ?_
    exact sv_iret C rfl rfl d_La_length_22 (Nat.le_of_ble_eq_true rfl) (Nat.le_of_ble_eq_true rfl) (fun _ _ => rfl) (⟨0, rfl, L', I', V', _, (nI m), rfl, hok', fun _ => rfl, Or.inl ⟨rfl, h1, h2, h3, m, rfl, h4⟩⟩)
set_option maxRecDepth 100000 in
set_option maxHeartbeats 8000000 in
theorem c_La_witness {l : Launch} {D : va_G} {cI cJ cZ : ClassId} {L : Nat → Nat → Int64} {I : Nat → Nat → Int32} {V : Nat → Int32} {W : Nat → Int32} {J : Nat → Nat → Int32} {B : Nat → Nat → Bool} {o : Nat → Int64} (hl : l.stackTraces = false) {n r mk : Nat} {rl : Nat → Nat × Nat × Nat × Nat} {kd xs ys : Nat → Nat} (hok : sl_ok L I V n r mk rl kd xs ys) {f s j : Int32} :
    sv_M l y_La_witness [Cond.codeWith y_La_witness b_La_witness 6 (some .int) [(0, 12, 15, 29), (0, 12, 19, 13), (0, 12, 23, 45)]] ({ frames := 8, cells := 4, slots := 24, locals := 195 } : Room) D sv_cl (sv_ty cI cJ cZ) [.ref 0, .int f, .int s, .int j, .ref 35] (hM cI cJ cZ L I V W J B [sv_J cJ 1 o]) 0 0 (fun q ws' => ∃ k : Int32, q = some (.int k) ∧ ∃ (L' : Nat → Nat → Int64) (I' : Nat → Nat → Int32) (V' : Nat → Int32) (o' : Nat → Int64) (x : Int32), ws' = hM cI cJ cZ L' I' V' W J B [sv_J cJ 1 o'] ∧ sl_ok L' I' V' n r mk rl kd xs ys ∧ (k = 0 → o' 0 = x.toInt64) ∧ aWi n r mk rl kd xs ys f s j k x) sv_no 4 24 := by
  refine sv_ofH (cc := b_La_witness) (by decide +kernel) k_La_witness (Nat.le_of_ble_eq_true rfl) ?_
  intro pX eX sX mX aX bX tX cX AX adX C htab hnm
  refine sv_aload C d_La_witness_0 rfl ?_
  refine sv_iconst (v := 0) C d_La_witness_2 rfl ?_
  refine sv_aload_n C d_La_witness_3 rfl rfl ?_
  refine sv_iload_n C d_La_witness_4 rfl rfl ?_
  refine sv_iload_n C d_La_witness_5 rfl rfl ?_
  refine sv_iload_n C d_La_witness_6 rfl rfl ?_
  refine sv_callV (ci := 4) C (c_SL_witness (cI := cI) (cJ := cJ) (cZ := cZ) (L := L) (I := I) (V := V) (tl := mC cI cZ W J B [sv_J cJ 1 o]) hl (n := n) (r := r) (mk := mk) (rl := rl) (kd := kd) (xs := xs) (ys := ys) hok (f := f) (s := s) (k := j)) s_La_42 ki_SL_witness ks_SL_witness ⟨rfl, rfl, Nat.le_of_ble_eq_true rfl, Nat.le_of_ble_eq_true rfl⟩ rfl d_La_witness_7 (by first | assumption | rfl) (Nat.le_of_ble_eq_true rfl) ⟨(Nat.le_of_ble_eq_true rfl), (Nat.le_of_ble_eq_true rfl)⟩ (fun E ws9 hx => ?_) (fun v9 ws9 hp => ?_)
  · obtain ⟨hx, L', I', V', rfl, hok'⟩ := hx
    rcases hx with ⟨rfl, hno⟩ | ⟨rfl, hno⟩ | ⟨rfl, hno⟩
    · refine sv_catch (i := 5) C [] ⟨0, 12, 15, 29⟩ [⟨0, 12, 19, 13⟩, ⟨0, 12, 23, 45⟩] htab (fun z9 h9 => nomatch h9) (by decide) (by decide) q_La_29 qc_IO d_La_witness_15 (by decide) ?_
      refine sv_iconst (v := 1) C d_La_witness_17 rfl ?_
      exact sv_iret C rfl rfl d_La_witness_18 (Nat.le_of_ble_eq_true rfl) (Nat.le_of_ble_eq_true rfl) (fun _ _ => rfl) (⟨1, rfl, L', I', V', o, 0, rfl, hok', fun h => absurd h (by decide), Or.inr (Or.inl ⟨rfl, hno⟩)⟩)
    · refine sv_catch (i := 5) C [⟨0, 12, 15, 29⟩] ⟨0, 12, 19, 13⟩ [⟨0, 12, 23, 45⟩] htab (by
          intro z9 h9
          simp only [List.mem_cons, List.not_mem_nil, or_false] at h9
          subst h9
          exact ⟨by decide, xIO, q_La_29, qn_IAIO⟩) (by decide) (by decide) q_La_13 qc_IA d_La_witness_19 (by decide) ?_
      refine sv_iconst (v := 2) C d_La_witness_21 rfl ?_
      exact sv_iret C rfl rfl d_La_witness_22 (Nat.le_of_ble_eq_true rfl) (Nat.le_of_ble_eq_true rfl) (fun _ _ => rfl) (⟨2, rfl, L', I', V', o, 0, rfl, hok', fun h => absurd h (by decide), Or.inr (Or.inr (Or.inl ⟨rfl, hno⟩))⟩)
    · refine sv_catch (i := 5) C [⟨0, 12, 15, 29⟩, ⟨0, 12, 19, 13⟩] ⟨0, 12, 23, 45⟩ [] htab (by
          intro z9 h9
          simp only [List.mem_cons, List.not_mem_nil, or_false] at h9
          rcases h9 with rfl | rfl
          · exact ⟨by decide, xIO, q_La_29, qn_NSIO⟩
          · exact ⟨by decide, xIA, q_La_13, qn_NSIA⟩) (by decide) (by decide) q_La_45 qc_NS d_La_witness_23 (by decide) ?_
      refine sv_iconst (v := 3) C d_La_witness_25 rfl ?_
      exact sv_iret C rfl rfl d_La_witness_26 (Nat.le_of_ble_eq_true rfl) (Nat.le_of_ble_eq_true rfl) (fun _ _ => rfl) (⟨3, rfl, L', I', V', o, 0, rfl, hok', fun h => absurd h (by decide), Or.inr (Or.inr (Or.inr ⟨rfl, hno⟩))⟩)
  · obtain ⟨⟨h1, h2, h3, m, t, h4, h5, rfl, h6⟩, L', I', V', rfl, hok'⟩ := hp
    refine sv_i2l C d_La_witness_10 ?_
    refine sv_last (t0 := 1) C rfl d_La_witness_11 (by first | assumption | rfl) in01 ?_
    refine sv_eqw (ws' := hM cI cJ cZ L' I' V' W J B [sv_J cJ 1 (vp_updL o 0 (nI t).toInt64)]) rfl ?_
    refine sv_goto (tgt := 27) C d_La_witness_12 (by decide) ?_
    refine sv_iconst (v := 0) C d_La_witness_27 rfl ?_
    exact sv_iret C rfl rfl d_La_witness_28 (Nat.le_of_ble_eq_true rfl) (Nat.le_of_ble_eq_true rfl) (fun _ _ => rfl) (⟨0, rfl, L', I', V', _, (nI t), rfl, hok', fun _ => rfl, Or.inl ⟨rfl, h1, h2, h3, m, t, h4, h5, rfl, h6⟩⟩)
set_option maxRecDepth 100000 in
set_option maxHeartbeats 8000000 in
theorem c_La_ways {l : Launch} {D : va_G} {cI cJ cZ : ClassId} {L : Nat → Nat → Int64} {I : Nat → Nat → Int32} {V : Nat → Int32} {W : Nat → Int32} {J : Nat → Nat → Int32} {B : Nat → Nat → Bool} {o : Nat → Int64} (hl : l.stackTraces = false) {n r mk : Nat} {rl : Nat → Nat × Nat × Nat × Nat} {kd xs ys : Nat → Nat} (hok : sl_ok L I V n r mk rl kd xs ys) {s : Int32} :
    sv_M l y_La_ways [Cond.codeWith y_La_ways b_La_ways 4 (some .int) [(0, 9, 12, 29)]] ({ frames := 8, cells := 4, slots := 24, locals := 142 } : Room) D sv_cl (sv_ty cI cJ cZ) [.ref 0, .int s, .ref 35] (hM cI cJ cZ L I V W J B [sv_J cJ 1 o]) 0 0 (fun q ws' => ∃ k : Int32, q = some (.int k) ∧ ∃ (L' : Nat → Nat → Int64) (I' : Nat → Nat → Int32) (V' : Nat → Int32) (o' : Nat → Int64) (x : Int32), ws' = hM cI cJ cZ L' I' V' W J B [sv_J cJ 1 o'] ∧ sl_ok L' I' V' n r mk rl kd xs ys ∧ (k = 0 → o' 0 = x.toInt64) ∧ aWa n r mk rl kd xs ys s k x) sv_no 4 24 := by
  refine sv_ofH (cc := b_La_ways) (by decide +kernel) k_La_ways (Nat.le_of_ble_eq_true rfl) ?_
  intro pX eX sX mX aX bX tX cX AX adX C htab hnm
  refine sv_aload_n C d_La_ways_0 rfl rfl ?_
  refine sv_iconst (v := 0) C d_La_ways_1 rfl ?_
  refine sv_aload_n C d_La_ways_2 rfl rfl ?_
  refine sv_iload_n C d_La_ways_3 rfl rfl ?_
  refine sv_callV (ci := 4) C (c_SL_ways (cI := cI) (cJ := cJ) (cZ := cZ) (L := L) (I := I) (V := V) (tl := mC cI cZ W J B [sv_J cJ 1 o]) hl (n := n) (r := r) (mk := mk) (rl := rl) (kd := kd) (xs := xs) (ys := ys) hok (s := s)) s_La_47 ki_SL_ways ks_SL_ways ⟨rfl, rfl, Nat.le_of_ble_eq_true rfl, Nat.le_of_ble_eq_true rfl⟩ rfl d_La_ways_4 (by first | assumption | rfl) (Nat.le_of_ble_eq_true rfl) ⟨(Nat.le_of_ble_eq_true rfl), (Nat.le_of_ble_eq_true rfl)⟩ (fun E ws9 hx => ?_) (fun v9 ws9 hp => ?_)
  · obtain ⟨hx, L', I', V', rfl, hok'⟩ := hx
    obtain ⟨rfl, hno⟩ := hx
    refine sv_catchN (z := 3) C [] ⟨0, 9, 12, 29⟩ [] htab (fun z9 h9 => nomatch h9) (by decide) (by decide) q_La_29 qc_IO d_La_ways_12 (by decide) ?_
    refine sv_iconst (v := 1) C d_La_ways_13 rfl ?_
    exact sv_iret C rfl rfl d_La_ways_14 (Nat.le_of_ble_eq_true rfl) (Nat.le_of_ble_eq_true rfl) (fun _ _ => rfl) (⟨1, rfl, L', I', V', o, 0, rfl, hok', fun h => absurd h (by decide), Or.inr ⟨rfl, hno⟩⟩)
  · obtain ⟨⟨h1, Q, rfl, hQ⟩, L', I', V', rfl, hok'⟩ := hp
    refine sv_i2l C d_La_ways_7 ?_
    refine sv_last (t0 := 1) C rfl d_La_ways_8 (by first | assumption | rfl) in01 ?_
    refine sv_eqw (ws' := hM cI cJ cZ L' I' V' W J B [sv_J cJ 1 (vp_updL o 0 (nI (g_cnt Q 256)).toInt64)]) rfl ?_
    refine sv_goto (tgt := 15) C d_La_ways_9 (by decide) ?_
    refine sv_iconst (v := 0) C d_La_ways_15 rfl ?_
    exact sv_iret C rfl rfl d_La_ways_16 (Nat.le_of_ble_eq_true rfl) (Nat.le_of_ble_eq_true rfl) (fun _ _ => rfl) (⟨0, rfl, L', I', V', _, (nI (g_cnt Q 256)), rfl, hok', fun _ => rfl, Or.inl ⟨rfl, h1, Q, rfl, hQ⟩⟩)
