/-! StateLogic$Search: openAll, find, spread -/
set_option maxRecDepth 100000 in
set_option maxHeartbeats 4000000 in
theorem c_Se_openAll {l : Launch} {D : va_G} {cI cJ cZ : ClassId} {L : Nat → Nat → Int64} {I : Nat → Nat → Int32} {V : Nat → Int32} {tl : List va_E} {a : Nat} (ha : a < 60) :
    sv_M l y_Se_openAll [Cond.code y_Se_openAll b_Se_openAll 3 none] ({ frames := 2, cells := 0, slots := 0, locals := 83 } : Room) D sv_cl (sv_ty cI cJ cZ) [.ref 9, .ref 16, .int (nI a)] (hC cI cJ cZ L I V tl) 0 0 (fun r ws' => r = none ∧ ∃ fO : Nat → Int64, ws' = hC cI cJ cZ (hu L 3 fO) I (hu V 2 0) tl ∧ ∀ z, z < 256 → ss_b fO 0 z = ss_b (L 4) a z) sv_no 0 0 := by
  refine sv_of (cc := b_Se_openAll) (by decide +kernel) (Nat.le_of_ble_eq_true rfl) ?_
  intro pX eX sX mX aX bX tX cX AX adX C htab hnm
  refine sv_aload_n C d_Se_openAll_0 rfl rfl ?_
  refine sv_get (ci := 2) (kf := 0) C i_Se rfl (by decide) f_Se_14 (fun _ h9 => h9) d_Se_openAll_1 (by first | assumption | rfl) rfl ?_
  refine sv_iconst (v := 0) C d_Se_openAll_4 rfl ?_
  refine sv_aload_n C d_Se_openAll_5 rfl rfl ?_
  refine sv_iload_n C d_Se_openAll_6 rfl rfl ?_
  refine sv_callV (ci := 3) C (c_St_copy (cI := cI) (cZ := cZ) (ws := hC cI cJ cZ L I V tl) (b := 10) (w := 11) (N := 4) (a := 0) (f := L 3) (b' := 16) (w' := 17) (N' := 240) (a' := a) (g := L 4) rfl rfl (by decide) (by decide) rfl rfl (by omega) (by decide)) s_Se_33 ki_St_copy ks_St_copy ⟨rfl, rfl, Nat.le_of_ble_eq_true rfl, Nat.le_of_ble_eq_true rfl⟩ rfl d_Se_openAll_7 (by first | assumption | rfl) (Nat.le_of_ble_eq_true rfl) ⟨(Nat.le_of_ble_eq_true rfl), (Nat.le_of_ble_eq_true rfl)⟩ (fun E ws9 h9 => absurd h9 id) (fun v9 ws9 hp => ?_)
  obtain ⟨rfl, rfl⟩ := hp
  refine sv_aload_n C d_Se_openAll_10 rfl rfl ?_
  refine sv_iconst (v := 0) C d_Se_openAll_11 rfl ?_
  refine sv_put (ci := 2) (kf := 5) (ty := .int) C i_Se t_Se t_Se_ok n_Se rfl (by decide) f_Se_37 (fun _ h9 => h9) rfl (by decide +kernel) d_Se_openAll_12 (by first | assumption | rfl) rfl rfl (Nat.le_of_ble_eq_true rfl) ?_
  exact sv_vret C rfl d_Se_openAll_15 (Nat.le_of_ble_eq_true rfl) (Nat.le_of_ble_eq_true rfl) (fun _ _ => rfl) (⟨rfl, va_cpy (L 4) (L 3) (a * 4) (0 * 4) 4, rfl, fun z hz => by unfold ss_b; rw [pk_cpy_in (by omega) (by omega)]; congr 3; omega⟩)
set_option maxRecDepth 100000 in
set_option maxHeartbeats 4000000 in
theorem c_Se_find {l : Launch} {D : va_G} {cI cJ cZ : ClassId} {L : Nat → Nat → Int64} {I : Nat → Nat → Int32} {V : Nat → Int32} {tl : List va_E} {n x : Nat} {d : Int32} (hn : n < 256) (hx : x < 256) (hV : V 2 = nI n) :
    sv_M l y_Se_find [Cond.code y_Se_find b_Se_find 3 none] ({ frames := 0, cells := 0, slots := 0, locals := 0 } : Room) D sv_cl (sv_ty cI cJ cZ) [.ref 9, .int (nI x), .int d] (hC cI cJ cZ L I V tl) 0 0 (fun r ws' => r = none ∧ ws' = hC cI cJ cZ L (hu (hu I 0 (upd (I 0) n (nI x))) 1 (upd (I 1) x d)) (hu V 2 (nI (n + 1))) tl) sv_no 0 0 := by
  refine sv_of (cc := b_Se_find) (by decide +kernel) (Nat.le_of_ble_eq_true rfl) ?_
  intro pX eX sX mX aX bX tX cX AX adX C htab hnm
  have h1 : vp_in (V 2) 256 := by rw [hV]; exact vp_in_nI hn (by omega)
  have h2 : vp_in (nI x) 256 := vp_in_nI hx (by omega)
  have e1 : (V 2).toNatClampNeg = n := by rw [hV]; exact nI_clamp (by omega)
  have e2 : (nI x).toNatClampNeg = x := nI_clamp (by omega)
  refine sv_aload_n C d_Se_find_0 rfl rfl ?_
  refine sv_get (ci := 2) (kf := 5) C i_Se rfl (by decide) f_Se_37 (fun _ h9 => h9) d_Se_find_1 (by first | assumption | rfl) rfl ?_
  refine sv_sipush (v := 256) C d_Se_find_4 rfl ?_
  refine sv_icmp_ge (tgt := 37) C d_Se_find_7 (by decide) (fun hT => ?_) (fun hF => ?_)
  · exfalso
    rw [hV] at hT
    have h3 : 256 ≤ n := (nI_leI (a := 256) (b := n) (by omega) (by omega)).mp hT
    omega
  · refine sv_aload_n C d_Se_find_10 rfl rfl ?_
    refine sv_get (ci := 2) (kf := 1) C i_Se rfl (by decide) f_Se_20 (fun _ h9 => h9) d_Se_find_11 (by first | assumption | rfl) rfl ?_
    refine sv_aload_n C d_Se_find_14 rfl rfl ?_
    refine sv_get (ci := 2) (kf := 5) C i_Se rfl (by decide) f_Se_37 (fun _ h9 => h9) d_Se_find_15 (by first | assumption | rfl) rfl ?_
    refine sv_iload_n C d_Se_find_18 rfl rfl ?_
    refine sv_iast (t0 := 0) C rfl d_Se_find_19 (by first | assumption | rfl) (by assumption) ?_
    refine sv_aload_n C d_Se_find_20 rfl rfl ?_
    refine sv_dup C d_Se_find_21 rfl ?_
    refine sv_get (ci := 2) (kf := 5) C i_Se rfl (by decide) f_Se_37 (fun _ h9 => h9) d_Se_find_22 (by first | assumption | rfl) rfl ?_
    refine sv_iconst (v := 1) C d_Se_find_25 rfl ?_
    refine sv_iadd C d_Se_find_26 ?_
    refine sv_put (ci := 2) (kf := 5) (ty := .int) C i_Se t_Se t_Se_ok n_Se rfl (by decide) f_Se_37 (fun _ h9 => h9) rfl (by decide +kernel) d_Se_find_27 (by first | assumption | rfl) rfl rfl (Nat.le_of_ble_eq_true rfl) ?_
    refine sv_aload_n C d_Se_find_30 rfl rfl ?_
    refine sv_get (ci := 2) (kf := 2) C i_Se rfl (by decide) f_Se_24 (fun _ h9 => h9) d_Se_find_31 (by first | assumption | rfl) rfl ?_
    refine sv_iload_n C d_Se_find_34 rfl rfl ?_
    refine sv_iload_n C d_Se_find_35 rfl rfl ?_
    refine sv_iast (t0 := 0) C rfl d_Se_find_36 (by first | assumption | rfl) (by assumption) ?_
    refine sv_eqw (ws' := hC cI cJ cZ L (hu (hu I 0 (upd (I 0) (V 2).toNatClampNeg (nI x))) 1 (upd (I 1) (nI x).toNatClampNeg d)) (hu V 2 (V 2 + 1)) tl) rfl ?_
    rw [e1, e2, hV, nI_1]
    exact sv_vret C rfl d_Se_find_37 (Nat.le_of_ble_eq_true rfl) (Nat.le_of_ble_eq_true rfl) (fun _ _ => rfl) (⟨rfl, rfl⟩)
def sp_E (g fO : Nat → Int64) (x z : Nat) : Prop := z < 256 ∧ ss_b g x z = true ∧ ss_b fO 0 z = true
def sp_R (g fO : Nat → Int64) (cnt0 : Nat) (fd0 : Nat → Nat) (I1 : Nat → Int32) (fO' : Nat → Int64) (I0' I1' : Nat → Int32) (cnt : Nat) (fd dd : Nat → Nat) : Prop :=
  cnt0 ≤ cnt ∧ cnt ≤ 256 ∧ (∀ i, i < cnt → fd i < 256 ∧ I0' i = nI (fd i)) ∧ (∀ i j, i < cnt → j < cnt → fd i = fd j → i = j) ∧ (∀ i, i < cnt0 → fd i = fd0 i) ∧
  (∀ z, z < 256 → (ss_b fO' 0 z = true ↔ (ss_b fO 0 z = true ∧ ¬ bf_F fd cnt z))) ∧
  (∀ z, bf_F fd cnt z → (∃ k, k < cnt0 ∧ g_st (sp_E g fO) (dd z) (fd0 k) z) ∧ I1' z = nI (dd z) ∧ dd z < 256) ∧
  (∀ k n z, k < cnt0 → g_st (sp_E g fO) n (fd0 k) z → bf_F fd cnt z ∧ dd z ≤ n) ∧
  (∀ z, z < 256 → ¬ bf_F fd cnt z → I1' z = I1 z)
/-- the state between the turns -/
def sp_S (g fO : Nat → Int64) (cnt0 : Nat) (fd0 : Nat → Nat) (I1 : Nat → Int32) (a cnt : Nat) (I0' I1' : Nat → Int32) (fd dd : Nat → Nat) : Prop :=
  bf_I (sp_E g fO) (fun z => ss_b fO 0 z = true) cnt0 fd0 a cnt fd dd ∧ (∀ i, i < cnt → I0' i = nI (fd i)) ∧ (∀ i, i < cnt → I1' (fd i) = nI (dd (fd i)) ∧ dd (fd i) ≤ i) ∧ (∀ z, z < 256 → ¬ bf_F fd cnt z → I1' z = I1 z) ∧ (∀ k, k < cnt0 → dd (fd0 k) = 0)
def sp_p : Option Nat → Int32
  | none => -1
  | some x => nI x
theorem sp_m1 {x : Nat} (hx : x < 2 ^ 31) : nI x ≠ -1 := by
  intro h
  have h1 := congrArg Int32.toInt h
  rw [nI_toInt hx] at h1
  have h2 : (-1 : Int32).toInt = -1 := by decide
  rw [h2] at h1
  omega
/-- x found: the arrays -/
theorem sp_add {g fO : Nat → Int64} {cnt0 : Nat} {fd0 : Nat → Nat} {I1 : Nat → Int32} {a cnt x : Nat} {I0' I1' : Nat → Int32} {fd dd : Nat → Nat} (h : sp_S g fO cnt0 fd0 I1 a cnt I0' I1' fd dd) (ha : a < cnt) (hx : x < 256) (hO : ss_b fO 0 x = true) (hS : ss_b g (fd a) x = true) (hF : ¬ bf_F fd cnt x) :
    sp_S g fO cnt0 fd0 I1 a (cnt + 1) (upd I0' cnt (nI x)) (upd I1' x (nI (dd (fd a) + 1))) (hu fd cnt x) (hu dd x (dd (fd a) + 1)) := by
  obtain ⟨h1, h2, h3, h4, h5⟩ := h
  have hne : ∀ i, i < cnt → fd i ≠ x := fun i hi e => hF ⟨i, hi, e⟩
  refine ⟨bf_add h1 ha ⟨hx, hS, hO⟩ hO hF hx, fun i hi => ?_, fun i hi => ?_, fun z hz hnf => ?_, fun k hk => ?_⟩
  · by_cases e : i = cnt
    · rw [e, pk_us, hu_s]
    · rw [pk_un e, hu_n e]
      exact h2 i (by omega)
  · by_cases e : i = cnt
    · rw [e, hu_s, pk_us, hu_s]
      have := (h3 a ha).2
      exact ⟨rfl, by omega⟩
    · rw [hu_n e, pk_un (hne i (by omega)), hu_n (hne i (by omega))]
      exact h3 i (by omega)
  · have hzx : z ≠ x := fun e => hnf (bf_F_s.mpr (Or.inr e))
    rw [pk_un hzx]
    exact h4 z hz (fun q => hnf (bf_F_s.mpr (Or.inl q)))
  · have hk2 : fd0 k ≠ x := by
      rw [← h1.2.2.2.2.1 k hk]
      exact hne k (Nat.lt_of_lt_of_le hk h1.2.2.2.1)
    rw [hu_n hk2]
    exact h5 k hk
theorem sp_fin {g fO fO' : Nat → Int64} {cnt0 : Nat} {fd0 : Nat → Nat} {I1 : Nat → Int32} {cnt : Nat} {I0' I1' : Nat → Int32} {fd dd : Nat → Nat} (h : sp_S g fO cnt0 fd0 I1 cnt cnt I0' I1' fd dd) (hO : ∀ z, z < 256 → (ss_b fO' 0 z = true ↔ (ss_b fO 0 z = true ∧ ¬ bf_F fd cnt z))) :
    sp_R g fO cnt0 fd0 I1 fO' I0' I1' cnt fd dd := by
  obtain ⟨h1, h2, h3, h4, h5⟩ := h
  have hle := bf_le h1
  refine ⟨h1.2.2.2.1, hle, fun i hi => ⟨h1.2.1 i hi, h2 i hi⟩, h1.2.2.1, h1.2.2.2.2.1, hO, fun z hz => ?_, fun k n z hk hst => bf_end h1 h5 hk n z hst, h4⟩
  obtain ⟨i, hi, e⟩ := hz
  obtain ⟨q1, q2⟩ := h3 i hi
  obtain ⟨k, hk, hst⟩ := h1.2.2.2.2.2.2.1 i hi
  subst e
  exact ⟨⟨k, hk, hst⟩, q1, by omega⟩
set_option maxRecDepth 100000 in
set_option maxHeartbeats 4000000 in
theorem c_Se_spread {l : Launch} {D : va_G} {cI cJ cZ : ClassId} {L : Nat → Nat → Int64} {I : Nat → Nat → Int32} {V : Nat → Int32} {tl : List va_E} {b w q cnt0 : Nat} {fd0 : Nat → Nat} (hq : (b = 4 ∧ w = 5 ∧ q = 1) ∨ (b = 6 ∧ w = 7 ∧ q = 2)) (hV : V 2 = nI cnt0)
    (hf0 : ∀ i, i < cnt0 → fd0 i < 256 ∧ I 0 i = nI (fd0 i) ∧ I 1 (fd0 i) = nI 0 ∧ ss_b (L 3) 0 (fd0 i) = false) (hj0 : ∀ i j, i < cnt0 → j < cnt0 → fd0 i = fd0 j → i = j) :
    sv_M l y_Se_spread [Cond.code y_Se_spread b_Se_spread 6 none] ({ frames := 2, cells := 0, slots := 0, locals := 49 } : Room) D sv_cl (sv_ty cI cJ cZ) [.ref 9, .ref b] (hC cI cJ cZ L I V tl) 0 0 (fun r ws' => r = none ∧ ∃ (fO' : Nat → Int64) (I0' I1' : Nat → Int32) (cnt : Nat) (fd dd : Nat → Nat), ws' = hC cI cJ cZ (hu L 3 fO') (hu (hu I 0 I0') 1 I1') (hu V 2 (nI cnt)) tl ∧ sp_R (L q) (L 3) cnt0 fd0 (I 1) fO' I0' I1' cnt fd dd) sv_no 0 0 := by
  refine sv_of (cc := b_Se_spread) (by decide +kernel) (Nat.le_of_ble_eq_true rfl) ?_
  intro pX eX sX mX aX bX tX cX AX adX C htab hnm
  have hbb : ∀ (L : Nat → Nat → Int64) (I : Nat → Nat → Int32) (V : Nat → Int32), (hC cI cJ cZ L I V tl)[b]? = some (.inr (3, [.ref w])) := by
    intro L I V
    rcases hq with ⟨rfl, rfl, rfl⟩ | ⟨rfl, rfl, rfl⟩ <;> rfl
  have hww : ∀ (L : Nat → Nat → Int64) (I : Nat → Nat → Int32) (V : Nat → Int32), (hC cI cJ cZ L I V tl)[w]? = some (sv_J cJ 1024 (L q)) := by
    intro L I V
    rcases hq with ⟨rfl, rfl, rfl⟩ | ⟨rfl, rfl, rfl⟩ <;> rfl
  have hq3 : q ≠ 3 := by omega
  refine sv_iconst (v := 0) C d_Se_spread_0 rfl ?_
  refine sv_istore_n C d_Se_spread_1 rfl (by decide) rfl ?_
  refine sv_eqw (ws' := hC cI cJ cZ (hu L 3 (L 3)) (hu (hu I 0 (I 0)) 1 (I 1)) (hu V 2 (nI cnt0)) tl) (by rw [hu_same, hu_same, hu_same, ← hV, hu_same]) ?_
  refine sv_ind (σ := Nat × Nat × (Nat → Int64) × (Nat → Int32) × (Nat → Int32) × (Nat → Nat) × (Nat → Nat)) (I := fun s => sp_S (L q) (L 3) cnt0 fd0 (I 1) s.1 s.2.1 s.2.2.2.1 s.2.2.2.2.1 s.2.2.2.2.2.1 s.2.2.2.2.2.2 ∧ ∀ z, z < 256 → (ss_b s.2.2.1 0 z = true ↔ (ss_b (L 3) 0 z = true ∧ ¬ bf_F s.2.2.2.2.2.1 s.2.1 z))) (μ := fun s => 256 - s.1)
    (lv := fun s => [some (.ref 9), some (.ref b), some (.int (nI s.1)), none, none, none]) (ws := fun s => hC cI cJ cZ (hu L 3 s.2.2.1) (hu (hu I 0 s.2.2.2.1) 1 s.2.2.2.2.1) (hu V 2 (nI s.2.1)) tl) ?_ (0, cnt0, L 3, I 0, I 1, fd0, fun _ => 0) ⟨⟨⟨Nat.zero_le _, fun i hi => (hf0 i hi).1, hj0, Nat.le_refl _, fun _ _ => rfl, fun i h1 h2 => absurd h1 (Nat.not_lt.mpr h2), fun i hi => ⟨i, hi, rfl⟩, fun i hi => absurd hi (Nat.not_lt_zero _), fun _ _ _ _ => Nat.le_refl _, fun _ _ _ => Nat.zero_le _⟩, fun i hi => (hf0 i hi).2.1, fun i hi => ⟨(hf0 i hi).2.2.1, Nat.zero_le _⟩, fun _ _ _ => rfl, fun _ _ => rfl⟩, fun z hz => ⟨fun h => ⟨h, fun ⟨i, hi, e⟩ => by
      rw [← e, (hf0 i hi).2.2.2] at h
      cases h⟩, fun h => h.1⟩⟩
  rintro ⟨a, cnt, fO, I0, I1, fd, dd⟩ ⟨hS, hO⟩ ih
  dsimp only at hS hO ih
  have hle := bf_le hS.1
  have hac := hS.1.1
  refine sv_iload_n C d_Se_spread_2 rfl rfl ?_
  refine sv_aload_n C d_Se_spread_3 rfl rfl ?_
  refine sv_get (ci := 2) (kf := 5) C i_Se rfl (by decide) f_Se_37 (fun _ h9 => h9) d_Se_spread_4 (by first | assumption | rfl) rfl ?_
  refine sv_icmp_ge (tgt := 91) C d_Se_spread_7 (by decide) (fun hT => ?_) (fun hF => ?_)
  · have h1 : cnt ≤ a := (nI_leI (a := cnt) (b := a) (by omega) (by omega)).mp hT
    have h2 : a = cnt := by omega
    subst h2
    exact sv_vret C rfl d_Se_spread_91 (Nat.le_of_ble_eq_true rfl) (Nat.le_of_ble_eq_true rfl) (fun _ _ => rfl) (⟨rfl, fO, I0, I1, a, fd, dd, rfl, sp_fin hS hO⟩)
  · have h1 : ¬ cnt ≤ a := fun h => hF ((nI_leI (a := cnt) (b := a) (by omega) (by omega)).mpr h)
    refine sv_iload_n C d_Se_spread_10 rfl rfl ?_
    refine sv_sipush (v := 256) C d_Se_spread_11 rfl ?_
    refine sv_icmp_ge (tgt := 91) C d_Se_spread_14 (by decide) (fun hT2 => ?_) (fun hF2 => ?_)
    · exfalso
      have h3 : 256 ≤ a := (nI_leI (a := 256) (b := a) (by omega) (by omega)).mp hT2
      omega
    · have hain : vp_in (nI a) 256 := vp_in_nI (by omega) (by omega)
      have hfa : fd a < 256 := hS.1.2.1 a (by omega)
      refine sv_aload_n C d_Se_spread_17 rfl rfl ?_
      refine sv_get (ci := 2) (kf := 1) C i_Se rfl (by decide) f_Se_20 (fun _ h9 => h9) d_Se_spread_18 (by first | assumption | rfl) rfl ?_
      refine sv_iload_n C d_Se_spread_21 rfl rfl ?_
      refine sv_iald (t0 := 0) C rfl d_Se_spread_22 (by first | assumption | rfl) (by assumption) ?_
      refine sv_eqs (st' := [.int (nI (fd a))]) (by show [Value.int (I0 (nI a).toNatClampNeg)] = _; rw [nI_clamp (by omega), hS.2.1 a (by omega)]) ?_
      refine sv_istore_n C d_Se_spread_23 rfl (by decide) rfl ?_
      refine sv_aload_n C d_Se_spread_24 rfl rfl ?_
      refine sv_get (ci := 2) (kf := 0) C i_Se rfl (by decide) f_Se_14 (fun _ h9 => h9) d_Se_spread_25 (by first | assumption | rfl) rfl ?_
      refine sv_iconst (v := 0) C d_Se_spread_28 rfl ?_
      refine sv_aload_n C d_Se_spread_29 rfl rfl ?_
      refine sv_iload_n C d_Se_spread_30 rfl rfl ?_
      refine sv_callV (ci := 3) C (c_St_takeShared (cI := cI) (cZ := cZ) (ws := hC cI cJ cZ (hu L 3 fO) (hu (hu I 0 I0) 1 I1) (hu V 2 (nI cnt)) tl) (b := 10) (w := 11) (N := 4) (a := 0) (f := fO) (b' := b) (w' := w) (N' := 1024) (a' := fd a) (g := L q) rfl rfl (by decide) (by decide) (hbb _ _ _) (by rw [hww, hu_n hq3]) (by omega) (by decide)) s_Se_41 ki_St_takeShared ks_St_takeShared ⟨rfl, rfl, Nat.le_of_ble_eq_true rfl, Nat.le_of_ble_eq_true rfl⟩ rfl d_Se_spread_31 (by first | assumption | rfl) (Nat.le_of_ble_eq_true rfl) ⟨(Nat.le_of_ble_eq_true rfl), (Nat.le_of_ble_eq_true rfl)⟩ (fun E ws9 h9 => absurd h9 id) (fun v9 ws9 hp => ?_)
      have hpend : ∃ (pd : Option Nat) (fO2 : Nat → Int64), v9 = some (.int (sp_p pd)) ∧ ws9 = hC cI cJ cZ (hu L 3 fO2) (hu (hu I 0 I0) 1 I1) (hu V 2 (nI cnt)) tl ∧ (match pd with | none => (∀ z, z < 256 → (ss_b fO2 0 z = true ↔ (ss_b (L 3) 0 z = true ∧ ¬ bf_F fd cnt z))) ∧ ∀ z, z < 256 → ss_b (L q) (fd a) z = true → ss_b fO2 0 z = false | some x => x < 256 ∧ ss_b (L 3) 0 x = true ∧ ss_b (L q) (fd a) x = true ∧ ¬ bf_F fd cnt x ∧ ∀ z, z < 256 → (ss_b fO2 0 z = true ↔ (ss_b (L 3) 0 z = true ∧ ¬ bf_F fd cnt z ∧ z ≠ x))) := by
        rcases hp with ⟨e1, e2, e3⟩ | ⟨x, f', e1, hx, hb1, hb2, -, e3, hb3⟩
        · refine ⟨none, fO, e1, e3, hO, fun z hz hg => ?_⟩
          cases hc : ss_b fO 0 z with
          | false => rfl
          | true => exact absurd ⟨hc, hg⟩ (e2 z hz)
        · have h4 := (hO x hx).mp hb1
          refine ⟨some x, f', e1, e3, hx, h4.1, hb2, h4.2, fun z hz => ?_⟩
          rw [hb3 0 z hz]
          by_cases e : z = x
          · simp [e]
          · simp only [e, decide_true, decide_false, Bool.and_false, Bool.not_false, Bool.and_true, ne_eq, not_false_eq_true, and_true]
            exact hO z hz
      obtain ⟨pd, fO2, rfl, rfl, hpd⟩ := hpend
      refine sv_istore C d_Se_spread_34 (by decide) rfl ?_
      refine sv_iconst (v := 0) C d_Se_spread_36 rfl ?_
      refine sv_istore C d_Se_spread_37 (by decide) rfl ?_
      refine sv_ind (σ := Nat × Nat × (Nat → Int64) × (Nat → Int32) × (Nat → Int32) × (Nat → Nat) × (Nat → Nat) × Option Nat) (I := fun s => s.1 < s.2.1 ∧ a < s.2.1 ∧ s.2.2.2.2.2.1 a = fd a ∧ sp_S (L q) (L 3) cnt0 fd0 (I 1) a s.2.1 s.2.2.2.1 s.2.2.2.2.1 s.2.2.2.2.2.1 s.2.2.2.2.2.2.1 ∧ (match s.2.2.2.2.2.2.2 with | none => (∀ z, z < 256 → (ss_b s.2.2.1 0 z = true ↔ (ss_b (L 3) 0 z = true ∧ ¬ bf_F s.2.2.2.2.2.1 s.2.1 z))) ∧ ∀ z, z < 256 → ss_b (L q) (fd a) z = true → ss_b s.2.2.1 0 z = false | some x => x < 256 ∧ ss_b (L 3) 0 x = true ∧ ss_b (L q) (fd a) x = true ∧ ¬ bf_F s.2.2.2.2.2.1 s.2.1 x ∧ ∀ z, z < 256 → (ss_b s.2.2.1 0 z = true ↔ (ss_b (L 3) 0 z = true ∧ ¬ bf_F s.2.2.2.2.2.1 s.2.1 z ∧ z ≠ x)))) (μ := fun s => 256 - s.2.1)
        (lv := fun s => [some (.ref 9), some (.ref b), some (.int (nI a)), some (.int (nI (fd a))), some (.int (sp_p s.2.2.2.2.2.2.2)), some (.int (nI s.1))]) (ws := fun s => hC cI cJ cZ (hu L 3 s.2.2.1) (hu (hu I 0 s.2.2.2.1) 1 s.2.2.2.2.1) (hu V 2 (nI s.2.1)) tl) ?_ (0, cnt, fO2, I0, I1, fd, dd, pd) ⟨by show 0 < cnt; omega, by show a < cnt; omega, rfl, hS, hpd⟩
      clear hpd hS hO hF hF2
      rintro ⟨t, n, fO, I0, I1, fe, dd, pd⟩ ⟨htn, han, hfe, hS, hpd⟩ ih2
      dsimp only at htn han hfe hS hpd ih2
      have hle := bf_le hS.1
      cases pd with
      | none =>
        refine sv_iload C d_Se_spread_39 rfl ?_
        refine sv_iconst (v := (-1)) C d_Se_spread_41 rfl ?_
        refine sv_icmp_eq (tgt := 85) C d_Se_spread_42 (by decide) (fun hT3 => ?_) (fun hF3 => ?_)
        · refine sv_iincN C d_Se_spread_85 rfl (by decide) rfl ?_
          refine sv_goto (tgt := 2) C d_Se_spread_88 (by decide) ?_
          refine sv_drop [true, true, true, false, false, false] ?_
          refine ih (a + 1, n, fO, I0, I1, fe, dd) ⟨⟨bf_next hS.1 han (fun z hz => ?_), hS.2⟩, hpd.1⟩ (by show 256 - (a + 1) < 256 - a; omega)
          refine Classical.byContradiction (fun hn => ?_)
          have hz : sp_E (L q) (L 3) (fe a) z := hz
          have hn : ¬ bf_F fe n z := hn
          rw [hfe] at hz
          have h5 := hpd.2 z hz.1 hz.2.1
          rw [(hpd.1 z hz.1).mpr ⟨hz.2.2, hn⟩] at h5
          cases h5
        · exact absurd rfl hF3
      | some x =>
        obtain ⟨hx, hOx, hSx, hFx, hOz⟩ := hpd
        have hn256 := bf_lt hS.1 hx hFx
        refine sv_iload C d_Se_spread_39 rfl ?_
        refine sv_iconst (v := (-1)) C d_Se_spread_41 rfl ?_
        refine sv_icmp_eq (tgt := 85) C d_Se_spread_42 (by decide) (fun hT3 => ?_) (fun hF3 => ?_)
        · exact absurd hT3 (sp_m1 (by omega))
        · refine sv_iload C d_Se_spread_45 rfl ?_
          refine sv_sipush (v := 256) C d_Se_spread_47 rfl ?_
          refine sv_icmp_ge (tgt := 85) C d_Se_spread_50 (by decide) (fun hT4 => ?_) (fun hF4 => ?_)
          · exfalso
            have h3 : 256 ≤ t := (nI_leI (a := 256) (b := t) (by omega) (by omega)).mp hT4
            omega
          · have hfin : vp_in (nI (fd a)) 256 := vp_in_nI hfa (by omega)
            refine sv_aload_n C d_Se_spread_53 rfl rfl ?_
            refine sv_iload C d_Se_spread_54 rfl ?_
            refine sv_aload_n C d_Se_spread_56 rfl rfl ?_
            refine sv_get (ci := 2) (kf := 2) C i_Se rfl (by decide) f_Se_24 (fun _ h9 => h9) d_Se_spread_57 (by first | assumption | rfl) rfl ?_
            refine sv_iload_n C d_Se_spread_60 rfl rfl ?_
            refine sv_iald (t0 := 0) C rfl d_Se_spread_61 (by first | assumption | rfl) (by assumption) ?_
            refine sv_iconst (v := 1) C d_Se_spread_62 rfl ?_
            refine sv_iadd C d_Se_spread_63 ?_
            refine sv_eqs (st' := [.int (nI (dd (fd a) + 1)), .int (nI x), .ref 9]) (by show [Value.int (I1 (nI (fd a)).toNatClampNeg + 1), _, _] = _; rw [nI_clamp (by omega), ← hfe, (hS.2.2.1 a han).1, nI_1]; rfl) ?_
            refine sv_callV (ci := 2) C (c_Se_find (cI := cI) (cJ := cJ) (cZ := cZ) (L := hu L 3 fO) (I := hu (hu I 0 I0) 1 I1) (V := hu V 2 (nI n)) (tl := tl) (n := n) (x := x) (d := nI (dd (fd a) + 1)) hn256 hx rfl) s_Se_45 ki_Se_find ks_Se_find ⟨rfl, rfl, Nat.le_of_ble_eq_true rfl, Nat.le_of_ble_eq_true rfl⟩ rfl d_Se_spread_64 (by first | assumption | rfl) (Nat.le_of_ble_eq_true rfl) ⟨(Nat.le_of_ble_eq_true rfl), (Nat.le_of_ble_eq_true rfl)⟩ (fun E ws9 h9 => absurd h9 id) (fun v9 ws9 hp => ?_)
            obtain ⟨rfl, rfl⟩ := hp
            have hS2 := sp_add hS han hx hOx (by rw [hfe]; exact hSx) hFx
            rw [hfe] at hS2
            refine sv_aload_n C d_Se_spread_67 rfl rfl ?_
            refine sv_get (ci := 2) (kf := 0) C i_Se rfl (by decide) f_Se_14 (fun _ h9 => h9) d_Se_spread_68 (by first | assumption | rfl) rfl ?_
            refine sv_iconst (v := 0) C d_Se_spread_71 rfl ?_
            refine sv_aload_n C d_Se_spread_72 rfl rfl ?_
            refine sv_iload_n C d_Se_spread_73 rfl rfl ?_
            refine sv_eqw (ws' := hC cI cJ cZ (hu L 3 fO) (hu (hu I 0 (upd I0 n (nI x))) 1 (upd I1 x (nI (dd (fd a) + 1)))) (hu V 2 (nI (n + 1))) tl) (by rw [hu_hu, hu_sw _ _ _ (show (1 : Nat) ≠ 0 by decide), hu_hu, hu_hu]; rfl) ?_
            refine sv_callV (ci := 3) C (c_St_takeShared (cI := cI) (cZ := cZ) (ws := hC cI cJ cZ (hu L 3 fO) (hu (hu I 0 (upd I0 n (nI x))) 1 (upd I1 x (nI (dd (fd a) + 1)))) (hu V 2 (nI (n + 1))) tl) (b := 10) (w := 11) (N := 4) (a := 0) (f := fO) (b' := b) (w' := w) (N' := 1024) (a' := fd a) (g := L q) rfl rfl (by decide) (by decide) (hbb _ _ _) (by rw [hww, hu_n hq3]) (by omega) (by decide)) s_Se_41 ki_St_takeShared ks_St_takeShared ⟨rfl, rfl, Nat.le_of_ble_eq_true rfl, Nat.le_of_ble_eq_true rfl⟩ rfl d_Se_spread_74 (by first | assumption | rfl) (Nat.le_of_ble_eq_true rfl) ⟨(Nat.le_of_ble_eq_true rfl), (Nat.le_of_ble_eq_true rfl)⟩ (fun E ws9 h9 => absurd h9 id) (fun v9 ws9 hp => ?_)
            have hOz2 : ∀ z, z < 256 → (ss_b fO 0 z = true ↔ (ss_b (L 3) 0 z = true ∧ ¬ bf_F (hu fe n x) (n + 1) z)) := by
              intro z hz
              rw [hOz z hz, bf_F_s]
              exact ⟨fun h => ⟨h.1, fun q => q.elim h.2.1 h.2.2⟩, fun h => ⟨h.1, fun q => h.2 (Or.inl q), fun q => h.2 (Or.inr q)⟩⟩
            have hpend : ∃ (pd : Option Nat) (fO2 : Nat → Int64), v9 = some (.int (sp_p pd)) ∧ ws9 = hC cI cJ cZ (hu L 3 fO2) (hu (hu I 0 (upd I0 n (nI x))) 1 (upd I1 x (nI (dd (fd a) + 1)))) (hu V 2 (nI (n + 1))) tl ∧ (match pd with | none => (∀ z, z < 256 → (ss_b fO2 0 z = true ↔ (ss_b (L 3) 0 z = true ∧ ¬ bf_F (hu fe n x) (n + 1) z))) ∧ ∀ z, z < 256 → ss_b (L q) (fd a) z = true → ss_b fO2 0 z = false | some x' => x' < 256 ∧ ss_b (L 3) 0 x' = true ∧ ss_b (L q) (fd a) x' = true ∧ ¬ bf_F (hu fe n x) (n + 1) x' ∧ ∀ z, z < 256 → (ss_b fO2 0 z = true ↔ (ss_b (L 3) 0 z = true ∧ ¬ bf_F (hu fe n x) (n + 1) z ∧ z ≠ x'))) := by
              rcases hp with ⟨e1, e2, e3⟩ | ⟨x', f', e1, hx', hb1, hb2, -, e3, hb3⟩
              · refine ⟨none, fO, e1, e3, hOz2, fun z hz hg => ?_⟩
                cases hc : ss_b fO 0 z with
                | false => rfl
                | true => exact absurd ⟨hc, hg⟩ (e2 z hz)
              · have h4 := (hOz2 x' hx').mp hb1
                refine ⟨some x', f', e1, e3, hx', h4.1, hb2, h4.2, fun z hz => ?_⟩
                rw [hb3 0 z hz]
                by_cases e : z = x'
                · simp [e]
                · simp only [e, decide_true, decide_false, Bool.and_false, Bool.not_false, Bool.and_true, ne_eq, not_false_eq_true, and_true]
                  exact hOz2 z hz
            obtain ⟨pd, fO2, rfl, rfl, hpd⟩ := hpend
            refine sv_istore C d_Se_spread_77 (by decide) rfl ?_
            refine sv_iincN C d_Se_spread_79 rfl (by decide) rfl ?_
            refine sv_goto (tgt := 39) C d_Se_spread_82 (by decide) ?_
            exact ih2 (t + 1, n + 1, fO2, upd I0 n (nI x), upd I1 x (nI (dd (fd a) + 1)), hu fe n x, hu dd x (dd (fd a) + 1), pd) ⟨by show t + 1 < n + 1; omega, by show a < n + 1; omega, by show hu fe n x a = fd a; rw [hu_n (by omega)]; exact hfe, hS2, hpd⟩ (by show 256 - (n + 1) < 256 - n; omega)
