/-! StateLogic$Sets: empty, size, meets, leastFrom, takeShared -/
theorem g_cnt_add (O : Nat → Bool) (a b : Nat) : g_cnt O (a + b) = g_cnt O a + g_cnt (fun j => O (a + j)) b := by
  induction b with
  | zero => rfl
  | succ b ih =>
    show g_cnt O (a + b) + (if O (a + b) = true then 1 else 0) = g_cnt O a + (g_cnt (fun j => O (a + j)) b + (if O (a + b) = true then 1 else 0))
    rw [ih, Nat.add_assoc]
theorem ss_ij (a i : Nat) : nI a * 4 + nI i = nI (a * 4 + i) := by rw [show (4 : Int32) = nI 4 from rfl, pk_mul, nI_add]
theorem ss_jin {a i N : Nat} (hi : i < 4) (ha : a * 4 + 3 < N) (hN : N < 2 ^ 20) : vp_in (nI a * 4 + nI i) N := by
  rw [ss_ij]
  exact vp_in_nI (by omega) (by omega)
theorem ss_jcl {a i N : Nat} (hi : i < 4) (ha : a * 4 + 3 < N) (hN : N < 2 ^ 20) : (nI a * 4 + nI i).toNatClampNeg = a * 4 + i := by
  rw [ss_ij]
  exact nI_clamp (by omega)
def ss_clr (f : Nat → Int64) (a i : Nat) : Nat → Int64 := fun j => if a * 4 ≤ j ∧ j < a * 4 + i then 0 else f j
theorem ss_clr_s (f : Nat → Int64) (a i : Nat) : vp_updL (ss_clr f a i) (a * 4 + i) 0 = ss_clr f a (i + 1) := by
  funext j
  unfold vp_updL ss_clr
  by_cases e : j = a * 4 + i
  · have h2 : a * 4 ≤ j ∧ j < a * 4 + (i + 1) := by omega
    rw [if_pos e, if_pos h2]
  · by_cases h : a * 4 ≤ j ∧ j < a * 4 + i
    · have h2 : a * 4 ≤ j ∧ j < a * 4 + (i + 1) := by omega
      rw [if_neg e, if_pos h, if_pos h2]
    · have h2 : ¬ (a * 4 ≤ j ∧ j < a * 4 + (i + 1)) := by omega
      rw [if_neg e, if_neg h, if_neg h2]
theorem ss_clr_b (f : Nat → Int64) (a c z : Nat) (hz : z < 256) : ss_b (ss_clr f a 4) c z = (ss_b f c z && !decide (c = a)) := by
  unfold ss_b ss_clr
  by_cases e : c = a
  · subst e
    have h : c * 4 ≤ c * 4 + z / 64 ∧ c * 4 + z / 64 < c * 4 + 4 := by omega
    rw [if_pos h, ss_0]
    simp
  · have h : ¬ (a * 4 ≤ c * 4 + z / 64 ∧ c * 4 + z / 64 < a * 4 + 4) := by omega
    rw [if_neg h]
    simp [e]
set_option maxRecDepth 100000 in
set_option maxHeartbeats 4000000 in
theorem c_St_empty {l : Launch} {D : va_G} {cI cJ cZ : ClassId} {ws : List va_E} {b w N a : Nat} {f : Nat → Int64} (hb : ws[b]? = some (.inr (3, [.ref w]))) (hw : ws[w]? = some (sv_J cJ N f)) (ha : a * 4 + 3 < N) (hN : N < 2 ^ 20) :
    sv_M l y_St_empty [Cond.code y_St_empty b_St_empty 3 none] ({ frames := 0, cells := 0, slots := 0, locals := 0 } : Room) D sv_cl (sv_ty cI cJ cZ) [.ref b, .int (nI a)] ws 0 0 (fun r ws' => r = none ∧ ws' = ws.set w (sv_J cJ N (ss_clr f a 4))) sv_no 0 0 := by
  refine sv_of (cc := b_St_empty) (by decide +kernel) (Nat.le_of_ble_eq_true rfl) ?_
  intro p e s m args below meth c A ad C htab hnm
  have hlt := sv_lt hw
  have hbw : b ≠ w := fun h => by rw [h, hw] at hb; cases hb
  have hz : ws = ws.set w (sv_J cJ N (ss_clr f a 0)) := by
    have h1 : ss_clr f a 0 = f := funext (fun j => by
      have h : ¬ (a * 4 ≤ j ∧ j < a * 4 + 0) := by omega
      unfold ss_clr
      rw [if_neg h])
    rw [h1]
    exact (sv_same hw).symm
  refine sv_iconst (v := 0) C d_St_empty_0 rfl ?_
  refine sv_istore_n C d_St_empty_1 rfl (by decide) rfl ?_
  refine sv_eqw hz ?_
  refine sv_ind (σ := Nat) (I := fun i => i ≤ 4) (μ := fun i => 4 - i) (lv := fun i => [some (.ref b), some (.int (nI a)), some (.int (nI i))]) (ws := fun i => ws.set w (sv_J cJ N (ss_clr f a i))) ?_ 0 (Nat.zero_le _)
  intro i hi ih
  have hg : (ws.set w (sv_J cJ N (ss_clr f a i)))[w]? = some (sv_J cJ N (ss_clr f a i)) := List.getElem?_set_self hlt
  have hg2 : (ws.set w (sv_J cJ N (ss_clr f a i)))[b]? = some (.inr (3, [.ref w])) := by rw [List.getElem?_set_ne (fun h => hbw h.symm)]; exact hb
  refine sv_iload_n C d_St_empty_2 rfl rfl ?_
  refine sv_iconst (v := 4) C d_St_empty_3 rfl ?_
  refine sv_icmp_ge (tgt := 24) C d_St_empty_4 (by decide) (fun hT => ?_) (fun hF => ?_)
  · have h1 : nI 4 ≤ nI i := hT
    have h1 : 4 ≤ i := (nI_leI (by omega) (by omega)).mp h1
    have h2 : i = 4 := by omega
    subst h2
    exact sv_vret C rfl d_St_empty_24 (Nat.le_of_ble_eq_true rfl) (Nat.le_of_ble_eq_true rfl) (fun _ _ => rfl) (⟨rfl, rfl⟩)
  · have h1 : ¬ 4 ≤ i := fun h => hF ((nI_leI (a := 4) (b := i) (by omega) (by omega)).mpr h)
    have hin := ss_jin (a := a) (i := i) (by omega) ha hN
    refine sv_aload_n C d_St_empty_7 rfl rfl ?_
    refine sv_get (ci := 3) (kf := 0) C i_St rfl (by decide) f_St_11 (fun _ h9 => h9) d_St_empty_8 (by first | assumption | rfl) rfl ?_
    refine sv_iload_n C d_St_empty_11 rfl rfl ?_
    refine sv_iconst (v := 4) C d_St_empty_12 rfl ?_
    refine sv_imul C d_St_empty_13 ?_
    refine sv_iload_n C d_St_empty_14 rfl rfl ?_
    refine sv_iadd C d_St_empty_15 ?_
    refine sv_lconst (v := 0) C d_St_empty_16 rfl ?_
    refine sv_last (t0 := 1) C rfl d_St_empty_17 (by first | assumption | rfl) (by assumption) ?_
    refine sv_eqw (ws' := ws.set w (sv_J cJ N (ss_clr f a (i + 1)))) (by rw [List.set_set, ss_jcl (by omega) ha hN, ss_clr_s]) ?_
    refine sv_iincN C d_St_empty_18 rfl (by decide) rfl ?_
    refine sv_goto (tgt := 2) C d_St_empty_21 (by decide) ?_
    exact ih (i + 1) (by show i + 1 ≤ 4; omega) (by show 4 - (i + 1) < 4 - i; omega)
def ss_tot (f : Nat → Int64) (a : Nat) : Nat → Nat
  | 0 => 0
  | i + 1 => ss_tot f a i + pb_cnt (f (a * 4 + i))
theorem ss_tot_b (f : Nat → Int64) (a : Nat) : ∀ i, i ≤ 4 → g_cnt (fun x => ss_b f a x) (64 * i) = ss_tot f a i
  | 0, _ => rfl
  | i + 1, h => by
    have ih := ss_tot_b f a i (by omega)
    have e1 : 64 * (i + 1) = 64 * i + 64 := by omega
    rw [e1, g_cnt_add, ih]
    show _ + _ = ss_tot f a i + pb_cnt (f (a * 4 + i))
    congr 1
    refine g_cnt_congr 64 (fun j hj => ?_)
    unfold ss_b
    have h1 : (64 * i + j) / 64 = i := by omega
    have h2 : (64 * i + j) % 64 = j := by omega
    rw [h1, h2]
theorem ss_tot_le (f : Nat → Int64) (a : Nat) : ∀ i, ss_tot f a i ≤ 64 * i
  | 0 => Nat.le_refl _
  | i + 1 => by
    have h1 := ss_tot_le f a i
    have h2 : pb_cnt (f (a * 4 + i)) ≤ 64 := g_cnt_le _ 64
    show ss_tot f a i + pb_cnt (f (a * 4 + i)) ≤ _
    omega
set_option maxRecDepth 100000 in
set_option maxHeartbeats 4000000 in
theorem c_St_size {l : Launch} {D : va_G} {cI cJ cZ : ClassId} {ws : List va_E} {b w N a : Nat} {f : Nat → Int64} (hb : ws[b]? = some (.inr (3, [.ref w]))) (hw : ws[w]? = some (sv_J cJ N f)) (ha : a * 4 + 3 < N) (hN : N < 2 ^ 20) :
    sv_M l y_St_size [Cond.code y_St_size b_St_size 4 (some .int)] ({ frames := 1, cells := 0, slots := 0, locals := 21 } : Room) D sv_cl (sv_ty cI cJ cZ) [.ref b, .int (nI a)] ws 0 0 (fun r ws' => r = some (.int (nI (g_cnt (fun x => ss_b f a x) 256))) ∧ ws' = ws) sv_no 0 0 := by
  refine sv_of (cc := b_St_size) (by decide +kernel) (Nat.le_of_ble_eq_true rfl) ?_
  intro p e s m args below meth c A ad C htab hnm
  refine sv_iconst (v := 0) C d_St_size_0 rfl ?_
  refine sv_istore_n C d_St_size_1 rfl (by decide) rfl ?_
  refine sv_iconst (v := 0) C d_St_size_2 rfl ?_
  refine sv_istore_n C d_St_size_3 rfl (by decide) rfl ?_
  refine sv_ind (σ := Nat) (I := fun i => i ≤ 4) (μ := fun i => 4 - i) (lv := fun i => [some (.ref b), some (.int (nI a)), some (.int (nI (ss_tot f a i))), some (.int (nI i))]) (ws := fun _ => ws) ?_ 0 (Nat.zero_le _)
  intro i hi ih
  refine sv_iload_n C d_St_size_4 rfl rfl ?_
  refine sv_iconst (v := 4) C d_St_size_5 rfl ?_
  refine sv_icmp_ge (tgt := 31) C d_St_size_6 (by decide) (fun hT => ?_) (fun hF => ?_)
  · have h1 : 4 ≤ i := (nI_leI (a := 4) (b := i) (by omega) (by omega)).mp hT
    have h2 : i = 4 := by omega
    subst h2
    refine sv_iload_n C d_St_size_31 rfl rfl ?_
    exact sv_iret C rfl rfl d_St_size_32 (Nat.le_of_ble_eq_true rfl) (Nat.le_of_ble_eq_true rfl) (fun _ _ => rfl) (⟨by rw [← ss_tot_b f a 4 (by omega)], rfl⟩)
  · have h1 : ¬ 4 ≤ i := fun h => hF ((nI_leI (a := 4) (b := i) (by omega) (by omega)).mpr h)
    have hin := ss_jin (a := a) (i := i) (by omega) ha hN
    refine sv_iload_n C d_St_size_9 rfl rfl ?_
    refine sv_aload_n C d_St_size_10 rfl rfl ?_
    refine sv_get (ci := 3) (kf := 0) C i_St rfl (by decide) f_St_11 (fun _ h9 => h9) d_St_size_11 (by first | assumption | rfl) rfl ?_
    refine sv_iload_n C d_St_size_14 rfl rfl ?_
    refine sv_iconst (v := 4) C d_St_size_15 rfl ?_
    refine sv_imul C d_St_size_16 ?_
    refine sv_iload_n C d_St_size_17 rfl rfl ?_
    refine sv_iadd C d_St_size_18 ?_
    refine sv_lald (t0 := 1) C rfl d_St_size_19 (by first | assumption | rfl) (by assumption) ?_
    refine sv_callS C (c_Lo_bitCount (cI := cI) (cJ := cJ) (cZ := cZ)) s_St_29 kt_Lo_bitCount ⟨rfl, rfl, Nat.le_of_ble_eq_true rfl, Nat.le_of_ble_eq_true rfl⟩ d_St_size_20 (Nat.le_of_ble_eq_true rfl) ⟨(Nat.le_of_ble_eq_true rfl), (Nat.le_of_ble_eq_true rfl)⟩ (fun E ws9 h9 => absurd h9 id) (fun v9 ws9 hp => ?_)
    obtain ⟨rfl, rfl⟩ := hp
    refine sv_iadd C d_St_size_23 ?_
    refine sv_eqs (st' := [.int (nI (ss_tot f a (i + 1)))]) (by rw [ss_jcl (by omega) ha hN, nI_add]; rfl) ?_
    refine sv_istore_n C d_St_size_24 rfl (by decide) rfl ?_
    refine sv_iincN C d_St_size_25 rfl (by decide) rfl ?_
    refine sv_goto (tgt := 4) C d_St_size_28 (by decide) ?_
    exact ih (i + 1) (by show i + 1 ≤ 4; omega) (by show 4 - (i + 1) < 4 - i; omega)
theorem ss_any (w v : Int64) : (w &&& v) = 0 ↔ ∀ j, j < 64 → ¬ (w.toBitVec.getLsbD j = true ∧ v.toBitVec.getLsbD j = true) := by
  constructor
  · intro h j hj hb
    have h1 := ss_and w v j
    rw [h, ss_0, hb.1, hb.2] at h1
    cases h1
  · intro h
    refine wb_inj (BitVec.eq_of_getLsbD_eq (fun i hi => ?_))
    rw [ss_0, ss_and]
    have h1 := h i hi
    cases ha : w.toBitVec.getLsbD i <;> cases hb : v.toBitVec.getLsbD i <;> simp_all
theorem ss_at (f : Nat → Int64) (a i j : Nat) (hj : j < 64) : ss_b f a (64 * i + j) = (f (a * 4 + i)).toBitVec.getLsbD j := by
  unfold ss_b
  have h1 : (64 * i + j) / 64 = i := by omega
  have h2 : (64 * i + j) % 64 = j := by omega
  rw [h1, h2]
/-- no state of both below z -/
def ss_apart (f : Nat → Int64) (a : Nat) (g : Nat → Int64) (a' z : Nat) : Prop := ∀ x, x < z → ¬ (ss_b f a x = true ∧ ss_b g a' x = true)
theorem ss_apart_s {f g : Nat → Int64} {a a' i : Nat} (h : ss_apart f a g a' (64 * i)) (h0 : (f (a * 4 + i) &&& g (a' * 4 + i)) = 0) : ss_apart f a g a' (64 * (i + 1)) := by
  intro x hx
  by_cases hlt : x < 64 * i
  · exact h x hlt
  · have e : x = 64 * i + (x - 64 * i) := by omega
    rw [e, ss_at _ _ _ _ (by omega), ss_at _ _ _ _ (by omega)]
    exact (ss_any _ _).mp h0 _ (by omega)
set_option maxRecDepth 100000 in
set_option maxHeartbeats 4000000 in
theorem c_St_meets {l : Launch} {D : va_G} {cI cJ cZ : ClassId} {ws : List va_E} {b w N a b' w' N' a' : Nat} {f g : Nat → Int64} (hb : ws[b]? = some (.inr (3, [.ref w]))) (hw : ws[w]? = some (sv_J cJ N f)) (ha : a * 4 + 3 < N) (hN : N < 2 ^ 20) (hb' : ws[b']? = some (.inr (3, [.ref w']))) (hw' : ws[w']? = some (sv_J cJ N' g)) (ha' : a' * 4 + 3 < N') (hN' : N' < 2 ^ 20) :
    sv_M l y_St_meets [Cond.code y_St_meets b_St_meets 5 (some .boolean)] ({ frames := 0, cells := 0, slots := 0, locals := 0 } : Room) D sv_cl (sv_ty cI cJ cZ) [.ref b, .int (nI a), .ref b', .int (nI a')] ws 0 0 (fun r ws' => ∃ t : Bool, r = some (.int (if t = true then 1 else 0)) ∧ (t = true ↔ ∃ x, x < 256 ∧ ss_b f a x = true ∧ ss_b g a' x = true) ∧ ws' = ws) sv_no 0 0 := by
  refine sv_of (cc := b_St_meets) (by decide +kernel) (Nat.le_of_ble_eq_true rfl) ?_
  intro p e s m args below meth c A ad C htab hnm
  refine sv_iconst (v := 0) C d_St_meets_0 rfl ?_
  refine sv_istore C d_St_meets_1 (by decide) rfl ?_
  refine sv_ind (σ := Nat) (I := fun i => i ≤ 4 ∧ ss_apart f a g a' (64 * i)) (μ := fun i => 4 - i) (lv := fun i => [some (.ref b), some (.int (nI a)), some (.ref b'), some (.int (nI a')), some (.int (nI i))]) (ws := fun _ => ws) ?_ 0 ⟨Nat.zero_le _, fun x hx => absurd hx (by omega)⟩
  rintro i ⟨hi, hap⟩ ih
  refine sv_iload C d_St_meets_3 rfl ?_
  refine sv_iconst (v := 4) C d_St_meets_5 rfl ?_
  refine sv_icmp_ge (tgt := 45) C d_St_meets_6 (by decide) (fun hT => ?_) (fun hF => ?_)
  · have h1 : 4 ≤ i := (nI_leI (a := 4) (b := i) (by omega) (by omega)).mp hT
    have h2 : i = 4 := by omega
    subst h2
    refine sv_iconst (v := 0) C d_St_meets_45 rfl ?_
    exact sv_iret C rfl rfl d_St_meets_46 (Nat.le_of_ble_eq_true rfl) (Nat.le_of_ble_eq_true rfl) (fun _ _ => rfl) (⟨false, rfl, ⟨fun h => absurd h (by decide), fun ⟨x, hx, h⟩ => absurd h (hap x hx)⟩, rfl⟩)
  · have h1 : ¬ 4 ≤ i := fun h => hF ((nI_leI (a := 4) (b := i) (by omega) (by omega)).mpr h)
    have hin := ss_jin (a := a) (i := i) (by omega) ha hN
    have hin' := ss_jin (a := a') (i := i) (by omega) ha' hN'
    refine sv_aload_n C d_St_meets_9 rfl rfl ?_
    refine sv_get (ci := 3) (kf := 0) C i_St rfl (by decide) f_St_11 (fun _ h9 => h9) d_St_meets_10 (by first | assumption | rfl) rfl ?_
    refine sv_iload_n C d_St_meets_13 rfl rfl ?_
    refine sv_iconst (v := 4) C d_St_meets_14 rfl ?_
    refine sv_imul C d_St_meets_15 ?_
    refine sv_iload C d_St_meets_16 rfl ?_
    refine sv_iadd C d_St_meets_18 ?_
    refine sv_lald (t0 := 1) C rfl d_St_meets_19 (by first | assumption | rfl) (by assumption) ?_
    refine sv_aload_n C d_St_meets_20 rfl rfl ?_
    refine sv_get (ci := 3) (kf := 0) C i_St rfl (by decide) f_St_11 (fun _ h9 => h9) d_St_meets_21 (by first | assumption | rfl) rfl ?_
    refine sv_iload_n C d_St_meets_24 rfl rfl ?_
    refine sv_iconst (v := 4) C d_St_meets_25 rfl ?_
    refine sv_imul C d_St_meets_26 ?_
    refine sv_iload C d_St_meets_27 rfl ?_
    refine sv_iadd C d_St_meets_29 ?_
    refine sv_lald (t0 := 1) C rfl d_St_meets_30 (by first | assumption | rfl) (by assumption) ?_
    refine sv_land C d_St_meets_31 ?_
    refine sv_lconst (v := 0) C d_St_meets_32 rfl ?_
    refine sv_lcmp C d_St_meets_33 ?_
    refine sv_if_eq (tgt := 39) C d_St_meets_34 (by decide) (fun hT2 => ?_) (fun hF2 => ?_)
    · have h3 := (ss_cmp _ _).mp hT2
      rw [ss_jcl (by omega) ha hN, ss_jcl (by omega) ha' hN'] at h3
      refine sv_iincN C d_St_meets_39 rfl (by decide) rfl ?_
      refine sv_goto (tgt := 3) C d_St_meets_42 (by decide) ?_
      exact ih (i + 1) ⟨by omega, ss_apart_s hap h3⟩ (by show 4 - (i + 1) < 4 - i; omega)
    · have h3 : ¬ (f (a * 4 + i) &&& g (a' * 4 + i)) = 0 := fun h => hF2 ((ss_cmp _ _).mpr (by rw [ss_jcl (by omega) ha hN, ss_jcl (by omega) ha' hN']; exact h))
      have h4 : ∃ j, j < 64 ∧ (f (a * 4 + i)).toBitVec.getLsbD j = true ∧ (g (a' * 4 + i)).toBitVec.getLsbD j = true := by
        refine Classical.byContradiction (fun hn => h3 ((ss_any _ _).mpr (fun j hj hb => hn ⟨j, hj, hb⟩)))
      obtain ⟨j, hj, hb1, hb2⟩ := h4
      refine sv_iconst (v := 1) C d_St_meets_37 rfl ?_
      exact sv_iret C rfl rfl d_St_meets_38 (Nat.le_of_ble_eq_true rfl) (Nat.le_of_ble_eq_true rfl) (fun _ _ => rfl) (⟨true, rfl, ⟨fun _ => ⟨64 * i + j, by omega, by rw [ss_at _ _ _ _ hj]; exact hb1, by rw [ss_at _ _ _ _ hj]; exact hb2⟩, fun _ => rfl⟩, rfl⟩)
