/-! The reference: measure, length, witness -/
theorem um_0 {S : Nat → Nat → Prop} {X Y : Nat → Prop} {z : Nat} : um S X Y 0 z ↔ Y z := by
  refine ⟨fun ⟨t, h1, h2⟩ => ?_, fun h => ⟨z, h, rfl⟩⟩
  have h2 : z = t := h2
  rw [h2]
  exact h1
theorem um_s {S : Nat → Nat → Prop} {X Y : Nat → Prop} {k z : Nat} : um S X Y (k + 1) z ↔ X z ∧ ∃ t, S z t ∧ um S X Y k t := by
  refine ⟨fun ⟨t, h1, c, h2, h3⟩ => ⟨h2.1, c, h2.2, t, h1, h3⟩, fun ⟨h1, c, h2, t, h3, h4⟩ => ⟨t, h3, c, ⟨h1, h2⟩, h4⟩⟩
theorem umin_0 {S : Nat → Nat → Prop} {X Y : Nat → Prop} {z : Nat} : umin S X Y 0 z ↔ Y z := ⟨fun h => um_0.mp h.1, fun h => ⟨um_0.mpr h, fun _ _ => Nat.zero_le _⟩⟩
theorem um_lt {S : Nat → Nat → Prop} {X Y : Nat → Prop} {N : Nat} (hX : ∀ z, X z → z < N) (hY : ∀ z, Y z → z < N) {k z : Nat} (h : um S X Y k z) : z < N := by
  cases k with
  | zero => exact hY z (um_0.mp h)
  | succ k => exact hX z (um_s.mp h).1
theorem umin_dn {S : Nat → Nat → Prop} {X Y : Nat → Prop} : ∀ (d z j : Nat), umin S X Y d z → j ≤ d → ∃ w, umin S X Y j w
  | 0, z, j, h, hj => ⟨z, by rw [show j = 0 by omega]; exact h⟩
  | d + 1, z, j, h, hj => by
    by_cases e : j = d + 1
    · rw [e]
      exact ⟨z, h⟩
    · obtain ⟨t, -, ht⟩ := umin_step h
      exact umin_dn d t j ht (by omega)
theorem umin_lt {S : Nat → Nat → Prop} {X Y : Nat → Prop} {N : Nat} (hX : ∀ z, X z → z < N) (hY : ∀ z, Y z → z < N) {d z : Nat} (h : umin S X Y d z) : d < N := by
  refine Nat.lt_of_not_le (fun hN => ?_)
  obtain ⟨i, j, h1, h2, h3⟩ := pigh N (fun j => if hj : j ≤ d then (umin_dn d z j h hj).choose else 0) (fun i hi => by
    rw [dif_pos (by omega)]
    exact um_lt hX hY (umin_dn d z i h (by omega)).choose_spec.1)
  rw [dif_pos (show i ≤ d by omega), dif_pos (show j ≤ d by omega)] at h3
  have e1 := (umin_dn d z i h (by omega)).choose_spec
  have e2 := (umin_dn d z j h (by omega)).choose_spec
  rw [h3] at e1
  have := umin_eq e1 e2
  omega
theorem umin_of {S : Nat → Nat → Prop} {X Y : Nat → Prop} {z : Nat} : ∀ k, um S X Y k z → ∃ d, d ≤ k ∧ umin S X Y d z := by
  intro k
  induction k using Nat.strongRecOn with
  | ind k ih =>
    intro h
    by_cases e : ∃ j, j < k ∧ um S X Y j z
    · obtain ⟨j, h1, h2⟩ := e
      obtain ⟨d, h3, h4⟩ := ih j h1 h2
      exact ⟨d, by omega, h4⟩
    · exact ⟨k, Nat.le_refl _, h, fun j hj => Nat.le_of_not_lt (fun q => e ⟨j, q, hj⟩)⟩
/-- what the reference has noted of z when it has looked at rows of up to t steps -/
def fr (S : Nat → Nat → Prop) (X Y : Nat → Prop) (t : Nat) (F : Int32) (z : Nat) : Prop := (∃ d, d < t ∧ F = nI (d + 1) ∧ umin S X Y d z) ∨ (F = nI 1000 ∧ ∀ k, k < t → ¬ um S X Y k z)
/-- and at the end -/
def frE (S : Nat → Nat → Prop) (X Y : Nat → Prop) (F : Int32) (z : Nat) : Prop := (∃ d, d < 256 ∧ F = nI (d + 1) ∧ umin S X Y d z) ∨ (F = nI 1000 ∧ ∀ k, ¬ um S X Y k z)
theorem fr_E {S : Nat → Nat → Prop} {X Y : Nat → Prop} {N z : Nat} {F : Int32} (hN : N ≤ 256) (hX : ∀ z, X z → z < N) (hY : ∀ z, Y z → z < N) (h : fr S X Y (N + 1) F z) : frE S X Y F z := by
  rcases h with ⟨d, h1, h2, h3⟩ | ⟨h1, h2⟩
  · exact Or.inl ⟨d, Nat.lt_of_lt_of_le (umin_lt hX hY h3) hN, h2, h3⟩
  · refine Or.inr ⟨h1, fun k hk => ?_⟩
    obtain ⟨d, h3, h4⟩ := umin_of k hk
    exact h2 d (Nat.lt_succ_of_lt (umin_lt hX hY h4)) h4.1
theorem fr_is {S : Nat → Nat → Prop} {X Y : Nat → Prop} {t t' z : Nat} {F : Int32} (ht : 1 ≤ t) (ht2 : t ≤ 256) (h : fr S X Y t' F z) (hh : t' = t ∨ t' = t + 1) : F = nI t ↔ umin S X Y (t - 1) z := by
  rcases h with ⟨d, h1, rfl, h3⟩ | ⟨rfl, h2⟩
  · rw [nI_eq (by omega) (by omega)]
    refine ⟨fun e => ?_, fun e => ?_⟩
    · rw [show t - 1 = d by omega]
      exact h3
    · have := umin_eq h3 e
      omega
  · rw [nI_eq (by omega) (by omega)]
    exact ⟨fun e => by omega, fun e => absurd e.1 (h2 _ (by omega))⟩
theorem fr_up {S : Nat → Nat → Prop} {X Y : Nat → Prop} {t z : Nat} {F : Int32} (h : fr S X Y t F z) (hn : (∀ k, k < t → ¬ um S X Y k z) → ¬ um S X Y t z) : fr S X Y (t + 1) F z := by
  rcases h with ⟨d, h1, h2, h3⟩ | ⟨h1, h2⟩
  · exact Or.inl ⟨d, by omega, h2, h3⟩
  · refine Or.inr ⟨h1, fun k hk => ?_⟩
    by_cases e : k = t
    · rw [e]
      exact hn h2
    · exact h2 k (by omega)
theorem um_st {S : Nat → Nat → Prop} {X Y : Nat → Prop} {t z : Nat} (ht : 1 ≤ t) (hno : ∀ k, k < t → ¬ um S X Y k z) (h : um S X Y t z) : X z ∧ ∃ w, S z w ∧ umin S X Y (t - 1) w := by
  obtain ⟨d, rfl⟩ : ∃ d, t = d + 1 := ⟨t - 1, by omega⟩
  obtain ⟨h1, w, h2, h3⟩ := um_s.mp h
  exact ⟨h1, w, h2, h3, fun k hk => Nat.le_of_not_lt (fun q => hno (k + 1) (by omega) (um_s.mpr ⟨h1, w, h2, hk⟩))⟩
theorem umin_up {S : Nat → Nat → Prop} {X Y : Nat → Prop} {t z w : Nat} (ht : 1 ≤ t) (hno : ∀ k, k < t → ¬ um S X Y k z) (hx : X z) (hs : S z w) (h : umin S X Y (t - 1) w) : umin S X Y t z := by
  obtain ⟨d, rfl⟩ : ∃ d, t = d + 1 := ⟨t - 1, by omega⟩
  exact ⟨um_s.mpr ⟨hx, w, hs, h.1⟩, fun k hk => Nat.le_of_not_lt (fun q => hno k q hk)⟩
section
variable {cI cJ cZ : ClassId} {L : Nat → Nat → Int64} {I : Nat → Nat → Int32} {V : Nat → Int32} {W : Nat → Int32} {J : Nat → Nat → Int32} {B : Nat → Nat → Bool} {tl : List va_E}
theorem st34 {k : Nat} {x : Int32} {F : Nat → Int32} (hk : k < 2 ^ 31) : (hM cI cJ cZ L I V W (hu J 7 F) B tl).set 34 (.inl (cI, 256, .inl (upd F (nI k).toNatClampNeg (vp_nar .int x)))) = hM cI cJ cZ L I V W (hu J 7 (hu F k x)) B tl := by
  have e : upd F k x = hu F k x := by
    funext j
    by_cases e : j = k
    · rw [e, pk_us, hu_s]
    · rw [pk_un e, hu_n e]
  rw [nI_clamp hk, show vp_nar .int x = x from rfl, e]
  rfl
end
set_option maxRecDepth 100000 in
set_option maxHeartbeats 8000000 in
theorem c_Mo_measure {l : Launch} {D : va_G} {cI cJ cZ : ClassId} {L : Nat → Nat → Int64} {I : Nat → Nat → Int32} {V : Nat → Int32} {W : Nat → Int32} {J : Nat → Nat → Int32} {B : Nat → Nat → Bool} {tl : List va_E} {n r mk : Nat} {rl : Nat → Nat × Nat × Nat × Nat} {kd xs ys : Nat → Nat} (hok : mo_ok W J B n r mk rl kd xs ys) {f : Nat} (hf : f < mk) (h5 : kd f = 5) :
    sv_M l y_Mo_measure [Cond.code y_Mo_measure b_Mo_measure 7 none] ({ frames := 6, cells := 0, slots := 0, locals := 142 } : Room) D sv_cl (sv_ty cI cJ cZ) [.ref 23, .int (nI f)] (hM cI cJ cZ L I V W J B tl) 0 0 (fun q ws' => q = none ∧ ∃ (W' : Nat → Int32) (J' : Nat → Nat → Int32) (B' : Nat → Nat → Bool), ws' = hM cI cJ cZ L I V W' J' B' tl ∧ W' 0 = W 0 ∧ mo_ok W' J' B' n r mk rl kd xs ys ∧ ∀ z, z < 2 ^ n → frE (rs n r rl) (tF (rs n r rl) (2 ^ n) kd xs ys (xs f)) (tF (rs n r rl) (2 ^ n) kd xs ys (ys f)) (J' 7 z) z) sv_no 0 0 := by
  refine sv_of (cc := b_Mo_measure) (by decide +kernel) (Nat.le_of_ble_eq_true rfl) ?_
  intro pX eX sX mX aX bX tX cX AX adX C htab hnm
  have hok' := hok
  obtain ⟨⟨⟨hn, hW1, hW2, hr40, hrl⟩, hJ⟩, hn1, ⟨hW3, hmk⟩, hfm, -⟩ := hok'
  have hp8 := pow_le8 hn
  refine sv_aload_n C d_Mo_measure_0 rfl rfl ?_
  refine sv_iload_n C d_Mo_measure_1 rfl rfl ?_
  refine sv_callV (ci := 5) C (c_Mo_know (cI := cI) (cJ := cJ) (cZ := cZ) (L := L) (I := I) (V := V) (W := W) (J := J) (B := B) (tl := tl) (n := n) (r := r) (mk := mk) (rl := rl) (kd := kd) (xs := xs) (ys := ys) hok (f := f) hf) s_Mo_104 ki_Mo_know ks_Mo_know ⟨rfl, rfl, Nat.le_of_ble_eq_true rfl, Nat.le_of_ble_eq_true rfl⟩ rfl d_Mo_measure_2 (by first | assumption | rfl) (Nat.le_of_ble_eq_true rfl) ⟨(Nat.le_of_ble_eq_true rfl), (Nat.le_of_ble_eq_true rfl)⟩ (fun E ws9 h9 => absurd h9 id) (fun v9 ws9 hp => ?_)
  obtain ⟨rfl, W1, B1, rfl, hW0, hok1, hT⟩ := hp
  obtain ⟨j4, j5, j6, q7, q0, q1, q6⟩ := hfm f hf
  have hxy := q1 (by omega)
  have j6 := j6 (Or.inr (Or.inr (Or.inr (Or.inl h5))))
  have hTx : ∀ z, z < 2 ^ n → (B1 0 (256 * xs f + z) = true ↔ tF (rs n r rl) (2 ^ n) kd xs ys (xs f) z) := fun z hz => hT (xs f) z (by omega) hz
  have hTy : ∀ z, z < 2 ^ n → (B1 0 (256 * ys f + z) = true ↔ tF (rs n r rl) (2 ^ n) kd xs ys (ys f) z) := fun z hz => hT (ys f) z (by omega) hz
  clear hT
  have hX : ∀ z, tF (rs n r rl) (2 ^ n) kd xs ys (xs f) z → z < 2 ^ n := fun z h => tF_lt h
  have hY : ∀ z, tF (rs n r rl) (2 ^ n) kd xs ys (ys f) z → z < 2 ^ n := fun z h => tF_lt h
  have hmr := hok1.1
  have hW11 : W1 1 = nI n := hmr.1.2.1
  have hW12 : W1 2 = nI r := hmr.1.2.2.1
  have hin : vp_in (nI f) 60 := vp_in_nI (by omega) (by omega)
  have hfc : (nI f).toNatClampNeg = f := nI_clamp (by omega)
  refine sv_iconst (v := 1) C d_Mo_measure_5 rfl ?_
  refine sv_aload_n C d_Mo_measure_6 rfl rfl ?_
  refine sv_get (ci := 5) (kf := 1) C i_Mo rfl (by decide) f_Mo_7 (fun _ h9 => h9) d_Mo_measure_7 (by first | assumption | rfl) rfl ?_
  rw [hW11]
  refine sv_ishl C d_Mo_measure_10 ?_
  rw [ma_sh n (by omega)]
  refine sv_istore_n C d_Mo_measure_11 rfl (by decide) rfl ?_
  refine sv_iconst (v := 0) C d_Mo_measure_12 rfl ?_
  refine sv_istore_n C d_Mo_measure_13 rfl (by decide) rfl ?_
  refine sv_eqw (ws' := hM cI cJ cZ L I V W1 (hu J 7 (J 7)) B1 tl) (by rw [hu_same]) ?_
  refine sv_ind (σ := Nat × (Nat → Int32)) (I := fun q => q.1 ≤ 2 ^ n ∧ ∀ z, z < q.1 → fr (rs n r rl) (tF (rs n r rl) (2 ^ n) kd xs ys (xs f)) (tF (rs n r rl) (2 ^ n) kd xs ys (ys f)) 1 (q.2 z) z) (μ := fun q => 2 ^ n - q.1)
    (lv := fun q => [some (.ref 23), some (.int (nI f)), some (.int (nI (2 ^ n))), some (.int (nI q.1)), none, none, none]) (ws := fun q => hM cI cJ cZ L I V W1 (hu J 7 q.2) B1 tl) ?_ (0, J 7) ⟨Nat.zero_le _, fun z hz => absurd hz (Nat.not_lt_zero z)⟩
  rintro ⟨i, F⟩ ⟨hi, hc⟩ ih
  dsimp only at hi hc ih
  refine sv_iload_n C d_Mo_measure_14 rfl rfl ?_
  refine sv_iload_n C d_Mo_measure_15 rfl rfl ?_
  refine sv_icmp_ge (tgt := 52) C d_Mo_measure_16 (by decide) (fun h1 => ?_) (fun h1 => ?_)
  rotate_left
  · have h1 : ¬ 2 ^ n ≤ i := fun h => h1 ((nI_leI (a := 2 ^ n) (b := i) (by omega) (by omega)).mpr h)
    have hin2 : vp_in (nI i) 256 := vp_in_nI (by omega) (by omega)
    refine sv_aload_n C d_Mo_measure_19 rfl rfl ?_
    refine sv_get (ci := 5) (kf := 15) C i_Mo rfl (by decide) f_Mo_45 (fun _ h9 => h9) d_Mo_measure_20 (by first | assumption | rfl) rfl ?_
    refine sv_iload_n C d_Mo_measure_23 rfl rfl ?_
    refine sv_aload_n C d_Mo_measure_24 rfl rfl ?_
    refine sv_aload_n C d_Mo_measure_25 rfl rfl ?_
    refine sv_get (ci := 5) (kf := 11) C i_Mo rfl (by decide) f_Mo_32 (fun _ h9 => h9) d_Mo_measure_26 (by first | assumption | rfl) rfl ?_
    refine sv_iload_n C d_Mo_measure_29 rfl rfl ?_
    refine sv_iald (t0 := 0) C rfl d_Mo_measure_30 (by first | assumption | rfl) hin ?_
    refine sv_eqs (st' := [.int (nI (ys f)), .ref 23, .int (nI i), .ref 34]) (by rw [hfc, ← j6]; rfl) ?_
    refine sv_iload_n C d_Mo_measure_31 rfl rfl ?_
    refine sv_callV (ci := 5) C (c_Mo_has (cI := cI) (cJ := cJ) (cZ := cZ) (L := L) (I := I) (V := V) (W := W1) (J := (hu J 7 F)) (B := B1) (tl := tl) (f := ys f) (z := i) (by omega) (by omega)) s_Mo_79 ki_Mo_has ks_Mo_has ⟨rfl, rfl, Nat.le_of_ble_eq_true rfl, Nat.le_of_ble_eq_true rfl⟩ rfl d_Mo_measure_32 (by first | assumption | rfl) (Nat.le_of_ble_eq_true rfl) ⟨(Nat.le_of_ble_eq_true rfl), (Nat.le_of_ble_eq_true rfl)⟩ (fun E ws9 h9 => absurd h9 id) (fun v9 ws9 hp => ?_)
    obtain ⟨rfl, rfl⟩ := hp
    cases hb : B1 0 (256 * ys f + i) with
    | true =>
      refine sv_if_eq (tgt := 42) C d_Mo_measure_35 (by decide) (fun h => ?_) (fun h => ?_)
      · exact absurd h (by decide)
      · refine sv_iconst (v := 1) C d_Mo_measure_38 rfl ?_
        refine sv_goto (tgt := 45) C d_Mo_measure_39 (by decide) ?_
        refine sv_iast (t0 := 0) C rfl d_Mo_measure_45 (by first | assumption | rfl) hin2 ?_
        refine sv_eqw (st34 (k := i) (by omega)) ?_
        refine sv_iincN C d_Mo_measure_46 rfl (by decide) rfl ?_
        refine sv_goto (tgt := 14) C d_Mo_measure_49 (by decide) ?_
        refine ih (i + 1, hu F i 1) ⟨by dsimp only; omega, fun z hz => ?_⟩ (by dsimp only; omega)
        dsimp only at hz ⊢
        by_cases e : z = i
        · rw [e, hu_s]
          exact Or.inl ⟨0, by omega, rfl, umin_0.mpr ((hTy i (by omega)).mp hb)⟩
        · rw [hu_n e]
          exact hc z (by omega)
    | false =>
      refine sv_if_eq (tgt := 42) C d_Mo_measure_35 (by decide) (fun h => ?_) (fun h => ?_)
      · refine sv_sipush (v := 1000) C d_Mo_measure_42 rfl ?_
        refine sv_iast (t0 := 0) C rfl d_Mo_measure_45 (by first | assumption | rfl) hin2 ?_
        refine sv_eqw (st34 (k := i) (by omega)) ?_
        refine sv_iincN C d_Mo_measure_46 rfl (by decide) rfl ?_
        refine sv_goto (tgt := 14) C d_Mo_measure_49 (by decide) ?_
        refine ih (i + 1, hu F i 1000) ⟨by dsimp only; omega, fun z hz => ?_⟩ (by dsimp only; omega)
        dsimp only at hz ⊢
        by_cases e : z = i
        · rw [e, hu_s]
          refine Or.inr ⟨rfl, fun k hk q => ?_⟩
          rw [show k = 0 by omega] at q
          have := (hTy i (by omega)).mpr (um_0.mp q)
          rw [hb] at this
          exact absurd this Bool.false_ne_true
        · rw [hu_n e]
          exact hc z (by omega)
      · exact absurd rfl h
  have h1 : 2 ^ n ≤ i := (nI_leI (a := 2 ^ n) (b := i) (by omega) (by omega)).mp h1
  have h2 : i = 2 ^ n := by omega
  subst h2
  clear ih
  refine sv_iconst (v := 1) C d_Mo_measure_52 rfl ?_
  refine sv_istore_n C d_Mo_measure_53 rfl (by decide) rfl ?_
  refine sv_ind (σ := Nat × (Nat → Int32)) (I := fun q => 1 ≤ q.1 ∧ q.1 ≤ 2 ^ n + 1 ∧ ∀ z, z < 2 ^ n → fr (rs n r rl) (tF (rs n r rl) (2 ^ n) kd xs ys (xs f)) (tF (rs n r rl) (2 ^ n) kd xs ys (ys f)) q.1 (q.2 z) z) (μ := fun q => 2 ^ n + 1 - q.1)
    (lv := fun q => [some (.ref 23), some (.int (nI f)), some (.int (nI (2 ^ n))), some (.int (nI q.1)), none, none, none]) (ws := fun q => hM cI cJ cZ L I V W1 (hu J 7 q.2) B1 tl) ?_ (1, F) ⟨Nat.le_refl _, Nat.le_add_left 1 _, hc⟩
  clear hc
  rintro ⟨t, F⟩ ⟨ht1, ht2, hc⟩ ih
  dsimp only at ht1 ht2 hc ih
  refine sv_iload_n C d_Mo_measure_54 rfl rfl ?_
  refine sv_iload_n C d_Mo_measure_55 rfl rfl ?_
  refine sv_icmp_gt (tgt := 168) C d_Mo_measure_56 (by decide) (fun h1 => ?_) (fun h1 => ?_)
  · have h1 : 2 ^ n < t := (nI_ltI (a := 2 ^ n) (b := t) (by omega) (by omega)).mp h1
    have h2 : t = 2 ^ n + 1 := by omega
    subst h2
    exact sv_vret C rfl d_Mo_measure_168 (Nat.le_of_ble_eq_true rfl) (Nat.le_of_ble_eq_true rfl) (fun _ _ => rfl) (⟨rfl, W1, hu J 7 F, B1, rfl, hW0, hok1, fun z hz => fr_E hp8 hX hY (hc z hz)⟩)
  have h1 : ¬ 2 ^ n < t := fun h => h1 ((nI_ltI (a := 2 ^ n) (b := t) (by omega) (by omega)).mpr h)
  refine sv_iconst (v := 0) C d_Mo_measure_59 rfl ?_
  refine sv_istore C d_Mo_measure_60 (by decide) rfl ?_
  refine sv_ind (σ := Nat × (Nat → Int32)) (I := fun q => q.1 ≤ 2 ^ n ∧ (∀ z, z < q.1 → fr (rs n r rl) (tF (rs n r rl) (2 ^ n) kd xs ys (xs f)) (tF (rs n r rl) (2 ^ n) kd xs ys (ys f)) (t + 1) (q.2 z) z) ∧ ∀ z, z < 2 ^ n → q.1 ≤ z → fr (rs n r rl) (tF (rs n r rl) (2 ^ n) kd xs ys (xs f)) (tF (rs n r rl) (2 ^ n) kd xs ys (ys f)) t (q.2 z) z) (μ := fun q => 2 ^ n - q.1)
    (lv := fun q => [some (.ref 23), some (.int (nI f)), some (.int (nI (2 ^ n))), some (.int (nI t)), some (.int (nI q.1)), none, none]) (ws := fun q => hM cI cJ cZ L I V W1 (hu J 7 q.2) B1 tl) ?_ (0, F) ⟨Nat.zero_le _, fun z hz => absurd hz (Nat.not_lt_zero z), fun z hz _ => hc z hz⟩
  clear hc
  rintro ⟨s, F⟩ ⟨hs, hlo, hhi⟩ ih2
  dsimp only at hs hlo hhi ih2
  refine sv_iload C d_Mo_measure_62 rfl ?_
  refine sv_iload_n C d_Mo_measure_64 rfl rfl ?_
  refine sv_icmp_ge (tgt := 162) C d_Mo_measure_65 (by decide) (fun h3 => ?_) (fun h3 => ?_)
  · have h3 : 2 ^ n ≤ s := (nI_leI (a := 2 ^ n) (b := s) (by omega) (by omega)).mp h3
    refine sv_iincN C d_Mo_measure_162 rfl (by decide) rfl ?_
    refine sv_goto (tgt := 54) C d_Mo_measure_165 (by decide) ?_
    refine sv_drop [true, true, true, true, false, false, false] ?_
    exact ih (t + 1, F) ⟨by dsimp only; omega, by dsimp only; omega, fun z hz => hlo z (by omega)⟩ (by dsimp only; omega)
  have h3 : ¬ 2 ^ n ≤ s := fun h => h3 ((nI_leI (a := 2 ^ n) (b := s) (by omega) (by omega)).mpr h)
  clear ih
  have hsin : vp_in (nI s) 256 := vp_in_nI (by omega) (by omega)
  have hscl : (nI s).toNatClampNeg = s := nI_clamp (by omega)
  refine sv_join (σ := Nat → Int32) (pc1 := 156) (st1 := []) (k1 := 0) (n1 := 0) (J := fun G => (∀ z, z ≠ s → G z = F z) ∧ fr (rs n r rl) (tF (rs n r rl) (2 ^ n) kd xs ys (xs f)) (tF (rs n r rl) (2 ^ n) kd xs ys (ys f)) (t + 1) (G s) s) (lv1 := fun _ => [some (.ref 23), some (.int (nI f)), some (.int (nI (2 ^ n))), some (.int (nI t)), some (.int (nI s)), none, none]) (ws1 := fun G => hM cI cJ cZ L I V W1 (hu J 7 G) B1 tl) (fun G hG => ?_) (fun nx => ?_)
  · obtain ⟨hG1, hG2⟩ := hG
    refine sv_iincN C d_Mo_measure_156 rfl (by decide) rfl ?_
    refine sv_goto (tgt := 62) C d_Mo_measure_159 (by decide) ?_
    refine ih2 (s + 1, G) ⟨by dsimp only; omega, fun z hz => ?_, fun z hz hz2 => ?_⟩ (by dsimp only; omega)
    · dsimp only at hz ⊢
      by_cases e : z = s
      · rw [e]
        exact hG2
      · rw [hG1 z e]
        exact hlo z (by omega)
    · dsimp only at hz2 ⊢
      rw [hG1 z (by omega)]
      exact hhi z hz (by omega)
  clear ih2
  refine sv_iconst (v := 0) C d_Mo_measure_68 rfl ?_
  refine sv_istore C d_Mo_measure_69 (by decide) rfl ?_
  refine sv_ind (σ := Nat × (Nat → Int32)) (I := fun q => q.1 ≤ r ∧ (∀ z, z ≠ s → q.2 z = F z) ∧ ((∃ d, d < t + 1 ∧ q.2 s = nI (d + 1) ∧ umin (rs n r rl) (tF (rs n r rl) (2 ^ n) kd xs ys (xs f)) (tF (rs n r rl) (2 ^ n) kd xs ys (ys f)) d s) ∨ (q.2 s = nI 1000 ∧ (∀ k, k < t → ¬ um (rs n r rl) (tF (rs n r rl) (2 ^ n) kd xs ys (xs f)) (tF (rs n r rl) (2 ^ n) kd xs ys (ys f)) k s) ∧ ∀ j, j < q.1 → s &&& (rl j).1 = (rl j).2.1 → ¬ umin (rs n r rl) (tF (rs n r rl) (2 ^ n) kd xs ys (xs f)) (tF (rs n r rl) (2 ^ n) kd xs ys (ys f)) (t - 1) ((s &&& (rl j).2.2.1) ^^^ (rl j).2.2.2)))) (μ := fun q => r - q.1)
    (lv := fun q => [some (.ref 23), some (.int (nI f)), some (.int (nI (2 ^ n))), some (.int (nI t)), some (.int (nI s)), some (.int (nI q.1)), none]) (ws := fun q => hM cI cJ cZ L I V W1 (hu J 7 q.2) B1 tl) ?_ (0, F) ⟨Nat.zero_le _, fun _ _ => rfl, ?_⟩
  rotate_left
  · rcases hhi s (by omega) (Nat.le_refl _) with ⟨d, h4, h6, h7⟩ | ⟨h4, h6⟩
    · exact Or.inl ⟨d, by omega, h6, h7⟩
    · exact Or.inr ⟨h4, h6, fun j hj => absurd hj (Nat.not_lt_zero j)⟩
  rintro ⟨j, G⟩ ⟨hj, hG, hGs⟩ ih
  dsimp only at hj hG hGs ih
  have hfr : ∀ z, z < 2 ^ n → (G z = nI t ↔ umin (rs n r rl) (tF (rs n r rl) (2 ^ n) kd xs ys (xs f)) (tF (rs n r rl) (2 ^ n) kd xs ys (ys f)) (t - 1) z) := fun z hz => by
    by_cases e : z = s
    · rw [e]
      rcases hGs with ⟨d, h4, h6, h7⟩ | ⟨h4, h6, -⟩
      · exact fr_is ht1 (by omega) (Or.inl ⟨d, h4, h6, h7⟩) (Or.inr rfl)
      · exact fr_is ht1 (by omega) (Or.inr ⟨h4, h6⟩) (Or.inl rfl)
    · rw [hG z e]
      by_cases e2 : z < s
      · exact fr_is ht1 (by omega) (hlo z e2) (Or.inr rfl)
      · exact fr_is ht1 (by omega) (hhi z hz (by omega)) (Or.inl rfl)
  refine sv_iload C d_Mo_measure_71 rfl ?_
  refine sv_aload_n C d_Mo_measure_73 rfl rfl ?_
  refine sv_get (ci := 5) (kf := 2) C i_Mo rfl (by decide) f_Mo_58 (fun _ h9 => h9) d_Mo_measure_74 (by first | assumption | rfl) rfl ?_
  refine sv_eqs (st' := [.int (nI r), .int (nI j)]) (by rw [← hW12]; rfl) ?_
  refine sv_icmp_ge (tgt := 156) C d_Mo_measure_77 (by decide) (fun h4 => ?_) (fun h4 => ?_)
  · have h4 : r ≤ j := (nI_leI (a := r) (b := j) (by omega) (by omega)).mp h4
    have h6 : j = r := by omega
    subst h6
    refine sv_drop [true, true, true, true, true, false, false] ?_
    refine nx G ⟨hG, ?_⟩
    rcases hGs with hd | ⟨h7, h8, h9⟩
    · exact Or.inl hd
    · refine fr_up (Or.inr ⟨h7, h8⟩) (fun _ q => ?_)
      obtain ⟨-, w, ⟨-, i, hi, e1, rfl⟩, hw⟩ := um_st ht1 h8 q
      exact h9 i hi e1 hw
  have h4 : ¬ r ≤ j := fun h => h4 ((nI_leI (a := r) (b := j) (by omega) (by omega)).mpr h)
  refine sv_aload_n C d_Mo_measure_80 rfl rfl ?_
  refine sv_get (ci := 5) (kf := 15) C i_Mo rfl (by decide) f_Mo_45 (fun _ h9 => h9) d_Mo_measure_81 (by first | assumption | rfl) rfl ?_
  refine sv_iload C d_Mo_measure_84 rfl ?_
  refine sv_iald (t0 := 0) C rfl d_Mo_measure_86 (by first | assumption | rfl) hsin ?_
  refine sv_sipush (v := 1000) C d_Mo_measure_87 rfl ?_
  refine sv_eqs (st' := [.int (nI 1000), .int (G s)]) (by rw [hscl]; rfl) ?_
  refine sv_icmp_ne (tgt := 156) C d_Mo_measure_90 (by decide) (fun h6 => ?_) (fun h6 => ?_)
  · refine sv_drop [true, true, true, true, true, false, false] ?_
    refine nx G ⟨hG, ?_⟩
    rcases hGs with hd | ⟨h7, -⟩
    · exact Or.inl hd
    · exact absurd h7 h6
  have hGs : (∀ k, k < t → ¬ um (rs n r rl) (tF (rs n r rl) (2 ^ n) kd xs ys (xs f)) (tF (rs n r rl) (2 ^ n) kd xs ys (ys f)) k s) ∧ ∀ j', j' < j → s &&& (rl j').1 = (rl j').2.1 → ¬ umin (rs n r rl) (tF (rs n r rl) (2 ^ n) kd xs ys (xs f)) (tF (rs n r rl) (2 ^ n) kd xs ys (ys f)) (t - 1) ((s &&& (rl j').2.2.1) ^^^ (rl j').2.2.2) := by
    rcases hGs with ⟨d, h7, h8, -⟩ | ⟨-, h7⟩
    · have := nI_inj (by omega) (by omega) (h8.symm.trans h6)
      omega
    · exact h7
  obtain ⟨hno, hbe⟩ := hGs
  refine sv_aload_n C d_Mo_measure_93 rfl rfl ?_
  refine sv_aload_n C d_Mo_measure_94 rfl rfl ?_
  refine sv_get (ci := 5) (kf := 10) C i_Mo rfl (by decide) f_Mo_29 (fun _ h9 => h9) d_Mo_measure_95 (by first | assumption | rfl) rfl ?_
  refine sv_iload_n C d_Mo_measure_98 rfl rfl ?_
  refine sv_iald (t0 := 0) C rfl d_Mo_measure_99 (by first | assumption | rfl) hin ?_
  refine sv_eqs (st' := [.int (nI (xs f)), .ref 23]) (by rw [hfc, ← j5]; rfl) ?_
  refine sv_iload C d_Mo_measure_100 rfl ?_
  refine sv_callV (ci := 5) C (c_Mo_has (cI := cI) (cJ := cJ) (cZ := cZ) (L := L) (I := I) (V := V) (W := W1) (J := (hu J 7 G)) (B := B1) (tl := tl) (f := xs f) (z := s) (by omega) (by omega)) s_Mo_79 ki_Mo_has ks_Mo_has ⟨rfl, rfl, Nat.le_of_ble_eq_true rfl, Nat.le_of_ble_eq_true rfl⟩ rfl d_Mo_measure_102 (by first | assumption | rfl) (Nat.le_of_ble_eq_true rfl) ⟨(Nat.le_of_ble_eq_true rfl), (Nat.le_of_ble_eq_true rfl)⟩ (fun E ws9 h9 => absurd h9 id) (fun v9 ws9 hp => ?_)
  obtain ⟨rfl, rfl⟩ := hp
  cases hb : B1 0 (256 * xs f + s) with
  | false =>
    refine sv_if_eq (tgt := 156) C d_Mo_measure_105 (by decide) (fun h => ?_) (fun h => ?_)
    · refine sv_drop [true, true, true, true, true, false, false] ?_
      refine nx G ⟨hG, fr_up (Or.inr ⟨h6, hno⟩) (fun _ q => ?_)⟩
      have := (hTx s (by omega)).mpr (um_st ht1 hno q).1
      rw [hb] at this
      exact absurd this Bool.false_ne_true
    · exact absurd rfl h
  | true =>
    have hXs := (hTx s (by omega)).mp hb
    refine sv_if_eq (tgt := 156) C d_Mo_measure_105 (by decide) (fun h => ?_) (fun h => ?_)
    · exact absurd h (by decide)
    refine sv_aload_n C d_Mo_measure_108 rfl rfl ?_
    refine sv_iload C d_Mo_measure_109 rfl ?_
    refine sv_iload C d_Mo_measure_111 rfl ?_
    refine sv_callV (ci := 5) C (c_Mo_goes (cI := cI) (cJ := cJ) (cZ := cZ) (L := L) (I := I) (V := V) (W := W1) (J := (hu J 7 G)) (B := B1) (tl := tl) (n := n) (r := r) (s := s) (i := j) (rl := rl) hmr (by omega) (by omega)) s_Mo_75 ki_Mo_goes ks_Mo_goes ⟨rfl, rfl, Nat.le_of_ble_eq_true rfl, Nat.le_of_ble_eq_true rfl⟩ rfl d_Mo_measure_113 (by first | assumption | rfl) (Nat.le_of_ble_eq_true rfl) ⟨(Nat.le_of_ble_eq_true rfl), (Nat.le_of_ble_eq_true rfl)⟩ (fun E ws9 h9 => absurd h9 id) (fun v9 ws9 hp => ?_)
    obtain ⟨hg, rfl⟩ := hp
    have hbi := hrl j (by omega)
    refine sv_join (σ := Int32) (pc1 := 146) (st1 := [.int (nI s), .ref 34]) (k1 := 0) (n1 := 0) (J := fun _ => s &&& (rl j).1 = (rl j).2.1 → ¬ umin (rs n r rl) (tF (rs n r rl) (2 ^ n) kd xs ys (xs f)) (tF (rs n r rl) (2 ^ n) kd xs ys (ys f)) (t - 1) ((s &&& (rl j).2.2.1) ^^^ (rl j).2.2.2)) (lv1 := fun x => [some (.ref 23), some (.int (nI f)), some (.int (nI (2 ^ n))), some (.int (nI t)), some (.int (nI s)), some (.int (nI j)), some (.int x)]) (ws1 := fun _ => hM cI cJ cZ L I V W1 (hu J 7 G) B1 tl) (fun x hx => ?_) (fun n2 => ?_)
    · refine sv_sipush (v := 1000) C d_Mo_measure_146 rfl ?_
      refine sv_iast (t0 := 0) C rfl d_Mo_measure_149 (by first | assumption | rfl) hsin ?_
      refine sv_eqw (st34 (k := s) (by omega)) ?_
      refine sv_iincN C d_Mo_measure_150 rfl (by decide) rfl ?_
      refine sv_goto (tgt := 71) C d_Mo_measure_153 (by decide) ?_
      refine sv_drop [true, true, true, true, true, true, false] ?_
      refine ih (j + 1, hu G s 1000) ⟨by dsimp only; omega, fun z hz => ?_, Or.inr ⟨by dsimp only; rw [hu_s]; rfl, hno, fun j' hj' hq => ?_⟩⟩ (by dsimp only; omega)
      · dsimp only
        rw [hu_n hz]
        exact hG z hz
      · dsimp only at hj'
        by_cases e : j' = j
        · rw [e] at hq ⊢
          exact hx hq
        · exact hbe j' (by omega) hq
    rcases hg with ⟨g1, rfl⟩ | ⟨g1, rfl⟩
    · have hto := ma_to (k := (rl j).2.2.1) (show s < 2 ^ n by omega) hbi.2.2.2
      generalize hto2 : (s &&& (rl j).2.2.1) ^^^ (rl j).2.2.2 = to at hto n2 ⊢
      have htin : vp_in (nI to) 256 := vp_in_nI (by omega) (by omega)
      refine sv_istore C d_Mo_measure_116 (by decide) rfl ?_
      refine sv_aload_n C d_Mo_measure_118 rfl rfl ?_
      refine sv_get (ci := 5) (kf := 15) C i_Mo rfl (by decide) f_Mo_45 (fun _ h9 => h9) d_Mo_measure_119 (by first | assumption | rfl) rfl ?_
      refine sv_iload C d_Mo_measure_122 rfl ?_
      refine sv_iload C d_Mo_measure_124 rfl ?_
      refine sv_if_lt (tgt := 146) C d_Mo_measure_126 (by decide) (fun h7 => ?_) (fun h7 => ?_)
      · exact absurd h7 (nI_nneg (by omega))
      refine sv_aload_n C d_Mo_measure_129 rfl rfl ?_
      refine sv_get (ci := 5) (kf := 15) C i_Mo rfl (by decide) f_Mo_45 (fun _ h9 => h9) d_Mo_measure_130 (by first | assumption | rfl) rfl ?_
      refine sv_iload C d_Mo_measure_133 rfl ?_
      refine sv_iald (t0 := 0) C rfl d_Mo_measure_135 (by first | assumption | rfl) htin ?_
      refine sv_iload_n C d_Mo_measure_136 rfl rfl ?_
      refine sv_eqs (st' := [.int (nI t), .int (G to), .int (nI s), .ref 34]) (by rw [nI_clamp (n := to) (by omega)]; rfl) ?_
      refine sv_icmp_ne (tgt := 146) C d_Mo_measure_137 (by decide) (fun h8 => ?_) (fun h8 => ?_)
      · exact n2 (nI to) (fun _ q => h8 ((hfr to hto).mpr q))
      · refine sv_iload_n C d_Mo_measure_140 rfl rfl ?_
        refine sv_iconst (v := 1) C d_Mo_measure_141 rfl ?_
        refine sv_iadd C d_Mo_measure_142 ?_
        refine sv_goto (tgt := 149) C d_Mo_measure_143 (by decide) ?_
        refine sv_iast (t0 := 0) C rfl d_Mo_measure_149 (by first | assumption | rfl) hsin ?_
        refine sv_eqw (st34 (k := s) (by omega)) ?_
        refine sv_iincN C d_Mo_measure_150 rfl (by decide) rfl ?_
        refine sv_goto (tgt := 71) C d_Mo_measure_153 (by decide) ?_
        refine sv_drop [true, true, true, true, true, true, false] ?_
        refine sv_eqw (ws' := hM cI cJ cZ L I V W1 (hu J 7 (hu G s (nI (t + 1)))) B1 tl) (by rw [← nI_1]) ?_
        refine ih (j + 1, hu G s (nI (t + 1))) ⟨by dsimp only; omega, fun z hz => ?_, Or.inl ⟨t, by omega, by dsimp only; rw [hu_s], umin_up ht1 hno hXs ⟨by omega, j, by omega, g1, hto2.symm⟩ ((hfr to hto).mp h8)⟩⟩ (by dsimp only; omega)
        dsimp only
        rw [hu_n hz]
        exact hG z hz
    · refine sv_istore C d_Mo_measure_116 (by decide) rfl ?_
      refine sv_aload_n C d_Mo_measure_118 rfl rfl ?_
      refine sv_get (ci := 5) (kf := 15) C i_Mo rfl (by decide) f_Mo_45 (fun _ h9 => h9) d_Mo_measure_119 (by first | assumption | rfl) rfl ?_
      refine sv_iload C d_Mo_measure_122 rfl ?_
      refine sv_iload C d_Mo_measure_124 rfl ?_
      refine sv_if_lt (tgt := 146) C d_Mo_measure_126 (by decide) (fun h7 => ?_) (fun h7 => ?_)
      · exact n2 (-1) (fun q => absurd q g1)
      · exact absurd neg1 h7
