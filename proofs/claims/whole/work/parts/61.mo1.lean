/-! The reference: making, begin, rule, formula -/
def k2 (k : Nat) : Prop := k = 0 ∨ k = 2 ∨ k = 3 ∨ k = 5 ∨ k = 7
/-- the reference's cells, the rules rl and the formulas kd, xs, ys -/
def mo_ok (W : Nat → Int32) (J : Nat → Nat → Int32) (B : Nat → Nat → Bool) (n r mk : Nat) (rl : Nat → Nat × Nat × Nat × Nat) (kd xs ys : Nat → Nat) : Prop :=
  mr_ok W J n r rl ∧ 1 ≤ n ∧ (W 3 = nI mk ∧ mk ≤ 60) ∧
  (∀ i, i < mk → J 4 i = nI (kd i) ∧ J 5 i = nI (xs i) ∧ (k2 (kd i) → J 6 i = nI (ys i)) ∧ kd i ≤ 7 ∧ (kd i = 0 → xs i < 256 ∧ ys i < 256) ∧ (kd i ≠ 0 → xs i < i ∧ ys i < i) ∧ (kd i = 6 → ys i = xs i)) ∧
  ∃ kn, kn ≤ mk ∧ W 4 = nI kn ∧ ∀ i z, i < kn → z < 2 ^ n → (B 0 (256 * i + z) = true ↔ tF (rs n r rl) (2 ^ n) kd xs ys i z)
theorem mo_W0 {W : Nat → Int32} {J : Nat → Nat → Int32} {B : Nat → Nat → Bool} {n r mk : Nat} {rl : Nat → Nat × Nat × Nat × Nat} {kd xs ys : Nat → Nat} {v : Int32} (h : mo_ok W J B n r mk rl kd xs ys) : mo_ok (hu W 0 v) J B n r mk rl kd xs ys := h
theorem tF_ext {S : Nat → Nat → Prop} {N m : Nat} {kd xs ys kd' xs' ys' : Nat → Nat} (hw : ∀ i, i < m → kd i ≠ 0 → xs i < i ∧ ys i < i) (h : ∀ i, i < m → kd' i = kd i ∧ xs' i = xs i ∧ ys' i = ys i) {f : Nat} (hf : f < m) : tF S N kd' xs' ys' f = tF S N kd xs ys f := by
  have hw' : ∀ i, i < m → kd' i ≠ 0 → xs' i < i ∧ ys' i < i := fun i hi hk => by
    obtain ⟨e1, e2, e3⟩ := h i hi
    rw [e2, e3]
    exact hw i hi (by rw [← e1]; exact hk)
  refine tF_un (T := tF S N kd' xs' ys') (G := fun _ => True) hw (fun _ _ _ _ => ⟨trivial, trivial⟩) (fun i hi _ z => ?_) f hf trivial
  rw [tF_eq hw' hi]
  obtain ⟨e1, e2, e3⟩ := h i hi
  rw [e1, e2, e3]
set_option maxRecDepth 100000 in
set_option maxHeartbeats 8000000 in
theorem c_Mo_init {l : Launch} {D : va_G} {cI cJ cZ : ClassId} {L : Nat → Nat → Int64} {I : Nat → Nat → Int32} {V : Nat → Int32} {rl : Nat → Nat × Nat × Nat × Nat} {kd xs ys : Nat → Nat} :
    sv_M l y_Mo_init [Cond.code y_Mo_init b_Mo_init 1 none] ({ frames := 1, cells := 11, slots := 16468, locals := 60 } : Room) D sv_cl (sv_ty cI cJ cZ) [.ref 23] (hC cI cJ cZ L I V [.inr (5, nv_Mo)]) 24 35 (fun q ws' => q = none ∧ ∃ (W : Nat → Int32) (J : Nat → Nat → Int32) (B : Nat → Nat → Bool), ws' = hM cI cJ cZ L I V W J B [] ∧ mo_ok W J B 1 0 0 rl kd xs ys) sv_no 11 16468 := by
  refine sv_of (cc := b_Mo_init) (by decide +kernel) (Nat.le_of_ble_eq_true rfl) ?_
  intro pX eX sX mX aX bX tX cX AX adX C htab hnm
  refine sv_aload_n C d_Mo_init_0 rfl rfl ?_
  refine sv_objInit C m_Mo_1 o_i o_c d_Mo_init_1 (Nat.le_of_ble_eq_true rfl) (Nat.le_of_ble_eq_true rfl) ?_
  refine sv_aload_n C d_Mo_init_4 rfl rfl ?_
  refine sv_iconst (v := 1) C d_Mo_init_5 rfl ?_
  refine sv_put (ci := 5) (kf := 1) (ty := .int) C i_Mo t_Mo t_Mo_ok n_Mo rfl (by decide) f_Mo_7 (fun _ h9 => h9) rfl (by decide +kernel) d_Mo_init_6 (by first | assumption | rfl) rfl rfl (Nat.le_of_ble_eq_true rfl) ?_
  refine sv_aload_n C d_Mo_init_9 rfl rfl ?_
  refine sv_bipush (v := 40) C d_Mo_init_10 rfl ?_
  refine sv_eqw (ws' := hC cI cJ cZ L I V [.inr (5, [.int 0, .int 1, .int 0, .null, .null, .null, .null, .int 0, .int 0, .null, .null, .null, .null, .null, .null, .null])]) rfl ?_
  refine sv_newa (atype := .int) (ty := .int) (t0 := 0) (N := 40) (a0 := (40, .inl (fun _ => 0))) (z := 24) C rfl a_int rfl (fun _ _ => rfl) (fun _ => rfl) (by decide +kernel) (by decide +kernel) (by decide) d_Mo_init_12 rfl rfl rfl rfl ⟨(Nat.le_of_ble_eq_true rfl), (Nat.le_of_ble_eq_true rfl)⟩ (fun q0 => ?_)
  refine sv_putF (ci := 5) (kf := 3) (ty := (.array .int)) C i_Mo t_Mo t_Mo_ok n_Mo rfl (by decide) f_Mo_13 (fun _ h9 => h9) rfl hnm rfl (by decide +kernel) d_Mo_init_14 (by first | assumption | rfl) rfl rfl (Nat.le_of_ble_eq_true rfl) ?_
  refine sv_aload_n C d_Mo_init_17 rfl rfl ?_
  refine sv_bipush (v := 40) C d_Mo_init_18 rfl ?_
  refine sv_eqw (ws' := hC cI cJ cZ L I V [.inr (5, [.int 0, .int 1, .int 0, .ref 24, .null, .null, .null, .int 0, .int 0, .null, .null, .null, .null, .null, .null, .null]), sv_I cI 40 (fun _ => 0)]) rfl ?_
  refine sv_newa (atype := .int) (ty := .int) (t0 := 0) (N := 40) (a0 := (40, .inl (fun _ => 0))) (z := 25) C rfl a_int rfl (fun _ _ => rfl) (fun _ => rfl) (by decide +kernel) (by decide +kernel) (by decide) d_Mo_init_20 rfl rfl rfl rfl ⟨(Nat.le_of_ble_eq_true rfl), (Nat.le_of_ble_eq_true rfl)⟩ (fun q1 => ?_)
  refine sv_putF (ci := 5) (kf := 4) (ty := (.array .int)) C i_Mo t_Mo t_Mo_ok n_Mo rfl (by decide) f_Mo_17 (fun _ h9 => h9) rfl hnm rfl (by decide +kernel) d_Mo_init_22 (by first | assumption | rfl) rfl rfl (Nat.le_of_ble_eq_true rfl) ?_
  refine sv_aload_n C d_Mo_init_25 rfl rfl ?_
  refine sv_bipush (v := 40) C d_Mo_init_26 rfl ?_
  refine sv_eqw (ws' := hC cI cJ cZ L I V [.inr (5, [.int 0, .int 1, .int 0, .ref 24, .ref 25, .null, .null, .int 0, .int 0, .null, .null, .null, .null, .null, .null, .null]), sv_I cI 40 (fun _ => 0), sv_I cI 40 (fun _ => 0)]) rfl ?_
  refine sv_newa (atype := .int) (ty := .int) (t0 := 0) (N := 40) (a0 := (40, .inl (fun _ => 0))) (z := 26) C rfl a_int rfl (fun _ _ => rfl) (fun _ => rfl) (by decide +kernel) (by decide +kernel) (by decide) d_Mo_init_28 rfl rfl rfl rfl ⟨(Nat.le_of_ble_eq_true rfl), (Nat.le_of_ble_eq_true rfl)⟩ (fun q2 => ?_)
  refine sv_putF (ci := 5) (kf := 5) (ty := (.array .int)) C i_Mo t_Mo t_Mo_ok n_Mo rfl (by decide) f_Mo_20 (fun _ h9 => h9) rfl hnm rfl (by decide +kernel) d_Mo_init_30 (by first | assumption | rfl) rfl rfl (Nat.le_of_ble_eq_true rfl) ?_
  refine sv_aload_n C d_Mo_init_33 rfl rfl ?_
  refine sv_bipush (v := 40) C d_Mo_init_34 rfl ?_
  refine sv_eqw (ws' := hC cI cJ cZ L I V [.inr (5, [.int 0, .int 1, .int 0, .ref 24, .ref 25, .ref 26, .null, .int 0, .int 0, .null, .null, .null, .null, .null, .null, .null]), sv_I cI 40 (fun _ => 0), sv_I cI 40 (fun _ => 0), sv_I cI 40 (fun _ => 0)]) rfl ?_
  refine sv_newa (atype := .int) (ty := .int) (t0 := 0) (N := 40) (a0 := (40, .inl (fun _ => 0))) (z := 27) C rfl a_int rfl (fun _ _ => rfl) (fun _ => rfl) (by decide +kernel) (by decide +kernel) (by decide) d_Mo_init_36 rfl rfl rfl rfl ⟨(Nat.le_of_ble_eq_true rfl), (Nat.le_of_ble_eq_true rfl)⟩ (fun q3 => ?_)
  refine sv_putF (ci := 5) (kf := 6) (ty := (.array .int)) C i_Mo t_Mo t_Mo_ok n_Mo rfl (by decide) f_Mo_23 (fun _ h9 => h9) rfl hnm rfl (by decide +kernel) d_Mo_init_38 (by first | assumption | rfl) rfl rfl (Nat.le_of_ble_eq_true rfl) ?_
  refine sv_aload_n C d_Mo_init_41 rfl rfl ?_
  refine sv_bipush (v := 60) C d_Mo_init_42 rfl ?_
  refine sv_eqw (ws' := hC cI cJ cZ L I V [.inr (5, [.int 0, .int 1, .int 0, .ref 24, .ref 25, .ref 26, .ref 27, .int 0, .int 0, .null, .null, .null, .null, .null, .null, .null]), sv_I cI 40 (fun _ => 0), sv_I cI 40 (fun _ => 0), sv_I cI 40 (fun _ => 0), sv_I cI 40 (fun _ => 0)]) rfl ?_
  refine sv_newa (atype := .int) (ty := .int) (t0 := 0) (N := 60) (a0 := (60, .inl (fun _ => 0))) (z := 28) C rfl a_int rfl (fun _ _ => rfl) (fun _ => rfl) (by decide +kernel) (by decide +kernel) (by decide) d_Mo_init_44 rfl rfl rfl rfl ⟨(Nat.le_of_ble_eq_true rfl), (Nat.le_of_ble_eq_true rfl)⟩ (fun q4 => ?_)
  refine sv_putF (ci := 5) (kf := 9) (ty := (.array .int)) C i_Mo t_Mo t_Mo_ok n_Mo rfl (by decide) f_Mo_26 (fun _ h9 => h9) rfl hnm rfl (by decide +kernel) d_Mo_init_46 (by first | assumption | rfl) rfl rfl (Nat.le_of_ble_eq_true rfl) ?_
  refine sv_aload_n C d_Mo_init_49 rfl rfl ?_
  refine sv_bipush (v := 60) C d_Mo_init_50 rfl ?_
  refine sv_eqw (ws' := hC cI cJ cZ L I V [.inr (5, [.int 0, .int 1, .int 0, .ref 24, .ref 25, .ref 26, .ref 27, .int 0, .int 0, .ref 28, .null, .null, .null, .null, .null, .null]), sv_I cI 40 (fun _ => 0), sv_I cI 40 (fun _ => 0), sv_I cI 40 (fun _ => 0), sv_I cI 40 (fun _ => 0), sv_I cI 60 (fun _ => 0)]) rfl ?_
  refine sv_newa (atype := .int) (ty := .int) (t0 := 0) (N := 60) (a0 := (60, .inl (fun _ => 0))) (z := 29) C rfl a_int rfl (fun _ _ => rfl) (fun _ => rfl) (by decide +kernel) (by decide +kernel) (by decide) d_Mo_init_52 rfl rfl rfl rfl ⟨(Nat.le_of_ble_eq_true rfl), (Nat.le_of_ble_eq_true rfl)⟩ (fun q5 => ?_)
  refine sv_putF (ci := 5) (kf := 10) (ty := (.array .int)) C i_Mo t_Mo t_Mo_ok n_Mo rfl (by decide) f_Mo_29 (fun _ h9 => h9) rfl hnm rfl (by decide +kernel) d_Mo_init_54 (by first | assumption | rfl) rfl rfl (Nat.le_of_ble_eq_true rfl) ?_
  refine sv_aload_n C d_Mo_init_57 rfl rfl ?_
  refine sv_bipush (v := 60) C d_Mo_init_58 rfl ?_
  refine sv_eqw (ws' := hC cI cJ cZ L I V [.inr (5, [.int 0, .int 1, .int 0, .ref 24, .ref 25, .ref 26, .ref 27, .int 0, .int 0, .ref 28, .ref 29, .null, .null, .null, .null, .null]), sv_I cI 40 (fun _ => 0), sv_I cI 40 (fun _ => 0), sv_I cI 40 (fun _ => 0), sv_I cI 40 (fun _ => 0), sv_I cI 60 (fun _ => 0), sv_I cI 60 (fun _ => 0)]) rfl ?_
  refine sv_newa (atype := .int) (ty := .int) (t0 := 0) (N := 60) (a0 := (60, .inl (fun _ => 0))) (z := 30) C rfl a_int rfl (fun _ _ => rfl) (fun _ => rfl) (by decide +kernel) (by decide +kernel) (by decide) d_Mo_init_60 rfl rfl rfl rfl ⟨(Nat.le_of_ble_eq_true rfl), (Nat.le_of_ble_eq_true rfl)⟩ (fun q6 => ?_)
  refine sv_putF (ci := 5) (kf := 11) (ty := (.array .int)) C i_Mo t_Mo t_Mo_ok n_Mo rfl (by decide) f_Mo_32 (fun _ h9 => h9) rfl hnm rfl (by decide +kernel) d_Mo_init_62 (by first | assumption | rfl) rfl rfl (Nat.le_of_ble_eq_true rfl) ?_
  refine sv_aload_n C d_Mo_init_65 rfl rfl ?_
  refine sv_sipush (v := 15360) C d_Mo_init_66 rfl ?_
  refine sv_eqw (ws' := hC cI cJ cZ L I V [.inr (5, [.int 0, .int 1, .int 0, .ref 24, .ref 25, .ref 26, .ref 27, .int 0, .int 0, .ref 28, .ref 29, .ref 30, .null, .null, .null, .null]), sv_I cI 40 (fun _ => 0), sv_I cI 40 (fun _ => 0), sv_I cI 40 (fun _ => 0), sv_I cI 40 (fun _ => 0), sv_I cI 60 (fun _ => 0), sv_I cI 60 (fun _ => 0), sv_I cI 60 (fun _ => 0)]) rfl ?_
  refine sv_newa (atype := .boolean) (ty := .boolean) (t0 := 2) (N := 15360) (a0 := (15360, .inl (fun _ => 0))) (z := 31) C rfl a_boolean rfl (fun _ _ => rfl) (fun _ => rfl) (by decide +kernel) (by decide +kernel) (by decide) d_Mo_init_69 rfl rfl rfl rfl ⟨(Nat.le_of_ble_eq_true rfl), (Nat.le_of_ble_eq_true rfl)⟩ (fun q7 => ?_)
  refine sv_putF (ci := 5) (kf := 12) (ty := (.array .boolean)) C i_Mo t_Mo t_Mo_ok n_Mo rfl (by decide) f_Mo_35 (fun _ h9 => h9) rfl hnm rfl (by decide +kernel) d_Mo_init_71 (by first | assumption | rfl) rfl rfl (Nat.le_of_ble_eq_true rfl) ?_
  refine sv_aload_n C d_Mo_init_74 rfl rfl ?_
  refine sv_sipush (v := 256) C d_Mo_init_75 rfl ?_
  refine sv_eqw (ws' := hC cI cJ cZ L I V [.inr (5, [.int 0, .int 1, .int 0, .ref 24, .ref 25, .ref 26, .ref 27, .int 0, .int 0, .ref 28, .ref 29, .ref 30, .ref 31, .null, .null, .null]), sv_I cI 40 (fun _ => 0), sv_I cI 40 (fun _ => 0), sv_I cI 40 (fun _ => 0), sv_I cI 40 (fun _ => 0), sv_I cI 60 (fun _ => 0), sv_I cI 60 (fun _ => 0), sv_I cI 60 (fun _ => 0), sv_I cZ 15360 (fun _ => 0)]) rfl ?_
  refine sv_newa (atype := .boolean) (ty := .boolean) (t0 := 2) (N := 256) (a0 := (256, .inl (fun _ => 0))) (z := 32) C rfl a_boolean rfl (fun _ _ => rfl) (fun _ => rfl) (by decide +kernel) (by decide +kernel) (by decide) d_Mo_init_78 rfl rfl rfl rfl ⟨(Nat.le_of_ble_eq_true rfl), (Nat.le_of_ble_eq_true rfl)⟩ (fun q8 => ?_)
  refine sv_putF (ci := 5) (kf := 13) (ty := (.array .boolean)) C i_Mo t_Mo t_Mo_ok n_Mo rfl (by decide) f_Mo_39 (fun _ h9 => h9) rfl hnm rfl (by decide +kernel) d_Mo_init_80 (by first | assumption | rfl) rfl rfl (Nat.le_of_ble_eq_true rfl) ?_
  refine sv_aload_n C d_Mo_init_83 rfl rfl ?_
  refine sv_sipush (v := 256) C d_Mo_init_84 rfl ?_
  refine sv_eqw (ws' := hC cI cJ cZ L I V [.inr (5, [.int 0, .int 1, .int 0, .ref 24, .ref 25, .ref 26, .ref 27, .int 0, .int 0, .ref 28, .ref 29, .ref 30, .ref 31, .ref 32, .null, .null]), sv_I cI 40 (fun _ => 0), sv_I cI 40 (fun _ => 0), sv_I cI 40 (fun _ => 0), sv_I cI 40 (fun _ => 0), sv_I cI 60 (fun _ => 0), sv_I cI 60 (fun _ => 0), sv_I cI 60 (fun _ => 0), sv_I cZ 15360 (fun _ => 0), sv_I cZ 256 (fun _ => 0)]) rfl ?_
  refine sv_newa (atype := .boolean) (ty := .boolean) (t0 := 2) (N := 256) (a0 := (256, .inl (fun _ => 0))) (z := 33) C rfl a_boolean rfl (fun _ _ => rfl) (fun _ => rfl) (by decide +kernel) (by decide +kernel) (by decide) d_Mo_init_87 rfl rfl rfl rfl ⟨(Nat.le_of_ble_eq_true rfl), (Nat.le_of_ble_eq_true rfl)⟩ (fun q9 => ?_)
  refine sv_putF (ci := 5) (kf := 14) (ty := (.array .boolean)) C i_Mo t_Mo t_Mo_ok n_Mo rfl (by decide) f_Mo_42 (fun _ h9 => h9) rfl hnm rfl (by decide +kernel) d_Mo_init_89 (by first | assumption | rfl) rfl rfl (Nat.le_of_ble_eq_true rfl) ?_
  refine sv_aload_n C d_Mo_init_92 rfl rfl ?_
  refine sv_sipush (v := 256) C d_Mo_init_93 rfl ?_
  refine sv_eqw (ws' := hC cI cJ cZ L I V [.inr (5, [.int 0, .int 1, .int 0, .ref 24, .ref 25, .ref 26, .ref 27, .int 0, .int 0, .ref 28, .ref 29, .ref 30, .ref 31, .ref 32, .ref 33, .null]), sv_I cI 40 (fun _ => 0), sv_I cI 40 (fun _ => 0), sv_I cI 40 (fun _ => 0), sv_I cI 40 (fun _ => 0), sv_I cI 60 (fun _ => 0), sv_I cI 60 (fun _ => 0), sv_I cI 60 (fun _ => 0), sv_I cZ 15360 (fun _ => 0), sv_I cZ 256 (fun _ => 0), sv_I cZ 256 (fun _ => 0)]) rfl ?_
  refine sv_newa (atype := .int) (ty := .int) (t0 := 0) (N := 256) (a0 := (256, .inl (fun _ => 0))) (z := 34) C rfl a_int rfl (fun _ _ => rfl) (fun _ => rfl) (by decide +kernel) (by decide +kernel) (by decide) d_Mo_init_96 rfl rfl rfl rfl ⟨(Nat.le_of_ble_eq_true rfl), (Nat.le_of_ble_eq_true rfl)⟩ (fun q10 => ?_)
  refine sv_putF (ci := 5) (kf := 15) (ty := (.array .int)) C i_Mo t_Mo t_Mo_ok n_Mo rfl (by decide) f_Mo_45 (fun _ h9 => h9) rfl hnm rfl (by decide +kernel) d_Mo_init_98 (by first | assumption | rfl) rfl rfl (Nat.le_of_ble_eq_true rfl) ?_
  refine sv_eqw (ws' := hC cI cJ cZ L I V [.inr (5, [.int 0, .int 1, .int 0, .ref 24, .ref 25, .ref 26, .ref 27, .int 0, .int 0, .ref 28, .ref 29, .ref 30, .ref 31, .ref 32, .ref 33, .ref 34]), sv_I cI 40 (fun _ => 0), sv_I cI 40 (fun _ => 0), sv_I cI 40 (fun _ => 0), sv_I cI 40 (fun _ => 0), sv_I cI 60 (fun _ => 0), sv_I cI 60 (fun _ => 0), sv_I cI 60 (fun _ => 0), sv_I cZ 15360 (fun _ => 0), sv_I cZ 256 (fun _ => 0), sv_I cZ 256 (fun _ => 0), sv_I cI 256 (fun _ => 0)]) rfl ?_
  refine sv_vret C rfl d_Mo_init_101 (Nat.le_of_ble_eq_true rfl) (Nat.le_of_ble_eq_true rfl) (fun i hi => by rw [hu_n (by omega), hu_n (by omega), hu_n (by omega), hu_n (by omega), hu_n (by omega), hu_n (by omega), hu_n (by omega), hu_n (by omega), hu_n (by omega), hu_n (by omega), hu_n (by omega)]) (⟨rfl, hu (fun _ => 0) 1 1, fun _ _ => 0, fun _ _ => false, rfl, ?_⟩)
  exact ⟨⟨⟨by decide, rfl, rfl, Nat.zero_le _, fun i hi => absurd hi (Nat.not_lt_zero i)⟩, fun i hi => absurd hi (Nat.not_lt_zero i)⟩, Nat.le_refl _, ⟨rfl, Nat.zero_le _⟩, fun i hi => absurd hi (Nat.not_lt_zero i), 0, Nat.le_refl _, rfl, fun i z hi => absurd hi (Nat.not_lt_zero i)⟩
set_option maxRecDepth 100000 in
set_option maxHeartbeats 8000000 in
theorem c_Mo_begin {l : Launch} {D : va_G} {cI cJ cZ : ClassId} {L : Nat → Nat → Int64} {I : Nat → Nat → Int32} {V : Nat → Int32} {W : Nat → Int32} {J : Nat → Nat → Int32} {B : Nat → Nat → Bool} {tl : List va_E} {n r mk : Nat} {rl : Nat → Nat × Nat × Nat × Nat} {kd xs ys : Nat → Nat} (hok : mo_ok W J B n r mk rl kd xs ys) {x : Int32} :
    sv_M l y_Mo_begin [Cond.code y_Mo_begin b_Mo_begin 2 none] ({ frames := 1, cells := 0, slots := 0, locals := 23 } : Room) D sv_cl (sv_ty cI cJ cZ) [.ref 23, .int x] (hM cI cJ cZ L I V W J B tl) 0 0 (fun q ws' => q = none ∧ ∃ (W' : Nat → Int32) (J' : Nat → Nat → Int32) (B' : Nat → Nat → Bool), ws' = hM cI cJ cZ L I V W' J' B' tl ∧ ((bG x ∧ W' 0 = 0 ∧ mo_ok W' J' B' x.toNatClampNeg 0 0 rl kd xs ys) ∨ (¬ bG x ∧ W' 0 = 1 ∧ mo_ok W' J' B' n r mk rl kd xs ys))) sv_no 0 0 := by
  refine sv_of (cc := b_Mo_begin) (by decide +kernel) (Nat.le_of_ble_eq_true rfl) ?_
  intro pX eX sX mX aX bX tX cX AX adX C htab hnm
  refine sv_join (σ := Bool) (pc1 := 22) (st1 := [.int 1]) (k1 := 0) (n1 := 0) (J := fun _ => ¬ bG x) (lv1 := fun _ => [some (.ref 23), some (.int x)]) (ws1 := fun _ => hM cI cJ cZ L I V (hu W 0 1) J B tl) ?_ (fun hj => ?_)
  · rintro _ hg
    refine sv_if_ne (tgt := 45) C d_Mo_begin_22 (by decide) (fun h => ?_) (fun h => ?_)
    · exact sv_vret C rfl d_Mo_begin_45 (Nat.le_of_ble_eq_true rfl) (Nat.le_of_ble_eq_true rfl) (fun _ _ => rfl) (⟨rfl, _, _, _, rfl, Or.inr ⟨hg, rfl, mo_W0 hok⟩⟩)
    · exact absurd h (by decide)
  · refine sv_aload_n C d_Mo_begin_0 rfl rfl ?_
    refine sv_iload_n C d_Mo_begin_1 rfl rfl ?_
    refine sv_iconst (v := 1) C d_Mo_begin_2 rfl ?_
    refine sv_icmp_lt (tgt := 12) C d_Mo_begin_3 (by decide) (fun h1 => ?_) (fun h1 => ?_)
    · refine sv_iconst (v := 1) C d_Mo_begin_12 rfl ?_
      refine sv_goto (tgt := 17) C d_Mo_begin_13 (by decide) ?_
      refine sv_iconst (v := 0) C d_Mo_begin_17 rfl ?_
      refine sv_iconst (v := 0) C d_Mo_begin_18 rfl ?_
      refine sv_eqs (st' := [.int (b2i false), .int (b2i false), .int (b2i true), .ref 23]) rfl ?_
      refine sv_callV (ci := 5) C (c_Mo_refuse (cI := cI) (cJ := cJ) (cZ := cZ) (L := L) (I := I) (V := V) (W := W) (J := J) (B := B) (tl := tl) (a := true) (b := false) (c := false)) s_Mo_54 ki_Mo_refuse ks_Mo_refuse ⟨rfl, rfl, Nat.le_of_ble_eq_true rfl, Nat.le_of_ble_eq_true rfl⟩ rfl d_Mo_begin_19 (by first | assumption | rfl) (Nat.le_of_ble_eq_true rfl) ⟨(Nat.le_of_ble_eq_true rfl), (Nat.le_of_ble_eq_true rfl)⟩ (fun E ws9 h9 => absurd h9 id) (fun v9 ws9 hp => ?_)
      obtain ⟨rfl, rfl⟩ := hp
      exact hj true (fun q => absurd h1 (Int32.not_lt.mpr q.1))
    · refine sv_iload_n C d_Mo_begin_6 rfl rfl ?_
      refine sv_bipush (v := 8) C d_Mo_begin_7 rfl ?_
      refine sv_icmp_le (tgt := 16) C d_Mo_begin_9 (by decide) (fun h2 => ?_) (fun h2 => ?_)
      · have hg : bG x := ⟨Int32.not_lt.mp h1, h2⟩
        obtain ⟨k, hk1, hk8, rfl⟩ := bG_nat hg
        refine sv_iconst (v := 0) C d_Mo_begin_16 rfl ?_
        refine sv_iconst (v := 0) C d_Mo_begin_17 rfl ?_
        refine sv_iconst (v := 0) C d_Mo_begin_18 rfl ?_
        refine sv_eqs (st' := [.int (b2i false), .int (b2i false), .int (b2i false), .ref 23]) rfl ?_
        refine sv_callV (ci := 5) C (c_Mo_refuse (cI := cI) (cJ := cJ) (cZ := cZ) (L := L) (I := I) (V := V) (W := W) (J := J) (B := B) (tl := tl) (a := false) (b := false) (c := false)) s_Mo_54 ki_Mo_refuse ks_Mo_refuse ⟨rfl, rfl, Nat.le_of_ble_eq_true rfl, Nat.le_of_ble_eq_true rfl⟩ rfl d_Mo_begin_19 (by first | assumption | rfl) (Nat.le_of_ble_eq_true rfl) ⟨(Nat.le_of_ble_eq_true rfl), (Nat.le_of_ble_eq_true rfl)⟩ (fun E ws9 h9 => absurd h9 id) (fun v9 ws9 hp => ?_)
        obtain ⟨rfl, rfl⟩ := hp
        refine sv_if_ne (tgt := 45) C d_Mo_begin_22 (by decide) (fun h => ?_) (fun h => ?_)
        · exact absurd rfl h
        · refine sv_aload_n C d_Mo_begin_25 rfl rfl ?_
          refine sv_iload_n C d_Mo_begin_26 rfl rfl ?_
          refine sv_put (ci := 5) (kf := 1) (ty := .int) C i_Mo t_Mo t_Mo_ok n_Mo rfl (by decide) f_Mo_7 (fun _ h9 => h9) rfl (by decide +kernel) d_Mo_begin_27 (by first | assumption | rfl) rfl rfl (Nat.le_of_ble_eq_true rfl) ?_
          refine sv_aload_n C d_Mo_begin_30 rfl rfl ?_
          refine sv_iconst (v := 0) C d_Mo_begin_31 rfl ?_
          refine sv_put (ci := 5) (kf := 2) (ty := .int) C i_Mo t_Mo t_Mo_ok n_Mo rfl (by decide) f_Mo_58 (fun _ h9 => h9) rfl (by decide +kernel) d_Mo_begin_32 (by first | assumption | rfl) rfl rfl (Nat.le_of_ble_eq_true rfl) ?_
          refine sv_aload_n C d_Mo_begin_35 rfl rfl ?_
          refine sv_iconst (v := 0) C d_Mo_begin_36 rfl ?_
          refine sv_put (ci := 5) (kf := 7) (ty := .int) C i_Mo t_Mo t_Mo_ok n_Mo rfl (by decide) f_Mo_51 (fun _ h9 => h9) rfl (by decide +kernel) d_Mo_begin_37 (by first | assumption | rfl) rfl rfl (Nat.le_of_ble_eq_true rfl) ?_
          refine sv_aload_n C d_Mo_begin_40 rfl rfl ?_
          refine sv_iconst (v := 0) C d_Mo_begin_41 rfl ?_
          refine sv_put (ci := 5) (kf := 8) (ty := .int) C i_Mo t_Mo t_Mo_ok n_Mo rfl (by decide) f_Mo_61 (fun _ h9 => h9) rfl (by decide +kernel) d_Mo_begin_42 (by first | assumption | rfl) rfl rfl (Nat.le_of_ble_eq_true rfl) ?_
          refine sv_eqw (ws' := hM cI cJ cZ L I V (hu (hu (hu (hu (hu W 0 0) 1 (nI k)) 2 0) 3 0) 4 0) J B tl) rfl ?_
          refine sv_vret C rfl d_Mo_begin_45 (Nat.le_of_ble_eq_true rfl) (Nat.le_of_ble_eq_true rfl) (fun _ _ => rfl) (⟨rfl, _, _, _, rfl, Or.inl ⟨hg, rfl, ?_⟩⟩)
          rw [nI_clamp (n := k) (by omega)]
          exact ⟨⟨⟨hk8, rfl, rfl, Nat.zero_le _, fun i hi => absurd hi (Nat.not_lt_zero i)⟩, fun i hi => absurd hi (Nat.not_lt_zero i)⟩, hk1, ⟨rfl, Nat.zero_le _⟩, fun i hi => absurd hi (Nat.not_lt_zero i), 0, Nat.le_refl _, rfl, fun i z hi => absurd hi (Nat.not_lt_zero i)⟩
      · refine sv_iconst (v := 1) C d_Mo_begin_12 rfl ?_
        refine sv_goto (tgt := 17) C d_Mo_begin_13 (by decide) ?_
        refine sv_iconst (v := 0) C d_Mo_begin_17 rfl ?_
        refine sv_iconst (v := 0) C d_Mo_begin_18 rfl ?_
        refine sv_eqs (st' := [.int (b2i false), .int (b2i false), .int (b2i true), .ref 23]) rfl ?_
        refine sv_callV (ci := 5) C (c_Mo_refuse (cI := cI) (cJ := cJ) (cZ := cZ) (L := L) (I := I) (V := V) (W := W) (J := J) (B := B) (tl := tl) (a := true) (b := false) (c := false)) s_Mo_54 ki_Mo_refuse ks_Mo_refuse ⟨rfl, rfl, Nat.le_of_ble_eq_true rfl, Nat.le_of_ble_eq_true rfl⟩ rfl d_Mo_begin_19 (by first | assumption | rfl) (Nat.le_of_ble_eq_true rfl) ⟨(Nat.le_of_ble_eq_true rfl), (Nat.le_of_ble_eq_true rfl)⟩ (fun E ws9 h9 => absurd h9 id) (fun v9 ws9 hp => ?_)
        obtain ⟨rfl, rfl⟩ := hp
        exact hj true (fun q => h2 q.2)
set_option maxRecDepth 100000 in
set_option maxHeartbeats 8000000 in
theorem c_Mo_rule {l : Launch} {D : va_G} {cI cJ cZ : ClassId} {L : Nat → Nat → Int64} {I : Nat → Nat → Int32} {V : Nat → Int32} {W : Nat → Int32} {J : Nat → Nat → Int32} {B : Nat → Nat → Bool} {tl : List va_E} {n r mk : Nat} {rl : Nat → Nat × Nat × Nat × Nat} {kd xs ys : Nat → Nat} (hok : mo_ok W J B n r mk rl kd xs ys) {m v k f : Int32} :
    sv_M l y_Mo_rule [Cond.code y_Mo_rule b_Mo_rule 6 (some .int)] ({ frames := 2, cells := 0, slots := 0, locals := 43 } : Room) D sv_cl (sv_ty cI cJ cZ) [.ref 23, .int m, .int v, .int k, .int f] (hM cI cJ cZ L I V W J B tl) 0 0 (fun q ws' => ∃ x : Int32, q = some (.int x) ∧ ∃ (W' : Nat → Int32) (J' : Nat → Nat → Int32) (B' : Nat → Nat → Bool), ws' = hM cI cJ cZ L I V W' J' B' tl ∧ ((ruG n m v k f ∧ r < 40 ∧ W' 0 = 0 ∧ x = nI r ∧ mo_ok W' J' B' n (r + 1) mk (ruN rl r m v k f) kd xs ys) ∨ (¬ ruG n m v k f ∧ W' 0 = 1 ∧ mo_ok W' J' B' n r mk rl kd xs ys) ∨ (ruG n m v k f ∧ ¬ r < 40 ∧ W' 0 = 2 ∧ mo_ok W' J' B' n r mk rl kd xs ys))) sv_no 0 0 := by
  refine sv_of (cc := b_Mo_rule) (by decide +kernel) (Nat.le_of_ble_eq_true rfl) ?_
  intro pX eX sX mX aX bX tX cX AX adX C htab hnm
  have hok' := hok
  obtain ⟨⟨⟨hn, hW1, hW2, hr40, hrl⟩, hJ⟩, hn1, ⟨hW3, hmk⟩, hfm, kn, hkn, hW4, hB⟩ := hok'
  have hp8 := pow_le8 hn
  refine sv_join (σ := Bool) (pc1 := 33) (st1 := []) (k1 := 0) (n1 := 0) (J := fun g => g = true ↔ ruG n m v k f) (lv1 := fun g => [some (.ref 23), some (.int m), some (.int v), some (.int k), some (.int f), some (.int (b2i g))]) (ws1 := fun _ => hM cI cJ cZ L I V W J B tl) ?_ (fun hj => ?_)
  · rintro g hg
    cases g with
    | false =>
      have hng : ¬ ruG n m v k f := fun q => absurd (hg.mpr q) Bool.false_ne_true
      refine sv_aload_n C d_Mo_rule_33 rfl rfl ?_
      refine sv_iload C d_Mo_rule_34 rfl ?_
      refine sv_if_ne (tgt := 43) C d_Mo_rule_36 (by decide) (fun h => ?_) (fun h => ?_)
      · exact absurd rfl h
      · refine sv_iconst (v := 1) C d_Mo_rule_39 rfl ?_
        refine sv_goto (tgt := 44) C d_Mo_rule_40 (by decide) ?_
        refine sv_iload C d_Mo_rule_44 rfl ?_
        refine sv_if_eq (tgt := 62) C d_Mo_rule_46 (by decide) (fun h => ?_) (fun h => ?_)
        · refine sv_iconst (v := 0) C d_Mo_rule_62 rfl ?_
          refine sv_iconst (v := 0) C d_Mo_rule_63 rfl ?_
          refine sv_eqs (st' := [.int (b2i false), .int (b2i false), .int (b2i true), .ref 23]) rfl ?_
          refine sv_callV (ci := 5) C (c_Mo_refuse (cI := cI) (cJ := cJ) (cZ := cZ) (L := L) (I := I) (V := V) (W := W) (J := J) (B := B) (tl := tl) (a := true) (b := false) (c := false)) s_Mo_54 ki_Mo_refuse ks_Mo_refuse ⟨rfl, rfl, Nat.le_of_ble_eq_true rfl, Nat.le_of_ble_eq_true rfl⟩ rfl d_Mo_rule_64 (by first | assumption | rfl) (Nat.le_of_ble_eq_true rfl) ⟨(Nat.le_of_ble_eq_true rfl), (Nat.le_of_ble_eq_true rfl)⟩ (fun E ws9 h9 => absurd h9 id) (fun v9 ws9 hp => ?_)
          obtain ⟨rfl, rfl⟩ := hp
          refine sv_if_eq (tgt := 72) C d_Mo_rule_67 (by decide) (fun h => ?_) (fun h => ?_)
          · exact absurd h (by decide)
          · refine sv_iconst (v := 0) C d_Mo_rule_70 rfl ?_
            exact sv_iret C rfl rfl d_Mo_rule_71 (Nat.le_of_ble_eq_true rfl) (Nat.le_of_ble_eq_true rfl) (fun _ _ => rfl) (⟨_, rfl, _, _, _, rfl, Or.inr (Or.inl ⟨hng, rfl, mo_W0 hok⟩)⟩)
        · exact absurd rfl h
    | true =>
      have hyg : ruG n m v k f := hg.mp rfl
      refine sv_aload_n C d_Mo_rule_33 rfl rfl ?_
      refine sv_iload C d_Mo_rule_34 rfl ?_
      refine sv_if_ne (tgt := 43) C d_Mo_rule_36 (by decide) (fun h => ?_) (fun h => ?_)
      · refine sv_iconst (v := 0) C d_Mo_rule_43 rfl ?_
        refine sv_iload C d_Mo_rule_44 rfl ?_
        refine sv_if_eq (tgt := 62) C d_Mo_rule_46 (by decide) (fun h => ?_) (fun h => ?_)
        · exact absurd h (by decide)
        · refine sv_aload_n C d_Mo_rule_49 rfl rfl ?_
          refine sv_get (ci := 5) (kf := 2) C i_Mo rfl (by decide) f_Mo_58 (fun _ h9 => h9) d_Mo_rule_50 (by first | assumption | rfl) rfl ?_
          refine sv_bipush (v := 40) C d_Mo_rule_53 rfl ?_
          rw [hW2]
          refine sv_icmp_ne (tgt := 62) C d_Mo_rule_55 (by decide) (fun h1 => ?_) (fun h1 => ?_)
          · have hr : r < 40 := by
              have : r ≠ 40 := fun q => h1 (by rw [q]; rfl)
              omega
            obtain ⟨m', hm, rfl⟩ := iS_nat hn hyg.1.1
            obtain ⟨v', hv, rfl⟩ := iS_nat hn hyg.1.2.1
            obtain ⟨k', hk, rfl⟩ := iS_nat hn hyg.2.1
            obtain ⟨f', hf, rfl⟩ := iS_nat hn hyg.2.2
            refine sv_iconst (v := 0) C d_Mo_rule_62 rfl ?_
            refine sv_iconst (v := 0) C d_Mo_rule_63 rfl ?_
            refine sv_eqs (st' := [.int (b2i false), .int (b2i false), .int (b2i false), .ref 23]) rfl ?_
            refine sv_callV (ci := 5) C (c_Mo_refuse (cI := cI) (cJ := cJ) (cZ := cZ) (L := L) (I := I) (V := V) (W := W) (J := J) (B := B) (tl := tl) (a := false) (b := false) (c := false)) s_Mo_54 ki_Mo_refuse ks_Mo_refuse ⟨rfl, rfl, Nat.le_of_ble_eq_true rfl, Nat.le_of_ble_eq_true rfl⟩ rfl d_Mo_rule_64 (by first | assumption | rfl) (Nat.le_of_ble_eq_true rfl) ⟨(Nat.le_of_ble_eq_true rfl), (Nat.le_of_ble_eq_true rfl)⟩ (fun E ws9 h9 => absurd h9 id) (fun v9 ws9 hp => ?_)
            obtain ⟨rfl, rfl⟩ := hp
            refine sv_eqw (ws' := hM cI cJ cZ L I V (hu W 0 0) J B tl) rfl ?_
            refine sv_if_eq (tgt := 72) C d_Mo_rule_67 (by decide) (fun h => ?_) (fun h => ?_)
            · have hin : vp_in (W 2) 40 := by rw [hW2]; exact vp_in_nI hr (by omega)
              have hic : (W 2).toNatClampNeg = r := by rw [hW2]; exact nI_clamp (by omega)
              refine sv_aload_n C d_Mo_rule_72 rfl rfl ?_
              refine sv_get (ci := 5) (kf := 3) C i_Mo rfl (by decide) f_Mo_13 (fun _ h9 => h9) d_Mo_rule_73 (by first | assumption | rfl) rfl ?_
              refine sv_aload_n C d_Mo_rule_76 rfl rfl ?_
              refine sv_get (ci := 5) (kf := 2) C i_Mo rfl (by decide) f_Mo_58 (fun _ h9 => h9) d_Mo_rule_77 (by first | assumption | rfl) rfl ?_
              refine sv_iload_n C d_Mo_rule_80 rfl rfl ?_
              refine sv_iast (t0 := 0) C rfl d_Mo_rule_81 (by first | assumption | rfl) hin ?_
              refine sv_aload_n C d_Mo_rule_82 rfl rfl ?_
              refine sv_get (ci := 5) (kf := 4) C i_Mo rfl (by decide) f_Mo_17 (fun _ h9 => h9) d_Mo_rule_83 (by first | assumption | rfl) rfl ?_
              refine sv_aload_n C d_Mo_rule_86 rfl rfl ?_
              refine sv_get (ci := 5) (kf := 2) C i_Mo rfl (by decide) f_Mo_58 (fun _ h9 => h9) d_Mo_rule_87 (by first | assumption | rfl) rfl ?_
              refine sv_iload_n C d_Mo_rule_90 rfl rfl ?_
              refine sv_iast (t0 := 0) C rfl d_Mo_rule_91 (by first | assumption | rfl) hin ?_
              refine sv_aload_n C d_Mo_rule_92 rfl rfl ?_
              refine sv_get (ci := 5) (kf := 5) C i_Mo rfl (by decide) f_Mo_20 (fun _ h9 => h9) d_Mo_rule_93 (by first | assumption | rfl) rfl ?_
              refine sv_aload_n C d_Mo_rule_96 rfl rfl ?_
              refine sv_get (ci := 5) (kf := 2) C i_Mo rfl (by decide) f_Mo_58 (fun _ h9 => h9) d_Mo_rule_97 (by first | assumption | rfl) rfl ?_
              refine sv_iload_n C d_Mo_rule_100 rfl rfl ?_
              refine sv_iast (t0 := 0) C rfl d_Mo_rule_101 (by first | assumption | rfl) hin ?_
              refine sv_aload_n C d_Mo_rule_102 rfl rfl ?_
              refine sv_get (ci := 5) (kf := 6) C i_Mo rfl (by decide) f_Mo_23 (fun _ h9 => h9) d_Mo_rule_103 (by first | assumption | rfl) rfl ?_
              refine sv_aload_n C d_Mo_rule_106 rfl rfl ?_
              refine sv_get (ci := 5) (kf := 2) C i_Mo rfl (by decide) f_Mo_58 (fun _ h9 => h9) d_Mo_rule_107 (by first | assumption | rfl) rfl ?_
              refine sv_iload C d_Mo_rule_110 rfl ?_
              refine sv_iast (t0 := 0) C rfl d_Mo_rule_112 (by first | assumption | rfl) hin ?_
              refine sv_aload_n C d_Mo_rule_113 rfl rfl ?_
              refine sv_dup C d_Mo_rule_114 rfl ?_
              refine sv_get (ci := 5) (kf := 2) C i_Mo rfl (by decide) f_Mo_58 (fun _ h9 => h9) d_Mo_rule_115 (by first | assumption | rfl) rfl ?_
              refine sv_iconst (v := 1) C d_Mo_rule_118 rfl ?_
              refine sv_iadd C d_Mo_rule_119 ?_
              refine sv_put (ci := 5) (kf := 2) (ty := .int) C i_Mo t_Mo t_Mo_ok n_Mo rfl (by decide) f_Mo_58 (fun _ h9 => h9) rfl (by decide +kernel) d_Mo_rule_120 (by first | assumption | rfl) rfl rfl (Nat.le_of_ble_eq_true rfl) ?_
              refine sv_aload_n C d_Mo_rule_123 rfl rfl ?_
              refine sv_iconst (v := 0) C d_Mo_rule_124 rfl ?_
              refine sv_put (ci := 5) (kf := 8) (ty := .int) C i_Mo t_Mo t_Mo_ok n_Mo rfl (by decide) f_Mo_61 (fun _ h9 => h9) rfl (by decide +kernel) d_Mo_rule_125 (by first | assumption | rfl) rfl rfl (Nat.le_of_ble_eq_true rfl) ?_
              refine sv_aload_n C d_Mo_rule_128 rfl rfl ?_
              refine sv_get (ci := 5) (kf := 2) C i_Mo rfl (by decide) f_Mo_58 (fun _ h9 => h9) d_Mo_rule_129 (by first | assumption | rfl) rfl ?_
              refine sv_iconst (v := 1) C d_Mo_rule_132 rfl ?_
              refine sv_isub C d_Mo_rule_133 ?_
              refine sv_eqs (st' := [.int (nI r)]) (by show [Value.int (W 2 + 1 - 1)] = _; rw [hW2, nI_1, nI_pred]) ?_
              refine sv_eqw (ws' := hM cI cJ cZ L I V (hu (hu (hu W 0 0) 2 (nI (r + 1))) 4 0) (hu (hu (hu (hu J 0 (upd (J 0) r (nI m'))) 1 (upd (J 1) r (nI v'))) 2 (upd (J 2) r (nI k'))) 3 (upd (J 3) r (nI f'))) B tl) (by rw [← nI_1, ← hW2, ← hic]; rfl) ?_
              refine sv_iret C rfl rfl d_Mo_rule_134 (Nat.le_of_ble_eq_true rfl) (Nat.le_of_ble_eq_true rfl) (fun _ _ => rfl) (⟨_, rfl, _, _, _, rfl, Or.inl ⟨hyg, hr, rfl, rfl, ?_⟩⟩)
              rw [show ruN rl r (nI m') (nI v') (nI k') (nI f') = hu rl r (m', v', k', f') by unfold ruN; rw [nI_clamp (n := m') (by omega), nI_clamp (n := v') (by omega), nI_clamp (n := k') (by omega), nI_clamp (n := f') (by omega)]]
              refine ⟨⟨⟨hn, hW1, rfl, by omega, fun i hi => ?_⟩, fun i hi => ?_⟩, hn1, ⟨hW3, hmk⟩, hfm, 0, Nat.zero_le _, rfl, fun i z hi => absurd hi (Nat.not_lt_zero i)⟩
              · by_cases e : i = r
                · rw [e, hu_s]
                  exact ⟨hm, hv, hk, hf⟩
                · rw [hu_n e]
                  exact hrl i (by omega)
              · show upd (J 0) r (nI m') i = nI (hu rl r (m', v', k', f') i).1 ∧ upd (J 1) r (nI v') i = nI (hu rl r (m', v', k', f') i).2.1 ∧ upd (J 2) r (nI k') i = nI (hu rl r (m', v', k', f') i).2.2.1 ∧ upd (J 3) r (nI f') i = nI (hu rl r (m', v', k', f') i).2.2.2
                by_cases e : i = r
                · rw [e, hu_s, pk_us, pk_us, pk_us, pk_us]
                  exact ⟨rfl, rfl, rfl, rfl⟩
                · rw [hu_n e, pk_un e, pk_un e, pk_un e, pk_un e]
                  exact hJ i (by omega)
            · exact absurd rfl h
          · have hr : ¬ r < 40 := fun q => by
              have := nI_inj (a := r) (b := 40) (by omega) (by omega) h1
              omega
            refine sv_iconst (v := 1) C d_Mo_rule_58 rfl ?_
            refine sv_goto (tgt := 63) C d_Mo_rule_59 (by decide) ?_
            refine sv_iconst (v := 0) C d_Mo_rule_63 rfl ?_
            refine sv_eqs (st' := [.int (b2i false), .int (b2i true), .int (b2i false), .ref 23]) rfl ?_
            refine sv_callV (ci := 5) C (c_Mo_refuse (cI := cI) (cJ := cJ) (cZ := cZ) (L := L) (I := I) (V := V) (W := W) (J := J) (B := B) (tl := tl) (a := false) (b := true) (c := false)) s_Mo_54 ki_Mo_refuse ks_Mo_refuse ⟨rfl, rfl, Nat.le_of_ble_eq_true rfl, Nat.le_of_ble_eq_true rfl⟩ rfl d_Mo_rule_64 (by first | assumption | rfl) (Nat.le_of_ble_eq_true rfl) ⟨(Nat.le_of_ble_eq_true rfl), (Nat.le_of_ble_eq_true rfl)⟩ (fun E ws9 h9 => absurd h9 id) (fun v9 ws9 hp => ?_)
            obtain ⟨rfl, rfl⟩ := hp
            refine sv_if_eq (tgt := 72) C d_Mo_rule_67 (by decide) (fun h => ?_) (fun h => ?_)
            · exact absurd h (by decide)
            · refine sv_iconst (v := 0) C d_Mo_rule_70 rfl ?_
              exact sv_iret C rfl rfl d_Mo_rule_71 (Nat.le_of_ble_eq_true rfl) (Nat.le_of_ble_eq_true rfl) (fun _ _ => rfl) (⟨_, rfl, _, _, _, rfl, Or.inr (Or.inr ⟨hyg, hr, rfl, mo_W0 hok⟩)⟩)
      · exact absurd h (by decide)
  · refine sv_aload_n C d_Mo_rule_0 rfl rfl ?_
    refine sv_iload_n C d_Mo_rule_1 rfl rfl ?_
    refine sv_iload_n C d_Mo_rule_2 rfl rfl ?_
    refine sv_callV (ci := 5) C (c_Mo_isTest (cI := cI) (cJ := cJ) (cZ := cZ) (L := L) (I := I) (V := V) (W := W) (J := J) (B := B) (tl := tl) (n := n) (m := m) (v := v) hn hW1) s_Mo_68 ki_Mo_isTest ks_Mo_isTest ⟨rfl, rfl, Nat.le_of_ble_eq_true rfl, Nat.le_of_ble_eq_true rfl⟩ rfl d_Mo_rule_3 (by first | assumption | rfl) (Nat.le_of_ble_eq_true rfl) ⟨(Nat.le_of_ble_eq_true rfl), (Nat.le_of_ble_eq_true rfl)⟩ (fun E ws9 h9 => absurd h9 id) (fun v9 ws9 hp => ?_)
    obtain ⟨t, rfl, ht, rfl⟩ := hp
    cases t with
    | false =>
      refine sv_if_eq (tgt := 30) C d_Mo_rule_6 (by decide) (fun h => ?_) (fun h => ?_)
      · refine sv_iconst (v := 0) C d_Mo_rule_30 rfl ?_
        refine sv_istore C d_Mo_rule_31 (by decide) rfl ?_
        exact hj false ⟨fun q => absurd q Bool.false_ne_true, fun q => absurd (ht.mpr q.1) Bool.false_ne_true⟩
      · exact absurd rfl h
    | true =>
      refine sv_if_eq (tgt := 30) C d_Mo_rule_6 (by decide) (fun h => ?_) (fun h => ?_)
      · exact absurd h (by decide)
      · refine sv_aload_n C d_Mo_rule_9 rfl rfl ?_
        refine sv_iload_n C d_Mo_rule_10 rfl rfl ?_
        refine sv_callV (ci := 5) C (c_Mo_isState (cI := cI) (cJ := cJ) (cZ := cZ) (L := L) (I := I) (V := V) (W := W) (J := J) (B := B) (tl := tl) (n := n) (x := k) hn hW1) s_Mo_64 ki_Mo_isState ks_Mo_isState ⟨rfl, rfl, Nat.le_of_ble_eq_true rfl, Nat.le_of_ble_eq_true rfl⟩ rfl d_Mo_rule_11 (by first | assumption | rfl) (Nat.le_of_ble_eq_true rfl) ⟨(Nat.le_of_ble_eq_true rfl), (Nat.le_of_ble_eq_true rfl)⟩ (fun E ws9 h9 => absurd h9 id) (fun v9 ws9 hp => ?_)
        obtain ⟨t, rfl, ht2, rfl⟩ := hp
        cases t with
        | false =>
          refine sv_if_eq (tgt := 30) C d_Mo_rule_14 (by decide) (fun h => ?_) (fun h => ?_)
          · refine sv_iconst (v := 0) C d_Mo_rule_30 rfl ?_
            refine sv_istore C d_Mo_rule_31 (by decide) rfl ?_
            exact hj false ⟨fun q => absurd q Bool.false_ne_true, fun q => absurd (ht2.mpr q.2.1) Bool.false_ne_true⟩
          · exact absurd rfl h
        | true =>
          refine sv_if_eq (tgt := 30) C d_Mo_rule_14 (by decide) (fun h => ?_) (fun h => ?_)
          · exact absurd h (by decide)
          · refine sv_aload_n C d_Mo_rule_17 rfl rfl ?_
            refine sv_iload C d_Mo_rule_18 rfl ?_
            refine sv_callV (ci := 5) C (c_Mo_isState (cI := cI) (cJ := cJ) (cZ := cZ) (L := L) (I := I) (V := V) (W := W) (J := J) (B := B) (tl := tl) (n := n) (x := f) hn hW1) s_Mo_64 ki_Mo_isState ks_Mo_isState ⟨rfl, rfl, Nat.le_of_ble_eq_true rfl, Nat.le_of_ble_eq_true rfl⟩ rfl d_Mo_rule_20 (by first | assumption | rfl) (Nat.le_of_ble_eq_true rfl) ⟨(Nat.le_of_ble_eq_true rfl), (Nat.le_of_ble_eq_true rfl)⟩ (fun E ws9 h9 => absurd h9 id) (fun v9 ws9 hp => ?_)
            obtain ⟨t, rfl, ht3, rfl⟩ := hp
            cases t with
            | false =>
              refine sv_if_eq (tgt := 30) C d_Mo_rule_23 (by decide) (fun h => ?_) (fun h => ?_)
              · refine sv_iconst (v := 0) C d_Mo_rule_30 rfl ?_
                refine sv_istore C d_Mo_rule_31 (by decide) rfl ?_
                exact hj false ⟨fun q => absurd q Bool.false_ne_true, fun q => absurd (ht3.mpr q.2.2) Bool.false_ne_true⟩
              · exact absurd rfl h
            | true =>
              refine sv_if_eq (tgt := 30) C d_Mo_rule_23 (by decide) (fun h => ?_) (fun h => ?_)
              · exact absurd h (by decide)
              · refine sv_iconst (v := 1) C d_Mo_rule_26 rfl ?_
                refine sv_goto (tgt := 31) C d_Mo_rule_27 (by decide) ?_
                refine sv_istore C d_Mo_rule_31 (by decide) rfl ?_
                exact hj true ⟨fun _ => ⟨ht.mp rfl, ht2.mp rfl, ht3.mp rfl⟩, fun _ => rfl⟩
