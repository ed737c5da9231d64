set_option maxRecDepth 100000 in
set_option maxHeartbeats 8000000 in
theorem c_Se_init {l : Launch} {D : va_G} {cI cJ cZ : ClassId} {L : Nat → Nat → Int64} {V : Nat → Int32} :
    sv_M l y_Se_init [Cond.code y_Se_init b_Se_init 1 none] ({ frames := 2, cells := 6, slots := 1029, locals := 81 } : Room) D sv_cl (sv_ty cI cJ cZ) [.ref 9] (hB cJ (.inr (4, [.ref 1, .null])) L V [.inr (0, [.null, .null, .null, .null, .null, .null, .null, .null, .int 0, .int 0]), .inr (2, [.null, .null, .null, .null, .null, .int 0])]) 10 16 (fun r ws' => r = none ∧ ws' = hB cJ (.inr (4, [.ref 1, .null])) L V [.inr (0, [.null, .null, .null, .null, .null, .null, .null, .null, .int 0, .int 0]), .inr (2, [.ref 10, .ref 12, .ref 13, .ref 14, .ref 15, .int 0]), .inr (3, [.ref 11]), sv_J cJ 4 (fun _ => 0), sv_I cI 256 (fun _ => 0), sv_I cI 256 (fun _ => 0), sv_I cI 256 (fun _ => 0), sv_I cI 256 (fun _ => 0)]) sv_no 6 1029 := by
  refine sv_of (cc := b_Se_init) (by decide +kernel) (Nat.le_of_ble_eq_true rfl) ?_
  intro pX eX sX mX aX bX tX cX AX adX C htab hnm
  refine sv_aload_n C d_Se_init_0 rfl rfl ?_
  refine sv_objInit C m_Se_3 o_i o_c d_Se_init_1 (Nat.le_of_ble_eq_true rfl) (Nat.le_of_ble_eq_true rfl) ?_
  refine sv_aload_n C d_Se_init_4 rfl rfl ?_
  refine sv_new (ci := 3) (fs := nv_St) (z := 10) C i_St t_St t_St_ok c_Se_9 in_St z_St rfl nf_St rfl d_Se_init_5 rfl rfl rfl rfl ⟨(Nat.le_of_ble_eq_true rfl), (Nat.le_of_ble_eq_true rfl)⟩ (fun q1 => ?_)
  refine sv_eqw (ws' := hB cJ (.inr (4, [.ref 1, .null])) L V [.inr (0, [.null, .null, .null, .null, .null, .null, .null, .null, .int 0, .int 0]), .inr (2, [.null, .null, .null, .null, .null, .int 0]), .inr (3, [.null])]) rfl ?_
  refine sv_dup C d_Se_init_8 rfl ?_
  refine sv_iconst (v := 1) C d_Se_init_9 rfl ?_
  refine sv_callI C (c_St_init_1 (cI := cI) (cJ := cJ) (cZ := cZ) (ws := hB cJ (.inr (4, [.ref 1, .null])) L V [.inr (0, [.null, .null, .null, .null, .null, .null, .null, .null, .int 0, .int 0]), .inr (2, [.null, .null, .null, .null, .null, .int 0]), .inr (3, [.null])]) (b := 10) (z := 11) rfl rfl rfl (by decide)) s_Se_11 rfl ki_St_init ⟨rfl, rfl, Nat.le_of_ble_eq_true rfl, Nat.le_of_ble_eq_true rfl⟩ d_Se_init_10 (Nat.le_of_ble_eq_true rfl) ⟨(Nat.le_of_ble_eq_true rfl), (Nat.le_of_ble_eq_true rfl)⟩ rfl rfl (fun v1 ws1 ad1 hag1 hp => ?_)
  obtain ⟨rfl, rfl⟩ := hp
  refine sv_putF (ci := 2) (kf := 0) (ty := (.object "StateLogic$Sets")) C i_Se t_Se t_Se_ok n_Se rfl (by decide) f_Se_14 (fun _ h9 => h9) rfl hnm rfl (by decide +kernel) d_Se_init_13 (by first | assumption | rfl) rfl rfl (Nat.le_of_ble_eq_true rfl) ?_
  refine sv_aload_n C d_Se_init_16 rfl rfl ?_
  refine sv_sipush (v := 256) C d_Se_init_17 rfl ?_
  refine sv_eqw (ws' := hB cJ (.inr (4, [.ref 1, .null])) L V [.inr (0, [.null, .null, .null, .null, .null, .null, .null, .null, .int 0, .int 0]), .inr (2, [.ref 10, .null, .null, .null, .null, .int 0]), .inr (3, [.ref 11]), sv_J cJ 4 (fun _ => 0)]) rfl ?_
  refine sv_newa (atype := .int) (ty := .int) (t0 := 0) (N := 256) (a0 := (256, .inl (fun _ => 0))) (z := 12) C rfl a_int rfl (fun _ _ => rfl) (fun _ => rfl) (by decide +kernel) (by decide +kernel) (by decide) d_Se_init_20 rfl rfl rfl rfl ⟨(Nat.le_of_ble_eq_true rfl), (Nat.le_of_ble_eq_true rfl)⟩ (fun q2 => ?_)
  refine sv_putF (ci := 2) (kf := 1) (ty := (.array .int)) C i_Se t_Se t_Se_ok n_Se rfl (by decide) f_Se_20 (fun _ h9 => h9) rfl hnm rfl (by decide +kernel) d_Se_init_22 (by first | assumption | rfl) rfl rfl (Nat.le_of_ble_eq_true rfl) ?_
  refine sv_aload_n C d_Se_init_25 rfl rfl ?_
  refine sv_sipush (v := 256) C d_Se_init_26 rfl ?_
  refine sv_eqw (ws' := hB cJ (.inr (4, [.ref 1, .null])) L V [.inr (0, [.null, .null, .null, .null, .null, .null, .null, .null, .int 0, .int 0]), .inr (2, [.ref 10, .ref 12, .null, .null, .null, .int 0]), .inr (3, [.ref 11]), sv_J cJ 4 (fun _ => 0), sv_I cI 256 (fun _ => 0)]) rfl ?_
  refine sv_newa (atype := .int) (ty := .int) (t0 := 0) (N := 256) (a0 := (256, .inl (fun _ => 0))) (z := 13) C rfl a_int rfl (fun _ _ => rfl) (fun _ => rfl) (by decide +kernel) (by decide +kernel) (by decide) d_Se_init_29 rfl rfl rfl rfl ⟨(Nat.le_of_ble_eq_true rfl), (Nat.le_of_ble_eq_true rfl)⟩ (fun q3 => ?_)
  refine sv_putF (ci := 2) (kf := 2) (ty := (.array .int)) C i_Se t_Se t_Se_ok n_Se rfl (by decide) f_Se_24 (fun _ h9 => h9) rfl hnm rfl (by decide +kernel) d_Se_init_31 (by first | assumption | rfl) rfl rfl (Nat.le_of_ble_eq_true rfl) ?_
  refine sv_aload_n C d_Se_init_34 rfl rfl ?_
  refine sv_sipush (v := 256) C d_Se_init_35 rfl ?_
  refine sv_eqw (ws' := hB cJ (.inr (4, [.ref 1, .null])) L V [.inr (0, [.null, .null, .null, .null, .null, .null, .null, .null, .int 0, .int 0]), .inr (2, [.ref 10, .ref 12, .ref 13, .null, .null, .int 0]), .inr (3, [.ref 11]), sv_J cJ 4 (fun _ => 0), sv_I cI 256 (fun _ => 0), sv_I cI 256 (fun _ => 0)]) rfl ?_
  refine sv_newa (atype := .int) (ty := .int) (t0 := 0) (N := 256) (a0 := (256, .inl (fun _ => 0))) (z := 14) C rfl a_int rfl (fun _ _ => rfl) (fun _ => rfl) (by decide +kernel) (by decide +kernel) (by decide) d_Se_init_38 rfl rfl rfl rfl ⟨(Nat.le_of_ble_eq_true rfl), (Nat.le_of_ble_eq_true rfl)⟩ (fun q4 => ?_)
  refine sv_putF (ci := 2) (kf := 3) (ty := (.array .int)) C i_Se t_Se t_Se_ok n_Se rfl (by decide) f_Se_27 (fun _ h9 => h9) rfl hnm rfl (by decide +kernel) d_Se_init_40 (by first | assumption | rfl) rfl rfl (Nat.le_of_ble_eq_true rfl) ?_
  refine sv_aload_n C d_Se_init_43 rfl rfl ?_
  refine sv_sipush (v := 256) C d_Se_init_44 rfl ?_
  refine sv_eqw (ws' := hB cJ (.inr (4, [.ref 1, .null])) L V [.inr (0, [.null, .null, .null, .null, .null, .null, .null, .null, .int 0, .int 0]), .inr (2, [.ref 10, .ref 12, .ref 13, .ref 14, .null, .int 0]), .inr (3, [.ref 11]), sv_J cJ 4 (fun _ => 0), sv_I cI 256 (fun _ => 0), sv_I cI 256 (fun _ => 0), sv_I cI 256 (fun _ => 0)]) rfl ?_
  refine sv_newa (atype := .int) (ty := .int) (t0 := 0) (N := 256) (a0 := (256, .inl (fun _ => 0))) (z := 15) C rfl a_int rfl (fun _ _ => rfl) (fun _ => rfl) (by decide +kernel) (by decide +kernel) (by decide) d_Se_init_47 rfl rfl rfl rfl ⟨(Nat.le_of_ble_eq_true rfl), (Nat.le_of_ble_eq_true rfl)⟩ (fun q5 => ?_)
  refine sv_putF (ci := 2) (kf := 4) (ty := (.array .int)) C i_Se t_Se t_Se_ok n_Se rfl (by decide) f_Se_30 (fun _ h9 => h9) rfl hnm rfl (by decide +kernel) d_Se_init_49 (by first | assumption | rfl) rfl rfl (Nat.le_of_ble_eq_true rfl) ?_
  exact sv_vret C rfl d_Se_init_52 (Nat.le_of_ble_eq_true rfl) (Nat.le_of_ble_eq_true rfl) (fun i hi => by rw [hu_n (by omega), hu_n (by omega), hu_n (by omega), hu_n (by omega), hag1 i (by omega), hu_n (by omega)]) (⟨rfl, rfl⟩)
set_option maxRecDepth 100000 in
set_option maxHeartbeats 8000000 in
theorem c_Fo_init {l : Launch} {D : va_G} {cI cJ cZ : ClassId} {L : Nat → Nat → Int64} {V : Nat → Int32} :
    sv_M l y_Fo_init [Cond.code y_Fo_init b_Fo_init 2 none] ({ frames := 3, cells := 14, slots := 1576, locals := 101 } : Room) D sv_cl (sv_ty cI cJ cZ) [.ref 8, .ref 1] (hB cJ (.inr (4, [.ref 1, .null])) L V [.inr (0, [.null, .null, .null, .null, .null, .null, .null, .null, .int 0, .int 0])]) 9 23 (fun r ws' => r = none ∧ ws' = hB cJ (.inr (4, [.ref 1, .null])) L V [.inr (0, [.ref 1, .ref 9, .ref 16, .ref 18, .ref 19, .ref 20, .ref 21, .ref 22, .int 0, .int (-1)]), .inr (2, [.ref 10, .ref 12, .ref 13, .ref 14, .ref 15, .int 0]), .inr (3, [.ref 11]), sv_J cJ 4 (fun _ => 0), sv_I cI 256 (fun _ => 0), sv_I cI 256 (fun _ => 0), sv_I cI 256 (fun _ => 0), sv_I cI 256 (fun _ => 0), .inr (3, [.ref 17]), sv_J cJ 240 (fun _ => 0), sv_I cI 60 (fun _ => 0), sv_I cI 60 (fun _ => 0), sv_I cI 60 (fun _ => 0), sv_I cI 60 (fun _ => 0), sv_I cZ 60 (fun _ => 0)]) sv_no 14 1576 := by
  refine sv_of (cc := b_Fo_init) (by decide +kernel) (Nat.le_of_ble_eq_true rfl) ?_
  intro pX eX sX mX aX bX tX cX AX adX C htab hnm
  refine sv_aload_n C d_Fo_init_0 rfl rfl ?_
  refine sv_objInit C m_Fo_3 o_i o_c d_Fo_init_1 (Nat.le_of_ble_eq_true rfl) (Nat.le_of_ble_eq_true rfl) ?_
  refine sv_aload_n C d_Fo_init_4 rfl rfl ?_
  refine sv_new (ci := 2) (fs := nv_Se) (z := 9) C i_Se t_Se t_Se_ok c_Fo_9 in_Se z_Se rfl nf_Se rfl d_Fo_init_5 rfl rfl rfl rfl ⟨(Nat.le_of_ble_eq_true rfl), (Nat.le_of_ble_eq_true rfl)⟩ (fun q1 => ?_)
  refine sv_eqw (ws' := hB cJ (.inr (4, [.ref 1, .null])) L V [.inr (0, [.null, .null, .null, .null, .null, .null, .null, .null, .int 0, .int 0]), .inr (2, [.null, .null, .null, .null, .null, .int 0])]) rfl ?_
  refine sv_dup C d_Fo_init_8 rfl ?_
  refine sv_callIN C (c_Se_init (cI := cI) (cJ := cJ) (cZ := cZ) (L := L) (V := V)) mn_Fo_11 z_Se k_Se_init (by decide +kernel) (show (parseMethodDescriptor y_Se_init.desc).map (fun d => d.parameters.length) = some 0 by decide +kernel) rfl ki_Se_init ⟨rfl, rfl, Nat.le_of_ble_eq_true rfl, Nat.le_of_ble_eq_true rfl⟩ d_Fo_init_9 (Nat.le_of_ble_eq_true rfl) ⟨(Nat.le_of_ble_eq_true rfl), (Nat.le_of_ble_eq_true rfl)⟩ rfl rfl (fun v1 ws1 ad1 hag1 hp => ?_)
  obtain ⟨rfl, rfl⟩ := hp
  refine sv_putF (ci := 0) (kf := 1) (ty := (.object "StateLogic$Search")) C i_Fo t_Fo t_Fo_ok n_Fo rfl (by decide) f_Fo_12 (fun _ h9 => h9) rfl hnm rfl (by decide +kernel) d_Fo_init_12 (by first | assumption | rfl) rfl rfl (Nat.le_of_ble_eq_true rfl) ?_
  refine sv_aload_n C d_Fo_init_15 rfl rfl ?_
  refine sv_eqw (ws' := hB cJ (.inr (4, [.ref 1, .null])) L V [.inr (0, [.null, .ref 9, .null, .null, .null, .null, .null, .null, .int 0, .int 0]), .inr (2, [.ref 10, .ref 12, .ref 13, .ref 14, .ref 15, .int 0]), .inr (3, [.ref 11]), sv_J cJ 4 (fun _ => 0), sv_I cI 256 (fun _ => 0), sv_I cI 256 (fun _ => 0), sv_I cI 256 (fun _ => 0), sv_I cI 256 (fun _ => 0)]) rfl ?_
  refine sv_new (ci := 3) (fs := nv_St) (z := 16) C i_St t_St t_St_ok c_Fo_18 in_St z_St rfl nf_St rfl d_Fo_init_16 rfl rfl rfl rfl ⟨(Nat.le_of_ble_eq_true rfl), (Nat.le_of_ble_eq_true rfl)⟩ (fun q2 => ?_)
  refine sv_eqw (ws' := hB cJ (.inr (4, [.ref 1, .null])) L V [.inr (0, [.null, .ref 9, .null, .null, .null, .null, .null, .null, .int 0, .int 0]), .inr (2, [.ref 10, .ref 12, .ref 13, .ref 14, .ref 15, .int 0]), .inr (3, [.ref 11]), sv_J cJ 4 (fun _ => 0), sv_I cI 256 (fun _ => 0), sv_I cI 256 (fun _ => 0), sv_I cI 256 (fun _ => 0), sv_I cI 256 (fun _ => 0), .inr (3, [.null])]) rfl ?_
  refine sv_dup C d_Fo_init_19 rfl ?_
  refine sv_bipush (v := 60) C d_Fo_init_20 rfl ?_
  refine sv_callI C (c_St_init_60 (cI := cI) (cJ := cJ) (cZ := cZ) (ws := hB cJ (.inr (4, [.ref 1, .null])) L V [.inr (0, [.null, .ref 9, .null, .null, .null, .null, .null, .null, .int 0, .int 0]), .inr (2, [.ref 10, .ref 12, .ref 13, .ref 14, .ref 15, .int 0]), .inr (3, [.ref 11]), sv_J cJ 4 (fun _ => 0), sv_I cI 256 (fun _ => 0), sv_I cI 256 (fun _ => 0), sv_I cI 256 (fun _ => 0), sv_I cI 256 (fun _ => 0), .inr (3, [.null])]) (b := 16) (z := 17) rfl rfl rfl (by decide)) s_Fo_20 rfl ki_St_init ⟨rfl, rfl, Nat.le_of_ble_eq_true rfl, Nat.le_of_ble_eq_true rfl⟩ d_Fo_init_22 (Nat.le_of_ble_eq_true rfl) ⟨(Nat.le_of_ble_eq_true rfl), (Nat.le_of_ble_eq_true rfl)⟩ rfl rfl (fun v2 ws2 ad2 hag2 hp => ?_)
  obtain ⟨rfl, rfl⟩ := hp
  refine sv_putF (ci := 0) (kf := 2) (ty := (.object "StateLogic$Sets")) C i_Fo t_Fo t_Fo_ok n_Fo rfl (by decide) f_Fo_23 (fun _ h9 => h9) rfl hnm rfl (by decide +kernel) d_Fo_init_25 (by first | assumption | rfl) rfl rfl (Nat.le_of_ble_eq_true rfl) ?_
  refine sv_aload_n C d_Fo_init_28 rfl rfl ?_
  refine sv_bipush (v := 60) C d_Fo_init_29 rfl ?_
  refine sv_eqw (ws' := hB cJ (.inr (4, [.ref 1, .null])) L V [.inr (0, [.null, .ref 9, .ref 16, .null, .null, .null, .null, .null, .int 0, .int 0]), .inr (2, [.ref 10, .ref 12, .ref 13, .ref 14, .ref 15, .int 0]), .inr (3, [.ref 11]), sv_J cJ 4 (fun _ => 0), sv_I cI 256 (fun _ => 0), sv_I cI 256 (fun _ => 0), sv_I cI 256 (fun _ => 0), sv_I cI 256 (fun _ => 0), .inr (3, [.ref 17]), sv_J cJ 240 (fun _ => 0)]) rfl ?_
  refine sv_newa (atype := .int) (ty := .int) (t0 := 0) (N := 60) (a0 := (60, .inl (fun _ => 0))) (z := 18) C rfl a_int rfl (fun _ _ => rfl) (fun _ => rfl) (by decide +kernel) (by decide +kernel) (by decide) d_Fo_init_31 rfl rfl rfl rfl ⟨(Nat.le_of_ble_eq_true rfl), (Nat.le_of_ble_eq_true rfl)⟩ (fun q3 => ?_)
  refine sv_putF (ci := 0) (kf := 3) (ty := (.array .int)) C i_Fo t_Fo t_Fo_ok n_Fo rfl (by decide) f_Fo_27 (fun _ h9 => h9) rfl hnm rfl (by decide +kernel) d_Fo_init_33 (by first | assumption | rfl) rfl rfl (Nat.le_of_ble_eq_true rfl) ?_
  refine sv_aload_n C d_Fo_init_36 rfl rfl ?_
  refine sv_bipush (v := 60) C d_Fo_init_37 rfl ?_
  refine sv_eqw (ws' := hB cJ (.inr (4, [.ref 1, .null])) L V [.inr (0, [.null, .ref 9, .ref 16, .ref 18, .null, .null, .null, .null, .int 0, .int 0]), .inr (2, [.ref 10, .ref 12, .ref 13, .ref 14, .ref 15, .int 0]), .inr (3, [.ref 11]), sv_J cJ 4 (fun _ => 0), sv_I cI 256 (fun _ => 0), sv_I cI 256 (fun _ => 0), sv_I cI 256 (fun _ => 0), sv_I cI 256 (fun _ => 0), .inr (3, [.ref 17]), sv_J cJ 240 (fun _ => 0), sv_I cI 60 (fun _ => 0)]) rfl ?_
  refine sv_newa (atype := .int) (ty := .int) (t0 := 0) (N := 60) (a0 := (60, .inl (fun _ => 0))) (z := 19) C rfl a_int rfl (fun _ _ => rfl) (fun _ => rfl) (by decide +kernel) (by decide +kernel) (by decide) d_Fo_init_39 rfl rfl rfl rfl ⟨(Nat.le_of_ble_eq_true rfl), (Nat.le_of_ble_eq_true rfl)⟩ (fun q4 => ?_)
  refine sv_putF (ci := 0) (kf := 4) (ty := (.array .int)) C i_Fo t_Fo t_Fo_ok n_Fo rfl (by decide) f_Fo_31 (fun _ h9 => h9) rfl hnm rfl (by decide +kernel) d_Fo_init_41 (by first | assumption | rfl) rfl rfl (Nat.le_of_ble_eq_true rfl) ?_
  refine sv_aload_n C d_Fo_init_44 rfl rfl ?_
  refine sv_bipush (v := 60) C d_Fo_init_45 rfl ?_
  refine sv_eqw (ws' := hB cJ (.inr (4, [.ref 1, .null])) L V [.inr (0, [.null, .ref 9, .ref 16, .ref 18, .ref 19, .null, .null, .null, .int 0, .int 0]), .inr (2, [.ref 10, .ref 12, .ref 13, .ref 14, .ref 15, .int 0]), .inr (3, [.ref 11]), sv_J cJ 4 (fun _ => 0), sv_I cI 256 (fun _ => 0), sv_I cI 256 (fun _ => 0), sv_I cI 256 (fun _ => 0), sv_I cI 256 (fun _ => 0), .inr (3, [.ref 17]), sv_J cJ 240 (fun _ => 0), sv_I cI 60 (fun _ => 0), sv_I cI 60 (fun _ => 0)]) rfl ?_
  refine sv_newa (atype := .int) (ty := .int) (t0 := 0) (N := 60) (a0 := (60, .inl (fun _ => 0))) (z := 20) C rfl a_int rfl (fun _ _ => rfl) (fun _ => rfl) (by decide +kernel) (by decide +kernel) (by decide) d_Fo_init_47 rfl rfl rfl rfl ⟨(Nat.le_of_ble_eq_true rfl), (Nat.le_of_ble_eq_true rfl)⟩ (fun q5 => ?_)
  refine sv_putF (ci := 0) (kf := 5) (ty := (.array .int)) C i_Fo t_Fo t_Fo_ok n_Fo rfl (by decide) f_Fo_34 (fun _ h9 => h9) rfl hnm rfl (by decide +kernel) d_Fo_init_49 (by first | assumption | rfl) rfl rfl (Nat.le_of_ble_eq_true rfl) ?_
  refine sv_aload_n C d_Fo_init_52 rfl rfl ?_
  refine sv_bipush (v := 60) C d_Fo_init_53 rfl ?_
  refine sv_eqw (ws' := hB cJ (.inr (4, [.ref 1, .null])) L V [.inr (0, [.null, .ref 9, .ref 16, .ref 18, .ref 19, .ref 20, .null, .null, .int 0, .int 0]), .inr (2, [.ref 10, .ref 12, .ref 13, .ref 14, .ref 15, .int 0]), .inr (3, [.ref 11]), sv_J cJ 4 (fun _ => 0), sv_I cI 256 (fun _ => 0), sv_I cI 256 (fun _ => 0), sv_I cI 256 (fun _ => 0), sv_I cI 256 (fun _ => 0), .inr (3, [.ref 17]), sv_J cJ 240 (fun _ => 0), sv_I cI 60 (fun _ => 0), sv_I cI 60 (fun _ => 0), sv_I cI 60 (fun _ => 0)]) rfl ?_
  refine sv_newa (atype := .int) (ty := .int) (t0 := 0) (N := 60) (a0 := (60, .inl (fun _ => 0))) (z := 21) C rfl a_int rfl (fun _ _ => rfl) (fun _ => rfl) (by decide +kernel) (by decide +kernel) (by decide) d_Fo_init_55 rfl rfl rfl rfl ⟨(Nat.le_of_ble_eq_true rfl), (Nat.le_of_ble_eq_true rfl)⟩ (fun q6 => ?_)
  refine sv_putF (ci := 0) (kf := 6) (ty := (.array .int)) C i_Fo t_Fo t_Fo_ok n_Fo rfl (by decide) f_Fo_37 (fun _ h9 => h9) rfl hnm rfl (by decide +kernel) d_Fo_init_57 (by first | assumption | rfl) rfl rfl (Nat.le_of_ble_eq_true rfl) ?_
  refine sv_aload_n C d_Fo_init_60 rfl rfl ?_
  refine sv_bipush (v := 60) C d_Fo_init_61 rfl ?_
  refine sv_eqw (ws' := hB cJ (.inr (4, [.ref 1, .null])) L V [.inr (0, [.null, .ref 9, .ref 16, .ref 18, .ref 19, .ref 20, .ref 21, .null, .int 0, .int 0]), .inr (2, [.ref 10, .ref 12, .ref 13, .ref 14, .ref 15, .int 0]), .inr (3, [.ref 11]), sv_J cJ 4 (fun _ => 0), sv_I cI 256 (fun _ => 0), sv_I cI 256 (fun _ => 0), sv_I cI 256 (fun _ => 0), sv_I cI 256 (fun _ => 0), .inr (3, [.ref 17]), sv_J cJ 240 (fun _ => 0), sv_I cI 60 (fun _ => 0), sv_I cI 60 (fun _ => 0), sv_I cI 60 (fun _ => 0), sv_I cI 60 (fun _ => 0)]) rfl ?_
  refine sv_newa (atype := .boolean) (ty := .boolean) (t0 := 2) (N := 60) (a0 := (60, .inl (fun _ => 0))) (z := 22) C rfl a_boolean rfl (fun _ _ => rfl) (fun _ => rfl) (by decide +kernel) (by decide +kernel) (by decide) d_Fo_init_63 rfl rfl rfl rfl ⟨(Nat.le_of_ble_eq_true rfl), (Nat.le_of_ble_eq_true rfl)⟩ (fun q7 => ?_)
  refine sv_putF (ci := 0) (kf := 7) (ty := (.array .boolean)) C i_Fo t_Fo t_Fo_ok n_Fo rfl (by decide) f_Fo_40 (fun _ h9 => h9) rfl hnm rfl (by decide +kernel) d_Fo_init_65 (by first | assumption | rfl) rfl rfl (Nat.le_of_ble_eq_true rfl) ?_
  refine sv_aload_n C d_Fo_init_68 rfl rfl ?_
  refine sv_aload_n C d_Fo_init_69 rfl rfl ?_
  refine sv_putF (ci := 0) (kf := 0) (ty := (.object "StateLogic$Machine")) C i_Fo t_Fo t_Fo_ok n_Fo rfl (by decide) f_Fo_44 (fun _ h9 => h9) rfl hnm rfl (by decide +kernel) d_Fo_init_70 (by first | assumption | rfl) rfl rfl (Nat.le_of_ble_eq_true rfl) ?_
  refine sv_aload_n C d_Fo_init_73 rfl rfl ?_
  refine sv_iconst (v := (-1)) C d_Fo_init_74 rfl ?_
  refine sv_put (ci := 0) (kf := 9) (ty := .int) C i_Fo t_Fo t_Fo_ok n_Fo rfl (by decide) f_Fo_48 (fun _ h9 => h9) rfl (by decide +kernel) d_Fo_init_75 (by first | assumption | rfl) rfl rfl (Nat.le_of_ble_eq_true rfl) ?_
  exact sv_vret C rfl d_Fo_init_78 (Nat.le_of_ble_eq_true rfl) (Nat.le_of_ble_eq_true rfl) (fun i hi => by rw [hu_n (by omega), hu_n (by omega), hu_n (by omega), hu_n (by omega), hu_n (by omega), hag2 i (by omega), hu_n (by omega), hag1 i (by omega), hu_n (by omega)]) (⟨rfl, rfl⟩)
set_option maxRecDepth 100000 in
set_option maxHeartbeats 8000000 in
theorem c_SL_init {l : Launch} {D : va_G} {cI cJ cZ : ClassId} {rl : Nat → Nat × Nat × Nat × Nat} {kd xs ys : Nat → Nat} :
    sv_M l y_SL_init [Cond.code y_SL_init b_SL_init 1 none] ({ frames := 4, cells := 22, slots := 3646, locals := 122 } : Room) D sv_cl (sv_ty cI cJ cZ) [.ref 0] [.inr (4, [.null, .null])] 1 23 (fun r ws' => r = none ∧ ∃ (L : Nat → Nat → Int64) (I : Nat → Nat → Int32) (V : Nat → Int32), ws' = hC cI cJ cZ L I V [] ∧ sl_ok L I V 1 0 0 rl kd xs ys) sv_no 22 3646 := by
  refine sv_of (cc := b_SL_init) (by decide +kernel) (Nat.le_of_ble_eq_true rfl) ?_
  intro pX eX sX mX aX bX tX cX AX adX C htab hnm
  refine sv_aload_n C d_SL_init_0 rfl rfl ?_
  refine sv_objInit C m_SL_1 o_i o_c d_SL_init_1 (Nat.le_of_ble_eq_true rfl) (Nat.le_of_ble_eq_true rfl) ?_
  refine sv_aload_n C d_SL_init_4 rfl rfl ?_
  refine sv_new (ci := 1) (fs := nv_Ma) (z := 1) C i_Ma t_Ma t_Ma_ok c_SL_7 in_Ma z_Ma rfl nf_Ma rfl d_SL_init_5 rfl rfl rfl rfl ⟨(Nat.le_of_ble_eq_true rfl), (Nat.le_of_ble_eq_true rfl)⟩ (fun q1 => ?_)
  refine sv_eqw (ws' := [.inr (4, [.null, .null]), .inr (1, [.null, .null, .null, .int 0, .int 0])]) rfl ?_
  refine sv_dup C d_SL_init_8 rfl ?_
  refine sv_callI C (c_Ma_init (cI := cI) (cJ := cJ) (cZ := cZ)) s_SL_9 rfl ki_Ma_init ⟨rfl, rfl, Nat.le_of_ble_eq_true rfl, Nat.le_of_ble_eq_true rfl⟩ d_SL_init_9 (Nat.le_of_ble_eq_true rfl) ⟨(Nat.le_of_ble_eq_true rfl), (Nat.le_of_ble_eq_true rfl)⟩ rfl rfl (fun v1 ws1 ad1 hag1 hp => ?_)
  obtain ⟨rfl, f0, f1, f2, rfl, h0, h1, h2⟩ := hp
  refine sv_putF (ci := 4) (kf := 0) (ty := (.object "StateLogic$Machine")) C i_SL t_SL t_SL_ok n_SL rfl (by decide) f_SL_10 (fun _ h9 => h9) rfl hnm rfl (by decide +kernel) d_SL_init_12 (by first | assumption | rfl) rfl rfl (Nat.le_of_ble_eq_true rfl) ?_
  refine sv_aload_n C d_SL_init_15 rfl rfl ?_
  refine sv_eqw (ws' := hB cJ (.inr (4, [.ref 1, .null])) (hu (hu (hu (fun _ _ => 0) 0 f0) 1 f1) 2 f2) (hu (hu (fun _ => 0) 0 (nI (2 ^ 1))) 1 0) []) rfl ?_
  refine sv_new (ci := 0) (fs := nv_Fo) (z := 8) C i_Fo t_Fo t_Fo_ok c_SL_16 in_Fo z_Fo rfl nf_Fo rfl d_SL_init_16 rfl rfl rfl rfl ⟨(Nat.le_of_ble_eq_true rfl), (Nat.le_of_ble_eq_true rfl)⟩ (fun q2 => ?_)
  refine sv_eqw (ws' := hB cJ (.inr (4, [.ref 1, .null])) (hu (hu (hu (fun _ _ => 0) 0 f0) 1 f1) 2 f2) (hu (hu (fun _ => 0) 0 (nI (2 ^ 1))) 1 0) [.inr (0, [.null, .null, .null, .null, .null, .null, .null, .null, .int 0, .int 0])]) rfl ?_
  refine sv_dup C d_SL_init_19 rfl ?_
  refine sv_aload_n C d_SL_init_20 rfl rfl ?_
  refine sv_get (ci := 4) (kf := 0) C i_SL rfl (by decide) f_SL_10 (fun _ h9 => h9) d_SL_init_21 (by first | assumption | rfl) rfl ?_
  refine sv_callI C (c_Fo_init (cI := cI) (cJ := cJ) (cZ := cZ) (L := hu (hu (hu (fun _ _ => 0) 0 f0) 1 f1) 2 f2) (V := hu (hu (fun _ => 0) 0 (nI (2 ^ 1))) 1 0)) s_SL_18 rfl ki_Fo_init ⟨rfl, rfl, Nat.le_of_ble_eq_true rfl, Nat.le_of_ble_eq_true rfl⟩ d_SL_init_24 (Nat.le_of_ble_eq_true rfl) ⟨(Nat.le_of_ble_eq_true rfl), (Nat.le_of_ble_eq_true rfl)⟩ rfl rfl (fun v2 ws2 ad2 hag2 hp => ?_)
  obtain ⟨rfl, rfl⟩ := hp
  refine sv_putF (ci := 4) (kf := 1) (ty := (.object "StateLogic$Formulas")) C i_SL t_SL t_SL_ok n_SL rfl (by decide) f_SL_21 (fun _ h9 => h9) rfl hnm rfl (by decide +kernel) d_SL_init_27 (by first | assumption | rfl) rfl rfl (Nat.le_of_ble_eq_true rfl) ?_
  refine sv_vret C rfl d_SL_init_30 (Nat.le_of_ble_eq_true rfl) (Nat.le_of_ble_eq_true rfl) (fun i hi => by rw [hag2 i (by omega), hu_n (by omega), hag1 i (by omega), hu_n (by omega)]) (⟨rfl, hu (hu (hu (fun _ _ => 0) 0 f0) 1 f1) 2 f2, fun _ _ => 0, hu (hu (hu (fun _ => 0) 0 (nI (2 ^ 1))) 1 0) 4 (-1), rfl, ?_⟩)
  refine ⟨⟨⟨by decide, rfl, rfl, Nat.zero_le _, rfl, Nat.zero_le _, h0, fun a b ha hb => (h2 b a hb ha).trans (h1 a b ha hb).symm⟩, fun i hi => absurd hi (Nat.not_lt_zero i), fun i hi => absurd hi (Nat.not_lt_zero i), fun i hi => absurd hi (Nat.not_lt_zero i), fun i _ => rfl, Or.inl rfl⟩, Nat.le_refl _, fun i hi => absurd hi (Nat.not_lt_zero i), fun a b ha => ⟨fun h => ?_, fun h => ?_⟩⟩
  · have h3 : ss_b f1 a b = true := h.2
    rw [h1 a b ha h.1] at h3
    exact absurd h3 (by decide)
  · obtain ⟨-, i, hi, -⟩ := h
    exact absurd hi (Nat.not_lt_zero i)
