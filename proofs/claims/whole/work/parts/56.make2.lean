set_option maxRecDepth 100000 in
set_option maxHeartbeats 8000000 in
theorem c_Ma_init {l : Launch} {D : va_G} {cI cJ cZ : ClassId} :
    sv_M l y_Ma_init [Cond.code y_Ma_init b_Ma_init 1 none] ({ frames := 3, cells := 6, slots := 2055, locals := 81 } : Room) D sv_cl (sv_ty cI cJ cZ) [.ref 1] [.inr (4, [.null, .null]), .inr (1, [.null, .null, .null, .int 0, .int 0])] 2 8 (fun r ws' => r = none ∧ ∃ f0 f1 f2 : Nat → Int64, ws' = hB cJ (.inr (4, [.null, .null])) (hu (hu (hu (fun _ _ => 0) 0 f0) 1 f1) 2 f2) (hu (hu (fun _ => 0) 0 (nI (2 ^ 1))) 1 0) [] ∧ (∀ z, z < 256 → ss_b f0 0 z = decide (z < 2 ^ 1)) ∧ (∀ a z, a < 256 → z < 256 → ss_b f1 a z = false) ∧ ∀ a z, a < 256 → z < 256 → ss_b f2 a z = false) sv_no 6 2055 := by
  refine sv_of (cc := b_Ma_init) (by decide +kernel) (Nat.le_of_ble_eq_true rfl) ?_
  intro pX eX sX mX aX bX tX cX AX adX C htab hnm
  refine sv_aload_n C d_Ma_init_0 rfl rfl ?_
  refine sv_objInit C m_Ma_3 o_i o_c d_Ma_init_1 (Nat.le_of_ble_eq_true rfl) (Nat.le_of_ble_eq_true rfl) ?_
  refine sv_aload_n C d_Ma_init_4 rfl rfl ?_
  refine sv_new (ci := 3) (fs := nv_St) (z := 2) C i_St t_St t_St_ok c_Ma_9 in_St z_St rfl nf_St rfl d_Ma_init_5 rfl rfl rfl rfl ⟨(Nat.le_of_ble_eq_true rfl), (Nat.le_of_ble_eq_true rfl)⟩ (fun q1 => ?_)
  refine sv_eqw (ws' := [.inr (4, [.null, .null]), .inr (1, [.null, .null, .null, .int 0, .int 0]), .inr (3, [.null])]) rfl ?_
  refine sv_dup C d_Ma_init_8 rfl ?_
  refine sv_iconst (v := 1) C d_Ma_init_9 rfl ?_
  refine sv_callI C (c_St_init_1 (cI := cI) (cJ := cJ) (cZ := cZ) (ws := [.inr (4, [.null, .null]), .inr (1, [.null, .null, .null, .int 0, .int 0]), .inr (3, [.null])]) (b := 2) (z := 3) rfl rfl rfl (by decide)) s_Ma_11 rfl ki_St_init ⟨rfl, rfl, Nat.le_of_ble_eq_true rfl, Nat.le_of_ble_eq_true rfl⟩ d_Ma_init_10 (Nat.le_of_ble_eq_true rfl) ⟨(Nat.le_of_ble_eq_true rfl), (Nat.le_of_ble_eq_true rfl)⟩ rfl rfl (fun v1 ws1 ad1 hag1 hp => ?_)
  obtain ⟨rfl, rfl⟩ := hp
  refine sv_putF (ci := 1) (kf := 0) (ty := (.object "StateLogic$Sets")) C i_Ma t_Ma t_Ma_ok n_Ma rfl (by decide) f_Ma_14 (fun _ h9 => h9) rfl hnm rfl (by decide +kernel) d_Ma_init_13 (by first | assumption | rfl) rfl rfl (Nat.le_of_ble_eq_true rfl) ?_
  refine sv_aload_n C d_Ma_init_16 rfl rfl ?_
  refine sv_eqw (ws' := [.inr (4, [.null, .null]), .inr (1, [.ref 2, .null, .null, .int 0, .int 0]), .inr (3, [.ref 3]), sv_J cJ 4 (fun _ => 0)]) rfl ?_
  refine sv_new (ci := 3) (fs := nv_St) (z := 4) C i_St t_St t_St_ok c_Ma_9 in_St z_St rfl nf_St rfl d_Ma_init_17 rfl rfl rfl rfl ⟨(Nat.le_of_ble_eq_true rfl), (Nat.le_of_ble_eq_true rfl)⟩ (fun q2 => ?_)
  refine sv_eqw (ws' := [.inr (4, [.null, .null]), .inr (1, [.ref 2, .null, .null, .int 0, .int 0]), .inr (3, [.ref 3]), sv_J cJ 4 (fun _ => 0), .inr (3, [.null])]) rfl ?_
  refine sv_dup C d_Ma_init_20 rfl ?_
  refine sv_sipush (v := 256) C d_Ma_init_21 rfl ?_
  refine sv_callI C (c_St_init_256 (cI := cI) (cJ := cJ) (cZ := cZ) (ws := [.inr (4, [.null, .null]), .inr (1, [.ref 2, .null, .null, .int 0, .int 0]), .inr (3, [.ref 3]), sv_J cJ 4 (fun _ => 0), .inr (3, [.null])]) (b := 4) (z := 5) rfl rfl rfl (by decide)) s_Ma_11 rfl ki_St_init ⟨rfl, rfl, Nat.le_of_ble_eq_true rfl, Nat.le_of_ble_eq_true rfl⟩ d_Ma_init_24 (Nat.le_of_ble_eq_true rfl) ⟨(Nat.le_of_ble_eq_true rfl), (Nat.le_of_ble_eq_true rfl)⟩ rfl rfl (fun v2 ws2 ad2 hag2 hp => ?_)
  obtain ⟨rfl, rfl⟩ := hp
  refine sv_putF (ci := 1) (kf := 1) (ty := (.object "StateLogic$Sets")) C i_Ma t_Ma t_Ma_ok n_Ma rfl (by decide) f_Ma_20 (fun _ h9 => h9) rfl hnm rfl (by decide +kernel) d_Ma_init_27 (by first | assumption | rfl) rfl rfl (Nat.le_of_ble_eq_true rfl) ?_
  refine sv_aload_n C d_Ma_init_30 rfl rfl ?_
  refine sv_eqw (ws' := [.inr (4, [.null, .null]), .inr (1, [.ref 2, .ref 4, .null, .int 0, .int 0]), .inr (3, [.ref 3]), sv_J cJ 4 (fun _ => 0), .inr (3, [.ref 5]), sv_J cJ 1024 (fun _ => 0)]) rfl ?_
  refine sv_new (ci := 3) (fs := nv_St) (z := 6) C i_St t_St t_St_ok c_Ma_9 in_St z_St rfl nf_St rfl d_Ma_init_31 rfl rfl rfl rfl ⟨(Nat.le_of_ble_eq_true rfl), (Nat.le_of_ble_eq_true rfl)⟩ (fun q3 => ?_)
  refine sv_eqw (ws' := [.inr (4, [.null, .null]), .inr (1, [.ref 2, .ref 4, .null, .int 0, .int 0]), .inr (3, [.ref 3]), sv_J cJ 4 (fun _ => 0), .inr (3, [.ref 5]), sv_J cJ 1024 (fun _ => 0), .inr (3, [.null])]) rfl ?_
  refine sv_dup C d_Ma_init_34 rfl ?_
  refine sv_sipush (v := 256) C d_Ma_init_35 rfl ?_
  refine sv_callI C (c_St_init_256 (cI := cI) (cJ := cJ) (cZ := cZ) (ws := [.inr (4, [.null, .null]), .inr (1, [.ref 2, .ref 4, .null, .int 0, .int 0]), .inr (3, [.ref 3]), sv_J cJ 4 (fun _ => 0), .inr (3, [.ref 5]), sv_J cJ 1024 (fun _ => 0), .inr (3, [.null])]) (b := 6) (z := 7) rfl rfl rfl (by decide)) s_Ma_11 rfl ki_St_init ⟨rfl, rfl, Nat.le_of_ble_eq_true rfl, Nat.le_of_ble_eq_true rfl⟩ d_Ma_init_38 (Nat.le_of_ble_eq_true rfl) ⟨(Nat.le_of_ble_eq_true rfl), (Nat.le_of_ble_eq_true rfl)⟩ rfl rfl (fun v3 ws3 ad3 hag3 hp => ?_)
  obtain ⟨rfl, rfl⟩ := hp
  refine sv_putF (ci := 1) (kf := 2) (ty := (.object "StateLogic$Sets")) C i_Ma t_Ma t_Ma_ok n_Ma rfl (by decide) f_Ma_23 (fun _ h9 => h9) rfl hnm rfl (by decide +kernel) d_Ma_init_41 (by first | assumption | rfl) rfl rfl (Nat.le_of_ble_eq_true rfl) ?_
  refine sv_aload_n C d_Ma_init_44 rfl rfl ?_
  refine sv_iconst (v := 1) C d_Ma_init_45 rfl ?_
  refine sv_eqw (ws' := hB cJ (.inr (4, [.null, .null])) (fun _ _ => 0) (fun _ => 0) []) rfl ?_
  refine sv_eqs (st' := [.int (nI 1), .ref 1]) rfl ?_
  refine sv_callV (ci := 1) C (c_Ma_restart0 (cI := cI) (cJ := cJ) (cZ := cZ) (s0 := .inr (4, [.null, .null])) (L := fun _ _ => 0) (V := fun _ => 0) (tl := []) (k := 1) (by decide)) s_Ma_26 ki_Ma_restart ks_Ma_restart ⟨rfl, rfl, Nat.le_of_ble_eq_true rfl, Nat.le_of_ble_eq_true rfl⟩ rfl d_Ma_init_46 (by first | assumption | rfl) (Nat.le_of_ble_eq_true rfl) ⟨(Nat.le_of_ble_eq_true rfl), (Nat.le_of_ble_eq_true rfl)⟩ (fun E ws9 h9 => absurd h9 id) (fun v9 ws9 hp => ?_)
  obtain ⟨rfl, f0, f1, f2, rfl, h0, h1, h2⟩ := hp
  exact sv_vret C rfl d_Ma_init_49 (Nat.le_of_ble_eq_true rfl) (Nat.le_of_ble_eq_true rfl) (fun i hi => by rw [hag3 i (by omega), hu_n (by omega), hag2 i (by omega), hu_n (by omega), hag1 i (by omega), hu_n (by omega)]) (⟨rfl, f0, f1, f2, rfl, h0, h1, h2⟩)
