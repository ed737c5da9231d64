/-! Constructors -/
abbrev nv_Fo : List Value := [.null, .null, .null, .null, .null, .null, .null, .null, .int 0, .int 0]
theorem nf_Fo : ∀ j, j < 10 → defaultValue (t_Fo j) = vp_V nv_Fo j := by
  intro j hj
  match j, hj with
  | 0, _ => rfl
  | 1, _ => rfl
  | 2, _ => rfl
  | 3, _ => rfl
  | 4, _ => rfl
  | 5, _ => rfl
  | 6, _ => rfl
  | 7, _ => rfl
  | 8, _ => rfl
  | 9, _ => rfl
  | j + 10, h => exact absurd h (by omega)
abbrev nv_Ma : List Value := [.null, .null, .null, .int 0, .int 0]
theorem nf_Ma : ∀ j, j < 5 → defaultValue (t_Ma j) = vp_V nv_Ma j := by
  intro j hj
  match j, hj with
  | 0, _ => rfl
  | 1, _ => rfl
  | 2, _ => rfl
  | 3, _ => rfl
  | 4, _ => rfl
  | j + 5, h => exact absurd h (by omega)
abbrev nv_Se : List Value := [.null, .null, .null, .null, .null, .int 0]
theorem nf_Se : ∀ j, j < 6 → defaultValue (t_Se j) = vp_V nv_Se j := by
  intro j hj
  match j, hj with
  | 0, _ => rfl
  | 1, _ => rfl
  | 2, _ => rfl
  | 3, _ => rfl
  | 4, _ => rfl
  | 5, _ => rfl
  | j + 6, h => exact absurd h (by omega)
abbrev nv_St : List Value := [.null]
theorem nf_St : ∀ j, j < 1 → defaultValue (t_St j) = vp_V nv_St j := by
  intro j hj
  match j, hj with
  | 0, _ => rfl
  | j + 1, h => exact absurd h (by omega)
abbrev nv_SL : List Value := [.null, .null]
theorem nf_SL : ∀ j, j < 2 → defaultValue (t_SL j) = vp_V nv_SL j := by
  intro j hj
  match j, hj with
  | 0, _ => rfl
  | 1, _ => rfl
  | j + 2, h => exact absurd h (by omega)
abbrev nv_Mo : List Value := [.int 0, .int 0, .int 0, .null, .null, .null, .null, .int 0, .int 0, .null, .null, .null, .null, .null, .null, .null]
theorem nf_Mo : ∀ j, j < 16 → defaultValue (t_Mo j) = vp_V nv_Mo j := by
  intro j hj
  match j, hj with
  | 0, _ => rfl
  | 1, _ => rfl
  | 2, _ => rfl
  | 3, _ => rfl
  | 4, _ => rfl
  | 5, _ => rfl
  | 6, _ => rfl
  | 7, _ => rfl
  | 8, _ => rfl
  | 9, _ => rfl
  | 10, _ => rfl
  | 11, _ => rfl
  | 12, _ => rfl
  | 13, _ => rfl
  | 14, _ => rfl
  | 15, _ => rfl
  | j + 16, h => exact absurd h (by omega)
set_option maxRecDepth 100000 in
set_option maxHeartbeats 8000000 in
theorem c_St_init_1 {l : Launch} {D : va_G} {cI cJ cZ : ClassId} {ws : List va_E} {b z : Nat} (hb : ws[b]? = some (.inr (3, [.null]))) (hz : ws.length = z) (hcl : ws.all (sv_blE z) = true) (hbz : b < z) :
    sv_M l y_St_init [Cond.code y_St_init b_St_init 2 none] ({ frames := 1, cells := 1, slots := 4, locals := 60 } : Room) D sv_cl (sv_ty cI cJ cZ) [.ref b, .int 1] ws z (z + 1) (fun r ws' => r = none ∧ ws' = ws.set b (.inr (3, [.ref z])) ++ [sv_J cJ 4 (fun _ => 0)]) sv_no 1 4 := by
  refine sv_of (cc := b_St_init) (by decide +kernel) (Nat.le_of_ble_eq_true rfl) ?_
  intro pX eX sX mX aX bX tX cX AX adX C htab hnm
  have hbb : Nat.ble (b + 1) z = true := Nat.ble_eq_true_of_le hbz
  have hb2 : (ws ++ [sv_J cJ 4 (fun _ => 0)])[b]? = some (.inr (3, [.null])) := by
    rw [List.getElem?_append_left (by omega)]
    exact hb
  refine sv_aload_n C d_St_init_0 rfl rfl ?_
  refine sv_objInit C m_St_3 o_i o_c d_St_init_1 (Nat.le_of_ble_eq_true rfl) (Nat.le_of_ble_eq_true rfl) ?_
  refine sv_aload_n C d_St_init_4 rfl rfl ?_
  refine sv_iload_n C d_St_init_5 rfl rfl ?_
  refine sv_iconst (v := 4) C d_St_init_6 rfl ?_
  refine sv_imul C d_St_init_7 ?_
  refine sv_newa (atype := .long) (ty := .long) (t0 := 1) (N := 4) (a0 := (4, .inr (.inl (fun _ => 0)))) (z := z) C rfl a_long rfl (fun _ _ => rfl) (fun _ => rfl) (by decide +kernel) (by decide +kernel) (by decide) d_St_init_8 hz hcl (by show (Nat.ble (b + 1) z && (true && true)) = true; rw [hbb]; rfl) (by show (Nat.ble (b + 1) z && true) = true; rw [hbb]; rfl) ⟨(Nat.le_of_ble_eq_true rfl), (Nat.le_of_ble_eq_true rfl)⟩ (fun q => ?_)
  refine sv_eqw (ws' := ws ++ [sv_J cJ 4 (fun _ => 0)]) rfl ?_
  refine sv_putF (ci := 3) (kf := 0) (ty := (.array .long)) C i_St t_St t_St_ok n_St rfl (by decide) f_St_11 (fun _ h9 => h9) rfl hnm rfl (by decide +kernel) d_St_init_10 (by first | assumption | rfl) rfl rfl (Nat.le_of_ble_eq_true rfl) ?_
  refine sv_eqw (ws' := ws.set b (.inr (3, [.ref z])) ++ [sv_J cJ 4 (fun _ => 0)]) (List.set_append_left _ _ (by omega)) ?_
  exact sv_vret C rfl d_St_init_13 (Nat.le_of_ble_eq_true rfl) (Nat.le_of_ble_eq_true rfl) (fun i hi => hu_n (by omega)) (⟨rfl, rfl⟩)
set_option maxRecDepth 100000 in
set_option maxHeartbeats 8000000 in
theorem c_St_init_256 {l : Launch} {D : va_G} {cI cJ cZ : ClassId} {ws : List va_E} {b z : Nat} (hb : ws[b]? = some (.inr (3, [.null]))) (hz : ws.length = z) (hcl : ws.all (sv_blE z) = true) (hbz : b < z) :
    sv_M l y_St_init [Cond.code y_St_init b_St_init 2 none] ({ frames := 1, cells := 1, slots := 1024, locals := 60 } : Room) D sv_cl (sv_ty cI cJ cZ) [.ref b, .int 256] ws z (z + 1) (fun r ws' => r = none ∧ ws' = ws.set b (.inr (3, [.ref z])) ++ [sv_J cJ 1024 (fun _ => 0)]) sv_no 1 1024 := by
  refine sv_of (cc := b_St_init) (by decide +kernel) (Nat.le_of_ble_eq_true rfl) ?_
  intro pX eX sX mX aX bX tX cX AX adX C htab hnm
  have hbb : Nat.ble (b + 1) z = true := Nat.ble_eq_true_of_le hbz
  have hb2 : (ws ++ [sv_J cJ 1024 (fun _ => 0)])[b]? = some (.inr (3, [.null])) := by
    rw [List.getElem?_append_left (by omega)]
    exact hb
  refine sv_aload_n C d_St_init_0 rfl rfl ?_
  refine sv_objInit C m_St_3 o_i o_c d_St_init_1 (Nat.le_of_ble_eq_true rfl) (Nat.le_of_ble_eq_true rfl) ?_
  refine sv_aload_n C d_St_init_4 rfl rfl ?_
  refine sv_iload_n C d_St_init_5 rfl rfl ?_
  refine sv_iconst (v := 4) C d_St_init_6 rfl ?_
  refine sv_imul C d_St_init_7 ?_
  refine sv_newa (atype := .long) (ty := .long) (t0 := 1) (N := 1024) (a0 := (1024, .inr (.inl (fun _ => 0)))) (z := z) C rfl a_long rfl (fun _ _ => rfl) (fun _ => rfl) (by decide +kernel) (by decide +kernel) (by decide) d_St_init_8 hz hcl (by show (Nat.ble (b + 1) z && (true && true)) = true; rw [hbb]; rfl) (by show (Nat.ble (b + 1) z && true) = true; rw [hbb]; rfl) ⟨(Nat.le_of_ble_eq_true rfl), (Nat.le_of_ble_eq_true rfl)⟩ (fun q => ?_)
  refine sv_eqw (ws' := ws ++ [sv_J cJ 1024 (fun _ => 0)]) rfl ?_
  refine sv_putF (ci := 3) (kf := 0) (ty := (.array .long)) C i_St t_St t_St_ok n_St rfl (by decide) f_St_11 (fun _ h9 => h9) rfl hnm rfl (by decide +kernel) d_St_init_10 (by first | assumption | rfl) rfl rfl (Nat.le_of_ble_eq_true rfl) ?_
  refine sv_eqw (ws' := ws.set b (.inr (3, [.ref z])) ++ [sv_J cJ 1024 (fun _ => 0)]) (List.set_append_left _ _ (by omega)) ?_
  exact sv_vret C rfl d_St_init_13 (Nat.le_of_ble_eq_true rfl) (Nat.le_of_ble_eq_true rfl) (fun i hi => hu_n (by omega)) (⟨rfl, rfl⟩)
set_option maxRecDepth 100000 in
set_option maxHeartbeats 8000000 in
theorem c_St_init_60 {l : Launch} {D : va_G} {cI cJ cZ : ClassId} {ws : List va_E} {b z : Nat} (hb : ws[b]? = some (.inr (3, [.null]))) (hz : ws.length = z) (hcl : ws.all (sv_blE z) = true) (hbz : b < z) :
    sv_M l y_St_init [Cond.code y_St_init b_St_init 2 none] ({ frames := 1, cells := 1, slots := 240, locals := 60 } : Room) D sv_cl (sv_ty cI cJ cZ) [.ref b, .int 60] ws z (z + 1) (fun r ws' => r = none ∧ ws' = ws.set b (.inr (3, [.ref z])) ++ [sv_J cJ 240 (fun _ => 0)]) sv_no 1 240 := by
  refine sv_of (cc := b_St_init) (by decide +kernel) (Nat.le_of_ble_eq_true rfl) ?_
  intro pX eX sX mX aX bX tX cX AX adX C htab hnm
  have hbb : Nat.ble (b + 1) z = true := Nat.ble_eq_true_of_le hbz
  have hb2 : (ws ++ [sv_J cJ 240 (fun _ => 0)])[b]? = some (.inr (3, [.null])) := by
    rw [List.getElem?_append_left (by omega)]
    exact hb
  refine sv_aload_n C d_St_init_0 rfl rfl ?_
  refine sv_objInit C m_St_3 o_i o_c d_St_init_1 (Nat.le_of_ble_eq_true rfl) (Nat.le_of_ble_eq_true rfl) ?_
  refine sv_aload_n C d_St_init_4 rfl rfl ?_
  refine sv_iload_n C d_St_init_5 rfl rfl ?_
  refine sv_iconst (v := 4) C d_St_init_6 rfl ?_
  refine sv_imul C d_St_init_7 ?_
  refine sv_newa (atype := .long) (ty := .long) (t0 := 1) (N := 240) (a0 := (240, .inr (.inl (fun _ => 0)))) (z := z) C rfl a_long rfl (fun _ _ => rfl) (fun _ => rfl) (by decide +kernel) (by decide +kernel) (by decide) d_St_init_8 hz hcl (by show (Nat.ble (b + 1) z && (true && true)) = true; rw [hbb]; rfl) (by show (Nat.ble (b + 1) z && true) = true; rw [hbb]; rfl) ⟨(Nat.le_of_ble_eq_true rfl), (Nat.le_of_ble_eq_true rfl)⟩ (fun q => ?_)
  refine sv_eqw (ws' := ws ++ [sv_J cJ 240 (fun _ => 0)]) rfl ?_
  refine sv_putF (ci := 3) (kf := 0) (ty := (.array .long)) C i_St t_St t_St_ok n_St rfl (by decide) f_St_11 (fun _ h9 => h9) rfl hnm rfl (by decide +kernel) d_St_init_10 (by first | assumption | rfl) rfl rfl (Nat.le_of_ble_eq_true rfl) ?_
  refine sv_eqw (ws' := ws.set b (.inr (3, [.ref z])) ++ [sv_J cJ 240 (fun _ => 0)]) (List.set_append_left _ _ (by omega)) ?_
  exact sv_vret C rfl d_St_init_13 (Nat.le_of_ble_eq_true rfl) (Nat.le_of_ble_eq_true rfl) (fun i hi => hu_n (by omega)) (⟨rfl, rfl⟩)
