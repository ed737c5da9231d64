/-- the cells while a Machine is made; s0: the StateLogic's own cell -/
def hB (cJ : ClassId) (s0 : va_E) (L : Nat → Nat → Int64) (V : Nat → Int32) (tl : List va_E) : List va_E :=
  s0 :: .inr (1, [.ref 2, .ref 4, .ref 6, .int (V 0), .int (V 1)]) :: .inr (3, [.ref 3]) :: sv_J cJ 4 (L 0) :: .inr (3, [.ref 5]) :: sv_J cJ 1024 (L 1) :: .inr (3, [.ref 7]) :: sv_J cJ 1024 (L 2) :: tl
set_option maxRecDepth 100000 in
set_option maxHeartbeats 8000000 in
theorem c_Ma_restart0 {l : Launch} {D : va_G} {cI cJ cZ : ClassId} {s0 : va_E} {L : Nat → Nat → Int64} {V : Nat → Int32} {tl : List va_E} {k : Nat} (hk : k ≤ 8) :
    sv_M l y_Ma_restart [Cond.code y_Ma_restart b_Ma_restart 3 none] ({ frames := 2, cells := 0, slots := 0, locals := 44 } : Room) D sv_cl (sv_ty cI cJ cZ) [.ref 1, .int (nI k)] (hB cJ s0 L V tl) 0 0 (fun r ws' => r = none ∧ ∃ f0 f1 f2 : Nat → Int64, ws' = hB cJ s0 (hu (hu (hu L 0 f0) 1 f1) 2 f2) (hu (hu V 0 (nI (2 ^ k))) 1 0) tl ∧ (∀ z, z < 256 → ss_b f0 0 z = decide (z < 2 ^ k)) ∧ (∀ a z, a < 256 → z < 256 → ss_b f1 a z = false) ∧ ∀ a z, a < 256 → z < 256 → ss_b f2 a z = false) sv_no 0 0 := by
  refine sv_of (cc := b_Ma_restart) (by decide +kernel) (Nat.le_of_ble_eq_true rfl) ?_
  intro pX eX sX mX aX bX tX cX AX adX C htab hnm
  have hp8 : 2 ^ k ≤ 256 := by
    have h := Nat.pow_le_pow_right (n := 2) (by omega) hk
    exact h
  have hp1 : 0 < 2 ^ k := Nat.two_pow_pos k
  refine sv_aload_n C d_Ma_restart_0 rfl rfl ?_
  refine sv_iconst (v := 1) C d_Ma_restart_1 rfl ?_
  refine sv_iload_n C d_Ma_restart_2 rfl rfl ?_
  refine sv_ishl C d_Ma_restart_3 ?_
  rw [ma_sh k (by omega)]
  refine sv_put (ci := 1) (kf := 3) (ty := .int) C i_Ma t_Ma t_Ma_ok n_Ma rfl (by decide) f_Ma_29 (fun _ h9 => h9) rfl (by decide +kernel) d_Ma_restart_4 (by first | assumption | rfl) rfl rfl (Nat.le_of_ble_eq_true rfl) ?_
  refine sv_aload_n C d_Ma_restart_7 rfl rfl ?_
  refine sv_iconst (v := 0) C d_Ma_restart_8 rfl ?_
  refine sv_put (ci := 1) (kf := 4) (ty := .int) C i_Ma t_Ma t_Ma_ok n_Ma rfl (by decide) f_Ma_33 (fun _ h9 => h9) rfl (by decide +kernel) d_Ma_restart_9 (by first | assumption | rfl) rfl rfl (Nat.le_of_ble_eq_true rfl) ?_
  refine sv_aload_n C d_Ma_restart_12 rfl rfl ?_
  refine sv_get (ci := 1) (kf := 0) C i_Ma rfl (by decide) f_Ma_14 (fun _ h9 => h9) d_Ma_restart_13 (by first | assumption | rfl) rfl ?_
  refine sv_eqw (ws' := hB cJ s0 L (hu (hu V 0 (nI (2 ^ k))) 1 0) tl) rfl ?_
  refine sv_callV (ci := 3) C (c_St_emptyAll (cI := cI) (cZ := cZ) (ws := hB cJ s0 L (hu (hu V 0 (nI (2 ^ k))) 1 0) tl) (b := 2) (w := 3) (N := 4) (f := L 0) rfl rfl (by decide)) s_Ma_36 ki_St_emptyAll ks_St_emptyAll ⟨rfl, rfl, Nat.le_of_ble_eq_true rfl, Nat.le_of_ble_eq_true rfl⟩ rfl d_Ma_restart_16 (by first | assumption | rfl) (Nat.le_of_ble_eq_true rfl) ⟨(Nat.le_of_ble_eq_true rfl), (Nat.le_of_ble_eq_true rfl)⟩ (fun E ws9 h9 => absurd h9 id) (fun v9 ws9 hp => ?_)
  obtain ⟨rfl, rfl⟩ := hp
  refine sv_aload_n C d_Ma_restart_19 rfl rfl ?_
  refine sv_get (ci := 1) (kf := 1) C i_Ma rfl (by decide) f_Ma_20 (fun _ h9 => h9) d_Ma_restart_20 (by first | assumption | rfl) rfl ?_
  refine sv_eqw (ws' := hB cJ s0 (hu L 0 (ss_fil (L 0) 4 0)) (hu (hu V 0 (nI (2 ^ k))) 1 0) tl) rfl ?_
  refine sv_callV (ci := 3) C (c_St_emptyAll (cI := cI) (cZ := cZ) (ws := hB cJ s0 (hu L 0 (ss_fil (L 0) 4 0)) (hu (hu V 0 (nI (2 ^ k))) 1 0) tl) (b := 4) (w := 5) (N := 1024) (f := L 1) rfl rfl (by decide)) s_Ma_36 ki_St_emptyAll ks_St_emptyAll ⟨rfl, rfl, Nat.le_of_ble_eq_true rfl, Nat.le_of_ble_eq_true rfl⟩ rfl d_Ma_restart_23 (by first | assumption | rfl) (Nat.le_of_ble_eq_true rfl) ⟨(Nat.le_of_ble_eq_true rfl), (Nat.le_of_ble_eq_true rfl)⟩ (fun E ws9 h9 => absurd h9 id) (fun v9 ws9 hp => ?_)
  obtain ⟨rfl, rfl⟩ := hp
  refine sv_aload_n C d_Ma_restart_26 rfl rfl ?_
  refine sv_get (ci := 1) (kf := 2) C i_Ma rfl (by decide) f_Ma_23 (fun _ h9 => h9) d_Ma_restart_27 (by first | assumption | rfl) rfl ?_
  refine sv_eqw (ws' := hB cJ s0 (hu (hu L 0 (ss_fil (L 0) 4 0)) 1 (ss_fil (L 1) 1024 0)) (hu (hu V 0 (nI (2 ^ k))) 1 0) tl) rfl ?_
  refine sv_callV (ci := 3) C (c_St_emptyAll (cI := cI) (cZ := cZ) (ws := hB cJ s0 (hu (hu L 0 (ss_fil (L 0) 4 0)) 1 (ss_fil (L 1) 1024 0)) (hu (hu V 0 (nI (2 ^ k))) 1 0) tl) (b := 6) (w := 7) (N := 1024) (f := L 2) rfl rfl (by decide)) s_Ma_36 ki_St_emptyAll ks_St_emptyAll ⟨rfl, rfl, Nat.le_of_ble_eq_true rfl, Nat.le_of_ble_eq_true rfl⟩ rfl d_Ma_restart_30 (by first | assumption | rfl) (Nat.le_of_ble_eq_true rfl) ⟨(Nat.le_of_ble_eq_true rfl), (Nat.le_of_ble_eq_true rfl)⟩ (fun E ws9 h9 => absurd h9 id) (fun v9 ws9 hp => ?_)
  obtain ⟨rfl, rfl⟩ := hp
  refine sv_iconst (v := 0) C d_Ma_restart_33 rfl ?_
  refine sv_istore_n C d_Ma_restart_34 rfl (by decide) rfl ?_
  refine sv_eqw (ws' := hB cJ s0 (hu (hu (hu L 0 (ss_fil (L 0) 4 0)) 1 (ss_fil (L 1) 1024 0)) 2 (ss_fil (L 2) 1024 0)) (hu (hu V 0 (nI (2 ^ k))) 1 0) tl) rfl ?_
  refine sv_ind (σ := Nat × (Nat → Int64)) (I := fun q => q.1 ≤ 2 ^ k ∧ ∀ z, z < 256 → ss_b q.2 0 z = decide (z < q.1)) (μ := fun q => 2 ^ k - q.1) (lv := fun q => [some (.ref 1), some (.int (nI k)), some (.int (nI q.1))]) (ws := fun q => hB cJ s0 (hu (hu (hu L 0 q.2) 1 (ss_fil (L 1) 1024 0)) 2 (ss_fil (L 2) 1024 0)) (hu (hu V 0 (nI (2 ^ k))) 1 0) tl) ?_ (0, ss_fil (L 0) 4 0) ⟨Nat.zero_le _, fun z hz => by rw [ss_fil_b _ _ _ _ hz (by omega)]; simp⟩
  rintro ⟨i, f⟩ ⟨hi, hf⟩ ih
  dsimp only at hi hf
  refine sv_iload_n C d_Ma_restart_35 rfl rfl ?_
  refine sv_aload_n C d_Ma_restart_36 rfl rfl ?_
  refine sv_get (ci := 1) (kf := 3) C i_Ma rfl (by decide) f_Ma_29 (fun _ h9 => h9) d_Ma_restart_37 (by first | assumption | rfl) rfl ?_
  refine sv_icmp_ge (tgt := 58) C d_Ma_restart_40 (by decide) (fun hT => ?_) (fun hF => ?_)
  · have h1 : 2 ^ k ≤ i := (nI_leI (a := 2 ^ k) (b := i) (by omega) (by omega)).mp hT
    have h2 : i = 2 ^ k := by omega
    exact sv_vret C rfl d_Ma_restart_58 (Nat.le_of_ble_eq_true rfl) (Nat.le_of_ble_eq_true rfl) (fun _ _ => rfl) (⟨rfl, f, _, _, rfl, fun z hz => by rw [hf z hz, h2], fun a z ha hz => ss_fil_b _ _ _ _ hz (by omega), fun a z ha hz => ss_fil_b _ _ _ _ hz (by omega)⟩)
  · have h1 : ¬ 2 ^ k ≤ i := fun h => hF ((nI_leI (a := 2 ^ k) (b := i) (by omega) (by omega)).mpr h)
    refine sv_aload_n C d_Ma_restart_43 rfl rfl ?_
    refine sv_get (ci := 1) (kf := 0) C i_Ma rfl (by decide) f_Ma_14 (fun _ h9 => h9) d_Ma_restart_44 (by first | assumption | rfl) rfl ?_
    refine sv_iconst (v := 0) C d_Ma_restart_47 rfl ?_
    refine sv_iload_n C d_Ma_restart_48 rfl rfl ?_
    refine sv_callV (ci := 3) C (c_St_put (cI := cI) (cZ := cZ) (ws := hB cJ s0 (hu (hu (hu L 0 f) 1 (ss_fil (L 1) 1024 0)) 2 (ss_fil (L 2) 1024 0)) (hu (hu V 0 (nI (2 ^ k))) 1 0) tl) (b := 2) (w := 3) (N := 4) (f := f) (a := 0) (x := i) rfl rfl (by decide) (by decide) (by omega)) s_Ma_39 ki_St_put ks_St_put ⟨rfl, rfl, Nat.le_of_ble_eq_true rfl, Nat.le_of_ble_eq_true rfl⟩ rfl d_Ma_restart_49 (by first | assumption | rfl) (Nat.le_of_ble_eq_true rfl) ⟨(Nat.le_of_ble_eq_true rfl), (Nat.le_of_ble_eq_true rfl)⟩ (fun E ws9 h9 => absurd h9 id) (fun v9 ws9 hp => ?_)
    obtain ⟨rfl, rfl⟩ := hp
    refine sv_iincN C d_Ma_restart_52 rfl (by decide) rfl ?_
    refine sv_goto (tgt := 35) C d_Ma_restart_55 (by decide) ?_
    refine ih (i + 1, ss_put f 0 i) ⟨by show i + 1 ≤ 2 ^ k; omega, fun z hz => ?_⟩ (by show 2 ^ k - (i + 1) < 2 ^ k - i; omega)
    show ss_b (ss_put f 0 i) 0 z = decide (z < i + 1)
    rw [ss_put_b f 0 i 0 z hz (by omega), hf z hz]
    by_cases e : z = i
    · simp [e]
    · by_cases h : z < i
      · have h2 : z < i + 1 := by omega
        simp [h, h2]
      · have h2 : ¬ z < i + 1 := by omega
        simp [e, h, h2]
