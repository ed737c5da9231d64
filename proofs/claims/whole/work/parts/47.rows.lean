/-! StateLogic$Formulas: the rest; StateLogic.hasTwoParts -/
set_option maxRecDepth 100000 in
set_option maxHeartbeats 4000000 in
theorem c_Fo_forgetAll {l : Launch} {D : va_G} {cI cJ cZ : ClassId} {L : Nat → Nat → Int64} {I : Nat → Nat → Int32} {V : Nat → Int32} {tl : List va_E} :
    sv_M l y_Fo_forgetAll [Cond.code y_Fo_forgetAll b_Fo_forgetAll 1 none] ({ frames := 0, cells := 0, slots := 0, locals := 0 } : Room) D sv_cl (sv_ty cI cJ cZ) [.ref 8] (hC cI cJ cZ L I V tl) 0 0 (fun r ws' => r = none ∧ ws' = hC cI cJ cZ L I (hu (hu V 3 0) 4 (-1)) tl) sv_no 0 0 := by
  refine sv_of (cc := b_Fo_forgetAll) (by decide +kernel) (Nat.le_of_ble_eq_true rfl) ?_
  intro pX eX sX mX aX bX tX cX AX adX C htab hnm
  refine sv_aload_n C d_Fo_forgetAll_0 rfl rfl ?_
  refine sv_iconst (v := 0) C d_Fo_forgetAll_1 rfl ?_
  refine sv_put (ci := 0) (kf := 8) (ty := .int) C i_Fo t_Fo t_Fo_ok n_Fo rfl (by decide) f_Fo_52 (fun _ h9 => h9) rfl (by decide +kernel) d_Fo_forgetAll_2 (by first | assumption | rfl) rfl rfl (Nat.le_of_ble_eq_true rfl) ?_
  refine sv_aload_n C d_Fo_forgetAll_5 rfl rfl ?_
  refine sv_iconst (v := (-1)) C d_Fo_forgetAll_6 rfl ?_
  refine sv_put (ci := 0) (kf := 9) (ty := .int) C i_Fo t_Fo t_Fo_ok n_Fo rfl (by decide) f_Fo_48 (fun _ h9 => h9) rfl (by decide +kernel) d_Fo_forgetAll_7 (by first | assumption | rfl) rfl rfl (Nat.le_of_ble_eq_true rfl) ?_
  exact sv_vret C rfl d_Fo_forgetAll_10 (Nat.le_of_ble_eq_true rfl) (Nat.le_of_ble_eq_true rfl) (fun _ _ => rfl) (⟨rfl, rfl⟩)
set_option maxRecDepth 100000 in
set_option maxHeartbeats 4000000 in
theorem c_Fo_isThere {l : Launch} {D : va_G} {cI cJ cZ : ClassId} {L : Nat → Nat → Int64} {I : Nat → Nat → Int32} {V : Nat → Int32} {tl : List va_E} {x : Int32} :
    sv_M l y_Fo_isThere [Cond.code y_Fo_isThere b_Fo_isThere 2 (some .boolean)] ({ frames := 0, cells := 0, slots := 0, locals := 0 } : Room) D sv_cl (sv_ty cI cJ cZ) [.ref 8, .int x] (hC cI cJ cZ L I V tl) 0 0 (fun r ws' => r = some (.int (if 0 ≤ x ∧ x < V 3 then 1 else 0)) ∧ ws' = hC cI cJ cZ L I V tl) sv_no 0 0 := by
  refine sv_of (cc := b_Fo_isThere) (by decide +kernel) (Nat.le_of_ble_eq_true rfl) ?_
  intro pX eX sX mX aX bX tX cX AX adX C htab hnm
  refine sv_iload_n C d_Fo_isThere_0 rfl rfl ?_
  refine sv_if_lt (tgt := 16) C d_Fo_isThere_1 (by decide) (fun hT => ?_) (fun hF => ?_)
  · have h : ¬ (0 ≤ x ∧ x < V 3) := fun h => absurd hT (Int32.not_lt.mpr h.1)
    refine sv_iconst (v := 0) C d_Fo_isThere_16 rfl ?_
    exact sv_iret C rfl rfl d_Fo_isThere_17 (Nat.le_of_ble_eq_true rfl) (Nat.le_of_ble_eq_true rfl) (fun _ _ => rfl) (by rw [if_neg h]; exact ⟨rfl, rfl⟩)
  · refine sv_iload_n C d_Fo_isThere_4 rfl rfl ?_
    refine sv_aload_n C d_Fo_isThere_5 rfl rfl ?_
    refine sv_get (ci := 0) (kf := 8) C i_Fo rfl (by decide) f_Fo_52 (fun _ h9 => h9) d_Fo_isThere_6 (by first | assumption | rfl) rfl ?_
    refine sv_icmp_ge (tgt := 16) C d_Fo_isThere_9 (by decide) (fun hT2 => ?_) (fun hF2 => ?_)
    · have h : ¬ (0 ≤ x ∧ x < V 3) := fun h => absurd hT2 (Int32.not_le.mpr h.2)
      refine sv_iconst (v := 0) C d_Fo_isThere_16 rfl ?_
      exact sv_iret C rfl rfl d_Fo_isThere_17 (Nat.le_of_ble_eq_true rfl) (Nat.le_of_ble_eq_true rfl) (fun _ _ => rfl) (by rw [if_neg h]; exact ⟨rfl, rfl⟩)
    · have h : 0 ≤ x ∧ x < V 3 := ⟨Int32.not_lt.mp hF, Int32.not_le.mp hF2⟩
      refine sv_iconst (v := 1) C d_Fo_isThere_12 rfl ?_
      refine sv_goto (tgt := 17) C d_Fo_isThere_13 (by decide) ?_
      exact sv_iret C rfl rfl d_Fo_isThere_17 (Nat.le_of_ble_eq_true rfl) (Nat.le_of_ble_eq_true rfl) (fun _ _ => rfl) (by rw [if_pos h]; exact ⟨rfl, rfl⟩)
def tp (k : Int32) : Prop := k = 2 ∨ k = 3 ∨ k = 5 ∨ k = 7
set_option maxRecDepth 100000 in
set_option maxHeartbeats 4000000 in
theorem c_SL_hasTwoParts {l : Launch} {D : va_G} {cI cJ cZ : ClassId} {ws : List va_E} {k : Int32} :
    sv_M l y_SL_hasTwoParts [Cond.code y_SL_hasTwoParts b_SL_hasTwoParts 1 (some .boolean)] ({ frames := 0, cells := 0, slots := 0, locals := 0 } : Room) D sv_cl (sv_ty cI cJ cZ) [.int k] ws 0 0 (fun r ws' => ∃ t : Bool, r = some (.int (b2i t)) ∧ (t = true ↔ tp k) ∧ ws' = ws) sv_no 0 0 := by
  refine sv_of (cc := b_SL_hasTwoParts) (by decide +kernel) (Nat.le_of_ble_eq_true rfl) ?_
  intro pX eX sX mX aX bX tX cX AX adX C htab hnm
  refine sv_iload_n C d_SL_hasTwoParts_0 rfl rfl ?_
  refine sv_iconst (v := 2) C d_SL_hasTwoParts_1 rfl ?_
  refine sv_icmp_eq (tgt := 21) C d_SL_hasTwoParts_2 (by decide) (fun h1 => ?_) (fun h1 => ?_)
  · refine sv_iconst (v := 1) C d_SL_hasTwoParts_21 rfl ?_
    refine sv_goto (tgt := 26) C d_SL_hasTwoParts_22 (by decide) ?_
    exact sv_iret C rfl rfl d_SL_hasTwoParts_26 (Nat.le_of_ble_eq_true rfl) (Nat.le_of_ble_eq_true rfl) (fun _ _ => rfl) (⟨true, rfl, ⟨fun _ => Or.inl h1, fun _ => rfl⟩, rfl⟩)
  · refine sv_iload_n C d_SL_hasTwoParts_5 rfl rfl ?_
    refine sv_iconst (v := 3) C d_SL_hasTwoParts_6 rfl ?_
    refine sv_icmp_eq (tgt := 21) C d_SL_hasTwoParts_7 (by decide) (fun h2 => ?_) (fun h2 => ?_)
    · refine sv_iconst (v := 1) C d_SL_hasTwoParts_21 rfl ?_
      refine sv_goto (tgt := 26) C d_SL_hasTwoParts_22 (by decide) ?_
      exact sv_iret C rfl rfl d_SL_hasTwoParts_26 (Nat.le_of_ble_eq_true rfl) (Nat.le_of_ble_eq_true rfl) (fun _ _ => rfl) (⟨true, rfl, ⟨fun _ => Or.inr (Or.inl h2), fun _ => rfl⟩, rfl⟩)
    · refine sv_iload_n C d_SL_hasTwoParts_10 rfl rfl ?_
      refine sv_iconst (v := 5) C d_SL_hasTwoParts_11 rfl ?_
      refine sv_icmp_eq (tgt := 21) C d_SL_hasTwoParts_12 (by decide) (fun h3 => ?_) (fun h3 => ?_)
      · refine sv_iconst (v := 1) C d_SL_hasTwoParts_21 rfl ?_
        refine sv_goto (tgt := 26) C d_SL_hasTwoParts_22 (by decide) ?_
        exact sv_iret C rfl rfl d_SL_hasTwoParts_26 (Nat.le_of_ble_eq_true rfl) (Nat.le_of_ble_eq_true rfl) (fun _ _ => rfl) (⟨true, rfl, ⟨fun _ => Or.inr (Or.inr (Or.inl h3)), fun _ => rfl⟩, rfl⟩)
      · refine sv_iload_n C d_SL_hasTwoParts_15 rfl rfl ?_
        refine sv_bipush (v := 7) C d_SL_hasTwoParts_16 rfl ?_
        refine sv_icmp_ne (tgt := 25) C d_SL_hasTwoParts_18 (by decide) (fun h4 => ?_) (fun h4 => ?_)
        · refine sv_iconst (v := 0) C d_SL_hasTwoParts_25 rfl ?_
          exact sv_iret C rfl rfl d_SL_hasTwoParts_26 (Nat.le_of_ble_eq_true rfl) (Nat.le_of_ble_eq_true rfl) (fun _ _ => rfl) (⟨false, rfl, ⟨fun h => absurd h (by decide), fun h => by rcases h with h | h | h | h; exact absurd h h1; exact absurd h h2; exact absurd h h3; exact absurd h h4⟩, rfl⟩)
        · refine sv_iconst (v := 1) C d_SL_hasTwoParts_21 rfl ?_
          refine sv_goto (tgt := 26) C d_SL_hasTwoParts_22 (by decide) ?_
          exact sv_iret C rfl rfl d_SL_hasTwoParts_26 (Nat.le_of_ble_eq_true rfl) (Nat.le_of_ble_eq_true rfl) (fun _ _ => rfl) (⟨true, rfl, ⟨fun _ => Or.inr (Or.inr (Or.inr h4)), fun _ => rfl⟩, rfl⟩)
set_option maxRecDepth 100000 in
set_option maxHeartbeats 4000000 in
theorem c_Fo_addFormula {l : Launch} {D : va_G} {cI cJ cZ : ClassId} {L : Nat → Nat → Int64} {I : Nat → Nat → Int32} {V : Nat → Int32} {tl : List va_E} {mk : Nat} {k x y : Int32} (hm : mk < 60) (hV : V 3 = nI mk) :
    sv_M l y_Fo_addFormula [Cond.code y_Fo_addFormula b_Fo_addFormula 4 (some .int)] ({ frames := 1, cells := 0, slots := 0, locals := 20 } : Room) D sv_cl (sv_ty cI cJ cZ) [.ref 8, .int k, .int x, .int y] (hC cI cJ cZ L I V tl) 0 0 (fun r ws' => r = some (.int (nI mk)) ∧ ∃ y' : Int32, ws' = hC cI cJ cZ L (hu (hu (hu (hu I 4 (upd (I 4) mk k)) 5 (upd (I 5) mk x)) 6 (upd (I 6) mk y')) 7 (upd (I 7) mk (-1))) (hu V 3 (nI (mk + 1))) tl ∧ ((k = 0 ∨ tp k) → y' = y) ∧ (¬ (k = 0 ∨ tp k) → y' = x)) sv_no 0 0 := by
  refine sv_of (cc := b_Fo_addFormula) (by decide +kernel) (Nat.le_of_ble_eq_true rfl) ?_
  intro pX eX sX mX aX bX tX cX AX adX C htab hnm
  have h1 : vp_in (V 3) 60 := by rw [hV]; exact vp_in_nI hm (by omega)
  have e1 : (V 3).toNatClampNeg = mk := by rw [hV]; exact nI_clamp (by omega)
  refine sv_join (σ := Int32) (pc1 := 44) (st1 := []) (k1 := 0) (n1 := 0) (J := fun _ => False) (lv1 := fun _ => []) (ws1 := fun _ => []) (fun _ h => absurd h id) (fun _ => ?_)
  refine sv_aload_n C d_Fo_addFormula_0 rfl rfl ?_
  refine sv_get (ci := 0) (kf := 3) C i_Fo rfl (by decide) f_Fo_27 (fun _ h9 => h9) d_Fo_addFormula_1 (by first | assumption | rfl) rfl ?_
  refine sv_aload_n C d_Fo_addFormula_4 rfl rfl ?_
  refine sv_get (ci := 0) (kf := 8) C i_Fo rfl (by decide) f_Fo_52 (fun _ h9 => h9) d_Fo_addFormula_5 (by first | assumption | rfl) rfl ?_
  refine sv_iload_n C d_Fo_addFormula_8 rfl rfl ?_
  refine sv_iast (t0 := 0) C rfl d_Fo_addFormula_9 (by first | assumption | rfl) (by assumption) ?_
  refine sv_aload_n C d_Fo_addFormula_10 rfl rfl ?_
  refine sv_get (ci := 0) (kf := 4) C i_Fo rfl (by decide) f_Fo_31 (fun _ h9 => h9) d_Fo_addFormula_11 (by first | assumption | rfl) rfl ?_
  refine sv_aload_n C d_Fo_addFormula_14 rfl rfl ?_
  refine sv_get (ci := 0) (kf := 8) C i_Fo rfl (by decide) f_Fo_52 (fun _ h9 => h9) d_Fo_addFormula_15 (by first | assumption | rfl) rfl ?_
  refine sv_iload_n C d_Fo_addFormula_18 rfl rfl ?_
  refine sv_iast (t0 := 0) C rfl d_Fo_addFormula_19 (by first | assumption | rfl) (by assumption) ?_
  refine sv_aload_n C d_Fo_addFormula_20 rfl rfl ?_
  refine sv_get (ci := 0) (kf := 5) C i_Fo rfl (by decide) f_Fo_34 (fun _ h9 => h9) d_Fo_addFormula_21 (by first | assumption | rfl) rfl ?_
  refine sv_aload_n C d_Fo_addFormula_24 rfl rfl ?_
  refine sv_get (ci := 0) (kf := 8) C i_Fo rfl (by decide) f_Fo_52 (fun _ h9 => h9) d_Fo_addFormula_25 (by first | assumption | rfl) rfl ?_
  refine sv_iload_n C d_Fo_addFormula_28 rfl rfl ?_
  have fin : ∀ y' : Int32, hC cI cJ cZ L (hu (hu (hu (hu I 4 (upd (I 4) (V 3).toNatClampNeg k)) 5 (upd (I 5) (V 3).toNatClampNeg x)) 6 (upd (I 6) (V 3).toNatClampNeg y')) 7 (upd (I 7) (V 3).toNatClampNeg (-1))) (hu V 3 (V 3 + 1)) tl = hC cI cJ cZ L (hu (hu (hu (hu I 4 (upd (I 4) mk k)) 5 (upd (I 5) mk x)) 6 (upd (I 6) mk y')) 7 (upd (I 7) mk (-1))) (hu V 3 (nI (mk + 1))) tl := fun y' => by rw [e1, hV, nI_1]
  have fin2 : V 3 + 1 - 1 = nI mk := by rw [hV, nI_1, nI_pred]
  refine sv_if_eq (tgt := 39) C d_Fo_addFormula_29 (by decide) (fun h2 => ?_) (fun h2 => ?_)
  · refine sv_iload_n C d_Fo_addFormula_39 rfl rfl ?_
    refine sv_goto (tgt := 44) C d_Fo_addFormula_40 (by decide) ?_
    refine sv_iast (t0 := 0) C rfl d_Fo_addFormula_44 (by first | assumption | rfl) (by assumption) ?_
    refine sv_aload_n C d_Fo_addFormula_45 rfl rfl ?_
    refine sv_get (ci := 0) (kf := 6) C i_Fo rfl (by decide) f_Fo_37 (fun _ h9 => h9) d_Fo_addFormula_46 (by first | assumption | rfl) rfl ?_
    refine sv_aload_n C d_Fo_addFormula_49 rfl rfl ?_
    refine sv_get (ci := 0) (kf := 8) C i_Fo rfl (by decide) f_Fo_52 (fun _ h9 => h9) d_Fo_addFormula_50 (by first | assumption | rfl) rfl ?_
    refine sv_iconst (v := (-1)) C d_Fo_addFormula_53 rfl ?_
    refine sv_iast (t0 := 0) C rfl d_Fo_addFormula_54 (by first | assumption | rfl) (by assumption) ?_
    refine sv_aload_n C d_Fo_addFormula_55 rfl rfl ?_
    refine sv_dup C d_Fo_addFormula_56 rfl ?_
    refine sv_get (ci := 0) (kf := 8) C i_Fo rfl (by decide) f_Fo_52 (fun _ h9 => h9) d_Fo_addFormula_57 (by first | assumption | rfl) rfl ?_
    refine sv_iconst (v := 1) C d_Fo_addFormula_60 rfl ?_
    refine sv_iadd C d_Fo_addFormula_61 ?_
    refine sv_put (ci := 0) (kf := 8) (ty := .int) C i_Fo t_Fo t_Fo_ok n_Fo rfl (by decide) f_Fo_52 (fun _ h9 => h9) rfl (by decide +kernel) d_Fo_addFormula_62 (by first | assumption | rfl) rfl rfl (Nat.le_of_ble_eq_true rfl) ?_
    refine sv_aload_n C d_Fo_addFormula_65 rfl rfl ?_
    refine sv_get (ci := 0) (kf := 8) C i_Fo rfl (by decide) f_Fo_52 (fun _ h9 => h9) d_Fo_addFormula_66 (by first | assumption | rfl) rfl ?_
    refine sv_iconst (v := 1) C d_Fo_addFormula_69 rfl ?_
    refine sv_isub C d_Fo_addFormula_70 ?_
    refine sv_eqs (st' := [.int (nI mk)]) (by rw [← fin2]) ?_
    refine sv_eqw (fin y) ?_
    exact sv_iret C rfl rfl d_Fo_addFormula_71 (Nat.le_of_ble_eq_true rfl) (Nat.le_of_ble_eq_true rfl) (fun _ _ => rfl) (⟨rfl, y, rfl, fun _ => rfl, fun h => absurd (Or.inl h2) h⟩)
  · refine sv_iload_n C d_Fo_addFormula_32 rfl rfl ?_
    refine sv_callSN C (c_SL_hasTwoParts (cI := cI) (cJ := cJ) (cZ := cZ) (k := k)) mn_Fo_55 z_SL k_SL_hasTwoParts kt_SL_hasTwoParts (by decide +kernel) (show (parseMethodDescriptor y_SL_hasTwoParts.desc).map (fun d => d.parameters.length) = some 1 by decide +kernel) ⟨rfl, rfl, Nat.le_of_ble_eq_true rfl, Nat.le_of_ble_eq_true rfl⟩ d_Fo_addFormula_33 (Nat.le_of_ble_eq_true rfl) ⟨(Nat.le_of_ble_eq_true rfl), (Nat.le_of_ble_eq_true rfl)⟩ (fun v9 ws9 hp => ?_)
    obtain ⟨t, rfl, ht, rfl⟩ := hp
    cases t with
    | true =>
      refine sv_if_eq (tgt := 43) C d_Fo_addFormula_36 (by decide) (fun h3 => ?_) (fun h3 => ?_)
      · exact absurd h3 (by decide)
      · refine sv_iload_n C d_Fo_addFormula_39 rfl rfl ?_
        refine sv_goto (tgt := 44) C d_Fo_addFormula_40 (by decide) ?_
        refine sv_iast (t0 := 0) C rfl d_Fo_addFormula_44 (by first | assumption | rfl) (by assumption) ?_
        refine sv_aload_n C d_Fo_addFormula_45 rfl rfl ?_
        refine sv_get (ci := 0) (kf := 6) C i_Fo rfl (by decide) f_Fo_37 (fun _ h9 => h9) d_Fo_addFormula_46 (by first | assumption | rfl) rfl ?_
        refine sv_aload_n C d_Fo_addFormula_49 rfl rfl ?_
        refine sv_get (ci := 0) (kf := 8) C i_Fo rfl (by decide) f_Fo_52 (fun _ h9 => h9) d_Fo_addFormula_50 (by first | assumption | rfl) rfl ?_
        refine sv_iconst (v := (-1)) C d_Fo_addFormula_53 rfl ?_
        refine sv_iast (t0 := 0) C rfl d_Fo_addFormula_54 (by first | assumption | rfl) (by assumption) ?_
        refine sv_aload_n C d_Fo_addFormula_55 rfl rfl ?_
        refine sv_dup C d_Fo_addFormula_56 rfl ?_
        refine sv_get (ci := 0) (kf := 8) C i_Fo rfl (by decide) f_Fo_52 (fun _ h9 => h9) d_Fo_addFormula_57 (by first | assumption | rfl) rfl ?_
        refine sv_iconst (v := 1) C d_Fo_addFormula_60 rfl ?_
        refine sv_iadd C d_Fo_addFormula_61 ?_
        refine sv_put (ci := 0) (kf := 8) (ty := .int) C i_Fo t_Fo t_Fo_ok n_Fo rfl (by decide) f_Fo_52 (fun _ h9 => h9) rfl (by decide +kernel) d_Fo_addFormula_62 (by first | assumption | rfl) rfl rfl (Nat.le_of_ble_eq_true rfl) ?_
        refine sv_aload_n C d_Fo_addFormula_65 rfl rfl ?_
        refine sv_get (ci := 0) (kf := 8) C i_Fo rfl (by decide) f_Fo_52 (fun _ h9 => h9) d_Fo_addFormula_66 (by first | assumption | rfl) rfl ?_
        refine sv_iconst (v := 1) C d_Fo_addFormula_69 rfl ?_
        refine sv_isub C d_Fo_addFormula_70 ?_
        refine sv_eqs (st' := [.int (nI mk)]) (by rw [← fin2]) ?_
        refine sv_eqw (fin y) ?_
        exact sv_iret C rfl rfl d_Fo_addFormula_71 (Nat.le_of_ble_eq_true rfl) (Nat.le_of_ble_eq_true rfl) (fun _ _ => rfl) (⟨rfl, y, rfl, fun _ => rfl, fun h => absurd (Or.inr (ht.mp rfl)) h⟩)
    | false =>
      refine sv_if_eq (tgt := 43) C d_Fo_addFormula_36 (by decide) (fun h3 => ?_) (fun h3 => ?_)
      · refine sv_iload_n C d_Fo_addFormula_43 rfl rfl ?_
        refine sv_iast (t0 := 0) C rfl d_Fo_addFormula_44 (by first | assumption | rfl) (by assumption) ?_
        refine sv_aload_n C d_Fo_addFormula_45 rfl rfl ?_
        refine sv_get (ci := 0) (kf := 6) C i_Fo rfl (by decide) f_Fo_37 (fun _ h9 => h9) d_Fo_addFormula_46 (by first | assumption | rfl) rfl ?_
        refine sv_aload_n C d_Fo_addFormula_49 rfl rfl ?_
        refine sv_get (ci := 0) (kf := 8) C i_Fo rfl (by decide) f_Fo_52 (fun _ h9 => h9) d_Fo_addFormula_50 (by first | assumption | rfl) rfl ?_
        refine sv_iconst (v := (-1)) C d_Fo_addFormula_53 rfl ?_
        refine sv_iast (t0 := 0) C rfl d_Fo_addFormula_54 (by first | assumption | rfl) (by assumption) ?_
        refine sv_aload_n C d_Fo_addFormula_55 rfl rfl ?_
        refine sv_dup C d_Fo_addFormula_56 rfl ?_
        refine sv_get (ci := 0) (kf := 8) C i_Fo rfl (by decide) f_Fo_52 (fun _ h9 => h9) d_Fo_addFormula_57 (by first | assumption | rfl) rfl ?_
        refine sv_iconst (v := 1) C d_Fo_addFormula_60 rfl ?_
        refine sv_iadd C d_Fo_addFormula_61 ?_
        refine sv_put (ci := 0) (kf := 8) (ty := .int) C i_Fo t_Fo t_Fo_ok n_Fo rfl (by decide) f_Fo_52 (fun _ h9 => h9) rfl (by decide +kernel) d_Fo_addFormula_62 (by first | assumption | rfl) rfl rfl (Nat.le_of_ble_eq_true rfl) ?_
        refine sv_aload_n C d_Fo_addFormula_65 rfl rfl ?_
        refine sv_get (ci := 0) (kf := 8) C i_Fo rfl (by decide) f_Fo_52 (fun _ h9 => h9) d_Fo_addFormula_66 (by first | assumption | rfl) rfl ?_
        refine sv_iconst (v := 1) C d_Fo_addFormula_69 rfl ?_
        refine sv_isub C d_Fo_addFormula_70 ?_
        refine sv_eqs (st' := [.int (nI mk)]) (by rw [← fin2]) ?_
        refine sv_eqw (fin x) ?_
        exact sv_iret C rfl rfl d_Fo_addFormula_71 (Nat.le_of_ble_eq_true rfl) (Nat.le_of_ble_eq_true rfl) (fun _ _ => rfl) (⟨rfl, x, rfl, fun h => h.elim (fun q => absurd q h2) (fun q => absurd (ht.mpr q) (by decide)), fun _ => rfl⟩)
      · exact absurd rfl h3
/-- the fewest steps -/
def umin (S : Nat → Nat → Prop) (X Y : Nat → Prop) (d z : Nat) : Prop := um S X Y d z ∧ ∀ k, um S X Y k z → d ≤ k
theorem umin_eq {S : Nat → Nat → Prop} {X Y : Nat → Prop} {d d' z : Nat} (h : umin S X Y d z) (h' : umin S X Y d' z) : d = d' := Nat.le_antisymm (h.2 _ h'.1) (h'.2 _ h.1)
/-- the next state of the witness -/
def wst (S : Nat → Nat → Prop) (X Y : Nat → Prop) (u t : Nat) : Prop := ∃ d, umin S X Y (d + 1) u ∧ S u t ∧ umin S X Y d t ∧ ∀ t', t' < t → S u t' → ¬ umin S X Y d t'
def wit (S : Nat → Nat → Prop) (X Y : Nat → Prop) (s : Nat) : Nat → Nat → Prop
  | 0, t => t = s
  | k + 1, t => ∃ u, wit S X Y s k u ∧ wst S X Y u t
theorem umin_step {S : Nat → Nat → Prop} {X Y : Nat → Prop} {d u : Nat} (h : umin S X Y (d + 1) u) : ∃ t, S u t ∧ umin S X Y d t := by
  obtain ⟨⟨y, hy, c, hc, hst⟩, hmin⟩ := h
  refine ⟨c, hc.2, ⟨y, hy, hst⟩, fun k hk => ?_⟩
  obtain ⟨y', hy', hst'⟩ := hk
  have := hmin (k + 1) ⟨y', hy', c, hc, hst'⟩
  omega
set_option maxRecDepth 100000 in
set_option maxHeartbeats 8000000 in
theorem c_Fo_rowLength {l : Launch} {D : va_G} {cI cJ cZ : ClassId} {L : Nat → Nat → Int64} {I : Nat → Nat → Int32} {V : Nat → Int32} {tl : List va_E} {n r mk f s : Nat} {kd xs ys : Nat → Nat} (hok : fo_ok L I V n r mk kd xs ys (fun _ => false)) (hf : f < mk) (h5 : kd f = 5) (h7 : I 7 f = nI r) (hs : s < 2 ^ n) :
    sv_M l y_Fo_rowLength [Cond.code y_Fo_rowLength b_Fo_rowLength 4 (some .int)] ({ frames := 4, cells := 0, slots := 0, locals := 127 } : Room) D sv_cl (sv_ty cI cJ cZ) [.ref 8, .int (nI f), .int (nI s)] (hC cI cJ cZ L I V tl) 0 0 (fun q ws' => ∃ (L' : Nat → Nat → Int64) (I' : Nat → Nat → Int32) (V' : Nat → Int32), ws' = hC cI cJ cZ L' I' V' tl ∧ fo_ok L' I' V' n r mk kd xs ys (fun _ => false) ∧ I' 7 f = nI r ∧ L' 0 = L 0 ∧ L' 1 = L 1 ∧ L' 2 = L 2 ∧ (∀ c, ev_T (L' 4) c = ev_T (L 4) c) ∧ un_ok (ev_S (L 1)) (ev_T (L 4) (xs f)) (ev_T (L 4) (ys f)) (2 ^ n) (I' 1) ∧
      ((∃ d, d < 256 ∧ q = some (.int (nI (d + 1))) ∧ umin (ev_S (L 1)) (ev_T (L 4) (xs f)) (ev_T (L 4) (ys f)) d s) ∨ (q = some (.int 0) ∧ ∀ k, ¬ um (ev_S (L 1)) (ev_T (L 4) (xs f)) (ev_T (L 4) (ys f)) k s))) sv_no 0 0 := by
  refine sv_of (cc := b_Fo_rowLength) (by decide +kernel) (Nat.le_of_ble_eq_true rfl) ?_
  intro pX eX sX mX aX bX tX cX AX adX C htab hnm
  have hok' := hok
  obtain ⟨⟨hn, hV0, hV1, hr40, hV3, hmk, hall, hSP⟩, hfm, hset, hst, hwa, hme⟩ := hok'
  have hp8 := pow_le8 hn
  obtain ⟨k1, k2, k3, k4, k5, k6, k7⟩ := hfm f hf
  have k6 := k6 (by omega)
  have hsin : vp_in (nI s) 256 := vp_in_nI (by omega) (by omega)
  have hsc : (nI s).toNatClampNeg = s := nI_clamp (by omega)
  have hst1 := hst f hf h7
  have hst2 := hst1.1 (by omega)
  refine sv_join (σ := (Nat → Nat → Int64) × (Nat → Nat → Int32) × (Nat → Int32)) (pc1 := 13) (st1 := []) (k1 := 0) (n1 := 0) (J := fun q => fo_ok q.1 q.2.1 q.2.2 n r mk kd xs ys (fun _ => false) ∧ q.2.1 7 f = nI r ∧ q.1 0 = L 0 ∧ q.1 1 = L 1 ∧ q.1 2 = L 2 ∧ (∀ c, ev_T (q.1 4) c = ev_T (L 4) c) ∧ un_ok (ev_S (L 1)) (ev_T (L 4) (xs f)) (ev_T (L 4) (ys f)) (2 ^ n) (q.2.1 1)) (lv1 := fun _ => [some (.ref 8), some (.int (nI f)), some (.int (nI s)), none]) (ws1 := fun q => hC cI cJ cZ q.1 q.2.1 q.2.2 tl) ?_ (fun hj => ?_)
  · rintro ⟨L', I', V'⟩ ⟨g1, g2, g3, g4, g5, g6, g7⟩
    dsimp only at g1 g2 g3 g4 g5 g6 g7
    refine sv_aload_n C d_Fo_rowLength_13 rfl rfl ?_
    refine sv_get (ci := 0) (kf := 1) C i_Fo rfl (by decide) f_Fo_12 (fun _ h9 => h9) d_Fo_rowLength_14 (by first | assumption | rfl) rfl ?_
    refine sv_get (ci := 2) (kf := 2) C i_Se rfl (by decide) f_Fo_115 (fun _ h9 => h9) d_Fo_rowLength_17 (by first | assumption | rfl) rfl ?_
    refine sv_iload_n C d_Fo_rowLength_20 rfl rfl ?_
    refine sv_iald (t0 := 0) C rfl d_Fo_rowLength_21 (by first | assumption | rfl) (by assumption) ?_
    refine sv_eqs (st' := [.int (I' 1 s)]) (by rw [hsc]) ?_
    rcases g7 s hs with ⟨d, hd, e1, e2, e3⟩ | ⟨e1, e2⟩
    · rw [e1]
      refine sv_istore_n C d_Fo_rowLength_22 rfl (by decide) rfl ?_
      refine sv_iload_n C d_Fo_rowLength_23 rfl rfl ?_
      refine sv_iconst (v := (-1)) C d_Fo_rowLength_24 rfl ?_
      refine sv_icmp_ne (tgt := 32) C d_Fo_rowLength_25 (by decide) (fun h1 => ?_) (fun h1 => ?_)
      · refine sv_iload_n C d_Fo_rowLength_32 rfl rfl ?_
        refine sv_iconst (v := 1) C d_Fo_rowLength_33 rfl ?_
        refine sv_iadd C d_Fo_rowLength_34 ?_
        refine sv_eqs (st' := [.int (nI (d + 1))]) (by rw [← nI_1]) ?_
        exact sv_iret C rfl rfl d_Fo_rowLength_35 (Nat.le_of_ble_eq_true rfl) (Nat.le_of_ble_eq_true rfl) (fun _ _ => rfl) (⟨L', I', V', rfl, g1, g2, g3, g4, g5, g6, g7, Or.inl ⟨d, hd, rfl, e2, e3⟩⟩)
      · exact absurd h1 (sp_m1 (by omega))
    · rw [e1]
      refine sv_istore_n C d_Fo_rowLength_22 rfl (by decide) rfl ?_
      refine sv_iload_n C d_Fo_rowLength_23 rfl rfl ?_
      refine sv_iconst (v := (-1)) C d_Fo_rowLength_24 rfl ?_
      refine sv_icmp_ne (tgt := 32) C d_Fo_rowLength_25 (by decide) (fun h1 => ?_) (fun h1 => ?_)
      · exact absurd rfl h1
      · refine sv_iconst (v := 0) C d_Fo_rowLength_28 rfl ?_
        refine sv_goto (tgt := 35) C d_Fo_rowLength_29 (by decide) ?_
        exact sv_iret C rfl rfl d_Fo_rowLength_35 (Nat.le_of_ble_eq_true rfl) (Nat.le_of_ble_eq_true rfl) (fun _ _ => rfl) (⟨L', I', V', rfl, g1, g2, g3, g4, g5, g6, g7, Or.inr ⟨rfl, e2⟩⟩)
  · refine sv_aload_n C d_Fo_rowLength_0 rfl rfl ?_
    refine sv_get (ci := 0) (kf := 9) C i_Fo rfl (by decide) f_Fo_48 (fun _ h9 => h9) d_Fo_rowLength_1 (by first | assumption | rfl) rfl ?_
    refine sv_iload_n C d_Fo_rowLength_4 rfl rfl ?_
    refine sv_icmp_eq (tgt := 13) C d_Fo_rowLength_5 (by decide) (fun h1 => ?_) (fun h1 => ?_)
    · refine hj (L, I, V) ⟨hok, h7, rfl, rfl, rfl, fun _ => rfl, ?_⟩
      rcases hme with g | ⟨j, g1, g2, g3, g4⟩
      · exact absurd (h1.symm.trans g) (sp_m1 (by omega))
      · have e := nI_inj (by omega) (by omega) (g2.symm.trans h1)
        subst e
        exact g4 h7
    · refine sv_aload_n C d_Fo_rowLength_8 rfl rfl ?_
      refine sv_iload_n C d_Fo_rowLength_9 rfl rfl ?_
      refine sv_callV (ci := 0) C (c_Fo_evaluateUntil (cI := cI) (cJ := cJ) (cZ := cZ) (L := L) (I := I) (V := V) (tl := tl) (n := n) (f := f) (x := xs f) (y := ys f) hn hV0 (by omega) k2 k3 k6.1 k6.2 hSP (fun z hz => (((hst (xs f) (by omega) hst2.1).2 z).mp hz).1) (fun z hz => (((hst (ys f) (by omega) hst2.2).2 z).mp hz).1)) s_Fo_82 ki_Fo_evaluateUntil ks_Fo_evaluateUntil ⟨rfl, rfl, Nat.le_of_ble_eq_true rfl, Nat.le_of_ble_eq_true rfl⟩ rfl d_Fo_rowLength_10 (by first | assumption | rfl) (Nat.le_of_ble_eq_true rfl) ⟨(Nat.le_of_ble_eq_true rfl), (Nat.le_of_ble_eq_true rfl)⟩ (fun E ws9 h9 => absurd h9 id) (fun v9 ws9 hp => ?_)
      obtain ⟨rfl, fO, fT, I0, I1, v2, rfl, hT, hun⟩ := hp
      have hev : ∀ c, ev_T fT c = ev_T (L 4) c := fun c => by
        funext z
        refine propext ⟨fun q => ?_, fun q => ⟨q.1, (hT c z q.1).mpr (Or.inl q.2)⟩⟩
        rcases (hT c z q.1).mp q.2 with g | ⟨e, m, g⟩
        · exact ⟨q.1, g⟩
        · rw [e]
          refine (hst1.2 z).mpr ⟨?_, ?_⟩
          · obtain ⟨t, ht, hs9⟩ := g
            cases m with
            | zero =>
              have hs9 : z = t := hs9
              rw [hs9]
              exact (((hst (ys f) (by omega) hst2.2).2 t).mp ht).1
            | succ m =>
              obtain ⟨c, hc, -⟩ := hs9
              exact (((hst (xs f) (by omega) hst2.1).2 z).mp hc.1).1
          · rw [h5]
            exact ⟨m, g⟩
      have hevT : ev_T fT = ev_T (L 4) := funext hev
      refine hj (hu (hu L 3 fO) 4 fT, hu (hu I 0 I0) 1 I1, hu (hu V 2 v2) 4 (nI f)) ⟨⟨⟨hn, hV0, hV1, hr40, hV3, hmk, hall, hSP⟩, hfm, hset, fun j hj9 hj7 => ?_, hwa, Or.inr ⟨f, hf, rfl, h5, fun _ => ?_⟩⟩, h7, rfl, rfl, rfl, hev, hun⟩
      · show (kd j ≠ 0 → I 7 (xs j) = nI r ∧ I 7 (ys j) = nI r) ∧ ∀ z, ev_T fT j z ↔ (z < 2 ^ n ∧ fm_v (ev_S (L 1)) (ev_T fT) (kd j) (xs j) (ys j) z)
        rw [hevT]
        exact hst j hj9 hj7
      · show un_ok (ev_S (L 1)) (ev_T fT (xs f)) (ev_T fT (ys f)) (2 ^ n) I1
        rw [hevT]
        exact hun
set_option maxRecDepth 100000 in
set_option maxHeartbeats 8000000 in
theorem c_Fo_nearerState {l : Launch} {D : va_G} {cI cJ cZ : ClassId} {L : Nat → Nat → Int64} {I : Nat → Nat → Int32} {V : Nat → Int32} {tl : List va_E} {n s d : Nat} {X Y : Nat → Prop} (hn : n ≤ 8) (hun : un_ok (ev_S (L 1)) X Y (2 ^ n) (I 1)) (hSN : ∀ a b, a < 256 → ev_S (L 1) a b → b < 2 ^ n) (hs : s < 2 ^ n) (hd : umin (ev_S (L 1)) X Y (d + 1) s) :
    sv_M l y_Fo_nearerState [Cond.code y_Fo_nearerState b_Fo_nearerState 5 (some .int)] ({ frames := 2, cells := 0, slots := 0, locals := 48 } : Room) D sv_cl (sv_ty cI cJ cZ) [.ref 8, .int (nI s)] (hC cI cJ cZ L I V tl) 0 0 (fun q ws' => (∃ t, t < 2 ^ n ∧ q = some (.int (nI t)) ∧ wst (ev_S (L 1)) X Y s t) ∧ ws' = hC cI cJ cZ L I V tl) sv_no 0 0 := by
  refine sv_of (cc := b_Fo_nearerState) (by decide +kernel) (Nat.le_of_ble_eq_true rfl) ?_
  intro pX eX sX mX aX bX tX cX AX adX C htab hnm
  have hp8 := pow_le8 hn
  have hsin : vp_in (nI s) 256 := vp_in_nI (by omega) (by omega)
  have hsc : (nI s).toNatClampNeg = s := nI_clamp (by omega)
  have hds : I 1 s = nI (d + 1) := by
    rcases hun s hs with ⟨d', -, e1, e2, e3⟩ | ⟨-, e2⟩
    · rw [e1, umin_eq ⟨e2, e3⟩ hd]
    · exact absurd hd.1 (e2 _)
  have hd256 : d < 256 := by
    rcases hun s hs with ⟨d', h1, e1, e2, e3⟩ | ⟨-, e2⟩
    · have := umin_eq ⟨e2, e3⟩ hd
      omega
    · exact absurd hd.1 (e2 _)
  have hiff : ∀ t, t < 2 ^ n → (I 1 t = nI d ↔ umin (ev_S (L 1)) X Y d t) := fun t ht => by
    rcases hun t ht with ⟨d', h1, e1, e2, e3⟩ | ⟨e1, e2⟩
    · constructor
      · intro h
        rw [e1] at h
        rw [← nI_inj (by omega) (by omega) h]
        exact ⟨e2, e3⟩
      · intro h
        rw [e1, umin_eq ⟨e2, e3⟩ h]
    · exact ⟨fun h => absurd (h.symm.trans e1) (sp_m1 (by omega)), fun h => absurd h.1 (e2 _)⟩
  obtain ⟨t0, ht0, hm0⟩ := umin_step hd
  refine sv_aload_n C d_Fo_nearerState_0 rfl rfl ?_
  refine sv_get (ci := 0) (kf := 1) C i_Fo rfl (by decide) f_Fo_12 (fun _ h9 => h9) d_Fo_nearerState_1 (by first | assumption | rfl) rfl ?_
  refine sv_get (ci := 2) (kf := 2) C i_Se rfl (by decide) f_Fo_115 (fun _ h9 => h9) d_Fo_nearerState_4 (by first | assumption | rfl) rfl ?_
  refine sv_iload_n C d_Fo_nearerState_7 rfl rfl ?_
  refine sv_iald (t0 := 0) C rfl d_Fo_nearerState_8 (by first | assumption | rfl) (by assumption) ?_
  refine sv_iconst (v := 1) C d_Fo_nearerState_9 rfl ?_
  refine sv_isub C d_Fo_nearerState_10 ?_
  refine sv_eqs (st' := [.int (nI d)]) (by show [Value.int (I 1 (nI s).toNatClampNeg - 1)] = _; rw [hsc, hds, nI_pred]) ?_
  refine sv_istore_n C d_Fo_nearerState_11 rfl (by decide) rfl ?_
  refine sv_aload_n C d_Fo_nearerState_12 rfl rfl ?_
  refine sv_get (ci := 0) (kf := 0) C i_Fo rfl (by decide) f_Fo_44 (fun _ h9 => h9) d_Fo_nearerState_13 (by first | assumption | rfl) rfl ?_
  refine sv_get (ci := 1) (kf := 1) C i_Ma rfl (by decide) f_Fo_104 (fun _ h9 => h9) d_Fo_nearerState_16 (by first | assumption | rfl) rfl ?_
  refine sv_iload_n C d_Fo_nearerState_19 rfl rfl ?_
  refine sv_iconst (v := 0) C d_Fo_nearerState_20 rfl ?_
  refine sv_callV (ci := 3) C (c_St_leastFrom (cI := cI) (cZ := cZ) (ws := hC cI cJ cZ L I V tl) (b := 4) (w := 5) (N := 1024) (a := s) (x := 0) (f := L 1) rfl rfl (by omega) (by decide) (by omega)) s_Fo_161 ki_St_leastFrom ks_St_leastFrom ⟨rfl, rfl, Nat.le_of_ble_eq_true rfl, Nat.le_of_ble_eq_true rfl⟩ rfl d_Fo_nearerState_21 (by first | assumption | rfl) (Nat.le_of_ble_eq_true rfl) ⟨(Nat.le_of_ble_eq_true rfl), (Nat.le_of_ble_eq_true rfl)⟩ (fun E ws9 h9 => absurd h9 id) (fun v9 ws9 hp => ?_)
  obtain ⟨hle, rfl⟩ := hp
  have hpd : ∃ pd : Option Nat, v9 = some (.int (sp_p pd)) ∧ (match pd with | none => ∀ z, 0 ≤ z → z < 256 → ss_b (L 1) s z = false | some y => y < 256 ∧ ss_b (L 1) s y = true ∧ ∀ z, 0 ≤ z → z < y → ss_b (L 1) s z = false) := by
    rcases hle with ⟨e1, e2⟩ | ⟨y, e1, e2, -, e3, e4⟩
    · exact ⟨none, e1, e2⟩
    · exact ⟨some y, e1, e2, e3, e4⟩
  obtain ⟨pd, rfl, hpd⟩ := hpd
  refine sv_istore_n C d_Fo_nearerState_24 rfl (by decide) rfl ?_
  refine sv_iconst (v := 0) C d_Fo_nearerState_25 rfl ?_
  refine sv_istore C d_Fo_nearerState_26 (by decide) rfl ?_
  refine sv_ind (σ := Nat × Nat × Option Nat) (I := fun q => q.1 ≤ q.2.1 ∧ (∀ z, z < q.2.1 → ss_b (L 1) s z = true → I 1 z ≠ nI d) ∧ (match q.2.2 with | none => ∀ z, q.2.1 ≤ z → z < 256 → ss_b (L 1) s z = false | some y => y < 256 ∧ q.2.1 ≤ y ∧ ss_b (L 1) s y = true ∧ ∀ z, q.2.1 ≤ z → z < y → ss_b (L 1) s z = false)) (μ := fun q => 256 - q.2.1)
    (lv := fun q => [some (.ref 8), some (.int (nI s)), some (.int (nI d)), some (.int (sp_p q.2.2)), some (.int (nI q.1))]) (ws := fun _ => hC cI cJ cZ L I V tl) ?_ (0, 0, pd) ⟨Nat.le_refl _, fun z hz => absurd hz (Nat.not_lt_zero z), ?_⟩
  rotate_left
  · cases pd with
    | none => exact hpd
    | some y => exact ⟨hpd.1, Nat.zero_le _, hpd.2.1, hpd.2.2⟩
  clear hpd hle
  rintro ⟨t, lo, pd⟩ ⟨htl, hlo, hpd⟩ ih
  dsimp only at htl hlo hpd ih
  cases pd with
  | none =>
    exfalso
    have hpd : ∀ z, lo ≤ z → z < 256 → ss_b (L 1) s z = false := hpd
    by_cases h : t0 < lo
    · exact hlo t0 h ht0.2 ((hiff t0 (hSN _ _ (by omega) ht0)).mpr hm0)
    · have h9 := hpd t0 (by omega) ht0.1
      rw [ht0.2] at h9
      exact absurd h9 (by decide)
  | some y =>
    obtain ⟨hy, hloy, hSy, hnoy⟩ := hpd
    have hyN : y < 2 ^ n := hSN s y (by omega) ⟨hy, hSy⟩
    have hyin : vp_in (nI y) 256 := vp_in_nI hy (by omega)
    have hyc : (nI y).toNatClampNeg = y := nI_clamp (by omega)
    refine sv_iload_n C d_Fo_nearerState_28 rfl rfl ?_
    refine sv_iconst (v := (-1)) C d_Fo_nearerState_29 rfl ?_
    refine sv_icmp_eq (tgt := 77) C d_Fo_nearerState_30 (by decide) (fun h1 => ?_) (fun h1 => ?_)
    · exact absurd h1 (sp_m1 (by omega))
    · refine sv_iload C d_Fo_nearerState_33 rfl ?_
      refine sv_sipush (v := 256) C d_Fo_nearerState_35 rfl ?_
      refine sv_icmp_ge (tgt := 77) C d_Fo_nearerState_38 (by decide) (fun h2 => ?_) (fun h2 => ?_)
      · exfalso
        have h2 : 256 ≤ t := by
          refine Classical.byContradiction (fun hn => ?_)
          have h3 : ¬ nI 256 ≤ nI t := fun q => hn ((nI_leI (by omega) (by omega)).mp q)
          exact h3 h2
        omega
      · refine sv_aload_n C d_Fo_nearerState_41 rfl rfl ?_
        refine sv_get (ci := 0) (kf := 1) C i_Fo rfl (by decide) f_Fo_12 (fun _ h9 => h9) d_Fo_nearerState_42 (by first | assumption | rfl) rfl ?_
        refine sv_get (ci := 2) (kf := 2) C i_Se rfl (by decide) f_Fo_115 (fun _ h9 => h9) d_Fo_nearerState_45 (by first | assumption | rfl) rfl ?_
        refine sv_iload_n C d_Fo_nearerState_48 rfl rfl ?_
        refine sv_iald (t0 := 0) C rfl d_Fo_nearerState_49 (by first | assumption | rfl) hyin ?_
        refine sv_iload_n C d_Fo_nearerState_50 rfl rfl ?_
        refine sv_eqs (st' := [.int (nI d), .int (I 1 y)]) (by show [_, Value.int (I 1 (nI y).toNatClampNeg)] = _; rw [hyc]) ?_
        refine sv_icmp_ne (tgt := 56) C d_Fo_nearerState_51 (by decide) (fun h3 => ?_) (fun h3 => ?_)
        · refine sv_aload_n C d_Fo_nearerState_56 rfl rfl ?_
          refine sv_get (ci := 0) (kf := 0) C i_Fo rfl (by decide) f_Fo_44 (fun _ h9 => h9) d_Fo_nearerState_57 (by first | assumption | rfl) rfl ?_
          refine sv_get (ci := 1) (kf := 1) C i_Ma rfl (by decide) f_Fo_104 (fun _ h9 => h9) d_Fo_nearerState_60 (by first | assumption | rfl) rfl ?_
          refine sv_iload_n C d_Fo_nearerState_63 rfl rfl ?_
          refine sv_iload_n C d_Fo_nearerState_64 rfl rfl ?_
          refine sv_iconst (v := 1) C d_Fo_nearerState_65 rfl ?_
          refine sv_iadd C d_Fo_nearerState_66 ?_
          refine sv_eqs (st' := [.int (nI (y + 1)), .int (nI s), .ref 4]) (by rw [← nI_1]; rfl) ?_
          refine sv_callV (ci := 3) C (c_St_leastFrom (cI := cI) (cZ := cZ) (ws := hC cI cJ cZ L I V tl) (b := 4) (w := 5) (N := 1024) (a := s) (x := y + 1) (f := L 1) rfl rfl (by omega) (by decide) (by omega)) s_Fo_161 ki_St_leastFrom ks_St_leastFrom ⟨rfl, rfl, Nat.le_of_ble_eq_true rfl, Nat.le_of_ble_eq_true rfl⟩ rfl d_Fo_nearerState_67 (by first | assumption | rfl) (Nat.le_of_ble_eq_true rfl) ⟨(Nat.le_of_ble_eq_true rfl), (Nat.le_of_ble_eq_true rfl)⟩ (fun E ws9 h9 => absurd h9 id) (fun v9 ws9 hp => ?_)
          obtain ⟨hle, rfl⟩ := hp
          have hpd : ∃ pd : Option Nat, v9 = some (.int (sp_p pd)) ∧ (match pd with | none => ∀ z, y + 1 ≤ z → z < 256 → ss_b (L 1) s z = false | some y' => y' < 256 ∧ y + 1 ≤ y' ∧ ss_b (L 1) s y' = true ∧ ∀ z, y + 1 ≤ z → z < y' → ss_b (L 1) s z = false) := by
            rcases hle with ⟨e1, e2⟩ | ⟨y', e1, e2, e5, e3, e4⟩
            · exact ⟨none, e1, e2⟩
            · exact ⟨some y', e1, e2, e5, e3, e4⟩
          obtain ⟨pd, rfl, hpd⟩ := hpd
          refine sv_istore_n C d_Fo_nearerState_70 rfl (by decide) rfl ?_
          refine sv_iincN C d_Fo_nearerState_71 rfl (by decide) rfl ?_
          refine sv_goto (tgt := 28) C d_Fo_nearerState_74 (by decide) ?_
          refine ih (t + 1, y + 1, pd) ⟨by dsimp only; omega, fun z hz hS => ?_, hpd⟩ (by dsimp only; omega)
          dsimp only at hz
          by_cases e1 : z = y
          · rw [e1]
            exact h3
          · by_cases e2 : z < lo
            · exact hlo z e2 hS
            · rw [hnoy z (by omega) (by omega)] at hS
              exact absurd hS (by decide)
        · refine sv_iload_n C d_Fo_nearerState_54 rfl rfl ?_
          refine sv_iret C rfl rfl d_Fo_nearerState_55 (Nat.le_of_ble_eq_true rfl) (Nat.le_of_ble_eq_true rfl) (fun _ _ => rfl) (⟨⟨y, hyN, rfl, d, hd, ⟨hy, hSy⟩, (hiff y hyN).mp h3, fun t' ht' hS' hm' => ?_⟩, rfl⟩)
          by_cases e2 : t' < lo
          · exact hlo t' e2 hS'.2 ((hiff t' (hSN _ _ (by omega) hS')).mpr hm')
          · have h9 := hnoy t' (by omega) ht'
            rw [hS'.2] at h9
            exact absurd h9 (by decide)
set_option maxRecDepth 100000 in
set_option maxHeartbeats 8000000 in
theorem c_Fo_rowState {l : Launch} {D : va_G} {cI cJ cZ : ClassId} {L : Nat → Nat → Int64} {I : Nat → Nat → Int32} {V : Nat → Int32} {tl : List va_E} {n s k d : Nat} {X Y : Nat → Prop} (hn : n ≤ 8) (hun : un_ok (ev_S (L 1)) X Y (2 ^ n) (I 1)) (hSN : ∀ a b, a < 256 → ev_S (L 1) a b → b < 2 ^ n) (hs : s < 2 ^ n) (hd : umin (ev_S (L 1)) X Y d s) (hd2 : d < 256) (hk : k ≤ d) :
    sv_M l y_Fo_rowState [Cond.code y_Fo_rowState b_Fo_rowState 5 (some .int)] ({ frames := 3, cells := 0, slots := 0, locals := 72 } : Room) D sv_cl (sv_ty cI cJ cZ) [.ref 8, .int (nI s), .int (nI k)] (hC cI cJ cZ L I V tl) 0 0 (fun q ws' => (∃ t, t < 2 ^ n ∧ q = some (.int (nI t)) ∧ wit (ev_S (L 1)) X Y s k t) ∧ ws' = hC cI cJ cZ L I V tl) sv_no 0 0 := by
  refine sv_of (cc := b_Fo_rowState) (by decide +kernel) (Nat.le_of_ble_eq_true rfl) ?_
  intro pX eX sX mX aX bX tX cX AX adX C htab hnm
  have hp8 := pow_le8 hn
  refine sv_iload_n C d_Fo_rowState_0 rfl rfl ?_
  refine sv_istore_n C d_Fo_rowState_1 rfl (by decide) rfl ?_
  refine sv_iconst (v := 0) C d_Fo_rowState_2 rfl ?_
  refine sv_istore C d_Fo_rowState_3 (by decide) rfl ?_
  refine sv_ind (σ := Nat × Nat) (I := fun q => q.1 ≤ k ∧ q.2 < 2 ^ n ∧ wit (ev_S (L 1)) X Y s q.1 q.2 ∧ umin (ev_S (L 1)) X Y (d - q.1) q.2) (μ := fun q => k - q.1)
    (lv := fun q => [some (.ref 8), some (.int (nI s)), some (.int (nI k)), some (.int (nI q.2)), some (.int (nI q.1))]) (ws := fun _ => hC cI cJ cZ L I V tl) ?_ (0, s) ⟨Nat.zero_le _, hs, rfl, hd⟩
  rintro ⟨i, t⟩ ⟨hi, ht, hw, hm⟩ ih
  dsimp only at hi ht hw hm ih
  refine sv_iload C d_Fo_rowState_5 rfl ?_
  refine sv_iload_n C d_Fo_rowState_7 rfl rfl ?_
  refine sv_icmp_ge (tgt := 23) C d_Fo_rowState_8 (by decide) (fun h1 => ?_) (fun h1 => ?_)
  · have h1 : k ≤ i := (nI_leI (a := k) (b := i) (by omega) (by omega)).mp h1
    have h2 : i = k := by omega
    subst h2
    refine sv_iload_n C d_Fo_rowState_23 rfl rfl ?_
    exact sv_iret C rfl rfl d_Fo_rowState_24 (Nat.le_of_ble_eq_true rfl) (Nat.le_of_ble_eq_true rfl) (fun _ _ => rfl) (⟨⟨t, ht, rfl, hw⟩, rfl⟩)
  · have h1 : ¬ k ≤ i := fun h => h1 ((nI_leI (a := k) (b := i) (by omega) (by omega)).mpr h)
    refine sv_aload_n C d_Fo_rowState_11 rfl rfl ?_
    refine sv_iload_n C d_Fo_rowState_12 rfl rfl ?_
    refine sv_callV (ci := 0) C (c_Fo_nearerState (cI := cI) (cJ := cJ) (cZ := cZ) (L := L) (I := I) (V := V) (tl := tl) (n := n) (s := t) (d := d - (i + 1)) (X := X) (Y := Y) hn hun hSN ht (by rw [show d - (i + 1) + 1 = d - i by omega]; exact hm)) s_Fo_157 ki_Fo_nearerState ks_Fo_nearerState ⟨rfl, rfl, Nat.le_of_ble_eq_true rfl, Nat.le_of_ble_eq_true rfl⟩ rfl d_Fo_rowState_13 (by first | assumption | rfl) (Nat.le_of_ble_eq_true rfl) ⟨(Nat.le_of_ble_eq_true rfl), (Nat.le_of_ble_eq_true rfl)⟩ (fun E ws9 h9 => absurd h9 id) (fun v9 ws9 hp => ?_)
    obtain ⟨⟨t2, ht2, rfl, hw2⟩, rfl⟩ := hp
    refine sv_istore_n C d_Fo_rowState_16 rfl (by decide) rfl ?_
    refine sv_iincN C d_Fo_rowState_17 rfl (by decide) rfl ?_
    refine sv_goto (tgt := 5) C d_Fo_rowState_20 (by decide) ?_
    refine ih (i + 1, t2) ⟨by dsimp only; omega, ht2, ⟨t, hw, hw2⟩, ?_⟩ (by dsimp only; omega)
    obtain ⟨d', h3, -, h4, -⟩ := hw2
    have h5 := umin_eq h3 hm
    show umin _ _ _ (d - (i + 1)) t2
    rw [show d - (i + 1) = d' by omega]
    exact h4
