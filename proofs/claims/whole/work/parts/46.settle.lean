/-! StateLogic$Formulas: want, settle -/
theorem fm_cg {S : Nat → Nat → Prop} {T T' : Nat → Nat → Prop} {k x y z : Nat} (hx : k ≠ 0 → T x = T' x) (hy : k ≠ 0 → T y = T' y) : fm_v S T k x y z ↔ fm_v S T' k x y z := by
  by_cases h : k = 0
  · unfold fm_v
    rw [if_pos h, if_pos h]
  · unfold fm_v
    rw [hx h, hy h]
/-- the formulas as the cells hold them; w: what is wanted just now -/
def fo_ok (L : Nat → Nat → Int64) (I : Nat → Nat → Int32) (V : Nat → Int32) (n r mk : Nat) (kd xs ys : Nat → Nat) (w : Nat → Bool) : Prop :=
  (n ≤ 8 ∧ V 0 = nI (2 ^ n) ∧ V 1 = nI r ∧ r ≤ 40 ∧ V 3 = nI mk ∧ mk ≤ 60 ∧ (∀ z, z < 256 → ss_b (L 0) 0 z = decide (z < 2 ^ n)) ∧ ∀ a b, a < 256 → b < 256 → ss_b (L 2) b a = ss_b (L 1) a b) ∧
  (∀ i, i < mk → I 4 i = nI (kd i) ∧ I 5 i = nI (xs i) ∧ I 6 i = nI (ys i) ∧ kd i ≤ 7 ∧ (kd i = 0 → xs i < 256 ∧ ys i < 256) ∧ (kd i ≠ 0 → xs i < i ∧ ys i < i) ∧ (kd i = 6 → ys i = xs i)) ∧
  (∀ i, i < mk → I 7 i = -1 ∨ ∃ q, q ≤ r ∧ I 7 i = nI q) ∧
  (∀ i, i < mk → I 7 i = nI r → (kd i ≠ 0 → I 7 (xs i) = nI r ∧ I 7 (ys i) = nI r) ∧ ∀ z, ev_T (L 4) i z ↔ (z < 2 ^ n ∧ fm_v (ev_S (L 1)) (ev_T (L 4)) (kd i) (xs i) (ys i) z)) ∧
  (∀ i, i < 60 → I 8 i = b2i (w i)) ∧
  (V 4 = -1 ∨ ∃ i, i < mk ∧ V 4 = nI i ∧ kd i = 5 ∧ (I 7 i = nI r → un_ok (ev_S (L 1)) (ev_T (L 4) (xs i)) (ev_T (L 4) (ys i)) (2 ^ n) (I 1)))
set_option maxRecDepth 100000 in
set_option maxHeartbeats 4000000 in
theorem c_Fo_want {l : Launch} {D : va_G} {cI cJ cZ : ClassId} {L : Nat → Nat → Int64} {I : Nat → Nat → Int32} {V : Nat → Int32} {tl : List va_E} {i : Nat} (hi : i < 60) :
    sv_M l y_Fo_want [Cond.code y_Fo_want b_Fo_want 2 none] ({ frames := 0, cells := 0, slots := 0, locals := 0 } : Room) D sv_cl (sv_ty cI cJ cZ) [.ref 8, .int (nI i)] (hC cI cJ cZ L I V tl) 0 0 (fun r ws' => r = none ∧ ∃ w8 : Nat → Int32, ws' = hC cI cJ cZ L (hu I 8 w8) V tl ∧ (I 7 i = V 1 → w8 = I 8) ∧ (I 7 i ≠ V 1 → w8 = upd (I 8) i 1)) sv_no 0 0 := by
  refine sv_of (cc := b_Fo_want) (by decide +kernel) (Nat.le_of_ble_eq_true rfl) ?_
  intro pX eX sX mX aX bX tX cX AX adX C htab hnm
  have hin : vp_in (nI i) 60 := vp_in_nI hi (by omega)
  have hic : (nI i).toNatClampNeg = i := nI_clamp (by omega)
  refine sv_aload_n C d_Fo_want_0 rfl rfl ?_
  refine sv_get (ci := 0) (kf := 6) C i_Fo rfl (by decide) f_Fo_37 (fun _ h9 => h9) d_Fo_want_1 (by first | assumption | rfl) rfl ?_
  refine sv_iload_n C d_Fo_want_4 rfl rfl ?_
  refine sv_iald (t0 := 0) C rfl d_Fo_want_5 (by first | assumption | rfl) (by assumption) ?_
  refine sv_aload_n C d_Fo_want_6 rfl rfl ?_
  refine sv_get (ci := 0) (kf := 0) C i_Fo rfl (by decide) f_Fo_44 (fun _ h9 => h9) d_Fo_want_7 (by first | assumption | rfl) rfl ?_
  refine sv_get (ci := 1) (kf := 4) C i_Ma rfl (by decide) f_Fo_65 (fun _ h9 => h9) d_Fo_want_10 (by first | assumption | rfl) rfl ?_
  refine sv_eqs (st' := [.int (V 1), .int (I 7 i)]) (by show [_, Value.int (I 7 (nI i).toNatClampNeg)] = _; rw [hic]) ?_
  refine sv_icmp_eq (tgt := 23) C d_Fo_want_13 (by decide) (fun h1 => ?_) (fun h1 => ?_)
  · refine sv_eqw (ws' := hC cI cJ cZ L (hu I 8 (I 8)) V tl) (by rw [hu_same]) ?_
    exact sv_vret C rfl d_Fo_want_23 (Nat.le_of_ble_eq_true rfl) (Nat.le_of_ble_eq_true rfl) (fun _ _ => rfl) (⟨rfl, I 8, rfl, fun _ => rfl, fun h => absurd h1 h⟩)
  · refine sv_aload_n C d_Fo_want_16 rfl rfl ?_
    refine sv_get (ci := 0) (kf := 7) C i_Fo rfl (by decide) f_Fo_40 (fun _ h9 => h9) d_Fo_want_17 (by first | assumption | rfl) rfl ?_
    refine sv_iload_n C d_Fo_want_20 rfl rfl ?_
    refine sv_iconst (v := 1) C d_Fo_want_21 rfl ?_
    refine sv_zast (t0 := 2) C rfl d_Fo_want_22 (by first | assumption | rfl) (by assumption) ?_
    refine sv_eqw (ws' := hC cI cJ cZ L (hu I 8 (upd (I 8) i 1)) V tl) (by rw [hic]; rfl) ?_
    exact sv_vret C rfl d_Fo_want_23 (Nat.le_of_ble_eq_true rfl) (Nat.le_of_ble_eq_true rfl) (fun _ _ => rfl) (⟨rfl, upd (I 8) i 1, rfl, fun h => absurd h h1, fun _ => rfl⟩)
theorem wa_put {I8 : Nat → Int32} {w : Nat → Bool} {i : Nat} (h : ∀ j, j < 60 → I8 j = b2i (w j)) : ∀ j, j < 60 → upd I8 i 1 j = b2i (hu w i true j) := by
  intro j hj
  by_cases e : j = i
  · rw [e, pk_us, hu_s]
    rfl
  · rw [pk_un e, hu_n e]
    exact h j hj
theorem nI_inj {a b : Nat} (ha : a < 2 ^ 31) (hb : b < 2 ^ 31) (h : nI a = nI b) : a = b := (nI_eq ha hb).mp h
/-- the first half of settle: what is wanted, from i on up to f -/
def wa_I (I7 : Nat → Int32) (r f i : Nat) (kd xs ys : Nat → Nat) (w : Nat → Bool) : Prop :=
  (∀ j, w j = true → j ≤ f ∧ I7 j ≠ nI r) ∧ (I7 f ≠ nI r → w f = true) ∧ ∀ j, i ≤ j → w j = true → kd j ≠ 0 → (I7 (xs j) ≠ nI r → w (xs j) = true) ∧ (I7 (ys j) ≠ nI r → w (ys j) = true)
theorem wa_add {I7 : Nat → Int32} {r f i k : Nat} {kd xs ys : Nat → Nat} {w : Nat → Bool} (h : wa_I I7 r f i kd xs ys w) (hk : k < i) (hkf : k ≤ f) (h7 : I7 k ≠ nI r) : wa_I I7 r f i kd xs ys (hu w k true) := by
  obtain ⟨h1, h2, h3⟩ := h
  have hm : ∀ j, w j = true → hu w k true j = true := fun j hj => by
    by_cases e : j = k
    · rw [e, hu_s]
    · rw [hu_n e]
      exact hj
  refine ⟨fun j hj => ?_, fun q => hm f (h2 q), fun j hj hw hkd => ?_⟩
  · by_cases e : j = k
    · rw [e]
      exact ⟨hkf, h7⟩
    · rw [hu_n e] at hj
      exact h1 j hj
  · rw [hu_n (by omega)] at hw
    have h4 := h3 j hj hw hkd
    exact ⟨fun q => hm _ (h4.1 q), fun q => hm _ (h4.2 q)⟩
set_option maxRecDepth 100000 in
set_option maxHeartbeats 8000000 in
theorem c_Fo_settle {l : Launch} {D : va_G} {cI cJ cZ : ClassId} {L : Nat → Nat → Int64} {I : Nat → Nat → Int32} {V : Nat → Int32} {tl : List va_E} {n r mk f : Nat} {kd xs ys : Nat → Nat} (hok : fo_ok L I V n r mk kd xs ys (fun _ => false)) (hf : f < mk) :
    sv_M l y_Fo_settle [Cond.code y_Fo_settle b_Fo_settle 3 none] ({ frames := 5, cells := 0, slots := 0, locals := 150 } : Room) D sv_cl (sv_ty cI cJ cZ) [.ref 8, .int (nI f)] (hC cI cJ cZ L I V tl) 0 0 (fun q ws' => q = none ∧ ∃ (L' : Nat → Nat → Int64) (I' : Nat → Nat → Int32) (V' : Nat → Int32), ws' = hC cI cJ cZ L' I' V' tl ∧ fo_ok L' I' V' n r mk kd xs ys (fun _ => false) ∧ I' 7 f = nI r ∧ L' 0 = L 0 ∧ L' 1 = L 1 ∧ L' 2 = L 2) sv_no 0 0 := by
  refine sv_of (cc := b_Fo_settle) (by decide +kernel) (Nat.le_of_ble_eq_true rfl) ?_
  intro pX eX sX mX aX bX tX cX AX adX C htab hnm
  obtain ⟨⟨hn, hV0, hV1, hr40, hV3, hmk, hall, hSP⟩, hfm, hset, hst, hwa, hme⟩ := hok
  have hp8 := pow_le8 hn
  refine sv_aload_n C d_Fo_settle_0 rfl rfl ?_
  refine sv_iload_n C d_Fo_settle_1 rfl rfl ?_
  refine sv_callV (ci := 0) C (c_Fo_want (cI := cI) (cJ := cJ) (cZ := cZ) (L := L) (I := I) (V := V) (tl := tl) (i := f) (by omega)) s_Fo_59 ki_Fo_want ks_Fo_want ⟨rfl, rfl, Nat.le_of_ble_eq_true rfl, Nat.le_of_ble_eq_true rfl⟩ rfl d_Fo_settle_2 (by first | assumption | rfl) (Nat.le_of_ble_eq_true rfl) ⟨(Nat.le_of_ble_eq_true rfl), (Nat.le_of_ble_eq_true rfl)⟩ (fun E ws9 h9 => absurd h9 id) (fun v9 ws9 hp => ?_)
  obtain ⟨rfl, w8, rfl, hw1, hw2⟩ := hp
  have hstart : ∃ w : Nat → Bool, (∀ j, j < 60 → w8 j = b2i (w j)) ∧ wa_I (I 7) r f (f + 1) kd xs ys w := by
    by_cases h : I 7 f = V 1
    · refine ⟨fun _ => false, by rw [hw1 h]; exact hwa, fun j hj => absurd hj Bool.false_ne_true, fun q => absurd (h.trans hV1) q, fun j _ hj => absurd hj Bool.false_ne_true⟩
    · refine ⟨hu (fun _ => false) f true, by rw [hw2 h]; exact wa_put hwa, fun j hj => ?_, fun _ => hu_s _ _ _, fun j hjf hj => ?_⟩
      · by_cases e : j = f
        · rw [e]
          exact ⟨Nat.le_refl _, fun q => h (q.trans hV1.symm)⟩
        · rw [hu_n e] at hj
          exact absurd hj (by decide)
      · rw [hu_n (by omega)] at hj
        exact absurd hj (by decide)
  obtain ⟨w0, hw0, hwI0⟩ := hstart
  refine sv_iload_n C d_Fo_settle_5 rfl rfl ?_
  refine sv_istore_n C d_Fo_settle_6 rfl (by decide) rfl ?_
  refine sv_ind (σ := Nat × (Nat → Int32) × (Nat → Bool)) (I := fun s => s.1 ≤ f + 1 ∧ (∀ j, j < 60 → s.2.1 j = b2i (s.2.2 j)) ∧ wa_I (I 7) r f s.1 kd xs ys s.2.2) (μ := fun s => s.1)
    (lv := fun s => [some (.ref 8), some (.int (nI f)), some (.int (sp_q s.1))]) (ws := fun s => hC cI cJ cZ L (hu I 8 s.2.1) V tl) ?_ (f + 1, w8, w0) ⟨Nat.le_refl _, hw0, hwI0⟩
  clear hw1 hw2 hw0 hwI0
  rintro ⟨i, w8, w⟩ ⟨hi, hw8, hwI⟩ ih
  dsimp only at hi hw8 hwI ih
  refine sv_iload_n C d_Fo_settle_7 rfl rfl ?_
  refine sv_if_lt (tgt := 55) C d_Fo_settle_8 (by decide) (fun h1 => ?_) (fun h1 => ?_)
  · -- all parts are wanted: now they are worked out, from 0 on
    have h1 : i = 0 := (sp_qlt (by omega)).mp h1
    subst h1
    refine sv_iconst (v := 0) C d_Fo_settle_55 rfl ?_
    refine sv_istore_n C d_Fo_settle_56 rfl (by decide) rfl ?_
    refine sv_ind (σ := Nat × (Nat → Nat → Int64) × (Nat → Nat → Int32) × (Nat → Int32) × (Nat → Bool)) (I := fun s => s.1 ≤ f + 1 ∧ fo_ok s.2.1 s.2.2.1 s.2.2.2.1 n r mk kd xs ys s.2.2.2.2 ∧ (∀ j, s.2.2.2.2 j = true → s.1 ≤ j ∧ j ≤ f ∧ s.2.2.1 7 j ≠ nI r) ∧ (s.2.2.1 7 f = nI r ∨ s.2.2.2.2 f = true) ∧ (∀ j, s.2.2.2.2 j = true → kd j ≠ 0 → (s.2.2.1 7 (xs j) = nI r ∨ s.2.2.2.2 (xs j) = true) ∧ (s.2.2.1 7 (ys j) = nI r ∨ s.2.2.2.2 (ys j) = true)) ∧ s.2.1 0 = L 0 ∧ s.2.1 1 = L 1 ∧ s.2.1 2 = L 2) (μ := fun s => f + 1 - s.1)
      (lv := fun s => [some (.ref 8), some (.int (nI f)), some (.int (nI s.1))]) (ws := fun s => hC cI cJ cZ s.2.1 s.2.2.1 s.2.2.2.1 tl) ?_ (0, L, hu I 8 w8, V, w) ⟨Nat.zero_le _, ⟨⟨hn, hV0, hV1, hr40, hV3, hmk, hall, hSP⟩, hfm, hset, hst, hw8, hme⟩, fun j hj => ⟨Nat.zero_le _, hwI.1 j hj⟩, ?_, fun j hj hkd => ⟨?_, ?_⟩, rfl, rfl, rfl⟩
    rotate_left
    · by_cases h : I 7 f = nI r
      · exact Or.inl h
      · exact Or.inr (hwI.2.1 h)
    · by_cases h : I 7 (xs j) = nI r
      · exact Or.inl h
      · exact Or.inr ((hwI.2.2 j (Nat.zero_le _) hj hkd).1 h)
    · by_cases h : I 7 (ys j) = nI r
      · exact Or.inl h
      · exact Or.inr ((hwI.2.2 j (Nat.zero_le _) hj hkd).2 h)
    clear hwI hw8 ih hall hSP hV0 hV1 hV3 hfm hset hst hwa hme
    rintro ⟨i, L2, I2, V2, w⟩ ⟨hi, hok, hw, hff, hcl, e0, e1, e2⟩ ih
    dsimp only at hi hok hw hff hcl e0 e1 e2 ih
    have hok' := hok
    obtain ⟨⟨-, hV0, hV1, -, hV3, -, hall, hSP⟩, hfm, hset, hst, hwa, hme⟩ := hok'
    refine sv_iload_n C d_Fo_settle_57 rfl rfl ?_
    refine sv_iload_n C d_Fo_settle_58 rfl rfl ?_
    refine sv_icmp_gt (tgt := 102) C d_Fo_settle_59 (by decide) (fun h2 => ?_) (fun h2 => ?_)
    · have h2 : f < i := (nI_ltI (a := f) (b := i) (by omega) (by omega)).mp h2
      have hwf : w = fun _ => false := funext (fun j => by
        cases hj : w j with
        | false => rfl
        | true =>
          have := hw j hj
          omega)
      rw [hwf] at hok hff
      exact sv_vret C rfl d_Fo_settle_102 (Nat.le_of_ble_eq_true rfl) (Nat.le_of_ble_eq_true rfl) (fun _ _ => rfl) (⟨rfl, L2, I2, V2, rfl, hok, hff.resolve_right Bool.false_ne_true, e0, e1, e2⟩)
    · have h2 : ¬ f < i := fun h => h2 ((nI_ltI (a := f) (b := i) (by omega) (by omega)).mpr h)
      have hiin : vp_in (nI i) 60 := vp_in_nI (by omega) (by omega)
      have hic : (nI i).toNatClampNeg = i := nI_clamp (by omega)
      refine sv_aload_n C d_Fo_settle_62 rfl rfl ?_
      refine sv_get (ci := 0) (kf := 7) C i_Fo rfl (by decide) f_Fo_40 (fun _ h9 => h9) d_Fo_settle_63 (by first | assumption | rfl) rfl ?_
      refine sv_iload_n C d_Fo_settle_66 rfl rfl ?_
      refine sv_zald (t0 := 2) C rfl d_Fo_settle_67 (by first | assumption | rfl) (by assumption) ?_
      refine sv_eqs (st' := [.int (b2i (w i))]) (by show [Value.int (I2 8 (nI i).toNatClampNeg)] = _; rw [hic, hwa i (by omega)]) ?_
      cases hwi : w i with
      | false =>
        refine sv_if_eq (tgt := 96) C d_Fo_settle_68 (by decide) (fun h3 => ?_) (fun h3 => ?_)
        · refine sv_iincN C d_Fo_settle_96 rfl (by decide) rfl ?_
          refine sv_goto (tgt := 57) C d_Fo_settle_99 (by decide) ?_
          exact ih (i + 1, L2, I2, V2, w) ⟨by dsimp only; omega, hok, fun j hj => ⟨by
            have hj : w j = true := hj
            have := (hw j hj).1
            have e : j ≠ i := fun e => by rw [e, hwi] at hj; exact absurd hj (by decide)
            dsimp only
            omega, (hw j hj).2⟩, hff, hcl, e0, e1, e2⟩ (by dsimp only; omega)
        · exact absurd rfl h3
      | true =>
        obtain ⟨k1, k2, k3, k4, k5, k6, k7⟩ := hfm i (by omega)
        have hi7 := (hw i hwi).2.2
        have hparts : kd i ≠ 0 → I2 7 (xs i) = nI r ∧ I2 7 (ys i) = nI r := fun hkd => by
          have h4 := hcl i hwi hkd
          have h5 := k6 hkd
          exact ⟨h4.1.resolve_right (fun q => by have := (hw _ q).1; omega), h4.2.resolve_right (fun q => by have := (hw _ q).1; omega)⟩
        have hb1 : kd i ≠ 0 → ∀ z, ev_T (L2 4) (xs i) z → z < 2 ^ n := fun hkd z hz => (((hst (xs i) (by have := k6 hkd; omega) (hparts hkd).1).2 z).mp hz).1
        have hb2 : kd i ≠ 0 → ∀ z, ev_T (L2 4) (ys i) z → z < 2 ^ n := fun hkd z hz => (((hst (ys i) (by have := k6 hkd; omega) (hparts hkd).2).2 z).mp hz).1
        refine sv_if_eq (tgt := 96) C d_Fo_settle_68 (by decide) (fun h3 => ?_) (fun h3 => ?_)
        · exact absurd h3 (by decide)
        · refine sv_aload_n C d_Fo_settle_71 rfl rfl ?_
          refine sv_get (ci := 0) (kf := 7) C i_Fo rfl (by decide) f_Fo_40 (fun _ h9 => h9) d_Fo_settle_72 (by first | assumption | rfl) rfl ?_
          refine sv_iload_n C d_Fo_settle_75 rfl rfl ?_
          refine sv_iconst (v := 0) C d_Fo_settle_76 rfl ?_
          refine sv_zast (t0 := 2) C rfl d_Fo_settle_77 (by first | assumption | rfl) (by assumption) ?_
          refine sv_aload_n C d_Fo_settle_78 rfl rfl ?_
          refine sv_iload_n C d_Fo_settle_79 rfl rfl ?_
          refine sv_eqw (ws' := hC cI cJ cZ L2 (hu I2 8 (upd (I2 8) i 0)) V2 tl) (by dsimp only; rw [hic]; rfl) ?_
          refine sv_callV (ci := 0) C (c_Fo_evaluate (cI := cI) (cJ := cJ) (cZ := cZ) (L := L2) (I := hu I2 8 (upd (I2 8) i 0)) (V := V2) (tl := tl) (n := n) (f := i) (k := kd i) (x := xs i) (y := ys i) hn hV0 (by omega) k1 k4 k2 k3 k5 k6 k7 hall hSP hb1 hb2) s_Fo_62 ki_Fo_evaluate ks_Fo_evaluate ⟨rfl, rfl, Nat.le_of_ble_eq_true rfl, Nat.le_of_ble_eq_true rfl⟩ rfl d_Fo_settle_80 (by first | assumption | rfl) (Nat.le_of_ble_eq_true rfl) ⟨(Nat.le_of_ble_eq_true rfl), (Nat.le_of_ble_eq_true rfl)⟩ (fun E ws9 h9 => absurd h9 id) (fun v9 ws9 hp => ?_)
          obtain ⟨rfl, fO, fT, I0, I1, J2, J3, v2, v4, rfl, hT1, hT2, hU5, hU⟩ := hp
          refine sv_aload_n C d_Fo_settle_83 rfl rfl ?_
          refine sv_get (ci := 0) (kf := 6) C i_Fo rfl (by decide) f_Fo_37 (fun _ h9 => h9) d_Fo_settle_84 (by first | assumption | rfl) rfl ?_
          refine sv_iload_n C d_Fo_settle_87 rfl rfl ?_
          refine sv_aload_n C d_Fo_settle_88 rfl rfl ?_
          refine sv_get (ci := 0) (kf := 0) C i_Fo rfl (by decide) f_Fo_44 (fun _ h9 => h9) d_Fo_settle_89 (by first | assumption | rfl) rfl ?_
          refine sv_get (ci := 1) (kf := 4) C i_Ma rfl (by decide) f_Fo_65 (fun _ h9 => h9) d_Fo_settle_92 (by first | assumption | rfl) rfl ?_
          refine sv_iast (t0 := 0) C rfl d_Fo_settle_95 (by first | assumption | rfl) (by assumption) ?_
          refine sv_eqw (ws' := hC cI cJ cZ (hu (hu L2 3 fO) 4 fT) (hu (hu (hu (hu (hu (hu I2 8 (upd (I2 8) i 0)) 0 I0) 1 I1) 2 J2) 3 J3) 7 (upd (I2 7) i (nI r))) (hu (hu V2 2 v2) 4 v4) tl) (by show _ = _; rw [← hV1, hic]; rfl) ?_
          refine sv_iincN C d_Fo_settle_96 rfl (by decide) rfl ?_
          refine sv_goto (tgt := 57) C d_Fo_settle_99 (by decide) ?_
          have hev : ∀ c, c ≠ i → ev_T fT c = ev_T (L2 4) c := fun c hc => by
            funext z
            exact propext ⟨fun q => ⟨q.1, by rw [← hT1 c z q.1 hc]; exact q.2⟩, fun q => ⟨q.1, by rw [hT1 c z q.1 hc]; exact q.2⟩⟩
          have h7n : ∀ j, j ≠ i → upd (I2 7) i (nI r) j = I2 7 j := fun j hj => pk_un hj
          have hpn : kd i ≠ 0 → xs i ≠ i ∧ ys i ≠ i := fun hkd => by have := k6 hkd; omega
          have hstn : ∀ j, I2 7 j = nI r → j ≠ i := fun j hj e => hi7 (by rw [← e]; exact hj)
          refine ih (i + 1, hu (hu L2 3 fO) 4 fT, hu (hu (hu (hu (hu (hu I2 8 (upd (I2 8) i 0)) 0 I0) 1 I1) 2 J2) 3 J3) 7 (upd (I2 7) i (nI r)), hu (hu V2 2 v2) 4 v4, hu w i false) ⟨by dsimp only; omega, ⟨⟨hn, hV0, hV1, hr40, hV3, hmk, hall, hSP⟩, hfm, fun j hj => ?_, fun j hj h7 => ?_, fun j hj => ?_, ?_⟩, fun j hj => ?_, ?_, fun j hj hkd => ?_, e0, e1, e2⟩ (by dsimp only; omega)
          · show upd (I2 7) i (nI r) j = -1 ∨ ∃ q, q ≤ r ∧ upd (I2 7) i (nI r) j = nI q
            by_cases e : j = i
            · rw [e, pk_us]
              exact Or.inr ⟨r, Nat.le_refl _, rfl⟩
            · rw [h7n j e]
              exact hset j hj
          · have h7 : upd (I2 7) i (nI r) j = nI r := h7
            show (kd j ≠ 0 → upd (I2 7) i (nI r) (xs j) = nI r ∧ upd (I2 7) i (nI r) (ys j) = nI r) ∧ ∀ z, ev_T fT j z ↔ (z < 2 ^ n ∧ fm_v (ev_S (L2 1)) (ev_T fT) (kd j) (xs j) (ys j) z)
            by_cases e : j = i
            · rw [e]
              refine ⟨fun hkd => ⟨by rw [h7n _ (hpn hkd).1]; exact (hparts hkd).1, by rw [h7n _ (hpn hkd).2]; exact (hparts hkd).2⟩, fun z => ?_⟩
              rw [hT2 z]
              exact and_congr_right (fun _ => fm_cg (fun hkd => (hev _ (hpn hkd).1).symm) (fun hkd => (hev _ (hpn hkd).2).symm))
            · rw [h7n j e] at h7
              obtain ⟨g1, g2⟩ := hst j hj h7
              refine ⟨fun hkd => ?_, fun z => ?_⟩
              · have g3 := g1 hkd
                rw [h7n _ (hstn _ g3.1), h7n _ (hstn _ g3.2)]
                exact g3
              · rw [hev j e, g2 z]
                exact and_congr_right (fun _ => fm_cg (fun hkd => (hev _ (hstn _ (g1 hkd).1)).symm) (fun hkd => (hev _ (hstn _ (g1 hkd).2)).symm))
          · show upd (I2 8) i 0 j = b2i (hu w i false j)
            by_cases e : j = i
            · rw [e, pk_us, hu_s]
              rfl
            · rw [pk_un e, hu_n e]
              exact hwa j hj
          · show v4 = -1 ∨ ∃ j, j < mk ∧ v4 = nI j ∧ kd j = 5 ∧ (upd (I2 7) i (nI r) j = nI r → un_ok (ev_S (L2 1)) (ev_T fT (xs j)) (ev_T fT (ys j)) (2 ^ n) I1)
            by_cases h5 : kd i = 5
            · obtain ⟨g1, g2⟩ := hU5 h5
              refine Or.inr ⟨i, by omega, g1, h5, fun _ => ?_⟩
              rw [hev _ (hpn (by omega)).1, hev _ (hpn (by omega)).2]
              exact g2
            · rcases hU h5 with g1 | ⟨g1, g2⟩
              · exact Or.inl g1
              · rcases hme with g3 | ⟨j, g3, g4, g5, g6⟩
                · exact Or.inl (g1.trans g3)
                · refine Or.inr ⟨j, g3, g1.trans g4, g5, fun h7 => ?_⟩
                  have hji : j ≠ i := fun e => h5 (by rw [← e]; exact g5)
                  rw [h7n j hji] at h7
                  have g7 := (hst j g3 h7).1 (by omega)
                  rw [hev _ (hstn _ g7.1), hev _ (hstn _ g7.2), g2]
                  exact g6 h7
          · dsimp only at hj
            by_cases e : j = i
            · rw [e, hu_s] at hj
              exact absurd hj (by decide)
            · rw [hu_n e] at hj
              have g1 := hw j hj
              exact ⟨by dsimp only; omega, g1.2.1, by show upd (I2 7) i (nI r) j ≠ nI r; rw [h7n j e]; exact g1.2.2⟩
          · show upd (I2 7) i (nI r) f = nI r ∨ hu w i false f = true
            by_cases e : f = i
            · rw [e, pk_us]
              exact Or.inl rfl
            · rw [h7n f e, hu_n e]
              exact hff
          · dsimp only at hj
            by_cases e : j = i
            · rw [e, hu_s] at hj
              exact absurd hj (by decide)
            · rw [hu_n e] at hj
              have g1 := hcl j hj hkd
              show (upd (I2 7) i (nI r) (xs j) = nI r ∨ hu w i false (xs j) = true) ∧ (upd (I2 7) i (nI r) (ys j) = nI r ∨ hu w i false (ys j) = true)
              constructor
              · by_cases e2 : xs j = i
                · rw [e2, pk_us]
                  exact Or.inl rfl
                · rw [h7n _ e2, hu_n e2]
                  exact g1.1
              · by_cases e2 : ys j = i
                · rw [e2, pk_us]
                  exact Or.inl rfl
                · rw [h7n _ e2, hu_n e2]
                  exact g1.2
  · obtain ⟨j, rfl⟩ : ∃ j, i = j + 1 := by
      refine ⟨i - 1, ?_⟩
      have h2 : i ≠ 0 := fun h => h1 ((sp_qlt (by omega)).mpr h)
      omega
    have hjin : vp_in (nI j) 60 := vp_in_nI (by omega) (by omega)
    have hjc : (nI j).toNatClampNeg = j := nI_clamp (by omega)
    obtain ⟨k1, k2, k3, k4, k5, k6, k7⟩ := hfm j (by omega)
    refine sv_aload_n C d_Fo_settle_11 rfl rfl ?_
    refine sv_get (ci := 0) (kf := 7) C i_Fo rfl (by decide) f_Fo_40 (fun _ h9 => h9) d_Fo_settle_12 (by first | assumption | rfl) rfl ?_
    refine sv_iload_n C d_Fo_settle_15 rfl rfl ?_
    refine sv_zald (t0 := 2) C rfl d_Fo_settle_16 (by first | assumption | rfl) (by assumption) ?_
    refine sv_eqs (st' := [.int (b2i (w j))]) (by show [Value.int (w8 (nI j).toNatClampNeg)] = _; rw [hjc, hw8 j (by omega)]) ?_
    cases hwj : w j with
    | false =>
      refine sv_if_eq (tgt := 49) C d_Fo_settle_17 (by decide) (fun h2 => ?_) (fun h2 => ?_)
      · refine sv_iincD C d_Fo_settle_49 rfl (by decide) rfl ?_
        refine sv_goto (tgt := 7) C d_Fo_settle_52 (by decide) ?_
        exact ih (j, w8, w) ⟨by dsimp only; omega, hw8, hwI.1, hwI.2.1, fun k hk hk2 => by
          have hk2 : w k = true := hk2
          by_cases e : k = j
          · rw [e, hwj] at hk2
            exact absurd hk2 (by decide)
          · exact hwI.2.2 k (by dsimp only at hk; omega) hk2⟩ (by dsimp only; omega)
      · exact absurd rfl h2
    | true =>
      refine sv_if_eq (tgt := 49) C d_Fo_settle_17 (by decide) (fun h2 => ?_) (fun h2 => ?_)
      · exact absurd h2 (by decide)
      · refine sv_aload_n C d_Fo_settle_20 rfl rfl ?_
        refine sv_get (ci := 0) (kf := 3) C i_Fo rfl (by decide) f_Fo_27 (fun _ h9 => h9) d_Fo_settle_21 (by first | assumption | rfl) rfl ?_
        refine sv_iload_n C d_Fo_settle_24 rfl rfl ?_
        refine sv_iald (t0 := 0) C rfl d_Fo_settle_25 (by first | assumption | rfl) (by assumption) ?_
        refine sv_eqs (st' := [.int (nI (kd j))]) (by show [Value.int (I 4 (nI j).toNatClampNeg)] = _; rw [hjc, k1]) ?_
        refine sv_if_eq (tgt := 49) C d_Fo_settle_26 (by decide) (fun h3 => ?_) (fun h3 => ?_)
        · have h3 : kd j = 0 := nI_inj (b := 0) (by omega) (by omega) h3
          refine sv_iincD C d_Fo_settle_49 rfl (by decide) rfl ?_
          refine sv_goto (tgt := 7) C d_Fo_settle_52 (by decide) ?_
          exact ih (j, w8, w) ⟨by dsimp only; omega, hw8, hwI.1, hwI.2.1, fun k hk hk2 hkd => by
            by_cases e : k = j
            · rw [e] at hkd
              exact absurd h3 hkd
            · exact hwI.2.2 k (by dsimp only at hk; omega) hk2 hkd⟩ (by dsimp only; omega)
        · have hkd : kd j ≠ 0 := fun h => h3 (by rw [h]; rfl)
          have hxy := k6 hkd
          refine sv_aload_n C d_Fo_settle_29 rfl rfl ?_
          refine sv_aload_n C d_Fo_settle_30 rfl rfl ?_
          refine sv_get (ci := 0) (kf := 4) C i_Fo rfl (by decide) f_Fo_31 (fun _ h9 => h9) d_Fo_settle_31 (by first | assumption | rfl) rfl ?_
          refine sv_iload_n C d_Fo_settle_34 rfl rfl ?_
          refine sv_iald (t0 := 0) C rfl d_Fo_settle_35 (by first | assumption | rfl) (by assumption) ?_
          refine sv_eqs (st' := [.int (nI (xs j)), .ref 8]) (by show [Value.int (I 5 (nI j).toNatClampNeg), _] = _; rw [hjc, k2]) ?_
          refine sv_callV (ci := 0) C (c_Fo_want (cI := cI) (cJ := cJ) (cZ := cZ) (L := L) (I := hu I 8 w8) (V := V) (tl := tl) (i := xs j) (by omega)) s_Fo_59 ki_Fo_want ks_Fo_want ⟨rfl, rfl, Nat.le_of_ble_eq_true rfl, Nat.le_of_ble_eq_true rfl⟩ rfl d_Fo_settle_36 (by first | assumption | rfl) (Nat.le_of_ble_eq_true rfl) ⟨(Nat.le_of_ble_eq_true rfl), (Nat.le_of_ble_eq_true rfl)⟩ (fun E ws9 h9 => absurd h9 id) (fun v9 ws9 hp => ?_)
          obtain ⟨rfl, wb, rfl, hb1, hb2⟩ := hp
          have hb1 : I 7 (xs j) = V 1 → wb = w8 := hb1
          have hb2 : I 7 (xs j) ≠ V 1 → wb = upd w8 (xs j) 1 := hb2
          have hA : ∃ wB : Nat → Bool, (∀ k, k < 60 → wb k = b2i (wB k)) ∧ wa_I (I 7) r f (j + 1) kd xs ys wB ∧ (I 7 (xs j) ≠ nI r → wB (xs j) = true) := by
            by_cases h : I 7 (xs j) = V 1
            · exact ⟨w, by rw [hb1 h]; exact hw8, hwI, fun q => absurd (h.trans hV1) q⟩
            · exact ⟨hu w (xs j) true, by rw [hb2 h]; exact wa_put hw8, wa_add hwI (by omega) (by omega) (fun q => h (q.trans hV1.symm)), fun _ => hu_s _ _ _⟩
          obtain ⟨wB, hwB, hwBI, hwBx⟩ := hA
          refine sv_eqw (ws' := hC cI cJ cZ L (hu I 8 wb) V tl) (by rw [hu_hu]) ?_
          refine sv_aload_n C d_Fo_settle_39 rfl rfl ?_
          refine sv_aload_n C d_Fo_settle_40 rfl rfl ?_
          refine sv_get (ci := 0) (kf := 5) C i_Fo rfl (by decide) f_Fo_34 (fun _ h9 => h9) d_Fo_settle_41 (by first | assumption | rfl) rfl ?_
          refine sv_iload_n C d_Fo_settle_44 rfl rfl ?_
          refine sv_iald (t0 := 0) C rfl d_Fo_settle_45 (by first | assumption | rfl) (by assumption) ?_
          refine sv_eqs (st' := [.int (nI (ys j)), .ref 8]) (by show [Value.int (I 6 (nI j).toNatClampNeg), _] = _; rw [hjc, k3]) ?_
          refine sv_callV (ci := 0) C (c_Fo_want (cI := cI) (cJ := cJ) (cZ := cZ) (L := L) (I := hu I 8 wb) (V := V) (tl := tl) (i := ys j) (by omega)) s_Fo_59 ki_Fo_want ks_Fo_want ⟨rfl, rfl, Nat.le_of_ble_eq_true rfl, Nat.le_of_ble_eq_true rfl⟩ rfl d_Fo_settle_46 (by first | assumption | rfl) (Nat.le_of_ble_eq_true rfl) ⟨(Nat.le_of_ble_eq_true rfl), (Nat.le_of_ble_eq_true rfl)⟩ (fun E ws9 h9 => absurd h9 id) (fun v9 ws9 hp => ?_)
          obtain ⟨rfl, wc, rfl, hc1, hc2⟩ := hp
          have hc1 : I 7 (ys j) = V 1 → wc = wb := hc1
          have hc2 : I 7 (ys j) ≠ V 1 → wc = upd wb (ys j) 1 := hc2
          have hB : ∃ wC : Nat → Bool, (∀ k, k < 60 → wc k = b2i (wC k)) ∧ wa_I (I 7) r f (j + 1) kd xs ys wC ∧ (I 7 (xs j) ≠ nI r → wC (xs j) = true) ∧ (I 7 (ys j) ≠ nI r → wC (ys j) = true) := by
            by_cases h : I 7 (ys j) = V 1
            · exact ⟨wB, by rw [hc1 h]; exact hwB, hwBI, hwBx, fun q => absurd (h.trans hV1) q⟩
            · refine ⟨hu wB (ys j) true, by rw [hc2 h]; exact wa_put hwB, wa_add hwBI (by omega) (by omega) (fun q => h (q.trans hV1.symm)), fun q => ?_, fun _ => hu_s _ _ _⟩
              by_cases e : xs j = ys j
              · rw [e, hu_s]
              · rw [hu_n e]
                exact hwBx q
          obtain ⟨wC, hwC, hwCI, hwCx, hwCy⟩ := hB
          refine sv_eqw (ws' := hC cI cJ cZ L (hu I 8 wc) V tl) (by rw [hu_hu]) ?_
          refine sv_iincD C d_Fo_settle_49 rfl (by decide) rfl ?_
          refine sv_goto (tgt := 7) C d_Fo_settle_52 (by decide) ?_
          exact ih (j, wc, wC) ⟨by dsimp only; omega, hwC, hwCI.1, hwCI.2.1, fun k hk hk2 hkd2 => by
            by_cases e : k = j
            · rw [e]
              exact ⟨hwCx, hwCy⟩
            · exact hwCI.2.2 k (by dsimp only at hk; omega) hk2 hkd2⟩ (by dsimp only; omega)
