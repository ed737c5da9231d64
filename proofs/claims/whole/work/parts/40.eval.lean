/-! StateLogic$Formulas: the plain kinds -/
theorem b_iff {a b : Bool} {P : Prop} (h : a = b) (h2 : b = true ↔ P) : a = true ↔ P := by rw [h]; exact h2
theorem pow_le8 {n : Nat} (hn : n ≤ 8) : 2 ^ n ≤ 256 := Nat.pow_le_pow_right (n := 2) (by omega) hn
theorem ss_put_i {f : Nat → Int64} {a x c z : Nat} (hz : z < 256) (hx : x < 256) : ss_b (ss_put f a x) c z = true ↔ (ss_b f c z = true ∨ (c = a ∧ z = x)) := by
  rw [ss_put_b f a x c z hz hx]
  simp
set_option maxRecDepth 100000 in
set_option maxHeartbeats 4000000 in
theorem c_Fo_evaluateAtom {l : Launch} {D : va_G} {cI cJ cZ : ClassId} {L : Nat → Nat → Int64} {I : Nat → Nat → Int32} {V : Nat → Int32} {tl : List va_E} {n f x y : Nat} (hn : n ≤ 8) (hV0 : V 0 = nI (2 ^ n)) (hf : f < 60) (hx : I 5 f = nI x) (hy : I 6 f = nI y) (hx2 : x < 256) (hy2 : y < 256) :
    sv_M l y_Fo_evaluateAtom [Cond.code y_Fo_evaluateAtom b_Fo_evaluateAtom 3 none] ({ frames := 1, cells := 0, slots := 0, locals := 22 } : Room) D sv_cl (sv_ty cI cJ cZ) [.ref 8, .int (nI f)] (hC cI cJ cZ L I V tl) 0 0 (fun r ws' => r = none ∧ ∃ fT : Nat → Int64, ws' = hC cI cJ cZ (hu L 4 fT) I V tl ∧ ∀ c z, z < 256 → (ss_b fT c z = true ↔ (ss_b (L 4) c z = true ∨ (c = f ∧ z < 2 ^ n ∧ z &&& x = y)))) sv_no 0 0 := by
  refine sv_of (cc := b_Fo_evaluateAtom) (by decide +kernel) (Nat.le_of_ble_eq_true rfl) ?_
  intro pX eX sX mX aX bX tX cX AX adX C htab hnm
  have hp8 := pow_le8 hn
  have hfin : vp_in (nI f) 60 := vp_in_nI hf (by omega)
  have hfc : (nI f).toNatClampNeg = f := nI_clamp (by omega)
  refine sv_iconst (v := 0) C d_Fo_evaluateAtom_0 rfl ?_
  refine sv_istore_n C d_Fo_evaluateAtom_1 rfl (by decide) rfl ?_
  refine sv_eqw (ws' := hC cI cJ cZ (hu L 4 (L 4)) I V tl) (by rw [hu_same]) ?_
  refine sv_ind (σ := Nat × (Nat → Int64)) (I := fun s => s.1 ≤ 2 ^ n ∧ ∀ c z, z < 256 → (ss_b s.2 c z = true ↔ (ss_b (L 4) c z = true ∨ (c = f ∧ z < s.1 ∧ z &&& x = y)))) (μ := fun s => 2 ^ n - s.1) (lv := fun s => [some (.ref 8), some (.int (nI f)), some (.int (nI s.1))]) (ws := fun s => hC cI cJ cZ (hu L 4 s.2) I V tl) ?_ (0, L 4) ⟨Nat.zero_le _, fun c z hz => ⟨Or.inl, fun h => h.elim id (fun h => absurd h.2.1 (Nat.not_lt_zero z))⟩⟩
  rintro ⟨i, fT⟩ ⟨hi, hT⟩ ih
  dsimp only at hi hT ih
  refine sv_iload_n C d_Fo_evaluateAtom_2 rfl rfl ?_
  refine sv_aload_n C d_Fo_evaluateAtom_3 rfl rfl ?_
  refine sv_get (ci := 0) (kf := 0) C i_Fo rfl (by decide) f_Fo_44 (fun _ h9 => h9) d_Fo_evaluateAtom_4 (by first | assumption | rfl) rfl ?_
  refine sv_get (ci := 1) (kf := 3) C i_Ma rfl (by decide) f_Fo_88 (fun _ h9 => h9) d_Fo_evaluateAtom_7 (by first | assumption | rfl) rfl ?_
  rw [hV0]
  refine sv_icmp_ge (tgt := 45) C d_Fo_evaluateAtom_10 (by decide) (fun h1 => ?_) (fun h1 => ?_)
  · have h1 : 2 ^ n ≤ i := (nI_leI (a := 2 ^ n) (b := i) (by omega) (by omega)).mp h1
    have h2 : i = 2 ^ n := by omega
    subst h2
    exact sv_vret C rfl d_Fo_evaluateAtom_45 (Nat.le_of_ble_eq_true rfl) (Nat.le_of_ble_eq_true rfl) (fun _ _ => rfl) (⟨rfl, fT, rfl, hT⟩)
  · have h1 : ¬ 2 ^ n ≤ i := fun h => h1 ((nI_leI (a := 2 ^ n) (b := i) (by omega) (by omega)).mpr h)
    refine sv_iload_n C d_Fo_evaluateAtom_13 rfl rfl ?_
    refine sv_aload_n C d_Fo_evaluateAtom_14 rfl rfl ?_
    refine sv_get (ci := 0) (kf := 4) C i_Fo rfl (by decide) f_Fo_31 (fun _ h9 => h9) d_Fo_evaluateAtom_15 (by first | assumption | rfl) rfl ?_
    refine sv_iload_n C d_Fo_evaluateAtom_18 rfl rfl ?_
    refine sv_iald (t0 := 0) C rfl d_Fo_evaluateAtom_19 (by first | assumption | rfl) (by assumption) ?_
    refine sv_iand C d_Fo_evaluateAtom_20 ?_
    refine sv_aload_n C d_Fo_evaluateAtom_21 rfl rfl ?_
    refine sv_get (ci := 0) (kf := 5) C i_Fo rfl (by decide) f_Fo_34 (fun _ h9 => h9) d_Fo_evaluateAtom_22 (by first | assumption | rfl) rfl ?_
    refine sv_iload_n C d_Fo_evaluateAtom_25 rfl rfl ?_
    refine sv_iald (t0 := 0) C rfl d_Fo_evaluateAtom_26 (by first | assumption | rfl) (by assumption) ?_
    refine sv_eqs (st' := [.int (nI y), .int (nI (i &&& x))]) (by show [Value.int (I 6 (nI f).toNatClampNeg), Value.int (nI i &&& I 5 (nI f).toNatClampNeg)] = _; rw [hfc, hx, hy, nx_and]) ?_
    refine sv_icmp_ne (tgt := 39) C d_Fo_evaluateAtom_27 (by decide) (fun h2 => ?_) (fun h2 => ?_)
    · have hne : ¬ i &&& x = y := fun h => h2 (by rw [h])
      refine sv_iincN C d_Fo_evaluateAtom_39 rfl (by decide) rfl ?_
      refine sv_goto (tgt := 2) C d_Fo_evaluateAtom_42 (by decide) ?_
      refine ih (i + 1, fT) ⟨by dsimp only; omega, fun c z hz => (hT c z hz).trans ⟨fun h => h.elim Or.inl (fun h => Or.inr ⟨h.1, by dsimp only; omega, h.2.2⟩), fun h => h.elim Or.inl (fun h => ?_)⟩⟩ (by dsimp only; omega)
      obtain ⟨e1, e2, e3⟩ := h
      dsimp only at e2
      by_cases e : z = i
      · rw [e] at e3
        exact absurd e3 hne
      · exact Or.inr ⟨e1, by omega, e3⟩
    · have heq : i &&& x = y := (nI_eq (Nat.lt_of_le_of_lt Nat.and_le_left (by omega)) (by omega)).mp h2
      refine sv_aload_n C d_Fo_evaluateAtom_30 rfl rfl ?_
      refine sv_get (ci := 0) (kf := 2) C i_Fo rfl (by decide) f_Fo_23 (fun _ h9 => h9) d_Fo_evaluateAtom_31 (by first | assumption | rfl) rfl ?_
      refine sv_iload_n C d_Fo_evaluateAtom_34 rfl rfl ?_
      refine sv_iload_n C d_Fo_evaluateAtom_35 rfl rfl ?_
      refine sv_callV (ci := 3) C (c_St_put (cI := cI) (cZ := cZ) (ws := hC cI cJ cZ (hu L 4 fT) I V tl) (b := 16) (w := 17) (N := 240) (f := fT) (a := f) (x := i) rfl rfl (by omega) (by decide) (by omega)) s_Fo_91 ki_St_put ks_St_put ⟨rfl, rfl, Nat.le_of_ble_eq_true rfl, Nat.le_of_ble_eq_true rfl⟩ rfl d_Fo_evaluateAtom_36 (by first | assumption | rfl) (Nat.le_of_ble_eq_true rfl) ⟨(Nat.le_of_ble_eq_true rfl), (Nat.le_of_ble_eq_true rfl)⟩ (fun E ws9 h9 => absurd h9 id) (fun v9 ws9 hp => ?_)
      obtain ⟨rfl, rfl⟩ := hp
      refine sv_iincN C d_Fo_evaluateAtom_39 rfl (by decide) rfl ?_
      refine sv_goto (tgt := 2) C d_Fo_evaluateAtom_42 (by decide) ?_
      refine sv_eqw (ws' := hC cI cJ cZ (hu L 4 (ss_put fT f i)) I V tl) rfl ?_
      refine ih (i + 1, ss_put fT f i) ⟨by dsimp only; omega, fun c z hz => ?_⟩ (by dsimp only; omega)
      dsimp only
      rw [ss_put_i hz (by omega), hT c z hz]
      constructor
      · rintro ((h | ⟨h1, h2, h3⟩) | ⟨h1, h2⟩)
        · exact Or.inl h
        · exact Or.inr ⟨h1, by omega, h3⟩
        · exact Or.inr ⟨h1, by omega, by rw [h2]; exact heq⟩
      · rintro (h | ⟨h1, h2, h3⟩)
        · exact Or.inl (Or.inl h)
        · by_cases e : z = i
          · exact Or.inr ⟨h1, e⟩
          · exact Or.inl (Or.inr ⟨h1, by omega, h3⟩)
set_option maxRecDepth 100000 in
set_option maxHeartbeats 4000000 in
theorem c_Fo_evaluateNext {l : Launch} {D : va_G} {cI cJ cZ : ClassId} {L : Nat → Nat → Int64} {I : Nat → Nat → Int32} {V : Nat → Int32} {tl : List va_E} {n f x : Nat} (hn : n ≤ 8) (hV0 : V 0 = nI (2 ^ n)) (hf : f < 60) (hx : I 5 f = nI x) (hxf : x < f) :
    sv_M l y_Fo_evaluateNext [Cond.code y_Fo_evaluateNext b_Fo_evaluateNext 3 none] ({ frames := 1, cells := 0, slots := 0, locals := 24 } : Room) D sv_cl (sv_ty cI cJ cZ) [.ref 8, .int (nI f)] (hC cI cJ cZ L I V tl) 0 0 (fun r ws' => r = none ∧ ∃ fT : Nat → Int64, ws' = hC cI cJ cZ (hu L 4 fT) I V tl ∧ ∀ c z, z < 256 → (ss_b fT c z = true ↔ (ss_b (L 4) c z = true ∨ (c = f ∧ z < 2 ^ n ∧ ∃ t, t < 256 ∧ ss_b (L 1) z t = true ∧ ss_b (L 4) x t = true)))) sv_no 0 0 := by
  refine sv_of (cc := b_Fo_evaluateNext) (by decide +kernel) (Nat.le_of_ble_eq_true rfl) ?_
  intro pX eX sX mX aX bX tX cX AX adX C htab hnm
  have hp8 := pow_le8 hn
  have hfin : vp_in (nI f) 60 := vp_in_nI hf (by omega)
  have hfc : (nI f).toNatClampNeg = f := nI_clamp (by omega)
  refine sv_iconst (v := 0) C d_Fo_evaluateNext_0 rfl ?_
  refine sv_istore_n C d_Fo_evaluateNext_1 rfl (by decide) rfl ?_
  refine sv_eqw (ws' := hC cI cJ cZ (hu L 4 (L 4)) I V tl) (by rw [hu_same]) ?_
  refine sv_ind (σ := Nat × (Nat → Int64)) (I := fun s => s.1 ≤ 2 ^ n ∧ ∀ c z, z < 256 → (ss_b s.2 c z = true ↔ (ss_b (L 4) c z = true ∨ (c = f ∧ z < s.1 ∧ ∃ t, t < 256 ∧ ss_b (L 1) z t = true ∧ ss_b (L 4) x t = true)))) (μ := fun s => 2 ^ n - s.1) (lv := fun s => [some (.ref 8), some (.int (nI f)), some (.int (nI s.1))]) (ws := fun s => hC cI cJ cZ (hu L 4 s.2) I V tl) ?_ (0, L 4) ⟨Nat.zero_le _, fun c z hz => ⟨Or.inl, fun h => h.elim id (fun h => absurd h.2.1 (Nat.not_lt_zero z))⟩⟩
  rintro ⟨i, fT⟩ ⟨hi, hT⟩ ih
  dsimp only at hi hT ih
  have hTx : ∀ t, t < 256 → (ss_b fT x t = true ↔ ss_b (L 4) x t = true) := fun t ht => (hT x t ht).trans ⟨fun h => h.elim id (fun h => absurd h.1 (by omega)), Or.inl⟩
  refine sv_iload_n C d_Fo_evaluateNext_2 rfl rfl ?_
  refine sv_aload_n C d_Fo_evaluateNext_3 rfl rfl ?_
  refine sv_get (ci := 0) (kf := 0) C i_Fo rfl (by decide) f_Fo_44 (fun _ h9 => h9) d_Fo_evaluateNext_4 (by first | assumption | rfl) rfl ?_
  refine sv_get (ci := 1) (kf := 3) C i_Ma rfl (by decide) f_Fo_88 (fun _ h9 => h9) d_Fo_evaluateNext_7 (by first | assumption | rfl) rfl ?_
  rw [hV0]
  refine sv_icmp_ge (tgt := 52) C d_Fo_evaluateNext_10 (by decide) (fun h1 => ?_) (fun h1 => ?_)
  · have h1 : 2 ^ n ≤ i := (nI_leI (a := 2 ^ n) (b := i) (by omega) (by omega)).mp h1
    have h2 : i = 2 ^ n := by omega
    subst h2
    exact sv_vret C rfl d_Fo_evaluateNext_52 (Nat.le_of_ble_eq_true rfl) (Nat.le_of_ble_eq_true rfl) (fun _ _ => rfl) (⟨rfl, fT, rfl, hT⟩)
  · have h1 : ¬ 2 ^ n ≤ i := fun h => h1 ((nI_leI (a := 2 ^ n) (b := i) (by omega) (by omega)).mpr h)
    refine sv_aload_n C d_Fo_evaluateNext_13 rfl rfl ?_
    refine sv_get (ci := 0) (kf := 0) C i_Fo rfl (by decide) f_Fo_44 (fun _ h9 => h9) d_Fo_evaluateNext_14 (by first | assumption | rfl) rfl ?_
    refine sv_get (ci := 1) (kf := 1) C i_Ma rfl (by decide) f_Fo_104 (fun _ h9 => h9) d_Fo_evaluateNext_17 (by first | assumption | rfl) rfl ?_
    refine sv_iload_n C d_Fo_evaluateNext_20 rfl rfl ?_
    refine sv_aload_n C d_Fo_evaluateNext_21 rfl rfl ?_
    refine sv_get (ci := 0) (kf := 2) C i_Fo rfl (by decide) f_Fo_23 (fun _ h9 => h9) d_Fo_evaluateNext_22 (by first | assumption | rfl) rfl ?_
    refine sv_aload_n C d_Fo_evaluateNext_25 rfl rfl ?_
    refine sv_get (ci := 0) (kf := 4) C i_Fo rfl (by decide) f_Fo_31 (fun _ h9 => h9) d_Fo_evaluateNext_26 (by first | assumption | rfl) rfl ?_
    refine sv_iload_n C d_Fo_evaluateNext_29 rfl rfl ?_
    refine sv_iald (t0 := 0) C rfl d_Fo_evaluateNext_30 (by first | assumption | rfl) (by assumption) ?_
    refine sv_eqs (st' := [.int (nI x), .ref 16, .int (nI i), .ref 4]) (by show [Value.int (I 5 (nI f).toNatClampNeg), _, _, _] = _; rw [hfc, hx]) ?_
    refine sv_callV (ci := 3) C (c_St_meets (cI := cI) (cZ := cZ) (ws := hC cI cJ cZ (hu L 4 fT) I V tl) (b := 4) (w := 5) (N := 1024) (a := i) (f := L 1) (b' := 16) (w' := 17) (N' := 240) (a' := x) (g := fT) rfl rfl (by omega) (by decide) rfl rfl (by omega) (by decide)) s_Fo_107 ki_St_meets ks_St_meets ⟨rfl, rfl, Nat.le_of_ble_eq_true rfl, Nat.le_of_ble_eq_true rfl⟩ rfl d_Fo_evaluateNext_31 (by first | assumption | rfl) (Nat.le_of_ble_eq_true rfl) ⟨(Nat.le_of_ble_eq_true rfl), (Nat.le_of_ble_eq_true rfl)⟩ (fun E ws9 h9 => absurd h9 id) (fun v9 ws9 hp => ?_)
    obtain ⟨t, rfl, ht, rfl⟩ := hp
    have ht2 : t = true ↔ ∃ z, z < 256 ∧ ss_b (L 1) i z = true ∧ ss_b (L 4) x z = true := ht.trans ⟨fun ⟨z, h1, h2, h3⟩ => ⟨z, h1, h2, (hTx z h1).mp h3⟩, fun ⟨z, h1, h2, h3⟩ => ⟨z, h1, h2, (hTx z h1).mpr h3⟩⟩
    cases t with
    | false =>
      refine sv_if_eq (tgt := 46) C d_Fo_evaluateNext_34 (by decide) (fun h3 => ?_) (fun h3 => ?_)
      · refine sv_iincN C d_Fo_evaluateNext_46 rfl (by decide) rfl ?_
        refine sv_goto (tgt := 2) C d_Fo_evaluateNext_49 (by decide) ?_
        refine ih (i + 1, fT) ⟨by dsimp only; omega, fun c z hz => (hT c z hz).trans ⟨fun h => h.elim Or.inl (fun h => Or.inr ⟨h.1, by dsimp only; omega, h.2.2⟩), fun h => h.elim Or.inl (fun h => ?_)⟩⟩ (by dsimp only; omega)
        obtain ⟨e1, e2, e3⟩ := h
        dsimp only at e2
        by_cases e : z = i
        · rw [e] at e3
          exact absurd (ht2.mpr e3) (by decide)
        · exact Or.inr ⟨e1, by omega, e3⟩
      · exact absurd rfl h3
    | true =>
      refine sv_if_eq (tgt := 46) C d_Fo_evaluateNext_34 (by decide) (fun h3 => ?_) (fun h3 => ?_)
      · exact absurd h3 (by decide)
      · refine sv_aload_n C d_Fo_evaluateNext_37 rfl rfl ?_
        refine sv_get (ci := 0) (kf := 2) C i_Fo rfl (by decide) f_Fo_23 (fun _ h9 => h9) d_Fo_evaluateNext_38 (by first | assumption | rfl) rfl ?_
        refine sv_iload_n C d_Fo_evaluateNext_41 rfl rfl ?_
        refine sv_iload_n C d_Fo_evaluateNext_42 rfl rfl ?_
        refine sv_callV (ci := 3) C (c_St_put (cI := cI) (cZ := cZ) (ws := hC cI cJ cZ (hu L 4 fT) I V tl) (b := 16) (w := 17) (N := 240) (f := fT) (a := f) (x := i) rfl rfl (by omega) (by decide) (by omega)) s_Fo_91 ki_St_put ks_St_put ⟨rfl, rfl, Nat.le_of_ble_eq_true rfl, Nat.le_of_ble_eq_true rfl⟩ rfl d_Fo_evaluateNext_43 (by first | assumption | rfl) (Nat.le_of_ble_eq_true rfl) ⟨(Nat.le_of_ble_eq_true rfl), (Nat.le_of_ble_eq_true rfl)⟩ (fun E ws9 h9 => absurd h9 id) (fun v9 ws9 hp => ?_)
        obtain ⟨rfl, rfl⟩ := hp
        refine sv_iincN C d_Fo_evaluateNext_46 rfl (by decide) rfl ?_
        refine sv_goto (tgt := 2) C d_Fo_evaluateNext_49 (by decide) ?_
        refine sv_eqw (ws' := hC cI cJ cZ (hu L 4 (ss_put fT f i)) I V tl) rfl ?_
        refine ih (i + 1, ss_put fT f i) ⟨by dsimp only; omega, fun c z hz => ?_⟩ (by dsimp only; omega)
        dsimp only
        rw [ss_put_i hz (by omega), hT c z hz]
        constructor
        · rintro ((h | ⟨h1, h2, h3⟩) | ⟨h1, h2⟩)
          · exact Or.inl h
          · exact Or.inr ⟨h1, by omega, h3⟩
          · exact Or.inr ⟨h1, by omega, by rw [h2]; exact ht2.mp rfl⟩
        · rintro (h | ⟨h1, h2, h3⟩)
          · exact Or.inl (Or.inl h)
          · by_cases e : z = i
            · exact Or.inr ⟨h1, e⟩
            · exact Or.inl (Or.inr ⟨h1, by omega, h3⟩)
