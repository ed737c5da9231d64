/-! StateLogic$Formulas: evaluateUntil -/
theorem g_st_unsnoc {E : Nat → Nat → Prop} : ∀ (n a z : Nat), g_st E (n + 1) a z → ∃ y, g_st E n a y ∧ E y z
  | 0, a, z, ⟨c, hc, h⟩ => by
    have h : c = z := h
    subst h
    exact ⟨a, rfl, hc⟩
  | n + 1, a, z, ⟨c, hc, h⟩ => by
    obtain ⟨y, hy, hyz⟩ := g_st_unsnoc n c z h
    exact ⟨y, ⟨c, hc, hy⟩, hyz⟩
/-- a row of n steps from z to a state of Y, all ahead of it in X -/
def um (S : Nat → Nat → Prop) (X Y : Nat → Prop) (n z : Nat) : Prop := ∃ t, Y t ∧ g_st (fun a b => X a ∧ S a b) n z t
theorem um_of {E S : Nat → Nat → Prop} {X : Nat → Prop} (h : ∀ a b, E a b → X b ∧ S b a) : ∀ (n y z : Nat), g_st E n y z → g_st (fun a b => X a ∧ S a b) n z y
  | 0, y, z, h1 => by
    have h1 : y = z := h1
    exact h1.symm
  | n + 1, y, z, h1 => by
    obtain ⟨c, hc, hcz⟩ := g_st_unsnoc n y z h1
    exact ⟨c, h c z hcz, um_of h n y c hc⟩
theorem of_um {E S : Nat → Nat → Prop} {X Y : Nat → Prop} (h : ∀ a b, X b → S b a → ¬ Y b → E a b) : ∀ (n z : Nat), um S X Y n z → ∃ k y, k ≤ n ∧ Y y ∧ g_st E k y z
  | 0, z, ⟨t, ht, h1⟩ => by
    have h1 : z = t := h1
    subst h1
    exact ⟨0, z, Nat.le_refl _, ht, rfl⟩
  | n + 1, z, ⟨t, ht, c, hc, h1⟩ => by
    by_cases hY : Y z
    · exact ⟨0, z, Nat.zero_le _, hY, rfl⟩
    · obtain ⟨k, y, hk, hy, hst⟩ := of_um h n c ⟨t, ht, h1⟩
      exact ⟨k + 1, y, by omega, hy, g_st_snoc hst (h c z hc.1 hc.2 hY)⟩
def ev_S (g : Nat → Int64) (a b : Nat) : Prop := b < 256 ∧ ss_b g a b = true
def ev_T (fT : Nat → Int64) (i z : Nat) : Prop := z < 256 ∧ ss_b fT i z = true
/-- the distances of an UNTIL -/
def un_ok (S : Nat → Nat → Prop) (X Y : Nat → Prop) (N : Nat) (I1 : Nat → Int32) : Prop :=
  ∀ z, z < N → (∃ d, d < 256 ∧ I1 z = nI d ∧ um S X Y d z ∧ ∀ k, um S X Y k z → d ≤ k) ∨ (I1 z = -1 ∧ ∀ k, ¬ um S X Y k z)
set_option maxRecDepth 100000 in
set_option maxHeartbeats 8000000 in
theorem c_Fo_evaluateUntil {l : Launch} {D : va_G} {cI cJ cZ : ClassId} {L : Nat → Nat → Int64} {I : Nat → Nat → Int32} {V : Nat → Int32} {tl : List va_E} {n f x y : Nat} (hn : n ≤ 8) (hV0 : V 0 = nI (2 ^ n)) (hf : f < 60) (hx : I 5 f = nI x) (hy : I 6 f = nI y) (hxf : x < f) (hyf : y < f)
    (hSP : ∀ a b, a < 256 → b < 256 → ss_b (L 2) b a = ss_b (L 1) a b) (hXN : ∀ z, ev_T (L 4) x z → z < 2 ^ n) (hYN : ∀ z, ev_T (L 4) y z → z < 2 ^ n) :
    sv_M l y_Fo_evaluateUntil [Cond.code y_Fo_evaluateUntil b_Fo_evaluateUntil 3 none] ({ frames := 3, cells := 0, slots := 0, locals := 105 } : Room) D sv_cl (sv_ty cI cJ cZ) [.ref 8, .int (nI f)] (hC cI cJ cZ L I V tl) 0 0 (fun r ws' => r = none ∧ ∃ (fO fT : Nat → Int64) (I0 I1 : Nat → Int32) (v2 : Int32), ws' = hC cI cJ cZ (hu (hu L 3 fO) 4 fT) (hu (hu I 0 I0) 1 I1) (hu (hu V 2 v2) 4 (nI f)) tl ∧ (∀ c z, z < 256 → (ss_b fT c z = true ↔ (ss_b (L 4) c z = true ∨ (c = f ∧ ∃ k, um (ev_S (L 1)) (ev_T (L 4) x) (ev_T (L 4) y) k z)))) ∧ un_ok (ev_S (L 1)) (ev_T (L 4) x) (ev_T (L 4) y) (2 ^ n) I1) sv_no 0 0 := by
  refine sv_of (cc := b_Fo_evaluateUntil) (by decide +kernel) (Nat.le_of_ble_eq_true rfl) ?_
  intro pX eX sX mX aX bX tX cX AX adX C htab hnm
  have hp8 := pow_le8 hn
  have hfin : vp_in (nI f) 60 := vp_in_nI hf (by omega)
  have hfc : (nI f).toNatClampNeg = f := nI_clamp (by omega)
  refine sv_aload_n C d_Fo_evaluateUntil_0 rfl rfl ?_
  refine sv_get (ci := 0) (kf := 1) C i_Fo rfl (by decide) f_Fo_12 (fun _ h9 => h9) d_Fo_evaluateUntil_1 (by first | assumption | rfl) rfl ?_
  refine sv_aload_n C d_Fo_evaluateUntil_4 rfl rfl ?_
  refine sv_get (ci := 0) (kf := 2) C i_Fo rfl (by decide) f_Fo_23 (fun _ h9 => h9) d_Fo_evaluateUntil_5 (by first | assumption | rfl) rfl ?_
  refine sv_aload_n C d_Fo_evaluateUntil_8 rfl rfl ?_
  refine sv_get (ci := 0) (kf := 4) C i_Fo rfl (by decide) f_Fo_31 (fun _ h9 => h9) d_Fo_evaluateUntil_9 (by first | assumption | rfl) rfl ?_
  refine sv_iload_n C d_Fo_evaluateUntil_12 rfl rfl ?_
  refine sv_iald (t0 := 0) C rfl d_Fo_evaluateUntil_13 (by first | assumption | rfl) (by assumption) ?_
  refine sv_eqs (st' := [.int (nI x), .ref 16, .ref 9]) (by show [Value.int (I 5 (nI f).toNatClampNeg), _, _] = _; rw [hfc, hx]) ?_
  refine sv_callV (ci := 2) C (c_Se_openAll (cI := cI) (cJ := cJ) (cZ := cZ) (L := L) (I := I) (V := V) (tl := tl) (a := x) (by omega)) s_Fo_111 ki_Se_openAll ks_Se_openAll ⟨rfl, rfl, Nat.le_of_ble_eq_true rfl, Nat.le_of_ble_eq_true rfl⟩ rfl d_Fo_evaluateUntil_14 (by first | assumption | rfl) (Nat.le_of_ble_eq_true rfl) ⟨(Nat.le_of_ble_eq_true rfl), (Nat.le_of_ble_eq_true rfl)⟩ (fun E ws9 h9 => absurd h9 id) (fun v9 ws9 hp => ?_)
  obtain ⟨rfl, fX, rfl, hfX⟩ := hp
  refine sv_iconst (v := 0) C d_Fo_evaluateUntil_17 rfl ?_
  refine sv_istore_n C d_Fo_evaluateUntil_18 rfl (by decide) rfl ?_
  refine sv_eqw (ws' := hC cI cJ cZ (hu L 3 fX) (hu (hu I 0 (I 0)) 1 (I 1)) (hu V 2 (nI 0)) tl) (by rw [hu_same, hu_same]; rfl) ?_
  refine sv_ind (σ := Nat × Nat × (Nat → Int64) × (Nat → Int32) × (Nat → Int32) × (Nat → Nat)) (I := fun s => s.1 ≤ 2 ^ n ∧ s.2.1 ≤ s.1 ∧ (∀ k, k < s.2.1 → s.2.2.2.2.2 k < s.1 ∧ ss_b (L 4) y (s.2.2.2.2.2 k) = true ∧ s.2.2.2.1 k = nI (s.2.2.2.2.2 k) ∧ s.2.2.2.2.1 (s.2.2.2.2.2 k) = nI 0) ∧ (∀ i j, i < s.2.1 → j < s.2.1 → s.2.2.2.2.2 i = s.2.2.2.2.2 j → i = j) ∧ (∀ z, z < s.1 → ss_b (L 4) y z = true → bf_F s.2.2.2.2.2 s.2.1 z) ∧ (∀ z, z < s.1 → ss_b (L 4) y z = false → s.2.2.2.2.1 z = -1) ∧ (∀ z, z < 256 → (ss_b s.2.2.1 0 z = true ↔ (ss_b (L 4) x z = true ∧ ¬ (z < s.1 ∧ ss_b (L 4) y z = true))))) (μ := fun s => 2 ^ n - s.1)
    (lv := fun s => [some (.ref 8), some (.int (nI f)), some (.int (nI s.1))]) (ws := fun s => hC cI cJ cZ (hu L 3 s.2.2.1) (hu (hu I 0 s.2.2.2.1) 1 s.2.2.2.2.1) (hu V 2 (nI s.2.1)) tl) ?_ (0, 0, fX, I 0, I 1, fun _ => 0) ⟨Nat.zero_le _, Nat.le_refl _, fun k hk => absurd hk (Nat.not_lt_zero k), fun i j hi => absurd hi (Nat.not_lt_zero i), fun z hz => absurd hz (Nat.not_lt_zero z), fun z hz => absurd hz (Nat.not_lt_zero z), fun z hz => by dsimp only; rw [hfX z hz]; exact ⟨fun h => ⟨h, fun q => absurd q.1 (Nat.not_lt_zero z)⟩, fun h => h.1⟩⟩
  rintro ⟨i, cnt, fO, I0, I1, fd⟩ ⟨hi, hci, hk, hj, hY1, hY0, hO⟩ ih
  dsimp only at hi hci hk hj hY1 hY0 hO ih
  refine sv_iload_n C d_Fo_evaluateUntil_19 rfl rfl ?_
  refine sv_aload_n C d_Fo_evaluateUntil_20 rfl rfl ?_
  refine sv_get (ci := 0) (kf := 0) C i_Fo rfl (by decide) f_Fo_44 (fun _ h9 => h9) d_Fo_evaluateUntil_21 (by first | assumption | rfl) rfl ?_
  refine sv_get (ci := 1) (kf := 3) C i_Ma rfl (by decide) f_Fo_88 (fun _ h9 => h9) d_Fo_evaluateUntil_24 (by first | assumption | rfl) rfl ?_
  refine sv_eqs (st' := [.int (nI (2 ^ n)), .int (nI i)]) (by show [Value.int (V 0), _] = _; rw [hV0]) ?_
  refine sv_icmp_ge (tgt := 84) C d_Fo_evaluateUntil_27 (by decide) (fun h1 => ?_) (fun h1 => ?_)
  · have h1 : 2 ^ n ≤ i := (nI_leI (a := 2 ^ n) (b := i) (by omega) (by omega)).mp h1
    have h2 : i = 2 ^ n := by omega
    subst h2
    refine sv_aload_n C d_Fo_evaluateUntil_84 rfl rfl ?_
    refine sv_get (ci := 0) (kf := 1) C i_Fo rfl (by decide) f_Fo_12 (fun _ h9 => h9) d_Fo_evaluateUntil_85 (by first | assumption | rfl) rfl ?_
    refine sv_aload_n C d_Fo_evaluateUntil_88 rfl rfl ?_
    refine sv_get (ci := 0) (kf := 0) C i_Fo rfl (by decide) f_Fo_44 (fun _ h9 => h9) d_Fo_evaluateUntil_89 (by first | assumption | rfl) rfl ?_
    refine sv_get (ci := 1) (kf := 2) C i_Ma rfl (by decide) f_Fo_131 (fun _ h9 => h9) d_Fo_evaluateUntil_92 (by first | assumption | rfl) rfl ?_
    refine sv_callV (ci := 2) C (c_Se_spread (cI := cI) (cJ := cJ) (cZ := cZ) (L := hu L 3 fO) (I := hu (hu I 0 I0) 1 I1) (V := hu V 2 (nI cnt)) (tl := tl) (b := 6) (w := 7) (q := 2) (cnt0 := cnt) (fd0 := fd) (Or.inr ⟨rfl, rfl, rfl⟩) rfl (fun k hk9 => ⟨by have := (hk k hk9).1; omega, (hk k hk9).2.2.1, (hk k hk9).2.2.2, by show ss_b fO 0 (fd k) = false; cases hc9 : ss_b fO 0 (fd k) with | false => rfl | true => exact absurd ⟨(hk k hk9).1, (hk k hk9).2.1⟩ ((hO (fd k) (by have := (hk k hk9).1; omega)).mp hc9).2⟩) hj) s_Fo_134 ki_Se_spread ks_Se_spread ⟨rfl, rfl, Nat.le_of_ble_eq_true rfl, Nat.le_of_ble_eq_true rfl⟩ rfl d_Fo_evaluateUntil_95 (by first | assumption | rfl) (Nat.le_of_ble_eq_true rfl) ⟨(Nat.le_of_ble_eq_true rfl), (Nat.le_of_ble_eq_true rfl)⟩ (fun E ws9 h9 => absurd h9 id) (fun v9 ws9 hp => ?_)
    obtain ⟨rfl, fO', I0', I1', cnt', fd', dd, rfl, hR⟩ := hp
    refine sv_eqw (ws' := hC cI cJ cZ (hu L 3 fO') (hu (hu I 0 I0') 1 I1') (hu V 2 (nI cnt')) tl) (by rw [hu_hu, hu_hu, hu_sw (hu I 0 I0) _ _ (show (1 : Nat) ≠ 0 by decide), hu_hu, hu_hu]) ?_
    obtain ⟨r1, r2, r3, r4, r5, r6, r7, r8, r9⟩ := hR
    refine sv_aload_n C d_Fo_evaluateUntil_98 rfl rfl ?_
    refine sv_iload_n C d_Fo_evaluateUntil_99 rfl rfl ?_
    refine sv_callV (ci := 0) C (c_Fo_putFound (cI := cI) (cJ := cJ) (cZ := cZ) (L := hu L 3 fO') (I := hu (hu I 0 I0') 1 I1') (V := hu V 2 (nI cnt')) (tl := tl) (f := f) (cnt := cnt') (fd := fd') hf rfl r2 r3) s_Fo_138 ki_Fo_putFound ks_Fo_putFound ⟨rfl, rfl, Nat.le_of_ble_eq_true rfl, Nat.le_of_ble_eq_true rfl⟩ rfl d_Fo_evaluateUntil_100 (by first | assumption | rfl) (Nat.le_of_ble_eq_true rfl) ⟨(Nat.le_of_ble_eq_true rfl), (Nat.le_of_ble_eq_true rfl)⟩ (fun E ws9 h9 => absurd h9 id) (fun v9 ws9 hp => ?_)
    obtain ⟨rfl, fT, rfl, hT⟩ := hp
    refine sv_aload_n C d_Fo_evaluateUntil_103 rfl rfl ?_
    refine sv_iload_n C d_Fo_evaluateUntil_104 rfl rfl ?_
    refine sv_put (ci := 0) (kf := 9) (ty := .int) C i_Fo t_Fo t_Fo_ok n_Fo rfl (by decide) f_Fo_48 (fun _ h9 => h9) rfl (by decide +kernel) d_Fo_evaluateUntil_105 (by first | assumption | rfl) rfl rfl (Nat.le_of_ble_eq_true rfl) ?_
    have hE1 : ∀ a b, sp_E (L 2) fO a b → ev_T (L 4) x b ∧ ev_S (L 1) b a ∨ True := fun _ _ _ => Or.inr trivial
    have key1 : ∀ (k z : Nat) (m : Nat), m < cnt → g_st (sp_E (L 2) fO) k (fd m) z → um (ev_S (L 1)) (ev_T (L 4) x) (ev_T (L 4) y) k z := by
      intro k z m hm hst
      have hm2 := hk m hm
      refine ⟨fd m, ⟨by omega, hm2.2.1⟩, ?_⟩
      -- along the way every state is below 256
      have hall : ∀ (k : Nat) (z : Nat), g_st (sp_E (L 2) fO) k (fd m) z → z < 256 ∧ g_st (fun a b => ev_T (L 4) x a ∧ ev_S (L 1) a b) k z (fd m) := by
        intro k
        induction k with
        | zero =>
          intro z h
          have h : fd m = z := h
          exact ⟨by omega, h.symm⟩
        | succ k ihk =>
          intro z h
          obtain ⟨c, hc, hcz⟩ := g_st_unsnoc k _ z h
          obtain ⟨g1, g2⟩ := ihk c hc
          have g3 := (hO z hcz.1).mp hcz.2.2
          exact ⟨hcz.1, c, ⟨⟨hcz.1, g3.1⟩, g1, by rw [← hSP z c hcz.1 g1]; exact hcz.2.1⟩, g2⟩
      exact (hall k z hst).2
    have key2 : ∀ (k z : Nat), um (ev_S (L 1)) (ev_T (L 4) x) (ev_T (L 4) y) k z → ∃ k' m, k' ≤ k ∧ m < cnt ∧ g_st (sp_E (L 2) fO) k' (fd m) z := by
      intro k z hu
      obtain ⟨k', y', hk', hy', hst⟩ := of_um (E := sp_E (L 2) fO) (fun a b hb hba hnY => ⟨hb.1, by rw [hSP b a hb.1 hba.1]; exact hba.2, (hO b hb.1).mpr ⟨hb.2, fun q => hnY ⟨hb.1, q.2⟩⟩⟩) k z hu
      obtain ⟨m, hm, e⟩ := hY1 y' (hYN y' hy') hy'.2
      exact ⟨k', m, hk', hm, by rw [e]; exact hst⟩
    refine sv_eqw (ws' := hC cI cJ cZ (hu (hu L 3 fO') 4 fT) (hu (hu I 0 I0') 1 I1') (hu (hu V 2 (nI cnt')) 4 (nI f)) tl) rfl ?_
    refine sv_vret C rfl d_Fo_evaluateUntil_108 (Nat.le_of_ble_eq_true rfl) (Nat.le_of_ble_eq_true rfl) (fun _ _ => rfl) (⟨rfl, fO', fT, I0', I1', nI cnt', rfl, fun c z hz => (hT c z hz).trans ⟨fun h => h.elim Or.inl (fun h => Or.inr ⟨h.1, ?_⟩), fun h => h.elim Or.inl (fun h => Or.inr ⟨h.1, ?_⟩)⟩, fun z hz => ?_⟩)
    · obtain ⟨⟨m, hm, hst⟩, -, -⟩ := r7 z h.2
      exact ⟨dd z, key1 _ _ m hm hst⟩
    · obtain ⟨k, hku⟩ := h.2
      obtain ⟨k', m, -, hm, hst⟩ := key2 k z hku
      exact (r8 m k' z hm hst).1
    · by_cases hF : bf_F fd' cnt' z
      · obtain ⟨⟨m, hm, hst⟩, e1, e2⟩ := r7 z hF
        refine Or.inl ⟨dd z, e2, e1, key1 _ _ m hm hst, fun k hku => ?_⟩
        obtain ⟨k', m', hk', hm', hst'⟩ := key2 k z hku
        have := (r8 m' k' z hm' hst').2
        omega
      · have hz256 : z < 256 := by omega
        refine Or.inr ⟨?_, fun k hku => ?_⟩
        · rw [r9 z hz256 hF]
          refine hY0 z hz ?_
          cases hc9 : ss_b (L 4) y z with
          | false => rfl
          | true =>
            exfalso
            obtain ⟨m, hm, e⟩ := hY1 z hz hc9
            exact hF (r8 m 0 z hm e).1
        · obtain ⟨k', m, -, hm, hst⟩ := key2 k z hku
          exact hF (r8 m k' z hm hst).1
  · have h1 : ¬ 2 ^ n ≤ i := fun h => h1 ((nI_leI (a := 2 ^ n) (b := i) (by omega) (by omega)).mpr h)
    have hiin : vp_in (nI i) 256 := vp_in_nI (by omega) (by omega)
    have hic : (nI i).toNatClampNeg = i := nI_clamp (by omega)
    refine sv_aload_n C d_Fo_evaluateUntil_30 rfl rfl ?_
    refine sv_get (ci := 0) (kf := 1) C i_Fo rfl (by decide) f_Fo_12 (fun _ h9 => h9) d_Fo_evaluateUntil_31 (by first | assumption | rfl) rfl ?_
    refine sv_get (ci := 2) (kf := 2) C i_Se rfl (by decide) f_Fo_115 (fun _ h9 => h9) d_Fo_evaluateUntil_34 (by first | assumption | rfl) rfl ?_
    refine sv_iload_n C d_Fo_evaluateUntil_37 rfl rfl ?_
    refine sv_iconst (v := (-1)) C d_Fo_evaluateUntil_38 rfl ?_
    refine sv_iast (t0 := 0) C rfl d_Fo_evaluateUntil_39 (by first | assumption | rfl) (by assumption) ?_
    refine sv_eqw (ws' := hC cI cJ cZ (hu L 3 fO) (hu (hu I 0 I0) 1 (upd I1 i (-1))) (hu V 2 (nI cnt)) tl) (by dsimp only; rw [hic]; rfl) ?_
    refine sv_aload_n C d_Fo_evaluateUntil_40 rfl rfl ?_
    refine sv_get (ci := 0) (kf := 2) C i_Fo rfl (by decide) f_Fo_23 (fun _ h9 => h9) d_Fo_evaluateUntil_41 (by first | assumption | rfl) rfl ?_
    refine sv_aload_n C d_Fo_evaluateUntil_44 rfl rfl ?_
    refine sv_get (ci := 0) (kf := 5) C i_Fo rfl (by decide) f_Fo_34 (fun _ h9 => h9) d_Fo_evaluateUntil_45 (by first | assumption | rfl) rfl ?_
    refine sv_iload_n C d_Fo_evaluateUntil_48 rfl rfl ?_
    refine sv_iald (t0 := 0) C rfl d_Fo_evaluateUntil_49 (by first | assumption | rfl) (by assumption) ?_
    refine sv_iload_n C d_Fo_evaluateUntil_50 rfl rfl ?_
    refine sv_eqs (st' := [.int (nI i), .int (nI y), .ref 16]) (by show [_, Value.int (I 6 (nI f).toNatClampNeg), _] = _; rw [hfc, hy]) ?_
    refine sv_callV (ci := 3) C (c_St_has (cI := cI) (cZ := cZ) (ws := hC cI cJ cZ (hu L 3 fO) (hu (hu I 0 I0) 1 (upd I1 i (-1))) (hu V 2 (nI cnt)) tl) (b := 16) (w := 17) (N := 240) (a := y) (x := i) (f := L 4) rfl rfl (by omega) (by decide) (by omega)) s_Fo_118 ki_St_has ks_St_has ⟨rfl, rfl, Nat.le_of_ble_eq_true rfl, Nat.le_of_ble_eq_true rfl⟩ rfl d_Fo_evaluateUntil_51 (by first | assumption | rfl) (Nat.le_of_ble_eq_true rfl) ⟨(Nat.le_of_ble_eq_true rfl), (Nat.le_of_ble_eq_true rfl)⟩ (fun E ws9 h9 => absurd h9 id) (fun v9 ws9 hp => ?_)
    obtain ⟨rfl, rfl⟩ := hp
    cases hyi : ss_b (L 4) y i with
    | false =>
      refine sv_if_eq (tgt := 78) C d_Fo_evaluateUntil_54 (by decide) (fun h2 => ?_) (fun h2 => ?_)
      · refine sv_iincN C d_Fo_evaluateUntil_78 rfl (by decide) rfl ?_
        refine sv_goto (tgt := 19) C d_Fo_evaluateUntil_81 (by decide) ?_
        refine ih (i + 1, cnt, fO, I0, upd I1 i (-1), fd) ⟨by dsimp only; omega, by dsimp only; omega, fun k hk9 => ?_, hj, fun z hz hb => ?_, fun z hz hb => ?_, fun z hz => ?_⟩ (by dsimp only; omega)
        · have h9 := hk k hk9
          refine ⟨by dsimp only; omega, h9.2.1, h9.2.2.1, ?_⟩
          show upd I1 i (-1) (fd k) = nI 0
          rw [pk_un (by omega)]
          exact h9.2.2.2
        · dsimp only at hz
          by_cases e : z = i
          · rw [e, hyi] at hb
            cases hb
          · exact hY1 z (by omega) hb
        · dsimp only at hz
          show upd I1 i (-1) z = -1
          by_cases e : z = i
          · rw [e, pk_us]
          · rw [pk_un e]
            exact hY0 z (by omega) hb
        · dsimp only
          rw [hO z hz]
          constructor
          · rintro ⟨g1, g2⟩
            refine ⟨g1, fun q => g2 ⟨?_, q.2⟩⟩
            by_cases e : z = i
            · rw [e, hyi] at q
              exact absurd q.2 (by decide)
            · omega
          · rintro ⟨g1, g2⟩
            exact ⟨g1, fun q => g2 ⟨by omega, q.2⟩⟩
      · exact absurd rfl h2
    | true =>
      refine sv_if_eq (tgt := 78) C d_Fo_evaluateUntil_54 (by decide) (fun h2 => ?_) (fun h2 => ?_)
      · exact absurd h2 (by decide)
      · refine sv_aload_n C d_Fo_evaluateUntil_57 rfl rfl ?_
        refine sv_get (ci := 0) (kf := 1) C i_Fo rfl (by decide) f_Fo_12 (fun _ h9 => h9) d_Fo_evaluateUntil_58 (by first | assumption | rfl) rfl ?_
        refine sv_get (ci := 2) (kf := 0) C i_Se rfl (by decide) f_Fo_122 (fun _ h9 => h9) d_Fo_evaluateUntil_61 (by first | assumption | rfl) rfl ?_
        refine sv_iconst (v := 0) C d_Fo_evaluateUntil_64 rfl ?_
        refine sv_iload_n C d_Fo_evaluateUntil_65 rfl rfl ?_
        refine sv_callV (ci := 3) C (c_St_drop (cI := cI) (cZ := cZ) (ws := hC cI cJ cZ (hu L 3 fO) (hu (hu I 0 I0) 1 (upd I1 i (-1))) (hu V 2 (nI cnt)) tl) (b := 10) (w := 11) (N := 4) (a := 0) (x := i) (f := fO) rfl rfl (by decide) (by decide) (by omega)) s_Fo_125 ki_St_drop ks_St_drop ⟨rfl, rfl, Nat.le_of_ble_eq_true rfl, Nat.le_of_ble_eq_true rfl⟩ rfl d_Fo_evaluateUntil_66 (by first | assumption | rfl) (Nat.le_of_ble_eq_true rfl) ⟨(Nat.le_of_ble_eq_true rfl), (Nat.le_of_ble_eq_true rfl)⟩ (fun E ws9 h9 => absurd h9 id) (fun v9 ws9 hp => ?_)
        obtain ⟨rfl, rfl⟩ := hp
        refine sv_aload_n C d_Fo_evaluateUntil_69 rfl rfl ?_
        refine sv_get (ci := 0) (kf := 1) C i_Fo rfl (by decide) f_Fo_12 (fun _ h9 => h9) d_Fo_evaluateUntil_70 (by first | assumption | rfl) rfl ?_
        refine sv_iload_n C d_Fo_evaluateUntil_73 rfl rfl ?_
        refine sv_iconst (v := 0) C d_Fo_evaluateUntil_74 rfl ?_
        refine sv_eqw (ws' := hC cI cJ cZ (hu L 3 (ss_drop fO 0 i)) (hu (hu I 0 I0) 1 (upd I1 i (-1))) (hu V 2 (nI cnt)) tl) rfl ?_
        refine sv_callV (ci := 2) C (c_Se_find (cI := cI) (cJ := cJ) (cZ := cZ) (L := hu L 3 (ss_drop fO 0 i)) (I := hu (hu I 0 I0) 1 (upd I1 i (-1))) (V := hu V 2 (nI cnt)) (tl := tl) (n := cnt) (x := i) (d := 0) (by omega) (by omega) rfl) s_Fo_128 ki_Se_find ks_Se_find ⟨rfl, rfl, Nat.le_of_ble_eq_true rfl, Nat.le_of_ble_eq_true rfl⟩ rfl d_Fo_evaluateUntil_75 (by first | assumption | rfl) (Nat.le_of_ble_eq_true rfl) ⟨(Nat.le_of_ble_eq_true rfl), (Nat.le_of_ble_eq_true rfl)⟩ (fun E ws9 h9 => absurd h9 id) (fun v9 ws9 hp => ?_)
        obtain ⟨rfl, rfl⟩ := hp
        refine sv_iincN C d_Fo_evaluateUntil_78 rfl (by decide) rfl ?_
        refine sv_goto (tgt := 19) C d_Fo_evaluateUntil_81 (by decide) ?_
        refine sv_eqw (ws' := hC cI cJ cZ (hu L 3 (ss_drop fO 0 i)) (hu (hu I 0 (upd I0 cnt (nI i))) 1 (upd (upd I1 i (-1)) i 0)) (hu V 2 (nI (cnt + 1))) tl) (by rw [hu_hu, hu_sw (hu I 0 I0) _ _ (show (1 : Nat) ≠ 0 by decide), hu_hu, hu_hu]; rfl) ?_
        have hnF : ¬ bf_F fd cnt i := fun ⟨k, hk9, e⟩ => by
          have := (hk k hk9).1
          omega
        refine ih (i + 1, cnt + 1, ss_drop fO 0 i, upd I0 cnt (nI i), upd (upd I1 i (-1)) i 0, hu fd cnt i) ⟨by dsimp only; omega, by dsimp only; omega, fun k hk9 => ?_, bf_inj hj hnF, fun z hz hb => ?_, fun z hz hb => ?_, fun z hz => ?_⟩ (by dsimp only; omega)
        · dsimp only at hk9 ⊢
          by_cases e : k = cnt
          · rw [e, hu_s, pk_us, pk_us]
            exact ⟨by omega, hyi, rfl, rfl⟩
          · have h9 := hk k (by omega)
            rw [hu_n e, pk_un e, pk_un (by omega), pk_un (by omega)]
            exact ⟨by omega, h9.2⟩
        · dsimp only at hz ⊢
          by_cases e : z = i
          · exact bf_F_s.mpr (Or.inr e)
          · exact bf_F_s.mpr (Or.inl (hY1 z (by omega) hb))
        · dsimp only at hz ⊢
          have e : z ≠ i := fun q => by
            rw [q, hyi] at hb
            cases hb
          rw [pk_un e, pk_un e]
          exact hY0 z (by omega) hb
        · dsimp only
          rw [ss_drop_b fO 0 i 0 z hz (by omega)]
          by_cases e : z = i
          · subst e
            simp [hyi]
          · have e1 : ss_b fO 0 z = true ↔ (ss_b (L 4) x z = true ∧ ¬ (z < i + 1 ∧ ss_b (L 4) y z = true)) := (hO z hz).trans ⟨fun q => ⟨q.1, fun r => q.2 ⟨by omega, r.2⟩⟩, fun q => ⟨q.1, fun r => q.2 ⟨by omega, r.2⟩⟩⟩
            simp only [e, decide_true, decide_false, Bool.and_false, Bool.not_false, Bool.and_true]
            exact e1
