/-! The reference: endless rows, until -/
theorem pigh : ∀ (N : Nat) (p : Nat → Nat), (∀ i, i ≤ N → p i < N) → ∃ i j, i < j ∧ j ≤ N ∧ p i = p j
  | 0, p, h => absurd (h 0 (Nat.le_refl _)) (Nat.not_lt_zero _)
  | N + 1, p, h => by
    by_cases hx : ∃ i, i ≤ N ∧ p i = p (N + 1)
    · obtain ⟨i, h1, h2⟩ := hx
      exact ⟨i, N + 1, by omega, Nat.le_refl _, h2⟩
    · have hne : ∀ i, i ≤ N → p i ≠ p (N + 1) := fun i hi e => hx ⟨i, hi, e⟩
      have hv := h (N + 1) (Nat.le_refl _)
      obtain ⟨i, j, h1, h2, h3⟩ := pigh N (fun i => if p (N + 1) < p i then p i - 1 else p i) (fun i hi => by
        have h4 := hne i hi
        have h5 := h i (by omega)
        show (if p (N + 1) < p i then p i - 1 else p i) < N
        split <;> omega)
      refine ⟨i, j, h1, by omega, ?_⟩
      have h3 : (if p (N + 1) < p i then p i - 1 else p i) = (if p (N + 1) < p j then p j - 1 else p j) := h3
      have h4 := hne i (by omega)
      have h5 := hne j (by omega)
      split at h3 <;> split at h3 <;> omega
/-- where each state leads on to one of Y, there is a row with Y again and again -/
theorem ag_of {E : Nat → Nat → Prop} {Y Z : Nat → Prop} {N : Nat} (hN : ∀ z, Z z → z < N) (h : ∀ z, Z z → ∃ t, Z t ∧ Y t ∧ ∃ u, E z u ∧ g_re E u t) {z : Nat} (hz : Z z) : g_ag E Y z := by
  have h' : ∀ z, ∃ t, Z z → (Z t ∧ Y t ∧ ∃ u, E z u ∧ g_re E u t) := fun z => by
    by_cases hz : Z z
    · obtain ⟨t, ht⟩ := h z hz
      exact ⟨t, fun _ => ht⟩
    · exact ⟨0, fun q => absurd q hz⟩
  obtain ⟨nx, hnx⟩ := Classical.skolem.mp h'
  have hp : ∃ p : Nat → Nat, p 0 = nx z ∧ ∀ i, p (i + 1) = nx (p i) := ⟨fun i => Nat.rec (nx z) (fun _ v => nx v) i, rfl, fun _ => rfl⟩
  obtain ⟨p, p0, p1⟩ := hp
  have hZ : ∀ i, Z (p i) ∧ Y (p i) := fun i => by
    induction i with
    | zero =>
      rw [p0]
      exact ⟨(hnx z hz).1, (hnx z hz).2.1⟩
    | succ i ih =>
      rw [p1]
      exact ⟨(hnx _ ih.1).1, (hnx _ ih.1).2.1⟩
  have hr : ∀ i, g_re E z (p i) := fun i => by
    induction i with
    | zero =>
      rw [p0]
      obtain ⟨u, h1, h2⟩ := (hnx z hz).2.2
      exact g_re_hd h1 h2
    | succ i ih =>
      rw [p1]
      obtain ⟨u, h1, h2⟩ := (hnx _ (hZ i).1).2.2
      exact g_re_tr ih (g_re_hd h1 h2)
  have hs : ∀ i k, ∃ u, E (p i) u ∧ g_re E u (p (i + k + 1)) := fun i k => by
    induction k with
    | zero =>
      show ∃ u, E (p i) u ∧ g_re E u (p (i + 1))
      rw [p1]
      exact (hnx _ (hZ i).1).2.2
    | succ k ih =>
      obtain ⟨u, h1, h2⟩ := ih
      obtain ⟨w, h3, h4⟩ := (hnx _ (hZ (i + k + 1)).1).2.2
      refine ⟨u, h1, ?_⟩
      show g_re E u (p (i + k + 1 + 1))
      rw [p1]
      exact g_re_tr h2 (g_re_hd h3 h4)
  obtain ⟨i, j, hij, -, e⟩ := pigh N p (fun i _ => hN _ (hZ i).1)
  obtain ⟨u, h1, h2⟩ := hs i (j - i - 1)
  rw [show i + (j - i - 1) + 1 = j by omega, ← e] at h2
  exact ⟨p i, hr i, (hZ i).2, u, h1, h2⟩
/-- such a row's next state -/
theorem ag_nx {E : Nat → Nat → Prop} {Y : Nat → Prop} {z : Nat} (h : g_ag E Y z) : ∃ w t, E z w ∧ g_re E w t ∧ Y t ∧ g_ag E Y t := by
  obtain ⟨t, h1, h2, u, h3, h4⟩ := h
  have ht : g_ag E Y t := ⟨t, g_re_rf E t, h2, u, h3, h4⟩
  rcases g_re_cases h1 with e | ⟨c, h5, h6⟩
  · rw [e]
    exact ⟨u, t, h3, h4, h2, ht⟩
  · exact ⟨c, t, h5, h6, h2, ht⟩
section
variable {cI cJ cZ : ClassId} {L : Nat → Nat → Int64} {I : Nat → Nat → Int32} {V : Nat → Int32} {W : Nat → Int32} {J : Nat → Nat → Int32} {B : Nat → Nat → Bool} {tl : List va_E}
theorem st31 {k : Nat} {x : Int32} (t : Bool) (hk : k < 2 ^ 31) (hx : x = b2i t) : (hM cI cJ cZ L I V W J B tl).set 31 (.inl (cZ, 15360, .inl (upd (fun i => b2i (B 0 i)) (nI k).toNatClampNeg (vp_nar .boolean x)))) = hM cI cJ cZ L I V W J (hu B 0 (hu (B 0) k t)) tl := by
  rw [hx, nI_clamp hk, b2i_upd]
  rfl
theorem st32 {k : Nat} {x : Int32} (t : Bool) (hk : k < 2 ^ 31) (hx : x = b2i t) : (hM cI cJ cZ L I V W J B tl).set 32 (.inl (cZ, 256, .inl (upd (fun i => b2i (B 1 i)) (nI k).toNatClampNeg (vp_nar .boolean x)))) = hM cI cJ cZ L I V W J (hu B 1 (hu (B 1) k t)) tl := by
  rw [hx, nI_clamp hk, b2i_upd]
  rfl
theorem st33 {k : Nat} {x : Int32} (t : Bool) (hk : k < 2 ^ 31) (hx : x = b2i t) : (hM cI cJ cZ L I V W J B tl).set 33 (.inl (cZ, 256, .inl (upd (fun i => b2i (B 2 i)) (nI k).toNatClampNeg (vp_nar .boolean x)))) = hM cI cJ cZ L I V W J (hu B 2 (hu (B 2) k t)) tl := by
  rw [hx, nI_clamp hk, b2i_upd]
  rfl
end
/-- formula x holds in z, as the reference has it now -/
def mTx (B : Nat → Nat → Bool) (n x z : Nat) : Prop := z < 2 ^ n ∧ B 0 (256 * x + z) = true
def mTg (B : Nat → Nat → Bool) (n z : Nat) : Prop := z < 2 ^ n ∧ B 2 z = true
theorem cnt_put {b : Nat → Bool} {s N : Nat} (hs : s < N) (hb : b s = false) : g_cnt (fun z => !hu b s true z) N + 1 = g_cnt (fun z => !b z) N := by
  refine g_cnt_drop (O := fun z => !b z) (O' := fun z => !hu b s true z) (k := s) (by simp [hb]) (fun x => ?_) N hs
  by_cases e : x = s
  · rw [e, hu_s]
    simp
  · rw [hu_n e]
    simp [e]
set_option maxRecDepth 100000 in
set_option maxHeartbeats 8000000 in
theorem c_Mo_until {l : Launch} {D : va_G} {cI cJ cZ : ClassId} {L : Nat → Nat → Int64} {I : Nat → Nat → Int32} {V : Nat → Int32} {W : Nat → Int32} {J : Nat → Nat → Int32} {B : Nat → Nat → Bool} {tl : List va_E} {n r x : Nat} {rl : Nat → Nat × Nat × Nat × Nat} (hr : mr_ok W J n r rl) (hx : x < 60) :
    sv_M l y_Mo_until [Cond.code y_Mo_until b_Mo_until 5 none] ({ frames := 2, cells := 0, slots := 0, locals := 48 } : Room) D sv_cl (sv_ty cI cJ cZ) [.ref 23, .int (nI x)] (hM cI cJ cZ L I V W J B tl) 0 0 (fun q ws' => q = none ∧ ∃ B' : Nat → Nat → Bool, ws' = hM cI cJ cZ L I V W J B' tl ∧ B' 0 = B 0 ∧ B' 2 = B 2 ∧ ∀ z, z < 2 ^ n → (B' 1 z = true ↔ ∃ m, um (rs n r rl) (mTx B n x) (mTg B n) m z)) sv_no 0 0 := by
  refine sv_of (cc := b_Mo_until) (by decide +kernel) (Nat.le_of_ble_eq_true rfl) ?_
  intro pX eX sX mX aX bX tX cX AX adX C htab hnm
  have hr' := hr
  obtain ⟨⟨hn, hW1, hW2, hr40, hrl⟩, hJ⟩ := hr'
  have hp8 := pow_le8 hn
  refine sv_iconst (v := 1) C d_Mo_until_0 rfl ?_
  refine sv_aload_n C d_Mo_until_1 rfl rfl ?_
  refine sv_get (ci := 5) (kf := 1) C i_Mo rfl (by decide) f_Mo_7 (fun _ h9 => h9) d_Mo_until_2 (by first | assumption | rfl) rfl ?_
  rw [hW1]
  refine sv_ishl C d_Mo_until_5 ?_
  rw [ma_sh n (by omega)]
  refine sv_istore_n C d_Mo_until_6 rfl (by decide) rfl ?_
  refine sv_iconst (v := 0) C d_Mo_until_7 rfl ?_
  refine sv_istore_n C d_Mo_until_8 rfl (by decide) rfl ?_
  refine sv_ind (σ := Nat × (Nat → Nat → Bool)) (I := fun q => q.1 ≤ 2 ^ n ∧ q.2 0 = B 0 ∧ q.2 2 = B 2 ∧ ∀ z, z < q.1 → q.2 1 z = B 2 z) (μ := fun q => 2 ^ n - q.1)
    (lv := fun q => [some (.ref 23), some (.int (nI x)), some (.int (nI (2 ^ n))), some (.int (nI q.1)), none]) (ws := fun q => hM cI cJ cZ L I V W J q.2 tl) ?_ (0, B) ⟨Nat.zero_le _, rfl, rfl, fun z hz => absurd hz (Nat.not_lt_zero z)⟩
  rintro ⟨i, B1⟩ ⟨hi, e0, e2, hc⟩ ih
  dsimp only at hi e0 e2 hc ih
  refine sv_iload_n C d_Mo_until_9 rfl rfl ?_
  refine sv_iload_n C d_Mo_until_10 rfl rfl ?_
  refine sv_icmp_ge (tgt := 32) C d_Mo_until_11 (by decide) (fun h1 => ?_) (fun h1 => ?_)
  · have h1 : 2 ^ n ≤ i := (nI_leI (a := 2 ^ n) (b := i) (by omega) (by omega)).mp h1
    have h2 : i = 2 ^ n := by omega
    subst h2
    clear ih
    refine sv_iconst (v := 1) C d_Mo_until_32 rfl ?_
    refine sv_istore_n C d_Mo_until_33 rfl (by decide) rfl ?_
    refine sv_eqw (ws' := hM cI cJ cZ L I V W J B1 tl) rfl ?_
    refine sv_ind (σ := Bool × (Nat → Nat → Bool)) (I := fun q => q.2 0 = B 0 ∧ q.2 2 = B 2 ∧ (∀ z, z < 2 ^ n → q.2 1 z = true → ∃ m, um (rs n r rl) (mTx B n x) (mTg B n) m z) ∧ (∀ z, z < 2 ^ n → B 2 z = true → q.2 1 z = true) ∧ (q.1 = false → ∀ z, mTx B n x z → (∃ t, rs n r rl z t ∧ q.2 1 t = true) → q.2 1 z = true))
      (μ := fun q => 2 * g_cnt (fun z => !q.2 1 z) (2 ^ n) + (if q.1 = true then 1 else 0)) (lv := fun q => [some (.ref 23), some (.int (nI x)), some (.int (nI (2 ^ n))), some (.int (b2i q.1)), none]) (ws := fun q => hM cI cJ cZ L I V W J q.2 tl) ?_ (true, B1) ⟨e0, e2, fun z hz h => ⟨0, z, ⟨hz, by rw [← hc z hz]; exact h⟩, rfl⟩, fun z hz h => by dsimp only; rw [hc z hz]; exact h, fun q => absurd q.symm Bool.false_ne_true⟩
    clear hc e0 e2 hi
    rintro ⟨mo, B1⟩ ⟨e0, e2, hso, hgo, hcl⟩ ih
    dsimp only at e0 e2 hso hgo hcl ih
    refine sv_iload_n C d_Mo_until_34 rfl rfl ?_
    cases mo with
    | false =>
      refine sv_if_eq (tgt := 102) C d_Mo_until_35 (by decide) (fun h3 => ?_) (fun h3 => ?_)
      · refine sv_vret C rfl d_Mo_until_102 (Nat.le_of_ble_eq_true rfl) (Nat.le_of_ble_eq_true rfl) (fun _ _ => rfl) (⟨rfl, B1, rfl, e0, e2, fun z hz => ⟨hso z hz, fun ⟨m, hm⟩ => ?_⟩⟩)
        have hcl := hcl rfl
        induction m generalizing z with
        | zero =>
          obtain ⟨t, ht, e⟩ := hm
          have e : z = t := e
          rw [e]
          exact hgo t ht.1 ht.2
        | succ m ihm =>
          obtain ⟨t, ht, c, hc, hst⟩ := hm
          exact hcl z hc.1 ⟨c, hc.2, ihm c (rs_lt hrl hc.2) ⟨m, t, ht, hst⟩ ⟨t, ht, hst⟩⟩
      · exact absurd rfl h3
    | true =>
      refine sv_if_eq (tgt := 102) C d_Mo_until_35 (by decide) (fun h3 => ?_) (fun h3 => ?_)
      · exact absurd (show b2i true = 0 from h3) (by decide)
      · refine sv_iconst (v := 0) C d_Mo_until_38 rfl ?_
        refine sv_istore_n C d_Mo_until_39 rfl (by decide) rfl ?_
        refine sv_iconst (v := 0) C d_Mo_until_40 rfl ?_
        refine sv_istore C d_Mo_until_41 (by decide) rfl ?_
        refine sv_eqw (ws' := hM cI cJ cZ L I V W J B1 tl) rfl ?_
        refine sv_ind (σ := Nat × Bool × (Nat → Nat → Bool)) (I := fun q => q.1 ≤ 2 ^ n ∧ q.2.2 0 = B 0 ∧ q.2.2 2 = B 2 ∧ (∀ z, z < 2 ^ n → q.2.2 1 z = true → ∃ m, um (rs n r rl) (mTx B n x) (mTg B n) m z) ∧ (∀ z, z < 2 ^ n → B 2 z = true → q.2.2 1 z = true) ∧ (q.2.1 = false → q.2.2 1 = B1 1 ∧ ∀ z, z < q.1 → mTx B n x z → (∃ t, rs n r rl z t ∧ q.2.2 1 t = true) → q.2.2 1 z = true) ∧ (q.2.1 = true → g_cnt (fun z => !q.2.2 1 z) (2 ^ n) < g_cnt (fun z => !B1 1 z) (2 ^ n)))
          (μ := fun q => 2 ^ n - q.1) (lv := fun q => [some (.ref 23), some (.int (nI x)), some (.int (nI (2 ^ n))), some (.int (b2i q.2.1)), some (.int (nI q.1))]) (ws := fun q => hM cI cJ cZ L I V W J q.2.2 tl) ?_ (0, false, B1) ⟨Nat.zero_le _, e0, e2, hso, hgo, fun _ => ⟨rfl, fun z hz => absurd hz (Nat.not_lt_zero z)⟩, fun q => absurd q Bool.false_ne_true⟩
        rintro ⟨s, mo, B2⟩ ⟨hs, f0, f2, gso, ggo, gcl, gmo⟩ ih2
        dsimp only at hs f0 f2 gso ggo gcl gmo ih2
        refine sv_iload C d_Mo_until_43 rfl ?_
        refine sv_iload_n C d_Mo_until_45 rfl rfl ?_
        refine sv_icmp_ge (tgt := 99) C d_Mo_until_46 (by decide) (fun h4 => ?_) (fun h4 => ?_)
        · have h4 : 2 ^ n ≤ s := (nI_leI (a := 2 ^ n) (b := s) (by omega) (by omega)).mp h4
          have h5 : s = 2 ^ n := by omega
          subst h5
          refine sv_goto (tgt := 34) C d_Mo_until_99 (by decide) ?_
          refine sv_drop [true, true, true, true, false] ?_
          refine ih (mo, B2) ⟨f0, f2, gso, ggo, fun q z hz => (gcl q).2 z hz.1 hz⟩ ?_
          dsimp only
          cases mo with
          | true =>
            have := gmo rfl
            simp only [if_true]
            omega
          | false =>
            have := (gcl rfl).1
            rw [this]
            simp
        · have h4 : ¬ 2 ^ n ≤ s := fun h => h4 ((nI_leI (a := 2 ^ n) (b := s) (by omega) (by omega)).mpr h)
          have hsin : vp_in (nI s) 256 := vp_in_nI (by omega) (by omega)
          -- nothing is put at s
          refine sv_join (σ := Unit) (pc1 := 93) (st1 := []) (k1 := 0) (n1 := 0) (J := fun _ => mTx B n x s → (∃ t, rs n r rl s t ∧ B2 1 t = true) → B2 1 s = true) (lv1 := fun _ => [some (.ref 23), some (.int (nI x)), some (.int (nI (2 ^ n))), some (.int (b2i mo)), some (.int (nI s))]) (ws1 := fun _ => hM cI cJ cZ L I V W J B2 tl) (fun _ hno => ?_) (fun nx => ?_)
          · refine sv_iincN C d_Mo_until_93 rfl (by decide) rfl ?_
            refine sv_goto (tgt := 43) C d_Mo_until_96 (by decide) ?_
            refine ih2 (s + 1, mo, B2) ⟨by dsimp only; omega, f0, f2, gso, ggo, fun q => ⟨(gcl q).1, fun z hz h5 h6 => ?_⟩, gmo⟩ (by dsimp only; omega)
            by_cases e : z = s
            · rw [e] at h5 h6 ⊢
              exact hno h5 h6
            · exact (gcl q).2 z (by dsimp only at hz; omega) h5 h6
          refine sv_aload_n C d_Mo_until_49 rfl rfl ?_
          refine sv_get (ci := 5) (kf := 13) C i_Mo rfl (by decide) f_Mo_39 (fun _ h9 => h9) d_Mo_until_50 (by first | assumption | rfl) rfl ?_
          refine sv_iload C d_Mo_until_53 rfl ?_
          refine sv_zald (t0 := 2) C rfl d_Mo_until_55 (by first | assumption | rfl) (by assumption) ?_
          refine sv_eqs (st' := [.int (b2i (B2 1 s))]) (by rw [nI_clamp (by omega)]) ?_
          cases hbs : B2 1 s with
          | true =>
            refine sv_if_ne (tgt := 93) C d_Mo_until_56 (by decide) (fun h6 => ?_) (fun h6 => ?_)
            · exact nx () (fun _ _ => hbs)
            · exact absurd h6 (by decide)
          | false =>
            refine sv_if_ne (tgt := 93) C d_Mo_until_56 (by decide) (fun h6 => ?_) (fun h6 => ?_)
            · exact absurd rfl h6
            · refine sv_aload_n C d_Mo_until_59 rfl rfl ?_
              refine sv_iload_n C d_Mo_until_60 rfl rfl ?_
              refine sv_iload C d_Mo_until_61 rfl ?_
              refine sv_callV (ci := 5) C (c_Mo_has (cI := cI) (cJ := cJ) (cZ := cZ) (L := L) (I := I) (V := V) (W := W) (J := J) (B := B2) (tl := tl) (f := x) (z := s) hx (by omega)) s_Mo_79 ki_Mo_has ks_Mo_has ⟨rfl, rfl, Nat.le_of_ble_eq_true rfl, Nat.le_of_ble_eq_true rfl⟩ rfl d_Mo_until_63 (by first | assumption | rfl) (Nat.le_of_ble_eq_true rfl) ⟨(Nat.le_of_ble_eq_true rfl), (Nat.le_of_ble_eq_true rfl)⟩ (fun E ws9 h9 => absurd h9 id) (fun v9 ws9 hp => ?_)
              obtain ⟨rfl, rfl⟩ := hp
              rw [f0]
              cases hbx : B 0 (256 * x + s) with
              | false =>
                refine sv_if_eq (tgt := 93) C d_Mo_until_66 (by decide) (fun h7 => ?_) (fun h7 => ?_)
                · exact nx () (fun q => by have := q.2; rw [hbx] at this; exact absurd this Bool.false_ne_true)
                · exact absurd rfl h7
              | true =>
                refine sv_if_eq (tgt := 93) C d_Mo_until_66 (by decide) (fun h7 => ?_) (fun h7 => ?_)
                · exact absurd h7 (by decide)
                · refine sv_aload_n C d_Mo_until_69 rfl rfl ?_
                  refine sv_iload C d_Mo_until_70 rfl ?_
                  refine sv_aload_n C d_Mo_until_72 rfl rfl ?_
                  refine sv_get (ci := 5) (kf := 13) C i_Mo rfl (by decide) f_Mo_39 (fun _ h9 => h9) d_Mo_until_73 (by first | assumption | rfl) rfl ?_
                  refine sv_iconst (v := 0) C d_Mo_until_76 rfl ?_
                  refine sv_eqs (st' := [.int (nI 0), .ref 32, .int (nI s), .ref 23]) rfl ?_
                  refine sv_callV (ci := 5) C (c_Mo_goesInto (cI := cI) (cJ := cJ) (cZ := cZ) (L := L) (I := I) (V := V) (W := W) (J := J) (B := B2) (tl := tl) (n := n) (r := r) (s := s) (a := 32) (N := 256) (fr := 0) (b := B2 1) (rl := rl) hr (by omega) rfl (by omega) (by omega)) s_Mo_82 ki_Mo_goesInto ks_Mo_goesInto ⟨rfl, rfl, Nat.le_of_ble_eq_true rfl, Nat.le_of_ble_eq_true rfl⟩ rfl d_Mo_until_77 (by first | assumption | rfl) (Nat.le_of_ble_eq_true rfl) ⟨(Nat.le_of_ble_eq_true rfl), (Nat.le_of_ble_eq_true rfl)⟩ (fun E ws9 h9 => absurd h9 id) (fun v9 ws9 hp => ?_)
                  obtain ⟨t, rfl, ht, rfl⟩ := hp
                  simp only [Nat.zero_add] at ht
                  cases t with
                  | false =>
                    refine sv_if_eq (tgt := 93) C d_Mo_until_80 (by decide) (fun h8 => ?_) (fun h8 => ?_)
                    · exact nx () (fun _ q => absurd (ht.mpr q) Bool.false_ne_true)
                    · exact absurd rfl h8
                  | true =>
                    have ht := ht.mp rfl
                    refine sv_if_eq (tgt := 93) C d_Mo_until_80 (by decide) (fun h8 => ?_) (fun h8 => ?_)
                    · exact absurd h8 (by decide)
                    · refine sv_aload_n C d_Mo_until_83 rfl rfl ?_
                      refine sv_get (ci := 5) (kf := 13) C i_Mo rfl (by decide) f_Mo_39 (fun _ h9 => h9) d_Mo_until_84 (by first | assumption | rfl) rfl ?_
                      refine sv_iload C d_Mo_until_87 rfl ?_
                      refine sv_iconst (v := 1) C d_Mo_until_89 rfl ?_
                      refine sv_zast (t0 := 2) C rfl d_Mo_until_90 (by first | assumption | rfl) (by assumption) ?_
                      refine sv_eqw (st32 true (by omega) rfl) ?_
                      refine sv_iconst (v := 1) C d_Mo_until_91 rfl ?_
                      refine sv_istore_n C d_Mo_until_92 rfl (by decide) rfl ?_
                      refine sv_iincN C d_Mo_until_93 rfl (by decide) rfl ?_
                      refine sv_goto (tgt := 43) C d_Mo_until_96 (by decide) ?_
                      have hcn := cnt_put (N := 2 ^ n) (by omega) hbs
                      refine ih2 (s + 1, true, hu B2 1 (hu (B2 1) s true)) ⟨by dsimp only; omega, f0, f2, fun z hz h9 => ?_, fun z hz h9 => ?_, fun q => absurd q.symm Bool.false_ne_true, fun _ => ?_⟩ (by dsimp only; omega)
                      · have h9 : hu (B2 1) s true z = true := h9
                        by_cases e : z = s
                        · rw [e]
                          obtain ⟨w, hw1, hw2⟩ := ht
                          obtain ⟨m, hm⟩ := gso w (rs_lt hrl hw1) hw2
                          obtain ⟨y, hy, hst⟩ := hm
                          exact ⟨m + 1, y, hy, w, ⟨⟨by omega, hbx⟩, hw1⟩, hst⟩
                        · rw [hu_n e] at h9
                          exact gso z hz h9
                      · show hu (B2 1) s true z = true
                        by_cases e : z = s
                        · rw [e, hu_s]
                        · rw [hu_n e]
                          exact ggo z hz h9
                      · show g_cnt (fun z => !hu (B2 1) s true z) (2 ^ n) < g_cnt (fun z => !B1 1 z) (2 ^ n)
                        cases mo with
                        | true =>
                          have := gmo rfl
                          omega
                        | false =>
                          rw [(gcl rfl).1] at hcn ⊢
                          omega
  · have h1 : ¬ 2 ^ n ≤ i := fun h => h1 ((nI_leI (a := 2 ^ n) (b := i) (by omega) (by omega)).mpr h)
    have hin : vp_in (nI i) 256 := vp_in_nI (by omega) (by omega)
    refine sv_aload_n C d_Mo_until_14 rfl rfl ?_
    refine sv_get (ci := 5) (kf := 13) C i_Mo rfl (by decide) f_Mo_39 (fun _ h9 => h9) d_Mo_until_15 (by first | assumption | rfl) rfl ?_
    refine sv_iload_n C d_Mo_until_18 rfl rfl ?_
    refine sv_aload_n C d_Mo_until_19 rfl rfl ?_
    refine sv_get (ci := 5) (kf := 14) C i_Mo rfl (by decide) f_Mo_42 (fun _ h9 => h9) d_Mo_until_20 (by first | assumption | rfl) rfl ?_
    refine sv_iload_n C d_Mo_until_23 rfl rfl ?_
    refine sv_zald (t0 := 2) C rfl d_Mo_until_24 (by first | assumption | rfl) hin ?_
    refine sv_zast (t0 := 2) C rfl d_Mo_until_25 (by first | assumption | rfl) hin ?_
    refine sv_eqw (st32 (B1 2 i) (by omega) (by rw [nI_clamp (by omega)])) ?_
    refine sv_iincN C d_Mo_until_26 rfl (by decide) rfl ?_
    refine sv_goto (tgt := 9) C d_Mo_until_29 (by decide) ?_
    refine ih (i + 1, hu B1 1 (hu (B1 1) i (B1 2 i))) ⟨by dsimp only; omega, e0, e2, fun z hz => ?_⟩ (by dsimp only; omega)
    show hu (B1 1) i (B1 2 i) z = B 2 z
    by_cases e : z = i
    · rw [e, hu_s, e2]
    · rw [hu_n e]
      exact hc z (by dsimp only at hz; omega)
