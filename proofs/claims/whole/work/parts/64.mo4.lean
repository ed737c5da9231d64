/-! The reference: always, again -/
theorem cnt_off {b : Nat → Bool} {s N f : Nat} (hs : s < N) (hb : b (256 * f + s) = true) : g_cnt (fun z => hu b (256 * f + s) false (256 * f + z)) N + 1 = g_cnt (fun z => b (256 * f + z)) N := by
  refine g_cnt_drop (O := fun z => b (256 * f + z)) (O' := fun z => hu b (256 * f + s) false (256 * f + z)) (k := s) hb (fun x => ?_) N hs
  by_cases e : x = s
  · rw [e, hu_s]
    simp
  · rw [hu_n (by omega)]
    simp [e]
/-- the arrows within formula x -/
def mE (B : Nat → Nat → Bool) (n r : Nat) (rl : Nat → Nat × Nat × Nat × Nat) (x a b : Nat) : Prop := mTx B n x a ∧ mTx B n x b ∧ rs n r rl a b
theorem um_E {S : Nat → Nat → Prop} {X : Nat → Prop} {t : Nat} (ht : X t) : ∀ (m w : Nat), g_st (fun a b => X a ∧ S a b) m w t → X w ∧ g_st (fun a b => X a ∧ X b ∧ S a b) m w t
  | 0, w, h => by
    have h : w = t := h
    rw [h]
    exact ⟨ht, rfl⟩
  | m + 1, w, h => by
    obtain ⟨c, hc, h⟩ := h
    obtain ⟨h1, h2⟩ := um_E ht m c h
    exact ⟨hc.1, c, ⟨hc.1, h1, hc.2⟩, h2⟩
theorem um_of_E {S : Nat → Nat → Prop} {X : Nat → Prop} {t : Nat} : ∀ (m w : Nat), g_st (fun a b => X a ∧ X b ∧ S a b) m w t → g_st (fun a b => X a ∧ S a b) m w t
  | 0, w, h => h
  | m + 1, w, h => by
    obtain ⟨c, hc, h⟩ := h
    exact ⟨c, ⟨hc.1, hc.2.2⟩, um_of_E m c h⟩
theorem re_X {S : Nat → Nat → Prop} {X : Nat → Prop} {a b : Nat} (ha : X a) (h : g_re (fun a b => X a ∧ X b ∧ S a b) a b) : X b := g_re_fwd h ha (fun _ _ _ q => q.2.1)
theorem mTx_out {B B1 : Nat → Nat → Bool} {n f x : Nat} (hn : n ≤ 8) (hxf : x < f) (h : ∀ i, ¬ (256 * f ≤ i ∧ i < 256 * f + 2 ^ n) → B1 0 i = B 0 i) : mTx B1 n x = mTx B n x := by
  have hp8 := pow_le8 hn
  funext z
  unfold mTx
  by_cases hz : z < 2 ^ n
  · rw [h (256 * x + z) (by omega)]
  · exact propext ⟨fun q => absurd q.1 hz, fun q => absurd q.1 hz⟩
set_option maxRecDepth 100000 in
set_option maxHeartbeats 8000000 in
theorem c_Mo_always {l : Launch} {D : va_G} {cI cJ cZ : ClassId} {L : Nat → Nat → Int64} {I : Nat → Nat → Int32} {V : Nat → Int32} {W : Nat → Int32} {J : Nat → Nat → Int32} {B : Nat → Nat → Bool} {tl : List va_E} {n r f x : Nat} {rl : Nat → Nat × Nat × Nat × Nat} (hr : mr_ok W J n r rl) (hf : f < 60) (hxf : x < f) :
    sv_M l y_Mo_always [Cond.code y_Mo_always b_Mo_always 6 none] ({ frames := 2, cells := 0, slots := 0, locals := 48 } : Room) D sv_cl (sv_ty cI cJ cZ) [.ref 23, .int (nI f), .int (nI x)] (hM cI cJ cZ L I V W J B tl) 0 0 (fun q ws' => q = none ∧ ∃ B' : Nat → Nat → Bool, ws' = hM cI cJ cZ L I V W J B' tl ∧ (∀ i, ¬ (256 * f ≤ i ∧ i < 256 * f + 2 ^ n) → B' 0 i = B 0 i) ∧ ∀ z, z < 2 ^ n → (B' 0 (256 * f + z) = true ↔ (mTx B n x z ∧ g_ag (fun a b => mTx B n x a ∧ mTx B n x b ∧ rs n r rl a b) (mTx B n x) z))) sv_no 0 0 := by
  refine sv_of (cc := b_Mo_always) (by decide +kernel) (Nat.le_of_ble_eq_true rfl) ?_
  intro pX eX sX mX aX bX tX cX AX adX C htab hnm
  have hr' := hr
  obtain ⟨⟨hn, hW1, hW2, hr40, hrl⟩, hJ⟩ := hr'
  have hp8 := pow_le8 hn
  refine sv_iconst (v := 1) C d_Mo_always_0 rfl ?_
  refine sv_aload_n C d_Mo_always_1 rfl rfl ?_
  refine sv_get (ci := 5) (kf := 1) C i_Mo rfl (by decide) f_Mo_7 (fun _ h9 => h9) d_Mo_always_2 (by first | assumption | rfl) rfl ?_
  rw [hW1]
  refine sv_ishl C d_Mo_always_5 ?_
  rw [ma_sh n (by omega)]
  refine sv_istore_n C d_Mo_always_6 rfl (by decide) rfl ?_
  refine sv_iconst (v := 0) C d_Mo_always_7 rfl ?_
  refine sv_istore C d_Mo_always_8 (by decide) rfl ?_
  refine sv_ind (σ := Nat × (Nat → Nat → Bool)) (I := fun q => q.1 ≤ 2 ^ n ∧ q.2 1 = B 1 ∧ q.2 2 = B 2 ∧ (∀ i, ¬ (256 * f ≤ i ∧ i < 256 * f + 2 ^ n) → q.2 0 i = B 0 i) ∧ ∀ z, z < q.1 → q.2 0 (256 * f + z) = B 0 (256 * x + z)) (μ := fun q => 2 ^ n - q.1)
    (lv := fun q => [some (.ref 23), some (.int (nI f)), some (.int (nI x)), some (.int (nI (2 ^ n))), some (.int (nI q.1)), none]) (ws := fun q => hM cI cJ cZ L I V W J q.2 tl) ?_ (0, B) ⟨Nat.zero_le _, rfl, rfl, fun _ _ => rfl, fun z hz => absurd hz (Nat.not_lt_zero z)⟩
  rintro ⟨i, B1⟩ ⟨hi, e1, e2, hout, hc⟩ ih
  dsimp only at hi e1 e2 hout hc ih
  refine sv_iload C d_Mo_always_10 rfl ?_
  refine sv_iload_n C d_Mo_always_12 rfl rfl ?_
  refine sv_icmp_ge (tgt := 42) C d_Mo_always_13 (by decide) (fun h1 => ?_) (fun h1 => ?_)
  rotate_left
  · have h1 : ¬ 2 ^ n ≤ i := fun h => h1 ((nI_leI (a := 2 ^ n) (b := i) (by omega) (by omega)).mpr h)
    have hin : vp_in (nI (256 * f + i)) 15360 := vp_in_nI (by omega) (by omega)
    refine sv_aload_n C d_Mo_always_16 rfl rfl ?_
    refine sv_get (ci := 5) (kf := 12) C i_Mo rfl (by decide) f_Mo_35 (fun _ h9 => h9) d_Mo_always_17 (by first | assumption | rfl) rfl ?_
    refine sv_sipush (v := 256) C d_Mo_always_20 rfl ?_
    refine sv_iload_n C d_Mo_always_23 rfl rfl ?_
    refine sv_imul C d_Mo_always_24 ?_
    refine sv_iload C d_Mo_always_25 rfl ?_
    refine sv_iadd C d_Mo_always_27 ?_
    rw [m256]
    refine sv_aload_n C d_Mo_always_28 rfl rfl ?_
    refine sv_iload_n C d_Mo_always_29 rfl rfl ?_
    refine sv_iload C d_Mo_always_30 rfl ?_
    refine sv_callV (ci := 5) C (c_Mo_has (cI := cI) (cJ := cJ) (cZ := cZ) (L := L) (I := I) (V := V) (W := W) (J := J) (B := B1) (tl := tl) (f := x) (z := i) (by omega) (by omega)) s_Mo_79 ki_Mo_has ks_Mo_has ⟨rfl, rfl, Nat.le_of_ble_eq_true rfl, Nat.le_of_ble_eq_true rfl⟩ rfl d_Mo_always_32 (by first | assumption | rfl) (Nat.le_of_ble_eq_true rfl) ⟨(Nat.le_of_ble_eq_true rfl), (Nat.le_of_ble_eq_true rfl)⟩ (fun E ws9 h9 => absurd h9 id) (fun v9 ws9 hp => ?_)
    obtain ⟨rfl, rfl⟩ := hp
    refine sv_zast (t0 := 2) C rfl d_Mo_always_35 (by first | assumption | rfl) hin ?_
    refine sv_eqw (st31 (B1 0 (256 * x + i)) (by omega) rfl) ?_
    refine sv_iincN C d_Mo_always_36 rfl (by decide) rfl ?_
    refine sv_goto (tgt := 10) C d_Mo_always_39 (by decide) ?_
    refine ih (i + 1, hu B1 0 (hu (B1 0) (256 * f + i) (B1 0 (256 * x + i)))) ⟨by dsimp only; omega, e1, e2, fun j hj => ?_, fun z hz => ?_⟩ (by dsimp only; omega)
    · show hu (B1 0) (256 * f + i) (B1 0 (256 * x + i)) j = B 0 j
      rw [hu_n (by omega)]
      exact hout j hj
    · show hu (B1 0) (256 * f + i) (B1 0 (256 * x + i)) (256 * f + z) = B 0 (256 * x + z)
      by_cases e : z = i
      · rw [e, hu_s]
        exact hout _ (by omega)
      · rw [hu_n (by omega)]
        exact hc z (by dsimp only at hz; omega)
  have h1 : 2 ^ n ≤ i := (nI_leI (a := 2 ^ n) (b := i) (by omega) (by omega)).mp h1
  have h2 : i = 2 ^ n := by omega
  subst h2
  clear ih
  refine sv_iconst (v := 1) C d_Mo_always_42 rfl ?_
  refine sv_istore C d_Mo_always_43 (by decide) rfl ?_
  refine sv_eqw (ws' := hM cI cJ cZ L I V W J B1 tl) rfl ?_
  refine sv_ind (σ := Bool × (Nat → Nat → Bool)) (I := fun q => (∀ i, ¬ (256 * f ≤ i ∧ i < 256 * f + 2 ^ n) → q.2 0 i = B 0 i) ∧ (∀ z, z < 2 ^ n → q.2 0 (256 * f + z) = true → mTx B n x z) ∧ (∀ z, z < 2 ^ n → mTx B n x z → g_ag (fun a b => mTx B n x a ∧ mTx B n x b ∧ rs n r rl a b) (mTx B n x) z → q.2 0 (256 * f + z) = true) ∧ (q.1 = false → ∀ z, z < 2 ^ n → q.2 0 (256 * f + z) = true → ∃ t, rs n r rl z t ∧ q.2 0 (256 * f + t) = true))
    (μ := fun q => 2 * g_cnt (fun z => q.2 0 (256 * f + z)) (2 ^ n) + (if q.1 = true then 1 else 0)) (lv := fun q => [some (.ref 23), some (.int (nI f)), some (.int (nI x)), some (.int (nI (2 ^ n))), some (.int (b2i q.1)), none]) (ws := fun q => hM cI cJ cZ L I V W J q.2 tl) ?_ (true, B1) ⟨hout, fun z hz h => ⟨hz, by rw [← hc z hz]; exact h⟩, fun z hz h _ => by dsimp only; rw [hc z hz]; exact h.2, fun q => absurd q.symm Bool.false_ne_true⟩
  clear hc e1 e2 hi hout
  rintro ⟨mo, B1⟩ ⟨hout, hsub, hgood, hcl⟩ ih
  dsimp only at hout hsub hgood hcl ih
  refine sv_iload C d_Mo_always_45 rfl ?_
  cases mo with
  | false =>
    refine sv_if_eq (tgt := 116) C d_Mo_always_47 (by decide) (fun h3 => ?_) (fun h3 => ?_)
    · refine sv_vret C rfl d_Mo_always_116 (Nat.le_of_ble_eq_true rfl) (Nat.le_of_ble_eq_true rfl) (fun _ _ => rfl) (⟨rfl, B1, rfl, hout, fun z hz => ⟨fun h => ⟨hsub z hz h, ?_⟩, fun h => hgood z hz h.1 h.2⟩⟩)
      refine ag_of (Z := fun z => z < 2 ^ n ∧ B1 0 (256 * f + z) = true) (N := 2 ^ n) (fun z hz => hz.1) (fun z hz => ?_) ⟨hz, h⟩
      obtain ⟨t, ht1, ht2⟩ := hcl rfl z hz.1 hz.2
      have htN := rs_lt hrl ht1
      exact ⟨t, ⟨htN, ht2⟩, hsub t htN ht2, t, ⟨hsub z hz.1 hz.2, hsub t htN ht2, ht1⟩, g_re_rf _ t⟩
    · exact absurd rfl h3
  | true =>
    refine sv_if_eq (tgt := 116) C d_Mo_always_47 (by decide) (fun h3 => ?_) (fun h3 => ?_)
    · exact absurd (show b2i true = 0 from h3) (by decide)
    · refine sv_iconst (v := 0) C d_Mo_always_50 rfl ?_
      refine sv_istore C d_Mo_always_51 (by decide) rfl ?_
      refine sv_iconst (v := 0) C d_Mo_always_53 rfl ?_
      refine sv_istore C d_Mo_always_54 (by decide) rfl ?_
      refine sv_eqw (ws' := hM cI cJ cZ L I V W J B1 tl) rfl ?_
      refine sv_ind (σ := Nat × Bool × (Nat → Nat → Bool)) (I := fun q => q.1 ≤ 2 ^ n ∧ (∀ i, ¬ (256 * f ≤ i ∧ i < 256 * f + 2 ^ n) → q.2.2 0 i = B 0 i) ∧ (∀ z, z < 2 ^ n → q.2.2 0 (256 * f + z) = true → mTx B n x z) ∧ (∀ z, z < 2 ^ n → mTx B n x z → g_ag (fun a b => mTx B n x a ∧ mTx B n x b ∧ rs n r rl a b) (mTx B n x) z → q.2.2 0 (256 * f + z) = true) ∧ (q.2.1 = false → q.2.2 0 = B1 0 ∧ ∀ z, z < q.1 → q.2.2 0 (256 * f + z) = true → ∃ t, rs n r rl z t ∧ q.2.2 0 (256 * f + t) = true) ∧ (q.2.1 = true → g_cnt (fun z => q.2.2 0 (256 * f + z)) (2 ^ n) < g_cnt (fun z => B1 0 (256 * f + z)) (2 ^ n)))
        (μ := fun q => 2 ^ n - q.1) (lv := fun q => [some (.ref 23), some (.int (nI f)), some (.int (nI x)), some (.int (nI (2 ^ n))), some (.int (b2i q.2.1)), some (.int (nI q.1))]) (ws := fun q => hM cI cJ cZ L I V W J q.2.2 tl) ?_ (0, false, B1) ⟨Nat.zero_le _, hout, hsub, hgood, fun _ => ⟨rfl, fun z hz => absurd hz (Nat.not_lt_zero z)⟩, fun q => absurd q Bool.false_ne_true⟩
      rintro ⟨s, mo, B2⟩ ⟨hs, gout, gsub, ggood, gcl, gmo⟩ ih2
      dsimp only at hs gout gsub ggood gcl gmo ih2
      refine sv_iload C d_Mo_always_56 rfl ?_
      refine sv_iload_n C d_Mo_always_58 rfl rfl ?_
      refine sv_icmp_ge (tgt := 113) C d_Mo_always_59 (by decide) (fun h4 => ?_) (fun h4 => ?_)
      · have h4 : 2 ^ n ≤ s := (nI_leI (a := 2 ^ n) (b := s) (by omega) (by omega)).mp h4
        have h5 : s = 2 ^ n := by omega
        subst h5
        refine sv_goto (tgt := 45) C d_Mo_always_113 (by decide) ?_
        refine sv_drop [true, true, true, true, true, false] ?_
        refine ih (mo, B2) ⟨gout, gsub, ggood, fun q z hz => (gcl q).2 z hz⟩ ?_
        dsimp only
        cases mo with
        | true =>
          have := gmo rfl
          simp only [if_true]
          omega
        | false =>
          have := (gcl rfl).1
          rw [this]
          simp
      · have h4 : ¬ 2 ^ n ≤ s := fun h => h4 ((nI_leI (a := 2 ^ n) (b := s) (by omega) (by omega)).mpr h)
        have hsin : vp_in (nI (256 * f + s)) 15360 := vp_in_nI (by omega) (by omega)
        refine sv_join (σ := Unit) (pc1 := 107) (st1 := []) (k1 := 0) (n1 := 0) (J := fun _ => B2 0 (256 * f + s) = true → ∃ t, rs n r rl s t ∧ B2 0 (256 * f + t) = true) (lv1 := fun _ => [some (.ref 23), some (.int (nI f)), some (.int (nI x)), some (.int (nI (2 ^ n))), some (.int (b2i mo)), some (.int (nI s))]) (ws1 := fun _ => hM cI cJ cZ L I V W J B2 tl) (fun _ hno => ?_) (fun nx => ?_)
        · refine sv_iincN C d_Mo_always_107 rfl (by decide) rfl ?_
          refine sv_goto (tgt := 56) C d_Mo_always_110 (by decide) ?_
          refine ih2 (s + 1, mo, B2) ⟨by dsimp only; omega, gout, gsub, ggood, fun q => ⟨(gcl q).1, fun z hz h5 => ?_⟩, gmo⟩ (by dsimp only; omega)
          by_cases e : z = s
          · rw [e] at h5 ⊢
            exact hno h5
          · exact (gcl q).2 z (by dsimp only at hz; omega) h5
        refine sv_aload_n C d_Mo_always_62 rfl rfl ?_
        refine sv_iload_n C d_Mo_always_63 rfl rfl ?_
        refine sv_iload C d_Mo_always_64 rfl ?_
        refine sv_callV (ci := 5) C (c_Mo_has (cI := cI) (cJ := cJ) (cZ := cZ) (L := L) (I := I) (V := V) (W := W) (J := J) (B := B2) (tl := tl) (f := f) (z := s) hf (by omega)) s_Mo_79 ki_Mo_has ks_Mo_has ⟨rfl, rfl, Nat.le_of_ble_eq_true rfl, Nat.le_of_ble_eq_true rfl⟩ rfl d_Mo_always_66 (by first | assumption | rfl) (Nat.le_of_ble_eq_true rfl) ⟨(Nat.le_of_ble_eq_true rfl), (Nat.le_of_ble_eq_true rfl)⟩ (fun E ws9 h9 => absurd h9 id) (fun v9 ws9 hp => ?_)
        obtain ⟨rfl, rfl⟩ := hp
        cases hbx : B2 0 (256 * f + s) with
        | false =>
          refine sv_if_eq (tgt := 107) C d_Mo_always_69 (by decide) (fun h7 => ?_) (fun h7 => ?_)
          · exact nx () (fun q => by rw [hbx] at q; exact absurd q Bool.false_ne_true)
          · exact absurd rfl h7
        | true =>
          refine sv_if_eq (tgt := 107) C d_Mo_always_69 (by decide) (fun h7 => ?_) (fun h7 => ?_)
          · exact absurd h7 (by decide)
          · refine sv_aload_n C d_Mo_always_72 rfl rfl ?_
            refine sv_iload C d_Mo_always_73 rfl ?_
            refine sv_aload_n C d_Mo_always_75 rfl rfl ?_
            refine sv_get (ci := 5) (kf := 12) C i_Mo rfl (by decide) f_Mo_35 (fun _ h9 => h9) d_Mo_always_76 (by first | assumption | rfl) rfl ?_
            refine sv_sipush (v := 256) C d_Mo_always_79 rfl ?_
            refine sv_iload_n C d_Mo_always_82 rfl rfl ?_
            refine sv_imul C d_Mo_always_83 ?_
            refine sv_eqs (st' := [.int (nI (256 * f)), .ref 31, .int (nI s), .ref 23]) (by rw [show (256 : Int32) = nI 256 from rfl, pk_mul]; rfl) ?_
            refine sv_callV (ci := 5) C (c_Mo_goesInto (cI := cI) (cJ := cJ) (cZ := cZ) (L := L) (I := I) (V := V) (W := W) (J := J) (B := B2) (tl := tl) (n := n) (r := r) (s := s) (a := 31) (N := 15360) (fr := 256 * f) (b := B2 0) (rl := rl) hr (by omega) rfl (by omega) (by omega)) s_Mo_82 ki_Mo_goesInto ks_Mo_goesInto ⟨rfl, rfl, Nat.le_of_ble_eq_true rfl, Nat.le_of_ble_eq_true rfl⟩ rfl d_Mo_always_84 (by first | assumption | rfl) (Nat.le_of_ble_eq_true rfl) ⟨(Nat.le_of_ble_eq_true rfl), (Nat.le_of_ble_eq_true rfl)⟩ (fun E ws9 h9 => absurd h9 id) (fun v9 ws9 hp => ?_)
            obtain ⟨t, rfl, ht, rfl⟩ := hp
            cases t with
            | true =>
              refine sv_if_ne (tgt := 107) C d_Mo_always_87 (by decide) (fun h8 => ?_) (fun h8 => ?_)
              · exact nx () (fun _ => ht.mp rfl)
              · exact absurd h8 (by decide)
            | false =>
              have hnot : ¬ ∃ t, rs n r rl s t ∧ B2 0 (256 * f + t) = true := fun q => absurd (ht.mpr q) Bool.false_ne_true
              refine sv_if_ne (tgt := 107) C d_Mo_always_87 (by decide) (fun h8 => ?_) (fun h8 => ?_)
              · exact absurd rfl h8
              · refine sv_aload_n C d_Mo_always_90 rfl rfl ?_
                refine sv_get (ci := 5) (kf := 12) C i_Mo rfl (by decide) f_Mo_35 (fun _ h9 => h9) d_Mo_always_91 (by first | assumption | rfl) rfl ?_
                refine sv_sipush (v := 256) C d_Mo_always_94 rfl ?_
                refine sv_iload_n C d_Mo_always_97 rfl rfl ?_
                refine sv_imul C d_Mo_always_98 ?_
                refine sv_iload C d_Mo_always_99 rfl ?_
                refine sv_iadd C d_Mo_always_101 ?_
                rw [m256]
                refine sv_iconst (v := 0) C d_Mo_always_102 rfl ?_
                refine sv_zast (t0 := 2) C rfl d_Mo_always_103 (by first | assumption | rfl) hsin ?_
                refine sv_eqw (st31 false (by omega) rfl) ?_
                refine sv_iconst (v := 1) C d_Mo_always_104 rfl ?_
                refine sv_istore C d_Mo_always_105 (by decide) rfl ?_
                refine sv_iincN C d_Mo_always_107 rfl (by decide) rfl ?_
                refine sv_goto (tgt := 56) C d_Mo_always_110 (by decide) ?_
                have hcn := cnt_off (N := 2 ^ n) (by omega) hbx
                refine ih2 (s + 1, true, hu B2 0 (hu (B2 0) (256 * f + s) false)) ⟨by dsimp only; omega, fun i hi => ?_, fun z hz h9 => ?_, fun z hz h9 h10 => ?_, fun q => absurd q.symm Bool.false_ne_true, fun _ => ?_⟩ (by dsimp only; omega)
                · show hu (B2 0) (256 * f + s) false i = B 0 i
                  rw [hu_n (by omega)]
                  exact gout i hi
                · have h9 : hu (B2 0) (256 * f + s) false (256 * f + z) = true := h9
                  by_cases e : z = s
                  · rw [e, hu_s] at h9
                    exact absurd h9 Bool.false_ne_true
                  · rw [hu_n (by omega)] at h9
                    exact gsub z hz h9
                · show hu (B2 0) (256 * f + s) false (256 * f + z) = true
                  by_cases e : z = s
                  · exfalso
                    rw [e] at h10
                    obtain ⟨w, t, hw1, hw2, hw3, hw4⟩ := ag_nx h10
                    exact hnot ⟨w, hw1.2.2, ggood w hw1.2.1.1 hw1.2.1 (g_ag_back hw2 hw4)⟩
                  · rw [hu_n (by omega)]
                    exact ggood z hz h9 h10
                · show g_cnt (fun z => hu (B2 0) (256 * f + s) false (256 * f + z)) (2 ^ n) < g_cnt (fun z => B1 0 (256 * f + z)) (2 ^ n)
                  cases mo with
                  | true =>
                    have := gmo rfl
                    omega
                  | false =>
                    rw [(gcl rfl).1] at hcn ⊢
                    omega
set_option maxRecDepth 100000 in
set_option maxHeartbeats 8000000 in
theorem c_Mo_again {l : Launch} {D : va_G} {cI cJ cZ : ClassId} {L : Nat → Nat → Int64} {I : Nat → Nat → Int32} {V : Nat → Int32} {W : Nat → Int32} {J : Nat → Nat → Int32} {B : Nat → Nat → Bool} {tl : List va_E} {n r f x y : Nat} {rl : Nat → Nat × Nat × Nat × Nat} (hr : mr_ok W J n r rl) (hf : f < 60) (hxf : x < f) (hyf : y < f) :
    sv_M l y_Mo_again [Cond.code y_Mo_again b_Mo_again 7 none] ({ frames := 3, cells := 0, slots := 0, locals := 72 } : Room) D sv_cl (sv_ty cI cJ cZ) [.ref 23, .int (nI f), .int (nI x), .int (nI y)] (hM cI cJ cZ L I V W J B tl) 0 0 (fun q ws' => q = none ∧ ∃ B' : Nat → Nat → Bool, ws' = hM cI cJ cZ L I V W J B' tl ∧ (∀ i, ¬ (256 * f ≤ i ∧ i < 256 * f + 2 ^ n) → B' 0 i = B 0 i) ∧ ∀ z, z < 2 ^ n → (B' 0 (256 * f + z) = true ↔ (mTx B n x z ∧ g_ag (fun a b => mTx B n x a ∧ mTx B n x b ∧ rs n r rl a b) (mTx B n y) z))) sv_no 0 0 := by
  refine sv_of (cc := b_Mo_again) (by decide +kernel) (Nat.le_of_ble_eq_true rfl) ?_
  intro pX eX sX mX aX bX tX cX AX adX C htab hnm
  have hr' := hr
  obtain ⟨⟨hn, hW1, hW2, hr40, hrl⟩, hJ⟩ := hr'
  have hp8 := pow_le8 hn
  refine sv_iconst (v := 1) C d_Mo_again_0 rfl ?_
  refine sv_aload_n C d_Mo_again_1 rfl rfl ?_
  refine sv_get (ci := 5) (kf := 1) C i_Mo rfl (by decide) f_Mo_7 (fun _ h9 => h9) d_Mo_again_2 (by first | assumption | rfl) rfl ?_
  rw [hW1]
  refine sv_ishl C d_Mo_again_5 ?_
  rw [ma_sh n (by omega)]
  refine sv_istore C d_Mo_again_6 (by decide) rfl ?_
  refine sv_iconst (v := 0) C d_Mo_again_8 rfl ?_
  refine sv_istore C d_Mo_again_9 (by decide) rfl ?_
  refine sv_ind (σ := Nat × (Nat → Nat → Bool)) (I := fun q => q.1 ≤ 2 ^ n ∧ q.2 1 = B 1 ∧ q.2 2 = B 2 ∧ (∀ i, ¬ (256 * f ≤ i ∧ i < 256 * f + 2 ^ n) → q.2 0 i = B 0 i) ∧ ∀ z, z < q.1 → q.2 0 (256 * f + z) = B 0 (256 * x + z)) (μ := fun q => 2 ^ n - q.1)
    (lv := fun q => [some (.ref 23), some (.int (nI f)), some (.int (nI x)), some (.int (nI y)), some (.int (nI (2 ^ n))), some (.int (nI q.1)), none]) (ws := fun q => hM cI cJ cZ L I V W J q.2 tl) ?_ (0, B) ⟨Nat.zero_le _, rfl, rfl, fun _ _ => rfl, fun z hz => absurd hz (Nat.not_lt_zero z)⟩
  rintro ⟨i, B1⟩ ⟨hi, e1, e2, hout, hc⟩ ih
  dsimp only at hi e1 e2 hout hc ih
  refine sv_iload C d_Mo_again_11 rfl ?_
  refine sv_iload C d_Mo_again_13 rfl ?_
  refine sv_icmp_ge (tgt := 44) C d_Mo_again_15 (by decide) (fun h1 => ?_) (fun h1 => ?_)
  rotate_left
  · have h1 : ¬ 2 ^ n ≤ i := fun h => h1 ((nI_leI (a := 2 ^ n) (b := i) (by omega) (by omega)).mpr h)
    have hin : vp_in (nI (256 * f + i)) 15360 := vp_in_nI (by omega) (by omega)
    refine sv_aload_n C d_Mo_again_18 rfl rfl ?_
    refine sv_get (ci := 5) (kf := 12) C i_Mo rfl (by decide) f_Mo_35 (fun _ h9 => h9) d_Mo_again_19 (by first | assumption | rfl) rfl ?_
    refine sv_sipush (v := 256) C d_Mo_again_22 rfl ?_
    refine sv_iload_n C d_Mo_again_25 rfl rfl ?_
    refine sv_imul C d_Mo_again_26 ?_
    refine sv_iload C d_Mo_again_27 rfl ?_
    refine sv_iadd C d_Mo_again_29 ?_
    rw [m256]
    refine sv_aload_n C d_Mo_again_30 rfl rfl ?_
    refine sv_iload_n C d_Mo_again_31 rfl rfl ?_
    refine sv_iload C d_Mo_again_32 rfl ?_
    refine sv_callV (ci := 5) C (c_Mo_has (cI := cI) (cJ := cJ) (cZ := cZ) (L := L) (I := I) (V := V) (W := W) (J := J) (B := B1) (tl := tl) (f := x) (z := i) (by omega) (by omega)) s_Mo_79 ki_Mo_has ks_Mo_has ⟨rfl, rfl, Nat.le_of_ble_eq_true rfl, Nat.le_of_ble_eq_true rfl⟩ rfl d_Mo_again_34 (by first | assumption | rfl) (Nat.le_of_ble_eq_true rfl) ⟨(Nat.le_of_ble_eq_true rfl), (Nat.le_of_ble_eq_true rfl)⟩ (fun E ws9 h9 => absurd h9 id) (fun v9 ws9 hp => ?_)
    obtain ⟨rfl, rfl⟩ := hp
    refine sv_zast (t0 := 2) C rfl d_Mo_again_37 (by first | assumption | rfl) hin ?_
    refine sv_eqw (st31 (B1 0 (256 * x + i)) (by omega) rfl) ?_
    refine sv_iincN C d_Mo_again_38 rfl (by decide) rfl ?_
    refine sv_goto (tgt := 11) C d_Mo_again_41 (by decide) ?_
    refine ih (i + 1, hu B1 0 (hu (B1 0) (256 * f + i) (B1 0 (256 * x + i)))) ⟨by dsimp only; omega, e1, e2, fun j hj => ?_, fun z hz => ?_⟩ (by dsimp only; omega)
    · show hu (B1 0) (256 * f + i) (B1 0 (256 * x + i)) j = B 0 j
      rw [hu_n (by omega)]
      exact hout j hj
    · show hu (B1 0) (256 * f + i) (B1 0 (256 * x + i)) (256 * f + z) = B 0 (256 * x + z)
      by_cases e : z = i
      · rw [e, hu_s]
        exact hout _ (by omega)
      · rw [hu_n (by omega)]
        exact hc z (by dsimp only at hz; omega)
  have h1 : 2 ^ n ≤ i := (nI_leI (a := 2 ^ n) (b := i) (by omega) (by omega)).mp h1
  have h2 : i = 2 ^ n := by omega
  subst h2
  clear ih
  refine sv_iconst (v := 1) C d_Mo_again_44 rfl ?_
  refine sv_istore C d_Mo_again_45 (by decide) rfl ?_
  refine sv_eqw (ws' := hM cI cJ cZ L I V W J B1 tl) rfl ?_
  refine sv_ind (σ := Bool × (Nat → Nat → Bool)) (I := fun q => (∀ i, ¬ (256 * f ≤ i ∧ i < 256 * f + 2 ^ n) → q.2 0 i = B 0 i) ∧ (∀ z, z < 2 ^ n → q.2 0 (256 * f + z) = true → mTx B n x z) ∧ (∀ z, z < 2 ^ n → mTx B n x z → g_ag (fun a b => mTx B n x a ∧ mTx B n x b ∧ rs n r rl a b) (mTx B n y) z → q.2 0 (256 * f + z) = true) ∧ (q.1 = false → ∀ z, z < 2 ^ n → q.2 0 (256 * f + z) = true → ∃ t, rs n r rl z t ∧ ∃ m, um (rs n r rl) (mTx B n x) (fun w => mTx B n y w ∧ q.2 0 (256 * f + w) = true) m t))
    (μ := fun q => 2 * g_cnt (fun z => q.2 0 (256 * f + z)) (2 ^ n) + (if q.1 = true then 1 else 0)) (lv := fun q => [some (.ref 23), some (.int (nI f)), some (.int (nI x)), some (.int (nI y)), some (.int (nI (2 ^ n))), some (.int (b2i q.1)), none]) (ws := fun q => hM cI cJ cZ L I V W J q.2 tl) ?_ (true, B1) ⟨hout, fun z hz h => ⟨hz, by rw [← hc z hz]; exact h⟩, fun z hz h _ => by dsimp only; rw [hc z hz]; exact h.2, fun q => absurd q.symm Bool.false_ne_true⟩
  clear hc e1 e2 hi hout
  rintro ⟨mo, B1⟩ ⟨hout, hsub, hgood, hcl⟩ ih
  dsimp only at hout hsub hgood hcl ih
  refine sv_iload C d_Mo_again_47 rfl ?_
  cases mo with
  | false =>
    refine sv_if_eq (tgt := 168) C d_Mo_again_49 (by decide) (fun h3 => ?_) (fun h3 => ?_)
    · refine sv_vret C rfl d_Mo_again_168 (Nat.le_of_ble_eq_true rfl) (Nat.le_of_ble_eq_true rfl) (fun _ _ => rfl) (⟨rfl, B1, rfl, hout, fun z hz => ⟨fun h => ⟨hsub z hz h, ?_⟩, fun h => hgood z hz h.1 h.2⟩⟩)
      refine ag_of (Z := fun z => z < 2 ^ n ∧ B1 0 (256 * f + z) = true) (N := 2 ^ n) (fun z hz => hz.1) (fun z hz => ?_) ⟨hz, h⟩
      obtain ⟨w, hw1, m, t, ⟨ht1, ht2⟩, hst⟩ := hcl rfl z hz.1 hz.2
      have htX := hsub t ht1.1 ht2
      obtain ⟨hwX, hst2⟩ := um_E htX m w hst
      exact ⟨t, ⟨ht1.1, ht2⟩, ht1, w, ⟨hsub z hz.1 hz.2, hwX, hw1⟩, m, hst2⟩
    · exact absurd rfl h3
  | true =>
    refine sv_if_eq (tgt := 168) C d_Mo_again_49 (by decide) (fun h3 => ?_) (fun h3 => ?_)
    · exact absurd (show b2i true = 0 from h3) (by decide)
    · have hrowy : ∀ z, z < 2 ^ n → B1 0 (256 * y + z) = B 0 (256 * y + z) := fun z hz => hout _ (by omega)
      refine sv_iconst (v := 0) C d_Mo_again_52 rfl ?_
      refine sv_istore C d_Mo_again_53 (by decide) rfl ?_
      refine sv_iconst (v := 0) C d_Mo_again_55 rfl ?_
      refine sv_istore C d_Mo_again_56 (by decide) rfl ?_
      refine sv_eqw (ws' := hM cI cJ cZ L I V W J B1 tl) rfl ?_
      refine sv_ind (σ := Nat × (Nat → Nat → Bool)) (I := fun q => q.1 ≤ 2 ^ n ∧ q.2 0 = B1 0 ∧ ∀ z, z < q.1 → q.2 2 z = (B1 0 (256 * f + z) && B 0 (256 * y + z))) (μ := fun q => 2 ^ n - q.1)
        (lv := fun q => [some (.ref 23), some (.int (nI f)), some (.int (nI x)), some (.int (nI y)), some (.int (nI (2 ^ n))), some (.int (b2i false)), some (.int (nI q.1))]) (ws := fun q => hM cI cJ cZ L I V W J q.2 tl) ?_ (0, B1) ⟨Nat.zero_le _, rfl, fun z hz => absurd hz (Nat.not_lt_zero z)⟩
      rintro ⟨s, B2⟩ ⟨hs, f0, hg2⟩ ih2
      dsimp only at hs f0 hg2 ih2
      refine sv_iload C d_Mo_again_58 rfl ?_
      refine sv_iload C d_Mo_again_60 rfl ?_
      refine sv_icmp_ge (tgt := 103) C d_Mo_again_62 (by decide) (fun h4 => ?_) (fun h4 => ?_)
      rotate_left
      · have h4 : ¬ 2 ^ n ≤ s := fun h => h4 ((nI_leI (a := 2 ^ n) (b := s) (by omega) (by omega)).mpr h)
        have hsin : vp_in (nI s) 256 := vp_in_nI (by omega) (by omega)
        have stp : ∀ t : Bool, t = (B1 0 (256 * f + s) && B 0 (256 * y + s)) → ∀ z, z < s + 1 → hu (B2 2) s t z = (B1 0 (256 * f + z) && B 0 (256 * y + z)) := fun t ht z hz => by
          by_cases e : z = s
          · rw [e, hu_s, ht]
          · rw [hu_n e]
            exact hg2 z (by omega)
        refine sv_aload_n C d_Mo_again_65 rfl rfl ?_
        refine sv_get (ci := 5) (kf := 14) C i_Mo rfl (by decide) f_Mo_42 (fun _ h9 => h9) d_Mo_again_66 (by first | assumption | rfl) rfl ?_
        refine sv_iload C d_Mo_again_69 rfl ?_
        refine sv_aload_n C d_Mo_again_71 rfl rfl ?_
        refine sv_iload_n C d_Mo_again_72 rfl rfl ?_
        refine sv_iload C d_Mo_again_73 rfl ?_
        refine sv_callV (ci := 5) C (c_Mo_has (cI := cI) (cJ := cJ) (cZ := cZ) (L := L) (I := I) (V := V) (W := W) (J := J) (B := B2) (tl := tl) (f := f) (z := s) hf (by omega)) s_Mo_79 ki_Mo_has ks_Mo_has ⟨rfl, rfl, Nat.le_of_ble_eq_true rfl, Nat.le_of_ble_eq_true rfl⟩ rfl d_Mo_again_75 (by first | assumption | rfl) (Nat.le_of_ble_eq_true rfl) ⟨(Nat.le_of_ble_eq_true rfl), (Nat.le_of_ble_eq_true rfl)⟩ (fun E ws9 h9 => absurd h9 id) (fun v9 ws9 hp => ?_)
        obtain ⟨rfl, rfl⟩ := hp
        rw [f0]
        cases hb1 : B1 0 (256 * f + s) with
        | false =>
          refine sv_if_eq (tgt := 95) C d_Mo_again_78 (by decide) (fun h5 => ?_) (fun h5 => ?_)
          · refine sv_iconst (v := 0) C d_Mo_again_95 rfl ?_
            refine sv_zast (t0 := 2) C rfl d_Mo_again_96 (by first | assumption | rfl) hsin ?_
            refine sv_eqw (st33 false (by omega) rfl) ?_
            refine sv_iincN C d_Mo_again_97 rfl (by decide) rfl ?_
            refine sv_goto (tgt := 58) C d_Mo_again_100 (by decide) ?_
            exact ih2 (s + 1, hu B2 2 (hu (B2 2) s false)) ⟨by dsimp only; omega, f0, stp false (by rw [hb1]; rfl)⟩ (by dsimp only; omega)
          · exact absurd rfl h5
        | true =>
          refine sv_if_eq (tgt := 95) C d_Mo_again_78 (by decide) (fun h5 => ?_) (fun h5 => ?_)
          · exact absurd h5 (by decide)
          · refine sv_aload_n C d_Mo_again_81 rfl rfl ?_
            refine sv_iload_n C d_Mo_again_82 rfl rfl ?_
            refine sv_iload C d_Mo_again_83 rfl ?_
            refine sv_callV (ci := 5) C (c_Mo_has (cI := cI) (cJ := cJ) (cZ := cZ) (L := L) (I := I) (V := V) (W := W) (J := J) (B := B2) (tl := tl) (f := y) (z := s) (by omega) (by omega)) s_Mo_79 ki_Mo_has ks_Mo_has ⟨rfl, rfl, Nat.le_of_ble_eq_true rfl, Nat.le_of_ble_eq_true rfl⟩ rfl d_Mo_again_85 (by first | assumption | rfl) (Nat.le_of_ble_eq_true rfl) ⟨(Nat.le_of_ble_eq_true rfl), (Nat.le_of_ble_eq_true rfl)⟩ (fun E ws9 h9 => absurd h9 id) (fun v9 ws9 hp => ?_)
            obtain ⟨rfl, rfl⟩ := hp
            rw [f0, hrowy s (by omega)]
            cases hb2 : B 0 (256 * y + s) with
            | false =>
              refine sv_if_eq (tgt := 95) C d_Mo_again_88 (by decide) (fun h6 => ?_) (fun h6 => ?_)
              · refine sv_iconst (v := 0) C d_Mo_again_95 rfl ?_
                refine sv_zast (t0 := 2) C rfl d_Mo_again_96 (by first | assumption | rfl) hsin ?_
                refine sv_eqw (st33 false (by omega) rfl) ?_
                refine sv_iincN C d_Mo_again_97 rfl (by decide) rfl ?_
                refine sv_goto (tgt := 58) C d_Mo_again_100 (by decide) ?_
                exact ih2 (s + 1, hu B2 2 (hu (B2 2) s false)) ⟨by dsimp only; omega, f0, stp false (by rw [hb1, hb2]; rfl)⟩ (by dsimp only; omega)
              · exact absurd rfl h6
            | true =>
              refine sv_if_eq (tgt := 95) C d_Mo_again_88 (by decide) (fun h6 => ?_) (fun h6 => ?_)
              · exact absurd h6 (by decide)
              · refine sv_iconst (v := 1) C d_Mo_again_91 rfl ?_
                refine sv_goto (tgt := 96) C d_Mo_again_92 (by decide) ?_
                refine sv_zast (t0 := 2) C rfl d_Mo_again_96 (by first | assumption | rfl) hsin ?_
                refine sv_eqw (st33 true (by omega) rfl) ?_
                refine sv_iincN C d_Mo_again_97 rfl (by decide) rfl ?_
                refine sv_goto (tgt := 58) C d_Mo_again_100 (by decide) ?_
                exact ih2 (s + 1, hu B2 2 (hu (B2 2) s true)) ⟨by dsimp only; omega, f0, stp true (by rw [hb1, hb2]; rfl)⟩ (by dsimp only; omega)
      have h4 : 2 ^ n ≤ s := (nI_leI (a := 2 ^ n) (b := s) (by omega) (by omega)).mp h4
      have h5 : s = 2 ^ n := by omega
      subst h5
      clear ih2
      refine sv_aload_n C d_Mo_again_103 rfl rfl ?_
      refine sv_iload_n C d_Mo_again_104 rfl rfl ?_
      refine sv_drop [true, true, true, true, true, true, false] ?_
      refine sv_callV (ci := 5) C (c_Mo_until (cI := cI) (cJ := cJ) (cZ := cZ) (L := L) (I := I) (V := V) (W := W) (J := J) (B := B2) (tl := tl) (n := n) (r := r) (x := x) (rl := rl) hr (by omega)) s_Mo_86 ki_Mo_until ks_Mo_until ⟨rfl, rfl, Nat.le_of_ble_eq_true rfl, Nat.le_of_ble_eq_true rfl⟩ rfl d_Mo_again_105 (by first | assumption | rfl) (Nat.le_of_ble_eq_true rfl) ⟨(Nat.le_of_ble_eq_true rfl), (Nat.le_of_ble_eq_true rfl)⟩ (fun E ws9 h9 => absurd h9 id) (fun v9 ws9 hp => ?_)
      obtain ⟨rfl, B3, rfl, k0, k2, hset⟩ := hp
      have hX2 : mTx B2 n x = mTx B n x := mTx_out hn hxf (fun i hi => by rw [f0]; exact hout i hi)
      have hG2 : mTg B2 n = fun w => mTx B n y w ∧ B1 0 (256 * f + w) = true := by
        funext w
        unfold mTg mTx
        by_cases hw : w < 2 ^ n
        · rw [hg2 w hw]
          exact propext ⟨fun q => by have := Bool.and_eq_true_iff.mp q.2; exact ⟨⟨hw, this.2⟩, this.1⟩, fun q => ⟨hw, Bool.and_eq_true_iff.mpr ⟨q.2, q.1.2⟩⟩⟩
        · exact propext ⟨fun q => absurd q.1 hw, fun q => absurd q.1.1 hw⟩
      rw [hX2, hG2] at hset
      have k0 : B3 0 = B1 0 := k0.trans f0
      refine sv_iconst (v := 0) C d_Mo_again_108 rfl ?_
      refine sv_istore C d_Mo_again_109 (by decide) rfl ?_
      refine sv_eqw (ws' := hM cI cJ cZ L I V W J B3 tl) rfl ?_
      refine sv_ind (σ := Nat × Bool × (Nat → Nat → Bool)) (I := fun q => q.1 ≤ 2 ^ n ∧ q.2.2 1 = B3 1 ∧ (∀ i, ¬ (256 * f ≤ i ∧ i < 256 * f + 2 ^ n) → q.2.2 0 i = B 0 i) ∧ (∀ z, z < 2 ^ n → q.2.2 0 (256 * f + z) = true → mTx B n x z) ∧ (∀ z, z < 2 ^ n → mTx B n x z → g_ag (fun a b => mTx B n x a ∧ mTx B n x b ∧ rs n r rl a b) (mTx B n y) z → q.2.2 0 (256 * f + z) = true) ∧ (q.2.1 = false → q.2.2 0 = B1 0 ∧ ∀ z, z < q.1 → q.2.2 0 (256 * f + z) = true → ∃ t, rs n r rl z t ∧ B3 1 t = true) ∧ (q.2.1 = true → g_cnt (fun z => q.2.2 0 (256 * f + z)) (2 ^ n) < g_cnt (fun z => B1 0 (256 * f + z)) (2 ^ n)))
        (μ := fun q => 2 ^ n - q.1) (lv := fun q => [some (.ref 23), some (.int (nI f)), some (.int (nI x)), some (.int (nI y)), some (.int (nI (2 ^ n))), some (.int (b2i q.2.1)), some (.int (nI q.1))]) (ws := fun q => hM cI cJ cZ L I V W J q.2.2 tl) ?_ (0, false, B3) ⟨Nat.zero_le _, rfl, by dsimp only; rw [k0]; exact hout, by dsimp only; rw [k0]; exact hsub, by dsimp only; rw [k0]; exact hgood, fun _ => ⟨k0, fun z hz => absurd hz (Nat.not_lt_zero z)⟩, fun q => absurd q Bool.false_ne_true⟩
      rintro ⟨s, mo, B4⟩ ⟨hs, m1, gout, gsub, ggood, gcl, gmo⟩ ih2
      dsimp only at hs m1 gout gsub ggood gcl gmo ih2
      refine sv_iload C d_Mo_again_111 rfl ?_
      refine sv_iload C d_Mo_again_113 rfl ?_
      refine sv_icmp_ge (tgt := 165) C d_Mo_again_115 (by decide) (fun h4 => ?_) (fun h4 => ?_)
      · have h4 : 2 ^ n ≤ s := (nI_leI (a := 2 ^ n) (b := s) (by omega) (by omega)).mp h4
        have h5 : s = 2 ^ n := by omega
        subst h5
        refine sv_goto (tgt := 47) C d_Mo_again_165 (by decide) ?_
        refine sv_drop [true, true, true, true, true, true, false] ?_
        refine ih (mo, B4) ⟨gout, gsub, ggood, fun q z hz hz2 => ?_⟩ ?_
        · obtain ⟨t, ht1, ht2⟩ := (gcl q).2 z hz hz2
          have h6 := (hset t (rs_lt hrl ht1)).mp ht2
          dsimp only
          rw [(gcl q).1]
          exact ⟨t, ht1, h6⟩
        · dsimp only
          cases mo with
          | true =>
            have := gmo rfl
            simp only [if_true]
            omega
          | false =>
            have := (gcl rfl).1
            rw [this]
            simp
      · have h4 : ¬ 2 ^ n ≤ s := fun h => h4 ((nI_leI (a := 2 ^ n) (b := s) (by omega) (by omega)).mpr h)
        have hsin : vp_in (nI (256 * f + s)) 15360 := vp_in_nI (by omega) (by omega)
        refine sv_join (σ := Unit) (pc1 := 159) (st1 := []) (k1 := 0) (n1 := 0) (J := fun _ => B4 0 (256 * f + s) = true → ∃ t, rs n r rl s t ∧ B3 1 t = true) (lv1 := fun _ => [some (.ref 23), some (.int (nI f)), some (.int (nI x)), some (.int (nI y)), some (.int (nI (2 ^ n))), some (.int (b2i mo)), some (.int (nI s))]) (ws1 := fun _ => hM cI cJ cZ L I V W J B4 tl) (fun _ hno => ?_) (fun nx => ?_)
        · refine sv_iincN C d_Mo_again_159 rfl (by decide) rfl ?_
          refine sv_goto (tgt := 111) C d_Mo_again_162 (by decide) ?_
          refine ih2 (s + 1, mo, B4) ⟨by dsimp only; omega, m1, gout, gsub, ggood, fun q => ⟨(gcl q).1, fun z hz h5 => ?_⟩, gmo⟩ (by dsimp only; omega)
          by_cases e : z = s
          · rw [e] at h5 ⊢
            exact hno h5
          · exact (gcl q).2 z (by dsimp only at hz; omega) h5
        refine sv_aload_n C d_Mo_again_118 rfl rfl ?_
        refine sv_iload_n C d_Mo_again_119 rfl rfl ?_
        refine sv_iload C d_Mo_again_120 rfl ?_
        refine sv_callV (ci := 5) C (c_Mo_has (cI := cI) (cJ := cJ) (cZ := cZ) (L := L) (I := I) (V := V) (W := W) (J := J) (B := B4) (tl := tl) (f := f) (z := s) hf (by omega)) s_Mo_79 ki_Mo_has ks_Mo_has ⟨rfl, rfl, Nat.le_of_ble_eq_true rfl, Nat.le_of_ble_eq_true rfl⟩ rfl d_Mo_again_122 (by first | assumption | rfl) (Nat.le_of_ble_eq_true rfl) ⟨(Nat.le_of_ble_eq_true rfl), (Nat.le_of_ble_eq_true rfl)⟩ (fun E ws9 h9 => absurd h9 id) (fun v9 ws9 hp => ?_)
        obtain ⟨rfl, rfl⟩ := hp
        cases hbx : B4 0 (256 * f + s) with
        | false =>
          refine sv_if_eq (tgt := 159) C d_Mo_again_125 (by decide) (fun h7 => ?_) (fun h7 => ?_)
          · exact nx () (fun q => by rw [hbx] at q; exact absurd q Bool.false_ne_true)
          · exact absurd rfl h7
        | true =>
          refine sv_if_eq (tgt := 159) C d_Mo_again_125 (by decide) (fun h7 => ?_) (fun h7 => ?_)
          · exact absurd h7 (by decide)
          · refine sv_aload_n C d_Mo_again_128 rfl rfl ?_
            refine sv_iload C d_Mo_again_129 rfl ?_
            refine sv_aload_n C d_Mo_again_131 rfl rfl ?_
            refine sv_get (ci := 5) (kf := 13) C i_Mo rfl (by decide) f_Mo_39 (fun _ h9 => h9) d_Mo_again_132 (by first | assumption | rfl) rfl ?_
            refine sv_iconst (v := 0) C d_Mo_again_135 rfl ?_
            refine sv_eqs (st' := [.int (nI 0), .ref 32, .int (nI s), .ref 23]) rfl ?_
            refine sv_callV (ci := 5) C (c_Mo_goesInto (cI := cI) (cJ := cJ) (cZ := cZ) (L := L) (I := I) (V := V) (W := W) (J := J) (B := B4) (tl := tl) (n := n) (r := r) (s := s) (a := 32) (N := 256) (fr := 0) (b := B4 1) (rl := rl) hr (by omega) rfl (by omega) (by omega)) s_Mo_82 ki_Mo_goesInto ks_Mo_goesInto ⟨rfl, rfl, Nat.le_of_ble_eq_true rfl, Nat.le_of_ble_eq_true rfl⟩ rfl d_Mo_again_136 (by first | assumption | rfl) (Nat.le_of_ble_eq_true rfl) ⟨(Nat.le_of_ble_eq_true rfl), (Nat.le_of_ble_eq_true rfl)⟩ (fun E ws9 h9 => absurd h9 id) (fun v9 ws9 hp => ?_)
            obtain ⟨t, rfl, ht, rfl⟩ := hp
            simp only [Nat.zero_add] at ht
            rw [m1] at ht
            cases t with
            | true =>
              refine sv_if_ne (tgt := 159) C d_Mo_again_139 (by decide) (fun h8 => ?_) (fun h8 => ?_)
              · exact nx () (fun _ => ht.mp rfl)
              · exact absurd h8 (by decide)
            | false =>
              have hnot : ¬ ∃ t, rs n r rl s t ∧ B3 1 t = true := fun q => absurd (ht.mpr q) Bool.false_ne_true
              refine sv_if_ne (tgt := 159) C d_Mo_again_139 (by decide) (fun h8 => ?_) (fun h8 => ?_)
              · exact absurd rfl h8
              · refine sv_aload_n C d_Mo_again_142 rfl rfl ?_
                refine sv_get (ci := 5) (kf := 12) C i_Mo rfl (by decide) f_Mo_35 (fun _ h9 => h9) d_Mo_again_143 (by first | assumption | rfl) rfl ?_
                refine sv_sipush (v := 256) C d_Mo_again_146 rfl ?_
                refine sv_iload_n C d_Mo_again_149 rfl rfl ?_
                refine sv_imul C d_Mo_again_150 ?_
                refine sv_iload C d_Mo_again_151 rfl ?_
                refine sv_iadd C d_Mo_again_153 ?_
                rw [m256]
                refine sv_iconst (v := 0) C d_Mo_again_154 rfl ?_
                refine sv_zast (t0 := 2) C rfl d_Mo_again_155 (by first | assumption | rfl) hsin ?_
                refine sv_eqw (st31 false (by omega) rfl) ?_
                refine sv_iconst (v := 1) C d_Mo_again_156 rfl ?_
                refine sv_istore C d_Mo_again_157 (by decide) rfl ?_
                refine sv_iincN C d_Mo_again_159 rfl (by decide) rfl ?_
                refine sv_goto (tgt := 111) C d_Mo_again_162 (by decide) ?_
                have hcn := cnt_off (N := 2 ^ n) (by omega) hbx
                refine ih2 (s + 1, true, hu B4 0 (hu (B4 0) (256 * f + s) false)) ⟨by dsimp only; omega, m1, fun i hi => ?_, fun z hz h9 => ?_, fun z hz h9 h10 => ?_, fun q => absurd q.symm Bool.false_ne_true, fun _ => ?_⟩ (by dsimp only; omega)
                · show hu (B4 0) (256 * f + s) false i = B 0 i
                  rw [hu_n (by omega)]
                  exact gout i hi
                · have h9 : hu (B4 0) (256 * f + s) false (256 * f + z) = true := h9
                  by_cases e : z = s
                  · rw [e, hu_s] at h9
                    exact absurd h9 Bool.false_ne_true
                  · rw [hu_n (by omega)] at h9
                    exact gsub z hz h9
                · show hu (B4 0) (256 * f + s) false (256 * f + z) = true
                  by_cases e : z = s
                  · exfalso
                    rw [e] at h10
                    obtain ⟨w, t, hw1, hw2, hw3, hw4⟩ := ag_nx h10
                    have htX : mTx B n x t := re_X hw1.2.1 hw2
                    obtain ⟨m, hm⟩ := hw2
                    exact hnot ⟨w, hw1.2.2, (hset w hw1.2.1.1).mpr ⟨m, t, ⟨hw3, hgood t htX.1 htX hw4⟩, um_of_E m w hm⟩⟩
                  · rw [hu_n (by omega)]
                    exact ggood z hz h9 h10
                · show g_cnt (fun z => hu (B4 0) (256 * f + s) false (256 * f + z)) (2 ^ n) < g_cnt (fun z => B1 0 (256 * f + z)) (2 ^ n)
                  cases mo with
                  | true =>
                    have := gmo rfl
                    omega
                  | false =>
                    rw [(gcl rfl).1] at hcn ⊢
                    omega
