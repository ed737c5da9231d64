/-! The reference: holds, count, first, ways -/
set_option maxRecDepth 100000 in
set_option maxHeartbeats 8000000 in
theorem c_Mo_holds {l : Launch} {D : va_G} {cI cJ cZ : ClassId} {L : Nat → Nat → Int64} {I : Nat → Nat → Int32} {V : Nat → Int32} {W : Nat → Int32} {J : Nat → Nat → Int32} {B : Nat → Nat → Bool} {tl : List va_E} {n r mk : Nat} {rl : Nat → Nat × Nat × Nat × Nat} {kd xs ys : Nat → Nat} (hok : mo_ok W J B n r mk rl kd xs ys) {f s : Int32} :
    sv_M l y_Mo_holds [Cond.code y_Mo_holds b_Mo_holds 3 (some .boolean)] ({ frames := 6, cells := 0, slots := 0, locals := 142 } : Room) D sv_cl (sv_ty cI cJ cZ) [.ref 23, .int f, .int s] (hM cI cJ cZ L I V W J B tl) 0 0 (fun q ws' => ∃ x : Int32, q = some (.int x) ∧ ∃ (W' : Nat → Int32) (J' : Nat → Nat → Int32) (B' : Nat → Nat → Bool), ws' = hM cI cJ cZ L I V W' J' B' tl ∧ mo_ok W' J' B' n r mk rl kd xs ys ∧ ((iF mk f ∧ iS n s ∧ W' 0 = 0 ∧ ∃ t : Bool, x = b2i t ∧ (t = true ↔ tF (rs n r rl) (2 ^ n) kd xs ys f.toNatClampNeg s.toNatClampNeg)) ∨ (¬ (iF mk f ∧ iS n s) ∧ W' 0 = 1))) sv_no 0 0 := by
  refine sv_of (cc := b_Mo_holds) (by decide +kernel) (Nat.le_of_ble_eq_true rfl) ?_
  intro pX eX sX mX aX bX tX cX AX adX C htab hnm
  have hok' := hok
  obtain ⟨⟨⟨hn, hW1, hW2, hr40, hrl⟩, hJ⟩, hn1, ⟨hW3, hmk⟩, hfm, -⟩ := hok'
  have hp8 := pow_le8 hn
  refine sv_join (σ := Unit) (pc1 := 17) (st1 := [.ref 23]) (k1 := 0) (n1 := 0) (J := fun _ => ¬ (iF mk f ∧ iS n s)) (lv1 := fun _ => [some (.ref 23), some (.int f), some (.int s)]) (ws1 := fun _ => hM cI cJ cZ L I V W J B tl) (fun _ hno => ?_) (fun nx => ?_)
  · refine sv_iconst (v := 1) C d_Mo_holds_17 rfl ?_
    refine sv_goto (tgt := 22) C d_Mo_holds_18 (by decide) ?_
    refine sv_iconst (v := 0) C d_Mo_holds_22 rfl ?_
    refine sv_iconst (v := 0) C d_Mo_holds_23 rfl ?_
    refine sv_eqs (st' := [.int (b2i false), .int (b2i false), .int (b2i true), .ref 23]) rfl ?_
    refine sv_callV (ci := 5) C (c_Mo_refuse (cI := cI) (cJ := cJ) (cZ := cZ) (L := L) (I := I) (V := V) (W := W) (J := J) (B := B) (tl := tl) (a := true) (b := false) (c := false)) s_Mo_54 ki_Mo_refuse ks_Mo_refuse ⟨rfl, rfl, Nat.le_of_ble_eq_true rfl, Nat.le_of_ble_eq_true rfl⟩ rfl d_Mo_holds_24 (by first | assumption | rfl) (Nat.le_of_ble_eq_true rfl) ⟨(Nat.le_of_ble_eq_true rfl), (Nat.le_of_ble_eq_true rfl)⟩ (fun E ws9 h9 => absurd h9 id) (fun v9 ws9 hp => ?_)
    obtain ⟨rfl, rfl⟩ := hp
    refine sv_if_eq (tgt := 32) C d_Mo_holds_27 (by decide) (fun h => ?_) (fun h => ?_)
    · exact absurd h (by decide)
    · refine sv_iconst (v := 0) C d_Mo_holds_30 rfl ?_
      exact sv_iret C rfl rfl d_Mo_holds_31 (Nat.le_of_ble_eq_true rfl) (Nat.le_of_ble_eq_true rfl) (fun _ _ => rfl) (⟨_, rfl, _, _, _, rfl, mo_W0 hok, Or.inr ⟨hno, rfl⟩⟩)
  refine sv_aload_n C d_Mo_holds_0 rfl rfl ?_
  refine sv_aload_n C d_Mo_holds_1 rfl rfl ?_
  refine sv_iload_n C d_Mo_holds_2 rfl rfl ?_
  refine sv_callV (ci := 5) C (c_Mo_isFormula (cI := cI) (cJ := cJ) (cZ := cZ) (L := L) (I := I) (V := V) (W := W) (J := J) (B := B) (tl := tl) (mk := mk) (x := f) hW3) s_Mo_72 ki_Mo_isFormula ks_Mo_isFormula ⟨rfl, rfl, Nat.le_of_ble_eq_true rfl, Nat.le_of_ble_eq_true rfl⟩ rfl d_Mo_holds_3 (by first | assumption | rfl) (Nat.le_of_ble_eq_true rfl) ⟨(Nat.le_of_ble_eq_true rfl), (Nat.le_of_ble_eq_true rfl)⟩ (fun E ws9 h9 => absurd h9 id) (fun v9 ws9 hp => ?_)
  obtain ⟨t, rfl, ht, rfl⟩ := hp
  cases t with
  | false =>
    refine sv_if_eq (tgt := 17) C d_Mo_holds_6 (by decide) (fun h => ?_) (fun h => ?_)
    · exact nx () (fun q => absurd (ht.mpr q.1) Bool.false_ne_true)
    · exact absurd rfl h
  | true =>
    refine sv_if_eq (tgt := 17) C d_Mo_holds_6 (by decide) (fun h => ?_) (fun h => ?_)
    · exact absurd h (by decide)
    · refine sv_aload_n C d_Mo_holds_9 rfl rfl ?_
      refine sv_iload_n C d_Mo_holds_10 rfl rfl ?_
      refine sv_callV (ci := 5) C (c_Mo_isState (cI := cI) (cJ := cJ) (cZ := cZ) (L := L) (I := I) (V := V) (W := W) (J := J) (B := B) (tl := tl) (n := n) (x := s) hn hW1) s_Mo_64 ki_Mo_isState ks_Mo_isState ⟨rfl, rfl, Nat.le_of_ble_eq_true rfl, Nat.le_of_ble_eq_true rfl⟩ rfl d_Mo_holds_11 (by first | assumption | rfl) (Nat.le_of_ble_eq_true rfl) ⟨(Nat.le_of_ble_eq_true rfl), (Nat.le_of_ble_eq_true rfl)⟩ (fun E ws9 h9 => absurd h9 id) (fun v9 ws9 hp => ?_)
      obtain ⟨t, rfl, ht2, rfl⟩ := hp
      cases t with
      | false =>
        refine sv_if_ne (tgt := 21) C d_Mo_holds_14 (by decide) (fun h => ?_) (fun h => ?_)
        · exact absurd rfl h
        · exact nx () (fun q => absurd (ht2.mpr q.2) Bool.false_ne_true)
      | true =>
        clear nx
        refine sv_if_ne (tgt := 21) C d_Mo_holds_14 (by decide) (fun h => ?_) (fun h => ?_)
        rotate_left
        · exact absurd h (by decide)
        refine sv_iconst (v := 0) C d_Mo_holds_21 rfl ?_
        refine sv_iconst (v := 0) C d_Mo_holds_22 rfl ?_
        refine sv_iconst (v := 0) C d_Mo_holds_23 rfl ?_
        refine sv_eqs (st' := [.int (b2i false), .int (b2i false), .int (b2i false), .ref 23]) rfl ?_
        refine sv_callV (ci := 5) C (c_Mo_refuse (cI := cI) (cJ := cJ) (cZ := cZ) (L := L) (I := I) (V := V) (W := W) (J := J) (B := B) (tl := tl) (a := false) (b := false) (c := false)) s_Mo_54 ki_Mo_refuse ks_Mo_refuse ⟨rfl, rfl, Nat.le_of_ble_eq_true rfl, Nat.le_of_ble_eq_true rfl⟩ rfl d_Mo_holds_24 (by first | assumption | rfl) (Nat.le_of_ble_eq_true rfl) ⟨(Nat.le_of_ble_eq_true rfl), (Nat.le_of_ble_eq_true rfl)⟩ (fun E ws9 h9 => absurd h9 id) (fun v9 ws9 hp => ?_)
        obtain ⟨rfl, rfl⟩ := hp
        refine sv_if_eq (tgt := 32) C d_Mo_holds_27 (by decide) (fun h => ?_) (fun h => ?_)
        rotate_left
        · exact absurd rfl h
        have hiF := ht.mp rfl
        have hiS := ht2.mp rfl
        obtain ⟨f0, hf0, rfl⟩ := iF_nat hmk hiF
        obtain ⟨s0, hs0, rfl⟩ := iS_nat hn hiS
        have hfc : (nI f0).toNatClampNeg = f0 := nI_clamp (by omega)
        have hsc : (nI s0).toNatClampNeg = s0 := nI_clamp (by omega)
        refine sv_aload_n C d_Mo_holds_32 rfl rfl ?_
        refine sv_iload_n C d_Mo_holds_33 rfl rfl ?_
        refine sv_callV (ci := 5) C (c_Mo_know (cI := cI) (cJ := cJ) (cZ := cZ) (L := L) (I := I) (V := V) (W := (hu W 0 (rfz false false false))) (J := J) (B := B) (tl := tl) (n := n) (r := r) (mk := mk) (rl := rl) (kd := kd) (xs := xs) (ys := ys) (mo_W0 hok) (f := f0) hf0) s_Mo_104 ki_Mo_know ks_Mo_know ⟨rfl, rfl, Nat.le_of_ble_eq_true rfl, Nat.le_of_ble_eq_true rfl⟩ rfl d_Mo_holds_34 (by first | assumption | rfl) (Nat.le_of_ble_eq_true rfl) ⟨(Nat.le_of_ble_eq_true rfl), (Nat.le_of_ble_eq_true rfl)⟩ (fun E ws9 h9 => absurd h9 id) (fun v9 ws9 hp => ?_)
        obtain ⟨rfl, W1, B1, rfl, hW0, hok1, hT⟩ := hp
        have hW0 : W1 0 = 0 := hW0
        have hT : ∀ z, z < 2 ^ n → (B1 0 (256 * f0 + z) = true ↔ tF (rs n r rl) (2 ^ n) kd xs ys f0 z) := fun z hz => hT f0 z (Nat.le_refl _) hz
        refine sv_aload_n C d_Mo_holds_37 rfl rfl ?_
        refine sv_iload_n C d_Mo_holds_38 rfl rfl ?_
        refine sv_iload_n C d_Mo_holds_39 rfl rfl ?_
        refine sv_callV (ci := 5) C (c_Mo_has (cI := cI) (cJ := cJ) (cZ := cZ) (L := L) (I := I) (V := V) (W := W1) (J := J) (B := B1) (tl := tl) (f := f0) (z := s0) (by omega) (by omega)) s_Mo_79 ki_Mo_has ks_Mo_has ⟨rfl, rfl, Nat.le_of_ble_eq_true rfl, Nat.le_of_ble_eq_true rfl⟩ rfl d_Mo_holds_40 (by first | assumption | rfl) (Nat.le_of_ble_eq_true rfl) ⟨(Nat.le_of_ble_eq_true rfl), (Nat.le_of_ble_eq_true rfl)⟩ (fun E ws9 h9 => absurd h9 id) (fun v9 ws9 hp => ?_)
        obtain ⟨rfl, rfl⟩ := hp
        exact sv_iret C rfl (b2i_nb _) d_Mo_holds_43 (Nat.le_of_ble_eq_true rfl) (Nat.le_of_ble_eq_true rfl) (fun _ _ => rfl) (⟨_, rfl, W1, J, B1, rfl, hok1, Or.inl ⟨hiF, hiS, hW0, _, rfl, by rw [hfc, hsc]; exact hT s0 hs0⟩⟩)
theorem g_cnt_ext {O : Nat → Bool} {N : Nat} (h : ∀ x, N ≤ x → O x = false) : ∀ m, N ≤ m → g_cnt O m = g_cnt O N
  | 0, hm => by
    have : N = 0 := by omega
    rw [this]
  | m + 1, hm => by
    by_cases e : N = m + 1
    · rw [e]
    · have h1 := g_cnt_ext h m (by omega)
      simp only [g_cnt]
      rw [h m (by omega), h1]
      rfl
theorem cnt_in {b : Nat → Bool} {s N : Nat} (hs : s < N) (hb : b s = false) : g_cnt (hu b s true) N = g_cnt b N + 1 := by
  refine (g_cnt_drop (O := hu b s true) (O' := b) (k := s) (hu_s b s true) (fun x => ?_) N hs).symm
  by_cases e : x = s
  · rw [e, hu_s, hb]
    simp
  · rw [hu_n e]
    simp [e]
set_option maxRecDepth 100000 in
set_option maxHeartbeats 8000000 in
theorem c_Mo_count {l : Launch} {D : va_G} {cI cJ cZ : ClassId} {L : Nat → Nat → Int64} {I : Nat → Nat → Int32} {V : Nat → Int32} {W : Nat → Int32} {J : Nat → Nat → Int32} {B : Nat → Nat → Bool} {tl : List va_E} {n r mk : Nat} {rl : Nat → Nat × Nat × Nat × Nat} {kd xs ys : Nat → Nat} (hok : mo_ok W J B n r mk rl kd xs ys) {f : Int32} :
    sv_M l y_Mo_count [Cond.code y_Mo_count b_Mo_count 4 (some .int)] ({ frames := 6, cells := 0, slots := 0, locals := 142 } : Room) D sv_cl (sv_ty cI cJ cZ) [.ref 23, .int f] (hM cI cJ cZ L I V W J B tl) 0 0 (fun q ws' => ∃ x : Int32, q = some (.int x) ∧ ∃ (W' : Nat → Int32) (J' : Nat → Nat → Int32) (B' : Nat → Nat → Bool), ws' = hM cI cJ cZ L I V W' J' B' tl ∧ mo_ok W' J' B' n r mk rl kd xs ys ∧ ((iF mk f ∧ W' 0 = 0 ∧ ∃ Q : Nat → Bool, x = nI (g_cnt Q 256) ∧ ∀ z, z < 256 → (Q z = true ↔ tF (rs n r rl) (2 ^ n) kd xs ys f.toNatClampNeg z)) ∨ (¬ iF mk f ∧ W' 0 = 1))) sv_no 0 0 := by
  refine sv_of (cc := b_Mo_count) (by decide +kernel) (Nat.le_of_ble_eq_true rfl) ?_
  intro pX eX sX mX aX bX tX cX AX adX C htab hnm
  have hok' := hok
  obtain ⟨⟨⟨hn, hW1, hW2, hr40, hrl⟩, hJ⟩, hn1, ⟨hW3, hmk⟩, hfm, -⟩ := hok'
  have hp8 := pow_le8 hn
  refine sv_aload_n C d_Mo_count_0 rfl rfl ?_
  refine sv_aload_n C d_Mo_count_1 rfl rfl ?_
  refine sv_iload_n C d_Mo_count_2 rfl rfl ?_
  refine sv_callV (ci := 5) C (c_Mo_isFormula (cI := cI) (cJ := cJ) (cZ := cZ) (L := L) (I := I) (V := V) (W := W) (J := J) (B := B) (tl := tl) (mk := mk) (x := f) hW3) s_Mo_72 ki_Mo_isFormula ks_Mo_isFormula ⟨rfl, rfl, Nat.le_of_ble_eq_true rfl, Nat.le_of_ble_eq_true rfl⟩ rfl d_Mo_count_3 (by first | assumption | rfl) (Nat.le_of_ble_eq_true rfl) ⟨(Nat.le_of_ble_eq_true rfl), (Nat.le_of_ble_eq_true rfl)⟩ (fun E ws9 h9 => absurd h9 id) (fun v9 ws9 hp => ?_)
  obtain ⟨t, rfl, ht, rfl⟩ := hp
  cases t with
  | false =>
    refine sv_if_ne (tgt := 13) C d_Mo_count_6 (by decide) (fun h => ?_) (fun h => ?_)
    · exact absurd rfl h
    · refine sv_iconst (v := 1) C d_Mo_count_9 rfl ?_
      refine sv_goto (tgt := 14) C d_Mo_count_10 (by decide) ?_
      refine sv_iconst (v := 0) C d_Mo_count_14 rfl ?_
      refine sv_iconst (v := 0) C d_Mo_count_15 rfl ?_
      refine sv_eqs (st' := [.int (b2i false), .int (b2i false), .int (b2i true), .ref 23]) rfl ?_
      refine sv_callV (ci := 5) C (c_Mo_refuse (cI := cI) (cJ := cJ) (cZ := cZ) (L := L) (I := I) (V := V) (W := W) (J := J) (B := B) (tl := tl) (a := true) (b := false) (c := false)) s_Mo_54 ki_Mo_refuse ks_Mo_refuse ⟨rfl, rfl, Nat.le_of_ble_eq_true rfl, Nat.le_of_ble_eq_true rfl⟩ rfl d_Mo_count_16 (by first | assumption | rfl) (Nat.le_of_ble_eq_true rfl) ⟨(Nat.le_of_ble_eq_true rfl), (Nat.le_of_ble_eq_true rfl)⟩ (fun E ws9 h9 => absurd h9 id) (fun v9 ws9 hp => ?_)
      obtain ⟨rfl, rfl⟩ := hp
      refine sv_if_eq (tgt := 24) C d_Mo_count_19 (by decide) (fun h => ?_) (fun h => ?_)
      · exact absurd h (by decide)
      · refine sv_iconst (v := 0) C d_Mo_count_22 rfl ?_
        exact sv_iret C rfl rfl d_Mo_count_23 (Nat.le_of_ble_eq_true rfl) (Nat.le_of_ble_eq_true rfl) (fun _ _ => rfl) (⟨_, rfl, _, _, _, rfl, mo_W0 hok, Or.inr ⟨fun q => absurd (ht.mpr q) Bool.false_ne_true, rfl⟩⟩)
  | true =>
    refine sv_if_ne (tgt := 13) C d_Mo_count_6 (by decide) (fun h => ?_) (fun h => ?_)
    rotate_left
    · exact absurd h (by decide)
    refine sv_iconst (v := 0) C d_Mo_count_13 rfl ?_
    refine sv_iconst (v := 0) C d_Mo_count_14 rfl ?_
    refine sv_iconst (v := 0) C d_Mo_count_15 rfl ?_
    refine sv_eqs (st' := [.int (b2i false), .int (b2i false), .int (b2i false), .ref 23]) rfl ?_
    refine sv_callV (ci := 5) C (c_Mo_refuse (cI := cI) (cJ := cJ) (cZ := cZ) (L := L) (I := I) (V := V) (W := W) (J := J) (B := B) (tl := tl) (a := false) (b := false) (c := false)) s_Mo_54 ki_Mo_refuse ks_Mo_refuse ⟨rfl, rfl, Nat.le_of_ble_eq_true rfl, Nat.le_of_ble_eq_true rfl⟩ rfl d_Mo_count_16 (by first | assumption | rfl) (Nat.le_of_ble_eq_true rfl) ⟨(Nat.le_of_ble_eq_true rfl), (Nat.le_of_ble_eq_true rfl)⟩ (fun E ws9 h9 => absurd h9 id) (fun v9 ws9 hp => ?_)
    obtain ⟨rfl, rfl⟩ := hp
    refine sv_if_eq (tgt := 24) C d_Mo_count_19 (by decide) (fun h => ?_) (fun h => ?_)
    rotate_left
    · exact absurd rfl h
    have hi := ht.mp rfl
    obtain ⟨f0, hf0, rfl⟩ := iF_nat hmk hi
    have hfc : (nI f0).toNatClampNeg = f0 := nI_clamp (by omega)
    refine sv_aload_n C d_Mo_count_24 rfl rfl ?_
    refine sv_iload_n C d_Mo_count_25 rfl rfl ?_
    refine sv_callV (ci := 5) C (c_Mo_know (cI := cI) (cJ := cJ) (cZ := cZ) (L := L) (I := I) (V := V) (W := (hu W 0 (rfz false false false))) (J := J) (B := B) (tl := tl) (n := n) (r := r) (mk := mk) (rl := rl) (kd := kd) (xs := xs) (ys := ys) (mo_W0 hok) (f := f0) hf0) s_Mo_104 ki_Mo_know ks_Mo_know ⟨rfl, rfl, Nat.le_of_ble_eq_true rfl, Nat.le_of_ble_eq_true rfl⟩ rfl d_Mo_count_26 (by first | assumption | rfl) (Nat.le_of_ble_eq_true rfl) ⟨(Nat.le_of_ble_eq_true rfl), (Nat.le_of_ble_eq_true rfl)⟩ (fun E ws9 h9 => absurd h9 id) (fun v9 ws9 hp => ?_)
    obtain ⟨rfl, W1, B1, rfl, hW0, hok1, hT⟩ := hp
    have hW0 : W1 0 = 0 := hW0
    have hT : ∀ z, z < 2 ^ n → (B1 0 (256 * f0 + z) = true ↔ tF (rs n r rl) (2 ^ n) kd xs ys f0 z) := fun z hz => hT f0 z (Nat.le_refl _) hz
    have hW1 : W1 1 = nI n := hok1.1.1.2.1
    refine sv_iconst (v := 0) C d_Mo_count_29 rfl ?_
    refine sv_istore_n C d_Mo_count_30 rfl (by decide) rfl ?_
    refine sv_iconst (v := 0) C d_Mo_count_31 rfl ?_
    refine sv_istore_n C d_Mo_count_32 rfl (by decide) rfl ?_
    refine sv_ind (σ := Nat) (I := fun q => q ≤ 2 ^ n) (μ := fun q => 2 ^ n - q)
      (lv := fun q => [some (.ref 23), some (.int (nI f0)), some (.int (nI (g_cnt (fun z => B1 0 (256 * f0 + z)) q))), some (.int (nI q))]) (ws := fun _ => hM cI cJ cZ L I V W1 J B1 tl) ?_ 0 (Nat.zero_le _)
    intro i hi2 ih
    refine sv_iload_n C d_Mo_count_33 rfl rfl ?_
    refine sv_iconst (v := 1) C d_Mo_count_34 rfl ?_
    refine sv_aload_n C d_Mo_count_35 rfl rfl ?_
    refine sv_get (ci := 5) (kf := 1) C i_Mo rfl (by decide) f_Mo_7 (fun _ h9 => h9) d_Mo_count_36 (by first | assumption | rfl) rfl ?_
    rw [hW1]
    refine sv_ishl C d_Mo_count_39 ?_
    rw [ma_sh n (by omega)]
    refine sv_icmp_ge (tgt := 66) C d_Mo_count_40 (by decide) (fun h1 => ?_) (fun h1 => ?_)
    · have h1 : 2 ^ n ≤ i := (nI_leI (a := 2 ^ n) (b := i) (by omega) (by omega)).mp h1
      have h2 : i = 2 ^ n := by omega
      subst h2
      refine sv_iload_n C d_Mo_count_66 rfl rfl ?_
      refine sv_iret C rfl rfl d_Mo_count_67 (Nat.le_of_ble_eq_true rfl) (Nat.le_of_ble_eq_true rfl) (fun _ _ => rfl) (⟨_, rfl, W1, J, B1, rfl, hok1, Or.inl ⟨hi, hW0, fun z => decide (z < 2 ^ n) && B1 0 (256 * f0 + z), ?_, fun z hz => ?_⟩⟩)
      · rw [g_cnt_ext (N := 2 ^ n) (fun x hx => by simp [Nat.not_lt.mpr hx]) 256 hp8]
        exact congrArg nI (g_cnt_congr _ (fun x hx => by simp [hx]))
      · rw [hfc]
        by_cases e : z < 2 ^ n
        · simp only [e, decide_true, Bool.true_and]
          exact hT z e
        · simp only [e, decide_false, Bool.false_and]
          exact ⟨fun q => absurd q Bool.false_ne_true, fun q => absurd (tF_lt q) e⟩
    · have h1 : ¬ 2 ^ n ≤ i := fun h => h1 ((nI_leI (a := 2 ^ n) (b := i) (by omega) (by omega)).mpr h)
      refine sv_aload_n C d_Mo_count_43 rfl rfl ?_
      refine sv_iload_n C d_Mo_count_44 rfl rfl ?_
      refine sv_iload_n C d_Mo_count_45 rfl rfl ?_
      refine sv_callV (ci := 5) C (c_Mo_has (cI := cI) (cJ := cJ) (cZ := cZ) (L := L) (I := I) (V := V) (W := W1) (J := J) (B := B1) (tl := tl) (f := f0) (z := i) (by omega) (by omega)) s_Mo_79 ki_Mo_has ks_Mo_has ⟨rfl, rfl, Nat.le_of_ble_eq_true rfl, Nat.le_of_ble_eq_true rfl⟩ rfl d_Mo_count_46 (by first | assumption | rfl) (Nat.le_of_ble_eq_true rfl) ⟨(Nat.le_of_ble_eq_true rfl), (Nat.le_of_ble_eq_true rfl)⟩ (fun E ws9 h9 => absurd h9 id) (fun v9 ws9 hp => ?_)
      obtain ⟨rfl, rfl⟩ := hp
      cases hb : B1 0 (256 * f0 + i) with
      | true =>
        refine sv_if_eq (tgt := 58) C d_Mo_count_49 (by decide) (fun h => ?_) (fun h => ?_)
        · exact absurd h (by decide)
        · refine sv_iload_n C d_Mo_count_52 rfl rfl ?_
          refine sv_iconst (v := 1) C d_Mo_count_53 rfl ?_
          refine sv_iadd C d_Mo_count_54 ?_
          refine sv_goto (tgt := 59) C d_Mo_count_55 (by decide) ?_
          refine sv_istore_n C d_Mo_count_59 rfl (by decide) rfl ?_
          refine sv_iincN C d_Mo_count_60 rfl (by decide) rfl ?_
          refine sv_goto (tgt := 33) C d_Mo_count_63 (by decide) ?_
          refine sv_eql (lv' := [some (.ref 23), some (.int (nI f0)), some (.int (nI (g_cnt (fun z => B1 0 (256 * f0 + z)) (i + 1)))), some (.int (nI (i + 1)))]) (by rw [show nI (g_cnt (fun z => B1 0 (256 * f0 + z)) (i + 1)) = nI (g_cnt (fun z => B1 0 (256 * f0 + z)) i) + 1 by simp only [g_cnt, hb, if_true]; exact (nI_1 _).symm]; rfl) ?_
          exact ih (i + 1) (by omega) (by omega)
      | false =>
        refine sv_if_eq (tgt := 58) C d_Mo_count_49 (by decide) (fun h => ?_) (fun h => ?_)
        · refine sv_iload_n C d_Mo_count_58 rfl rfl ?_
          refine sv_istore_n C d_Mo_count_59 rfl (by decide) rfl ?_
          refine sv_iincN C d_Mo_count_60 rfl (by decide) rfl ?_
          refine sv_goto (tgt := 33) C d_Mo_count_63 (by decide) ?_
          refine sv_eql (lv' := [some (.ref 23), some (.int (nI f0)), some (.int (nI (g_cnt (fun z => B1 0 (256 * f0 + z)) (i + 1)))), some (.int (nI (i + 1)))]) (by simp [g_cnt, hb]) ?_
          exact ih (i + 1) (by omega) (by omega)
        · exact absurd rfl h
set_option maxRecDepth 100000 in
set_option maxHeartbeats 8000000 in
theorem c_Mo_first {l : Launch} {D : va_G} {cI cJ cZ : ClassId} {L : Nat → Nat → Int64} {I : Nat → Nat → Int32} {V : Nat → Int32} {W : Nat → Int32} {J : Nat → Nat → Int32} {B : Nat → Nat → Bool} {tl : List va_E} {n r mk : Nat} {rl : Nat → Nat × Nat × Nat × Nat} {kd xs ys : Nat → Nat} (hok : mo_ok W J B n r mk rl kd xs ys) {f s : Int32} :
    sv_M l y_Mo_first [Cond.code y_Mo_first b_Mo_first 4 (some .int)] ({ frames := 6, cells := 0, slots := 0, locals := 142 } : Room) D sv_cl (sv_ty cI cJ cZ) [.ref 23, .int f, .int s] (hM cI cJ cZ L I V W J B tl) 0 0 (fun q ws' => ∃ x : Int32, q = some (.int x) ∧ ∃ (W' : Nat → Int32) (J' : Nat → Nat → Int32) (B' : Nat → Nat → Bool), ws' = hM cI cJ cZ L I V W' J' B' tl ∧ mo_ok W' J' B' n r mk rl kd xs ys ∧ ((iF mk f ∧ iS n s ∧ W' 0 = 0 ∧ ((x = -1 ∧ ∀ z, s.toNatClampNeg ≤ z → ¬ tF (rs n r rl) (2 ^ n) kd xs ys f.toNatClampNeg z) ∨ ∃ y, x = nI y ∧ y < 256 ∧ s.toNatClampNeg ≤ y ∧ tF (rs n r rl) (2 ^ n) kd xs ys f.toNatClampNeg y ∧ ∀ z, s.toNatClampNeg ≤ z → z < y → ¬ tF (rs n r rl) (2 ^ n) kd xs ys f.toNatClampNeg z)) ∨ (¬ (iF mk f ∧ iS n s) ∧ W' 0 = 1))) sv_no 0 0 := by
  refine sv_of (cc := b_Mo_first) (by decide +kernel) (Nat.le_of_ble_eq_true rfl) ?_
  intro pX eX sX mX aX bX tX cX AX adX C htab hnm
  have hok' := hok
  obtain ⟨⟨⟨hn, hW1, hW2, hr40, hrl⟩, hJ⟩, hn1, ⟨hW3, hmk⟩, hfm, -⟩ := hok'
  have hp8 := pow_le8 hn
  refine sv_join (σ := Unit) (pc1 := 17) (st1 := [.ref 23]) (k1 := 0) (n1 := 0) (J := fun _ => ¬ (iF mk f ∧ iS n s)) (lv1 := fun _ => [some (.ref 23), some (.int f), some (.int s), none]) (ws1 := fun _ => hM cI cJ cZ L I V W J B tl) (fun _ hno => ?_) (fun nx => ?_)
  · refine sv_iconst (v := 1) C d_Mo_first_17 rfl ?_
    refine sv_goto (tgt := 22) C d_Mo_first_18 (by decide) ?_
    refine sv_iconst (v := 0) C d_Mo_first_22 rfl ?_
    refine sv_iconst (v := 0) C d_Mo_first_23 rfl ?_
    refine sv_eqs (st' := [.int (b2i false), .int (b2i false), .int (b2i true), .ref 23]) rfl ?_
    refine sv_callV (ci := 5) C (c_Mo_refuse (cI := cI) (cJ := cJ) (cZ := cZ) (L := L) (I := I) (V := V) (W := W) (J := J) (B := B) (tl := tl) (a := true) (b := false) (c := false)) s_Mo_54 ki_Mo_refuse ks_Mo_refuse ⟨rfl, rfl, Nat.le_of_ble_eq_true rfl, Nat.le_of_ble_eq_true rfl⟩ rfl d_Mo_first_24 (by first | assumption | rfl) (Nat.le_of_ble_eq_true rfl) ⟨(Nat.le_of_ble_eq_true rfl), (Nat.le_of_ble_eq_true rfl)⟩ (fun E ws9 h9 => absurd h9 id) (fun v9 ws9 hp => ?_)
    obtain ⟨rfl, rfl⟩ := hp
    refine sv_if_eq (tgt := 32) C d_Mo_first_27 (by decide) (fun h => ?_) (fun h => ?_)
    · exact absurd h (by decide)
    · refine sv_iconst (v := 0) C d_Mo_first_30 rfl ?_
      exact sv_iret C rfl rfl d_Mo_first_31 (Nat.le_of_ble_eq_true rfl) (Nat.le_of_ble_eq_true rfl) (fun _ _ => rfl) (⟨_, rfl, _, _, _, rfl, mo_W0 hok, Or.inr ⟨hno, rfl⟩⟩)
  refine sv_aload_n C d_Mo_first_0 rfl rfl ?_
  refine sv_aload_n C d_Mo_first_1 rfl rfl ?_
  refine sv_iload_n C d_Mo_first_2 rfl rfl ?_
  refine sv_callV (ci := 5) C (c_Mo_isFormula (cI := cI) (cJ := cJ) (cZ := cZ) (L := L) (I := I) (V := V) (W := W) (J := J) (B := B) (tl := tl) (mk := mk) (x := f) hW3) s_Mo_72 ki_Mo_isFormula ks_Mo_isFormula ⟨rfl, rfl, Nat.le_of_ble_eq_true rfl, Nat.le_of_ble_eq_true rfl⟩ rfl d_Mo_first_3 (by first | assumption | rfl) (Nat.le_of_ble_eq_true rfl) ⟨(Nat.le_of_ble_eq_true rfl), (Nat.le_of_ble_eq_true rfl)⟩ (fun E ws9 h9 => absurd h9 id) (fun v9 ws9 hp => ?_)
  obtain ⟨t, rfl, ht, rfl⟩ := hp
  cases t with
  | false =>
    refine sv_if_eq (tgt := 17) C d_Mo_first_6 (by decide) (fun h => ?_) (fun h => ?_)
    · exact nx () (fun q => absurd (ht.mpr q.1) Bool.false_ne_true)
    · exact absurd rfl h
  | true =>
    refine sv_if_eq (tgt := 17) C d_Mo_first_6 (by decide) (fun h => ?_) (fun h => ?_)
    · exact absurd h (by decide)
    · refine sv_aload_n C d_Mo_first_9 rfl rfl ?_
      refine sv_iload_n C d_Mo_first_10 rfl rfl ?_
      refine sv_callV (ci := 5) C (c_Mo_isState (cI := cI) (cJ := cJ) (cZ := cZ) (L := L) (I := I) (V := V) (W := W) (J := J) (B := B) (tl := tl) (n := n) (x := s) hn hW1) s_Mo_64 ki_Mo_isState ks_Mo_isState ⟨rfl, rfl, Nat.le_of_ble_eq_true rfl, Nat.le_of_ble_eq_true rfl⟩ rfl d_Mo_first_11 (by first | assumption | rfl) (Nat.le_of_ble_eq_true rfl) ⟨(Nat.le_of_ble_eq_true rfl), (Nat.le_of_ble_eq_true rfl)⟩ (fun E ws9 h9 => absurd h9 id) (fun v9 ws9 hp => ?_)
      obtain ⟨t, rfl, ht2, rfl⟩ := hp
      cases t with
      | false =>
        refine sv_if_ne (tgt := 21) C d_Mo_first_14 (by decide) (fun h => ?_) (fun h => ?_)
        · exact absurd rfl h
        · exact nx () (fun q => absurd (ht2.mpr q.2) Bool.false_ne_true)
      | true =>
        clear nx
        refine sv_if_ne (tgt := 21) C d_Mo_first_14 (by decide) (fun h => ?_) (fun h => ?_)
        rotate_left
        · exact absurd h (by decide)
        refine sv_iconst (v := 0) C d_Mo_first_21 rfl ?_
        refine sv_iconst (v := 0) C d_Mo_first_22 rfl ?_
        refine sv_iconst (v := 0) C d_Mo_first_23 rfl ?_
        refine sv_eqs (st' := [.int (b2i false), .int (b2i false), .int (b2i false), .ref 23]) rfl ?_
        refine sv_callV (ci := 5) C (c_Mo_refuse (cI := cI) (cJ := cJ) (cZ := cZ) (L := L) (I := I) (V := V) (W := W) (J := J) (B := B) (tl := tl) (a := false) (b := false) (c := false)) s_Mo_54 ki_Mo_refuse ks_Mo_refuse ⟨rfl, rfl, Nat.le_of_ble_eq_true rfl, Nat.le_of_ble_eq_true rfl⟩ rfl d_Mo_first_24 (by first | assumption | rfl) (Nat.le_of_ble_eq_true rfl) ⟨(Nat.le_of_ble_eq_true rfl), (Nat.le_of_ble_eq_true rfl)⟩ (fun E ws9 h9 => absurd h9 id) (fun v9 ws9 hp => ?_)
        obtain ⟨rfl, rfl⟩ := hp
        refine sv_if_eq (tgt := 32) C d_Mo_first_27 (by decide) (fun h => ?_) (fun h => ?_)
        rotate_left
        · exact absurd rfl h
        have hiF := ht.mp rfl
        have hiS := ht2.mp rfl
        obtain ⟨f0, hf0, rfl⟩ := iF_nat hmk hiF
        obtain ⟨s0, hs0, rfl⟩ := iS_nat hn hiS
        have hfc : (nI f0).toNatClampNeg = f0 := nI_clamp (by omega)
        have hsc : (nI s0).toNatClampNeg = s0 := nI_clamp (by omega)
        refine sv_aload_n C d_Mo_first_32 rfl rfl ?_
        refine sv_iload_n C d_Mo_first_33 rfl rfl ?_
        refine sv_callV (ci := 5) C (c_Mo_know (cI := cI) (cJ := cJ) (cZ := cZ) (L := L) (I := I) (V := V) (W := (hu W 0 (rfz false false false))) (J := J) (B := B) (tl := tl) (n := n) (r := r) (mk := mk) (rl := rl) (kd := kd) (xs := xs) (ys := ys) (mo_W0 hok) (f := f0) hf0) s_Mo_104 ki_Mo_know ks_Mo_know ⟨rfl, rfl, Nat.le_of_ble_eq_true rfl, Nat.le_of_ble_eq_true rfl⟩ rfl d_Mo_first_34 (by first | assumption | rfl) (Nat.le_of_ble_eq_true rfl) ⟨(Nat.le_of_ble_eq_true rfl), (Nat.le_of_ble_eq_true rfl)⟩ (fun E ws9 h9 => absurd h9 id) (fun v9 ws9 hp => ?_)
        obtain ⟨rfl, W1, B1, rfl, hW0, hok1, hT⟩ := hp
        have hW0 : W1 0 = 0 := hW0
        have hT : ∀ z, z < 2 ^ n → (B1 0 (256 * f0 + z) = true ↔ tF (rs n r rl) (2 ^ n) kd xs ys f0 z) := fun z hz => hT f0 z (Nat.le_refl _) hz
        have hW1 : W1 1 = nI n := hok1.1.1.2.1
        refine sv_iload_n C d_Mo_first_37 rfl rfl ?_
        refine sv_istore_n C d_Mo_first_38 rfl (by decide) rfl ?_
        refine sv_ind (σ := Nat) (I := fun q => s0 ≤ q ∧ q ≤ 2 ^ n ∧ ∀ z, s0 ≤ z → z < q → ¬ tF (rs n r rl) (2 ^ n) kd xs ys f0 z) (μ := fun q => 2 ^ n - q)
          (lv := fun q => [some (.ref 23), some (.int (nI f0)), some (.int (nI s0)), some (.int (nI q))]) (ws := fun _ => hM cI cJ cZ L I V W1 J B1 tl) ?_ s0 ⟨Nat.le_refl _, by omega, fun z h1 h2 => absurd h1 (by omega)⟩
        rintro i ⟨hi1, hi2, hno⟩ ih
        refine sv_iload_n C d_Mo_first_39 rfl rfl ?_
        refine sv_iconst (v := 1) C d_Mo_first_40 rfl ?_
        refine sv_aload_n C d_Mo_first_41 rfl rfl ?_
        refine sv_get (ci := 5) (kf := 1) C i_Mo rfl (by decide) f_Mo_7 (fun _ h9 => h9) d_Mo_first_42 (by first | assumption | rfl) rfl ?_
        rw [hW1]
        refine sv_ishl C d_Mo_first_45 ?_
        rw [ma_sh n (by omega)]
        refine sv_icmp_ge (tgt := 66) C d_Mo_first_46 (by decide) (fun h1 => ?_) (fun h1 => ?_)
        · have h1 : 2 ^ n ≤ i := (nI_leI (a := 2 ^ n) (b := i) (by omega) (by omega)).mp h1
          refine sv_iconst (v := (-1)) C d_Mo_first_66 rfl ?_
          refine sv_iret C rfl rfl d_Mo_first_67 (Nat.le_of_ble_eq_true rfl) (Nat.le_of_ble_eq_true rfl) (fun _ _ => rfl) (⟨_, rfl, W1, J, B1, rfl, hok1, Or.inl ⟨hiF, hiS, hW0, Or.inl ⟨rfl, fun z hz q => ?_⟩⟩⟩)
          rw [hfc] at q
          rw [hsc] at hz
          exact hno z hz (Nat.lt_of_lt_of_le (tF_lt q) h1) q
        · have h1 : ¬ 2 ^ n ≤ i := fun h => h1 ((nI_leI (a := 2 ^ n) (b := i) (by omega) (by omega)).mpr h)
          refine sv_aload_n C d_Mo_first_49 rfl rfl ?_
          refine sv_iload_n C d_Mo_first_50 rfl rfl ?_
          refine sv_iload_n C d_Mo_first_51 rfl rfl ?_
          refine sv_callV (ci := 5) C (c_Mo_has (cI := cI) (cJ := cJ) (cZ := cZ) (L := L) (I := I) (V := V) (W := W1) (J := J) (B := B1) (tl := tl) (f := f0) (z := i) (by omega) (by omega)) s_Mo_79 ki_Mo_has ks_Mo_has ⟨rfl, rfl, Nat.le_of_ble_eq_true rfl, Nat.le_of_ble_eq_true rfl⟩ rfl d_Mo_first_52 (by first | assumption | rfl) (Nat.le_of_ble_eq_true rfl) ⟨(Nat.le_of_ble_eq_true rfl), (Nat.le_of_ble_eq_true rfl)⟩ (fun E ws9 h9 => absurd h9 id) (fun v9 ws9 hp => ?_)
          obtain ⟨rfl, rfl⟩ := hp
          cases hb : B1 0 (256 * f0 + i) with
          | true =>
            refine sv_if_eq (tgt := 60) C d_Mo_first_55 (by decide) (fun h => ?_) (fun h => ?_)
            · exact absurd h (by decide)
            · refine sv_iload_n C d_Mo_first_58 rfl rfl ?_
              refine sv_iret C rfl rfl d_Mo_first_59 (Nat.le_of_ble_eq_true rfl) (Nat.le_of_ble_eq_true rfl) (fun _ _ => rfl) (⟨_, rfl, W1, J, B1, rfl, hok1, Or.inl ⟨hiF, hiS, hW0, Or.inr ⟨i, rfl, by omega, by rw [hsc]; exact hi1, by rw [hfc]; exact (hT i (by omega)).mp hb, fun z hz hz2 q => ?_⟩⟩⟩)
              rw [hfc] at q
              rw [hsc] at hz
              exact hno z hz hz2 q
          | false =>
            refine sv_if_eq (tgt := 60) C d_Mo_first_55 (by decide) (fun h => ?_) (fun h => ?_)
            · refine sv_iincN C d_Mo_first_60 rfl (by decide) rfl ?_
              refine sv_goto (tgt := 39) C d_Mo_first_63 (by decide) ?_
              refine ih (i + 1) ⟨by omega, by omega, fun z hz hz2 q => ?_⟩ (by omega)
              by_cases e : z = i
              · rw [e, ← hT i (by omega), hb] at q
                exact absurd q Bool.false_ne_true
              · exact hno z hz (by omega) q
            · exact absurd rfl h
set_option maxRecDepth 100000 in
set_option maxHeartbeats 8000000 in
theorem c_Mo_ways {l : Launch} {D : va_G} {cI cJ cZ : ClassId} {L : Nat → Nat → Int64} {I : Nat → Nat → Int32} {V : Nat → Int32} {W : Nat → Int32} {J : Nat → Nat → Int32} {B : Nat → Nat → Bool} {tl : List va_E} {n r mk : Nat} {rl : Nat → Nat × Nat × Nat × Nat} {kd xs ys : Nat → Nat} (hok : mo_ok W J B n r mk rl kd xs ys) {s : Int32} :
    sv_M l y_Mo_ways [Cond.code y_Mo_ways b_Mo_ways 5 (some .int)] ({ frames := 1, cells := 0, slots := 0, locals := 23 } : Room) D sv_cl (sv_ty cI cJ cZ) [.ref 23, .int s] (hM cI cJ cZ L I V W J B tl) 0 0 (fun q ws' => ∃ x : Int32, q = some (.int x) ∧ ∃ (W' : Nat → Int32) (J' : Nat → Nat → Int32) (B' : Nat → Nat → Bool), ws' = hM cI cJ cZ L I V W' J' B' tl ∧ mo_ok W' J' B' n r mk rl kd xs ys ∧ ((iS n s ∧ W' 0 = 0 ∧ ∃ Q : Nat → Bool, x = nI (g_cnt Q 256) ∧ ∀ z, z < 256 → (Q z = true ↔ rs n r rl s.toNatClampNeg z)) ∨ (¬ iS n s ∧ W' 0 = 1))) sv_no 0 0 := by
  refine sv_of (cc := b_Mo_ways) (by decide +kernel) (Nat.le_of_ble_eq_true rfl) ?_
  intro pX eX sX mX aX bX tX cX AX adX C htab hnm
  have hok' := hok
  obtain ⟨⟨⟨hn, hW1, hW2, hr40, hrl⟩, hJ⟩, hn1, ⟨hW3, hmk⟩, hfm, -⟩ := hok'
  have hp8 := pow_le8 hn
  refine sv_aload_n C d_Mo_ways_0 rfl rfl ?_
  refine sv_aload_n C d_Mo_ways_1 rfl rfl ?_
  refine sv_iload_n C d_Mo_ways_2 rfl rfl ?_
  refine sv_callV (ci := 5) C (c_Mo_isState (cI := cI) (cJ := cJ) (cZ := cZ) (L := L) (I := I) (V := V) (W := W) (J := J) (B := B) (tl := tl) (n := n) (x := s) hn hW1) s_Mo_64 ki_Mo_isState ks_Mo_isState ⟨rfl, rfl, Nat.le_of_ble_eq_true rfl, Nat.le_of_ble_eq_true rfl⟩ rfl d_Mo_ways_3 (by first | assumption | rfl) (Nat.le_of_ble_eq_true rfl) ⟨(Nat.le_of_ble_eq_true rfl), (Nat.le_of_ble_eq_true rfl)⟩ (fun E ws9 h9 => absurd h9 id) (fun v9 ws9 hp => ?_)
  obtain ⟨t, rfl, ht, rfl⟩ := hp
  cases t with
  | false =>
    refine sv_if_ne (tgt := 13) C d_Mo_ways_6 (by decide) (fun h => ?_) (fun h => ?_)
    · exact absurd rfl h
    · refine sv_iconst (v := 1) C d_Mo_ways_9 rfl ?_
      refine sv_goto (tgt := 14) C d_Mo_ways_10 (by decide) ?_
      refine sv_iconst (v := 0) C d_Mo_ways_14 rfl ?_
      refine sv_iconst (v := 0) C d_Mo_ways_15 rfl ?_
      refine sv_eqs (st' := [.int (b2i false), .int (b2i false), .int (b2i true), .ref 23]) rfl ?_
      refine sv_callV (ci := 5) C (c_Mo_refuse (cI := cI) (cJ := cJ) (cZ := cZ) (L := L) (I := I) (V := V) (W := W) (J := J) (B := B) (tl := tl) (a := true) (b := false) (c := false)) s_Mo_54 ki_Mo_refuse ks_Mo_refuse ⟨rfl, rfl, Nat.le_of_ble_eq_true rfl, Nat.le_of_ble_eq_true rfl⟩ rfl d_Mo_ways_16 (by first | assumption | rfl) (Nat.le_of_ble_eq_true rfl) ⟨(Nat.le_of_ble_eq_true rfl), (Nat.le_of_ble_eq_true rfl)⟩ (fun E ws9 h9 => absurd h9 id) (fun v9 ws9 hp => ?_)
      obtain ⟨rfl, rfl⟩ := hp
      refine sv_if_eq (tgt := 24) C d_Mo_ways_19 (by decide) (fun h => ?_) (fun h => ?_)
      · exact absurd h (by decide)
      · refine sv_iconst (v := 0) C d_Mo_ways_22 rfl ?_
        exact sv_iret C rfl rfl d_Mo_ways_23 (Nat.le_of_ble_eq_true rfl) (Nat.le_of_ble_eq_true rfl) (fun _ _ => rfl) (⟨_, rfl, _, _, _, rfl, mo_W0 hok, Or.inr ⟨fun q => absurd (ht.mpr q) Bool.false_ne_true, rfl⟩⟩)
  | true =>
    refine sv_if_ne (tgt := 13) C d_Mo_ways_6 (by decide) (fun h => ?_) (fun h => ?_)
    rotate_left
    · exact absurd h (by decide)
    refine sv_iconst (v := 0) C d_Mo_ways_13 rfl ?_
    refine sv_iconst (v := 0) C d_Mo_ways_14 rfl ?_
    refine sv_iconst (v := 0) C d_Mo_ways_15 rfl ?_
    refine sv_eqs (st' := [.int (b2i false), .int (b2i false), .int (b2i false), .ref 23]) rfl ?_
    refine sv_callV (ci := 5) C (c_Mo_refuse (cI := cI) (cJ := cJ) (cZ := cZ) (L := L) (I := I) (V := V) (W := W) (J := J) (B := B) (tl := tl) (a := false) (b := false) (c := false)) s_Mo_54 ki_Mo_refuse ks_Mo_refuse ⟨rfl, rfl, Nat.le_of_ble_eq_true rfl, Nat.le_of_ble_eq_true rfl⟩ rfl d_Mo_ways_16 (by first | assumption | rfl) (Nat.le_of_ble_eq_true rfl) ⟨(Nat.le_of_ble_eq_true rfl), (Nat.le_of_ble_eq_true rfl)⟩ (fun E ws9 h9 => absurd h9 id) (fun v9 ws9 hp => ?_)
    obtain ⟨rfl, rfl⟩ := hp
    refine sv_if_eq (tgt := 24) C d_Mo_ways_19 (by decide) (fun h => ?_) (fun h => ?_)
    rotate_left
    · exact absurd rfl h
    have hi := ht.mp rfl
    obtain ⟨s0, hs0, rfl⟩ := iS_nat hn hi
    have hsc : (nI s0).toNatClampNeg = s0 := nI_clamp (by omega)
    have hok1 : mo_ok (hu W 0 0) J B n r mk rl kd xs ys := mo_W0 hok
    refine sv_eqw (ws' := hM cI cJ cZ L I V (hu W 0 0) J B tl) rfl ?_
    refine sv_iconst (v := 0) C d_Mo_ways_24 rfl ?_
    refine sv_istore_n C d_Mo_ways_25 rfl (by decide) rfl ?_
    refine sv_ind (σ := Nat × (Nat → Nat → Bool)) (I := fun q => q.1 ≤ 256 ∧ q.2 0 = B 0 ∧ ∀ z, z < q.1 → q.2 1 z = false) (μ := fun q => 256 - q.1)
      (lv := fun q => [some (.ref 23), some (.int (nI s0)), some (.int (nI q.1)), none, none]) (ws := fun q => hM cI cJ cZ L I V (hu W 0 0) J q.2 tl) ?_ (0, B) ⟨Nat.zero_le _, rfl, fun z hz => absurd hz (Nat.not_lt_zero z)⟩
    rintro ⟨i, B1⟩ ⟨hi2, e0, hc⟩ ih
    dsimp only at hi2 e0 hc ih
    refine sv_iload_n C d_Mo_ways_26 rfl rfl ?_
    refine sv_sipush (v := 256) C d_Mo_ways_27 rfl ?_
    refine sv_icmp_ge (tgt := 46) C d_Mo_ways_30 (by decide) (fun h1 => ?_) (fun h1 => ?_)
    rotate_left
    · have h1 : ¬ 256 ≤ i := fun h => h1 ((nI_leI (a := 256) (b := i) (by omega) (by omega)).mpr h)
      have hin2 : vp_in (nI i) 256 := vp_in_nI (by omega) (by omega)
      refine sv_aload_n C d_Mo_ways_33 rfl rfl ?_
      refine sv_get (ci := 5) (kf := 13) C i_Mo rfl (by decide) f_Mo_39 (fun _ h9 => h9) d_Mo_ways_34 (by first | assumption | rfl) rfl ?_
      refine sv_iload_n C d_Mo_ways_37 rfl rfl ?_
      refine sv_iconst (v := 0) C d_Mo_ways_38 rfl ?_
      refine sv_zast (t0 := 2) C rfl d_Mo_ways_39 (by first | assumption | rfl) hin2 ?_
      refine sv_eqw (st32 false (by omega) rfl) ?_
      refine sv_iincN C d_Mo_ways_40 rfl (by decide) rfl ?_
      refine sv_goto (tgt := 26) C d_Mo_ways_43 (by decide) ?_
      refine ih (i + 1, hu B1 1 (hu (B1 1) i false)) ⟨by dsimp only; omega, e0, fun z hz => ?_⟩ (by dsimp only; omega)
      show hu (B1 1) i false z = false
      by_cases e : z = i
      · rw [e, hu_s]
      · rw [hu_n e]
        exact hc z (by dsimp only at hz; omega)
    have h1 : 256 ≤ i := (nI_leI (a := 256) (b := i) (by omega) (by omega)).mp h1
    have h2 : i = 256 := by omega
    subst h2
    clear ih
    refine sv_iconst (v := 0) C d_Mo_ways_46 rfl ?_
    refine sv_istore_n C d_Mo_ways_47 rfl (by decide) rfl ?_
    refine sv_iconst (v := 0) C d_Mo_ways_48 rfl ?_
    refine sv_istore_n C d_Mo_ways_49 rfl (by decide) rfl ?_
    have e00 : g_cnt (B1 1) 256 = 0 := by
      rw [g_cnt_congr (O' := fun _ => false) 256 hc]
      exact g_cnt_ext (N := 0) (fun _ _ => rfl) 256 (by omega)
    refine sv_eql (lv' := [some (.ref 23), some (.int (nI s0)), some (.int (nI (g_cnt (B1 1) 256))), some (.int (nI 0)), none]) (by rw [e00]; rfl) ?_
    refine sv_ind (σ := Nat × (Nat → Nat → Bool)) (I := fun q => q.1 ≤ r ∧ q.2 0 = B 0 ∧ ∀ z, z < 256 → (q.2 1 z = true ↔ ∃ j, j < q.1 ∧ s0 &&& (rl j).1 = (rl j).2.1 ∧ z = (s0 &&& (rl j).2.2.1) ^^^ (rl j).2.2.2)) (μ := fun q => r - q.1)
      (lv := fun q => [some (.ref 23), some (.int (nI s0)), some (.int (nI (g_cnt (q.2 1) 256))), some (.int (nI q.1)), none]) (ws := fun q => hM cI cJ cZ L I V (hu W 0 0) J q.2 tl) ?_ (0, B1) ⟨Nat.zero_le _, e0, fun z hz => ⟨fun q => by dsimp only at q; rw [hc z hz] at q; exact absurd q Bool.false_ne_true, fun ⟨j, hj, _⟩ => absurd hj (Nat.not_lt_zero j)⟩⟩
    clear hc e0 e00
    rintro ⟨i, B2⟩ ⟨hi2, e0, hc⟩ ih
    dsimp only at hi2 e0 hc ih
    refine sv_iload_n C d_Mo_ways_50 rfl rfl ?_
    refine sv_aload_n C d_Mo_ways_51 rfl rfl ?_
    refine sv_get (ci := 5) (kf := 2) C i_Mo rfl (by decide) f_Mo_58 (fun _ h9 => h9) d_Mo_ways_52 (by first | assumption | rfl) rfl ?_
    refine sv_eqs (st' := [.int (nI r), .int (nI i)]) (by rw [← hW2]; rfl) ?_
    refine sv_icmp_ge (tgt := 98) C d_Mo_ways_55 (by decide) (fun h1 => ?_) (fun h1 => ?_)
    · have h1 : r ≤ i := (nI_leI (a := r) (b := i) (by omega) (by omega)).mp h1
      have h2 : i = r := by omega
      subst h2
      refine sv_iload_n C d_Mo_ways_98 rfl rfl ?_
      refine sv_iret C rfl rfl d_Mo_ways_99 (Nat.le_of_ble_eq_true rfl) (Nat.le_of_ble_eq_true rfl) (fun _ _ => rfl) (⟨_, rfl, hu W 0 0, J, B2, rfl, ?_, Or.inl ⟨hi, rfl, B2 1, rfl, fun z hz => ?_⟩⟩)
      · obtain ⟨p1, p2, p3, p4, kn, p5, p6, p7⟩ := hok1
        exact ⟨p1, p2, p3, p4, kn, p5, p6, fun a z ha hz => by rw [e0]; exact p7 a z ha hz⟩
      · rw [hc z hz, hsc]
        exact ⟨fun q => ⟨hs0, q⟩, fun q => q.2⟩
    · have h1 : ¬ r ≤ i := fun h => h1 ((nI_leI (a := r) (b := i) (by omega) (by omega)).mpr h)
      refine sv_aload_n C d_Mo_ways_58 rfl rfl ?_
      refine sv_iload_n C d_Mo_ways_59 rfl rfl ?_
      refine sv_iload_n C d_Mo_ways_60 rfl rfl ?_
      refine sv_callV (ci := 5) C (c_Mo_goes (cI := cI) (cJ := cJ) (cZ := cZ) (L := L) (I := I) (V := V) (W := (hu W 0 0)) (J := J) (B := B2) (tl := tl) (n := n) (r := r) (s := s0) (i := i) (rl := rl) hok1.1 hs0 (by omega)) s_Mo_75 ki_Mo_goes ks_Mo_goes ⟨rfl, rfl, Nat.le_of_ble_eq_true rfl, Nat.le_of_ble_eq_true rfl⟩ rfl d_Mo_ways_61 (by first | assumption | rfl) (Nat.le_of_ble_eq_true rfl) ⟨(Nat.le_of_ble_eq_true rfl), (Nat.le_of_ble_eq_true rfl)⟩ (fun E ws9 h9 => absurd h9 id) (fun v9 ws9 hp => ?_)
      obtain ⟨hg, rfl⟩ := hp
      have hbi := hrl i (by omega)
      rcases hg with ⟨g1, rfl⟩ | ⟨g1, rfl⟩
      · have hto := ma_to (k := (rl i).2.2.1) hs0 hbi.2.2.2
        generalize hto2 : (s0 &&& (rl i).2.2.1) ^^^ (rl i).2.2.2 = to at hto ⊢
        have hin : vp_in (nI to) 256 := vp_in_nI (by omega) (by omega)
        refine sv_istore C d_Mo_ways_64 (by decide) rfl ?_
        refine sv_iload C d_Mo_ways_66 rfl ?_
        refine sv_if_lt (tgt := 92) C d_Mo_ways_68 (by decide) (fun h4 => ?_) (fun h4 => ?_)
        · exact absurd h4 (nI_nneg (by omega))
        · refine sv_aload_n C d_Mo_ways_71 rfl rfl ?_
          refine sv_get (ci := 5) (kf := 13) C i_Mo rfl (by decide) f_Mo_39 (fun _ h9 => h9) d_Mo_ways_72 (by first | assumption | rfl) rfl ?_
          refine sv_iload C d_Mo_ways_75 rfl ?_
          refine sv_zald (t0 := 2) C rfl d_Mo_ways_77 (by first | assumption | rfl) hin ?_
          refine sv_eqs (st' := [.int (b2i (B2 1 to))]) (by rw [nI_clamp (by omega)]; rfl) ?_
          cases hb : B2 1 to with
          | true =>
            refine sv_if_ne (tgt := 92) C d_Mo_ways_78 (by decide) (fun h5 => ?_) (fun h5 => ?_)
            rotate_left
            · exact absurd h5 (by decide)
            refine sv_iincN C d_Mo_ways_92 rfl (by decide) rfl ?_
            refine sv_goto (tgt := 50) C d_Mo_ways_95 (by decide) ?_
            refine sv_drop [true, true, true, true, false] ?_
            refine ih (i + 1, B2) ⟨by dsimp only; omega, e0, fun z hz => (hc z hz).trans ⟨fun ⟨j, hj, hj2⟩ => ⟨j, by dsimp only; omega, hj2⟩, fun ⟨j, hj, hj2⟩ => ?_⟩⟩ (by dsimp only; omega)
            by_cases e : j = i
            · rw [e, hto2] at hj2
              rw [hj2.2]
              exact (hc to (by omega)).mp hb
            · exact ⟨j, by dsimp only at hj; omega, hj2⟩
          | false =>
            refine sv_if_ne (tgt := 92) C d_Mo_ways_78 (by decide) (fun h5 => ?_) (fun h5 => ?_)
            · exact absurd rfl h5
            · refine sv_aload_n C d_Mo_ways_81 rfl rfl ?_
              refine sv_get (ci := 5) (kf := 13) C i_Mo rfl (by decide) f_Mo_39 (fun _ h9 => h9) d_Mo_ways_82 (by first | assumption | rfl) rfl ?_
              refine sv_iload C d_Mo_ways_85 rfl ?_
              refine sv_iconst (v := 1) C d_Mo_ways_87 rfl ?_
              refine sv_zast (t0 := 2) C rfl d_Mo_ways_88 (by first | assumption | rfl) hin ?_
              refine sv_eqw (st32 true (by omega) rfl) ?_
              refine sv_iincN C d_Mo_ways_89 rfl (by decide) rfl ?_
              refine sv_iincN C d_Mo_ways_92 rfl (by decide) rfl ?_
              refine sv_goto (tgt := 50) C d_Mo_ways_95 (by decide) ?_
              refine sv_drop [true, true, true, true, false] ?_
              refine sv_eql (lv' := [some (.ref 23), some (.int (nI s0)), some (.int (nI (g_cnt (hu (B2 1) to true) 256))), some (.int (nI (i + 1))), none]) (by rw [cnt_in (by omega) hb]; rfl) ?_
              refine ih (i + 1, hu B2 1 (hu (B2 1) to true)) ⟨by dsimp only; omega, e0, fun z hz => ?_⟩ (by dsimp only; omega)
              show hu (B2 1) to true z = true ↔ _
              by_cases e : z = to
              · rw [e, hu_s]
                exact ⟨fun _ => ⟨i, by dsimp only; omega, g1, hto2.symm⟩, fun _ => rfl⟩
              · rw [hu_n e]
                refine (hc z hz).trans ⟨fun ⟨j, hj, hj2⟩ => ⟨j, by dsimp only; omega, hj2⟩, fun ⟨j, hj, hj2⟩ => ?_⟩
                by_cases e2 : j = i
                · rw [e2, hto2] at hj2
                  exact absurd hj2.2 e
                · exact ⟨j, by dsimp only at hj; omega, hj2⟩
      · refine sv_istore C d_Mo_ways_64 (by decide) rfl ?_
        refine sv_iload C d_Mo_ways_66 rfl ?_
        refine sv_if_lt (tgt := 92) C d_Mo_ways_68 (by decide) (fun h4 => ?_) (fun h4 => ?_)
        · refine sv_iincN C d_Mo_ways_92 rfl (by decide) rfl ?_
          refine sv_goto (tgt := 50) C d_Mo_ways_95 (by decide) ?_
          refine sv_drop [true, true, true, true, false] ?_
          refine ih (i + 1, B2) ⟨by dsimp only; omega, e0, fun z hz => (hc z hz).trans ⟨fun ⟨j, hj, hj2⟩ => ⟨j, by dsimp only; omega, hj2⟩, fun ⟨j, hj, hj2⟩ => ?_⟩⟩ (by dsimp only; omega)
          by_cases e2 : j = i
          · rw [e2] at hj2
            exact absurd hj2.1 g1
          · exact ⟨j, by dsimp only at hj; omega, hj2⟩
        · exact absurd neg1 h4
