/-! The reference: length, witness -/
theorem fr_0 {S : Nat → Nat → Prop} {X Y : Nat → Prop} {F : Int32} {z : Nat} (h : frE S X Y F z) (e : F = nI 1000) : rlen S X Y z 0 := by
  rcases h with ⟨d, h1, h2, h3⟩ | ⟨h1, h2⟩
  · have := nI_inj (by omega) (by omega) (h2.symm.trans e)
    omega
  · exact Or.inr ⟨rfl, h2⟩
theorem fr_1 {S : Nat → Nat → Prop} {X Y : Nat → Prop} {F : Int32} {z : Nat} (h : frE S X Y F z) (e : ¬ F = nI 1000) : ∃ m, F = nI m ∧ m < 1000 ∧ rlen S X Y z m := by
  rcases h with ⟨d, h1, h2, h3⟩ | ⟨h1, h2⟩
  · exact ⟨d + 1, h2, by omega, Or.inl ⟨d, h1, rfl, h3⟩⟩
  · exact absurd h1 e
theorem fr_t {S : Nat → Nat → Prop} {X Y : Nat → Prop} {t z : Nat} {F : Int32} (ht : 1 ≤ t) (ht2 : t ≤ 256) (h : frE S X Y F z) : F = nI t ↔ umin S X Y (t - 1) z := by
  rcases h with ⟨d, h1, rfl, h3⟩ | ⟨rfl, h2⟩
  · rw [nI_eq (by omega) (by omega)]
    refine ⟨fun e => ?_, fun e => ?_⟩
    · rw [show t - 1 = d by omega]
      exact h3
    · have := umin_eq h3 e
      omega
  · rw [nI_eq (by omega) (by omega)]
    exact ⟨fun e => by omega, fun e => absurd e.1 (h2 _)⟩
theorem nI_p1 (a : Nat) : nI (a + 1) - 1 = nI a := by
  rw [← nI_1]
  exact Int32.add_sub_cancel _ _
/-- the least state so far -/
def nxt (Q : Nat → Nat → Prop) (D : Nat → Prop) (j : Nat) (x : Int32) : Prop :=
  (x = -1 ∧ ∀ j', j' < j → ∀ w, Q j' w → ¬ D w) ∨ ∃ w, w < 256 ∧ x = nI w ∧ D w ∧ (∃ j', j' < j ∧ Q j' w) ∧ ∀ j', j' < j → ∀ w', Q j' w' → D w' → w ≤ w'
theorem nxt_skip {Q : Nat → Nat → Prop} {D : Nat → Prop} {j : Nat} {x : Int32} (h : nxt Q D j x) (hn : ∀ w, Q j w → ¬ D w) : nxt Q D (j + 1) x := by
  rcases h with ⟨h1, h2⟩ | ⟨w, h1, h2, h3, ⟨j1, h4, h5⟩, h6⟩
  · refine Or.inl ⟨h1, fun j' hj w hw => ?_⟩
    by_cases e : j' = j
    · rw [e] at hw
      exact hn w hw
    · exact h2 j' (by omega) w hw
  · refine Or.inr ⟨w, h1, h2, h3, ⟨j1, by omega, h5⟩, fun j' hj w' hw hd => ?_⟩
    by_cases e : j' = j
    · rw [e] at hw
      exact absurd hd (hn w' hw)
    · exact h6 j' (by omega) w' hw hd
theorem nxt_keep {Q : Nat → Nat → Prop} {D : Nat → Prop} {j to : Nat} {x : Int32} (h : nxt Q D j x) (hx : ¬ x < 0) (ht : to < 256) (hn : ∀ w, Q j w → w = to) (hle : x ≤ nI to) : nxt Q D (j + 1) x := by
  rcases h with ⟨rfl, h2⟩ | ⟨w, h1, rfl, h3, ⟨j1, h4, h5⟩, h6⟩
  · exact absurd neg1 hx
  · refine Or.inr ⟨w, h1, rfl, h3, ⟨j1, by omega, h5⟩, fun j' hj w' hw hd => ?_⟩
    by_cases e : j' = j
    · rw [e] at hw
      rw [hn w' hw]
      exact (nI_leI (a := w) (b := to) (by omega) (by omega)).mp hle
    · exact h6 j' (by omega) w' hw hd
theorem nxt_take {Q : Nat → Nat → Prop} {D : Nat → Prop} {j to : Nat} {x : Int32} (h : nxt Q D j x) (ht : to < 256) (hq : Q j to) (hn : ∀ w, Q j w → w = to) (hd : D to) (hlt : x < 0 ∨ nI to < x) : nxt Q D (j + 1) (nI to) := by
  refine Or.inr ⟨to, ht, rfl, hd, ⟨j, by omega, hq⟩, fun j' hj w' hw hd' => ?_⟩
  by_cases e : j' = j
  · rw [e] at hw
    rw [hn w' hw]
    exact Nat.le_refl _
  · rcases h with ⟨h1, h2⟩ | ⟨w, h1, rfl, h3, -, h6⟩
    · exact absurd hd' (h2 j' (by omega) w' hw)
    · have h7 := h6 j' (by omega) w' hw hd'
      rcases hlt with q | q
      · exact absurd q (nI_nneg (by omega))
      · have := (nI_ltI (a := to) (b := w) (by omega) (by omega)).mp q
        omega
set_option maxRecDepth 100000 in
set_option maxHeartbeats 8000000 in
theorem c_Mo_length {l : Launch} {D : va_G} {cI cJ cZ : ClassId} {L : Nat → Nat → Int64} {I : Nat → Nat → Int32} {V : Nat → Int32} {W : Nat → Int32} {J : Nat → Nat → Int32} {B : Nat → Nat → Bool} {tl : List va_E} {n r mk : Nat} {rl : Nat → Nat × Nat × Nat × Nat} {kd xs ys : Nat → Nat} (hok : mo_ok W J B n r mk rl kd xs ys) {f s : Int32} :
    sv_M l y_Mo_length [Cond.code y_Mo_length b_Mo_length 4 (some .int)] ({ frames := 7, cells := 0, slots := 0, locals := 168 } : Room) D sv_cl (sv_ty cI cJ cZ) [.ref 23, .int f, .int s] (hM cI cJ cZ L I V W J B tl) 0 0 (fun q ws' => ∃ x : Int32, q = some (.int x) ∧ ∃ (W' : Nat → Int32) (J' : Nat → Nat → Int32) (B' : Nat → Nat → Bool), ws' = hM cI cJ cZ L I V W' J' B' tl ∧ mo_ok W' J' B' n r mk rl kd xs ys ∧ ((iF mk f ∧ iS n s ∧ kd f.toNatClampNeg = 5 ∧ W' 0 = 0 ∧ ∃ m, x = nI m ∧ rlen (rs n r rl) (tF (rs n r rl) (2 ^ n) kd xs ys (xs f.toNatClampNeg)) (tF (rs n r rl) (2 ^ n) kd xs ys (ys f.toNatClampNeg)) s.toNatClampNeg m) ∨ (¬ (iF mk f ∧ iS n s) ∧ W' 0 = 1) ∨ (iF mk f ∧ iS n s ∧ kd f.toNatClampNeg ≠ 5 ∧ W' 0 = 2))) sv_no 0 0 := by
  refine sv_of (cc := b_Mo_length) (by decide +kernel) (Nat.le_of_ble_eq_true rfl) ?_
  intro pX eX sX mX aX bX tX cX AX adX C htab hnm
  have hok' := hok
  obtain ⟨⟨⟨hn, hW1, hW2, hr40, hrl⟩, hJ⟩, hn1, ⟨hW3, hmk⟩, hfm, -⟩ := hok'
  have hp8 := pow_le8 hn
  refine sv_join (σ := Bool) (pc1 := 22) (st1 := []) (k1 := 0) (n1 := 0) (J := fun g => g = true ↔ (iF mk f ∧ iS n s)) (lv1 := fun g => [some (.ref 23), some (.int f), some (.int s), some (.int (b2i g))]) (ws1 := fun _ => hM cI cJ cZ L I V W J B tl) ?_ (fun nx => ?_)
  rotate_left
  · refine sv_aload_n C d_Mo_length_0 rfl rfl ?_
    refine sv_iload_n C d_Mo_length_1 rfl rfl ?_
    refine sv_callV (ci := 5) C (c_Mo_isFormula (cI := cI) (cJ := cJ) (cZ := cZ) (L := L) (I := I) (V := V) (W := W) (J := J) (B := B) (tl := tl) (mk := mk) (x := f) hW3) s_Mo_72 ki_Mo_isFormula ks_Mo_isFormula ⟨rfl, rfl, Nat.le_of_ble_eq_true rfl, Nat.le_of_ble_eq_true rfl⟩ rfl d_Mo_length_2 (by first | assumption | rfl) (Nat.le_of_ble_eq_true rfl) ⟨(Nat.le_of_ble_eq_true rfl), (Nat.le_of_ble_eq_true rfl)⟩ (fun E ws9 h9 => absurd h9 id) (fun v9 ws9 hp => ?_)
    obtain ⟨t, rfl, ht, rfl⟩ := hp
    cases t with
    | false =>
      refine sv_if_eq (tgt := 20) C d_Mo_length_5 (by decide) (fun h => ?_) (fun h => ?_)
      · refine sv_iconst (v := 0) C d_Mo_length_20 rfl ?_
        refine sv_istore_n C d_Mo_length_21 rfl (by decide) rfl ?_
        exact nx false ⟨fun q => absurd q Bool.false_ne_true, fun q => absurd (ht.mpr q.1) Bool.false_ne_true⟩
      · exact absurd rfl h
    | true =>
      refine sv_if_eq (tgt := 20) C d_Mo_length_5 (by decide) (fun h => ?_) (fun h => ?_)
      · exact absurd h (by decide)
      · refine sv_aload_n C d_Mo_length_8 rfl rfl ?_
        refine sv_iload_n C d_Mo_length_9 rfl rfl ?_
        refine sv_callV (ci := 5) C (c_Mo_isState (cI := cI) (cJ := cJ) (cZ := cZ) (L := L) (I := I) (V := V) (W := W) (J := J) (B := B) (tl := tl) (n := n) (x := s) hn hW1) s_Mo_64 ki_Mo_isState ks_Mo_isState ⟨rfl, rfl, Nat.le_of_ble_eq_true rfl, Nat.le_of_ble_eq_true rfl⟩ rfl d_Mo_length_10 (by first | assumption | rfl) (Nat.le_of_ble_eq_true rfl) ⟨(Nat.le_of_ble_eq_true rfl), (Nat.le_of_ble_eq_true rfl)⟩ (fun E ws9 h9 => absurd h9 id) (fun v9 ws9 hp => ?_)
        obtain ⟨t, rfl, ht2, rfl⟩ := hp
        cases t with
        | false =>
          refine sv_if_eq (tgt := 20) C d_Mo_length_13 (by decide) (fun h => ?_) (fun h => ?_)
          · refine sv_iconst (v := 0) C d_Mo_length_20 rfl ?_
            refine sv_istore_n C d_Mo_length_21 rfl (by decide) rfl ?_
            exact nx false ⟨fun q => absurd q Bool.false_ne_true, fun q => absurd (ht2.mpr q.2) Bool.false_ne_true⟩
          · exact absurd rfl h
        | true =>
          refine sv_if_eq (tgt := 20) C d_Mo_length_13 (by decide) (fun h => ?_) (fun h => ?_)
          · exact absurd h (by decide)
          · refine sv_iconst (v := 1) C d_Mo_length_16 rfl ?_
            refine sv_goto (tgt := 21) C d_Mo_length_17 (by decide) ?_
            refine sv_istore_n C d_Mo_length_21 rfl (by decide) rfl ?_
            exact nx true ⟨fun _ => ⟨ht.mp rfl, ht2.mp rfl⟩, fun _ => rfl⟩
  rintro g hg
  cases g with
  | false =>
    have hno : ¬ (iF mk f ∧ iS n s) := fun q => absurd (hg.mpr q) Bool.false_ne_true
    refine sv_aload_n C d_Mo_length_22 rfl rfl ?_
    refine sv_iload_n C d_Mo_length_23 rfl rfl ?_
    refine sv_if_ne (tgt := 31) C d_Mo_length_24 (by decide) (fun h => ?_) (fun h => ?_)
    · exact absurd rfl h
    refine sv_iconst (v := 1) C d_Mo_length_27 rfl ?_
    refine sv_goto (tgt := 32) C d_Mo_length_28 (by decide) ?_
    refine sv_iload_n C d_Mo_length_32 rfl rfl ?_
    refine sv_if_eq (tgt := 58) C d_Mo_length_33 (by decide) (fun h1 => ?_) (fun h1 => ?_)
    rotate_left
    · exact absurd rfl h1
    refine sv_iconst (v := 0) C d_Mo_length_58 rfl ?_
    refine sv_iconst (v := 0) C d_Mo_length_59 rfl ?_
    refine sv_eqs (st' := [.int (b2i false), .int (b2i false), .int (b2i true), .ref 23]) rfl ?_
    refine sv_callV (ci := 5) C (c_Mo_refuse (cI := cI) (cJ := cJ) (cZ := cZ) (L := L) (I := I) (V := V) (W := W) (J := J) (B := B) (tl := tl) (a := true) (b := false) (c := false)) s_Mo_54 ki_Mo_refuse ks_Mo_refuse ⟨rfl, rfl, Nat.le_of_ble_eq_true rfl, Nat.le_of_ble_eq_true rfl⟩ rfl d_Mo_length_60 (by first | assumption | rfl) (Nat.le_of_ble_eq_true rfl) ⟨(Nat.le_of_ble_eq_true rfl), (Nat.le_of_ble_eq_true rfl)⟩ (fun E ws9 h9 => absurd h9 id) (fun v9 ws9 hp => ?_)
    obtain ⟨rfl, rfl⟩ := hp
    refine sv_if_eq (tgt := 68) C d_Mo_length_63 (by decide) (fun h => ?_) (fun h => ?_)
    · exact absurd h (by decide)
    · refine sv_iconst (v := 0) C d_Mo_length_66 rfl ?_
      exact sv_iret C rfl rfl d_Mo_length_67 (Nat.le_of_ble_eq_true rfl) (Nat.le_of_ble_eq_true rfl) (fun _ _ => rfl) (⟨_, rfl, _, _, _, rfl, mo_W0 hok, Or.inr (Or.inl ⟨hno, rfl⟩)⟩)
  | true =>
    obtain ⟨hiF, hiS⟩ := hg.mp rfl
    obtain ⟨f0, hf0, rfl⟩ := iF_nat hmk hiF
    obtain ⟨s0, hs0, rfl⟩ := iS_nat hn hiS
    have hfc : (nI f0).toNatClampNeg = f0 := nI_clamp (by omega)
    have hsc : (nI s0).toNatClampNeg = s0 := nI_clamp (by omega)
    obtain ⟨j4, j5, j6, q7, q0, q1, q6⟩ := hfm f0 hf0
    have hin : vp_in (nI f0) 60 := vp_in_nI (by omega) (by omega)
    have hsin : vp_in (nI s0) 256 := vp_in_nI (by omega) (by omega)
    rw [hfc, hsc]
    refine sv_aload_n C d_Mo_length_22 rfl rfl ?_
    refine sv_iload_n C d_Mo_length_23 rfl rfl ?_
    refine sv_if_ne (tgt := 31) C d_Mo_length_24 (by decide) (fun h => ?_) (fun h => ?_)
    rotate_left
    · exact absurd (show b2i true = 0 from h) (by decide)
    refine sv_iconst (v := 0) C d_Mo_length_31 rfl ?_
    refine sv_iload_n C d_Mo_length_32 rfl rfl ?_
    refine sv_if_eq (tgt := 58) C d_Mo_length_33 (by decide) (fun h1 => ?_) (fun h1 => ?_)
    · exact absurd (show b2i true = 0 from h1) (by decide)
    refine sv_aload_n C d_Mo_length_36 rfl rfl ?_
    refine sv_get (ci := 5) (kf := 9) C i_Mo rfl (by decide) f_Mo_26 (fun _ h9 => h9) d_Mo_length_37 (by first | assumption | rfl) rfl ?_
    refine sv_iload_n C d_Mo_length_40 rfl rfl ?_
    refine sv_if_eq (tgt := 48) C d_Mo_length_41 (by decide) (fun h2 => ?_) (fun h2 => ?_)
    · exact absurd (show b2i true = 0 from h2) (by decide)
    refine sv_iload_n C d_Mo_length_44 rfl rfl ?_
    refine sv_goto (tgt := 49) C d_Mo_length_45 (by decide) ?_
    refine sv_iald (t0 := 0) C rfl d_Mo_length_49 (by first | assumption | rfl) hin ?_
    refine sv_iconst (v := 5) C d_Mo_length_50 rfl ?_
    refine sv_eqs (st' := [.int (nI 5), .int (nI (kd f0)), .int (b2i false), .ref 23]) (by rw [hfc, j4]; rfl) ?_
    refine sv_icmp_eq (tgt := 58) C d_Mo_length_51 (by decide) (fun h5 => ?_) (fun h5 => ?_)
    · have h5 : kd f0 = 5 := nI_inj (by omega) (by omega) h5
      refine sv_iconst (v := 0) C d_Mo_length_58 rfl ?_
      refine sv_iconst (v := 0) C d_Mo_length_59 rfl ?_
      refine sv_eqs (st' := [.int (b2i false), .int (b2i false), .int (b2i false), .ref 23]) rfl ?_
      refine sv_callV (ci := 5) C (c_Mo_refuse (cI := cI) (cJ := cJ) (cZ := cZ) (L := L) (I := I) (V := V) (W := W) (J := J) (B := B) (tl := tl) (a := false) (b := false) (c := false)) s_Mo_54 ki_Mo_refuse ks_Mo_refuse ⟨rfl, rfl, Nat.le_of_ble_eq_true rfl, Nat.le_of_ble_eq_true rfl⟩ rfl d_Mo_length_60 (by first | assumption | rfl) (Nat.le_of_ble_eq_true rfl) ⟨(Nat.le_of_ble_eq_true rfl), (Nat.le_of_ble_eq_true rfl)⟩ (fun E ws9 h9 => absurd h9 id) (fun v9 ws9 hp => ?_)
      obtain ⟨rfl, rfl⟩ := hp
      refine sv_if_eq (tgt := 68) C d_Mo_length_63 (by decide) (fun h => ?_) (fun h => ?_)
      rotate_left
      · exact absurd rfl h
      refine sv_aload_n C d_Mo_length_68 rfl rfl ?_
      refine sv_iload_n C d_Mo_length_69 rfl rfl ?_
      refine sv_callV (ci := 5) C (c_Mo_measure (cI := cI) (cJ := cJ) (cZ := cZ) (L := L) (I := I) (V := V) (W := (hu W 0 (rfz false false false))) (J := J) (B := B) (tl := tl) (n := n) (r := r) (mk := mk) (rl := rl) (kd := kd) (xs := xs) (ys := ys) (mo_W0 hok) (f := f0) hf0 h5) s_Mo_107 ki_Mo_measure ks_Mo_measure ⟨rfl, rfl, Nat.le_of_ble_eq_true rfl, Nat.le_of_ble_eq_true rfl⟩ rfl d_Mo_length_70 (by first | assumption | rfl) (Nat.le_of_ble_eq_true rfl) ⟨(Nat.le_of_ble_eq_true rfl), (Nat.le_of_ble_eq_true rfl)⟩ (fun E ws9 h9 => absurd h9 id) (fun v9 ws9 hp => ?_)
      obtain ⟨rfl, W1, J1, B1, rfl, hW0, hok1, hfr⟩ := hp
      have hW0 : W1 0 = 0 := hW0
      have hfs := hfr s0 hs0
      refine sv_aload_n C d_Mo_length_73 rfl rfl ?_
      refine sv_get (ci := 5) (kf := 15) C i_Mo rfl (by decide) f_Mo_45 (fun _ h9 => h9) d_Mo_length_74 (by first | assumption | rfl) rfl ?_
      refine sv_iload_n C d_Mo_length_77 rfl rfl ?_
      refine sv_iald (t0 := 0) C rfl d_Mo_length_78 (by first | assumption | rfl) hsin ?_
      refine sv_sipush (v := 1000) C d_Mo_length_79 rfl ?_
      refine sv_eqs (st' := [.int (nI 1000), .int (J1 7 s0)]) (by rw [hsc]; rfl) ?_
      refine sv_icmp_ne (tgt := 89) C d_Mo_length_82 (by decide) (fun h6 => ?_) (fun h6 => ?_)
      · obtain ⟨m, e1, e2, e3⟩ := fr_1 hfs h6
        refine sv_aload_n C d_Mo_length_89 rfl rfl ?_
        refine sv_get (ci := 5) (kf := 15) C i_Mo rfl (by decide) f_Mo_45 (fun _ h9 => h9) d_Mo_length_90 (by first | assumption | rfl) rfl ?_
        refine sv_iload_n C d_Mo_length_93 rfl rfl ?_
        refine sv_iald (t0 := 0) C rfl d_Mo_length_94 (by first | assumption | rfl) hsin ?_
        refine sv_eqs (st' := [.int (nI m)]) (by rw [hsc, e1]) ?_
        exact sv_iret C rfl rfl d_Mo_length_95 (Nat.le_of_ble_eq_true rfl) (Nat.le_of_ble_eq_true rfl) (fun _ _ => rfl) (⟨_, rfl, W1, J1, B1, rfl, hok1, Or.inl ⟨hiF, hiS, h5, hW0, m, rfl, e3⟩⟩)
      · refine sv_iconst (v := 0) C d_Mo_length_85 rfl ?_
        refine sv_goto (tgt := 95) C d_Mo_length_86 (by decide) ?_
        exact sv_iret C rfl rfl d_Mo_length_95 (Nat.le_of_ble_eq_true rfl) (Nat.le_of_ble_eq_true rfl) (fun _ _ => rfl) (⟨_, rfl, W1, J1, B1, rfl, hok1, Or.inl ⟨hiF, hiS, h5, hW0, 0, rfl, fr_0 hfs h6⟩⟩)
    · have h5 : kd f0 ≠ 5 := fun q => h5 (by rw [q])
      refine sv_iconst (v := 1) C d_Mo_length_54 rfl ?_
      refine sv_goto (tgt := 59) C d_Mo_length_55 (by decide) ?_
      refine sv_iconst (v := 0) C d_Mo_length_59 rfl ?_
      refine sv_eqs (st' := [.int (b2i false), .int (b2i true), .int (b2i false), .ref 23]) rfl ?_
      refine sv_callV (ci := 5) C (c_Mo_refuse (cI := cI) (cJ := cJ) (cZ := cZ) (L := L) (I := I) (V := V) (W := W) (J := J) (B := B) (tl := tl) (a := false) (b := true) (c := false)) s_Mo_54 ki_Mo_refuse ks_Mo_refuse ⟨rfl, rfl, Nat.le_of_ble_eq_true rfl, Nat.le_of_ble_eq_true rfl⟩ rfl d_Mo_length_60 (by first | assumption | rfl) (Nat.le_of_ble_eq_true rfl) ⟨(Nat.le_of_ble_eq_true rfl), (Nat.le_of_ble_eq_true rfl)⟩ (fun E ws9 h9 => absurd h9 id) (fun v9 ws9 hp => ?_)
      obtain ⟨rfl, rfl⟩ := hp
      refine sv_if_eq (tgt := 68) C d_Mo_length_63 (by decide) (fun h => ?_) (fun h => ?_)
      · exact absurd h (by decide)
      · refine sv_iconst (v := 0) C d_Mo_length_66 rfl ?_
        exact sv_iret C rfl rfl d_Mo_length_67 (Nat.le_of_ble_eq_true rfl) (Nat.le_of_ble_eq_true rfl) (fun _ _ => rfl) (⟨_, rfl, _, _, _, rfl, mo_W0 hok, Or.inr (Or.inr ⟨hiF, hiS, h5, rfl⟩)⟩)
set_option maxRecDepth 100000 in
set_option maxHeartbeats 8000000 in
theorem c_Mo_witness {l : Launch} {D : va_G} {cI cJ cZ : ClassId} {L : Nat → Nat → Int64} {I : Nat → Nat → Int32} {V : Nat → Int32} {W : Nat → Int32} {J : Nat → Nat → Int32} {B : Nat → Nat → Bool} {tl : List va_E} {n r mk : Nat} {rl : Nat → Nat × Nat × Nat × Nat} {kd xs ys : Nat → Nat} (hok : mo_ok W J B n r mk rl kd xs ys) {f s k : Int32} :
    sv_M l y_Mo_witness [Cond.code y_Mo_witness b_Mo_witness 13 (some .int)] ({ frames := 7, cells := 0, slots := 0, locals := 168 } : Room) D sv_cl (sv_ty cI cJ cZ) [.ref 23, .int f, .int s, .int k] (hM cI cJ cZ L I V W J B tl) 0 0 (fun q ws' => ∃ x : Int32, q = some (.int x) ∧ ∃ (W' : Nat → Int32) (J' : Nat → Nat → Int32) (B' : Nat → Nat → Bool), ws' = hM cI cJ cZ L I V W' J' B' tl ∧ mo_ok W' J' B' n r mk rl kd xs ys ∧ ((iF mk f ∧ iS n s ∧ kd f.toNatClampNeg = 5 ∧ W' 0 = 0 ∧ ∃ m t, rlen (rs n r rl) (tF (rs n r rl) (2 ^ n) kd xs ys (xs f.toNatClampNeg)) (tF (rs n r rl) (2 ^ n) kd xs ys (ys f.toNatClampNeg)) s.toNatClampNeg m ∧ (0 ≤ k ∧ k < nI m) ∧ x = nI t ∧ wit (rs n r rl) (tF (rs n r rl) (2 ^ n) kd xs ys (xs f.toNatClampNeg)) (tF (rs n r rl) (2 ^ n) kd xs ys (ys f.toNatClampNeg)) s.toNatClampNeg k.toNatClampNeg t) ∨ (¬ (iF mk f ∧ iS n s) ∧ W' 0 = 1) ∨ (iF mk f ∧ iS n s ∧ kd f.toNatClampNeg ≠ 5 ∧ W' 0 = 2) ∨ (iF mk f ∧ iS n s ∧ kd f.toNatClampNeg = 5 ∧ W' 0 = 3 ∧ (k < 0 ∨ ∃ m, rlen (rs n r rl) (tF (rs n r rl) (2 ^ n) kd xs ys (xs f.toNatClampNeg)) (tF (rs n r rl) (2 ^ n) kd xs ys (ys f.toNatClampNeg)) s.toNatClampNeg m ∧ ¬ k < nI m)))) sv_no 0 0 := by
  refine sv_of (cc := b_Mo_witness) (by decide +kernel) (Nat.le_of_ble_eq_true rfl) ?_
  intro pX eX sX mX aX bX tX cX AX adX C htab hnm
  have hok' := hok
  obtain ⟨⟨⟨hn, hW1, hW2, hr40, hrl⟩, hJ⟩, hn1, ⟨hW3, hmk⟩, hfm, -⟩ := hok'
  have hp8 := pow_le8 hn
  refine sv_join (σ := Bool) (pc1 := 23) (st1 := []) (k1 := 0) (n1 := 0) (J := fun g => g = true ↔ (iF mk f ∧ iS n s)) (lv1 := fun g => [some (.ref 23), some (.int f), some (.int s), some (.int k), some (.int (b2i g)), none, none, none, none, none, none, none, none]) (ws1 := fun _ => hM cI cJ cZ L I V W J B tl) ?_ (fun nx => ?_)
  rotate_left
  · refine sv_aload_n C d_Mo_witness_0 rfl rfl ?_
    refine sv_iload_n C d_Mo_witness_1 rfl rfl ?_
    refine sv_callV (ci := 5) C (c_Mo_isFormula (cI := cI) (cJ := cJ) (cZ := cZ) (L := L) (I := I) (V := V) (W := W) (J := J) (B := B) (tl := tl) (mk := mk) (x := f) hW3) s_Mo_72 ki_Mo_isFormula ks_Mo_isFormula ⟨rfl, rfl, Nat.le_of_ble_eq_true rfl, Nat.le_of_ble_eq_true rfl⟩ rfl d_Mo_witness_2 (by first | assumption | rfl) (Nat.le_of_ble_eq_true rfl) ⟨(Nat.le_of_ble_eq_true rfl), (Nat.le_of_ble_eq_true rfl)⟩ (fun E ws9 h9 => absurd h9 id) (fun v9 ws9 hp => ?_)
    obtain ⟨t, rfl, ht, rfl⟩ := hp
    cases t with
    | false =>
      refine sv_if_eq (tgt := 20) C d_Mo_witness_5 (by decide) (fun h => ?_) (fun h => ?_)
      · refine sv_iconst (v := 0) C d_Mo_witness_20 rfl ?_
        refine sv_istore C d_Mo_witness_21 (by decide) rfl ?_
        exact nx false ⟨fun q => absurd q Bool.false_ne_true, fun q => absurd (ht.mpr q.1) Bool.false_ne_true⟩
      · exact absurd rfl h
    | true =>
      refine sv_if_eq (tgt := 20) C d_Mo_witness_5 (by decide) (fun h => ?_) (fun h => ?_)
      · exact absurd h (by decide)
      · refine sv_aload_n C d_Mo_witness_8 rfl rfl ?_
        refine sv_iload_n C d_Mo_witness_9 rfl rfl ?_
        refine sv_callV (ci := 5) C (c_Mo_isState (cI := cI) (cJ := cJ) (cZ := cZ) (L := L) (I := I) (V := V) (W := W) (J := J) (B := B) (tl := tl) (n := n) (x := s) hn hW1) s_Mo_64 ki_Mo_isState ks_Mo_isState ⟨rfl, rfl, Nat.le_of_ble_eq_true rfl, Nat.le_of_ble_eq_true rfl⟩ rfl d_Mo_witness_10 (by first | assumption | rfl) (Nat.le_of_ble_eq_true rfl) ⟨(Nat.le_of_ble_eq_true rfl), (Nat.le_of_ble_eq_true rfl)⟩ (fun E ws9 h9 => absurd h9 id) (fun v9 ws9 hp => ?_)
        obtain ⟨t, rfl, ht2, rfl⟩ := hp
        cases t with
        | false =>
          refine sv_if_eq (tgt := 20) C d_Mo_witness_13 (by decide) (fun h => ?_) (fun h => ?_)
          · refine sv_iconst (v := 0) C d_Mo_witness_20 rfl ?_
            refine sv_istore C d_Mo_witness_21 (by decide) rfl ?_
            exact nx false ⟨fun q => absurd q Bool.false_ne_true, fun q => absurd (ht2.mpr q.2) Bool.false_ne_true⟩
          · exact absurd rfl h
        | true =>
          refine sv_if_eq (tgt := 20) C d_Mo_witness_13 (by decide) (fun h => ?_) (fun h => ?_)
          · exact absurd h (by decide)
          · refine sv_iconst (v := 1) C d_Mo_witness_16 rfl ?_
            refine sv_goto (tgt := 21) C d_Mo_witness_17 (by decide) ?_
            refine sv_istore C d_Mo_witness_21 (by decide) rfl ?_
            exact nx true ⟨fun _ => ⟨ht.mp rfl, ht2.mp rfl⟩, fun _ => rfl⟩
  rintro g hg
  cases g with
  | false =>
    have hno : ¬ (iF mk f ∧ iS n s) := fun q => absurd (hg.mpr q) Bool.false_ne_true
    refine sv_iload C d_Mo_witness_23 rfl ?_
    refine sv_if_eq (tgt := 51) C d_Mo_witness_25 (by decide) (fun h => ?_) (fun h => ?_)
    rotate_left
    · exact absurd rfl h
    refine sv_iconst (v := 0) C d_Mo_witness_51 rfl ?_
    refine sv_istore C d_Mo_witness_52 (by decide) rfl ?_
    refine sv_iload C d_Mo_witness_54 rfl ?_
    refine sv_if_eq (tgt := 64) C d_Mo_witness_56 (by decide) (fun h => ?_) (fun h => ?_)
    rotate_left
    · exact absurd rfl h
    refine sv_iload C d_Mo_witness_64 rfl ?_
    refine sv_if_eq (tgt := 99) C d_Mo_witness_66 (by decide) (fun h => ?_) (fun h => ?_)
    rotate_left
    · exact absurd rfl h
    refine sv_iconst (v := 0) C d_Mo_witness_99 rfl ?_
    refine sv_istore C d_Mo_witness_100 (by decide) rfl ?_
    refine sv_aload_n C d_Mo_witness_102 rfl rfl ?_
    refine sv_iload C d_Mo_witness_103 rfl ?_
    refine sv_if_ne (tgt := 112) C d_Mo_witness_105 (by decide) (fun h => ?_) (fun h => ?_)
    · exact absurd rfl h
    refine sv_iconst (v := 1) C d_Mo_witness_108 rfl ?_
    refine sv_goto (tgt := 113) C d_Mo_witness_109 (by decide) ?_
    refine sv_iload C d_Mo_witness_113 rfl ?_
    refine sv_if_eq (tgt := 127) C d_Mo_witness_115 (by decide) (fun h => ?_) (fun h => ?_)
    rotate_left
    · exact absurd rfl h
    refine sv_iconst (v := 0) C d_Mo_witness_127 rfl ?_
    refine sv_iload C d_Mo_witness_128 rfl ?_
    refine sv_if_eq (tgt := 147) C d_Mo_witness_130 (by decide) (fun h => ?_) (fun h => ?_)
    rotate_left
    · exact absurd rfl h
    refine sv_iconst (v := 0) C d_Mo_witness_147 rfl ?_
    refine sv_eqs (st' := [.int (b2i false), .int (b2i false), .int (b2i true), .ref 23]) rfl ?_
    refine sv_callV (ci := 5) C (c_Mo_refuse (cI := cI) (cJ := cJ) (cZ := cZ) (L := L) (I := I) (V := V) (W := W) (J := J) (B := B) (tl := tl) (a := true) (b := false) (c := false)) s_Mo_54 ki_Mo_refuse ks_Mo_refuse ⟨rfl, rfl, Nat.le_of_ble_eq_true rfl, Nat.le_of_ble_eq_true rfl⟩ rfl d_Mo_witness_148 (by first | assumption | rfl) (Nat.le_of_ble_eq_true rfl) ⟨(Nat.le_of_ble_eq_true rfl), (Nat.le_of_ble_eq_true rfl)⟩ (fun E ws9 h9 => absurd h9 id) (fun v9 ws9 hp => ?_)
    obtain ⟨rfl, rfl⟩ := hp
    refine sv_if_eq (tgt := 156) C d_Mo_witness_151 (by decide) (fun h => ?_) (fun h => ?_)
    · exact absurd h (by decide)
    · refine sv_iconst (v := 0) C d_Mo_witness_154 rfl ?_
      exact sv_iret C rfl rfl d_Mo_witness_155 (Nat.le_of_ble_eq_true rfl) (Nat.le_of_ble_eq_true rfl) (fun _ _ => rfl) (⟨_, rfl, _, _, _, rfl, mo_W0 hok, Or.inr (Or.inl ⟨hno, rfl⟩)⟩)
  | true =>
    obtain ⟨hiF, hiS⟩ := hg.mp rfl
    obtain ⟨f0, hf0, rfl⟩ := iF_nat hmk hiF
    obtain ⟨s0, hs0, rfl⟩ := iS_nat hn hiS
    have hfc : (nI f0).toNatClampNeg = f0 := nI_clamp (by omega)
    have hsc : (nI s0).toNatClampNeg = s0 := nI_clamp (by omega)
    obtain ⟨j4, j5, j6, q7, q0, q1, q6⟩ := hfm f0 hf0
    have hin : vp_in (nI f0) 60 := vp_in_nI (by omega) (by omega)
    have hsin : vp_in (nI s0) 256 := vp_in_nI (by omega) (by omega)
    rw [hfc, hsc]
    refine sv_iload C d_Mo_witness_23 rfl ?_
    refine sv_if_eq (tgt := 51) C d_Mo_witness_25 (by decide) (fun h => ?_) (fun h => ?_)
    · exact absurd (show b2i true = 0 from h) (by decide)
    refine sv_aload_n C d_Mo_witness_28 rfl rfl ?_
    refine sv_get (ci := 5) (kf := 9) C i_Mo rfl (by decide) f_Mo_26 (fun _ h9 => h9) d_Mo_witness_29 (by first | assumption | rfl) rfl ?_
    refine sv_iload C d_Mo_witness_32 rfl ?_
    refine sv_if_eq (tgt := 41) C d_Mo_witness_34 (by decide) (fun h2 => ?_) (fun h2 => ?_)
    · exact absurd (show b2i true = 0 from h2) (by decide)
    refine sv_iload_n C d_Mo_witness_37 rfl rfl ?_
    refine sv_goto (tgt := 42) C d_Mo_witness_38 (by decide) ?_
    refine sv_iald (t0 := 0) C rfl d_Mo_witness_42 (by first | assumption | rfl) hin ?_
    refine sv_iconst (v := 5) C d_Mo_witness_43 rfl ?_
    refine sv_eqs (st' := [.int (nI 5), .int (nI (kd f0))]) (by rw [hfc, j4]; rfl) ?_
    refine sv_icmp_ne (tgt := 51) C d_Mo_witness_44 (by decide) (fun h5 => ?_) (fun h5 => ?_)
    · have h5 : kd f0 ≠ 5 := fun q => h5 (by rw [q])
      refine sv_iconst (v := 0) C d_Mo_witness_51 rfl ?_
      refine sv_istore C d_Mo_witness_52 (by decide) rfl ?_
      refine sv_iload C d_Mo_witness_54 rfl ?_
      refine sv_if_eq (tgt := 64) C d_Mo_witness_56 (by decide) (fun h => ?_) (fun h => ?_)
      rotate_left
      · exact absurd rfl h
      refine sv_iload C d_Mo_witness_64 rfl ?_
      refine sv_if_eq (tgt := 99) C d_Mo_witness_66 (by decide) (fun h => ?_) (fun h => ?_)
      rotate_left
      · exact absurd rfl h
      refine sv_iconst (v := 0) C d_Mo_witness_99 rfl ?_
      refine sv_istore C d_Mo_witness_100 (by decide) rfl ?_
      refine sv_aload_n C d_Mo_witness_102 rfl rfl ?_
      refine sv_iload C d_Mo_witness_103 rfl ?_
      refine sv_if_ne (tgt := 112) C d_Mo_witness_105 (by decide) (fun h => ?_) (fun h => ?_)
      rotate_left
      · exact absurd (show b2i true = 0 from h) (by decide)
      refine sv_iconst (v := 0) C d_Mo_witness_112 rfl ?_
      refine sv_iload C d_Mo_witness_113 rfl ?_
      refine sv_if_eq (tgt := 127) C d_Mo_witness_115 (by decide) (fun h => ?_) (fun h => ?_)
      · exact absurd (show b2i true = 0 from h) (by decide)
      refine sv_iload C d_Mo_witness_118 rfl ?_
      refine sv_if_ne (tgt := 127) C d_Mo_witness_120 (by decide) (fun h => ?_) (fun h => ?_)
      · exact absurd rfl h
      refine sv_iconst (v := 1) C d_Mo_witness_123 rfl ?_
      refine sv_goto (tgt := 128) C d_Mo_witness_124 (by decide) ?_
      refine sv_iload C d_Mo_witness_128 rfl ?_
      refine sv_if_eq (tgt := 147) C d_Mo_witness_130 (by decide) (fun h => ?_) (fun h => ?_)
      rotate_left
      · exact absurd rfl h
      refine sv_iconst (v := 0) C d_Mo_witness_147 rfl ?_
      refine sv_eqs (st' := [.int (b2i false), .int (b2i true), .int (b2i false), .ref 23]) rfl ?_
      refine sv_callV (ci := 5) C (c_Mo_refuse (cI := cI) (cJ := cJ) (cZ := cZ) (L := L) (I := I) (V := V) (W := W) (J := J) (B := B) (tl := tl) (a := false) (b := true) (c := false)) s_Mo_54 ki_Mo_refuse ks_Mo_refuse ⟨rfl, rfl, Nat.le_of_ble_eq_true rfl, Nat.le_of_ble_eq_true rfl⟩ rfl d_Mo_witness_148 (by first | assumption | rfl) (Nat.le_of_ble_eq_true rfl) ⟨(Nat.le_of_ble_eq_true rfl), (Nat.le_of_ble_eq_true rfl)⟩ (fun E ws9 h9 => absurd h9 id) (fun v9 ws9 hp => ?_)
      obtain ⟨rfl, rfl⟩ := hp
      refine sv_if_eq (tgt := 156) C d_Mo_witness_151 (by decide) (fun h => ?_) (fun h => ?_)
      · exact absurd h (by decide)
      · refine sv_iconst (v := 0) C d_Mo_witness_154 rfl ?_
        exact sv_iret C rfl rfl d_Mo_witness_155 (Nat.le_of_ble_eq_true rfl) (Nat.le_of_ble_eq_true rfl) (fun _ _ => rfl) (⟨_, rfl, _, _, _, rfl, mo_W0 hok, Or.inr (Or.inr (Or.inl ⟨hiF, hiS, h5, rfl⟩))⟩)
    have h5 : kd f0 = 5 := nI_inj (by omega) (by omega) h5
    refine sv_iconst (v := 1) C d_Mo_witness_47 rfl ?_
    refine sv_goto (tgt := 52) C d_Mo_witness_48 (by decide) ?_
    refine sv_istore C d_Mo_witness_52 (by decide) rfl ?_
    refine sv_iload C d_Mo_witness_54 rfl ?_
    refine sv_if_eq (tgt := 64) C d_Mo_witness_56 (by decide) (fun h => ?_) (fun h => ?_)
    · exact absurd h (by decide)
    refine sv_aload_n C d_Mo_witness_59 rfl rfl ?_
    refine sv_iload_n C d_Mo_witness_60 rfl rfl ?_
    refine sv_callV (ci := 5) C (c_Mo_measure (cI := cI) (cJ := cJ) (cZ := cZ) (L := L) (I := I) (V := V) (W := W) (J := J) (B := B) (tl := tl) (n := n) (r := r) (mk := mk) (rl := rl) (kd := kd) (xs := xs) (ys := ys) hok (f := f0) hf0 h5) s_Mo_107 ki_Mo_measure ks_Mo_measure ⟨rfl, rfl, Nat.le_of_ble_eq_true rfl, Nat.le_of_ble_eq_true rfl⟩ rfl d_Mo_witness_61 (by first | assumption | rfl) (Nat.le_of_ble_eq_true rfl) ⟨(Nat.le_of_ble_eq_true rfl), (Nat.le_of_ble_eq_true rfl)⟩ (fun E ws9 h9 => absurd h9 id) (fun v9 ws9 hp => ?_)
    obtain ⟨rfl, W1, J1, B1, rfl, hW0, hok1, hfr⟩ := hp
    have hW12 : W1 2 = nI r := hok1.1.1.2.2.1
    have hfs := hfr s0 hs0
    refine sv_join (σ := Nat) (pc1 := 102) (st1 := []) (k1 := 0) (n1 := 0) (J := fun m => rlen (rs n r rl) (tF (rs n r rl) (2 ^ n) kd xs ys (xs f0)) (tF (rs n r rl) (2 ^ n) kd xs ys (ys f0)) s0 m ∧ m < 1000) (lv1 := fun m => [some (.ref 23), some (.int (nI f0)), some (.int (nI s0)), some (.int k), some (.int (b2i true)), some (.int (b2i true)), some (.int (nI m)), none, none, none, none, none, none]) (ws1 := fun _ => hM cI cJ cZ L I V W1 J1 B1 tl) ?_ (fun nx => ?_)
    rotate_left
    · refine sv_iload C d_Mo_witness_64 rfl ?_
      refine sv_if_eq (tgt := 99) C d_Mo_witness_66 (by decide) (fun h => ?_) (fun h => ?_)
      · exact absurd h (by decide)
      refine sv_aload_n C d_Mo_witness_69 rfl rfl ?_
      refine sv_get (ci := 5) (kf := 15) C i_Mo rfl (by decide) f_Mo_45 (fun _ h9 => h9) d_Mo_witness_70 (by first | assumption | rfl) rfl ?_
      refine sv_iload C d_Mo_witness_73 rfl ?_
      refine sv_if_eq (tgt := 82) C d_Mo_witness_75 (by decide) (fun h => ?_) (fun h => ?_)
      · exact absurd h (by decide)
      refine sv_iload_n C d_Mo_witness_78 rfl rfl ?_
      refine sv_goto (tgt := 83) C d_Mo_witness_79 (by decide) ?_
      refine sv_iald (t0 := 0) C rfl d_Mo_witness_83 (by first | assumption | rfl) hsin ?_
      refine sv_sipush (v := 1000) C d_Mo_witness_84 rfl ?_
      refine sv_eqs (st' := [.int (nI 1000), .int (J1 7 s0)]) (by rw [hsc]; rfl) ?_
      by_cases h6 : J1 7 s0 = nI 1000
      · refine sv_icmp_ge (tgt := 99) C d_Mo_witness_87 (by decide) (fun h7 => ?_) (fun h7 => ?_)
        · refine sv_iconst (v := 0) C d_Mo_witness_99 rfl ?_
          refine sv_istore C d_Mo_witness_100 (by decide) rfl ?_
          exact nx 0 ⟨fr_0 hfs h6, by omega⟩
        · exact absurd (by rw [h6]; exact Int32.le_refl _) h7
      · obtain ⟨m, e1, e2, e3⟩ := fr_1 hfs h6
        refine sv_icmp_ge (tgt := 99) C d_Mo_witness_87 (by decide) (fun h7 => ?_) (fun h7 => ?_)
        · rw [e1] at h7
          have := (nI_leI (a := 1000) (b := m) (by omega) (by omega)).mp h7
          omega
        · refine sv_aload_n C d_Mo_witness_90 rfl rfl ?_
          refine sv_get (ci := 5) (kf := 15) C i_Mo rfl (by decide) f_Mo_45 (fun _ h9 => h9) d_Mo_witness_91 (by first | assumption | rfl) rfl ?_
          refine sv_iload_n C d_Mo_witness_94 rfl rfl ?_
          refine sv_iald (t0 := 0) C rfl d_Mo_witness_95 (by first | assumption | rfl) hsin ?_
          refine sv_goto (tgt := 100) C d_Mo_witness_96 (by decide) ?_
          refine sv_eqs (st' := [.int (nI m)]) (by rw [hsc, e1]) ?_
          refine sv_istore C d_Mo_witness_100 (by decide) rfl ?_
          exact nx m ⟨e3, e2⟩
    rintro m ⟨hm, hm1⟩
    refine sv_aload_n C d_Mo_witness_102 rfl rfl ?_
    refine sv_iload C d_Mo_witness_103 rfl ?_
    refine sv_if_ne (tgt := 112) C d_Mo_witness_105 (by decide) (fun h => ?_) (fun h => ?_)
    rotate_left
    · exact absurd (show b2i true = 0 from h) (by decide)
    refine sv_iconst (v := 0) C d_Mo_witness_112 rfl ?_
    refine sv_iload C d_Mo_witness_113 rfl ?_
    refine sv_if_eq (tgt := 127) C d_Mo_witness_115 (by decide) (fun h => ?_) (fun h => ?_)
    · exact absurd (show b2i true = 0 from h) (by decide)
    refine sv_iload C d_Mo_witness_118 rfl ?_
    refine sv_if_ne (tgt := 127) C d_Mo_witness_120 (by decide) (fun h => ?_) (fun h => ?_)
    rotate_left
    · exact absurd (show b2i true = 0 from h) (by decide)
    refine sv_iconst (v := 0) C d_Mo_witness_127 rfl ?_
    refine sv_iload C d_Mo_witness_128 rfl ?_
    refine sv_if_eq (tgt := 147) C d_Mo_witness_130 (by decide) (fun h => ?_) (fun h => ?_)
    · exact absurd (show b2i true = 0 from h) (by decide)
    refine sv_iload_n C d_Mo_witness_133 rfl rfl ?_
    refine sv_join (σ := Unit) (pc1 := 143) (st1 := [.int 0, .int 0, .ref 23]) (k1 := 0) (n1 := 0) (J := fun _ => k < 0 ∨ ¬ k < nI m) (lv1 := fun _ => [some (.ref 23), some (.int (nI f0)), some (.int (nI s0)), some (.int k), some (.int (b2i true)), some (.int (b2i true)), some (.int (nI m)), none, none, none, none, none, none]) (ws1 := fun _ => hM cI cJ cZ L I V W1 J1 B1 tl) (fun _ hno => ?_) (fun nx => ?_)
    · refine sv_iconst (v := 1) C d_Mo_witness_143 rfl ?_
      refine sv_goto (tgt := 148) C d_Mo_witness_144 (by decide) ?_
      refine sv_eqs (st' := [.int (b2i true), .int (b2i false), .int (b2i false), .ref 23]) rfl ?_
      refine sv_callV (ci := 5) C (c_Mo_refuse (cI := cI) (cJ := cJ) (cZ := cZ) (L := L) (I := I) (V := V) (W := W1) (J := J1) (B := B1) (tl := tl) (a := false) (b := false) (c := true)) s_Mo_54 ki_Mo_refuse ks_Mo_refuse ⟨rfl, rfl, Nat.le_of_ble_eq_true rfl, Nat.le_of_ble_eq_true rfl⟩ rfl d_Mo_witness_148 (by first | assumption | rfl) (Nat.le_of_ble_eq_true rfl) ⟨(Nat.le_of_ble_eq_true rfl), (Nat.le_of_ble_eq_true rfl)⟩ (fun E ws9 h9 => absurd h9 id) (fun v9 ws9 hp => ?_)
      obtain ⟨rfl, rfl⟩ := hp
      refine sv_if_eq (tgt := 156) C d_Mo_witness_151 (by decide) (fun h => ?_) (fun h => ?_)
      · exact absurd h (by decide)
      · refine sv_iconst (v := 0) C d_Mo_witness_154 rfl ?_
        refine sv_iret C rfl rfl d_Mo_witness_155 (Nat.le_of_ble_eq_true rfl) (Nat.le_of_ble_eq_true rfl) (fun _ _ => rfl) (⟨_, rfl, _, _, _, rfl, mo_W0 hok1, Or.inr (Or.inr (Or.inr ⟨hiF, hiS, h5, rfl, ?_⟩))⟩)
        rcases hno with q | q
        · exact Or.inl q
        · exact Or.inr ⟨m, hm, q⟩
    refine sv_if_lt (tgt := 143) C d_Mo_witness_134 (by decide) (fun h8 => ?_) (fun h8 => ?_)
    · exact nx () (Or.inl h8)
    refine sv_iload_n C d_Mo_witness_137 rfl rfl ?_
    refine sv_iload C d_Mo_witness_138 rfl ?_
    refine sv_icmp_lt (tgt := 147) C d_Mo_witness_140 (by decide) (fun h9 => ?_) (fun h9 => ?_)
    rotate_left
    · exact nx () (Or.inr h9)
    clear nx
    obtain ⟨k0, hk0, rfl⟩ := nI_of h8
    have hkc : (nI k0).toNatClampNeg = k0 := nI_clamp hk0
    have hkm : k0 < m := (nI_ltI (a := k0) (b := m) hk0 (by omega)).mp h9
    obtain ⟨d, hd, rfl, hmin⟩ : ∃ d, d < 256 ∧ m = d + 1 ∧ umin (rs n r rl) (tF (rs n r rl) (2 ^ n) kd xs ys (xs f0)) (tF (rs n r rl) (2 ^ n) kd xs ys (ys f0)) d s0 := by
      rcases hm with q | ⟨q, -⟩
      · exact q
      · omega
    refine sv_iconst (v := 0) C d_Mo_witness_147 rfl ?_
    refine sv_eqs (st' := [.int (b2i false), .int (b2i false), .int (b2i false), .ref 23]) rfl ?_
    refine sv_callV (ci := 5) C (c_Mo_refuse (cI := cI) (cJ := cJ) (cZ := cZ) (L := L) (I := I) (V := V) (W := W1) (J := J1) (B := B1) (tl := tl) (a := false) (b := false) (c := false)) s_Mo_54 ki_Mo_refuse ks_Mo_refuse ⟨rfl, rfl, Nat.le_of_ble_eq_true rfl, Nat.le_of_ble_eq_true rfl⟩ rfl d_Mo_witness_148 (by first | assumption | rfl) (Nat.le_of_ble_eq_true rfl) ⟨(Nat.le_of_ble_eq_true rfl), (Nat.le_of_ble_eq_true rfl)⟩ (fun E ws9 h9 => absurd h9 id) (fun v9 ws9 hp => ?_)
    obtain ⟨rfl, rfl⟩ := hp
    refine sv_if_eq (tgt := 156) C d_Mo_witness_151 (by decide) (fun h => ?_) (fun h => ?_)
    rotate_left
    · exact absurd rfl h
    have hok2 : mo_ok (hu W1 0 0) J1 B1 n r mk rl kd xs ys := mo_W0 hok1
    refine sv_eqw (ws' := hM cI cJ cZ L I V (hu W1 0 0) J1 B1 tl) rfl ?_
    refine sv_iload_n C d_Mo_witness_156 rfl rfl ?_
    refine sv_istore C d_Mo_witness_157 (by decide) rfl ?_
    refine sv_iconst (v := 0) C d_Mo_witness_159 rfl ?_
    refine sv_istore C d_Mo_witness_160 (by decide) rfl ?_
    refine sv_ind (σ := Nat × Nat) (I := fun q => q.1 ≤ k0 ∧ q.2 < 2 ^ n ∧ wit (rs n r rl) (tF (rs n r rl) (2 ^ n) kd xs ys (xs f0)) (tF (rs n r rl) (2 ^ n) kd xs ys (ys f0)) s0 q.1 q.2 ∧ umin (rs n r rl) (tF (rs n r rl) (2 ^ n) kd xs ys (xs f0)) (tF (rs n r rl) (2 ^ n) kd xs ys (ys f0)) (d - q.1) q.2) (μ := fun q => k0 - q.1)
      (lv := fun q => [some (.ref 23), some (.int (nI f0)), some (.int (nI s0)), some (.int (nI k0)), some (.int (b2i true)), some (.int (b2i true)), some (.int (nI (d + 1))), some (.int (nI q.2)), some (.int (nI q.1)), none, none, none, none]) (ws := fun _ => hM cI cJ cZ L I V (hu W1 0 0) J1 B1 tl) ?_ (0, s0) ⟨Nat.zero_le _, hs0, rfl, hmin⟩
    rintro ⟨i, a⟩ ⟨hi, ha, hwi, hmi⟩ ih
    dsimp only at hi ha hwi hmi ih
    refine sv_iload C d_Mo_witness_162 rfl ?_
    refine sv_iload_n C d_Mo_witness_164 rfl rfl ?_
    refine sv_icmp_ge (tgt := 266) C d_Mo_witness_165 (by decide) (fun h1 => ?_) (fun h1 => ?_)
    · have h1 : k0 ≤ i := (nI_leI (a := k0) (b := i) (by omega) (by omega)).mp h1
      have h3 : i = k0 := by omega
      subst h3
      refine sv_iload C d_Mo_witness_266 rfl ?_
      exact sv_iret C rfl rfl d_Mo_witness_268 (Nat.le_of_ble_eq_true rfl) (Nat.le_of_ble_eq_true rfl) (fun _ _ => rfl) (⟨_, rfl, _, _, _, rfl, hok2, Or.inl ⟨hiF, hiS, h5, rfl, d + 1, a, Or.inl ⟨d, hd, rfl, hmin⟩, ⟨nI_pos' hk0, h9⟩, rfl, by rw [hkc]; exact hwi⟩⟩)
    have h1 : ¬ k0 ≤ i := fun h => h1 ((nI_leI (a := k0) (b := i) (by omega) (by omega)).mpr h)
    obtain ⟨e, he⟩ : ∃ e, d - i = e + 1 := ⟨d - i - 1, by omega⟩
    rw [he] at hmi
    have hain : vp_in (nI a) 256 := vp_in_nI (by omega) (by omega)
    have hac : (nI a).toNatClampNeg = a := nI_clamp (by omega)
    have hfa : J1 7 a = nI (e + 2) := (fr_t (by omega) (by omega) (hfr a ha)).mpr hmi
    refine sv_iconst (v := (-1)) C d_Mo_witness_168 rfl ?_
    refine sv_istore C d_Mo_witness_169 (by decide) rfl ?_
    refine sv_iconst (v := 0) C d_Mo_witness_171 rfl ?_
    refine sv_istore C d_Mo_witness_172 (by decide) rfl ?_
    refine sv_ind (σ := Nat × Int32) (I := fun q => q.1 ≤ r ∧ nxt (fun j w => a &&& (rl j).1 = (rl j).2.1 ∧ w = (a &&& (rl j).2.2.1) ^^^ (rl j).2.2.2) (umin (rs n r rl) (tF (rs n r rl) (2 ^ n) kd xs ys (xs f0)) (tF (rs n r rl) (2 ^ n) kd xs ys (ys f0)) e) q.1 q.2) (μ := fun q => r - q.1)
      (lv := fun q => [some (.ref 23), some (.int (nI f0)), some (.int (nI s0)), some (.int (nI k0)), some (.int (b2i true)), some (.int (b2i true)), some (.int (nI (d + 1))), some (.int (nI a)), some (.int (nI i)), some (.int q.2), some (.int (nI q.1)), none, none]) (ws := fun _ => hM cI cJ cZ L I V (hu W1 0 0) J1 B1 tl) ?_ (0, -1) ⟨Nat.zero_le _, Or.inl ⟨rfl, fun j hj => absurd hj (Nat.not_lt_zero j)⟩⟩
    rintro ⟨j, x⟩ ⟨hj, hx⟩ ih2
    dsimp only at hj hx ih2
    refine sv_iload C d_Mo_witness_174 rfl ?_
    refine sv_aload_n C d_Mo_witness_176 rfl rfl ?_
    refine sv_get (ci := 5) (kf := 2) C i_Mo rfl (by decide) f_Mo_58 (fun _ h9 => h9) d_Mo_witness_177 (by first | assumption | rfl) rfl ?_
    refine sv_eqs (st' := [.int (nI r), .int (nI j)]) (by rw [← hW12]; rfl) ?_
    refine sv_icmp_ge (tgt := 256) C d_Mo_witness_180 (by decide) (fun h4 => ?_) (fun h4 => ?_)
    · have h4 : r ≤ j := (nI_leI (a := r) (b := j) (by omega) (by omega)).mp h4
      have h6 : j = r := by omega
      subst h6
      obtain ⟨w0, hw1, hw2⟩ := umin_step hmi
      obtain ⟨-, i1, hi1, e1, e2⟩ := hw1
      rcases hx with ⟨-, hx⟩ | ⟨w, h10, rfl, h11, ⟨j1, h12, h13, h14⟩, h15⟩
      · exact absurd hw2 (hx i1 hi1 w0 ⟨e1, e2⟩)
      · have hst : rs n j rl a w := ⟨ha, j1, h12, h13, h14⟩
        refine sv_iload C d_Mo_witness_256 rfl ?_
        refine sv_istore C d_Mo_witness_258 (by decide) rfl ?_
        refine sv_iincN C d_Mo_witness_260 rfl (by decide) rfl ?_
        refine sv_goto (tgt := 162) C d_Mo_witness_263 (by decide) ?_
        refine sv_drop [true, true, true, true, true, true, true, true, true, false, false, false, false] ?_
        refine ih (i + 1, w) ⟨by dsimp only; omega, rs_lt hrl hst, ⟨a, hwi, e, hmi, hst, h11, ?_⟩, by dsimp only; rw [show d - (i + 1) = e by omega]; exact h11⟩ (by dsimp only; omega)
        rintro t' ht' ⟨-, j2, h16, h17, h18⟩ h19
        have := h15 j2 h16 t' ⟨h17, h18⟩ h19
        omega
    have h4 : ¬ r ≤ j := fun h => h4 ((nI_leI (a := r) (b := j) (by omega) (by omega)).mpr h)
    refine sv_aload_n C d_Mo_witness_183 rfl rfl ?_
    refine sv_iload C d_Mo_witness_184 rfl ?_
    refine sv_iload C d_Mo_witness_186 rfl ?_
    refine sv_callV (ci := 5) C (c_Mo_goes (cI := cI) (cJ := cJ) (cZ := cZ) (L := L) (I := I) (V := V) (W := (hu W1 0 0)) (J := J1) (B := B1) (tl := tl) (n := n) (r := r) (s := a) (i := j) (rl := rl) hok2.1 ha (by omega)) s_Mo_75 ki_Mo_goes ks_Mo_goes ⟨rfl, rfl, Nat.le_of_ble_eq_true rfl, Nat.le_of_ble_eq_true rfl⟩ rfl d_Mo_witness_188 (by first | assumption | rfl) (Nat.le_of_ble_eq_true rfl) ⟨(Nat.le_of_ble_eq_true rfl), (Nat.le_of_ble_eq_true rfl)⟩ (fun E ws9 h9 => absurd h9 id) (fun v9 ws9 hp => ?_)
    obtain ⟨hg, rfl⟩ := hp
    have hbi := hrl j (by omega)
    rcases hg with ⟨g1, rfl⟩ | ⟨g1, rfl⟩
    · have hto := ma_to (k := (rl j).2.2.1) ha hbi.2.2.2
      generalize hto2 : (a &&& (rl j).2.2.1) ^^^ (rl j).2.2.2 = to at hto ⊢
      have htin : vp_in (nI to) 256 := vp_in_nI (by omega) (by omega)
      have hu2 : ∀ w, (a &&& (rl j).1 = (rl j).2.1 ∧ w = (a &&& (rl j).2.2.1) ^^^ (rl j).2.2.2) → w = to := fun w q => q.2.trans hto2
      refine sv_istore C d_Mo_witness_191 (by decide) rfl ?_
      refine sv_iload C d_Mo_witness_193 rfl ?_
      refine sv_if_lt (tgt := 221) C d_Mo_witness_195 (by decide) (fun h7 => ?_) (fun h7 => ?_)
      · exact absurd h7 (nI_nneg (by omega))
      refine sv_aload_n C d_Mo_witness_198 rfl rfl ?_
      refine sv_get (ci := 5) (kf := 15) C i_Mo rfl (by decide) f_Mo_45 (fun _ h9 => h9) d_Mo_witness_199 (by first | assumption | rfl) rfl ?_
      refine sv_iload C d_Mo_witness_202 rfl ?_
      refine sv_iald (t0 := 0) C rfl d_Mo_witness_204 (by first | assumption | rfl) htin ?_
      refine sv_eqs (st' := [.int (J1 7 to)]) (by rw [nI_clamp (n := to) (by omega)]; rfl) ?_
      refine sv_aload_n C d_Mo_witness_205 rfl rfl ?_
      refine sv_get (ci := 5) (kf := 15) C i_Mo rfl (by decide) f_Mo_45 (fun _ h9 => h9) d_Mo_witness_206 (by first | assumption | rfl) rfl ?_
      refine sv_iload C d_Mo_witness_209 rfl ?_
      refine sv_iald (t0 := 0) C rfl d_Mo_witness_211 (by first | assumption | rfl) hain ?_
      refine sv_iconst (v := 1) C d_Mo_witness_212 rfl ?_
      refine sv_isub C d_Mo_witness_213 ?_
      refine sv_eqs (st' := [.int (nI (e + 1)), .int (J1 7 to)]) (by rw [hac, hfa, nI_p1]) ?_
      have hD := fr_t (t := e + 1) (by omega) (by omega) (hfr to hto)
      refine sv_icmp_ne (tgt := 221) C d_Mo_witness_214 (by decide) (fun h10 => ?_) (fun h10 => ?_)
      · refine sv_iconst (v := 0) C d_Mo_witness_221 rfl ?_
        refine sv_istore C d_Mo_witness_222 (by decide) rfl ?_
        refine sv_iload C d_Mo_witness_224 rfl ?_
        refine sv_if_eq (tgt := 246) C d_Mo_witness_226 (by decide) (fun h11 => ?_) (fun h11 => ?_)
        rotate_left
        · exact absurd rfl h11
        refine sv_iload C d_Mo_witness_246 rfl ?_
        refine sv_istore C d_Mo_witness_248 (by decide) rfl ?_
        refine sv_iincN C d_Mo_witness_250 rfl (by decide) rfl ?_
        refine sv_goto (tgt := 174) C d_Mo_witness_253 (by decide) ?_
        refine sv_drop [true, true, true, true, true, true, true, true, true, true, true, false, false] ?_
        exact ih2 (j + 1, x) ⟨by dsimp only; omega, nxt_skip hx (fun w hw q => h10 (hD.mpr (by rw [hu2 w hw] at q; exact q)))⟩ (by dsimp only; omega)
      · have hDt := hD.mp h10
        refine sv_iconst (v := 1) C d_Mo_witness_217 rfl ?_
        refine sv_goto (tgt := 222) C d_Mo_witness_218 (by decide) ?_
        refine sv_istore C d_Mo_witness_222 (by decide) rfl ?_
        refine sv_iload C d_Mo_witness_224 rfl ?_
        refine sv_if_eq (tgt := 246) C d_Mo_witness_226 (by decide) (fun h11 => ?_) (fun h11 => ?_)
        · exact absurd h11 (by decide)
        refine sv_iload C d_Mo_witness_229 rfl ?_
        refine sv_if_lt (tgt := 241) C d_Mo_witness_231 (by decide) (fun h12 => ?_) (fun h12 => ?_)
        · refine sv_iload C d_Mo_witness_241 rfl ?_
          refine sv_goto (tgt := 248) C d_Mo_witness_243 (by decide) ?_
          refine sv_istore C d_Mo_witness_248 (by decide) rfl ?_
          refine sv_iincN C d_Mo_witness_250 rfl (by decide) rfl ?_
          refine sv_goto (tgt := 174) C d_Mo_witness_253 (by decide) ?_
          refine sv_drop [true, true, true, true, true, true, true, true, true, true, true, false, false] ?_
          exact ih2 (j + 1, nI to) ⟨by dsimp only; omega, nxt_take hx (by omega) ⟨g1, hto2.symm⟩ hu2 hDt (Or.inl h12)⟩ (by dsimp only; omega)
        · refine sv_iload C d_Mo_witness_234 rfl ?_
          refine sv_iload C d_Mo_witness_236 rfl ?_
          refine sv_icmp_ge (tgt := 246) C d_Mo_witness_238 (by decide) (fun h13 => ?_) (fun h13 => ?_)
          · refine sv_iload C d_Mo_witness_246 rfl ?_
            refine sv_istore C d_Mo_witness_248 (by decide) rfl ?_
            refine sv_iincN C d_Mo_witness_250 rfl (by decide) rfl ?_
            refine sv_goto (tgt := 174) C d_Mo_witness_253 (by decide) ?_
            refine sv_drop [true, true, true, true, true, true, true, true, true, true, true, false, false] ?_
            exact ih2 (j + 1, x) ⟨by dsimp only; omega, nxt_keep hx h12 (by omega) hu2 h13⟩ (by dsimp only; omega)
          · refine sv_iload C d_Mo_witness_241 rfl ?_
            refine sv_goto (tgt := 248) C d_Mo_witness_243 (by decide) ?_
            refine sv_istore C d_Mo_witness_248 (by decide) rfl ?_
            refine sv_iincN C d_Mo_witness_250 rfl (by decide) rfl ?_
            refine sv_goto (tgt := 174) C d_Mo_witness_253 (by decide) ?_
            refine sv_drop [true, true, true, true, true, true, true, true, true, true, true, false, false] ?_
            exact ih2 (j + 1, nI to) ⟨by dsimp only; omega, nxt_take hx (by omega) ⟨g1, hto2.symm⟩ hu2 hDt (Or.inr (Int32.not_le.mp h13))⟩ (by dsimp only; omega)
    · refine sv_istore C d_Mo_witness_191 (by decide) rfl ?_
      refine sv_iload C d_Mo_witness_193 rfl ?_
      refine sv_if_lt (tgt := 221) C d_Mo_witness_195 (by decide) (fun h7 => ?_) (fun h7 => ?_)
      rotate_left
      · exact absurd neg1 h7
      refine sv_iconst (v := 0) C d_Mo_witness_221 rfl ?_
      refine sv_istore C d_Mo_witness_222 (by decide) rfl ?_
      refine sv_iload C d_Mo_witness_224 rfl ?_
      refine sv_if_eq (tgt := 246) C d_Mo_witness_226 (by decide) (fun h11 => ?_) (fun h11 => ?_)
      rotate_left
      · exact absurd rfl h11
      refine sv_iload C d_Mo_witness_246 rfl ?_
      refine sv_istore C d_Mo_witness_248 (by decide) rfl ?_
      refine sv_iincN C d_Mo_witness_250 rfl (by decide) rfl ?_
      refine sv_goto (tgt := 174) C d_Mo_witness_253 (by decide) ?_
      refine sv_drop [true, true, true, true, true, true, true, true, true, true, true, false, false] ?_
      exact ih2 (j + 1, x) ⟨by dsimp only; omega, nxt_skip hx (fun w hw _ => g1 hw.1)⟩ (by dsimp only; omega)
