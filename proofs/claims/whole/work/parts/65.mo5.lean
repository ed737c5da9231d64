/-! The reference: simple, workOut, know -/
theorem mTx_b {B : Nat → Nat → Bool} {n x z : Nat} (hz : z < 2 ^ n) : mTx B n x z ↔ B 0 (256 * x + z) = true := ⟨fun h => h.2, fun h => ⟨hz, h⟩⟩
set_option maxRecDepth 100000 in
set_option maxHeartbeats 8000000 in
theorem c_Mo_simple {l : Launch} {D : va_G} {cI cJ cZ : ClassId} {L : Nat → Nat → Int64} {I : Nat → Nat → Int32} {V : Nat → Int32} {W : Nat → Int32} {J : Nat → Nat → Int32} {B : Nat → Nat → Bool} {tl : List va_E} {n r f k x y : Nat} {rl : Nat → Nat × Nat × Nat × Nat} (hr : mr_ok W J n r rl) (hf : f < 60) (j4 : J 4 f = nI k) (j5 : J 5 f = nI x) (j6 : k2 k → J 6 f = nI y) (hk7 : k ≤ 7) (hp0 : k = 0 → x < 256 ∧ y < 256) (hp1 : k ≠ 0 → x < f ∧ y < f) {s : Nat} (hs : s < 2 ^ n) (hk4 : k ≤ 4) :
    sv_M l y_Mo_simple [Cond.code y_Mo_simple b_Mo_simple 5 (some .boolean)] ({ frames := 2, cells := 0, slots := 0, locals := 48 } : Room) D sv_cl (sv_ty cI cJ cZ) [.ref 23, .int (nI f), .int (nI s)] (hM cI cJ cZ L I V W J B tl) 0 0 (fun q ws' => ∃ t : Bool, q = some (.int (b2i t)) ∧ (t = true ↔ fm_v (rs n r rl) (mTx B n) k x y s) ∧ ws' = hM cI cJ cZ L I V W J B tl) sv_no 0 0 := by
  refine sv_of (cc := b_Mo_simple) (by decide +kernel) (Nat.le_of_ble_eq_true rfl) ?_
  intro pX eX sX mX aX bX tX cX AX adX C htab hnm
  have hr' := hr
  obtain ⟨⟨hn, hW1, hW2, hr40, hrl⟩, hJ⟩ := hr'
  have hp8 := pow_le8 hn
  have hin : vp_in (nI f) 60 := vp_in_nI hf (by omega)
  have hfc : (nI f).toNatClampNeg = f := nI_clamp (by omega)
  refine sv_aload_n C d_Mo_simple_0 rfl rfl ?_
  refine sv_get (ci := 5) (kf := 10) C i_Mo rfl (by decide) f_Mo_29 (fun _ h9 => h9) d_Mo_simple_1 (by first | assumption | rfl) rfl ?_
  refine sv_iload_n C d_Mo_simple_4 rfl rfl ?_
  refine sv_iald (t0 := 0) C rfl d_Mo_simple_5 (by first | assumption | rfl) hin ?_
  rw [hfc, j5]
  refine sv_istore_n C d_Mo_simple_6 rfl (by decide) rfl ?_
  refine sv_aload_n C d_Mo_simple_7 rfl rfl ?_
  refine sv_get (ci := 5) (kf := 11) C i_Mo rfl (by decide) f_Mo_32 (fun _ h9 => h9) d_Mo_simple_8 (by first | assumption | rfl) rfl ?_
  refine sv_iload_n C d_Mo_simple_11 rfl rfl ?_
  refine sv_iald (t0 := 0) C rfl d_Mo_simple_12 (by first | assumption | rfl) hin ?_
  rw [hfc]
  refine sv_istore C d_Mo_simple_13 (by decide) rfl ?_
  refine sv_aload_n C d_Mo_simple_15 rfl rfl ?_
  refine sv_get (ci := 5) (kf := 9) C i_Mo rfl (by decide) f_Mo_26 (fun _ h9 => h9) d_Mo_simple_16 (by first | assumption | rfl) rfl ?_
  refine sv_iload_n C d_Mo_simple_19 rfl rfl ?_
  refine sv_iald (t0 := 0) C rfl d_Mo_simple_20 (by first | assumption | rfl) hin ?_
  rw [hfc, j4]
  have hkk : k = 0 ∨ k = 1 ∨ k = 2 ∨ k = 3 ∨ k = 4 := by omega
  rcases hkk with rfl | rfl | rfl | rfl | rfl
  · refine sv_tab (off := 31) (tgt := 52) C d_Mo_simple_21 (by decide) (by decide) (by decide) (by decide) ?_
    rw [j6 (Or.inl rfl)]
    have hxy := hp0 rfl
    refine sv_iload_n C d_Mo_simple_52 rfl rfl ?_
    refine sv_iload_n C d_Mo_simple_53 rfl rfl ?_
    refine sv_iand C d_Mo_simple_54 ?_
    refine sv_iload C d_Mo_simple_55 rfl ?_
    refine sv_eqs (st' := [.int (nI y), .int (nI (s &&& x))]) (by rw [nx_and]) ?_
    refine sv_icmp_ne (tgt := 64) C d_Mo_simple_57 (by decide) (fun h1 => ?_) (fun h1 => ?_)
    · have hne : ¬ s &&& x = y := fun h => h1 (by rw [h])
      refine sv_iconst (v := 0) C d_Mo_simple_64 rfl ?_
      exact sv_iret C rfl rfl d_Mo_simple_65 (Nat.le_of_ble_eq_true rfl) (Nat.le_of_ble_eq_true rfl) (fun _ _ => rfl) (⟨false, rfl, ⟨fun q => absurd q Bool.false_ne_true, fun q => absurd q hne⟩, rfl⟩)
    · have heq : s &&& x = y := (nI_eq (Nat.lt_of_le_of_lt Nat.and_le_left (by omega)) (by omega)).mp h1
      refine sv_iconst (v := 1) C d_Mo_simple_60 rfl ?_
      refine sv_goto (tgt := 65) C d_Mo_simple_61 (by decide) ?_
      exact sv_iret C rfl rfl d_Mo_simple_65 (Nat.le_of_ble_eq_true rfl) (Nat.le_of_ble_eq_true rfl) (fun _ _ => rfl) (⟨true, rfl, ⟨fun _ => heq, fun _ => rfl⟩, rfl⟩)
  · refine sv_tab (off := 45) (tgt := 66) C d_Mo_simple_21 (by decide) (by decide) (by decide) (by decide) ?_
    have hxy := hp1 (by decide)
    refine sv_aload_n C d_Mo_simple_66 rfl rfl ?_
    refine sv_iload_n C d_Mo_simple_67 rfl rfl ?_
    refine sv_iload_n C d_Mo_simple_68 rfl rfl ?_
    refine sv_callV (ci := 5) C (c_Mo_has (cI := cI) (cJ := cJ) (cZ := cZ) (L := L) (I := I) (V := V) (W := W) (J := J) (B := B) (tl := tl) (f := x) (z := s) (by omega) (by omega)) s_Mo_79 ki_Mo_has ks_Mo_has ⟨rfl, rfl, Nat.le_of_ble_eq_true rfl, Nat.le_of_ble_eq_true rfl⟩ rfl d_Mo_simple_69 (by first | assumption | rfl) (Nat.le_of_ble_eq_true rfl) ⟨(Nat.le_of_ble_eq_true rfl), (Nat.le_of_ble_eq_true rfl)⟩ (fun E ws9 h9 => absurd h9 id) (fun v9 ws9 hp => ?_)
    obtain ⟨rfl, rfl⟩ := hp
    cases hb : B 0 (256 * x + s) with
    | true =>
      refine sv_if_ne (tgt := 79) C d_Mo_simple_72 (by decide) (fun h => ?_) (fun h => ?_)
      · refine sv_iconst (v := 0) C d_Mo_simple_79 rfl ?_
        exact sv_iret C rfl rfl d_Mo_simple_80 (Nat.le_of_ble_eq_true rfl) (Nat.le_of_ble_eq_true rfl) (fun _ _ => rfl) (⟨false, rfl, ⟨fun q => absurd q Bool.false_ne_true, fun q => absurd ((mTx_b hs).mpr hb) q⟩, rfl⟩)
      · exact absurd h (by decide)
    | false =>
      refine sv_if_ne (tgt := 79) C d_Mo_simple_72 (by decide) (fun h => ?_) (fun h => ?_)
      · exact absurd rfl h
      · refine sv_iconst (v := 1) C d_Mo_simple_75 rfl ?_
        refine sv_goto (tgt := 80) C d_Mo_simple_76 (by decide) ?_
        exact sv_iret C rfl rfl d_Mo_simple_80 (Nat.le_of_ble_eq_true rfl) (Nat.le_of_ble_eq_true rfl) (fun _ _ => rfl) (⟨true, rfl, ⟨fun _ q => by have := (mTx_b hs).mp q; rw [hb] at this; exact absurd this Bool.false_ne_true, fun _ => rfl⟩, rfl⟩)
  · refine sv_tab (off := 60) (tgt := 81) C d_Mo_simple_21 (by decide) (by decide) (by decide) (by decide) ?_
    rw [j6 (Or.inr (Or.inl rfl))]
    have hxy := hp1 (by decide)
    refine sv_aload_n C d_Mo_simple_81 rfl rfl ?_
    refine sv_iload_n C d_Mo_simple_82 rfl rfl ?_
    refine sv_iload_n C d_Mo_simple_83 rfl rfl ?_
    refine sv_callV (ci := 5) C (c_Mo_has (cI := cI) (cJ := cJ) (cZ := cZ) (L := L) (I := I) (V := V) (W := W) (J := J) (B := B) (tl := tl) (f := x) (z := s) (by omega) (by omega)) s_Mo_79 ki_Mo_has ks_Mo_has ⟨rfl, rfl, Nat.le_of_ble_eq_true rfl, Nat.le_of_ble_eq_true rfl⟩ rfl d_Mo_simple_84 (by first | assumption | rfl) (Nat.le_of_ble_eq_true rfl) ⟨(Nat.le_of_ble_eq_true rfl), (Nat.le_of_ble_eq_true rfl)⟩ (fun E ws9 h9 => absurd h9 id) (fun v9 ws9 hp => ?_)
    obtain ⟨rfl, rfl⟩ := hp
    cases hb : B 0 (256 * x + s) with
    | false =>
      refine sv_if_eq (tgt := 104) C d_Mo_simple_87 (by decide) (fun h => ?_) (fun h => ?_)
      · refine sv_iconst (v := 0) C d_Mo_simple_104 rfl ?_
        exact sv_iret C rfl rfl d_Mo_simple_105 (Nat.le_of_ble_eq_true rfl) (Nat.le_of_ble_eq_true rfl) (fun _ _ => rfl) (⟨false, rfl, ⟨fun q => absurd q Bool.false_ne_true, fun q => by have := (mTx_b hs).mp (show mTx B n x s ∧ mTx B n y s from q).1; rw [hb] at this; exact absurd this Bool.false_ne_true⟩, rfl⟩)
      · exact absurd rfl h
    | true =>
      refine sv_if_eq (tgt := 104) C d_Mo_simple_87 (by decide) (fun h => ?_) (fun h => ?_)
      · exact absurd h (by decide)
      · refine sv_aload_n C d_Mo_simple_90 rfl rfl ?_
        refine sv_iload C d_Mo_simple_91 rfl ?_
        refine sv_iload_n C d_Mo_simple_93 rfl rfl ?_
        refine sv_callV (ci := 5) C (c_Mo_has (cI := cI) (cJ := cJ) (cZ := cZ) (L := L) (I := I) (V := V) (W := W) (J := J) (B := B) (tl := tl) (f := y) (z := s) (by omega) (by omega)) s_Mo_79 ki_Mo_has ks_Mo_has ⟨rfl, rfl, Nat.le_of_ble_eq_true rfl, Nat.le_of_ble_eq_true rfl⟩ rfl d_Mo_simple_94 (by first | assumption | rfl) (Nat.le_of_ble_eq_true rfl) ⟨(Nat.le_of_ble_eq_true rfl), (Nat.le_of_ble_eq_true rfl)⟩ (fun E ws9 h9 => absurd h9 id) (fun v9 ws9 hp => ?_)
        obtain ⟨rfl, rfl⟩ := hp
        cases hb2 : B 0 (256 * y + s) with
        | false =>
          refine sv_if_eq (tgt := 104) C d_Mo_simple_97 (by decide) (fun h => ?_) (fun h => ?_)
          · refine sv_iconst (v := 0) C d_Mo_simple_104 rfl ?_
            exact sv_iret C rfl rfl d_Mo_simple_105 (Nat.le_of_ble_eq_true rfl) (Nat.le_of_ble_eq_true rfl) (fun _ _ => rfl) (⟨false, rfl, ⟨fun q => absurd q Bool.false_ne_true, fun q => by have := (mTx_b hs).mp (show mTx B n x s ∧ mTx B n y s from q).2; rw [hb2] at this; exact absurd this Bool.false_ne_true⟩, rfl⟩)
          · exact absurd rfl h
        | true =>
          refine sv_if_eq (tgt := 104) C d_Mo_simple_97 (by decide) (fun h => ?_) (fun h => ?_)
          · exact absurd h (by decide)
          · refine sv_iconst (v := 1) C d_Mo_simple_100 rfl ?_
            refine sv_goto (tgt := 105) C d_Mo_simple_101 (by decide) ?_
            exact sv_iret C rfl rfl d_Mo_simple_105 (Nat.le_of_ble_eq_true rfl) (Nat.le_of_ble_eq_true rfl) (fun _ _ => rfl) (⟨true, rfl, ⟨fun _ => show mTx B n x s ∧ mTx B n y s from ⟨(mTx_b hs).mpr hb, (mTx_b hs).mpr hb2⟩, fun _ => rfl⟩, rfl⟩)
  · refine sv_tab (off := 85) (tgt := 106) C d_Mo_simple_21 (by decide) (by decide) (by decide) (by decide) ?_
    rw [j6 (Or.inr (Or.inr (Or.inl rfl)))]
    have hxy := hp1 (by decide)
    refine sv_aload_n C d_Mo_simple_106 rfl rfl ?_
    refine sv_iload_n C d_Mo_simple_107 rfl rfl ?_
    refine sv_iload_n C d_Mo_simple_108 rfl rfl ?_
    refine sv_callV (ci := 5) C (c_Mo_has (cI := cI) (cJ := cJ) (cZ := cZ) (L := L) (I := I) (V := V) (W := W) (J := J) (B := B) (tl := tl) (f := x) (z := s) (by omega) (by omega)) s_Mo_79 ki_Mo_has ks_Mo_has ⟨rfl, rfl, Nat.le_of_ble_eq_true rfl, Nat.le_of_ble_eq_true rfl⟩ rfl d_Mo_simple_109 (by first | assumption | rfl) (Nat.le_of_ble_eq_true rfl) ⟨(Nat.le_of_ble_eq_true rfl), (Nat.le_of_ble_eq_true rfl)⟩ (fun E ws9 h9 => absurd h9 id) (fun v9 ws9 hp => ?_)
    obtain ⟨rfl, rfl⟩ := hp
    cases hb : B 0 (256 * x + s) with
    | true =>
      refine sv_if_ne (tgt := 125) C d_Mo_simple_112 (by decide) (fun h => ?_) (fun h => ?_)
      · refine sv_iconst (v := 1) C d_Mo_simple_125 rfl ?_
        refine sv_goto (tgt := 130) C d_Mo_simple_126 (by decide) ?_
        exact sv_iret C rfl rfl d_Mo_simple_130 (Nat.le_of_ble_eq_true rfl) (Nat.le_of_ble_eq_true rfl) (fun _ _ => rfl) (⟨true, rfl, ⟨fun _ => show mTx B n x s ∨ mTx B n y s from Or.inl ((mTx_b hs).mpr hb), fun _ => rfl⟩, rfl⟩)
      · exact absurd h (by decide)
    | false =>
      refine sv_if_ne (tgt := 125) C d_Mo_simple_112 (by decide) (fun h => ?_) (fun h => ?_)
      · exact absurd rfl h
      · refine sv_aload_n C d_Mo_simple_115 rfl rfl ?_
        refine sv_iload C d_Mo_simple_116 rfl ?_
        refine sv_iload_n C d_Mo_simple_118 rfl rfl ?_
        refine sv_callV (ci := 5) C (c_Mo_has (cI := cI) (cJ := cJ) (cZ := cZ) (L := L) (I := I) (V := V) (W := W) (J := J) (B := B) (tl := tl) (f := y) (z := s) (by omega) (by omega)) s_Mo_79 ki_Mo_has ks_Mo_has ⟨rfl, rfl, Nat.le_of_ble_eq_true rfl, Nat.le_of_ble_eq_true rfl⟩ rfl d_Mo_simple_119 (by first | assumption | rfl) (Nat.le_of_ble_eq_true rfl) ⟨(Nat.le_of_ble_eq_true rfl), (Nat.le_of_ble_eq_true rfl)⟩ (fun E ws9 h9 => absurd h9 id) (fun v9 ws9 hp => ?_)
        obtain ⟨rfl, rfl⟩ := hp
        cases hb2 : B 0 (256 * y + s) with
        | false =>
          refine sv_if_eq (tgt := 129) C d_Mo_simple_122 (by decide) (fun h => ?_) (fun h => ?_)
          · refine sv_iconst (v := 0) C d_Mo_simple_129 rfl ?_
            refine sv_iret C rfl rfl d_Mo_simple_130 (Nat.le_of_ble_eq_true rfl) (Nat.le_of_ble_eq_true rfl) (fun _ _ => rfl) (⟨false, rfl, ⟨fun q => absurd q Bool.false_ne_true, fun q => ?_⟩, rfl⟩)
            rcases (show mTx B n x s ∨ mTx B n y s from q) with q | q
            · have := (mTx_b hs).mp q
              rw [hb] at this
              exact absurd this Bool.false_ne_true
            · have := (mTx_b hs).mp q
              rw [hb2] at this
              exact absurd this Bool.false_ne_true
          · exact absurd rfl h
        | true =>
          refine sv_if_eq (tgt := 129) C d_Mo_simple_122 (by decide) (fun h => ?_) (fun h => ?_)
          · exact absurd h (by decide)
          · refine sv_iconst (v := 1) C d_Mo_simple_125 rfl ?_
            refine sv_goto (tgt := 130) C d_Mo_simple_126 (by decide) ?_
            exact sv_iret C rfl rfl d_Mo_simple_130 (Nat.le_of_ble_eq_true rfl) (Nat.le_of_ble_eq_true rfl) (fun _ _ => rfl) (⟨true, rfl, ⟨fun _ => show mTx B n x s ∨ mTx B n y s from Or.inr ((mTx_b hs).mpr hb2), fun _ => rfl⟩, rfl⟩)
  · refine sv_tabOut (tgt := 131) C d_Mo_simple_21 (by decide) (by decide) ?_
    have hxy := hp1 (by decide)
    refine sv_aload_n C d_Mo_simple_131 rfl rfl ?_
    refine sv_iload_n C d_Mo_simple_132 rfl rfl ?_
    refine sv_aload_n C d_Mo_simple_133 rfl rfl ?_
    refine sv_get (ci := 5) (kf := 12) C i_Mo rfl (by decide) f_Mo_35 (fun _ h9 => h9) d_Mo_simple_134 (by first | assumption | rfl) rfl ?_
    refine sv_sipush (v := 256) C d_Mo_simple_137 rfl ?_
    refine sv_iload_n C d_Mo_simple_140 rfl rfl ?_
    refine sv_imul C d_Mo_simple_141 ?_
    refine sv_eqs (st' := [.int (nI (256 * x)), .ref 31, .int (nI s), .ref 23]) (by rw [show (256 : Int32) = nI 256 from rfl, pk_mul]) ?_
    refine sv_callV (ci := 5) C (c_Mo_goesInto (cI := cI) (cJ := cJ) (cZ := cZ) (L := L) (I := I) (V := V) (W := W) (J := J) (B := B) (tl := tl) (n := n) (r := r) (s := s) (a := 31) (N := 15360) (fr := 256 * x) (b := B 0) (rl := rl) hr hs rfl (by omega) (by omega)) s_Mo_82 ki_Mo_goesInto ks_Mo_goesInto ⟨rfl, rfl, Nat.le_of_ble_eq_true rfl, Nat.le_of_ble_eq_true rfl⟩ rfl d_Mo_simple_142 (by first | assumption | rfl) (Nat.le_of_ble_eq_true rfl) ⟨(Nat.le_of_ble_eq_true rfl), (Nat.le_of_ble_eq_true rfl)⟩ (fun E ws9 h9 => absurd h9 id) (fun v9 ws9 hp => ?_)
    obtain ⟨t, rfl, ht, rfl⟩ := hp
    exact sv_iret C rfl (b2i_nb t) d_Mo_simple_145 (Nat.le_of_ble_eq_true rfl) (Nat.le_of_ble_eq_true rfl) (fun _ _ => rfl) (⟨t, rfl, ht.trans ⟨fun ⟨z, h1, h2⟩ => ⟨z, h1, rs_lt hrl h1, h2⟩, fun ⟨z, h1, h2⟩ => ⟨z, h1, h2.2⟩⟩, rfl⟩)
set_option maxRecDepth 100000 in
set_option maxHeartbeats 8000000 in
theorem c_Mo_workOut {l : Launch} {D : va_G} {cI cJ cZ : ClassId} {L : Nat → Nat → Int64} {I : Nat → Nat → Int32} {V : Nat → Int32} {W : Nat → Int32} {J : Nat → Nat → Int32} {B : Nat → Nat → Bool} {tl : List va_E} {n r f k x y : Nat} {rl : Nat → Nat × Nat × Nat × Nat} (hr : mr_ok W J n r rl) (hf : f < 60) (j4 : J 4 f = nI k) (j5 : J 5 f = nI x) (j6 : k2 k → J 6 f = nI y) (hk7 : k ≤ 7) (hp0 : k = 0 → x < 256 ∧ y < 256) (hp1 : k ≠ 0 → x < f ∧ y < f) :
    sv_M l y_Mo_workOut [Cond.code y_Mo_workOut b_Mo_workOut 4 none] ({ frames := 4, cells := 0, slots := 0, locals := 98 } : Room) D sv_cl (sv_ty cI cJ cZ) [.ref 23, .int (nI f)] (hM cI cJ cZ L I V W J B tl) 0 0 (fun q ws' => q = none ∧ ∃ B' : Nat → Nat → Bool, ws' = hM cI cJ cZ L I V W J B' tl ∧ (∀ i, ¬ (256 * f ≤ i ∧ i < 256 * f + 2 ^ n) → B' 0 i = B 0 i) ∧ ∀ z, z < 2 ^ n → (B' 0 (256 * f + z) = true ↔ fm_v (rs n r rl) (mTx B n) k x y z)) sv_no 0 0 := by
  refine sv_of (cc := b_Mo_workOut) (by decide +kernel) (Nat.le_of_ble_eq_true rfl) ?_
  intro pX eX sX mX aX bX tX cX AX adX C htab hnm
  have hr' := hr
  obtain ⟨⟨hn, hW1, hW2, hr40, hrl⟩, hJ⟩ := hr'
  have hp8 := pow_le8 hn
  have hin : vp_in (nI f) 60 := vp_in_nI hf (by omega)
  have hfc : (nI f).toNatClampNeg = f := nI_clamp (by omega)
  refine sv_iconst (v := 1) C d_Mo_workOut_0 rfl ?_
  refine sv_aload_n C d_Mo_workOut_1 rfl rfl ?_
  refine sv_get (ci := 5) (kf := 1) C i_Mo rfl (by decide) f_Mo_7 (fun _ h9 => h9) d_Mo_workOut_2 (by first | assumption | rfl) rfl ?_
  rw [hW1]
  refine sv_ishl C d_Mo_workOut_5 ?_
  rw [ma_sh n (by omega)]
  refine sv_istore_n C d_Mo_workOut_6 rfl (by decide) rfl ?_
  refine sv_aload_n C d_Mo_workOut_7 rfl rfl ?_
  refine sv_get (ci := 5) (kf := 9) C i_Mo rfl (by decide) f_Mo_26 (fun _ h9 => h9) d_Mo_workOut_8 (by first | assumption | rfl) rfl ?_
  refine sv_iload_n C d_Mo_workOut_11 rfl rfl ?_
  refine sv_iald (t0 := 0) C rfl d_Mo_workOut_12 (by first | assumption | rfl) hin ?_
  rw [hfc, j4]
  refine sv_bipush (v := 6) C d_Mo_workOut_13 rfl ?_
  refine sv_icmp_ne (tgt := 32) C d_Mo_workOut_15 (by decide) (fun h6 => ?_) (fun h6 => ?_)
  rotate_left
  · have h6 : k = 6 := nI_inj (b := 6) (by omega) (by omega) h6
    subst h6
    have hxy := hp1 (by decide)
    refine sv_aload_n C d_Mo_workOut_18 rfl rfl ?_
    refine sv_iload_n C d_Mo_workOut_19 rfl rfl ?_
    refine sv_aload_n C d_Mo_workOut_20 rfl rfl ?_
    refine sv_get (ci := 5) (kf := 10) C i_Mo rfl (by decide) f_Mo_29 (fun _ h9 => h9) d_Mo_workOut_21 (by first | assumption | rfl) rfl ?_
    refine sv_iload_n C d_Mo_workOut_24 rfl rfl ?_
    refine sv_iald (t0 := 0) C rfl d_Mo_workOut_25 (by first | assumption | rfl) hin ?_
    rw [hfc, j5]
    refine sv_callV (ci := 5) C (c_Mo_always (cI := cI) (cJ := cJ) (cZ := cZ) (L := L) (I := I) (V := V) (W := W) (J := J) (B := B) (tl := tl) (n := n) (r := r) (f := f) (x := x) (rl := rl) hr hf hxy.1) s_Mo_90 ki_Mo_always ks_Mo_always ⟨rfl, rfl, Nat.le_of_ble_eq_true rfl, Nat.le_of_ble_eq_true rfl⟩ rfl d_Mo_workOut_26 (by first | assumption | rfl) (Nat.le_of_ble_eq_true rfl) ⟨(Nat.le_of_ble_eq_true rfl), (Nat.le_of_ble_eq_true rfl)⟩ (fun E ws9 h9 => absurd h9 id) (fun v9 ws9 hp => ?_)
    obtain ⟨rfl, B1, rfl, hout, hrow⟩ := hp
    refine sv_goto (tgt := 178) C d_Mo_workOut_29 (by decide) ?_
    exact sv_vret C rfl d_Mo_workOut_178 (Nat.le_of_ble_eq_true rfl) (Nat.le_of_ble_eq_true rfl) (fun _ _ => rfl) (⟨rfl, B1, rfl, hout, hrow⟩)
  have h6 : k ≠ 6 := fun q => h6 (by rw [q]; rfl)
  refine sv_aload_n C d_Mo_workOut_32 rfl rfl ?_
  refine sv_get (ci := 5) (kf := 9) C i_Mo rfl (by decide) f_Mo_26 (fun _ h9 => h9) d_Mo_workOut_33 (by first | assumption | rfl) rfl ?_
  refine sv_iload_n C d_Mo_workOut_36 rfl rfl ?_
  refine sv_iald (t0 := 0) C rfl d_Mo_workOut_37 (by first | assumption | rfl) hin ?_
  rw [hfc, j4]
  refine sv_bipush (v := 7) C d_Mo_workOut_38 rfl ?_
  refine sv_icmp_ne (tgt := 63) C d_Mo_workOut_40 (by decide) (fun h7 => ?_) (fun h7 => ?_)
  rotate_left
  · have h7 : k = 7 := nI_inj (b := 7) (by omega) (by omega) h7
    subst h7
    have hxy := hp1 (by decide)
    refine sv_aload_n C d_Mo_workOut_43 rfl rfl ?_
    refine sv_iload_n C d_Mo_workOut_44 rfl rfl ?_
    refine sv_aload_n C d_Mo_workOut_45 rfl rfl ?_
    refine sv_get (ci := 5) (kf := 10) C i_Mo rfl (by decide) f_Mo_29 (fun _ h9 => h9) d_Mo_workOut_46 (by first | assumption | rfl) rfl ?_
    refine sv_iload_n C d_Mo_workOut_49 rfl rfl ?_
    refine sv_iald (t0 := 0) C rfl d_Mo_workOut_50 (by first | assumption | rfl) hin ?_
    rw [hfc, j5]
    refine sv_aload_n C d_Mo_workOut_51 rfl rfl ?_
    refine sv_get (ci := 5) (kf := 11) C i_Mo rfl (by decide) f_Mo_32 (fun _ h9 => h9) d_Mo_workOut_52 (by first | assumption | rfl) rfl ?_
    refine sv_iload_n C d_Mo_workOut_55 rfl rfl ?_
    refine sv_iald (t0 := 0) C rfl d_Mo_workOut_56 (by first | assumption | rfl) hin ?_
    rw [hfc, j6 (Or.inr (Or.inr (Or.inr (Or.inr rfl))))]
    refine sv_callV (ci := 5) C (c_Mo_again (cI := cI) (cJ := cJ) (cZ := cZ) (L := L) (I := I) (V := V) (W := W) (J := J) (B := B) (tl := tl) (n := n) (r := r) (f := f) (x := x) (y := y) (rl := rl) hr hf hxy.1 hxy.2) s_Mo_94 ki_Mo_again ks_Mo_again ⟨rfl, rfl, Nat.le_of_ble_eq_true rfl, Nat.le_of_ble_eq_true rfl⟩ rfl d_Mo_workOut_57 (by first | assumption | rfl) (Nat.le_of_ble_eq_true rfl) ⟨(Nat.le_of_ble_eq_true rfl), (Nat.le_of_ble_eq_true rfl)⟩ (fun E ws9 h9 => absurd h9 id) (fun v9 ws9 hp => ?_)
    obtain ⟨rfl, B1, rfl, hout, hrow⟩ := hp
    refine sv_goto (tgt := 178) C d_Mo_workOut_60 (by decide) ?_
    exact sv_vret C rfl d_Mo_workOut_178 (Nat.le_of_ble_eq_true rfl) (Nat.le_of_ble_eq_true rfl) (fun _ _ => rfl) (⟨rfl, B1, rfl, hout, hrow⟩)
  have h7 : k ≠ 7 := fun q => h7 (by rw [q]; rfl)
  refine sv_aload_n C d_Mo_workOut_63 rfl rfl ?_
  refine sv_get (ci := 5) (kf := 9) C i_Mo rfl (by decide) f_Mo_26 (fun _ h9 => h9) d_Mo_workOut_64 (by first | assumption | rfl) rfl ?_
  refine sv_iload_n C d_Mo_workOut_67 rfl rfl ?_
  refine sv_iald (t0 := 0) C rfl d_Mo_workOut_68 (by first | assumption | rfl) hin ?_
  rw [hfc, j4]
  refine sv_iconst (v := 5) C d_Mo_workOut_69 rfl ?_
  refine sv_icmp_ne (tgt := 147) C d_Mo_workOut_70 (by decide) (fun h5 => ?_) (fun h5 => ?_)
  · have h5 : k ≠ 5 := fun q => h5 (by rw [q]; rfl)
    refine sv_iconst (v := 0) C d_Mo_workOut_147 rfl ?_
    refine sv_istore_n C d_Mo_workOut_148 rfl (by decide) rfl ?_
    refine sv_ind (σ := Nat × (Nat → Nat → Bool)) (I := fun q => q.1 ≤ 2 ^ n ∧ (∀ i, ¬ (256 * f ≤ i ∧ i < 256 * f + 2 ^ n) → q.2 0 i = B 0 i) ∧ ∀ z, z < q.1 → (q.2 0 (256 * f + z) = true ↔ fm_v (rs n r rl) (mTx B n) k x y z)) (μ := fun q => 2 ^ n - q.1)
      (lv := fun q => [some (.ref 23), some (.int (nI f)), some (.int (nI (2 ^ n))), some (.int (nI q.1))]) (ws := fun q => hM cI cJ cZ L I V W J q.2 tl) ?_ (0, B) ⟨Nat.zero_le _, fun _ _ => rfl, fun z hz => absurd hz (Nat.not_lt_zero z)⟩
    rintro ⟨i, B1⟩ ⟨hi, hout, hc⟩ ih
    dsimp only at hi hout hc ih
    refine sv_iload_n C d_Mo_workOut_149 rfl rfl ?_
    refine sv_iload_n C d_Mo_workOut_150 rfl rfl ?_
    refine sv_icmp_ge (tgt := 178) C d_Mo_workOut_151 (by decide) (fun h1 => ?_) (fun h1 => ?_)
    · have h1 : 2 ^ n ≤ i := (nI_leI (a := 2 ^ n) (b := i) (by omega) (by omega)).mp h1
      have h2 : i = 2 ^ n := by omega
      subst h2
      exact sv_vret C rfl d_Mo_workOut_178 (Nat.le_of_ble_eq_true rfl) (Nat.le_of_ble_eq_true rfl) (fun _ _ => rfl) (⟨rfl, B1, rfl, hout, hc⟩)
    · have h1 : ¬ 2 ^ n ≤ i := fun h => h1 ((nI_leI (a := 2 ^ n) (b := i) (by omega) (by omega)).mpr h)
      have hin2 : vp_in (nI (256 * f + i)) 15360 := vp_in_nI (by omega) (by omega)
      refine sv_aload_n C d_Mo_workOut_154 rfl rfl ?_
      refine sv_get (ci := 5) (kf := 12) C i_Mo rfl (by decide) f_Mo_35 (fun _ h9 => h9) d_Mo_workOut_155 (by first | assumption | rfl) rfl ?_
      refine sv_sipush (v := 256) C d_Mo_workOut_158 rfl ?_
      refine sv_iload_n C d_Mo_workOut_161 rfl rfl ?_
      refine sv_imul C d_Mo_workOut_162 ?_
      refine sv_iload_n C d_Mo_workOut_163 rfl rfl ?_
      refine sv_iadd C d_Mo_workOut_164 ?_
      rw [m256]
      refine sv_aload_n C d_Mo_workOut_165 rfl rfl ?_
      refine sv_iload_n C d_Mo_workOut_166 rfl rfl ?_
      refine sv_iload_n C d_Mo_workOut_167 rfl rfl ?_
      refine sv_callV (ci := 5) C (c_Mo_simple (cI := cI) (cJ := cJ) (cZ := cZ) (L := L) (I := I) (V := V) (W := W) (J := J) (B := B1) (tl := tl) (n := n) (r := r) (f := f) (k := k) (x := x) (y := y) (rl := rl) hr hf j4 j5 j6 hk7 hp0 hp1 (s := i) (by omega) (by omega)) s_Mo_98 ki_Mo_simple ks_Mo_simple ⟨rfl, rfl, Nat.le_of_ble_eq_true rfl, Nat.le_of_ble_eq_true rfl⟩ rfl d_Mo_workOut_168 (by first | assumption | rfl) (Nat.le_of_ble_eq_true rfl) ⟨(Nat.le_of_ble_eq_true rfl), (Nat.le_of_ble_eq_true rfl)⟩ (fun E ws9 h9 => absurd h9 id) (fun v9 ws9 hp => ?_)
      obtain ⟨t, rfl, ht, rfl⟩ := hp
      refine sv_zast (t0 := 2) C rfl d_Mo_workOut_171 (by first | assumption | rfl) hin2 ?_
      refine sv_eqw (st31 t (by omega) rfl) ?_
      refine sv_iincN C d_Mo_workOut_172 rfl (by decide) rfl ?_
      refine sv_goto (tgt := 149) C d_Mo_workOut_175 (by decide) ?_
      have ht2 : t = true ↔ fm_v (rs n r rl) (mTx B n) k x y i := ht.trans (fm_cg (fun hk => mTx_out hn (hp1 hk).1 hout) (fun hk => mTx_out hn (hp1 hk).2 hout))
      refine ih (i + 1, hu B1 0 (hu (B1 0) (256 * f + i) t)) ⟨by dsimp only; omega, fun j hj => ?_, fun z hz => ?_⟩ (by dsimp only; omega)
      · show hu (B1 0) (256 * f + i) t j = B 0 j
        rw [hu_n (by omega)]
        exact hout j hj
      · show hu (B1 0) (256 * f + i) t (256 * f + z) = true ↔ _
        by_cases e : z = i
        · rw [e, hu_s]
          exact ht2
        · rw [hu_n (by omega)]
          exact hc z (by dsimp only at hz; omega)
  · have h5 : k = 5 := nI_inj (b := 5) (by omega) (by omega) h5
    subst h5
    have hxy := hp1 (by decide)
    have j6 := j6 (Or.inr (Or.inr (Or.inr (Or.inl rfl))))
    refine sv_iconst (v := 0) C d_Mo_workOut_73 rfl ?_
    refine sv_istore_n C d_Mo_workOut_74 rfl (by decide) rfl ?_
    refine sv_ind (σ := Nat × (Nat → Nat → Bool)) (I := fun q => q.1 ≤ 2 ^ n ∧ q.2 0 = B 0 ∧ ∀ z, z < q.1 → q.2 2 z = B 0 (256 * y + z)) (μ := fun q => 2 ^ n - q.1)
      (lv := fun q => [some (.ref 23), some (.int (nI f)), some (.int (nI (2 ^ n))), some (.int (nI q.1))]) (ws := fun q => hM cI cJ cZ L I V W J q.2 tl) ?_ (0, B) ⟨Nat.zero_le _, rfl, fun z hz => absurd hz (Nat.not_lt_zero z)⟩
    rintro ⟨i, B1⟩ ⟨hi, e0, hc⟩ ih
    dsimp only at hi e0 hc ih
    refine sv_iload_n C d_Mo_workOut_75 rfl rfl ?_
    refine sv_iload_n C d_Mo_workOut_76 rfl rfl ?_
    refine sv_icmp_ge (tgt := 103) C d_Mo_workOut_77 (by decide) (fun h1 => ?_) (fun h1 => ?_)
    rotate_left
    · have h1 : ¬ 2 ^ n ≤ i := fun h => h1 ((nI_leI (a := 2 ^ n) (b := i) (by omega) (by omega)).mpr h)
      have hin2 : vp_in (nI i) 256 := vp_in_nI (by omega) (by omega)
      refine sv_aload_n C d_Mo_workOut_80 rfl rfl ?_
      refine sv_get (ci := 5) (kf := 14) C i_Mo rfl (by decide) f_Mo_42 (fun _ h9 => h9) d_Mo_workOut_81 (by first | assumption | rfl) rfl ?_
      refine sv_iload_n C d_Mo_workOut_84 rfl rfl ?_
      refine sv_aload_n C d_Mo_workOut_85 rfl rfl ?_
      refine sv_aload_n C d_Mo_workOut_86 rfl rfl ?_
      refine sv_get (ci := 5) (kf := 11) C i_Mo rfl (by decide) f_Mo_32 (fun _ h9 => h9) d_Mo_workOut_87 (by first | assumption | rfl) rfl ?_
      refine sv_iload_n C d_Mo_workOut_90 rfl rfl ?_
      refine sv_iald (t0 := 0) C rfl d_Mo_workOut_91 (by first | assumption | rfl) hin ?_
      rw [hfc, j6]
      refine sv_iload_n C d_Mo_workOut_92 rfl rfl ?_
      refine sv_callV (ci := 5) C (c_Mo_has (cI := cI) (cJ := cJ) (cZ := cZ) (L := L) (I := I) (V := V) (W := W) (J := J) (B := B1) (tl := tl) (f := y) (z := i) (by omega) (by omega)) s_Mo_79 ki_Mo_has ks_Mo_has ⟨rfl, rfl, Nat.le_of_ble_eq_true rfl, Nat.le_of_ble_eq_true rfl⟩ rfl d_Mo_workOut_93 (by first | assumption | rfl) (Nat.le_of_ble_eq_true rfl) ⟨(Nat.le_of_ble_eq_true rfl), (Nat.le_of_ble_eq_true rfl)⟩ (fun E ws9 h9 => absurd h9 id) (fun v9 ws9 hp => ?_)
      obtain ⟨rfl, rfl⟩ := hp
      refine sv_zast (t0 := 2) C rfl d_Mo_workOut_96 (by first | assumption | rfl) hin2 ?_
      refine sv_eqw (st33 (B1 0 (256 * y + i)) (by omega) rfl) ?_
      refine sv_iincN C d_Mo_workOut_97 rfl (by decide) rfl ?_
      refine sv_goto (tgt := 75) C d_Mo_workOut_100 (by decide) ?_
      refine ih (i + 1, hu B1 2 (hu (B1 2) i (B1 0 (256 * y + i)))) ⟨by dsimp only; omega, e0, fun z hz => ?_⟩ (by dsimp only; omega)
      show hu (B1 2) i (B1 0 (256 * y + i)) z = B 0 (256 * y + z)
      by_cases e : z = i
      · rw [e, hu_s, e0]
      · rw [hu_n e]
        exact hc z (by dsimp only at hz; omega)
    have h1 : 2 ^ n ≤ i := (nI_leI (a := 2 ^ n) (b := i) (by omega) (by omega)).mp h1
    have h2 : i = 2 ^ n := by omega
    subst h2
    clear ih
    refine sv_aload_n C d_Mo_workOut_103 rfl rfl ?_
    refine sv_aload_n C d_Mo_workOut_104 rfl rfl ?_
    refine sv_get (ci := 5) (kf := 10) C i_Mo rfl (by decide) f_Mo_29 (fun _ h9 => h9) d_Mo_workOut_105 (by first | assumption | rfl) rfl ?_
    refine sv_iload_n C d_Mo_workOut_108 rfl rfl ?_
    refine sv_iald (t0 := 0) C rfl d_Mo_workOut_109 (by first | assumption | rfl) hin ?_
    rw [hfc, j5]
    refine sv_callV (ci := 5) C (c_Mo_until (cI := cI) (cJ := cJ) (cZ := cZ) (L := L) (I := I) (V := V) (W := W) (J := J) (B := B1) (tl := tl) (n := n) (r := r) (x := x) (rl := rl) hr (by omega)) s_Mo_86 ki_Mo_until ks_Mo_until ⟨rfl, rfl, Nat.le_of_ble_eq_true rfl, Nat.le_of_ble_eq_true rfl⟩ rfl d_Mo_workOut_110 (by first | assumption | rfl) (Nat.le_of_ble_eq_true rfl) ⟨(Nat.le_of_ble_eq_true rfl), (Nat.le_of_ble_eq_true rfl)⟩ (fun E ws9 h9 => absurd h9 id) (fun v9 ws9 hp => ?_)
    obtain ⟨rfl, B2, rfl, k0, k2, hset⟩ := hp
    have hX : mTx B1 n x = mTx B n x := mTx_out hn hxy.1 (fun i _ => by rw [e0])
    have hG : mTg B1 n = mTx B n y := by
      funext z
      unfold mTg mTx
      by_cases hz : z < 2 ^ n
      · rw [hc z hz]
      · exact propext ⟨fun q => absurd q.1 hz, fun q => absurd q.1 hz⟩
    rw [hX, hG] at hset
    have k0 : B2 0 = B 0 := k0.trans e0
    refine sv_iconst (v := 0) C d_Mo_workOut_113 rfl ?_
    refine sv_istore_n C d_Mo_workOut_114 rfl (by decide) rfl ?_
    refine sv_eqw (ws' := hM cI cJ cZ L I V W J B2 tl) rfl ?_
    refine sv_ind (σ := Nat × (Nat → Nat → Bool)) (I := fun q => q.1 ≤ 2 ^ n ∧ q.2 1 = B2 1 ∧ (∀ i, ¬ (256 * f ≤ i ∧ i < 256 * f + 2 ^ n) → q.2 0 i = B 0 i) ∧ ∀ z, z < q.1 → q.2 0 (256 * f + z) = B2 1 z) (μ := fun q => 2 ^ n - q.1)
      (lv := fun q => [some (.ref 23), some (.int (nI f)), some (.int (nI (2 ^ n))), some (.int (nI q.1))]) (ws := fun q => hM cI cJ cZ L I V W J q.2 tl) ?_ (0, B2) ⟨Nat.zero_le _, rfl, fun j _ => by dsimp only; rw [k0], fun z hz => absurd hz (Nat.not_lt_zero z)⟩
    rintro ⟨i, B3⟩ ⟨hi, m1, hout, hc3⟩ ih
    dsimp only at hi m1 hout hc3 ih
    refine sv_iload_n C d_Mo_workOut_115 rfl rfl ?_
    refine sv_iload_n C d_Mo_workOut_116 rfl rfl ?_
    refine sv_icmp_ge (tgt := 144) C d_Mo_workOut_117 (by decide) (fun h1 => ?_) (fun h1 => ?_)
    · have h1 : 2 ^ n ≤ i := (nI_leI (a := 2 ^ n) (b := i) (by omega) (by omega)).mp h1
      have h2 : i = 2 ^ n := by omega
      subst h2
      refine sv_goto (tgt := 178) C d_Mo_workOut_144 (by decide) ?_
      exact sv_vret C rfl d_Mo_workOut_178 (Nat.le_of_ble_eq_true rfl) (Nat.le_of_ble_eq_true rfl) (fun _ _ => rfl) (⟨rfl, B3, rfl, hout, fun z hz => by rw [hc3 z hz]; exact hset z hz⟩)
    · have h1 : ¬ 2 ^ n ≤ i := fun h => h1 ((nI_leI (a := 2 ^ n) (b := i) (by omega) (by omega)).mpr h)
      have hin2 : vp_in (nI (256 * f + i)) 15360 := vp_in_nI (by omega) (by omega)
      have hin3 : vp_in (nI i) 256 := vp_in_nI (by omega) (by omega)
      refine sv_aload_n C d_Mo_workOut_120 rfl rfl ?_
      refine sv_get (ci := 5) (kf := 12) C i_Mo rfl (by decide) f_Mo_35 (fun _ h9 => h9) d_Mo_workOut_121 (by first | assumption | rfl) rfl ?_
      refine sv_sipush (v := 256) C d_Mo_workOut_124 rfl ?_
      refine sv_iload_n C d_Mo_workOut_127 rfl rfl ?_
      refine sv_imul C d_Mo_workOut_128 ?_
      refine sv_iload_n C d_Mo_workOut_129 rfl rfl ?_
      refine sv_iadd C d_Mo_workOut_130 ?_
      rw [m256]
      refine sv_aload_n C d_Mo_workOut_131 rfl rfl ?_
      refine sv_get (ci := 5) (kf := 13) C i_Mo rfl (by decide) f_Mo_39 (fun _ h9 => h9) d_Mo_workOut_132 (by first | assumption | rfl) rfl ?_
      refine sv_iload_n C d_Mo_workOut_135 rfl rfl ?_
      refine sv_zald (t0 := 2) C rfl d_Mo_workOut_136 (by first | assumption | rfl) hin3 ?_
      rw [nI_clamp (n := i) (by omega)]
      refine sv_zast (t0 := 2) C rfl d_Mo_workOut_137 (by first | assumption | rfl) hin2 ?_
      refine sv_eqw (st31 (B3 1 i) (by omega) rfl) ?_
      refine sv_iincN C d_Mo_workOut_138 rfl (by decide) rfl ?_
      refine sv_goto (tgt := 115) C d_Mo_workOut_141 (by decide) ?_
      refine ih (i + 1, hu B3 0 (hu (B3 0) (256 * f + i) (B3 1 i))) ⟨by dsimp only; omega, m1, fun j hj => ?_, fun z hz => ?_⟩ (by dsimp only; omega)
      · show hu (B3 0) (256 * f + i) (B3 1 i) j = B 0 j
        rw [hu_n (by omega)]
        exact hout j hj
      · show hu (B3 0) (256 * f + i) (B3 1 i) (256 * f + z) = B2 1 z
        by_cases e : z = i
        · rw [e, hu_s, m1]
        · rw [hu_n (by omega)]
          exact hc3 z (by dsimp only at hz; omega)
set_option maxRecDepth 100000 in
set_option maxHeartbeats 8000000 in
theorem c_Mo_know {l : Launch} {D : va_G} {cI cJ cZ : ClassId} {L : Nat → Nat → Int64} {I : Nat → Nat → Int32} {V : Nat → Int32} {W : Nat → Int32} {J : Nat → Nat → Int32} {B : Nat → Nat → Bool} {tl : List va_E} {n r mk : Nat} {rl : Nat → Nat × Nat × Nat × Nat} {kd xs ys : Nat → Nat} (hok : mo_ok W J B n r mk rl kd xs ys) {f : Nat} (hf : f < mk) :
    sv_M l y_Mo_know [Cond.code y_Mo_know b_Mo_know 2 none] ({ frames := 5, cells := 0, slots := 0, locals := 121 } : Room) D sv_cl (sv_ty cI cJ cZ) [.ref 23, .int (nI f)] (hM cI cJ cZ L I V W J B tl) 0 0 (fun q ws' => q = none ∧ ∃ (W' : Nat → Int32) (B' : Nat → Nat → Bool), ws' = hM cI cJ cZ L I V W' J B' tl ∧ W' 0 = W 0 ∧ mo_ok W' J B' n r mk rl kd xs ys ∧ ∀ i z, i ≤ f → z < 2 ^ n → (B' 0 (256 * i + z) = true ↔ tF (rs n r rl) (2 ^ n) kd xs ys i z)) sv_no 0 0 := by
  refine sv_of (cc := b_Mo_know) (by decide +kernel) (Nat.le_of_ble_eq_true rfl) ?_
  intro pX eX sX mX aX bX tX cX AX adX C htab hnm
  obtain ⟨hmr, hn1, ⟨hW3, hmk⟩, hfm, kn, hkn, hW4, hB⟩ := hok
  have hmr' := hmr
  obtain ⟨⟨hn, hW1, hW2, hr40, hrl⟩, hJ⟩ := hmr'
  have hp8 := pow_le8 hn
  have hwf : ∀ i, i < mk → kd i ≠ 0 → xs i < i ∧ ys i < i := fun i hi => (hfm i hi).2.2.2.2.2.1
  refine sv_eqw (ws' := hM cI cJ cZ L I V (hu W 4 (nI kn)) J B tl) (by rw [← hW4, hu_same]) ?_
  refine sv_ind (σ := Nat × (Nat → Nat → Bool)) (I := fun q => q.1 ≤ mk ∧ ∀ i z, i < q.1 → z < 2 ^ n → (q.2 0 (256 * i + z) = true ↔ tF (rs n r rl) (2 ^ n) kd xs ys i z)) (μ := fun q => mk - q.1)
    (lv := fun q => [some (.ref 23), some (.int (nI f))]) (ws := fun q => hM cI cJ cZ L I V (hu W 4 (nI q.1)) J q.2 tl) ?_ (kn, B) ⟨hkn, hB⟩
  clear hB hW4 hkn
  rintro ⟨kn, B1⟩ ⟨hkn, hB⟩ ih
  dsimp only at hkn hB ih
  refine sv_aload_n C d_Mo_know_0 rfl rfl ?_
  refine sv_get (ci := 5) (kf := 8) C i_Mo rfl (by decide) f_Mo_61 (fun _ h9 => h9) d_Mo_know_1 (by first | assumption | rfl) rfl ?_
  refine sv_iload_n C d_Mo_know_4 rfl rfl ?_
  refine sv_icmp_gt (tgt := 29) C d_Mo_know_5 (by decide) (fun h1 => ?_) (fun h1 => ?_)
  · have h1 : f < kn := (nI_ltI (a := f) (b := kn) (by omega) (by omega)).mp h1
    exact sv_vret C rfl d_Mo_know_29 (Nat.le_of_ble_eq_true rfl) (Nat.le_of_ble_eq_true rfl) (fun _ _ => rfl) (⟨rfl, _, _, rfl, rfl, ⟨hmr, hn1, ⟨hW3, hmk⟩, hfm, kn, hkn, rfl, hB⟩, fun i z hi hz => hB i z (by omega) hz⟩)
  · have h1 : ¬ f < kn := fun h => h1 ((nI_ltI (a := f) (b := kn) (by omega) (by omega)).mpr h)
    obtain ⟨j4, j5, j6, q7, q0, q1, q6⟩ := hfm kn (by omega)
    refine sv_aload_n C d_Mo_know_8 rfl rfl ?_
    refine sv_aload_n C d_Mo_know_9 rfl rfl ?_
    refine sv_get (ci := 5) (kf := 8) C i_Mo rfl (by decide) f_Mo_61 (fun _ h9 => h9) d_Mo_know_10 (by first | assumption | rfl) rfl ?_
    refine sv_eqs (st' := [.int (nI kn), .ref 23]) rfl ?_
    refine sv_callV (ci := 5) C (c_Mo_workOut (cI := cI) (cJ := cJ) (cZ := cZ) (L := L) (I := I) (V := V) (W := (hu W 4 (nI kn))) (J := J) (B := B1) (tl := tl) (n := n) (r := r) (f := kn) (k := kd kn) (x := xs kn) (y := ys kn) (rl := rl) hmr (by omega) j4 j5 j6 q7 q0 q1) s_Mo_101 ki_Mo_workOut ks_Mo_workOut ⟨rfl, rfl, Nat.le_of_ble_eq_true rfl, Nat.le_of_ble_eq_true rfl⟩ rfl d_Mo_know_13 (by first | assumption | rfl) (Nat.le_of_ble_eq_true rfl) ⟨(Nat.le_of_ble_eq_true rfl), (Nat.le_of_ble_eq_true rfl)⟩ (fun E ws9 h9 => absurd h9 id) (fun v9 ws9 hp => ?_)
    obtain ⟨rfl, B2, rfl, hout, hrow⟩ := hp
    refine sv_aload_n C d_Mo_know_16 rfl rfl ?_
    refine sv_dup C d_Mo_know_17 rfl ?_
    refine sv_get (ci := 5) (kf := 8) C i_Mo rfl (by decide) f_Mo_61 (fun _ h9 => h9) d_Mo_know_18 (by first | assumption | rfl) rfl ?_
    refine sv_iconst (v := 1) C d_Mo_know_21 rfl ?_
    refine sv_iadd C d_Mo_know_22 ?_
    refine sv_put (ci := 5) (kf := 8) (ty := .int) C i_Mo t_Mo t_Mo_ok n_Mo rfl (by decide) f_Mo_61 (fun _ h9 => h9) rfl (by decide +kernel) d_Mo_know_23 (by first | assumption | rfl) rfl rfl (Nat.le_of_ble_eq_true rfl) ?_
    refine sv_goto (tgt := 0) C d_Mo_know_26 (by decide) ?_
    refine sv_eqw (ws' := hM cI cJ cZ L I V (hu W 4 (nI (kn + 1))) J B2 tl) (by rw [← nI_1]; rfl) ?_
    refine ih (kn + 1, B2) ⟨by dsimp only; omega, fun i z hi hz => ?_⟩ (by dsimp only; omega)
    have hi : i < kn + 1 := hi
    by_cases e : i = kn
    · rw [e, hrow z hz, tF_eq hwf (by omega)]
      have hT : ∀ g, g < kn → mTx B1 n g = tF (rs n r rl) (2 ^ n) kd xs ys g := fun g hg => by
        funext w
        refine propext ⟨fun q => (hB g w hg q.1).mp q.2, fun q => ⟨tF_lt q, (hB g w hg (tF_lt q)).mpr q⟩⟩
      rw [fm_cg (T := mTx B1 n) (T' := tF (rs n r rl) (2 ^ n) kd xs ys) (fun hk => hT _ (q1 hk).1) (fun hk => hT _ (q1 hk).2)]
      exact ⟨fun q => ⟨hz, q⟩, fun q => q.2⟩
    · show B2 0 (256 * i + z) = true ↔ _
      rw [hout (256 * i + z) (by omega)]
      exact hB i z (by omega) hz
