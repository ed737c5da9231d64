/-! StateLogic: formulas and their answers -/
/-- y as the class keeps it -/
def yN (k x y : Int32) : Int32 := if k = 0 ∨ k = 2 ∨ k = 3 ∨ k = 5 ∨ k = 7 then y else x
theorem tp_nat {k : Nat} (hk : k ≤ 7) : tp (nI k) ↔ (k = 2 ∨ k = 3 ∨ k = 5 ∨ k = 7) := by
  have e : ∀ j, j ≤ 7 → (nI k = nI j ↔ k = j) := fun j hj => nI_eq (by omega) (by omega)
  unfold tp
  rw [show (2 : Int32) = nI 2 from rfl, show (3 : Int32) = nI 3 from rfl, show (5 : Int32) = nI 5 from rfl, show (7 : Int32) = nI 7 from rfl, e 2 (by omega), e 3 (by omega), e 5 (by omega), e 7 (by omega)]
theorem k8_nat {k : Int32} (h0 : 0 ≤ k) (h7 : k ≤ 7) : ∃ a, a ≤ 7 ∧ k = nI a := by
  obtain ⟨j, hj, rfl⟩ := nI_of (x := k) (Int32.not_lt.mpr h0)
  exact ⟨j, (nI_leI (a := j) (b := 7) hj (by omega)).mp h7, rfl⟩
/-- the class's state behind a new formula -/
theorem sl_add {L : Nat → Nat → Int64} {I : Nat → Nat → Int32} {V : Nat → Int32} {n r mk k x y : Nat} {rl : Nat → Nat × Nat × Nat × Nat} {kd xs ys : Nat → Nat} (hok : sl_ok L I V n r mk rl kd xs ys) (hm : mk < 60) (hk : k ≤ 7) (h0 : k = 0 → x < 256 ∧ y < 256) (h1 : k ≠ 0 → x < mk ∧ y < mk) (h6 : k = 6 → y = x) :
    sl_ok L (hu (hu (hu (hu I 4 (upd (I 4) mk (nI k))) 5 (upd (I 5) mk (nI x))) 6 (upd (I 6) mk (nI y))) 7 (upd (I 7) mk (-1))) (hu V 3 (nI (mk + 1))) n r (mk + 1) rl (hu kd mk k) (hu xs mk x) (hu ys mk y) := by
  obtain ⟨⟨⟨hn, hV0, hV1, hr40, hV3, hmk, hall, hSP⟩, hfm, hset, hst, hwa, hme⟩, hn1, hrl, hS⟩ := hok
  have hin : ∀ j, j < mk + 1 → j ≠ mk → j < mk := fun j h1 h2 => by omega
  refine ⟨⟨⟨hn, hV0, hV1, hr40, rfl, by omega, hall, hSP⟩, fun j hj => ?_, fun j hj => ?_, fun j hj h7 => ?_, hwa, ?_⟩, hn1, hrl, hS⟩
  · show upd (I 4) mk (nI k) j = nI (hu kd mk k j) ∧ upd (I 5) mk (nI x) j = nI (hu xs mk x j) ∧ upd (I 6) mk (nI y) j = nI (hu ys mk y j) ∧ hu kd mk k j ≤ 7 ∧ (hu kd mk k j = 0 → hu xs mk x j < 256 ∧ hu ys mk y j < 256) ∧ (hu kd mk k j ≠ 0 → hu xs mk x j < j ∧ hu ys mk y j < j) ∧ (hu kd mk k j = 6 → hu ys mk y j = hu xs mk x j)
    by_cases e : j = mk
    · rw [e, pk_us, pk_us, pk_us, hu_s, hu_s, hu_s]
      exact ⟨rfl, rfl, rfl, hk, h0, h1, h6⟩
    · rw [pk_un e, pk_un e, pk_un e, hu_n e, hu_n e, hu_n e]
      exact hfm j (hin j hj e)
  · show upd (I 7) mk (-1) j = -1 ∨ ∃ q, q ≤ r ∧ upd (I 7) mk (-1) j = nI q
    by_cases e : j = mk
    · rw [e, pk_us]
      exact Or.inl rfl
    · rw [pk_un e]
      exact hset j (hin j hj e)
  · have h7 : upd (I 7) mk (-1) j = nI r := h7
    by_cases e : j = mk
    · rw [e, pk_us] at h7
      exact absurd h7.symm (sp_m1 (by omega))
    · rw [pk_un e] at h7
      obtain ⟨g1, g2⟩ := hst j (hin j hj e) h7
      have g3 := (hfm j (hin j hj e)).2.2.2.2.2.1
      show (hu kd mk k j ≠ 0 → upd (I 7) mk (-1) (hu xs mk x j) = nI r ∧ upd (I 7) mk (-1) (hu ys mk y j) = nI r) ∧ ∀ z, ev_T (L 4) j z ↔ (z < 2 ^ n ∧ fm_v (ev_S (L 1)) (ev_T (L 4)) (hu kd mk k j) (hu xs mk x j) (hu ys mk y j) z)
      rw [hu_n e, hu_n e, hu_n e]
      refine ⟨fun hk0 => ?_, g2⟩
      have g4 := g3 hk0
      have g5 := g1 hk0
      rw [pk_un (by omega), pk_un (by omega)]
      exact g5
  · rcases hme with g | ⟨j, g1, g2, g3, g4⟩
    · exact Or.inl g
    · refine Or.inr ⟨j, by omega, g2, ?_, ?_⟩
      · rw [hu_n (by omega)]
        exact g3
      · have e : j ≠ mk := by omega
        show upd (I 7) mk (-1) j = nI r → un_ok (ev_S (L 1)) (ev_T (L 4) (hu xs mk x j)) (ev_T (L 4) (hu ys mk y j)) (2 ^ n) (I 1)
        rw [pk_un e, hu_n e, hu_n e]
        exact g4
set_option maxRecDepth 100000 in
set_option maxHeartbeats 8000000 in
theorem c_SL_formula {l : Launch} {D : va_G} {cI cJ cZ : ClassId} {L : Nat → Nat → Int64} {I : Nat → Nat → Int32} {V : Nat → Int32} {tl : List va_E} (hl : l.stackTraces = false) {n r mk : Nat} {rl : Nat → Nat × Nat × Nat × Nat} {kd xs ys : Nat → Nat} (hok : sl_ok L I V n r mk rl kd xs ys) {k x y : Int32} :
    sv_M l y_SL_formula [Cond.code y_SL_formula b_SL_formula 4 (some .int)] ({ frames := 7, cells := 4, slots := 24, locals := 122 } : Room) D sv_cl (sv_ty cI cJ cZ) [.ref 0, .int k, .int x, .int y] (hC cI cJ cZ L I V tl) 0 0 (fun q ws' => q = some (.int (nI mk)) ∧ fG n mk k x y ∧ mk < 60 ∧ ∃ (L' : Nat → Nat → Int64) (I' : Nat → Nat → Int32) (V' : Nat → Int32), ws' = hC cI cJ cZ L' I' V' tl ∧ sl_ok L' I' V' n r (mk + 1) rl (hu kd mk k.toNatClampNeg) (hu xs mk x.toNatClampNeg) (hu ys mk (yN k x y).toNatClampNeg)) (fun E ws' => ws' = hC cI cJ cZ L I V tl ∧ ((E = xIA ∧ ¬ fG n mk k x y) ∨ (E = xUO ∧ fG n mk k x y ∧ ¬ mk < 60))) 4 24 := by
  refine sv_of (cc := b_SL_formula) (by decide +kernel) (Nat.le_of_ble_eq_true rfl) ?_
  intro pX eX sX mX aX bX tX cX AX adX C htab hnm
  have hok' := hok
  obtain ⟨⟨⟨hn, hV0, hV1, hr40, hV3, hmk, hall, hSP⟩, hfm, hset, hst, hwa, hme⟩, hn1, hrl, hS⟩ := hok'
  have hp8 := pow_le8 hn
  refine sv_join (σ := Unit) (pc1 := 72) (st1 := []) (k1 := 1) (n1 := 6) (J := fun _ => fG n mk k x y) (lv1 := fun _ => [some (.ref 0), some (.int k), some (.int x), some (.int y)]) (ws1 := fun _ => hC cI cJ cZ L I V tl) ?_ (fun hj => ?_)
  · rintro _ hg
    refine sv_aload_n C d_SL_formula_72 rfl rfl ?_
    refine sv_get (ci := 4) (kf := 1) C i_SL rfl (by decide) f_SL_21 (fun _ h9 => h9) d_SL_formula_73 (by first | assumption | rfl) rfl ?_
    refine sv_get (ci := 0) (kf := 8) C i_Fo rfl (by decide) f_SL_72 (fun _ h9 => h9) d_SL_formula_76 (by first | assumption | rfl) rfl ?_
    refine sv_bipush (v := 60) C d_SL_formula_79 rfl ?_
    rw [hV3]
    refine sv_icmp_lt (tgt := 94) C d_SL_formula_81 (by decide) (fun h3 => ?_) (fun h3 => ?_)
    · have h3 : mk < 60 := (nI_ltI (a := mk) (b := 60) (by omega) (by omega)).mp h3
      refine sv_aload_n C d_SL_formula_94 rfl rfl ?_
      refine sv_get (ci := 4) (kf := 1) C i_SL rfl (by decide) f_SL_21 (fun _ h9 => h9) d_SL_formula_95 (by first | assumption | rfl) rfl ?_
      refine sv_iload_n C d_SL_formula_98 rfl rfl ?_
      refine sv_iload_n C d_SL_formula_99 rfl rfl ?_
      refine sv_iload_n C d_SL_formula_100 rfl rfl ?_
      refine sv_callV (ci := 0) C (c_Fo_addFormula (cI := cI) (cJ := cJ) (cZ := cZ) (L := L) (I := I) (V := V) (tl := tl) (mk := mk) (k := k) (x := x) (y := y) h3 hV3) s_SL_77 ki_Fo_addFormula ks_Fo_addFormula ⟨rfl, rfl, Nat.le_of_ble_eq_true rfl, Nat.le_of_ble_eq_true rfl⟩ rfl d_SL_formula_101 (by first | assumption | rfl) (Nat.le_of_ble_eq_true rfl) ⟨(Nat.le_of_ble_eq_true rfl), (Nat.le_of_ble_eq_true rfl)⟩ (fun E ws9 h9 => absurd h9 id) (fun v9 ws9 hp => ?_)
      obtain ⟨rfl, y', rfl, hy1, hy2⟩ := hp
      refine sv_iret C rfl rfl d_SL_formula_104 (Nat.le_of_ble_eq_true rfl) (Nat.le_of_ble_eq_true rfl) (fun _ _ => rfl) (⟨rfl, hg, h3, _, _, _, rfl, ?_⟩)
      obtain ⟨g0, g7, gA, gB⟩ := hg
      obtain ⟨k', hk', rfl⟩ := k8_nat g0 g7
      rw [nI_clamp (n := k') (by omega)]
      by_cases e0 : k' = 0
      · subst e0
        have hP := gA rfl
        obtain ⟨a, ha, rfl⟩ := iS_nat hn hP.1
        obtain ⟨b, hb, rfl⟩ := iS_nat hn hP.2.1
        have e1 : y' = nI b := hy1 (Or.inl rfl)
        have e2 : yN (nI 0) (nI a) (nI b) = nI b := if_pos (Or.inl rfl)
        rw [e1, e2, nI_clamp (n := a) (by omega), nI_clamp (n := b) (by omega)]
        exact sl_add hok h3 (Nat.zero_le _) (fun _ => ⟨by omega, by omega⟩) (fun h => absurd rfl h) (fun h => absurd h (by decide))
      · have hk0 : nI k' ≠ 0 := fun h => e0 (nI_inj (b := 0) (by omega) (by omega) h)
        have hB := gB hk0
        obtain ⟨a, ha, rfl⟩ := iF_nat hmk hB.1
        by_cases ht : tp (nI k')
        · obtain ⟨b, hb, rfl⟩ := iF_nat hmk (hB.2 ht)
          have e1 : y' = nI b := hy1 (Or.inr ht)
          have e2 : yN (nI k') (nI a) (nI b) = nI b := if_pos (Or.inr ht)
          rw [e1, e2, nI_clamp (n := a) (by omega), nI_clamp (n := b) (by omega)]
          refine sl_add hok h3 hk' (fun h => absurd h e0) (fun _ => ⟨ha, hb⟩) (fun h => ?_)
          have := (tp_nat hk').mp ht
          omega
        · have e1 : y' = nI a := hy2 (fun q => q.elim hk0 ht)
          have e2 : yN (nI k') (nI a) y = nI a := if_neg (fun q => q.elim hk0 ht)
          rw [e1, e2, nI_clamp (n := a) (by omega)]
          exact sl_add hok h3 hk' (fun h => absurd h e0) (fun _ => ⟨ha, ha⟩) (fun _ => rfl)
    · exact sv_throw C hl (cls := xUO) (text := "there are 60 formulas") (names := xn) (ik := 53) (is := 75) (ic := 57) xf_UO xf_n c_SL_53 xz_UO (by decide +kernel) xh_UO xg_UO d_SL_formula_84 d_SL_formula_87 d_SL_formula_88 d_SL_formula_90 d_SL_formula_93 htab (Nat.le_of_ble_eq_true rfl) (Nat.le_of_ble_eq_true rfl) ⟨(Nat.le_of_ble_eq_true rfl), (Nat.le_of_ble_eq_true rfl)⟩ (Nat.le_of_ble_eq_true rfl) (Nat.le_of_ble_eq_true rfl) (⟨rfl, Or.inr ⟨rfl, hg, fun q => h3 ((nI_ltI (a := mk) (b := 60) (by omega) (by omega)).mpr q)⟩⟩)
  · refine sv_iload_n C d_SL_formula_0 rfl rfl ?_
    refine sv_if_lt (tgt := 10) C d_SL_formula_1 (by decide) (fun h1 => ?_) (fun h1 => ?_)
    · exact sv_throw C hl (cls := xIA) (text := "there is no such kind") (names := xn) (ik := 25) (is := 62) (ic := 29) xf_IA xf_n c_SL_25 xz_IA (by decide +kernel) xh_IA xg_IA d_SL_formula_10 d_SL_formula_13 d_SL_formula_14 d_SL_formula_16 d_SL_formula_19 htab (Nat.le_of_ble_eq_true rfl) (Nat.le_of_ble_eq_true rfl) ⟨(Nat.le_of_ble_eq_true rfl), (Nat.le_of_ble_eq_true rfl)⟩ (Nat.le_of_ble_eq_true rfl) (Nat.le_of_ble_eq_true rfl) (⟨rfl, Or.inl ⟨rfl, fun q => absurd h1 (Int32.not_lt.mpr q.1)⟩⟩)
    · refine sv_iload_n C d_SL_formula_4 rfl rfl ?_
      refine sv_bipush (v := 7) C d_SL_formula_5 rfl ?_
      refine sv_icmp_le (tgt := 20) C d_SL_formula_7 (by decide) (fun h2 => ?_) (fun h2 => ?_)
      · have h0 : 0 ≤ k := Int32.not_lt.mp h1
        have h7 : k ≤ 7 := h2
        refine sv_iload_n C d_SL_formula_20 rfl rfl ?_
        refine sv_if_ne (tgt := 33) C d_SL_formula_21 (by decide) (fun h3 => ?_) (fun h3 => ?_)
        · refine sv_aload_n C d_SL_formula_33 rfl rfl ?_
          refine sv_get (ci := 4) (kf := 1) C i_SL rfl (by decide) f_SL_21 (fun _ h9 => h9) d_SL_formula_34 (by first | assumption | rfl) rfl ?_
          refine sv_iload_n C d_SL_formula_37 rfl rfl ?_
          refine sv_callV (ci := 0) C (c_Fo_isThere (cI := cI) (cJ := cJ) (cZ := cZ) (L := L) (I := I) (V := V) (tl := tl) (x := x)) s_SL_64 ki_Fo_isThere ks_Fo_isThere ⟨rfl, rfl, Nat.le_of_ble_eq_true rfl, Nat.le_of_ble_eq_true rfl⟩ rfl d_SL_formula_38 (by first | assumption | rfl) (Nat.le_of_ble_eq_true rfl) ⟨(Nat.le_of_ble_eq_true rfl), (Nat.le_of_ble_eq_true rfl)⟩ (fun E ws9 h9 => absurd h9 id) (fun v9 ws9 hp => ?_)
          obtain ⟨rfl, rfl⟩ := hp
          rw [hV3]
          by_cases hx : 0 ≤ x ∧ x < nI mk
          · rw [if_pos hx]
            refine sv_if_eq (tgt := 62) C d_SL_formula_41 (by decide) (fun h => ?_) (fun h => ?_)
            · exact absurd h (by decide)
            · refine sv_iload_n C d_SL_formula_44 rfl rfl ?_
              refine sv_callS C (c_SL_hasTwoParts (cI := cI) (cJ := cJ) (cZ := cZ) (k := k)) s_SL_67 kt_SL_hasTwoParts ⟨rfl, rfl, Nat.le_of_ble_eq_true rfl, Nat.le_of_ble_eq_true rfl⟩ d_SL_formula_45 (Nat.le_of_ble_eq_true rfl) ⟨(Nat.le_of_ble_eq_true rfl), (Nat.le_of_ble_eq_true rfl)⟩ (fun E ws9 h9 => absurd h9 id) (fun v9 ws9 hp => ?_)
              obtain ⟨t, rfl, ht, rfl⟩ := hp
              cases t with
              | true =>
                have ht := ht.mp rfl
                refine sv_if_eq (tgt := 72) C d_SL_formula_48 (by decide) (fun h => ?_) (fun h => ?_)
                · exact absurd h (by decide)
                · refine sv_aload_n C d_SL_formula_51 rfl rfl ?_
                  refine sv_get (ci := 4) (kf := 1) C i_SL rfl (by decide) f_SL_21 (fun _ h9 => h9) d_SL_formula_52 (by first | assumption | rfl) rfl ?_
                  refine sv_iload_n C d_SL_formula_55 rfl rfl ?_
                  refine sv_callV (ci := 0) C (c_Fo_isThere (cI := cI) (cJ := cJ) (cZ := cZ) (L := L) (I := I) (V := V) (tl := tl) (x := y)) s_SL_64 ki_Fo_isThere ks_Fo_isThere ⟨rfl, rfl, Nat.le_of_ble_eq_true rfl, Nat.le_of_ble_eq_true rfl⟩ rfl d_SL_formula_56 (by first | assumption | rfl) (Nat.le_of_ble_eq_true rfl) ⟨(Nat.le_of_ble_eq_true rfl), (Nat.le_of_ble_eq_true rfl)⟩ (fun E ws9 h9 => absurd h9 id) (fun v9 ws9 hp => ?_)
                  obtain ⟨rfl, rfl⟩ := hp
                  rw [hV3]
                  by_cases hy : 0 ≤ y ∧ y < nI mk
                  · rw [if_pos hy]
                    refine sv_if_ne (tgt := 72) C d_SL_formula_59 (by decide) (fun h => ?_) (fun h => ?_)
                    · refine sv_widen (k' := 1) (n' := 6) (Nat.le_of_ble_eq_true rfl) (Nat.le_of_ble_eq_true rfl) ?_
                      exact hj () ⟨h0, h7, fun q => absurd q h3, fun _ => ⟨hx, fun _ => hy⟩⟩
                    · exact absurd h (by decide)
                  · rw [if_neg hy]
                    refine sv_if_ne (tgt := 72) C d_SL_formula_59 (by decide) (fun h => ?_) (fun h => ?_)
                    · exact absurd rfl h
                    · exact sv_throw C hl (cls := xIA) (text := "a part isn't there") (names := xn) (ik := 25) (is := 70) (ic := 29) xf_IA xf_n c_SL_25 xz_IA (by decide +kernel) xh_IA xg_IA d_SL_formula_62 d_SL_formula_65 d_SL_formula_66 d_SL_formula_68 d_SL_formula_71 htab (Nat.le_of_ble_eq_true rfl) (Nat.le_of_ble_eq_true rfl) ⟨(Nat.le_of_ble_eq_true rfl), (Nat.le_of_ble_eq_true rfl)⟩ (Nat.le_of_ble_eq_true rfl) (Nat.le_of_ble_eq_true rfl) (⟨rfl, Or.inl ⟨rfl, fun q => hy ((q.2.2.2 h3).2 ht)⟩⟩)
              | false =>
                have ht : ¬ tp k := fun q => absurd (ht.mpr q) (by decide)
                refine sv_if_eq (tgt := 72) C d_SL_formula_48 (by decide) (fun h => ?_) (fun h => ?_)
                · refine sv_widen (k' := 1) (n' := 6) (Nat.le_of_ble_eq_true rfl) (Nat.le_of_ble_eq_true rfl) ?_
                  exact hj () ⟨h0, h7, fun q => absurd q h3, fun _ => ⟨hx, fun q => absurd q ht⟩⟩
                · exact absurd rfl h
          · rw [if_neg hx]
            refine sv_if_eq (tgt := 62) C d_SL_formula_41 (by decide) (fun h => ?_) (fun h => ?_)
            · exact sv_throw C hl (cls := xIA) (text := "a part isn't there") (names := xn) (ik := 25) (is := 70) (ic := 29) xf_IA xf_n c_SL_25 xz_IA (by decide +kernel) xh_IA xg_IA d_SL_formula_62 d_SL_formula_65 d_SL_formula_66 d_SL_formula_68 d_SL_formula_71 htab (Nat.le_of_ble_eq_true rfl) (Nat.le_of_ble_eq_true rfl) ⟨(Nat.le_of_ble_eq_true rfl), (Nat.le_of_ble_eq_true rfl)⟩ (Nat.le_of_ble_eq_true rfl) (Nat.le_of_ble_eq_true rfl) (⟨rfl, Or.inl ⟨rfl, fun q => hx (q.2.2.2 h3).1⟩⟩)
            · exact absurd rfl h
        · refine sv_aload_n C d_SL_formula_24 rfl rfl ?_
          refine sv_iload_n C d_SL_formula_25 rfl rfl ?_
          refine sv_iload_n C d_SL_formula_26 rfl rfl ?_
          refine sv_callV (ci := 4) C (c_SL_requirePattern (cI := cI) (cJ := cJ) (cZ := cZ) (L := L) (I := I) (V := V) (tl := tl) hl (m := x) (v := y) (n := n) hV0) s_SL_39 ki_SL_requirePattern ks_SL_requirePattern ⟨rfl, rfl, Nat.le_of_ble_eq_true rfl, Nat.le_of_ble_eq_true rfl⟩ rfl d_SL_formula_27 (by first | assumption | rfl) (Nat.le_of_ble_eq_true rfl) ⟨(Nat.le_of_ble_eq_true rfl), (Nat.le_of_ble_eq_true rfl)⟩ (fun E ws9 h9 => sv_out C htab (Nat.le_of_ble_eq_true rfl) (Nat.le_of_ble_eq_true rfl) (by obtain ⟨rfl, rfl, h9⟩ := h9; exact ⟨rfl, Or.inl ⟨rfl, fun q => h9 (q.2.2.1 h3)⟩⟩)) (fun v9 ws9 hp => ?_)
          obtain ⟨rfl, rfl, hP⟩ := hp
          refine sv_goto (tgt := 72) C d_SL_formula_30 (by decide) ?_
          exact hj () ⟨h0, h7, fun _ => hP, fun q => absurd h3 q⟩
      · exact sv_throw C hl (cls := xIA) (text := "there is no such kind") (names := xn) (ik := 25) (is := 62) (ic := 29) xf_IA xf_n c_SL_25 xz_IA (by decide +kernel) xh_IA xg_IA d_SL_formula_10 d_SL_formula_13 d_SL_formula_14 d_SL_formula_16 d_SL_formula_19 htab (Nat.le_of_ble_eq_true rfl) (Nat.le_of_ble_eq_true rfl) ⟨(Nat.le_of_ble_eq_true rfl), (Nat.le_of_ble_eq_true rfl)⟩ (Nat.le_of_ble_eq_true rfl) (Nat.le_of_ble_eq_true rfl) (⟨rfl, Or.inl ⟨rfl, fun q => h2 q.2.1⟩⟩)
