/-! StateLogic -/
set_option maxRecDepth 100000 in
set_option maxHeartbeats 8000000 in
theorem c_SL_requireState {l : Launch} {D : va_G} {cI cJ cZ : ClassId} {L : Nat → Nat → Int64} {I : Nat → Nat → Int32} {V : Nat → Int32} {tl : List va_E} (hl : l.stackTraces = false) {x : Int32} :
    sv_M l y_SL_requireState [Cond.code y_SL_requireState b_SL_requireState 2 none] ({ frames := 6, cells := 1, slots := 6, locals := 100 } : Room) D sv_cl (sv_ty cI cJ cZ) [.ref 0, .int x] (hC cI cJ cZ L I V tl) 0 0 (fun r ws' => r = none ∧ ws' = hC cI cJ cZ L I V tl ∧ (0 ≤ x ∧ x < V 0)) (fun E ws' => E = xIO ∧ ws' = hC cI cJ cZ L I V tl ∧ ¬ (0 ≤ x ∧ x < V 0)) 1 6 := by
  refine sv_of (cc := b_SL_requireState) (by decide +kernel) (Nat.le_of_ble_eq_true rfl) ?_
  intro pX eX sX mX aX bX tX cX AX adX C htab hnm
  refine sv_aload_n C d_SL_requireState_0 rfl rfl ?_
  refine sv_get (ci := 4) (kf := 0) C i_SL rfl (by decide) f_SL_10 (fun _ h9 => h9) d_SL_requireState_1 (by first | assumption | rfl) rfl ?_
  refine sv_iload_n C d_SL_requireState_4 rfl rfl ?_
  refine sv_callV (ci := 1) C (c_Ma_isState (cI := cI) (cJ := cJ) (cZ := cZ) (L := L) (I := I) (V := V) (tl := tl) (x := x)) s_SL_43 ki_Ma_isState ks_Ma_isState ⟨rfl, rfl, Nat.le_of_ble_eq_true rfl, Nat.le_of_ble_eq_true rfl⟩ rfl d_SL_requireState_5 (by first | assumption | rfl) (Nat.le_of_ble_eq_true rfl) ⟨(Nat.le_of_ble_eq_true rfl), (Nat.le_of_ble_eq_true rfl)⟩ (fun E ws9 h9 => absurd h9 id) (fun v9 ws9 hp => ?_)
  obtain ⟨rfl, rfl⟩ := hp
  by_cases h1 : 0 ≤ x ∧ x < V 0
  · rw [if_pos h1]
    refine sv_if_ne (tgt := 21) C d_SL_requireState_8 (by decide) (fun h => ?_) (fun h => ?_)
    · exact sv_vret C rfl d_SL_requireState_21 (Nat.le_of_ble_eq_true rfl) (Nat.le_of_ble_eq_true rfl) (fun _ _ => rfl) (⟨rfl, rfl, h1⟩)
    · exact absurd h (by decide)
  · rw [if_neg h1]
    refine sv_if_ne (tgt := 21) C d_SL_requireState_8 (by decide) (fun h => ?_) (fun h => ?_)
    · exact absurd rfl h
    · exact sv_throw C hl (cls := xIO) (text := "there is no such state") (names := xn) (ik := 129) (is := 134) (ic := 133) xf_IO xf_n c_SL_129 xz_IO (by decide +kernel) xh_IO xg_IO d_SL_requireState_11 d_SL_requireState_14 d_SL_requireState_15 d_SL_requireState_17 d_SL_requireState_20 htab (Nat.le_of_ble_eq_true rfl) (Nat.le_of_ble_eq_true rfl) ⟨(Nat.le_of_ble_eq_true rfl), (Nat.le_of_ble_eq_true rfl)⟩ (Nat.le_of_ble_eq_true rfl) (Nat.le_of_ble_eq_true rfl) (⟨rfl, rfl, h1⟩)
set_option maxRecDepth 100000 in
set_option maxHeartbeats 8000000 in
theorem c_SL_requireFormula {l : Launch} {D : va_G} {cI cJ cZ : ClassId} {L : Nat → Nat → Int64} {I : Nat → Nat → Int32} {V : Nat → Int32} {tl : List va_E} (hl : l.stackTraces = false) {x : Int32} :
    sv_M l y_SL_requireFormula [Cond.code y_SL_requireFormula b_SL_requireFormula 2 none] ({ frames := 6, cells := 1, slots := 6, locals := 100 } : Room) D sv_cl (sv_ty cI cJ cZ) [.ref 0, .int x] (hC cI cJ cZ L I V tl) 0 0 (fun r ws' => r = none ∧ ws' = hC cI cJ cZ L I V tl ∧ (0 ≤ x ∧ x < V 3)) (fun E ws' => E = xIO ∧ ws' = hC cI cJ cZ L I V tl ∧ ¬ (0 ≤ x ∧ x < V 3)) 1 6 := by
  refine sv_of (cc := b_SL_requireFormula) (by decide +kernel) (Nat.le_of_ble_eq_true rfl) ?_
  intro pX eX sX mX aX bX tX cX AX adX C htab hnm
  refine sv_aload_n C d_SL_requireFormula_0 rfl rfl ?_
  refine sv_get (ci := 4) (kf := 1) C i_SL rfl (by decide) f_SL_21 (fun _ h9 => h9) d_SL_requireFormula_1 (by first | assumption | rfl) rfl ?_
  refine sv_iload_n C d_SL_requireFormula_4 rfl rfl ?_
  refine sv_callV (ci := 0) C (c_Fo_isThere (cI := cI) (cJ := cJ) (cZ := cZ) (L := L) (I := I) (V := V) (tl := tl) (x := x)) s_SL_64 ki_Fo_isThere ks_Fo_isThere ⟨rfl, rfl, Nat.le_of_ble_eq_true rfl, Nat.le_of_ble_eq_true rfl⟩ rfl d_SL_requireFormula_5 (by first | assumption | rfl) (Nat.le_of_ble_eq_true rfl) ⟨(Nat.le_of_ble_eq_true rfl), (Nat.le_of_ble_eq_true rfl)⟩ (fun E ws9 h9 => absurd h9 id) (fun v9 ws9 hp => ?_)
  obtain ⟨rfl, rfl⟩ := hp
  by_cases h1 : 0 ≤ x ∧ x < V 3
  · rw [if_pos h1]
    refine sv_if_ne (tgt := 21) C d_SL_requireFormula_8 (by decide) (fun h => ?_) (fun h => ?_)
    · exact sv_vret C rfl d_SL_requireFormula_21 (Nat.le_of_ble_eq_true rfl) (Nat.le_of_ble_eq_true rfl) (fun _ _ => rfl) (⟨rfl, rfl, h1⟩)
    · exact absurd h (by decide)
  · rw [if_neg h1]
    refine sv_if_ne (tgt := 21) C d_SL_requireFormula_8 (by decide) (fun h => ?_) (fun h => ?_)
    · exact absurd rfl h
    · exact sv_throw C hl (cls := xIO) (text := "there is no such formula") (names := xn) (ik := 129) (is := 131) (ic := 133) xf_IO xf_n c_SL_129 xz_IO (by decide +kernel) xh_IO xg_IO d_SL_requireFormula_11 d_SL_requireFormula_14 d_SL_requireFormula_15 d_SL_requireFormula_17 d_SL_requireFormula_20 htab (Nat.le_of_ble_eq_true rfl) (Nat.le_of_ble_eq_true rfl) ⟨(Nat.le_of_ble_eq_true rfl), (Nat.le_of_ble_eq_true rfl)⟩ (Nat.le_of_ble_eq_true rfl) (Nat.le_of_ble_eq_true rfl) (⟨rfl, rfl, h1⟩)
set_option maxRecDepth 100000 in
set_option maxHeartbeats 8000000 in
theorem c_SL_requireUntil {l : Launch} {D : va_G} {cI cJ cZ : ClassId} {L : Nat → Nat → Int64} {I : Nat → Nat → Int32} {V : Nat → Int32} {tl : List va_E} (hl : l.stackTraces = false) {f : Nat} (hf : f < 60) :
    sv_M l y_SL_requireUntil [Cond.code y_SL_requireUntil b_SL_requireUntil 2 none] ({ frames := 6, cells := 1, slots := 6, locals := 100 } : Room) D sv_cl (sv_ty cI cJ cZ) [.ref 0, .int (nI f)] (hC cI cJ cZ L I V tl) 0 0 (fun r ws' => r = none ∧ ws' = hC cI cJ cZ L I V tl ∧ I 4 f = 5) (fun E ws' => E = xIA ∧ ws' = hC cI cJ cZ L I V tl ∧ ¬ I 4 f = 5) 1 6 := by
  refine sv_of (cc := b_SL_requireUntil) (by decide +kernel) (Nat.le_of_ble_eq_true rfl) ?_
  intro pX eX sX mX aX bX tX cX AX adX C htab hnm
  have hin : vp_in (nI f) 60 := vp_in_nI hf (by omega)
  have hic : (nI f).toNatClampNeg = f := nI_clamp (by omega)
  refine sv_aload_n C d_SL_requireUntil_0 rfl rfl ?_
  refine sv_get (ci := 4) (kf := 1) C i_SL rfl (by decide) f_SL_21 (fun _ h9 => h9) d_SL_requireUntil_1 (by first | assumption | rfl) rfl ?_
  refine sv_get (ci := 0) (kf := 3) C i_Fo rfl (by decide) f_SL_136 (fun _ h9 => h9) d_SL_requireUntil_4 (by first | assumption | rfl) rfl ?_
  refine sv_iload_n C d_SL_requireUntil_7 rfl rfl ?_
  refine sv_iald (t0 := 0) C rfl d_SL_requireUntil_8 (by first | assumption | rfl) (by assumption) ?_
  refine sv_eqs (st' := [.int (I 4 f)]) (by show [Value.int (I 4 (nI f).toNatClampNeg)] = _; rw [hic]) ?_
  refine sv_iconst (v := 5) C d_SL_requireUntil_9 rfl ?_
  refine sv_icmp_eq (tgt := 23) C d_SL_requireUntil_10 (by decide) (fun h => ?_) (fun h => ?_)
  · exact sv_vret C rfl d_SL_requireUntil_23 (Nat.le_of_ble_eq_true rfl) (Nat.le_of_ble_eq_true rfl) (fun _ _ => rfl) (⟨rfl, rfl, h⟩)
  · exact sv_throw C hl (cls := xIA) (text := "the formula is no UNTIL") (names := xn) (ik := 25) (is := 140) (ic := 29) xf_IA xf_n c_SL_25 xz_IA (by decide +kernel) xh_IA xg_IA d_SL_requireUntil_13 d_SL_requireUntil_16 d_SL_requireUntil_17 d_SL_requireUntil_19 d_SL_requireUntil_22 htab (Nat.le_of_ble_eq_true rfl) (Nat.le_of_ble_eq_true rfl) ⟨(Nat.le_of_ble_eq_true rfl), (Nat.le_of_ble_eq_true rfl)⟩ (Nat.le_of_ble_eq_true rfl) (Nat.le_of_ble_eq_true rfl) (⟨rfl, rfl, h⟩)
set_option maxRecDepth 100000 in
set_option maxHeartbeats 8000000 in
theorem c_SL_requirePattern {l : Launch} {D : va_G} {cI cJ cZ : ClassId} {L : Nat → Nat → Int64} {I : Nat → Nat → Int32} {V : Nat → Int32} {tl : List va_E} (hl : l.stackTraces = false) {m v : Int32} {n : Nat} (hV : V 0 = nI (2 ^ n)) :
    sv_M l y_SL_requirePattern [Cond.code y_SL_requirePattern b_SL_requirePattern 3 none] ({ frames := 6, cells := 1, slots := 6, locals := 100 } : Room) D sv_cl (sv_ty cI cJ cZ) [.ref 0, .int m, .int v] (hC cI cJ cZ L I V tl) 0 0 (fun r ws' => r = none ∧ ws' = hC cI cJ cZ L I V tl ∧ pT n m v) (fun E ws' => E = xIA ∧ ws' = hC cI cJ cZ L I V tl ∧ ¬ pT n m v) 1 6 := by
  refine sv_of (cc := b_SL_requirePattern) (by decide +kernel) (Nat.le_of_ble_eq_true rfl) ?_
  intro pX eX sX mX aX bX tX cX AX adX C htab hnm
  refine sv_aload_n C d_SL_requirePattern_0 rfl rfl ?_
  refine sv_get (ci := 4) (kf := 0) C i_SL rfl (by decide) f_SL_10 (fun _ h9 => h9) d_SL_requirePattern_1 (by first | assumption | rfl) rfl ?_
  refine sv_iload_n C d_SL_requirePattern_4 rfl rfl ?_
  refine sv_callV (ci := 1) C (c_Ma_isState (cI := cI) (cJ := cJ) (cZ := cZ) (L := L) (I := I) (V := V) (tl := tl) (x := m)) s_SL_43 ki_Ma_isState ks_Ma_isState ⟨rfl, rfl, Nat.le_of_ble_eq_true rfl, Nat.le_of_ble_eq_true rfl⟩ rfl d_SL_requirePattern_5 (by first | assumption | rfl) (Nat.le_of_ble_eq_true rfl) ⟨(Nat.le_of_ble_eq_true rfl), (Nat.le_of_ble_eq_true rfl)⟩ (fun E ws9 h9 => absurd h9 id) (fun v9 ws9 hp => ?_)
  obtain ⟨rfl, rfl⟩ := hp
  rw [hV]
  by_cases h1 : 0 ≤ m ∧ m < nI (2 ^ n)
  · rw [if_pos h1]
    refine sv_if_eq (tgt := 22) C d_SL_requirePattern_8 (by decide) (fun h => ?_) (fun h => ?_)
    · exact absurd h (by decide)
    · refine sv_aload_n C d_SL_requirePattern_11 rfl rfl ?_
      refine sv_get (ci := 4) (kf := 0) C i_SL rfl (by decide) f_SL_10 (fun _ h9 => h9) d_SL_requirePattern_12 (by first | assumption | rfl) rfl ?_
      refine sv_iload_n C d_SL_requirePattern_15 rfl rfl ?_
      refine sv_callV (ci := 1) C (c_Ma_isState (cI := cI) (cJ := cJ) (cZ := cZ) (L := L) (I := I) (V := V) (tl := tl) (x := v)) s_SL_43 ki_Ma_isState ks_Ma_isState ⟨rfl, rfl, Nat.le_of_ble_eq_true rfl, Nat.le_of_ble_eq_true rfl⟩ rfl d_SL_requirePattern_16 (by first | assumption | rfl) (Nat.le_of_ble_eq_true rfl) ⟨(Nat.le_of_ble_eq_true rfl), (Nat.le_of_ble_eq_true rfl)⟩ (fun E ws9 h9 => absurd h9 id) (fun v9 ws9 hp => ?_)
      obtain ⟨rfl, rfl⟩ := hp
      rw [hV]
      by_cases h2 : 0 ≤ v ∧ v < nI (2 ^ n)
      · rw [if_pos h2]
        refine sv_if_ne (tgt := 32) C d_SL_requirePattern_19 (by decide) (fun h => ?_) (fun h => ?_)
        · refine sv_iload_n C d_SL_requirePattern_32 rfl rfl ?_
          refine sv_iload_n C d_SL_requirePattern_33 rfl rfl ?_
          refine sv_iconst (v := (-1)) C d_SL_requirePattern_34 rfl ?_
          refine sv_ixor C d_SL_requirePattern_35 ?_
          refine sv_iand C d_SL_requirePattern_36 ?_
          refine sv_if_eq (tgt := 50) C d_SL_requirePattern_37 (by decide) (fun h3 => ?_) (fun h3 => ?_)
          · exact sv_vret C rfl d_SL_requirePattern_50 (Nat.le_of_ble_eq_true rfl) (Nat.le_of_ble_eq_true rfl) (fun _ _ => rfl) (⟨rfl, rfl, h1, h2, h3⟩)
          · exact sv_throw C hl (cls := xIA) (text := "the value has a bit that the mask hasn't") (names := xn) (ik := 25) (is := 127) (ic := 29) xf_IA xf_n c_SL_25 xz_IA (by decide +kernel) xh_IA xg_IA d_SL_requirePattern_40 d_SL_requirePattern_43 d_SL_requirePattern_44 d_SL_requirePattern_46 d_SL_requirePattern_49 htab (Nat.le_of_ble_eq_true rfl) (Nat.le_of_ble_eq_true rfl) ⟨(Nat.le_of_ble_eq_true rfl), (Nat.le_of_ble_eq_true rfl)⟩ (Nat.le_of_ble_eq_true rfl) (Nat.le_of_ble_eq_true rfl) (⟨rfl, rfl, fun q => h3 q.2.2⟩)
        · exact absurd h (by decide)
      · rw [if_neg h2]
        refine sv_if_ne (tgt := 32) C d_SL_requirePattern_19 (by decide) (fun h => ?_) (fun h => ?_)
        · exact absurd rfl h
        · exact sv_throw C hl (cls := xIA) (text := "the mask or the value isn't a state") (names := xn) (ik := 25) (is := 125) (ic := 29) xf_IA xf_n c_SL_25 xz_IA (by decide +kernel) xh_IA xg_IA d_SL_requirePattern_22 d_SL_requirePattern_25 d_SL_requirePattern_26 d_SL_requirePattern_28 d_SL_requirePattern_31 htab (Nat.le_of_ble_eq_true rfl) (Nat.le_of_ble_eq_true rfl) ⟨(Nat.le_of_ble_eq_true rfl), (Nat.le_of_ble_eq_true rfl)⟩ (Nat.le_of_ble_eq_true rfl) (Nat.le_of_ble_eq_true rfl) (⟨rfl, rfl, fun q => h2 q.2.1⟩)
  · rw [if_neg h1]
    refine sv_if_eq (tgt := 22) C d_SL_requirePattern_8 (by decide) (fun h => ?_) (fun h => ?_)
    · exact sv_throw C hl (cls := xIA) (text := "the mask or the value isn't a state") (names := xn) (ik := 25) (is := 125) (ic := 29) xf_IA xf_n c_SL_25 xz_IA (by decide +kernel) xh_IA xg_IA d_SL_requirePattern_22 d_SL_requirePattern_25 d_SL_requirePattern_26 d_SL_requirePattern_28 d_SL_requirePattern_31 htab (Nat.le_of_ble_eq_true rfl) (Nat.le_of_ble_eq_true rfl) ⟨(Nat.le_of_ble_eq_true rfl), (Nat.le_of_ble_eq_true rfl)⟩ (Nat.le_of_ble_eq_true rfl) (Nat.le_of_ble_eq_true rfl) (⟨rfl, rfl, fun q => h1 q.1⟩)
    · exact absurd rfl h
/-- begin's number is good -/
def bG (x : Int32) : Prop := 1 ≤ x ∧ x ≤ 8
theorem bG_nat {x : Int32} (h : bG x) : ∃ n, 1 ≤ n ∧ n ≤ 8 ∧ x = nI n := by
  obtain ⟨j, hj, rfl⟩ := nI_of (x := x) (fun q => absurd (Int32.lt_of_lt_of_le q (show (0 : Int32) ≤ 1 by decide)) (Int32.not_lt.mpr h.1))
  exact ⟨j, (nI_leI (a := 1) (b := j) (by omega) hj).mp h.1, (nI_leI (a := j) (b := 8) hj (by omega)).mp h.2, rfl⟩
set_option maxRecDepth 100000 in
set_option maxHeartbeats 8000000 in
theorem c_SL_begin {l : Launch} {D : va_G} {cI cJ cZ : ClassId} {L : Nat → Nat → Int64} {I : Nat → Nat → Int32} {V : Nat → Int32} {tl : List va_E} (hl : l.stackTraces = false) {n r mk : Nat} {rl : Nat → Nat × Nat × Nat × Nat} {kd xs ys : Nat → Nat} (hok : sl_ok L I V n r mk rl kd xs ys) {x : Int32} :
    sv_M l y_SL_begin [Cond.code y_SL_begin b_SL_begin 2 none] ({ frames := 6, cells := 4, slots := 24, locals := 100 } : Room) D sv_cl (sv_ty cI cJ cZ) [.ref 0, .int x] (hC cI cJ cZ L I V tl) 0 0 (fun q ws' => q = none ∧ bG x ∧ ∃ (L' : Nat → Nat → Int64) (I' : Nat → Nat → Int32) (V' : Nat → Int32), ws' = hC cI cJ cZ L' I' V' tl ∧ sl_ok L' I' V' x.toNatClampNeg 0 0 rl kd xs ys) (fun E ws' => E = xIA ∧ ws' = hC cI cJ cZ L I V tl ∧ ¬ bG x) 4 24 := by
  refine sv_of (cc := b_SL_begin) (by decide +kernel) (Nat.le_of_ble_eq_true rfl) ?_
  intro pX eX sX mX aX bX tX cX AX adX C htab hnm
  refine sv_iload_n C d_SL_begin_0 rfl rfl ?_
  refine sv_iconst (v := 1) C d_SL_begin_1 rfl ?_
  refine sv_icmp_lt (tgt := 11) C d_SL_begin_2 (by decide) (fun h1 => ?_) (fun h1 => ?_)
  · exact sv_throw C hl (cls := xIA) (text := "the number of bits isn't 1 .. 8") (names := xn) (ik := 25) (is := 27) (ic := 29) xf_IA xf_n c_SL_25 xz_IA (by decide +kernel) xh_IA xg_IA d_SL_begin_11 d_SL_begin_14 d_SL_begin_15 d_SL_begin_17 d_SL_begin_20 htab (Nat.le_of_ble_eq_true rfl) (Nat.le_of_ble_eq_true rfl) ⟨(Nat.le_of_ble_eq_true rfl), (Nat.le_of_ble_eq_true rfl)⟩ (Nat.le_of_ble_eq_true rfl) (Nat.le_of_ble_eq_true rfl) (⟨rfl, rfl, fun q => absurd h1 (Int32.not_lt.mpr q.1)⟩)
  · refine sv_iload_n C d_SL_begin_5 rfl rfl ?_
    refine sv_bipush (v := 8) C d_SL_begin_6 rfl ?_
    refine sv_icmp_le (tgt := 21) C d_SL_begin_8 (by decide) (fun h2 => ?_) (fun h2 => ?_)
    · have hg : bG x := ⟨Int32.not_lt.mp h1, h2⟩
      obtain ⟨k, hk1, hk8, rfl⟩ := bG_nat hg
      have hkc : (nI k).toNatClampNeg = k := nI_clamp (by omega)
      refine sv_aload_n C d_SL_begin_21 rfl rfl ?_
      refine sv_get (ci := 4) (kf := 0) C i_SL rfl (by decide) f_SL_10 (fun _ h9 => h9) d_SL_begin_22 (by first | assumption | rfl) rfl ?_
      refine sv_iload_n C d_SL_begin_25 rfl rfl ?_
      refine sv_callV (ci := 1) C (c_Ma_restart (cI := cI) (cJ := cJ) (cZ := cZ) (L := L) (I := I) (V := V) (tl := tl) (k := k) hk8) s_SL_32 ki_Ma_restart ks_Ma_restart ⟨rfl, rfl, Nat.le_of_ble_eq_true rfl, Nat.le_of_ble_eq_true rfl⟩ rfl d_SL_begin_26 (by first | assumption | rfl) (Nat.le_of_ble_eq_true rfl) ⟨(Nat.le_of_ble_eq_true rfl), (Nat.le_of_ble_eq_true rfl)⟩ (fun E ws9 h9 => absurd h9 id) (fun v9 ws9 hp => ?_)
      obtain ⟨rfl, f0, f1, f2, rfl, hf0, hf1, hf2⟩ := hp
      refine sv_aload_n C d_SL_begin_29 rfl rfl ?_
      refine sv_get (ci := 4) (kf := 1) C i_SL rfl (by decide) f_SL_21 (fun _ h9 => h9) d_SL_begin_30 (by first | assumption | rfl) rfl ?_
      refine sv_callV (ci := 0) C (c_Fo_forgetAll (cI := cI) (cJ := cJ) (cZ := cZ) (L := hu (hu (hu L 0 f0) 1 f1) 2 f2) (I := I) (V := hu (hu V 0 (nI (2 ^ k))) 1 0) (tl := tl)) s_SL_36 ki_Fo_forgetAll ks_Fo_forgetAll ⟨rfl, rfl, Nat.le_of_ble_eq_true rfl, Nat.le_of_ble_eq_true rfl⟩ rfl d_SL_begin_33 (by first | assumption | rfl) (Nat.le_of_ble_eq_true rfl) ⟨(Nat.le_of_ble_eq_true rfl), (Nat.le_of_ble_eq_true rfl)⟩ (fun E ws9 h9 => absurd h9 id) (fun v9 ws9 hp => ?_)
      obtain ⟨rfl, rfl⟩ := hp
      refine sv_vret C rfl d_SL_begin_36 (Nat.le_of_ble_eq_true rfl) (Nat.le_of_ble_eq_true rfl) (fun _ _ => rfl) (⟨rfl, hg, _, _, _, rfl, ?_⟩)
      rw [hkc]
      refine ⟨⟨⟨hk8, rfl, rfl, Nat.zero_le _, rfl, Nat.zero_le _, hf0, fun a b ha hb => (hf2 b a hb ha).trans (hf1 a b ha hb).symm⟩, fun i hi => absurd hi (Nat.not_lt_zero i), fun i hi => absurd hi (Nat.not_lt_zero i), fun i hi => absurd hi (Nat.not_lt_zero i), hok.1.2.2.2.2.1, Or.inl rfl⟩, hk1, fun i hi => absurd hi (Nat.not_lt_zero i), fun a b ha => ⟨fun h => ?_, fun h => ?_⟩⟩
      · have h3 : ss_b f1 a b = true := h.2
        rw [hf1 a b ha h.1] at h3
        exact absurd h3 (by decide)
      · obtain ⟨-, i, hi, -⟩ := h
        exact absurd hi (Nat.not_lt_zero i)
    · exact sv_throw C hl (cls := xIA) (text := "the number of bits isn't 1 .. 8") (names := xn) (ik := 25) (is := 27) (ic := 29) xf_IA xf_n c_SL_25 xz_IA (by decide +kernel) xh_IA xg_IA d_SL_begin_11 d_SL_begin_14 d_SL_begin_15 d_SL_begin_17 d_SL_begin_20 htab (Nat.le_of_ble_eq_true rfl) (Nat.le_of_ble_eq_true rfl) ⟨(Nat.le_of_ble_eq_true rfl), (Nat.le_of_ble_eq_true rfl)⟩ (Nat.le_of_ble_eq_true rfl) (Nat.le_of_ble_eq_true rfl) (⟨rfl, rfl, fun q => h2 q.2⟩)
def ruG (n : Nat) (m v k f : Int32) : Prop := pT n m v ∧ iS n k ∧ iS n f
abbrev ruN (rl : Nat → Nat × Nat × Nat × Nat) (r : Nat) (m v k f : Int32) : Nat → Nat × Nat × Nat × Nat := hu rl r (m.toNatClampNeg, v.toNatClampNeg, k.toNatClampNeg, f.toNatClampNeg)
theorem ev_new {n r m v k f : Nat} {rl : Nat → Nat × Nat × Nat × Nat} {g1 g2 : Nat → Int64} (hn : n ≤ 8) (hf : f < 2 ^ n) (hS : ∀ a b, a < 256 → (ev_S g1 a b ↔ rs n r rl a b)) (hg : ∀ a z, a < 256 → z < 256 → ss_b g2 a z = (ss_b g1 a z || (decide (a < 2 ^ n) && ma_g m v k f a z))) : ∀ a b, a < 256 → (ev_S g2 a b ↔ rs n (r + 1) (hu rl r (m, v, k, f)) a b) := by
  have hp8 := pow_le8 hn
  intro a b ha
  constructor
  · rintro ⟨hb, h⟩
    rw [hg a b ha hb] at h
    rcases Bool.or_eq_true_iff.mp h with h | h
    · obtain ⟨h1, i, hi, h2, h3⟩ := (hS a b ha).mp ⟨hb, h⟩
      refine ⟨h1, i, by omega, ?_⟩
      rw [hu_n (by omega)]
      exact ⟨h2, h3⟩
    · simp only [ma_g, Bool.and_eq_true, decide_eq_true_eq] at h
      refine ⟨h.1, r, by omega, ?_⟩
      rw [hu_s]
      exact h.2
  · rintro ⟨h1, i, hi, h2⟩
    by_cases e : i = r
    · subst e
      rw [hu_s] at h2
      have hb : b < 2 ^ n := by
        rw [h2.2]
        exact ma_to h1 hf
      refine ⟨by omega, ?_⟩
      rw [hg a b ha (by omega)]
      simp only [ma_g, Bool.or_eq_true, Bool.and_eq_true, decide_eq_true_eq]
      exact Or.inr ⟨h1, h2⟩
    · rw [hu_n e] at h2
      have h3 := (hS a b ha).mpr ⟨h1, i, by omega, h2⟩
      refine ⟨h3.1, ?_⟩
      rw [hg a b ha h3.1, h3.2]
      rfl
set_option maxRecDepth 100000 in
set_option maxHeartbeats 8000000 in
theorem c_SL_rule {l : Launch} {D : va_G} {cI cJ cZ : ClassId} {L : Nat → Nat → Int64} {I : Nat → Nat → Int32} {V : Nat → Int32} {tl : List va_E} (hl : l.stackTraces = false) {n r mk : Nat} {rl : Nat → Nat × Nat × Nat × Nat} {kd xs ys : Nat → Nat} (hok : sl_ok L I V n r mk rl kd xs ys) {m v k f : Int32} :
    sv_M l y_SL_rule [Cond.code y_SL_rule b_SL_rule 5 (some .int)] ({ frames := 7, cells := 4, slots := 24, locals := 122 } : Room) D sv_cl (sv_ty cI cJ cZ) [.ref 0, .int m, .int v, .int k, .int f] (hC cI cJ cZ L I V tl) 0 0 (fun q ws' => q = some (.int (nI r)) ∧ ruG n m v k f ∧ r < 40 ∧ ∃ (L' : Nat → Nat → Int64) (I' : Nat → Nat → Int32) (V' : Nat → Int32), ws' = hC cI cJ cZ L' I' V' tl ∧ sl_ok L' I' V' n (r + 1) mk (ruN rl r m v k f) kd xs ys) (fun E ws' => ws' = hC cI cJ cZ L I V tl ∧ ((E = xIA ∧ ¬ ruG n m v k f) ∨ (E = xUO ∧ ruG n m v k f ∧ ¬ r < 40))) 4 24 := by
  refine sv_of (cc := b_SL_rule) (by decide +kernel) (Nat.le_of_ble_eq_true rfl) ?_
  intro pX eX sX mX aX bX tX cX AX adX C htab hnm
  have hok' := hok
  obtain ⟨⟨⟨hn, hV0, hV1, hr40, hV3, hmk, hall, hSP⟩, hfm, hset, hst, hwa, hme⟩, hn1, hrl, hS⟩ := hok'
  have hp8 := pow_le8 hn
  refine sv_aload_n C d_SL_rule_0 rfl rfl ?_
  refine sv_iload_n C d_SL_rule_1 rfl rfl ?_
  refine sv_iload_n C d_SL_rule_2 rfl rfl ?_
  refine sv_callV (ci := 4) C (c_SL_requirePattern (cI := cI) (cJ := cJ) (cZ := cZ) (L := L) (I := I) (V := V) (tl := tl) hl (m := m) (v := v) (n := n) hV0) s_SL_39 ki_SL_requirePattern ks_SL_requirePattern ⟨rfl, rfl, Nat.le_of_ble_eq_true rfl, Nat.le_of_ble_eq_true rfl⟩ rfl d_SL_rule_3 (by first | assumption | rfl) (Nat.le_of_ble_eq_true rfl) ⟨(Nat.le_of_ble_eq_true rfl), (Nat.le_of_ble_eq_true rfl)⟩ (fun E ws9 h9 => sv_out C htab (Nat.le_of_ble_eq_true rfl) (Nat.le_of_ble_eq_true rfl) (by obtain ⟨rfl, rfl, h9⟩ := h9; exact ⟨rfl, Or.inl ⟨rfl, fun q => h9 q.1⟩⟩)) (fun v9 ws9 hp => ?_)
  obtain ⟨rfl, rfl, hP⟩ := hp
  refine sv_aload_n C d_SL_rule_6 rfl rfl ?_
  refine sv_get (ci := 4) (kf := 0) C i_SL rfl (by decide) f_SL_10 (fun _ h9 => h9) d_SL_rule_7 (by first | assumption | rfl) rfl ?_
  refine sv_iload_n C d_SL_rule_10 rfl rfl ?_
  refine sv_callV (ci := 1) C (c_Ma_isState (cI := cI) (cJ := cJ) (cZ := cZ) (L := L) (I := I) (V := V) (tl := tl) (x := k)) s_SL_43 ki_Ma_isState ks_Ma_isState ⟨rfl, rfl, Nat.le_of_ble_eq_true rfl, Nat.le_of_ble_eq_true rfl⟩ rfl d_SL_rule_11 (by first | assumption | rfl) (Nat.le_of_ble_eq_true rfl) ⟨(Nat.le_of_ble_eq_true rfl), (Nat.le_of_ble_eq_true rfl)⟩ (fun E ws9 h9 => absurd h9 id) (fun v9 ws9 hp => ?_)
  obtain ⟨rfl, rfl⟩ := hp
  rw [hV0]
  by_cases h1 : 0 ≤ k ∧ k < nI (2 ^ n)
  · rw [if_pos h1]
    refine sv_if_eq (tgt := 29) C d_SL_rule_14 (by decide) (fun h => ?_) (fun h => ?_)
    · exact absurd h (by decide)
    · refine sv_aload_n C d_SL_rule_17 rfl rfl ?_
      refine sv_get (ci := 4) (kf := 0) C i_SL rfl (by decide) f_SL_10 (fun _ h9 => h9) d_SL_rule_18 (by first | assumption | rfl) rfl ?_
      refine sv_iload C d_SL_rule_21 rfl ?_
      refine sv_callV (ci := 1) C (c_Ma_isState (cI := cI) (cJ := cJ) (cZ := cZ) (L := L) (I := I) (V := V) (tl := tl) (x := f)) s_SL_43 ki_Ma_isState ks_Ma_isState ⟨rfl, rfl, Nat.le_of_ble_eq_true rfl, Nat.le_of_ble_eq_true rfl⟩ rfl d_SL_rule_23 (by first | assumption | rfl) (Nat.le_of_ble_eq_true rfl) ⟨(Nat.le_of_ble_eq_true rfl), (Nat.le_of_ble_eq_true rfl)⟩ (fun E ws9 h9 => absurd h9 id) (fun v9 ws9 hp => ?_)
      obtain ⟨rfl, rfl⟩ := hp
      rw [hV0]
      by_cases h2 : 0 ≤ f ∧ f < nI (2 ^ n)
      · rw [if_pos h2]
        have hg : ruG n m v k f := ⟨hP, h1, h2⟩
        refine sv_if_ne (tgt := 39) C d_SL_rule_26 (by decide) (fun h => ?_) (fun h => ?_)
        · refine sv_aload_n C d_SL_rule_39 rfl rfl ?_
          refine sv_get (ci := 4) (kf := 0) C i_SL rfl (by decide) f_SL_10 (fun _ h9 => h9) d_SL_rule_40 (by first | assumption | rfl) rfl ?_
          refine sv_get (ci := 1) (kf := 4) C i_Ma rfl (by decide) f_SL_49 (fun _ h9 => h9) d_SL_rule_43 (by first | assumption | rfl) rfl ?_
          refine sv_bipush (v := 40) C d_SL_rule_46 rfl ?_
          rw [hV1]
          refine sv_icmp_lt (tgt := 61) C d_SL_rule_48 (by decide) (fun h3 => ?_) (fun h3 => ?_)
          · have h3 : r < 40 := (nI_ltI (a := r) (b := 40) (by omega) (by omega)).mp h3
            obtain ⟨m', hm, rfl⟩ := iS_nat hn hP.1
            obtain ⟨v', hv, rfl⟩ := iS_nat hn hP.2.1
            obtain ⟨k', hk, rfl⟩ := iS_nat hn h1
            obtain ⟨f', hf, rfl⟩ := iS_nat hn h2
            refine sv_aload_n C d_SL_rule_61 rfl rfl ?_
            refine sv_get (ci := 4) (kf := 0) C i_SL rfl (by decide) f_SL_10 (fun _ h9 => h9) d_SL_rule_62 (by first | assumption | rfl) rfl ?_
            refine sv_iload_n C d_SL_rule_65 rfl rfl ?_
            refine sv_iload_n C d_SL_rule_66 rfl rfl ?_
            refine sv_iload_n C d_SL_rule_67 rfl rfl ?_
            refine sv_iload C d_SL_rule_68 rfl ?_
            refine sv_callV (ci := 1) C (c_Ma_addRule (cI := cI) (cJ := cJ) (cZ := cZ) (L := L) (I := I) (V := V) (tl := tl) (n := n) (m := m') (v := v') (k := k') (f := f') (r := r) hn hV0 hV1 hm hv hk hf) s_SL_58 ki_Ma_addRule ks_Ma_addRule ⟨rfl, rfl, Nat.le_of_ble_eq_true rfl, Nat.le_of_ble_eq_true rfl⟩ rfl d_SL_rule_70 (by first | assumption | rfl) (Nat.le_of_ble_eq_true rfl) ⟨(Nat.le_of_ble_eq_true rfl), (Nat.le_of_ble_eq_true rfl)⟩ (fun E ws9 h9 => absurd h9 id) (fun v9 ws9 hp => ?_)
            obtain ⟨rfl, f1, f2, rfl, hf1, hf2⟩ := hp
            refine sv_iret C rfl rfl d_SL_rule_73 (Nat.le_of_ble_eq_true rfl) (Nat.le_of_ble_eq_true rfl) (fun _ _ => rfl) (⟨rfl, hg, h3, _, _, _, rfl, ?_⟩)
            rw [show ruN rl r (nI m') (nI v') (nI k') (nI f') = hu rl r (m', v', k', f') by unfold ruN; rw [nI_clamp (n := m') (by omega), nI_clamp (n := v') (by omega), nI_clamp (n := k') (by omega), nI_clamp (n := f') (by omega)]]
            have hno : ∀ i, i < mk → I 7 i ≠ nI (r + 1) := fun i hi e => by
              rcases hset i hi with q | ⟨j, hj, q⟩
              · exact sp_m1 (x := r + 1) (by omega) (e.symm.trans q)
              · have := nI_inj (by omega) (by omega) (e.symm.trans q)
                omega
            refine ⟨⟨⟨hn, hV0, rfl, by omega, hV3, hmk, hall, fun a b ha hb => ?_⟩, hfm, fun i hi => ?_, fun i hi h7 => absurd h7 (hno i hi), hwa, ?_⟩, hn1, fun i hi => ?_, ev_new hn hf hS hf1⟩
            · show ss_b f2 b a = ss_b f1 a b
              rw [hf2 a b ha hb, hf1 a b ha hb, hSP a b ha hb]
            · rcases hset i hi with q | ⟨j, hj, q⟩
              · exact Or.inl q
              · exact Or.inr ⟨j, by omega, q⟩
            · rcases hme with q | ⟨i, q1, q2, q3, -⟩
              · exact Or.inl q
              · exact Or.inr ⟨i, q1, q2, q3, fun h7 => absurd h7 (hno i q1)⟩
            · by_cases e : i = r
              · rw [e, hu_s]
                exact ⟨hm, hv, hk, hf⟩
              · rw [hu_n e]
                exact hrl i (by omega)
          · exact sv_throw C hl (cls := xUO) (text := "there are 40 rules") (names := xn) (ik := 53) (is := 55) (ic := 57) xf_UO xf_n c_SL_53 xz_UO (by decide +kernel) xh_UO xg_UO d_SL_rule_51 d_SL_rule_54 d_SL_rule_55 d_SL_rule_57 d_SL_rule_60 htab (Nat.le_of_ble_eq_true rfl) (Nat.le_of_ble_eq_true rfl) ⟨(Nat.le_of_ble_eq_true rfl), (Nat.le_of_ble_eq_true rfl)⟩ (Nat.le_of_ble_eq_true rfl) (Nat.le_of_ble_eq_true rfl) (⟨rfl, Or.inr ⟨rfl, hg, fun q => h3 ((nI_ltI (a := r) (b := 40) (by omega) (by omega)).mpr q)⟩⟩)
        · exact absurd h (by decide)
      · rw [if_neg h2]
        refine sv_if_ne (tgt := 39) C d_SL_rule_26 (by decide) (fun h => ?_) (fun h => ?_)
        · exact absurd rfl h
        · exact sv_throw C hl (cls := xIA) (text := "the bits kept or flipped aren't a state") (names := xn) (ik := 25) (is := 47) (ic := 29) xf_IA xf_n c_SL_25 xz_IA (by decide +kernel) xh_IA xg_IA d_SL_rule_29 d_SL_rule_32 d_SL_rule_33 d_SL_rule_35 d_SL_rule_38 htab (Nat.le_of_ble_eq_true rfl) (Nat.le_of_ble_eq_true rfl) ⟨(Nat.le_of_ble_eq_true rfl), (Nat.le_of_ble_eq_true rfl)⟩ (Nat.le_of_ble_eq_true rfl) (Nat.le_of_ble_eq_true rfl) (⟨rfl, Or.inl ⟨rfl, fun q => h2 q.2.2⟩⟩)
  · rw [if_neg h1]
    refine sv_if_eq (tgt := 29) C d_SL_rule_14 (by decide) (fun h => ?_) (fun h => ?_)
    · exact sv_throw C hl (cls := xIA) (text := "the bits kept or flipped aren't a state") (names := xn) (ik := 25) (is := 47) (ic := 29) xf_IA xf_n c_SL_25 xz_IA (by decide +kernel) xh_IA xg_IA d_SL_rule_29 d_SL_rule_32 d_SL_rule_33 d_SL_rule_35 d_SL_rule_38 htab (Nat.le_of_ble_eq_true rfl) (Nat.le_of_ble_eq_true rfl) ⟨(Nat.le_of_ble_eq_true rfl), (Nat.le_of_ble_eq_true rfl)⟩ (Nat.le_of_ble_eq_true rfl) (Nat.le_of_ble_eq_true rfl) (⟨rfl, Or.inl ⟨rfl, fun q => h1 q.2.1⟩⟩)
    · exact absurd rfl h
