/-! The reference: its cells, and its small methods -/
/-- W: thrown, bits, rules, formulas, known; J: mask, value, keep, flip, kinds, xs, ys, far; B: holds, set, goal -/
def mC (cI cZ : ClassId) (W : Nat → Int32) (J : Nat → Nat → Int32) (B : Nat → Nat → Bool) (tl : List va_E) : List va_E :=
  .inr (5, [.int (W 0), .int (W 1), .int (W 2), .ref 24, .ref 25, .ref 26, .ref 27, .int (W 3), .int (W 4), .ref 28, .ref 29, .ref 30, .ref 31, .ref 32, .ref 33, .ref 34]) :: sv_I cI 40 (J 0) :: sv_I cI 40 (J 1) :: sv_I cI 40 (J 2) :: sv_I cI 40 (J 3) :: sv_I cI 60 (J 4) :: sv_I cI 60 (J 5) :: sv_I cI 60 (J 6) ::
  sv_I cZ 15360 (fun i => b2i (B 0 i)) :: sv_I cZ 256 (fun i => b2i (B 1 i)) :: sv_I cZ 256 (fun i => b2i (B 2 i)) :: sv_I cI 256 (J 7) :: tl
def hM (cI cJ cZ : ClassId) (L : Nat → Nat → Int64) (I : Nat → Nat → Int32) (V : Nat → Int32) (W : Nat → Int32) (J : Nat → Nat → Int32) (B : Nat → Nat → Bool) (tl : List va_E) : List va_E := hC cI cJ cZ L I V (mC cI cZ W J B tl)
theorem b2i_nar (t : Bool) : vp_nar .boolean (b2i t) = b2i t := by cases t <;> rfl
theorem b2i_upd (b : Nat → Bool) (k : Nat) (t : Bool) : upd (fun i => b2i (b i)) k (vp_nar .boolean (b2i t)) = fun i => b2i (hu b k t i) := by
  funext i
  rw [b2i_nar]
  by_cases e : i = k
  · rw [e, pk_us, hu_s]
  · rw [pk_un e, hu_n e]
theorem b2i_nb (t : Bool) : narrow .boolean (.int (b2i t)) = .int (b2i t) := by cases t <;> rfl
theorem b2i_0 (t : Bool) : b2i t = 0 ↔ t = false := by cases t <;> decide
theorem Bt {t : Bool} (h : ¬ t = true) : t = false := by cases t; rfl; exact absurd rfl h
set_option maxRecDepth 100000 in
set_option maxHeartbeats 8000000 in
theorem c_Mo_thrown {l : Launch} {D : va_G} {cI cJ cZ : ClassId} {L : Nat → Nat → Int64} {I : Nat → Nat → Int32} {V : Nat → Int32} {W : Nat → Int32} {J : Nat → Nat → Int32} {B : Nat → Nat → Bool} {tl : List va_E} :
    sv_M l y_Mo_thrown [Cond.code y_Mo_thrown b_Mo_thrown 1 (some .int)] ({ frames := 0, cells := 0, slots := 0, locals := 0 } : Room) D sv_cl (sv_ty cI cJ cZ) [.ref 23] (hM cI cJ cZ L I V W J B tl) 0 0 (fun q ws' => q = some (.int (W 0)) ∧ ws' = hM cI cJ cZ L I V W J B tl) sv_no 0 0 := by
  refine sv_of (cc := b_Mo_thrown) (by decide +kernel) (Nat.le_of_ble_eq_true rfl) ?_
  intro pX eX sX mX aX bX tX cX AX adX C htab hnm
  refine sv_aload_n C d_Mo_thrown_0 rfl rfl ?_
  refine sv_get (ci := 5) (kf := 0) C i_Mo rfl (by decide) f_Mo_48 (fun _ h9 => h9) d_Mo_thrown_1 (by first | assumption | rfl) rfl ?_
  exact sv_iret C rfl rfl d_Mo_thrown_4 (Nat.le_of_ble_eq_true rfl) (Nat.le_of_ble_eq_true rfl) (fun _ _ => rfl) (⟨rfl, rfl⟩)
/-- what the reference notes of a refusal -/
def rfz (a b c : Bool) : Int32 := if a = true then 1 else if b = true then 2 else if c = true then 3 else 0
set_option maxRecDepth 100000 in
set_option maxHeartbeats 8000000 in
theorem c_Mo_refuse {l : Launch} {D : va_G} {cI cJ cZ : ClassId} {L : Nat → Nat → Int64} {I : Nat → Nat → Int32} {V : Nat → Int32} {W : Nat → Int32} {J : Nat → Nat → Int32} {B : Nat → Nat → Bool} {tl : List va_E} {a b c : Bool} :
    sv_M l y_Mo_refuse [Cond.code y_Mo_refuse b_Mo_refuse 4 (some .boolean)] ({ frames := 0, cells := 0, slots := 0, locals := 0 } : Room) D sv_cl (sv_ty cI cJ cZ) [.ref 23, .int (b2i a), .int (b2i b), .int (b2i c)] (hM cI cJ cZ L I V W J B tl) 0 0 (fun q ws' => q = some (.int (b2i (a || b || c))) ∧ ws' = hM cI cJ cZ L I V (hu W 0 (rfz a b c)) J B tl) sv_no 0 0 := by
  refine sv_of (cc := b_Mo_refuse) (by decide +kernel) (Nat.le_of_ble_eq_true rfl) ?_
  intro pX eX sX mX aX bX tX cX AX adX C htab hnm
  refine sv_aload_n C d_Mo_refuse_0 rfl rfl ?_
  refine sv_iload_n C d_Mo_refuse_1 rfl rfl ?_
  cases a with
  | true =>
    refine sv_if_eq (tgt := 9) C d_Mo_refuse_2 (by decide) (fun h => ?_) (fun h => ?_)
    · exact absurd h (by decide)
    · refine sv_iconst (v := 1) C d_Mo_refuse_5 rfl ?_
      refine sv_goto (tgt := 26) C d_Mo_refuse_6 (by decide) ?_
      refine sv_put (ci := 5) (kf := 0) (ty := .int) C i_Mo t_Mo t_Mo_ok n_Mo rfl (by decide) f_Mo_48 (fun _ h9 => h9) rfl (by decide +kernel) d_Mo_refuse_26 (by first | assumption | rfl) rfl rfl (Nat.le_of_ble_eq_true rfl) ?_
      refine sv_aload_n C d_Mo_refuse_29 rfl rfl ?_
      refine sv_get (ci := 5) (kf := 0) C i_Mo rfl (by decide) f_Mo_48 (fun _ h9 => h9) d_Mo_refuse_30 (by first | assumption | rfl) rfl ?_
      refine sv_eqw (ws' := hM cI cJ cZ L I V (hu W 0 1) J B tl) rfl ?_
      refine sv_if_le (tgt := 40) C d_Mo_refuse_33 (by decide) (fun h1 => ?_) (fun h1 => ?_)
      · exact absurd h1 (by decide)
      · refine sv_iconst (v := 1) C d_Mo_refuse_36 rfl ?_
        refine sv_goto (tgt := 41) C d_Mo_refuse_37 (by decide) ?_
        exact sv_iret C rfl rfl d_Mo_refuse_41 (Nat.le_of_ble_eq_true rfl) (Nat.le_of_ble_eq_true rfl) (fun _ _ => rfl) (⟨rfl, rfl⟩)
  | false =>
    refine sv_if_eq (tgt := 9) C d_Mo_refuse_2 (by decide) (fun h => ?_) (fun h => ?_)
    · refine sv_iload_n C d_Mo_refuse_9 rfl rfl ?_
      cases b with
      | true =>
        refine sv_if_eq (tgt := 17) C d_Mo_refuse_10 (by decide) (fun h => ?_) (fun h => ?_)
        · exact absurd h (by decide)
        · refine sv_iconst (v := 2) C d_Mo_refuse_13 rfl ?_
          refine sv_goto (tgt := 26) C d_Mo_refuse_14 (by decide) ?_
          refine sv_put (ci := 5) (kf := 0) (ty := .int) C i_Mo t_Mo t_Mo_ok n_Mo rfl (by decide) f_Mo_48 (fun _ h9 => h9) rfl (by decide +kernel) d_Mo_refuse_26 (by first | assumption | rfl) rfl rfl (Nat.le_of_ble_eq_true rfl) ?_
          refine sv_aload_n C d_Mo_refuse_29 rfl rfl ?_
          refine sv_get (ci := 5) (kf := 0) C i_Mo rfl (by decide) f_Mo_48 (fun _ h9 => h9) d_Mo_refuse_30 (by first | assumption | rfl) rfl ?_
          refine sv_eqw (ws' := hM cI cJ cZ L I V (hu W 0 2) J B tl) rfl ?_
          refine sv_if_le (tgt := 40) C d_Mo_refuse_33 (by decide) (fun h1 => ?_) (fun h1 => ?_)
          · exact absurd h1 (by decide)
          · refine sv_iconst (v := 1) C d_Mo_refuse_36 rfl ?_
            refine sv_goto (tgt := 41) C d_Mo_refuse_37 (by decide) ?_
            exact sv_iret C rfl rfl d_Mo_refuse_41 (Nat.le_of_ble_eq_true rfl) (Nat.le_of_ble_eq_true rfl) (fun _ _ => rfl) (⟨rfl, rfl⟩)
      | false =>
        refine sv_if_eq (tgt := 17) C d_Mo_refuse_10 (by decide) (fun h => ?_) (fun h => ?_)
        · refine sv_iload_n C d_Mo_refuse_17 rfl rfl ?_
          cases c with
          | true =>
            refine sv_if_eq (tgt := 25) C d_Mo_refuse_18 (by decide) (fun h => ?_) (fun h => ?_)
            · exact absurd h (by decide)
            · refine sv_iconst (v := 3) C d_Mo_refuse_21 rfl ?_
              refine sv_goto (tgt := 26) C d_Mo_refuse_22 (by decide) ?_
              refine sv_put (ci := 5) (kf := 0) (ty := .int) C i_Mo t_Mo t_Mo_ok n_Mo rfl (by decide) f_Mo_48 (fun _ h9 => h9) rfl (by decide +kernel) d_Mo_refuse_26 (by first | assumption | rfl) rfl rfl (Nat.le_of_ble_eq_true rfl) ?_
              refine sv_aload_n C d_Mo_refuse_29 rfl rfl ?_
              refine sv_get (ci := 5) (kf := 0) C i_Mo rfl (by decide) f_Mo_48 (fun _ h9 => h9) d_Mo_refuse_30 (by first | assumption | rfl) rfl ?_
              refine sv_eqw (ws' := hM cI cJ cZ L I V (hu W 0 3) J B tl) rfl ?_
              refine sv_if_le (tgt := 40) C d_Mo_refuse_33 (by decide) (fun h1 => ?_) (fun h1 => ?_)
              · exact absurd h1 (by decide)
              · refine sv_iconst (v := 1) C d_Mo_refuse_36 rfl ?_
                refine sv_goto (tgt := 41) C d_Mo_refuse_37 (by decide) ?_
                exact sv_iret C rfl rfl d_Mo_refuse_41 (Nat.le_of_ble_eq_true rfl) (Nat.le_of_ble_eq_true rfl) (fun _ _ => rfl) (⟨rfl, rfl⟩)
          | false =>
            refine sv_if_eq (tgt := 25) C d_Mo_refuse_18 (by decide) (fun h => ?_) (fun h => ?_)
            · refine sv_iconst (v := 0) C d_Mo_refuse_25 rfl ?_
              refine sv_put (ci := 5) (kf := 0) (ty := .int) C i_Mo t_Mo t_Mo_ok n_Mo rfl (by decide) f_Mo_48 (fun _ h9 => h9) rfl (by decide +kernel) d_Mo_refuse_26 (by first | assumption | rfl) rfl rfl (Nat.le_of_ble_eq_true rfl) ?_
              refine sv_aload_n C d_Mo_refuse_29 rfl rfl ?_
              refine sv_get (ci := 5) (kf := 0) C i_Mo rfl (by decide) f_Mo_48 (fun _ h9 => h9) d_Mo_refuse_30 (by first | assumption | rfl) rfl ?_
              refine sv_eqw (ws' := hM cI cJ cZ L I V (hu W 0 0) J B tl) rfl ?_
              refine sv_if_le (tgt := 40) C d_Mo_refuse_33 (by decide) (fun h1 => ?_) (fun h1 => ?_)
              · refine sv_iconst (v := 0) C d_Mo_refuse_40 rfl ?_
                exact sv_iret C rfl rfl d_Mo_refuse_41 (Nat.le_of_ble_eq_true rfl) (Nat.le_of_ble_eq_true rfl) (fun _ _ => rfl) (⟨rfl, rfl⟩)
              · exact absurd (by decide) h1
            · exact absurd rfl h
        · exact absurd rfl h
    · exact absurd rfl h
set_option maxRecDepth 100000 in
set_option maxHeartbeats 8000000 in
theorem c_Mo_isState {l : Launch} {D : va_G} {cI cJ cZ : ClassId} {L : Nat → Nat → Int64} {I : Nat → Nat → Int32} {V : Nat → Int32} {W : Nat → Int32} {J : Nat → Nat → Int32} {B : Nat → Nat → Bool} {tl : List va_E} {n : Nat} {x : Int32} (hn : n ≤ 8) (hW : W 1 = nI n) :
    sv_M l y_Mo_isState [Cond.code y_Mo_isState b_Mo_isState 2 (some .boolean)] ({ frames := 0, cells := 0, slots := 0, locals := 0 } : Room) D sv_cl (sv_ty cI cJ cZ) [.ref 23, .int x] (hM cI cJ cZ L I V W J B tl) 0 0 (fun q ws' => ∃ t : Bool, q = some (.int (b2i t)) ∧ (t = true ↔ iS n x) ∧ ws' = hM cI cJ cZ L I V W J B tl) sv_no 0 0 := by
  refine sv_of (cc := b_Mo_isState) (by decide +kernel) (Nat.le_of_ble_eq_true rfl) ?_
  intro pX eX sX mX aX bX tX cX AX adX C htab hnm
  refine sv_iload_n C d_Mo_isState_0 rfl rfl ?_
  refine sv_if_lt (tgt := 18) C d_Mo_isState_1 (by decide) (fun h1 => ?_) (fun h1 => ?_)
  · refine sv_iconst (v := 0) C d_Mo_isState_18 rfl ?_
    exact sv_iret C rfl rfl d_Mo_isState_19 (Nat.le_of_ble_eq_true rfl) (Nat.le_of_ble_eq_true rfl) (fun _ _ => rfl) (⟨false, rfl, ⟨fun h => absurd h Bool.false_ne_true, fun h => absurd h1 (Int32.not_lt.mpr h.1)⟩, rfl⟩)
  · refine sv_iload_n C d_Mo_isState_4 rfl rfl ?_
    refine sv_iconst (v := 1) C d_Mo_isState_5 rfl ?_
    refine sv_aload_n C d_Mo_isState_6 rfl rfl ?_
    refine sv_get (ci := 5) (kf := 1) C i_Mo rfl (by decide) f_Mo_7 (fun _ h9 => h9) d_Mo_isState_7 (by first | assumption | rfl) rfl ?_
    rw [hW]
    refine sv_ishl C d_Mo_isState_10 ?_
    rw [ma_sh n (by omega)]
    refine sv_icmp_ge (tgt := 18) C d_Mo_isState_11 (by decide) (fun h2 => ?_) (fun h2 => ?_)
    · refine sv_iconst (v := 0) C d_Mo_isState_18 rfl ?_
      exact sv_iret C rfl rfl d_Mo_isState_19 (Nat.le_of_ble_eq_true rfl) (Nat.le_of_ble_eq_true rfl) (fun _ _ => rfl) (⟨false, rfl, ⟨fun h => absurd h Bool.false_ne_true, fun h => absurd h2 (Int32.not_le.mpr h.2)⟩, rfl⟩)
    · refine sv_iconst (v := 1) C d_Mo_isState_14 rfl ?_
      refine sv_goto (tgt := 19) C d_Mo_isState_15 (by decide) ?_
      exact sv_iret C rfl rfl d_Mo_isState_19 (Nat.le_of_ble_eq_true rfl) (Nat.le_of_ble_eq_true rfl) (fun _ _ => rfl) (⟨true, rfl, ⟨fun _ => ⟨Int32.not_lt.mp h1, Int32.not_le.mp h2⟩, fun _ => rfl⟩, rfl⟩)
set_option maxRecDepth 100000 in
set_option maxHeartbeats 8000000 in
theorem c_Mo_isFormula {l : Launch} {D : va_G} {cI cJ cZ : ClassId} {L : Nat → Nat → Int64} {I : Nat → Nat → Int32} {V : Nat → Int32} {W : Nat → Int32} {J : Nat → Nat → Int32} {B : Nat → Nat → Bool} {tl : List va_E} {mk : Nat} {x : Int32} (hW : W 3 = nI mk) :
    sv_M l y_Mo_isFormula [Cond.code y_Mo_isFormula b_Mo_isFormula 2 (some .boolean)] ({ frames := 0, cells := 0, slots := 0, locals := 0 } : Room) D sv_cl (sv_ty cI cJ cZ) [.ref 23, .int x] (hM cI cJ cZ L I V W J B tl) 0 0 (fun q ws' => ∃ t : Bool, q = some (.int (b2i t)) ∧ (t = true ↔ iF mk x) ∧ ws' = hM cI cJ cZ L I V W J B tl) sv_no 0 0 := by
  refine sv_of (cc := b_Mo_isFormula) (by decide +kernel) (Nat.le_of_ble_eq_true rfl) ?_
  intro pX eX sX mX aX bX tX cX AX adX C htab hnm
  refine sv_iload_n C d_Mo_isFormula_0 rfl rfl ?_
  refine sv_if_lt (tgt := 16) C d_Mo_isFormula_1 (by decide) (fun h1 => ?_) (fun h1 => ?_)
  · refine sv_iconst (v := 0) C d_Mo_isFormula_16 rfl ?_
    exact sv_iret C rfl rfl d_Mo_isFormula_17 (Nat.le_of_ble_eq_true rfl) (Nat.le_of_ble_eq_true rfl) (fun _ _ => rfl) (⟨false, rfl, ⟨fun h => absurd h Bool.false_ne_true, fun h => absurd h1 (Int32.not_lt.mpr h.1)⟩, rfl⟩)
  · refine sv_iload_n C d_Mo_isFormula_4 rfl rfl ?_
    refine sv_aload_n C d_Mo_isFormula_5 rfl rfl ?_
    refine sv_get (ci := 5) (kf := 7) C i_Mo rfl (by decide) f_Mo_51 (fun _ h9 => h9) d_Mo_isFormula_6 (by first | assumption | rfl) rfl ?_
    rw [hW]
    refine sv_icmp_ge (tgt := 16) C d_Mo_isFormula_9 (by decide) (fun h2 => ?_) (fun h2 => ?_)
    · refine sv_iconst (v := 0) C d_Mo_isFormula_16 rfl ?_
      exact sv_iret C rfl rfl d_Mo_isFormula_17 (Nat.le_of_ble_eq_true rfl) (Nat.le_of_ble_eq_true rfl) (fun _ _ => rfl) (⟨false, rfl, ⟨fun h => absurd h Bool.false_ne_true, fun h => absurd h2 (Int32.not_le.mpr h.2)⟩, rfl⟩)
    · refine sv_iconst (v := 1) C d_Mo_isFormula_12 rfl ?_
      refine sv_goto (tgt := 17) C d_Mo_isFormula_13 (by decide) ?_
      exact sv_iret C rfl rfl d_Mo_isFormula_17 (Nat.le_of_ble_eq_true rfl) (Nat.le_of_ble_eq_true rfl) (fun _ _ => rfl) (⟨true, rfl, ⟨fun _ => ⟨Int32.not_lt.mp h1, Int32.not_le.mp h2⟩, fun _ => rfl⟩, rfl⟩)
set_option maxRecDepth 100000 in
set_option maxHeartbeats 8000000 in
theorem c_Mo_isTest {l : Launch} {D : va_G} {cI cJ cZ : ClassId} {L : Nat → Nat → Int64} {I : Nat → Nat → Int32} {V : Nat → Int32} {W : Nat → Int32} {J : Nat → Nat → Int32} {B : Nat → Nat → Bool} {tl : List va_E} {n : Nat} {m v : Int32} (hn : n ≤ 8) (hW : W 1 = nI n) :
    sv_M l y_Mo_isTest [Cond.code y_Mo_isTest b_Mo_isTest 3 (some .boolean)] ({ frames := 1, cells := 0, slots := 0, locals := 21 } : Room) D sv_cl (sv_ty cI cJ cZ) [.ref 23, .int m, .int v] (hM cI cJ cZ L I V W J B tl) 0 0 (fun q ws' => ∃ t : Bool, q = some (.int (b2i t)) ∧ (t = true ↔ pT n m v) ∧ ws' = hM cI cJ cZ L I V W J B tl) sv_no 0 0 := by
  refine sv_of (cc := b_Mo_isTest) (by decide +kernel) (Nat.le_of_ble_eq_true rfl) ?_
  intro pX eX sX mX aX bX tX cX AX adX C htab hnm
  refine sv_aload_n C d_Mo_isTest_0 rfl rfl ?_
  refine sv_iload_n C d_Mo_isTest_1 rfl rfl ?_
  refine sv_callV (ci := 5) C (c_Mo_isState (cI := cI) (cJ := cJ) (cZ := cZ) (L := L) (I := I) (V := V) (W := W) (J := J) (B := B) (tl := tl) (n := n) (x := m) hn hW) s_Mo_64 ki_Mo_isState ks_Mo_isState ⟨rfl, rfl, Nat.le_of_ble_eq_true rfl, Nat.le_of_ble_eq_true rfl⟩ rfl d_Mo_isTest_2 (by first | assumption | rfl) (Nat.le_of_ble_eq_true rfl) ⟨(Nat.le_of_ble_eq_true rfl), (Nat.le_of_ble_eq_true rfl)⟩ (fun E ws9 h9 => absurd h9 id) (fun v9 ws9 hp => ?_)
  obtain ⟨t, rfl, ht, rfl⟩ := hp
  cases t with
  | false =>
    refine sv_if_eq (tgt := 28) C d_Mo_isTest_5 (by decide) (fun h => ?_) (fun h => ?_)
    · refine sv_iconst (v := 0) C d_Mo_isTest_28 rfl ?_
      exact sv_iret C rfl rfl d_Mo_isTest_29 (Nat.le_of_ble_eq_true rfl) (Nat.le_of_ble_eq_true rfl) (fun _ _ => rfl) (⟨false, rfl, ⟨fun h => absurd h Bool.false_ne_true, fun h => absurd (ht.mpr h.1) Bool.false_ne_true⟩, rfl⟩)
    · exact absurd rfl h
  | true =>
    refine sv_if_eq (tgt := 28) C d_Mo_isTest_5 (by decide) (fun h => ?_) (fun h => ?_)
    · exact absurd h (by decide)
    · refine sv_aload_n C d_Mo_isTest_8 rfl rfl ?_
      refine sv_iload_n C d_Mo_isTest_9 rfl rfl ?_
      refine sv_callV (ci := 5) C (c_Mo_isState (cI := cI) (cJ := cJ) (cZ := cZ) (L := L) (I := I) (V := V) (W := W) (J := J) (B := B) (tl := tl) (n := n) (x := v) hn hW) s_Mo_64 ki_Mo_isState ks_Mo_isState ⟨rfl, rfl, Nat.le_of_ble_eq_true rfl, Nat.le_of_ble_eq_true rfl⟩ rfl d_Mo_isTest_10 (by first | assumption | rfl) (Nat.le_of_ble_eq_true rfl) ⟨(Nat.le_of_ble_eq_true rfl), (Nat.le_of_ble_eq_true rfl)⟩ (fun E ws9 h9 => absurd h9 id) (fun v9 ws9 hp => ?_)
      obtain ⟨t, rfl, ht2, rfl⟩ := hp
      cases t with
      | false =>
        refine sv_if_eq (tgt := 28) C d_Mo_isTest_13 (by decide) (fun h => ?_) (fun h => ?_)
        · refine sv_iconst (v := 0) C d_Mo_isTest_28 rfl ?_
          exact sv_iret C rfl rfl d_Mo_isTest_29 (Nat.le_of_ble_eq_true rfl) (Nat.le_of_ble_eq_true rfl) (fun _ _ => rfl) (⟨false, rfl, ⟨fun h => absurd h Bool.false_ne_true, fun h => absurd (ht2.mpr h.2.1) Bool.false_ne_true⟩, rfl⟩)
        · exact absurd rfl h
      | true =>
        refine sv_if_eq (tgt := 28) C d_Mo_isTest_13 (by decide) (fun h => ?_) (fun h => ?_)
        · exact absurd h (by decide)
        · refine sv_iload_n C d_Mo_isTest_16 rfl rfl ?_
          refine sv_iload_n C d_Mo_isTest_17 rfl rfl ?_
          refine sv_iconst (v := (-1)) C d_Mo_isTest_18 rfl ?_
          refine sv_ixor C d_Mo_isTest_19 ?_
          refine sv_iand C d_Mo_isTest_20 ?_
          refine sv_if_ne (tgt := 28) C d_Mo_isTest_21 (by decide) (fun h3 => ?_) (fun h3 => ?_)
          · refine sv_iconst (v := 0) C d_Mo_isTest_28 rfl ?_
            exact sv_iret C rfl rfl d_Mo_isTest_29 (Nat.le_of_ble_eq_true rfl) (Nat.le_of_ble_eq_true rfl) (fun _ _ => rfl) (⟨false, rfl, ⟨fun h => absurd h Bool.false_ne_true, fun h => absurd h.2.2 h3⟩, rfl⟩)
          · refine sv_iconst (v := 1) C d_Mo_isTest_24 rfl ?_
            refine sv_goto (tgt := 29) C d_Mo_isTest_25 (by decide) ?_
            exact sv_iret C rfl rfl d_Mo_isTest_29 (Nat.le_of_ble_eq_true rfl) (Nat.le_of_ble_eq_true rfl) (fun _ _ => rfl) (⟨true, rfl, ⟨fun _ => ⟨ht.mp rfl, ht2.mp rfl, h3⟩, fun _ => rfl⟩, rfl⟩)
theorem m256 (f z : Nat) : (256 : Int32) * nI f + nI z = nI (256 * f + z) := by
  rw [show (256 : Int32) = nI 256 from rfl, pk_mul, nI_add]
set_option maxRecDepth 100000 in
set_option maxHeartbeats 8000000 in
theorem c_Mo_has {l : Launch} {D : va_G} {cI cJ cZ : ClassId} {L : Nat → Nat → Int64} {I : Nat → Nat → Int32} {V : Nat → Int32} {W : Nat → Int32} {J : Nat → Nat → Int32} {B : Nat → Nat → Bool} {tl : List va_E} {f z : Nat} (hf : f < 60) (hz : z < 256) :
    sv_M l y_Mo_has [Cond.code y_Mo_has b_Mo_has 3 (some .boolean)] ({ frames := 0, cells := 0, slots := 0, locals := 0 } : Room) D sv_cl (sv_ty cI cJ cZ) [.ref 23, .int (nI f), .int (nI z)] (hM cI cJ cZ L I V W J B tl) 0 0 (fun q ws' => q = some (.int (b2i (B 0 (256 * f + z)))) ∧ ws' = hM cI cJ cZ L I V W J B tl) sv_no 0 0 := by
  refine sv_of (cc := b_Mo_has) (by decide +kernel) (Nat.le_of_ble_eq_true rfl) ?_
  intro pX eX sX mX aX bX tX cX AX adX C htab hnm
  refine sv_aload_n C d_Mo_has_0 rfl rfl ?_
  refine sv_get (ci := 5) (kf := 12) C i_Mo rfl (by decide) f_Mo_35 (fun _ h9 => h9) d_Mo_has_1 (by first | assumption | rfl) rfl ?_
  refine sv_sipush (v := 256) C d_Mo_has_4 rfl ?_
  refine sv_iload_n C d_Mo_has_7 rfl rfl ?_
  refine sv_imul C d_Mo_has_8 ?_
  refine sv_iload_n C d_Mo_has_9 rfl rfl ?_
  refine sv_iadd C d_Mo_has_10 ?_
  rw [m256]
  have hin : vp_in (nI (256 * f + z)) 15360 := vp_in_nI (by omega) (by omega)
  refine sv_zald (t0 := 2) C rfl d_Mo_has_11 (by first | assumption | rfl) (by assumption) ?_
  refine sv_eqs (st' := [.int (b2i (B 0 (256 * f + z)))]) (by rw [nI_clamp (by omega)]) ?_
  exact sv_iret C rfl (by cases B 0 (256 * f + z) <;> rfl) d_Mo_has_12 (Nat.le_of_ble_eq_true rfl) (Nat.le_of_ble_eq_true rfl) (fun _ _ => rfl) (⟨rfl, rfl⟩)
/-- the rules as the reference has them -/
def mr_ok (W : Nat → Int32) (J : Nat → Nat → Int32) (n r : Nat) (rl : Nat → Nat × Nat × Nat × Nat) : Prop :=
  (n ≤ 8 ∧ W 1 = nI n ∧ W 2 = nI r ∧ r ≤ 40 ∧ rl_ok n r rl) ∧ ∀ i, i < r → J 0 i = nI (rl i).1 ∧ J 1 i = nI (rl i).2.1 ∧ J 2 i = nI (rl i).2.2.1 ∧ J 3 i = nI (rl i).2.2.2
set_option maxRecDepth 100000 in
set_option maxHeartbeats 8000000 in
theorem c_Mo_goes {l : Launch} {D : va_G} {cI cJ cZ : ClassId} {L : Nat → Nat → Int64} {I : Nat → Nat → Int32} {V : Nat → Int32} {W : Nat → Int32} {J : Nat → Nat → Int32} {B : Nat → Nat → Bool} {tl : List va_E} {n r s i : Nat} {rl : Nat → Nat × Nat × Nat × Nat} (hr : mr_ok W J n r rl) (hs : s < 2 ^ n) (hi : i < r) :
    sv_M l y_Mo_goes [Cond.code y_Mo_goes b_Mo_goes 3 (some .int)] ({ frames := 0, cells := 0, slots := 0, locals := 0 } : Room) D sv_cl (sv_ty cI cJ cZ) [.ref 23, .int (nI s), .int (nI i)] (hM cI cJ cZ L I V W J B tl) 0 0 (fun q ws' => ((s &&& (rl i).1 = (rl i).2.1 ∧ q = some (.int (nI ((s &&& (rl i).2.2.1) ^^^ (rl i).2.2.2)))) ∨ (¬ s &&& (rl i).1 = (rl i).2.1 ∧ q = some (.int (-1)))) ∧ ws' = hM cI cJ cZ L I V W J B tl) sv_no 0 0 := by
  refine sv_of (cc := b_Mo_goes) (by decide +kernel) (Nat.le_of_ble_eq_true rfl) ?_
  intro pX eX sX mX aX bX tX cX AX adX C htab hnm
  obtain ⟨⟨hn, hW1, hW2, hr40, hrl⟩, hJ⟩ := hr
  have hp8 := pow_le8 hn
  obtain ⟨j0, j1, j2, j3⟩ := hJ i hi
  have hb := hrl i hi
  have hin : vp_in (nI i) 40 := vp_in_nI (by omega) (by omega)
  have hic : (nI i).toNatClampNeg = i := nI_clamp (by omega)
  refine sv_iload_n C d_Mo_goes_0 rfl rfl ?_
  refine sv_aload_n C d_Mo_goes_1 rfl rfl ?_
  refine sv_get (ci := 5) (kf := 3) C i_Mo rfl (by decide) f_Mo_13 (fun _ h9 => h9) d_Mo_goes_2 (by first | assumption | rfl) rfl ?_
  refine sv_iload_n C d_Mo_goes_5 rfl rfl ?_
  refine sv_iald (t0 := 0) C rfl d_Mo_goes_6 (by first | assumption | rfl) (by assumption) ?_
  refine sv_iand C d_Mo_goes_7 ?_
  refine sv_aload_n C d_Mo_goes_8 rfl rfl ?_
  refine sv_get (ci := 5) (kf := 4) C i_Mo rfl (by decide) f_Mo_17 (fun _ h9 => h9) d_Mo_goes_9 (by first | assumption | rfl) rfl ?_
  refine sv_iload_n C d_Mo_goes_12 rfl rfl ?_
  refine sv_iald (t0 := 0) C rfl d_Mo_goes_13 (by first | assumption | rfl) (by assumption) ?_
  refine sv_eqs (st' := [.int (nI (rl i).2.1), .int (nI (s &&& (rl i).1))]) (by rw [hic, j0, j1, nx_and]) ?_
  refine sv_icmp_ne (tgt := 35) C d_Mo_goes_14 (by decide) (fun h1 => ?_) (fun h1 => ?_)
  · have hne : ¬ s &&& (rl i).1 = (rl i).2.1 := fun h => h1 (by rw [h])
    refine sv_iconst (v := (-1)) C d_Mo_goes_35 rfl ?_
    exact sv_iret C rfl rfl d_Mo_goes_36 (Nat.le_of_ble_eq_true rfl) (Nat.le_of_ble_eq_true rfl) (fun _ _ => rfl) (⟨Or.inr ⟨hne, rfl⟩, rfl⟩)
  · have heq : s &&& (rl i).1 = (rl i).2.1 := (nI_eq (Nat.lt_of_le_of_lt Nat.and_le_left (by omega)) (by omega)).mp h1
    refine sv_iload_n C d_Mo_goes_17 rfl rfl ?_
    refine sv_aload_n C d_Mo_goes_18 rfl rfl ?_
    refine sv_get (ci := 5) (kf := 5) C i_Mo rfl (by decide) f_Mo_20 (fun _ h9 => h9) d_Mo_goes_19 (by first | assumption | rfl) rfl ?_
    refine sv_iload_n C d_Mo_goes_22 rfl rfl ?_
    refine sv_iald (t0 := 0) C rfl d_Mo_goes_23 (by first | assumption | rfl) (by assumption) ?_
    refine sv_iand C d_Mo_goes_24 ?_
    refine sv_aload_n C d_Mo_goes_25 rfl rfl ?_
    refine sv_get (ci := 5) (kf := 6) C i_Mo rfl (by decide) f_Mo_23 (fun _ h9 => h9) d_Mo_goes_26 (by first | assumption | rfl) rfl ?_
    refine sv_iload_n C d_Mo_goes_29 rfl rfl ?_
    refine sv_iald (t0 := 0) C rfl d_Mo_goes_30 (by first | assumption | rfl) (by assumption) ?_
    refine sv_ixor C d_Mo_goes_31 ?_
    refine sv_goto (tgt := 36) C d_Mo_goes_32 (by decide) ?_
    refine sv_eqs (st' := [.int (nI ((s &&& (rl i).2.2.1) ^^^ (rl i).2.2.2))]) (by rw [hic, j2, j3, nx_and, nx_xor]) ?_
    exact sv_iret C rfl rfl d_Mo_goes_36 (Nat.le_of_ble_eq_true rfl) (Nat.le_of_ble_eq_true rfl) (fun _ _ => rfl) (⟨Or.inl ⟨heq, rfl⟩, rfl⟩)
theorem neg1 : ((-1 : Int32) < 0) := by decide
theorem nI_nneg {a : Nat} (h : a < 2 ^ 31) : ¬ nI a < 0 := nI_pos h
set_option maxRecDepth 100000 in
set_option maxHeartbeats 8000000 in
theorem c_Mo_goesInto {l : Launch} {D : va_G} {cI cJ cZ : ClassId} {L : Nat → Nat → Int64} {I : Nat → Nat → Int32} {V : Nat → Int32} {W : Nat → Int32} {J : Nat → Nat → Int32} {B : Nat → Nat → Bool} {tl : List va_E} {n r s a N fr : Nat} {b : Nat → Bool} {rl : Nat → Nat × Nat × Nat × Nat} (hr : mr_ok W J n r rl) (hs : s < 2 ^ n) (hw : (hM cI cJ cZ L I V W J B tl)[a]? = some (sv_I cZ N (fun i => b2i (b i)))) (hN : fr + 256 ≤ N) (hN2 : N < 2 ^ 20) :
    sv_M l y_Mo_goesInto [Cond.code y_Mo_goesInto b_Mo_goesInto 7 (some .boolean)] ({ frames := 1, cells := 0, slots := 0, locals := 22 } : Room) D sv_cl (sv_ty cI cJ cZ) [.ref 23, .int (nI s), .ref a, .int (nI fr)] (hM cI cJ cZ L I V W J B tl) 0 0 (fun q ws' => ∃ t : Bool, q = some (.int (b2i t)) ∧ (t = true ↔ ∃ z, rs n r rl s z ∧ b (fr + z) = true) ∧ ws' = hM cI cJ cZ L I V W J B tl) sv_no 0 0 := by
  refine sv_of (cc := b_Mo_goesInto) (by decide +kernel) (Nat.le_of_ble_eq_true rfl) ?_
  intro pX eX sX mX aX bX tX cX AX adX C htab hnm
  have hr' := hr
  obtain ⟨⟨hn, hW1, hW2, hr40, hrl⟩, hJ⟩ := hr'
  have hp8 := pow_le8 hn
  refine sv_iconst (v := 0) C d_Mo_goesInto_0 rfl ?_
  refine sv_istore C d_Mo_goesInto_1 (by decide) rfl ?_
  refine sv_iconst (v := 0) C d_Mo_goesInto_3 rfl ?_
  refine sv_istore C d_Mo_goesInto_4 (by decide) rfl ?_
  refine sv_ind (σ := Nat × Bool) (I := fun q => q.1 ≤ r ∧ (q.2 = true → ∃ z, rs n r rl s z ∧ b (fr + z) = true) ∧ (q.2 = false → ∀ j, j < q.1 → s &&& (rl j).1 = (rl j).2.1 → b (fr + ((s &&& (rl j).2.2.1) ^^^ (rl j).2.2.2)) = false)) (μ := fun q => r - q.1)
    (lv := fun q => [some (.ref 23), some (.int (nI s)), some (.ref a), some (.int (nI fr)), some (.int (b2i q.2)), some (.int (nI q.1)), none]) (ws := fun _ => hM cI cJ cZ L I V W J B tl) ?_ (0, false) ⟨Nat.zero_le _, fun h => absurd h Bool.false_ne_true, fun _ j hj => absurd hj (Nat.not_lt_zero j)⟩
  rintro ⟨i, t⟩ ⟨hi, h1, h0⟩ ih
  dsimp only at hi h1 h0 ih
  have fin : ∀ t : Bool, (t = true → ∃ z, rs n r rl s z ∧ b (fr + z) = true) → (t = false → ∀ j, j < r → s &&& (rl j).1 = (rl j).2.1 → b (fr + ((s &&& (rl j).2.2.1) ^^^ (rl j).2.2.2)) = false) → (t = true ↔ ∃ z, rs n r rl s z ∧ b (fr + z) = true) := fun t h1 h0 => by
    refine ⟨h1, fun ⟨z, hz, hbz⟩ => ?_⟩
    obtain ⟨-, j, hj, e1, rfl⟩ := hz
    cases t with
    | true => rfl
    | false =>
      rw [h0 rfl j hj e1] at hbz
      exact absurd hbz Bool.false_ne_true
  refine sv_iload C d_Mo_goesInto_6 rfl ?_
  refine sv_aload_n C d_Mo_goesInto_8 rfl rfl ?_
  refine sv_get (ci := 5) (kf := 2) C i_Mo rfl (by decide) f_Mo_58 (fun _ h9 => h9) d_Mo_goesInto_9 (by first | assumption | rfl) rfl ?_
  rw [hW2]
  refine sv_icmp_ge (tgt := 56) C d_Mo_goesInto_12 (by decide) (fun h2 => ?_) (fun h2 => ?_)
  · have h2 : r ≤ i := (nI_leI (a := r) (b := i) (by omega) (by omega)).mp h2
    have h3 : i = r := by omega
    subst h3
    refine sv_iload C d_Mo_goesInto_56 rfl ?_
    exact sv_iret C rfl (b2i_nb t) d_Mo_goesInto_58 (Nat.le_of_ble_eq_true rfl) (Nat.le_of_ble_eq_true rfl) (fun _ _ => rfl) (⟨t, rfl, fin t h1 h0, rfl⟩)
  · have h2 : ¬ r ≤ i := fun h => h2 ((nI_leI (a := r) (b := i) (by omega) (by omega)).mpr h)
    refine sv_iload C d_Mo_goesInto_15 rfl ?_
    cases t with
    | true =>
      refine sv_if_ne (tgt := 56) C d_Mo_goesInto_17 (by decide) (fun h3 => ?_) (fun h3 => ?_)
      · refine sv_iload C d_Mo_goesInto_56 rfl ?_
        exact sv_iret C rfl (b2i_nb true) d_Mo_goesInto_58 (Nat.le_of_ble_eq_true rfl) (Nat.le_of_ble_eq_true rfl) (fun _ _ => rfl) (⟨true, rfl, ⟨h1, fun _ => rfl⟩, rfl⟩)
      · exact absurd (show b2i true = 0 from h3) (by decide)
    | false =>
      refine sv_if_ne (tgt := 56) C d_Mo_goesInto_17 (by decide) (fun h3 => ?_) (fun h3 => ?_)
      · exact absurd rfl h3
      · refine sv_aload_n C d_Mo_goesInto_20 rfl rfl ?_
        refine sv_iload_n C d_Mo_goesInto_21 rfl rfl ?_
        refine sv_iload C d_Mo_goesInto_22 rfl ?_
        refine sv_callV (ci := 5) C (c_Mo_goes (cI := cI) (cJ := cJ) (cZ := cZ) (L := L) (I := I) (V := V) (W := W) (J := J) (B := B) (tl := tl) (n := n) (r := r) (s := s) (i := i) (rl := rl) hr hs (by omega)) s_Mo_75 ki_Mo_goes ks_Mo_goes ⟨rfl, rfl, Nat.le_of_ble_eq_true rfl, Nat.le_of_ble_eq_true rfl⟩ rfl d_Mo_goesInto_24 (by first | assumption | rfl) (Nat.le_of_ble_eq_true rfl) ⟨(Nat.le_of_ble_eq_true rfl), (Nat.le_of_ble_eq_true rfl)⟩ (fun E ws9 h9 => absurd h9 id) (fun v9 ws9 hp => ?_)
        obtain ⟨hg, rfl⟩ := hp
        have hbi := hrl i (by omega)
        rcases hg with ⟨g1, rfl⟩ | ⟨g1, rfl⟩
        · have hto := ma_to (k := (rl i).2.2.1) hs hbi.2.2.2
          generalize hto2 : (s &&& (rl i).2.2.1) ^^^ (rl i).2.2.2 = to at hto ⊢
          refine sv_istore C d_Mo_goesInto_27 (by decide) rfl ?_
          refine sv_iload C d_Mo_goesInto_29 rfl ?_
          refine sv_if_lt (tgt := 47) C d_Mo_goesInto_31 (by decide) (fun h4 => ?_) (fun h4 => ?_)
          · exact absurd h4 (nI_nneg (by omega))
          · have hin : vp_in (nI (fr + to)) N := vp_in_nI (by omega) (by omega)
            refine sv_aload_n C d_Mo_goesInto_34 rfl rfl ?_
            refine sv_iload_n C d_Mo_goesInto_35 rfl rfl ?_
            refine sv_iload C d_Mo_goesInto_36 rfl ?_
            refine sv_iadd C d_Mo_goesInto_38 ?_
            refine sv_eqs (st' := [.int (nI (fr + to)), .ref a]) (by rw [nI_add]; rfl) ?_
            refine sv_zald (t0 := 2) C rfl d_Mo_goesInto_39 (by first | assumption | rfl) (by assumption) ?_
            refine sv_eqs (st' := [.int (b2i (b (fr + to)))]) (by rw [nI_clamp (by omega)]) ?_
            cases hb : b (fr + to) with
            | true =>
              refine sv_if_eq (tgt := 47) C d_Mo_goesInto_40 (by decide) (fun h5 => ?_) (fun h5 => ?_)
              · exact absurd h5 (by decide)
              · refine sv_iconst (v := 1) C d_Mo_goesInto_43 rfl ?_
                refine sv_goto (tgt := 48) C d_Mo_goesInto_44 (by decide) ?_
                refine sv_istore C d_Mo_goesInto_48 (by decide) rfl ?_
                refine sv_iincN C d_Mo_goesInto_50 rfl (by decide) rfl ?_
                refine sv_goto (tgt := 6) C d_Mo_goesInto_53 (by decide) ?_
                refine sv_drop [true, true, true, true, true, true, false] ?_
                exact ih (i + 1, true) ⟨by dsimp only; omega, fun _ => ⟨to, ⟨hs, i, by omega, g1, hto2.symm⟩, hb⟩, fun h => absurd h.symm Bool.false_ne_true⟩ (by dsimp only; omega)
            | false =>
              refine sv_if_eq (tgt := 47) C d_Mo_goesInto_40 (by decide) (fun h5 => ?_) (fun h5 => ?_)
              · refine sv_iconst (v := 0) C d_Mo_goesInto_47 rfl ?_
                refine sv_istore C d_Mo_goesInto_48 (by decide) rfl ?_
                refine sv_iincN C d_Mo_goesInto_50 rfl (by decide) rfl ?_
                refine sv_goto (tgt := 6) C d_Mo_goesInto_53 (by decide) ?_
                refine sv_drop [true, true, true, true, true, true, false] ?_
                refine ih (i + 1, false) ⟨by dsimp only; omega, fun h => absurd h Bool.false_ne_true, fun _ j hj e1 => ?_⟩ (by dsimp only; omega)
                by_cases e : j = i
                · rw [e, hto2]
                  exact hb
                · exact h0 rfl j (by dsimp only at hj; omega) e1
              · exact absurd rfl h5
        · refine sv_istore C d_Mo_goesInto_27 (by decide) rfl ?_
          refine sv_iload C d_Mo_goesInto_29 rfl ?_
          refine sv_if_lt (tgt := 47) C d_Mo_goesInto_31 (by decide) (fun h4 => ?_) (fun h4 => ?_)
          · refine sv_iconst (v := 0) C d_Mo_goesInto_47 rfl ?_
            refine sv_istore C d_Mo_goesInto_48 (by decide) rfl ?_
            refine sv_iincN C d_Mo_goesInto_50 rfl (by decide) rfl ?_
            refine sv_goto (tgt := 6) C d_Mo_goesInto_53 (by decide) ?_
            refine sv_drop [true, true, true, true, true, true, false] ?_
            refine ih (i + 1, false) ⟨by dsimp only; omega, fun h => absurd h Bool.false_ne_true, fun _ j hj e1 => ?_⟩ (by dsimp only; omega)
            by_cases e : j = i
            · rw [e] at e1
              exact absurd e1 g1
            · exact h0 rfl j (by dsimp only at hj; omega) e1
          · exact absurd neg1 h4
