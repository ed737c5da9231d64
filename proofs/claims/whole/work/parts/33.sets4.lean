/-! StateLogic$Sets: leastFrom, takeShared -/
theorem ss_sl : ∀ k, k < 64 → ∀ j, j < 64 → ((-1 : Int64) <<< ((nI k).toInt64 &&& 63)).toBitVec.getLsbD j = decide (k ≤ j) := by decide +kernel
theorem ss_pc : ∀ k, k < 64 → pb_cnt (lN (2 ^ k) - 1) = k := by decide +kernel
theorem ss_64 (i k : Nat) : nI i * 64 + nI k = nI (64 * i + k) := by rw [show (64 : Int32) = nI 64 from rfl, pk_mul, nI_add, Nat.mul_comm]
/-- the least state of set a from x on, or none -/
def ss_least (f : Nat → Int64) (a x : Nat) (r : Option Value) : Prop :=
  (r = some (.int (-1)) ∧ ∀ z, x ≤ z → z < 256 → ss_b f a z = false) ∨ ∃ y, r = some (.int (nI y)) ∧ y < 256 ∧ x ≤ y ∧ ss_b f a y = true ∧ ∀ z, x ≤ z → z < y → ss_b f a z = false
set_option maxRecDepth 100000 in
set_option maxHeartbeats 4000000 in
theorem c_St_leastFrom {l : Launch} {D : va_G} {cI cJ cZ : ClassId} {ws : List va_E} {b w N a x : Nat} {f : Nat → Int64} (hb : ws[b]? = some (.inr (3, [.ref w]))) (hw : ws[w]? = some (sv_J cJ N f)) (ha : a * 4 + 3 < N) (hN : N < 2 ^ 20) (hx : x ≤ 256) :
    sv_M l y_St_leastFrom [Cond.code y_St_leastFrom b_St_leastFrom 8 (some .int)] ({ frames := 1, cells := 0, slots := 0, locals := 21 } : Room) D sv_cl (sv_ty cI cJ cZ) [.ref b, .int (nI a), .int (nI x)] ws 0 0 (fun r ws' => ss_least f a x r ∧ ws' = ws) sv_no 0 0 := by
  refine sv_of (cc := b_St_leastFrom) (by decide +kernel) (Nat.le_of_ble_eq_true rfl) ?_
  intro p e s m args below meth c A ad C htab hnm
  refine sv_ldc2 C g_St_27 d_St_leastFrom_0 ?_
  refine sv_iload_n C d_St_leastFrom_3 rfl rfl ?_
  refine sv_bipush (v := 63) C d_St_leastFrom_4 rfl ?_
  refine sv_iand C d_St_leastFrom_6 ?_
  refine sv_lshl C d_St_leastFrom_7 ?_
  refine sv_topl (fun w0 e0 => ?_)
  refine sv_lstore_n C d_St_leastFrom_8 rfl (by decide) rfl ?_
  refine sv_iload_n C d_St_leastFrom_9 rfl rfl ?_
  refine sv_bipush (v := 6) C d_St_leastFrom_10 rfl ?_
  refine sv_ishr C d_St_leastFrom_12 ?_
  refine sv_eqs (st' := [.int (nI (x / 64))]) (by rw [pk_shrN (by omega) _ 6 (by decide)]) ?_
  refine sv_istore C d_St_leastFrom_13 (by decide) rfl ?_
  have hw0 : ∀ j, j < 64 → w0.toBitVec.getLsbD j = decide (x ≤ 64 * (x / 64) + j) := by
    intro j hj
    have e1 : nI x &&& 63 = nI (x % 64) := pk_andN (by omega) 6 (by decide)
    rw [e0, e1, ss_sl (x % 64) (by omega) j hj]
    by_cases h : x % 64 ≤ j
    · have h2 : x ≤ 64 * (x / 64) + j := by omega
      simp [h, h2]
    · have h2 : ¬ x ≤ 64 * (x / 64) + j := by omega
      simp [h, h2]
  refine sv_ind (σ := Nat × Int64) (I := fun q => q.1 ≤ 4 ∧ x / 64 ≤ q.1 ∧ (∀ j, j < 64 → q.2.toBitVec.getLsbD j = decide (x ≤ 64 * q.1 + j)) ∧ ∀ z, x ≤ z → z < 64 * q.1 → ss_b f a z = false) (μ := fun q => 4 - q.1) (lv := fun q => [some (.ref b), some (.int (nI a)), some (.int (nI x)), some (.long q.2), none, some (.int (nI q.1)), none, none]) (ws := fun _ => ws) ?_ (x / 64, w0) ⟨by show x / 64 ≤ 4; omega, Nat.le_refl _, hw0, fun z h1 h2 => absurd h2 (by show ¬ z < 64 * (x / 64); omega)⟩
  rintro ⟨i, v⟩ ⟨hi, hxi, hv, hno⟩ ih
  dsimp only at hi hxi hv hno
  refine sv_iload C d_St_leastFrom_15 rfl ?_
  refine sv_iconst (v := 4) C d_St_leastFrom_17 rfl ?_
  refine sv_icmp_ge (tgt := 71) C d_St_leastFrom_18 (by decide) (fun hT => ?_) (fun hF => ?_)
  · have h1 : 4 ≤ i := (nI_leI (a := 4) (b := i) (by omega) (by omega)).mp hT
    refine sv_iconst (v := (-1)) C d_St_leastFrom_71 rfl ?_
    exact sv_iret C rfl rfl d_St_leastFrom_72 (Nat.le_of_ble_eq_true rfl) (Nat.le_of_ble_eq_true rfl) (fun _ _ => rfl) (⟨Or.inl ⟨rfl, fun z h1 h2 => hno z h1 (by omega)⟩, rfl⟩)
  · have h1 : ¬ 4 ≤ i := fun h => hF ((nI_leI (a := 4) (b := i) (by omega) (by omega)).mpr h)
    have hin := ss_jin (a := a) (i := i) (by omega) ha hN
    refine sv_aload_n C d_St_leastFrom_21 rfl rfl ?_
    refine sv_get (ci := 3) (kf := 0) C i_St rfl (by decide) f_St_11 (fun _ h9 => h9) d_St_leastFrom_22 (by first | assumption | rfl) rfl ?_
    refine sv_iload_n C d_St_leastFrom_25 rfl rfl ?_
    refine sv_iconst (v := 4) C d_St_leastFrom_26 rfl ?_
    refine sv_imul C d_St_leastFrom_27 ?_
    refine sv_iload C d_St_leastFrom_28 rfl ?_
    refine sv_iadd C d_St_leastFrom_30 ?_
    refine sv_lald (t0 := 1) C rfl d_St_leastFrom_31 (by first | assumption | rfl) (by assumption) ?_
    refine sv_lload_n C d_St_leastFrom_32 rfl rfl ?_
    refine sv_land C d_St_leastFrom_33 ?_
    refine sv_topl (fun r er => ?_)
    rw [ss_jcl (by omega) ha hN] at er
    refine sv_lstore C d_St_leastFrom_34 (by decide) rfl ?_
    refine sv_lload C d_St_leastFrom_36 rfl ?_
    refine sv_lconst (v := 0) C d_St_leastFrom_38 rfl ?_
    refine sv_lcmp C d_St_leastFrom_39 ?_
    refine sv_if_eq (tgt := 61) C d_St_leastFrom_40 (by decide) (fun hT2 => ?_) (fun hF2 => ?_)
    · have h3 := (ss_cmp _ _).mp hT2
      rw [er] at h3
      refine sv_ldc2 C g_St_27 d_St_leastFrom_61 ?_
      refine sv_lstore_n C d_St_leastFrom_64 rfl (by decide) rfl ?_
      refine sv_iincN C d_St_leastFrom_65 rfl (by decide) rfl ?_
      refine sv_goto (tgt := 15) C d_St_leastFrom_68 (by decide) ?_
      refine sv_drop [true, true, true, true, false, true, false, false] ?_
      refine ih (i + 1, -1) ⟨by show i + 1 ≤ 4; omega, by show x / 64 ≤ i + 1; omega, fun j hj => ?_, fun z hz1 hz2 => ?_⟩ (by show 4 - (i + 1) < 4 - i; omega)
      · have h4 : x ≤ 64 * (i + 1) + j := by omega
        show (-1 : Int64).toBitVec.getLsbD j = decide (x ≤ 64 * (i + 1) + j)
        rw [ss_m1 hj]
        simp [h4]
      · have hz2 : z < 64 * (i + 1) := hz2
        by_cases hlt : z < 64 * i
        · exact hno z hz1 hlt
        · have e : z = 64 * i + (z - 64 * i) := by omega
          have h5 := (ss_any _ _).mp h3 (z - 64 * i) (by omega)
          rw [hv _ (by omega), ← e, ← ss_at f a i _ (by omega), ← e] at h5
          cases hc : ss_b f a z with
          | false => rfl
          | true => exact absurd ⟨hc, by simp [hz1]⟩ h5
    · have h3 : r ≠ 0 := fun h => hF2 ((ss_cmp _ _).mpr h)
      obtain ⟨k, hk, hk1, hk2, hk3⟩ := ss_low h3
      have hrb : ∀ j, j < 64 → r.toBitVec.getLsbD j = (ss_b f a (64 * i + j) && decide (x ≤ 64 * i + j)) := by
        intro j hj
        rw [er, ss_and, hv j hj, ss_at _ _ _ _ hj]
      have hk1' := hrb k hk
      rw [hk1] at hk1'
      have hk4 : ss_b f a (64 * i + k) = true ∧ x ≤ 64 * i + k := by
        have h9 := hk1'.symm
        simp only [Bool.and_eq_true, decide_eq_true_eq] at h9
        exact h9
      refine sv_iload C d_St_leastFrom_43 rfl ?_
      refine sv_bipush (v := 64) C d_St_leastFrom_45 rfl ?_
      refine sv_imul C d_St_leastFrom_47 ?_
      refine sv_lload C d_St_leastFrom_48 rfl ?_
      refine sv_lload C d_St_leastFrom_50 rfl ?_
      refine sv_lneg C d_St_leastFrom_52 ?_
      refine sv_land C d_St_leastFrom_53 ?_
      refine sv_lconst (v := 1) C d_St_leastFrom_54 rfl ?_
      refine sv_lsub C d_St_leastFrom_55 ?_
      refine sv_callS C (c_Lo_bitCount (cI := cI) (cJ := cJ) (cZ := cZ)) s_St_29 kt_Lo_bitCount ⟨rfl, rfl, Nat.le_of_ble_eq_true rfl, Nat.le_of_ble_eq_true rfl⟩ d_St_leastFrom_56 (Nat.le_of_ble_eq_true rfl) ⟨(Nat.le_of_ble_eq_true rfl), (Nat.le_of_ble_eq_true rfl)⟩ (fun E ws9 h9 => absurd h9 id) (fun v9 ws9 hp => ?_)
      obtain ⟨rfl, rfl⟩ := hp
      rw [hk3, ss_pc k hk]
      refine sv_iadd C d_St_leastFrom_59 ?_
      refine sv_eqs (st' := [.int (nI (64 * i + k))]) (by rw [ss_64]) ?_
      refine sv_iret C rfl rfl d_St_leastFrom_60 (Nat.le_of_ble_eq_true rfl) (Nat.le_of_ble_eq_true rfl) (fun _ _ => rfl) (⟨Or.inr ⟨64 * i + k, rfl, by omega, hk4.2, hk4.1, fun z hz1 hz2 => ?_⟩, rfl⟩)
      by_cases hlt : z < 64 * i
      · exact hno z hz1 hlt
      · have e : z = 64 * i + (z - 64 * i) := by omega
        have h5 := hrb (z - 64 * i) (by omega)
        rw [hk2 _ (by omega), ← e] at h5
        cases hc : ss_b f a z with
        | false => rfl
        | true =>
          rw [hc] at h5
          simp [hz1] at h5
theorem ss_tk {f : Nat → Int64} {a i k : Nat} (hi : i < 4) (hk : k < 64) (hb : (f (a * 4 + i)).toBitVec.getLsbD k = true) (c z : Nat) (hz : z < 256) : ss_b (vp_updL f (a * 4 + i) (f (a * 4 + i) ^^^ lN (2 ^ k))) c z = (ss_b f c z && !(decide (c = a) && decide (z = 64 * i + k))) := by
  unfold ss_b
  by_cases e : c * 4 + z / 64 = a * 4 + i
  · rw [e, pk_uLs, ss_xor, ss_pw hk (by omega)]
    have h1 : c = a := by omega
    by_cases e2 : z % 64 = k
    · have h2 : z = 64 * i + k := by omega
      rw [e2, hb, h1, h2]
      simp
    · have h2 : z ≠ 64 * i + k := by omega
      simp [e2, h2]
  · rw [pk_uLn e]
    have h2 : ¬ (c = a ∧ z = 64 * i + k) := by omega
    by_cases h3 : c = a
    · have h4 : z ≠ 64 * i + k := fun h => h2 ⟨h3, h⟩
      simp [h4]
    · simp [h3]
set_option maxRecDepth 100000 in
set_option maxHeartbeats 4000000 in
theorem c_St_takeShared {l : Launch} {D : va_G} {cI cJ cZ : ClassId} {ws : List va_E} {b w N a b' w' N' a' : Nat} {f g : Nat → Int64} (hb : ws[b]? = some (.inr (3, [.ref w]))) (hw : ws[w]? = some (sv_J cJ N f)) (ha : a * 4 + 3 < N) (hN : N < 2 ^ 20) (hb' : ws[b']? = some (.inr (3, [.ref w']))) (hw' : ws[w']? = some (sv_J cJ N' g)) (ha' : a' * 4 + 3 < N') (hN' : N' < 2 ^ 20) :
    sv_M l y_St_takeShared [Cond.code y_St_takeShared b_St_takeShared 9 (some .int)] ({ frames := 1, cells := 0, slots := 0, locals := 21 } : Room) D sv_cl (sv_ty cI cJ cZ) [.ref b, .int (nI a), .ref b', .int (nI a')] ws 0 0 (fun r ws' => (r = some (.int (-1)) ∧ ss_apart f a g a' 256 ∧ ws' = ws) ∨ ∃ (x : Nat) (f' : Nat → Int64), r = some (.int (nI x)) ∧ x < 256 ∧ ss_b f a x = true ∧ ss_b g a' x = true ∧ ss_apart f a g a' x ∧ ws' = ws.set w (sv_J cJ N f') ∧ ∀ c z, z < 256 → ss_b f' c z = (ss_b f c z && !(decide (c = a) && decide (z = x)))) sv_no 0 0 := by
  refine sv_of (cc := b_St_takeShared) (by decide +kernel) (Nat.le_of_ble_eq_true rfl) ?_
  intro p e s m args below meth c A ad C htab hnm
  have hlt := sv_lt hw
  have hbw : b ≠ w := fun h => by rw [h, hw] at hb; cases hb
  refine sv_iconst (v := 0) C d_St_takeShared_0 rfl ?_
  refine sv_istore C d_St_takeShared_1 (by decide) rfl ?_
  refine sv_ind (σ := Nat) (I := fun i => i ≤ 4 ∧ ss_apart f a g a' (64 * i)) (μ := fun i => 4 - i) (lv := fun i => [some (.ref b), some (.int (nI a)), some (.ref b'), some (.int (nI a')), some (.int (nI i)), none, none, none, none]) (ws := fun _ => ws) ?_ 0 ⟨Nat.zero_le _, fun x hx => absurd hx (by omega)⟩
  rintro i ⟨hi, hap⟩ ih
  refine sv_iload C d_St_takeShared_3 rfl ?_
  refine sv_iconst (v := 4) C d_St_takeShared_5 rfl ?_
  refine sv_icmp_ge (tgt := 85) C d_St_takeShared_6 (by decide) (fun hT => ?_) (fun hF => ?_)
  · have h1 : 4 ≤ i := (nI_leI (a := 4) (b := i) (by omega) (by omega)).mp hT
    have h2 : i = 4 := by omega
    subst h2
    refine sv_iconst (v := (-1)) C d_St_takeShared_85 rfl ?_
    exact sv_iret C rfl rfl d_St_takeShared_86 (Nat.le_of_ble_eq_true rfl) (Nat.le_of_ble_eq_true rfl) (fun _ _ => rfl) (Or.inl ⟨rfl, hap, rfl⟩)
  · have h1 : ¬ 4 ≤ i := fun h => hF ((nI_leI (a := 4) (b := i) (by omega) (by omega)).mpr h)
    have hin := ss_jin (a := a) (i := i) (by omega) ha hN
    have hin' := ss_jin (a := a') (i := i) (by omega) ha' hN'
    refine sv_aload_n C d_St_takeShared_9 rfl rfl ?_
    refine sv_get (ci := 3) (kf := 0) C i_St rfl (by decide) f_St_11 (fun _ h9 => h9) d_St_takeShared_10 (by first | assumption | rfl) rfl ?_
    refine sv_iload_n C d_St_takeShared_13 rfl rfl ?_
    refine sv_iconst (v := 4) C d_St_takeShared_14 rfl ?_
    refine sv_imul C d_St_takeShared_15 ?_
    refine sv_iload C d_St_takeShared_16 rfl ?_
    refine sv_iadd C d_St_takeShared_18 ?_
    refine sv_lald (t0 := 1) C rfl d_St_takeShared_19 (by first | assumption | rfl) (by assumption) ?_
    refine sv_aload_n C d_St_takeShared_20 rfl rfl ?_
    refine sv_get (ci := 3) (kf := 0) C i_St rfl (by decide) f_St_11 (fun _ h9 => h9) d_St_takeShared_21 (by first | assumption | rfl) rfl ?_
    refine sv_iload_n C d_St_takeShared_24 rfl rfl ?_
    refine sv_iconst (v := 4) C d_St_takeShared_25 rfl ?_
    refine sv_imul C d_St_takeShared_26 ?_
    refine sv_iload C d_St_takeShared_27 rfl ?_
    refine sv_iadd C d_St_takeShared_29 ?_
    refine sv_lald (t0 := 1) C rfl d_St_takeShared_30 (by first | assumption | rfl) (by assumption) ?_
    refine sv_land C d_St_takeShared_31 ?_
    refine sv_topl (fun r er => ?_)
    rw [ss_jcl (by omega) ha hN, ss_jcl (by omega) ha' hN'] at er
    refine sv_lstore C d_St_takeShared_32 (by decide) rfl ?_
    refine sv_lload C d_St_takeShared_34 rfl ?_
    refine sv_lconst (v := 0) C d_St_takeShared_36 rfl ?_
    refine sv_lcmp C d_St_takeShared_37 ?_
    refine sv_if_eq (tgt := 79) C d_St_takeShared_38 (by decide) (fun hT2 => ?_) (fun hF2 => ?_)
    · have h3 := (ss_cmp _ _).mp hT2
      rw [er] at h3
      refine sv_iincN C d_St_takeShared_79 rfl (by decide) rfl ?_
      refine sv_goto (tgt := 3) C d_St_takeShared_82 (by decide) ?_
      refine sv_drop [true, true, true, true, true, false, false, false, false] ?_
      exact ih (i + 1) ⟨by omega, ss_apart_s hap h3⟩ (by show 4 - (i + 1) < 4 - i; omega)
    · have h3 : r ≠ 0 := fun h => hF2 ((ss_cmp _ _).mpr h)
      obtain ⟨k, hk, hk1, hk2, hk3⟩ := ss_low h3
      have hrb : ∀ j, j < 64 → r.toBitVec.getLsbD j = (ss_b f a (64 * i + j) && ss_b g a' (64 * i + j)) := by
        intro j hj
        rw [er, ss_and, ss_at _ _ _ _ hj, ss_at _ _ _ _ hj]
      have hk1' := hrb k hk
      rw [hk1] at hk1'
      have hk4 : ss_b f a (64 * i + k) = true ∧ ss_b g a' (64 * i + k) = true := by
        have h9 := hk1'.symm
        simp only [Bool.and_eq_true] at h9
        exact h9
      have hfk : (f (a * 4 + i)).toBitVec.getLsbD k = true := by rw [← ss_at f a i k hk]; exact hk4.1
      refine sv_lload C d_St_takeShared_41 rfl ?_
      refine sv_lload C d_St_takeShared_43 rfl ?_
      refine sv_lneg C d_St_takeShared_45 ?_
      refine sv_land C d_St_takeShared_46 ?_
      refine sv_topl (fun lo elo => ?_)
      rw [hk3] at elo
      refine sv_lstore C d_St_takeShared_47 (by decide) rfl ?_
      refine sv_aload_n C d_St_takeShared_49 rfl rfl ?_
      refine sv_get (ci := 3) (kf := 0) C i_St rfl (by decide) f_St_11 (fun _ h9 => h9) d_St_takeShared_50 (by first | assumption | rfl) rfl ?_
      refine sv_iload_n C d_St_takeShared_53 rfl rfl ?_
      refine sv_iconst (v := 4) C d_St_takeShared_54 rfl ?_
      refine sv_imul C d_St_takeShared_55 ?_
      refine sv_iload C d_St_takeShared_56 rfl ?_
      refine sv_iadd C d_St_takeShared_58 ?_
      refine sv_dup2 C d_St_takeShared_59 rfl rfl ?_
      refine sv_lald (t0 := 1) C rfl d_St_takeShared_60 (by first | assumption | rfl) (by assumption) ?_
      refine sv_lload C d_St_takeShared_61 rfl ?_
      refine sv_lxor C d_St_takeShared_63 ?_
      refine sv_last (t0 := 1) C rfl d_St_takeShared_64 (by first | assumption | rfl) (by assumption) ?_
      refine sv_iload C d_St_takeShared_65 rfl ?_
      refine sv_bipush (v := 64) C d_St_takeShared_67 rfl ?_
      refine sv_imul C d_St_takeShared_69 ?_
      refine sv_lload C d_St_takeShared_70 rfl ?_
      refine sv_lconst (v := 1) C d_St_takeShared_72 rfl ?_
      refine sv_lsub C d_St_takeShared_73 ?_
      refine sv_callS C (c_Lo_bitCount (cI := cI) (cJ := cJ) (cZ := cZ)) s_St_29 kt_Lo_bitCount ⟨rfl, rfl, Nat.le_of_ble_eq_true rfl, Nat.le_of_ble_eq_true rfl⟩ d_St_takeShared_74 (Nat.le_of_ble_eq_true rfl) ⟨(Nat.le_of_ble_eq_true rfl), (Nat.le_of_ble_eq_true rfl)⟩ (fun E ws9 h9 => absurd h9 id) (fun v9 ws9 hp => ?_)
      obtain ⟨rfl, rfl⟩ := hp
      rw [elo, ss_pc k hk]
      refine sv_iadd C d_St_takeShared_77 ?_
      refine sv_eqs (st' := [.int (nI (64 * i + k))]) (by rw [ss_64]) ?_
      rw [ss_jcl (by omega) ha hN]
      refine sv_iret C rfl rfl d_St_takeShared_78 (Nat.le_of_ble_eq_true rfl) (Nat.le_of_ble_eq_true rfl) (fun _ _ => rfl) (Or.inr ⟨64 * i + k, _, rfl, by omega, hk4.1, hk4.2, fun z hz hbz => ?_, rfl, fun c z hz => ss_tk (by omega) hk hfk c z hz⟩)
      by_cases hlt2 : z < 64 * i
      · exact hap z hlt2 hbz
      · have e : z = 64 * i + (z - 64 * i) := by omega
        have h5 := hrb (z - 64 * i) (by omega)
        rw [hk2 _ (by omega), ← e, hbz.1, hbz.2] at h5
        cases h5
