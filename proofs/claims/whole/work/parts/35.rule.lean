/-! Machine.addRule -/
/-- the rule takes a to z -/
def ma_g (m v k f a z : Nat) : Bool := decide (a &&& m = v) && decide (z = (a &&& k) ^^^ f)
theorem ma_to {n a k f : Nat} (ha : a < 2 ^ n) (hf : f < 2 ^ n) : (a &&& k) ^^^ f < 2 ^ n := Nat.xor_lt_two_pow (Nat.lt_of_le_of_lt Nat.and_le_left ha) hf
set_option maxRecDepth 100000 in
set_option maxHeartbeats 4000000 in
theorem c_Ma_addRule {l : Launch} {D : va_G} {cI cJ cZ : ClassId} {L : Nat → Nat → Int64} {I : Nat → Nat → Int32} {V : Nat → Int32} {tl : List va_E} {n m v k f r : Nat} (hn : n ≤ 8) (hV0 : V 0 = nI (2 ^ n)) (hV1 : V 1 = nI r) (hm : m < 2 ^ n) (hv : v < 2 ^ n) (hk : k < 2 ^ n) (hf : f < 2 ^ n) :
    sv_M l y_Ma_addRule [Cond.code y_Ma_addRule b_Ma_addRule 7 (some .int)] ({ frames := 1, cells := 0, slots := 0, locals := 22 } : Room) D sv_cl (sv_ty cI cJ cZ) [.ref 1, .int (nI m), .int (nI v), .int (nI k), .int (nI f)] (hC cI cJ cZ L I V tl) 0 0 (fun q ws' => q = some (.int (nI r)) ∧ ∃ f1 f2 : Nat → Int64, ws' = hC cI cJ cZ (hu (hu L 1 f1) 2 f2) I (hu V 1 (nI (r + 1))) tl ∧ (∀ a z, a < 256 → z < 256 → ss_b f1 a z = (ss_b (L 1) a z || (decide (a < 2 ^ n) && ma_g m v k f a z))) ∧ ∀ a z, a < 256 → z < 256 → ss_b f2 z a = (ss_b (L 2) z a || (decide (a < 2 ^ n) && ma_g m v k f a z))) sv_no 0 0 := by
  refine sv_of (cc := b_Ma_addRule) (by decide +kernel) (Nat.le_of_ble_eq_true rfl) ?_
  intro pX eX sX mX aX bX tX cX AX adX C htab hnm
  have hp8 : 2 ^ n ≤ 256 := by
    have h := Nat.pow_le_pow_right (n := 2) (by omega) hn
    exact h
  refine sv_iconst (v := 0) C d_Ma_addRule_0 rfl ?_
  refine sv_istore C d_Ma_addRule_1 (by decide) rfl ?_
  refine sv_eqw (ws' := hC cI cJ cZ (hu (hu L 1 (L 1)) 2 (L 2)) I V tl) rfl ?_
  refine sv_ind (σ := Nat × (Nat → Int64) × (Nat → Int64)) (I := fun q => q.1 ≤ 2 ^ n ∧ (∀ a z, a < 256 → z < 256 → ss_b q.2.1 a z = (ss_b (L 1) a z || (decide (a < q.1) && ma_g m v k f a z))) ∧ ∀ a z, a < 256 → z < 256 → ss_b q.2.2 z a = (ss_b (L 2) z a || (decide (a < q.1) && ma_g m v k f a z))) (μ := fun q => 2 ^ n - q.1) (lv := fun q => [some (.ref 1), some (.int (nI m)), some (.int (nI v)), some (.int (nI k)), some (.int (nI f)), some (.int (nI q.1)), none]) (ws := fun q => hC cI cJ cZ (hu (hu L 1 q.2.1) 2 q.2.2) I V tl) ?_ (0, L 1, L 2) ⟨Nat.zero_le _, fun a z _ _ => by simp, fun a z _ _ => by simp⟩
  rintro ⟨i, f1, f2⟩ ⟨hi, h1, h2⟩ ih
  dsimp only at hi h1 h2
  refine sv_iload C d_Ma_addRule_3 rfl ?_
  refine sv_aload_n C d_Ma_addRule_5 rfl rfl ?_
  refine sv_get (ci := 1) (kf := 3) C i_Ma rfl (by decide) f_Ma_29 (fun _ h9 => h9) d_Ma_addRule_6 (by first | assumption | rfl) rfl ?_
  rw [hV0]
  refine sv_icmp_ge (tgt := 57) C d_Ma_addRule_9 (by decide) (fun hT => ?_) (fun hF => ?_)
  · have hi2 : 2 ^ n ≤ i := (nI_leI (a := 2 ^ n) (b := i) (by omega) (by omega)).mp hT
    have hie : i = 2 ^ n := by omega
    subst hie
    refine sv_aload_n C d_Ma_addRule_57 rfl rfl ?_
    refine sv_dup C d_Ma_addRule_58 rfl ?_
    refine sv_get (ci := 1) (kf := 4) C i_Ma rfl (by decide) f_Ma_33 (fun _ h9 => h9) d_Ma_addRule_59 (by first | assumption | rfl) rfl ?_
    refine sv_iconst (v := 1) C d_Ma_addRule_62 rfl ?_
    refine sv_iadd C d_Ma_addRule_63 ?_
    refine sv_put (ci := 1) (kf := 4) (ty := .int) C i_Ma t_Ma t_Ma_ok n_Ma rfl (by decide) f_Ma_33 (fun _ h9 => h9) rfl (by decide +kernel) d_Ma_addRule_64 (by first | assumption | rfl) rfl rfl (Nat.le_of_ble_eq_true rfl) ?_
    refine sv_aload_n C d_Ma_addRule_67 rfl rfl ?_
    refine sv_get (ci := 1) (kf := 4) C i_Ma rfl (by decide) f_Ma_33 (fun _ h9 => h9) d_Ma_addRule_68 (by first | assumption | rfl) rfl ?_
    refine sv_iconst (v := 1) C d_Ma_addRule_71 rfl ?_
    refine sv_isub C d_Ma_addRule_72 ?_
    refine sv_eqs (st' := [.int (nI r)]) (by show [Value.int (V 1 + 1 - 1)] = _; rw [hV1, nI_1, nI_pred]) ?_
    refine sv_eqw (ws' := hC cI cJ cZ (hu (hu L 1 f1) 2 f2) I (hu V 1 (nI (r + 1))) tl) (by rw [← nI_1, ← hV1]; rfl) ?_
    exact sv_iret C rfl rfl d_Ma_addRule_73 (Nat.le_of_ble_eq_true rfl) (Nat.le_of_ble_eq_true rfl) (fun _ _ => rfl) (⟨rfl, f1, f2, rfl, h1, h2⟩)
  · have hi2 : ¬ 2 ^ n ≤ i := fun h => hF ((nI_leI (a := 2 ^ n) (b := i) (by omega) (by omega)).mpr h)
    refine sv_iload C d_Ma_addRule_12 rfl ?_
    refine sv_iload_n C d_Ma_addRule_14 rfl rfl ?_
    refine sv_iand C d_Ma_addRule_15 ?_
    refine sv_iload_n C d_Ma_addRule_16 rfl rfl ?_
    refine sv_icmp_ne (tgt := 51) C d_Ma_addRule_17 (by decide) (fun hT2 => ?_) (fun hF2 => ?_)
    · have hne : ¬ i &&& m = v := fun h => hT2 (by rw [nx_and, h])
      refine sv_iincN C d_Ma_addRule_51 rfl (by decide) rfl ?_
      refine sv_goto (tgt := 3) C d_Ma_addRule_54 (by decide) ?_
      refine ih (i + 1, f1, f2) ⟨by show i + 1 ≤ 2 ^ n; omega, fun a z ha hz => ?_, fun a z ha hz => ?_⟩ (by show 2 ^ n - (i + 1) < 2 ^ n - i; omega)
      · show ss_b f1 a z = (ss_b (L 1) a z || (decide (a < i + 1) && ma_g m v k f a z))
        rw [h1 a z ha hz]
        by_cases e : a = i
        · have hg : ma_g m v k f a z = false := by unfold ma_g; rw [e]; simp [hne]
          rw [hg]
          simp
        · have e2 : decide (a < i + 1) = decide (a < i) := by simp; omega
          rw [e2]
      · show ss_b f2 z a = (ss_b (L 2) z a || (decide (a < i + 1) && ma_g m v k f a z))
        rw [h2 a z ha hz]
        by_cases e : a = i
        · have hg : ma_g m v k f a z = false := by unfold ma_g; rw [e]; simp [hne]
          rw [hg]
          simp
        · have e2 : decide (a < i + 1) = decide (a < i) := by simp; omega
          rw [e2]
    · have heq : i &&& m = v := (nI_eq (Nat.lt_of_le_of_lt Nat.and_le_left (by omega)) (by omega)).mp (by rw [← nx_and]; exact hF2)
      have hto := ma_to (n := n) (a := i) (k := k) (f := f) (by omega) hf
      refine sv_iload C d_Ma_addRule_20 rfl ?_
      refine sv_iload_n C d_Ma_addRule_22 rfl rfl ?_
      refine sv_iand C d_Ma_addRule_23 ?_
      refine sv_iload C d_Ma_addRule_24 rfl ?_
      refine sv_ixor C d_Ma_addRule_26 ?_
      refine sv_eqs (st' := [.int (nI ((i &&& k) ^^^ f))]) (by rw [nx_and, nx_xor]) ?_
      refine sv_istore C d_Ma_addRule_27 (by decide) rfl ?_
      refine sv_aload_n C d_Ma_addRule_29 rfl rfl ?_
      refine sv_get (ci := 1) (kf := 1) C i_Ma rfl (by decide) f_Ma_20 (fun _ h9 => h9) d_Ma_addRule_30 (by first | assumption | rfl) rfl ?_
      refine sv_iload C d_Ma_addRule_33 rfl ?_
      refine sv_iload C d_Ma_addRule_35 rfl ?_
      refine sv_callV (ci := 3) C (c_St_put (cI := cI) (cZ := cZ) (ws := hC cI cJ cZ (hu (hu L 1 f1) 2 f2) I V tl) (b := 4) (w := 5) (N := 1024) (f := f1) (a := i) (x := (i &&& k) ^^^ f) rfl rfl (by omega) (by decide) (by omega)) s_Ma_39 ki_St_put ks_St_put ⟨rfl, rfl, Nat.le_of_ble_eq_true rfl, Nat.le_of_ble_eq_true rfl⟩ rfl d_Ma_addRule_37 (by first | assumption | rfl) (Nat.le_of_ble_eq_true rfl) ⟨(Nat.le_of_ble_eq_true rfl), (Nat.le_of_ble_eq_true rfl)⟩ (fun E ws9 h9 => absurd h9 id) (fun v9 ws9 hp => ?_)
      obtain ⟨rfl, rfl⟩ := hp
      refine sv_eqw (ws' := hC cI cJ cZ (hu (hu L 1 (ss_put f1 i ((i &&& k) ^^^ f))) 2 f2) I V tl) rfl ?_
      refine sv_aload_n C d_Ma_addRule_40 rfl rfl ?_
      refine sv_get (ci := 1) (kf := 2) C i_Ma rfl (by decide) f_Ma_23 (fun _ h9 => h9) d_Ma_addRule_41 (by first | assumption | rfl) rfl ?_
      refine sv_iload C d_Ma_addRule_44 rfl ?_
      refine sv_iload C d_Ma_addRule_46 rfl ?_
      refine sv_callV (ci := 3) C (c_St_put (cI := cI) (cZ := cZ) (ws := hC cI cJ cZ (hu (hu L 1 (ss_put f1 i ((i &&& k) ^^^ f))) 2 f2) I V tl) (b := 6) (w := 7) (N := 1024) (f := f2) (a := (i &&& k) ^^^ f) (x := i) rfl rfl (by omega) (by decide) (by omega)) s_Ma_39 ki_St_put ks_St_put ⟨rfl, rfl, Nat.le_of_ble_eq_true rfl, Nat.le_of_ble_eq_true rfl⟩ rfl d_Ma_addRule_48 (by first | assumption | rfl) (Nat.le_of_ble_eq_true rfl) ⟨(Nat.le_of_ble_eq_true rfl), (Nat.le_of_ble_eq_true rfl)⟩ (fun E ws9 h9 => absurd h9 id) (fun v9 ws9 hp => ?_)
      obtain ⟨rfl, rfl⟩ := hp
      refine sv_eqw (ws' := hC cI cJ cZ (hu (hu L 1 (ss_put f1 i ((i &&& k) ^^^ f))) 2 (ss_put f2 ((i &&& k) ^^^ f) i)) I V tl) rfl ?_
      refine sv_iincN C d_Ma_addRule_51 rfl (by decide) rfl ?_
      refine sv_goto (tgt := 3) C d_Ma_addRule_54 (by decide) ?_
      refine sv_drop [true, true, true, true, true, true, false] ?_
      refine ih (i + 1, ss_put f1 i ((i &&& k) ^^^ f), ss_put f2 ((i &&& k) ^^^ f) i) ⟨by show i + 1 ≤ 2 ^ n; omega, fun a z ha hz => ?_, fun a z ha hz => ?_⟩ (by show 2 ^ n - (i + 1) < 2 ^ n - i; omega)
      · show ss_b (ss_put f1 i ((i &&& k) ^^^ f)) a z = (ss_b (L 1) a z || (decide (a < i + 1) && ma_g m v k f a z))
        rw [ss_put_b _ _ _ _ _ hz (by omega), h1 a z ha hz]
        by_cases e : a = i
        · subst e
          unfold ma_g
          simp [heq]
        · have e2 : decide (a < i + 1) = decide (a < i) := by simp; omega
          rw [e2]
          simp [e]
      · show ss_b (ss_put f2 ((i &&& k) ^^^ f) i) z a = (ss_b (L 2) z a || (decide (a < i + 1) && ma_g m v k f a z))
        rw [ss_put_b _ _ _ _ _ ha (by omega), h2 a z ha hz]
        by_cases e : a = i
        · subst e
          unfold ma_g
          simp [heq]
        · have e2 : decide (a < i + 1) = decide (a < i) := by simp; omega
          rw [e2]
          simp [e]
