/-! StateLogic$Formulas: putFound, evaluateWords -/
set_option maxRecDepth 100000 in
set_option maxHeartbeats 4000000 in
theorem c_Fo_putFound {l : Launch} {D : va_G} {cI cJ cZ : ClassId} {L : Nat → Nat → Int64} {I : Nat → Nat → Int32} {V : Nat → Int32} {tl : List va_E} {f cnt : Nat} {fd : Nat → Nat} (hf : f < 60) (hV : V 2 = nI cnt) (hc : cnt ≤ 256) (hfd : ∀ i, i < cnt → fd i < 256 ∧ I 0 i = nI (fd i)) :
    sv_M l y_Fo_putFound [Cond.code y_Fo_putFound b_Fo_putFound 3 none] ({ frames := 1, cells := 0, slots := 0, locals := 22 } : Room) D sv_cl (sv_ty cI cJ cZ) [.ref 8, .int (nI f)] (hC cI cJ cZ L I V tl) 0 0 (fun r ws' => r = none ∧ ∃ fT : Nat → Int64, ws' = hC cI cJ cZ (hu L 4 fT) I V tl ∧ ∀ c z, z < 256 → (ss_b fT c z = true ↔ (ss_b (L 4) c z = true ∨ (c = f ∧ bf_F fd cnt z)))) sv_no 0 0 := by
  refine sv_of (cc := b_Fo_putFound) (by decide +kernel) (Nat.le_of_ble_eq_true rfl) ?_
  intro pX eX sX mX aX bX tX cX AX adX C htab hnm
  refine sv_iconst (v := 0) C d_Fo_putFound_0 rfl ?_
  refine sv_istore_n C d_Fo_putFound_1 rfl (by decide) rfl ?_
  refine sv_eqw (ws' := hC cI cJ cZ (hu L 4 (L 4)) I V tl) (by rw [hu_same]) ?_
  refine sv_ind (σ := Nat × (Nat → Int64)) (I := fun s => s.1 ≤ cnt ∧ ∀ c z, z < 256 → (ss_b s.2 c z = true ↔ (ss_b (L 4) c z = true ∨ (c = f ∧ bf_F fd s.1 z)))) (μ := fun s => cnt - s.1) (lv := fun s => [some (.ref 8), some (.int (nI f)), some (.int (nI s.1))]) (ws := fun s => hC cI cJ cZ (hu L 4 s.2) I V tl) ?_ (0, L 4) ⟨Nat.zero_le _, fun c z hz => ⟨Or.inl, fun h => h.elim id (fun h => by obtain ⟨-, i, hi, -⟩ := h; exact absurd hi (Nat.not_lt_zero i))⟩⟩
  rintro ⟨i, fT⟩ ⟨hi, hT⟩ ih
  dsimp only at hi hT ih
  refine sv_iload_n C d_Fo_putFound_2 rfl rfl ?_
  refine sv_aload_n C d_Fo_putFound_3 rfl rfl ?_
  refine sv_get (ci := 0) (kf := 1) C i_Fo rfl (by decide) f_Fo_12 (fun _ h9 => h9) d_Fo_putFound_4 (by first | assumption | rfl) rfl ?_
  refine sv_get (ci := 2) (kf := 5) C i_Se rfl (by decide) f_Fo_141 (fun _ h9 => h9) d_Fo_putFound_7 (by first | assumption | rfl) rfl ?_
  rw [hV]
  refine sv_icmp_ge (tgt := 36) C d_Fo_putFound_10 (by decide) (fun h1 => ?_) (fun h1 => ?_)
  · have h1 : cnt ≤ i := (nI_leI (a := cnt) (b := i) (by omega) (by omega)).mp h1
    have h2 : i = cnt := by omega
    subst h2
    exact sv_vret C rfl d_Fo_putFound_36 (Nat.le_of_ble_eq_true rfl) (Nat.le_of_ble_eq_true rfl) (fun _ _ => rfl) (⟨rfl, fT, rfl, hT⟩)
  · have h1 : ¬ cnt ≤ i := fun h => h1 ((nI_leI (a := cnt) (b := i) (by omega) (by omega)).mpr h)
    have hiin : vp_in (nI i) 256 := vp_in_nI (by omega) (by omega)
    have hfi := hfd i (by omega)
    refine sv_aload_n C d_Fo_putFound_13 rfl rfl ?_
    refine sv_get (ci := 0) (kf := 2) C i_Fo rfl (by decide) f_Fo_23 (fun _ h9 => h9) d_Fo_putFound_14 (by first | assumption | rfl) rfl ?_
    refine sv_iload_n C d_Fo_putFound_17 rfl rfl ?_
    refine sv_aload_n C d_Fo_putFound_18 rfl rfl ?_
    refine sv_get (ci := 0) (kf := 1) C i_Fo rfl (by decide) f_Fo_12 (fun _ h9 => h9) d_Fo_putFound_19 (by first | assumption | rfl) rfl ?_
    refine sv_get (ci := 2) (kf := 1) C i_Se rfl (by decide) f_Fo_144 (fun _ h9 => h9) d_Fo_putFound_22 (by first | assumption | rfl) rfl ?_
    refine sv_iload_n C d_Fo_putFound_25 rfl rfl ?_
    refine sv_iald (t0 := 0) C rfl d_Fo_putFound_26 (by first | assumption | rfl) (by assumption) ?_
    refine sv_eqs (st' := [.int (nI (fd i)), .int (nI f), .ref 16]) (by show [Value.int (I 0 (nI i).toNatClampNeg), _, _] = _; rw [nI_clamp (by omega), hfi.2]) ?_
    refine sv_callV (ci := 3) C (c_St_put (cI := cI) (cZ := cZ) (ws := hC cI cJ cZ (hu L 4 fT) I V tl) (b := 16) (w := 17) (N := 240) (f := fT) (a := f) (x := fd i) rfl rfl (by omega) (by decide) (by omega)) s_Fo_91 ki_St_put ks_St_put ⟨rfl, rfl, Nat.le_of_ble_eq_true rfl, Nat.le_of_ble_eq_true rfl⟩ rfl d_Fo_putFound_27 (by first | assumption | rfl) (Nat.le_of_ble_eq_true rfl) ⟨(Nat.le_of_ble_eq_true rfl), (Nat.le_of_ble_eq_true rfl)⟩ (fun E ws9 h9 => absurd h9 id) (fun v9 ws9 hp => ?_)
    obtain ⟨rfl, rfl⟩ := hp
    refine sv_iincN C d_Fo_putFound_30 rfl (by decide) rfl ?_
    refine sv_goto (tgt := 2) C d_Fo_putFound_33 (by decide) ?_
    refine sv_eqw (ws' := hC cI cJ cZ (hu L 4 (ss_put fT f (fd i))) I V tl) rfl ?_
    refine ih (i + 1, ss_put fT f (fd i)) ⟨by dsimp only; omega, fun c z hz => ?_⟩ (by dsimp only; omega)
    dsimp only
    rw [ss_put_i hz (by omega), hT c z hz]
    constructor
    · rintro ((h | ⟨h1, j, h2, h3⟩) | ⟨h1, h2⟩)
      · exact Or.inl h
      · exact Or.inr ⟨h1, j, by omega, h3⟩
      · exact Or.inr ⟨h1, i, by omega, h2.symm⟩
    · rintro (h | ⟨h1, j, h2, h3⟩)
      · exact Or.inl (Or.inl h)
      · by_cases e : j = i
        · exact Or.inr ⟨h1, by rw [← h3, e]⟩
        · exact Or.inl (Or.inr ⟨h1, j, by omega, h3⟩)
theorem ss_upd_b (f : Nat → Int64) (a i c z : Nat) (v : Int64) (hi : i < 4) (hz : z < 256) : ss_b (vp_updL f (a * 4 + i) v) c z = if c = a ∧ z / 64 = i then v.toBitVec.getLsbD (z % 64) else ss_b f c z := by
  unfold ss_b
  by_cases e : c * 4 + z / 64 = a * 4 + i
  · have h : c = a ∧ z / 64 = i := by omega
    rw [e, pk_uLs, if_pos h]
  · have h : ¬ (c = a ∧ z / 64 = i) := fun h => e (by rw [h.1, h.2])
    rw [pk_uLn e, if_neg h]
/-- the words of a set done, up to word i -/
def ew_I (fL fT : Nat → Int64) (f i : Nat) (val : Nat → Bool) : Prop := ∀ c z, z < 256 → ss_b fT c z = if c = f ∧ z < 64 * i then val z else ss_b fL c z
theorem ew_s {fL fT : Nat → Int64} {f i : Nat} {val : Nat → Bool} {v : Int64} (h : ew_I fL fT f i val) (hi : i < 4) (hv : ∀ j, j < 64 → v.toBitVec.getLsbD j = val (64 * i + j)) : ew_I fL (vp_updL fT (f * 4 + i) v) f (i + 1) val := by
  intro c z hz
  rw [ss_upd_b _ _ _ _ _ _ hi hz]
  by_cases e : c = f ∧ z / 64 = i
  · have h2 : c = f ∧ z < 64 * (i + 1) := ⟨e.1, by omega⟩
    have h3 : 64 * i + z % 64 = z := by omega
    rw [if_pos e, if_pos h2, hv _ (by omega), h3]
  · rw [if_neg e, h c z hz]
    by_cases e2 : c = f ∧ z < 64 * i
    · have h2 : c = f ∧ z < 64 * (i + 1) := ⟨e2.1, by omega⟩
      rw [if_pos e2, if_pos h2]
    · have h2 : ¬ (c = f ∧ z < 64 * (i + 1)) := by omega
      rw [if_neg e2, if_neg h2]
theorem ew_at {fL fT : Nat → Int64} {f i a : Nat} {val : Nat → Bool} (h : ew_I fL fT f i val) (ha : a ≠ f) (hi : i < 4) {j : Nat} (hj : j < 64) : (fT (a * 4 + i)).toBitVec.getLsbD j = ss_b fL a (64 * i + j) := by
  rw [← ss_at fT a i j hj, h a _ (by omega)]
  rw [if_neg (fun q => ha q.1)]
set_option maxRecDepth 100000 in
set_option maxHeartbeats 4000000 in
theorem c_Fo_wordsNot {l : Launch} {D : va_G} {cI cJ cZ : ClassId} {L : Nat → Nat → Int64} {I : Nat → Nat → Int32} {V : Nat → Int32} {tl : List va_E} {f x y : Nat} (hf : f < 60) (hk : I 4 f = nI 1) (hx : I 5 f = nI x) (hy : I 6 f = nI y) (hxf : x < f) (hyf : y < f) :
    sv_M l y_Fo_evaluateWords [Cond.code y_Fo_evaluateWords b_Fo_evaluateWords 10 none] ({ frames := 0, cells := 0, slots := 0, locals := 0 } : Room) D sv_cl (sv_ty cI cJ cZ) [.ref 8, .int (nI f)] (hC cI cJ cZ L I V tl) 0 0 (fun r ws' => r = none ∧ ∃ fT : Nat → Int64, ws' = hC cI cJ cZ (hu L 4 fT) I V tl ∧ ∀ c z, z < 256 → ss_b fT c z = if c = f then (ss_b (L 0) 0 z && !ss_b (L 4) x z) else ss_b (L 4) c z) sv_no 0 0 := by
  refine sv_of (cc := b_Fo_evaluateWords) (by decide +kernel) (Nat.le_of_ble_eq_true rfl) ?_
  intro pX eX sX mX aX bX tX cX AX adX C htab hnm
  have hfin : vp_in (nI f) 60 := vp_in_nI hf (by omega)
  have hfc : (nI f).toNatClampNeg = f := nI_clamp (by omega)
  refine sv_aload_n C d_Fo_evaluateWords_0 rfl rfl ?_
  refine sv_get (ci := 0) (kf := 2) C i_Fo rfl (by decide) f_Fo_23 (fun _ h9 => h9) d_Fo_evaluateWords_1 (by first | assumption | rfl) rfl ?_
  refine sv_get (ci := 3) (kf := 0) C i_St rfl (by decide) f_Fo_95 (fun _ h9 => h9) d_Fo_evaluateWords_4 (by first | assumption | rfl) rfl ?_
  refine sv_astore_n C d_Fo_evaluateWords_7 rfl (by decide) rfl ?_
  refine sv_iconst (v := 0) C d_Fo_evaluateWords_8 rfl ?_
  refine sv_istore_n C d_Fo_evaluateWords_9 rfl (by decide) rfl ?_
  refine sv_eqw (ws' := hC cI cJ cZ (hu L 4 (L 4)) I V tl) (by rw [hu_same]) ?_
  refine sv_ind (σ := Nat × (Nat → Int64)) (I := fun s => s.1 ≤ 4 ∧ ew_I (L 4) s.2 f s.1 (fun z => (ss_b (L 0) 0 z && !ss_b (L 4) x z))) (μ := fun s => 4 - s.1) (lv := fun s => [some (.ref 8), some (.int (nI f)), some (.ref 17), some (.int (nI s.1)), none, none, none, none, none, none]) (ws := fun s => hC cI cJ cZ (hu L 4 s.2) I V tl) ?_ (0, L 4) ⟨Nat.zero_le _, fun c z hz => by rw [if_neg (fun q => absurd q.2 (Nat.not_lt_zero z))]⟩
  rintro ⟨i, fT⟩ ⟨hi, hT⟩ ih
  dsimp only at hi hT ih
  refine sv_iload_n C d_Fo_evaluateWords_10 rfl rfl ?_
  refine sv_iconst (v := 4) C d_Fo_evaluateWords_11 rfl ?_
  refine sv_icmp_ge (tgt := 115) C d_Fo_evaluateWords_12 (by decide) (fun h1 => ?_) (fun h1 => ?_)
  · have h1 : 4 ≤ i := (nI_leI (a := 4) (b := i) (by omega) (by omega)).mp h1
    have h2 : i = 4 := by omega
    subst h2
    refine sv_vret C rfl d_Fo_evaluateWords_115 (Nat.le_of_ble_eq_true rfl) (Nat.le_of_ble_eq_true rfl) (fun _ _ => rfl) (⟨rfl, fT, rfl, fun c z hz => ?_⟩)
    rw [hT c z hz]
    by_cases e : c = f
    · rw [if_pos ⟨e, by omega⟩, if_pos e]
    · rw [if_neg (fun q => e q.1), if_neg e]
  · have h1 : ¬ 4 ≤ i := fun h => h1 ((nI_leI (a := 4) (b := i) (by omega) (by omega)).mpr h)
    have hxin := ss_jin (a := x) (i := i) (N := 240) (by omega) (by omega) (by decide)
    have hyin := ss_jin (a := y) (i := i) (N := 240) (by omega) (by omega) (by decide)
    have hffin := ss_jin (a := f) (i := i) (N := 240) (by omega) (by omega) (by decide)
    have hxc := ss_jcl (a := x) (i := i) (N := 240) (by omega) (by omega) (by decide)
    have hyc := ss_jcl (a := y) (i := i) (N := 240) (by omega) (by omega) (by decide)
    have hffc := ss_jcl (a := f) (i := i) (N := 240) (by omega) (by omega) (by decide)
    refine sv_aload_n C d_Fo_evaluateWords_15 rfl rfl ?_
    refine sv_aload_n C d_Fo_evaluateWords_16 rfl rfl ?_
    refine sv_get (ci := 0) (kf := 4) C i_Fo rfl (by decide) f_Fo_31 (fun _ h9 => h9) d_Fo_evaluateWords_17 (by first | assumption | rfl) rfl ?_
    refine sv_iload_n C d_Fo_evaluateWords_20 rfl rfl ?_
    refine sv_iald (t0 := 0) C rfl d_Fo_evaluateWords_21 (by first | assumption | rfl) (by assumption) ?_
    refine sv_eqs (st' := [.int (nI x), .ref 17]) (by show [Value.int (I 5 (nI f).toNatClampNeg), _] = _; rw [hfc, hx]) ?_
    refine sv_iconst (v := 4) C d_Fo_evaluateWords_22 rfl ?_
    refine sv_imul C d_Fo_evaluateWords_23 ?_
    refine sv_iload_n C d_Fo_evaluateWords_24 rfl rfl ?_
    refine sv_iadd C d_Fo_evaluateWords_25 ?_
    refine sv_lald (t0 := 1) C rfl d_Fo_evaluateWords_26 (by first | assumption | rfl) (by assumption) ?_
    refine sv_topl (fun wx ex => ?_)
    refine sv_lstore C d_Fo_evaluateWords_27 (by decide) rfl ?_
    refine sv_aload_n C d_Fo_evaluateWords_29 rfl rfl ?_
    refine sv_aload_n C d_Fo_evaluateWords_30 rfl rfl ?_
    refine sv_get (ci := 0) (kf := 5) C i_Fo rfl (by decide) f_Fo_34 (fun _ h9 => h9) d_Fo_evaluateWords_31 (by first | assumption | rfl) rfl ?_
    refine sv_iload_n C d_Fo_evaluateWords_34 rfl rfl ?_
    refine sv_iald (t0 := 0) C rfl d_Fo_evaluateWords_35 (by first | assumption | rfl) (by assumption) ?_
    refine sv_eqs (st' := [.int (nI y), .ref 17]) (by show [Value.int (I 6 (nI f).toNatClampNeg), _] = _; rw [hfc, hy]) ?_
    refine sv_iconst (v := 4) C d_Fo_evaluateWords_36 rfl ?_
    refine sv_imul C d_Fo_evaluateWords_37 ?_
    refine sv_iload_n C d_Fo_evaluateWords_38 rfl rfl ?_
    refine sv_iadd C d_Fo_evaluateWords_39 ?_
    refine sv_lald (t0 := 1) C rfl d_Fo_evaluateWords_40 (by first | assumption | rfl) (by assumption) ?_
    refine sv_topl (fun wy ey => ?_)
    have ex : wx = fT (x * 4 + i) := by rw [ex]; show fT (nI x * 4 + nI i).toNatClampNeg = _; rw [hxc]
    have ey : wy = fT (y * 4 + i) := by rw [ey]; show fT (nI y * 4 + nI i).toNatClampNeg = _; rw [hyc]
    have bx : ∀ j, j < 64 → wx.toBitVec.getLsbD j = ss_b (L 4) x (64 * i + j) := fun j hj => by rw [ex]; exact ew_at hT (by omega) (by omega) hj
    have byy : ∀ j, j < 64 → wy.toBitVec.getLsbD j = ss_b (L 4) y (64 * i + j) := fun j hj => by rw [ey]; exact ew_at hT (by omega) (by omega) hj
    refine sv_lstore C d_Fo_evaluateWords_41 (by decide) rfl ?_
    refine sv_aload_n C d_Fo_evaluateWords_43 rfl rfl ?_
    refine sv_get (ci := 0) (kf := 3) C i_Fo rfl (by decide) f_Fo_27 (fun _ h9 => h9) d_Fo_evaluateWords_44 (by first | assumption | rfl) rfl ?_
    refine sv_iload_n C d_Fo_evaluateWords_47 rfl rfl ?_
    refine sv_iald (t0 := 0) C rfl d_Fo_evaluateWords_48 (by first | assumption | rfl) (by assumption) ?_
    refine sv_iconst (v := 2) C d_Fo_evaluateWords_49 rfl ?_
    refine sv_eqs (st' := [.int 2, .int 1]) (by show [_, Value.int (I 4 (nI f).toNatClampNeg)] = _; rw [hfc, hk]; rfl) ?_
    refine sv_icmp_ne (tgt := 61) C d_Fo_evaluateWords_50 (by decide) (fun h2 => ?_) (fun h2 => ?_)
    · refine sv_lload C d_Fo_evaluateWords_61 rfl ?_
      refine sv_lload C d_Fo_evaluateWords_63 rfl ?_
      refine sv_lor C d_Fo_evaluateWords_65 ?_
      have hiin : vp_in (nI i) 4 := vp_in_nI (by omega) (by omega)
      refine sv_lstore C d_Fo_evaluateWords_66 (by decide) rfl ?_
      refine sv_aload_n C d_Fo_evaluateWords_68 rfl rfl ?_
      refine sv_iload_n C d_Fo_evaluateWords_69 rfl rfl ?_
      refine sv_iconst (v := 4) C d_Fo_evaluateWords_70 rfl ?_
      refine sv_imul C d_Fo_evaluateWords_71 ?_
      refine sv_iload_n C d_Fo_evaluateWords_72 rfl rfl ?_
      refine sv_iadd C d_Fo_evaluateWords_73 ?_
      refine sv_aload_n C d_Fo_evaluateWords_74 rfl rfl ?_
      refine sv_get (ci := 0) (kf := 3) C i_Fo rfl (by decide) f_Fo_27 (fun _ h9 => h9) d_Fo_evaluateWords_75 (by first | assumption | rfl) rfl ?_
      refine sv_iload_n C d_Fo_evaluateWords_78 rfl rfl ?_
      refine sv_iald (t0 := 0) C rfl d_Fo_evaluateWords_79 (by first | assumption | rfl) (by assumption) ?_
      refine sv_iconst (v := 1) C d_Fo_evaluateWords_80 rfl ?_
      refine sv_eqs (st' := [.int 1, .int 1, .int (nI f * 4 + nI i), .ref 17]) (by show [_, Value.int (I 4 (nI f).toNatClampNeg), _, _] = _; rw [hfc, hk]; rfl) ?_
      refine sv_icmp_ne (tgt := 106) C d_Fo_evaluateWords_81 (by decide) (fun h3 => ?_) (fun h3 => ?_)
      · exact absurd rfl h3
      · refine sv_aload_n C d_Fo_evaluateWords_84 rfl rfl ?_
        refine sv_get (ci := 0) (kf := 0) C i_Fo rfl (by decide) f_Fo_44 (fun _ h9 => h9) d_Fo_evaluateWords_85 (by first | assumption | rfl) rfl ?_
        refine sv_get (ci := 1) (kf := 0) C i_Ma rfl (by decide) f_Fo_99 (fun _ h9 => h9) d_Fo_evaluateWords_88 (by first | assumption | rfl) rfl ?_
        refine sv_get (ci := 3) (kf := 0) C i_St rfl (by decide) f_Fo_95 (fun _ h9 => h9) d_Fo_evaluateWords_91 (by first | assumption | rfl) rfl ?_
        refine sv_iload_n C d_Fo_evaluateWords_94 rfl rfl ?_
        refine sv_lald (t0 := 1) C rfl d_Fo_evaluateWords_95 (by first | assumption | rfl) hiin ?_
        refine sv_lload C d_Fo_evaluateWords_96 rfl ?_
        refine sv_ldc2 C g_Fo_102 d_Fo_evaluateWords_98 ?_
        refine sv_lxor C d_Fo_evaluateWords_101 ?_
        refine sv_land C d_Fo_evaluateWords_102 ?_
        refine sv_goto (tgt := 108) C d_Fo_evaluateWords_103 (by decide) ?_
        refine sv_topl (fun wv ev => ?_)
        refine sv_last (t0 := 1) C rfl d_Fo_evaluateWords_108 (by first | assumption | rfl) hffin ?_
        refine sv_eqw (ws' := hC cI cJ cZ (hu L 4 (vp_updL fT (f * 4 + i) wv)) I V tl) (by rw [hffc]; rfl) ?_
        refine sv_iincN C d_Fo_evaluateWords_109 rfl (by decide) rfl ?_
        refine sv_goto (tgt := 10) C d_Fo_evaluateWords_112 (by decide) ?_
        refine sv_drop [true, true, true, true, false, false, false, false, false, false] ?_
        refine ih (i + 1, vp_updL fT (f * 4 + i) wv) ⟨by dsimp only; omega, ew_s hT (by omega) (fun j hj => ?_)⟩ (by dsimp only; omega)
        rw [ev, ss_and, ss_xor, ss_m1 hj, bx j hj]
        have e9 : (L 0 (nI i).toNatClampNeg).toBitVec.getLsbD j = ss_b (L 0) 0 (64 * i + j) := by rw [nI_clamp (by omega), ss_at _ _ _ _ hj, Nat.zero_mul, Nat.zero_add]
        show (_ && _) = (_ && _)
        rw [show (hu L 4 fT 0) = L 0 from rfl, e9]
        simp
    · exact absurd h2 (by decide)
set_option maxRecDepth 100000 in
set_option maxHeartbeats 4000000 in
theorem c_Fo_wordsAnd {l : Launch} {D : va_G} {cI cJ cZ : ClassId} {L : Nat → Nat → Int64} {I : Nat → Nat → Int32} {V : Nat → Int32} {tl : List va_E} {f x y : Nat} (hf : f < 60) (hk : I 4 f = nI 2) (hx : I 5 f = nI x) (hy : I 6 f = nI y) (hxf : x < f) (hyf : y < f) :
    sv_M l y_Fo_evaluateWords [Cond.code y_Fo_evaluateWords b_Fo_evaluateWords 10 none] ({ frames := 0, cells := 0, slots := 0, locals := 0 } : Room) D sv_cl (sv_ty cI cJ cZ) [.ref 8, .int (nI f)] (hC cI cJ cZ L I V tl) 0 0 (fun r ws' => r = none ∧ ∃ fT : Nat → Int64, ws' = hC cI cJ cZ (hu L 4 fT) I V tl ∧ ∀ c z, z < 256 → ss_b fT c z = if c = f then (ss_b (L 4) x z && ss_b (L 4) y z) else ss_b (L 4) c z) sv_no 0 0 := by
  refine sv_of (cc := b_Fo_evaluateWords) (by decide +kernel) (Nat.le_of_ble_eq_true rfl) ?_
  intro pX eX sX mX aX bX tX cX AX adX C htab hnm
  have hfin : vp_in (nI f) 60 := vp_in_nI hf (by omega)
  have hfc : (nI f).toNatClampNeg = f := nI_clamp (by omega)
  refine sv_aload_n C d_Fo_evaluateWords_0 rfl rfl ?_
  refine sv_get (ci := 0) (kf := 2) C i_Fo rfl (by decide) f_Fo_23 (fun _ h9 => h9) d_Fo_evaluateWords_1 (by first | assumption | rfl) rfl ?_
  refine sv_get (ci := 3) (kf := 0) C i_St rfl (by decide) f_Fo_95 (fun _ h9 => h9) d_Fo_evaluateWords_4 (by first | assumption | rfl) rfl ?_
  refine sv_astore_n C d_Fo_evaluateWords_7 rfl (by decide) rfl ?_
  refine sv_iconst (v := 0) C d_Fo_evaluateWords_8 rfl ?_
  refine sv_istore_n C d_Fo_evaluateWords_9 rfl (by decide) rfl ?_
  refine sv_eqw (ws' := hC cI cJ cZ (hu L 4 (L 4)) I V tl) (by rw [hu_same]) ?_
  refine sv_ind (σ := Nat × (Nat → Int64)) (I := fun s => s.1 ≤ 4 ∧ ew_I (L 4) s.2 f s.1 (fun z => (ss_b (L 4) x z && ss_b (L 4) y z))) (μ := fun s => 4 - s.1) (lv := fun s => [some (.ref 8), some (.int (nI f)), some (.ref 17), some (.int (nI s.1)), none, none, none, none, none, none]) (ws := fun s => hC cI cJ cZ (hu L 4 s.2) I V tl) ?_ (0, L 4) ⟨Nat.zero_le _, fun c z hz => by rw [if_neg (fun q => absurd q.2 (Nat.not_lt_zero z))]⟩
  rintro ⟨i, fT⟩ ⟨hi, hT⟩ ih
  dsimp only at hi hT ih
  refine sv_iload_n C d_Fo_evaluateWords_10 rfl rfl ?_
  refine sv_iconst (v := 4) C d_Fo_evaluateWords_11 rfl ?_
  refine sv_icmp_ge (tgt := 115) C d_Fo_evaluateWords_12 (by decide) (fun h1 => ?_) (fun h1 => ?_)
  · have h1 : 4 ≤ i := (nI_leI (a := 4) (b := i) (by omega) (by omega)).mp h1
    have h2 : i = 4 := by omega
    subst h2
    refine sv_vret C rfl d_Fo_evaluateWords_115 (Nat.le_of_ble_eq_true rfl) (Nat.le_of_ble_eq_true rfl) (fun _ _ => rfl) (⟨rfl, fT, rfl, fun c z hz => ?_⟩)
    rw [hT c z hz]
    by_cases e : c = f
    · rw [if_pos ⟨e, by omega⟩, if_pos e]
    · rw [if_neg (fun q => e q.1), if_neg e]
  · have h1 : ¬ 4 ≤ i := fun h => h1 ((nI_leI (a := 4) (b := i) (by omega) (by omega)).mpr h)
    have hxin := ss_jin (a := x) (i := i) (N := 240) (by omega) (by omega) (by decide)
    have hyin := ss_jin (a := y) (i := i) (N := 240) (by omega) (by omega) (by decide)
    have hffin := ss_jin (a := f) (i := i) (N := 240) (by omega) (by omega) (by decide)
    have hxc := ss_jcl (a := x) (i := i) (N := 240) (by omega) (by omega) (by decide)
    have hyc := ss_jcl (a := y) (i := i) (N := 240) (by omega) (by omega) (by decide)
    have hffc := ss_jcl (a := f) (i := i) (N := 240) (by omega) (by omega) (by decide)
    refine sv_aload_n C d_Fo_evaluateWords_15 rfl rfl ?_
    refine sv_aload_n C d_Fo_evaluateWords_16 rfl rfl ?_
    refine sv_get (ci := 0) (kf := 4) C i_Fo rfl (by decide) f_Fo_31 (fun _ h9 => h9) d_Fo_evaluateWords_17 (by first | assumption | rfl) rfl ?_
    refine sv_iload_n C d_Fo_evaluateWords_20 rfl rfl ?_
    refine sv_iald (t0 := 0) C rfl d_Fo_evaluateWords_21 (by first | assumption | rfl) (by assumption) ?_
    refine sv_eqs (st' := [.int (nI x), .ref 17]) (by show [Value.int (I 5 (nI f).toNatClampNeg), _] = _; rw [hfc, hx]) ?_
    refine sv_iconst (v := 4) C d_Fo_evaluateWords_22 rfl ?_
    refine sv_imul C d_Fo_evaluateWords_23 ?_
    refine sv_iload_n C d_Fo_evaluateWords_24 rfl rfl ?_
    refine sv_iadd C d_Fo_evaluateWords_25 ?_
    refine sv_lald (t0 := 1) C rfl d_Fo_evaluateWords_26 (by first | assumption | rfl) (by assumption) ?_
    refine sv_topl (fun wx ex => ?_)
    refine sv_lstore C d_Fo_evaluateWords_27 (by decide) rfl ?_
    refine sv_aload_n C d_Fo_evaluateWords_29 rfl rfl ?_
    refine sv_aload_n C d_Fo_evaluateWords_30 rfl rfl ?_
    refine sv_get (ci := 0) (kf := 5) C i_Fo rfl (by decide) f_Fo_34 (fun _ h9 => h9) d_Fo_evaluateWords_31 (by first | assumption | rfl) rfl ?_
    refine sv_iload_n C d_Fo_evaluateWords_34 rfl rfl ?_
    refine sv_iald (t0 := 0) C rfl d_Fo_evaluateWords_35 (by first | assumption | rfl) (by assumption) ?_
    refine sv_eqs (st' := [.int (nI y), .ref 17]) (by show [Value.int (I 6 (nI f).toNatClampNeg), _] = _; rw [hfc, hy]) ?_
    refine sv_iconst (v := 4) C d_Fo_evaluateWords_36 rfl ?_
    refine sv_imul C d_Fo_evaluateWords_37 ?_
    refine sv_iload_n C d_Fo_evaluateWords_38 rfl rfl ?_
    refine sv_iadd C d_Fo_evaluateWords_39 ?_
    refine sv_lald (t0 := 1) C rfl d_Fo_evaluateWords_40 (by first | assumption | rfl) (by assumption) ?_
    refine sv_topl (fun wy ey => ?_)
    have ex : wx = fT (x * 4 + i) := by rw [ex]; show fT (nI x * 4 + nI i).toNatClampNeg = _; rw [hxc]
    have ey : wy = fT (y * 4 + i) := by rw [ey]; show fT (nI y * 4 + nI i).toNatClampNeg = _; rw [hyc]
    have bx : ∀ j, j < 64 → wx.toBitVec.getLsbD j = ss_b (L 4) x (64 * i + j) := fun j hj => by rw [ex]; exact ew_at hT (by omega) (by omega) hj
    have byy : ∀ j, j < 64 → wy.toBitVec.getLsbD j = ss_b (L 4) y (64 * i + j) := fun j hj => by rw [ey]; exact ew_at hT (by omega) (by omega) hj
    refine sv_lstore C d_Fo_evaluateWords_41 (by decide) rfl ?_
    refine sv_aload_n C d_Fo_evaluateWords_43 rfl rfl ?_
    refine sv_get (ci := 0) (kf := 3) C i_Fo rfl (by decide) f_Fo_27 (fun _ h9 => h9) d_Fo_evaluateWords_44 (by first | assumption | rfl) rfl ?_
    refine sv_iload_n C d_Fo_evaluateWords_47 rfl rfl ?_
    refine sv_iald (t0 := 0) C rfl d_Fo_evaluateWords_48 (by first | assumption | rfl) (by assumption) ?_
    refine sv_iconst (v := 2) C d_Fo_evaluateWords_49 rfl ?_
    refine sv_eqs (st' := [.int 2, .int 2]) (by show [_, Value.int (I 4 (nI f).toNatClampNeg)] = _; rw [hfc, hk]; rfl) ?_
    refine sv_icmp_ne (tgt := 61) C d_Fo_evaluateWords_50 (by decide) (fun h2 => ?_) (fun h2 => ?_)
    · exact absurd rfl h2
    · refine sv_lload C d_Fo_evaluateWords_53 rfl ?_
      refine sv_lload C d_Fo_evaluateWords_55 rfl ?_
      refine sv_land C d_Fo_evaluateWords_57 ?_
      refine sv_goto (tgt := 66) C d_Fo_evaluateWords_58 (by decide) ?_
      refine sv_lstore C d_Fo_evaluateWords_66 (by decide) rfl ?_
      refine sv_aload_n C d_Fo_evaluateWords_68 rfl rfl ?_
      refine sv_iload_n C d_Fo_evaluateWords_69 rfl rfl ?_
      refine sv_iconst (v := 4) C d_Fo_evaluateWords_70 rfl ?_
      refine sv_imul C d_Fo_evaluateWords_71 ?_
      refine sv_iload_n C d_Fo_evaluateWords_72 rfl rfl ?_
      refine sv_iadd C d_Fo_evaluateWords_73 ?_
      refine sv_aload_n C d_Fo_evaluateWords_74 rfl rfl ?_
      refine sv_get (ci := 0) (kf := 3) C i_Fo rfl (by decide) f_Fo_27 (fun _ h9 => h9) d_Fo_evaluateWords_75 (by first | assumption | rfl) rfl ?_
      refine sv_iload_n C d_Fo_evaluateWords_78 rfl rfl ?_
      refine sv_iald (t0 := 0) C rfl d_Fo_evaluateWords_79 (by first | assumption | rfl) (by assumption) ?_
      refine sv_iconst (v := 1) C d_Fo_evaluateWords_80 rfl ?_
      refine sv_eqs (st' := [.int 1, .int 2, .int (nI f * 4 + nI i), .ref 17]) (by show [_, Value.int (I 4 (nI f).toNatClampNeg), _, _] = _; rw [hfc, hk]; rfl) ?_
      refine sv_icmp_ne (tgt := 106) C d_Fo_evaluateWords_81 (by decide) (fun h3 => ?_) (fun h3 => ?_)
      · refine sv_lload C d_Fo_evaluateWords_106 rfl ?_
        refine sv_topl (fun wv ev => ?_)
        refine sv_last (t0 := 1) C rfl d_Fo_evaluateWords_108 (by first | assumption | rfl) hffin ?_
        refine sv_eqw (ws' := hC cI cJ cZ (hu L 4 (vp_updL fT (f * 4 + i) wv)) I V tl) (by rw [hffc]; rfl) ?_
        refine sv_iincN C d_Fo_evaluateWords_109 rfl (by decide) rfl ?_
        refine sv_goto (tgt := 10) C d_Fo_evaluateWords_112 (by decide) ?_
        refine sv_drop [true, true, true, true, false, false, false, false, false, false] ?_
        refine ih (i + 1, vp_updL fT (f * 4 + i) wv) ⟨by dsimp only; omega, ew_s hT (by omega) (fun j hj => ?_)⟩ (by dsimp only; omega)
        rw [ev, ss_and, bx j hj, byy j hj]
      · exact absurd h3 (by decide)
set_option maxRecDepth 100000 in
set_option maxHeartbeats 4000000 in
theorem c_Fo_wordsOr {l : Launch} {D : va_G} {cI cJ cZ : ClassId} {L : Nat → Nat → Int64} {I : Nat → Nat → Int32} {V : Nat → Int32} {tl : List va_E} {f x y : Nat} (hf : f < 60) (hk : I 4 f = nI 3) (hx : I 5 f = nI x) (hy : I 6 f = nI y) (hxf : x < f) (hyf : y < f) :
    sv_M l y_Fo_evaluateWords [Cond.code y_Fo_evaluateWords b_Fo_evaluateWords 10 none] ({ frames := 0, cells := 0, slots := 0, locals := 0 } : Room) D sv_cl (sv_ty cI cJ cZ) [.ref 8, .int (nI f)] (hC cI cJ cZ L I V tl) 0 0 (fun r ws' => r = none ∧ ∃ fT : Nat → Int64, ws' = hC cI cJ cZ (hu L 4 fT) I V tl ∧ ∀ c z, z < 256 → ss_b fT c z = if c = f then (ss_b (L 4) x z || ss_b (L 4) y z) else ss_b (L 4) c z) sv_no 0 0 := by
  refine sv_of (cc := b_Fo_evaluateWords) (by decide +kernel) (Nat.le_of_ble_eq_true rfl) ?_
  intro pX eX sX mX aX bX tX cX AX adX C htab hnm
  have hfin : vp_in (nI f) 60 := vp_in_nI hf (by omega)
  have hfc : (nI f).toNatClampNeg = f := nI_clamp (by omega)
  refine sv_aload_n C d_Fo_evaluateWords_0 rfl rfl ?_
  refine sv_get (ci := 0) (kf := 2) C i_Fo rfl (by decide) f_Fo_23 (fun _ h9 => h9) d_Fo_evaluateWords_1 (by first | assumption | rfl) rfl ?_
  refine sv_get (ci := 3) (kf := 0) C i_St rfl (by decide) f_Fo_95 (fun _ h9 => h9) d_Fo_evaluateWords_4 (by first | assumption | rfl) rfl ?_
  refine sv_astore_n C d_Fo_evaluateWords_7 rfl (by decide) rfl ?_
  refine sv_iconst (v := 0) C d_Fo_evaluateWords_8 rfl ?_
  refine sv_istore_n C d_Fo_evaluateWords_9 rfl (by decide) rfl ?_
  refine sv_eqw (ws' := hC cI cJ cZ (hu L 4 (L 4)) I V tl) (by rw [hu_same]) ?_
  refine sv_ind (σ := Nat × (Nat → Int64)) (I := fun s => s.1 ≤ 4 ∧ ew_I (L 4) s.2 f s.1 (fun z => (ss_b (L 4) x z || ss_b (L 4) y z))) (μ := fun s => 4 - s.1) (lv := fun s => [some (.ref 8), some (.int (nI f)), some (.ref 17), some (.int (nI s.1)), none, none, none, none, none, none]) (ws := fun s => hC cI cJ cZ (hu L 4 s.2) I V tl) ?_ (0, L 4) ⟨Nat.zero_le _, fun c z hz => by rw [if_neg (fun q => absurd q.2 (Nat.not_lt_zero z))]⟩
  rintro ⟨i, fT⟩ ⟨hi, hT⟩ ih
  dsimp only at hi hT ih
  refine sv_iload_n C d_Fo_evaluateWords_10 rfl rfl ?_
  refine sv_iconst (v := 4) C d_Fo_evaluateWords_11 rfl ?_
  refine sv_icmp_ge (tgt := 115) C d_Fo_evaluateWords_12 (by decide) (fun h1 => ?_) (fun h1 => ?_)
  · have h1 : 4 ≤ i := (nI_leI (a := 4) (b := i) (by omega) (by omega)).mp h1
    have h2 : i = 4 := by omega
    subst h2
    refine sv_vret C rfl d_Fo_evaluateWords_115 (Nat.le_of_ble_eq_true rfl) (Nat.le_of_ble_eq_true rfl) (fun _ _ => rfl) (⟨rfl, fT, rfl, fun c z hz => ?_⟩)
    rw [hT c z hz]
    by_cases e : c = f
    · rw [if_pos ⟨e, by omega⟩, if_pos e]
    · rw [if_neg (fun q => e q.1), if_neg e]
  · have h1 : ¬ 4 ≤ i := fun h => h1 ((nI_leI (a := 4) (b := i) (by omega) (by omega)).mpr h)
    have hxin := ss_jin (a := x) (i := i) (N := 240) (by omega) (by omega) (by decide)
    have hyin := ss_jin (a := y) (i := i) (N := 240) (by omega) (by omega) (by decide)
    have hffin := ss_jin (a := f) (i := i) (N := 240) (by omega) (by omega) (by decide)
    have hxc := ss_jcl (a := x) (i := i) (N := 240) (by omega) (by omega) (by decide)
    have hyc := ss_jcl (a := y) (i := i) (N := 240) (by omega) (by omega) (by decide)
    have hffc := ss_jcl (a := f) (i := i) (N := 240) (by omega) (by omega) (by decide)
    refine sv_aload_n C d_Fo_evaluateWords_15 rfl rfl ?_
    refine sv_aload_n C d_Fo_evaluateWords_16 rfl rfl ?_
    refine sv_get (ci := 0) (kf := 4) C i_Fo rfl (by decide) f_Fo_31 (fun _ h9 => h9) d_Fo_evaluateWords_17 (by first | assumption | rfl) rfl ?_
    refine sv_iload_n C d_Fo_evaluateWords_20 rfl rfl ?_
    refine sv_iald (t0 := 0) C rfl d_Fo_evaluateWords_21 (by first | assumption | rfl) (by assumption) ?_
    refine sv_eqs (st' := [.int (nI x), .ref 17]) (by show [Value.int (I 5 (nI f).toNatClampNeg), _] = _; rw [hfc, hx]) ?_
    refine sv_iconst (v := 4) C d_Fo_evaluateWords_22 rfl ?_
    refine sv_imul C d_Fo_evaluateWords_23 ?_
    refine sv_iload_n C d_Fo_evaluateWords_24 rfl rfl ?_
    refine sv_iadd C d_Fo_evaluateWords_25 ?_
    refine sv_lald (t0 := 1) C rfl d_Fo_evaluateWords_26 (by first | assumption | rfl) (by assumption) ?_
    refine sv_topl (fun wx ex => ?_)
    refine sv_lstore C d_Fo_evaluateWords_27 (by decide) rfl ?_
    refine sv_aload_n C d_Fo_evaluateWords_29 rfl rfl ?_
    refine sv_aload_n C d_Fo_evaluateWords_30 rfl rfl ?_
    refine sv_get (ci := 0) (kf := 5) C i_Fo rfl (by decide) f_Fo_34 (fun _ h9 => h9) d_Fo_evaluateWords_31 (by first | assumption | rfl) rfl ?_
    refine sv_iload_n C d_Fo_evaluateWords_34 rfl rfl ?_
    refine sv_iald (t0 := 0) C rfl d_Fo_evaluateWords_35 (by first | assumption | rfl) (by assumption) ?_
    refine sv_eqs (st' := [.int (nI y), .ref 17]) (by show [Value.int (I 6 (nI f).toNatClampNeg), _] = _; rw [hfc, hy]) ?_
    refine sv_iconst (v := 4) C d_Fo_evaluateWords_36 rfl ?_
    refine sv_imul C d_Fo_evaluateWords_37 ?_
    refine sv_iload_n C d_Fo_evaluateWords_38 rfl rfl ?_
    refine sv_iadd C d_Fo_evaluateWords_39 ?_
    refine sv_lald (t0 := 1) C rfl d_Fo_evaluateWords_40 (by first | assumption | rfl) (by assumption) ?_
    refine sv_topl (fun wy ey => ?_)
    have ex : wx = fT (x * 4 + i) := by rw [ex]; show fT (nI x * 4 + nI i).toNatClampNeg = _; rw [hxc]
    have ey : wy = fT (y * 4 + i) := by rw [ey]; show fT (nI y * 4 + nI i).toNatClampNeg = _; rw [hyc]
    have bx : ∀ j, j < 64 → wx.toBitVec.getLsbD j = ss_b (L 4) x (64 * i + j) := fun j hj => by rw [ex]; exact ew_at hT (by omega) (by omega) hj
    have byy : ∀ j, j < 64 → wy.toBitVec.getLsbD j = ss_b (L 4) y (64 * i + j) := fun j hj => by rw [ey]; exact ew_at hT (by omega) (by omega) hj
    refine sv_lstore C d_Fo_evaluateWords_41 (by decide) rfl ?_
    refine sv_aload_n C d_Fo_evaluateWords_43 rfl rfl ?_
    refine sv_get (ci := 0) (kf := 3) C i_Fo rfl (by decide) f_Fo_27 (fun _ h9 => h9) d_Fo_evaluateWords_44 (by first | assumption | rfl) rfl ?_
    refine sv_iload_n C d_Fo_evaluateWords_47 rfl rfl ?_
    refine sv_iald (t0 := 0) C rfl d_Fo_evaluateWords_48 (by first | assumption | rfl) (by assumption) ?_
    refine sv_iconst (v := 2) C d_Fo_evaluateWords_49 rfl ?_
    refine sv_eqs (st' := [.int 2, .int 3]) (by show [_, Value.int (I 4 (nI f).toNatClampNeg)] = _; rw [hfc, hk]; rfl) ?_
    refine sv_icmp_ne (tgt := 61) C d_Fo_evaluateWords_50 (by decide) (fun h2 => ?_) (fun h2 => ?_)
    · refine sv_lload C d_Fo_evaluateWords_61 rfl ?_
      refine sv_lload C d_Fo_evaluateWords_63 rfl ?_
      refine sv_lor C d_Fo_evaluateWords_65 ?_
      refine sv_lstore C d_Fo_evaluateWords_66 (by decide) rfl ?_
      refine sv_aload_n C d_Fo_evaluateWords_68 rfl rfl ?_
      refine sv_iload_n C d_Fo_evaluateWords_69 rfl rfl ?_
      refine sv_iconst (v := 4) C d_Fo_evaluateWords_70 rfl ?_
      refine sv_imul C d_Fo_evaluateWords_71 ?_
      refine sv_iload_n C d_Fo_evaluateWords_72 rfl rfl ?_
      refine sv_iadd C d_Fo_evaluateWords_73 ?_
      refine sv_aload_n C d_Fo_evaluateWords_74 rfl rfl ?_
      refine sv_get (ci := 0) (kf := 3) C i_Fo rfl (by decide) f_Fo_27 (fun _ h9 => h9) d_Fo_evaluateWords_75 (by first | assumption | rfl) rfl ?_
      refine sv_iload_n C d_Fo_evaluateWords_78 rfl rfl ?_
      refine sv_iald (t0 := 0) C rfl d_Fo_evaluateWords_79 (by first | assumption | rfl) (by assumption) ?_
      refine sv_iconst (v := 1) C d_Fo_evaluateWords_80 rfl ?_
      refine sv_eqs (st' := [.int 1, .int 3, .int (nI f * 4 + nI i), .ref 17]) (by show [_, Value.int (I 4 (nI f).toNatClampNeg), _, _] = _; rw [hfc, hk]; rfl) ?_
      refine sv_icmp_ne (tgt := 106) C d_Fo_evaluateWords_81 (by decide) (fun h3 => ?_) (fun h3 => ?_)
      · refine sv_lload C d_Fo_evaluateWords_106 rfl ?_
        refine sv_topl (fun wv ev => ?_)
        refine sv_last (t0 := 1) C rfl d_Fo_evaluateWords_108 (by first | assumption | rfl) hffin ?_
        refine sv_eqw (ws' := hC cI cJ cZ (hu L 4 (vp_updL fT (f * 4 + i) wv)) I V tl) (by rw [hffc]; rfl) ?_
        refine sv_iincN C d_Fo_evaluateWords_109 rfl (by decide) rfl ?_
        refine sv_goto (tgt := 10) C d_Fo_evaluateWords_112 (by decide) ?_
        refine sv_drop [true, true, true, true, false, false, false, false, false, false] ?_
        refine ih (i + 1, vp_updL fT (f * 4 + i) wv) ⟨by dsimp only; omega, ew_s hT (by omega) (fun j hj => ?_)⟩ (by dsimp only; omega)
        rw [ev, ss_or, bx j hj, byy j hj]
      · exact absurd h3 (by decide)
    · exact absurd h2 (by decide)
