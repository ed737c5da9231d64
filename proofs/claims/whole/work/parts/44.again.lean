/-! StateLogic$Formulas: evaluateAgain -/
def fw_E (g fX : Nat → Int64) (a b : Nat) : Prop := le_X fX a ∧ le_X fX b ∧ ss_b g a b = true
theorem fw_rev {g p fX : Nat → Int64} (h : ∀ a b, a < 256 → b < 256 → ss_b p b a = ss_b g a b) : le_E p fX = fun a b => fw_E g fX b a := by
  funext a b
  refine propext ⟨fun q => ⟨q.2.1, q.1, by rw [← h b a q.2.1.1 q.1.1]; exact q.2.2⟩, fun q => ⟨q.2.1, q.1, by rw [h b a q.1.1 q.2.1.1]; exact q.2.2⟩⟩
theorem sp_qm (n : Nat) : nI n - 1 = sp_q n := by
  cases n with
  | zero => decide
  | succ n => exact nI_pred n
theorem sp_qlt {i : Nat} (hi : i ≤ 256) : sp_q i < 0 ↔ i = 0 := by
  cases i with
  | zero => exact ⟨fun _ => rfl, fun _ => by decide⟩
  | succ i => exact ⟨fun h => absurd h (nI_pos (n := i) (by omega)), fun h => absurd h (by omega)⟩
/-- found through open states but r, or through open states: the same -/
theorem fw_found {g fX fO fO' : Nat → Int64} {r : Nat} (hr : le_X fO r) (hOX : ∀ z, le_X fO z → le_X fX z) (h' : ∀ z, le_X fO' z ↔ (le_X fO z ∧ z ≠ r)) (w : Nat) :
    g_re (sp_E g fO') r w ↔ g_re (fun a b => le_X fO b ∧ fw_E g fX a b) r w := by
  constructor
  · intro h
    have h1 : le_X fO w ∧ g_re (fun a b => le_X fO b ∧ fw_E g fX a b) r w := g_re_fwd (P := fun z => le_X fO z ∧ g_re (fun a b => le_X fO b ∧ fw_E g fX a b) r z) h ⟨hr, g_re_rf _ r⟩ (fun x y hx hxy => by
      have hy := ((h' y).mp ⟨hxy.1, hxy.2.2⟩).1
      exact ⟨hy, g_re_tl (E := fun a b => le_X fO b ∧ fw_E g fX a b) hx.2 ⟨hy, hOX x hx.1, hOX y hy, hxy.2.1⟩⟩)
    exact h1.2
  · intro h
    exact g_re_fwd (P := fun z => g_re (sp_E g fO') r z) h (g_re_rf _ r) (fun x y hx hxy => by
      by_cases e : y = r
      · rw [e]
        exact g_re_rf _ r
      · have hy := (h' y).mpr ⟨hxy.1, e⟩
        exact g_re_tl (E := sp_E g fO') hx ⟨hxy.1.1, hxy.2.2.2, hy.2⟩)
set_option maxRecDepth 100000 in
set_option maxHeartbeats 8000000 in
theorem c_Fo_evaluateAgain {l : Launch} {D : va_G} {cI cJ cZ : ClassId} {L : Nat → Nat → Int64} {I : Nat → Nat → Int32} {V : Nat → Int32} {tl : List va_E} {n f x y : Nat} (hn : n ≤ 8) (hV0 : V 0 = nI (2 ^ n)) (hf : f < 60) (hx : I 5 f = nI x) (hy : I 6 f = nI y) (hxf : x < f) (hyf : y < f)
    (hSP : ∀ a b, a < 256 → b < 256 → ss_b (L 2) b a = ss_b (L 1) a b) (hXN : ∀ z, ev_T (L 4) x z → z < 2 ^ n) (hf0 : ∀ z, z < 256 → ss_b (L 4) f z = false) :
    sv_M l y_Fo_evaluateAgain [Cond.code y_Fo_evaluateAgain b_Fo_evaluateAgain 5 none] ({ frames := 3, cells := 0, slots := 0, locals := 105 } : Room) D sv_cl (sv_ty cI cJ cZ) [.ref 8, .int (nI f)] (hC cI cJ cZ L I V tl) 0 0 (fun r ws' => r = none ∧ ∃ (fO fT : Nat → Int64) (I0 I1 I2 I3 : Nat → Int32) (v2 : Int32), ws' = hC cI cJ cZ (hu (hu L 3 fO) 4 fT) (hu (hu (hu (hu I 0 I0) 1 I1) 2 I2) 3 I3) (hu (hu V 2 v2) 4 (-1)) tl ∧ (∀ c z, z < 256 → (ss_b fT c z = true ↔ (ss_b (L 4) c z = true ∨ (c = f ∧ ev_T (L 4) x z ∧ g_ag (fun a b => ev_T (L 4) x a ∧ ev_T (L 4) x b ∧ ss_b (L 1) a b = true) (ev_T (L 4) y) z))))) sv_no 0 0 := by
  refine sv_of (cc := b_Fo_evaluateAgain) (by decide +kernel) (Nat.le_of_ble_eq_true rfl) ?_
  intro pX eX sX mX aX bX tX cX AX adX C htab hnm
  have hp8 := pow_le8 hn
  have hfin : vp_in (nI f) 60 := vp_in_nI hf (by omega)
  have hfc : (nI f).toNatClampNeg = f := nI_clamp (by omega)
  refine sv_aload_n C d_Fo_evaluateAgain_0 rfl rfl ?_
  refine sv_iconst (v := (-1)) C d_Fo_evaluateAgain_1 rfl ?_
  refine sv_put (ci := 0) (kf := 9) (ty := .int) C i_Fo t_Fo t_Fo_ok n_Fo rfl (by decide) f_Fo_48 (fun _ h9 => h9) rfl (by decide +kernel) d_Fo_evaluateAgain_2 (by first | assumption | rfl) rfl rfl (Nat.le_of_ble_eq_true rfl) ?_
  refine sv_aload_n C d_Fo_evaluateAgain_5 rfl rfl ?_
  refine sv_get (ci := 0) (kf := 1) C i_Fo rfl (by decide) f_Fo_12 (fun _ h9 => h9) d_Fo_evaluateAgain_6 (by first | assumption | rfl) rfl ?_
  refine sv_aload_n C d_Fo_evaluateAgain_9 rfl rfl ?_
  refine sv_get (ci := 0) (kf := 2) C i_Fo rfl (by decide) f_Fo_23 (fun _ h9 => h9) d_Fo_evaluateAgain_10 (by first | assumption | rfl) rfl ?_
  refine sv_aload_n C d_Fo_evaluateAgain_13 rfl rfl ?_
  refine sv_get (ci := 0) (kf := 4) C i_Fo rfl (by decide) f_Fo_31 (fun _ h9 => h9) d_Fo_evaluateAgain_14 (by first | assumption | rfl) rfl ?_
  refine sv_iload_n C d_Fo_evaluateAgain_17 rfl rfl ?_
  refine sv_iald (t0 := 0) C rfl d_Fo_evaluateAgain_18 (by first | assumption | rfl) (by assumption) ?_
  refine sv_eqs (st' := [.int (nI x), .ref 16, .ref 9]) (by show [Value.int (I 5 (nI f).toNatClampNeg), _, _] = _; rw [hfc, hx]) ?_
  refine sv_eqw (ws' := hC cI cJ cZ L I (hu V 4 (-1)) tl) rfl ?_
  refine sv_callV (ci := 2) C (c_Se_openAll (cI := cI) (cJ := cJ) (cZ := cZ) (L := L) (I := I) (V := hu V 4 (-1)) (tl := tl) (a := x) (by omega)) s_Fo_111 ki_Se_openAll ks_Se_openAll ⟨rfl, rfl, Nat.le_of_ble_eq_true rfl, Nat.le_of_ble_eq_true rfl⟩ rfl d_Fo_evaluateAgain_19 (by first | assumption | rfl) (Nat.le_of_ble_eq_true rfl) ⟨(Nat.le_of_ble_eq_true rfl), (Nat.le_of_ble_eq_true rfl)⟩ (fun E ws9 h9 => absurd h9 id) (fun v9 ws9 hp => ?_)
  obtain ⟨rfl, fX, rfl, hfX⟩ := hp
  refine sv_aload_n C d_Fo_evaluateAgain_22 rfl rfl ?_
  refine sv_get (ci := 0) (kf := 1) C i_Fo rfl (by decide) f_Fo_12 (fun _ h9 => h9) d_Fo_evaluateAgain_23 (by first | assumption | rfl) rfl ?_
  refine sv_aload_n C d_Fo_evaluateAgain_26 rfl rfl ?_
  refine sv_get (ci := 0) (kf := 0) C i_Fo rfl (by decide) f_Fo_44 (fun _ h9 => h9) d_Fo_evaluateAgain_27 (by first | assumption | rfl) rfl ?_
  refine sv_get (ci := 1) (kf := 2) C i_Ma rfl (by decide) f_Fo_131 (fun _ h9 => h9) d_Fo_evaluateAgain_30 (by first | assumption | rfl) rfl ?_
  refine sv_aload_n C d_Fo_evaluateAgain_33 rfl rfl ?_
  refine sv_get (ci := 0) (kf := 0) C i_Fo rfl (by decide) f_Fo_44 (fun _ h9 => h9) d_Fo_evaluateAgain_34 (by first | assumption | rfl) rfl ?_
  refine sv_get (ci := 1) (kf := 3) C i_Ma rfl (by decide) f_Fo_88 (fun _ h9 => h9) d_Fo_evaluateAgain_37 (by first | assumption | rfl) rfl ?_
  refine sv_eqs (st' := [.int (nI (2 ^ n)), .ref 6, .ref 9]) (by show [Value.int (V 0), _, _] = _; rw [hV0]) ?_
  refine sv_callV (ci := 2) C (c_Se_listEnded (cI := cI) (cJ := cJ) (cZ := cZ) (L := hu L 3 fX) (I := I) (V := hu (hu V 4 (-1)) 2 0) (tl := tl) (N := 2 ^ n) hp8 (fun z hz h => hXN z ⟨hz, by rw [← hfX z hz]; exact h⟩)) s_Fo_147 ki_Se_listEnded ks_Se_listEnded ⟨rfl, rfl, Nat.le_of_ble_eq_true rfl, Nat.le_of_ble_eq_true rfl⟩ rfl d_Fo_evaluateAgain_40 (by first | assumption | rfl) (Nat.le_of_ble_eq_true rfl) ⟨(Nat.le_of_ble_eq_true rfl), (Nat.le_of_ble_eq_true rfl)⟩ (fun E ws9 h9 => absurd h9 id) (fun v9 ws9 hp => ?_)
  obtain ⟨nl, fO1, I2, I3, en, rfl, rfl, hnl, hen, hXL, hnd, hord⟩ := hp
  have hXL : ∀ z, le_X fX z ↔ z ∈ g_lst en nl := hXL
  have hord : ∀ z, le_X fX z → ∀ w, g_re (le_E (L 2) fX) z w → ∃ z', g_eq (le_E (L 2) fX) z z' ∧ g_bef (g_lst en nl) z' w := hord
  rw [fw_rev hSP] at hord
  refine sv_eqw (ws' := hC cI cJ cZ (hu L 3 fO1) (hu (hu I 2 I2) 3 I3) (hu (hu V 4 (-1)) 2 0) tl) (by rw [hu_hu]) ?_
  refine sv_istore_n C d_Fo_evaluateAgain_43 rfl (by decide) rfl ?_
  refine sv_aload_n C d_Fo_evaluateAgain_44 rfl rfl ?_
  refine sv_get (ci := 0) (kf := 1) C i_Fo rfl (by decide) f_Fo_12 (fun _ h9 => h9) d_Fo_evaluateAgain_45 (by first | assumption | rfl) rfl ?_
  refine sv_aload_n C d_Fo_evaluateAgain_48 rfl rfl ?_
  refine sv_get (ci := 0) (kf := 2) C i_Fo rfl (by decide) f_Fo_23 (fun _ h9 => h9) d_Fo_evaluateAgain_49 (by first | assumption | rfl) rfl ?_
  refine sv_aload_n C d_Fo_evaluateAgain_52 rfl rfl ?_
  refine sv_get (ci := 0) (kf := 4) C i_Fo rfl (by decide) f_Fo_31 (fun _ h9 => h9) d_Fo_evaluateAgain_53 (by first | assumption | rfl) rfl ?_
  refine sv_iload_n C d_Fo_evaluateAgain_56 rfl rfl ?_
  refine sv_iald (t0 := 0) C rfl d_Fo_evaluateAgain_57 (by first | assumption | rfl) (by assumption) ?_
  refine sv_eqs (st' := [.int (nI x), .ref 16, .ref 9]) (by show [Value.int (I 5 (nI f).toNatClampNeg), _, _] = _; rw [hfc, hx]) ?_
  refine sv_callV (ci := 2) C (c_Se_openAll (cI := cI) (cJ := cJ) (cZ := cZ) (L := hu L 3 fO1) (I := hu (hu I 2 I2) 3 I3) (V := hu (hu V 4 (-1)) 2 0) (tl := tl) (a := x) (by omega)) s_Fo_111 ki_Se_openAll ks_Se_openAll ⟨rfl, rfl, Nat.le_of_ble_eq_true rfl, Nat.le_of_ble_eq_true rfl⟩ rfl d_Fo_evaluateAgain_58 (by first | assumption | rfl) (Nat.le_of_ble_eq_true rfl) ⟨(Nat.le_of_ble_eq_true rfl), (Nat.le_of_ble_eq_true rfl)⟩ (fun E ws9 h9 => absurd h9 id) (fun v9 ws9 hp => ?_)
  obtain ⟨rfl, fX2, rfl, hfX2⟩ := hp
  have hfX2 : ∀ z, z < 256 → ss_b fX2 0 z = ss_b (L 4) x z := hfX2
  have hXe : ∀ z, le_X fX z ↔ ev_T (L 4) x z := fun z => ⟨fun h => ⟨h.1, by rw [← hfX z h.1]; exact h.2⟩, fun h => ⟨h.1, by rw [hfX z h.1]; exact h.2⟩⟩
  have hX2 : ∀ z, le_X fX2 z ↔ le_X fX z := fun z => ⟨fun h => ⟨h.1, by rw [hfX z h.1, ← hfX2 z h.1]; exact h.2⟩, fun h => ⟨h.1, by rw [hfX2 z h.1, ← hfX z h.1]; exact h.2⟩⟩
  have hEe : fw_E (L 1) fX = fun a b => ev_T (L 4) x a ∧ ev_T (L 4) x b ∧ ss_b (L 1) a b = true := by
    funext a b
    exact propext ⟨fun h => ⟨(hXe a).mp h.1, (hXe b).mp h.2.1, h.2.2⟩, fun h => ⟨(hXe a).mpr h.1, (hXe b).mpr h.2.1, h.2.2⟩⟩
  have hEX : ∀ a b, fw_E (L 1) fX a b → le_X fX a ∧ le_X fX b := fun _ _ h => ⟨h.1, h.2.1⟩
  refine sv_iload_n C d_Fo_evaluateAgain_61 rfl rfl ?_
  refine sv_iconst (v := 1) C d_Fo_evaluateAgain_62 rfl ?_
  refine sv_isub C d_Fo_evaluateAgain_63 ?_
  refine sv_eqs (st' := [.int (sp_q nl)]) (by rw [← sp_qm]; rfl) ?_
  refine sv_istore_n C d_Fo_evaluateAgain_64 rfl (by decide) rfl ?_
  refine sv_eqw (ws' := hC cI cJ cZ (hu (hu L 3 fX2) 4 (L 4)) (hu (hu (hu (hu I 0 (I 0)) 1 (I 1)) 2 I2) 3 I3) (hu (hu V 2 0) 4 (-1)) tl) (by rw [hu_hu, hu_hu, hu_same, hu_same, hu_sw V _ _ (show (4 : Nat) ≠ 2 by decide), hu_sw L _ _ (show (3 : Nat) ≠ 4 by decide), hu_same]) ?_
  refine sv_ind (σ := Nat × List Nat × (Nat → Int64) × (Nat → Int64) × (Nat → Int32) × (Nat → Int32) × Int32) (I := fun s => s.1 ≤ nl ∧ g_lst en nl = s.2.1 ++ g_lst en s.1 ∧ (∀ z, le_X s.2.2.1 z ↔ (le_X fX z ∧ ∀ d, d ∈ s.2.1 → ¬ g_eq (fw_E (L 1) fX) d z)) ∧ ∀ c z, z < 256 → (ss_b s.2.2.2.1 c z = true ↔ ((c ≠ f ∧ ss_b (L 4) c z = true) ∨ (c = f ∧ le_X fX z ∧ ¬ le_X s.2.2.1 z ∧ g_ag (fw_E (L 1) fX) (ev_T (L 4) y) z)))) (μ := fun s => s.1)
    (lv := fun s => [some (.ref 8), some (.int (nI f)), some (.int (nI nl)), some (.int (sp_q s.1)), none]) (ws := fun s => hC cI cJ cZ (hu (hu L 3 s.2.2.1) 4 s.2.2.2.1) (hu (hu (hu (hu I 0 s.2.2.2.2.1) 1 s.2.2.2.2.2.1) 2 I2) 3 I3) (hu (hu V 2 s.2.2.2.2.2.2) 4 (-1)) tl) ?_ (nl, [], fX2, L 4, I 0, I 1, 0) ⟨Nat.le_refl _, rfl, fun z => (hX2 z).trans ⟨fun h => ⟨h, fun d hd => absurd hd List.not_mem_nil⟩, fun h => h.1⟩, fun c z hz => ?_⟩
  rotate_left
  · dsimp only
    by_cases e : c = f
    · subst e
      rw [hf0 z hz]
      refine ⟨fun h => absurd h (by decide), fun h => h.elim (fun q => absurd rfl q.1) (fun q => absurd ((hX2 z).mpr q.2.1) q.2.2.1)⟩
    · exact ⟨fun h => Or.inl ⟨e, h⟩, fun h => h.elim (fun q => q.2) (fun q => absurd q.1 e)⟩
  rintro ⟨i, done, fO, fT, I0, I1, v2⟩ ⟨hi, hsplit, hO, hT⟩ ih
  dsimp only at hi hsplit hO hT ih
  refine sv_iload_n C d_Fo_evaluateAgain_65 rfl rfl ?_
  refine sv_if_lt (tgt := 154) C d_Fo_evaluateAgain_66 (by decide) (fun h1 => ?_) (fun h1 => ?_)
  · have h1 : i = 0 := (sp_qlt (by omega)).mp h1
    subst h1
    have hdone : ∀ z, le_X fX z → ¬ le_X fO z := fun z hz ho => by
      have h2 := (hXL z).mp hz
      rw [hsplit, show g_lst en 0 = [] from rfl, List.append_nil] at h2
      exact ((hO z).mp ho).2 z h2 (g_eq_rf _ z)
    refine sv_vret C rfl d_Fo_evaluateAgain_154 (Nat.le_of_ble_eq_true rfl) (Nat.le_of_ble_eq_true rfl) (fun _ _ => rfl) (⟨rfl, fO, fT, I0, I1, I2, I3, v2, rfl, fun c z hz => (hT c z hz).trans ?_⟩)
    rw [← hEe]
    constructor
    · rintro (⟨h1, h2⟩ | ⟨h1, h2, h3, h4⟩)
      · exact Or.inl h2
      · exact Or.inr ⟨h1, (hXe z).mp h2, h4⟩
    · rintro (h | ⟨h1, h2, h3⟩)
      · by_cases e : c = f
        · rw [e, hf0 z hz] at h
          exact absurd h (by decide)
        · exact Or.inl ⟨e, h⟩
      · exact Or.inr ⟨h1, (hXe z).mpr h2, hdone z ((hXe z).mpr h2), h3⟩
  · obtain ⟨j, rfl⟩ : ∃ j, i = j + 1 := by
      refine ⟨i - 1, ?_⟩
      have h2 : i ≠ 0 := fun h => h1 ((sp_qlt (by omega)).mpr h)
      omega
    have henj := hen j (by omega)
    have hjin : vp_in (nI j) 256 := vp_in_nI (by omega) (by omega)
    have hrX : le_X fX (en j) := (hXL (en j)).mpr (by rw [hsplit]; exact List.mem_append_right _ List.mem_cons_self)
    have hnd2 : (done ++ en j :: g_lst en j).Nodup := by
      have h9 := hnd
      rw [hsplit] at h9
      exact h9
    have hord2 : ∀ z, le_X fX z → ∀ w, g_re (fun a b => fw_E (L 1) fX b a) z w → ∃ z', g_eq (fun a b => fw_E (L 1) fX b a) z z' ∧ g_bef (done ++ en j :: g_lst en j) z' w := by
      have h9 := hord
      rw [hsplit] at h9
      exact h9
    refine sv_aload_n C d_Fo_evaluateAgain_69 rfl rfl ?_
    refine sv_get (ci := 0) (kf := 1) C i_Fo rfl (by decide) f_Fo_12 (fun _ h9 => h9) d_Fo_evaluateAgain_70 (by first | assumption | rfl) rfl ?_
    refine sv_get (ci := 2) (kf := 4) C i_Se rfl (by decide) f_Fo_151 (fun _ h9 => h9) d_Fo_evaluateAgain_73 (by first | assumption | rfl) rfl ?_
    refine sv_iload_n C d_Fo_evaluateAgain_76 rfl rfl ?_
    refine sv_iald (t0 := 0) C rfl d_Fo_evaluateAgain_77 (by first | assumption | rfl) (by assumption) ?_
    refine sv_eqs (st' := [.int (nI (en j))]) (by show [Value.int (I3 (nI j).toNatClampNeg)] = _; rw [nI_clamp (by omega), henj.2]) ?_
    refine sv_istore C d_Fo_evaluateAgain_78 (by decide) rfl ?_
    refine sv_aload_n C d_Fo_evaluateAgain_80 rfl rfl ?_
    refine sv_get (ci := 0) (kf := 1) C i_Fo rfl (by decide) f_Fo_12 (fun _ h9 => h9) d_Fo_evaluateAgain_81 (by first | assumption | rfl) rfl ?_
    refine sv_get (ci := 2) (kf := 0) C i_Se rfl (by decide) f_Fo_122 (fun _ h9 => h9) d_Fo_evaluateAgain_84 (by first | assumption | rfl) rfl ?_
    refine sv_iconst (v := 0) C d_Fo_evaluateAgain_87 rfl ?_
    refine sv_iload C d_Fo_evaluateAgain_88 rfl ?_
    refine sv_callV (ci := 3) C (c_St_has (cI := cI) (cZ := cZ) (ws := hC cI cJ cZ (hu (hu L 3 fO) 4 fT) (hu (hu (hu (hu I 0 I0) 1 I1) 2 I2) 3 I3) (hu (hu V 2 v2) 4 (-1)) tl) (b := 10) (w := 11) (N := 4) (a := 0) (x := en j) (f := fO) rfl rfl (by decide) (by decide) henj.1) s_Fo_118 ki_St_has ks_St_has ⟨rfl, rfl, Nat.le_of_ble_eq_true rfl, Nat.le_of_ble_eq_true rfl⟩ rfl d_Fo_evaluateAgain_90 (by first | assumption | rfl) (Nat.le_of_ble_eq_true rfl) ⟨(Nat.le_of_ble_eq_true rfl), (Nat.le_of_ble_eq_true rfl)⟩ (fun E ws9 h9 => absurd h9 id) (fun v9 ws9 hp => ?_)
    obtain ⟨rfl, rfl⟩ := hp
    cases hop : ss_b fO 0 (en j) with
    | false =>
      refine sv_if_eq (tgt := 148) C d_Fo_evaluateAgain_93 (by decide) (fun h2 => ?_) (fun h2 => ?_)
      · refine sv_iincD C d_Fo_evaluateAgain_148 rfl (by decide) rfl ?_
        refine sv_goto (tgt := 65) C d_Fo_evaluateAgain_151 (by decide) ?_
        refine sv_drop [true, true, true, true, false] ?_
        refine ih (j, done ++ [en j], fO, fT, I0, I1, v2) ⟨by dsimp only; omega, ?_, fun z => g_open_skip hO hrX (fun h => by have h9 := h.2; rw [hop] at h9; exact absurd h9 (by decide)) z, hT⟩ (by dsimp only; omega)
        dsimp only
        rw [hsplit, List.append_assoc]
        rfl
      · exact absurd rfl h2
    | true =>
      have hrO : le_X fO (en j) := ⟨henj.1, hop⟩
      refine sv_if_eq (tgt := 148) C d_Fo_evaluateAgain_93 (by decide) (fun h2 => ?_) (fun h2 => ?_)
      · exact absurd h2 (by decide)
      · refine sv_aload_n C d_Fo_evaluateAgain_96 rfl rfl ?_
        refine sv_get (ci := 0) (kf := 1) C i_Fo rfl (by decide) f_Fo_12 (fun _ h9 => h9) d_Fo_evaluateAgain_97 (by first | assumption | rfl) rfl ?_
        refine sv_get (ci := 2) (kf := 0) C i_Se rfl (by decide) f_Fo_122 (fun _ h9 => h9) d_Fo_evaluateAgain_100 (by first | assumption | rfl) rfl ?_
        refine sv_iconst (v := 0) C d_Fo_evaluateAgain_103 rfl ?_
        refine sv_iload C d_Fo_evaluateAgain_104 rfl ?_
        refine sv_callV (ci := 3) C (c_St_drop (cI := cI) (cZ := cZ) (ws := hC cI cJ cZ (hu (hu L 3 fO) 4 fT) (hu (hu (hu (hu I 0 I0) 1 I1) 2 I2) 3 I3) (hu (hu V 2 v2) 4 (-1)) tl) (b := 10) (w := 11) (N := 4) (a := 0) (x := en j) (f := fO) rfl rfl (by decide) (by decide) henj.1) s_Fo_125 ki_St_drop ks_St_drop ⟨rfl, rfl, Nat.le_of_ble_eq_true rfl, Nat.le_of_ble_eq_true rfl⟩ rfl d_Fo_evaluateAgain_106 (by first | assumption | rfl) (Nat.le_of_ble_eq_true rfl) ⟨(Nat.le_of_ble_eq_true rfl), (Nat.le_of_ble_eq_true rfl)⟩ (fun E ws9 h9 => absurd h9 id) (fun v9 ws9 hp => ?_)
        obtain ⟨rfl, rfl⟩ := hp
        have hb4 : ∀ z, z < 256 → ss_b (ss_drop fO 0 (en j)) 0 z = (ss_b fO 0 z && !decide (z = en j)) := fun z hz => by
          rw [ss_drop_b fO 0 (en j) 0 z hz henj.1]
          simp
        have hO' : ∀ z, le_X (ss_drop fO 0 (en j)) z ↔ (le_X fO z ∧ z ≠ en j) := fun z => by
          constructor
          · rintro ⟨h1, h2⟩
            rw [hb4 z h1] at h2
            simp only [Bool.and_eq_true, Bool.not_eq_true', decide_eq_false_iff_not] at h2
            exact ⟨⟨h1, h2.1⟩, h2.2⟩
          · rintro ⟨⟨h1, h2⟩, h3⟩
            refine ⟨h1, ?_⟩
            rw [hb4 z h1, h2]
            simp [h3]
        refine sv_aload_n C d_Fo_evaluateAgain_109 rfl rfl ?_
        refine sv_get (ci := 0) (kf := 1) C i_Fo rfl (by decide) f_Fo_12 (fun _ h9 => h9) d_Fo_evaluateAgain_110 (by first | assumption | rfl) rfl ?_
        refine sv_iconst (v := 0) C d_Fo_evaluateAgain_113 rfl ?_
        refine sv_put (ci := 2) (kf := 5) (ty := .int) C i_Se t_Se t_Se_ok n_Se rfl (by decide) f_Fo_141 (fun _ h9 => h9) rfl (by decide +kernel) d_Fo_evaluateAgain_114 (by first | assumption | rfl) rfl rfl (Nat.le_of_ble_eq_true rfl) ?_
        refine sv_aload_n C d_Fo_evaluateAgain_117 rfl rfl ?_
        refine sv_get (ci := 0) (kf := 1) C i_Fo rfl (by decide) f_Fo_12 (fun _ h9 => h9) d_Fo_evaluateAgain_118 (by first | assumption | rfl) rfl ?_
        refine sv_iload C d_Fo_evaluateAgain_121 rfl ?_
        refine sv_iconst (v := 0) C d_Fo_evaluateAgain_123 rfl ?_
        refine sv_eqw (ws' := hC cI cJ cZ (hu (hu L 3 (ss_drop fO 0 (en j))) 4 fT) (hu (hu (hu (hu I 0 I0) 1 I1) 2 I2) 3 I3) (hu (hu V 2 (nI 0)) 4 (-1)) tl) rfl ?_
        refine sv_callV (ci := 2) C (c_Se_find (cI := cI) (cJ := cJ) (cZ := cZ) (L := hu (hu L 3 (ss_drop fO 0 (en j))) 4 fT) (I := hu (hu (hu (hu I 0 I0) 1 I1) 2 I2) 3 I3) (V := hu (hu V 2 (nI 0)) 4 (-1)) (tl := tl) (n := 0) (x := en j) (d := 0) (by omega) henj.1 rfl) s_Fo_128 ki_Se_find ks_Se_find ⟨rfl, rfl, Nat.le_of_ble_eq_true rfl, Nat.le_of_ble_eq_true rfl⟩ rfl d_Fo_evaluateAgain_124 (by first | assumption | rfl) (Nat.le_of_ble_eq_true rfl) ⟨(Nat.le_of_ble_eq_true rfl), (Nat.le_of_ble_eq_true rfl)⟩ (fun E ws9 h9 => absurd h9 id) (fun v9 ws9 hp => ?_)
        obtain ⟨rfl, rfl⟩ := hp
        refine sv_aload_n C d_Fo_evaluateAgain_127 rfl rfl ?_
        refine sv_get (ci := 0) (kf := 1) C i_Fo rfl (by decide) f_Fo_12 (fun _ h9 => h9) d_Fo_evaluateAgain_128 (by first | assumption | rfl) rfl ?_
        refine sv_aload_n C d_Fo_evaluateAgain_131 rfl rfl ?_
        refine sv_get (ci := 0) (kf := 0) C i_Fo rfl (by decide) f_Fo_44 (fun _ h9 => h9) d_Fo_evaluateAgain_132 (by first | assumption | rfl) rfl ?_
        refine sv_get (ci := 1) (kf := 1) C i_Ma rfl (by decide) f_Fo_104 (fun _ h9 => h9) d_Fo_evaluateAgain_135 (by first | assumption | rfl) rfl ?_
        refine sv_eqw (ws' := hC cI cJ cZ (hu (hu L 3 (ss_drop fO 0 (en j))) 4 fT) (hu (hu (hu (hu I 0 (upd I0 0 (nI (en j)))) 1 (upd I1 (en j) 0)) 2 I2) 3 I3) (hu (hu V 2 (nI 1)) 4 (-1)) tl) rfl ?_
        refine sv_callV (ci := 2) C (c_Se_spread (cI := cI) (cJ := cJ) (cZ := cZ) (L := hu (hu L 3 (ss_drop fO 0 (en j))) 4 fT) (I := hu (hu (hu (hu I 0 (upd I0 0 (nI (en j)))) 1 (upd I1 (en j) 0)) 2 I2) 3 I3) (V := hu (hu V 2 (nI 1)) 4 (-1)) (tl := tl) (b := 4) (w := 5) (q := 1) (cnt0 := 1) (fd0 := fun _ => en j) (Or.inl ⟨rfl, rfl, rfl⟩) rfl (fun k hk => ⟨henj.1, by show upd I0 0 (nI (en j)) k = _; rw [show k = 0 by omega, pk_us], by show upd I1 (en j) 0 (en j) = nI 0; rw [pk_us]; rfl, by show ss_b (ss_drop fO 0 (en j)) 0 (en j) = false; rw [hb4 _ henj.1]; simp⟩) (fun a b ha hb _ => by omega)) s_Fo_134 ki_Se_spread ks_Se_spread ⟨rfl, rfl, Nat.le_of_ble_eq_true rfl, Nat.le_of_ble_eq_true rfl⟩ rfl d_Fo_evaluateAgain_138 (by first | assumption | rfl) (Nat.le_of_ble_eq_true rfl) ⟨(Nat.le_of_ble_eq_true rfl), (Nat.le_of_ble_eq_true rfl)⟩ (fun E ws9 h9 => absurd h9 id) (fun v9 ws9 hp => ?_)
        obtain ⟨rfl, fO', I0', I1', cnt, fd, dd, rfl, hR⟩ := hp
        refine sv_eqw (ws' := hC cI cJ cZ (hu (hu L 3 fO') 4 fT) (hu (hu (hu (hu I 0 I0') 1 I1') 2 I2) 3 I3) (hu (hu V 2 (nI cnt)) 4 (-1)) tl) rfl ?_
        obtain ⟨r1, r2, r3, r4, r5, r6, r7, r8, r9⟩ := hR
        refine sv_aload_n C d_Fo_evaluateAgain_141 rfl rfl ?_
        refine sv_iload_n C d_Fo_evaluateAgain_142 rfl rfl ?_
        refine sv_iload C d_Fo_evaluateAgain_143 rfl ?_
        refine sv_callV (ci := 0) C (c_Fo_evaluateRing (cI := cI) (cJ := cJ) (cZ := cZ) (L := hu (hu L 3 fO') 4 fT) (I := hu (hu (hu (hu I 0 I0') 1 I1') 2 I2) 3 I3) (V := hu (hu V 2 (nI cnt)) 4 (-1)) (tl := tl) (f := f) (y := y) (root := en j) (cnt := cnt) (fd := fd) hf hy (by omega) henj.1 rfl r2 r3) s_Fo_154 ki_Fo_evaluateRing ks_Fo_evaluateRing ⟨rfl, rfl, Nat.le_of_ble_eq_true rfl, Nat.le_of_ble_eq_true rfl⟩ rfl d_Fo_evaluateAgain_145 (by first | assumption | rfl) (Nat.le_of_ble_eq_true rfl) ⟨(Nat.le_of_ble_eq_true rfl), (Nat.le_of_ble_eq_true rfl)⟩ (fun E ws9 h9 => absurd h9 id) (fun v9 ws9 hp => ?_)
        obtain ⟨rfl, fT', rfl, hT'⟩ := hp
        refine sv_iincD C d_Fo_evaluateAgain_148 rfl (by decide) rfl ?_
        refine sv_goto (tgt := 65) C d_Fo_evaluateAgain_151 (by decide) ?_
        refine sv_eqw (ws' := hC cI cJ cZ (hu (hu L 3 fO') 4 fT') (hu (hu (hu (hu I 0 I0') 1 I1') 2 I2) 3 I3) (hu (hu V 2 (nI cnt)) 4 (-1)) tl) (by rw [hu_hu]) ?_
        have hFF : ∀ w, bf_F fd cnt w ↔ g_eq (fw_E (L 1) fX) (en j) w := by
          refine g_found (rest := g_lst en j) hEX hord2 hnd2 hO hrO (fun w => ?_)
          rw [← fw_found (g := L 1) (fX := fX) hrO (fun z hz => ((hO z).mp hz).1) hO' w]
          constructor
          · intro h
            obtain ⟨⟨k, hk, hst⟩, -, -⟩ := r7 w h
            exact ⟨dd w, hst⟩
          · rintro ⟨k, hst⟩
            exact (r8 0 k w (by omega) hst).1
        have hO2 : ∀ z, le_X fO' z ↔ (le_X fO z ∧ ¬ bf_F fd cnt z) := fun z => by
          constructor
          · rintro ⟨h1, h2⟩
            have h3 := (r6 z h1).mp h2
            exact ⟨((hO' z).mp ⟨h1, h3.1⟩).1, h3.2⟩
          · rintro ⟨h1, h2⟩
            have hne : z ≠ en j := fun e => h2 (by rw [e]; exact (hFF _).mpr (g_eq_rf _ _))
            exact ⟨h1.1, (r6 z h1.1).mpr ⟨((hO' z).mpr ⟨h1, hne⟩).2, h2⟩⟩
        have hTf : ∀ z, ev_T fT f z ↔ (le_X fX z ∧ ¬ le_X fO z ∧ g_ag (fw_E (L 1) fX) (ev_T (L 4) y) z) := fun z => by
          constructor
          · rintro ⟨h1, h2⟩
            exact ((hT f z h1).mp h2).elim (fun q => absurd rfl q.1) (fun q => q.2)
          · intro h
            exact ⟨h.1.1, (hT f z h.1.1).mpr (Or.inr ⟨rfl, h⟩)⟩
        have hTy : ∀ z, z < 256 → (ss_b fT y z = true ↔ ss_b (L 4) y z = true) := fun z hz => (hT y z hz).trans ⟨fun q => q.elim (fun q => q.2) (fun q => absurd q.1 (by omega)), fun q => Or.inl ⟨by omega, q⟩⟩
        have hcnt1 : (1 < cnt) ↔ ∃ z, bf_F fd cnt z ∧ z ≠ en j := by
          constructor
          · intro h
            refine ⟨fd 1, ⟨1, h, rfl⟩, fun e => ?_⟩
            have h9 := r4 1 0 h (by omega) (by rw [e, r5 0 (by omega)])
            omega
          · rintro ⟨z, ⟨k, hk, e⟩, hne⟩
            refine Classical.byContradiction (fun hn => hne ?_)
            rw [← e, show k = 0 by omega]
            exact r5 0 (by omega)
        have hcond : ∀ w, bf_F fd cnt w → (rg_C (hu (hu L 3 fO') 4 fT) f y (en j) cnt fd ↔ g_ag (fw_E (L 1) fX) (ev_T (L 4) y) w) := by
          intro w hw
          refine Iff.trans ?_ (g_turn (S := fun a b => ss_b (L 1) a b = true) (E := fw_E (L 1) fX) (T := ev_T fT f) (F := bf_F fd cnt) (rest := g_lst en j) (fun a b => Iff.rfl) hord2 hnd2 hO hrO hFF hTf w hw)
          constructor
          · rintro (⟨k, hk, t, ht, h1, h2⟩ | ⟨⟨k, hk, h1⟩, h2⟩)
            · exact Or.inl ⟨fd k, ⟨k, hk, rfl⟩, t, h1, ht, h2⟩
            · exact Or.inr ⟨⟨fd k, ⟨k, hk, rfl⟩, (r3 k hk).1, (hTy _ (r3 k hk).1).mp h1⟩, h2.elim (fun q => Or.inl (hcnt1.mp q)) Or.inr⟩
          · rintro (⟨z, ⟨k, hk, e⟩, t, h1, h2⟩ | ⟨⟨z, ⟨k, hk, e⟩, h1⟩, h2⟩)
            · exact Or.inl ⟨k, hk, t, h2.1, by rw [e]; exact h1, h2.2⟩
            · exact Or.inr ⟨⟨k, hk, by show ss_b fT y (fd k) = true; rw [e]; exact (hTy z h1.1).mpr h1.2⟩, h2.elim (fun q => Or.inl (hcnt1.mpr q)) Or.inr⟩
        refine sv_drop [true, true, true, true, false] ?_
        refine ih (j, done ++ [en j], fO', fT', I0', I1', nI cnt) ⟨by dsimp only; omega, ?_, fun z => g_open_next hO hFF hO2 z, fun c z hz => ?_⟩ (by dsimp only; omega)
        · dsimp only
          rw [hsplit, List.append_assoc]
          rfl
        · dsimp only
          refine (hT' c z hz).trans ?_
          show (ss_b fT c z = true ∨ _) ↔ _
          rw [hT c z hz]
          have hFX : ∀ w, bf_F fd cnt w → le_X fX w := fun w hw => by
            rcases g_re_cases ((hFF w).mp hw).2 with e | ⟨c, hc, -⟩
            · rw [e]
              exact hrX
            · exact hc.1
          constructor
          · rintro ((h | ⟨h1, h2, h3, h4⟩) | ⟨h1, h2, h3⟩)
            · exact Or.inl h
            · exact Or.inr ⟨h1, h2, fun q => h3 ((hO2 z).mp q).1, h4⟩
            · exact Or.inr ⟨h1, hFX z h2, fun q => ((hO2 z).mp q).2 h2, (hcond z h2).mp h3⟩
          · rintro (h | ⟨h1, h2, h3, h4⟩)
            · exact Or.inl (Or.inl h)
            · by_cases hF : bf_F fd cnt z
              · exact Or.inr ⟨h1, hF, (hcond z hF).mpr h4⟩
              · exact Or.inl (Or.inr ⟨h1, h2, fun q => h3 ((hO2 z).mpr ⟨q, hF⟩), h4⟩)
