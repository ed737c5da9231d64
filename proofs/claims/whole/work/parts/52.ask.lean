/-! StateLogic: the questions -/
set_option maxRecDepth 100000 in
set_option maxHeartbeats 8000000 in
theorem c_SL_holds {l : Launch} {D : va_G} {cI cJ cZ : ClassId} {L : Nat → Nat → Int64} {I : Nat → Nat → Int32} {V : Nat → Int32} {tl : List va_E} (hl : l.stackTraces = false) {n r mk : Nat} {rl : Nat → Nat × Nat × Nat × Nat} {kd xs ys : Nat → Nat} (hok : sl_ok L I V n r mk rl kd xs ys) {f s : Int32} :
    sv_M l y_SL_holds [Cond.code y_SL_holds b_SL_holds 3 (some .boolean)] ({ frames := 7, cells := 4, slots := 24, locals := 172 } : Room) D sv_cl (sv_ty cI cJ cZ) [.ref 0, .int f, .int s] (hC cI cJ cZ L I V tl) 0 0 (fun q ws' => (iF mk f ∧ iS n s ∧ (∃ t : Bool, q = some (.int (b2i t)) ∧ (t = true ↔ tF (rs n r rl) (2 ^ n) kd xs ys f.toNatClampNeg s.toNatClampNeg))) ∧ (∃ (L' : Nat → Nat → Int64) (I' : Nat → Nat → Int32) (V' : Nat → Int32), ws' = hC cI cJ cZ L' I' V' tl ∧ sl_ok L' I' V' n r mk rl kd xs ys)) (fun E ws' => (E = xIO ∧ ¬ (iF mk f ∧ iS n s)) ∧ (∃ (L' : Nat → Nat → Int64) (I' : Nat → Nat → Int32) (V' : Nat → Int32), ws' = hC cI cJ cZ L' I' V' tl ∧ sl_ok L' I' V' n r mk rl kd xs ys)) 4 24 := by
  refine sv_of (cc := b_SL_holds) (by decide +kernel) (Nat.le_of_ble_eq_true rfl) ?_
  intro pX eX sX mX aX bX tX cX AX adX C htab hnm
  have hok' := hok
  obtain ⟨⟨⟨hn, hV0, hV1, hr40, hV3, hmk, hall, hSP⟩, hfm, hset, hst, hwa, hme⟩, hn1, hrl, hS⟩ := hok'
  have hp8 := pow_le8 hn
  refine sv_aload_n C d_SL_holds_0 rfl rfl ?_
  refine sv_iload_n C d_SL_holds_1 rfl rfl ?_
  refine sv_callV (ci := 4) C (c_SL_requireFormula (cI := cI) (cJ := cJ) (cZ := cZ) (L := L) (I := I) (V := V) (tl := tl) hl (x := f)) s_SL_81 ki_SL_requireFormula ks_SL_requireFormula ⟨rfl, rfl, Nat.le_of_ble_eq_true rfl, Nat.le_of_ble_eq_true rfl⟩ rfl d_SL_holds_2 (by first | assumption | rfl) (Nat.le_of_ble_eq_true rfl) ⟨(Nat.le_of_ble_eq_true rfl), (Nat.le_of_ble_eq_true rfl)⟩ (fun E ws9 h9 => sv_out C htab (Nat.le_of_ble_eq_true rfl) (Nat.le_of_ble_eq_true rfl) (by obtain ⟨rfl, rfl, h9⟩ := h9; rw [hV3] at h9; exact ⟨⟨rfl, fun q => h9 q.1⟩, L, I, V, rfl, hok⟩)) (fun v9 ws9 hp => ?_)
  obtain ⟨rfl, rfl, hF⟩ := hp
  rw [hV3] at hF
  refine sv_aload_n C d_SL_holds_5 rfl rfl ?_
  refine sv_iload_n C d_SL_holds_6 rfl rfl ?_
  refine sv_callV (ci := 4) C (c_SL_requireState (cI := cI) (cJ := cJ) (cZ := cZ) (L := L) (I := I) (V := V) (tl := tl) hl (x := s)) s_SL_84 ki_SL_requireState ks_SL_requireState ⟨rfl, rfl, Nat.le_of_ble_eq_true rfl, Nat.le_of_ble_eq_true rfl⟩ rfl d_SL_holds_7 (by first | assumption | rfl) (Nat.le_of_ble_eq_true rfl) ⟨(Nat.le_of_ble_eq_true rfl), (Nat.le_of_ble_eq_true rfl)⟩ (fun E ws9 h9 => sv_out C htab (Nat.le_of_ble_eq_true rfl) (Nat.le_of_ble_eq_true rfl) (by obtain ⟨rfl, rfl, h9⟩ := h9; rw [hV0] at h9; exact ⟨⟨rfl, fun q => h9 q.2⟩, L, I, V, rfl, hok⟩)) (fun v9 ws9 hp => ?_)
  obtain ⟨rfl, rfl, hSt⟩ := hp
  rw [hV0] at hSt
  obtain ⟨f', hf', rfl⟩ := iF_nat hmk hF
  have hfc : (nI f').toNatClampNeg = f' := nI_clamp (by omega)
  obtain ⟨s', hs', rfl⟩ := iS_nat hn hSt
  have hsc : (nI s').toNatClampNeg = s' := nI_clamp (by omega)
  refine sv_aload_n C d_SL_holds_10 rfl rfl ?_
  refine sv_get (ci := 4) (kf := 1) C i_SL rfl (by decide) f_SL_21 (fun _ h9 => h9) d_SL_holds_11 (by first | assumption | rfl) rfl ?_
  refine sv_iload_n C d_SL_holds_14 rfl rfl ?_
  refine sv_callV (ci := 0) C (c_Fo_settle (cI := cI) (cJ := cJ) (cZ := cZ) (L := L) (I := I) (V := V) (tl := tl) (n := n) (r := r) (mk := mk) (f := f') (kd := kd) (xs := xs) (ys := ys) hok.1 hf') s_SL_87 ki_Fo_settle ks_Fo_settle ⟨rfl, rfl, Nat.le_of_ble_eq_true rfl, Nat.le_of_ble_eq_true rfl⟩ rfl d_SL_holds_15 (by first | assumption | rfl) (Nat.le_of_ble_eq_true rfl) ⟨(Nat.le_of_ble_eq_true rfl), (Nat.le_of_ble_eq_true rfl)⟩ (fun E ws9 h9 => absurd h9 id) (fun v9 ws9 hp => ?_)
  obtain ⟨rfl, L', I', V', rfl, hfo, h7, eL0, eL1, eL2⟩ := hp
  have hok2 : sl_ok L' I' V' n r mk rl kd xs ys := ⟨hfo, hn1, hrl, by rw [eL1]; exact hS⟩
  have hT := sl_tr hok2 hf' h7
  refine sv_aload_n C d_SL_holds_18 rfl rfl ?_
  refine sv_get (ci := 4) (kf := 1) C i_SL rfl (by decide) f_SL_21 (fun _ h9 => h9) d_SL_holds_19 (by first | assumption | rfl) rfl ?_
  refine sv_get (ci := 0) (kf := 2) C i_Fo rfl (by decide) f_SL_90 (fun _ h9 => h9) d_SL_holds_22 (by first | assumption | rfl) rfl ?_
  refine sv_iload_n C d_SL_holds_25 rfl rfl ?_
  refine sv_iload_n C d_SL_holds_26 rfl rfl ?_
  refine sv_callV (ci := 3) C (c_St_has (cI := cI) (cZ := cZ) (ws := hC cI cJ cZ L' I' V' tl) (b := 16) (w := 17) (N := 240) (f := L' 4) (a := f') (x := s') rfl rfl (by omega) (by decide) (by omega)) s_SL_94 ki_St_has ks_St_has ⟨rfl, rfl, Nat.le_of_ble_eq_true rfl, Nat.le_of_ble_eq_true rfl⟩ rfl d_SL_holds_27 (by first | assumption | rfl) (Nat.le_of_ble_eq_true rfl) ⟨(Nat.le_of_ble_eq_true rfl), (Nat.le_of_ble_eq_true rfl)⟩ (fun E ws9 h9 => absurd h9 id) (fun v9 ws9 hp => ?_)
  obtain ⟨rfl, rfl⟩ := hp
  refine sv_eqs (st' := [.int (b2i (ss_b (L' 4) f' s'))]) rfl ?_
  refine sv_iret C rfl (by cases ss_b (L' 4) f' s' <;> rfl) d_SL_holds_30 (Nat.le_of_ble_eq_true rfl) (Nat.le_of_ble_eq_true rfl) (fun _ _ => rfl) (⟨⟨hF, hSt, _, rfl, ?_⟩, L', I', V', rfl, hok2⟩)
  rw [hfc, hsc, ← hT]
  exact ⟨fun h => ⟨by omega, h⟩, fun h => h.2⟩
theorem cnt_ev {g : Nat → Int64} {f : Nat} {T : Nat → Prop} (h : ev_T g f = T) : ∀ x, x < 256 → (ss_b g f x = true ↔ T x) := fun x hx => by
  rw [← h]
  exact ⟨fun q => ⟨hx, q⟩, fun q => q.2⟩
set_option maxRecDepth 100000 in
set_option maxHeartbeats 8000000 in
theorem c_SL_count {l : Launch} {D : va_G} {cI cJ cZ : ClassId} {L : Nat → Nat → Int64} {I : Nat → Nat → Int32} {V : Nat → Int32} {tl : List va_E} (hl : l.stackTraces = false) {n r mk : Nat} {rl : Nat → Nat × Nat × Nat × Nat} {kd xs ys : Nat → Nat} (hok : sl_ok L I V n r mk rl kd xs ys) {f : Int32} :
    sv_M l y_SL_count [Cond.code y_SL_count b_SL_count 2 (some .int)] ({ frames := 7, cells := 4, slots := 24, locals := 172 } : Room) D sv_cl (sv_ty cI cJ cZ) [.ref 0, .int f] (hC cI cJ cZ L I V tl) 0 0 (fun q ws' => (iF mk f ∧ (∃ B : Nat → Bool, q = some (.int (nI (g_cnt B 256))) ∧ ∀ x, x < 256 → (B x = true ↔ tF (rs n r rl) (2 ^ n) kd xs ys f.toNatClampNeg x))) ∧ (∃ (L' : Nat → Nat → Int64) (I' : Nat → Nat → Int32) (V' : Nat → Int32), ws' = hC cI cJ cZ L' I' V' tl ∧ sl_ok L' I' V' n r mk rl kd xs ys)) (fun E ws' => (E = xIO ∧ ¬ iF mk f) ∧ (∃ (L' : Nat → Nat → Int64) (I' : Nat → Nat → Int32) (V' : Nat → Int32), ws' = hC cI cJ cZ L' I' V' tl ∧ sl_ok L' I' V' n r mk rl kd xs ys)) 4 24 := by
  refine sv_of (cc := b_SL_count) (by decide +kernel) (Nat.le_of_ble_eq_true rfl) ?_
  intro pX eX sX mX aX bX tX cX AX adX C htab hnm
  have hok' := hok
  obtain ⟨⟨⟨hn, hV0, hV1, hr40, hV3, hmk, hall, hSP⟩, hfm, hset, hst, hwa, hme⟩, hn1, hrl, hS⟩ := hok'
  have hp8 := pow_le8 hn
  refine sv_aload_n C d_SL_count_0 rfl rfl ?_
  refine sv_iload_n C d_SL_count_1 rfl rfl ?_
  refine sv_callV (ci := 4) C (c_SL_requireFormula (cI := cI) (cJ := cJ) (cZ := cZ) (L := L) (I := I) (V := V) (tl := tl) hl (x := f)) s_SL_81 ki_SL_requireFormula ks_SL_requireFormula ⟨rfl, rfl, Nat.le_of_ble_eq_true rfl, Nat.le_of_ble_eq_true rfl⟩ rfl d_SL_count_2 (by first | assumption | rfl) (Nat.le_of_ble_eq_true rfl) ⟨(Nat.le_of_ble_eq_true rfl), (Nat.le_of_ble_eq_true rfl)⟩ (fun E ws9 h9 => sv_out C htab (Nat.le_of_ble_eq_true rfl) (Nat.le_of_ble_eq_true rfl) (by obtain ⟨rfl, rfl, h9⟩ := h9; rw [hV3] at h9; exact ⟨⟨rfl, h9⟩, L, I, V, rfl, hok⟩)) (fun v9 ws9 hp => ?_)
  obtain ⟨rfl, rfl, hF⟩ := hp
  rw [hV3] at hF
  obtain ⟨f', hf', rfl⟩ := iF_nat hmk hF
  have hfc : (nI f').toNatClampNeg = f' := nI_clamp (by omega)
  refine sv_aload_n C d_SL_count_5 rfl rfl ?_
  refine sv_get (ci := 4) (kf := 1) C i_SL rfl (by decide) f_SL_21 (fun _ h9 => h9) d_SL_count_6 (by first | assumption | rfl) rfl ?_
  refine sv_iload_n C d_SL_count_9 rfl rfl ?_
  refine sv_callV (ci := 0) C (c_Fo_settle (cI := cI) (cJ := cJ) (cZ := cZ) (L := L) (I := I) (V := V) (tl := tl) (n := n) (r := r) (mk := mk) (f := f') (kd := kd) (xs := xs) (ys := ys) hok.1 hf') s_SL_87 ki_Fo_settle ks_Fo_settle ⟨rfl, rfl, Nat.le_of_ble_eq_true rfl, Nat.le_of_ble_eq_true rfl⟩ rfl d_SL_count_10 (by first | assumption | rfl) (Nat.le_of_ble_eq_true rfl) ⟨(Nat.le_of_ble_eq_true rfl), (Nat.le_of_ble_eq_true rfl)⟩ (fun E ws9 h9 => absurd h9 id) (fun v9 ws9 hp => ?_)
  obtain ⟨rfl, L', I', V', rfl, hfo, h7, eL0, eL1, eL2⟩ := hp
  have hok2 : sl_ok L' I' V' n r mk rl kd xs ys := ⟨hfo, hn1, hrl, by rw [eL1]; exact hS⟩
  have hT := sl_tr hok2 hf' h7
  refine sv_aload_n C d_SL_count_13 rfl rfl ?_
  refine sv_get (ci := 4) (kf := 1) C i_SL rfl (by decide) f_SL_21 (fun _ h9 => h9) d_SL_count_14 (by first | assumption | rfl) rfl ?_
  refine sv_get (ci := 0) (kf := 2) C i_Fo rfl (by decide) f_SL_90 (fun _ h9 => h9) d_SL_count_17 (by first | assumption | rfl) rfl ?_
  refine sv_iload_n C d_SL_count_20 rfl rfl ?_
  refine sv_callV (ci := 3) C (c_St_size (cI := cI) (cZ := cZ) (ws := hC cI cJ cZ L' I' V' tl) (b := 16) (w := 17) (N := 240) (f := L' 4) (a := f') rfl rfl (by omega) (by decide)) s_SL_100 ki_St_size ks_St_size ⟨rfl, rfl, Nat.le_of_ble_eq_true rfl, Nat.le_of_ble_eq_true rfl⟩ rfl d_SL_count_21 (by first | assumption | rfl) (Nat.le_of_ble_eq_true rfl) ⟨(Nat.le_of_ble_eq_true rfl), (Nat.le_of_ble_eq_true rfl)⟩ (fun E ws9 h9 => absurd h9 id) (fun v9 ws9 hp => ?_)
  obtain ⟨rfl, rfl⟩ := hp
  refine sv_iret C rfl rfl d_SL_count_24 (Nat.le_of_ble_eq_true rfl) (Nat.le_of_ble_eq_true rfl) (fun _ _ => rfl) (⟨⟨hF, _, rfl, ?_⟩, L', I', V', rfl, hok2⟩)
  rw [hfc]
  exact cnt_ev hT
set_option maxRecDepth 100000 in
set_option maxHeartbeats 8000000 in
theorem c_SL_first {l : Launch} {D : va_G} {cI cJ cZ : ClassId} {L : Nat → Nat → Int64} {I : Nat → Nat → Int32} {V : Nat → Int32} {tl : List va_E} (hl : l.stackTraces = false) {n r mk : Nat} {rl : Nat → Nat × Nat × Nat × Nat} {kd xs ys : Nat → Nat} (hok : sl_ok L I V n r mk rl kd xs ys) {f s : Int32} :
    sv_M l y_SL_first [Cond.code y_SL_first b_SL_first 3 (some .int)] ({ frames := 7, cells := 4, slots := 24, locals := 172 } : Room) D sv_cl (sv_ty cI cJ cZ) [.ref 0, .int f, .int s] (hC cI cJ cZ L I V tl) 0 0 (fun q ws' => (iF mk f ∧ iS n s ∧ ((q = some (.int (-1)) ∧ ∀ z, s.toNatClampNeg ≤ z → ¬ tF (rs n r rl) (2 ^ n) kd xs ys f.toNatClampNeg z) ∨ ∃ y, q = some (.int (nI y)) ∧ y < 256 ∧ s.toNatClampNeg ≤ y ∧ tF (rs n r rl) (2 ^ n) kd xs ys f.toNatClampNeg y ∧ ∀ z, s.toNatClampNeg ≤ z → z < y → ¬ tF (rs n r rl) (2 ^ n) kd xs ys f.toNatClampNeg z)) ∧ (∃ (L' : Nat → Nat → Int64) (I' : Nat → Nat → Int32) (V' : Nat → Int32), ws' = hC cI cJ cZ L' I' V' tl ∧ sl_ok L' I' V' n r mk rl kd xs ys)) (fun E ws' => (E = xIO ∧ ¬ (iF mk f ∧ iS n s)) ∧ (∃ (L' : Nat → Nat → Int64) (I' : Nat → Nat → Int32) (V' : Nat → Int32), ws' = hC cI cJ cZ L' I' V' tl ∧ sl_ok L' I' V' n r mk rl kd xs ys)) 4 24 := by
  refine sv_of (cc := b_SL_first) (by decide +kernel) (Nat.le_of_ble_eq_true rfl) ?_
  intro pX eX sX mX aX bX tX cX AX adX C htab hnm
  have hok' := hok
  obtain ⟨⟨⟨hn, hV0, hV1, hr40, hV3, hmk, hall, hSP⟩, hfm, hset, hst, hwa, hme⟩, hn1, hrl, hS⟩ := hok'
  have hp8 := pow_le8 hn
  refine sv_aload_n C d_SL_first_0 rfl rfl ?_
  refine sv_iload_n C d_SL_first_1 rfl rfl ?_
  refine sv_callV (ci := 4) C (c_SL_requireFormula (cI := cI) (cJ := cJ) (cZ := cZ) (L := L) (I := I) (V := V) (tl := tl) hl (x := f)) s_SL_81 ki_SL_requireFormula ks_SL_requireFormula ⟨rfl, rfl, Nat.le_of_ble_eq_true rfl, Nat.le_of_ble_eq_true rfl⟩ rfl d_SL_first_2 (by first | assumption | rfl) (Nat.le_of_ble_eq_true rfl) ⟨(Nat.le_of_ble_eq_true rfl), (Nat.le_of_ble_eq_true rfl)⟩ (fun E ws9 h9 => sv_out C htab (Nat.le_of_ble_eq_true rfl) (Nat.le_of_ble_eq_true rfl) (by obtain ⟨rfl, rfl, h9⟩ := h9; rw [hV3] at h9; exact ⟨⟨rfl, fun q => h9 q.1⟩, L, I, V, rfl, hok⟩)) (fun v9 ws9 hp => ?_)
  obtain ⟨rfl, rfl, hF⟩ := hp
  rw [hV3] at hF
  refine sv_aload_n C d_SL_first_5 rfl rfl ?_
  refine sv_iload_n C d_SL_first_6 rfl rfl ?_
  refine sv_callV (ci := 4) C (c_SL_requireState (cI := cI) (cJ := cJ) (cZ := cZ) (L := L) (I := I) (V := V) (tl := tl) hl (x := s)) s_SL_84 ki_SL_requireState ks_SL_requireState ⟨rfl, rfl, Nat.le_of_ble_eq_true rfl, Nat.le_of_ble_eq_true rfl⟩ rfl d_SL_first_7 (by first | assumption | rfl) (Nat.le_of_ble_eq_true rfl) ⟨(Nat.le_of_ble_eq_true rfl), (Nat.le_of_ble_eq_true rfl)⟩ (fun E ws9 h9 => sv_out C htab (Nat.le_of_ble_eq_true rfl) (Nat.le_of_ble_eq_true rfl) (by obtain ⟨rfl, rfl, h9⟩ := h9; rw [hV0] at h9; exact ⟨⟨rfl, fun q => h9 q.2⟩, L, I, V, rfl, hok⟩)) (fun v9 ws9 hp => ?_)
  obtain ⟨rfl, rfl, hSt⟩ := hp
  rw [hV0] at hSt
  obtain ⟨f', hf', rfl⟩ := iF_nat hmk hF
  have hfc : (nI f').toNatClampNeg = f' := nI_clamp (by omega)
  obtain ⟨s', hs', rfl⟩ := iS_nat hn hSt
  have hsc : (nI s').toNatClampNeg = s' := nI_clamp (by omega)
  refine sv_aload_n C d_SL_first_10 rfl rfl ?_
  refine sv_get (ci := 4) (kf := 1) C i_SL rfl (by decide) f_SL_21 (fun _ h9 => h9) d_SL_first_11 (by first | assumption | rfl) rfl ?_
  refine sv_iload_n C d_SL_first_14 rfl rfl ?_
  refine sv_callV (ci := 0) C (c_Fo_settle (cI := cI) (cJ := cJ) (cZ := cZ) (L := L) (I := I) (V := V) (tl := tl) (n := n) (r := r) (mk := mk) (f := f') (kd := kd) (xs := xs) (ys := ys) hok.1 hf') s_SL_87 ki_Fo_settle ks_Fo_settle ⟨rfl, rfl, Nat.le_of_ble_eq_true rfl, Nat.le_of_ble_eq_true rfl⟩ rfl d_SL_first_15 (by first | assumption | rfl) (Nat.le_of_ble_eq_true rfl) ⟨(Nat.le_of_ble_eq_true rfl), (Nat.le_of_ble_eq_true rfl)⟩ (fun E ws9 h9 => absurd h9 id) (fun v9 ws9 hp => ?_)
  obtain ⟨rfl, L', I', V', rfl, hfo, h7, eL0, eL1, eL2⟩ := hp
  have hok2 : sl_ok L' I' V' n r mk rl kd xs ys := ⟨hfo, hn1, hrl, by rw [eL1]; exact hS⟩
  have hT := sl_tr hok2 hf' h7
  refine sv_aload_n C d_SL_first_18 rfl rfl ?_
  refine sv_get (ci := 4) (kf := 1) C i_SL rfl (by decide) f_SL_21 (fun _ h9 => h9) d_SL_first_19 (by first | assumption | rfl) rfl ?_
  refine sv_get (ci := 0) (kf := 2) C i_Fo rfl (by decide) f_SL_90 (fun _ h9 => h9) d_SL_first_22 (by first | assumption | rfl) rfl ?_
  refine sv_iload_n C d_SL_first_25 rfl rfl ?_
  refine sv_iload_n C d_SL_first_26 rfl rfl ?_
  refine sv_callV (ci := 3) C (c_St_leastFrom (cI := cI) (cZ := cZ) (ws := hC cI cJ cZ L' I' V' tl) (b := 16) (w := 17) (N := 240) (f := L' 4) (a := f') (x := s') rfl rfl (by omega) (by decide) (by omega)) s_SL_104 ki_St_leastFrom ks_St_leastFrom ⟨rfl, rfl, Nat.le_of_ble_eq_true rfl, Nat.le_of_ble_eq_true rfl⟩ rfl d_SL_first_27 (by first | assumption | rfl) (Nat.le_of_ble_eq_true rfl) ⟨(Nat.le_of_ble_eq_true rfl), (Nat.le_of_ble_eq_true rfl)⟩ (fun E ws9 h9 => absurd h9 id) (fun v9 ws9 hp => ?_)
  obtain ⟨hle, rfl⟩ := hp
  have hcv := cnt_ev hT
  rcases hle with ⟨rfl, h2⟩ | ⟨y, rfl, h2, h3, h4, h5⟩
  · refine sv_iret C rfl rfl d_SL_first_30 (Nat.le_of_ble_eq_true rfl) (Nat.le_of_ble_eq_true rfl) (fun _ _ => rfl) (⟨⟨hF, hSt, Or.inl ⟨rfl, ?_⟩⟩, L', I', V', rfl, hok2⟩)
    rw [hfc, hsc]
    intro z hz ht
    have hz2 := tF_lt ht
    have h6 := (hcv z (by omega)).mpr ht
    rw [h2 z hz (by omega)] at h6
    exact absurd h6 (by decide)
  · refine sv_iret C rfl rfl d_SL_first_30 (Nat.le_of_ble_eq_true rfl) (Nat.le_of_ble_eq_true rfl) (fun _ _ => rfl) (⟨⟨hF, hSt, Or.inr ⟨y, rfl, h2, ?_⟩⟩, L', I', V', rfl, hok2⟩)
    rw [hfc, hsc]
    refine ⟨h3, (hcv y h2).mp h4, fun z hz hzy ht => ?_⟩
    have h6 := (hcv z (by omega)).mpr ht
    rw [h5 z hz hzy] at h6
    exact absurd h6 (by decide)
/-- how many states the witness has -/
def rlen (S : Nat → Nat → Prop) (X Y : Nat → Prop) (s m : Nat) : Prop := (∃ d, d < 256 ∧ m = d + 1 ∧ umin S X Y d s) ∨ (m = 0 ∧ ∀ k, ¬ um S X Y k s)
theorem rlen_un {S : Nat → Nat → Prop} {X Y : Nat → Prop} {s m m' : Nat} (h : rlen S X Y s m) (h' : rlen S X Y s m') : m = m' := by
  rcases h with ⟨d, -, rfl, h1⟩ | ⟨rfl, h1⟩ <;> rcases h' with ⟨d', -, rfl, h2⟩ | ⟨rfl, h2⟩
  · rw [umin_eq h1 h2]
  · exact absurd h1.1 (h2 _)
  · exact absurd h2.1 (h1 _)
  · rfl
theorem kd5 {L : Nat → Nat → Int64} {I : Nat → Nat → Int32} {V : Nat → Int32} {n r mk f : Nat} {rl : Nat → Nat × Nat × Nat × Nat} {kd xs ys : Nat → Nat} (h : sl_ok L I V n r mk rl kd xs ys) (hf : f < mk) : I 4 f = 5 ↔ kd f = 5 := by
  have h1 := h.1.2.1 f hf
  rw [h1.1]
  exact nI_eq (b := 5) (by have := h1.2.2.2.1; omega) (by omega)
set_option maxRecDepth 100000 in
set_option maxHeartbeats 8000000 in
theorem c_SL_length {l : Launch} {D : va_G} {cI cJ cZ : ClassId} {L : Nat → Nat → Int64} {I : Nat → Nat → Int32} {V : Nat → Int32} {tl : List va_E} (hl : l.stackTraces = false) {n r mk : Nat} {rl : Nat → Nat × Nat × Nat × Nat} {kd xs ys : Nat → Nat} (hok : sl_ok L I V n r mk rl kd xs ys) {f s : Int32} :
    sv_M l y_SL_length [Cond.code y_SL_length b_SL_length 3 (some .int)] ({ frames := 7, cells := 4, slots := 24, locals := 172 } : Room) D sv_cl (sv_ty cI cJ cZ) [.ref 0, .int f, .int s] (hC cI cJ cZ L I V tl) 0 0 (fun q ws' => (iF mk f ∧ iS n s ∧ kd f.toNatClampNeg = 5 ∧ (∃ m, q = some (.int (nI m)) ∧ rlen (rs n r rl) (tF (rs n r rl) (2 ^ n) kd xs ys (xs f.toNatClampNeg)) (tF (rs n r rl) (2 ^ n) kd xs ys (ys f.toNatClampNeg)) s.toNatClampNeg m)) ∧ (∃ (L' : Nat → Nat → Int64) (I' : Nat → Nat → Int32) (V' : Nat → Int32), ws' = hC cI cJ cZ L' I' V' tl ∧ sl_ok L' I' V' n r mk rl kd xs ys)) (fun E ws' => ((E = xIO ∧ ¬ (iF mk f ∧ iS n s)) ∨ (E = xIA ∧ iF mk f ∧ iS n s ∧ kd f.toNatClampNeg ≠ 5)) ∧ (∃ (L' : Nat → Nat → Int64) (I' : Nat → Nat → Int32) (V' : Nat → Int32), ws' = hC cI cJ cZ L' I' V' tl ∧ sl_ok L' I' V' n r mk rl kd xs ys)) 4 24 := by
  refine sv_of (cc := b_SL_length) (by decide +kernel) (Nat.le_of_ble_eq_true rfl) ?_
  intro pX eX sX mX aX bX tX cX AX adX C htab hnm
  have hok' := hok
  obtain ⟨⟨⟨hn, hV0, hV1, hr40, hV3, hmk, hall, hSP⟩, hfm, hset, hst, hwa, hme⟩, hn1, hrl, hS⟩ := hok'
  have hp8 := pow_le8 hn
  refine sv_aload_n C d_SL_length_0 rfl rfl ?_
  refine sv_iload_n C d_SL_length_1 rfl rfl ?_
  refine sv_callV (ci := 4) C (c_SL_requireFormula (cI := cI) (cJ := cJ) (cZ := cZ) (L := L) (I := I) (V := V) (tl := tl) hl (x := f)) s_SL_81 ki_SL_requireFormula ks_SL_requireFormula ⟨rfl, rfl, Nat.le_of_ble_eq_true rfl, Nat.le_of_ble_eq_true rfl⟩ rfl d_SL_length_2 (by first | assumption | rfl) (Nat.le_of_ble_eq_true rfl) ⟨(Nat.le_of_ble_eq_true rfl), (Nat.le_of_ble_eq_true rfl)⟩ (fun E ws9 h9 => sv_out C htab (Nat.le_of_ble_eq_true rfl) (Nat.le_of_ble_eq_true rfl) (by obtain ⟨rfl, rfl, h9⟩ := h9; rw [hV3] at h9; exact ⟨Or.inl ⟨rfl, fun q => h9 q.1⟩, L, I, V, rfl, hok⟩)) (fun v9 ws9 hp => ?_)
  obtain ⟨rfl, rfl, hF⟩ := hp
  rw [hV3] at hF
  refine sv_aload_n C d_SL_length_5 rfl rfl ?_
  refine sv_iload_n C d_SL_length_6 rfl rfl ?_
  refine sv_callV (ci := 4) C (c_SL_requireState (cI := cI) (cJ := cJ) (cZ := cZ) (L := L) (I := I) (V := V) (tl := tl) hl (x := s)) s_SL_84 ki_SL_requireState ks_SL_requireState ⟨rfl, rfl, Nat.le_of_ble_eq_true rfl, Nat.le_of_ble_eq_true rfl⟩ rfl d_SL_length_7 (by first | assumption | rfl) (Nat.le_of_ble_eq_true rfl) ⟨(Nat.le_of_ble_eq_true rfl), (Nat.le_of_ble_eq_true rfl)⟩ (fun E ws9 h9 => sv_out C htab (Nat.le_of_ble_eq_true rfl) (Nat.le_of_ble_eq_true rfl) (by obtain ⟨rfl, rfl, h9⟩ := h9; rw [hV0] at h9; exact ⟨Or.inl ⟨rfl, fun q => h9 q.2⟩, L, I, V, rfl, hok⟩)) (fun v9 ws9 hp => ?_)
  obtain ⟨rfl, rfl, hSt⟩ := hp
  rw [hV0] at hSt
  obtain ⟨f', hf', rfl⟩ := iF_nat hmk hF
  have hfc : (nI f').toNatClampNeg = f' := nI_clamp (by omega)
  obtain ⟨s', hs', rfl⟩ := iS_nat hn hSt
  have hsc : (nI s').toNatClampNeg = s' := nI_clamp (by omega)
  refine sv_aload_n C d_SL_length_10 rfl rfl ?_
  refine sv_iload_n C d_SL_length_11 rfl rfl ?_
  refine sv_callV (ci := 4) C (c_SL_requireUntil (cI := cI) (cJ := cJ) (cZ := cZ) (L := L) (I := I) (V := V) (tl := tl) hl (f := f') (by omega)) s_SL_108 ki_SL_requireUntil ks_SL_requireUntil ⟨rfl, rfl, Nat.le_of_ble_eq_true rfl, Nat.le_of_ble_eq_true rfl⟩ rfl d_SL_length_12 (by first | assumption | rfl) (Nat.le_of_ble_eq_true rfl) ⟨(Nat.le_of_ble_eq_true rfl), (Nat.le_of_ble_eq_true rfl)⟩ (fun E ws9 h9 => sv_out C htab (Nat.le_of_ble_eq_true rfl) (Nat.le_of_ble_eq_true rfl) (by obtain ⟨rfl, rfl, h9⟩ := h9; rw [kd5 hok hf'] at h9; exact ⟨Or.inr ⟨rfl, hF, hSt, by rw [hfc]; exact h9⟩, L, I, V, rfl, hok⟩)) (fun v9 ws9 hp => ?_)
  obtain ⟨rfl, rfl, hU⟩ := hp
  rw [kd5 hok hf'] at hU
  refine sv_aload_n C d_SL_length_15 rfl rfl ?_
  refine sv_get (ci := 4) (kf := 1) C i_SL rfl (by decide) f_SL_21 (fun _ h9 => h9) d_SL_length_16 (by first | assumption | rfl) rfl ?_
  refine sv_iload_n C d_SL_length_19 rfl rfl ?_
  refine sv_callV (ci := 0) C (c_Fo_settle (cI := cI) (cJ := cJ) (cZ := cZ) (L := L) (I := I) (V := V) (tl := tl) (n := n) (r := r) (mk := mk) (f := f') (kd := kd) (xs := xs) (ys := ys) hok.1 hf') s_SL_87 ki_Fo_settle ks_Fo_settle ⟨rfl, rfl, Nat.le_of_ble_eq_true rfl, Nat.le_of_ble_eq_true rfl⟩ rfl d_SL_length_20 (by first | assumption | rfl) (Nat.le_of_ble_eq_true rfl) ⟨(Nat.le_of_ble_eq_true rfl), (Nat.le_of_ble_eq_true rfl)⟩ (fun E ws9 h9 => absurd h9 id) (fun v9 ws9 hp => ?_)
  obtain ⟨rfl, L', I', V', rfl, hfo, h7, eL0, eL1, eL2⟩ := hp
  have hok2 : sl_ok L' I' V' n r mk rl kd xs ys := ⟨hfo, hn1, hrl, by rw [eL1]; exact hS⟩
  have hT := sl_tr hok2 hf' h7
  refine sv_aload_n C d_SL_length_23 rfl rfl ?_
  refine sv_get (ci := 4) (kf := 1) C i_SL rfl (by decide) f_SL_21 (fun _ h9 => h9) d_SL_length_24 (by first | assumption | rfl) rfl ?_
  refine sv_iload_n C d_SL_length_27 rfl rfl ?_
  refine sv_iload_n C d_SL_length_28 rfl rfl ?_
  refine sv_callV (ci := 0) C (c_Fo_rowLength (cI := cI) (cJ := cJ) (cZ := cZ) (L := L') (I := I') (V := V') (tl := tl) (n := n) (r := r) (mk := mk) (f := f') (s := s') (kd := kd) (xs := xs) (ys := ys) hfo hf' hU h7 hs') s_SL_111 ki_Fo_rowLength ks_Fo_rowLength ⟨rfl, rfl, Nat.le_of_ble_eq_true rfl, Nat.le_of_ble_eq_true rfl⟩ rfl d_SL_length_29 (by first | assumption | rfl) (Nat.le_of_ble_eq_true rfl) ⟨(Nat.le_of_ble_eq_true rfl), (Nat.le_of_ble_eq_true rfl)⟩ (fun E ws9 h9 => absurd h9 id) (fun v9 ws9 hp => ?_)
  obtain ⟨L3, I3, V3, rfl, hfo3, h73, eM0, eM1, eM2, hev3, hun3, hlen3⟩ := hp
  have hok3 : sl_ok L3 I3 V3 n r mk rl kd xs ys := ⟨hfo3, hn1, hrl, by rw [eM1, eL1]; exact hS⟩
  have hpt := (hfo.2.2.2.1 f' hf' h7).1 (by omega)
  have hlt2 := sl_wf hok2 f' hf' (by omega)
  have hTx := sl_tr hok2 (f := xs f') (by omega) hpt.1
  have hTy := sl_tr hok2 (f := ys f') (by omega) hpt.2
  have hS2 : ∀ a b, tF (rs n r rl) (2 ^ n) kd xs ys (xs f') a → (ev_S (L' 1) a b ↔ rs n r rl a b) := fun a b ha => by
    have := tF_lt ha
    exact hok2.2.2.2 a b (by omega)
  rw [hTx, hTy] at hlen3
  rw [um_S hS2, umin_S hS2] at hlen3
  have hlm : ∃ m, v9 = some (.int (nI m)) ∧ m ≤ 256 ∧ rlen (rs n r rl) (tF (rs n r rl) (2 ^ n) kd xs ys (xs f')) (tF (rs n r rl) (2 ^ n) kd xs ys (ys f')) s' m := by
    rcases hlen3 with ⟨d, h1, rfl, h2⟩ | ⟨rfl, h2⟩
    · exact ⟨d + 1, rfl, by omega, Or.inl ⟨d, h1, rfl, h2⟩⟩
    · exact ⟨0, rfl, by omega, Or.inr ⟨rfl, h2⟩⟩
  obtain ⟨m, rfl, hm256, hrl3⟩ := hlm
  exact sv_iret C rfl rfl d_SL_length_32 (Nat.le_of_ble_eq_true rfl) (Nat.le_of_ble_eq_true rfl) (fun _ _ => rfl) (⟨⟨hF, hSt, by rw [hfc]; exact hU, m, rfl, by rw [hfc, hsc]; exact hrl3⟩, L3, I3, V3, rfl, hok3⟩)
set_option maxRecDepth 100000 in
set_option maxHeartbeats 8000000 in
theorem c_SL_witness {l : Launch} {D : va_G} {cI cJ cZ : ClassId} {L : Nat → Nat → Int64} {I : Nat → Nat → Int32} {V : Nat → Int32} {tl : List va_E} (hl : l.stackTraces = false) {n r mk : Nat} {rl : Nat → Nat × Nat × Nat × Nat} {kd xs ys : Nat → Nat} (hok : sl_ok L I V n r mk rl kd xs ys) {f s k : Int32} :
    sv_M l y_SL_witness [Cond.code y_SL_witness b_SL_witness 4 (some .int)] ({ frames := 7, cells := 4, slots := 24, locals := 172 } : Room) D sv_cl (sv_ty cI cJ cZ) [.ref 0, .int f, .int s, .int k] (hC cI cJ cZ L I V tl) 0 0 (fun q ws' => (iF mk f ∧ iS n s ∧ kd f.toNatClampNeg = 5 ∧ (∃ m t, rlen (rs n r rl) (tF (rs n r rl) (2 ^ n) kd xs ys (xs f.toNatClampNeg)) (tF (rs n r rl) (2 ^ n) kd xs ys (ys f.toNatClampNeg)) s.toNatClampNeg m ∧ (0 ≤ k ∧ k < nI m) ∧ q = some (.int (nI t)) ∧ wit (rs n r rl) (tF (rs n r rl) (2 ^ n) kd xs ys (xs f.toNatClampNeg)) (tF (rs n r rl) (2 ^ n) kd xs ys (ys f.toNatClampNeg)) s.toNatClampNeg k.toNatClampNeg t)) ∧ (∃ (L' : Nat → Nat → Int64) (I' : Nat → Nat → Int32) (V' : Nat → Int32), ws' = hC cI cJ cZ L' I' V' tl ∧ sl_ok L' I' V' n r mk rl kd xs ys)) (fun E ws' => ((E = xIO ∧ ¬ (iF mk f ∧ iS n s)) ∨ (E = xIA ∧ iF mk f ∧ iS n s ∧ kd f.toNatClampNeg ≠ 5) ∨ (E = xNS ∧ iF mk f ∧ iS n s ∧ kd f.toNatClampNeg = 5 ∧ (k < 0 ∨ ∃ m, rlen (rs n r rl) (tF (rs n r rl) (2 ^ n) kd xs ys (xs f.toNatClampNeg)) (tF (rs n r rl) (2 ^ n) kd xs ys (ys f.toNatClampNeg)) s.toNatClampNeg m ∧ ¬ k < nI m))) ∧ (∃ (L' : Nat → Nat → Int64) (I' : Nat → Nat → Int32) (V' : Nat → Int32), ws' = hC cI cJ cZ L' I' V' tl ∧ sl_ok L' I' V' n r mk rl kd xs ys)) 4 24 := by
  refine sv_of (cc := b_SL_witness) (by decide +kernel) (Nat.le_of_ble_eq_true rfl) ?_
  intro pX eX sX mX aX bX tX cX AX adX C htab hnm
  have hok' := hok
  obtain ⟨⟨⟨hn, hV0, hV1, hr40, hV3, hmk, hall, hSP⟩, hfm, hset, hst, hwa, hme⟩, hn1, hrl, hS⟩ := hok'
  have hp8 := pow_le8 hn
  refine sv_aload_n C d_SL_witness_0 rfl rfl ?_
  refine sv_iload_n C d_SL_witness_1 rfl rfl ?_
  refine sv_callV (ci := 4) C (c_SL_requireFormula (cI := cI) (cJ := cJ) (cZ := cZ) (L := L) (I := I) (V := V) (tl := tl) hl (x := f)) s_SL_81 ki_SL_requireFormula ks_SL_requireFormula ⟨rfl, rfl, Nat.le_of_ble_eq_true rfl, Nat.le_of_ble_eq_true rfl⟩ rfl d_SL_witness_2 (by first | assumption | rfl) (Nat.le_of_ble_eq_true rfl) ⟨(Nat.le_of_ble_eq_true rfl), (Nat.le_of_ble_eq_true rfl)⟩ (fun E ws9 h9 => sv_out C htab (Nat.le_of_ble_eq_true rfl) (Nat.le_of_ble_eq_true rfl) (by obtain ⟨rfl, rfl, h9⟩ := h9; rw [hV3] at h9; exact ⟨Or.inl ⟨rfl, fun q => h9 q.1⟩, L, I, V, rfl, hok⟩)) (fun v9 ws9 hp => ?_)
  obtain ⟨rfl, rfl, hF⟩ := hp
  rw [hV3] at hF
  refine sv_aload_n C d_SL_witness_5 rfl rfl ?_
  refine sv_iload_n C d_SL_witness_6 rfl rfl ?_
  refine sv_callV (ci := 4) C (c_SL_requireState (cI := cI) (cJ := cJ) (cZ := cZ) (L := L) (I := I) (V := V) (tl := tl) hl (x := s)) s_SL_84 ki_SL_requireState ks_SL_requireState ⟨rfl, rfl, Nat.le_of_ble_eq_true rfl, Nat.le_of_ble_eq_true rfl⟩ rfl d_SL_witness_7 (by first | assumption | rfl) (Nat.le_of_ble_eq_true rfl) ⟨(Nat.le_of_ble_eq_true rfl), (Nat.le_of_ble_eq_true rfl)⟩ (fun E ws9 h9 => sv_out C htab (Nat.le_of_ble_eq_true rfl) (Nat.le_of_ble_eq_true rfl) (by obtain ⟨rfl, rfl, h9⟩ := h9; rw [hV0] at h9; exact ⟨Or.inl ⟨rfl, fun q => h9 q.2⟩, L, I, V, rfl, hok⟩)) (fun v9 ws9 hp => ?_)
  obtain ⟨rfl, rfl, hSt⟩ := hp
  rw [hV0] at hSt
  obtain ⟨f', hf', rfl⟩ := iF_nat hmk hF
  have hfc : (nI f').toNatClampNeg = f' := nI_clamp (by omega)
  obtain ⟨s', hs', rfl⟩ := iS_nat hn hSt
  have hsc : (nI s').toNatClampNeg = s' := nI_clamp (by omega)
  refine sv_aload_n C d_SL_witness_10 rfl rfl ?_
  refine sv_iload_n C d_SL_witness_11 rfl rfl ?_
  refine sv_callV (ci := 4) C (c_SL_requireUntil (cI := cI) (cJ := cJ) (cZ := cZ) (L := L) (I := I) (V := V) (tl := tl) hl (f := f') (by omega)) s_SL_108 ki_SL_requireUntil ks_SL_requireUntil ⟨rfl, rfl, Nat.le_of_ble_eq_true rfl, Nat.le_of_ble_eq_true rfl⟩ rfl d_SL_witness_12 (by first | assumption | rfl) (Nat.le_of_ble_eq_true rfl) ⟨(Nat.le_of_ble_eq_true rfl), (Nat.le_of_ble_eq_true rfl)⟩ (fun E ws9 h9 => sv_out C htab (Nat.le_of_ble_eq_true rfl) (Nat.le_of_ble_eq_true rfl) (by obtain ⟨rfl, rfl, h9⟩ := h9; rw [kd5 hok hf'] at h9; exact ⟨Or.inr (Or.inl ⟨rfl, hF, hSt, by rw [hfc]; exact h9⟩), L, I, V, rfl, hok⟩)) (fun v9 ws9 hp => ?_)
  obtain ⟨rfl, rfl, hU⟩ := hp
  rw [kd5 hok hf'] at hU
  refine sv_aload_n C d_SL_witness_15 rfl rfl ?_
  refine sv_get (ci := 4) (kf := 1) C i_SL rfl (by decide) f_SL_21 (fun _ h9 => h9) d_SL_witness_16 (by first | assumption | rfl) rfl ?_
  refine sv_iload_n C d_SL_witness_19 rfl rfl ?_
  refine sv_callV (ci := 0) C (c_Fo_settle (cI := cI) (cJ := cJ) (cZ := cZ) (L := L) (I := I) (V := V) (tl := tl) (n := n) (r := r) (mk := mk) (f := f') (kd := kd) (xs := xs) (ys := ys) hok.1 hf') s_SL_87 ki_Fo_settle ks_Fo_settle ⟨rfl, rfl, Nat.le_of_ble_eq_true rfl, Nat.le_of_ble_eq_true rfl⟩ rfl d_SL_witness_20 (by first | assumption | rfl) (Nat.le_of_ble_eq_true rfl) ⟨(Nat.le_of_ble_eq_true rfl), (Nat.le_of_ble_eq_true rfl)⟩ (fun E ws9 h9 => absurd h9 id) (fun v9 ws9 hp => ?_)
  obtain ⟨rfl, L', I', V', rfl, hfo, h7, eL0, eL1, eL2⟩ := hp
  have hok2 : sl_ok L' I' V' n r mk rl kd xs ys := ⟨hfo, hn1, hrl, by rw [eL1]; exact hS⟩
  have hT := sl_tr hok2 hf' h7
  refine sv_iload_n C d_SL_witness_23 rfl rfl ?_
  refine sv_if_lt (tgt := 40) C d_SL_witness_24 (by decide) (fun h1 => ?_) (fun h1 => ?_)
  · exact sv_throwX C hl (cls := xNS) (text := "the witness has no such state") (names := xn) (ik := 114) (is := 116) (ic := 118) xr_0 xr_1 xr_2 xr_5 xf_NS xf_n c_SL_114 xz_NS (by decide +kernel) xh_NS xg_NS d_SL_witness_40 d_SL_witness_43 d_SL_witness_44 d_SL_witness_46 d_SL_witness_49 htab (Nat.le_of_ble_eq_true rfl) (Nat.le_of_ble_eq_true rfl) ⟨(Nat.le_of_ble_eq_true rfl), (Nat.le_of_ble_eq_true rfl)⟩ (Nat.le_of_ble_eq_true rfl) (Nat.le_of_ble_eq_true rfl) (⟨Or.inr (Or.inr ⟨rfl, hF, hSt, by rw [hfc]; exact hU, Or.inl h1⟩), L', I', V', rfl, hok2⟩)
  · refine sv_iload_n C d_SL_witness_27 rfl rfl ?_
    refine sv_aload_n C d_SL_witness_28 rfl rfl ?_
    refine sv_get (ci := 4) (kf := 1) C i_SL rfl (by decide) f_SL_21 (fun _ h9 => h9) d_SL_witness_29 (by first | assumption | rfl) rfl ?_
    refine sv_iload_n C d_SL_witness_32 rfl rfl ?_
    refine sv_iload_n C d_SL_witness_33 rfl rfl ?_
    refine sv_callV (ci := 0) C (c_Fo_rowLength (cI := cI) (cJ := cJ) (cZ := cZ) (L := L') (I := I') (V := V') (tl := tl) (n := n) (r := r) (mk := mk) (f := f') (s := s') (kd := kd) (xs := xs) (ys := ys) hfo hf' hU h7 hs') s_SL_111 ki_Fo_rowLength ks_Fo_rowLength ⟨rfl, rfl, Nat.le_of_ble_eq_true rfl, Nat.le_of_ble_eq_true rfl⟩ rfl d_SL_witness_34 (by first | assumption | rfl) (Nat.le_of_ble_eq_true rfl) ⟨(Nat.le_of_ble_eq_true rfl), (Nat.le_of_ble_eq_true rfl)⟩ (fun E ws9 h9 => absurd h9 id) (fun v9 ws9 hp => ?_)
    obtain ⟨L3, I3, V3, rfl, hfo3, h73, eM0, eM1, eM2, hev3, hun3, hlen3⟩ := hp
    have hok3 : sl_ok L3 I3 V3 n r mk rl kd xs ys := ⟨hfo3, hn1, hrl, by rw [eM1, eL1]; exact hS⟩
    have hpt := (hfo.2.2.2.1 f' hf' h7).1 (by omega)
    have hlt2 := sl_wf hok2 f' hf' (by omega)
    have hTx := sl_tr hok2 (f := xs f') (by omega) hpt.1
    have hTy := sl_tr hok2 (f := ys f') (by omega) hpt.2
    have hS2 : ∀ a b, tF (rs n r rl) (2 ^ n) kd xs ys (xs f') a → (ev_S (L' 1) a b ↔ rs n r rl a b) := fun a b ha => by
      have := tF_lt ha
      exact hok2.2.2.2 a b (by omega)
    rw [hTx, hTy] at hlen3
    rw [um_S hS2, umin_S hS2] at hlen3
    have hlm : ∃ m, v9 = some (.int (nI m)) ∧ m ≤ 256 ∧ rlen (rs n r rl) (tF (rs n r rl) (2 ^ n) kd xs ys (xs f')) (tF (rs n r rl) (2 ^ n) kd xs ys (ys f')) s' m := by
      rcases hlen3 with ⟨d, h1, rfl, h2⟩ | ⟨rfl, h2⟩
      · exact ⟨d + 1, rfl, by omega, Or.inl ⟨d, h1, rfl, h2⟩⟩
      · exact ⟨0, rfl, by omega, Or.inr ⟨rfl, h2⟩⟩
    obtain ⟨m, rfl, hm256, hrl3⟩ := hlm
    refine sv_icmp_lt (tgt := 50) C d_SL_witness_37 (by decide) (fun h2 => ?_) (fun h2 => ?_)
    · obtain ⟨k', hk', rfl⟩ := nI_of h1
      have h3 : k' < m := (nI_ltI hk' (by omega)).mp h2
      have hkc : (nI k').toNatClampNeg = k' := nI_clamp hk'
      rcases hrl3 with ⟨d, hd, rfl, hum⟩ | ⟨rfl, hno⟩
      · rw [hTx, hTy, ← eM1] at hun3
        have hS3 : ∀ a b, tF (rs n r rl) (2 ^ n) kd xs ys (xs f') a → (ev_S (L3 1) a b ↔ rs n r rl a b) := fun a b ha => by
          have := tF_lt ha
          exact hok3.2.2.2 a b (by omega)
        refine sv_aload_n C d_SL_witness_50 rfl rfl ?_
        refine sv_get (ci := 4) (kf := 1) C i_SL rfl (by decide) f_SL_21 (fun _ h9 => h9) d_SL_witness_51 (by first | assumption | rfl) rfl ?_
        refine sv_iload_n C d_SL_witness_54 rfl rfl ?_
        refine sv_iload_n C d_SL_witness_55 rfl rfl ?_
        refine sv_callV (ci := 0) C (c_Fo_rowState (cI := cI) (cJ := cJ) (cZ := cZ) (L := L3) (I := I3) (V := V3) (tl := tl) (n := n) (s := s') (k := k') (d := d) (X := tF (rs n r rl) (2 ^ n) kd xs ys (xs f')) (Y := tF (rs n r rl) (2 ^ n) kd xs ys (ys f')) hn hun3 (sl_SN hok3) hs' (by rw [umin_S hS3]; exact hum) hd (by omega)) s_SL_119 ki_Fo_rowState ks_Fo_rowState ⟨rfl, rfl, Nat.le_of_ble_eq_true rfl, Nat.le_of_ble_eq_true rfl⟩ rfl d_SL_witness_56 (by first | assumption | rfl) (Nat.le_of_ble_eq_true rfl) ⟨(Nat.le_of_ble_eq_true rfl), (Nat.le_of_ble_eq_true rfl)⟩ (fun E ws9 h9 => absurd h9 id) (fun v9 ws9 hp => ?_)
        obtain ⟨⟨t, ht, rfl, hwt⟩, rfl⟩ := hp
        exact sv_iret C rfl rfl d_SL_witness_59 (Nat.le_of_ble_eq_true rfl) (Nat.le_of_ble_eq_true rfl) (fun _ _ => rfl) (⟨⟨hF, hSt, by rw [hfc]; exact hU, d + 1, t, by rw [hfc, hsc]; exact Or.inl ⟨d, hd, rfl, hum⟩, ⟨Int32.not_lt.mp h1, h2⟩, rfl, by rw [hfc, hsc, hkc]; exact (wit_S hS3 _ _ _).mp hwt⟩, L3, I3, V3, rfl, hok3⟩)
      · exact absurd h3 (Nat.not_lt_zero _)
    · exact sv_throwX C hl (cls := xNS) (text := "the witness has no such state") (names := xn) (ik := 114) (is := 116) (ic := 118) xr_0 xr_1 xr_2 xr_5 xf_NS xf_n c_SL_114 xz_NS (by decide +kernel) xh_NS xg_NS d_SL_witness_40 d_SL_witness_43 d_SL_witness_44 d_SL_witness_46 d_SL_witness_49 htab (Nat.le_of_ble_eq_true rfl) (Nat.le_of_ble_eq_true rfl) ⟨(Nat.le_of_ble_eq_true rfl), (Nat.le_of_ble_eq_true rfl)⟩ (Nat.le_of_ble_eq_true rfl) (Nat.le_of_ble_eq_true rfl) (⟨Or.inr (Or.inr ⟨rfl, hF, hSt, by rw [hfc]; exact hU, Or.inr ⟨m, by rw [hfc, hsc]; exact hrl3, h2⟩⟩), L3, I3, V3, rfl, hok3⟩)
set_option maxRecDepth 100000 in
set_option maxHeartbeats 8000000 in
theorem c_SL_ways {l : Launch} {D : va_G} {cI cJ cZ : ClassId} {L : Nat → Nat → Int64} {I : Nat → Nat → Int32} {V : Nat → Int32} {tl : List va_E} (hl : l.stackTraces = false) {n r mk : Nat} {rl : Nat → Nat × Nat × Nat × Nat} {kd xs ys : Nat → Nat} (hok : sl_ok L I V n r mk rl kd xs ys) {s : Int32} :
    sv_M l y_SL_ways [Cond.code y_SL_ways b_SL_ways 2 (some .int)] ({ frames := 7, cells := 4, slots := 24, locals := 121 } : Room) D sv_cl (sv_ty cI cJ cZ) [.ref 0, .int s] (hC cI cJ cZ L I V tl) 0 0 (fun q ws' => (iS n s ∧ (∃ B : Nat → Bool, q = some (.int (nI (g_cnt B 256))) ∧ ∀ x, x < 256 → (B x = true ↔ rs n r rl s.toNatClampNeg x))) ∧ (∃ (L' : Nat → Nat → Int64) (I' : Nat → Nat → Int32) (V' : Nat → Int32), ws' = hC cI cJ cZ L' I' V' tl ∧ sl_ok L' I' V' n r mk rl kd xs ys)) (fun E ws' => (E = xIO ∧ ¬ iS n s) ∧ (∃ (L' : Nat → Nat → Int64) (I' : Nat → Nat → Int32) (V' : Nat → Int32), ws' = hC cI cJ cZ L' I' V' tl ∧ sl_ok L' I' V' n r mk rl kd xs ys)) 4 24 := by
  refine sv_of (cc := b_SL_ways) (by decide +kernel) (Nat.le_of_ble_eq_true rfl) ?_
  intro pX eX sX mX aX bX tX cX AX adX C htab hnm
  have hok' := hok
  obtain ⟨⟨⟨hn, hV0, hV1, hr40, hV3, hmk, hall, hSP⟩, hfm, hset, hst, hwa, hme⟩, hn1, hrl, hS⟩ := hok'
  have hp8 := pow_le8 hn
  refine sv_aload_n C d_SL_ways_0 rfl rfl ?_
  refine sv_iload_n C d_SL_ways_1 rfl rfl ?_
  refine sv_callV (ci := 4) C (c_SL_requireState (cI := cI) (cJ := cJ) (cZ := cZ) (L := L) (I := I) (V := V) (tl := tl) hl (x := s)) s_SL_84 ki_SL_requireState ks_SL_requireState ⟨rfl, rfl, Nat.le_of_ble_eq_true rfl, Nat.le_of_ble_eq_true rfl⟩ rfl d_SL_ways_2 (by first | assumption | rfl) (Nat.le_of_ble_eq_true rfl) ⟨(Nat.le_of_ble_eq_true rfl), (Nat.le_of_ble_eq_true rfl)⟩ (fun E ws9 h9 => sv_out C htab (Nat.le_of_ble_eq_true rfl) (Nat.le_of_ble_eq_true rfl) (by obtain ⟨rfl, rfl, h9⟩ := h9; rw [hV0] at h9; exact ⟨⟨rfl, h9⟩, L, I, V, rfl, hok⟩)) (fun v9 ws9 hp => ?_)
  obtain ⟨rfl, rfl, hSt⟩ := hp
  rw [hV0] at hSt
  obtain ⟨s', hs', rfl⟩ := iS_nat hn hSt
  have hsc : (nI s').toNatClampNeg = s' := nI_clamp (by omega)
  refine sv_aload_n C d_SL_ways_5 rfl rfl ?_
  refine sv_get (ci := 4) (kf := 0) C i_SL rfl (by decide) f_SL_10 (fun _ h9 => h9) d_SL_ways_6 (by first | assumption | rfl) rfl ?_
  refine sv_get (ci := 1) (kf := 1) C i_Ma rfl (by decide) f_SL_122 (fun _ h9 => h9) d_SL_ways_9 (by first | assumption | rfl) rfl ?_
  refine sv_iload_n C d_SL_ways_12 rfl rfl ?_
  refine sv_callV (ci := 3) C (c_St_size (cI := cI) (cZ := cZ) (ws := hC cI cJ cZ L I V tl) (b := 4) (w := 5) (N := 1024) (f := L 1) (a := s') rfl rfl (by omega) (by decide)) s_SL_100 ki_St_size ks_St_size ⟨rfl, rfl, Nat.le_of_ble_eq_true rfl, Nat.le_of_ble_eq_true rfl⟩ rfl d_SL_ways_13 (by first | assumption | rfl) (Nat.le_of_ble_eq_true rfl) ⟨(Nat.le_of_ble_eq_true rfl), (Nat.le_of_ble_eq_true rfl)⟩ (fun E ws9 h9 => absurd h9 id) (fun v9 ws9 hp => ?_)
  obtain ⟨rfl, rfl⟩ := hp
  refine sv_iret C rfl rfl d_SL_ways_16 (Nat.le_of_ble_eq_true rfl) (Nat.le_of_ble_eq_true rfl) (fun _ _ => rfl) (⟨⟨hSt, _, rfl, ?_⟩, L, I, V, rfl, hok⟩)
  rw [hsc]
  intro x hx
  exact ⟨fun q => (hS s' x (by omega)).mp ⟨hx, q⟩, fun q => ((hS s' x (by omega)).mpr q).2⟩
