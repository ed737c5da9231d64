/-! StateLogic$Formulas: evaluate -/
/-- what a formula of kind k with parts x and y says of z, by the truths T of its parts -/
def fm_v (S : Nat → Nat → Prop) (T : Nat → Nat → Prop) (k x y z : Nat) : Prop :=
  if k = 0 then z &&& x = y else if k = 1 then ¬ T x z else if k = 2 then T x z ∧ T y z else if k = 3 then T x z ∨ T y z else if k = 4 then ∃ t, S z t ∧ T x t else if k = 5 then ∃ m, um S (T x) (T y) m z
  else if k = 6 then T x z ∧ g_ag (fun a b => T x a ∧ T x b ∧ S a b) (T x) z else T x z ∧ g_ag (fun a b => T x a ∧ T x b ∧ S a b) (T y) z
section
variable {p : Program} {l : Launch} {e : Env} {R : Room} {s : State} {m : MethodId} {args : Array Value} {below : List Frame} {meth : Method} {c : Code} {D : va_G} {cl : List vw_C} {tys : List (ClassId × FieldType)} {A : Nat → Prop} {nL : Nat} {ad : Nat → Nat} {Q : State → Prop} {cc : ByteArray} {own : String} {ret : Option FieldType} {pc : Nat} {lv : List (Option Value)} {st : List Value} {ws : List va_E} {k n : Nat}
theorem sv_tab (C : sv_C p s m args meth c D cl tys A cc nL own ret) {dflt lo hi : Int} {offs : Array Int} {len : Nat} {x : Int32} {off : Int} {tgt : Nat} (hd : decode cc pc = .ok (.tableswitch dflt lo hi offs, len)) (h1 : ¬ x.toInt < lo) (h2 : ¬ hi < x.toInt) (ho : offs[(x.toInt - lo).toNat]? = some off) (ht : (pc : Int) + off = (tgt : Int))
    (kk : sv_V p l e R s m args below meth c D cl A nL ad Q tgt lv st ws k n) : sv_V p l e R s m args below meth c D cl A nL ad Q pc lv (.int x :: st) ws k n :=
  fun H locs ls hP hD hS hl => lv_tableIn C.1 C.2.1 hd h1 h2 ho ht (kk H locs ls hP hD hS hl)
theorem sv_tabOut (C : sv_C p s m args meth c D cl tys A cc nL own ret) {dflt lo hi : Int} {offs : Array Int} {len : Nat} {x : Int32} {tgt : Nat} (hd : decode cc pc = .ok (.tableswitch dflt lo hi offs, len)) (h : x.toInt < lo ∨ hi < x.toInt) (ht : (pc : Int) + dflt = (tgt : Int))
    (kk : sv_V p l e R s m args below meth c D cl A nL ad Q tgt lv st ws k n) : sv_V p l e R s m args below meth c D cl A nL ad Q pc lv (.int x :: st) ws k n :=
  fun H locs ls hP hD hS hl => lv_tableOut C.1 C.2.1 hd h ht (kk H locs ls hP hD hS hl)
end
theorem ev_clr {g : Nat → Int64} {f x : Nat} (h : x ≠ f) : ev_T (ss_clr g f 4) x = ev_T g x := by
  funext z
  refine propext ⟨fun q => ⟨q.1, ?_⟩, fun q => ⟨q.1, ?_⟩⟩
  · have h1 := q.2
    rw [ss_clr_b g f x z q.1] at h1
    simpa [h] using h1
  · rw [ss_clr_b g f x z q.1, q.2]
    simp [h]
set_option maxRecDepth 100000 in
set_option maxHeartbeats 8000000 in
theorem c_Fo_evaluate {l : Launch} {D : va_G} {cI cJ cZ : ClassId} {L : Nat → Nat → Int64} {I : Nat → Nat → Int32} {V : Nat → Int32} {tl : List va_E} {n f k x y : Nat} (hn : n ≤ 8) (hV0 : V 0 = nI (2 ^ n)) (hf : f < 60) (hk : I 4 f = nI k) (hk7 : k ≤ 7) (hx : I 5 f = nI x) (hy : I 6 f = nI y) (hp0 : k = 0 → x < 256 ∧ y < 256) (hp1 : k ≠ 0 → x < f ∧ y < f) (hp6 : k = 6 → y = x)
    (hall : ∀ z, z < 256 → ss_b (L 0) 0 z = decide (z < 2 ^ n)) (hSP : ∀ a b, a < 256 → b < 256 → ss_b (L 2) b a = ss_b (L 1) a b) (hXN : k ≠ 0 → ∀ z, ev_T (L 4) x z → z < 2 ^ n) (hYN : k ≠ 0 → ∀ z, ev_T (L 4) y z → z < 2 ^ n) :
    sv_M l y_Fo_evaluate [Cond.code y_Fo_evaluate b_Fo_evaluate 2 none] ({ frames := 4, cells := 0, slots := 0, locals := 129 } : Room) D sv_cl (sv_ty cI cJ cZ) [.ref 8, .int (nI f)] (hC cI cJ cZ L I V tl) 0 0 (fun r ws' => r = none ∧ ∃ (fO fT : Nat → Int64) (I0 I1 I2 I3 : Nat → Int32) (v2 v4 : Int32), ws' = hC cI cJ cZ (hu (hu L 3 fO) 4 fT) (hu (hu (hu (hu I 0 I0) 1 I1) 2 I2) 3 I3) (hu (hu V 2 v2) 4 v4) tl ∧ (∀ c z, z < 256 → c ≠ f → ss_b fT c z = ss_b (L 4) c z) ∧ (∀ z, ev_T fT f z ↔ (z < 2 ^ n ∧ fm_v (ev_S (L 1)) (ev_T (L 4)) k x y z)) ∧ (k = 5 → v4 = nI f ∧ un_ok (ev_S (L 1)) (ev_T (L 4) x) (ev_T (L 4) y) (2 ^ n) I1) ∧ (k ≠ 5 → v4 = -1 ∨ (v4 = V 4 ∧ I1 = I 1))) sv_no 0 0 := by
  refine sv_of (cc := b_Fo_evaluate) (by decide +kernel) (Nat.le_of_ble_eq_true rfl) ?_
  intro pX eX sX mX aX bX tX cX AX adX C htab hnm
  have hp8 := pow_le8 hn
  have hfin : vp_in (nI f) 60 := vp_in_nI hf (by omega)
  have hfc : (nI f).toNatClampNeg = f := nI_clamp (by omega)
  refine sv_aload_n C d_Fo_evaluate_0 rfl rfl ?_
  refine sv_get (ci := 0) (kf := 2) C i_Fo rfl (by decide) f_Fo_23 (fun _ h9 => h9) d_Fo_evaluate_1 (by first | assumption | rfl) rfl ?_
  refine sv_iload_n C d_Fo_evaluate_4 rfl rfl ?_
  refine sv_callV (ci := 3) C (c_St_empty (cI := cI) (cZ := cZ) (ws := hC cI cJ cZ L I V tl) (b := 16) (w := 17) (N := 240) (a := f) (f := L 4) rfl rfl (by omega) (by decide)) s_Fo_70 ki_St_empty ks_St_empty ⟨rfl, rfl, Nat.le_of_ble_eq_true rfl, Nat.le_of_ble_eq_true rfl⟩ rfl d_Fo_evaluate_5 (by first | assumption | rfl) (Nat.le_of_ble_eq_true rfl) ⟨(Nat.le_of_ble_eq_true rfl), (Nat.le_of_ble_eq_true rfl)⟩ (fun E ws9 h9 => absurd h9 id) (fun v9 ws9 hp => ?_)
  obtain ⟨rfl, rfl⟩ := hp
  refine sv_aload_n C d_Fo_evaluate_8 rfl rfl ?_
  refine sv_get (ci := 0) (kf := 3) C i_Fo rfl (by decide) f_Fo_27 (fun _ h9 => h9) d_Fo_evaluate_9 (by first | assumption | rfl) rfl ?_
  refine sv_iload_n C d_Fo_evaluate_12 rfl rfl ?_
  refine sv_iald (t0 := 0) C rfl d_Fo_evaluate_13 (by first | assumption | rfl) (by assumption) ?_
  refine sv_eqs (st' := [.int (nI k)]) (by show [Value.int (I 4 (nI f).toNatClampNeg)] = _; rw [hfc, hk]) ?_
  refine sv_eqw (ws' := hC cI cJ cZ (hu L 4 (ss_clr (L 4) f 4)) I V tl) rfl ?_
  have hcf : ∀ z, z < 256 → ss_b (ss_clr (L 4) f 4) f z = false := fun z hz => by
    rw [ss_clr_b (L 4) f f z hz]
    simp
  have hcn : ∀ c z, z < 256 → c ≠ f → ss_b (ss_clr (L 4) f 4) c z = ss_b (L 4) c z := fun c z hz hc => by
    rw [ss_clr_b (L 4) f c z hz]
    simp [hc]
  have hkk : k = 0 ∨ (k = 1 ∨ k = 2 ∨ k = 3) ∨ k = 4 ∨ k = 5 ∨ k = 6 ∨ k = 7 := by omega
  rcases hkk with rfl | (rfl | rfl | rfl) | rfl | rfl | rfl | rfl
  · refine sv_tab (off := 46) (tgt := 60) C d_Fo_evaluate_14 (by decide) (by decide) (by decide) (by decide) ?_
    refine sv_aload_n C d_Fo_evaluate_60 rfl rfl ?_
    refine sv_iload_n C d_Fo_evaluate_61 rfl rfl ?_
    refine sv_callV (ci := 0) C (c_Fo_evaluateAtom (cI := cI) (cJ := cJ) (cZ := cZ) (L := hu L 4 (ss_clr (L 4) f 4)) (I := I) (V := V) (tl := tl) (n := n) (f := f) (x := x) (y := y) hn hV0 hf hx hy (hp0 rfl).1 (hp0 rfl).2) s_Fo_73 ki_Fo_evaluateAtom ks_Fo_evaluateAtom ⟨rfl, rfl, Nat.le_of_ble_eq_true rfl, Nat.le_of_ble_eq_true rfl⟩ rfl d_Fo_evaluate_62 (by first | assumption | rfl) (Nat.le_of_ble_eq_true rfl) ⟨(Nat.le_of_ble_eq_true rfl), (Nat.le_of_ble_eq_true rfl)⟩ (fun E ws9 h9 => absurd h9 id) (fun v9 ws9 hp => ?_)
    obtain ⟨rfl, fT, rfl, hT⟩ := hp
    refine sv_goto (tgt := 100) C d_Fo_evaluate_65 (by decide) ?_
    refine sv_vret C rfl d_Fo_evaluate_100 (Nat.le_of_ble_eq_true rfl) (Nat.le_of_ble_eq_true rfl) (fun _ _ => rfl) (⟨rfl, L 3, fT, I 0, I 1, I 2, I 3, V 2, V 4, rfl, fun c z hz hc => ?_, fun z => ?_, fun h => absurd h (by decide), fun _ => Or.inr ⟨rfl, rfl⟩⟩)
    · rw [Bool.eq_iff_iff, hT c z hz]
      show (ss_b (ss_clr (L 4) f 4) c z = true ∨ _) ↔ _
      rw [hcn c z hz hc]
      exact ⟨fun h => h.elim id (fun q => absurd q.1 hc), Or.inl⟩
    · constructor
      · rintro ⟨h1, h2⟩
        rcases (hT f z h1).mp h2 with h3 | h3
        · have h3 : ss_b (ss_clr (L 4) f 4) f z = true := h3
          rw [hcf z h1] at h3
          exact absurd h3 (by decide)
        · exact ⟨h3.2.1, h3.2.2⟩
      · rintro ⟨h1, h2⟩
        exact ⟨by omega, (hT f z (by omega)).mpr (Or.inr ⟨rfl, h1, h2⟩)⟩
  · have hxf := (hp1 (by decide)).1
    have hyf := (hp1 (by decide)).2
    have hXN := hXN (by decide)
    have hYN := hYN (by decide)
    refine sv_tab (off := 54) (tgt := 68) C d_Fo_evaluate_14 (by decide) (by decide) (by decide) (by decide) ?_
    refine sv_aload_n C d_Fo_evaluate_68 rfl rfl ?_
    refine sv_iload_n C d_Fo_evaluate_69 rfl rfl ?_
    refine sv_callV (ci := 0) C (c_Fo_wordsNot (cI := cI) (cJ := cJ) (cZ := cZ) (L := hu L 4 (ss_clr (L 4) f 4)) (I := I) (V := V) (tl := tl) (f := f) (x := x) (y := y) hf hk hx hy hxf hyf) s_Fo_76 ki_Fo_evaluateWords ks_Fo_evaluateWords ⟨rfl, rfl, Nat.le_of_ble_eq_true rfl, Nat.le_of_ble_eq_true rfl⟩ rfl d_Fo_evaluate_70 (by first | assumption | rfl) (Nat.le_of_ble_eq_true rfl) ⟨(Nat.le_of_ble_eq_true rfl), (Nat.le_of_ble_eq_true rfl)⟩ (fun E ws9 h9 => absurd h9 id) (fun v9 ws9 hp => ?_)
    obtain ⟨rfl, fT, rfl, hT⟩ := hp
    refine sv_goto (tgt := 100) C d_Fo_evaluate_73 (by decide) ?_
    refine sv_vret C rfl d_Fo_evaluate_100 (Nat.le_of_ble_eq_true rfl) (Nat.le_of_ble_eq_true rfl) (fun _ _ => rfl) (⟨rfl, L 3, fT, I 0, I 1, I 2, I 3, V 2, V 4, rfl, fun c z hz hc => ?_, fun z => ?_, fun h => absurd h (by decide), fun _ => Or.inr ⟨rfl, rfl⟩⟩)
    · rw [hT c z hz, if_neg hc]
      exact hcn c z hz hc
    · have hval : ∀ z, z < 256 → ss_b fT f z = (ss_b (L 0) 0 z && !ss_b (L 4) x z) := fun z hz => by
        rw [hT f z hz, if_pos rfl]
        show (ss_b (L 0) 0 z && !ss_b (ss_clr (L 4) f 4) x z) = _
        rw [hcn x z hz (by omega)]
      constructor
      · rintro ⟨h1, h2⟩
        rw [hval z h1] at h2
        rw [hall z h1] at h2
        simp only [Bool.and_eq_true, decide_eq_true_eq, Bool.not_eq_true'] at h2
        refine ⟨h2.1, fun q => ?_⟩
        have q9 := q.2
        rw [h2.2] at q9
        exact absurd q9 (by decide)
      · rintro ⟨h1, h2⟩
        refine ⟨by omega, ?_⟩
        rw [hval z (by omega)]
        rw [hall z (by omega)]
        have h2 : ¬ ev_T (L 4) x z := h2
        cases hc : ss_b (L 4) x z with
        | false => simp [h1]
        | true => exact absurd ⟨by omega, hc⟩ h2
  · have hxf := (hp1 (by decide)).1
    have hyf := (hp1 (by decide)).2
    have hXN := hXN (by decide)
    have hYN := hYN (by decide)
    refine sv_tab (off := 54) (tgt := 68) C d_Fo_evaluate_14 (by decide) (by decide) (by decide) (by decide) ?_
    refine sv_aload_n C d_Fo_evaluate_68 rfl rfl ?_
    refine sv_iload_n C d_Fo_evaluate_69 rfl rfl ?_
    refine sv_callV (ci := 0) C (c_Fo_wordsAnd (cI := cI) (cJ := cJ) (cZ := cZ) (L := hu L 4 (ss_clr (L 4) f 4)) (I := I) (V := V) (tl := tl) (f := f) (x := x) (y := y) hf hk hx hy hxf hyf) s_Fo_76 ki_Fo_evaluateWords ks_Fo_evaluateWords ⟨rfl, rfl, Nat.le_of_ble_eq_true rfl, Nat.le_of_ble_eq_true rfl⟩ rfl d_Fo_evaluate_70 (by first | assumption | rfl) (Nat.le_of_ble_eq_true rfl) ⟨(Nat.le_of_ble_eq_true rfl), (Nat.le_of_ble_eq_true rfl)⟩ (fun E ws9 h9 => absurd h9 id) (fun v9 ws9 hp => ?_)
    obtain ⟨rfl, fT, rfl, hT⟩ := hp
    refine sv_goto (tgt := 100) C d_Fo_evaluate_73 (by decide) ?_
    refine sv_vret C rfl d_Fo_evaluate_100 (Nat.le_of_ble_eq_true rfl) (Nat.le_of_ble_eq_true rfl) (fun _ _ => rfl) (⟨rfl, L 3, fT, I 0, I 1, I 2, I 3, V 2, V 4, rfl, fun c z hz hc => ?_, fun z => ?_, fun h => absurd h (by decide), fun _ => Or.inr ⟨rfl, rfl⟩⟩)
    · rw [hT c z hz, if_neg hc]
      exact hcn c z hz hc
    · have hval : ∀ z, z < 256 → ss_b fT f z = (ss_b (L 4) x z && ss_b (L 4) y z) := fun z hz => by
        rw [hT f z hz, if_pos rfl]
        show (ss_b (ss_clr (L 4) f 4) x z && ss_b (ss_clr (L 4) f 4) y z) = _
        rw [hcn x z hz (by omega), hcn y z hz (by omega)]
      constructor
      · rintro ⟨h1, h2⟩
        rw [hval z h1] at h2
        simp only [Bool.and_eq_true] at h2
        exact ⟨hXN z ⟨h1, h2.1⟩, ⟨h1, h2.1⟩, h1, h2.2⟩
      · rintro ⟨h1, h2⟩
        refine ⟨by omega, ?_⟩
        rw [hval z (by omega)]
        have h2 : ev_T (L 4) x z ∧ ev_T (L 4) y z := h2
        rw [h2.1.2, h2.2.2]
        rfl
  · have hxf := (hp1 (by decide)).1
    have hyf := (hp1 (by decide)).2
    have hXN := hXN (by decide)
    have hYN := hYN (by decide)
    refine sv_tab (off := 54) (tgt := 68) C d_Fo_evaluate_14 (by decide) (by decide) (by decide) (by decide) ?_
    refine sv_aload_n C d_Fo_evaluate_68 rfl rfl ?_
    refine sv_iload_n C d_Fo_evaluate_69 rfl rfl ?_
    refine sv_callV (ci := 0) C (c_Fo_wordsOr (cI := cI) (cJ := cJ) (cZ := cZ) (L := hu L 4 (ss_clr (L 4) f 4)) (I := I) (V := V) (tl := tl) (f := f) (x := x) (y := y) hf hk hx hy hxf hyf) s_Fo_76 ki_Fo_evaluateWords ks_Fo_evaluateWords ⟨rfl, rfl, Nat.le_of_ble_eq_true rfl, Nat.le_of_ble_eq_true rfl⟩ rfl d_Fo_evaluate_70 (by first | assumption | rfl) (Nat.le_of_ble_eq_true rfl) ⟨(Nat.le_of_ble_eq_true rfl), (Nat.le_of_ble_eq_true rfl)⟩ (fun E ws9 h9 => absurd h9 id) (fun v9 ws9 hp => ?_)
    obtain ⟨rfl, fT, rfl, hT⟩ := hp
    refine sv_goto (tgt := 100) C d_Fo_evaluate_73 (by decide) ?_
    refine sv_vret C rfl d_Fo_evaluate_100 (Nat.le_of_ble_eq_true rfl) (Nat.le_of_ble_eq_true rfl) (fun _ _ => rfl) (⟨rfl, L 3, fT, I 0, I 1, I 2, I 3, V 2, V 4, rfl, fun c z hz hc => ?_, fun z => ?_, fun h => absurd h (by decide), fun _ => Or.inr ⟨rfl, rfl⟩⟩)
    · rw [hT c z hz, if_neg hc]
      exact hcn c z hz hc
    · have hval : ∀ z, z < 256 → ss_b fT f z = (ss_b (L 4) x z || ss_b (L 4) y z) := fun z hz => by
        rw [hT f z hz, if_pos rfl]
        show (ss_b (ss_clr (L 4) f 4) x z || ss_b (ss_clr (L 4) f 4) y z) = _
        rw [hcn x z hz (by omega), hcn y z hz (by omega)]
      constructor
      · rintro ⟨h1, h2⟩
        rw [hval z h1] at h2
        simp only [Bool.or_eq_true] at h2
        exact h2.elim (fun q => ⟨hXN z ⟨h1, q⟩, Or.inl ⟨h1, q⟩⟩) (fun q => ⟨hYN z ⟨h1, q⟩, Or.inr ⟨h1, q⟩⟩)
      · rintro ⟨h1, h2⟩
        refine ⟨by omega, ?_⟩
        rw [hval z (by omega)]
        have h2 : ev_T (L 4) x z ∨ ev_T (L 4) y z := h2
        rcases h2 with h2 | h2
        · rw [h2.2]
          rfl
        · rw [h2.2, Bool.or_true]
  · have hxf := (hp1 (by decide)).1
    refine sv_tab (off := 62) (tgt := 76) C d_Fo_evaluate_14 (by decide) (by decide) (by decide) (by decide) ?_
    refine sv_aload_n C d_Fo_evaluate_76 rfl rfl ?_
    refine sv_iload_n C d_Fo_evaluate_77 rfl rfl ?_
    refine sv_callV (ci := 0) C (c_Fo_evaluateNext (cI := cI) (cJ := cJ) (cZ := cZ) (L := hu L 4 (ss_clr (L 4) f 4)) (I := I) (V := V) (tl := tl) (n := n) (f := f) (x := x) hn hV0 hf hx hxf) s_Fo_79 ki_Fo_evaluateNext ks_Fo_evaluateNext ⟨rfl, rfl, Nat.le_of_ble_eq_true rfl, Nat.le_of_ble_eq_true rfl⟩ rfl d_Fo_evaluate_78 (by first | assumption | rfl) (Nat.le_of_ble_eq_true rfl) ⟨(Nat.le_of_ble_eq_true rfl), (Nat.le_of_ble_eq_true rfl)⟩ (fun E ws9 h9 => absurd h9 id) (fun v9 ws9 hp => ?_)
    obtain ⟨rfl, fT, rfl, hT⟩ := hp
    refine sv_goto (tgt := 100) C d_Fo_evaluate_81 (by decide) ?_
    refine sv_vret C rfl d_Fo_evaluate_100 (Nat.le_of_ble_eq_true rfl) (Nat.le_of_ble_eq_true rfl) (fun _ _ => rfl) (⟨rfl, L 3, fT, I 0, I 1, I 2, I 3, V 2, V 4, rfl, fun c z hz hc => ?_, fun z => ?_, fun h => absurd h (by decide), fun _ => Or.inr ⟨rfl, rfl⟩⟩)
    · rw [Bool.eq_iff_iff, hT c z hz]
      show (ss_b (ss_clr (L 4) f 4) c z = true ∨ _) ↔ _
      rw [hcn c z hz hc]
      exact ⟨fun h => h.elim id (fun q => absurd q.1 hc), Or.inl⟩
    · constructor
      · rintro ⟨h1, h2⟩
        rcases (hT f z h1).mp h2 with h3 | ⟨-, h3, t, h4, h5, h6⟩
        · have h3 : ss_b (ss_clr (L 4) f 4) f z = true := h3
          rw [hcf z h1] at h3
          exact absurd h3 (by decide)
        · have h6 : ss_b (ss_clr (L 4) f 4) x t = true := h6
          rw [hcn x t h4 (by omega)] at h6
          exact ⟨h3, t, ⟨h4, h5⟩, h4, h6⟩
      · rintro ⟨h1, t, h4, h5⟩
        exact ⟨by omega, (hT f z (by omega)).mpr (Or.inr ⟨rfl, h1, t, h4.1, h4.2, by show ss_b (ss_clr (L 4) f 4) x t = true; rw [hcn x t h4.1 (by omega)]; exact h5.2⟩)⟩
  · have hxf := (hp1 (by decide)).1
    have hyf := (hp1 (by decide)).2
    have hXN := hXN (by decide)
    have hYN := hYN (by decide)
    refine sv_tab (off := 70) (tgt := 84) C d_Fo_evaluate_14 (by decide) (by decide) (by decide) (by decide) ?_
    refine sv_aload_n C d_Fo_evaluate_84 rfl rfl ?_
    refine sv_iload_n C d_Fo_evaluate_85 rfl rfl ?_
    refine sv_callV (ci := 0) C (c_Fo_evaluateUntil (cI := cI) (cJ := cJ) (cZ := cZ) (L := hu L 4 (ss_clr (L 4) f 4)) (I := I) (V := V) (tl := tl) (n := n) (f := f) (x := x) (y := y) hn hV0 hf hx hy hxf hyf hSP (by show ∀ z, ev_T (ss_clr (L 4) f 4) x z → _; rw [ev_clr (by omega)]; exact hXN) (by show ∀ z, ev_T (ss_clr (L 4) f 4) y z → _; rw [ev_clr (by omega)]; exact hYN)) s_Fo_82 ki_Fo_evaluateUntil ks_Fo_evaluateUntil ⟨rfl, rfl, Nat.le_of_ble_eq_true rfl, Nat.le_of_ble_eq_true rfl⟩ rfl d_Fo_evaluate_86 (by first | assumption | rfl) (Nat.le_of_ble_eq_true rfl) ⟨(Nat.le_of_ble_eq_true rfl), (Nat.le_of_ble_eq_true rfl)⟩ (fun E ws9 h9 => absurd h9 id) (fun v9 ws9 hp => ?_)
    obtain ⟨rfl, fO, fT, I0, I1, v2, rfl, hT, hun⟩ := hp
    have hT : ∀ c z, z < 256 → (ss_b fT c z = true ↔ (ss_b (ss_clr (L 4) f 4) c z = true ∨ (c = f ∧ ∃ k, um (ev_S (L 1)) (ev_T (ss_clr (L 4) f 4) x) (ev_T (ss_clr (L 4) f 4) y) k z))) := hT
    have hun : un_ok (ev_S (L 1)) (ev_T (ss_clr (L 4) f 4) x) (ev_T (ss_clr (L 4) f 4) y) (2 ^ n) I1 := hun
    rw [ev_clr (by omega), ev_clr (by omega)] at hun
    rw [ev_clr (show x ≠ f by omega), ev_clr (show y ≠ f by omega)] at hT
    refine sv_goto (tgt := 100) C d_Fo_evaluate_89 (by decide) ?_
    refine sv_vret C rfl d_Fo_evaluate_100 (Nat.le_of_ble_eq_true rfl) (Nat.le_of_ble_eq_true rfl) (fun _ _ => rfl) (⟨rfl, fO, fT, I0, I1, I 2, I 3, v2, nI f, rfl, fun c z hz hc => ?_, fun z => ?_, fun _ => ⟨rfl, hun⟩, fun h => absurd rfl h⟩)
    · rw [Bool.eq_iff_iff, hT c z hz, hcn c z hz hc]
      exact ⟨fun h => h.elim id (fun q => absurd q.1 hc), Or.inl⟩
    · constructor
      · rintro ⟨h1, h2⟩
        rcases (hT f z h1).mp h2 with h3 | ⟨-, m, h3⟩
        · rw [hcf z h1] at h3
          exact absurd h3 (by decide)
        · refine ⟨?_, m, h3⟩
          obtain ⟨t, ht, hst⟩ := h3
          cases m with
          | zero =>
            have hst : z = t := hst
            rw [hst]
            exact hYN t ht
          | succ m =>
            obtain ⟨c, hc, -⟩ := hst
            exact hXN z hc.1
      · rintro ⟨h1, h2⟩
        exact ⟨by omega, (hT f z (by omega)).mpr (Or.inr ⟨rfl, h2⟩)⟩
  · have hxf := (hp1 (by decide)).1
    have hyf := (hp1 (by decide)).2
    have hXN := hXN (by decide)
    refine sv_tab (off := 78) (tgt := 92) C d_Fo_evaluate_14 (by decide) (by decide) (by decide) (by decide) ?_
    refine sv_aload_n C d_Fo_evaluate_92 rfl rfl ?_
    refine sv_iload_n C d_Fo_evaluate_93 rfl rfl ?_
    refine sv_callV (ci := 0) C (c_Fo_evaluateAgain (cI := cI) (cJ := cJ) (cZ := cZ) (L := hu L 4 (ss_clr (L 4) f 4)) (I := I) (V := V) (tl := tl) (n := n) (f := f) (x := x) (y := y) hn hV0 hf hx hy hxf hyf hSP (by show ∀ z, ev_T (ss_clr (L 4) f 4) x z → _; rw [ev_clr (by omega)]; exact hXN) hcf) s_Fo_85 ki_Fo_evaluateAgain ks_Fo_evaluateAgain ⟨rfl, rfl, Nat.le_of_ble_eq_true rfl, Nat.le_of_ble_eq_true rfl⟩ rfl d_Fo_evaluate_94 (by first | assumption | rfl) (Nat.le_of_ble_eq_true rfl) ⟨(Nat.le_of_ble_eq_true rfl), (Nat.le_of_ble_eq_true rfl)⟩ (fun E ws9 h9 => absurd h9 id) (fun v9 ws9 hp => ?_)
    obtain ⟨rfl, fO, fT, I0, I1, I2, I3, v2, rfl, hT⟩ := hp
    have hT : ∀ c z, z < 256 → (ss_b fT c z = true ↔ (ss_b (ss_clr (L 4) f 4) c z = true ∨ (c = f ∧ ev_T (ss_clr (L 4) f 4) x z ∧ g_ag (fun a b => ev_T (ss_clr (L 4) f 4) x a ∧ ev_T (ss_clr (L 4) f 4) x b ∧ ss_b (L 1) a b = true) (ev_T (ss_clr (L 4) f 4) y) z))) := hT
    rw [ev_clr (show x ≠ f by omega), ev_clr (show y ≠ f by omega)] at hT
    have hEe : (fun a b => ev_T (L 4) x a ∧ ev_T (L 4) x b ∧ ss_b (L 1) a b = true) = fun a b => ev_T (L 4) x a ∧ ev_T (L 4) x b ∧ ev_S (L 1) a b := by
      funext a b
      exact propext ⟨fun q => ⟨q.1, q.2.1, q.2.1.1, q.2.2⟩, fun q => ⟨q.1, q.2.1, q.2.2.2⟩⟩
    rw [hEe] at hT
    refine sv_goto (tgt := 100) C d_Fo_evaluate_97 (by decide) ?_
    refine sv_vret C rfl d_Fo_evaluate_100 (Nat.le_of_ble_eq_true rfl) (Nat.le_of_ble_eq_true rfl) (fun _ _ => rfl) (⟨rfl, fO, fT, I0, I1, I2, I3, v2, -1, rfl, fun c z hz hc => ?_, fun z => ?_, fun h => absurd h (by decide), fun _ => Or.inl rfl⟩)
    · rw [Bool.eq_iff_iff, hT c z hz, hcn c z hz hc]
      exact ⟨fun h => h.elim id (fun q => absurd q.1 hc), Or.inl⟩
    · have e9 := hp6 rfl
      subst e9
      constructor
      · rintro ⟨h1, h2⟩
        rcases (hT f z h1).mp h2 with h3 | ⟨-, h3, h4⟩
        · rw [hcf z h1] at h3
          exact absurd h3 (by decide)
        · exact ⟨hXN z h3, h3, h4⟩
      · rintro ⟨h1, h2⟩
        exact ⟨by omega, (hT f z (by omega)).mpr (Or.inr ⟨rfl, h2⟩)⟩
  · have hxf := (hp1 (by decide)).1
    have hyf := (hp1 (by decide)).2
    have hXN := hXN (by decide)
    refine sv_tab (off := 78) (tgt := 92) C d_Fo_evaluate_14 (by decide) (by decide) (by decide) (by decide) ?_
    refine sv_aload_n C d_Fo_evaluate_92 rfl rfl ?_
    refine sv_iload_n C d_Fo_evaluate_93 rfl rfl ?_
    refine sv_callV (ci := 0) C (c_Fo_evaluateAgain (cI := cI) (cJ := cJ) (cZ := cZ) (L := hu L 4 (ss_clr (L 4) f 4)) (I := I) (V := V) (tl := tl) (n := n) (f := f) (x := x) (y := y) hn hV0 hf hx hy hxf hyf hSP (by show ∀ z, ev_T (ss_clr (L 4) f 4) x z → _; rw [ev_clr (by omega)]; exact hXN) hcf) s_Fo_85 ki_Fo_evaluateAgain ks_Fo_evaluateAgain ⟨rfl, rfl, Nat.le_of_ble_eq_true rfl, Nat.le_of_ble_eq_true rfl⟩ rfl d_Fo_evaluate_94 (by first | assumption | rfl) (Nat.le_of_ble_eq_true rfl) ⟨(Nat.le_of_ble_eq_true rfl), (Nat.le_of_ble_eq_true rfl)⟩ (fun E ws9 h9 => absurd h9 id) (fun v9 ws9 hp => ?_)
    obtain ⟨rfl, fO, fT, I0, I1, I2, I3, v2, rfl, hT⟩ := hp
    have hT : ∀ c z, z < 256 → (ss_b fT c z = true ↔ (ss_b (ss_clr (L 4) f 4) c z = true ∨ (c = f ∧ ev_T (ss_clr (L 4) f 4) x z ∧ g_ag (fun a b => ev_T (ss_clr (L 4) f 4) x a ∧ ev_T (ss_clr (L 4) f 4) x b ∧ ss_b (L 1) a b = true) (ev_T (ss_clr (L 4) f 4) y) z))) := hT
    rw [ev_clr (show x ≠ f by omega), ev_clr (show y ≠ f by omega)] at hT
    have hEe : (fun a b => ev_T (L 4) x a ∧ ev_T (L 4) x b ∧ ss_b (L 1) a b = true) = fun a b => ev_T (L 4) x a ∧ ev_T (L 4) x b ∧ ev_S (L 1) a b := by
      funext a b
      exact propext ⟨fun q => ⟨q.1, q.2.1, q.2.1.1, q.2.2⟩, fun q => ⟨q.1, q.2.1, q.2.2.2⟩⟩
    rw [hEe] at hT
    refine sv_goto (tgt := 100) C d_Fo_evaluate_97 (by decide) ?_
    refine sv_vret C rfl d_Fo_evaluate_100 (Nat.le_of_ble_eq_true rfl) (Nat.le_of_ble_eq_true rfl) (fun _ _ => rfl) (⟨rfl, fO, fT, I0, I1, I2, I3, v2, -1, rfl, fun c z hz hc => ?_, fun z => ?_, fun h => absurd h (by decide), fun _ => Or.inl rfl⟩)
    · rw [Bool.eq_iff_iff, hT c z hz, hcn c z hz hc]
      exact ⟨fun h => h.elim id (fun q => absurd q.1 hc), Or.inl⟩
    · constructor
      · rintro ⟨h1, h2⟩
        rcases (hT f z h1).mp h2 with h3 | ⟨-, h3, h4⟩
        · rw [hcf z h1] at h3
          exact absurd h3 (by decide)
        · exact ⟨hXN z h3, h3, h4⟩
      · rintro ⟨h1, h2⟩
        exact ⟨by omega, (hT f z (by omega)).mpr (Or.inr ⟨rfl, h2⟩)⟩
