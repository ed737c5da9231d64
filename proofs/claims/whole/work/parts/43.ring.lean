/-! StateLogic$Formulas: evaluateRing -/
def b2i (a : Bool) : Int32 := if a = true then 1 else 0
theorem b2i_or (a b : Bool) : b2i a ||| b2i b = b2i (a || b) := by cases a <;> cases b <;> decide
def rg_C (L : Nat → Nat → Int64) (f y root cnt : Nat) (fd : Nat → Nat) : Prop :=
  (∃ i, i < cnt ∧ ∃ t, t < 256 ∧ ss_b (L 1) (fd i) t = true ∧ ss_b (L 4) f t = true) ∨ ((∃ i, i < cnt ∧ ss_b (L 4) y (fd i) = true) ∧ (1 < cnt ∨ ss_b (L 1) root root = true))
set_option maxRecDepth 100000 in
set_option maxHeartbeats 8000000 in
theorem c_Fo_evaluateRing {l : Launch} {D : va_G} {cI cJ cZ : ClassId} {L : Nat → Nat → Int64} {I : Nat → Nat → Int32} {V : Nat → Int32} {tl : List va_E} {f y root cnt : Nat} {fd : Nat → Nat} (hf : f < 60) (hy : I 6 f = nI y) (hy2 : y < 60) (hr : root < 256) (hV : V 2 = nI cnt) (hc : cnt ≤ 256) (hfd : ∀ i, i < cnt → fd i < 256 ∧ I 0 i = nI (fd i)) :
    sv_M l y_Fo_evaluateRing [Cond.code y_Fo_evaluateRing b_Fo_evaluateRing 7 none] ({ frames := 2, cells := 0, slots := 0, locals := 44 } : Room) D sv_cl (sv_ty cI cJ cZ) [.ref 8, .int (nI f), .int (nI root)] (hC cI cJ cZ L I V tl) 0 0 (fun r ws' => r = none ∧ ∃ fT : Nat → Int64, ws' = hC cI cJ cZ (hu L 4 fT) I V tl ∧ ∀ c z, z < 256 → (ss_b fT c z = true ↔ (ss_b (L 4) c z = true ∨ (c = f ∧ bf_F fd cnt z ∧ rg_C L f y root cnt fd)))) sv_no 0 0 := by
  refine sv_of (cc := b_Fo_evaluateRing) (by decide +kernel) (Nat.le_of_ble_eq_true rfl) ?_
  intro pX eX sX mX aX bX tX cX AX adX C htab hnm
  have hfin : vp_in (nI f) 60 := vp_in_nI hf (by omega)
  have hfc : (nI f).toNatClampNeg = f := nI_clamp (by omega)
  refine sv_iconst (v := 0) C d_Fo_evaluateRing_0 rfl ?_
  refine sv_istore_n C d_Fo_evaluateRing_1 rfl (by decide) rfl ?_
  refine sv_iconst (v := 0) C d_Fo_evaluateRing_2 rfl ?_
  refine sv_istore C d_Fo_evaluateRing_3 (by decide) rfl ?_
  refine sv_iconst (v := 0) C d_Fo_evaluateRing_5 rfl ?_
  refine sv_istore C d_Fo_evaluateRing_6 (by decide) rfl ?_
  refine sv_ind (σ := Nat × Bool × Bool) (I := fun s => s.1 ≤ cnt ∧ (s.2.1 = true ↔ ∃ i, i < s.1 ∧ ∃ t, t < 256 ∧ ss_b (L 1) (fd i) t = true ∧ ss_b (L 4) f t = true) ∧ (s.2.2 = true ↔ ∃ i, i < s.1 ∧ ss_b (L 4) y (fd i) = true)) (μ := fun s => cnt - s.1)
    (lv := fun s => [some (.ref 8), some (.int (nI f)), some (.int (nI root)), some (.int (b2i s.2.1)), some (.int (b2i s.2.2)), some (.int (nI s.1)), none]) (ws := fun _ => hC cI cJ cZ L I V tl) ?_ (0, false, false) ⟨Nat.zero_le _, ⟨fun h => absurd h (by decide), fun ⟨i, hi, _⟩ => absurd hi (Nat.not_lt_zero i)⟩, ⟨fun h => absurd h (by decide), fun ⟨i, hi, _⟩ => absurd hi (Nat.not_lt_zero i)⟩⟩
  rintro ⟨i, a, b⟩ ⟨hi, ha, hb⟩ ih
  dsimp only at hi ha hb ih
  refine sv_iload C d_Fo_evaluateRing_8 rfl ?_
  refine sv_aload_n C d_Fo_evaluateRing_10 rfl rfl ?_
  refine sv_get (ci := 0) (kf := 1) C i_Fo rfl (by decide) f_Fo_12 (fun _ h9 => h9) d_Fo_evaluateRing_11 (by first | assumption | rfl) rfl ?_
  refine sv_get (ci := 2) (kf := 5) C i_Se rfl (by decide) f_Fo_141 (fun _ h9 => h9) d_Fo_evaluateRing_14 (by first | assumption | rfl) rfl ?_
  refine sv_eqs (st' := [.int (nI cnt), .int (nI i)]) (by show [Value.int (V 2), _] = _; rw [hV]) ?_
  refine sv_icmp_ge (tgt := 98) C d_Fo_evaluateRing_17 (by decide) (fun h1 => ?_) (fun h1 => ?_)
  · have h1 : cnt ≤ i := (nI_leI (a := cnt) (b := i) (by omega) (by omega)).mp h1
    have h2 : i = cnt := by omega
    subst h2
    refine sv_join (σ := Bool) (pc1 := 131) (st1 := []) (k1 := 0) (n1 := 0) (J := fun g => g = true ↔ (1 < i ∨ ss_b (L 1) root root = true)) (lv1 := fun g => [some (.ref 8), some (.int (nI f)), some (.int (nI root)), some (.int (b2i a)), some (.int (b2i b)), some (.int (b2i g)), none]) (ws1 := fun _ => hC cI cJ cZ L I V tl) ?_ (fun hj => ?_)
    · intro g hg
      cases a with
      | true =>
        have hC : rg_C L f y root i fd := Or.inl (ha.mp rfl)
        refine sv_iload_n C d_Fo_evaluateRing_131 rfl rfl ?_
        refine sv_if_ne (tgt := 145) C d_Fo_evaluateRing_132 (by decide) (fun h2 => ?_) (fun h2 => ?_)
        · refine sv_aload_n C d_Fo_evaluateRing_145 rfl rfl ?_
          refine sv_iload_n C d_Fo_evaluateRing_146 rfl rfl ?_
          refine sv_callV (ci := 0) C (c_Fo_putFound (cI := cI) (cJ := cJ) (cZ := cZ) (L := L) (I := I) (V := V) (tl := tl) (f := f) (cnt := i) (fd := fd) hf hV hc hfd) s_Fo_138 ki_Fo_putFound ks_Fo_putFound ⟨rfl, rfl, Nat.le_of_ble_eq_true rfl, Nat.le_of_ble_eq_true rfl⟩ rfl d_Fo_evaluateRing_147 (by first | assumption | rfl) (Nat.le_of_ble_eq_true rfl) ⟨(Nat.le_of_ble_eq_true rfl), (Nat.le_of_ble_eq_true rfl)⟩ (fun E ws9 h9 => absurd h9 id) (fun v9 ws9 hp => ?_)
          obtain ⟨rfl, fT, rfl, hT⟩ := hp
          exact sv_vret C rfl d_Fo_evaluateRing_150 (Nat.le_of_ble_eq_true rfl) (Nat.le_of_ble_eq_true rfl) (fun _ _ => rfl) (⟨rfl, fT, rfl, fun c z hz => (hT c z hz).trans ⟨fun h => h.elim Or.inl (fun h => Or.inr ⟨h.1, h.2, hC⟩), fun h => h.elim Or.inl (fun h => Or.inr ⟨h.1, h.2.1⟩)⟩⟩)
        · exact absurd h2 (by decide)
      | false =>
        have hna : ¬ ∃ j, j < i ∧ ∃ t, t < 256 ∧ ss_b (L 1) (fd j) t = true ∧ ss_b (L 4) f t = true := fun h => absurd (ha.mpr h) (by decide)
        refine sv_iload_n C d_Fo_evaluateRing_131 rfl rfl ?_
        refine sv_if_ne (tgt := 145) C d_Fo_evaluateRing_132 (by decide) (fun h2 => ?_) (fun h2 => ?_)
        · exact absurd rfl h2
        · cases b with
          | false =>
            have hnC : ¬ rg_C L f y root i fd := fun h => h.elim hna (fun h => absurd (hb.mpr h.1) (by decide))
            refine sv_iload C d_Fo_evaluateRing_135 rfl ?_
            refine sv_if_eq (tgt := 150) C d_Fo_evaluateRing_137 (by decide) (fun h3 => ?_) (fun h3 => ?_)
            · refine sv_eqw (ws' := hC cI cJ cZ (hu L 4 (L 4)) I V tl) (by rw [hu_same]) ?_
              exact sv_vret C rfl d_Fo_evaluateRing_150 (Nat.le_of_ble_eq_true rfl) (Nat.le_of_ble_eq_true rfl) (fun _ _ => rfl) (⟨rfl, L 4, rfl, fun c z hz => ⟨Or.inl, fun h => h.elim id (fun h => absurd h.2.2 hnC)⟩⟩)
            · exact absurd rfl h3
          | true =>
            refine sv_iload C d_Fo_evaluateRing_135 rfl ?_
            refine sv_if_eq (tgt := 150) C d_Fo_evaluateRing_137 (by decide) (fun h3 => ?_) (fun h3 => ?_)
            · exact absurd h3 (by decide)
            · cases g with
              | false =>
                have hnC : ¬ rg_C L f y root i fd := fun h => h.elim hna (fun h => absurd (hg.mpr h.2) (by decide))
                refine sv_iload C d_Fo_evaluateRing_140 rfl ?_
                refine sv_if_eq (tgt := 150) C d_Fo_evaluateRing_142 (by decide) (fun h4 => ?_) (fun h4 => ?_)
                · refine sv_eqw (ws' := hC cI cJ cZ (hu L 4 (L 4)) I V tl) (by rw [hu_same]) ?_
                  exact sv_vret C rfl d_Fo_evaluateRing_150 (Nat.le_of_ble_eq_true rfl) (Nat.le_of_ble_eq_true rfl) (fun _ _ => rfl) (⟨rfl, L 4, rfl, fun c z hz => ⟨Or.inl, fun h => h.elim id (fun h => absurd h.2.2 hnC)⟩⟩)
                · exact absurd rfl h4
              | true =>
                have hC : rg_C L f y root i fd := Or.inr ⟨hb.mp rfl, hg.mp rfl⟩
                refine sv_iload C d_Fo_evaluateRing_140 rfl ?_
                refine sv_if_eq (tgt := 150) C d_Fo_evaluateRing_142 (by decide) (fun h4 => ?_) (fun h4 => ?_)
                · exact absurd h4 (by decide)
                · refine sv_aload_n C d_Fo_evaluateRing_145 rfl rfl ?_
                  refine sv_iload_n C d_Fo_evaluateRing_146 rfl rfl ?_
                  refine sv_callV (ci := 0) C (c_Fo_putFound (cI := cI) (cJ := cJ) (cZ := cZ) (L := L) (I := I) (V := V) (tl := tl) (f := f) (cnt := i) (fd := fd) hf hV hc hfd) s_Fo_138 ki_Fo_putFound ks_Fo_putFound ⟨rfl, rfl, Nat.le_of_ble_eq_true rfl, Nat.le_of_ble_eq_true rfl⟩ rfl d_Fo_evaluateRing_147 (by first | assumption | rfl) (Nat.le_of_ble_eq_true rfl) ⟨(Nat.le_of_ble_eq_true rfl), (Nat.le_of_ble_eq_true rfl)⟩ (fun E ws9 h9 => absurd h9 id) (fun v9 ws9 hp => ?_)
                  obtain ⟨rfl, fT, rfl, hT⟩ := hp
                  exact sv_vret C rfl d_Fo_evaluateRing_150 (Nat.le_of_ble_eq_true rfl) (Nat.le_of_ble_eq_true rfl) (fun _ _ => rfl) (⟨rfl, fT, rfl, fun c z hz => (hT c z hz).trans ⟨fun h => h.elim Or.inl (fun h => Or.inr ⟨h.1, h.2, hC⟩), fun h => h.elim Or.inl (fun h => Or.inr ⟨h.1, h.2.1⟩)⟩⟩)
    · refine sv_aload_n C d_Fo_evaluateRing_98 rfl rfl ?_
      refine sv_get (ci := 0) (kf := 1) C i_Fo rfl (by decide) f_Fo_12 (fun _ h9 => h9) d_Fo_evaluateRing_99 (by first | assumption | rfl) rfl ?_
      refine sv_get (ci := 2) (kf := 5) C i_Se rfl (by decide) f_Fo_141 (fun _ h9 => h9) d_Fo_evaluateRing_102 (by first | assumption | rfl) rfl ?_
      refine sv_iconst (v := 1) C d_Fo_evaluateRing_105 rfl ?_
      refine sv_eqs (st' := [.int 1, .int (nI i)]) (by show [_, Value.int (V 2)] = _; rw [hV]) ?_
      refine sv_icmp_gt (tgt := 124) C d_Fo_evaluateRing_106 (by decide) (fun h2 => ?_) (fun h2 => ?_)
      · have h2 : 1 < i := (nI_ltI (a := 1) (b := i) (by omega) (by omega)).mp h2
        refine sv_iconst (v := 1) C d_Fo_evaluateRing_124 rfl ?_
        refine sv_goto (tgt := 129) C d_Fo_evaluateRing_125 (by decide) ?_
        refine sv_istore C d_Fo_evaluateRing_129 (by decide) rfl ?_
        exact hj true ⟨fun _ => Or.inl h2, fun _ => rfl⟩
      · have h2 : ¬ 1 < i := fun h => h2 ((nI_ltI (a := 1) (b := i) (by omega) (by omega)).mpr h)
        refine sv_aload_n C d_Fo_evaluateRing_109 rfl rfl ?_
        refine sv_get (ci := 0) (kf := 0) C i_Fo rfl (by decide) f_Fo_44 (fun _ h9 => h9) d_Fo_evaluateRing_110 (by first | assumption | rfl) rfl ?_
        refine sv_get (ci := 1) (kf := 1) C i_Ma rfl (by decide) f_Fo_104 (fun _ h9 => h9) d_Fo_evaluateRing_113 (by first | assumption | rfl) rfl ?_
        refine sv_iload_n C d_Fo_evaluateRing_116 rfl rfl ?_
        refine sv_iload_n C d_Fo_evaluateRing_117 rfl rfl ?_
        refine sv_callV (ci := 3) C (c_St_has (cI := cI) (cZ := cZ) (ws := hC cI cJ cZ L I V tl) (b := 4) (w := 5) (N := 1024) (a := root) (x := root) (f := L 1) rfl rfl (by omega) (by decide) (by omega)) s_Fo_118 ki_St_has ks_St_has ⟨rfl, rfl, Nat.le_of_ble_eq_true rfl, Nat.le_of_ble_eq_true rfl⟩ rfl d_Fo_evaluateRing_118 (by first | assumption | rfl) (Nat.le_of_ble_eq_true rfl) ⟨(Nat.le_of_ble_eq_true rfl), (Nat.le_of_ble_eq_true rfl)⟩ (fun E ws9 h9 => absurd h9 id) (fun v9 ws9 hp => ?_)
        obtain ⟨rfl, rfl⟩ := hp
        cases hs : ss_b (L 1) root root with
        | true =>
          refine sv_if_eq (tgt := 128) C d_Fo_evaluateRing_121 (by decide) (fun h3 => ?_) (fun h3 => ?_)
          · exact absurd h3 (by decide)
          · refine sv_iconst (v := 1) C d_Fo_evaluateRing_124 rfl ?_
            refine sv_goto (tgt := 129) C d_Fo_evaluateRing_125 (by decide) ?_
            refine sv_istore C d_Fo_evaluateRing_129 (by decide) rfl ?_
            exact hj true ⟨fun _ => Or.inr hs, fun _ => rfl⟩
        | false =>
          refine sv_if_eq (tgt := 128) C d_Fo_evaluateRing_121 (by decide) (fun h3 => ?_) (fun h3 => ?_)
          · refine sv_iconst (v := 0) C d_Fo_evaluateRing_128 rfl ?_
            refine sv_istore C d_Fo_evaluateRing_129 (by decide) rfl ?_
            exact hj false ⟨fun h => absurd h (by decide), fun h => h.elim (fun q => absurd q h2) (fun q => by rw [hs] at q; exact q)⟩
          · exact absurd rfl h3
  · have h1 : ¬ cnt ≤ i := fun h => h1 ((nI_leI (a := cnt) (b := i) (by omega) (by omega)).mpr h)
    have hiin : vp_in (nI i) 256 := vp_in_nI (by omega) (by omega)
    have hfi := hfd i (by omega)
    refine sv_join (σ := Bool) (pc1 := 62) (st1 := []) (k1 := 0) (n1 := 0) (J := fun a' => a' = true ↔ (a = true ∨ ∃ t, t < 256 ∧ ss_b (L 1) (fd i) t = true ∧ ss_b (L 4) f t = true)) (lv1 := fun a' => [some (.ref 8), some (.int (nI f)), some (.int (nI root)), some (.int (b2i a')), some (.int (b2i b)), some (.int (nI i)), some (.int (nI (fd i)))]) (ws1 := fun _ => hC cI cJ cZ L I V tl) ?_ (fun hj => ?_)
    · intro a' ha'
      refine sv_join (σ := Bool) (pc1 := 92) (st1 := []) (k1 := 0) (n1 := 0) (J := fun b' => b' = true ↔ (b = true ∨ ss_b (L 4) y (fd i) = true)) (lv1 := fun b' => [some (.ref 8), some (.int (nI f)), some (.int (nI root)), some (.int (b2i a')), some (.int (b2i b')), some (.int (nI i)), some (.int (nI (fd i)))]) (ws1 := fun _ => hC cI cJ cZ L I V tl) ?_ (fun hj => ?_)
      · intro b' hb'
        refine sv_iincN C d_Fo_evaluateRing_92 rfl (by decide) rfl ?_
        refine sv_goto (tgt := 8) C d_Fo_evaluateRing_95 (by decide) ?_
        refine sv_drop [true, true, true, true, true, true, false] ?_
        refine ih (i + 1, a', b') ⟨by dsimp only; omega, ?_, ?_⟩ (by dsimp only; omega)
        · dsimp only
          rw [ha', ha]
          constructor
          · rintro (⟨j, hj, h⟩ | h)
            · exact ⟨j, by omega, h⟩
            · exact ⟨i, by omega, h⟩
          · rintro ⟨j, hj, h⟩
            by_cases e : j = i
            · rw [e] at h
              exact Or.inr h
            · exact Or.inl ⟨j, by omega, h⟩
        · dsimp only
          rw [hb', hb]
          constructor
          · rintro (⟨j, hj, h⟩ | h)
            · exact ⟨j, by omega, h⟩
            · exact ⟨i, by omega, h⟩
          · rintro ⟨j, hj, h⟩
            by_cases e : j = i
            · rw [e] at h
              exact Or.inr h
            · exact Or.inl ⟨j, by omega, h⟩
      · cases b with
        | true =>
          refine sv_iload C d_Fo_evaluateRing_62 rfl ?_
          refine sv_if_ne (tgt := 85) C d_Fo_evaluateRing_64 (by decide) (fun h2 => ?_) (fun h2 => ?_)
          · refine sv_iconst (v := 1) C d_Fo_evaluateRing_85 rfl ?_
            refine sv_goto (tgt := 90) C d_Fo_evaluateRing_86 (by decide) ?_
            refine sv_istore C d_Fo_evaluateRing_90 (by decide) rfl ?_
            exact hj true ⟨fun _ => Or.inl rfl, fun _ => rfl⟩
          · exact absurd h2 (by decide)
        | false =>
          refine sv_iload C d_Fo_evaluateRing_62 rfl ?_
          refine sv_if_ne (tgt := 85) C d_Fo_evaluateRing_64 (by decide) (fun h2 => ?_) (fun h2 => ?_)
          · exact absurd rfl h2
          · refine sv_aload_n C d_Fo_evaluateRing_67 rfl rfl ?_
            refine sv_get (ci := 0) (kf := 2) C i_Fo rfl (by decide) f_Fo_23 (fun _ h9 => h9) d_Fo_evaluateRing_68 (by first | assumption | rfl) rfl ?_
            refine sv_aload_n C d_Fo_evaluateRing_71 rfl rfl ?_
            refine sv_get (ci := 0) (kf := 5) C i_Fo rfl (by decide) f_Fo_34 (fun _ h9 => h9) d_Fo_evaluateRing_72 (by first | assumption | rfl) rfl ?_
            refine sv_iload_n C d_Fo_evaluateRing_75 rfl rfl ?_
            refine sv_iald (t0 := 0) C rfl d_Fo_evaluateRing_76 (by first | assumption | rfl) (by assumption) ?_
            refine sv_iload C d_Fo_evaluateRing_77 rfl ?_
            refine sv_eqs (st' := [.int (nI (fd i)), .int (nI y), .ref 16]) (by show [_, Value.int (I 6 (nI f).toNatClampNeg), _] = _; rw [hfc, hy]) ?_
            refine sv_callV (ci := 3) C (c_St_has (cI := cI) (cZ := cZ) (ws := hC cI cJ cZ L I V tl) (b := 16) (w := 17) (N := 240) (a := y) (x := fd i) (f := L 4) rfl rfl (by omega) (by decide) (by omega)) s_Fo_118 ki_St_has ks_St_has ⟨rfl, rfl, Nat.le_of_ble_eq_true rfl, Nat.le_of_ble_eq_true rfl⟩ rfl d_Fo_evaluateRing_79 (by first | assumption | rfl) (Nat.le_of_ble_eq_true rfl) ⟨(Nat.le_of_ble_eq_true rfl), (Nat.le_of_ble_eq_true rfl)⟩ (fun E ws9 h9 => absurd h9 id) (fun v9 ws9 hp => ?_)
            obtain ⟨rfl, rfl⟩ := hp
            cases hs : ss_b (L 4) y (fd i) with
            | true =>
              refine sv_if_eq (tgt := 89) C d_Fo_evaluateRing_82 (by decide) (fun h3 => ?_) (fun h3 => ?_)
              · exact absurd h3 (by decide)
              · refine sv_iconst (v := 1) C d_Fo_evaluateRing_85 rfl ?_
                refine sv_goto (tgt := 90) C d_Fo_evaluateRing_86 (by decide) ?_
                refine sv_istore C d_Fo_evaluateRing_90 (by decide) rfl ?_
                exact hj true ⟨fun _ => Or.inr hs, fun _ => rfl⟩
            | false =>
              refine sv_if_eq (tgt := 89) C d_Fo_evaluateRing_82 (by decide) (fun h3 => ?_) (fun h3 => ?_)
              · refine sv_iconst (v := 0) C d_Fo_evaluateRing_89 rfl ?_
                refine sv_istore C d_Fo_evaluateRing_90 (by decide) rfl ?_
                exact hj false ⟨fun h => absurd h (by decide), fun h => h.elim id (fun q => by rw [hs] at q; exact q)⟩
              · exact absurd rfl h3
    · refine sv_aload_n C d_Fo_evaluateRing_20 rfl rfl ?_
      refine sv_get (ci := 0) (kf := 1) C i_Fo rfl (by decide) f_Fo_12 (fun _ h9 => h9) d_Fo_evaluateRing_21 (by first | assumption | rfl) rfl ?_
      refine sv_get (ci := 2) (kf := 1) C i_Se rfl (by decide) f_Fo_144 (fun _ h9 => h9) d_Fo_evaluateRing_24 (by first | assumption | rfl) rfl ?_
      refine sv_iload C d_Fo_evaluateRing_27 rfl ?_
      refine sv_iald (t0 := 0) C rfl d_Fo_evaluateRing_29 (by first | assumption | rfl) (by assumption) ?_
      refine sv_eqs (st' := [.int (nI (fd i))]) (by show [Value.int (I 0 (nI i).toNatClampNeg)] = _; rw [nI_clamp (by omega), hfi.2]) ?_
      cases a with
      | true =>
        refine sv_istore C d_Fo_evaluateRing_30 (by decide) rfl ?_
        refine sv_iload_n C d_Fo_evaluateRing_32 rfl rfl ?_
        refine sv_if_ne (tgt := 56) C d_Fo_evaluateRing_33 (by decide) (fun h2 => ?_) (fun h2 => ?_)
        · refine sv_iconst (v := 1) C d_Fo_evaluateRing_56 rfl ?_
          refine sv_goto (tgt := 61) C d_Fo_evaluateRing_57 (by decide) ?_
          refine sv_istore_n C d_Fo_evaluateRing_61 rfl (by decide) rfl ?_
          exact hj true ⟨fun _ => Or.inl rfl, fun _ => rfl⟩
        · exact absurd h2 (show ¬ b2i true = 0 by decide)
      | false =>
        refine sv_istore C d_Fo_evaluateRing_30 (by decide) rfl ?_
        refine sv_iload_n C d_Fo_evaluateRing_32 rfl rfl ?_
        refine sv_if_ne (tgt := 56) C d_Fo_evaluateRing_33 (by decide) (fun h2 => ?_) (fun h2 => ?_)
        · exact absurd rfl h2
        · refine sv_aload_n C d_Fo_evaluateRing_36 rfl rfl ?_
          refine sv_get (ci := 0) (kf := 0) C i_Fo rfl (by decide) f_Fo_44 (fun _ h9 => h9) d_Fo_evaluateRing_37 (by first | assumption | rfl) rfl ?_
          refine sv_get (ci := 1) (kf := 1) C i_Ma rfl (by decide) f_Fo_104 (fun _ h9 => h9) d_Fo_evaluateRing_40 (by first | assumption | rfl) rfl ?_
          refine sv_iload C d_Fo_evaluateRing_43 rfl ?_
          refine sv_aload_n C d_Fo_evaluateRing_45 rfl rfl ?_
          refine sv_get (ci := 0) (kf := 2) C i_Fo rfl (by decide) f_Fo_23 (fun _ h9 => h9) d_Fo_evaluateRing_46 (by first | assumption | rfl) rfl ?_
          refine sv_iload_n C d_Fo_evaluateRing_49 rfl rfl ?_
          refine sv_callV (ci := 3) C (c_St_meets (cI := cI) (cZ := cZ) (ws := hC cI cJ cZ L I V tl) (b := 4) (w := 5) (N := 1024) (a := fd i) (f := L 1) (b' := 16) (w' := 17) (N' := 240) (a' := f) (g := L 4) rfl rfl (by omega) (by decide) rfl rfl (by omega) (by decide)) s_Fo_107 ki_St_meets ks_St_meets ⟨rfl, rfl, Nat.le_of_ble_eq_true rfl, Nat.le_of_ble_eq_true rfl⟩ rfl d_Fo_evaluateRing_50 (by first | assumption | rfl) (Nat.le_of_ble_eq_true rfl) ⟨(Nat.le_of_ble_eq_true rfl), (Nat.le_of_ble_eq_true rfl)⟩ (fun E ws9 h9 => absurd h9 id) (fun v9 ws9 hp => ?_)
          obtain ⟨t, rfl, ht, rfl⟩ := hp
          cases t with
          | true =>
            refine sv_if_eq (tgt := 60) C d_Fo_evaluateRing_53 (by decide) (fun h3 => ?_) (fun h3 => ?_)
            · exact absurd h3 (by decide)
            · refine sv_iconst (v := 1) C d_Fo_evaluateRing_56 rfl ?_
              refine sv_goto (tgt := 61) C d_Fo_evaluateRing_57 (by decide) ?_
              refine sv_istore_n C d_Fo_evaluateRing_61 rfl (by decide) rfl ?_
              exact hj true ⟨fun _ => Or.inr (ht.mp rfl), fun _ => rfl⟩
          | false =>
            refine sv_if_eq (tgt := 60) C d_Fo_evaluateRing_53 (by decide) (fun h3 => ?_) (fun h3 => ?_)
            · refine sv_iconst (v := 0) C d_Fo_evaluateRing_60 rfl ?_
              refine sv_istore_n C d_Fo_evaluateRing_61 rfl (by decide) rfl ?_
              exact hj false ⟨fun h => absurd h (by decide), fun h => h.elim id ht.mpr⟩
            · exact absurd rfl h3
