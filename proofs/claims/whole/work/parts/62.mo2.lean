/-! The reference: formula -/
theorem mo_add {W : Nat → Int32} {J : Nat → Nat → Int32} {B : Nat → Nat → Bool} {n r mk k x y : Nat} {rl : Nat → Nat × Nat × Nat × Nat} {kd xs ys : Nat → Nat} {y6 : Int32} (hok : mo_ok W J B n r mk rl kd xs ys) (hm : mk < 60) (hk : k ≤ 7) (h0 : k = 0 → x < 256 ∧ y < 256) (h1 : k ≠ 0 → x < mk ∧ y < mk) (h6 : k = 6 → y = x) (hy6 : k2 k → y6 = nI y) :
    mo_ok (hu (hu W 0 0) 3 (nI (mk + 1))) (hu (hu (hu J 4 (upd (J 4) mk (nI k))) 5 (upd (J 5) mk (nI x))) 6 (upd (J 6) mk y6)) B n r (mk + 1) rl (hu kd mk k) (hu xs mk x) (hu ys mk y) := by
  obtain ⟨hmr, hn1, ⟨hW3, hmk⟩, hfm, kn, hkn, hW4, hB⟩ := hok
  have hwf : ∀ i, i < mk → kd i ≠ 0 → xs i < i ∧ ys i < i := fun i hi => (hfm i hi).2.2.2.2.2.1
  refine ⟨hmr, hn1, ⟨rfl, by omega⟩, fun j hj => ?_, kn, by omega, hW4, fun i z hi hz => ?_⟩
  · show upd (J 4) mk (nI k) j = nI (hu kd mk k j) ∧ upd (J 5) mk (nI x) j = nI (hu xs mk x j) ∧ (k2 (hu kd mk k j) → upd (J 6) mk y6 j = nI (hu ys mk y j)) ∧ hu kd mk k j ≤ 7 ∧ (hu kd mk k j = 0 → hu xs mk x j < 256 ∧ hu ys mk y j < 256) ∧ (hu kd mk k j ≠ 0 → hu xs mk x j < j ∧ hu ys mk y j < j) ∧ (hu kd mk k j = 6 → hu ys mk y j = hu xs mk x j)
    by_cases e : j = mk
    · rw [e, pk_us, pk_us, pk_us, hu_s, hu_s, hu_s]
      exact ⟨rfl, rfl, hy6, hk, h0, h1, h6⟩
    · rw [pk_un e, pk_un e, pk_un e, hu_n e, hu_n e, hu_n e]
      exact hfm j (by omega)
  · rw [hB i z hi hz, tF_ext (m := mk) (kd := kd) (xs := xs) (ys := ys) hwf (fun j hj => ⟨hu_n (by omega), hu_n (by omega), hu_n (by omega)⟩) (by omega)]
set_option maxRecDepth 100000 in
set_option maxHeartbeats 8000000 in
theorem c_Mo_formula {l : Launch} {D : va_G} {cI cJ cZ : ClassId} {L : Nat → Nat → Int64} {I : Nat → Nat → Int32} {V : Nat → Int32} {W : Nat → Int32} {J : Nat → Nat → Int32} {B : Nat → Nat → Bool} {tl : List va_E} {n r mk : Nat} {rl : Nat → Nat × Nat × Nat × Nat} {kd xs ys : Nat → Nat} (hok : mo_ok W J B n r mk rl kd xs ys) {k x y : Int32} :
    sv_M l y_Mo_formula [Cond.code y_Mo_formula b_Mo_formula 6 (some .int)] ({ frames := 2, cells := 0, slots := 0, locals := 43 } : Room) D sv_cl (sv_ty cI cJ cZ) [.ref 23, .int k, .int x, .int y] (hM cI cJ cZ L I V W J B tl) 0 0 (fun q ws' => ∃ a : Int32, q = some (.int a) ∧ ∃ (W' : Nat → Int32) (J' : Nat → Nat → Int32) (B' : Nat → Nat → Bool), ws' = hM cI cJ cZ L I V W' J' B' tl ∧ ((fG n mk k x y ∧ mk < 60 ∧ W' 0 = 0 ∧ a = nI mk ∧ mo_ok W' J' B' n r (mk + 1) rl (hu kd mk k.toNatClampNeg) (hu xs mk x.toNatClampNeg) (hu ys mk (yN k x y).toNatClampNeg)) ∨ (¬ fG n mk k x y ∧ W' 0 = 1 ∧ mo_ok W' J' B' n r mk rl kd xs ys) ∨ (fG n mk k x y ∧ ¬ mk < 60 ∧ W' 0 = 2 ∧ mo_ok W' J' B' n r mk rl kd xs ys))) sv_no 0 0 := by
  refine sv_of (cc := b_Mo_formula) (by decide +kernel) (Nat.le_of_ble_eq_true rfl) ?_
  intro pX eX sX mX aX bX tX cX AX adX C htab hnm
  have hok' := hok
  obtain ⟨⟨⟨hn, hW1, hW2, hr40, hrl⟩, hJ⟩, hn1, ⟨hW3, hmk⟩, hfm, kn, hkn, hW4, hB⟩ := hok'
  have hp8 := pow_le8 hn
  refine sv_join (σ := Bool × Bool) (pc1 := 82) (st1 := []) (k1 := 0) (n1 := 0) (J := fun g => (g.1 = true ↔ tp k) ∧ (g.2 = true ↔ fG n mk k x y)) (lv1 := fun g => [some (.ref 23), some (.int k), some (.int x), some (.int y), some (.int (b2i g.1)), some (.int (b2i g.2))]) (ws1 := fun _ => hM cI cJ cZ L I V W J B tl) ?_ (fun hj => ?_)
  · rintro ⟨t, g⟩ ⟨ht, hg⟩
    dsimp only at ht hg
    cases g with
    | false =>
      have hng : ¬ fG n mk k x y := fun q => absurd (hg.mpr q) Bool.false_ne_true
      refine sv_aload_n C d_Mo_formula_82 rfl rfl ?_
      refine sv_iload C d_Mo_formula_83 rfl ?_
      refine sv_if_ne (tgt := 92) C d_Mo_formula_85 (by decide) (fun h => ?_) (fun h => ?_)
      · exact absurd rfl h
      · refine sv_iconst (v := 1) C d_Mo_formula_88 rfl ?_
        refine sv_goto (tgt := 93) C d_Mo_formula_89 (by decide) ?_
        refine sv_iload C d_Mo_formula_93 rfl ?_
        refine sv_if_eq (tgt := 111) C d_Mo_formula_95 (by decide) (fun h => ?_) (fun h => ?_)
        · refine sv_iconst (v := 0) C d_Mo_formula_111 rfl ?_
          refine sv_iconst (v := 0) C d_Mo_formula_112 rfl ?_
          refine sv_eqs (st' := [.int (b2i false), .int (b2i false), .int (b2i true), .ref 23]) rfl ?_
          refine sv_callV (ci := 5) C (c_Mo_refuse (cI := cI) (cJ := cJ) (cZ := cZ) (L := L) (I := I) (V := V) (W := W) (J := J) (B := B) (tl := tl) (a := true) (b := false) (c := false)) s_Mo_54 ki_Mo_refuse ks_Mo_refuse ⟨rfl, rfl, Nat.le_of_ble_eq_true rfl, Nat.le_of_ble_eq_true rfl⟩ rfl d_Mo_formula_113 (by first | assumption | rfl) (Nat.le_of_ble_eq_true rfl) ⟨(Nat.le_of_ble_eq_true rfl), (Nat.le_of_ble_eq_true rfl)⟩ (fun E ws9 h9 => absurd h9 id) (fun v9 ws9 hp => ?_)
          obtain ⟨rfl, rfl⟩ := hp
          refine sv_if_eq (tgt := 121) C d_Mo_formula_116 (by decide) (fun h => ?_) (fun h => ?_)
          · exact absurd h (by decide)
          · refine sv_iconst (v := 0) C d_Mo_formula_119 rfl ?_
            exact sv_iret C rfl rfl d_Mo_formula_120 (Nat.le_of_ble_eq_true rfl) (Nat.le_of_ble_eq_true rfl) (fun _ _ => rfl) (⟨_, rfl, _, _, _, rfl, Or.inr (Or.inl ⟨hng, rfl, mo_W0 hok⟩)⟩)
        · exact absurd rfl h
    | true =>
      have hyg : fG n mk k x y := hg.mp rfl
      refine sv_aload_n C d_Mo_formula_82 rfl rfl ?_
      refine sv_iload C d_Mo_formula_83 rfl ?_
      refine sv_if_ne (tgt := 92) C d_Mo_formula_85 (by decide) (fun h => ?_) (fun h => ?_)
      · refine sv_iconst (v := 0) C d_Mo_formula_92 rfl ?_
        refine sv_iload C d_Mo_formula_93 rfl ?_
        refine sv_if_eq (tgt := 111) C d_Mo_formula_95 (by decide) (fun h => ?_) (fun h => ?_)
        · exact absurd (show b2i true = 0 from h) (by decide)
        · refine sv_aload_n C d_Mo_formula_98 rfl rfl ?_
          refine sv_get (ci := 5) (kf := 7) C i_Mo rfl (by decide) f_Mo_51 (fun _ h9 => h9) d_Mo_formula_99 (by first | assumption | rfl) rfl ?_
          refine sv_bipush (v := 60) C d_Mo_formula_102 rfl ?_
          rw [hW3]
          refine sv_icmp_ne (tgt := 111) C d_Mo_formula_104 (by decide) (fun h1 => ?_) (fun h1 => ?_)
          · have hm : mk < 60 := by
              have : mk ≠ 60 := fun q => h1 (by rw [q]; rfl)
              omega
            refine sv_iconst (v := 0) C d_Mo_formula_111 rfl ?_
            refine sv_iconst (v := 0) C d_Mo_formula_112 rfl ?_
            refine sv_eqs (st' := [.int (b2i false), .int (b2i false), .int (b2i false), .ref 23]) rfl ?_
            refine sv_callV (ci := 5) C (c_Mo_refuse (cI := cI) (cJ := cJ) (cZ := cZ) (L := L) (I := I) (V := V) (W := W) (J := J) (B := B) (tl := tl) (a := false) (b := false) (c := false)) s_Mo_54 ki_Mo_refuse ks_Mo_refuse ⟨rfl, rfl, Nat.le_of_ble_eq_true rfl, Nat.le_of_ble_eq_true rfl⟩ rfl d_Mo_formula_113 (by first | assumption | rfl) (Nat.le_of_ble_eq_true rfl) ⟨(Nat.le_of_ble_eq_true rfl), (Nat.le_of_ble_eq_true rfl)⟩ (fun E ws9 h9 => absurd h9 id) (fun v9 ws9 hp => ?_)
            obtain ⟨rfl, rfl⟩ := hp
            refine sv_eqw (ws' := hM cI cJ cZ L I V (hu W 0 0) J B tl) rfl ?_
            refine sv_if_eq (tgt := 121) C d_Mo_formula_116 (by decide) (fun h => ?_) (fun h => ?_)
            · have hin : vp_in (W 3) 60 := by rw [hW3]; exact vp_in_nI hm (by omega)
              have hic : (W 3).toNatClampNeg = mk := by rw [hW3]; exact nI_clamp (by omega)
              refine sv_aload_n C d_Mo_formula_121 rfl rfl ?_
              refine sv_get (ci := 5) (kf := 9) C i_Mo rfl (by decide) f_Mo_26 (fun _ h9 => h9) d_Mo_formula_122 (by first | assumption | rfl) rfl ?_
              refine sv_aload_n C d_Mo_formula_125 rfl rfl ?_
              refine sv_get (ci := 5) (kf := 7) C i_Mo rfl (by decide) f_Mo_51 (fun _ h9 => h9) d_Mo_formula_126 (by first | assumption | rfl) rfl ?_
              refine sv_iload_n C d_Mo_formula_129 rfl rfl ?_
              refine sv_iast (t0 := 0) C rfl d_Mo_formula_130 (by first | assumption | rfl) hin ?_
              refine sv_aload_n C d_Mo_formula_131 rfl rfl ?_
              refine sv_get (ci := 5) (kf := 10) C i_Mo rfl (by decide) f_Mo_29 (fun _ h9 => h9) d_Mo_formula_132 (by first | assumption | rfl) rfl ?_
              refine sv_aload_n C d_Mo_formula_135 rfl rfl ?_
              refine sv_get (ci := 5) (kf := 7) C i_Mo rfl (by decide) f_Mo_51 (fun _ h9 => h9) d_Mo_formula_136 (by first | assumption | rfl) rfl ?_
              refine sv_iload_n C d_Mo_formula_139 rfl rfl ?_
              refine sv_iast (t0 := 0) C rfl d_Mo_formula_140 (by first | assumption | rfl) hin ?_
              refine sv_aload_n C d_Mo_formula_141 rfl rfl ?_
              refine sv_get (ci := 5) (kf := 11) C i_Mo rfl (by decide) f_Mo_32 (fun _ h9 => h9) d_Mo_formula_142 (by first | assumption | rfl) rfl ?_
              refine sv_aload_n C d_Mo_formula_145 rfl rfl ?_
              refine sv_get (ci := 5) (kf := 7) C i_Mo rfl (by decide) f_Mo_51 (fun _ h9 => h9) d_Mo_formula_146 (by first | assumption | rfl) rfl ?_
              refine sv_iload C d_Mo_formula_149 rfl ?_
              obtain ⟨g0, g7, gA, gB⟩ := hyg
              obtain ⟨k', hk', rfl⟩ := k8_nat g0 g7
              have hyg : fG n mk (nI k') x y := ⟨g0, g7, gA, gB⟩
              have e9 : (nI k').toNatClampNeg = k' := nI_clamp (by omega)
              cases t with
              | true =>
                have ht := ht.mp rfl
                have hk0 : nI k' ≠ 0 := fun h => by
                  have := nI_inj (a := k') (b := 0) (by omega) (by omega) h
                  have := (tp_nat hk').mp ht
                  omega
                refine sv_if_ne (tgt := 158) C d_Mo_formula_151 (by decide) (fun h => ?_) (fun h => ?_)
                · refine sv_iload_n C d_Mo_formula_158 rfl rfl ?_
                  refine sv_goto (tgt := 163) C d_Mo_formula_159 (by decide) ?_
                  refine sv_iast (t0 := 0) C rfl d_Mo_formula_163 (by first | assumption | rfl) hin ?_
                  refine sv_aload_n C d_Mo_formula_164 rfl rfl ?_
                  refine sv_dup C d_Mo_formula_165 rfl ?_
                  refine sv_get (ci := 5) (kf := 7) C i_Mo rfl (by decide) f_Mo_51 (fun _ h9 => h9) d_Mo_formula_166 (by first | assumption | rfl) rfl ?_
                  refine sv_iconst (v := 1) C d_Mo_formula_169 rfl ?_
                  refine sv_iadd C d_Mo_formula_170 ?_
                  refine sv_put (ci := 5) (kf := 7) (ty := .int) C i_Mo t_Mo t_Mo_ok n_Mo rfl (by decide) f_Mo_51 (fun _ h9 => h9) rfl (by decide +kernel) d_Mo_formula_171 (by first | assumption | rfl) rfl rfl (Nat.le_of_ble_eq_true rfl) ?_
                  refine sv_aload_n C d_Mo_formula_174 rfl rfl ?_
                  refine sv_get (ci := 5) (kf := 7) C i_Mo rfl (by decide) f_Mo_51 (fun _ h9 => h9) d_Mo_formula_175 (by first | assumption | rfl) rfl ?_
                  refine sv_iconst (v := 1) C d_Mo_formula_178 rfl ?_
                  refine sv_isub C d_Mo_formula_179 ?_
                  refine sv_eqs (st' := [.int (nI mk)]) (by show [Value.int (W 3 + 1 - 1)] = _; rw [hW3, nI_1, nI_pred]) ?_
                  refine sv_eqw (ws' := hM cI cJ cZ L I V (hu (hu W 0 0) 3 (nI (mk + 1))) (hu (hu (hu J 4 (upd (J 4) mk (nI k'))) 5 (upd (J 5) mk x)) 6 (upd (J 6) mk y)) B tl) (by rw [← nI_1, ← hW3, ← hic]; rfl) ?_
                  refine sv_iret C rfl rfl d_Mo_formula_180 (Nat.le_of_ble_eq_true rfl) (Nat.le_of_ble_eq_true rfl) (fun _ _ => rfl) (⟨_, rfl, _, _, _, rfl, Or.inl ⟨hyg, hm, rfl, rfl, ?_⟩⟩)
                  obtain ⟨a, ha, rfl⟩ := iF_nat hmk (gB hk0).1
                  obtain ⟨b, hb, rfl⟩ := iF_nat hmk ((gB hk0).2 ht)
                  rw [e9, show yN (nI k') (nI a) (nI b) = nI b from if_pos (Or.inr ht), nI_clamp (n := a) (by omega), nI_clamp (n := b) (by omega)]
                  refine mo_add hok hm hk' (fun q => absurd (by rw [q]; rfl) hk0) (fun _ => ⟨ha, hb⟩) (fun q => ?_) (fun _ => rfl)
                  have := (tp_nat hk').mp ht
                  omega
                · exact absurd (show b2i true = 0 from h) (by decide)
              | false =>
                have ht : ¬ tp (nI k') := fun q => absurd (ht.mpr q) Bool.false_ne_true
                refine sv_if_ne (tgt := 158) C d_Mo_formula_151 (by decide) (fun h => ?_) (fun h => ?_)
                · exact absurd rfl h
                · refine sv_iload_n C d_Mo_formula_154 rfl rfl ?_
                  refine sv_if_ne (tgt := 162) C d_Mo_formula_155 (by decide) (fun h2 => ?_) (fun h2 => ?_)
                  · refine sv_iconst (v := 0) C d_Mo_formula_162 rfl ?_
                    refine sv_iast (t0 := 0) C rfl d_Mo_formula_163 (by first | assumption | rfl) hin ?_
                    refine sv_aload_n C d_Mo_formula_164 rfl rfl ?_
                    refine sv_dup C d_Mo_formula_165 rfl ?_
                    refine sv_get (ci := 5) (kf := 7) C i_Mo rfl (by decide) f_Mo_51 (fun _ h9 => h9) d_Mo_formula_166 (by first | assumption | rfl) rfl ?_
                    refine sv_iconst (v := 1) C d_Mo_formula_169 rfl ?_
                    refine sv_iadd C d_Mo_formula_170 ?_
                    refine sv_put (ci := 5) (kf := 7) (ty := .int) C i_Mo t_Mo t_Mo_ok n_Mo rfl (by decide) f_Mo_51 (fun _ h9 => h9) rfl (by decide +kernel) d_Mo_formula_171 (by first | assumption | rfl) rfl rfl (Nat.le_of_ble_eq_true rfl) ?_
                    refine sv_aload_n C d_Mo_formula_174 rfl rfl ?_
                    refine sv_get (ci := 5) (kf := 7) C i_Mo rfl (by decide) f_Mo_51 (fun _ h9 => h9) d_Mo_formula_175 (by first | assumption | rfl) rfl ?_
                    refine sv_iconst (v := 1) C d_Mo_formula_178 rfl ?_
                    refine sv_isub C d_Mo_formula_179 ?_
                    refine sv_eqs (st' := [.int (nI mk)]) (by show [Value.int (W 3 + 1 - 1)] = _; rw [hW3, nI_1, nI_pred]) ?_
                    refine sv_eqw (ws' := hM cI cJ cZ L I V (hu (hu W 0 0) 3 (nI (mk + 1))) (hu (hu (hu J 4 (upd (J 4) mk (nI k'))) 5 (upd (J 5) mk x)) 6 (upd (J 6) mk 0)) B tl) (by rw [← nI_1, ← hW3, ← hic]; rfl) ?_
                    refine sv_iret C rfl rfl d_Mo_formula_180 (Nat.le_of_ble_eq_true rfl) (Nat.le_of_ble_eq_true rfl) (fun _ _ => rfl) (⟨_, rfl, _, _, _, rfl, Or.inl ⟨hyg, hm, rfl, rfl, ?_⟩⟩)
                    obtain ⟨a, ha, rfl⟩ := iF_nat hmk (gB h2).1
                    rw [e9, show yN (nI k') (nI a) y = nI a from if_neg (fun q => q.elim h2 ht), nI_clamp (n := a) (by omega)]
                    refine mo_add hok hm hk' (fun q => absurd (by rw [q]; rfl) h2) (fun _ => ⟨ha, ha⟩) (fun _ => rfl) (fun q => ?_)
                    rcases q with q | q
                    · exact absurd (by rw [q]; rfl) h2
                    · exact absurd ((tp_nat hk').mpr q) ht
                  · refine sv_iload_n C d_Mo_formula_158 rfl rfl ?_
                    refine sv_goto (tgt := 163) C d_Mo_formula_159 (by decide) ?_
                    refine sv_iast (t0 := 0) C rfl d_Mo_formula_163 (by first | assumption | rfl) hin ?_
                    refine sv_aload_n C d_Mo_formula_164 rfl rfl ?_
                    refine sv_dup C d_Mo_formula_165 rfl ?_
                    refine sv_get (ci := 5) (kf := 7) C i_Mo rfl (by decide) f_Mo_51 (fun _ h9 => h9) d_Mo_formula_166 (by first | assumption | rfl) rfl ?_
                    refine sv_iconst (v := 1) C d_Mo_formula_169 rfl ?_
                    refine sv_iadd C d_Mo_formula_170 ?_
                    refine sv_put (ci := 5) (kf := 7) (ty := .int) C i_Mo t_Mo t_Mo_ok n_Mo rfl (by decide) f_Mo_51 (fun _ h9 => h9) rfl (by decide +kernel) d_Mo_formula_171 (by first | assumption | rfl) rfl rfl (Nat.le_of_ble_eq_true rfl) ?_
                    refine sv_aload_n C d_Mo_formula_174 rfl rfl ?_
                    refine sv_get (ci := 5) (kf := 7) C i_Mo rfl (by decide) f_Mo_51 (fun _ h9 => h9) d_Mo_formula_175 (by first | assumption | rfl) rfl ?_
                    refine sv_iconst (v := 1) C d_Mo_formula_178 rfl ?_
                    refine sv_isub C d_Mo_formula_179 ?_
                    refine sv_eqs (st' := [.int (nI mk)]) (by show [Value.int (W 3 + 1 - 1)] = _; rw [hW3, nI_1, nI_pred]) ?_
                    refine sv_eqw (ws' := hM cI cJ cZ L I V (hu (hu W 0 0) 3 (nI (mk + 1))) (hu (hu (hu J 4 (upd (J 4) mk (nI k'))) 5 (upd (J 5) mk x)) 6 (upd (J 6) mk y)) B tl) (by rw [← nI_1, ← hW3, ← hic]; rfl) ?_
                    refine sv_iret C rfl rfl d_Mo_formula_180 (Nat.le_of_ble_eq_true rfl) (Nat.le_of_ble_eq_true rfl) (fun _ _ => rfl) (⟨_, rfl, _, _, _, rfl, Or.inl ⟨hyg, hm, rfl, rfl, ?_⟩⟩)
                    obtain ⟨a, ha, rfl⟩ := iS_nat hn (gA h2).1
                    obtain ⟨b, hb, rfl⟩ := iS_nat hn (gA h2).2.1
                    rw [e9, show yN (nI k') (nI a) (nI b) = nI b from if_pos (Or.inl h2), nI_clamp (n := a) (by omega), nI_clamp (n := b) (by omega)]
                    have ek : k' = 0 := nI_inj (a := k') (b := 0) (by omega) (by omega) h2
                    exact mo_add hok hm hk' (fun _ => ⟨by omega, by omega⟩) (fun q => absurd ek q) (fun q => by omega) (fun _ => rfl)
            · exact absurd rfl h
          · have hm : ¬ mk < 60 := fun q => by
              have := nI_inj (a := mk) (b := 60) (by omega) (by omega) h1
              omega
            refine sv_iconst (v := 1) C d_Mo_formula_107 rfl ?_
            refine sv_goto (tgt := 112) C d_Mo_formula_108 (by decide) ?_
            refine sv_iconst (v := 0) C d_Mo_formula_112 rfl ?_
            refine sv_eqs (st' := [.int (b2i false), .int (b2i true), .int (b2i false), .ref 23]) rfl ?_
            refine sv_callV (ci := 5) C (c_Mo_refuse (cI := cI) (cJ := cJ) (cZ := cZ) (L := L) (I := I) (V := V) (W := W) (J := J) (B := B) (tl := tl) (a := false) (b := true) (c := false)) s_Mo_54 ki_Mo_refuse ks_Mo_refuse ⟨rfl, rfl, Nat.le_of_ble_eq_true rfl, Nat.le_of_ble_eq_true rfl⟩ rfl d_Mo_formula_113 (by first | assumption | rfl) (Nat.le_of_ble_eq_true rfl) ⟨(Nat.le_of_ble_eq_true rfl), (Nat.le_of_ble_eq_true rfl)⟩ (fun E ws9 h9 => absurd h9 id) (fun v9 ws9 hp => ?_)
            obtain ⟨rfl, rfl⟩ := hp
            refine sv_if_eq (tgt := 121) C d_Mo_formula_116 (by decide) (fun h => ?_) (fun h => ?_)
            · exact absurd h (by decide)
            · refine sv_iconst (v := 0) C d_Mo_formula_119 rfl ?_
              exact sv_iret C rfl rfl d_Mo_formula_120 (Nat.le_of_ble_eq_true rfl) (Nat.le_of_ble_eq_true rfl) (fun _ _ => rfl) (⟨_, rfl, _, _, _, rfl, Or.inr (Or.inr ⟨hyg, hm, rfl, mo_W0 hok⟩)⟩)
      · exact absurd (show b2i true = 0 from h) (by decide)
  · refine sv_join (σ := Bool) (pc1 := 28) (st1 := []) (k1 := 0) (n1 := 0) (J := fun t => t = true ↔ tp k) (lv1 := fun t => [some (.ref 23), some (.int k), some (.int x), some (.int y), some (.int (b2i t)), none]) (ws1 := fun _ => hM cI cJ cZ L I V W J B tl) ?_ (fun hj2 => ?_)
    · rintro t ht
      refine sv_join (σ := Unit) (pc1 := 79) (st1 := []) (k1 := 0) (n1 := 0) (J := fun _ => ¬ fG n mk k x y) (lv1 := fun _ => [some (.ref 23), some (.int k), some (.int x), some (.int y), some (.int (b2i t)), none]) (ws1 := fun _ => hM cI cJ cZ L I V W J B tl) (fun _ hng => ?_) (fun no => ?_)
      · refine sv_iconst (v := 0) C d_Mo_formula_79 rfl ?_
        refine sv_istore C d_Mo_formula_80 (by decide) rfl ?_
        exact hj (t, false) ⟨ht, fun q => absurd q Bool.false_ne_true, fun q => absurd q hng⟩
      refine sv_join (σ := Unit) (pc1 := 75) (st1 := []) (k1 := 0) (n1 := 0) (J := fun _ => fG n mk k x y) (lv1 := fun _ => [some (.ref 23), some (.int k), some (.int x), some (.int y), some (.int (b2i t)), none]) (ws1 := fun _ => hM cI cJ cZ L I V W J B tl) (fun _ hyg => ?_) (fun yes => ?_)
      · refine sv_iconst (v := 1) C d_Mo_formula_75 rfl ?_
        refine sv_goto (tgt := 80) C d_Mo_formula_76 (by decide) ?_
        refine sv_istore C d_Mo_formula_80 (by decide) rfl ?_
        exact hj (t, true) ⟨ht, fun _ => hyg, fun _ => rfl⟩
      refine sv_iload_n C d_Mo_formula_28 rfl rfl ?_
      refine sv_if_lt (tgt := 79) C d_Mo_formula_29 (by decide) (fun h1 => ?_) (fun h1 => ?_)
      · exact no () (fun q => absurd h1 (Int32.not_lt.mpr q.1))
      · refine sv_iload_n C d_Mo_formula_32 rfl rfl ?_
        refine sv_bipush (v := 7) C d_Mo_formula_33 rfl ?_
        refine sv_icmp_gt (tgt := 79) C d_Mo_formula_35 (by decide) (fun h2 => ?_) (fun h2 => ?_)
        · exact no () (fun q => absurd h2 (Int32.not_lt.mpr q.2.1))
        · have h0 : 0 ≤ k := Int32.not_lt.mp h1
          have h7 : k ≤ 7 := Int32.not_lt.mp h2
          refine sv_iload_n C d_Mo_formula_38 rfl rfl ?_
          refine sv_if_ne (tgt := 54) C d_Mo_formula_39 (by decide) (fun h3 => ?_) (fun h3 => ?_)
          · refine sv_aload_n C d_Mo_formula_54 rfl rfl ?_
            refine sv_iload_n C d_Mo_formula_55 rfl rfl ?_
            refine sv_callV (ci := 5) C (c_Mo_isFormula (cI := cI) (cJ := cJ) (cZ := cZ) (L := L) (I := I) (V := V) (W := W) (J := J) (B := B) (tl := tl) (mk := mk) (x := x) hW3) s_Mo_72 ki_Mo_isFormula ks_Mo_isFormula ⟨rfl, rfl, Nat.le_of_ble_eq_true rfl, Nat.le_of_ble_eq_true rfl⟩ rfl d_Mo_formula_56 (by first | assumption | rfl) (Nat.le_of_ble_eq_true rfl) ⟨(Nat.le_of_ble_eq_true rfl), (Nat.le_of_ble_eq_true rfl)⟩ (fun E ws9 h9 => absurd h9 id) (fun v9 ws9 hp => ?_)
            obtain ⟨t1, rfl, ht1, rfl⟩ := hp
            cases t1 with
            | false =>
              refine sv_if_eq (tgt := 79) C d_Mo_formula_59 (by decide) (fun h => ?_) (fun h => ?_)
              · exact no () (fun q => absurd (ht1.mpr (q.2.2.2 h3).1) Bool.false_ne_true)
              · exact absurd rfl h
            | true =>
              have ht1 := ht1.mp rfl
              refine sv_if_eq (tgt := 79) C d_Mo_formula_59 (by decide) (fun h => ?_) (fun h => ?_)
              · exact absurd h (by decide)
              · refine sv_iload C d_Mo_formula_62 rfl ?_
                cases t with
                | false =>
                  refine sv_if_eq (tgt := 75) C d_Mo_formula_64 (by decide) (fun h => ?_) (fun h => ?_)
                  · exact yes () ⟨h0, h7, fun q => absurd q h3, fun _ => ⟨ht1, fun q => absurd (ht.mpr q) Bool.false_ne_true⟩⟩
                  · exact absurd rfl h
                | true =>
                  refine sv_if_eq (tgt := 75) C d_Mo_formula_64 (by decide) (fun h => ?_) (fun h => ?_)
                  · exact absurd h (by decide)
                  · refine sv_aload_n C d_Mo_formula_67 rfl rfl ?_
                    refine sv_iload_n C d_Mo_formula_68 rfl rfl ?_
                    refine sv_callV (ci := 5) C (c_Mo_isFormula (cI := cI) (cJ := cJ) (cZ := cZ) (L := L) (I := I) (V := V) (W := W) (J := J) (B := B) (tl := tl) (mk := mk) (x := y) hW3) s_Mo_72 ki_Mo_isFormula ks_Mo_isFormula ⟨rfl, rfl, Nat.le_of_ble_eq_true rfl, Nat.le_of_ble_eq_true rfl⟩ rfl d_Mo_formula_69 (by first | assumption | rfl) (Nat.le_of_ble_eq_true rfl) ⟨(Nat.le_of_ble_eq_true rfl), (Nat.le_of_ble_eq_true rfl)⟩ (fun E ws9 h9 => absurd h9 id) (fun v9 ws9 hp => ?_)
                    obtain ⟨t2, rfl, ht2, rfl⟩ := hp
                    cases t2 with
                    | false =>
                      refine sv_if_eq (tgt := 79) C d_Mo_formula_72 (by decide) (fun h => ?_) (fun h => ?_)
                      · exact no () (fun q => absurd (ht2.mpr ((q.2.2.2 h3).2 (ht.mp rfl))) Bool.false_ne_true)
                      · exact absurd rfl h
                    | true =>
                      refine sv_if_eq (tgt := 79) C d_Mo_formula_72 (by decide) (fun h => ?_) (fun h => ?_)
                      · exact absurd h (by decide)
                      · exact yes () ⟨h0, h7, fun q => absurd q h3, fun _ => ⟨ht1, fun _ => ht2.mp rfl⟩⟩
          · refine sv_aload_n C d_Mo_formula_42 rfl rfl ?_
            refine sv_iload_n C d_Mo_formula_43 rfl rfl ?_
            refine sv_iload_n C d_Mo_formula_44 rfl rfl ?_
            refine sv_callV (ci := 5) C (c_Mo_isTest (cI := cI) (cJ := cJ) (cZ := cZ) (L := L) (I := I) (V := V) (W := W) (J := J) (B := B) (tl := tl) (n := n) (m := x) (v := y) hn hW1) s_Mo_68 ki_Mo_isTest ks_Mo_isTest ⟨rfl, rfl, Nat.le_of_ble_eq_true rfl, Nat.le_of_ble_eq_true rfl⟩ rfl d_Mo_formula_45 (by first | assumption | rfl) (Nat.le_of_ble_eq_true rfl) ⟨(Nat.le_of_ble_eq_true rfl), (Nat.le_of_ble_eq_true rfl)⟩ (fun E ws9 h9 => absurd h9 id) (fun v9 ws9 hp => ?_)
            obtain ⟨t1, rfl, ht1, rfl⟩ := hp
            cases t1 with
            | false =>
              refine sv_if_eq (tgt := 79) C d_Mo_formula_48 (by decide) (fun h => ?_) (fun h => ?_)
              · exact no () (fun q => absurd (ht1.mpr (q.2.2.1 h3)) Bool.false_ne_true)
              · exact absurd rfl h
            | true =>
              refine sv_if_eq (tgt := 79) C d_Mo_formula_48 (by decide) (fun h => ?_) (fun h => ?_)
              · exact absurd h (by decide)
              · refine sv_goto (tgt := 75) C d_Mo_formula_51 (by decide) ?_
                exact yes () ⟨h0, h7, fun _ => ht1.mp rfl, fun q => absurd h3 q⟩
    · refine sv_iload_n C d_Mo_formula_0 rfl rfl ?_
      refine sv_iconst (v := 2) C d_Mo_formula_1 rfl ?_
      refine sv_icmp_eq (tgt := 21) C d_Mo_formula_2 (by decide) (fun h1 => ?_) (fun h1 => ?_)
      · refine sv_iconst (v := 1) C d_Mo_formula_21 rfl ?_
        refine sv_goto (tgt := 26) C d_Mo_formula_22 (by decide) ?_
        refine sv_istore C d_Mo_formula_26 (by decide) rfl ?_
        exact hj2 true ⟨fun _ => Or.inl h1, fun _ => rfl⟩
      · refine sv_iload_n C d_Mo_formula_5 rfl rfl ?_
        refine sv_iconst (v := 3) C d_Mo_formula_6 rfl ?_
        refine sv_icmp_eq (tgt := 21) C d_Mo_formula_7 (by decide) (fun h2 => ?_) (fun h2 => ?_)
        · refine sv_iconst (v := 1) C d_Mo_formula_21 rfl ?_
          refine sv_goto (tgt := 26) C d_Mo_formula_22 (by decide) ?_
          refine sv_istore C d_Mo_formula_26 (by decide) rfl ?_
          exact hj2 true ⟨fun _ => Or.inr (Or.inl h2), fun _ => rfl⟩
        · refine sv_iload_n C d_Mo_formula_10 rfl rfl ?_
          refine sv_iconst (v := 5) C d_Mo_formula_11 rfl ?_
          refine sv_icmp_eq (tgt := 21) C d_Mo_formula_12 (by decide) (fun h3 => ?_) (fun h3 => ?_)
          · refine sv_iconst (v := 1) C d_Mo_formula_21 rfl ?_
            refine sv_goto (tgt := 26) C d_Mo_formula_22 (by decide) ?_
            refine sv_istore C d_Mo_formula_26 (by decide) rfl ?_
            exact hj2 true ⟨fun _ => Or.inr (Or.inr (Or.inl h3)), fun _ => rfl⟩
          · refine sv_iload_n C d_Mo_formula_15 rfl rfl ?_
            refine sv_bipush (v := 7) C d_Mo_formula_16 rfl ?_
            refine sv_icmp_ne (tgt := 25) C d_Mo_formula_18 (by decide) (fun h4 => ?_) (fun h4 => ?_)
            · refine sv_iconst (v := 0) C d_Mo_formula_25 rfl ?_
              refine sv_istore C d_Mo_formula_26 (by decide) rfl ?_
              exact hj2 false ⟨fun q => absurd q Bool.false_ne_true, fun q => by rcases q with q | q | q | q; exact absurd q h1; exact absurd q h2; exact absurd q h3; exact absurd q h4⟩
            · refine sv_iconst (v := 1) C d_Mo_formula_21 rfl ?_
              refine sv_goto (tgt := 26) C d_Mo_formula_22 (by decide) ?_
              refine sv_istore C d_Mo_formula_26 (by decide) rfl ?_
              exact hj2 true ⟨fun _ => Or.inr (Or.inr (Or.inr h4)), fun _ => rfl⟩
