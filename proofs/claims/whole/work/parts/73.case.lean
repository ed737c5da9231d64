/-! The law: one call of each kind, on the class and on the reference -/
set_option maxRecDepth 100000 in
set_option maxHeartbeats 8000000 in
theorem la_begin {p : Program} {l : Launch} {e : Env} {s : State} {m : MethodId} {args : Array Value} {below : List Frame} {meth : Method} {c : Code} {D : va_G} {cI cJ cZ : ClassId} {A : Nat → Prop} {ad : Nat → Nat} {Q : State → Prop} {k n Ls i : Nat} {scr : Nat → Int32} {L : Nat → Nat → Int64} {I : Nat → Nat → Int32} {V : Nat → Int32} {W : Nat → Int32} {J : Nat → Nat → Int32} {B : Nat → Nat → Bool} {o : Nat → Int64} (C : sv_C p s m args meth c D sv_cl (sv_ty cI cJ cZ) A code 7 "StateLogicLaw" (some .boolean)) (hl : l.stackTraces = false) (hscr : sv_scr s A ad Ls scr) (hL : Ls ≤ 2560) (hi : i + 5 ≤ Ls) (hk : k + 4 ≤ 601024) (hn : n + 24 ≤ 7293034) (hinv : lw_inv L I V W J B) (nx : ∀ (L : Nat → Nat → Int64) (I : Nat → Nat → Int32) (V : Nat → Int32) (W : Nat → Int32) (J : Nat → Nat → Int32) (B : Nat → Nat → Bool) (o : Nat → Int64), lw_inv L I V W J B → sv_V p l e room_1 s m args below meth c D sv_cl A 7 ad Q 699 (lw_lv i) [] (hM cI cJ cZ L I V W J B [sv_J cJ 1 o]) (k + 4) (n + 24)) :
    sv_V p l e room_1 s m args below meth c D sv_cl A 7 ad Q 88 (lw_lv i) [] (hM cI cJ cZ L I V W J B [sv_J cJ 1 o]) k n := by
  obtain ⟨n0, r, mk, rl, kd, xs, ys, hsl, hmo⟩ := hinv
  have hin1 : vp_in (nI i + 1) Ls := by
    rw [show nI i + 1 = nI (i + 1) from nI_add i 1]
    exact vp_in_nI (by omega) (by omega)
  unfold lw_lv
  refine sv_aload_n C d_La_law_88 rfl rfl ?_
  refine sv_aload_n C d_La_law_89 rfl rfl ?_
  refine sv_iload C d_La_law_90 rfl ?_
  refine sv_iconst (v := 1) C d_La_law_92 rfl ?_
  refine sv_iadd C d_La_law_93 ?_
  refine sv_sld C hscr d_La_law_94 hin1 ?_
  refine sv_callSX C (c_La_begin (cI := cI) (cJ := cJ) (cZ := cZ) (L := L) (I := I) (V := V) (W := W) (J := J) (B := B) (o := o) hl (n := n0) (r := r) (mk := mk) (rl := rl) (kd := kd) (xs := xs) (ys := ys) hsl (x := (scr (nI i + 1).toNatClampNeg))) m_La_54 z_La k_La_begin kt_La_begin (by decide +kernel) (show (parseMethodDescriptor y_La_begin.desc).map (fun d => d.parameters.length) = some 2 by decide +kernel) ⟨rfl, rfl, Nat.le_of_ble_eq_true rfl, Nat.le_of_ble_eq_true rfl⟩ d_La_law_95 (Nat.le_of_ble_eq_true rfl) ⟨hk, hn⟩ (fun E ws9 h9 => absurd h9 id) (fun v9 ws9 hp => ?_)
  obtain ⟨u, rfl, L', I', V', rfl, hq⟩ := hp
  refine sv_istore C d_La_law_98 (by decide) rfl ?_
  refine sv_aload_n C d_La_law_100 rfl rfl ?_
  refine sv_aload_n C d_La_law_101 rfl rfl ?_
  refine sv_iload C d_La_law_102 rfl ?_
  refine sv_iconst (v := 1) C d_La_law_104 rfl ?_
  refine sv_iadd C d_La_law_105 ?_
  refine sv_sld C hscr d_La_law_106 hin1 ?_
  refine sv_callV (ci := 5) C (c_Mo_begin (cI := cI) (cJ := cJ) (cZ := cZ) (L := L') (I := I') (V := V') (W := W) (J := J) (B := B) (tl := [sv_J cJ 1 o]) (n := n0) (r := r) (mk := mk) (rl := rl) (kd := kd) (xs := xs) (ys := ys) hmo (x := (scr (nI i + 1).toNatClampNeg))) s_La_59 ki_Mo_begin ks_Mo_begin ⟨rfl, rfl, Nat.le_of_ble_eq_true rfl, Nat.le_of_ble_eq_true rfl⟩ rfl d_La_law_107 (by first | assumption | rfl) (Nat.le_of_ble_eq_true rfl) ⟨hk, hn⟩ (fun E ws9 h9 => absurd h9 id) (fun v9 ws9 hp => ?_)
  obtain ⟨rfl, W', J', B', rfl, hq'⟩ := hp
  have hf : W' 0 = u ∧ lw_inv L' I' V' W' J' B' := by
    rcases hq with ⟨rfl, a1, a2⟩ | ⟨rfl, a1, a2⟩ <;> rcases hq' with ⟨b1, b2, b3⟩ | ⟨b1, b2, b3⟩
    · exact ⟨b2, _, _, _, _, _, _, _, a2, b3⟩
    · exact absurd a1 b1
    · exact absurd b1 a1
    · exact ⟨b2, _, _, _, _, _, _, _, a2, b3⟩
  obtain ⟨e1, hinv'⟩ := hf
  refine sv_aload_n C d_La_law_110 rfl rfl ?_
  refine sv_callV (ci := 5) C (c_Mo_thrown (cI := cI) (cJ := cJ) (cZ := cZ) (L := L') (I := I') (V := V') (W := W') (J := J') (B := B') (tl := [sv_J cJ 1 o])) s_La_60 ki_Mo_thrown ks_Mo_thrown ⟨rfl, rfl, Nat.le_of_ble_eq_true rfl, Nat.le_of_ble_eq_true rfl⟩ rfl d_La_law_111 (by first | assumption | rfl) (Nat.le_of_ble_eq_true rfl) ⟨hk, hn⟩ (fun E ws9 h9 => absurd h9 id) (fun v9 ws9 hp => ?_)
  obtain ⟨rfl, rfl⟩ := hp
  refine sv_iload C d_La_law_114 rfl ?_
  refine sv_icmp_eq (tgt := 121) C d_La_law_116 (by decide) (fun h => ?_) (fun h => ?_)
  · refine sv_goto (tgt := 699) C d_La_law_121 (by decide) ?_
    refine sv_drop [true, true, true, true, true, false, false] ?_
    exact nx _ _ _ _ _ _ _ hinv'
  · exact absurd e1 h
set_option maxRecDepth 100000 in
set_option maxHeartbeats 8000000 in
theorem la_rule {p : Program} {l : Launch} {e : Env} {s : State} {m : MethodId} {args : Array Value} {below : List Frame} {meth : Method} {c : Code} {D : va_G} {cI cJ cZ : ClassId} {A : Nat → Prop} {ad : Nat → Nat} {Q : State → Prop} {k n Ls i : Nat} {scr : Nat → Int32} {L : Nat → Nat → Int64} {I : Nat → Nat → Int32} {V : Nat → Int32} {W : Nat → Int32} {J : Nat → Nat → Int32} {B : Nat → Nat → Bool} {o : Nat → Int64} (C : sv_C p s m args meth c D sv_cl (sv_ty cI cJ cZ) A code 7 "StateLogicLaw" (some .boolean)) (hl : l.stackTraces = false) (hscr : sv_scr s A ad Ls scr) (hL : Ls ≤ 2560) (hi : i + 5 ≤ Ls) (hk : k + 4 ≤ 601024) (hn : n + 24 ≤ 7293034) (hinv : lw_inv L I V W J B) (nx : ∀ (L : Nat → Nat → Int64) (I : Nat → Nat → Int32) (V : Nat → Int32) (W : Nat → Int32) (J : Nat → Nat → Int32) (B : Nat → Nat → Bool) (o : Nat → Int64), lw_inv L I V W J B → sv_V p l e room_1 s m args below meth c D sv_cl A 7 ad Q 699 (lw_lv i) [] (hM cI cJ cZ L I V W J B [sv_J cJ 1 o]) (k + 4) (n + 24)) :
    sv_V p l e room_1 s m args below meth c D sv_cl A 7 ad Q 124 (lw_lv i) [] (hM cI cJ cZ L I V W J B [sv_J cJ 1 o]) k n := by
  obtain ⟨n0, r, mk, rl, kd, xs, ys, hsl, hmo⟩ := hinv
  have hin1 : vp_in (nI i + 1) Ls := by
    rw [show nI i + 1 = nI (i + 1) from nI_add i 1]
    exact vp_in_nI (by omega) (by omega)
  have hin2 : vp_in (nI i + 2) Ls := by
    rw [show nI i + 2 = nI (i + 2) from nI_add i 2]
    exact vp_in_nI (by omega) (by omega)
  have hin3 : vp_in (nI i + 3) Ls := by
    rw [show nI i + 3 = nI (i + 3) from nI_add i 3]
    exact vp_in_nI (by omega) (by omega)
  have hin4 : vp_in (nI i + 4) Ls := by
    rw [show nI i + 4 = nI (i + 4) from nI_add i 4]
    exact vp_in_nI (by omega) (by omega)
  unfold lw_lv
  refine sv_aload_n C d_La_law_124 rfl rfl ?_
  refine sv_aload_n C d_La_law_125 rfl rfl ?_
  refine sv_iload C d_La_law_126 rfl ?_
  refine sv_iconst (v := 1) C d_La_law_128 rfl ?_
  refine sv_iadd C d_La_law_129 ?_
  refine sv_sld C hscr d_La_law_130 hin1 ?_
  refine sv_aload_n C d_La_law_131 rfl rfl ?_
  refine sv_iload C d_La_law_132 rfl ?_
  refine sv_iconst (v := 2) C d_La_law_134 rfl ?_
  refine sv_iadd C d_La_law_135 ?_
  refine sv_sld C hscr d_La_law_136 hin2 ?_
  refine sv_aload_n C d_La_law_137 rfl rfl ?_
  refine sv_iload C d_La_law_138 rfl ?_
  refine sv_iconst (v := 3) C d_La_law_140 rfl ?_
  refine sv_iadd C d_La_law_141 ?_
  refine sv_sld C hscr d_La_law_142 hin3 ?_
  refine sv_aload_n C d_La_law_143 rfl rfl ?_
  refine sv_iload C d_La_law_144 rfl ?_
  refine sv_iconst (v := 4) C d_La_law_146 rfl ?_
  refine sv_iadd C d_La_law_147 ?_
  refine sv_sld C hscr d_La_law_148 hin4 ?_
  refine sv_aload_n C d_La_law_149 rfl rfl ?_
  refine sv_callSX C (c_La_rule (cI := cI) (cJ := cJ) (cZ := cZ) (L := L) (I := I) (V := V) (W := W) (J := J) (B := B) (o := o) hl (n := n0) (r := r) (mk := mk) (rl := rl) (kd := kd) (xs := xs) (ys := ys) hsl (m := (scr (nI i + 1).toNatClampNeg)) (v := (scr (nI i + 2).toNatClampNeg)) (k := (scr (nI i + 3).toNatClampNeg)) (f := (scr (nI i + 4).toNatClampNeg))) m_La_64 z_La k_La_rule kt_La_rule (by decide +kernel) (show (parseMethodDescriptor y_La_rule.desc).map (fun d => d.parameters.length) = some 6 by decide +kernel) ⟨rfl, rfl, Nat.le_of_ble_eq_true rfl, Nat.le_of_ble_eq_true rfl⟩ d_La_law_150 (Nat.le_of_ble_eq_true rfl) ⟨hk, hn⟩ (fun E ws9 h9 => absurd h9 id) (fun v9 ws9 hp => ?_)
  obtain ⟨u, rfl, L', I', V', o', rfl, hq⟩ := hp
  refine sv_istore C d_La_law_153 (by decide) rfl ?_
  refine sv_aload_n C d_La_law_155 rfl rfl ?_
  refine sv_aload_n C d_La_law_156 rfl rfl ?_
  refine sv_iload C d_La_law_157 rfl ?_
  refine sv_iconst (v := 1) C d_La_law_159 rfl ?_
  refine sv_iadd C d_La_law_160 ?_
  refine sv_sld C hscr d_La_law_161 hin1 ?_
  refine sv_aload_n C d_La_law_162 rfl rfl ?_
  refine sv_iload C d_La_law_163 rfl ?_
  refine sv_iconst (v := 2) C d_La_law_165 rfl ?_
  refine sv_iadd C d_La_law_166 ?_
  refine sv_sld C hscr d_La_law_167 hin2 ?_
  refine sv_aload_n C d_La_law_168 rfl rfl ?_
  refine sv_iload C d_La_law_169 rfl ?_
  refine sv_iconst (v := 3) C d_La_law_171 rfl ?_
  refine sv_iadd C d_La_law_172 ?_
  refine sv_sld C hscr d_La_law_173 hin3 ?_
  refine sv_aload_n C d_La_law_174 rfl rfl ?_
  refine sv_iload C d_La_law_175 rfl ?_
  refine sv_iconst (v := 4) C d_La_law_177 rfl ?_
  refine sv_iadd C d_La_law_178 ?_
  refine sv_sld C hscr d_La_law_179 hin4 ?_
  refine sv_callV (ci := 5) C (c_Mo_rule (cI := cI) (cJ := cJ) (cZ := cZ) (L := L') (I := I') (V := V') (W := W) (J := J) (B := B) (tl := [sv_J cJ 1 o']) (n := n0) (r := r) (mk := mk) (rl := rl) (kd := kd) (xs := xs) (ys := ys) hmo (m := (scr (nI i + 1).toNatClampNeg)) (v := (scr (nI i + 2).toNatClampNeg)) (k := (scr (nI i + 3).toNatClampNeg)) (f := (scr (nI i + 4).toNatClampNeg))) s_La_67 ki_Mo_rule ks_Mo_rule ⟨rfl, rfl, Nat.le_of_ble_eq_true rfl, Nat.le_of_ble_eq_true rfl⟩ rfl d_La_law_180 (by first | assumption | rfl) (Nat.le_of_ble_eq_true rfl) ⟨hk, hn⟩ (fun E ws9 h9 => absurd h9 id) (fun v9 ws9 hp => ?_)
  obtain ⟨x', rfl, W', J', B', rfl, hq'⟩ := hp
  have hf : W' 0 = u ∧ (u = 0 → o' 0 = x'.toInt64) ∧ lw_inv L' I' V' W' J' B' := by
    rcases hq with ⟨rfl, a0, a1, a2, a3⟩ | ⟨rfl, a1, a3⟩ | ⟨rfl, ⟨a1, a2⟩, a3⟩ <;> rcases hq' with ⟨b1, b2, b4, rfl, b3⟩ | ⟨b1, b4, b3⟩ | ⟨b1, b2, b4, b3⟩
    · exact ⟨b4, fun _ => a0, _, _, _, _, _, _, _, a3, b3⟩
    · exact absurd a1 b1
    · exact absurd a2 b2
    · exact absurd b1 a1
    · exact ⟨b4, fun h => absurd h (by decide), _, _, _, _, _, _, _, a3, b3⟩
    · exact absurd b1 a1
    · exact absurd b2 a2
    · exact absurd a1 b1
    · exact ⟨b4, fun h => absurd h (by decide), _, _, _, _, _, _, _, a3, b3⟩
  obtain ⟨e1, e2, hinv'⟩ := hf
  refine sv_istore C d_La_law_183 (by decide) rfl ?_
  refine sv_aload_n C d_La_law_185 rfl rfl ?_
  refine sv_callV (ci := 5) C (c_Mo_thrown (cI := cI) (cJ := cJ) (cZ := cZ) (L := L') (I := I') (V := V') (W := W') (J := J') (B := B') (tl := [sv_J cJ 1 o'])) s_La_60 ki_Mo_thrown ks_Mo_thrown ⟨rfl, rfl, Nat.le_of_ble_eq_true rfl, Nat.le_of_ble_eq_true rfl⟩ rfl d_La_law_186 (by first | assumption | rfl) (Nat.le_of_ble_eq_true rfl) ⟨hk, hn⟩ (fun E ws9 h9 => absurd h9 id) (fun v9 ws9 hp => ?_)
  obtain ⟨rfl, rfl⟩ := hp
  refine sv_iload C d_La_law_189 rfl ?_
  refine sv_icmp_eq (tgt := 196) C d_La_law_191 (by decide) (fun h => ?_) (fun h => ?_)
  rotate_left
  · exact absurd e1 h
  refine sv_iload C d_La_law_196 rfl ?_
  refine sv_if_ne (tgt := 213) C d_La_law_198 (by decide) (fun h5 => ?_) (fun h5 => ?_)
  · refine sv_goto (tgt := 699) C d_La_law_213 (by decide) ?_
    refine sv_drop [true, true, true, true, true, false, false] ?_
    exact nx _ _ _ _ _ _ _ hinv'
  · refine sv_aload_n C d_La_law_201 rfl rfl ?_
    refine sv_iconst (v := 0) C d_La_law_202 rfl ?_
    refine sv_lald (t0 := 1) C rfl d_La_law_203 (by first | assumption | rfl) in01 ?_
    refine sv_iload C d_La_law_204 rfl ?_
    refine sv_i2l C d_La_law_206 ?_
    refine sv_lcmp C d_La_law_207 ?_
    refine sv_eqs (st' := [.int 0]) (by rw [show o' (0 : Int32).toNatClampNeg = x'.toInt64 from e2 h5, lg_cmp_rf]; rfl) ?_
    refine sv_if_eq (tgt := 213) C d_La_law_208 (by decide) (fun h6 => ?_) (fun h6 => ?_)
    · refine sv_goto (tgt := 699) C d_La_law_213 (by decide) ?_
      refine sv_drop [true, true, true, true, true, false, false] ?_
      exact nx _ _ _ _ _ _ _ hinv'
    · exact absurd rfl h6
set_option maxRecDepth 100000 in
set_option maxHeartbeats 8000000 in
theorem la_formula {p : Program} {l : Launch} {e : Env} {s : State} {m : MethodId} {args : Array Value} {below : List Frame} {meth : Method} {c : Code} {D : va_G} {cI cJ cZ : ClassId} {A : Nat → Prop} {ad : Nat → Nat} {Q : State → Prop} {k n Ls i : Nat} {scr : Nat → Int32} {L : Nat → Nat → Int64} {I : Nat → Nat → Int32} {V : Nat → Int32} {W : Nat → Int32} {J : Nat → Nat → Int32} {B : Nat → Nat → Bool} {o : Nat → Int64} (C : sv_C p s m args meth c D sv_cl (sv_ty cI cJ cZ) A code 7 "StateLogicLaw" (some .boolean)) (hl : l.stackTraces = false) (hscr : sv_scr s A ad Ls scr) (hL : Ls ≤ 2560) (hi : i + 5 ≤ Ls) (hk : k + 4 ≤ 601024) (hn : n + 24 ≤ 7293034) (hinv : lw_inv L I V W J B) (nx : ∀ (L : Nat → Nat → Int64) (I : Nat → Nat → Int32) (V : Nat → Int32) (W : Nat → Int32) (J : Nat → Nat → Int32) (B : Nat → Nat → Bool) (o : Nat → Int64), lw_inv L I V W J B → sv_V p l e room_1 s m args below meth c D sv_cl A 7 ad Q 699 (lw_lv i) [] (hM cI cJ cZ L I V W J B [sv_J cJ 1 o]) (k + 4) (n + 24)) :
    sv_V p l e room_1 s m args below meth c D sv_cl A 7 ad Q 216 (lw_lv i) [] (hM cI cJ cZ L I V W J B [sv_J cJ 1 o]) k n := by
  obtain ⟨n0, r, mk, rl, kd, xs, ys, hsl, hmo⟩ := hinv
  have hin1 : vp_in (nI i + 1) Ls := by
    rw [show nI i + 1 = nI (i + 1) from nI_add i 1]
    exact vp_in_nI (by omega) (by omega)
  have hin2 : vp_in (nI i + 2) Ls := by
    rw [show nI i + 2 = nI (i + 2) from nI_add i 2]
    exact vp_in_nI (by omega) (by omega)
  have hin3 : vp_in (nI i + 3) Ls := by
    rw [show nI i + 3 = nI (i + 3) from nI_add i 3]
    exact vp_in_nI (by omega) (by omega)
  unfold lw_lv
  refine sv_aload_n C d_La_law_216 rfl rfl ?_
  refine sv_aload_n C d_La_law_217 rfl rfl ?_
  refine sv_iload C d_La_law_218 rfl ?_
  refine sv_iconst (v := 1) C d_La_law_220 rfl ?_
  refine sv_iadd C d_La_law_221 ?_
  refine sv_sld C hscr d_La_law_222 hin1 ?_
  refine sv_aload_n C d_La_law_223 rfl rfl ?_
  refine sv_iload C d_La_law_224 rfl ?_
  refine sv_iconst (v := 2) C d_La_law_226 rfl ?_
  refine sv_iadd C d_La_law_227 ?_
  refine sv_sld C hscr d_La_law_228 hin2 ?_
  refine sv_aload_n C d_La_law_229 rfl rfl ?_
  refine sv_iload C d_La_law_230 rfl ?_
  refine sv_iconst (v := 3) C d_La_law_232 rfl ?_
  refine sv_iadd C d_La_law_233 ?_
  refine sv_sld C hscr d_La_law_234 hin3 ?_
  refine sv_aload_n C d_La_law_235 rfl rfl ?_
  refine sv_callSX C (c_La_formula (cI := cI) (cJ := cJ) (cZ := cZ) (L := L) (I := I) (V := V) (W := W) (J := J) (B := B) (o := o) hl (n := n0) (r := r) (mk := mk) (rl := rl) (kd := kd) (xs := xs) (ys := ys) hsl (k := (scr (nI i + 1).toNatClampNeg)) (x := (scr (nI i + 2).toNatClampNeg)) (y := (scr (nI i + 3).toNatClampNeg))) m_La_68 z_La k_La_formula kt_La_formula (by decide +kernel) (show (parseMethodDescriptor y_La_formula.desc).map (fun d => d.parameters.length) = some 5 by decide +kernel) ⟨rfl, rfl, Nat.le_of_ble_eq_true rfl, Nat.le_of_ble_eq_true rfl⟩ d_La_law_236 (Nat.le_of_ble_eq_true rfl) ⟨hk, hn⟩ (fun E ws9 h9 => absurd h9 id) (fun v9 ws9 hp => ?_)
  obtain ⟨u, rfl, L', I', V', o', rfl, hq⟩ := hp
  refine sv_istore C d_La_law_239 (by decide) rfl ?_
  refine sv_aload_n C d_La_law_241 rfl rfl ?_
  refine sv_aload_n C d_La_law_242 rfl rfl ?_
  refine sv_iload C d_La_law_243 rfl ?_
  refine sv_iconst (v := 1) C d_La_law_245 rfl ?_
  refine sv_iadd C d_La_law_246 ?_
  refine sv_sld C hscr d_La_law_247 hin1 ?_
  refine sv_aload_n C d_La_law_248 rfl rfl ?_
  refine sv_iload C d_La_law_249 rfl ?_
  refine sv_iconst (v := 2) C d_La_law_251 rfl ?_
  refine sv_iadd C d_La_law_252 ?_
  refine sv_sld C hscr d_La_law_253 hin2 ?_
  refine sv_aload_n C d_La_law_254 rfl rfl ?_
  refine sv_iload C d_La_law_255 rfl ?_
  refine sv_iconst (v := 3) C d_La_law_257 rfl ?_
  refine sv_iadd C d_La_law_258 ?_
  refine sv_sld C hscr d_La_law_259 hin3 ?_
  refine sv_callV (ci := 5) C (c_Mo_formula (cI := cI) (cJ := cJ) (cZ := cZ) (L := L') (I := I') (V := V') (W := W) (J := J) (B := B) (tl := [sv_J cJ 1 o']) (n := n0) (r := r) (mk := mk) (rl := rl) (kd := kd) (xs := xs) (ys := ys) hmo (k := (scr (nI i + 1).toNatClampNeg)) (x := (scr (nI i + 2).toNatClampNeg)) (y := (scr (nI i + 3).toNatClampNeg))) s_La_71 ki_Mo_formula ks_Mo_formula ⟨rfl, rfl, Nat.le_of_ble_eq_true rfl, Nat.le_of_ble_eq_true rfl⟩ rfl d_La_law_260 (by first | assumption | rfl) (Nat.le_of_ble_eq_true rfl) ⟨hk, hn⟩ (fun E ws9 h9 => absurd h9 id) (fun v9 ws9 hp => ?_)
  obtain ⟨x', rfl, W', J', B', rfl, hq'⟩ := hp
  have hf : W' 0 = u ∧ (u = 0 → o' 0 = x'.toInt64) ∧ lw_inv L' I' V' W' J' B' := by
    rcases hq with ⟨rfl, a0, a1, a2, a3⟩ | ⟨rfl, a1, a3⟩ | ⟨rfl, ⟨a1, a2⟩, a3⟩ <;> rcases hq' with ⟨b1, b2, b4, rfl, b3⟩ | ⟨b1, b4, b3⟩ | ⟨b1, b2, b4, b3⟩
    · exact ⟨b4, fun _ => a0, _, _, _, _, _, _, _, a3, b3⟩
    · exact absurd a1 b1
    · exact absurd a2 b2
    · exact absurd b1 a1
    · exact ⟨b4, fun h => absurd h (by decide), _, _, _, _, _, _, _, a3, b3⟩
    · exact absurd b1 a1
    · exact absurd b2 a2
    · exact absurd a1 b1
    · exact ⟨b4, fun h => absurd h (by decide), _, _, _, _, _, _, _, a3, b3⟩
  obtain ⟨e1, e2, hinv'⟩ := hf
  refine sv_istore C d_La_law_263 (by decide) rfl ?_
  refine sv_aload_n C d_La_law_265 rfl rfl ?_
  refine sv_callV (ci := 5) C (c_Mo_thrown (cI := cI) (cJ := cJ) (cZ := cZ) (L := L') (I := I') (V := V') (W := W') (J := J') (B := B') (tl := [sv_J cJ 1 o'])) s_La_60 ki_Mo_thrown ks_Mo_thrown ⟨rfl, rfl, Nat.le_of_ble_eq_true rfl, Nat.le_of_ble_eq_true rfl⟩ rfl d_La_law_266 (by first | assumption | rfl) (Nat.le_of_ble_eq_true rfl) ⟨hk, hn⟩ (fun E ws9 h9 => absurd h9 id) (fun v9 ws9 hp => ?_)
  obtain ⟨rfl, rfl⟩ := hp
  refine sv_iload C d_La_law_269 rfl ?_
  refine sv_icmp_eq (tgt := 276) C d_La_law_271 (by decide) (fun h => ?_) (fun h => ?_)
  rotate_left
  · exact absurd e1 h
  refine sv_iload C d_La_law_276 rfl ?_
  refine sv_if_ne (tgt := 293) C d_La_law_278 (by decide) (fun h5 => ?_) (fun h5 => ?_)
  · refine sv_goto (tgt := 699) C d_La_law_293 (by decide) ?_
    refine sv_drop [true, true, true, true, true, false, false] ?_
    exact nx _ _ _ _ _ _ _ hinv'
  · refine sv_aload_n C d_La_law_281 rfl rfl ?_
    refine sv_iconst (v := 0) C d_La_law_282 rfl ?_
    refine sv_lald (t0 := 1) C rfl d_La_law_283 (by first | assumption | rfl) in01 ?_
    refine sv_iload C d_La_law_284 rfl ?_
    refine sv_i2l C d_La_law_286 ?_
    refine sv_lcmp C d_La_law_287 ?_
    refine sv_eqs (st' := [.int 0]) (by rw [show o' (0 : Int32).toNatClampNeg = x'.toInt64 from e2 h5, lg_cmp_rf]; rfl) ?_
    refine sv_if_eq (tgt := 293) C d_La_law_288 (by decide) (fun h6 => ?_) (fun h6 => ?_)
    · refine sv_goto (tgt := 699) C d_La_law_293 (by decide) ?_
      refine sv_drop [true, true, true, true, true, false, false] ?_
      exact nx _ _ _ _ _ _ _ hinv'
    · exact absurd rfl h6
set_option maxRecDepth 100000 in
set_option maxHeartbeats 8000000 in
theorem la_holds {p : Program} {l : Launch} {e : Env} {s : State} {m : MethodId} {args : Array Value} {below : List Frame} {meth : Method} {c : Code} {D : va_G} {cI cJ cZ : ClassId} {A : Nat → Prop} {ad : Nat → Nat} {Q : State → Prop} {k n Ls i : Nat} {scr : Nat → Int32} {L : Nat → Nat → Int64} {I : Nat → Nat → Int32} {V : Nat → Int32} {W : Nat → Int32} {J : Nat → Nat → Int32} {B : Nat → Nat → Bool} {o : Nat → Int64} (C : sv_C p s m args meth c D sv_cl (sv_ty cI cJ cZ) A code 7 "StateLogicLaw" (some .boolean)) (hl : l.stackTraces = false) (hscr : sv_scr s A ad Ls scr) (hL : Ls ≤ 2560) (hi : i + 5 ≤ Ls) (hk : k + 4 ≤ 601024) (hn : n + 24 ≤ 7293034) (hinv : lw_inv L I V W J B) (nx : ∀ (L : Nat → Nat → Int64) (I : Nat → Nat → Int32) (V : Nat → Int32) (W : Nat → Int32) (J : Nat → Nat → Int32) (B : Nat → Nat → Bool) (o : Nat → Int64), lw_inv L I V W J B → sv_V p l e room_1 s m args below meth c D sv_cl A 7 ad Q 699 (lw_lv i) [] (hM cI cJ cZ L I V W J B [sv_J cJ 1 o]) (k + 4) (n + 24)) :
    sv_V p l e room_1 s m args below meth c D sv_cl A 7 ad Q 296 (lw_lv i) [] (hM cI cJ cZ L I V W J B [sv_J cJ 1 o]) k n := by
  obtain ⟨n0, r, mk, rl, kd, xs, ys, hsl, hmo⟩ := hinv
  have hin1 : vp_in (nI i + 1) Ls := by
    rw [show nI i + 1 = nI (i + 1) from nI_add i 1]
    exact vp_in_nI (by omega) (by omega)
  have hin2 : vp_in (nI i + 2) Ls := by
    rw [show nI i + 2 = nI (i + 2) from nI_add i 2]
    exact vp_in_nI (by omega) (by omega)
  unfold lw_lv
  refine sv_aload_n C d_La_law_296 rfl rfl ?_
  refine sv_aload_n C d_La_law_297 rfl rfl ?_
  refine sv_iload C d_La_law_298 rfl ?_
  refine sv_iconst (v := 1) C d_La_law_300 rfl ?_
  refine sv_iadd C d_La_law_301 ?_
  refine sv_sld C hscr d_La_law_302 hin1 ?_
  refine sv_aload_n C d_La_law_303 rfl rfl ?_
  refine sv_iload C d_La_law_304 rfl ?_
  refine sv_iconst (v := 2) C d_La_law_306 rfl ?_
  refine sv_iadd C d_La_law_307 ?_
  refine sv_sld C hscr d_La_law_308 hin2 ?_
  refine sv_aload_n C d_La_law_309 rfl rfl ?_
  refine sv_callSX C (c_La_holds (cI := cI) (cJ := cJ) (cZ := cZ) (L := L) (I := I) (V := V) (W := W) (J := J) (B := B) (o := o) hl (n := n0) (r := r) (mk := mk) (rl := rl) (kd := kd) (xs := xs) (ys := ys) hsl (f := (scr (nI i + 1).toNatClampNeg)) (s := (scr (nI i + 2).toNatClampNeg))) m_La_72 z_La k_La_holds kt_La_holds (by decide +kernel) (show (parseMethodDescriptor y_La_holds.desc).map (fun d => d.parameters.length) = some 4 by decide +kernel) ⟨rfl, rfl, Nat.le_of_ble_eq_true rfl, Nat.le_of_ble_eq_true rfl⟩ d_La_law_310 (Nat.le_of_ble_eq_true rfl) ⟨hk, hn⟩ (fun E ws9 h9 => absurd h9 id) (fun v9 ws9 hp => ?_)
  obtain ⟨u, rfl, L', I', V', o', x, rfl, hsl', hu0, hq⟩ := hp
  refine sv_istore C d_La_law_313 (by decide) rfl ?_
  refine sv_aload_n C d_La_law_315 rfl rfl ?_
  refine sv_aload_n C d_La_law_316 rfl rfl ?_
  refine sv_iload C d_La_law_317 rfl ?_
  refine sv_iconst (v := 1) C d_La_law_319 rfl ?_
  refine sv_iadd C d_La_law_320 ?_
  refine sv_sld C hscr d_La_law_321 hin1 ?_
  refine sv_aload_n C d_La_law_322 rfl rfl ?_
  refine sv_iload C d_La_law_323 rfl ?_
  refine sv_iconst (v := 2) C d_La_law_325 rfl ?_
  refine sv_iadd C d_La_law_326 ?_
  refine sv_sld C hscr d_La_law_327 hin2 ?_
  refine sv_callV (ci := 5) C (c_Mo_holds (cI := cI) (cJ := cJ) (cZ := cZ) (L := L') (I := I') (V := V') (W := W) (J := J) (B := B) (tl := [sv_J cJ 1 o']) (n := n0) (r := r) (mk := mk) (rl := rl) (kd := kd) (xs := xs) (ys := ys) hmo (f := (scr (nI i + 1).toNatClampNeg)) (s := (scr (nI i + 2).toNatClampNeg))) s_La_75 ki_Mo_holds ks_Mo_holds ⟨rfl, rfl, Nat.le_of_ble_eq_true rfl, Nat.le_of_ble_eq_true rfl⟩ rfl d_La_law_328 (by first | assumption | rfl) (Nat.le_of_ble_eq_true rfl) ⟨hk, hn⟩ (fun E ws9 h9 => absurd h9 id) (fun v9 ws9 hp => ?_)
  obtain ⟨x', rfl, W', J', B', rfl, hmo', hq'⟩ := hp
  have hq2 : aHo n0 r mk rl kd xs ys (scr (nI i + 1).toNatClampNeg) (scr (nI i + 2).toNatClampNeg) (W' 0) x' := by
    rcases hq' with ⟨a1, a2, a3, a4⟩ | ⟨a1, a2⟩
    · exact Or.inl ⟨a3, a1, a2, a4⟩
    · exact Or.inr ⟨a2, a1⟩
  obtain ⟨e1, e3⟩ := aHo_un hq hq2
  have e2 : u = 0 → o' 0 = x'.toInt64 := fun h => by rw [hu0 h, e3 h]
  have hinv' : lw_inv L' I' V' W' J' B' := ⟨_, _, _, _, _, _, _, hsl', hmo'⟩
  refine sv_istore C d_La_law_331 (by decide) rfl ?_
  refine sv_aload_n C d_La_law_333 rfl rfl ?_
  refine sv_callV (ci := 5) C (c_Mo_thrown (cI := cI) (cJ := cJ) (cZ := cZ) (L := L') (I := I') (V := V') (W := W') (J := J') (B := B') (tl := [sv_J cJ 1 o'])) s_La_60 ki_Mo_thrown ks_Mo_thrown ⟨rfl, rfl, Nat.le_of_ble_eq_true rfl, Nat.le_of_ble_eq_true rfl⟩ rfl d_La_law_334 (by first | assumption | rfl) (Nat.le_of_ble_eq_true rfl) ⟨hk, hn⟩ (fun E ws9 h9 => absurd h9 id) (fun v9 ws9 hp => ?_)
  obtain ⟨rfl, rfl⟩ := hp
  refine sv_iload C d_La_law_337 rfl ?_
  refine sv_icmp_eq (tgt := 344) C d_La_law_339 (by decide) (fun h => ?_) (fun h => ?_)
  rotate_left
  · exact absurd e1 h
  refine sv_iload C d_La_law_344 rfl ?_
  refine sv_if_ne (tgt := 368) C d_La_law_346 (by decide) (fun h5 => ?_) (fun h5 => ?_)
  · refine sv_goto (tgt := 699) C d_La_law_368 (by decide) ?_
    refine sv_drop [true, true, true, true, true, false, false] ?_
    exact nx _ _ _ _ _ _ _ hinv'
  · have e4 : ∃ t : Bool, x' = b2i t := by
      rcases hq2 with ⟨-, -, -, t, e4, -⟩ | ⟨q, -⟩
      · exact ⟨t, e4⟩
      · exact absurd (e1.symm.trans q) (by rw [h5]; decide)
    obtain ⟨t, rfl⟩ := e4
    have e2 := e2 h5
    refine sv_aload_n C d_La_law_349 rfl rfl ?_
    refine sv_iconst (v := 0) C d_La_law_350 rfl ?_
    refine sv_lald (t0 := 1) C rfl d_La_law_351 (by first | assumption | rfl) in01 ?_
    refine sv_iload C d_La_law_352 rfl ?_
    cases t with
    | true =>
      refine sv_if_eq (tgt := 361) C d_La_law_354 (by decide) (fun h6 => ?_) (fun h6 => ?_)
      · exact absurd (show b2i true = 0 from h6) (by decide)
      · refine sv_lconst (v := 1) C d_La_law_357 rfl ?_
        refine sv_goto (tgt := 362) C d_La_law_358 (by decide) ?_
        refine sv_lcmp C d_La_law_362 ?_
        refine sv_eqs (st' := [.int 0]) (by rw [show o' (0 : Int32).toNatClampNeg = 1 from e2, lg_cmp_rf]; rfl) ?_
        refine sv_if_eq (tgt := 368) C d_La_law_363 (by decide) (fun h7 => ?_) (fun h7 => ?_)
        · refine sv_goto (tgt := 699) C d_La_law_368 (by decide) ?_
          refine sv_drop [true, true, true, true, true, false, false] ?_
          exact nx _ _ _ _ _ _ _ hinv'
        · exact absurd rfl h7
    | false =>
      refine sv_if_eq (tgt := 361) C d_La_law_354 (by decide) (fun h6 => ?_) (fun h6 => ?_)
      · refine sv_lconst (v := 0) C d_La_law_361 rfl ?_
        refine sv_lcmp C d_La_law_362 ?_
        refine sv_eqs (st' := [.int 0]) (by rw [show o' (0 : Int32).toNatClampNeg = 0 from e2, lg_cmp_rf]; rfl) ?_
        refine sv_if_eq (tgt := 368) C d_La_law_363 (by decide) (fun h7 => ?_) (fun h7 => ?_)
        · refine sv_goto (tgt := 699) C d_La_law_368 (by decide) ?_
          refine sv_drop [true, true, true, true, true, false, false] ?_
          exact nx _ _ _ _ _ _ _ hinv'
        · exact absurd rfl h7
      · exact absurd rfl h6
set_option maxRecDepth 100000 in
set_option maxHeartbeats 8000000 in
theorem la_count {p : Program} {l : Launch} {e : Env} {s : State} {m : MethodId} {args : Array Value} {below : List Frame} {meth : Method} {c : Code} {D : va_G} {cI cJ cZ : ClassId} {A : Nat → Prop} {ad : Nat → Nat} {Q : State → Prop} {k n Ls i : Nat} {scr : Nat → Int32} {L : Nat → Nat → Int64} {I : Nat → Nat → Int32} {V : Nat → Int32} {W : Nat → Int32} {J : Nat → Nat → Int32} {B : Nat → Nat → Bool} {o : Nat → Int64} (C : sv_C p s m args meth c D sv_cl (sv_ty cI cJ cZ) A code 7 "StateLogicLaw" (some .boolean)) (hl : l.stackTraces = false) (hscr : sv_scr s A ad Ls scr) (hL : Ls ≤ 2560) (hi : i + 5 ≤ Ls) (hk : k + 4 ≤ 601024) (hn : n + 24 ≤ 7293034) (hinv : lw_inv L I V W J B) (nx : ∀ (L : Nat → Nat → Int64) (I : Nat → Nat → Int32) (V : Nat → Int32) (W : Nat → Int32) (J : Nat → Nat → Int32) (B : Nat → Nat → Bool) (o : Nat → Int64), lw_inv L I V W J B → sv_V p l e room_1 s m args below meth c D sv_cl A 7 ad Q 699 (lw_lv i) [] (hM cI cJ cZ L I V W J B [sv_J cJ 1 o]) (k + 4) (n + 24)) :
    sv_V p l e room_1 s m args below meth c D sv_cl A 7 ad Q 371 (lw_lv i) [] (hM cI cJ cZ L I V W J B [sv_J cJ 1 o]) k n := by
  obtain ⟨n0, r, mk, rl, kd, xs, ys, hsl, hmo⟩ := hinv
  have hin1 : vp_in (nI i + 1) Ls := by
    rw [show nI i + 1 = nI (i + 1) from nI_add i 1]
    exact vp_in_nI (by omega) (by omega)
  unfold lw_lv
  refine sv_aload_n C d_La_law_371 rfl rfl ?_
  refine sv_aload_n C d_La_law_372 rfl rfl ?_
  refine sv_iload C d_La_law_373 rfl ?_
  refine sv_iconst (v := 1) C d_La_law_375 rfl ?_
  refine sv_iadd C d_La_law_376 ?_
  refine sv_sld C hscr d_La_law_377 hin1 ?_
  refine sv_aload_n C d_La_law_378 rfl rfl ?_
  refine sv_callSX C (c_La_count (cI := cI) (cJ := cJ) (cZ := cZ) (L := L) (I := I) (V := V) (W := W) (J := J) (B := B) (o := o) hl (n := n0) (r := r) (mk := mk) (rl := rl) (kd := kd) (xs := xs) (ys := ys) hsl (f := (scr (nI i + 1).toNatClampNeg))) m_La_76 z_La k_La_count kt_La_count (by decide +kernel) (show (parseMethodDescriptor y_La_count.desc).map (fun d => d.parameters.length) = some 3 by decide +kernel) ⟨rfl, rfl, Nat.le_of_ble_eq_true rfl, Nat.le_of_ble_eq_true rfl⟩ d_La_law_379 (Nat.le_of_ble_eq_true rfl) ⟨hk, hn⟩ (fun E ws9 h9 => absurd h9 id) (fun v9 ws9 hp => ?_)
  obtain ⟨u, rfl, L', I', V', o', x, rfl, hsl', hu0, hq⟩ := hp
  refine sv_istore C d_La_law_382 (by decide) rfl ?_
  refine sv_aload_n C d_La_law_384 rfl rfl ?_
  refine sv_aload_n C d_La_law_385 rfl rfl ?_
  refine sv_iload C d_La_law_386 rfl ?_
  refine sv_iconst (v := 1) C d_La_law_388 rfl ?_
  refine sv_iadd C d_La_law_389 ?_
  refine sv_sld C hscr d_La_law_390 hin1 ?_
  refine sv_callV (ci := 5) C (c_Mo_count (cI := cI) (cJ := cJ) (cZ := cZ) (L := L') (I := I') (V := V') (W := W) (J := J) (B := B) (tl := [sv_J cJ 1 o']) (n := n0) (r := r) (mk := mk) (rl := rl) (kd := kd) (xs := xs) (ys := ys) hmo (f := (scr (nI i + 1).toNatClampNeg))) s_La_79 ki_Mo_count ks_Mo_count ⟨rfl, rfl, Nat.le_of_ble_eq_true rfl, Nat.le_of_ble_eq_true rfl⟩ rfl d_La_law_391 (by first | assumption | rfl) (Nat.le_of_ble_eq_true rfl) ⟨hk, hn⟩ (fun E ws9 h9 => absurd h9 id) (fun v9 ws9 hp => ?_)
  obtain ⟨x', rfl, W', J', B', rfl, hmo', hq'⟩ := hp
  have hq2 : aCo n0 r mk rl kd xs ys (scr (nI i + 1).toNatClampNeg) (W' 0) x' := by
    rcases hq' with ⟨a1, a2, a3⟩ | ⟨a1, a2⟩
    · exact Or.inl ⟨a2, a1, a3⟩
    · exact Or.inr ⟨a2, a1⟩
  obtain ⟨e1, e3⟩ := aCo_un hq hq2
  have e2 : u = 0 → o' 0 = x'.toInt64 := fun h => by rw [hu0 h, e3 h]
  have hinv' : lw_inv L' I' V' W' J' B' := ⟨_, _, _, _, _, _, _, hsl', hmo'⟩
  refine sv_istore C d_La_law_394 (by decide) rfl ?_
  refine sv_aload_n C d_La_law_396 rfl rfl ?_
  refine sv_callV (ci := 5) C (c_Mo_thrown (cI := cI) (cJ := cJ) (cZ := cZ) (L := L') (I := I') (V := V') (W := W') (J := J') (B := B') (tl := [sv_J cJ 1 o'])) s_La_60 ki_Mo_thrown ks_Mo_thrown ⟨rfl, rfl, Nat.le_of_ble_eq_true rfl, Nat.le_of_ble_eq_true rfl⟩ rfl d_La_law_397 (by first | assumption | rfl) (Nat.le_of_ble_eq_true rfl) ⟨hk, hn⟩ (fun E ws9 h9 => absurd h9 id) (fun v9 ws9 hp => ?_)
  obtain ⟨rfl, rfl⟩ := hp
  refine sv_iload C d_La_law_400 rfl ?_
  refine sv_icmp_eq (tgt := 407) C d_La_law_402 (by decide) (fun h => ?_) (fun h => ?_)
  rotate_left
  · exact absurd e1 h
  refine sv_iload C d_La_law_407 rfl ?_
  refine sv_if_ne (tgt := 424) C d_La_law_409 (by decide) (fun h5 => ?_) (fun h5 => ?_)
  · refine sv_goto (tgt := 699) C d_La_law_424 (by decide) ?_
    refine sv_drop [true, true, true, true, true, false, false] ?_
    exact nx _ _ _ _ _ _ _ hinv'
  · refine sv_aload_n C d_La_law_412 rfl rfl ?_
    refine sv_iconst (v := 0) C d_La_law_413 rfl ?_
    refine sv_lald (t0 := 1) C rfl d_La_law_414 (by first | assumption | rfl) in01 ?_
    refine sv_iload C d_La_law_415 rfl ?_
    refine sv_i2l C d_La_law_417 ?_
    refine sv_lcmp C d_La_law_418 ?_
    refine sv_eqs (st' := [.int 0]) (by rw [show o' (0 : Int32).toNatClampNeg = x'.toInt64 from e2 h5, lg_cmp_rf]; rfl) ?_
    refine sv_if_eq (tgt := 424) C d_La_law_419 (by decide) (fun h6 => ?_) (fun h6 => ?_)
    · refine sv_goto (tgt := 699) C d_La_law_424 (by decide) ?_
      refine sv_drop [true, true, true, true, true, false, false] ?_
      exact nx _ _ _ _ _ _ _ hinv'
    · exact absurd rfl h6
set_option maxRecDepth 100000 in
set_option maxHeartbeats 8000000 in
theorem la_first {p : Program} {l : Launch} {e : Env} {s : State} {m : MethodId} {args : Array Value} {below : List Frame} {meth : Method} {c : Code} {D : va_G} {cI cJ cZ : ClassId} {A : Nat → Prop} {ad : Nat → Nat} {Q : State → Prop} {k n Ls i : Nat} {scr : Nat → Int32} {L : Nat → Nat → Int64} {I : Nat → Nat → Int32} {V : Nat → Int32} {W : Nat → Int32} {J : Nat → Nat → Int32} {B : Nat → Nat → Bool} {o : Nat → Int64} (C : sv_C p s m args meth c D sv_cl (sv_ty cI cJ cZ) A code 7 "StateLogicLaw" (some .boolean)) (hl : l.stackTraces = false) (hscr : sv_scr s A ad Ls scr) (hL : Ls ≤ 2560) (hi : i + 5 ≤ Ls) (hk : k + 4 ≤ 601024) (hn : n + 24 ≤ 7293034) (hinv : lw_inv L I V W J B) (nx : ∀ (L : Nat → Nat → Int64) (I : Nat → Nat → Int32) (V : Nat → Int32) (W : Nat → Int32) (J : Nat → Nat → Int32) (B : Nat → Nat → Bool) (o : Nat → Int64), lw_inv L I V W J B → sv_V p l e room_1 s m args below meth c D sv_cl A 7 ad Q 699 (lw_lv i) [] (hM cI cJ cZ L I V W J B [sv_J cJ 1 o]) (k + 4) (n + 24)) :
    sv_V p l e room_1 s m args below meth c D sv_cl A 7 ad Q 427 (lw_lv i) [] (hM cI cJ cZ L I V W J B [sv_J cJ 1 o]) k n := by
  obtain ⟨n0, r, mk, rl, kd, xs, ys, hsl, hmo⟩ := hinv
  have hin1 : vp_in (nI i + 1) Ls := by
    rw [show nI i + 1 = nI (i + 1) from nI_add i 1]
    exact vp_in_nI (by omega) (by omega)
  have hin2 : vp_in (nI i + 2) Ls := by
    rw [show nI i + 2 = nI (i + 2) from nI_add i 2]
    exact vp_in_nI (by omega) (by omega)
  unfold lw_lv
  refine sv_aload_n C d_La_law_427 rfl rfl ?_
  refine sv_aload_n C d_La_law_428 rfl rfl ?_
  refine sv_iload C d_La_law_429 rfl ?_
  refine sv_iconst (v := 1) C d_La_law_431 rfl ?_
  refine sv_iadd C d_La_law_432 ?_
  refine sv_sld C hscr d_La_law_433 hin1 ?_
  refine sv_aload_n C d_La_law_434 rfl rfl ?_
  refine sv_iload C d_La_law_435 rfl ?_
  refine sv_iconst (v := 2) C d_La_law_437 rfl ?_
  refine sv_iadd C d_La_law_438 ?_
  refine sv_sld C hscr d_La_law_439 hin2 ?_
  refine sv_aload_n C d_La_law_440 rfl rfl ?_
  refine sv_callSX C (c_La_first (cI := cI) (cJ := cJ) (cZ := cZ) (L := L) (I := I) (V := V) (W := W) (J := J) (B := B) (o := o) hl (n := n0) (r := r) (mk := mk) (rl := rl) (kd := kd) (xs := xs) (ys := ys) hsl (f := (scr (nI i + 1).toNatClampNeg)) (s := (scr (nI i + 2).toNatClampNeg))) m_La_80 z_La k_La_first kt_La_first (by decide +kernel) (show (parseMethodDescriptor y_La_first.desc).map (fun d => d.parameters.length) = some 4 by decide +kernel) ⟨rfl, rfl, Nat.le_of_ble_eq_true rfl, Nat.le_of_ble_eq_true rfl⟩ d_La_law_441 (Nat.le_of_ble_eq_true rfl) ⟨hk, hn⟩ (fun E ws9 h9 => absurd h9 id) (fun v9 ws9 hp => ?_)
  obtain ⟨u, rfl, L', I', V', o', x, rfl, hsl', hu0, hq⟩ := hp
  refine sv_istore C d_La_law_444 (by decide) rfl ?_
  refine sv_aload_n C d_La_law_446 rfl rfl ?_
  refine sv_aload_n C d_La_law_447 rfl rfl ?_
  refine sv_iload C d_La_law_448 rfl ?_
  refine sv_iconst (v := 1) C d_La_law_450 rfl ?_
  refine sv_iadd C d_La_law_451 ?_
  refine sv_sld C hscr d_La_law_452 hin1 ?_
  refine sv_aload_n C d_La_law_453 rfl rfl ?_
  refine sv_iload C d_La_law_454 rfl ?_
  refine sv_iconst (v := 2) C d_La_law_456 rfl ?_
  refine sv_iadd C d_La_law_457 ?_
  refine sv_sld C hscr d_La_law_458 hin2 ?_
  refine sv_callV (ci := 5) C (c_Mo_first (cI := cI) (cJ := cJ) (cZ := cZ) (L := L') (I := I') (V := V') (W := W) (J := J) (B := B) (tl := [sv_J cJ 1 o']) (n := n0) (r := r) (mk := mk) (rl := rl) (kd := kd) (xs := xs) (ys := ys) hmo (f := (scr (nI i + 1).toNatClampNeg)) (s := (scr (nI i + 2).toNatClampNeg))) s_La_82 ki_Mo_first ks_Mo_first ⟨rfl, rfl, Nat.le_of_ble_eq_true rfl, Nat.le_of_ble_eq_true rfl⟩ rfl d_La_law_459 (by first | assumption | rfl) (Nat.le_of_ble_eq_true rfl) ⟨hk, hn⟩ (fun E ws9 h9 => absurd h9 id) (fun v9 ws9 hp => ?_)
  obtain ⟨x', rfl, W', J', B', rfl, hmo', hq'⟩ := hp
  have hq2 : aFi n0 r mk rl kd xs ys (scr (nI i + 1).toNatClampNeg) (scr (nI i + 2).toNatClampNeg) (W' 0) x' := by
    rcases hq' with ⟨a1, a2, a3, a4⟩ | ⟨a1, a2⟩
    · exact Or.inl ⟨a3, a1, a2, a4⟩
    · exact Or.inr ⟨a2, a1⟩
  obtain ⟨e1, e3⟩ := aFi_un hq hq2
  have e2 : u = 0 → o' 0 = x'.toInt64 := fun h => by rw [hu0 h, e3 h]
  have hinv' : lw_inv L' I' V' W' J' B' := ⟨_, _, _, _, _, _, _, hsl', hmo'⟩
  refine sv_istore C d_La_law_462 (by decide) rfl ?_
  refine sv_aload_n C d_La_law_464 rfl rfl ?_
  refine sv_callV (ci := 5) C (c_Mo_thrown (cI := cI) (cJ := cJ) (cZ := cZ) (L := L') (I := I') (V := V') (W := W') (J := J') (B := B') (tl := [sv_J cJ 1 o'])) s_La_60 ki_Mo_thrown ks_Mo_thrown ⟨rfl, rfl, Nat.le_of_ble_eq_true rfl, Nat.le_of_ble_eq_true rfl⟩ rfl d_La_law_465 (by first | assumption | rfl) (Nat.le_of_ble_eq_true rfl) ⟨hk, hn⟩ (fun E ws9 h9 => absurd h9 id) (fun v9 ws9 hp => ?_)
  obtain ⟨rfl, rfl⟩ := hp
  refine sv_iload C d_La_law_468 rfl ?_
  refine sv_icmp_eq (tgt := 475) C d_La_law_470 (by decide) (fun h => ?_) (fun h => ?_)
  rotate_left
  · exact absurd e1 h
  refine sv_iload C d_La_law_475 rfl ?_
  refine sv_if_ne (tgt := 492) C d_La_law_477 (by decide) (fun h5 => ?_) (fun h5 => ?_)
  · refine sv_goto (tgt := 699) C d_La_law_492 (by decide) ?_
    refine sv_drop [true, true, true, true, true, false, false] ?_
    exact nx _ _ _ _ _ _ _ hinv'
  · refine sv_aload_n C d_La_law_480 rfl rfl ?_
    refine sv_iconst (v := 0) C d_La_law_481 rfl ?_
    refine sv_lald (t0 := 1) C rfl d_La_law_482 (by first | assumption | rfl) in01 ?_
    refine sv_iload C d_La_law_483 rfl ?_
    refine sv_i2l C d_La_law_485 ?_
    refine sv_lcmp C d_La_law_486 ?_
    refine sv_eqs (st' := [.int 0]) (by rw [show o' (0 : Int32).toNatClampNeg = x'.toInt64 from e2 h5, lg_cmp_rf]; rfl) ?_
    refine sv_if_eq (tgt := 492) C d_La_law_487 (by decide) (fun h6 => ?_) (fun h6 => ?_)
    · refine sv_goto (tgt := 699) C d_La_law_492 (by decide) ?_
      refine sv_drop [true, true, true, true, true, false, false] ?_
      exact nx _ _ _ _ _ _ _ hinv'
    · exact absurd rfl h6
set_option maxRecDepth 100000 in
set_option maxHeartbeats 8000000 in
theorem la_length {p : Program} {l : Launch} {e : Env} {s : State} {m : MethodId} {args : Array Value} {below : List Frame} {meth : Method} {c : Code} {D : va_G} {cI cJ cZ : ClassId} {A : Nat → Prop} {ad : Nat → Nat} {Q : State → Prop} {k n Ls i : Nat} {scr : Nat → Int32} {L : Nat → Nat → Int64} {I : Nat → Nat → Int32} {V : Nat → Int32} {W : Nat → Int32} {J : Nat → Nat → Int32} {B : Nat → Nat → Bool} {o : Nat → Int64} (C : sv_C p s m args meth c D sv_cl (sv_ty cI cJ cZ) A code 7 "StateLogicLaw" (some .boolean)) (hl : l.stackTraces = false) (hscr : sv_scr s A ad Ls scr) (hL : Ls ≤ 2560) (hi : i + 5 ≤ Ls) (hk : k + 4 ≤ 601024) (hn : n + 24 ≤ 7293034) (hinv : lw_inv L I V W J B) (nx : ∀ (L : Nat → Nat → Int64) (I : Nat → Nat → Int32) (V : Nat → Int32) (W : Nat → Int32) (J : Nat → Nat → Int32) (B : Nat → Nat → Bool) (o : Nat → Int64), lw_inv L I V W J B → sv_V p l e room_1 s m args below meth c D sv_cl A 7 ad Q 699 (lw_lv i) [] (hM cI cJ cZ L I V W J B [sv_J cJ 1 o]) (k + 4) (n + 24)) :
    sv_V p l e room_1 s m args below meth c D sv_cl A 7 ad Q 495 (lw_lv i) [] (hM cI cJ cZ L I V W J B [sv_J cJ 1 o]) k n := by
  obtain ⟨n0, r, mk, rl, kd, xs, ys, hsl, hmo⟩ := hinv
  have hin1 : vp_in (nI i + 1) Ls := by
    rw [show nI i + 1 = nI (i + 1) from nI_add i 1]
    exact vp_in_nI (by omega) (by omega)
  have hin2 : vp_in (nI i + 2) Ls := by
    rw [show nI i + 2 = nI (i + 2) from nI_add i 2]
    exact vp_in_nI (by omega) (by omega)
  unfold lw_lv
  refine sv_aload_n C d_La_law_495 rfl rfl ?_
  refine sv_aload_n C d_La_law_496 rfl rfl ?_
  refine sv_iload C d_La_law_497 rfl ?_
  refine sv_iconst (v := 1) C d_La_law_499 rfl ?_
  refine sv_iadd C d_La_law_500 ?_
  refine sv_sld C hscr d_La_law_501 hin1 ?_
  refine sv_aload_n C d_La_law_502 rfl rfl ?_
  refine sv_iload C d_La_law_503 rfl ?_
  refine sv_iconst (v := 2) C d_La_law_505 rfl ?_
  refine sv_iadd C d_La_law_506 ?_
  refine sv_sld C hscr d_La_law_507 hin2 ?_
  refine sv_aload_n C d_La_law_508 rfl rfl ?_
  refine sv_callSX C (c_La_length (cI := cI) (cJ := cJ) (cZ := cZ) (L := L) (I := I) (V := V) (W := W) (J := J) (B := B) (o := o) hl (n := n0) (r := r) (mk := mk) (rl := rl) (kd := kd) (xs := xs) (ys := ys) hsl (f := (scr (nI i + 1).toNatClampNeg)) (s := (scr (nI i + 2).toNatClampNeg))) m_La_83 z_La k_La_length kt_La_length (by decide +kernel) (show (parseMethodDescriptor y_La_length.desc).map (fun d => d.parameters.length) = some 4 by decide +kernel) ⟨rfl, rfl, Nat.le_of_ble_eq_true rfl, Nat.le_of_ble_eq_true rfl⟩ d_La_law_509 (Nat.le_of_ble_eq_true rfl) ⟨hk, hn⟩ (fun E ws9 h9 => absurd h9 id) (fun v9 ws9 hp => ?_)
  obtain ⟨u, rfl, L', I', V', o', x, rfl, hsl', hu0, hq⟩ := hp
  refine sv_istore C d_La_law_512 (by decide) rfl ?_
  refine sv_aload_n C d_La_law_514 rfl rfl ?_
  refine sv_aload_n C d_La_law_515 rfl rfl ?_
  refine sv_iload C d_La_law_516 rfl ?_
  refine sv_iconst (v := 1) C d_La_law_518 rfl ?_
  refine sv_iadd C d_La_law_519 ?_
  refine sv_sld C hscr d_La_law_520 hin1 ?_
  refine sv_aload_n C d_La_law_521 rfl rfl ?_
  refine sv_iload C d_La_law_522 rfl ?_
  refine sv_iconst (v := 2) C d_La_law_524 rfl ?_
  refine sv_iadd C d_La_law_525 ?_
  refine sv_sld C hscr d_La_law_526 hin2 ?_
  refine sv_callV (ci := 5) C (c_Mo_length (cI := cI) (cJ := cJ) (cZ := cZ) (L := L') (I := I') (V := V') (W := W) (J := J) (B := B) (tl := [sv_J cJ 1 o']) (n := n0) (r := r) (mk := mk) (rl := rl) (kd := kd) (xs := xs) (ys := ys) hmo (f := (scr (nI i + 1).toNatClampNeg)) (s := (scr (nI i + 2).toNatClampNeg))) s_La_85 ki_Mo_length ks_Mo_length ⟨rfl, rfl, Nat.le_of_ble_eq_true rfl, Nat.le_of_ble_eq_true rfl⟩ rfl d_La_law_527 (by first | assumption | rfl) (Nat.le_of_ble_eq_true rfl) ⟨hk, hn⟩ (fun E ws9 h9 => absurd h9 id) (fun v9 ws9 hp => ?_)
  obtain ⟨x', rfl, W', J', B', rfl, hmo', hq'⟩ := hp
  have hq2 : aLe n0 r mk rl kd xs ys (scr (nI i + 1).toNatClampNeg) (scr (nI i + 2).toNatClampNeg) (W' 0) x' := by
    rcases hq' with ⟨a1, a2, a3, a4, a5⟩ | ⟨a1, a2⟩ | ⟨a1, a2, a3, a4⟩
    · exact Or.inl ⟨a4, a1, a2, a3, a5⟩
    · exact Or.inr (Or.inl ⟨a2, a1⟩)
    · exact Or.inr (Or.inr ⟨a4, a1, a2, a3⟩)
  obtain ⟨e1, e3⟩ := aLe_un hq hq2
  have e2 : u = 0 → o' 0 = x'.toInt64 := fun h => by rw [hu0 h, e3 h]
  have hinv' : lw_inv L' I' V' W' J' B' := ⟨_, _, _, _, _, _, _, hsl', hmo'⟩
  refine sv_istore C d_La_law_530 (by decide) rfl ?_
  refine sv_aload_n C d_La_law_532 rfl rfl ?_
  refine sv_callV (ci := 5) C (c_Mo_thrown (cI := cI) (cJ := cJ) (cZ := cZ) (L := L') (I := I') (V := V') (W := W') (J := J') (B := B') (tl := [sv_J cJ 1 o'])) s_La_60 ki_Mo_thrown ks_Mo_thrown ⟨rfl, rfl, Nat.le_of_ble_eq_true rfl, Nat.le_of_ble_eq_true rfl⟩ rfl d_La_law_533 (by first | assumption | rfl) (Nat.le_of_ble_eq_true rfl) ⟨hk, hn⟩ (fun E ws9 h9 => absurd h9 id) (fun v9 ws9 hp => ?_)
  obtain ⟨rfl, rfl⟩ := hp
  refine sv_iload C d_La_law_536 rfl ?_
  refine sv_icmp_eq (tgt := 543) C d_La_law_538 (by decide) (fun h => ?_) (fun h => ?_)
  rotate_left
  · exact absurd e1 h
  refine sv_iload C d_La_law_543 rfl ?_
  refine sv_if_ne (tgt := 560) C d_La_law_545 (by decide) (fun h5 => ?_) (fun h5 => ?_)
  · refine sv_goto (tgt := 699) C d_La_law_560 (by decide) ?_
    refine sv_drop [true, true, true, true, true, false, false] ?_
    exact nx _ _ _ _ _ _ _ hinv'
  · refine sv_aload_n C d_La_law_548 rfl rfl ?_
    refine sv_iconst (v := 0) C d_La_law_549 rfl ?_
    refine sv_lald (t0 := 1) C rfl d_La_law_550 (by first | assumption | rfl) in01 ?_
    refine sv_iload C d_La_law_551 rfl ?_
    refine sv_i2l C d_La_law_553 ?_
    refine sv_lcmp C d_La_law_554 ?_
    refine sv_eqs (st' := [.int 0]) (by rw [show o' (0 : Int32).toNatClampNeg = x'.toInt64 from e2 h5, lg_cmp_rf]; rfl) ?_
    refine sv_if_eq (tgt := 560) C d_La_law_555 (by decide) (fun h6 => ?_) (fun h6 => ?_)
    · refine sv_goto (tgt := 699) C d_La_law_560 (by decide) ?_
      refine sv_drop [true, true, true, true, true, false, false] ?_
      exact nx _ _ _ _ _ _ _ hinv'
    · exact absurd rfl h6
set_option maxRecDepth 100000 in
set_option maxHeartbeats 8000000 in
theorem la_witness {p : Program} {l : Launch} {e : Env} {s : State} {m : MethodId} {args : Array Value} {below : List Frame} {meth : Method} {c : Code} {D : va_G} {cI cJ cZ : ClassId} {A : Nat → Prop} {ad : Nat → Nat} {Q : State → Prop} {k n Ls i : Nat} {scr : Nat → Int32} {L : Nat → Nat → Int64} {I : Nat → Nat → Int32} {V : Nat → Int32} {W : Nat → Int32} {J : Nat → Nat → Int32} {B : Nat → Nat → Bool} {o : Nat → Int64} (C : sv_C p s m args meth c D sv_cl (sv_ty cI cJ cZ) A code 7 "StateLogicLaw" (some .boolean)) (hl : l.stackTraces = false) (hscr : sv_scr s A ad Ls scr) (hL : Ls ≤ 2560) (hi : i + 5 ≤ Ls) (hk : k + 4 ≤ 601024) (hn : n + 24 ≤ 7293034) (hinv : lw_inv L I V W J B) (nx : ∀ (L : Nat → Nat → Int64) (I : Nat → Nat → Int32) (V : Nat → Int32) (W : Nat → Int32) (J : Nat → Nat → Int32) (B : Nat → Nat → Bool) (o : Nat → Int64), lw_inv L I V W J B → sv_V p l e room_1 s m args below meth c D sv_cl A 7 ad Q 699 (lw_lv i) [] (hM cI cJ cZ L I V W J B [sv_J cJ 1 o]) (k + 4) (n + 24)) :
    sv_V p l e room_1 s m args below meth c D sv_cl A 7 ad Q 563 (lw_lv i) [] (hM cI cJ cZ L I V W J B [sv_J cJ 1 o]) k n := by
  obtain ⟨n0, r, mk, rl, kd, xs, ys, hsl, hmo⟩ := hinv
  have hin1 : vp_in (nI i + 1) Ls := by
    rw [show nI i + 1 = nI (i + 1) from nI_add i 1]
    exact vp_in_nI (by omega) (by omega)
  have hin2 : vp_in (nI i + 2) Ls := by
    rw [show nI i + 2 = nI (i + 2) from nI_add i 2]
    exact vp_in_nI (by omega) (by omega)
  have hin3 : vp_in (nI i + 3) Ls := by
    rw [show nI i + 3 = nI (i + 3) from nI_add i 3]
    exact vp_in_nI (by omega) (by omega)
  unfold lw_lv
  refine sv_aload_n C d_La_law_563 rfl rfl ?_
  refine sv_aload_n C d_La_law_564 rfl rfl ?_
  refine sv_iload C d_La_law_565 rfl ?_
  refine sv_iconst (v := 1) C d_La_law_567 rfl ?_
  refine sv_iadd C d_La_law_568 ?_
  refine sv_sld C hscr d_La_law_569 hin1 ?_
  refine sv_aload_n C d_La_law_570 rfl rfl ?_
  refine sv_iload C d_La_law_571 rfl ?_
  refine sv_iconst (v := 2) C d_La_law_573 rfl ?_
  refine sv_iadd C d_La_law_574 ?_
  refine sv_sld C hscr d_La_law_575 hin2 ?_
  refine sv_aload_n C d_La_law_576 rfl rfl ?_
  refine sv_iload C d_La_law_577 rfl ?_
  refine sv_iconst (v := 3) C d_La_law_579 rfl ?_
  refine sv_iadd C d_La_law_580 ?_
  refine sv_sld C hscr d_La_law_581 hin3 ?_
  refine sv_aload_n C d_La_law_582 rfl rfl ?_
  refine sv_callSX C (c_La_witness (cI := cI) (cJ := cJ) (cZ := cZ) (L := L) (I := I) (V := V) (W := W) (J := J) (B := B) (o := o) hl (n := n0) (r := r) (mk := mk) (rl := rl) (kd := kd) (xs := xs) (ys := ys) hsl (f := (scr (nI i + 1).toNatClampNeg)) (s := (scr (nI i + 2).toNatClampNeg)) (j := (scr (nI i + 3).toNatClampNeg))) m_La_86 z_La k_La_witness kt_La_witness (by decide +kernel) (show (parseMethodDescriptor y_La_witness.desc).map (fun d => d.parameters.length) = some 5 by decide +kernel) ⟨rfl, rfl, Nat.le_of_ble_eq_true rfl, Nat.le_of_ble_eq_true rfl⟩ d_La_law_583 (Nat.le_of_ble_eq_true rfl) ⟨hk, hn⟩ (fun E ws9 h9 => absurd h9 id) (fun v9 ws9 hp => ?_)
  obtain ⟨u, rfl, L', I', V', o', x, rfl, hsl', hu0, hq⟩ := hp
  refine sv_istore C d_La_law_586 (by decide) rfl ?_
  refine sv_aload_n C d_La_law_588 rfl rfl ?_
  refine sv_aload_n C d_La_law_589 rfl rfl ?_
  refine sv_iload C d_La_law_590 rfl ?_
  refine sv_iconst (v := 1) C d_La_law_592 rfl ?_
  refine sv_iadd C d_La_law_593 ?_
  refine sv_sld C hscr d_La_law_594 hin1 ?_
  refine sv_aload_n C d_La_law_595 rfl rfl ?_
  refine sv_iload C d_La_law_596 rfl ?_
  refine sv_iconst (v := 2) C d_La_law_598 rfl ?_
  refine sv_iadd C d_La_law_599 ?_
  refine sv_sld C hscr d_La_law_600 hin2 ?_
  refine sv_aload_n C d_La_law_601 rfl rfl ?_
  refine sv_iload C d_La_law_602 rfl ?_
  refine sv_iconst (v := 3) C d_La_law_604 rfl ?_
  refine sv_iadd C d_La_law_605 ?_
  refine sv_sld C hscr d_La_law_606 hin3 ?_
  refine sv_callV (ci := 5) C (c_Mo_witness (cI := cI) (cJ := cJ) (cZ := cZ) (L := L') (I := I') (V := V') (W := W) (J := J) (B := B) (tl := [sv_J cJ 1 o']) (n := n0) (r := r) (mk := mk) (rl := rl) (kd := kd) (xs := xs) (ys := ys) hmo (f := (scr (nI i + 1).toNatClampNeg)) (s := (scr (nI i + 2).toNatClampNeg)) (k := (scr (nI i + 3).toNatClampNeg))) s_La_88 ki_Mo_witness ks_Mo_witness ⟨rfl, rfl, Nat.le_of_ble_eq_true rfl, Nat.le_of_ble_eq_true rfl⟩ rfl d_La_law_607 (by first | assumption | rfl) (Nat.le_of_ble_eq_true rfl) ⟨hk, hn⟩ (fun E ws9 h9 => absurd h9 id) (fun v9 ws9 hp => ?_)
  obtain ⟨x', rfl, W', J', B', rfl, hmo', hq'⟩ := hp
  have hq2 : aWi n0 r mk rl kd xs ys (scr (nI i + 1).toNatClampNeg) (scr (nI i + 2).toNatClampNeg) (scr (nI i + 3).toNatClampNeg) (W' 0) x' := by
    rcases hq' with ⟨a1, a2, a3, a4, a5⟩ | ⟨a1, a2⟩ | ⟨a1, a2, a3, a4⟩ | ⟨a1, a2, a3, a4, a5⟩
    · exact Or.inl ⟨a4, a1, a2, a3, a5⟩
    · exact Or.inr (Or.inl ⟨a2, a1⟩)
    · exact Or.inr (Or.inr (Or.inl ⟨a4, a1, a2, a3⟩))
    · exact Or.inr (Or.inr (Or.inr ⟨a4, a1, a2, a3, a5⟩))
  obtain ⟨e1, e3⟩ := aWi_un hq hq2
  have e2 : u = 0 → o' 0 = x'.toInt64 := fun h => by rw [hu0 h, e3 h]
  have hinv' : lw_inv L' I' V' W' J' B' := ⟨_, _, _, _, _, _, _, hsl', hmo'⟩
  refine sv_istore C d_La_law_610 (by decide) rfl ?_
  refine sv_aload_n C d_La_law_612 rfl rfl ?_
  refine sv_callV (ci := 5) C (c_Mo_thrown (cI := cI) (cJ := cJ) (cZ := cZ) (L := L') (I := I') (V := V') (W := W') (J := J') (B := B') (tl := [sv_J cJ 1 o'])) s_La_60 ki_Mo_thrown ks_Mo_thrown ⟨rfl, rfl, Nat.le_of_ble_eq_true rfl, Nat.le_of_ble_eq_true rfl⟩ rfl d_La_law_613 (by first | assumption | rfl) (Nat.le_of_ble_eq_true rfl) ⟨hk, hn⟩ (fun E ws9 h9 => absurd h9 id) (fun v9 ws9 hp => ?_)
  obtain ⟨rfl, rfl⟩ := hp
  refine sv_iload C d_La_law_616 rfl ?_
  refine sv_icmp_eq (tgt := 623) C d_La_law_618 (by decide) (fun h => ?_) (fun h => ?_)
  rotate_left
  · exact absurd e1 h
  refine sv_iload C d_La_law_623 rfl ?_
  refine sv_if_ne (tgt := 640) C d_La_law_625 (by decide) (fun h5 => ?_) (fun h5 => ?_)
  · refine sv_goto (tgt := 699) C d_La_law_640 (by decide) ?_
    refine sv_drop [true, true, true, true, true, false, false] ?_
    exact nx _ _ _ _ _ _ _ hinv'
  · refine sv_aload_n C d_La_law_628 rfl rfl ?_
    refine sv_iconst (v := 0) C d_La_law_629 rfl ?_
    refine sv_lald (t0 := 1) C rfl d_La_law_630 (by first | assumption | rfl) in01 ?_
    refine sv_iload C d_La_law_631 rfl ?_
    refine sv_i2l C d_La_law_633 ?_
    refine sv_lcmp C d_La_law_634 ?_
    refine sv_eqs (st' := [.int 0]) (by rw [show o' (0 : Int32).toNatClampNeg = x'.toInt64 from e2 h5, lg_cmp_rf]; rfl) ?_
    refine sv_if_eq (tgt := 640) C d_La_law_635 (by decide) (fun h6 => ?_) (fun h6 => ?_)
    · refine sv_goto (tgt := 699) C d_La_law_640 (by decide) ?_
      refine sv_drop [true, true, true, true, true, false, false] ?_
      exact nx _ _ _ _ _ _ _ hinv'
    · exact absurd rfl h6
set_option maxRecDepth 100000 in
set_option maxHeartbeats 8000000 in
theorem la_ways {p : Program} {l : Launch} {e : Env} {s : State} {m : MethodId} {args : Array Value} {below : List Frame} {meth : Method} {c : Code} {D : va_G} {cI cJ cZ : ClassId} {A : Nat → Prop} {ad : Nat → Nat} {Q : State → Prop} {k n Ls i : Nat} {scr : Nat → Int32} {L : Nat → Nat → Int64} {I : Nat → Nat → Int32} {V : Nat → Int32} {W : Nat → Int32} {J : Nat → Nat → Int32} {B : Nat → Nat → Bool} {o : Nat → Int64} (C : sv_C p s m args meth c D sv_cl (sv_ty cI cJ cZ) A code 7 "StateLogicLaw" (some .boolean)) (hl : l.stackTraces = false) (hscr : sv_scr s A ad Ls scr) (hL : Ls ≤ 2560) (hi : i + 5 ≤ Ls) (hk : k + 4 ≤ 601024) (hn : n + 24 ≤ 7293034) (hinv : lw_inv L I V W J B) (nx : ∀ (L : Nat → Nat → Int64) (I : Nat → Nat → Int32) (V : Nat → Int32) (W : Nat → Int32) (J : Nat → Nat → Int32) (B : Nat → Nat → Bool) (o : Nat → Int64), lw_inv L I V W J B → sv_V p l e room_1 s m args below meth c D sv_cl A 7 ad Q 699 (lw_lv i) [] (hM cI cJ cZ L I V W J B [sv_J cJ 1 o]) (k + 4) (n + 24)) :
    sv_V p l e room_1 s m args below meth c D sv_cl A 7 ad Q 643 (lw_lv i) [] (hM cI cJ cZ L I V W J B [sv_J cJ 1 o]) k n := by
  obtain ⟨n0, r, mk, rl, kd, xs, ys, hsl, hmo⟩ := hinv
  have hin1 : vp_in (nI i + 1) Ls := by
    rw [show nI i + 1 = nI (i + 1) from nI_add i 1]
    exact vp_in_nI (by omega) (by omega)
  unfold lw_lv
  refine sv_aload_n C d_La_law_643 rfl rfl ?_
  refine sv_aload_n C d_La_law_644 rfl rfl ?_
  refine sv_iload C d_La_law_645 rfl ?_
  refine sv_iconst (v := 1) C d_La_law_647 rfl ?_
  refine sv_iadd C d_La_law_648 ?_
  refine sv_sld C hscr d_La_law_649 hin1 ?_
  refine sv_aload_n C d_La_law_650 rfl rfl ?_
  refine sv_callSX C (c_La_ways (cI := cI) (cJ := cJ) (cZ := cZ) (L := L) (I := I) (V := V) (W := W) (J := J) (B := B) (o := o) hl (n := n0) (r := r) (mk := mk) (rl := rl) (kd := kd) (xs := xs) (ys := ys) hsl (s := (scr (nI i + 1).toNatClampNeg))) m_La_89 z_La k_La_ways kt_La_ways (by decide +kernel) (show (parseMethodDescriptor y_La_ways.desc).map (fun d => d.parameters.length) = some 3 by decide +kernel) ⟨rfl, rfl, Nat.le_of_ble_eq_true rfl, Nat.le_of_ble_eq_true rfl⟩ d_La_law_651 (Nat.le_of_ble_eq_true rfl) ⟨hk, hn⟩ (fun E ws9 h9 => absurd h9 id) (fun v9 ws9 hp => ?_)
  obtain ⟨u, rfl, L', I', V', o', x, rfl, hsl', hu0, hq⟩ := hp
  refine sv_istore C d_La_law_654 (by decide) rfl ?_
  refine sv_aload_n C d_La_law_656 rfl rfl ?_
  refine sv_aload_n C d_La_law_657 rfl rfl ?_
  refine sv_iload C d_La_law_658 rfl ?_
  refine sv_iconst (v := 1) C d_La_law_660 rfl ?_
  refine sv_iadd C d_La_law_661 ?_
  refine sv_sld C hscr d_La_law_662 hin1 ?_
  refine sv_callV (ci := 5) C (c_Mo_ways (cI := cI) (cJ := cJ) (cZ := cZ) (L := L') (I := I') (V := V') (W := W) (J := J) (B := B) (tl := [sv_J cJ 1 o']) (n := n0) (r := r) (mk := mk) (rl := rl) (kd := kd) (xs := xs) (ys := ys) hmo (s := (scr (nI i + 1).toNatClampNeg))) s_La_91 ki_Mo_ways ks_Mo_ways ⟨rfl, rfl, Nat.le_of_ble_eq_true rfl, Nat.le_of_ble_eq_true rfl⟩ rfl d_La_law_663 (by first | assumption | rfl) (Nat.le_of_ble_eq_true rfl) ⟨hk, hn⟩ (fun E ws9 h9 => absurd h9 id) (fun v9 ws9 hp => ?_)
  obtain ⟨x', rfl, W', J', B', rfl, hmo', hq'⟩ := hp
  have hq2 : aWa n0 r mk rl kd xs ys (scr (nI i + 1).toNatClampNeg) (W' 0) x' := by
    rcases hq' with ⟨a1, a2, a3⟩ | ⟨a1, a2⟩
    · exact Or.inl ⟨a2, a1, a3⟩
    · exact Or.inr ⟨a2, a1⟩
  obtain ⟨e1, e3⟩ := aWa_un hq hq2
  have e2 : u = 0 → o' 0 = x'.toInt64 := fun h => by rw [hu0 h, e3 h]
  have hinv' : lw_inv L' I' V' W' J' B' := ⟨_, _, _, _, _, _, _, hsl', hmo'⟩
  refine sv_istore C d_La_law_666 (by decide) rfl ?_
  refine sv_aload_n C d_La_law_668 rfl rfl ?_
  refine sv_callV (ci := 5) C (c_Mo_thrown (cI := cI) (cJ := cJ) (cZ := cZ) (L := L') (I := I') (V := V') (W := W') (J := J') (B := B') (tl := [sv_J cJ 1 o'])) s_La_60 ki_Mo_thrown ks_Mo_thrown ⟨rfl, rfl, Nat.le_of_ble_eq_true rfl, Nat.le_of_ble_eq_true rfl⟩ rfl d_La_law_669 (by first | assumption | rfl) (Nat.le_of_ble_eq_true rfl) ⟨hk, hn⟩ (fun E ws9 h9 => absurd h9 id) (fun v9 ws9 hp => ?_)
  obtain ⟨rfl, rfl⟩ := hp
  refine sv_iload C d_La_law_672 rfl ?_
  refine sv_icmp_eq (tgt := 679) C d_La_law_674 (by decide) (fun h => ?_) (fun h => ?_)
  rotate_left
  · exact absurd e1 h
  refine sv_iload C d_La_law_679 rfl ?_
  refine sv_if_ne (tgt := 696) C d_La_law_681 (by decide) (fun h5 => ?_) (fun h5 => ?_)
  · refine sv_goto (tgt := 699) C d_La_law_696 (by decide) ?_
    refine sv_drop [true, true, true, true, true, false, false] ?_
    exact nx _ _ _ _ _ _ _ hinv'
  · refine sv_aload_n C d_La_law_684 rfl rfl ?_
    refine sv_iconst (v := 0) C d_La_law_685 rfl ?_
    refine sv_lald (t0 := 1) C rfl d_La_law_686 (by first | assumption | rfl) in01 ?_
    refine sv_iload C d_La_law_687 rfl ?_
    refine sv_i2l C d_La_law_689 ?_
    refine sv_lcmp C d_La_law_690 ?_
    refine sv_eqs (st' := [.int 0]) (by rw [show o' (0 : Int32).toNatClampNeg = x'.toInt64 from e2 h5, lg_cmp_rf]; rfl) ?_
    refine sv_if_eq (tgt := 696) C d_La_law_691 (by decide) (fun h6 => ?_) (fun h6 => ?_)
    · refine sv_goto (tgt := 699) C d_La_law_696 (by decide) ?_
      refine sv_drop [true, true, true, true, true, false, false] ?_
      exact nx _ _ _ _ _ _ _ hinv'
    · exact absurd rfl h6
