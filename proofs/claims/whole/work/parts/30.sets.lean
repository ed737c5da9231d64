/-! StateLogic$Sets: reads and writes of single states -/
abbrev sv_ty (cI cJ cZ : ClassId) : List (ClassId × FieldType) := [(cI, .int), (cJ, .long), (cZ, .boolean)]
section
variable {p : Program} {l : Launch} {e : Env} {R : Room} {s : State} {m : MethodId} {args : Array Value} {below : List Frame} {meth : Method} {c : Code} {D : va_G} {cl : List vw_C} {tys : List (ClassId × FieldType)} {A : Nat → Prop} {nL : Nat} {ad : Nat → Nat} {Q : State → Prop} {cc : ByteArray} {own : String} {ret : Option FieldType} {pc : Nat} {lv : List (Option Value)} {st : List Value} {ws : List va_E} {k n : Nat}
theorem sv_iincN (C : sv_C p s m args meth c D cl tys A cc nL own ret) {i j : Nat} (hd : decode cc pc = .ok (.iinc i 1, 3)) (hv : lv[i]? = some (some (.int (nI j)))) (hn : i < nL) (hk : sv_lk lv i = true) (kk : sv_V p l e R s m args below meth c D cl A nL ad Q (pc + 3) (lv.set i (some (.int (nI (j + 1))))) st ws k n) : sv_V p l e R s m args below meth c D cl A nL ad Q pc lv st ws k n :=
  sv_iinc C hd hv (nI_1 j) hn hk kk
end
set_option maxRecDepth 100000 in
set_option maxHeartbeats 4000000 in
theorem c_St_has {l : Launch} {D : va_G} {cI cJ cZ : ClassId} {ws : List va_E} {b w N a x : Nat} {f : Nat → Int64} (hb : ws[b]? = some (.inr (3, [.ref w]))) (hw : ws[w]? = some (.inl (cJ, N, .inr (.inl f)))) (ha : a * 4 + 3 < N) (hN : N < 2 ^ 20) (hx : x < 256) :
    sv_M l y_St_has [Cond.code y_St_has b_St_has 3 (some .boolean)] ({ frames := 0, cells := 0, slots := 0, locals := 0 } : Room) D sv_cl (sv_ty cI cJ cZ) [.ref b, .int (nI a), .int (nI x)] ws 0 0 (fun v ws' => v = some (.int (if ss_b f a x = true then 1 else 0)) ∧ ws' = ws) sv_no 0 0 := by
  refine sv_of (cc := b_St_has) (by decide +kernel) (Nat.le_of_ble_eq_true rfl) ?_
  intro p e s m args below meth c A ad C htab hnm
  have hi := ss_in hx ha hN
  have hc := ss_cl hx ha hN
  refine sv_aload_n C d_St_has_0 rfl rfl ?_
  refine sv_get (ci := 3) (kf := 0) C i_St rfl (by decide) f_St_11 (fun _ h9 => h9) d_St_has_1 (by first | assumption | rfl) rfl ?_
  refine sv_iload_n C d_St_has_4 rfl rfl ?_
  refine sv_iconst (v := 4) C d_St_has_5 rfl ?_
  refine sv_imul C d_St_has_6 ?_
  refine sv_iload_n C d_St_has_7 rfl rfl ?_
  refine sv_bipush (v := 6) C d_St_has_8 rfl ?_
  refine sv_ishr C d_St_has_10 ?_
  refine sv_iadd C d_St_has_11 ?_
  refine sv_lald (t0 := 1) C rfl d_St_has_12 (by first | assumption | rfl) (by assumption) ?_
  refine sv_iload_n C d_St_has_13 rfl rfl ?_
  refine sv_bipush (v := 63) C d_St_has_14 rfl ?_
  refine sv_iand C d_St_has_16 ?_
  refine sv_lushr C d_St_has_17 ?_
  refine sv_lconst (v := 1) C d_St_has_18 rfl ?_
  refine sv_land C d_St_has_19 ?_
  refine sv_lconst (v := 0) C d_St_has_20 rfl ?_
  refine sv_lcmp C d_St_has_21 ?_
  have hbit : ((f (nI a * 4 + (nI x >>> ((6 : Int32) &&& 31))).toNatClampNeg).toUInt64 >>> ((nI x &&& 63).toInt64.toUInt64 &&& Int64.toUInt64 63)).toInt64 &&& 1 = 0 ↔ ss_b f a x = false := by
    rw [ss_bit _ hx, hc]
    rfl
  refine sv_if_eq (tgt := 29) C d_St_has_22 (by decide) (fun hT => ?_) (fun hF => ?_)
  · have h1 : ss_b f a x = false := hbit.mp ((ss_cmp _ _).mp hT)
    refine sv_iconst (v := 0) C d_St_has_29 rfl ?_
    exact sv_iret C rfl rfl d_St_has_30 (Nat.le_of_ble_eq_true rfl) (Nat.le_of_ble_eq_true rfl) (fun _ _ => rfl) (by rw [h1]; exact ⟨rfl, rfl⟩)
  · have h1 : ss_b f a x = true := by
      cases h : ss_b f a x with
      | true => rfl
      | false => exact absurd ((ss_cmp _ _).mpr (hbit.mpr h)) hF
    refine sv_iconst (v := 1) C d_St_has_25 rfl ?_
    refine sv_goto (tgt := 30) C d_St_has_26 (by decide) ?_
    exact sv_iret C rfl rfl d_St_has_30 (Nat.le_of_ble_eq_true rfl) (Nat.le_of_ble_eq_true rfl) (fun _ _ => rfl) (by rw [h1]; exact ⟨rfl, rfl⟩)
set_option maxRecDepth 100000 in
set_option maxHeartbeats 4000000 in
theorem c_St_put {l : Launch} {D : va_G} {cI cJ cZ : ClassId} {ws : List va_E} {b w N a x : Nat} {f : Nat → Int64} (hb : ws[b]? = some (.inr (3, [.ref w]))) (hw : ws[w]? = some (.inl (cJ, N, .inr (.inl f)))) (ha : a * 4 + 3 < N) (hN : N < 2 ^ 20) (hx : x < 256) :
    sv_M l y_St_put [Cond.code y_St_put b_St_put 3 none] ({ frames := 0, cells := 0, slots := 0, locals := 0 } : Room) D sv_cl (sv_ty cI cJ cZ) [.ref b, .int (nI a), .int (nI x)] ws 0 0 (fun v ws' => v = none ∧ ws' = ws.set w (.inl (cJ, N, .inr (.inl (ss_put f a x))))) sv_no 0 0 := by
  refine sv_of (cc := b_St_put) (by decide +kernel) (Nat.le_of_ble_eq_true rfl) ?_
  intro p e s m args below meth c A ad C htab hnm
  have hi := ss_in hx ha hN
  have hc := ss_cl hx ha hN
  refine sv_aload_n C d_St_put_0 rfl rfl ?_
  refine sv_get (ci := 3) (kf := 0) C i_St rfl (by decide) f_St_11 (fun _ h9 => h9) d_St_put_1 (by first | assumption | rfl) rfl ?_
  refine sv_iload_n C d_St_put_4 rfl rfl ?_
  refine sv_iconst (v := 4) C d_St_put_5 rfl ?_
  refine sv_imul C d_St_put_6 ?_
  refine sv_iload_n C d_St_put_7 rfl rfl ?_
  refine sv_bipush (v := 6) C d_St_put_8 rfl ?_
  refine sv_ishr C d_St_put_10 ?_
  refine sv_iadd C d_St_put_11 ?_
  refine sv_dup2 C d_St_put_12 rfl rfl ?_
  refine sv_lald (t0 := 1) C rfl d_St_put_13 (by first | assumption | rfl) (by assumption) ?_
  refine sv_lconst (v := 1) C d_St_put_14 rfl ?_
  refine sv_iload_n C d_St_put_15 rfl rfl ?_
  refine sv_bipush (v := 63) C d_St_put_16 rfl ?_
  refine sv_iand C d_St_put_18 ?_
  refine sv_lshl C d_St_put_19 ?_
  refine sv_lor C d_St_put_20 ?_
  refine sv_last (t0 := 1) C rfl d_St_put_21 (by first | assumption | rfl) (by assumption) ?_
  rw [hc, ss_one hx]
  exact sv_vret C rfl d_St_put_22 (Nat.le_of_ble_eq_true rfl) (Nat.le_of_ble_eq_true rfl) (fun _ _ => rfl) (⟨rfl, rfl⟩)
set_option maxRecDepth 100000 in
set_option maxHeartbeats 4000000 in
theorem c_St_drop {l : Launch} {D : va_G} {cI cJ cZ : ClassId} {ws : List va_E} {b w N a x : Nat} {f : Nat → Int64} (hb : ws[b]? = some (.inr (3, [.ref w]))) (hw : ws[w]? = some (.inl (cJ, N, .inr (.inl f)))) (ha : a * 4 + 3 < N) (hN : N < 2 ^ 20) (hx : x < 256) :
    sv_M l y_St_drop [Cond.code y_St_drop b_St_drop 3 none] ({ frames := 0, cells := 0, slots := 0, locals := 0 } : Room) D sv_cl (sv_ty cI cJ cZ) [.ref b, .int (nI a), .int (nI x)] ws 0 0 (fun v ws' => v = none ∧ ws' = ws.set w (.inl (cJ, N, .inr (.inl (ss_drop f a x))))) sv_no 0 0 := by
  refine sv_of (cc := b_St_drop) (by decide +kernel) (Nat.le_of_ble_eq_true rfl) ?_
  intro p e s m args below meth c A ad C htab hnm
  have hi := ss_in hx ha hN
  have hc := ss_cl hx ha hN
  refine sv_aload_n C d_St_drop_0 rfl rfl ?_
  refine sv_get (ci := 3) (kf := 0) C i_St rfl (by decide) f_St_11 (fun _ h9 => h9) d_St_drop_1 (by first | assumption | rfl) rfl ?_
  refine sv_iload_n C d_St_drop_4 rfl rfl ?_
  refine sv_iconst (v := 4) C d_St_drop_5 rfl ?_
  refine sv_imul C d_St_drop_6 ?_
  refine sv_iload_n C d_St_drop_7 rfl rfl ?_
  refine sv_bipush (v := 6) C d_St_drop_8 rfl ?_
  refine sv_ishr C d_St_drop_10 ?_
  refine sv_iadd C d_St_drop_11 ?_
  refine sv_dup2 C d_St_drop_12 rfl rfl ?_
  refine sv_lald (t0 := 1) C rfl d_St_drop_13 (by first | assumption | rfl) (by assumption) ?_
  refine sv_lconst (v := 1) C d_St_drop_14 rfl ?_
  refine sv_iload_n C d_St_drop_15 rfl rfl ?_
  refine sv_bipush (v := 63) C d_St_drop_16 rfl ?_
  refine sv_iand C d_St_drop_18 ?_
  refine sv_lshl C d_St_drop_19 ?_
  refine sv_ldc2 C g_St_27 d_St_drop_20 ?_
  refine sv_lxor C d_St_drop_23 ?_
  refine sv_land C d_St_drop_24 ?_
  refine sv_last (t0 := 1) C rfl d_St_drop_25 (by first | assumption | rfl) (by assumption) ?_
  rw [hc, ss_one hx]
  exact sv_vret C rfl d_St_drop_26 (Nat.le_of_ble_eq_true rfl) (Nat.le_of_ble_eq_true rfl) (fun _ _ => rfl) (⟨rfl, rfl⟩)
