/-! Search.listEnded -/
def sp_q : Nat → Int32
  | 0 => -1
  | i + 1 => nI i
theorem sp_q_s (i : Nat) : nI i + Int32.ofInt (-1) = sp_q i := by
  cases i with
  | zero => decide
  | succ i => exact pk_m1 i
section
variable {p : Program} {l : Launch} {e : Env} {R : Room} {s : State} {m : MethodId} {args : Array Value} {below : List Frame} {meth : Method} {c : Code} {D : va_G} {cl : List vw_C} {tys : List (ClassId × FieldType)} {A : Nat → Prop} {nL : Nat} {ad : Nat → Nat} {Q : State → Prop} {cc : ByteArray} {own : String} {ret : Option FieldType} {pc : Nat} {lv : List (Option Value)} {st : List Value} {ws : List va_E} {k n : Nat}
theorem sv_iincD (C : sv_C p s m args meth c D cl tys A cc nL own ret) {i j : Nat} (hd : decode cc pc = .ok (.iinc i (-1), 3)) (hv : lv[i]? = some (some (.int (nI j)))) (hn : i < nL) (hk : sv_lk lv i = true) (kk : sv_V p l e R s m args below meth c D cl A nL ad Q (pc + 3) (lv.set i (some (.int (sp_q j)))) st ws k n) : sv_V p l e R s m args below meth c D cl A nL ad Q pc lv st ws k n :=
  sv_iinc C hd hv (sp_q_s j) hn hk kk
theorem sv_join {σ : Type} {lv0 : List (Option Value)} {ws0 : List va_E} {pc1 k1 n1 : Nat} {st1 : List Value} (J : σ → Prop) (lv1 : σ → List (Option Value)) (ws1 : σ → List va_E) (hj : ∀ a, J a → sv_V p l e R s m args below meth c D cl A nL ad Q pc1 (lv1 a) st1 (ws1 a) k1 n1)
    (kk : (∀ a, J a → sv_V p l e R s m args below meth c D cl A nL ad Q pc1 (lv1 a) st1 (ws1 a) k1 n1) → sv_V p l e R s m args below meth c D cl A nL ad Q pc lv0 st ws0 k n) : sv_V p l e R s m args below meth c D cl A nL ad Q pc lv0 st ws0 k n := kk hj
end
def g_lst (f : Nat → Nat) : Nat → List Nat
  | 0 => []
  | n + 1 => f n :: g_lst f n
theorem g_lst_mem {f : Nat → Nat} {x : Nat} : ∀ n, x ∈ g_lst f n ↔ ∃ i, i < n ∧ f i = x
  | 0 => ⟨fun h => absurd h List.not_mem_nil, fun ⟨i, h, _⟩ => absurd h (Nat.not_lt_zero i)⟩
  | n + 1 => by
    rw [g_lst, List.mem_cons, g_lst_mem n]
    constructor
    · rintro (h | ⟨i, hi, e⟩)
      · exact ⟨n, by omega, h.symm⟩
      · exact ⟨i, by omega, e⟩
    · rintro ⟨i, hi, e⟩
      by_cases h : i = n
      · exact Or.inl (by rw [← e, h])
      · exact Or.inr ⟨i, by omega, e⟩
theorem g_lst_cg {f f' : Nat → Nat} : ∀ n, (∀ i, i < n → f i = f' i) → g_lst f n = g_lst f' n
  | 0, _ => rfl
  | n + 1, h => by
    rw [g_lst, g_lst, h n (by omega), g_lst_cg n (fun i hi => h i (by omega))]
theorem g_lst_hu (f : Nat → Nat) (n x : Nat) : g_lst (hu f n x) (n + 1) = x :: g_lst f n := by
  rw [g_lst, hu_s, g_lst_cg n (fun i hi => hu_n (by omega))]
theorem g_lst_inj {f : Nat → Nat} : ∀ n, (g_lst f n).Nodup → ∀ i j, i < n → j < n → f i = f j → i = j
  | 0, _, i, j, hi, _, _ => absurd hi (Nat.not_lt_zero i)
  | n + 1, h, i, j, hi, hj, e => by
    obtain ⟨h1, h2⟩ := List.nodup_cons.mp h
    by_cases e1 : i = n
    · by_cases e2 : j = n
      · omega
      · exact absurd ((g_lst_mem n).mpr ⟨j, by omega, by rw [← e, e1]⟩) h1
    · by_cases e2 : j = n
      · exact absurd ((g_lst_mem n).mpr ⟨i, by omega, by rw [e, e2]⟩) h1
      · exact g_lst_inj n h2 i j (by omega) (by omega) e
theorem g_lst_lt {f : Nat → Nat} {n x : Nat} (h : (g_lst f n).Nodup) (h2 : ∀ i, i < n → f i < 256) (hx : x < 256) (hn : x ∉ g_lst f n) : n < 256 := by
  have h1 := pig 256 (n + 1) (hu f n x) (fun i hi => by
    by_cases e : i = n
    · rw [e, hu_s]
      exact hx
    · rw [hu_n e]
      exact h2 i (by omega)) (bf_inj (g_lst_inj n h) (fun ⟨i, hi, e⟩ => hn ((g_lst_mem n).mpr ⟨i, hi, e⟩)))
  omega
def le_X (fX : Nat → Int64) (x : Nat) : Prop := x < 256 ∧ ss_b fX 0 x = true
def le_E (g fX : Nat → Int64) (x z : Nat) : Prop := le_X fX x ∧ le_X fX z ∧ ss_b g x z = true
theorem le_E_X {g fX : Nat → Int64} : ∀ x y, le_E g fX x y → le_X fX x ∧ le_X fX y := fun _ _ h => ⟨h.1, h.2.1⟩
/-- between two turns: path and ended as arrays -/
def le_S (g fX fO : Nat → Int64) (I2 I3 : Nat → Int32) (pa en : Nat → Nat) (d n : Nat) : Prop :=
  g_dfs (le_E g fX) (le_X fX) (le_X fO) (g_lst pa d) (g_lst en n) ∧ (∀ i, i < d → I2 i = nI (pa i)) ∧ ∀ i, i < n → I3 i = nI (en i)
theorem le_lt {g fX fO : Nat → Int64} {I2 I3 : Nat → Int32} {pa en : Nat → Nat} {d n : Nat} (h : le_S g fX fO I2 I3 pa en d n) : (∀ i, i < d → pa i < 256) ∧ ∀ i, i < n → en i < 256 :=
  ⟨fun i hi => ((h.1.1 (pa i)).mpr (Or.inr (Or.inl ((g_lst_mem d).mpr ⟨i, hi, rfl⟩)))).1, fun i hi => ((h.1.1 (en i)).mpr (Or.inr (Or.inr ((g_lst_mem n).mpr ⟨i, hi, rfl⟩)))).1⟩
theorem le_cnt {fO fO' : Nat → Int64} {x : Nat} (hx : x < 256) (h : ss_b fO 0 x = true) (h2 : ∀ z, z < 256 → ss_b fO' 0 z = (ss_b fO 0 z && !decide (z = x))) : g_cnt (fun z => ss_b fO' 0 z) 256 + 1 = g_cnt (fun z => ss_b fO 0 z) 256 := by
  have h3 := g_cnt_drop (O := fun z => ss_b fO 0 z) (O' := fun z => ss_b fO 0 z && decide (z ≠ x)) (k := x) h (fun _ => rfl) 256 hx
  have h4 : g_cnt (fun z => ss_b fO' 0 z) 256 = g_cnt (fun z => ss_b fO 0 z && decide (z ≠ x)) 256 := g_cnt_congr 256 (fun z hz => by
    rw [h2 z hz]
    by_cases e : z = x <;> simp [e])
  rw [h4]
  exact h3
set_option maxRecDepth 100000 in
set_option maxHeartbeats 4000000 in
theorem c_Se_listEnded {l : Launch} {D : va_G} {cI cJ cZ : ClassId} {L : Nat → Nat → Int64} {I : Nat → Nat → Int32} {V : Nat → Int32} {tl : List va_E} {N : Nat} (hN : N ≤ 256) (hXN : ∀ z, z < 256 → ss_b (L 3) 0 z = true → z < N) :
    sv_M l y_Se_listEnded [Cond.code y_Se_listEnded b_Se_listEnded 8 (some .int)] ({ frames := 2, cells := 0, slots := 0, locals := 49 } : Room) D sv_cl (sv_ty cI cJ cZ) [.ref 9, .ref 6, .int (nI N)] (hC cI cJ cZ L I V tl) 0 0 (fun r ws' => ∃ (n : Nat) (fO : Nat → Int64) (I2 I3 : Nat → Int32) (en : Nat → Nat), r = some (.int (nI n)) ∧ ws' = hC cI cJ cZ (hu L 3 fO) (hu (hu I 2 I2) 3 I3) V tl ∧ n ≤ 256 ∧ (∀ i, i < n → en i < 256 ∧ I3 i = nI (en i)) ∧ (∀ x, le_X (L 3) x ↔ x ∈ g_lst en n) ∧ (g_lst en n).Nodup ∧ ∀ x, le_X (L 3) x → ∀ w, g_re (le_E (L 2) (L 3)) x w → ∃ x', g_eq (le_E (L 2) (L 3)) x x' ∧ g_bef (g_lst en n) x' w) sv_no 0 0 := by
  refine sv_of (cc := b_Se_listEnded) (by decide +kernel) (Nat.le_of_ble_eq_true rfl) ?_
  intro pX eX sX mX aX bX tX cX AX adX C htab hnm
  refine sv_iconst (v := 0) C d_Se_listEnded_0 rfl ?_
  refine sv_istore_n C d_Se_listEnded_1 rfl (by decide) rfl ?_
  refine sv_iconst (v := 0) C d_Se_listEnded_2 rfl ?_
  refine sv_istore C d_Se_listEnded_3 (by decide) rfl ?_
  refine sv_eqw (ws' := hC cI cJ cZ (hu L 3 (L 3)) (hu (hu I 2 (I 2)) 3 (I 3)) V tl) (by rw [hu_same, hu_same, hu_same]) ?_
  refine sv_ind (σ := Nat × Nat × (Nat → Int64) × (Nat → Int32) × (Nat → Int32) × (Nat → Nat) × (Nat → Nat)) (I := fun s => s.1 ≤ N ∧ (∀ z, z < s.1 → ¬ le_X s.2.2.1 z) ∧ le_S (L 2) (L 3) s.2.2.1 s.2.2.2.1 s.2.2.2.2.1 s.2.2.2.2.2.1 s.2.2.2.2.2.2 0 s.2.1) (μ := fun s => N - s.1)
    (lv := fun s => [some (.ref 9), some (.ref 6), some (.int (nI N)), some (.int (nI s.2.1)), some (.int (nI s.1)), none, none, none]) (ws := fun s => hC cI cJ cZ (hu L 3 s.2.2.1) (hu (hu I 2 s.2.2.2.1) 3 s.2.2.2.2.1) V tl) ?_ (0, 0, L 3, I 2, I 3, fun _ => 0, fun _ => 0) ⟨Nat.zero_le _, fun z hz => absurd hz (Nat.not_lt_zero z), g_dfs_0, fun i hi => absurd hi (Nat.not_lt_zero i), fun i hi => absurd hi (Nat.not_lt_zero i)⟩
  rintro ⟨root, n, fO, I2, I3, pa, en⟩ ⟨hr, hro, hS⟩ ih
  dsimp only at hr hro hS ih
  have hn256 : n ≤ 256 := pig 256 n en (le_lt hS).2 (g_lst_inj n hS.1.2.2.2.2.1)
  refine sv_iload C d_Se_listEnded_5 rfl ?_
  refine sv_iload_n C d_Se_listEnded_7 rfl rfl ?_
  refine sv_icmp_ge (tgt := 151) C d_Se_listEnded_8 (by decide) (fun hT => ?_) (fun hF => ?_)
  · have h1 : N ≤ root := (nI_leI (a := N) (b := root) (by omega) (by omega)).mp hT
    obtain ⟨q1, q2, q3⟩ := g_dfs_end hS.1 (fun x hx => by
      have h2 := (hS.1.1 x).mpr (Or.inl hx)
      exact hro x (by have := hXN x h2.1 h2.2; omega) hx)
    refine sv_iload_n C d_Se_listEnded_151 rfl rfl ?_
    exact sv_iret C rfl rfl d_Se_listEnded_152 (Nat.le_of_ble_eq_true rfl) (Nat.le_of_ble_eq_true rfl) (fun _ _ => rfl) (⟨n, fO, I2, I3, en, rfl, rfl, hn256, fun i hi => ⟨(le_lt hS).2 i hi, hS.2.2 i hi⟩, q1, q2, q3⟩)
  · have h1 : ¬ N ≤ root := fun h => hF ((nI_leI (a := N) (b := root) (by omega) (by omega)).mpr h)
    refine sv_iconst (v := 0) C d_Se_listEnded_11 rfl ?_
    refine sv_istore C d_Se_listEnded_12 (by decide) rfl ?_
    refine sv_aload_n C d_Se_listEnded_14 rfl rfl ?_
    refine sv_get (ci := 2) (kf := 0) C i_Se rfl (by decide) f_Se_14 (fun _ h9 => h9) d_Se_listEnded_15 (by first | assumption | rfl) rfl ?_
    refine sv_iconst (v := 0) C d_Se_listEnded_18 rfl ?_
    refine sv_iload C d_Se_listEnded_19 rfl ?_
    refine sv_callV (ci := 3) C (c_St_has (cI := cI) (cZ := cZ) (ws := hC cI cJ cZ (hu L 3 fO) (hu (hu I 2 I2) 3 I3) V tl) (b := 10) (w := 11) (N := 4) (a := 0) (x := root) (f := fO) rfl rfl (by decide) (by decide) (by omega)) s_Se_49 ki_St_has ks_St_has ⟨rfl, rfl, Nat.le_of_ble_eq_true rfl, Nat.le_of_ble_eq_true rfl⟩ rfl d_Se_listEnded_21 (by first | assumption | rfl) (Nat.le_of_ble_eq_true rfl) ⟨(Nat.le_of_ble_eq_true rfl), (Nat.le_of_ble_eq_true rfl)⟩ (fun E ws9 h9 => absurd h9 id) (fun v9 ws9 hp => ?_)
    obtain ⟨rfl, rfl⟩ := hp
    -- from here on: the inner loop
    refine sv_join (σ := Nat × (Nat → Int64) × (Nat → Int32) × (Nat → Nat)) (pc1 := 51) (st1 := []) (k1 := 0) (n1 := 0) (J := fun s => le_S (L 2) (L 3) s.2.1 s.2.2.1 I3 s.2.2.2 en s.1 n ∧ (∀ z, z < root + 1 → ¬ le_X s.2.1 z) ∧ (s.1 = 0 ∨ 2 * g_cnt (fun z => ss_b s.2.1 0 z) 256 + s.1 ≤ 511)) (lv1 := fun s => [some (.ref 9), some (.ref 6), some (.int (nI N)), some (.int (nI n)), some (.int (nI root)), some (.int (nI s.1)), some (.int (nI 0)), none]) (ws1 := fun s => hC cI cJ cZ (hu L 3 s.2.1) (hu (hu I 2 s.2.2.1) 3 I3) V tl) ?_ (fun inner => ?_)
    · rintro ⟨d0, fO0, I20, pa0⟩ ⟨hS0, hro0, hc0⟩
      dsimp only at hS0 hro0 hc0
      refine sv_ind (σ := Nat × Nat × Nat × (Nat → Int64) × (Nat → Int32) × (Nat → Int32) × (Nat → Nat) × (Nat → Nat)) (I := fun s => (s.2.1 = 0 ∨ s.1 + 2 * g_cnt (fun z => ss_b s.2.2.2.1 0 z) 256 + s.2.1 ≤ 511) ∧ (∀ z, z < root + 1 → ¬ le_X s.2.2.2.1 z) ∧ le_S (L 2) (L 3) s.2.2.2.1 s.2.2.2.2.1 s.2.2.2.2.2.1 s.2.2.2.2.2.2.1 s.2.2.2.2.2.2.2 s.2.1 s.2.2.1) (μ := fun s => 2 * g_cnt (fun z => ss_b s.2.2.2.1 0 z) 256 + s.2.1)
        (lv := fun s => [some (.ref 9), some (.ref 6), some (.int (nI N)), some (.int (nI s.2.2.1)), some (.int (nI root)), some (.int (nI s.2.1)), some (.int (nI s.1)), none]) (ws := fun s => hC cI cJ cZ (hu L 3 s.2.2.2.1) (hu (hu I 2 s.2.2.2.2.1) 3 s.2.2.2.2.2.1) V tl) ?_ (0, d0, n, fO0, I20, I3, pa0, en) ⟨by rcases hc0 with h | h; exact Or.inl h; exact Or.inr (by dsimp only; omega), hro0, hS0⟩
      rintro ⟨t, d, n, fO, I2, I3, pa, en⟩ ⟨hc, hro, hS⟩ ih2
      dsimp only at hc hro hS ih2
      have hdle : d ≤ 256 := pig 256 d pa (le_lt hS).1 (g_lst_inj d hS.1.2.2.2.1)
      refine sv_iload C d_Se_listEnded_51 rfl ?_
      refine sv_if_le (tgt := 145) C d_Se_listEnded_53 (by decide) (fun hT2 => ?_) (fun hF2 => ?_)
      · have h2 : d ≤ 0 := (nI_leI (a := d) (b := 0) (by omega) (by omega)).mp hT2
        have h2 : d = 0 := by omega
        subst h2
        refine sv_iincN C d_Se_listEnded_145 rfl (by decide) rfl ?_
        refine sv_goto (tgt := 5) C d_Se_listEnded_148 (by decide) ?_
        refine sv_drop [true, true, true, true, true, false, false, false] ?_
        exact ih (root + 1, n, fO, I2, I3, pa, en) ⟨by show root + 1 ≤ N; omega, hro, hS⟩ (by show N - (root + 1) < N - root; omega)
      · have h2 : ¬ d ≤ 0 := fun h => hF2 ((nI_leI (a := d) (b := 0) (by omega) (by omega)).mpr h)
        obtain ⟨e, rfl⟩ : ∃ e, d = e + 1 := ⟨d - 1, by omega⟩
        have hc : t + 2 * g_cnt (fun z => ss_b fO 0 z) 256 + (e + 1) ≤ 511 := hc.resolve_left (by omega)
        have hpe := (le_lt hS).1 e (by omega)
        refine sv_iload C d_Se_listEnded_56 rfl ?_
        refine sv_sipush (v := 512) C d_Se_listEnded_58 rfl ?_
        refine sv_icmp_ge (tgt := 145) C d_Se_listEnded_61 (by decide) (fun hT3 => ?_) (fun hF3 => ?_)
        · exfalso
          have h3 : 512 ≤ t := (nI_leI (a := 512) (b := t) (by omega) (by omega)).mp hT3
          omega
        · have hein : vp_in (nI (e + 1) - 1) 256 := by rw [nI_pred]; exact vp_in_nI (by omega) (by omega)
          refine sv_aload_n C d_Se_listEnded_64 rfl rfl ?_
          refine sv_get (ci := 2) (kf := 0) C i_Se rfl (by decide) f_Se_14 (fun _ h9 => h9) d_Se_listEnded_65 (by first | assumption | rfl) rfl ?_
          refine sv_iconst (v := 0) C d_Se_listEnded_68 rfl ?_
          refine sv_aload_n C d_Se_listEnded_69 rfl rfl ?_
          refine sv_aload_n C d_Se_listEnded_70 rfl rfl ?_
          refine sv_get (ci := 2) (kf := 3) C i_Se rfl (by decide) f_Se_27 (fun _ h9 => h9) d_Se_listEnded_71 (by first | assumption | rfl) rfl ?_
          refine sv_iload C d_Se_listEnded_74 rfl ?_
          refine sv_iconst (v := 1) C d_Se_listEnded_76 rfl ?_
          refine sv_isub C d_Se_listEnded_77 ?_
          refine sv_iald (t0 := 0) C rfl d_Se_listEnded_78 (by first | assumption | rfl) (by assumption) ?_
          refine sv_eqs (st' := [.int (nI (pa e)), .ref 6, .int 0, .ref 10]) (by show [Value.int (I2 (nI (e + 1) - 1).toNatClampNeg), _, _, _] = _; rw [nI_pred, nI_clamp (by omega), hS.2.1 e (by omega)]) ?_
          refine sv_callV (ci := 3) C (c_St_takeShared (cI := cI) (cZ := cZ) (ws := hC cI cJ cZ (hu L 3 fO) (hu (hu I 2 I2) 3 I3) V tl) (b := 10) (w := 11) (N := 4) (a := 0) (f := fO) (b' := 6) (w' := 7) (N' := 1024) (a' := pa e) (g := L 2) rfl rfl (by decide) (by decide) rfl rfl (by omega) (by decide)) s_Se_41 ki_St_takeShared ks_St_takeShared ⟨rfl, rfl, Nat.le_of_ble_eq_true rfl, Nat.le_of_ble_eq_true rfl⟩ rfl d_Se_listEnded_79 (by first | assumption | rfl) (Nat.le_of_ble_eq_true rfl) ⟨(Nat.le_of_ble_eq_true rfl), (Nat.le_of_ble_eq_true rfl)⟩ (fun E ws9 h9 => absurd h9 id) (fun v9 ws9 hp => ?_)
          rcases hp with ⟨rfl, hap, rfl⟩ | ⟨x, f', rfl, hx, hb1, hb2, -, rfl, hb3⟩
          · -- nothing open behind the top: it ends
            have hX := g_dfs_out (t := pa e) le_E_X hS.1 (fun y hy ho => hap y hy.2.1.1 ⟨ho.2, hy.2.2⟩)
            have htn : pa e ∉ g_lst en n := hS.1.2.2.1 (pa e) List.mem_cons_self
            have hnl := g_lst_lt hS.1.2.2.2.2.1 (le_lt hS).2 hpe htn
            refine sv_istore C d_Se_listEnded_82 (by decide) rfl ?_
            refine sv_iload C d_Se_listEnded_84 rfl ?_
            refine sv_iconst (v := (-1)) C d_Se_listEnded_86 rfl ?_
            refine sv_icmp_eq (tgt := 113) C d_Se_listEnded_87 (by decide) (fun hT4 => ?_) (fun hF4 => ?_)
            · refine sv_iload_n C d_Se_listEnded_113 rfl rfl ?_
              refine sv_sipush (v := 256) C d_Se_listEnded_114 rfl ?_
              refine sv_icmp_ge (tgt := 139) C d_Se_listEnded_117 (by decide) (fun hT5 => ?_) (fun hF5 => ?_)
              · exfalso
                have h3 : 256 ≤ n := (nI_leI (a := 256) (b := n) (by omega) (by omega)).mp hT5
                omega
              · have hnin : vp_in (nI n) 256 := vp_in_nI (by omega) (by omega)
                have hein2 : vp_in (nI e) 256 := vp_in_nI (by omega) (by omega)
                refine sv_iincD C d_Se_listEnded_120 rfl (by decide) rfl ?_
                refine sv_aload_n C d_Se_listEnded_123 rfl rfl ?_
                refine sv_get (ci := 2) (kf := 4) C i_Se rfl (by decide) f_Se_30 (fun _ h9 => h9) d_Se_listEnded_124 (by first | assumption | rfl) rfl ?_
                refine sv_iload_n C d_Se_listEnded_127 rfl rfl ?_
                refine sv_aload_n C d_Se_listEnded_128 rfl rfl ?_
                refine sv_get (ci := 2) (kf := 3) C i_Se rfl (by decide) f_Se_27 (fun _ h9 => h9) d_Se_listEnded_129 (by first | assumption | rfl) rfl ?_
                refine sv_iload C d_Se_listEnded_132 rfl ?_
                refine sv_iald (t0 := 0) C rfl d_Se_listEnded_134 (by first | assumption | rfl) hein2 ?_
                refine sv_eqs (st' := [.int (nI (pa e)), .int (nI n), .ref 15]) (by show [Value.int (I2 (nI e).toNatClampNeg), _, _] = _; rw [nI_clamp (by omega), hS.2.1 e (by omega)]) ?_
                refine sv_iast (t0 := 0) C rfl d_Se_listEnded_135 (by first | assumption | rfl) (by assumption) ?_
                refine sv_eqw (ws' := hC cI cJ cZ (hu L 3 fO) (hu (hu I 2 I2) 3 (upd I3 n (nI (pa e)))) V tl) (by rw [nI_clamp (by omega)]; rfl) ?_
                refine sv_iincN C d_Se_listEnded_136 rfl (by decide) rfl ?_
                refine sv_iincN C d_Se_listEnded_139 rfl (by decide) rfl ?_
                refine sv_goto (tgt := 51) C d_Se_listEnded_142 (by decide) ?_
                refine sv_drop [true, true, true, true, true, true, true, false] ?_
                refine ih2 (t + 1, e, n + 1, fO, I2, upd I3 n (nI (pa e)), pa, hu en n (pa e)) ⟨Or.inr (by dsimp only; omega), hro, ?_, fun i hi => hS.2.1 i (Nat.lt_succ_of_lt hi), fun i hi => ?_⟩ (by dsimp only; omega)
                · show g_dfs _ _ _ (g_lst pa e) (g_lst (hu en n (pa e)) (n + 1))
                  rw [g_lst_hu]
                  exact hX
                · show upd I3 n (nI (pa e)) i = nI (hu en n (pa e) i)
                  have hi : i < n + 1 := hi
                  by_cases e9 : i = n
                  · rw [e9, pk_us, hu_s]
                  · rw [pk_un e9, hu_n e9]
                    exact hS.2.2 i (by omega)
            · exact absurd rfl hF4
          · -- x is entered
            have hxO : le_X fO x := ⟨hx, hb1⟩
            have hpX : le_X (L 3) (pa e) := (hS.1.1 (pa e)).mpr (Or.inr (Or.inl List.mem_cons_self))
            have hxX : le_X (L 3) x := (hS.1.1 x).mpr (Or.inl hxO)
            have hb4 : ∀ z, z < 256 → ss_b f' 0 z = (ss_b fO 0 z && !decide (z = x)) := fun z hz => by
              rw [hb3 0 z hz]
              simp
            have hO' : ∀ z, le_X f' z ↔ (le_X fO z ∧ z ≠ x) := fun z => by
              constructor
              · rintro ⟨h1, h2⟩
                rw [hb4 z h1] at h2
                simp only [Bool.and_eq_true, Bool.not_eq_true', decide_eq_false_iff_not] at h2
                exact ⟨⟨h1, h2.1⟩, h2.2⟩
              · rintro ⟨⟨h1, h2⟩, h3⟩
                refine ⟨h1, ?_⟩
                rw [hb4 z h1, h2]
                simp [h3]
            have hX := g_dfs_in hS.1 x hxO hO' (Or.inr ⟨pa e, g_lst pa e, rfl, hpX, hxX, hb2⟩)
            have hdl := g_lst_lt hS.1.2.2.2.1 (le_lt hS).1 hx (hS.1.2.1 x hxO).1
            have hcn := le_cnt hx hb1 hb4
            refine sv_istore C d_Se_listEnded_82 (by decide) rfl ?_
            refine sv_iload C d_Se_listEnded_84 rfl ?_
            refine sv_iconst (v := (-1)) C d_Se_listEnded_86 rfl ?_
            refine sv_icmp_eq (tgt := 113) C d_Se_listEnded_87 (by decide) (fun hT4 => ?_) (fun hF4 => ?_)
            · exact absurd hT4 (sp_m1 (by omega))
            · refine sv_iload C d_Se_listEnded_90 rfl ?_
              refine sv_sipush (v := 256) C d_Se_listEnded_92 rfl ?_
              refine sv_icmp_ge (tgt := 113) C d_Se_listEnded_95 (by decide) (fun hT5 => ?_) (fun hF5 => ?_)
              · exfalso
                have h3 : 256 ≤ e + 1 := (nI_leI (a := 256) (b := e + 1) (by omega) (by omega)).mp hT5
                omega
              · have hdin : vp_in (nI (e + 1)) 256 := vp_in_nI (by omega) (by omega)
                refine sv_aload_n C d_Se_listEnded_98 rfl rfl ?_
                refine sv_get (ci := 2) (kf := 3) C i_Se rfl (by decide) f_Se_27 (fun _ h9 => h9) d_Se_listEnded_99 (by first | assumption | rfl) rfl ?_
                refine sv_iload C d_Se_listEnded_102 rfl ?_
                refine sv_iload C d_Se_listEnded_104 rfl ?_
                refine sv_iast (t0 := 0) C rfl d_Se_listEnded_106 (by first | assumption | rfl) (by assumption) ?_
                have hcl9 : (nI (e + 1)).toNatClampNeg = e + 1 := nI_clamp (by omega)
                refine sv_eqw (ws' := hC cI cJ cZ (hu L 3 f') (hu (hu I 2 (upd I2 (e + 1) (nI x))) 3 I3) V tl) (by dsimp only; rw [hcl9]; rfl) ?_
                refine sv_iincN C d_Se_listEnded_107 rfl (by decide) rfl ?_
                refine sv_goto (tgt := 139) C d_Se_listEnded_110 (by decide) ?_
                refine sv_iincN C d_Se_listEnded_139 rfl (by decide) rfl ?_
                refine sv_goto (tgt := 51) C d_Se_listEnded_142 (by decide) ?_
                refine sv_drop [true, true, true, true, true, true, true, false] ?_
                refine ih2 (t + 1, e + 1 + 1, n, f', upd I2 (e + 1) (nI x), I3, hu pa (e + 1) x, en) ⟨Or.inr (by dsimp only; omega), fun z hz h => hro z hz ((hO' z).mp h).1, ?_, fun i hi => ?_, hS.2.2⟩ (by dsimp only; omega)
                · show g_dfs _ _ _ (g_lst (hu pa (e + 1) x) (e + 1 + 1)) (g_lst en n)
                  rw [g_lst_hu]
                  exact hX
                · show upd I2 (e + 1) (nI x) i = nI (hu pa (e + 1) x i)
                  have hi : i < e + 1 + 1 := hi
                  by_cases e9 : i = e + 1
                  · rw [e9, pk_us, hu_s]
                  · rw [pk_un e9, hu_n e9]
                    exact hS.2.1 i (by omega)
    by_cases hopen : ss_b fO 0 root = true
    · rw [if_pos hopen]
      refine sv_if_eq (tgt := 48) C d_Se_listEnded_24 (by decide) (fun hT2 => ?_) (fun hF2 => ?_)
      · exact absurd hT2 (by decide)
      · refine sv_aload_n C d_Se_listEnded_27 rfl rfl ?_
        refine sv_get (ci := 2) (kf := 0) C i_Se rfl (by decide) f_Se_14 (fun _ h9 => h9) d_Se_listEnded_28 (by first | assumption | rfl) rfl ?_
        refine sv_iconst (v := 0) C d_Se_listEnded_31 rfl ?_
        refine sv_iload C d_Se_listEnded_32 rfl ?_
        refine sv_callV (ci := 3) C (c_St_drop (cI := cI) (cZ := cZ) (ws := hC cI cJ cZ (hu L 3 fO) (hu (hu I 2 I2) 3 I3) V tl) (b := 10) (w := 11) (N := 4) (a := 0) (x := root) (f := fO) rfl rfl (by decide) (by decide) (by omega)) s_Se_53 ki_St_drop ks_St_drop ⟨rfl, rfl, Nat.le_of_ble_eq_true rfl, Nat.le_of_ble_eq_true rfl⟩ rfl d_Se_listEnded_34 (by first | assumption | rfl) (Nat.le_of_ble_eq_true rfl) ⟨(Nat.le_of_ble_eq_true rfl), (Nat.le_of_ble_eq_true rfl)⟩ (fun E ws9 h9 => absurd h9 id) (fun v9 ws9 hp => ?_)
        obtain ⟨rfl, rfl⟩ := hp
        have hb4 : ∀ z, z < 256 → ss_b (ss_drop fO 0 root) 0 z = (ss_b fO 0 z && !decide (z = root)) := fun z hz => by
          rw [ss_drop_b fO 0 root 0 z hz (by omega)]
          simp
        have hO' : ∀ z, le_X (ss_drop fO 0 root) z ↔ (le_X fO z ∧ z ≠ root) := fun z => by
          constructor
          · rintro ⟨h1, h2⟩
            rw [hb4 z h1] at h2
            simp only [Bool.and_eq_true, Bool.not_eq_true', decide_eq_false_iff_not] at h2
            exact ⟨⟨h1, h2.1⟩, h2.2⟩
          · rintro ⟨⟨h1, h2⟩, h3⟩
            refine ⟨h1, ?_⟩
            rw [hb4 z h1, h2]
            simp [h3]
        have hX := g_dfs_in hS.1 root ⟨by omega, hopen⟩ hO' (Or.inl rfl)
        have hcn := le_cnt (by omega) hopen hb4
        have hcl := g_cnt_le (fun z => ss_b fO 0 z) 256
        have h0in : vp_in 0 256 := vp_in_nI (n := 0) (by omega) (by omega)
        refine sv_aload_n C d_Se_listEnded_37 rfl rfl ?_
        refine sv_get (ci := 2) (kf := 3) C i_Se rfl (by decide) f_Se_27 (fun _ h9 => h9) d_Se_listEnded_38 (by first | assumption | rfl) rfl ?_
        refine sv_iconst (v := 0) C d_Se_listEnded_41 rfl ?_
        refine sv_iload C d_Se_listEnded_42 rfl ?_
        refine sv_iast (t0 := 0) C rfl d_Se_listEnded_44 (by first | assumption | rfl) (by assumption) ?_
        refine sv_iconst (v := 1) C d_Se_listEnded_45 rfl ?_
        refine sv_istore C d_Se_listEnded_46 (by decide) rfl ?_
        refine sv_iconst (v := 0) C d_Se_listEnded_48 rfl ?_
        refine sv_istore C d_Se_listEnded_49 (by decide) rfl ?_
        refine sv_eqw (ws' := hC cI cJ cZ (hu L 3 (ss_drop fO 0 root)) (hu (hu I 2 (upd I2 0 (nI root))) 3 I3) V tl) rfl ?_
        exact inner (1, ss_drop fO 0 root, upd I2 0 (nI root), hu pa 0 root) ⟨⟨by show g_dfs _ _ _ (g_lst (hu pa 0 root) (0 + 1)) _; rw [g_lst_hu]; exact hX, fun i hi => by
          have h9 : i < 1 := hi
          have h9 : i = 0 := by omega
          show upd I2 0 (nI root) i = nI (hu pa 0 root i)
          rw [h9, pk_us, hu_s], hS.2.2⟩, fun z hz h => by
          have h9 := (hO' z).mp h
          exact hro z (by have := h9.2; omega) h9.1, Or.inr (by show 2 * g_cnt (fun z => ss_b (ss_drop fO 0 root) 0 z) 256 + 1 ≤ 511; omega)⟩
    · rw [if_neg hopen]
      refine sv_if_eq (tgt := 48) C d_Se_listEnded_24 (by decide) (fun hT2 => ?_) (fun hF2 => ?_)
      · refine sv_iconst (v := 0) C d_Se_listEnded_48 rfl ?_
        refine sv_istore C d_Se_listEnded_49 (by decide) rfl ?_
        exact inner (0, fO, I2, pa) ⟨hS, fun z hz h => by
          by_cases e9 : z = root
          · rw [e9] at h
            exact hopen h.2
          · exact hro z (by omega) h, Or.inl rfl⟩
      · exact absurd rfl hF2
