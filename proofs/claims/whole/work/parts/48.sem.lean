/-! What the class's words mean: rules, formulas, truths -/
/-- a goes to b by one of the rules -/
def rs (n r : Nat) (rl : Nat → Nat × Nat × Nat × Nat) (a b : Nat) : Prop := a < 2 ^ n ∧ ∃ i, i < r ∧ a &&& (rl i).1 = (rl i).2.1 ∧ b = (a &&& (rl i).2.2.1) ^^^ (rl i).2.2.2
/-- the rules are of states -/
def rl_ok (n r : Nat) (rl : Nat → Nat × Nat × Nat × Nat) : Prop := ∀ i, i < r → (rl i).1 < 2 ^ n ∧ (rl i).2.1 < 2 ^ n ∧ (rl i).2.2.1 < 2 ^ n ∧ (rl i).2.2.2 < 2 ^ n
theorem rs_lt {n r : Nat} {rl : Nat → Nat × Nat × Nat × Nat} (h : rl_ok n r rl) {a b : Nat} (hs : rs n r rl a b) : b < 2 ^ n := by
  obtain ⟨h1, i, hi, -, rfl⟩ := hs
  exact ma_to h1 (h i hi).2.2.2
/-- the truth of formula f in z, to a depth -/
def tr (S : Nat → Nat → Prop) (N : Nat) (kd xs ys : Nat → Nat) : Nat → Nat → Nat → Prop
  | 0, _, _ => False
  | u + 1, f, z => z < N ∧ fm_v S (tr S N kd xs ys u) (kd f) (xs f) (ys f) z
def tF (S : Nat → Nat → Prop) (N : Nat) (kd xs ys : Nat → Nat) (f z : Nat) : Prop := tr S N kd xs ys (f + 1) f z
theorem tr_eq {S : Nat → Nat → Prop} {N m : Nat} {kd xs ys : Nat → Nat} (hw : ∀ i, i < m → kd i ≠ 0 → xs i < i ∧ ys i < i) : ∀ (f u : Nat), f < m → f < u → tr S N kd xs ys u f = tF S N kd xs ys f := by
  intro f
  induction f using Nat.strongRecOn with
  | ind f ih =>
    intro u hm hu
    obtain ⟨v, rfl⟩ : ∃ v, u = v + 1 := ⟨u - 1, by omega⟩
    funext z
    show (z < N ∧ fm_v S (tr S N kd xs ys v) (kd f) (xs f) (ys f) z) = (z < N ∧ fm_v S (tr S N kd xs ys f) (kd f) (xs f) (ys f) z)
    refine propext (and_congr_right (fun _ => fm_cg (fun hk => ?_) (fun hk => ?_)))
    · have h := (hw f hm hk).1
      rw [ih _ h v (by omega) (by omega), ih _ h f (by omega) h]
    · have h := (hw f hm hk).2
      rw [ih _ h v (by omega) (by omega), ih _ h f (by omega) h]
theorem tF_eq {S : Nat → Nat → Prop} {N m : Nat} {kd xs ys : Nat → Nat} (hw : ∀ i, i < m → kd i ≠ 0 → xs i < i ∧ ys i < i) {f z : Nat} (hf : f < m) : tF S N kd xs ys f z ↔ (z < N ∧ fm_v S (tF S N kd xs ys) (kd f) (xs f) (ys f) z) := by
  show (z < N ∧ fm_v S (tr S N kd xs ys f) (kd f) (xs f) (ys f) z) ↔ _
  refine and_congr_right (fun _ => fm_cg (fun hk => ?_) (fun hk => ?_))
  · have h := (hw f hf hk).1
    exact tr_eq hw _ _ (by omega) h
  · have h := (hw f hf hk).2
    exact tr_eq hw _ _ (by omega) h
theorem tF_lt {S : Nat → Nat → Prop} {N : Nat} {kd xs ys : Nat → Nat} {f z : Nat} (h : tF S N kd xs ys f z) : z < N := h.1
/-- a truth that keeps the words is that one -/
theorem tF_un {S : Nat → Nat → Prop} {N m : Nat} {kd xs ys : Nat → Nat} {T : Nat → Nat → Prop} {G : Nat → Prop} (hw : ∀ i, i < m → kd i ≠ 0 → xs i < i ∧ ys i < i) (hG : ∀ i, i < m → G i → kd i ≠ 0 → G (xs i) ∧ G (ys i)) (hT : ∀ i, i < m → G i → ∀ z, T i z ↔ (z < N ∧ fm_v S T (kd i) (xs i) (ys i) z)) : ∀ f, f < m → G f → T f = tF S N kd xs ys f := by
  intro f
  induction f using Nat.strongRecOn with
  | ind f ih =>
    intro hf hg
    funext z
    refine propext ((hT f hf hg z).trans (Iff.trans (and_congr_right (fun _ => fm_cg (fun hk => ?_) (fun hk => ?_))) (tF_eq hw hf).symm))
    · have h := hw f hf hk
      exact ih _ h.1 (by omega) (hG f hf hg hk).1
    · have h := hw f hf hk
      exact ih _ h.2 (by omega) (hG f hf hg hk).2
/-- another way to say which state goes to which -/
theorem um_S {S S' : Nat → Nat → Prop} {X Y : Nat → Prop} (h : ∀ a b, X a → (S a b ↔ S' a b)) : um S X Y = um S' X Y := by
  have e : (fun a b => X a ∧ S a b) = (fun a b => X a ∧ S' a b) := by
    funext a b
    exact propext (and_congr_right (fun hx => h a b hx))
  unfold um
  rw [e]
theorem fm_S {S S' : Nat → Nat → Prop} {T : Nat → Nat → Prop} {k x y z : Nat} (h : ∀ a b, a < 256 → (S a b ↔ S' a b)) (hz : z < 256) (hx : ∀ a, T x a → a < 256) : fm_v S T k x y z ↔ fm_v S' T k x y z := by
  have e5 : um S (T x) (T y) = um S' (T x) (T y) := um_S (fun a b ha => h a b (hx a ha))
  have e6 : (fun a b => T x a ∧ T x b ∧ S a b) = (fun a b => T x a ∧ T x b ∧ S' a b) := by
    funext a b
    exact propext (and_congr_right (fun ha => and_congr_right (fun _ => h a b (hx a ha))))
  have e4 : (∃ t, S z t ∧ T x t) ↔ ∃ t, S' z t ∧ T x t := ⟨fun ⟨t, h1, h2⟩ => ⟨t, (h z t hz).mp h1, h2⟩, fun ⟨t, h1, h2⟩ => ⟨t, (h z t hz).mpr h1, h2⟩⟩
  unfold fm_v
  rw [e5, e6]
  split
  · exact Iff.rfl
  · split
    · exact Iff.rfl
    · split
      · exact Iff.rfl
      · split
        · exact Iff.rfl
        · split
          · exact e4
          · exact Iff.rfl
def iS (n : Nat) (x : Int32) : Prop := 0 ≤ x ∧ x < nI (2 ^ n)
def iF (mk : Nat) (x : Int32) : Prop := 0 ≤ x ∧ x < nI mk
def pT (n : Nat) (m v : Int32) : Prop := iS n m ∧ iS n v ∧ v &&& (m ^^^ -1) = 0
def fG (n mk : Nat) (k x y : Int32) : Prop := 0 ≤ k ∧ k ≤ 7 ∧ (k = 0 → pT n x y) ∧ (k ≠ 0 → iF mk x ∧ (tp k → iF mk y))
theorem iN_nat {N : Nat} {x : Int32} (hN : N < 2 ^ 31) (h : 0 ≤ x ∧ x < nI N) : ∃ a, a < N ∧ x = nI a := by
  obtain ⟨j, hj, rfl⟩ := nI_of (x := x) (Int32.not_lt.mpr h.1)
  exact ⟨j, (nI_ltI hj hN).mp h.2, rfl⟩
theorem iN_of {N a : Nat} (hN : N < 2 ^ 31) (h : a < N) : 0 ≤ nI a ∧ nI a < nI N := ⟨nI_pos' (by omega), (nI_ltI (by omega) hN).mpr h⟩
theorem iS_nat {n : Nat} {x : Int32} (hn : n ≤ 8) (h : iS n x) : ∃ a, a < 2 ^ n ∧ x = nI a := by
  have := pow_le8 hn
  exact iN_nat (by omega) h
theorem iF_nat {mk : Nat} {x : Int32} (hn : mk ≤ 60) (h : iF mk x) : ∃ a, a < mk ∧ x = nI a := iN_nat (by omega) h
/-- the class's cells, the rules rl and the formulas kd, xs, ys -/
def sl_ok (L : Nat → Nat → Int64) (I : Nat → Nat → Int32) (V : Nat → Int32) (n r mk : Nat) (rl : Nat → Nat × Nat × Nat × Nat) (kd xs ys : Nat → Nat) : Prop :=
  fo_ok L I V n r mk kd xs ys (fun _ => false) ∧ 1 ≤ n ∧ rl_ok n r rl ∧ ∀ a b, a < 256 → (ev_S (L 1) a b ↔ rs n r rl a b)
theorem sl_wf {L : Nat → Nat → Int64} {I : Nat → Nat → Int32} {V : Nat → Int32} {n r mk : Nat} {rl : Nat → Nat × Nat × Nat × Nat} {kd xs ys : Nat → Nat} (h : sl_ok L I V n r mk rl kd xs ys) : ∀ i, i < mk → kd i ≠ 0 → xs i < i ∧ ys i < i := fun i hi => (h.1.2.1 i hi).2.2.2.2.2.1
/-- what is settled is true of the rules of now -/
theorem sl_tr {L : Nat → Nat → Int64} {I : Nat → Nat → Int32} {V : Nat → Int32} {n r mk : Nat} {rl : Nat → Nat × Nat × Nat × Nat} {kd xs ys : Nat → Nat} (h : sl_ok L I V n r mk rl kd xs ys) {f : Nat} (hf : f < mk) (h7 : I 7 f = nI r) : ev_T (L 4) f = tF (rs n r rl) (2 ^ n) kd xs ys f := by
  have hw := sl_wf h
  obtain ⟨⟨⟨hn, hV0, hV1, hr40, hV3, hmk, hall, hSP⟩, hfm, hset, hst, hwa, hme⟩, -, hrl, hS⟩ := h
  have hp8 := pow_le8 hn
  refine tF_un (T := ev_T (L 4)) (G := fun i => I 7 i = nI r) hw (fun i hi hg hk => (hst i hi hg).1 hk) (fun i hi hg z => ?_) f hf h7
  refine ((hst i hi hg).2 z).trans (and_congr_right (fun hz => fm_S hS (by omega) (fun a ha => ha.1)))
theorem sl_SN {L : Nat → Nat → Int64} {I : Nat → Nat → Int32} {V : Nat → Int32} {n r mk : Nat} {rl : Nat → Nat × Nat × Nat × Nat} {kd xs ys : Nat → Nat} (h : sl_ok L I V n r mk rl kd xs ys) : ∀ a b, a < 256 → ev_S (L 1) a b → b < 2 ^ n := fun a b ha hs => rs_lt h.2.2.1 ((h.2.2.2 a b ha).mp hs)
theorem um_hd {S : Nat → Nat → Prop} {X Y : Nat → Prop} {m z : Nat} (h : um S X Y (m + 1) z) : X z := by
  obtain ⟨t, -, c, hc, -⟩ := h
  exact hc.1
theorem umin_S {S S' : Nat → Nat → Prop} {X Y : Nat → Prop} (h : ∀ a b, X a → (S a b ↔ S' a b)) : umin S X Y = umin S' X Y := by
  funext d z
  unfold umin
  rw [um_S h]
theorem wst_S {S S' : Nat → Nat → Prop} {X Y : Nat → Prop} (h : ∀ a b, X a → (S a b ↔ S' a b)) : wst S X Y = wst S' X Y := by
  funext u t
  unfold wst
  rw [umin_S h]
  refine propext ⟨?_, ?_⟩
  · rintro ⟨d, h1, h2, h3, h4⟩
    have hx : X u := um_hd h1.1
    exact ⟨d, h1, (h u t hx).mp h2, h3, fun t' ht' hs => h4 t' ht' ((h u t' hx).mpr hs)⟩
  · rintro ⟨d, h1, h2, h3, h4⟩
    have hx : X u := um_hd h1.1
    exact ⟨d, h1, (h u t hx).mpr h2, h3, fun t' ht' hs => h4 t' ht' ((h u t' hx).mp hs)⟩
theorem wit_S {S S' : Nat → Nat → Prop} {X Y : Nat → Prop} (h : ∀ a b, X a → (S a b ↔ S' a b)) (s : Nat) : ∀ k t, wit S X Y s k t ↔ wit S' X Y s k t
  | 0, t => Iff.rfl
  | k + 1, t => by
    show (∃ u, wit S X Y s k u ∧ wst S X Y u t) ↔ ∃ u, wit S' X Y s k u ∧ wst S' X Y u t
    rw [wst_S h]
    exact ⟨fun ⟨u, h1, h2⟩ => ⟨u, (wit_S h s k u).mp h1, h2⟩, fun ⟨u, h1, h2⟩ => ⟨u, (wit_S h s k u).mpr h1, h2⟩⟩
/-- the witness is one -/
theorem wst_un {S : Nat → Nat → Prop} {X Y : Nat → Prop} {u t t' : Nat} (h : wst S X Y u t) (h' : wst S X Y u t') : t = t' := by
  obtain ⟨d, a1, a2, a3, a4⟩ := h
  obtain ⟨d', b1, b2, b3, b4⟩ := h'
  have e := umin_eq a1 b1
  have e : d' = d := by omega
  subst e
  rcases Nat.lt_trichotomy t t' with q | q | q
  · exact absurd a3 (b4 t q a2)
  · exact q
  · exact absurd b3 (a4 t' q b2)
theorem wit_un {S : Nat → Nat → Prop} {X Y : Nat → Prop} {s : Nat} : ∀ {k t t' : Nat}, wit S X Y s k t → wit S X Y s k t' → t = t'
  | 0, t, t', h, h' => h.trans h'.symm
  | k + 1, t, t', h, h' => by
    obtain ⟨u, h1, h2⟩ := h
    obtain ⟨u', h3, h4⟩ := h'
    have e := wit_un h1 h3
    subst e
    exact wst_un h2 h4
