/-! A search in breadth: pure -/
theorem pig : ∀ (m n : Nat) (f : Nat → Nat), (∀ i, i < n → f i < m) → (∀ i j, i < n → j < n → f i = f j → i = j) → n ≤ m
  | 0, n, f, h, _ => by
    refine Classical.byContradiction (fun hn => ?_)
    exact absurd (h 0 (by omega)) (Nat.not_lt_zero _)
  | m + 1, n, f, h, hj => by
    by_cases hex : ∃ i, i < n ∧ f i = m
    · obtain ⟨i0, hi0, hf0⟩ := hex
      have h1 : n - 1 ≤ m := by
        refine pig m (n - 1) (fun i => if i = i0 then f (n - 1) else f i) (fun i hi => ?_) (fun i j hi hj2 e => ?_)
        · show (if i = i0 then f (n - 1) else f i) < m
          by_cases e : i = i0
          · rw [if_pos e]
            have h2 := h (n - 1) (by omega)
            have h3 : f (n - 1) ≠ m := fun q => by
              have := hj (n - 1) i0 (by omega) hi0 (q.trans hf0.symm)
              omega
            omega
          · rw [if_neg e]
            have h2 := h i (by omega)
            have h3 : f i ≠ m := fun q => e (hj i i0 (by omega) hi0 (q.trans hf0.symm))
            omega
        · have e' : (if i = i0 then f (n - 1) else f i) = (if j = i0 then f (n - 1) else f j) := e
          by_cases e1 : i = i0
          · by_cases e2 : j = i0
            · omega
            · rw [if_pos e1, if_neg e2] at e'
              have := hj (n - 1) j (by omega) (by omega) e'
              omega
          · by_cases e2 : j = i0
            · rw [if_neg e1, if_pos e2] at e'
              have := hj i (n - 1) (by omega) (by omega) e'
              omega
            · rw [if_neg e1, if_neg e2] at e'
              exact hj i j (by omega) (by omega) e'
      omega
    · have h1 : n ≤ m := pig m n f (fun i hi => by
        have h2 := h i hi
        have h3 : f i ≠ m := fun q => hex ⟨i, hi, q⟩
        omega) hj
      omega
def bf_F (fd : Nat → Nat) (cnt z : Nat) : Prop := ∃ i, i < cnt ∧ fd i = z
def bf_I (E : Nat → Nat → Prop) (O0 : Nat → Prop) (cnt0 : Nat) (fd0 : Nat → Nat) (a cnt : Nat) (fd dd : Nat → Nat) : Prop :=
  a ≤ cnt ∧ (∀ i, i < cnt → fd i < 256) ∧ (∀ i j, i < cnt → j < cnt → fd i = fd j → i = j) ∧ cnt0 ≤ cnt ∧ (∀ i, i < cnt0 → fd i = fd0 i) ∧ (∀ i, i < cnt → cnt0 ≤ i → O0 (fd i)) ∧
  (∀ i, i < cnt → ∃ k, k < cnt0 ∧ g_st E (dd (fd i)) (fd0 k) (fd i)) ∧
  (∀ i, i < a → ∀ z, E (fd i) z → bf_F fd cnt z ∧ dd z ≤ dd (fd i) + 1) ∧
  (∀ i j, i ≤ j → j < cnt → dd (fd i) ≤ dd (fd j)) ∧ (∀ j, j < cnt → a < cnt → dd (fd j) ≤ dd (fd a) + 1)
theorem bf_le {E : Nat → Nat → Prop} {O0 : Nat → Prop} {cnt0 a cnt : Nat} {fd0 fd dd : Nat → Nat} (h : bf_I E O0 cnt0 fd0 a cnt fd dd) : cnt ≤ 256 := pig 256 cnt fd h.2.1 h.2.2.1
theorem g_st_snoc {E : Nat → Nat → Prop} {n a b c : Nat} (h : g_st E n a b) (hbc : E b c) : g_st E (n + 1) a c := g_st_tr n 1 a b c h ⟨c, hbc, rfl⟩
theorem bf_inj {fd : Nat → Nat} {cnt x : Nat} (hj : ∀ i j, i < cnt → j < cnt → fd i = fd j → i = j) (hx : ¬ bf_F fd cnt x) : ∀ i j, i < cnt + 1 → j < cnt + 1 → hu fd cnt x i = hu fd cnt x j → i = j := by
  intro i j hi hj2 e
  by_cases e1 : i = cnt
  · by_cases e2 : j = cnt
    · omega
    · rw [e1, hu_s, hu_n e2] at e
      exact absurd ⟨j, by omega, e.symm⟩ hx
  · by_cases e2 : j = cnt
    · rw [e2, hu_s, hu_n e1] at e
      exact absurd ⟨i, by omega, e⟩ hx
    · rw [hu_n e1, hu_n e2] at e
      exact hj i j (by omega) (by omega) e
theorem bf_F_s {fd : Nat → Nat} {cnt x z : Nat} : bf_F (hu fd cnt x) (cnt + 1) z ↔ (bf_F fd cnt z ∨ z = x) := by
  constructor
  · rintro ⟨i, hi, e⟩
    by_cases e1 : i = cnt
    · rw [e1, hu_s] at e
      exact Or.inr e.symm
    · rw [hu_n e1] at e
      exact Or.inl ⟨i, by omega, e⟩
  · rintro (⟨i, hi, e⟩ | e)
    · exact ⟨i, by omega, by rw [hu_n (by omega)]; exact e⟩
    · exact ⟨cnt, by omega, by rw [hu_s, e]⟩
theorem bf_lt {E : Nat → Nat → Prop} {O0 : Nat → Prop} {cnt0 a cnt x : Nat} {fd0 fd dd : Nat → Nat} (h : bf_I E O0 cnt0 fd0 a cnt fd dd) (hx : x < 256) (hF : ¬ bf_F fd cnt x) : cnt < 256 := by
  have h1 := pig 256 (cnt + 1) (hu fd cnt x) (fun i hi => by
    by_cases e : i = cnt
    · rw [e, hu_s]
      exact hx
    · rw [hu_n e]
      exact h.2.1 i (by omega)) (bf_inj h.2.2.1 hF)
  omega
/-- x found from the one at a -/
theorem bf_add {E : Nat → Nat → Prop} {O0 : Nat → Prop} {cnt0 a cnt x : Nat} {fd0 fd dd : Nat → Nat} (h : bf_I E O0 cnt0 fd0 a cnt fd dd) (ha : a < cnt) (hE : E (fd a) x) (hO : O0 x) (hF : ¬ bf_F fd cnt x) (hx : x < 256) :
    bf_I E O0 cnt0 fd0 a (cnt + 1) (hu fd cnt x) (hu dd x (dd (fd a) + 1)) := by
  obtain ⟨a1, a2, a3, a4, a5, a6, a7, a8, a9, a10⟩ := h
  have hne : ∀ i, i < cnt → fd i ≠ x := fun i hi e => hF ⟨i, hi, e⟩
  have hd : ∀ i, i < cnt → hu dd x (dd (fd a) + 1) (fd i) = dd (fd i) := fun i hi => hu_n (hne i hi)
  have hf : ∀ i, i < cnt → hu fd cnt x i = fd i := fun i hi => hu_n (by omega)
  have hfa := hf a ha
  refine ⟨by omega, fun i hi => ?_, bf_inj a3 hF, by omega, fun i hi => by rw [hf i (by omega)]; exact a5 i hi, fun i hi hc => ?_, fun i hi => ?_, fun i hi z hz => ?_, fun i j hij hj => ?_, fun j hj _ => ?_⟩
  · by_cases e : i = cnt
    · rw [e, hu_s]
      exact hx
    · rw [hf i (by omega)]
      exact a2 i (by omega)
  · by_cases e : i = cnt
    · rw [e, hu_s]
      exact hO
    · rw [hf i (by omega)]
      exact a6 i (by omega) hc
  · by_cases e : i = cnt
    · rw [e, hu_s, hu_s]
      obtain ⟨k, hk, hst⟩ := a7 a ha
      exact ⟨k, hk, g_st_snoc hst hE⟩
    · rw [hf i (by omega), hd i (by omega)]
      exact a7 i (by omega)
  · rw [hf i (by omega)] at hz
    obtain ⟨⟨j, hj, e⟩, h2⟩ := a8 i hi z hz
    have hzx : z ≠ x := fun q => hne j hj (e.trans q)
    rw [hf i (by omega), hd i (by omega), hu_n hzx]
    exact ⟨bf_F_s.mpr (Or.inl ⟨j, hj, e⟩), h2⟩
  · by_cases e : j = cnt
    · rw [e, hu_s, hu_s]
      by_cases e2 : i = cnt
      · rw [e2, hu_s, hu_s]
        exact Nat.le_refl _
      · rw [hf i (by omega), hd i (by omega)]
        exact a10 i (by omega) ha
    · rw [hf j (by omega), hd j (by omega), hf i (by omega), hd i (by omega)]
      exact a9 i j hij (by omega)
  · rw [hfa, hd a ha]
    by_cases e : j = cnt
    · rw [e, hu_s, hu_s]
      exact Nat.le_refl _
    · rw [hf j (by omega), hd j (by omega)]
      exact a10 j (by omega) ha
theorem bf_next {E : Nat → Nat → Prop} {O0 : Nat → Prop} {cnt0 a cnt : Nat} {fd0 fd dd : Nat → Nat} (h : bf_I E O0 cnt0 fd0 a cnt fd dd) (ha : a < cnt) (hall : ∀ z, E (fd a) z → bf_F fd cnt z) : bf_I E O0 cnt0 fd0 (a + 1) cnt fd dd := by
  obtain ⟨a1, a2, a3, a4, a5, a6, a7, a8, a9, a10⟩ := h
  refine ⟨by omega, a2, a3, a4, a5, a6, a7, fun i hi z hz => ?_, a9, fun j hj h1 => ?_⟩
  · by_cases e : i = a
    · subst e
      obtain ⟨j, hj, e⟩ := hall z hz
      exact ⟨⟨j, hj, e⟩, by rw [← e]; exact a10 j hj ha⟩
    · exact a8 i (by omega) z hz
  · have h2 := a10 j hj ha
    have h3 := a9 a (a + 1) (by omega) h1
    omega
theorem bf_end {E : Nat → Nat → Prop} {O0 : Nat → Prop} {cnt0 cnt : Nat} {fd0 fd dd : Nat → Nat} (h : bf_I E O0 cnt0 fd0 cnt cnt fd dd) (h0 : ∀ k, k < cnt0 → dd (fd0 k) = 0) {k : Nat} (hk : k < cnt0) : ∀ (n z : Nat), g_st E n (fd0 k) z → bf_F fd cnt z ∧ dd z ≤ n := by
  obtain ⟨a1, a2, a3, a4, a5, a6, a7, a8, a9, a10⟩ := h
  have hs : ∀ (n z : Nat), g_st E (n + 1) (fd0 k) z → ∃ y, g_st E n (fd0 k) y ∧ E y z := by
    have hg : ∀ (n a z : Nat), g_st E (n + 1) a z → ∃ y, g_st E n a y ∧ E y z := by
      intro n
      induction n with
      | zero =>
        rintro a z ⟨c, hc, h⟩
        have h : c = z := h
        subst h
        exact ⟨a, rfl, hc⟩
      | succ n ih =>
        rintro a z ⟨c, hc, h⟩
        obtain ⟨y, hy, hyz⟩ := ih c z h
        exact ⟨y, ⟨c, hc, hy⟩, hyz⟩
    exact fun n z h => hg n _ z h
  intro n
  induction n with
  | zero =>
    intro z h
    have h : fd0 k = z := h
    subst h
    exact ⟨⟨k, by omega, a5 k hk⟩, by rw [h0 k hk]; exact Nat.le_refl _⟩
  | succ n ih =>
    intro z h
    obtain ⟨y, hy, hyz⟩ := hs n z h
    obtain ⟨⟨i, hi, e⟩, hd⟩ := ih y hy
    rw [← e] at hyz hd
    obtain ⟨hF, h2⟩ := a8 i hi z hyz
    exact ⟨hF, by omega⟩
