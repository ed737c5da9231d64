/-! Rows of steps in a graph on numbers; what a search in depth leaves; rings. Pure: nothing of the machine. -/
def g_st (E : Nat → Nat → Prop) : Nat → Nat → Nat → Prop
  | 0, a, b => a = b
  | n + 1, a, b => ∃ c, E a c ∧ g_st E n c b
def g_re (E : Nat → Nat → Prop) (a b : Nat) : Prop := ∃ n, g_st E n a b
theorem g_st_tr {E : Nat → Nat → Prop} : ∀ (n k a b c : Nat), g_st E n a b → g_st E k b c → g_st E (n + k) a c
  | 0, k, a, b, c, h1, h2 => by
    have h1 : a = b := h1
    subst h1
    rw [Nat.zero_add]
    exact h2
  | n + 1, k, a, b, c, h1, h2 => by
    obtain ⟨x, hx, h1⟩ := h1
    have e : n + 1 + k = (n + k) + 1 := by omega
    rw [e]
    exact ⟨x, hx, g_st_tr n k x b c h1 h2⟩
theorem g_re_rf (E : Nat → Nat → Prop) (a : Nat) : g_re E a a := ⟨0, rfl⟩
theorem g_re_1 {E : Nat → Nat → Prop} {a b : Nat} (h : E a b) : g_re E a b := ⟨1, b, h, rfl⟩
theorem g_re_tr {E : Nat → Nat → Prop} {a b c : Nat} (h1 : g_re E a b) (h2 : g_re E b c) : g_re E a c := by
  obtain ⟨n, h1⟩ := h1
  obtain ⟨k, h2⟩ := h2
  exact ⟨n + k, g_st_tr n k a b c h1 h2⟩
theorem g_re_hd {E : Nat → Nat → Prop} {a b c : Nat} (h1 : E a b) (h2 : g_re E b c) : g_re E a c := g_re_tr (g_re_1 h1) h2
theorem g_re_tl {E : Nat → Nat → Prop} {a b c : Nat} (h1 : g_re E a b) (h2 : E b c) : g_re E a c := g_re_tr h1 (g_re_1 h2)
theorem g_st_back {E : Nat → Nat → Prop} {P : Nat → Prop} {b : Nat} (h0 : P b) (hs : ∀ x y, E x y → P y → P x) : ∀ (n a : Nat), g_st E n a b → P a
  | 0, a, h => by
    have h : a = b := h
    subst h
    exact h0
  | n + 1, a, h => by
    obtain ⟨c, hc, h⟩ := h
    exact hs a c hc (g_st_back h0 hs n c h)
theorem g_re_back {E : Nat → Nat → Prop} {P : Nat → Prop} {a b : Nat} (h : g_re E a b) (h0 : P b) (hs : ∀ x y, E x y → P y → P x) : P a := by
  obtain ⟨n, h⟩ := h
  exact g_st_back h0 hs n a h
theorem g_st_fwd {E : Nat → Nat → Prop} {P : Nat → Prop} (hs : ∀ x y, P x → E x y → P y) {b : Nat} : ∀ (n a : Nat), P a → g_st E n a b → P b
  | 0, a, h0, h => by
    have h : a = b := h
    subst h
    exact h0
  | n + 1, a, h0, h => by
    obtain ⟨c, hc, h⟩ := h
    exact g_st_fwd hs n c (hs a c h0 hc) h
theorem g_re_fwd {E : Nat → Nat → Prop} {P : Nat → Prop} {a b : Nat} (h : g_re E a b) (h0 : P a) (hs : ∀ x y, P x → E x y → P y) : P b := by
  obtain ⟨n, h⟩ := h
  exact g_st_fwd hs n a h0 h
theorem g_re_rev {E : Nat → Nat → Prop} {a b : Nat} (h : g_re (fun x y => E y x) a b) : g_re E b a :=
  g_re_back (P := fun x => g_re E b x) h (g_re_rf E b) (fun _ _ hxy hy => g_re_tl hy hxy)
theorem g_re_rev' {E : Nat → Nat → Prop} {a b : Nat} (h : g_re E b a) : g_re (fun x y => E y x) a b :=
  g_re_back (P := fun x => g_re (fun x y => E y x) a x) h (g_re_rf _ a) (fun _ _ hxy hy => g_re_tl hy hxy)
theorem g_re_cases {E : Nat → Nat → Prop} {a b : Nat} (h : g_re E a b) : a = b ∨ ∃ c, E a c ∧ g_re E c b := by
  obtain ⟨n, h⟩ := h
  cases n with
  | zero => exact Or.inl h
  | succ n =>
    obtain ⟨c, hc, h⟩ := h
    exact Or.inr ⟨c, hc, n, h⟩
theorem g_re_mono {E F : Nat → Nat → Prop} (hEF : ∀ x y, E x y → F x y) {a b : Nat} (h : g_re E a b) : g_re F a b :=
  g_re_back (P := fun x => g_re F x b) h (g_re_rf F b) (fun _ _ hxy hy => g_re_hd (hEF _ _ hxy) hy)
def g_eq (E : Nat → Nat → Prop) (a b : Nat) : Prop := g_re E a b ∧ g_re E b a
theorem g_eq_rf (E : Nat → Nat → Prop) (a : Nat) : g_eq E a a := ⟨g_re_rf E a, g_re_rf E a⟩
theorem g_eq_sy {E : Nat → Nat → Prop} {a b : Nat} (h : g_eq E a b) : g_eq E b a := ⟨h.2, h.1⟩
theorem g_eq_tr {E : Nat → Nat → Prop} {a b c : Nat} (h : g_eq E a b) (h2 : g_eq E b c) : g_eq E a c := ⟨g_re_tr h.1 h2.1, g_re_tr h2.2 h.2⟩
/-- b stands in the list at a or behind it -/
def g_bef (L : List Nat) (a b : Nat) : Prop := ∃ l1 l2, L = l1 ++ a :: l2 ∧ (b = a ∨ b ∈ l2)
theorem g_bef_cons {L : List Nat} {a b t : Nat} (h : g_bef L a b) : g_bef (t :: L) a b := by
  obtain ⟨l1, l2, e, h⟩ := h
  exact ⟨t :: l1, l2, by rw [e]; rfl, h⟩
theorem g_bef_hd {L : List Nat} {b t : Nat} (h : b ∈ t :: L) : g_bef (t :: L) t b := ⟨[], L, rfl, List.mem_cons.mp h⟩
/-- A SEARCH IN DEPTH: O open, P the path (its top first), L ended (the last first), of the states of X along E -/
def g_dfs (E : Nat → Nat → Prop) (X O : Nat → Prop) (P L : List Nat) : Prop :=
  (∀ x, X x ↔ (O x ∨ x ∈ P ∨ x ∈ L)) ∧ (∀ x, O x → x ∉ P ∧ x ∉ L) ∧ (∀ x, x ∈ P → x ∉ L) ∧ P.Nodup ∧ L.Nodup ∧
  (∀ l1 t l2, P = l1 ++ t :: l2 → ∀ g, g ∈ l2 → g_re E g t) ∧
  (∀ x, x ∈ L → ∀ y, E x y → ¬ O y) ∧
  (∀ x, x ∈ L → (∃ g, g ∈ P ∧ g_eq E g x) ∨ ∀ w, g_re E x w → w ∈ L ∧ ∃ x', g_eq E x x' ∧ g_bef L x' w)
theorem g_dfs_0 {E : Nat → Nat → Prop} {X : Nat → Prop} : g_dfs E X X [] [] := by
  refine ⟨fun x => ⟨fun h => Or.inl h, fun h => ?_⟩, fun x _ => ⟨List.not_mem_nil, List.not_mem_nil⟩, fun x _ => List.not_mem_nil, List.nodup_nil, List.nodup_nil, ?_, ?_, ?_⟩
  · rcases h with h | h | h
    · exact h
    · exact absurd h List.not_mem_nil
    · exact absurd h List.not_mem_nil
  · intro l1 t l2 h
    simp at h
  · intro x h
    exact absurd h List.not_mem_nil
  · intro x h
    exact absurd h List.not_mem_nil
/-- entering n -/
theorem g_dfs_in {E : Nat → Nat → Prop} {X O O' : Nat → Prop} {P L : List Nat} (h : g_dfs E X O P L) (n : Nat) (hn : O n) (hO : ∀ x, O' x ↔ (O x ∧ x ≠ n))
    (hP : P = [] ∨ ∃ t r, P = t :: r ∧ E t n) : g_dfs E X O' (n :: P) L := by
  obtain ⟨a1, a2, a3, a4, a5, a6, a7, a8⟩ := h
  refine ⟨fun x => ⟨fun hx => ?_, fun hx => ?_⟩, fun x hx => ?_, fun x hx => ?_, List.nodup_cons.mpr ⟨(a2 n hn).1, a4⟩, a5, ?_, ?_, ?_⟩
  · rcases (a1 x).mp hx with h | h | h
    · by_cases e : x = n
      · exact Or.inr (Or.inl (by rw [e]; exact List.mem_cons_self))
      · exact Or.inl ((hO x).mpr ⟨h, e⟩)
    · exact Or.inr (Or.inl (List.mem_cons_of_mem _ h))
    · exact Or.inr (Or.inr h)
  · rcases hx with h | h | h
    · exact (a1 x).mpr (Or.inl ((hO x).mp h).1)
    · rcases List.mem_cons.mp h with e | h
      · rw [e]
        exact (a1 n).mpr (Or.inl hn)
      · exact (a1 x).mpr (Or.inr (Or.inl h))
    · exact (a1 x).mpr (Or.inr (Or.inr h))
  · obtain ⟨h1, h2⟩ := (hO x).mp hx
    refine ⟨fun h => ?_, (a2 x h1).2⟩
    rcases List.mem_cons.mp h with e | h
    · exact h2 e
    · exact (a2 x h1).1 h
  · rcases List.mem_cons.mp hx with e | h
    · rw [e]
      exact (a2 n hn).2
    · exact a3 x h
  · intro l1 t l2 e g hg
    cases l1 with
    | nil =>
      rw [List.nil_append] at e
      injection e with e1 e2
      subst e1
      subst e2
      rcases hP with hP | ⟨t, r, hP, hE⟩
      · rw [hP] at hg
        exact absurd hg List.not_mem_nil
      · subst hP
        rcases List.mem_cons.mp hg with e | hg
        · rw [e]
          exact g_re_1 hE
        · exact g_re_tl (a6 [] t r rfl g hg) hE
    | cons b l1 =>
      rw [List.cons_append] at e
      injection e with e1 e2
      exact a6 l1 t l2 e2 g hg
  · intro x hx y hy h
    exact a7 x hx y hy ((hO y).mp h).1
  · intro x hx
    rcases a8 x hx with ⟨g, hg, hq⟩ | h
    · exact Or.inl ⟨g, List.mem_cons_of_mem _ hg, hq⟩
    · exact Or.inr h
/-- ending t: nothing open is behind it -/
theorem g_dfs_out {E : Nat → Nat → Prop} {X O : Nat → Prop} {P L : List Nat} {t : Nat} (hX : ∀ x y, E x y → X x ∧ X y) (h : g_dfs E X O (t :: P) L) (ht : ∀ y, E t y → ¬ O y) : g_dfs E X O P (t :: L) := by
  obtain ⟨a1, a2, a3, a4, a5, a6, a7, a8⟩ := h
  have htL : t ∉ L := a3 t List.mem_cons_self
  have htP : t ∉ P := (List.nodup_cons.mp a4).1
  have hno : ∀ x, x ∈ t :: L → ∀ y, E x y → ¬ O y := by
    intro x hx y hy
    rcases List.mem_cons.mp hx with e | hx
    · rw [e] at hy
      exact ht y hy
    · exact a7 x hx y hy
  have hup : ∀ g, g ∈ P → g_re E g t := fun g hg => a6 [] t P rfl g hg
  refine ⟨fun x => ⟨fun hx => ?_, fun hx => ?_⟩, fun x hx => ?_, fun x hx => ?_, (List.nodup_cons.mp a4).2, List.nodup_cons.mpr ⟨htL, a5⟩, ?_, hno, ?_⟩
  · rcases (a1 x).mp hx with h | h | h
    · exact Or.inl h
    · rcases List.mem_cons.mp h with e | h
      · exact Or.inr (Or.inr (by rw [e]; exact List.mem_cons_self))
      · exact Or.inr (Or.inl h)
    · exact Or.inr (Or.inr (List.mem_cons_of_mem _ h))
  · rcases hx with h | h | h
    · exact (a1 x).mpr (Or.inl h)
    · exact (a1 x).mpr (Or.inr (Or.inl (List.mem_cons_of_mem _ h)))
    · rcases List.mem_cons.mp h with e | h
      · exact (a1 x).mpr (Or.inr (Or.inl (by rw [e]; exact List.mem_cons_self)))
      · exact (a1 x).mpr (Or.inr (Or.inr h))
  · obtain ⟨h1, h2⟩ := a2 x hx
    refine ⟨fun h => h1 (List.mem_cons_of_mem _ h), fun h => ?_⟩
    rcases List.mem_cons.mp h with e | h
    · exact h1 (by rw [e]; exact List.mem_cons_self)
    · exact h2 h
  · intro h
    rcases List.mem_cons.mp h with e | h
    · exact htP (by rw [← e]; exact hx)
    · exact a3 x (List.mem_cons_of_mem _ hx) h
  · intro l1 t' l2 e g hg
    exact a6 (t :: l1) t' l2 (by rw [e]; rfl) g hg
  · -- the order
    have key : ∀ x, g_eq E t x → (∃ g, g ∈ P ∧ g_eq E g x) ∨ ∀ w, g_re E x w → w ∈ t :: L ∧ ∃ x', g_eq E x x' ∧ g_bef (t :: L) x' w := by
      intro x hx
      by_cases hg : ∃ g, g ∈ P ∧ g_eq E g t
      · obtain ⟨g, hg, hq⟩ := hg
        exact Or.inl ⟨g, hg, g_eq_tr hq hx⟩
      · refine Or.inr (fun w hw => ?_)
        have hin : w ∈ t :: L := by
          have hb : w ∈ t :: L ∧ g_re E t w := by
            refine g_re_fwd (P := fun z => z ∈ t :: L ∧ g_re E t z) (g_re_tr hx.1 hw) ⟨List.mem_cons_self, g_re_rf E t⟩ (fun y z hy hyz => ?_)
            have hz : g_re E t z := g_re_tl hy.2 hyz
            refine ⟨?_, hz⟩
            rcases (a1 z).mp (hX y z hyz).2 with h | h | h
            · exact absurd h (hno y hy.1 z hyz)
            · rcases List.mem_cons.mp h with e | h
              · rw [e]
                exact List.mem_cons_self
              · exact absurd ⟨z, h, hup z h, hz⟩ hg
            · exact List.mem_cons_of_mem _ h
          exact hb.1
        exact ⟨hin, t, g_eq_sy hx, g_bef_hd hin⟩
    intro x hx
    rcases List.mem_cons.mp hx with e | hx
    · rw [e]
      exact key t (g_eq_rf E t)
    · rcases a8 x hx with ⟨g, hg, hq⟩ | h
      · rcases List.mem_cons.mp hg with e | hg
        · rw [e] at hq
          exact key x hq
        · exact Or.inl ⟨g, hg, hq⟩
      · refine Or.inr (fun w hw => ?_)
        obtain ⟨h1, x', h2, h3⟩ := h w hw
        exact ⟨List.mem_cons_of_mem _ h1, x', h2, g_bef_cons h3⟩
/-- at the end: the list has all of X, once each, and whatever x leads to has one of x's ring at it or ahead of it -/
theorem g_dfs_end {E : Nat → Nat → Prop} {X O : Nat → Prop} {L : List Nat} (h : g_dfs E X O [] L) (hO : ∀ x, ¬ O x) :
    (∀ x, X x ↔ x ∈ L) ∧ L.Nodup ∧ ∀ x, X x → ∀ w, g_re E x w → ∃ x', g_eq E x x' ∧ g_bef L x' w := by
  obtain ⟨a1, a2, a3, a4, a5, a6, a7, a8⟩ := h
  have hX : ∀ x, X x ↔ x ∈ L := fun x => ⟨fun hx => by
    rcases (a1 x).mp hx with h | h | h
    · exact absurd h (hO x)
    · exact absurd h List.not_mem_nil
    · exact h, fun hx => (a1 x).mpr (Or.inr (Or.inr hx))⟩
  refine ⟨hX, a5, fun x hx w hw => ?_⟩
  rcases a8 x ((hX x).mp hx) with ⟨g, hg, -⟩ | h
  · exact absurd hg List.not_mem_nil
  · exact (h w hw).2
theorem g_split {done rest l1 l2 : List Nat} {r a : Nat} (hn : (done ++ r :: rest).Nodup) (e : done ++ r :: rest = l1 ++ a :: l2) (h : r = a ∨ r ∈ l2) : r = a ∨ a ∈ done := by
  induction done generalizing l1 with
  | nil =>
    cases l1 with
    | nil =>
      rw [List.nil_append, List.nil_append] at e
      injection e with e1 e2
      exact Or.inl e1
    | cons b l1 =>
      rw [List.nil_append, List.cons_append] at e
      injection e with e1 e2
      rw [List.nil_append] at hn
      have hr : r ∉ rest := (List.nodup_cons.mp hn).1
      exfalso
      refine hr ?_
      rw [e2]
      rcases h with h | h
      · rw [h]
        exact List.mem_append_right _ List.mem_cons_self
      · exact List.mem_append_right _ (List.mem_cons_of_mem _ h)
  | cons d done ih =>
    cases l1 with
    | nil =>
      rw [List.cons_append, List.nil_append] at e
      injection e with e1 e2
      exact Or.inr (by rw [e1]; exact List.mem_cons_self)
    | cons b l1 =>
      rw [List.cons_append, List.cons_append] at e
      injection e with e1 e2
      rw [List.cons_append] at hn
      rcases ih (List.nodup_cons.mp hn).2 e2 with q | q
      · exact Or.inl q
      · exact Or.inr (List.mem_cons_of_mem _ q)
/-- THE RINGS, one by one. B: the way back (the graph of the search), its list L; O2: what is open when r's turn comes: no ring of one that came before. Whatever open state r leads to is of r's ring. -/
theorem g_ring {E : Nat → Nat → Prop} {X O2 : Nat → Prop} {done rest : List Nat} {r : Nat}
    (hL : ∀ x, X x → ∀ w, g_re (fun a b => E b a) x w → ∃ x', g_eq (fun a b => E b a) x x' ∧ g_bef (done ++ r :: rest) x' w)
    (hn : (done ++ r :: rest).Nodup) (hO : ∀ x, O2 x ↔ (X x ∧ ∀ d, d ∈ done → ¬ g_eq E d x)) {w : Nat} (hw : O2 w) (hrw : g_re E r w) : g_eq E r w := by
  obtain ⟨hwX, hwd⟩ := (hO w).mp hw
  obtain ⟨w', hq, l1, l2, e, hr⟩ := hL w hwX r (g_re_rev' hrw)
  have hq' : g_eq E w w' := ⟨g_re_rev hq.2, g_re_rev hq.1⟩
  rcases g_split hn e hr with h | h
  · rw [h]
    exact g_eq_sy hq'
  · exact absurd (g_eq_sy hq') (hwd w' h)
/-- what is found from r through open states is r's ring -/
theorem g_found {E : Nat → Nat → Prop} {X O2 F : Nat → Prop} {done rest : List Nat} {r : Nat} (hX : ∀ x y, E x y → X x ∧ X y)
    (hL : ∀ x, X x → ∀ w, g_re (fun a b => E b a) x w → ∃ x', g_eq (fun a b => E b a) x x' ∧ g_bef (done ++ r :: rest) x' w)
    (hn : (done ++ r :: rest).Nodup) (hO : ∀ x, O2 x ↔ (X x ∧ ∀ d, d ∈ done → ¬ g_eq E d x)) (hr : O2 r)
    (hF : ∀ w, F w ↔ g_re (fun a b => O2 b ∧ E a b) r w) (w : Nat) : F w ↔ g_eq E r w := by
  rw [hF w]
  constructor
  · intro h
    have h1 : O2 w ∧ g_re E r w := g_re_fwd (P := fun z => O2 z ∧ g_re E r z) h ⟨hr, g_re_rf E r⟩ (fun x y hx hxy => ⟨hxy.1, g_re_tl hx.2 hxy.2⟩)
    exact g_ring hL hn hO h1.1 h1.2
  · intro h
    have hopen : ∀ z, X z → g_eq E r z → O2 z := fun z hz hq => (hO z).mpr ⟨hz, fun d hd hdz => ((hO r).mp hr).2 d hd (g_eq_tr hdz (g_eq_sy hq))⟩
    have h1 : g_re E w w ∧ (g_re E r w → g_re (fun a b => O2 b ∧ E a b) w w) := ⟨g_re_rf E w, fun _ => g_re_rf _ w⟩
    have h2 : g_re E r w ∧ (g_re E r r → g_re (fun a b => O2 b ∧ E a b) r w) :=
      g_re_back (P := fun x => g_re E x w ∧ (g_re E r x → g_re (fun a b => O2 b ∧ E a b) x w)) h.1 h1 (fun x y hxy hy => ⟨g_re_hd hxy hy.1, fun hrx => by
        have hry : g_re E r y := g_re_tl hrx hxy
        exact g_re_hd (E := fun a b => O2 b ∧ E a b) ⟨hopen y (hX x y hxy).2 ⟨hry, g_re_tr hy.1 h.2⟩, hxy⟩ (hy.2 hry)⟩)
    exact h2.2 (g_re_rf E r)
/-- an endless row through E from s on, with Y again and again -/
def g_ag (E : Nat → Nat → Prop) (Y : Nat → Prop) (s : Nat) : Prop := ∃ t, g_re E s t ∧ Y t ∧ ∃ u, E t u ∧ g_re E u t
theorem g_ag_back {E : Nat → Nat → Prop} {Y : Nat → Prop} {a b : Nat} (h : g_re E a b) (hb : g_ag E Y b) : g_ag E Y a := by
  obtain ⟨t, h1, h2⟩ := hb
  exact ⟨t, g_re_tr h h1, h2⟩
/-- A RING's TURN: T is right of all that is no more open -/
theorem g_turn {S E : Nat → Nat → Prop} {X Y O2 F T : Nat → Prop} {done rest : List Nat} {r : Nat} (hE : ∀ x y, E x y ↔ (X x ∧ X y ∧ S x y))
    (hL : ∀ x, X x → ∀ w, g_re (fun a b => E b a) x w → ∃ x', g_eq (fun a b => E b a) x x' ∧ g_bef (done ++ r :: rest) x' w)
    (hn : (done ++ r :: rest).Nodup) (hO : ∀ x, O2 x ↔ (X x ∧ ∀ d, d ∈ done → ¬ g_eq E d x)) (hr : O2 r)
    (hF : ∀ w, F w ↔ g_eq E r w) (hT : ∀ x, T x ↔ (X x ∧ ¬ O2 x ∧ g_ag E Y x)) (w : Nat) (hw : F w) :
    ((∃ x, F x ∧ ∃ v, S x v ∧ T v) ∨ ((∃ x, F x ∧ Y x) ∧ ((∃ x, F x ∧ x ≠ r) ∨ S r r))) ↔ g_ag E Y w := by
  have hrX : X r := ((hO r).mp hr).1
  have hFX : ∀ x, F x → X x := by
    intro x hx
    rcases g_re_cases ((hF x).mp hx).2 with e | ⟨c, hc, -⟩
    · rw [e]
      exact hrX
    · exact ((hE x c).mp hc).1
  have hwr : g_eq E r w := (hF w).mp hw
  constructor
  · rintro (⟨x, hx, v, hv, hT1⟩ | ⟨⟨y, hy, hY⟩, hround⟩)
    · obtain ⟨hvX, -, hag⟩ := (hT v).mp hT1
      have hxr : g_eq E r x := (hF x).mp hx
      have hE1 : E x v := (hE x v).mpr ⟨hFX x hx, hvX, hv⟩
      exact g_ag_back (g_re_tr hwr.2 (g_re_tl hxr.1 hE1)) hag
    · have hyr : g_eq E r y := (hF y).mp hy
      refine ⟨y, g_re_tr hwr.2 hyr.1, hY, ?_⟩
      rcases g_re_cases hyr.2 with e | ⟨c, hc, hcr⟩
      · subst e
        rcases hround with ⟨z, hz, hne⟩ | hself
        · have hzr : g_eq E y z := (hF z).mp hz
          rcases g_re_cases hzr.1 with e | ⟨c, hc, hcz⟩
          · exact absurd e.symm hne
          · exact ⟨c, hc, g_re_tr hcz hzr.2⟩
        · exact ⟨y, (hE y y).mpr ⟨hrX, hrX, hself⟩, g_re_rf E y⟩
      · exact ⟨c, hc, g_re_tr hcr hyr.1⟩
  · rintro ⟨t, hwt, hY, u, htu, hut⟩
    by_cases htr : g_eq E r t
    · refine Or.inr ⟨⟨t, (hF t).mpr htr, hY⟩, ?_⟩
      have hur : g_eq E r u := ⟨g_re_tl htr.1 htu, g_re_tr hut htr.2⟩
      by_cases e1 : u = r
      · by_cases e2 : t = r
        · subst e1
          subst e2
          exact Or.inr ((hE t t).mp htu).2.2
        · exact Or.inl ⟨t, (hF t).mpr htr, e2⟩
      · exact Or.inl ⟨u, (hF u).mpr hur, e1⟩
    · left
      have hag : ∀ y, g_re E y t → g_ag E Y y := fun y hy => ⟨t, hy, hY, u, htu, hut⟩
      have h0 : g_re E t t ∧ (g_eq E r t → ∃ x, F x ∧ ∃ v, S x v ∧ T v) := ⟨g_re_rf E t, fun h => absurd h htr⟩
      have h1 : g_re E w t ∧ (g_eq E r w → ∃ x, F x ∧ ∃ v, S x v ∧ T v) :=
        g_re_back (P := fun z => g_re E z t ∧ (g_eq E r z → ∃ x, F x ∧ ∃ v, S x v ∧ T v)) hwt h0 (fun x y hxy hy => by
          refine ⟨g_re_hd hxy hy.1, fun hrx => ?_⟩
          by_cases hry : g_eq E r y
          · exact hy.2 hry
          · obtain ⟨hx1, hx2, hx3⟩ := (hE x y).mp hxy
            refine ⟨x, (hF x).mpr hrx, y, hx3, (hT y).mpr ⟨hx2, fun ho => hry ?_, hag y hy.1⟩⟩
            exact g_ring hL hn hO ho (g_re_tl hrx.1 hxy))
      exact h1.2 hwr
/-- the open states behind r's turn -/
theorem g_open_next {E : Nat → Nat → Prop} {X O2 O3 F : Nat → Prop} {done : List Nat} {r : Nat} (hO : ∀ x, O2 x ↔ (X x ∧ ∀ d, d ∈ done → ¬ g_eq E d x))
    (hF : ∀ w, F w ↔ g_eq E r w) (h3 : ∀ x, O3 x ↔ (O2 x ∧ ¬ F x)) (x : Nat) : O3 x ↔ (X x ∧ ∀ d, d ∈ done ++ [r] → ¬ g_eq E d x) := by
  rw [h3 x, hO x, hF x]
  constructor
  · rintro ⟨⟨h1, h2⟩, h4⟩
    refine ⟨h1, fun d hd => ?_⟩
    rcases List.mem_append.mp hd with hd | hd
    · exact h2 d hd
    · rw [List.mem_singleton.mp hd]
      exact h4
  · rintro ⟨h1, h2⟩
    exact ⟨⟨h1, fun d hd => h2 d (List.mem_append_left _ hd)⟩, h2 r (List.mem_append_right _ (List.mem_singleton.mpr rfl))⟩
theorem g_open_skip {E : Nat → Nat → Prop} {X O2 : Nat → Prop} {done : List Nat} {r : Nat} (hO : ∀ x, O2 x ↔ (X x ∧ ∀ d, d ∈ done → ¬ g_eq E d x))
    (hrX : X r) (hr : ¬ O2 r) (x : Nat) : O2 x ↔ (X x ∧ ∀ d, d ∈ done ++ [r] → ¬ g_eq E d x) := by
  rw [hO x]
  constructor
  · rintro ⟨h1, h2⟩
    refine ⟨h1, fun d hd => ?_⟩
    rcases List.mem_append.mp hd with hd | hd
    · exact h2 d hd
    · rw [List.mem_singleton.mp hd]
      intro hq
      refine hr ((hO r).mpr ⟨hrX, fun d hd hdr => h2 d hd (g_eq_tr hdr hq)⟩)
  · rintro ⟨h1, h2⟩
    exact ⟨h1, fun d hd => h2 d (List.mem_append_left _ hd)⟩
/-! Counting; a search in breadth. Pure. -/
def g_cnt (O : Nat → Bool) : Nat → Nat
  | 0 => 0
  | n + 1 => g_cnt O n + (if O n = true then 1 else 0)
theorem g_cnt_le (O : Nat → Bool) : ∀ n, g_cnt O n ≤ n
  | 0 => Nat.le_refl 0
  | n + 1 => by
    have h := g_cnt_le O n
    simp only [g_cnt]
    split <;> omega
theorem g_cnt_congr {O O' : Nat → Bool} : ∀ n, (∀ x, x < n → O x = O' x) → g_cnt O n = g_cnt O' n
  | 0, _ => rfl
  | n + 1, h => by
    simp only [g_cnt]
    rw [g_cnt_congr n (fun x hx => h x (by omega)), h n (by omega)]
theorem g_cnt_drop {O O' : Nat → Bool} {k : Nat} (hk : O k = true) (hO : ∀ x, O' x = (O x && decide (x ≠ k))) : ∀ n, k < n → g_cnt O' n + 1 = g_cnt O n
  | 0, h => absurd h (Nat.not_lt_zero k)
  | n + 1, h => by
    simp only [g_cnt]
    by_cases e : k = n
    · subst e
      have h1 : g_cnt O' k = g_cnt O k := g_cnt_congr k (fun x hx => by
        rw [hO x]
        have : x ≠ k := by omega
        simp [this])
      have h2 : O' k = false := by rw [hO k]; simp
      rw [h1, h2, hk]
      simp
    · have h1 := g_cnt_drop hk hO n (by omega)
      have h2 : O' n = O n := by
        rw [hO n]
        have : n ≠ k := fun q => e q.symm
        simp [this]
      rw [h2]
      omega
theorem g_cnt_0 {O : Nat → Bool} : ∀ n, g_cnt O n = 0 → ∀ x, x < n → O x = false
  | 0, _, x, h => absurd h (Nat.not_lt_zero x)
  | n + 1, h, x, hx => by
    simp only [g_cnt] at h
    by_cases e : x = n
    · subst e
      cases ho : O x with
      | false => rfl
      | true => simp [ho] at h
    · exact g_cnt_0 n (by omega) x (by omega)
