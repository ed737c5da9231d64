/-! Sets of states in rows of words: bit x of set a. -/
def ss_b (f : Nat → Int64) (a x : Nat) : Bool := (f (a * 4 + x / 64)).toBitVec.getLsbD (x % 64)
theorem ss_ix (a : Nat) {x : Nat} (hx : x < 256) : nI a * 4 + (nI x >>> ((6 : Int32) &&& 31)) = nI (a * 4 + x / 64) := by
  rw [show (4 : Int32) = nI 4 from rfl, pk_mul, pk_shrN (by omega) _ 6 (by decide), nI_add]
theorem ss_lo {x : Nat} (hx : x < 256) : nI x &&& 63 = nI (x % 64) := pk_andN (by omega) 6 (by decide)
theorem ss_in {a x N : Nat} (hx : x < 256) (ha : a * 4 + 3 < N) (hN : N < 2 ^ 20) : vp_in (nI a * 4 + (nI x >>> ((6 : Int32) &&& 31))) N := by
  rw [ss_ix a hx]
  exact vp_in_nI (by omega) (by omega)
theorem ss_cl {a x N : Nat} (hx : x < 256) (ha : a * 4 + 3 < N) (hN : N < 2 ^ 20) : (nI a * 4 + (nI x >>> ((6 : Int32) &&& 31))).toNatClampNeg = a * 4 + x / 64 := by
  rw [ss_ix a hx]
  exact nI_clamp (by omega)
theorem ss_cmp (x y : Int64) : lg_cmp x y = 0 ↔ x = y := by
  unfold lg_cmp
  constructor
  · intro h
    split at h
    · exact absurd h (by decide)
    · split at h
      · assumption
      · exact absurd h (by decide)
  · intro h
    subst h
    have h1 : ¬ x > x := Int64.lt_irrefl
    simp [h1]
theorem ss_sh {k : Nat} (hk : k < 64) : ((nI k).toInt64.toUInt64 &&& Int64.toUInt64 63).toNat = k := by
  rw [wb_cu k hk]
  exact u_tn (by omega)
/-- one bit, as 'has' reads it -/
theorem ss_bit (w : Int64) {x : Nat} (hx : x < 256) : ((w.toUInt64 >>> ((nI x &&& 63).toInt64.toUInt64 &&& Int64.toUInt64 63)).toInt64 &&& 1) = 0 ↔ w.toBitVec.getLsbD (x % 64) = false := by
  rw [ss_lo hx]
  exact ts_bit (by omega) (ss_sh (by omega))
theorem ss_one {x : Nat} (hx : x < 256) : (1 : Int64) <<< ((nI x &&& 63).toInt64 &&& 63) = lN (2 ^ (x % 64)) := by
  rw [ss_lo hx, show (1 : Int64) = lN 1 from rfl, wb_shl 1 (by omega), Nat.one_mul]
theorem ss_pw {k j : Nat} (hk : k < 64) (hj : j < 64) : (lN (2 ^ k)).toBitVec.getLsbD j = decide (j = k) := by
  rw [wb_tb, BitVec.getLsbD_ofNat, Nat.testBit_two_pow]
  simp [hj, eq_comm]
theorem ss_or (w v : Int64) (j : Nat) : (w ||| v).toBitVec.getLsbD j = (w.toBitVec.getLsbD j || v.toBitVec.getLsbD j) := by
  rw [Int64.toBitVec_or, BitVec.getLsbD_or]
theorem ss_and (w v : Int64) (j : Nat) : (w &&& v).toBitVec.getLsbD j = (w.toBitVec.getLsbD j && v.toBitVec.getLsbD j) := by
  rw [Int64.toBitVec_and, BitVec.getLsbD_and]
theorem ss_xor (w v : Int64) (j : Nat) : (w ^^^ v).toBitVec.getLsbD j = (w.toBitVec.getLsbD j ^^ v.toBitVec.getLsbD j) := by
  rw [Int64.toBitVec_xor, BitVec.getLsbD_xor]
theorem ss_m1 {j : Nat} (hj : j < 64) : (-1 : Int64).toBitVec.getLsbD j = true := by
  have h : ∀ j, j < 64 → (-1 : Int64).toBitVec.getLsbD j = true := by decide +kernel
  exact h j hj
theorem ss_0 (j : Nat) : (0 : Int64).toBitVec.getLsbD j = false := BitVec.getLsbD_zero
/-- bit x of set a set, dropped, taken -/
def ss_put (f : Nat → Int64) (a x : Nat) : Nat → Int64 := vp_updL f (a * 4 + x / 64) (f (a * 4 + x / 64) ||| lN (2 ^ (x % 64)))
def ss_drop (f : Nat → Int64) (a x : Nat) : Nat → Int64 := vp_updL f (a * 4 + x / 64) (f (a * 4 + x / 64) &&& (lN (2 ^ (x % 64)) ^^^ (-1)))
theorem ss_put_b (f : Nat → Int64) (a x c z : Nat) (hz : z < 256) (hx : x < 256) : ss_b (ss_put f a x) c z = (ss_b f c z || (decide (c = a) && decide (z = x))) := by
  unfold ss_b ss_put
  by_cases e : c * 4 + z / 64 = a * 4 + x / 64
  · rw [e, pk_uLs, ss_or, ss_pw (by omega) (by omega)]
    congr 1
    by_cases e2 : z % 64 = x % 64
    · have h1 : c = a := by omega
      have h2 : z = x := by omega
      simp [e2, h1, h2]
    · have h2 : z ≠ x := fun h => e2 (by rw [h])
      simp [e2, h2]
  · rw [pk_uLn e]
    have h2 : ¬ (c = a ∧ z = x) := fun h => e (by rw [h.1, h.2])
    by_cases h3 : c = a
    · have h4 : z ≠ x := fun h => h2 ⟨h3, h⟩
      simp [h4]
    · simp [h3]
theorem ss_drop_b (f : Nat → Int64) (a x c z : Nat) (hz : z < 256) (hx : x < 256) : ss_b (ss_drop f a x) c z = (ss_b f c z && !(decide (c = a) && decide (z = x))) := by
  unfold ss_b ss_drop
  by_cases e : c * 4 + z / 64 = a * 4 + x / 64
  · rw [e, pk_uLs, ss_and, ss_xor, ss_pw (by omega) (by omega), ss_m1 (by omega)]
    congr 1
    by_cases e2 : z % 64 = x % 64
    · have h1 : c = a := by omega
      have h2 : z = x := by omega
      simp [e2, h1, h2]
    · have h2 : z ≠ x := fun h => e2 (by rw [h])
      simp [e2, h2]
  · rw [pk_uLn e]
    have h2 : ¬ (c = a ∧ z = x) := fun h => e (by rw [h.1, h.2])
    by_cases h3 : c = a
    · have h4 : z ≠ x := fun h => h2 ⟨h3, h⟩
      simp [h4]
    · simp [h3]
/-- the lowest bit of a word that isn't 0 -/
theorem ss_low {w : Int64} (h : w ≠ 0) : ∃ k, k < 64 ∧ w.toBitVec.getLsbD k = true ∧ (∀ j, j < k → w.toBitVec.getLsbD j = false) ∧ (w &&& -w) = lN (2 ^ k) := by
  have h0 : ∃ k, w.toBitVec.getLsbD k = true := by
    refine Classical.byContradiction (fun hn => h ?_)
    refine wb_inj (BitVec.eq_of_getLsbD_eq (fun i hi => ?_))
    rw [ss_0]
    cases hb : w.toBitVec.getLsbD i with
    | false => rfl
    | true => exact absurd ⟨i, hb⟩ hn
  obtain ⟨k, hk, hmin⟩ := pk_least _ h0
  have hk64 : k < 64 := by
    refine Classical.byContradiction (fun hn => ?_)
    rw [BitVec.getLsbD_of_ge _ _ (by omega)] at hk
    cases hk
  have hlo : ∀ j, j < k → w.toBitVec.getLsbD j = false := fun j hj => by
    cases hb : w.toBitVec.getLsbD j with
    | false => rfl
    | true => exact absurd hb (hmin j hj)
  refine ⟨k, hk64, hk, hlo, ?_⟩
  refine wb_inj (BitVec.eq_of_getLsbD_eq (fun i hi => ?_))
  rw [ss_and, ss_pw hk64 hi, Int64.toBitVec_neg, BitVec.getLsbD_neg]
  by_cases e : i = k
  · subst e
    have hno : ¬ ∃ j, j < i ∧ w.toBitVec.getLsbD j = true := by
      rintro ⟨j, hj, hb⟩
      rw [hlo j hj] at hb
      cases hb
    simp [hk, hno]
  · by_cases hlt : i < k
    · simp [hlo i hlt, e]
    · have hex : ∃ j, j < i ∧ w.toBitVec.getLsbD j = true := ⟨k, by omega, hk⟩
      simp [hex, e, hi]
