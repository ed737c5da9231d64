/-! How many bits a word has: Long.bitCount's sums, byte by byte. -/
theorem pb_hi (d m j : Nat) (hd : d < 256) : (d + 256 * m).testBit j = if j < 8 then d.testBit j else m.testBit (j - 8) := by
  have h := Nat.testBit_two_pow_mul_add m (b := d) (i := 8) hd j
  rw [← h]
  congr 1
  omega
theorem pb_and (d m c M : Nat) (hd : d < 256) (hc : c < 256) : (d + 256 * m) &&& (c + 256 * M) = (d &&& c) + 256 * (m &&& M) := by
  have h1 : d &&& c < 256 := Nat.lt_of_le_of_lt Nat.and_le_left hd
  apply Nat.eq_of_testBit_eq
  intro j
  rw [Nat.testBit_and, pb_hi d m j hd, pb_hi c M j hc, pb_hi _ _ j h1]
  split
  · rw [Nat.testBit_and]
  · rw [Nat.testBit_and]
theorem pb_top {x r c s : Nat} (hs : s ≤ 8) (hx : x < 2 ^ (8 - s)) (hc : c < 2 ^ (8 - s)) : (x + 2 ^ (8 - s) * r) &&& c = x &&& c := by
  apply Nat.eq_of_testBit_eq
  intro j
  rw [Nat.testBit_and, Nat.testBit_and]
  have h := Nat.testBit_two_pow_mul_add r (b := x) (i := 8 - s) hx j
  rw [Nat.add_comm, h]
  split
  · rfl
  · rename_i hj
    have hcj : c.testBit j = false := Nat.testBit_lt_two_pow (Nat.lt_of_lt_of_le hc (Nat.pow_le_pow_right (by omega) (by omega)))
    rw [hcj, Bool.and_false, Bool.and_false]
def pb_rep (c : Nat) : Nat → Nat
  | 0 => 0
  | k + 1 => c + 256 * pb_rep c k
def pb_map (u : Nat → Nat) : Nat → Nat → Nat
  | 0, _ => 0
  | k + 1, n => u (n % 256) + 256 * pb_map u k (n / 256)
theorem pb_id : ∀ (k n : Nat), n < 256 ^ k → pb_map (fun d => d) k n = n
  | 0, n, h => by
    have : n = 0 := by simpa using h
    rw [this]
    rfl
  | k + 1, n, h => by
    have h1 : n / 256 < 256 ^ k := by
      rw [Nat.pow_succ] at h
      exact Nat.div_lt_of_lt_mul (by rw [Nat.mul_comm]; exact h)
    simp only [pb_map, pb_id k (n / 256) h1]
    omega
theorem pb_add (u v : Nat → Nat) : ∀ (k n : Nat), pb_map u k n + pb_map v k n = pb_map (fun d => u d + v d) k n
  | 0, n => rfl
  | k + 1, n => by
    simp only [pb_map, ← pb_add u v k (n / 256)]
    omega
theorem pb_sub (u v : Nat → Nat) (h : ∀ d, d < 256 → v d ≤ u d) : ∀ (k n : Nat), pb_map v k n ≤ pb_map u k n ∧ pb_map u k n - pb_map v k n = pb_map (fun d => u d - v d) k n
  | 0, n => ⟨Nat.le_refl _, rfl⟩
  | k + 1, n => by
    obtain ⟨h1, h2⟩ := pb_sub u v h k (n / 256)
    have h3 := h (n % 256) (by omega)
    simp only [pb_map, ← h2]
    omega
theorem pb_mask (u : Nat → Nat) (hu : ∀ d, d < 256 → u d < 256) (s c : Nat) (hs : s ≤ 8) (hc : c < 2 ^ (8 - s)) : ∀ (k n : Nat), (pb_map u k n / 2 ^ s) &&& pb_rep c k = pb_map (fun d => (u d / 2 ^ s) &&& c) k n
  | 0, n => by simp [pb_map, pb_rep]
  | k + 1, n => by
    have ih := pb_mask u hu s c hs hc k (n / 256)
    have hd : u (n % 256) < 256 := hu _ (by omega)
    simp only [pb_map, pb_rep]
    generalize u (n % 256) = x at hd
    generalize pb_map u k (n / 256) = r at ih ⊢
    rw [← ih]
    have hp : 2 ^ s * 2 ^ (8 - s) = 256 := by
      rw [← Nat.pow_add]
      have : s + (8 - s) = 8 := by omega
      rw [this]
    have hpos : 0 < 2 ^ s := Nat.two_pow_pos s
    have hc256 : c < 256 := by
      refine Nat.lt_of_lt_of_le hc ?_
      rw [← hp]
      exact Nat.le_mul_of_pos_left _ hpos
    have hdiv : (x + 256 * r) / 2 ^ s = x / 2 ^ s + 2 ^ (8 - s) * r := by
      rw [← hp, Nat.mul_assoc, Nat.add_mul_div_left _ _ hpos]
    have hxs : x / 2 ^ s < 2 ^ (8 - s) := Nat.div_lt_of_lt_mul (by rw [hp]; exact hd)
    have hrs : 2 ^ (8 - s) * r = 2 ^ (8 - s) * (r % 2 ^ s) + 256 * (r / 2 ^ s) := by
      have h9 := Nat.mod_add_div r (2 ^ s)
      calc 2 ^ (8 - s) * r = 2 ^ (8 - s) * (r % 2 ^ s + 2 ^ s * (r / 2 ^ s)) := by rw [h9]
        _ = 2 ^ (8 - s) * (r % 2 ^ s) + (2 ^ s * 2 ^ (8 - s)) * (r / 2 ^ s) := by rw [Nat.mul_add, ← Nat.mul_assoc, Nat.mul_comm (2 ^ (8 - s)) (2 ^ s)]
        _ = _ := by rw [hp]
    have hlow : x / 2 ^ s + 2 ^ (8 - s) * (r % 2 ^ s) < 256 := by
      have h1 : r % 2 ^ s + 1 ≤ 2 ^ s := Nat.mod_lt _ hpos
      have h2 : 2 ^ (8 - s) * (r % 2 ^ s + 1) ≤ 2 ^ (8 - s) * 2 ^ s := Nat.mul_le_mul_left _ h1
      rw [Nat.mul_comm (2 ^ (8 - s)) (2 ^ s), hp, Nat.mul_add, Nat.mul_one] at h2
      omega
    rw [hdiv, hrs, ← Nat.add_assoc, pb_and _ _ _ _ hlow hc256, pb_top hs hxs hc]
theorem pb_nib (u : Nat → Nat) (hu : ∀ d, d < 256 → u d % 16 ≤ 4 ∧ u d / 16 ≤ 4) : ∀ (k n : Nat), pb_map u k n % 16 ≤ 4 ∧ (pb_map u k n + pb_map u k n / 16) &&& pb_rep 15 k = pb_map (fun d => u d % 16 + u d / 16) k n
  | 0, n => by simp [pb_map, pb_rep]
  | k + 1, n => by
    obtain ⟨i1, i2⟩ := pb_nib u hu k (n / 256)
    obtain ⟨h1, h2⟩ := hu (n % 256) (by omega)
    simp only [pb_map, pb_rep]
    generalize u (n % 256) = x at h1 h2 ⊢
    generalize pb_map u k (n / 256) = r at i1 i2 ⊢
    refine ⟨by omega, ?_⟩
    rw [← i2]
    have e1 : x + 256 * r + (x + 256 * r) / 16 = (x + x / 16 + 16 * (r % 16)) + 256 * (r + r / 16) := by omega
    rw [e1, pb_and _ _ _ _ (by omega) (by decide)]
    have e2 : (x + x / 16 + 16 * (r % 16)) &&& 15 = (x + x / 16 + 16 * (r % 16)) % 16 := by
      have h := Nat.and_two_pow_sub_one_eq_mod (x + x / 16 + 16 * (r % 16)) 4
      simpa using h
    rw [e2]
    omega
/-- the bits of a byte -/
def pb_p (d : Nat) : Nat := g_cnt (fun j => d.testBit j) 8
def pb_u (d : Nat) : Nat := ((d - ((d / 2 ^ 1) &&& 85)) / 2 ^ 0 &&& 51) + ((d - ((d / 2 ^ 1) &&& 85)) / 2 ^ 2 &&& 51)
theorem pb_u_ok : ∀ d, d < 256 → (pb_u d % 16 ≤ 4 ∧ pb_u d / 16 ≤ 4) ∧ pb_u d % 16 + pb_u d / 16 = pb_p d := by decide +kernel
def pb_tot : Nat → Nat → Nat
  | 0, _ => 0
  | k + 1, n => pb_p (n % 256) + pb_tot k (n / 256)
theorem pb_sum : ∀ (k n : Nat), g_cnt (fun j => n.testBit j) (8 * k) = pb_tot k n
  | 0, n => rfl
  | k + 1, n => by
    have ih := pb_sum k (n / 256)
    have hsplit : ∀ (O : Nat → Bool) (a b : Nat), g_cnt O (a + b) = g_cnt O a + g_cnt (fun j => O (a + j)) b := by
      intro O a b
      induction b with
      | zero => rfl
      | succ b ih =>
        show g_cnt O (a + b) + (if O (a + b) = true then 1 else 0) = g_cnt O a + (g_cnt (fun j => O (a + j)) b + (if O (a + b) = true then 1 else 0))
        rw [ih, Nat.add_assoc]
    have e1 : 8 * (k + 1) = 8 + 8 * k := by omega
    rw [e1, hsplit]
    have e2 : g_cnt (fun j => n.testBit j) 8 = pb_p (n % 256) := by
      refine g_cnt_congr 8 (fun j hj => ?_)
      have h9 := Nat.testBit_mod_two_pow n 8 j
      simp only [hj, decide_true, Bool.true_and] at h9
      exact h9.symm
    have e3 : g_cnt (fun j => n.testBit (8 + j)) (8 * k) = g_cnt (fun j => (n / 256).testBit j) (8 * k) := by
      refine g_cnt_congr _ (fun j _ => ?_)
      have h9 := Nat.testBit_add n j 8
      rw [Nat.add_comm] at h9
      exact h9
    rw [e2, e3, ih]
    rfl
/-- a word's bits -/
def pb_cnt (w : Int64) : Nat := g_cnt (fun j => w.toBitVec.getLsbD j) 64
theorem pb_main (n : Nat) (hn : n < 2 ^ 64) : ∃ a b c, a = n - ((n / 2 ^ 1) &&& 6148914691236517205) ∧ (n / 2 ^ 1) &&& 6148914691236517205 ≤ n ∧ b = (a &&& 3689348814741910323) + ((a / 2 ^ 2) &&& 3689348814741910323) ∧ b + b / 2 ^ 4 < 2 ^ 64 ∧ c = (b + b / 2 ^ 4) &&& 1085102592571150095 ∧
    c = pb_map (fun d => pb_p d) 8 n := by
  have h8 : n < 256 ^ 8 := hn
  have r5 : pb_rep 85 8 = 6148914691236517205 := by decide
  have r3 : pb_rep 51 8 = 3689348814741910323 := by decide
  have r0 : pb_rep 15 8 = 1085102592571150095 := by decide
  have h1 := pb_mask (fun d => d) (fun d h => h) 1 85 (by omega) (by decide) 8 n
  rw [pb_id 8 n h8, r5] at h1
  obtain ⟨h2, h3⟩ := pb_sub (fun d => d) (fun d => (d / 2 ^ 1) &&& 85) (fun d _ => Nat.le_trans Nat.and_le_left (Nat.div_le_self _ _)) 8 n
  rw [pb_id 8 n h8] at h2 h3
  have ha : ∀ d, d < 256 → d - ((d / 2 ^ 1) &&& 85) < 256 := fun d hd => by omega
  have h4 := pb_mask (fun d => d - ((d / 2 ^ 1) &&& 85)) ha 0 51 (by omega) (by decide) 8 n
  have h5 := pb_mask (fun d => d - ((d / 2 ^ 1) &&& 85)) ha 2 51 (by omega) (by decide) 8 n
  rw [r3] at h4 h5
  have h6 := pb_add (fun d => ((d - ((d / 2 ^ 1) &&& 85)) / 2 ^ 0) &&& 51) (fun d => ((d - ((d / 2 ^ 1) &&& 85)) / 2 ^ 2) &&& 51) 8 n
  obtain ⟨-, h7⟩ := pb_nib pb_u (fun d hd => (pb_u_ok d hd).1) 8 n
  rw [r0] at h7
  refine ⟨_, _, _, rfl, ?_, rfl, ?_, rfl, ?_⟩
  · rw [h1]
    exact h2
  · rw [h1, h3]
    have hb1 := Nat.and_le_right (n := pb_map (fun d => d - ((d / 2 ^ 1) &&& 85)) 8 n) (m := 3689348814741910323)
    have hb2 := Nat.and_le_right (n := pb_map (fun d => d - ((d / 2 ^ 1) &&& 85)) 8 n / 2 ^ 2) (m := 3689348814741910323)
    omega
  · rw [h1, h3]
    have e1 : pb_map (fun d => d - ((d / 2 ^ 1) &&& 85)) 8 n &&& 3689348814741910323 = pb_map (fun d => ((d - ((d / 2 ^ 1) &&& 85)) / 2 ^ 0) &&& 51) 8 n := by
      rw [← h4, Nat.pow_zero, Nat.div_one]
    rw [e1, h5, h6]
    have e2 : pb_map (fun d => pb_u d % 16 + pb_u d / 16) 8 n = pb_map (fun d => pb_p d) 8 n := by
      have hc : ∀ (k m : Nat), pb_map (fun d => pb_u d % 16 + pb_u d / 16) k m = pb_map (fun d => pb_p d) k m := by
        intro k
        induction k with
        | zero => intro m; rfl
        | succ k ih => intro m; simp only [pb_map, ih, (pb_u_ok (m % 256) (by omega)).2]
      exact hc 8 n
    rw [← e2]
    exact h7
abbrev pb_sh (k : Int32) (x : Int64) : Int64 := (x.toUInt64 >>> (k.toInt64.toUInt64 &&& Int64.toUInt64 63)).toInt64
theorem pb_shN (k : Nat) (hk : k < 64) {n : Nat} (hn : n < 2 ^ 64) : pb_sh (nI k) (lN n) = lN (n / 2 ^ k) := wb_shr hn hk
theorem pb_fin (a0 a1 a2 a3 a4 a5 a6 a7 z : Nat) (p0 : a0 ≤ 8) (p1 : a1 ≤ 8) (p2 : a2 ≤ 8) (p3 : a3 ≤ 8) (p4 : a4 ≤ 8) (p5 : a5 ≤ 8) (p6 : a6 ≤ 8) (p7 : a7 ≤ 8) (hzz : z = a0 + 256 * a1 + 65536 * a2 + 16777216 * a3 + 4294967296 * a4 + 1099511627776 * a5 + 281474976710656 * a6 + 72057594037927936 * a7) :
    (z + z / 2 ^ 8 + (z + z / 2 ^ 8) / 2 ^ 16 + (z + z / 2 ^ 8 + (z + z / 2 ^ 8) / 2 ^ 16) / 2 ^ 32) % 2 ^ 32 % 2 ^ 7 = a0 + (a1 + (a2 + (a3 + (a4 + (a5 + (a6 + (a7 + 0))))))) := by
  have g1 : z / 2 ^ 8 = a1 + 256 * a2 + 65536 * a3 + 16777216 * a4 + 4294967296 * a5 + 1099511627776 * a6 + 281474976710656 * a7 := by omega
  have g2 : (z + z / 2 ^ 8) / 2 ^ 16 = a2 + 257 * a3 + 65792 * a4 + 16842752 * a5 + 4311744512 * a6 + 1103806595072 * a7 := by omega
  have g3 : (z + z / 2 ^ 8 + (z + z / 2 ^ 8) / 2 ^ 16) / 2 ^ 32 = a4 + 257 * a5 + 65793 * a6 + 16843009 * a7 := by omega
  rw [g3, g2, g1, hzz]
  omega
theorem pb_go {x i1 i2 i3 i4 i5 i6 : Int64} (e1 : i1 = x - (pb_sh 1 x &&& 6148914691236517205)) (e2 : i2 = (i1 &&& 3689348814741910323) + (pb_sh 2 i1 &&& 3689348814741910323)) (e3 : i3 = (i2 + pb_sh 4 i2) &&& 1085102592571150095)
    (e4 : i4 = i3 + pb_sh 8 i3) (e5 : i5 = i4 + pb_sh 16 i4) (e6 : i6 = i5 + pb_sh 32 i5) : i6.toInt32 &&& 127 = nI (pb_cnt x) := by
  obtain ⟨n, hn, rfl⟩ := wb_of x
  obtain ⟨a, b, c, ha, hle, hb, hlt, hc, hm⟩ := pb_main n hn
  have han : a < 2 ^ 64 := by omega
  have q1 : i1 = lN a := by
    rw [e1, show (1 : Int32) = nI 1 from rfl, pb_shN 1 (by omega) hn, show (6148914691236517205 : Int64) = lN 6148914691236517205 from rfl, wb_and (by omega) (by omega), lN_sub hle, ha]
  have hb1 := Nat.and_le_right (n := a) (m := 3689348814741910323)
  have hb2 := Nat.and_le_right (n := a / 2 ^ 2) (m := 3689348814741910323)
  have hbn : b < 2 ^ 64 := by omega
  have q2 : i2 = lN b := by
    rw [e2, q1, show (2 : Int32) = nI 2 from rfl, pb_shN 2 (by omega) han, show (3689348814741910323 : Int64) = lN 3689348814741910323 from rfl, wb_and han (by omega), wb_and (by omega) (by omega), lN_add, hb]
  have hb3 := Nat.and_le_right (n := b + b / 2 ^ 4) (m := 1085102592571150095)
  have hcn : c < 2 ^ 62 := by omega
  have q3 : i3 = lN c := by
    rw [e3, q2, show (4 : Int32) = nI 4 from rfl, pb_shN 4 (by omega) hbn, lN_add, show (1085102592571150095 : Int64) = lN 1085102592571150095 from rfl, wb_and hlt (by omega), hc]
  have q4 : i4 = lN (c + c / 2 ^ 8) := by rw [e4, q3, show (8 : Int32) = nI 8 from rfl, pb_shN 8 (by omega) (by omega), lN_add]
  have q5 : i5 = lN (c + c / 2 ^ 8 + (c + c / 2 ^ 8) / 2 ^ 16) := by rw [e5, q4, show (16 : Int32) = nI 16 from rfl, pb_shN 16 (by omega) (by omega), lN_add]
  have q6 : i6 = lN (c + c / 2 ^ 8 + (c + c / 2 ^ 8) / 2 ^ 16 + (c + c / 2 ^ 8 + (c + c / 2 ^ 8) / 2 ^ 16) / 2 ^ 32) := by rw [e6, q5, show (32 : Int32) = nI 32 from rfl, pb_shN 32 (by omega) (by omega), lN_add]
  have hcnt : pb_cnt (lN n) = pb_tot 8 n := by
    have h1 : pb_cnt (lN n) = g_cnt (fun j => n.testBit j) 64 := g_cnt_congr 64 (fun j hj => by rw [wb_tb, BitVec.getLsbD_ofNat]; simp [hj])
    rw [h1]
    exact pb_sum 8 n
  have hz : ∀ z : Nat, (nI z).toBitVec.toNat = z % 2 ^ 32 := fun z => by
    exact BitVec.toNat_ofNat z 32
  rw [q6, lN_i, pk_and _ 7 (by decide), hz, hcnt]
  congr 1
  have hp : ∀ d, pb_p d ≤ 8 := fun d => g_cnt_le _ 8
  rw [hm]
  simp only [pb_map, pb_tot, Nat.mul_zero]
  have p0 := hp (n % 256)
  have p1 := hp (n / 256 % 256)
  have p2 := hp (n / 256 / 256 % 256)
  have p3 := hp (n / 256 / 256 / 256 % 256)
  have p4 := hp (n / 256 / 256 / 256 / 256 % 256)
  have p5 := hp (n / 256 / 256 / 256 / 256 / 256 % 256)
  have p6 := hp (n / 256 / 256 / 256 / 256 / 256 / 256 % 256)
  have p7 := hp (n / 256 / 256 / 256 / 256 / 256 / 256 / 256 % 256)
  exact pb_fin _ _ _ _ _ _ _ _ _ p0 p1 p2 p3 p4 p5 p6 p7 (by omega)
