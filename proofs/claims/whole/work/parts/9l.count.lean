/-! how many bits -/
theorem and_split {p q m n : Nat} (hp : p < 256) (hm : m < 256) : (256 * q + p) &&& (256 * n + m) = 256 * (q &&& n) + (p &&& m) := by
  apply Nat.eq_of_testBit_eq
  intro i
  have h1 := Nat.testBit_two_pow_mul_add q (i := 8) hp i
  have h2 := Nat.testBit_two_pow_mul_add n (i := 8) hm i
  have h3 := Nat.testBit_two_pow_mul_add (q &&& n) (i := 8) (b := p &&& m) (Nat.lt_of_le_of_lt Nat.and_le_left hp) i
  rw [show (2 : Nat) ^ 8 = 256 from rfl] at h1 h2 h3
  rw [Nat.testBit_and, h1, h2, h3]
  by_cases hi : i < 8
  · rw [if_pos hi, if_pos hi, if_pos hi, Nat.testBit_and]
  · rw [if_neg hi, if_neg hi, if_neg hi, Nat.testBit_and]
def tb1 (x : Nat) : Nat := x - ((x >>> 1) &&& 85)
def tb2 (x : Nat) : Nat := (x &&& 51) + ((x >>> 2) &&& 51)
def tb3 (x : Nat) : Nat := (x + x >>> 4) &&& 15
/-- how many of the first k bits -/
def bs_ (n : Nat) : Nat → Nat
  | 0 => 0
  | k + 1 => bs_ n k + (if n.testBit k then 1 else 0)
theorem tb_tab : ∀ x ∈ List.range 256, (x >>> 1) &&& 85 ≤ x ∧ tb1 x < 256 ∧ tb2 (tb1 x) ≤ 68 ∧ tb2 (tb1 x) % 16 ≤ 4 ∧ tb3 (tb2 (tb1 x)) = bs_ x 8 ∧ bs_ x 8 ≤ 8 := by decide +kernel
theorem m1_tab : ∀ x ∈ List.range 256, ∀ c ∈ List.range 2, (c * 128 + x / 2) &&& 85 = (x >>> 1) &&& 85 := by decide +kernel
theorem m2_tab : ∀ x ∈ List.range 256, ∀ c ∈ List.range 4, (c * 64 + x / 4) &&& 51 = (x >>> 2) &&& 51 := by decide +kernel
theorem m3_tab : ∀ x ∈ List.range 69, ∀ c ∈ List.range 5, (x + (c * 16 + x / 16)) &&& 15 = tb3 x := by decide +kernel
theorem s1_ {x y m : Nat} (hx : x < 256) : ((256 * y + x) >>> 1) &&& (256 * m + 85) = 256 * ((y >>> 1) &&& m) + ((x >>> 1) &&& 85) := by
  have e : (256 * y + x) >>> 1 = 256 * (y >>> 1) + ((y % 2) * 128 + x / 2) := by
    rw [Nat.shiftRight_eq_div_pow, Nat.shiftRight_eq_div_pow]; omega
  rw [e, and_split (by omega) (by decide), m1_tab x (List.mem_range.mpr hx) (y % 2) (List.mem_range.mpr (by omega))]
theorem s2_ {x y m : Nat} (hx : x < 256) : ((256 * y + x) >>> 2) &&& (256 * m + 51) = 256 * ((y >>> 2) &&& m) + ((x >>> 2) &&& 51) := by
  have e : (256 * y + x) >>> 2 = 256 * (y >>> 2) + ((y % 4) * 64 + x / 4) := by
    rw [Nat.shiftRight_eq_div_pow, Nat.shiftRight_eq_div_pow]; omega
  rw [e, and_split (by omega) (by decide), m2_tab x (List.mem_range.mpr hx) (y % 4) (List.mem_range.mpr (by omega))]
theorem s3_ {x y m : Nat} (hx : x ≤ 68) (hy : y % 16 ≤ 4) : ((256 * y + x) + (256 * y + x) >>> 4) &&& (256 * m + 15) = 256 * ((y + y >>> 4) &&& m) + tb3 x := by
  have e : (256 * y + x) + (256 * y + x) >>> 4 = 256 * (y + y >>> 4) + (x + ((y % 16) * 16 + x / 16)) := by
    rw [Nat.shiftRight_eq_div_pow, Nat.shiftRight_eq_div_pow]; omega
  rw [e, and_split (by omega) (by decide), m3_tab x (List.mem_range.mpr (by omega)) (y % 16) (List.mem_range.mpr (by omega))]
theorem s1_0 : ∀ x ∈ List.range 256, (x >>> 1) &&& 21845 = (x >>> 1) &&& 85 := by decide +kernel
theorem s2_0 : ∀ x ∈ List.range 256, (x >>> 2) &&& 13107 = (x >>> 2) &&& 51 ∧ x &&& 13107 = x &&& 51 := by decide +kernel
theorem s3_0 : ∀ x ∈ List.range 69, (x + x >>> 4) &&& 3855 = tb3 x := by decide +kernel
theorem bs_lo {x y : Nat} (hx : x < 256) : ∀ k, k ≤ 8 → bs_ (256 * y + x) k = bs_ x k
  | 0, _ => rfl
  | k + 1, h => by
    have h1 := Nat.testBit_two_pow_mul_add y (i := 8) hx k
    rw [show (2 : Nat) ^ 8 = 256 from rfl, if_pos (by omega)] at h1
    unfold bs_
    rw [bs_lo hx k (by omega), h1]
theorem bs_hi {x y : Nat} (hx : x < 256) : ∀ k, bs_ (256 * y + x) (8 + k) = bs_ x 8 + bs_ y k
  | 0 => by rw [bs_lo hx 8 (by omega)]; rfl
  | k + 1 => by
    have h1 := Nat.testBit_two_pow_mul_add y (i := 8) hx (8 + k)
    rw [show (2 : Nat) ^ 8 = 256 from rfl, if_neg (by omega), Nat.add_sub_cancel_left] at h1
    show bs_ (256 * y + x) (8 + k) + (if (256 * y + x).testBit (8 + k) then 1 else 0) = bs_ x 8 + (bs_ y k + (if y.testBit k then 1 else 0))
    rw [bs_hi hx k, h1, Nat.add_assoc]
theorem c_bitCount {M : Mem_m} {n : Nat} (hn : n < 16777216) : f_J6_bitCount_0f7a4 SH0_ M (n : Int) = some ((bs_ n 24 : Nat) : Int) := by
  obtain ⟨x, w, z, hx, hw, hz, rfl⟩ : ∃ x w z, x < 256 ∧ w < 256 ∧ z < 256 ∧ n = 256 * (256 * z + w) + x := ⟨n % 256, n / 256 % 256, n / 65536, by omega, by omega, by omega, by omega⟩
  have tx := tb_tab x (List.mem_range.mpr hx)
  have tw := tb_tab w (List.mem_range.mpr hw)
  have tz := tb_tab z (List.mem_range.mpr hz)
  generalize hN : 256 * (256 * z + w) + x = N at *
  have a1 : (N >>> 1) &&& 1431655765 = 256 * (256 * ((z >>> 1) &&& 85) + ((w >>> 1) &&& 85)) + ((x >>> 1) &&& 85) := by
    rw [← hN, show 1431655765 = 256 * (256 * 21845 + 85) + 85 from rfl, s1_ hx, s1_ hw, s1_0 z (List.mem_range.mpr hz)]
  have i1 : N - ((N >>> 1) &&& 1431655765) = 256 * (256 * tb1 z + tb1 w) + tb1 x := by
    rw [a1, ← hN]; unfold tb1; omega
  have hs1 := Nat.shiftRight_le N 1
  generalize hI1 : 256 * (256 * tb1 z + tb1 w) + tb1 x = I1 at *
  have hI1b : I1 < 16777216 := by omega
  have a2 : I1 &&& 858993459 = 256 * (256 * (tb1 z &&& 51) + (tb1 w &&& 51)) + (tb1 x &&& 51) := by
    rw [← hI1, show 858993459 = 256 * (256 * 13107 + 51) + 51 from rfl, and_split tx.2.1 (by decide), and_split tw.2.1 (by decide), (s2_0 (tb1 z) (List.mem_range.mpr tz.2.1)).2]
  have b2 : (I1 >>> 2) &&& 858993459 = 256 * (256 * ((tb1 z >>> 2) &&& 51) + ((tb1 w >>> 2) &&& 51)) + ((tb1 x >>> 2) &&& 51) := by
    rw [← hI1, show 858993459 = 256 * (256 * 13107 + 51) + 51 from rfl, s2_ tx.2.1, s2_ tw.2.1, (s2_0 (tb1 z) (List.mem_range.mpr tz.2.1)).1]
  have i2 : (I1 &&& 858993459) + ((I1 >>> 2) &&& 858993459) = 256 * (256 * tb2 (tb1 z) + tb2 (tb1 w)) + tb2 (tb1 x) := by
    rw [a2, b2]; unfold tb2; omega
  generalize hI2 : 256 * (256 * tb2 (tb1 z) + tb2 (tb1 w)) + tb2 (tb1 x) = I2 at *
  have hI2b : I2 < 16777216 := by omega
  have i3 : (I2 + I2 >>> 4) &&& 252645135 = 256 * (256 * bs_ z 8 + bs_ w 8) + bs_ x 8 := by
    rw [← hI2, show 252645135 = 256 * (256 * 3855 + 15) + 15 from rfl, s3_ (by omega) (by omega), s3_ (by omega) (by omega), s3_0 _ (List.mem_range.mpr (by omega)), tx.2.2.2.2.1, tw.2.2.2.2.1, tz.2.2.2.2.1]
  have hI2s := Nat.shiftRight_le I2 4
  generalize hI3 : 256 * (256 * bs_ z 8 + bs_ w 8) + bs_ x 8 = I3 at *
  have e8 : I3 >>> 8 = 256 * bs_ z 8 + bs_ w 8 := by rw [Nat.shiftRight_eq_div_pow]; omega
  have e16 : (I3 + I3 >>> 8) >>> 16 = bs_ z 8 := by rw [e8, Nat.shiftRight_eq_div_pow]; omega
  have e63 : (I3 + I3 >>> 8 + (I3 + I3 >>> 8) >>> 16) &&& 63 = bs_ x 8 + (bs_ w 8 + bs_ z 8) := by
    rw [e16, e8, Nat.and_two_pow_sub_one_eq_mod _ 6]; omega
  have eb : bs_ N 24 = bs_ x 8 + (bs_ w 8 + bs_ z 8) := by
    rw [← hN, show 24 = 8 + (8 + 8) from rfl, bs_hi hx, bs_hi hw]
  have hA1 : (N >>> 1) &&& 1431655765 ≤ N := by rw [a1, ← hN]; omega
  unfold f_J6_bitCount_0f7a4
  have q1 : us_i (N : Int) 1 = ((N >>> 1 : Nat) : Int) := us_nat (k := 1) (by omega) (by decide)
  have q2 : an_i ((N >>> 1 : Nat) : Int) 1431655765 = (((N >>> 1) &&& 1431655765 : Nat) : Int) := an_nat (m := 1431655765) (by omega) (by decide)
  have q3 : wr_i ((N : Int) - (((N >>> 1) &&& 1431655765 : Nat) : Int)) = (I1 : Int) := by rw [wr_n (by omega) (by omega)]; omega
  rw [q1, q2, q3]
  have q4 : an_i (I1 : Int) 858993459 = ((I1 &&& 858993459 : Nat) : Int) := an_nat (m := 858993459) (by omega) (by decide)
  have q5 : us_i (I1 : Int) 2 = ((I1 >>> 2 : Nat) : Int) := us_nat (k := 2) (by omega) (by decide)
  have hs2 := Nat.shiftRight_le I1 2
  have q6 : an_i ((I1 >>> 2 : Nat) : Int) 858993459 = (((I1 >>> 2) &&& 858993459 : Nat) : Int) := an_nat (m := 858993459) (by omega) (by decide)
  have q7 : wr_i (((I1 &&& 858993459 : Nat) : Int) + (((I1 >>> 2) &&& 858993459 : Nat) : Int)) = (I2 : Int) := by rw [wr_n (by omega) (by omega)]; omega
  rw [q4, q5, q6, q7]
  have q8 : us_i (I2 : Int) 4 = ((I2 >>> 4 : Nat) : Int) := us_nat (k := 4) (by omega) (by decide)
  have q9 : wr_i ((I2 : Int) + ((I2 >>> 4 : Nat) : Int)) = ((I2 + I2 >>> 4 : Nat) : Int) := by rw [wr_n (by omega) (by omega)]; omega
  have q10 : an_i ((I2 + I2 >>> 4 : Nat) : Int) 252645135 = (I3 : Int) := by
    have h : an_i ((I2 + I2 >>> 4 : Nat) : Int) 252645135 = (((I2 + I2 >>> 4) &&& 252645135 : Nat) : Int) := an_nat (m := 252645135) (by omega) (by decide)
    rw [h, i3]
  rw [q8, q9, q10]
  have q11 : us_i (I3 : Int) 8 = ((I3 >>> 8 : Nat) : Int) := us_nat (k := 8) (by omega) (by decide)
  have q12 : wr_i ((I3 : Int) + ((I3 >>> 8 : Nat) : Int)) = ((I3 + I3 >>> 8 : Nat) : Int) := by rw [wr_n (by omega) (by omega)]; omega
  rw [q11, q12]
  have q13 : us_i ((I3 + I3 >>> 8 : Nat) : Int) 16 = (((I3 + I3 >>> 8) >>> 16 : Nat) : Int) := us_nat (k := 16) (by omega) (by decide)
  have q14 : wr_i (((I3 + I3 >>> 8 : Nat) : Int) + (((I3 + I3 >>> 8) >>> 16 : Nat) : Int)) = ((I3 + I3 >>> 8 + (I3 + I3 >>> 8) >>> 16 : Nat) : Int) := by rw [wr_n (by omega) (by omega)]; omega
  rw [q13, q14]
  have q15 : an_i ((I3 + I3 >>> 8 + (I3 + I3 >>> 8) >>> 16 : Nat) : Int) 63 = (((I3 + I3 >>> 8 + (I3 + I3 >>> 8) >>> 16) &&& 63 : Nat) : Int) := an_nat (m := 63) (by omega) (by decide)
  rw [q15, e63, eb]
/-- the reference counts bit by bit -/
theorem bs_half : ∀ k n, bs_ n (k + 1) = n % 2 + bs_ (n / 2) k
  | 0, n => by
    unfold bs_ bs_
    rw [Nat.testBit_zero]
    have : n % 2 = 0 ∨ n % 2 = 1 := by omega
    rcases this with h | h <;> simp [h]
  | k + 1, n => by
    show bs_ n (k + 1) + (if n.testBit (k + 1) then 1 else 0) = n % 2 + (bs_ (n / 2) k + (if (n / 2).testBit k then 1 else 0))
    rw [bs_half k n, Nat.testBit_succ, Nat.add_assoc]
theorem bs_le : ∀ k n, bs_ n k ≤ k
  | 0, _ => Nat.le_refl _
  | k + 1, n => by have := bs_le k n; show bs_ n k + _ ≤ k + 1; split <;> omega
theorem m_bits {M : Mem_m} : ∀ (k n acc f : Nat), n < 2 ^ k → k ≤ 24 → acc + k ≤ 1000 → k < f → f_X12_bits_4 SH0_ M f (acc : Int) (n : Int) = some ((acc + bs_ n k : Nat) : Int)
  | 0, n, acc, f, h, _, _, hf => by
    obtain ⟨f, rfl⟩ : ∃ g, f = g + 1 := ⟨f - 1, by omega⟩
    have : n = 0 := by simpa using h
    subst this
    rw [f_X12_bits_4, if_pos (by omega)]; rfl
  | k + 1, n, acc, f, h, hk, ha, hf => by
    obtain ⟨f, rfl⟩ : ∃ g, f = g + 1 := ⟨f - 1, by omega⟩
    have hp : (2 : Nat) ^ (k + 1) ≤ 2 ^ 24 := Nat.pow_le_pow_right (by decide) hk
    by_cases hn : n = 0
    · subst hn
      rw [f_X12_bits_4, if_pos (by omega)]
      have : ∀ j, bs_ 0 j = 0 := fun j => by induction j with
        | zero => rfl
        | succ j ih => show bs_ 0 j + _ = 0; rw [ih]; simp
      rw [this]; rfl
    · have e1 : an_i (n : Int) 1 = ((n % 2 : Nat) : Int) := by
        have h : an_i (n : Int) 1 = ((n &&& 1 : Nat) : Int) := an_nat (m := 1) (by omega) (by decide)
        rw [h, Nat.and_one_is_mod]
      have e2 : sr_i (n : Int) 1 = ((n / 2 : Nat) : Int) := by
        have h : sr_i (n : Int) 1 = ((n >>> 1 : Nat) : Int) := sr_nat (k := 1) (by omega) (by decide)
        rw [h, Nat.shiftRight_eq_div_pow]
      rw [f_X12_bits_4, if_neg (by omega), e1, e2, wr_n (by omega) (by omega)]
      have := m_bits (M := M) k (n / 2) (acc + n % 2) f (by rw [Nat.pow_succ] at h; omega) (by omega) (by omega) (by omega)
      rw [show ((acc : Int) + ((n % 2 : Nat) : Int)) = ((acc + n % 2 : Nat) : Int) by omega, this, bs_half, Nat.add_assoc]
/-- bits above the number don't count -/
theorem bs_up {n k : Nat} (h : n < 2 ^ k) : ∀ j, bs_ n (k + j) = bs_ n k
  | 0 => rfl
  | j + 1 => by
    show bs_ n (k + j) + (if n.testBit (k + j) then 1 else 0) = _
    rw [bs_up h j, lt_bit h (by omega)]; simp
