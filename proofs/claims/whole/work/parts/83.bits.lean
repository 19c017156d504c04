/-! bits: the machine's on numbers from 0 on are those of Nat -/
theorem nb_of {n : Nat} (h : n < 4294967296) : (Int32.ofInt (n : Int)).toBitVec.toNat = n := by
  show (BitVec.ofInt 32 (n : Int)).toNat = n
  rw [BitVec.toNat_ofInt]
  omega
theorem nb_to {x : Int32} (h : x.toBitVec.toNat < 2147483648) : x.toInt = (x.toBitVec.toNat : Int) := by
  show x.toBitVec.toInt = _
  exact BitVec.toInt_eq_toNat_of_lt (by omega)
theorem an_nat {n m : Nat} (hn : n < 2147483648) (hm : m < 4294967296) : an_i (n : Int) (m : Int) = ((n &&& m : Nat) : Int) := by
  have e : (Int32.ofInt (n : Int) &&& Int32.ofInt (m : Int)).toBitVec.toNat = n &&& m := by
    rw [Int32.toBitVec_and, BitVec.toNat_and, nb_of (by omega), nb_of hm]
  unfold an_i
  rw [nb_to (by rw [e]; exact Nat.lt_of_le_of_lt Nat.and_le_left hn), e]
theorem or_nat {n m : Nat} (hn : n < 2147483648) (hm : m < 2147483648) : or_i (n : Int) (m : Int) = ((n ||| m : Nat) : Int) := by
  have e : (Int32.ofInt (n : Int) ||| Int32.ofInt (m : Int)).toBitVec.toNat = n ||| m := by
    rw [Int32.toBitVec_or, BitVec.toNat_or, nb_of (by omega), nb_of (by omega)]
  unfold or_i
  rw [nb_to (by rw [e]; exact Nat.or_lt_two_pow (n := 31) hn hm), e]
theorem sl_tab : ∀ k ∈ List.range 31, sl_i 1 (k : Int) = ((2 ^ k : Nat) : Int) := by decide +kernel
theorem sl_nat {k : Nat} (hk : k < 31) : sl_i 1 (k : Int) = ((2 ^ k : Nat) : Int) := sl_tab k (List.mem_range.mpr hk)
theorem sm_tab : ∀ k ∈ List.range 32, ((Int32.ofInt (k : Int) &&& 31).toBitVec.smod 32).toNat = k := by decide +kernel
theorem sr_nat {n k : Nat} (hn : n < 2147483648) (hk : k < 32) : sr_i (n : Int) (k : Int) = ((n >>> k : Nat) : Int) := by
  have e : (Int32.ofInt (n : Int) >>> (Int32.ofInt (k : Int) &&& 31)).toBitVec.toNat = n >>> k := by
    rw [Int32.toBitVec_shiftRight, BitVec.sshiftRight_eq', sm_tab k (List.mem_range.mpr hk), BitVec.sshiftRight_eq_of_msb_false, BitVec.toNat_ushiftRight, nb_of (by omega)]
    rw [BitVec.msb_eq_decide, nb_of (by omega)]
    simp; omega
  unfold sr_i
  rw [nb_to (by rw [e]; exact Nat.lt_of_le_of_lt (Nat.shiftRight_le n k) hn), e]
theorem us_nat {n k : Nat} (hn : n < 2147483648) (hk : k < 32) : us_i (n : Int) (k : Int) = ((n >>> k : Nat) : Int) := by
  have ek : ∀ k ∈ List.range 32, ((((Int32.ofInt (k : Int)).toUInt32 &&& Int32.toUInt32 31).toBitVec % 32)).toNat = k := by decide +kernel
  have e : (((Int32.ofInt (n : Int)).toUInt32 >>> ((Int32.ofInt (k : Int)).toUInt32 &&& Int32.toUInt32 31)).toInt32).toBitVec.toNat = n >>> k := by
    show (((Int32.ofInt (n : Int)).toUInt32 >>> ((Int32.ofInt (k : Int)).toUInt32 &&& Int32.toUInt32 31)).toBitVec).toNat = n >>> k
    rw [UInt32.toBitVec_shiftRight, BitVec.ushiftRight_eq', BitVec.toNat_ushiftRight, ek k (List.mem_range.mpr hk)]
    show (Int32.ofInt (n : Int)).toBitVec.toNat >>> k = _
    rw [nb_of (by omega)]
  unfold us_i
  rw [nb_to (by rw [e]; exact Nat.lt_of_le_of_lt (Nat.shiftRight_le n k) hn), e]
/-- bit by bit: n without the bits of m -/
def ac_ (n m : Nat) : Nat := n &&& (4294967295 - m)
theorem xo_nat {m : Nat} (hm : m < 4294967296) : (Int32.ofInt (m : Int) ^^^ Int32.ofInt (-1)).toBitVec.toNat = 4294967295 - m := by
  have e : (Int32.ofInt (m : Int) ^^^ Int32.ofInt (-1)).toBitVec = ~~~ (Int32.ofInt (m : Int)).toBitVec := by
    rw [Int32.toBitVec_xor]
    show _ ^^^ BitVec.allOnes 32 = _
    rw [BitVec.xor_allOnes]
  rw [e, BitVec.toNat_not, nb_of hm]
theorem anx_nat {n m : Nat} (hn : n < 2147483648) (hm : m < 4294967296) : an_i (n : Int) (xo_i (m : Int) (-1)) = ((ac_ n m : Nat) : Int) := by
  have e : (Int32.ofInt (n : Int) &&& Int32.ofInt (xo_i (m : Int) (-1))).toBitVec.toNat = ac_ n m := by
    unfold xo_i ac_
    rw [of_I, Int32.toBitVec_and, BitVec.toNat_and, nb_of (by omega), xo_nat hm]
  unfold an_i
  rw [nb_to (by rw [e]; exact Nat.lt_of_le_of_lt Nat.and_le_left hn), e]
theorem ac_bit {n m i : Nat} (hn : n < 4294967296) (hm : m < 4294967296) : (ac_ n m).testBit i = (n.testBit i && !m.testBit i) := by
  unfold ac_
  have h := Nat.testBit_two_pow_sub_succ (x := m) (n := 32) hm i
  rw [Nat.testBit_and, show 4294967295 - m = 2 ^ 32 - (m + 1) by omega, h]
  by_cases hi : i < 32
  · simp [hi]
  · have h2 : n.testBit i = false := Nat.testBit_lt_two_pow (Nat.lt_of_lt_of_le hn (Nat.pow_le_pow_right (n := 2) (by decide) (show 32 ≤ i by omega)))
    simp [h2]
theorem ac_le (n m : Nat) : ac_ n m ≤ n := Nat.and_le_left
/-- one bit -/
def b_ (n k : Nat) : Int := if n.testBit k then 1 else 0
theorem bit_nat {n k : Nat} (hn : n < 2147483648) (hk : k < 32) : an_i (sr_i (n : Int) (k : Int)) 1 = b_ n k := by
  rw [sr_nat hn hk, show (1 : Int) = ((1 : Nat) : Int) from rfl, an_nat (Nat.lt_of_le_of_lt (Nat.shiftRight_le n k) hn) (by decide), Nat.and_one_is_mod, Nat.shiftRight_eq_div_pow]
  unfold b_
  rw [Nat.testBit_eq_decide_div_mod_eq]
  by_cases h : n / 2 ^ k % 2 = 1
  · rw [h, if_pos (by simp)]; rfl
  · rw [if_neg (by simp [h]), show n / 2 ^ k % 2 = 0 by omega]; rfl
theorem bt_nat {n k : Nat} (hn : n < 2147483648) (hk : k < 32) : bt_ (n : Int) (k : Int) = b_ n k := bit_nat hn hk
theorem b_1 {n k : Nat} : b_ n k = 1 ↔ n.testBit k = true := by unfold b_; cases n.testBit k <;> simp
theorem b_0 {n k : Nat} : b_ n k = 0 ↔ n.testBit k = false := by unfold b_; cases n.testBit k <;> simp
theorem b_c (n k : Nat) : b_ n k = 0 ∨ b_ n k = 1 := by unfold b_; cases n.testBit k <;> simp
theorem b_ext {n m : Nat} (h : ∀ i, b_ n i = b_ m i) : n = m := by
  apply Nat.eq_of_testBit_eq
  intro i
  have := h i
  unfold b_ at this
  cases h1 : n.testBit i <;> cases h2 : m.testBit i <;> simp [h1, h2] at this ⊢
theorem pow_bit {k i : Nat} : (2 ^ k).testBit i = decide (k = i) := Nat.testBit_two_pow
theorem or_pow_bit {n k i : Nat} : (n ||| 2 ^ k).testBit i = (n.testBit i || decide (k = i)) := by rw [Nat.testBit_or, Nat.testBit_two_pow]
theorem lt_bit {n k i : Nat} (h : n < 2 ^ k) (hi : k ≤ i) : n.testBit i = false := Nat.testBit_lt_two_pow (Nat.lt_of_lt_of_le h (Nat.pow_le_pow_right (by decide) hi))
theorem bit_lt {n k : Nat} (h : ∀ i, k ≤ i → n.testBit i = false) : n < 2 ^ k := Nat.lt_pow_two_of_testBit n h
