/-! numbers: an int of the machine as a whole number within its bounds -/
def ok_i (x : Int) : Prop := -2147483648 ≤ x ∧ x ≤ 2147483647
abbrev iv_i (x : Int) : Value := .int (Int32.ofInt x)
abbrev jv_i (x : Int) : Value := .long (Int64.ofInt x)
def wr_i (x : Int) : Int := (Int32.ofInt x).toInt
theorem ok_I (x : Int32) : ok_i x.toInt := ⟨Int32.le_toInt x, by have := Int32.toInt_lt x; omega⟩
theorem of_I (x : Int32) : Int32.ofInt x.toInt = x := Int32.ofInt_toInt x
theorem wr_eq (x : Int) : wr_i x = (x + 2147483648) % 4294967296 - 2147483648 := by
  unfold wr_i
  rw [Int32.toInt_ofInt]
  unfold Int.bmod
  have h : (4294967296 : Int) = ((2 ^ 32 : Nat) : Int) := rfl
  simp only [Nat.reducePow, Int.cast_ofNat_Int, Int.reduceAdd, Int.reduceDiv]
  split <;> omega
theorem wr_id {x : Int} (h : ok_i x) : wr_i x = x := by
  rw [wr_eq]; unfold ok_i at h; omega
theorem to_I {x : Int} (h : ok_i x) : (Int32.ofInt x).toInt = x := wr_id h
theorem ok_wr (x : Int) : ok_i (wr_i x) := ok_I _
theorem of_wr (x : Int) : Int32.ofInt (wr_i x) = Int32.ofInt x := of_I _
theorem ad_I (x y : Int) : Int32.ofInt x + Int32.ofInt y = Int32.ofInt (wr_i (x + y)) := by rw [of_wr, Int32.ofInt_add]
theorem sb_I (x y : Int) : Int32.ofInt x - Int32.ofInt y = Int32.ofInt (wr_i (x - y)) := by rw [of_wr, Int32.ofInt_sub]
theorem ml_I (x y : Int) : Int32.ofInt x * Int32.ofInt y = Int32.ofInt (wr_i (x * y)) := by rw [of_wr, Int32.ofInt_mul]
def an_i (x y : Int) : Int := (Int32.ofInt x &&& Int32.ofInt y).toInt
def or_i (x y : Int) : Int := (Int32.ofInt x ||| Int32.ofInt y).toInt
def xo_i (x y : Int) : Int := (Int32.ofInt x ^^^ Int32.ofInt y).toInt
def sl_i (x y : Int) : Int := (Int32.ofInt x <<< (Int32.ofInt y &&& 31)).toInt
def sr_i (x y : Int) : Int := (Int32.ofInt x >>> (Int32.ofInt y &&& 31)).toInt
def us_i (x y : Int) : Int := ((Int32.ofInt x).toUInt32 >>> ((Int32.ofInt y).toUInt32 &&& Int32.toUInt32 31)).toInt32.toInt
def dv_i (x y : Int) : Int := (Int32.ofInt x / Int32.ofInt y).toInt
def rm_i (x y : Int) : Int := (Int32.ofInt x - Int32.ofInt x / Int32.ofInt y * Int32.ofInt y).toInt
def b8_i (x : Int) : Int := (Int32.ofInt x).toInt8.toInt32.toInt
def b16_i (x : Int) : Int := (Int32.ofInt x).toInt16.toInt32.toInt
theorem lt_I {x y : Int} (hx : ok_i x) (hy : ok_i y) : Int32.ofInt x < Int32.ofInt y ↔ x < y := by
  rw [Int32.lt_iff_toInt_lt, to_I hx, to_I hy]
theorem le_I {x y : Int} (hx : ok_i x) (hy : ok_i y) : Int32.ofInt x ≤ Int32.ofInt y ↔ x ≤ y := by
  rw [Int32.le_iff_toInt_le, to_I hx, to_I hy]
theorem eq_I {x y : Int} (hx : ok_i x) (hy : ok_i y) : Int32.ofInt x = Int32.ofInt y ↔ x = y := by
  constructor
  · intro h
    have h2 := congrArg Int32.toInt h
    rwa [to_I hx, to_I hy] at h2
  · intro h; rw [h]
theorem ok_0 : ok_i 0 := by unfold ok_i; omega
theorem clamp_I {x : Int} (hx : ok_i x) (h0 : 0 ≤ x) : (Int32.ofInt x).toNatClampNeg = x.toNat := by
  unfold Int32.toNatClampNeg
  rw [to_I hx]
theorem in_I {x : Int} {n : Nat} (hx : ok_i x) (h0 : 0 ≤ x) (hn : x < n) : vp_in (Int32.ofInt x) n := by
  intro h
  rcases h with h | h
  · rw [show (0 : Int32) = Int32.ofInt 0 from rfl, lt_I hx ok_0] at h
    omega
  · rw [clamp_I hx h0] at h
    omega
