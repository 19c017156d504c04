/-! where the things of a book lie: b is 1 (the book) or 259 (its image) -/
def bk_ (b : Nat) : Prop := b = 1 ∨ b = 259
abbrev cA_ (b : Nat) (x : Int) : Nat := b + 10 + 3 * x.toNat
abbrev nA_ (b : Nat) (x : Int) : Nat := b + 130 + 5 * x.toNat
abbrev rA_ (b : Nat) (x : Int) : Nat := b + 210 + x.toNat
abbrev yA_ (b : Nat) (x : Int) : Nat := b + 218 + x.toNat
abbrev wA_ (b : Nat) (x : Int) : Nat := b + 238 + 2 * x.toNat
theorem bd_1 : ∀ b ∈ [1, 259], kd0_ b = (0, 0) ∧ kd0_ (b + 1) = (20, 10) ∧ kd0_ (b + 2) = (20, 8) ∧ kd0_ (b + 3) = (20, 8) ∧ kd0_ (b + 4) = (22, 40) ∧ kd0_ (b + 5) = (23, 16) ∧ kd0_ (b + 6) = (24, 8) ∧ kd0_ (b + 7) = (25, 20) ∧ kd0_ (b + 8) = (26, 10) ∧ kd0_ (b + 9) = (20, 10) := by decide +kernel
theorem bd_c : ∀ b ∈ [1, 259], ∀ c ∈ List.range 40, kd0_ (b + 10 + 3 * c) = (1, 0) ∧ kd0_ (b + 10 + 3 * c + 1) = (10, 0) ∧ kd0_ (b + 10 + 3 * c + 2) = (20, 8) := by decide +kernel
theorem bd_n : ∀ b ∈ [1, 259], ∀ c ∈ List.range 16, kd0_ (b + 130 + 5 * c) = (5, 0) ∧ kd0_ (b + 130 + 5 * c + 1) = (10, 0) ∧ kd0_ (b + 130 + 5 * c + 2) = (20, 8) ∧ kd0_ (b + 130 + 5 * c + 3) = (10, 0) ∧ kd0_ (b + 130 + 5 * c + 4) = (20, 8) := by decide +kernel
theorem bd_r : ∀ b ∈ [1, 259], ∀ c ∈ List.range 8, kd0_ (b + 210 + c) = (7, 0) := by decide +kernel
theorem bd_y : ∀ b ∈ [1, 259], ∀ c ∈ List.range 20, kd0_ (b + 218 + c) = (8, 0) := by decide +kernel
theorem bd_w : ∀ b ∈ [1, 259], ∀ c ∈ List.range 10, kd0_ (b + 238 + 2 * c) = (10, 0) ∧ kd0_ (b + 238 + 2 * c + 1) = (20, 8) := by decide +kernel
theorem bk_mem {b : Nat} (h : bk_ b) : b ∈ [1, 259] := by rcases h with rfl | rfl <;> decide
theorem bk_lt {b : Nat} (h : bk_ b) : b ≤ 259 := by rcases h with rfl | rfl <;> decide
theorem i_rng {x : Int} {n : Nat} (h1 : 0 ≤ x) (h2 : x < n) : x.toNat ∈ List.range n := List.mem_range.mpr (by omega)
