/-! the rows: the first one, how many, what lies in them -/
def ok_row (n : Nat) (l : List Nat) : Bool := Nat.beq l.length n && l.all fun x => Nat.blt x n
set_option maxRecDepth 1000000 in
theorem rl_tab0 : ∀ n ∈ List.range 8, ((rl_ n).head? = some (List.range n) ∧ Nat.ble (rl_ n).length 5040 = true ∧ f_X4_waysToDeal SH0_ Z_m (n : Int) = some ((rl_ n).length : Int)) ∧ (rl_ n).all (ok_row n) = true := by decide +kernel
theorem rl_tab (n : Nat) (hn : n ∈ List.range 8) : ((rl_ n).head? = some (List.range n) ∧ (rl_ n).length ≤ 5040 ∧ f_X4_waysToDeal SH0_ Z_m (n : Int) = some ((rl_ n).length : Int) ∧ ∀ l ∈ rl_ n, l.length = n ∧ ∀ x ∈ l, x < n) := by
  obtain ⟨⟨h1, h2, h3⟩, h4⟩ := rl_tab0 n hn
  refine ⟨h1, Nat.ble_eq.mp h2, h3, fun l hl => ?_⟩
  have h5 := List.all_eq_true.mp h4 l hl
  have h5' : (Nat.beq l.length n && l.all fun x => Nat.blt x n) = true := h5
  rw [Bool.and_eq_true] at h5'
  refine ⟨Nat.eq_of_beq_eq_true h5'.1, fun x hx => ?_⟩
  have := List.all_eq_true.mp h5'.2 x hx
  rw [Nat.blt_eq] at this
  exact this
