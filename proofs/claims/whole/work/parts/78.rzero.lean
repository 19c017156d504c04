/-! R_ holds at the start -/
theorem M0_out {z : Mem_m} {a k : Nat} (h : ¬ (528 ≤ a ∧ a < 531)) : M0_ z a k = 0 := by unfold M0_; rw [if_neg h]
theorem R_zero {z : Mem_m} (e1 : (List.range 16).map (z 1) = be_l) : R_ (M0_ z) := by
  have o : ∀ (a k : Nat), ¬ (528 ≤ a ∧ a < 531) → M0_ z a k = 0 := fun a k h => M0_out h
  refine ⟨⟨⟨⟨?_, ?_, ?_⟩, ?_⟩, ⟨⟨?_, ?_, ?_⟩, ⟨?_, ?_⟩, ?_⟩, ⟨⟨?_, ?_, ?_⟩, ?_⟩, ⟨⟨?_, ?_, ?_⟩, ?_⟩, ⟨⟨?_, ?_, ?_⟩, ?_⟩, ?_, ?_, ?_⟩, ⟨?_, ?_⟩, ?_, ?_, ?_⟩
  case refine_30 => exact e1
  all_goals first
    | (rw [o 1 4 (by decide)]; decide)
    | (rw [o 1 6 (by decide)]; decide)
    | (rw [o 1 9 (by decide)]; decide)
    | (rw [o 1 11 (by decide)]; decide)
    | (rw [o 1 14 (by decide)]; decide)
    | (rw [o 1 7 (by decide)]; decide)
    | (rw [o 593 _ (by decide), o _ _ (by decide)])
    | (intro x h1 h2; exfalso; rw [o 1 _ (by decide)] at h2; omega)
    | (rw [o 1 7 (by decide), o 1 6 (by decide)]; decide)
    | (intro k h1 h2; rw [o 593 _ (by decide), o (1 + 1) _ (by decide)]; decide)
    | (intro k h1 h2; rw [o 593 _ (by decide), o (1 + 2) _ (by decide)]; decide)
    | (intro k h1 h2; rw [o 593 _ (by decide), o (1 + 3) _ (by decide)]; decide)
    | (rw [o 0 2 (by decide), o 592 8 (by decide)])
    | (rw [o 0 2 (by decide)]; decide)
    | (intro h; exfalso; rw [o 0 2 (by decide)] at h; exact absurd h (by decide))
    | (intro d h1 h2
       have hd : sA_ d < 592 ∧ 536 ≤ sA_ d := ⟨by show 536 + 7 * d.toNat < 592; omega, by show 536 ≤ 536 + 7 * d.toNat; omega⟩
       refine ⟨⟨?_, ?_, ?_⟩, fun h => ?_, fun h => ?_⟩
       · rw [o 595 _ (by decide), o (sA_ d) _ (by omega)]
       · rw [o (sA_ d) _ (by omega)]; decide
       · rw [o (sA_ d) _ (by omega)]; decide
       · exfalso; rw [o (sA_ d) _ (by omega)] at h; exact absurd h (by decide)
       · exfalso; rw [o (sA_ d) _ (by omega)] at h; exact absurd h (by decide))
    | skip
