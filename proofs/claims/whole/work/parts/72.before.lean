/-! the orders' table, as the constructor leaves it -/
def be_l : List Int := [0, 5058623, 1836287, 29183, 11718592, 0, 3411923, 57287, 14940928, 13365292, 0, 258893, 16748032, 16719928, 16518322, 0]
set_option maxRecDepth 1000000 in
theorem z_vals : (f_X6_init S6_ Z_m 0).map (fun z => ((List.range 16).map (z 1), (List.range 4).map (z 2), (List.range 4).map (z 0))) = some (be_l, [3, 3, 3, 3], [0, 0, 0, 0]) := by decide +kernel
theorem z_ex : ∃ z, f_X6_init S6_ Z_m 0 = some z ∧ (List.range 16).map (z 1) = be_l ∧ (List.range 4).map (z 2) = [3, 3, 3, 3] ∧ (List.range 4).map (z 0) = [0, 0, 0, 0] := by
  have h := z_vals
  cases hz : f_X6_init S6_ Z_m 0 with
  | none => rw [hz] at h; cases h
  | some z =>
    rw [hz] at h
    have h2 := Option.some.inj h
    exact ⟨z, rfl, congrArg (fun q => q.1) h2, congrArg (fun q => q.2.1) h2, congrArg (fun q => q.2.2) h2⟩
