/-! all calls: both sides answer alike -/
theorem all_sim : ∃ R : Mem_m → Prop, Sim_ R ∧ sim_36 R ∧ ∀ z : Mem_m, (List.range 16).map (z 1) = be_l → (List.range 4).map (z 2) = [3, 3, 3, 3] → (List.range 4).map (z 0) = [0, 0, 0, 0] → R (M0_ z) :=
  ⟨R_, ⟨sim0, sim1, sim2, sim3, sim4, sim5, sim6, sim7, sim8, sim9, sim10, sim11, sim12, sim13, sim14, sim15, sim16, sim17, sim18, sim19, sim20, sim21, sim22, sim23, sim24, sim25, sim26, sim27, sim28, sim29, sim30, sim31, sim32, sim33, sim34, sim35, sim37, sim38, sim39⟩, sim36, fun _ e1 _ _ => R_zero e1⟩
