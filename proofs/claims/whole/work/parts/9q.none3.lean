/-! none: the loops of the reference, and sim 20 -/
section
variable {M B : Mem_m} {v : Nat → Int} {vil x : Int}
theorem m_92 (hV : Vw M v) (hB : Mw B v) (hv : -1 ≤ vil) {k1 : Int → Option Int} {k2 k3 : Int → Int → Option Int} {m : Nat} {y : Int} {V : Nat → Nat → Nat → Prop} {b a : Nat} (hm : 1 ≤ m ∧ m ≤ 3) (hb : (b : Int) < v 1065) (ha : (m = 1 ∧ a = b) ∨ (m ≠ 1 ∧ a < b)) (hy : bs1_ M v vil m y V) {x0 : Int} (h0 : (m = 3 ∧ x0 = b + 1) ∨ (m ≠ 3 ∧ x0 = b)) :
    ∃ y', bs1_ M v vil m y' (fun c' b' a' => V c' b' a' ∨ (b' = b ∧ a' = a)) ∧ f_X12_none_92 SH0_ k1 k2 k3 B 592 vil (m : Int) (a : Int) (b : Int) FU_ y x0 = k3 y' ((b : Int) + 1) := by
  have b11 := vb_11 hV
  have c65 : B 593 1065 = v 1065 := mw_at hB _
  have e0 : ∀ n y x, f_X12_none_92 SH0_ k1 k2 k3 B 592 vil (m : Int) (a : Int) (b : Int) (n + 1) y x = f_X12_none_114 SH0_ k1 k2 k3 (fun x3 x6 => f_X12_none_92 SH0_ k1 k2 k3 B 592 vil (m : Int) (a : Int) (b : Int) n x3 x6) B 592 vil (m : Int) y (a : Int) (b : Int) x (if m = 3 then v 1065 else (b : Int) + 1) x := by
    intro n y x
    rw [f_X12_none_92]
    by_cases g : m = 3
    · rw [if_pos g, if_neg (by omega)]
      simp (disch := omega) only [↓bqr_C, ↓bqr_D, ↓bqr_N2, ↓bqr_N3, ↓bqr_O, ↓bqr_Q, ↓bqr_W, ↓bqr_S1, ↓bqr_S4, ↓bqr_T2, ↓bqr_T3, ↓bqr_F, ↓bqr_H, ↓bqa_C, ↓bqa_N, ↓bqa_U, ↓bqa_Y, ↓bqa_W, ↓bqa_S, ↓bqgkC_1, ↓bqgkC_2, ↓bqgkC_3, ↓bqgkC_4, ↓bqgkC_5, ↓bqgkC_6, ↓bqgkD_1, ↓bqgkN_0, ↓bqgkN_1, ↓bqgkO_1, ↓bqgkQ_1, ↓bqgkW_1, ↓bqgkS_0, ↓bqgkS_2, ↓bqgkS_3, ↓bqgkT_0, ↓bqgkT_1, ↓bqgkF_1, ↓bqgkH_1, ↓bqgkU_0, ↓bqgkU_1, ↓bqgkU_2, ↓bqgkU_3, ↓bqgkU_4, ↓bqgkY_0, ↓bqgkY_1, ↓bqgkY_2, ↓bqikE_, ↓bqikP_, ↓bqikR_, ↓bqikX_, ↓bqikG_, ↓bqikI_, ↓bqikJ_, ↓bqvkC_, ↓bqvkD_, ↓bqvkN_, ↓bqvkO_, ↓bqvkQ_, ↓bqvkU_, ↓bqvkY_, ↓bqvkW_, ↓bqvkS_, ↓bqvkT_, ↓bqvkF_, ↓bqvkH_, ↓bqr_0_0, ↓bqr_0_1, ↓bqr_0_3, ↓bqr_0_4, ↓bqr_0_5, ↓bqr_0_6, ↓bqr_0_7, ↓bqr_0_8, ↓bqr_1_0, ↓bqr_1_1, ↓bqr_1_2, ↓bqr_1_3, ↓bqr_1_5, ↓bqr_1_8, ↓bqr_1_10, ↓bqr_1_12, ↓bqr_1_13, ↓bqr_518_0, ↓bqr_518_1, ↓bqr_518_2, ↓bqr_518_6, ↓bqr_518_7, ↓bqr_524_0, ↓bqr_524_2, ↓bqr_524_4, ↓bqr_528_0, ↓bqr_528_1, ↓bqr_531_0, ↓bqr_531_1, ↓bqr_531_3, ↓bqr_592_0, ↓bqr_592_1, ↓bqr_592_2, ↓bqr_592_3, ↓bqr_592_4, ↓bqr_592_5, ↓bqr_592_6, ↓bqr_592_7, ↓bqr_592_11, ↓bqr_592_12, ↓bqr_592_13, ↓bqr_592_17, ↓bqr_592_18, ↓bqr_592_19, ↓bqr_592_23, ↓bqr_592_26, ↓bqr_592_27, ↓bqr_592_28, ↓bqg_0_2, ↓bqg_1_4, ↓bqg_1_6, ↓bqg_1_7, ↓bqg_1_9, ↓bqg_1_11, ↓bqg_1_14, ↓bqg_518_3, ↓bqg_518_4, ↓bqg_518_5, ↓bqg_518_8, ↓bqg_518_9, ↓bqg_524_1, ↓bqg_524_3, ↓bqg_528_2, ↓bqg_528_3, ↓bqg_531_2, ↓bqg_535_0, ↓bqg_535_1, ↓bqg_535_2, ↓bqg_535_3, ↓bqg_535_4, ↓bqg_592_8, ↓bqg_592_9, ↓bqg_592_10, ↓bqg_592_14, ↓bqg_592_15, ↓bqg_592_16, ↓bqg_592_20, ↓bqg_592_21, ↓bqg_592_22, ↓bqg_592_24, ↓bqg_592_25, ↓bqg_592_29, ↓bqg_592_30, ↓bqg_592_31, ↓bqg_592_32, ↓bqv_0, ↓bqv_1, ↓bqv_259, ↓bqv_518, ↓bqv_524, ↓bqv_528, ↓bqv_531, ↓bqv_535, ↓bqv_592, ↓bqi_2, ↓bqi_3, ↓bqi_4, ↓bqi_10, ↓bqi_519, ↓bqi_520, ↓bqi_521, ↓bqi_522, ↓bqi_523, ↓bqi_525, ↓bqi_526, ↓bqi_527, ↓bqi_529, ↓bqi_530, ↓bqi_532, ↓bqi_533, ↓bqi_534, ↓bqi_593, ↓bqi_594, ↓bqi_595, ↓bqi_596, ↓bqi_597, ↓bqi_598, ↓bqi_599, ↓bqi_600, ↓bqi_601, ↓bqi_602, ↓bqi_603, ↓bqi_604, ↓bqi_605, ↓bqi_606, ↓bqi_608, ↓bqi_609, ↓bqi_610, ↓bqz_607, ↓Option.bind_some, ↓bc_isIn, ↓bm_isIn, ↓bm_isShelf, i01, i10, j01, if_true, if_false, not_true_eq_false, not_false_eq_true, and_true, true_and, and_self, false_and, and_false, ↓reduceIte, Int.reduceEq, Int.reduceLT, Int.reduceLE, Int.reduceNeg, Int.reduceAdd, Int.reduceSub, Int.reduceMul, Int.reduceNe, Int.reduceToNat, Nat.reduceAdd, Nat.reduceMul, Nat.reduceEqDiff, c65]
    · rw [if_neg g, if_pos (by omega), wr_n (by omega) (by omega)]
  generalize hN : (if m = 3 then v 1065 else (b : Int) + 1) = N at e0
  have hN' : (m = 3 ∧ N = v 1065) ∨ (m ≠ 3 ∧ N = b + 1) := by by_cases g : m = 3 <;> simp [g] at hN <;> omega
  refine lp_run (A := Int) (fun n x y => f_X12_none_92 SH0_ k1 k2 k3 B 592 vil (m : Int) (a : Int) (b : Int) n y x) N (fun x y => x0 ≤ x ∧ bs1_ M v vil m y (fun c' b' a' => V c' b' a' ∨ (b' = b ∧ a' = a ∧ (c' : Int) < x))) (fun r => ∃ y', bs1_ M v vil m y' (fun c' b' a' => V c' b' a' ∨ (b' = b ∧ a' = a)) ∧ r = k3 y' ((b : Int) + 1)) ?_ ?_ FU_ x0 y (by unfold FU_; omega) ⟨by omega, bs1_mono hy fun c' b' a' q g => ?_⟩
  · intro n x y hx ⟨h1, h2⟩
    obtain ⟨c, rfl⟩ := int_nat (show 0 ≤ x by omega)
    have hs : sh_ m c b a := by unfold sh_; omega
    obtain ⟨y', q1, q2⟩ := m_114 hV hB hv (k1 := k1) (k2 := k2) (k3 := k3) (k4 := fun x3 x6 => f_X12_none_92 SH0_ k1 k2 k3 B 592 vil (m : Int) (a : Int) (b : Int) n x3 x6) (mm := (m : Int)) (s0 := N) (by omega) hs h2 hx
    refine Or.inl ⟨y', ?_, by omega, bs1_mono q1 fun c' b' a' q g => ?_⟩
    · rw [e0]; exact q2
    · rcases q with q | ⟨q1, q2, q3⟩
      · exact Or.inl (Or.inl q)
      · by_cases hh : c' = c
        · exact Or.inr ⟨hh, q1, q2⟩
        · exact Or.inl (Or.inr ⟨q1, q2, by omega⟩)
  · intro n x y hx ⟨h1, h2⟩
    refine ⟨y, bs1_mono h2 fun c' b' a' q g => ?_, ?_⟩
    · rcases q with q | ⟨q1, q2⟩
      · exact Or.inl q
      · refine Or.inr ⟨q1, q2, ?_⟩
        have := g.1
        rcases g.2.1 with ⟨_, g1, g2⟩ | ⟨_, g1, g2⟩ | ⟨_, g1, g2⟩ <;> omega
    · rw [e0]; unfold f_X12_none_114; rw [if_neg (by omega), wr_n (by omega) (by omega)]
  · rcases q with q | ⟨q1, q2, q3⟩
    · exact q
    · exfalso
      rcases g.2.1 with ⟨_, g1, g2⟩ | ⟨_, g1, g2⟩ | ⟨_, g1, g2⟩ <;> omega
theorem m_51 (hV : Vw M v) (hB : Mw B v) (hv : -1 ≤ vil) {k1 : Int → Option Int} {k2 : Int → Int → Option Int} {m : Nat} {y : Int} {V : Nat → Nat → Nat → Prop} {a : Nat} (hm : 1 ≤ m ∧ m ≤ 3) (ha : (a : Int) < v 1065) (hy : bs1_ M v vil m y V) {x0 : Int} (h0 : (m = 1 ∧ x0 = a) ∨ (m ≠ 1 ∧ x0 = a + 1)) :
    ∃ y', bs1_ M v vil m y' (fun c' b' a' => V c' b' a' ∨ a' = a) ∧ f_X12_none_51 SH0_ k1 k2 B 592 vil (m : Int) (a : Int) FU_ y x0 = k2 y' ((a : Int) + 1) := by
  have b11 := vb_11 hV
  have c65 : B 593 1065 = v 1065 := mw_at hB _
  have e0 : ∀ n y x, f_X12_none_51 SH0_ k1 k2 B 592 vil (m : Int) (a : Int) (n + 1) y x = f_X12_none_73 SH0_ k1 k2 (fun x3 x5 => f_X12_none_51 SH0_ k1 k2 B 592 vil (m : Int) (a : Int) n x3 x5) B 592 vil (m : Int) y (a : Int) x (if m = 1 then (a : Int) + 1 else v 1065) x := by
    intro n y x
    rw [f_X12_none_51]
    by_cases g : m = 1
    · rw [if_pos g, if_pos (by omega), wr_n (by omega) (by omega)]
    · rw [if_neg g, if_neg (by omega)]
      simp (disch := omega) only [↓bqr_C, ↓bqr_D, ↓bqr_N2, ↓bqr_N3, ↓bqr_O, ↓bqr_Q, ↓bqr_W, ↓bqr_S1, ↓bqr_S4, ↓bqr_T2, ↓bqr_T3, ↓bqr_F, ↓bqr_H, ↓bqa_C, ↓bqa_N, ↓bqa_U, ↓bqa_Y, ↓bqa_W, ↓bqa_S, ↓bqgkC_1, ↓bqgkC_2, ↓bqgkC_3, ↓bqgkC_4, ↓bqgkC_5, ↓bqgkC_6, ↓bqgkD_1, ↓bqgkN_0, ↓bqgkN_1, ↓bqgkO_1, ↓bqgkQ_1, ↓bqgkW_1, ↓bqgkS_0, ↓bqgkS_2, ↓bqgkS_3, ↓bqgkT_0, ↓bqgkT_1, ↓bqgkF_1, ↓bqgkH_1, ↓bqgkU_0, ↓bqgkU_1, ↓bqgkU_2, ↓bqgkU_3, ↓bqgkU_4, ↓bqgkY_0, ↓bqgkY_1, ↓bqgkY_2, ↓bqikE_, ↓bqikP_, ↓bqikR_, ↓bqikX_, ↓bqikG_, ↓bqikI_, ↓bqikJ_, ↓bqvkC_, ↓bqvkD_, ↓bqvkN_, ↓bqvkO_, ↓bqvkQ_, ↓bqvkU_, ↓bqvkY_, ↓bqvkW_, ↓bqvkS_, ↓bqvkT_, ↓bqvkF_, ↓bqvkH_, ↓bqr_0_0, ↓bqr_0_1, ↓bqr_0_3, ↓bqr_0_4, ↓bqr_0_5, ↓bqr_0_6, ↓bqr_0_7, ↓bqr_0_8, ↓bqr_1_0, ↓bqr_1_1, ↓bqr_1_2, ↓bqr_1_3, ↓bqr_1_5, ↓bqr_1_8, ↓bqr_1_10, ↓bqr_1_12, ↓bqr_1_13, ↓bqr_518_0, ↓bqr_518_1, ↓bqr_518_2, ↓bqr_518_6, ↓bqr_518_7, ↓bqr_524_0, ↓bqr_524_2, ↓bqr_524_4, ↓bqr_528_0, ↓bqr_528_1, ↓bqr_531_0, ↓bqr_531_1, ↓bqr_531_3, ↓bqr_592_0, ↓bqr_592_1, ↓bqr_592_2, ↓bqr_592_3, ↓bqr_592_4, ↓bqr_592_5, ↓bqr_592_6, ↓bqr_592_7, ↓bqr_592_11, ↓bqr_592_12, ↓bqr_592_13, ↓bqr_592_17, ↓bqr_592_18, ↓bqr_592_19, ↓bqr_592_23, ↓bqr_592_26, ↓bqr_592_27, ↓bqr_592_28, ↓bqg_0_2, ↓bqg_1_4, ↓bqg_1_6, ↓bqg_1_7, ↓bqg_1_9, ↓bqg_1_11, ↓bqg_1_14, ↓bqg_518_3, ↓bqg_518_4, ↓bqg_518_5, ↓bqg_518_8, ↓bqg_518_9, ↓bqg_524_1, ↓bqg_524_3, ↓bqg_528_2, ↓bqg_528_3, ↓bqg_531_2, ↓bqg_535_0, ↓bqg_535_1, ↓bqg_535_2, ↓bqg_535_3, ↓bqg_535_4, ↓bqg_592_8, ↓bqg_592_9, ↓bqg_592_10, ↓bqg_592_14, ↓bqg_592_15, ↓bqg_592_16, ↓bqg_592_20, ↓bqg_592_21, ↓bqg_592_22, ↓bqg_592_24, ↓bqg_592_25, ↓bqg_592_29, ↓bqg_592_30, ↓bqg_592_31, ↓bqg_592_32, ↓bqv_0, ↓bqv_1, ↓bqv_259, ↓bqv_518, ↓bqv_524, ↓bqv_528, ↓bqv_531, ↓bqv_535, ↓bqv_592, ↓bqi_2, ↓bqi_3, ↓bqi_4, ↓bqi_10, ↓bqi_519, ↓bqi_520, ↓bqi_521, ↓bqi_522, ↓bqi_523, ↓bqi_525, ↓bqi_526, ↓bqi_527, ↓bqi_529, ↓bqi_530, ↓bqi_532, ↓bqi_533, ↓bqi_534, ↓bqi_593, ↓bqi_594, ↓bqi_595, ↓bqi_596, ↓bqi_597, ↓bqi_598, ↓bqi_599, ↓bqi_600, ↓bqi_601, ↓bqi_602, ↓bqi_603, ↓bqi_604, ↓bqi_605, ↓bqi_606, ↓bqi_608, ↓bqi_609, ↓bqi_610, ↓bqz_607, ↓Option.bind_some, ↓bc_isIn, ↓bm_isIn, ↓bm_isShelf, i01, i10, j01, if_true, if_false, not_true_eq_false, not_false_eq_true, and_true, true_and, and_self, false_and, and_false, ↓reduceIte, Int.reduceEq, Int.reduceLT, Int.reduceLE, Int.reduceNeg, Int.reduceAdd, Int.reduceSub, Int.reduceMul, Int.reduceNe, Int.reduceToNat, Nat.reduceAdd, Nat.reduceMul, Nat.reduceEqDiff, c65]
  generalize hN : (if m = 1 then (a : Int) + 1 else v 1065) = N at e0
  have hN' : (m ≠ 1 ∧ N = v 1065) ∨ (m = 1 ∧ N = a + 1) := by by_cases g : m = 1 <;> simp [g] at hN <;> omega
  refine lp_run (A := Int) (fun n x y => f_X12_none_51 SH0_ k1 k2 B 592 vil (m : Int) (a : Int) n y x) N (fun x y => x0 ≤ x ∧ bs1_ M v vil m y (fun c' b' a' => V c' b' a' ∨ (a' = a ∧ (b' : Int) < x))) (fun r => ∃ y', bs1_ M v vil m y' (fun c' b' a' => V c' b' a' ∨ a' = a) ∧ r = k2 y' ((a : Int) + 1)) ?_ ?_ FU_ x0 y (by unfold FU_; omega) ⟨by omega, bs1_mono hy fun c' b' a' q g => ?_⟩
  · intro n x y hx ⟨h1, h2⟩
    obtain ⟨b, rfl⟩ := int_nat (show 0 ≤ x by omega)
    have main : ∀ x1 : Int, ((m = 3 ∧ x1 = b + 1) ∨ (m ≠ 3 ∧ x1 = b)) → f_X12_none_51 SH0_ k1 k2 B 592 vil (m : Int) (a : Int) (n + 1) y (b : Int) = f_X12_none_92 SH0_ k1 k2 (fun x3 x5 => f_X12_none_51 SH0_ k1 k2 B 592 vil (m : Int) (a : Int) n x3 x5) B 592 vil (m : Int) (a : Int) (b : Int) FU_ y x1 → (∃ y', f_X12_none_51 SH0_ k1 k2 B 592 vil (m : Int) (a : Int) (n + 1) y (b : Int) = f_X12_none_51 SH0_ k1 k2 B 592 vil (m : Int) (a : Int) n y' ((b : Int) + 1) ∧ x0 ≤ (b : Int) + 1 ∧ bs1_ M v vil m y' (fun c' b' a' => V c' b' a' ∨ (a' = a ∧ (b' : Int) < (b : Int) + 1))) := by
      intro x1 hx1 he
      obtain ⟨y', q1, q2⟩ := m_92 hV hB hv (k1 := k1) (k2 := k2) (k3 := fun x3 x5 => f_X12_none_51 SH0_ k1 k2 B 592 vil (m : Int) (a : Int) n x3 x5) hm (b := b) (a := a) (by omega) (by omega) h2 hx1
      refine ⟨y', by rw [he]; exact q2, by omega, bs1_mono q1 fun c' b' a' q g => ?_⟩
      rcases q with q | ⟨q1, q2⟩
      · exact Or.inl (Or.inl q)
      · by_cases hh : b' = b
        · exact Or.inr ⟨hh, q1⟩
        · exact Or.inl (Or.inr ⟨q1, by omega⟩)
    refine Or.inl ?_
    by_cases g : m = 3
    · refine main (b + 1) (Or.inl ⟨g, rfl⟩) ?_
      rw [e0]; unfold f_X12_none_73; rw [if_pos hx, if_neg (by omega), wr_n (by omega) (by omega)]
    · refine main b (Or.inr ⟨g, rfl⟩) ?_
      rw [e0]; unfold f_X12_none_73; rw [if_pos hx, if_pos (by omega)]
  · intro n x y hx ⟨h1, h2⟩
    refine ⟨y, bs1_mono h2 fun c' b' a' q g => ?_, ?_⟩
    · rcases q with q | q1
      · exact Or.inl q
      · refine Or.inr ⟨q1, ?_⟩
        have := g.1
        rcases g.2.1 with ⟨_, g1, g2⟩ | ⟨_, g1, g2⟩ | ⟨_, g1, g2⟩ <;> omega
    · rw [e0]; unfold f_X12_none_73; rw [if_neg (by omega), wr_n (by omega) (by omega)]
  · rcases q with q | ⟨q1, q2⟩
    · exact q
    · exfalso
      rcases g.2.1 with ⟨_, g1, g2⟩ | ⟨_, g1, g2⟩ | ⟨_, g1, g2⟩ <;> omega
/-- the least of the reference -/
def lr_ (M : Mem_m) (v : Nat → Int) (vil : Int) (m : Nat) (o : Option Nat) : Prop :=
  (o = none ∧ ∀ c b a, ¬ gr_ M v vil m c b a) ∨ (∃ c b a, o = some (w_ c b a) ∧ gr_ M v vil m c b a ∧ ∀ c' b' a', gr_ M v vil m c' b' a' → w_ c b a ≤ w_ c' b' a')
theorem m_22 (hV : Vw M v) (hB : Mw B v) (hv : -1 ≤ vil) {k1 : Int → Option Int} {m : Nat} (hm : 1 ≤ m ∧ m ≤ 3) :
    ∃ o, lr_ M v vil m o ∧ f_X12_none_22 SH0_ k1 B 592 vil (m : Int) FU_ (-4) 0 = (match o with | none => k1 ((m : Int) + 1) | some w => some (w : Int)) := by
  have b11 := vb_11 hV
  have c65 : B 593 1065 = v 1065 := mw_at hB _
  refine lp_run (A := Int) (fun n x y => f_X12_none_22 SH0_ k1 B 592 vil (m : Int) n y x) (v 1065) (fun x y => 0 ≤ x ∧ x ≤ v 1065 ∧ bs1_ M v vil m y (fun _ _ a' => (a' : Int) < x)) (fun r => ∃ o, lr_ M v vil m o ∧ r = (match o with | none => k1 ((m : Int) + 1) | some w => some (w : Int))) ?_ ?_ FU_ 0 (-4) (by unfold FU_; omega) ⟨by omega, by omega, Or.inl ⟨rfl, fun c b a q => absurd q (by omega)⟩⟩
  · intro n x y hx ⟨h1, h2, h3⟩
    obtain ⟨a, rfl⟩ := int_nat h1
    have main : ∀ x1 : Int, ((m = 1 ∧ x1 = a) ∨ (m ≠ 1 ∧ x1 = a + 1)) → f_X12_none_22 SH0_ k1 B 592 vil (m : Int) (n + 1) y (a : Int) = f_X12_none_51 SH0_ k1 (fun x3 x4 => f_X12_none_22 SH0_ k1 B 592 vil (m : Int) n x3 x4) B 592 vil (m : Int) (a : Int) FU_ y x1 → (∃ y', f_X12_none_22 SH0_ k1 B 592 vil (m : Int) (n + 1) y (a : Int) = f_X12_none_22 SH0_ k1 B 592 vil (m : Int) n y' ((a : Int) + 1) ∧ 0 ≤ (a : Int) + 1 ∧ (a : Int) + 1 ≤ v 1065 ∧ bs1_ M v vil m y' (fun _ _ a' => (a' : Int) < (a : Int) + 1)) := by
      intro x1 hx1 he
      obtain ⟨y', q1, q2⟩ := m_51 hV hB hv (k1 := k1) (k2 := fun x3 x4 => f_X12_none_22 SH0_ k1 B 592 vil (m : Int) n x3 x4) hm (a := a) hx h3 hx1
      refine ⟨y', by rw [he]; exact q2, by omega, by omega, bs1_mono q1 fun c' b' a' q g => ?_⟩
      by_cases hh : a' = a
      · exact Or.inr hh
      · exact Or.inl (by omega)
    refine Or.inl ?_
    by_cases g : m = 1
    · refine main a (Or.inl ⟨g, rfl⟩) ?_
      rw [f_X12_none_22]
      simp (disch := omega) only [↓bqr_C, ↓bqr_D, ↓bqr_N2, ↓bqr_N3, ↓bqr_O, ↓bqr_Q, ↓bqr_W, ↓bqr_S1, ↓bqr_S4, ↓bqr_T2, ↓bqr_T3, ↓bqr_F, ↓bqr_H, ↓bqa_C, ↓bqa_N, ↓bqa_U, ↓bqa_Y, ↓bqa_W, ↓bqa_S, ↓bqgkC_1, ↓bqgkC_2, ↓bqgkC_3, ↓bqgkC_4, ↓bqgkC_5, ↓bqgkC_6, ↓bqgkD_1, ↓bqgkN_0, ↓bqgkN_1, ↓bqgkO_1, ↓bqgkQ_1, ↓bqgkW_1, ↓bqgkS_0, ↓bqgkS_2, ↓bqgkS_3, ↓bqgkT_0, ↓bqgkT_1, ↓bqgkF_1, ↓bqgkH_1, ↓bqgkU_0, ↓bqgkU_1, ↓bqgkU_2, ↓bqgkU_3, ↓bqgkU_4, ↓bqgkY_0, ↓bqgkY_1, ↓bqgkY_2, ↓bqikE_, ↓bqikP_, ↓bqikR_, ↓bqikX_, ↓bqikG_, ↓bqikI_, ↓bqikJ_, ↓bqvkC_, ↓bqvkD_, ↓bqvkN_, ↓bqvkO_, ↓bqvkQ_, ↓bqvkU_, ↓bqvkY_, ↓bqvkW_, ↓bqvkS_, ↓bqvkT_, ↓bqvkF_, ↓bqvkH_, ↓bqr_0_0, ↓bqr_0_1, ↓bqr_0_3, ↓bqr_0_4, ↓bqr_0_5, ↓bqr_0_6, ↓bqr_0_7, ↓bqr_0_8, ↓bqr_1_0, ↓bqr_1_1, ↓bqr_1_2, ↓bqr_1_3, ↓bqr_1_5, ↓bqr_1_8, ↓bqr_1_10, ↓bqr_1_12, ↓bqr_1_13, ↓bqr_518_0, ↓bqr_518_1, ↓bqr_518_2, ↓bqr_518_6, ↓bqr_518_7, ↓bqr_524_0, ↓bqr_524_2, ↓bqr_524_4, ↓bqr_528_0, ↓bqr_528_1, ↓bqr_531_0, ↓bqr_531_1, ↓bqr_531_3, ↓bqr_592_0, ↓bqr_592_1, ↓bqr_592_2, ↓bqr_592_3, ↓bqr_592_4, ↓bqr_592_5, ↓bqr_592_6, ↓bqr_592_7, ↓bqr_592_11, ↓bqr_592_12, ↓bqr_592_13, ↓bqr_592_17, ↓bqr_592_18, ↓bqr_592_19, ↓bqr_592_23, ↓bqr_592_26, ↓bqr_592_27, ↓bqr_592_28, ↓bqg_0_2, ↓bqg_1_4, ↓bqg_1_6, ↓bqg_1_7, ↓bqg_1_9, ↓bqg_1_11, ↓bqg_1_14, ↓bqg_518_3, ↓bqg_518_4, ↓bqg_518_5, ↓bqg_518_8, ↓bqg_518_9, ↓bqg_524_1, ↓bqg_524_3, ↓bqg_528_2, ↓bqg_528_3, ↓bqg_531_2, ↓bqg_535_0, ↓bqg_535_1, ↓bqg_535_2, ↓bqg_535_3, ↓bqg_535_4, ↓bqg_592_8, ↓bqg_592_9, ↓bqg_592_10, ↓bqg_592_14, ↓bqg_592_15, ↓bqg_592_16, ↓bqg_592_20, ↓bqg_592_21, ↓bqg_592_22, ↓bqg_592_24, ↓bqg_592_25, ↓bqg_592_29, ↓bqg_592_30, ↓bqg_592_31, ↓bqg_592_32, ↓bqv_0, ↓bqv_1, ↓bqv_259, ↓bqv_518, ↓bqv_524, ↓bqv_528, ↓bqv_531, ↓bqv_535, ↓bqv_592, ↓bqi_2, ↓bqi_3, ↓bqi_4, ↓bqi_10, ↓bqi_519, ↓bqi_520, ↓bqi_521, ↓bqi_522, ↓bqi_523, ↓bqi_525, ↓bqi_526, ↓bqi_527, ↓bqi_529, ↓bqi_530, ↓bqi_532, ↓bqi_533, ↓bqi_534, ↓bqi_593, ↓bqi_594, ↓bqi_595, ↓bqi_596, ↓bqi_597, ↓bqi_598, ↓bqi_599, ↓bqi_600, ↓bqi_601, ↓bqi_602, ↓bqi_603, ↓bqi_604, ↓bqi_605, ↓bqi_606, ↓bqi_608, ↓bqi_609, ↓bqi_610, ↓bqz_607, ↓Option.bind_some, ↓bc_isIn, ↓bm_isIn, ↓bm_isShelf, i01, i10, j01, if_true, if_false, not_true_eq_false, not_false_eq_true, and_true, true_and, and_self, false_and, and_false, ↓reduceIte, Int.reduceEq, Int.reduceLT, Int.reduceLE, Int.reduceNeg, Int.reduceAdd, Int.reduceSub, Int.reduceMul, Int.reduceNe, Int.reduceToNat, Nat.reduceAdd, Nat.reduceMul, Nat.reduceEqDiff, c65, hx, show (m : Int) ≤ 1 by omega]
    · refine main (a + 1) (Or.inr ⟨g, rfl⟩) ?_
      rw [f_X12_none_22]
      simp (disch := omega) only [↓bqr_C, ↓bqr_D, ↓bqr_N2, ↓bqr_N3, ↓bqr_O, ↓bqr_Q, ↓bqr_W, ↓bqr_S1, ↓bqr_S4, ↓bqr_T2, ↓bqr_T3, ↓bqr_F, ↓bqr_H, ↓bqa_C, ↓bqa_N, ↓bqa_U, ↓bqa_Y, ↓bqa_W, ↓bqa_S, ↓bqgkC_1, ↓bqgkC_2, ↓bqgkC_3, ↓bqgkC_4, ↓bqgkC_5, ↓bqgkC_6, ↓bqgkD_1, ↓bqgkN_0, ↓bqgkN_1, ↓bqgkO_1, ↓bqgkQ_1, ↓bqgkW_1, ↓bqgkS_0, ↓bqgkS_2, ↓bqgkS_3, ↓bqgkT_0, ↓bqgkT_1, ↓bqgkF_1, ↓bqgkH_1, ↓bqgkU_0, ↓bqgkU_1, ↓bqgkU_2, ↓bqgkU_3, ↓bqgkU_4, ↓bqgkY_0, ↓bqgkY_1, ↓bqgkY_2, ↓bqikE_, ↓bqikP_, ↓bqikR_, ↓bqikX_, ↓bqikG_, ↓bqikI_, ↓bqikJ_, ↓bqvkC_, ↓bqvkD_, ↓bqvkN_, ↓bqvkO_, ↓bqvkQ_, ↓bqvkU_, ↓bqvkY_, ↓bqvkW_, ↓bqvkS_, ↓bqvkT_, ↓bqvkF_, ↓bqvkH_, ↓bqr_0_0, ↓bqr_0_1, ↓bqr_0_3, ↓bqr_0_4, ↓bqr_0_5, ↓bqr_0_6, ↓bqr_0_7, ↓bqr_0_8, ↓bqr_1_0, ↓bqr_1_1, ↓bqr_1_2, ↓bqr_1_3, ↓bqr_1_5, ↓bqr_1_8, ↓bqr_1_10, ↓bqr_1_12, ↓bqr_1_13, ↓bqr_518_0, ↓bqr_518_1, ↓bqr_518_2, ↓bqr_518_6, ↓bqr_518_7, ↓bqr_524_0, ↓bqr_524_2, ↓bqr_524_4, ↓bqr_528_0, ↓bqr_528_1, ↓bqr_531_0, ↓bqr_531_1, ↓bqr_531_3, ↓bqr_592_0, ↓bqr_592_1, ↓bqr_592_2, ↓bqr_592_3, ↓bqr_592_4, ↓bqr_592_5, ↓bqr_592_6, ↓bqr_592_7, ↓bqr_592_11, ↓bqr_592_12, ↓bqr_592_13, ↓bqr_592_17, ↓bqr_592_18, ↓bqr_592_19, ↓bqr_592_23, ↓bqr_592_26, ↓bqr_592_27, ↓bqr_592_28, ↓bqg_0_2, ↓bqg_1_4, ↓bqg_1_6, ↓bqg_1_7, ↓bqg_1_9, ↓bqg_1_11, ↓bqg_1_14, ↓bqg_518_3, ↓bqg_518_4, ↓bqg_518_5, ↓bqg_518_8, ↓bqg_518_9, ↓bqg_524_1, ↓bqg_524_3, ↓bqg_528_2, ↓bqg_528_3, ↓bqg_531_2, ↓bqg_535_0, ↓bqg_535_1, ↓bqg_535_2, ↓bqg_535_3, ↓bqg_535_4, ↓bqg_592_8, ↓bqg_592_9, ↓bqg_592_10, ↓bqg_592_14, ↓bqg_592_15, ↓bqg_592_16, ↓bqg_592_20, ↓bqg_592_21, ↓bqg_592_22, ↓bqg_592_24, ↓bqg_592_25, ↓bqg_592_29, ↓bqg_592_30, ↓bqg_592_31, ↓bqg_592_32, ↓bqv_0, ↓bqv_1, ↓bqv_259, ↓bqv_518, ↓bqv_524, ↓bqv_528, ↓bqv_531, ↓bqv_535, ↓bqv_592, ↓bqi_2, ↓bqi_3, ↓bqi_4, ↓bqi_10, ↓bqi_519, ↓bqi_520, ↓bqi_521, ↓bqi_522, ↓bqi_523, ↓bqi_525, ↓bqi_526, ↓bqi_527, ↓bqi_529, ↓bqi_530, ↓bqi_532, ↓bqi_533, ↓bqi_534, ↓bqi_593, ↓bqi_594, ↓bqi_595, ↓bqi_596, ↓bqi_597, ↓bqi_598, ↓bqi_599, ↓bqi_600, ↓bqi_601, ↓bqi_602, ↓bqi_603, ↓bqi_604, ↓bqi_605, ↓bqi_606, ↓bqi_608, ↓bqi_609, ↓bqi_610, ↓bqz_607, ↓Option.bind_some, ↓bc_isIn, ↓bm_isIn, ↓bm_isShelf, i01, i10, j01, if_true, if_false, not_true_eq_false, not_false_eq_true, and_true, true_and, and_self, false_and, and_false, ↓reduceIte, Int.reduceEq, Int.reduceLT, Int.reduceLE, Int.reduceNeg, Int.reduceAdd, Int.reduceSub, Int.reduceMul, Int.reduceNe, Int.reduceToNat, Nat.reduceAdd, Nat.reduceMul, Nat.reduceEqDiff, c65, hx, show ¬ (m : Int) ≤ 1 by omega, wr_n]
  · intro n x y hx ⟨h1, h2, h3⟩
    have ex : x = v 1065 := by omega
    subst ex
    rw [f_X12_none_22]
    have lt : ∀ {c b a : Nat}, gr_ M v vil m c b a → (a : Int) < v 1065 := fun {c b a} g => by
      have := g.1
      rcases g.2.1 with ⟨_, g1, g2⟩ | ⟨_, g1, g2⟩ | ⟨_, g1, g2⟩ <;> omega
    rcases h3 with ⟨q1, q2⟩ | ⟨c, b, a, q1, q2, q3⟩
    · refine ⟨none, Or.inl ⟨rfl, fun c b a g => q2 c b a (lt g) g⟩, ?_⟩
      rw [q1]
      simp (disch := omega) only [↓bqr_C, ↓bqr_D, ↓bqr_N2, ↓bqr_N3, ↓bqr_O, ↓bqr_Q, ↓bqr_W, ↓bqr_S1, ↓bqr_S4, ↓bqr_T2, ↓bqr_T3, ↓bqr_F, ↓bqr_H, ↓bqa_C, ↓bqa_N, ↓bqa_U, ↓bqa_Y, ↓bqa_W, ↓bqa_S, ↓bqgkC_1, ↓bqgkC_2, ↓bqgkC_3, ↓bqgkC_4, ↓bqgkC_5, ↓bqgkC_6, ↓bqgkD_1, ↓bqgkN_0, ↓bqgkN_1, ↓bqgkO_1, ↓bqgkQ_1, ↓bqgkW_1, ↓bqgkS_0, ↓bqgkS_2, ↓bqgkS_3, ↓bqgkT_0, ↓bqgkT_1, ↓bqgkF_1, ↓bqgkH_1, ↓bqgkU_0, ↓bqgkU_1, ↓bqgkU_2, ↓bqgkU_3, ↓bqgkU_4, ↓bqgkY_0, ↓bqgkY_1, ↓bqgkY_2, ↓bqikE_, ↓bqikP_, ↓bqikR_, ↓bqikX_, ↓bqikG_, ↓bqikI_, ↓bqikJ_, ↓bqvkC_, ↓bqvkD_, ↓bqvkN_, ↓bqvkO_, ↓bqvkQ_, ↓bqvkU_, ↓bqvkY_, ↓bqvkW_, ↓bqvkS_, ↓bqvkT_, ↓bqvkF_, ↓bqvkH_, ↓bqr_0_0, ↓bqr_0_1, ↓bqr_0_3, ↓bqr_0_4, ↓bqr_0_5, ↓bqr_0_6, ↓bqr_0_7, ↓bqr_0_8, ↓bqr_1_0, ↓bqr_1_1, ↓bqr_1_2, ↓bqr_1_3, ↓bqr_1_5, ↓bqr_1_8, ↓bqr_1_10, ↓bqr_1_12, ↓bqr_1_13, ↓bqr_518_0, ↓bqr_518_1, ↓bqr_518_2, ↓bqr_518_6, ↓bqr_518_7, ↓bqr_524_0, ↓bqr_524_2, ↓bqr_524_4, ↓bqr_528_0, ↓bqr_528_1, ↓bqr_531_0, ↓bqr_531_1, ↓bqr_531_3, ↓bqr_592_0, ↓bqr_592_1, ↓bqr_592_2, ↓bqr_592_3, ↓bqr_592_4, ↓bqr_592_5, ↓bqr_592_6, ↓bqr_592_7, ↓bqr_592_11, ↓bqr_592_12, ↓bqr_592_13, ↓bqr_592_17, ↓bqr_592_18, ↓bqr_592_19, ↓bqr_592_23, ↓bqr_592_26, ↓bqr_592_27, ↓bqr_592_28, ↓bqg_0_2, ↓bqg_1_4, ↓bqg_1_6, ↓bqg_1_7, ↓bqg_1_9, ↓bqg_1_11, ↓bqg_1_14, ↓bqg_518_3, ↓bqg_518_4, ↓bqg_518_5, ↓bqg_518_8, ↓bqg_518_9, ↓bqg_524_1, ↓bqg_524_3, ↓bqg_528_2, ↓bqg_528_3, ↓bqg_531_2, ↓bqg_535_0, ↓bqg_535_1, ↓bqg_535_2, ↓bqg_535_3, ↓bqg_535_4, ↓bqg_592_8, ↓bqg_592_9, ↓bqg_592_10, ↓bqg_592_14, ↓bqg_592_15, ↓bqg_592_16, ↓bqg_592_20, ↓bqg_592_21, ↓bqg_592_22, ↓bqg_592_24, ↓bqg_592_25, ↓bqg_592_29, ↓bqg_592_30, ↓bqg_592_31, ↓bqg_592_32, ↓bqv_0, ↓bqv_1, ↓bqv_259, ↓bqv_518, ↓bqv_524, ↓bqv_528, ↓bqv_531, ↓bqv_535, ↓bqv_592, ↓bqi_2, ↓bqi_3, ↓bqi_4, ↓bqi_10, ↓bqi_519, ↓bqi_520, ↓bqi_521, ↓bqi_522, ↓bqi_523, ↓bqi_525, ↓bqi_526, ↓bqi_527, ↓bqi_529, ↓bqi_530, ↓bqi_532, ↓bqi_533, ↓bqi_534, ↓bqi_593, ↓bqi_594, ↓bqi_595, ↓bqi_596, ↓bqi_597, ↓bqi_598, ↓bqi_599, ↓bqi_600, ↓bqi_601, ↓bqi_602, ↓bqi_603, ↓bqi_604, ↓bqi_605, ↓bqi_606, ↓bqi_608, ↓bqi_609, ↓bqi_610, ↓bqz_607, ↓Option.bind_some, ↓bc_isIn, ↓bm_isIn, ↓bm_isShelf, i01, i10, j01, if_true, if_false, not_true_eq_false, not_false_eq_true, and_true, true_and, and_self, false_and, and_false, ↓reduceIte, Int.reduceEq, Int.reduceLT, Int.reduceLE, Int.reduceNeg, Int.reduceAdd, Int.reduceSub, Int.reduceMul, Int.reduceNe, Int.reduceToNat, Nat.reduceAdd, Nat.reduceMul, Nat.reduceEqDiff, c65, Int.lt_irrefl, wr_n]
    · refine ⟨some (w_ c b a), Or.inr ⟨c, b, a, rfl, q2, fun c' b' a' g => q3 c' b' a' (lt g) g⟩, ?_⟩
      have hy : ¬ y < 0 := by omega
      simp (disch := omega) only [↓bqr_C, ↓bqr_D, ↓bqr_N2, ↓bqr_N3, ↓bqr_O, ↓bqr_Q, ↓bqr_W, ↓bqr_S1, ↓bqr_S4, ↓bqr_T2, ↓bqr_T3, ↓bqr_F, ↓bqr_H, ↓bqa_C, ↓bqa_N, ↓bqa_U, ↓bqa_Y, ↓bqa_W, ↓bqa_S, ↓bqgkC_1, ↓bqgkC_2, ↓bqgkC_3, ↓bqgkC_4, ↓bqgkC_5, ↓bqgkC_6, ↓bqgkD_1, ↓bqgkN_0, ↓bqgkN_1, ↓bqgkO_1, ↓bqgkQ_1, ↓bqgkW_1, ↓bqgkS_0, ↓bqgkS_2, ↓bqgkS_3, ↓bqgkT_0, ↓bqgkT_1, ↓bqgkF_1, ↓bqgkH_1, ↓bqgkU_0, ↓bqgkU_1, ↓bqgkU_2, ↓bqgkU_3, ↓bqgkU_4, ↓bqgkY_0, ↓bqgkY_1, ↓bqgkY_2, ↓bqikE_, ↓bqikP_, ↓bqikR_, ↓bqikX_, ↓bqikG_, ↓bqikI_, ↓bqikJ_, ↓bqvkC_, ↓bqvkD_, ↓bqvkN_, ↓bqvkO_, ↓bqvkQ_, ↓bqvkU_, ↓bqvkY_, ↓bqvkW_, ↓bqvkS_, ↓bqvkT_, ↓bqvkF_, ↓bqvkH_, ↓bqr_0_0, ↓bqr_0_1, ↓bqr_0_3, ↓bqr_0_4, ↓bqr_0_5, ↓bqr_0_6, ↓bqr_0_7, ↓bqr_0_8, ↓bqr_1_0, ↓bqr_1_1, ↓bqr_1_2, ↓bqr_1_3, ↓bqr_1_5, ↓bqr_1_8, ↓bqr_1_10, ↓bqr_1_12, ↓bqr_1_13, ↓bqr_518_0, ↓bqr_518_1, ↓bqr_518_2, ↓bqr_518_6, ↓bqr_518_7, ↓bqr_524_0, ↓bqr_524_2, ↓bqr_524_4, ↓bqr_528_0, ↓bqr_528_1, ↓bqr_531_0, ↓bqr_531_1, ↓bqr_531_3, ↓bqr_592_0, ↓bqr_592_1, ↓bqr_592_2, ↓bqr_592_3, ↓bqr_592_4, ↓bqr_592_5, ↓bqr_592_6, ↓bqr_592_7, ↓bqr_592_11, ↓bqr_592_12, ↓bqr_592_13, ↓bqr_592_17, ↓bqr_592_18, ↓bqr_592_19, ↓bqr_592_23, ↓bqr_592_26, ↓bqr_592_27, ↓bqr_592_28, ↓bqg_0_2, ↓bqg_1_4, ↓bqg_1_6, ↓bqg_1_7, ↓bqg_1_9, ↓bqg_1_11, ↓bqg_1_14, ↓bqg_518_3, ↓bqg_518_4, ↓bqg_518_5, ↓bqg_518_8, ↓bqg_518_9, ↓bqg_524_1, ↓bqg_524_3, ↓bqg_528_2, ↓bqg_528_3, ↓bqg_531_2, ↓bqg_535_0, ↓bqg_535_1, ↓bqg_535_2, ↓bqg_535_3, ↓bqg_535_4, ↓bqg_592_8, ↓bqg_592_9, ↓bqg_592_10, ↓bqg_592_14, ↓bqg_592_15, ↓bqg_592_16, ↓bqg_592_20, ↓bqg_592_21, ↓bqg_592_22, ↓bqg_592_24, ↓bqg_592_25, ↓bqg_592_29, ↓bqg_592_30, ↓bqg_592_31, ↓bqg_592_32, ↓bqv_0, ↓bqv_1, ↓bqv_259, ↓bqv_518, ↓bqv_524, ↓bqv_528, ↓bqv_531, ↓bqv_535, ↓bqv_592, ↓bqi_2, ↓bqi_3, ↓bqi_4, ↓bqi_10, ↓bqi_519, ↓bqi_520, ↓bqi_521, ↓bqi_522, ↓bqi_523, ↓bqi_525, ↓bqi_526, ↓bqi_527, ↓bqi_529, ↓bqi_530, ↓bqi_532, ↓bqi_533, ↓bqi_534, ↓bqi_593, ↓bqi_594, ↓bqi_595, ↓bqi_596, ↓bqi_597, ↓bqi_598, ↓bqi_599, ↓bqi_600, ↓bqi_601, ↓bqi_602, ↓bqi_603, ↓bqi_604, ↓bqi_605, ↓bqi_606, ↓bqi_608, ↓bqi_609, ↓bqi_610, ↓bqz_607, ↓Option.bind_some, ↓bc_isIn, ↓bm_isIn, ↓bm_isShelf, i01, i10, j01, if_true, if_false, not_true_eq_false, not_false_eq_true, and_true, true_and, and_self, false_and, and_false, ↓reduceIte, Int.reduceEq, Int.reduceLT, Int.reduceLE, Int.reduceNeg, Int.reduceAdd, Int.reduceSub, Int.reduceMul, Int.reduceNe, Int.reduceToNat, Nat.reduceAdd, Nat.reduceMul, Nat.reduceEqDiff, c65, Int.lt_irrefl, wr_n, hy]
      rw [q1]
/-- of the village or not, the same sets, when no lesser set is there -/
theorem gr_gd (hV : Vw M v) {m : Nat} (hl : ∀ m', 1 ≤ m' → m' < m → ∀ c b a, ¬ gd_ (lB_ M v vil) (v 1065).toNat m' c b a) {c b a : Nat} : gr_ M v vil m c b a ↔ gd_ (lB_ M v vil) (v 1065).toNat m c b a := by
  have b11 := vb_11 hV
  have isv : ∀ k : Nat, vo_ v vil (k : Int) → lB_ M v vil k = lv_ M (k : Int) := fun k h => if_pos h
  have out : ∀ k : Nat, ¬ vo_ v vil (k : Int) → lB_ M v vil k = 16777215 := fun k h => if_neg h
  constructor
  · intro ⟨h1, h2, ⟨h3, h4, h5⟩, h6⟩
    refine ⟨by omega, h2, ?_⟩
    rw [isv _ h3, isv _ h4, isv _ h5]; exact h6
  · intro ⟨h1, h2, h3⟩
    have hc : (c : Int) < v 1065 := by omega
    have al : ∀ k : Nat, k ≤ c → lB_ M v vil k &&& 16777215 = lB_ M v vil k := fun k hk => and_all (lB_lt hV (by omega))
    have la : ∀ k : Nat, k ≤ c → 16777215 &&& lB_ M v vil k = lB_ M v vil k := fun k hk => by rw [Nat.and_comm]; exact al k hk
    have all : vo_ v vil (c : Int) ∧ vo_ v vil (b : Int) ∧ vo_ v vil (a : Int) := by
      rcases h2 with ⟨rfl, rfl, rfl⟩ | ⟨rfl, rfl, h4⟩ | ⟨rfl, h4, h5⟩
      · have : vo_ v vil (a : Int) := Classical.byContradiction fun g => by
          rw [out a g] at h3; exact absurd h3 (by decide)
        exact ⟨this, this, this⟩
      · rw [Nat.and_self] at h3
        have one := hl 1 (by decide) (by decide)
        have p1 : vo_ v vil (b : Int) := Classical.byContradiction fun g => by
          rw [out b g, la a (by omega)] at h3
          exact one a a a ⟨by omega, Or.inl ⟨rfl, rfl, rfl⟩, by rw [Nat.and_self, Nat.and_self]; exact h3⟩
        have p2 : vo_ v vil (a : Int) := Classical.byContradiction fun g => by
          rw [out a g, al b (by omega)] at h3
          exact one b b b ⟨by omega, Or.inl ⟨rfl, rfl, rfl⟩, by rw [Nat.and_self, Nat.and_self]; exact h3⟩
        exact ⟨p1, p1, p2⟩
      · have two := hl 2 (by decide) (by decide)
        refine ⟨Classical.byContradiction fun g => ?_, Classical.byContradiction fun g => ?_, Classical.byContradiction fun g => ?_⟩
        · rw [out c g, la b (by omega)] at h3
          exact two b b a (gd_2.mpr ⟨by omega, h4, h3⟩)
        · rw [out b g, al c (by omega)] at h3
          exact two c c a (gd_2.mpr ⟨by omega, by omega, h3⟩)
        · rw [out a g, Nat.and_assoc, al b (by omega)] at h3
          exact two c c b (gd_2.mpr ⟨by omega, by omega, h3⟩)
    exact ⟨hc, h2, all, by rw [← isv _ all.1, ← isv _ all.2.1, ← isv _ all.2.2]; exact h3⟩
theorem lr_le (hV : Vw M v) {m : Nat} (hl : ∀ m', 1 ≤ m' → m' < m → ∀ c b a, ¬ gd_ (lB_ M v vil) (v 1065).toNat m' c b a) {o : Option Nat} (h : lr_ M v vil m o) : le_ (lB_ M v vil) (v 1065).toNat m o := by
  rcases h with ⟨h1, h2⟩ | ⟨c, b, a, h1, h2, h3⟩
  · exact Or.inl ⟨h1, fun c b a g => h2 c b a ((gr_gd hV hl).mpr g)⟩
  · exact Or.inr ⟨c, b, a, h1, (gr_gd hV hl).mp h2, fun c' b' a' g => h3 c' b' a' ((gr_gd hV hl).mpr g)⟩
theorem le_pos {L : Nat → Nat} {n m w : Nat} (h : le_ L n m (some w)) : 1 ≤ w := by
  rcases h with ⟨h1, _⟩ | ⟨c, b, a, h1, _, _⟩
  · exact absurd h1 (by simp)
  · rw [Option.some.inj h1]
    exact Nat.le_trans (pw_pos c) Nat.right_le_or
theorem le_no {L : Nat → Nat} {n m : Nat} (h : le_ L n m none) : ∀ c b a, ¬ gd_ L n m c b a := by
  rcases h with ⟨_, h2⟩ | ⟨c, b, a, h1, _, _⟩
  · exact h2
  · exact absurd h1 (by simp)

theorem sim20 : sim_20 R_ := by
  intro M a1 o1 hM hR
  obtain ⟨v, hV⟩ := vw_of hR
  have hW := mw_of hV
  unfold f_X11_none f_X12_none f_X11_isVillageOrAll
  by_cases h1 : -1 ≤ a1 ∧ a1 ≤ 3
  rotate_left
  · refine ⟨-1, ?_, ?_⟩
    · simp (disch := omega) only [↓bqr_C, ↓bqr_D, ↓bqr_N2, ↓bqr_N3, ↓bqr_O, ↓bqr_Q, ↓bqr_W, ↓bqr_S1, ↓bqr_S4, ↓bqr_T2, ↓bqr_T3, ↓bqr_F, ↓bqr_H, ↓bqa_C, ↓bqa_N, ↓bqa_U, ↓bqa_Y, ↓bqa_W, ↓bqa_S, ↓bqgkC_1, ↓bqgkC_2, ↓bqgkC_3, ↓bqgkC_4, ↓bqgkC_5, ↓bqgkC_6, ↓bqgkD_1, ↓bqgkN_0, ↓bqgkN_1, ↓bqgkO_1, ↓bqgkQ_1, ↓bqgkW_1, ↓bqgkS_0, ↓bqgkS_2, ↓bqgkS_3, ↓bqgkT_0, ↓bqgkT_1, ↓bqgkF_1, ↓bqgkH_1, ↓bqgkU_0, ↓bqgkU_1, ↓bqgkU_2, ↓bqgkU_3, ↓bqgkU_4, ↓bqgkY_0, ↓bqgkY_1, ↓bqgkY_2, ↓bqikE_, ↓bqikP_, ↓bqikR_, ↓bqikX_, ↓bqikG_, ↓bqikI_, ↓bqikJ_, ↓bqvkC_, ↓bqvkD_, ↓bqvkN_, ↓bqvkO_, ↓bqvkQ_, ↓bqvkU_, ↓bqvkY_, ↓bqvkW_, ↓bqvkS_, ↓bqvkT_, ↓bqvkF_, ↓bqvkH_, ↓bqr_0_0, ↓bqr_0_1, ↓bqr_0_3, ↓bqr_0_4, ↓bqr_0_5, ↓bqr_0_6, ↓bqr_0_7, ↓bqr_0_8, ↓bqr_1_0, ↓bqr_1_1, ↓bqr_1_2, ↓bqr_1_3, ↓bqr_1_5, ↓bqr_1_8, ↓bqr_1_10, ↓bqr_1_12, ↓bqr_1_13, ↓bqr_518_0, ↓bqr_518_1, ↓bqr_518_2, ↓bqr_518_6, ↓bqr_518_7, ↓bqr_524_0, ↓bqr_524_2, ↓bqr_524_4, ↓bqr_528_0, ↓bqr_528_1, ↓bqr_531_0, ↓bqr_531_1, ↓bqr_531_3, ↓bqr_592_0, ↓bqr_592_1, ↓bqr_592_2, ↓bqr_592_3, ↓bqr_592_4, ↓bqr_592_5, ↓bqr_592_6, ↓bqr_592_7, ↓bqr_592_11, ↓bqr_592_12, ↓bqr_592_13, ↓bqr_592_17, ↓bqr_592_18, ↓bqr_592_19, ↓bqr_592_23, ↓bqr_592_26, ↓bqr_592_27, ↓bqr_592_28, ↓bqg_0_2, ↓bqg_1_4, ↓bqg_1_6, ↓bqg_1_7, ↓bqg_1_9, ↓bqg_1_11, ↓bqg_1_14, ↓bqg_518_3, ↓bqg_518_4, ↓bqg_518_5, ↓bqg_518_8, ↓bqg_518_9, ↓bqg_524_1, ↓bqg_524_3, ↓bqg_528_2, ↓bqg_528_3, ↓bqg_531_2, ↓bqg_535_0, ↓bqg_535_1, ↓bqg_535_2, ↓bqg_535_3, ↓bqg_535_4, ↓bqg_592_8, ↓bqg_592_9, ↓bqg_592_10, ↓bqg_592_14, ↓bqg_592_15, ↓bqg_592_16, ↓bqg_592_20, ↓bqg_592_21, ↓bqg_592_22, ↓bqg_592_24, ↓bqg_592_25, ↓bqg_592_29, ↓bqg_592_30, ↓bqg_592_31, ↓bqg_592_32, ↓bqv_0, ↓bqv_1, ↓bqv_259, ↓bqv_518, ↓bqv_524, ↓bqv_528, ↓bqv_531, ↓bqv_535, ↓bqv_592, ↓bqi_2, ↓bqi_3, ↓bqi_4, ↓bqi_10, ↓bqi_519, ↓bqi_520, ↓bqi_521, ↓bqi_522, ↓bqi_523, ↓bqi_525, ↓bqi_526, ↓bqi_527, ↓bqi_529, ↓bqi_530, ↓bqi_532, ↓bqi_533, ↓bqi_534, ↓bqi_593, ↓bqi_594, ↓bqi_595, ↓bqi_596, ↓bqi_597, ↓bqi_598, ↓bqi_599, ↓bqi_600, ↓bqi_601, ↓bqi_602, ↓bqi_603, ↓bqi_604, ↓bqi_605, ↓bqi_606, ↓bqi_608, ↓bqi_609, ↓bqi_610, ↓bqz_607, ↓Option.bind_some, ↓bc_isIn, ↓bm_isIn, ↓bm_isShelf, i01, i10, j01, if_true, if_false, not_true_eq_false, not_false_eq_true, and_true, true_and, and_self, false_and, and_false, ↓reduceIte, Int.reduceEq, Int.reduceLT, Int.reduceLE, Int.reduceNeg, Int.reduceAdd, Int.reduceSub, Int.reduceMul, Int.reduceNe, Int.reduceToNat, Nat.reduceAdd, Nat.reduceMul, Nat.reduceEqDiff, show ¬ a1 = -1 by omega, show ¬ (0 ≤ a1 ∧ a1 < 4) by omega]
    · simp (disch := omega) only [↓bqr_C, ↓bqr_D, ↓bqr_N2, ↓bqr_N3, ↓bqr_O, ↓bqr_Q, ↓bqr_W, ↓bqr_S1, ↓bqr_S4, ↓bqr_T2, ↓bqr_T3, ↓bqr_F, ↓bqr_H, ↓bqa_C, ↓bqa_N, ↓bqa_U, ↓bqa_Y, ↓bqa_W, ↓bqa_S, ↓bqgkC_1, ↓bqgkC_2, ↓bqgkC_3, ↓bqgkC_4, ↓bqgkC_5, ↓bqgkC_6, ↓bqgkD_1, ↓bqgkN_0, ↓bqgkN_1, ↓bqgkO_1, ↓bqgkQ_1, ↓bqgkW_1, ↓bqgkS_0, ↓bqgkS_2, ↓bqgkS_3, ↓bqgkT_0, ↓bqgkT_1, ↓bqgkF_1, ↓bqgkH_1, ↓bqgkU_0, ↓bqgkU_1, ↓bqgkU_2, ↓bqgkU_3, ↓bqgkU_4, ↓bqgkY_0, ↓bqgkY_1, ↓bqgkY_2, ↓bqikE_, ↓bqikP_, ↓bqikR_, ↓bqikX_, ↓bqikG_, ↓bqikI_, ↓bqikJ_, ↓bqvkC_, ↓bqvkD_, ↓bqvkN_, ↓bqvkO_, ↓bqvkQ_, ↓bqvkU_, ↓bqvkY_, ↓bqvkW_, ↓bqvkS_, ↓bqvkT_, ↓bqvkF_, ↓bqvkH_, ↓bqr_0_0, ↓bqr_0_1, ↓bqr_0_3, ↓bqr_0_4, ↓bqr_0_5, ↓bqr_0_6, ↓bqr_0_7, ↓bqr_0_8, ↓bqr_1_0, ↓bqr_1_1, ↓bqr_1_2, ↓bqr_1_3, ↓bqr_1_5, ↓bqr_1_8, ↓bqr_1_10, ↓bqr_1_12, ↓bqr_1_13, ↓bqr_518_0, ↓bqr_518_1, ↓bqr_518_2, ↓bqr_518_6, ↓bqr_518_7, ↓bqr_524_0, ↓bqr_524_2, ↓bqr_524_4, ↓bqr_528_0, ↓bqr_528_1, ↓bqr_531_0, ↓bqr_531_1, ↓bqr_531_3, ↓bqr_592_0, ↓bqr_592_1, ↓bqr_592_2, ↓bqr_592_3, ↓bqr_592_4, ↓bqr_592_5, ↓bqr_592_6, ↓bqr_592_7, ↓bqr_592_11, ↓bqr_592_12, ↓bqr_592_13, ↓bqr_592_17, ↓bqr_592_18, ↓bqr_592_19, ↓bqr_592_23, ↓bqr_592_26, ↓bqr_592_27, ↓bqr_592_28, ↓bqg_0_2, ↓bqg_1_4, ↓bqg_1_6, ↓bqg_1_7, ↓bqg_1_9, ↓bqg_1_11, ↓bqg_1_14, ↓bqg_518_3, ↓bqg_518_4, ↓bqg_518_5, ↓bqg_518_8, ↓bqg_518_9, ↓bqg_524_1, ↓bqg_524_3, ↓bqg_528_2, ↓bqg_528_3, ↓bqg_531_2, ↓bqg_535_0, ↓bqg_535_1, ↓bqg_535_2, ↓bqg_535_3, ↓bqg_535_4, ↓bqg_592_8, ↓bqg_592_9, ↓bqg_592_10, ↓bqg_592_14, ↓bqg_592_15, ↓bqg_592_16, ↓bqg_592_20, ↓bqg_592_21, ↓bqg_592_22, ↓bqg_592_24, ↓bqg_592_25, ↓bqg_592_29, ↓bqg_592_30, ↓bqg_592_31, ↓bqg_592_32, ↓bqv_0, ↓bqv_1, ↓bqv_259, ↓bqv_518, ↓bqv_524, ↓bqv_528, ↓bqv_531, ↓bqv_535, ↓bqv_592, ↓bqi_2, ↓bqi_3, ↓bqi_4, ↓bqi_10, ↓bqi_519, ↓bqi_520, ↓bqi_521, ↓bqi_522, ↓bqi_523, ↓bqi_525, ↓bqi_526, ↓bqi_527, ↓bqi_529, ↓bqi_530, ↓bqi_532, ↓bqi_533, ↓bqi_534, ↓bqi_593, ↓bqi_594, ↓bqi_595, ↓bqi_596, ↓bqi_597, ↓bqi_598, ↓bqi_599, ↓bqi_600, ↓bqi_601, ↓bqi_602, ↓bqi_603, ↓bqi_604, ↓bqi_605, ↓bqi_606, ↓bqi_608, ↓bqi_609, ↓bqi_610, ↓bqz_607, ↓Option.bind_some, ↓bc_isIn, ↓bm_isIn, ↓bm_isShelf, i01, i10, j01, if_true, if_false, not_true_eq_false, not_false_eq_true, and_true, true_and, and_self, false_and, and_false, ↓reduceIte, Int.reduceEq, Int.reduceLT, Int.reduceLE, Int.reduceNeg, Int.reduceAdd, Int.reduceSub, Int.reduceMul, Int.reduceNe, Int.reduceToNat, Nat.reduceAdd, Nat.reduceMul, Nat.reduceEqDiff, ↓bm_isVil, i0s, h1, if_false]
  have eV : (if a1 = -1 then some (1 : Int) else (f_X11_isIn SH0_ M a1 4).bind fun v1 => if v1 = 0 then some 0 else some 1) = some 1 := by
    by_cases g : a1 = -1
    · rw [if_pos g]
    · rw [if_neg g, bc_isIn, i0s, if_pos (by omega)]
  rw [eV, Option.bind_some, if_neg (by decide), m_isVil, Option.bind_some, i0s, if_pos h1]
  suffices main : ∀ N, ∃ r, f_X11_none_11 SH0_ M 0 a1 (N + 4) 1 = some r ∧ f_X12_none_11 SH0_ M 592 a1 (N + 4) 1 = some r from main 999996
  intro N
  have cs : ∀ n m, m ≤ 3 → f_X11_none_11 SH0_ M 0 a1 (n + 1) m = (f_X0_leastWithoutOrder SH0_ M 1 a1 m).bind fun v2 => if v2 = 0 then f_X11_none_11 SH0_ M 0 a1 n (wr_i (m + 1)) else some v2 := by
    intro n m h
    rw [f_X11_none_11, if_pos h]
    simp (disch := omega) only [↓bqr_C, ↓bqr_D, ↓bqr_N2, ↓bqr_N3, ↓bqr_O, ↓bqr_Q, ↓bqr_W, ↓bqr_S1, ↓bqr_S4, ↓bqr_T2, ↓bqr_T3, ↓bqr_F, ↓bqr_H, ↓bqa_C, ↓bqa_N, ↓bqa_U, ↓bqa_Y, ↓bqa_W, ↓bqa_S, ↓bqgkC_1, ↓bqgkC_2, ↓bqgkC_3, ↓bqgkC_4, ↓bqgkC_5, ↓bqgkC_6, ↓bqgkD_1, ↓bqgkN_0, ↓bqgkN_1, ↓bqgkO_1, ↓bqgkQ_1, ↓bqgkW_1, ↓bqgkS_0, ↓bqgkS_2, ↓bqgkS_3, ↓bqgkT_0, ↓bqgkT_1, ↓bqgkF_1, ↓bqgkH_1, ↓bqgkU_0, ↓bqgkU_1, ↓bqgkU_2, ↓bqgkU_3, ↓bqgkU_4, ↓bqgkY_0, ↓bqgkY_1, ↓bqgkY_2, ↓bqikE_, ↓bqikP_, ↓bqikR_, ↓bqikX_, ↓bqikG_, ↓bqikI_, ↓bqikJ_, ↓bqvkC_, ↓bqvkD_, ↓bqvkN_, ↓bqvkO_, ↓bqvkQ_, ↓bqvkU_, ↓bqvkY_, ↓bqvkW_, ↓bqvkS_, ↓bqvkT_, ↓bqvkF_, ↓bqvkH_, ↓bqr_0_0, ↓bqr_0_1, ↓bqr_0_3, ↓bqr_0_4, ↓bqr_0_5, ↓bqr_0_6, ↓bqr_0_7, ↓bqr_0_8, ↓bqr_1_0, ↓bqr_1_1, ↓bqr_1_2, ↓bqr_1_3, ↓bqr_1_5, ↓bqr_1_8, ↓bqr_1_10, ↓bqr_1_12, ↓bqr_1_13, ↓bqr_518_0, ↓bqr_518_1, ↓bqr_518_2, ↓bqr_518_6, ↓bqr_518_7, ↓bqr_524_0, ↓bqr_524_2, ↓bqr_524_4, ↓bqr_528_0, ↓bqr_528_1, ↓bqr_531_0, ↓bqr_531_1, ↓bqr_531_3, ↓bqr_592_0, ↓bqr_592_1, ↓bqr_592_2, ↓bqr_592_3, ↓bqr_592_4, ↓bqr_592_5, ↓bqr_592_6, ↓bqr_592_7, ↓bqr_592_11, ↓bqr_592_12, ↓bqr_592_13, ↓bqr_592_17, ↓bqr_592_18, ↓bqr_592_19, ↓bqr_592_23, ↓bqr_592_26, ↓bqr_592_27, ↓bqr_592_28, ↓bqg_0_2, ↓bqg_1_4, ↓bqg_1_6, ↓bqg_1_7, ↓bqg_1_9, ↓bqg_1_11, ↓bqg_1_14, ↓bqg_518_3, ↓bqg_518_4, ↓bqg_518_5, ↓bqg_518_8, ↓bqg_518_9, ↓bqg_524_1, ↓bqg_524_3, ↓bqg_528_2, ↓bqg_528_3, ↓bqg_531_2, ↓bqg_535_0, ↓bqg_535_1, ↓bqg_535_2, ↓bqg_535_3, ↓bqg_535_4, ↓bqg_592_8, ↓bqg_592_9, ↓bqg_592_10, ↓bqg_592_14, ↓bqg_592_15, ↓bqg_592_16, ↓bqg_592_20, ↓bqg_592_21, ↓bqg_592_22, ↓bqg_592_24, ↓bqg_592_25, ↓bqg_592_29, ↓bqg_592_30, ↓bqg_592_31, ↓bqg_592_32, ↓bqv_0, ↓bqv_1, ↓bqv_259, ↓bqv_518, ↓bqv_524, ↓bqv_528, ↓bqv_531, ↓bqv_535, ↓bqv_592, ↓bqi_2, ↓bqi_3, ↓bqi_4, ↓bqi_10, ↓bqi_519, ↓bqi_520, ↓bqi_521, ↓bqi_522, ↓bqi_523, ↓bqi_525, ↓bqi_526, ↓bqi_527, ↓bqi_529, ↓bqi_530, ↓bqi_532, ↓bqi_533, ↓bqi_534, ↓bqi_593, ↓bqi_594, ↓bqi_595, ↓bqi_596, ↓bqi_597, ↓bqi_598, ↓bqi_599, ↓bqi_600, ↓bqi_601, ↓bqi_602, ↓bqi_603, ↓bqi_604, ↓bqi_605, ↓bqi_606, ↓bqi_608, ↓bqi_609, ↓bqi_610, ↓bqz_607]
  have ms : ∀ n m, m < 4 → f_X12_none_11 SH0_ M 592 a1 (n + 1) m = f_X12_none_22 SH0_ (fun x2 => f_X12_none_11 SH0_ M 592 a1 n x2) M 592 a1 m FU_ (-4) 0 := by
    intro n m h
    rw [f_X12_none_11, if_pos h]
  obtain ⟨x1, c1, c2⟩ := c_least1 (vil := a1) hV
  obtain ⟨y1, m1, m2⟩ := m_22 hV hW h1.1 (k1 := fun x2 => f_X12_none_11 SH0_ M 592 a1 (N + 3) x2) (m := 1) (by decide)
  rw [show ((1 : Nat) : Int) = 1 from rfl] at m2
  rw [cs _ _ (by decide), c2, ms _ _ (by decide), m2, Option.bind_some]
  have e1 := le_one c1 (lr_le hV (fun m' q1 q2 => absurd q2 (by omega)) m1)
  subst e1
  cases x1 with
  | some w =>
    have := le_pos c1
    exact ⟨(w : Int), if_neg (show ¬ ((w : Nat) : Int) = 0 by omega), rfl⟩
  | none =>
    rw [if_pos (show (((none : Option Nat).getD 0 : Nat) : Int) = 0 from rfl), wr_n (by omega) (by omega)]
    show ∃ r, f_X11_none_11 SH0_ M 0 a1 (N + 3) (1 + 1) = some r ∧ f_X12_none_11 SH0_ M 592 a1 (N + 3) (1 + 1) = some r
    rw [show (1 : Int) + 1 = 2 from rfl]
    obtain ⟨x2, d1, d2⟩ := c_least2 (vil := a1) hV
    obtain ⟨y2, n1, n2⟩ := m_22 hV hW h1.1 (k1 := fun x2 => f_X12_none_11 SH0_ M 592 a1 (N + 2) x2) (m := 2) (by decide)
    rw [show ((2 : Nat) : Int) = 2 from rfl] at n2
    rw [cs _ _ (by decide), d2, ms _ _ (by decide), n2, Option.bind_some]
    have e2 := le_one d1 (lr_le hV (fun m' q1 q2 => by rw [show m' = 1 by omega]; exact le_no c1) n1)
    subst e2
    cases x2 with
    | some w =>
      have := le_pos d1
      exact ⟨(w : Int), if_neg (show ¬ ((w : Nat) : Int) = 0 by omega), rfl⟩
    | none =>
      rw [if_pos (show (((none : Option Nat).getD 0 : Nat) : Int) = 0 from rfl), wr_n (by omega) (by omega)]
      show ∃ r, f_X11_none_11 SH0_ M 0 a1 (N + 2) (2 + 1) = some r ∧ f_X12_none_11 SH0_ M 592 a1 (N + 2) (2 + 1) = some r
      rw [show (2 : Int) + 1 = 3 from rfl]
      obtain ⟨x3, f1, f2⟩ := c_least3 (vil := a1) hV
      obtain ⟨y3, p1, p2⟩ := m_22 hV hW h1.1 (k1 := fun x2 => f_X12_none_11 SH0_ M 592 a1 (N + 1) x2) (m := 3) (by decide)
      rw [show ((3 : Nat) : Int) = 3 from rfl] at p2
      rw [cs _ _ (by decide), f2, ms _ _ (by decide), p2, Option.bind_some]
      have e3 := le_one f1 (lr_le hV (fun m' q1 q2 => by
        by_cases q : m' = 1
        · rw [q]; exact le_no c1
        · rw [show m' = 2 by omega]; exact le_no d1) p1)
      subst e3
      cases x3 with
      | some w =>
        have := le_pos f1
        exact ⟨(w : Int), if_neg (show ¬ ((w : Nat) : Int) = 0 by omega), rfl⟩
      | none =>
        rw [if_pos (show (((none : Option Nat).getD 0 : Nat) : Int) = 0 from rfl), wr_n (by omega) (by omega)]
        show ∃ r, f_X11_none_11 SH0_ M 0 a1 (N + 1) (3 + 1) = some r ∧ f_X12_none_11 SH0_ M 592 a1 (N + 1) (3 + 1) = some r
        rw [f_X11_none_11, f_X12_none_11, if_neg (by decide), if_neg (by decide)]
        exact ⟨-4, rfl, rfl⟩
end
