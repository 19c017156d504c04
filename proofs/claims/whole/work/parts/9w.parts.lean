/-! the class's parts; both walks over them -/
theorem odd_of : ∀ x : Nat, 0 < x → ∃ k q, x = 2 ^ k * (2 * q + 1) := by
  intro x
  induction x using Nat.strongRecOn with
  | ind x ih =>
    intro h
    by_cases e : x % 2 = 1
    · exact ⟨0, x / 2, by omega⟩
    · obtain ⟨k, q, hq⟩ := ih (x / 2) (by omega) (by omega)
      refine ⟨k + 1, q, ?_⟩
      rw [Nat.pow_succ, Nat.mul_comm (2 ^ k) 2, Nat.mul_assoc, ← hq]; omega
theorem nt_tab : ∀ k ∈ List.range 16, (if ((2 ^ k - 1 : Nat) : Int) ≤ 0 then some (an_i ((2 ^ k - 1 : Nat) : Int) 32) else if ((2 ^ k - 1 : Nat) : Int) ≤ 65536 then f_J6_numberOfTrailingZeros_0f7a4_34 SH0_ Z_m ((2 ^ k - 1 : Nat) : Int) 1 else f_J6_numberOfTrailingZeros_0f7a4_34 SH0_ Z_m (us_i ((2 ^ k - 1 : Nat) : Int) 16) (wr_i (1 + 16))) = some (k : Int) := by decide +kernel
theorem c_ntz {M : Mem_m} {x : Nat} (h0 : 0 < x) (h1 : x < 65536) : ∃ k : Nat, f_J6_numberOfTrailingZeros_0f7a4 SH0_ M (x : Int) = some (k : Int) ∧ x.testBit k = true ∧ ∀ j, j < k → x.testBit j = false := by
  obtain ⟨k, q, hx⟩ := odd_of x h0
  have hp : 0 < 2 ^ k := Nat.two_pow_pos k
  have hk : k < 16 := by
    refine (Nat.pow_lt_pow_iff_right (a := 2) (by decide)).mp ?_
    have : 2 ^ k * 1 ≤ 2 ^ k * (2 * q + 1) := Nat.mul_le_mul_left _ (by omega)
    omega
  have e1 : x = 2 ^ (k + 1) * q + 2 ^ k := by
    rw [hx, Nat.mul_add, Nat.mul_one, Nat.pow_succ, Nat.mul_assoc]
  have e2 : x - 1 = 2 ^ (k + 1) * q + (2 ^ k - 1) := by omega
  have l1 : 2 ^ k < 2 ^ (k + 1) := Nat.pow_lt_pow_right (by decide) (by omega)
  have b1 : ∀ j, x.testBit j = if j < k + 1 then decide (k = j) else q.testBit (j - (k + 1)) := fun j => by
    rw [e1, Nat.testBit_two_pow_mul_add q l1, Nat.testBit_two_pow]
  have b2 : ∀ j, (x - 1).testBit j = if j < k + 1 then decide (j < k) else q.testBit (j - (k + 1)) := fun j => by
    rw [e2, Nat.testBit_two_pow_mul_add q (by omega), Nat.testBit_two_pow_sub_one]
  refine ⟨k, ?_, by rw [b1, if_pos (by omega)]; simp, fun j hj => by rw [b1, if_pos (by omega)]; simp; omega⟩
  have ey : an_i (xo_i (x : Int) (-1)) (wr_i ((x : Int) - 1)) = ((2 ^ k - 1 : Nat) : Int) := by
    have ew : wr_i ((x : Int) - 1) = ((x - 1 : Nat) : Int) := by rw [wr_n (by omega) (by omega)]; omega
    have ec : an_i (xo_i (x : Int) (-1)) ((x - 1 : Nat) : Int) = an_i ((x - 1 : Nat) : Int) (xo_i (x : Int) (-1)) := by
      unfold an_i; rw [Int32.and_comm]
    rw [ew, ec, anx_nat (by omega) (by omega)]
    congr 1
    apply Nat.eq_of_testBit_eq
    intro j
    rw [ac_bit (by omega) (by omega), b1, b2, Nat.testBit_two_pow_sub_one]
    by_cases hj : j < k + 1
    · rw [if_pos hj, if_pos hj]
      by_cases hjk : j < k
      · have : ¬ k = j := by omega
        simp [hjk, this]
      · simp [hjk]
    · rw [if_neg hj, if_neg hj]
      have : ¬ j < k := by omega
      cases q.testBit (j - (k + 1)) <;> simp [this]
  unfold f_J6_numberOfTrailingZeros_0f7a4
  rw [ey]
  exact nt_tab k (List.mem_range.mpr hk)
section
variable {G : Nat → Nat → Prop} {sz : Nat}
theorem c_longest {A : Mem_m} {us : Int} {i : Nat} (hs : sz ≤ 8) (hi : i < sz) (hG : ∀ s : Nat, 1 ≤ s → i + s ≤ sz → (an_i (A 519 (9 * i + s)) us = 0 ↔ ¬ G i s)) (hF : ∀ j, i ≤ j → j ≤ sz → Cd_ sz (A 520) j) :
    ∃ L : Nat, f_X2_longestNote SH0_ A 518 (i : Int) (sz : Int) us = some (L : Int) ∧ ((L = 0 ∧ ∀ s, 1 ≤ s → i + s ≤ sz → G i s → A 520 i ≠ A 520 (i + s) + 2) ∨ (1 ≤ L ∧ i + L ≤ sz ∧ G i L ∧ A 520 i = A 520 (i + L) + 2 ∧ ∀ s, L < s → i + s ≤ sz → G i s → A 520 i ≠ A 520 (i + s) + 2)) := by
  unfold f_X2_longestNote
  rw [wr_n (by omega) (by omega)]
  refine lp_mu (A := Int) (fun n a => f_X2_longestNote_5 SH0_ A 518 (i : Int) us n a) (fun a => 0 ≤ a ∧ a ≤ (sz : Int) - i ∧ ∀ s : Nat, a < s → i + s ≤ sz → G i s → A 520 i ≠ A 520 (i + s) + 2) (fun a => a.toNat) (fun o => ∃ L : Nat, o = some (L : Int) ∧ ((L = 0 ∧ ∀ s, 1 ≤ s → i + s ≤ sz → G i s → A 520 i ≠ A 520 (i + s) + 2) ∨ (1 ≤ L ∧ i + L ≤ sz ∧ G i L ∧ A 520 i = A 520 (i + L) + 2 ∧ ∀ s, L < s → i + s ≤ sz → G i s → A 520 i ≠ A 520 (i + s) + 2))) ?_ FU_ ((sz : Int) - i) (by unfold FU_; omega) ⟨by omega, by omega, fun s h1 h2 => by omega⟩
  intro n a ⟨q1, q2, q3⟩
  obtain ⟨t, rfl⟩ := int_nat q1
  by_cases ht : (t : Int) ≤ 0
  · refine Or.inr ⟨0, ?_, Or.inl ⟨rfl, fun s s1 s2 g => q3 s (by omega) s2 g⟩⟩
    show f_X2_longestNote_5 SH0_ A 518 (i : Int) us (n + 1) (t : Int) = _
    rw [f_X2_longestNote_5, if_pos ht]; rfl
  · have ei : ((i : Int) * 9 + t).toNat = 9 * i + t := by omega
    have es : ((i : Int) + t).toNat = i + t := by omega
    have e0 : ((i : Int)).toNat = i := by omega
    have hg := hG t (by omega) (by omega)
    have bd := hF (i + t) (by omega) (by omega)
    have bd' : 0 ≤ A 520 (i + t) ∧ A 520 (i + t) ≤ 100 := by have := bd.1; have := bd.2; omega
    have nxt : (∀ s : Nat, (t : Int) + -1 < s → i + s ≤ sz → G i s → A 520 i ≠ A 520 (i + s) + 2) → f_X2_longestNote_5 SH0_ A 518 (i : Int) us (n + 1) (t : Int) = f_X2_longestNote_5 SH0_ A 518 (i : Int) us n ((t : Int) + -1) → ((∃ a', f_X2_longestNote_5 SH0_ A 518 (i : Int) us (n + 1) (t : Int) = f_X2_longestNote_5 SH0_ A 518 (i : Int) us n a' ∧ (0 ≤ a' ∧ a' ≤ (sz : Int) - i ∧ ∀ s : Nat, a' < s → i + s ≤ sz → G i s → A 520 i ≠ A 520 (i + s) + 2) ∧ a'.toNat < ((t : Int)).toNat) ∨ (∃ L : Nat, f_X2_longestNote_5 SH0_ A 518 (i : Int) us (n + 1) (t : Int) = some (L : Int) ∧ ((L = 0 ∧ ∀ s, 1 ≤ s → i + s ≤ sz → G i s → A 520 i ≠ A 520 (i + s) + 2) ∨ (1 ≤ L ∧ i + L ≤ sz ∧ G i L ∧ A 520 i = A 520 (i + L) + 2 ∧ ∀ s, L < s → i + s ≤ sz → G i s → A 520 i ≠ A 520 (i + s) + 2)))) := fun h e => Or.inl ⟨(t : Int) + -1, e, ⟨by omega, by omega, h⟩, by omega⟩
    by_cases hz : an_i (A 519 (9 * i + t)) us = 0
    · refine nxt (fun s s1 s2 g => ?_) ?_
      · by_cases e : s = t
        · subst e; exact absurd g (hg.mp hz)
        · exact q3 s (by omega) s2 g
      · rw [f_X2_longestNote_5]
        simp (disch := omega) only [↓bqr_C, ↓bqr_D, ↓bqr_N2, ↓bqr_N3, ↓bqr_O, ↓bqr_Q, ↓bqr_W, ↓bqr_S1, ↓bqr_S4, ↓bqr_T2, ↓bqr_T3, ↓bqr_F, ↓bqr_H, ↓bqa_C, ↓bqa_N, ↓bqa_U, ↓bqa_Y, ↓bqa_W, ↓bqa_S, ↓bqgkC_1, ↓bqgkC_2, ↓bqgkC_3, ↓bqgkC_4, ↓bqgkC_5, ↓bqgkC_6, ↓bqgkD_1, ↓bqgkN_0, ↓bqgkN_1, ↓bqgkO_1, ↓bqgkQ_1, ↓bqgkW_1, ↓bqgkS_0, ↓bqgkS_2, ↓bqgkS_3, ↓bqgkT_0, ↓bqgkT_1, ↓bqgkF_1, ↓bqgkH_1, ↓bqgkU_0, ↓bqgkU_1, ↓bqgkU_2, ↓bqgkU_3, ↓bqgkU_4, ↓bqgkY_0, ↓bqgkY_1, ↓bqgkY_2, ↓bqikE_, ↓bqikP_, ↓bqikR_, ↓bqikX_, ↓bqikG_, ↓bqikI_, ↓bqikJ_, ↓bqvkC_, ↓bqvkD_, ↓bqvkN_, ↓bqvkO_, ↓bqvkQ_, ↓bqvkU_, ↓bqvkY_, ↓bqvkW_, ↓bqvkS_, ↓bqvkT_, ↓bqvkF_, ↓bqvkH_, ↓bqr_0_0, ↓bqr_0_1, ↓bqr_0_3, ↓bqr_0_4, ↓bqr_0_5, ↓bqr_0_6, ↓bqr_0_7, ↓bqr_0_8, ↓bqr_1_0, ↓bqr_1_1, ↓bqr_1_2, ↓bqr_1_3, ↓bqr_1_5, ↓bqr_1_8, ↓bqr_1_10, ↓bqr_1_12, ↓bqr_1_13, ↓bqr_518_0, ↓bqr_518_1, ↓bqr_518_2, ↓bqr_518_6, ↓bqr_518_7, ↓bqr_524_0, ↓bqr_524_2, ↓bqr_524_4, ↓bqr_528_0, ↓bqr_528_1, ↓bqr_531_0, ↓bqr_531_1, ↓bqr_531_3, ↓bqr_592_0, ↓bqr_592_1, ↓bqr_592_2, ↓bqr_592_3, ↓bqr_592_4, ↓bqr_592_5, ↓bqr_592_6, ↓bqr_592_7, ↓bqr_592_11, ↓bqr_592_12, ↓bqr_592_13, ↓bqr_592_17, ↓bqr_592_18, ↓bqr_592_19, ↓bqr_592_23, ↓bqr_592_26, ↓bqr_592_27, ↓bqr_592_28, ↓bqg_0_2, ↓bqg_1_4, ↓bqg_1_6, ↓bqg_1_7, ↓bqg_1_9, ↓bqg_1_11, ↓bqg_1_14, ↓bqg_518_3, ↓bqg_518_4, ↓bqg_518_5, ↓bqg_518_8, ↓bqg_518_9, ↓bqg_524_1, ↓bqg_524_3, ↓bqg_528_2, ↓bqg_528_3, ↓bqg_531_2, ↓bqg_535_0, ↓bqg_535_1, ↓bqg_535_2, ↓bqg_535_3, ↓bqg_535_4, ↓bqg_592_8, ↓bqg_592_9, ↓bqg_592_10, ↓bqg_592_14, ↓bqg_592_15, ↓bqg_592_16, ↓bqg_592_20, ↓bqg_592_21, ↓bqg_592_22, ↓bqg_592_24, ↓bqg_592_25, ↓bqg_592_29, ↓bqg_592_30, ↓bqg_592_31, ↓bqg_592_32, ↓bqv_0, ↓bqv_1, ↓bqv_259, ↓bqv_518, ↓bqv_524, ↓bqv_528, ↓bqv_531, ↓bqv_535, ↓bqv_592, ↓bqi_2, ↓bqi_3, ↓bqi_4, ↓bqi_10, ↓bqi_519, ↓bqi_520, ↓bqi_521, ↓bqi_522, ↓bqi_523, ↓bqi_525, ↓bqi_526, ↓bqi_527, ↓bqi_529, ↓bqi_530, ↓bqi_532, ↓bqi_533, ↓bqi_534, ↓bqi_593, ↓bqi_594, ↓bqi_595, ↓bqi_596, ↓bqi_597, ↓bqi_598, ↓bqi_599, ↓bqi_600, ↓bqi_601, ↓bqi_602, ↓bqi_603, ↓bqi_604, ↓bqi_605, ↓bqi_606, ↓bqi_608, ↓bqi_609, ↓bqi_610, ↓bqz_607, ↓Option.bind_some, ↓bc_isIn, ↓bm_isIn, ↓bm_isShelf, i01, i10, j01, if_true, if_false, not_true_eq_false, not_false_eq_true, and_true, true_and, and_self, false_and, and_false, ↓reduceIte, Int.reduceEq, Int.reduceLT, Int.reduceLE, Int.reduceNeg, Int.reduceAdd, Int.reduceSub, Int.reduceMul, Int.reduceNe, Int.reduceToNat, Nat.reduceAdd, Nat.reduceMul, Nat.reduceEqDiff, wr_n, ht, ei, hz]
    · have yg : G i t := Classical.not_not.mp (fun q => hz (hg.mpr q))
      by_cases he : A 520 i = A 520 (i + t) + 2
      · refine Or.inr ⟨t, ?_, Or.inr ⟨by omega, by omega, yg, he, fun s s1 s2 g => q3 s (by omega) s2 g⟩⟩
        show f_X2_longestNote_5 SH0_ A 518 (i : Int) us (n + 1) (t : Int) = _
        rw [f_X2_longestNote_5]
        simp (disch := omega) only [↓bqr_C, ↓bqr_D, ↓bqr_N2, ↓bqr_N3, ↓bqr_O, ↓bqr_Q, ↓bqr_W, ↓bqr_S1, ↓bqr_S4, ↓bqr_T2, ↓bqr_T3, ↓bqr_F, ↓bqr_H, ↓bqa_C, ↓bqa_N, ↓bqa_U, ↓bqa_Y, ↓bqa_W, ↓bqa_S, ↓bqgkC_1, ↓bqgkC_2, ↓bqgkC_3, ↓bqgkC_4, ↓bqgkC_5, ↓bqgkC_6, ↓bqgkD_1, ↓bqgkN_0, ↓bqgkN_1, ↓bqgkO_1, ↓bqgkQ_1, ↓bqgkW_1, ↓bqgkS_0, ↓bqgkS_2, ↓bqgkS_3, ↓bqgkT_0, ↓bqgkT_1, ↓bqgkF_1, ↓bqgkH_1, ↓bqgkU_0, ↓bqgkU_1, ↓bqgkU_2, ↓bqgkU_3, ↓bqgkU_4, ↓bqgkY_0, ↓bqgkY_1, ↓bqgkY_2, ↓bqikE_, ↓bqikP_, ↓bqikR_, ↓bqikX_, ↓bqikG_, ↓bqikI_, ↓bqikJ_, ↓bqvkC_, ↓bqvkD_, ↓bqvkN_, ↓bqvkO_, ↓bqvkQ_, ↓bqvkU_, ↓bqvkY_, ↓bqvkW_, ↓bqvkS_, ↓bqvkT_, ↓bqvkF_, ↓bqvkH_, ↓bqr_0_0, ↓bqr_0_1, ↓bqr_0_3, ↓bqr_0_4, ↓bqr_0_5, ↓bqr_0_6, ↓bqr_0_7, ↓bqr_0_8, ↓bqr_1_0, ↓bqr_1_1, ↓bqr_1_2, ↓bqr_1_3, ↓bqr_1_5, ↓bqr_1_8, ↓bqr_1_10, ↓bqr_1_12, ↓bqr_1_13, ↓bqr_518_0, ↓bqr_518_1, ↓bqr_518_2, ↓bqr_518_6, ↓bqr_518_7, ↓bqr_524_0, ↓bqr_524_2, ↓bqr_524_4, ↓bqr_528_0, ↓bqr_528_1, ↓bqr_531_0, ↓bqr_531_1, ↓bqr_531_3, ↓bqr_592_0, ↓bqr_592_1, ↓bqr_592_2, ↓bqr_592_3, ↓bqr_592_4, ↓bqr_592_5, ↓bqr_592_6, ↓bqr_592_7, ↓bqr_592_11, ↓bqr_592_12, ↓bqr_592_13, ↓bqr_592_17, ↓bqr_592_18, ↓bqr_592_19, ↓bqr_592_23, ↓bqr_592_26, ↓bqr_592_27, ↓bqr_592_28, ↓bqg_0_2, ↓bqg_1_4, ↓bqg_1_6, ↓bqg_1_7, ↓bqg_1_9, ↓bqg_1_11, ↓bqg_1_14, ↓bqg_518_3, ↓bqg_518_4, ↓bqg_518_5, ↓bqg_518_8, ↓bqg_518_9, ↓bqg_524_1, ↓bqg_524_3, ↓bqg_528_2, ↓bqg_528_3, ↓bqg_531_2, ↓bqg_535_0, ↓bqg_535_1, ↓bqg_535_2, ↓bqg_535_3, ↓bqg_535_4, ↓bqg_592_8, ↓bqg_592_9, ↓bqg_592_10, ↓bqg_592_14, ↓bqg_592_15, ↓bqg_592_16, ↓bqg_592_20, ↓bqg_592_21, ↓bqg_592_22, ↓bqg_592_24, ↓bqg_592_25, ↓bqg_592_29, ↓bqg_592_30, ↓bqg_592_31, ↓bqg_592_32, ↓bqv_0, ↓bqv_1, ↓bqv_259, ↓bqv_518, ↓bqv_524, ↓bqv_528, ↓bqv_531, ↓bqv_535, ↓bqv_592, ↓bqi_2, ↓bqi_3, ↓bqi_4, ↓bqi_10, ↓bqi_519, ↓bqi_520, ↓bqi_521, ↓bqi_522, ↓bqi_523, ↓bqi_525, ↓bqi_526, ↓bqi_527, ↓bqi_529, ↓bqi_530, ↓bqi_532, ↓bqi_533, ↓bqi_534, ↓bqi_593, ↓bqi_594, ↓bqi_595, ↓bqi_596, ↓bqi_597, ↓bqi_598, ↓bqi_599, ↓bqi_600, ↓bqi_601, ↓bqi_602, ↓bqi_603, ↓bqi_604, ↓bqi_605, ↓bqi_606, ↓bqi_608, ↓bqi_609, ↓bqi_610, ↓bqz_607, ↓Option.bind_some, ↓bc_isIn, ↓bm_isIn, ↓bm_isShelf, i01, i10, j01, if_true, if_false, not_true_eq_false, not_false_eq_true, and_true, true_and, and_self, false_and, and_false, ↓reduceIte, Int.reduceEq, Int.reduceLT, Int.reduceLE, Int.reduceNeg, Int.reduceAdd, Int.reduceSub, Int.reduceMul, Int.reduceNe, Int.reduceToNat, Nat.reduceAdd, Nat.reduceMul, Nat.reduceEqDiff, wr_n, ht, ei, es, e0, hz, he]
      · refine nxt (fun s s1 s2 g => ?_) ?_
        · by_cases e : s = t
          · subst e; exact he
          · exact q3 s (by omega) s2 g
        · rw [f_X2_longestNote_5]
          simp (disch := omega) only [↓bqr_C, ↓bqr_D, ↓bqr_N2, ↓bqr_N3, ↓bqr_O, ↓bqr_Q, ↓bqr_W, ↓bqr_S1, ↓bqr_S4, ↓bqr_T2, ↓bqr_T3, ↓bqr_F, ↓bqr_H, ↓bqa_C, ↓bqa_N, ↓bqa_U, ↓bqa_Y, ↓bqa_W, ↓bqa_S, ↓bqgkC_1, ↓bqgkC_2, ↓bqgkC_3, ↓bqgkC_4, ↓bqgkC_5, ↓bqgkC_6, ↓bqgkD_1, ↓bqgkN_0, ↓bqgkN_1, ↓bqgkO_1, ↓bqgkQ_1, ↓bqgkW_1, ↓bqgkS_0, ↓bqgkS_2, ↓bqgkS_3, ↓bqgkT_0, ↓bqgkT_1, ↓bqgkF_1, ↓bqgkH_1, ↓bqgkU_0, ↓bqgkU_1, ↓bqgkU_2, ↓bqgkU_3, ↓bqgkU_4, ↓bqgkY_0, ↓bqgkY_1, ↓bqgkY_2, ↓bqikE_, ↓bqikP_, ↓bqikR_, ↓bqikX_, ↓bqikG_, ↓bqikI_, ↓bqikJ_, ↓bqvkC_, ↓bqvkD_, ↓bqvkN_, ↓bqvkO_, ↓bqvkQ_, ↓bqvkU_, ↓bqvkY_, ↓bqvkW_, ↓bqvkS_, ↓bqvkT_, ↓bqvkF_, ↓bqvkH_, ↓bqr_0_0, ↓bqr_0_1, ↓bqr_0_3, ↓bqr_0_4, ↓bqr_0_5, ↓bqr_0_6, ↓bqr_0_7, ↓bqr_0_8, ↓bqr_1_0, ↓bqr_1_1, ↓bqr_1_2, ↓bqr_1_3, ↓bqr_1_5, ↓bqr_1_8, ↓bqr_1_10, ↓bqr_1_12, ↓bqr_1_13, ↓bqr_518_0, ↓bqr_518_1, ↓bqr_518_2, ↓bqr_518_6, ↓bqr_518_7, ↓bqr_524_0, ↓bqr_524_2, ↓bqr_524_4, ↓bqr_528_0, ↓bqr_528_1, ↓bqr_531_0, ↓bqr_531_1, ↓bqr_531_3, ↓bqr_592_0, ↓bqr_592_1, ↓bqr_592_2, ↓bqr_592_3, ↓bqr_592_4, ↓bqr_592_5, ↓bqr_592_6, ↓bqr_592_7, ↓bqr_592_11, ↓bqr_592_12, ↓bqr_592_13, ↓bqr_592_17, ↓bqr_592_18, ↓bqr_592_19, ↓bqr_592_23, ↓bqr_592_26, ↓bqr_592_27, ↓bqr_592_28, ↓bqg_0_2, ↓bqg_1_4, ↓bqg_1_6, ↓bqg_1_7, ↓bqg_1_9, ↓bqg_1_11, ↓bqg_1_14, ↓bqg_518_3, ↓bqg_518_4, ↓bqg_518_5, ↓bqg_518_8, ↓bqg_518_9, ↓bqg_524_1, ↓bqg_524_3, ↓bqg_528_2, ↓bqg_528_3, ↓bqg_531_2, ↓bqg_535_0, ↓bqg_535_1, ↓bqg_535_2, ↓bqg_535_3, ↓bqg_535_4, ↓bqg_592_8, ↓bqg_592_9, ↓bqg_592_10, ↓bqg_592_14, ↓bqg_592_15, ↓bqg_592_16, ↓bqg_592_20, ↓bqg_592_21, ↓bqg_592_22, ↓bqg_592_24, ↓bqg_592_25, ↓bqg_592_29, ↓bqg_592_30, ↓bqg_592_31, ↓bqg_592_32, ↓bqv_0, ↓bqv_1, ↓bqv_259, ↓bqv_518, ↓bqv_524, ↓bqv_528, ↓bqv_531, ↓bqv_535, ↓bqv_592, ↓bqi_2, ↓bqi_3, ↓bqi_4, ↓bqi_10, ↓bqi_519, ↓bqi_520, ↓bqi_521, ↓bqi_522, ↓bqi_523, ↓bqi_525, ↓bqi_526, ↓bqi_527, ↓bqi_529, ↓bqi_530, ↓bqi_532, ↓bqi_533, ↓bqi_534, ↓bqi_593, ↓bqi_594, ↓bqi_595, ↓bqi_596, ↓bqi_597, ↓bqi_598, ↓bqi_599, ↓bqi_600, ↓bqi_601, ↓bqi_602, ↓bqi_603, ↓bqi_604, ↓bqi_605, ↓bqi_606, ↓bqi_608, ↓bqi_609, ↓bqi_610, ↓bqz_607, ↓Option.bind_some, ↓bc_isIn, ↓bm_isIn, ↓bm_isShelf, i01, i10, j01, if_true, if_false, not_true_eq_false, not_false_eq_true, and_true, true_and, and_self, false_and, and_false, ↓reduceIte, Int.reduceEq, Int.reduceLT, Int.reduceLE, Int.reduceNeg, Int.reduceAdd, Int.reduceSub, Int.reduceMul, Int.reduceNe, Int.reduceToNat, Nat.reduceAdd, Nat.reduceMul, Nat.reduceEqDiff, wr_n, ht, ei, es, e0, hz, he]
end
/-- the least costs, the parts, the walk -/
noncomputable def cf_ (v : Nat → Int) (c : Int) (us : Nat) : Nat → Int := by classical exact if h : ∃ F, CO_ (Gn_ v c us) (vz_ v c).toNat F then h.choose else fun _ => 0
noncomputable def pt_ (v : Nat → Int) (c : Int) (us i : Nat) : Int × Nat := by classical exact if h : ∃ q : Int × Nat, PT_ v c us (v 1063).toNat (cf_ v c us) i q.1 q.2 then h.choose else (0, 1)
noncomputable def pp_ (v : Nat → Int) (c : Int) (us i : Nat) : Int := (pt_ v c us i).1
noncomputable def ps_ (v : Nat → Int) (c : Int) (us i : Nat) : Nat := (pt_ v c us i).2
noncomputable def wk_ (v : Nat → Int) (c : Int) (us : Nat) : Nat → Nat
  | 0 => 0
  | k + 1 => wk_ v c us k + (ps_ v c us (wk_ v c us k))
noncomputable def nn_ (v : Nat → Int) (c : Int) (us : Nat) : Nat → Nat
  | 0 => 0
  | k + 1 => if (pp_ v c us (wk_ v c us k)) < 100 then nn_ v c us k ||| 2 ^ (pp_ v c us (wk_ v c us k)).toNat else nn_ v c us k
noncomputable def sn1_ (v : Nat → Int) (c : Int) (us : Nat) : Nat → Nat
  | 0 => 0
  | k + 1 => if (pp_ v c us (wk_ v c us k)) < 100 then sn1_ v c us k else sn1_ v c us k + 1
theorem nn_pos {v : Nat → Int} {c : Int} {us k : Nat} (h : (pp_ v c us (wk_ v c us k)) < 100) : nn_ v c us (k + 1) = nn_ v c us k ||| 2 ^ (pp_ v c us (wk_ v c us k)).toNat := if_pos h
theorem nn_neg {v : Nat → Int} {c : Int} {us k : Nat} (h : ¬ (pp_ v c us (wk_ v c us k)) < 100) : nn_ v c us (k + 1) = nn_ v c us k := if_neg h
theorem sn1_pos {v : Nat → Int} {c : Int} {us k : Nat} (h : (pp_ v c us (wk_ v c us k)) < 100) : sn1_ v c us (k + 1) = sn1_ v c us k := if_pos h
theorem sn1_neg {v : Nat → Int} {c : Int} {us k : Nat} (h : ¬ (pp_ v c us (wk_ v c us k)) < 100) : sn1_ v c us (k + 1) = sn1_ v c us k + 1 := if_neg h
def WE_ (v : Nat → Int) (c : Int) (us K : Nat) : Prop := wk_ v c us K = (vz_ v c).toNat ∧ ∀ j, j < K → wk_ v c us j < (vz_ v c).toNat
noncomputable def kk_ (v : Nat → Int) (c : Int) (us : Nat) : Nat := by classical exact if h : ∃ K, WE_ v c us K then h.choose else 0
/-- all that a cut says -/
def PA_ (v : Nat → Int) (c : Int) (us : Nat) : Prop := ∀ i : Nat, (i : Int) < vz_ v c → PT_ v c us (v 1063).toNat (cf_ v c us) i (pp_ v c us i) (ps_ v c us i)
section
variable {M B : Mem_m} {v : Nat → Int} {c : Int} {us : Nat} {F : Nat → Int}
theorem cf_co (h : CO_ (Gn_ v c us) (vz_ v c).toNat F) : CO_ (Gn_ v c us) (vz_ v c).toNat (cf_ v c us) := by
  have hx : ∃ F, CO_ (Gn_ v c us) (vz_ v c).toNat F := ⟨F, h⟩
  unfold cf_
  rw [dif_pos hx]
  exact hx.choose_spec
theorem cf_eq (h : CO_ (Gn_ v c us) (vz_ v c).toNat F) {j : Nat} (hj : j ≤ (vz_ v c).toNat) : F j = cf_ v c us j := CO_eq h (cf_co h) hj
theorem pt_eq (h : CO_ (Gn_ v c us) (vz_ v c).toNat F) {i s : Nat} {p : Int} (hp : PT_ v c us (v 1063).toNat F i p s) : p = (pp_ v c us i) ∧ s = (ps_ v c us i) ∧ PT_ v c us (v 1063).toNat (cf_ v c us) i (pp_ v c us i) (ps_ v c us i) := by
  have h1 : PT_ v c us (v 1063).toNat (cf_ v c us) i p s := PT_tr (fun j j1 j2 => (cf_eq h j2).symm) hp
  have hx : ∃ q : Int × Nat, PT_ v c us (v 1063).toNat (cf_ v c us) i q.1 q.2 := ⟨(p, s), h1⟩
  have h2 : PT_ v c us (v 1063).toNat (cf_ v c us) i (pp_ v c us i) (ps_ v c us i) := by
    unfold pp_ ps_ pt_
    rw [dif_pos hx]
    exact hx.choose_spec
  obtain ⟨e1, e2⟩ := PT_uniq h1 h2
  exact ⟨e1, e2, h2⟩
theorem pt_in (hN : Nb_ v) (hC : Cb_ v c) (h63 : 0 ≤ v 1063 ∧ v 1063 ≤ 16) (hP : PA_ v c us) {i : Nat} (hi : i < (vz_ v c).toNat) :
    (1 ≤ (ps_ v c us i) ∧ i + (ps_ v c us i) ≤ (vz_ v c).toNat) ∧ (((pp_ v c us i) = 100 + vs_ v c i ∧ (ps_ v c us i) = 1) ∨ ∃ n : Nat, (pp_ v c us i) = n ∧ (n : Int) < v 1063 ∧ ((ps_ v c us i) : Int) = nw_ v n) := by
  have h := hP i (by omega)
  refine ⟨PT_span hN (by omega) (by omega) h, ?_⟩
  rcases h with ⟨e, f, g⟩ | ⟨n, e, f, g, k⟩
  · exact Or.inl ⟨e, f⟩
  · have h1 := f.1
    have h2 := nb_w hN (n := n) (by omega)
    exact Or.inr ⟨n, e, by omega, by omega⟩
theorem WE_uniq {K K' : Nat} (h : WE_ v c us K) (h' : WE_ v c us K') : K = K' := by
  rcases Nat.lt_trichotomy K K' with l | l | l
  · have := h'.2 K l; have := h.1; omega
  · exact l
  · have := h.2 K' l; have := h'.1; omega
theorem kk_eq {K : Nat} (h : WE_ v c us K) : K = kk_ v c us := by
  have hx : ∃ K, WE_ v c us K := ⟨K, h⟩
  have h2 : WE_ v c us (kk_ v c us) := by
    unfold kk_; rw [dif_pos hx]; exact hx.choose_spec
  exact WE_uniq h h2
theorem wk_up (hN : Nb_ v) (hC : Cb_ v c) (h63 : 0 ≤ v 1063 ∧ v 1063 ≤ 16) (hP : PA_ v c us) : ∀ k, (∀ j, j < k → wk_ v c us j < (vz_ v c).toNat) → k ≤ wk_ v c us k ∧ wk_ v c us k ≤ (vz_ v c).toNat ∧ nn_ v c us k < 65536 ∧ sn1_ v c us k ≤ k
  | 0, _ => ⟨Nat.le_refl _, Nat.zero_le _, by show 0 < 65536; omega, Nat.le_refl _⟩
  | k + 1, h => by
    obtain ⟨h1, h2, h3, h4⟩ := wk_up hN hC h63 hP k (fun j hj => h j (by omega))
    obtain ⟨h5, h6⟩ := pt_in hN hC h63 hP (h k (by omega))
    refine ⟨by show k + 1 ≤ wk_ v c us k + (ps_ v c us (wk_ v c us k)); omega, by show wk_ v c us k + (ps_ v c us (wk_ v c us k)) ≤ _; omega, ?_, ?_⟩
    · by_cases g : (pp_ v c us (wk_ v c us k)) < 100
      · rw [nn_pos g]
        rcases h6 with ⟨e, _⟩ | ⟨n, e, f, _⟩
        · have := (hC.2.2 (wk_ v c us k) (by omega) (by have := h k (by omega); omega)).1
          omega
        · have : 2 ^ (pp_ v c us (wk_ v c us k)).toNat < 2 ^ 16 := Nat.pow_lt_pow_right (by decide) (by omega)
          exact Nat.or_lt_two_pow (n := 16) h3 this
      · rw [nn_neg g]; exact h3
    · by_cases g : (pp_ v c us (wk_ v c us k)) < 100
      · rw [sn1_pos g]; omega
      · rw [sn1_neg g]; omega
/-- the class takes the parts -/
theorem c_choose (hV : Vw M v) (h1 : 0 ≤ c) (h2 : c < v 1062) (hus : us < 65536) {A : Mem_m} (hA : sm_ M A) (h9 : ∀ i s : Nat, i < 8 → s ≤ 8 → A 519 (9 * i + s) = (nb_ v c i s (v 1063).toNat : Int)) (hF : CO_ (Gn_ v c us) (vz_ v c).toNat (A 520)) :
    ∃ A', f_X2_chooseParts SH0_ A 518 (kD_ c) (us : Int) = some A' ∧ (∀ a, a ≠ 518 → a ≠ 521 → A' a = A a) ∧ PA_ v c us ∧ WE_ v c us (kk_ v c us) ∧ A' 518 3 = (kk_ v c us : Int) ∧ A' 518 4 = (nn_ v c us (kk_ v c us) : Int) ∧ A' 518 5 = (sn1_ v c us (kk_ v c us) : Int) ∧ ∀ j, j < kk_ v c us → A' 521 j = (pp_ v c us (wk_ v c us j)) := by
  have hN := Nb_of hV
  have hC := Cb_of hV h1 h2
  have b6 := vb_6 hV
  have b4 := vb_4 hV
  have bz := hC.2.1
  have ezz : (((vz_ v c).toNat : Nat) : Int) = vz_ v c := by omega
  have hcd : ∀ d i : Nat, i + d = (vz_ v c).toNat → Cd_ (vz_ v c).toNat (A 520) i := by
    intro d
    induction d using Nat.strongRecOn with
    | ind d ih =>
      intro i hi
      by_cases e : d = 0
      · have ei : i = (vz_ v c).toNat := by omega
        subst ei
        unfold Cd_; rw [hF.1]; omega
      · exact Lc_bd (by omega) (fun j j1 j2 => ih ((vz_ v c).toNat - j) (by omega) j (by omega)) (hF.2 i (by omega))
  have hGi : ∀ i s : Nat, i < (vz_ v c).toNat → 1 ≤ s → i + s ≤ (vz_ v c).toNat → an_i (A 519 (9 * i + s)) (us : Int) = ((nb_ v c i s (v 1063).toNat &&& us : Nat) : Int) := fun i s i1 s1 s2 => by
    have hl := nb_lt (v := v) (c := c) (i := i) (s := s) (v 1063).toNat
    have : 2 ^ (v 1063).toNat ≤ 2 ^ 16 := Nat.pow_le_pow_right (by decide) (by omega)
    rw [h9 i s (by omega) (by omega), an_nat (by omega) (by omega)]
  have hGn : ∀ i s : Nat, (nb_ v c i s (v 1063).toNat &&& us = 0 ↔ ¬ Gn_ v c us i s) := fun i s => by
    constructor
    · rintro e ⟨m, g1, g2, g3, g4⟩
      have hb := (nb_bit (v := v) (c := c) (i := i) (s := s) (m := m) (v 1063).toNat).mpr ⟨by omega, g3, g4⟩
      have : (nb_ v c i s (v 1063).toNat &&& us).testBit m = true := by rw [Nat.testBit_and, hb, g2]; rfl
      rw [e, Nat.zero_testBit] at this
      exact Bool.noConfusion this
    · intro hn
      apply Nat.eq_of_testBit_eq
      intro m
      rw [Nat.zero_testBit, Nat.testBit_and, Bool.eq_false_iff]
      intro q
      rw [Bool.and_eq_true] at q
      obtain ⟨g1, g3, g4⟩ := (nb_bit (v 1063).toNat).mp q.1
      exact hn ⟨m, by omega, q.2, g3, g4⟩
  -- the part at a place
  have part : ∀ i : Nat, i < (vz_ v c).toNat → ∃ L : Nat, f_X2_longestNote SH0_ A 518 (i : Int) ((vz_ v c).toNat : Int) (us : Int) = some (L : Int) ∧ ((L = 0 ∧ PT_ v c us (v 1063).toNat (A 520) i (100 + vs_ v c i) 1) ∨ (1 ≤ L ∧ i + L ≤ (vz_ v c).toNat ∧ ∃ n : Nat, (n : Int) < v 1063 ∧ (∀ M : Mem_m, f_J6_numberOfTrailingZeros_0f7a4 SH0_ M ((nb_ v c i L (v 1063).toNat &&& us : Nat) : Int) = some (n : Int)) ∧ PT_ v c us (v 1063).toNat (A 520) i n L)) := by
    intro i hi
    obtain ⟨L, e, h⟩ := c_longest (A := A) (us := (us : Int)) (i := i) (G := Gn_ v c us) (by omega) hi (fun s s1 s2 => by rw [hGi i s hi s1 s2]; exact ⟨fun q => (hGn i s).mp (by omega), fun q => by rw [(hGn i s).mpr q]; rfl⟩) (fun j j1 j2 => hcd ((vz_ v c).toNat - j) j (by omega))
    refine ⟨L, e, ?_⟩
    have toG : ∀ m, On_ v c us (v 1063).toNat (A 520) i m → 1 ≤ (nw_ v m).toNat ∧ i + (nw_ v m).toNat ≤ (vz_ v c).toNat ∧ Gn_ v c us i (nw_ v m).toNat := fun m hm => by
      have hw := nb_w hN (n := m) (by have := hm.1; omega)
      exact ⟨by omega, On_le hm, m, by have := hm.1; omega, hm.2.1, hm.2.2.1, by omega⟩
    rcases h with ⟨l0, l1⟩ | ⟨l1, l2, l3, l4, l5⟩
    · refine Or.inl ⟨l0, Or.inl ⟨rfl, rfl, fun m hm => ?_⟩⟩
      obtain ⟨t1, t2, t3⟩ := toG m hm
      exact l1 _ t1 t2 t3 hm.2.2.2
    · have hne : nb_ v c i L (v 1063).toNat &&& us ≠ 0 := fun q => (hGn i L).mp q l3
      have hlt : nb_ v c i L (v 1063).toNat &&& us < 65536 := Nat.lt_of_le_of_lt Nat.and_le_right hus
      obtain ⟨n, n1, n2, n3⟩ := c_ntz (M := Z_m) (Nat.pos_of_ne_zero hne) hlt
      rw [Nat.testBit_and, Bool.and_eq_true] at n2
      obtain ⟨m1, m2, m3⟩ := (nb_bit (v 1063).toNat).mp n2.1
      refine Or.inr ⟨l1, l2, n, by omega, fun M => n1, Or.inr ⟨n, rfl, ⟨m1, n2.2, m2, by rw [m3]; exact l4⟩, by omega, fun m hm => ?_⟩⟩
      obtain ⟨t1, t2, t3⟩ := toG m hm
      have hmw := nb_w hN (n := m) (by have := hm.1; omega)
      by_cases g1 : L < (nw_ v m).toNat
      · exact absurd hm.2.2.2 (l5 _ g1 t2 t3)
      · by_cases g2 : (nw_ v m).toNat = L
        · refine Or.inr ⟨by omega, ?_⟩
          rcases Nat.lt_or_ge m n with q | q
          · have := n3 m q
            rw [Nat.testBit_and, hm.2.1, (nb_bit (v 1063).toNat).mpr ⟨hm.1, hm.2.2.1, by omega⟩] at this
            exact Bool.noConfusion this
          · exact q
        · exact Or.inl (by omega)
  have hP : PA_ v c us := fun i hi => by
    obtain ⟨L, _, h⟩ := part i (by omega)
    rcases h with ⟨_, h⟩ | ⟨_, _, n, _, _, h⟩
    · exact (pt_eq hF h).2.2
    · exact (pt_eq hF h).2.2
  have hVA : ∀ C : Mem_m, (∀ a, a ≠ 518 → a ≠ 521 → C a = A a) → Vw C v := fun C hC => vw_sm hV ⟨fun a a1 a2 a3 a4 => by rw [hC a (by omega) (by omega)]; exact hA.1 a a1 a2 a3 a4, by rw [hC 0 (by decide) (by decide)]; exact hA.2.1, by rw [hC 592 (by decide) (by decide)]; exact hA.2.2⟩
  unfold f_X2_chooseParts
  simp (disch := omega) only [↓bqr_C, ↓bqr_D, ↓bqr_N2, ↓bqr_N3, ↓bqr_O, ↓bqr_Q, ↓bqr_W, ↓bqr_S1, ↓bqr_S4, ↓bqr_T2, ↓bqr_T3, ↓bqr_F, ↓bqr_H, ↓bqa_C, ↓bqa_N, ↓bqa_U, ↓bqa_Y, ↓bqa_W, ↓bqa_S, ↓bqgkC_1, ↓bqgkC_2, ↓bqgkC_3, ↓bqgkC_4, ↓bqgkC_5, ↓bqgkC_6, ↓bqgkD_1, ↓bqgkN_0, ↓bqgkN_1, ↓bqgkO_1, ↓bqgkQ_1, ↓bqgkW_1, ↓bqgkS_0, ↓bqgkS_2, ↓bqgkS_3, ↓bqgkT_0, ↓bqgkT_1, ↓bqgkF_1, ↓bqgkH_1, ↓bqgkU_0, ↓bqgkU_1, ↓bqgkU_2, ↓bqgkU_3, ↓bqgkU_4, ↓bqgkY_0, ↓bqgkY_1, ↓bqgkY_2, ↓bqikE_, ↓bqikP_, ↓bqikR_, ↓bqikX_, ↓bqikG_, ↓bqikI_, ↓bqikJ_, ↓bqvkC_, ↓bqvkD_, ↓bqvkN_, ↓bqvkO_, ↓bqvkQ_, ↓bqvkU_, ↓bqvkY_, ↓bqvkW_, ↓bqvkS_, ↓bqvkT_, ↓bqvkF_, ↓bqvkH_, ↓bqr_0_0, ↓bqr_0_1, ↓bqr_0_3, ↓bqr_0_4, ↓bqr_0_5, ↓bqr_0_6, ↓bqr_0_7, ↓bqr_0_8, ↓bqr_1_0, ↓bqr_1_1, ↓bqr_1_2, ↓bqr_1_3, ↓bqr_1_5, ↓bqr_1_8, ↓bqr_1_10, ↓bqr_1_12, ↓bqr_1_13, ↓bqr_518_0, ↓bqr_518_1, ↓bqr_518_2, ↓bqr_518_6, ↓bqr_518_7, ↓bqr_524_0, ↓bqr_524_2, ↓bqr_524_4, ↓bqr_528_0, ↓bqr_528_1, ↓bqr_531_0, ↓bqr_531_1, ↓bqr_531_3, ↓bqr_592_0, ↓bqr_592_1, ↓bqr_592_2, ↓bqr_592_3, ↓bqr_592_4, ↓bqr_592_5, ↓bqr_592_6, ↓bqr_592_7, ↓bqr_592_11, ↓bqr_592_12, ↓bqr_592_13, ↓bqr_592_17, ↓bqr_592_18, ↓bqr_592_19, ↓bqr_592_23, ↓bqr_592_26, ↓bqr_592_27, ↓bqr_592_28, ↓bqg_0_2, ↓bqg_1_4, ↓bqg_1_6, ↓bqg_1_7, ↓bqg_1_9, ↓bqg_1_11, ↓bqg_1_14, ↓bqg_518_3, ↓bqg_518_4, ↓bqg_518_5, ↓bqg_518_8, ↓bqg_518_9, ↓bqg_524_1, ↓bqg_524_3, ↓bqg_528_2, ↓bqg_528_3, ↓bqg_531_2, ↓bqg_535_0, ↓bqg_535_1, ↓bqg_535_2, ↓bqg_535_3, ↓bqg_535_4, ↓bqg_592_8, ↓bqg_592_9, ↓bqg_592_10, ↓bqg_592_14, ↓bqg_592_15, ↓bqg_592_16, ↓bqg_592_20, ↓bqg_592_21, ↓bqg_592_22, ↓bqg_592_24, ↓bqg_592_25, ↓bqg_592_29, ↓bqg_592_30, ↓bqg_592_31, ↓bqg_592_32, ↓bqv_0, ↓bqv_1, ↓bqv_259, ↓bqv_518, ↓bqv_524, ↓bqv_528, ↓bqv_531, ↓bqv_535, ↓bqv_592, ↓bqi_2, ↓bqi_3, ↓bqi_4, ↓bqi_10, ↓bqi_519, ↓bqi_520, ↓bqi_521, ↓bqi_522, ↓bqi_523, ↓bqi_525, ↓bqi_526, ↓bqi_527, ↓bqi_529, ↓bqi_530, ↓bqi_532, ↓bqi_533, ↓bqi_534, ↓bqi_593, ↓bqi_594, ↓bqi_595, ↓bqi_596, ↓bqi_597, ↓bqi_598, ↓bqi_599, ↓bqi_600, ↓bqi_601, ↓bqi_602, ↓bqi_603, ↓bqi_604, ↓bqi_605, ↓bqi_606, ↓bqi_608, ↓bqi_609, ↓bqi_610, ↓bqz_607, ↓bqpkC_1, ↓bqpkC_2, ↓bqpkC_3, ↓bqpkC_4, ↓bqpkC_5, ↓bqpkC_6, ↓bqpkD_1, ↓bqpkN_0, ↓bqpkN_1, ↓bqpkO_1, ↓bqpkQ_1, ↓bqpkW_1, ↓bqpkS_0, ↓bqpkS_2, ↓bqpkS_3, ↓bqpkT_0, ↓bqpkT_1, ↓bqpkF_1, ↓bqpkH_1, ↓bqpkU_0, ↓bqpkU_1, ↓bqpkU_2, ↓bqpkU_3, ↓bqpkU_4, ↓bqpkY_0, ↓bqpkY_1, ↓bqpkY_2, ↓bqskE_, ↓bqskP_, ↓bqskR_, ↓bqskX_, ↓bqskG_, ↓bqskI_, ↓bqskJ_, ↓bqp_0_2, ↓bqp_1_4, ↓bqp_1_6, ↓bqp_1_7, ↓bqp_1_9, ↓bqp_1_11, ↓bqp_1_14, ↓bqp_518_3, ↓bqp_518_4, ↓bqp_518_5, ↓bqp_518_8, ↓bqp_518_9, ↓bqp_524_1, ↓bqp_524_3, ↓bqp_528_2, ↓bqp_528_3, ↓bqp_531_2, ↓bqp_535_0, ↓bqp_535_1, ↓bqp_535_2, ↓bqp_535_3, ↓bqp_535_4, ↓bqp_592_8, ↓bqp_592_9, ↓bqp_592_10, ↓bqp_592_14, ↓bqp_592_15, ↓bqp_592_16, ↓bqp_592_20, ↓bqp_592_21, ↓bqp_592_22, ↓bqp_592_24, ↓bqp_592_25, ↓bqp_592_29, ↓bqp_592_30, ↓bqp_592_31, ↓bqp_592_32, ↓bqs_2, ↓bqs_3, ↓bqs_4, ↓bqs_10, ↓bqs_519, ↓bqs_520, ↓bqs_521, ↓bqs_522, ↓bqs_523, ↓bqs_525, ↓bqs_526, ↓bqs_527, ↓bqs_529, ↓bqs_530, ↓bqs_532, ↓bqs_533, ↓bqs_534, ↓bqs_593, ↓bqs_594, ↓bqs_595, ↓bqs_596, ↓bqs_597, ↓bqs_598, ↓bqs_599, ↓bqs_600, ↓bqs_601, ↓bqs_602, ↓bqs_603, ↓bqs_604, ↓bqs_605, ↓bqs_606, ↓bqs_608, ↓bqs_609, ↓bqs_610, ↓bqt_607]
  have key : ∃ A' K, f_X2_chooseParts_17 SH0_ 518 (kD_ c) (us : Int) FU_ (st_m (st_m (st_m A 518 3 0) 518 4 0) 518 5 0) 0 = some A' ∧ (∀ a, a ≠ 518 → a ≠ 521 → A' a = A a) ∧ WE_ v c us K ∧ A' 518 3 = (K : Int) ∧ A' 518 4 = (nn_ v c us K : Int) ∧ A' 518 5 = (sn1_ v c us K : Int) ∧ ∀ j, j < K → A' 521 j = (pp_ v c us (wk_ v c us j)) := by
    refine lp_mu (A := Mem_m × Int) (fun n a => f_X2_chooseParts_17 SH0_ 518 (kD_ c) (us : Int) n a.1 a.2) (fun a => ∃ k : Nat, a.2 = (wk_ v c us k : Int) ∧ (∀ b, b ≠ 518 → b ≠ 521 → a.1 b = A b) ∧ (∀ j, j < k → wk_ v c us j < (vz_ v c).toNat) ∧ a.1 518 3 = (k : Int) ∧ a.1 518 4 = (nn_ v c us k : Int) ∧ a.1 518 5 = (sn1_ v c us k : Int) ∧ ∀ j, j < k → a.1 521 j = (pp_ v c us (wk_ v c us j))) (fun a => (vz_ v c - a.2).toNat) (fun o => ∃ A' K, o = some A' ∧ (∀ a, a ≠ 518 → a ≠ 521 → A' a = A a) ∧ WE_ v c us K ∧ A' 518 3 = (K : Int) ∧ A' 518 4 = (nn_ v c us K : Int) ∧ A' 518 5 = (sn1_ v c us K : Int) ∧ ∀ j, j < K → A' 521 j = (pp_ v c us (wk_ v c us j))) ?_ FU_ (st_m (st_m (st_m A 518 3 0) 518 4 0) 518 5 0, 0) (by show (vz_ v c - 0).toNat < FU_; unfold FU_; omega) ⟨0, rfl, fun b b1 b2 => ((st_o2 b1).trans (st_o2 b1)).trans (st_o2 b1), fun j hj => absurd hj (Nat.not_lt_zero _), (show st_m (st_m (st_m A 518 3 0) 518 4 0) 518 5 0 518 3 = 0 by rw [st_k (by decide), st_k (by decide), st_e]), (show st_m (st_m (st_m A 518 3 0) 518 4 0) 518 5 0 518 4 = 0 by rw [st_k (by decide), st_e]), (show st_m (st_m (st_m A 518 3 0) 518 4 0) 518 5 0 518 5 = 0 from st_e), fun j hj => absurd hj (Nat.not_lt_zero _)⟩
    intro n a ⟨k, q1, q2, q3, q4, q5, q6, q7⟩
    obtain ⟨C, x⟩ := a
    dsimp only at q1 q2 q4 q5 q6 q7
    subst q1
    obtain ⟨u1, u2, u3, u4⟩ := wk_up hN hC b6 hP k q3
    have hVC := hVA C q2
    by_cases hx : (wk_ v c us k : Int) < vz_ v c
    rotate_left
    · refine Or.inr ⟨C, k, ?_, q2, ⟨by omega, q3⟩, q4, q5, q6, q7⟩
      show f_X2_chooseParts_17 SH0_ 518 (kD_ c) (us : Int) (n + 1) C (wk_ v c us k : Int) = _
      rw [f_X2_chooseParts_17]
      simp (disch := omega) only [↓bqr_C, ↓bqr_D, ↓bqr_N2, ↓bqr_N3, ↓bqr_O, ↓bqr_Q, ↓bqr_W, ↓bqr_S1, ↓bqr_S4, ↓bqr_T2, ↓bqr_T3, ↓bqr_F, ↓bqr_H, ↓bqa_C, ↓bqa_N, ↓bqa_U, ↓bqa_Y, ↓bqa_W, ↓bqa_S, ↓bqgkC_1, ↓bqgkC_2, ↓bqgkC_3, ↓bqgkC_4, ↓bqgkC_5, ↓bqgkC_6, ↓bqgkD_1, ↓bqgkN_0, ↓bqgkN_1, ↓bqgkO_1, ↓bqgkQ_1, ↓bqgkW_1, ↓bqgkS_0, ↓bqgkS_2, ↓bqgkS_3, ↓bqgkT_0, ↓bqgkT_1, ↓bqgkF_1, ↓bqgkH_1, ↓bqgkU_0, ↓bqgkU_1, ↓bqgkU_2, ↓bqgkU_3, ↓bqgkU_4, ↓bqgkY_0, ↓bqgkY_1, ↓bqgkY_2, ↓bqikE_, ↓bqikP_, ↓bqikR_, ↓bqikX_, ↓bqikG_, ↓bqikI_, ↓bqikJ_, ↓bqvkC_, ↓bqvkD_, ↓bqvkN_, ↓bqvkO_, ↓bqvkQ_, ↓bqvkU_, ↓bqvkY_, ↓bqvkW_, ↓bqvkS_, ↓bqvkT_, ↓bqvkF_, ↓bqvkH_, ↓bqr_0_0, ↓bqr_0_1, ↓bqr_0_3, ↓bqr_0_4, ↓bqr_0_5, ↓bqr_0_6, ↓bqr_0_7, ↓bqr_0_8, ↓bqr_1_0, ↓bqr_1_1, ↓bqr_1_2, ↓bqr_1_3, ↓bqr_1_5, ↓bqr_1_8, ↓bqr_1_10, ↓bqr_1_12, ↓bqr_1_13, ↓bqr_518_0, ↓bqr_518_1, ↓bqr_518_2, ↓bqr_518_6, ↓bqr_518_7, ↓bqr_524_0, ↓bqr_524_2, ↓bqr_524_4, ↓bqr_528_0, ↓bqr_528_1, ↓bqr_531_0, ↓bqr_531_1, ↓bqr_531_3, ↓bqr_592_0, ↓bqr_592_1, ↓bqr_592_2, ↓bqr_592_3, ↓bqr_592_4, ↓bqr_592_5, ↓bqr_592_6, ↓bqr_592_7, ↓bqr_592_11, ↓bqr_592_12, ↓bqr_592_13, ↓bqr_592_17, ↓bqr_592_18, ↓bqr_592_19, ↓bqr_592_23, ↓bqr_592_26, ↓bqr_592_27, ↓bqr_592_28, ↓bqg_0_2, ↓bqg_1_4, ↓bqg_1_6, ↓bqg_1_7, ↓bqg_1_9, ↓bqg_1_11, ↓bqg_1_14, ↓bqg_518_3, ↓bqg_518_4, ↓bqg_518_5, ↓bqg_518_8, ↓bqg_518_9, ↓bqg_524_1, ↓bqg_524_3, ↓bqg_528_2, ↓bqg_528_3, ↓bqg_531_2, ↓bqg_535_0, ↓bqg_535_1, ↓bqg_535_2, ↓bqg_535_3, ↓bqg_535_4, ↓bqg_592_8, ↓bqg_592_9, ↓bqg_592_10, ↓bqg_592_14, ↓bqg_592_15, ↓bqg_592_16, ↓bqg_592_20, ↓bqg_592_21, ↓bqg_592_22, ↓bqg_592_24, ↓bqg_592_25, ↓bqg_592_29, ↓bqg_592_30, ↓bqg_592_31, ↓bqg_592_32, ↓bqv_0, ↓bqv_1, ↓bqv_259, ↓bqv_518, ↓bqv_524, ↓bqv_528, ↓bqv_531, ↓bqv_535, ↓bqv_592, ↓bqi_2, ↓bqi_3, ↓bqi_4, ↓bqi_10, ↓bqi_519, ↓bqi_520, ↓bqi_521, ↓bqi_522, ↓bqi_523, ↓bqi_525, ↓bqi_526, ↓bqi_527, ↓bqi_529, ↓bqi_530, ↓bqi_532, ↓bqi_533, ↓bqi_534, ↓bqi_593, ↓bqi_594, ↓bqi_595, ↓bqi_596, ↓bqi_597, ↓bqi_598, ↓bqi_599, ↓bqi_600, ↓bqi_601, ↓bqi_602, ↓bqi_603, ↓bqi_604, ↓bqi_605, ↓bqi_606, ↓bqi_608, ↓bqi_609, ↓bqi_610, ↓bqz_607, ↓Option.bind_some, ↓bc_isIn, ↓bm_isIn, ↓bm_isShelf, i01, i10, j01, if_true, if_false, not_true_eq_false, not_false_eq_true, and_true, true_and, and_self, false_and, and_false, ↓reduceIte, Int.reduceEq, Int.reduceLT, Int.reduceLE, Int.reduceNeg, Int.reduceAdd, Int.reduceSub, Int.reduceMul, Int.reduceNe, Int.reduceToNat, Nat.reduceAdd, Nat.reduceMul, Nat.reduceEqDiff, vw_at hVC, vw_4 hVC, vw_6 hVC, vw_9 hVC, vw_11 hVC, vw_14 hVC, vw_size hVC, vw_snd hVC, vw_c1 hVC, vw_c2 hVC, vw_c3 hVC, vw_c4 hVC, vw_c5 hVC, vw_c6 hVC, vw_n0 hVC, vw_n1 hVC, vw_nz hVC, vw_ns hVC, vw_nw hVC, vw_nq hVC, vw_y0 hVC, vw_y1 hVC, vw_wz hVC, vw_ws hVC, vw_wc hVC, vw_cl hVC, vw_vi hVC, vw_re hVC, hx]
    · obtain ⟨L, L1, L2⟩ := part (wk_ v c us k) (by omega)
      have L1' : f_X2_longestNote SH0_ C 518 (wk_ v c us k : Int) (vz_ v c) (us : Int) = some (L : Int) := by
        rw [← L1, ezz]
        unfold f_X2_longestNote
        have key : ∀ n x, f_X2_longestNote_5 SH0_ C 518 (wk_ v c us k : Int) (us : Int) n x = f_X2_longestNote_5 SH0_ A 518 (wk_ v c us k : Int) (us : Int) n x := by
          intro n
          induction n with
          | zero => intro x; rfl
          | succ n ih =>
            intro x
            rw [f_X2_longestNote_5, f_X2_longestNote_5]
            have a1 : ∀ x, aI_ SH0_ C 519 x = aI_ SH0_ A 519 x := fun x => by unfold aI_; rw [q2 519 (by decide) (by decide)]
            have a2 : ∀ x, aI_ SH0_ C 520 x = aI_ SH0_ A 520 x := fun x => by unfold aI_; rw [q2 520 (by decide) (by decide)]
            have g1 : gR_ SH0_ 518 2 0 = some 519 := rfl
            have g2 : gR_ SH0_ 518 2 1 = some 520 := rfl
            simp only [g1, g2, Option.bind_some, a1, a2, ih]
        exact key FU_ _
      have i1 : wk_ v c us k + (ps_ v c us (wk_ v c us k)) = wk_ v c us (k + 1) := rfl
      obtain ⟨v1, v2⟩ := pt_in hN hC b6 hP (i := wk_ v c us k) (by omega)
      have hk8 : k < 8 := by omega
      have ek : ((k : Int)).toNat = k := by omega
      have fin : ∀ C' : Mem_m, f_X2_chooseParts_17 SH0_ 518 (kD_ c) (us : Int) (n + 1) C (wk_ v c us k : Int) = f_X2_chooseParts_17 SH0_ 518 (kD_ c) (us : Int) n C' (wk_ v c us (k + 1) : Int) → (∀ b, b ≠ 518 → b ≠ 521 → C' b = A b) → C' 518 3 = ((k + 1 : Nat) : Int) → C' 518 4 = (nn_ v c us (k + 1) : Int) → C' 518 5 = (sn1_ v c us (k + 1) : Int) → (∀ j, j < k + 1 → C' 521 j = (pp_ v c us (wk_ v c us j))) → ((∃ a', f_X2_chooseParts_17 SH0_ 518 (kD_ c) (us : Int) (n + 1) C (wk_ v c us k : Int) = f_X2_chooseParts_17 SH0_ 518 (kD_ c) (us : Int) n (Prod.fst a') (Prod.snd a') ∧ (∃ k : Nat, a'.2 = (wk_ v c us k : Int) ∧ (∀ b, b ≠ 518 → b ≠ 521 → a'.1 b = A b) ∧ (∀ j, j < k → wk_ v c us j < (vz_ v c).toNat) ∧ a'.1 518 3 = (k : Int) ∧ a'.1 518 4 = (nn_ v c us k : Int) ∧ a'.1 518 5 = (sn1_ v c us k : Int) ∧ ∀ j, j < k → a'.1 521 j = (pp_ v c us (wk_ v c us j))) ∧ (vz_ v c - a'.2).toNat < (vz_ v c - (wk_ v c us k : Int)).toNat) ∨ (∃ A' K, f_X2_chooseParts_17 SH0_ 518 (kD_ c) (us : Int) (n + 1) C (wk_ v c us k : Int) = some A' ∧ (∀ a, a ≠ 518 → a ≠ 521 → A' a = A a) ∧ WE_ v c us K ∧ A' 518 3 = (K : Int) ∧ A' 518 4 = (nn_ v c us K : Int) ∧ A' 518 5 = (sn1_ v c us K : Int) ∧ ∀ j, j < K → A' 521 j = (pp_ v c us (wk_ v c us j)))) := by
        intro C' e1 e2 e3 e4 e5 e6
        refine Or.inl ⟨(C', (wk_ v c us (k + 1) : Int)), e1, ⟨k + 1, rfl, e2, fun j hj => ?_, e3, e4, e5, e6⟩, ?_⟩
        · by_cases e : j = k
          · subst e; omega
          · exact q3 j (by omega)
        · show (vz_ v c - (wk_ v c us (k + 1) : Int)).toNat < _
          rw [← i1]; omega
      rcases L2 with ⟨l0, l1⟩ | ⟨l0, l1, m, m1, m2, m3⟩
      · obtain ⟨p1, p2, p3⟩ := pt_eq hF l1
        subst l0
        have hs0 := hC.2.2 (wk_ v c us k) (by omega) hx
        refine fin (st_m (st_m (st_m C 521 k (100 + vs_ v c (wk_ v c us k))) 518 5 ((sn1_ v c us k : Int) + 1)) 518 3 ((k : Int) + 1)) ?_ (fun b b1 b2 => by rw [st_o2 b1, st_o2 b1, st_o2 b2]; exact q2 b b1 b2) (by rw [st_e]; omega) (by rw [st_k (by decide), st_k (by decide), st_o2 (by decide), q5, nn_neg (by omega)]) (by rw [st_k (by decide), st_e, sn1_neg (by omega)]; omega) (fun j hj => ?_)
        · have ez : ((0 : Nat) : Int) = 0 := rfl
          rw [ez] at L1'
          have es : (wk_ v c us (k + 1) : Int) = (wk_ v c us k : Int) + 1 := by rw [← i1, ← p2]; omega
          rw [f_X2_chooseParts_17, es]
          simp (disch := omega) only [↓bqr_C, ↓bqr_D, ↓bqr_N2, ↓bqr_N3, ↓bqr_O, ↓bqr_Q, ↓bqr_W, ↓bqr_S1, ↓bqr_S4, ↓bqr_T2, ↓bqr_T3, ↓bqr_F, ↓bqr_H, ↓bqa_C, ↓bqa_N, ↓bqa_U, ↓bqa_Y, ↓bqa_W, ↓bqa_S, ↓bqgkC_1, ↓bqgkC_2, ↓bqgkC_3, ↓bqgkC_4, ↓bqgkC_5, ↓bqgkC_6, ↓bqgkD_1, ↓bqgkN_0, ↓bqgkN_1, ↓bqgkO_1, ↓bqgkQ_1, ↓bqgkW_1, ↓bqgkS_0, ↓bqgkS_2, ↓bqgkS_3, ↓bqgkT_0, ↓bqgkT_1, ↓bqgkF_1, ↓bqgkH_1, ↓bqgkU_0, ↓bqgkU_1, ↓bqgkU_2, ↓bqgkU_3, ↓bqgkU_4, ↓bqgkY_0, ↓bqgkY_1, ↓bqgkY_2, ↓bqikE_, ↓bqikP_, ↓bqikR_, ↓bqikX_, ↓bqikG_, ↓bqikI_, ↓bqikJ_, ↓bqvkC_, ↓bqvkD_, ↓bqvkN_, ↓bqvkO_, ↓bqvkQ_, ↓bqvkU_, ↓bqvkY_, ↓bqvkW_, ↓bqvkS_, ↓bqvkT_, ↓bqvkF_, ↓bqvkH_, ↓bqr_0_0, ↓bqr_0_1, ↓bqr_0_3, ↓bqr_0_4, ↓bqr_0_5, ↓bqr_0_6, ↓bqr_0_7, ↓bqr_0_8, ↓bqr_1_0, ↓bqr_1_1, ↓bqr_1_2, ↓bqr_1_3, ↓bqr_1_5, ↓bqr_1_8, ↓bqr_1_10, ↓bqr_1_12, ↓bqr_1_13, ↓bqr_518_0, ↓bqr_518_1, ↓bqr_518_2, ↓bqr_518_6, ↓bqr_518_7, ↓bqr_524_0, ↓bqr_524_2, ↓bqr_524_4, ↓bqr_528_0, ↓bqr_528_1, ↓bqr_531_0, ↓bqr_531_1, ↓bqr_531_3, ↓bqr_592_0, ↓bqr_592_1, ↓bqr_592_2, ↓bqr_592_3, ↓bqr_592_4, ↓bqr_592_5, ↓bqr_592_6, ↓bqr_592_7, ↓bqr_592_11, ↓bqr_592_12, ↓bqr_592_13, ↓bqr_592_17, ↓bqr_592_18, ↓bqr_592_19, ↓bqr_592_23, ↓bqr_592_26, ↓bqr_592_27, ↓bqr_592_28, ↓bqg_0_2, ↓bqg_1_4, ↓bqg_1_6, ↓bqg_1_7, ↓bqg_1_9, ↓bqg_1_11, ↓bqg_1_14, ↓bqg_518_3, ↓bqg_518_4, ↓bqg_518_5, ↓bqg_518_8, ↓bqg_518_9, ↓bqg_524_1, ↓bqg_524_3, ↓bqg_528_2, ↓bqg_528_3, ↓bqg_531_2, ↓bqg_535_0, ↓bqg_535_1, ↓bqg_535_2, ↓bqg_535_3, ↓bqg_535_4, ↓bqg_592_8, ↓bqg_592_9, ↓bqg_592_10, ↓bqg_592_14, ↓bqg_592_15, ↓bqg_592_16, ↓bqg_592_20, ↓bqg_592_21, ↓bqg_592_22, ↓bqg_592_24, ↓bqg_592_25, ↓bqg_592_29, ↓bqg_592_30, ↓bqg_592_31, ↓bqg_592_32, ↓bqv_0, ↓bqv_1, ↓bqv_259, ↓bqv_518, ↓bqv_524, ↓bqv_528, ↓bqv_531, ↓bqv_535, ↓bqv_592, ↓bqi_2, ↓bqi_3, ↓bqi_4, ↓bqi_10, ↓bqi_519, ↓bqi_520, ↓bqi_521, ↓bqi_522, ↓bqi_523, ↓bqi_525, ↓bqi_526, ↓bqi_527, ↓bqi_529, ↓bqi_530, ↓bqi_532, ↓bqi_533, ↓bqi_534, ↓bqi_593, ↓bqi_594, ↓bqi_595, ↓bqi_596, ↓bqi_597, ↓bqi_598, ↓bqi_599, ↓bqi_600, ↓bqi_601, ↓bqi_602, ↓bqi_603, ↓bqi_604, ↓bqi_605, ↓bqi_606, ↓bqi_608, ↓bqi_609, ↓bqi_610, ↓bqz_607, ↓bqpkC_1, ↓bqpkC_2, ↓bqpkC_3, ↓bqpkC_4, ↓bqpkC_5, ↓bqpkC_6, ↓bqpkD_1, ↓bqpkN_0, ↓bqpkN_1, ↓bqpkO_1, ↓bqpkQ_1, ↓bqpkW_1, ↓bqpkS_0, ↓bqpkS_2, ↓bqpkS_3, ↓bqpkT_0, ↓bqpkT_1, ↓bqpkF_1, ↓bqpkH_1, ↓bqpkU_0, ↓bqpkU_1, ↓bqpkU_2, ↓bqpkU_3, ↓bqpkU_4, ↓bqpkY_0, ↓bqpkY_1, ↓bqpkY_2, ↓bqskE_, ↓bqskP_, ↓bqskR_, ↓bqskX_, ↓bqskG_, ↓bqskI_, ↓bqskJ_, ↓bqp_0_2, ↓bqp_1_4, ↓bqp_1_6, ↓bqp_1_7, ↓bqp_1_9, ↓bqp_1_11, ↓bqp_1_14, ↓bqp_518_3, ↓bqp_518_4, ↓bqp_518_5, ↓bqp_518_8, ↓bqp_518_9, ↓bqp_524_1, ↓bqp_524_3, ↓bqp_528_2, ↓bqp_528_3, ↓bqp_531_2, ↓bqp_535_0, ↓bqp_535_1, ↓bqp_535_2, ↓bqp_535_3, ↓bqp_535_4, ↓bqp_592_8, ↓bqp_592_9, ↓bqp_592_10, ↓bqp_592_14, ↓bqp_592_15, ↓bqp_592_16, ↓bqp_592_20, ↓bqp_592_21, ↓bqp_592_22, ↓bqp_592_24, ↓bqp_592_25, ↓bqp_592_29, ↓bqp_592_30, ↓bqp_592_31, ↓bqp_592_32, ↓bqs_2, ↓bqs_3, ↓bqs_4, ↓bqs_10, ↓bqs_519, ↓bqs_520, ↓bqs_521, ↓bqs_522, ↓bqs_523, ↓bqs_525, ↓bqs_526, ↓bqs_527, ↓bqs_529, ↓bqs_530, ↓bqs_532, ↓bqs_533, ↓bqs_534, ↓bqs_593, ↓bqs_594, ↓bqs_595, ↓bqs_596, ↓bqs_597, ↓bqs_598, ↓bqs_599, ↓bqs_600, ↓bqs_601, ↓bqs_602, ↓bqs_603, ↓bqs_604, ↓bqs_605, ↓bqs_606, ↓bqs_608, ↓bqs_609, ↓bqs_610, ↓bqt_607, ↓Option.bind_some, ↓bc_isIn, ↓bm_isIn, ↓bm_isShelf, i01, i10, j01, if_true, if_false, not_true_eq_false, not_false_eq_true, and_true, true_and, and_self, false_and, and_false, ↓reduceIte, Int.reduceEq, Int.reduceLT, Int.reduceLE, Int.reduceNeg, Int.reduceAdd, Int.reduceSub, Int.reduceMul, Int.reduceNe, Int.reduceToNat, Nat.reduceAdd, Nat.reduceMul, Nat.reduceEqDiff, vw_at hVC, vw_4 hVC, vw_6 hVC, vw_9 hVC, vw_11 hVC, vw_14 hVC, vw_size hVC, vw_snd hVC, vw_c1 hVC, vw_c2 hVC, vw_c3 hVC, vw_c4 hVC, vw_c5 hVC, vw_c6 hVC, vw_n0 hVC, vw_n1 hVC, vw_nz hVC, vw_ns hVC, vw_nw hVC, vw_nq hVC, vw_y0 hVC, vw_y1 hVC, vw_wz hVC, vw_ws hVC, vw_wc hVC, vw_cl hVC, vw_vi hVC, vw_re hVC, hx, ↓bnd L1', wr_n, q4, q6, st_o2, f_X2_chooseParts_116, st_k, ek, show max (0 : Int) 1 = 1 from rfl]
        · by_cases e : j = k
          · subst e; rw [st_o2 (by decide), st_o2 (by decide), st_e]; exact p1
          · rw [st_o2 (by decide), st_o2 (by decide), st_k e]; exact q7 j (by omega)
      · obtain ⟨p1, p2, p3⟩ := pt_eq hF m3
        have hm16 : m < 16 := by omega
        have hpm : 2 ^ m < 65536 := pw16 hm16
        have hsl : sl_i 1 (m : Int) = ((2 ^ m : Nat) : Int) := sl_nat (by omega)
        have eor : or_i (nn_ v c us k : Int) ((2 ^ m : Nat) : Int) = ((nn_ v c us k ||| 2 ^ m : Nat) : Int) := or_nat (by omega) (by omega)
        have ei : ((wk_ v c us k : Int) * 9 + (L : Int)).toNat = 9 * wk_ v c us k + L := by omega
        have e19 : C 519 (9 * wk_ v c us k + L) = A 519 (9 * wk_ v c us k + L) := by rw [q2 519 (by decide) (by decide)]
        have ea : an_i (C 519 (9 * wk_ v c us k + L)) (us : Int) = ((nb_ v c (wk_ v c us k) L (v 1063).toNat &&& us : Nat) : Int) := by rw [e19]; exact hGi _ _ (by omega) l0 l1
        have hL : ¬ (L : Int) ≤ 0 := by omega
        have hmx : max (L : Int) 1 = L := by omega
        refine fin (st_m (st_m (st_m C 521 k m) 518 4 ((nn_ v c us k ||| 2 ^ m : Nat) : Int)) 518 3 ((k : Int) + 1)) ?_ (fun b b1 b2 => by rw [st_o2 b1, st_o2 b1, st_o2 b2]; exact q2 b b1 b2) (by rw [st_e]; omega) (by rw [st_k (by decide), st_e, nn_pos (by omega), ← p1, show ((m : Int)).toNat = m by omega]) (by rw [st_k (by decide), st_k (by decide), st_o2 (by decide), q6, sn1_pos (by omega)]) (fun j hj => ?_)
        · have es : (wk_ v c us (k + 1) : Int) = (wk_ v c us k : Int) + L := by rw [← i1, ← p2]; omega
          rw [f_X2_chooseParts_17, es]
          simp (disch := omega) only [↓bqr_C, ↓bqr_D, ↓bqr_N2, ↓bqr_N3, ↓bqr_O, ↓bqr_Q, ↓bqr_W, ↓bqr_S1, ↓bqr_S4, ↓bqr_T2, ↓bqr_T3, ↓bqr_F, ↓bqr_H, ↓bqa_C, ↓bqa_N, ↓bqa_U, ↓bqa_Y, ↓bqa_W, ↓bqa_S, ↓bqgkC_1, ↓bqgkC_2, ↓bqgkC_3, ↓bqgkC_4, ↓bqgkC_5, ↓bqgkC_6, ↓bqgkD_1, ↓bqgkN_0, ↓bqgkN_1, ↓bqgkO_1, ↓bqgkQ_1, ↓bqgkW_1, ↓bqgkS_0, ↓bqgkS_2, ↓bqgkS_3, ↓bqgkT_0, ↓bqgkT_1, ↓bqgkF_1, ↓bqgkH_1, ↓bqgkU_0, ↓bqgkU_1, ↓bqgkU_2, ↓bqgkU_3, ↓bqgkU_4, ↓bqgkY_0, ↓bqgkY_1, ↓bqgkY_2, ↓bqikE_, ↓bqikP_, ↓bqikR_, ↓bqikX_, ↓bqikG_, ↓bqikI_, ↓bqikJ_, ↓bqvkC_, ↓bqvkD_, ↓bqvkN_, ↓bqvkO_, ↓bqvkQ_, ↓bqvkU_, ↓bqvkY_, ↓bqvkW_, ↓bqvkS_, ↓bqvkT_, ↓bqvkF_, ↓bqvkH_, ↓bqr_0_0, ↓bqr_0_1, ↓bqr_0_3, ↓bqr_0_4, ↓bqr_0_5, ↓bqr_0_6, ↓bqr_0_7, ↓bqr_0_8, ↓bqr_1_0, ↓bqr_1_1, ↓bqr_1_2, ↓bqr_1_3, ↓bqr_1_5, ↓bqr_1_8, ↓bqr_1_10, ↓bqr_1_12, ↓bqr_1_13, ↓bqr_518_0, ↓bqr_518_1, ↓bqr_518_2, ↓bqr_518_6, ↓bqr_518_7, ↓bqr_524_0, ↓bqr_524_2, ↓bqr_524_4, ↓bqr_528_0, ↓bqr_528_1, ↓bqr_531_0, ↓bqr_531_1, ↓bqr_531_3, ↓bqr_592_0, ↓bqr_592_1, ↓bqr_592_2, ↓bqr_592_3, ↓bqr_592_4, ↓bqr_592_5, ↓bqr_592_6, ↓bqr_592_7, ↓bqr_592_11, ↓bqr_592_12, ↓bqr_592_13, ↓bqr_592_17, ↓bqr_592_18, ↓bqr_592_19, ↓bqr_592_23, ↓bqr_592_26, ↓bqr_592_27, ↓bqr_592_28, ↓bqg_0_2, ↓bqg_1_4, ↓bqg_1_6, ↓bqg_1_7, ↓bqg_1_9, ↓bqg_1_11, ↓bqg_1_14, ↓bqg_518_3, ↓bqg_518_4, ↓bqg_518_5, ↓bqg_518_8, ↓bqg_518_9, ↓bqg_524_1, ↓bqg_524_3, ↓bqg_528_2, ↓bqg_528_3, ↓bqg_531_2, ↓bqg_535_0, ↓bqg_535_1, ↓bqg_535_2, ↓bqg_535_3, ↓bqg_535_4, ↓bqg_592_8, ↓bqg_592_9, ↓bqg_592_10, ↓bqg_592_14, ↓bqg_592_15, ↓bqg_592_16, ↓bqg_592_20, ↓bqg_592_21, ↓bqg_592_22, ↓bqg_592_24, ↓bqg_592_25, ↓bqg_592_29, ↓bqg_592_30, ↓bqg_592_31, ↓bqg_592_32, ↓bqv_0, ↓bqv_1, ↓bqv_259, ↓bqv_518, ↓bqv_524, ↓bqv_528, ↓bqv_531, ↓bqv_535, ↓bqv_592, ↓bqi_2, ↓bqi_3, ↓bqi_4, ↓bqi_10, ↓bqi_519, ↓bqi_520, ↓bqi_521, ↓bqi_522, ↓bqi_523, ↓bqi_525, ↓bqi_526, ↓bqi_527, ↓bqi_529, ↓bqi_530, ↓bqi_532, ↓bqi_533, ↓bqi_534, ↓bqi_593, ↓bqi_594, ↓bqi_595, ↓bqi_596, ↓bqi_597, ↓bqi_598, ↓bqi_599, ↓bqi_600, ↓bqi_601, ↓bqi_602, ↓bqi_603, ↓bqi_604, ↓bqi_605, ↓bqi_606, ↓bqi_608, ↓bqi_609, ↓bqi_610, ↓bqz_607, ↓bqpkC_1, ↓bqpkC_2, ↓bqpkC_3, ↓bqpkC_4, ↓bqpkC_5, ↓bqpkC_6, ↓bqpkD_1, ↓bqpkN_0, ↓bqpkN_1, ↓bqpkO_1, ↓bqpkQ_1, ↓bqpkW_1, ↓bqpkS_0, ↓bqpkS_2, ↓bqpkS_3, ↓bqpkT_0, ↓bqpkT_1, ↓bqpkF_1, ↓bqpkH_1, ↓bqpkU_0, ↓bqpkU_1, ↓bqpkU_2, ↓bqpkU_3, ↓bqpkU_4, ↓bqpkY_0, ↓bqpkY_1, ↓bqpkY_2, ↓bqskE_, ↓bqskP_, ↓bqskR_, ↓bqskX_, ↓bqskG_, ↓bqskI_, ↓bqskJ_, ↓bqp_0_2, ↓bqp_1_4, ↓bqp_1_6, ↓bqp_1_7, ↓bqp_1_9, ↓bqp_1_11, ↓bqp_1_14, ↓bqp_518_3, ↓bqp_518_4, ↓bqp_518_5, ↓bqp_518_8, ↓bqp_518_9, ↓bqp_524_1, ↓bqp_524_3, ↓bqp_528_2, ↓bqp_528_3, ↓bqp_531_2, ↓bqp_535_0, ↓bqp_535_1, ↓bqp_535_2, ↓bqp_535_3, ↓bqp_535_4, ↓bqp_592_8, ↓bqp_592_9, ↓bqp_592_10, ↓bqp_592_14, ↓bqp_592_15, ↓bqp_592_16, ↓bqp_592_20, ↓bqp_592_21, ↓bqp_592_22, ↓bqp_592_24, ↓bqp_592_25, ↓bqp_592_29, ↓bqp_592_30, ↓bqp_592_31, ↓bqp_592_32, ↓bqs_2, ↓bqs_3, ↓bqs_4, ↓bqs_10, ↓bqs_519, ↓bqs_520, ↓bqs_521, ↓bqs_522, ↓bqs_523, ↓bqs_525, ↓bqs_526, ↓bqs_527, ↓bqs_529, ↓bqs_530, ↓bqs_532, ↓bqs_533, ↓bqs_534, ↓bqs_593, ↓bqs_594, ↓bqs_595, ↓bqs_596, ↓bqs_597, ↓bqs_598, ↓bqs_599, ↓bqs_600, ↓bqs_601, ↓bqs_602, ↓bqs_603, ↓bqs_604, ↓bqs_605, ↓bqs_606, ↓bqs_608, ↓bqs_609, ↓bqs_610, ↓bqt_607, ↓Option.bind_some, ↓bc_isIn, ↓bm_isIn, ↓bm_isShelf, i01, i10, j01, if_true, if_false, not_true_eq_false, not_false_eq_true, and_true, true_and, and_self, false_and, and_false, ↓reduceIte, Int.reduceEq, Int.reduceLT, Int.reduceLE, Int.reduceNeg, Int.reduceAdd, Int.reduceSub, Int.reduceMul, Int.reduceNe, Int.reduceToNat, Nat.reduceAdd, Nat.reduceMul, Nat.reduceEqDiff, vw_at hVC, vw_4 hVC, vw_6 hVC, vw_9 hVC, vw_11 hVC, vw_14 hVC, vw_size hVC, vw_snd hVC, vw_c1 hVC, vw_c2 hVC, vw_c3 hVC, vw_c4 hVC, vw_c5 hVC, vw_c6 hVC, vw_n0 hVC, vw_n1 hVC, vw_nz hVC, vw_ns hVC, vw_nw hVC, vw_nq hVC, vw_y0 hVC, vw_y1 hVC, vw_wz hVC, vw_ws hVC, vw_wc hVC, vw_cl hVC, vw_vi hVC, vw_re hVC, hx, ↓bnd L1', wr_n, q4, q5, st_o2, f_X2_chooseParts_116, st_k, ek, hL, ei, ea, ↓bnd (m2 C), hsl, eor, hmx]
        · by_cases e : j = k
          · subst e; rw [st_o2 (by decide), st_o2 (by decide), st_e]; exact p1
          · rw [st_o2 (by decide), st_o2 (by decide), st_k e]; exact q7 j (by omega)
  obtain ⟨A', K, k1, k2, k3, k4, k5, k6, k7⟩ := key
  have ek := kk_eq k3
  subst ek
  exact ⟨A', k1, k2, hP, k3, k4, k5, k6, k7⟩
end
