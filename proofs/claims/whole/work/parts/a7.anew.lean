/-! dealAnew goes to the next row -/
theorem rw_set {l : List Nat} {i v k : Nat} (hi : i < l.length) : rw_ (l.set i v) k = if k = i then (v : Int) else rw_ l k := by
  unfold rw_
  rw [List.getD_eq_getElem?_getD, List.getD_eq_getElem?_getD, List.getElem?_set]
  by_cases e : i = k
  · rw [if_pos e, if_pos hi, if_pos e.symm]; rfl
  · rw [if_neg e, if_neg (fun q => e q.symm)]
def RW_ (n : Nat) (A : Mem_m) (l : List Nat) : Prop := l.length = n ∧ ∀ k : Nat, k < n → A 534 k = rw_ l k
section
variable {A : Mem_m} {l : List Nat} {n : Nat}
theorem sw_len {x y : Nat} : (sw_ l x y).length = l.length := by unfold sw_; rw [List.length_set, List.length_set]
theorem c_swap (h : RW_ n A l) (hn : n ≤ 10) {x y : Nat} (hx : x < n) (hy : y < n) : ∃ A', f_X4_swap SH0_ A 531 (x : Int) (y : Int) = some A' ∧ (∀ a, a ≠ 534 → A' a = A a) ∧ RW_ n A' (sw_ l x y) := by
  obtain ⟨h1, h2⟩ := h
  have ex : ((x : Int)).toNat = x := by omega
  have ey : ((y : Int)).toNat = y := by omega
  refine ⟨st_m (st_m A 534 x (A 534 y)) 534 y (A 534 x), ?_, fun a ha => (st_o2 ha).trans (st_o2 ha), by rw [sw_len]; exact h1, fun k hk => ?_⟩
  · unfold f_X4_swap
    simp (disch := omega) only [↓bqr_C, ↓bqr_D, ↓bqr_N2, ↓bqr_N3, ↓bqr_O, ↓bqr_Q, ↓bqr_W, ↓bqr_S1, ↓bqr_S4, ↓bqr_T2, ↓bqr_T3, ↓bqr_F, ↓bqr_H, ↓bqa_C, ↓bqa_N, ↓bqa_U, ↓bqa_Y, ↓bqa_W, ↓bqa_S, ↓bqgkC_1, ↓bqgkC_2, ↓bqgkC_3, ↓bqgkC_4, ↓bqgkC_5, ↓bqgkC_6, ↓bqgkD_1, ↓bqgkN_0, ↓bqgkN_1, ↓bqgkO_1, ↓bqgkQ_1, ↓bqgkW_1, ↓bqgkS_0, ↓bqgkS_2, ↓bqgkS_3, ↓bqgkT_0, ↓bqgkT_1, ↓bqgkF_1, ↓bqgkH_1, ↓bqgkU_0, ↓bqgkU_1, ↓bqgkU_2, ↓bqgkU_3, ↓bqgkU_4, ↓bqgkY_0, ↓bqgkY_1, ↓bqgkY_2, ↓bqikE_, ↓bqikP_, ↓bqikR_, ↓bqikX_, ↓bqikG_, ↓bqikI_, ↓bqikJ_, ↓bqvkC_, ↓bqvkD_, ↓bqvkN_, ↓bqvkO_, ↓bqvkQ_, ↓bqvkU_, ↓bqvkY_, ↓bqvkW_, ↓bqvkS_, ↓bqvkT_, ↓bqvkF_, ↓bqvkH_, ↓bqr_0_0, ↓bqr_0_1, ↓bqr_0_3, ↓bqr_0_4, ↓bqr_0_5, ↓bqr_0_6, ↓bqr_0_7, ↓bqr_0_8, ↓bqr_1_0, ↓bqr_1_1, ↓bqr_1_2, ↓bqr_1_3, ↓bqr_1_5, ↓bqr_1_8, ↓bqr_1_10, ↓bqr_1_12, ↓bqr_1_13, ↓bqr_518_0, ↓bqr_518_1, ↓bqr_518_2, ↓bqr_518_6, ↓bqr_518_7, ↓bqr_524_0, ↓bqr_524_2, ↓bqr_524_4, ↓bqr_528_0, ↓bqr_528_1, ↓bqr_531_0, ↓bqr_531_1, ↓bqr_531_3, ↓bqr_592_0, ↓bqr_592_1, ↓bqr_592_2, ↓bqr_592_3, ↓bqr_592_4, ↓bqr_592_5, ↓bqr_592_6, ↓bqr_592_7, ↓bqr_592_11, ↓bqr_592_12, ↓bqr_592_13, ↓bqr_592_17, ↓bqr_592_18, ↓bqr_592_19, ↓bqr_592_23, ↓bqr_592_26, ↓bqr_592_27, ↓bqr_592_28, ↓bqg_0_2, ↓bqg_1_4, ↓bqg_1_6, ↓bqg_1_7, ↓bqg_1_9, ↓bqg_1_11, ↓bqg_1_14, ↓bqg_518_3, ↓bqg_518_4, ↓bqg_518_5, ↓bqg_518_8, ↓bqg_518_9, ↓bqg_524_1, ↓bqg_524_3, ↓bqg_528_2, ↓bqg_528_3, ↓bqg_531_2, ↓bqg_535_0, ↓bqg_535_1, ↓bqg_535_2, ↓bqg_535_3, ↓bqg_535_4, ↓bqg_592_8, ↓bqg_592_9, ↓bqg_592_10, ↓bqg_592_14, ↓bqg_592_15, ↓bqg_592_16, ↓bqg_592_20, ↓bqg_592_21, ↓bqg_592_22, ↓bqg_592_24, ↓bqg_592_25, ↓bqg_592_29, ↓bqg_592_30, ↓bqg_592_31, ↓bqg_592_32, ↓bqv_0, ↓bqv_1, ↓bqv_259, ↓bqv_518, ↓bqv_524, ↓bqv_528, ↓bqv_531, ↓bqv_535, ↓bqv_592, ↓bqi_2, ↓bqi_3, ↓bqi_4, ↓bqi_10, ↓bqi_519, ↓bqi_520, ↓bqi_521, ↓bqi_522, ↓bqi_523, ↓bqi_525, ↓bqi_526, ↓bqi_527, ↓bqi_529, ↓bqi_530, ↓bqi_532, ↓bqi_533, ↓bqi_534, ↓bqi_593, ↓bqi_594, ↓bqi_595, ↓bqi_596, ↓bqi_597, ↓bqi_598, ↓bqi_599, ↓bqi_600, ↓bqi_601, ↓bqi_602, ↓bqi_603, ↓bqi_604, ↓bqi_605, ↓bqi_606, ↓bqi_608, ↓bqi_609, ↓bqi_610, ↓bqz_607, ↓bqpkC_1, ↓bqpkC_2, ↓bqpkC_3, ↓bqpkC_4, ↓bqpkC_5, ↓bqpkC_6, ↓bqpkD_1, ↓bqpkN_0, ↓bqpkN_1, ↓bqpkO_1, ↓bqpkQ_1, ↓bqpkW_1, ↓bqpkS_0, ↓bqpkS_2, ↓bqpkS_3, ↓bqpkT_0, ↓bqpkT_1, ↓bqpkF_1, ↓bqpkH_1, ↓bqpkU_0, ↓bqpkU_1, ↓bqpkU_2, ↓bqpkU_3, ↓bqpkU_4, ↓bqpkY_0, ↓bqpkY_1, ↓bqpkY_2, ↓bqskE_, ↓bqskP_, ↓bqskR_, ↓bqskX_, ↓bqskG_, ↓bqskI_, ↓bqskJ_, ↓bqp_0_2, ↓bqp_1_4, ↓bqp_1_6, ↓bqp_1_7, ↓bqp_1_9, ↓bqp_1_11, ↓bqp_1_14, ↓bqp_518_3, ↓bqp_518_4, ↓bqp_518_5, ↓bqp_518_8, ↓bqp_518_9, ↓bqp_524_1, ↓bqp_524_3, ↓bqp_528_2, ↓bqp_528_3, ↓bqp_531_2, ↓bqp_535_0, ↓bqp_535_1, ↓bqp_535_2, ↓bqp_535_3, ↓bqp_535_4, ↓bqp_592_8, ↓bqp_592_9, ↓bqp_592_10, ↓bqp_592_14, ↓bqp_592_15, ↓bqp_592_16, ↓bqp_592_20, ↓bqp_592_21, ↓bqp_592_22, ↓bqp_592_24, ↓bqp_592_25, ↓bqp_592_29, ↓bqp_592_30, ↓bqp_592_31, ↓bqp_592_32, ↓bqs_2, ↓bqs_3, ↓bqs_4, ↓bqs_10, ↓bqs_519, ↓bqs_520, ↓bqs_521, ↓bqs_522, ↓bqs_523, ↓bqs_525, ↓bqs_526, ↓bqs_527, ↓bqs_529, ↓bqs_530, ↓bqs_532, ↓bqs_533, ↓bqs_534, ↓bqs_593, ↓bqs_594, ↓bqs_595, ↓bqs_596, ↓bqs_597, ↓bqs_598, ↓bqs_599, ↓bqs_600, ↓bqs_601, ↓bqs_602, ↓bqs_603, ↓bqs_604, ↓bqs_605, ↓bqs_606, ↓bqs_608, ↓bqs_609, ↓bqs_610, ↓bqt_607, ex, ey]
  · unfold sw_
    rw [rw_set (by rw [List.length_set]; omega)]
    by_cases e : k = y
    · rw [e, st_e, if_pos rfl, h2 x hx]; rfl
    · rw [st_k e, if_neg e, rw_set (by omega)]
      by_cases g : k = x
      · rw [g, st_e, if_pos rfl, h2 y hy]; rfl
      · rw [st_k g, if_neg g, h2 k hk]
theorem c_82 (hn : n ≤ 10) : ∀ (f fu : Nat) (A : Mem_m) (l : List Nat) (i j : Nat), RW_ n A l → j < n → j < i + f → f ≤ fu → ∃ A', f_X4_dealAnew_82 SH0_ 531 fu A (i : Int) (j : Int) = some A' ∧ (∀ a, a ≠ 534 → A' a = A a) ∧ RW_ n A' (e82_ f l i j) ∨ fu = 0
  | 0, fu, A, l, i, j, h, hj, hf, hfu => by
    cases fu with
    | zero => exact ⟨A, Or.inr rfl⟩
    | succ fu =>
      refine ⟨A, Or.inl ⟨?_, fun _ _ => rfl, h⟩⟩
      rw [f_X4_dealAnew_82, if_neg (by omega)]
  | f + 1, 0, A, l, i, j, h, hj, hf, hfu => ⟨A, Or.inr rfl⟩
  | f + 1, fu + 1, A, l, i, j, h, hj, hf, hfu => by
    rw [f_X4_dealAnew_82]
    show ∃ A', _ ∧ _ ∧ RW_ n A' (bif Nat.blt i j then e82_ f (sw_ l i j) (i + 1) (j - 1) else l) ∨ _
    by_cases hij : i < j
    · obtain ⟨B, b1, b2, b3⟩ := c_swap h hn (x := i) (y := j) (by omega) hj
      have hb : Nat.blt i j = true := by rw [Nat.blt_eq]; exact hij
      have hij' : (i : Int) < (j : Int) := by omega
      rw [hb]
      by_cases hfu0 : fu = 0
      · subst hfu0
        have hf0 : f = 0 := by omega
        omega
      · obtain ⟨C, c⟩ := c_82 hn f fu B (sw_ l i j) (i + 1) (j - 1) b3 (by omega) (by omega) (by omega)
        rcases c with ⟨c1, c2, c3⟩ | c
        · refine ⟨C, Or.inl ⟨?_, fun a ha => (c2 a ha).trans (b2 a ha), c3⟩⟩
          rw [← c1]
          simp (disch := omega) only [↓bqr_C, ↓bqr_D, ↓bqr_N2, ↓bqr_N3, ↓bqr_O, ↓bqr_Q, ↓bqr_W, ↓bqr_S1, ↓bqr_S4, ↓bqr_T2, ↓bqr_T3, ↓bqr_F, ↓bqr_H, ↓bqa_C, ↓bqa_N, ↓bqa_U, ↓bqa_Y, ↓bqa_W, ↓bqa_S, ↓bqgkC_1, ↓bqgkC_2, ↓bqgkC_3, ↓bqgkC_4, ↓bqgkC_5, ↓bqgkC_6, ↓bqgkD_1, ↓bqgkN_0, ↓bqgkN_1, ↓bqgkO_1, ↓bqgkQ_1, ↓bqgkW_1, ↓bqgkS_0, ↓bqgkS_2, ↓bqgkS_3, ↓bqgkT_0, ↓bqgkT_1, ↓bqgkF_1, ↓bqgkH_1, ↓bqgkU_0, ↓bqgkU_1, ↓bqgkU_2, ↓bqgkU_3, ↓bqgkU_4, ↓bqgkY_0, ↓bqgkY_1, ↓bqgkY_2, ↓bqikE_, ↓bqikP_, ↓bqikR_, ↓bqikX_, ↓bqikG_, ↓bqikI_, ↓bqikJ_, ↓bqvkC_, ↓bqvkD_, ↓bqvkN_, ↓bqvkO_, ↓bqvkQ_, ↓bqvkU_, ↓bqvkY_, ↓bqvkW_, ↓bqvkS_, ↓bqvkT_, ↓bqvkF_, ↓bqvkH_, ↓bqr_0_0, ↓bqr_0_1, ↓bqr_0_3, ↓bqr_0_4, ↓bqr_0_5, ↓bqr_0_6, ↓bqr_0_7, ↓bqr_0_8, ↓bqr_1_0, ↓bqr_1_1, ↓bqr_1_2, ↓bqr_1_3, ↓bqr_1_5, ↓bqr_1_8, ↓bqr_1_10, ↓bqr_1_12, ↓bqr_1_13, ↓bqr_518_0, ↓bqr_518_1, ↓bqr_518_2, ↓bqr_518_6, ↓bqr_518_7, ↓bqr_524_0, ↓bqr_524_2, ↓bqr_524_4, ↓bqr_528_0, ↓bqr_528_1, ↓bqr_531_0, ↓bqr_531_1, ↓bqr_531_3, ↓bqr_592_0, ↓bqr_592_1, ↓bqr_592_2, ↓bqr_592_3, ↓bqr_592_4, ↓bqr_592_5, ↓bqr_592_6, ↓bqr_592_7, ↓bqr_592_11, ↓bqr_592_12, ↓bqr_592_13, ↓bqr_592_17, ↓bqr_592_18, ↓bqr_592_19, ↓bqr_592_23, ↓bqr_592_26, ↓bqr_592_27, ↓bqr_592_28, ↓bqg_0_2, ↓bqg_1_4, ↓bqg_1_6, ↓bqg_1_7, ↓bqg_1_9, ↓bqg_1_11, ↓bqg_1_14, ↓bqg_518_3, ↓bqg_518_4, ↓bqg_518_5, ↓bqg_518_8, ↓bqg_518_9, ↓bqg_524_1, ↓bqg_524_3, ↓bqg_528_2, ↓bqg_528_3, ↓bqg_531_2, ↓bqg_535_0, ↓bqg_535_1, ↓bqg_535_2, ↓bqg_535_3, ↓bqg_535_4, ↓bqg_592_8, ↓bqg_592_9, ↓bqg_592_10, ↓bqg_592_14, ↓bqg_592_15, ↓bqg_592_16, ↓bqg_592_20, ↓bqg_592_21, ↓bqg_592_22, ↓bqg_592_24, ↓bqg_592_25, ↓bqg_592_29, ↓bqg_592_30, ↓bqg_592_31, ↓bqg_592_32, ↓bqv_0, ↓bqv_1, ↓bqv_259, ↓bqv_518, ↓bqv_524, ↓bqv_528, ↓bqv_531, ↓bqv_535, ↓bqv_592, ↓bqi_2, ↓bqi_3, ↓bqi_4, ↓bqi_10, ↓bqi_519, ↓bqi_520, ↓bqi_521, ↓bqi_522, ↓bqi_523, ↓bqi_525, ↓bqi_526, ↓bqi_527, ↓bqi_529, ↓bqi_530, ↓bqi_532, ↓bqi_533, ↓bqi_534, ↓bqi_593, ↓bqi_594, ↓bqi_595, ↓bqi_596, ↓bqi_597, ↓bqi_598, ↓bqi_599, ↓bqi_600, ↓bqi_601, ↓bqi_602, ↓bqi_603, ↓bqi_604, ↓bqi_605, ↓bqi_606, ↓bqi_608, ↓bqi_609, ↓bqi_610, ↓bqz_607, hij', if_true, ↓bnd b1, wr_n]
          rw [show ((i : Int) + 1) = ((i + 1 : Nat) : Int) by omega, show ((j : Int) + -1) = ((j - 1 : Nat) : Int) by omega]
        · exact absurd c hfu0
    · have hb : Nat.blt i j = false := by rw [Bool.eq_false_iff]; intro q; rw [Nat.blt_eq] at q; exact hij q
      rw [hb]
      exact ⟨A, Or.inl ⟨if_neg (by omega), fun _ _ => rfl, h⟩⟩
theorem c_66 (h : RW_ n A l) (hn : n ≤ 10) {t o : Nat} (ht : t < n) (ho : o < n) : ∃ A', f_X4_dealAnew_66 SH0_ A 531 (n : Int) (t : Int) (o : Int) = some A' ∧ (∀ a, a ≠ 534 → A' a = A a) ∧ RW_ n A' (e66_ n l t o) := by
  obtain ⟨B, b1, b2, b3⟩ := c_swap h hn (x := t) (y := o) ht ho
  obtain ⟨C, c⟩ := c_82 hn (n + 1) FU_ B (sw_ l t o) (t + 1) (n - 1) b3 (by omega) (by omega) (by unfold FU_; omega)
  rcases c with ⟨c1, c2, c3⟩ | c
  · refine ⟨C, ?_, fun a ha => (c2 a ha).trans (b2 a ha), c3⟩
    unfold f_X4_dealAnew_66
    simp (disch := omega) only [↓bqr_C, ↓bqr_D, ↓bqr_N2, ↓bqr_N3, ↓bqr_O, ↓bqr_Q, ↓bqr_W, ↓bqr_S1, ↓bqr_S4, ↓bqr_T2, ↓bqr_T3, ↓bqr_F, ↓bqr_H, ↓bqa_C, ↓bqa_N, ↓bqa_U, ↓bqa_Y, ↓bqa_W, ↓bqa_S, ↓bqgkC_1, ↓bqgkC_2, ↓bqgkC_3, ↓bqgkC_4, ↓bqgkC_5, ↓bqgkC_6, ↓bqgkD_1, ↓bqgkN_0, ↓bqgkN_1, ↓bqgkO_1, ↓bqgkQ_1, ↓bqgkW_1, ↓bqgkS_0, ↓bqgkS_2, ↓bqgkS_3, ↓bqgkT_0, ↓bqgkT_1, ↓bqgkF_1, ↓bqgkH_1, ↓bqgkU_0, ↓bqgkU_1, ↓bqgkU_2, ↓bqgkU_3, ↓bqgkU_4, ↓bqgkY_0, ↓bqgkY_1, ↓bqgkY_2, ↓bqikE_, ↓bqikP_, ↓bqikR_, ↓bqikX_, ↓bqikG_, ↓bqikI_, ↓bqikJ_, ↓bqvkC_, ↓bqvkD_, ↓bqvkN_, ↓bqvkO_, ↓bqvkQ_, ↓bqvkU_, ↓bqvkY_, ↓bqvkW_, ↓bqvkS_, ↓bqvkT_, ↓bqvkF_, ↓bqvkH_, ↓bqr_0_0, ↓bqr_0_1, ↓bqr_0_3, ↓bqr_0_4, ↓bqr_0_5, ↓bqr_0_6, ↓bqr_0_7, ↓bqr_0_8, ↓bqr_1_0, ↓bqr_1_1, ↓bqr_1_2, ↓bqr_1_3, ↓bqr_1_5, ↓bqr_1_8, ↓bqr_1_10, ↓bqr_1_12, ↓bqr_1_13, ↓bqr_518_0, ↓bqr_518_1, ↓bqr_518_2, ↓bqr_518_6, ↓bqr_518_7, ↓bqr_524_0, ↓bqr_524_2, ↓bqr_524_4, ↓bqr_528_0, ↓bqr_528_1, ↓bqr_531_0, ↓bqr_531_1, ↓bqr_531_3, ↓bqr_592_0, ↓bqr_592_1, ↓bqr_592_2, ↓bqr_592_3, ↓bqr_592_4, ↓bqr_592_5, ↓bqr_592_6, ↓bqr_592_7, ↓bqr_592_11, ↓bqr_592_12, ↓bqr_592_13, ↓bqr_592_17, ↓bqr_592_18, ↓bqr_592_19, ↓bqr_592_23, ↓bqr_592_26, ↓bqr_592_27, ↓bqr_592_28, ↓bqg_0_2, ↓bqg_1_4, ↓bqg_1_6, ↓bqg_1_7, ↓bqg_1_9, ↓bqg_1_11, ↓bqg_1_14, ↓bqg_518_3, ↓bqg_518_4, ↓bqg_518_5, ↓bqg_518_8, ↓bqg_518_9, ↓bqg_524_1, ↓bqg_524_3, ↓bqg_528_2, ↓bqg_528_3, ↓bqg_531_2, ↓bqg_535_0, ↓bqg_535_1, ↓bqg_535_2, ↓bqg_535_3, ↓bqg_535_4, ↓bqg_592_8, ↓bqg_592_9, ↓bqg_592_10, ↓bqg_592_14, ↓bqg_592_15, ↓bqg_592_16, ↓bqg_592_20, ↓bqg_592_21, ↓bqg_592_22, ↓bqg_592_24, ↓bqg_592_25, ↓bqg_592_29, ↓bqg_592_30, ↓bqg_592_31, ↓bqg_592_32, ↓bqv_0, ↓bqv_1, ↓bqv_259, ↓bqv_518, ↓bqv_524, ↓bqv_528, ↓bqv_531, ↓bqv_535, ↓bqv_592, ↓bqi_2, ↓bqi_3, ↓bqi_4, ↓bqi_10, ↓bqi_519, ↓bqi_520, ↓bqi_521, ↓bqi_522, ↓bqi_523, ↓bqi_525, ↓bqi_526, ↓bqi_527, ↓bqi_529, ↓bqi_530, ↓bqi_532, ↓bqi_533, ↓bqi_534, ↓bqi_593, ↓bqi_594, ↓bqi_595, ↓bqi_596, ↓bqi_597, ↓bqi_598, ↓bqi_599, ↓bqi_600, ↓bqi_601, ↓bqi_602, ↓bqi_603, ↓bqi_604, ↓bqi_605, ↓bqi_606, ↓bqi_608, ↓bqi_609, ↓bqi_610, ↓bqz_607, ↓bnd b1, wr_n]
    rw [← c1, show ((t : Int) + 1) = ((t + 1 : Nat) : Int) by omega, show ((n : Int) - 1) = ((n - 1 : Nat) : Int) by omega]
  · unfold FU_ at c; omega
theorem c_40 (h : RW_ n A l) (hn : n ≤ 10) {t : Nat} (ht : t < n) : ∀ (o fu : Nat), o < n → o < fu → ∃ A', f_X4_dealAnew_40 SH0_ A 531 (n : Int) (t : Int) fu (o : Int) = some A' ∧ (∀ a, a ≠ 534 → A' a = A a) ∧ RW_ n A' (e40_ n l t o)
  | 0, fu + 1, ho, _ => by
    rw [f_X4_dealAnew_40, if_pos (by omega)]
    exact c_66 h hn ht ho
  | o + 1, fu + 1, ho, hfu => by
    rw [f_X4_dealAnew_40]
    show ∃ A', _ ∧ _ ∧ RW_ n A' (bif Nat.ble (o + 1) t then e66_ n l t (o + 1) else bif Nat.blt (l.getD (o + 1) 0) (l.getD t 0) then e40_ n l t o else e66_ n l t (o + 1))
    by_cases hle : o + 1 ≤ t
    · rw [if_pos (by omega), show Nat.ble (o + 1) t = true from Nat.ble_eq.mpr hle]
      exact c_66 h hn ht ho
    · rw [if_neg (by omega), show Nat.ble (o + 1) t = false from Bool.eq_false_iff.mpr (fun q => hle (Nat.ble_eq.mp q))]
      have e1 : A 534 (((o + 1 : Nat) : Int)).toNat = rw_ l (o + 1) := by rw [show (((o + 1 : Nat) : Int)).toNat = o + 1 by omega]; exact h.2 _ ho
      have e2 : A 534 ((t : Int)).toNat = rw_ l t := by rw [show ((t : Int)).toNat = t by omega]; exact h.2 _ ht
      simp (disch := omega) only [↓bqr_C, ↓bqr_D, ↓bqr_N2, ↓bqr_N3, ↓bqr_O, ↓bqr_Q, ↓bqr_W, ↓bqr_S1, ↓bqr_S4, ↓bqr_T2, ↓bqr_T3, ↓bqr_F, ↓bqr_H, ↓bqa_C, ↓bqa_N, ↓bqa_U, ↓bqa_Y, ↓bqa_W, ↓bqa_S, ↓bqgkC_1, ↓bqgkC_2, ↓bqgkC_3, ↓bqgkC_4, ↓bqgkC_5, ↓bqgkC_6, ↓bqgkD_1, ↓bqgkN_0, ↓bqgkN_1, ↓bqgkO_1, ↓bqgkQ_1, ↓bqgkW_1, ↓bqgkS_0, ↓bqgkS_2, ↓bqgkS_3, ↓bqgkT_0, ↓bqgkT_1, ↓bqgkF_1, ↓bqgkH_1, ↓bqgkU_0, ↓bqgkU_1, ↓bqgkU_2, ↓bqgkU_3, ↓bqgkU_4, ↓bqgkY_0, ↓bqgkY_1, ↓bqgkY_2, ↓bqikE_, ↓bqikP_, ↓bqikR_, ↓bqikX_, ↓bqikG_, ↓bqikI_, ↓bqikJ_, ↓bqvkC_, ↓bqvkD_, ↓bqvkN_, ↓bqvkO_, ↓bqvkQ_, ↓bqvkU_, ↓bqvkY_, ↓bqvkW_, ↓bqvkS_, ↓bqvkT_, ↓bqvkF_, ↓bqvkH_, ↓bqr_0_0, ↓bqr_0_1, ↓bqr_0_3, ↓bqr_0_4, ↓bqr_0_5, ↓bqr_0_6, ↓bqr_0_7, ↓bqr_0_8, ↓bqr_1_0, ↓bqr_1_1, ↓bqr_1_2, ↓bqr_1_3, ↓bqr_1_5, ↓bqr_1_8, ↓bqr_1_10, ↓bqr_1_12, ↓bqr_1_13, ↓bqr_518_0, ↓bqr_518_1, ↓bqr_518_2, ↓bqr_518_6, ↓bqr_518_7, ↓bqr_524_0, ↓bqr_524_2, ↓bqr_524_4, ↓bqr_528_0, ↓bqr_528_1, ↓bqr_531_0, ↓bqr_531_1, ↓bqr_531_3, ↓bqr_592_0, ↓bqr_592_1, ↓bqr_592_2, ↓bqr_592_3, ↓bqr_592_4, ↓bqr_592_5, ↓bqr_592_6, ↓bqr_592_7, ↓bqr_592_11, ↓bqr_592_12, ↓bqr_592_13, ↓bqr_592_17, ↓bqr_592_18, ↓bqr_592_19, ↓bqr_592_23, ↓bqr_592_26, ↓bqr_592_27, ↓bqr_592_28, ↓bqg_0_2, ↓bqg_1_4, ↓bqg_1_6, ↓bqg_1_7, ↓bqg_1_9, ↓bqg_1_11, ↓bqg_1_14, ↓bqg_518_3, ↓bqg_518_4, ↓bqg_518_5, ↓bqg_518_8, ↓bqg_518_9, ↓bqg_524_1, ↓bqg_524_3, ↓bqg_528_2, ↓bqg_528_3, ↓bqg_531_2, ↓bqg_535_0, ↓bqg_535_1, ↓bqg_535_2, ↓bqg_535_3, ↓bqg_535_4, ↓bqg_592_8, ↓bqg_592_9, ↓bqg_592_10, ↓bqg_592_14, ↓bqg_592_15, ↓bqg_592_16, ↓bqg_592_20, ↓bqg_592_21, ↓bqg_592_22, ↓bqg_592_24, ↓bqg_592_25, ↓bqg_592_29, ↓bqg_592_30, ↓bqg_592_31, ↓bqg_592_32, ↓bqv_0, ↓bqv_1, ↓bqv_259, ↓bqv_518, ↓bqv_524, ↓bqv_528, ↓bqv_531, ↓bqv_535, ↓bqv_592, ↓bqi_2, ↓bqi_3, ↓bqi_4, ↓bqi_10, ↓bqi_519, ↓bqi_520, ↓bqi_521, ↓bqi_522, ↓bqi_523, ↓bqi_525, ↓bqi_526, ↓bqi_527, ↓bqi_529, ↓bqi_530, ↓bqi_532, ↓bqi_533, ↓bqi_534, ↓bqi_593, ↓bqi_594, ↓bqi_595, ↓bqi_596, ↓bqi_597, ↓bqi_598, ↓bqi_599, ↓bqi_600, ↓bqi_601, ↓bqi_602, ↓bqi_603, ↓bqi_604, ↓bqi_605, ↓bqi_606, ↓bqi_608, ↓bqi_609, ↓bqi_610, ↓bqz_607, e1, e2, wr_n]
      by_cases hlt : l.getD (o + 1) 0 < l.getD t 0
      · have hlt' : rw_ l (o + 1) < rw_ l t := by unfold rw_; omega
        rw [if_pos hlt', show Nat.blt (l.getD (o + 1) 0) (l.getD t 0) = true by rw [Nat.blt_eq]; exact hlt]
        obtain ⟨A', a1, a2, a3⟩ := c_40 h hn ht o fu (by omega) (by omega)
        refine ⟨A', ?_, a2, a3⟩
        rw [← a1, show (((o + 1 : Nat) : Int) + -1) = (o : Int) by omega]
      · have hlt' : ¬ rw_ l (o + 1) < rw_ l t := by unfold rw_; omega
        rw [if_neg hlt', show Nat.blt (l.getD (o + 1) 0) (l.getD t 0) = false by rw [Bool.eq_false_iff]; intro q; rw [Nat.blt_eq] at q; exact hlt q]
        exact c_66 h hn ht ho
theorem c_4 (h : RW_ n A l) (hn : n ≤ 10) : ∀ (t fu : Nat), t < n ∨ t = 0 → t < fu → ∃ A', f_X4_dealAnew_4 SH0_ A 531 (n : Int) fu ((t : Int) - 1) = some A' ∧ (∀ a, a ≠ 534 → A' a = A a) ∧ RW_ n A' (e4_ n l t)
  | 0, fu + 1, _, _ => by
    rw [f_X4_dealAnew_4, if_pos (by omega)]
    unfold f_X4_dealAnew_31
    rw [if_pos (by omega)]
    exact ⟨A, rfl, fun _ _ => rfl, h⟩
  | t + 1, fu + 1, ht, hfu => by
    have ht' : t + 1 < n := by omega
    rw [f_X4_dealAnew_4, if_neg (by omega), show (((t + 1 : Nat) : Int) - 1) = (t : Int) by omega]
    show ∃ A', _ ∧ _ ∧ RW_ n A' (bif Nat.ble (l.getD t 0) (l.getD (t + 1) 0) then e40_ n l t (n - 1) else e4_ n l t)
    have e1 : A 534 ((t : Int)).toNat = rw_ l t := by rw [show ((t : Int)).toNat = t by omega]; exact h.2 _ (by omega)
    have e2 : A 534 ((t : Int) + 1).toNat = rw_ l (t + 1) := by rw [show ((t : Int) + 1).toNat = t + 1 by omega]; exact h.2 _ ht'
    simp (disch := omega) only [↓bqr_C, ↓bqr_D, ↓bqr_N2, ↓bqr_N3, ↓bqr_O, ↓bqr_Q, ↓bqr_W, ↓bqr_S1, ↓bqr_S4, ↓bqr_T2, ↓bqr_T3, ↓bqr_F, ↓bqr_H, ↓bqa_C, ↓bqa_N, ↓bqa_U, ↓bqa_Y, ↓bqa_W, ↓bqa_S, ↓bqgkC_1, ↓bqgkC_2, ↓bqgkC_3, ↓bqgkC_4, ↓bqgkC_5, ↓bqgkC_6, ↓bqgkD_1, ↓bqgkN_0, ↓bqgkN_1, ↓bqgkO_1, ↓bqgkQ_1, ↓bqgkW_1, ↓bqgkS_0, ↓bqgkS_2, ↓bqgkS_3, ↓bqgkT_0, ↓bqgkT_1, ↓bqgkF_1, ↓bqgkH_1, ↓bqgkU_0, ↓bqgkU_1, ↓bqgkU_2, ↓bqgkU_3, ↓bqgkU_4, ↓bqgkY_0, ↓bqgkY_1, ↓bqgkY_2, ↓bqikE_, ↓bqikP_, ↓bqikR_, ↓bqikX_, ↓bqikG_, ↓bqikI_, ↓bqikJ_, ↓bqvkC_, ↓bqvkD_, ↓bqvkN_, ↓bqvkO_, ↓bqvkQ_, ↓bqvkU_, ↓bqvkY_, ↓bqvkW_, ↓bqvkS_, ↓bqvkT_, ↓bqvkF_, ↓bqvkH_, ↓bqr_0_0, ↓bqr_0_1, ↓bqr_0_3, ↓bqr_0_4, ↓bqr_0_5, ↓bqr_0_6, ↓bqr_0_7, ↓bqr_0_8, ↓bqr_1_0, ↓bqr_1_1, ↓bqr_1_2, ↓bqr_1_3, ↓bqr_1_5, ↓bqr_1_8, ↓bqr_1_10, ↓bqr_1_12, ↓bqr_1_13, ↓bqr_518_0, ↓bqr_518_1, ↓bqr_518_2, ↓bqr_518_6, ↓bqr_518_7, ↓bqr_524_0, ↓bqr_524_2, ↓bqr_524_4, ↓bqr_528_0, ↓bqr_528_1, ↓bqr_531_0, ↓bqr_531_1, ↓bqr_531_3, ↓bqr_592_0, ↓bqr_592_1, ↓bqr_592_2, ↓bqr_592_3, ↓bqr_592_4, ↓bqr_592_5, ↓bqr_592_6, ↓bqr_592_7, ↓bqr_592_11, ↓bqr_592_12, ↓bqr_592_13, ↓bqr_592_17, ↓bqr_592_18, ↓bqr_592_19, ↓bqr_592_23, ↓bqr_592_26, ↓bqr_592_27, ↓bqr_592_28, ↓bqg_0_2, ↓bqg_1_4, ↓bqg_1_6, ↓bqg_1_7, ↓bqg_1_9, ↓bqg_1_11, ↓bqg_1_14, ↓bqg_518_3, ↓bqg_518_4, ↓bqg_518_5, ↓bqg_518_8, ↓bqg_518_9, ↓bqg_524_1, ↓bqg_524_3, ↓bqg_528_2, ↓bqg_528_3, ↓bqg_531_2, ↓bqg_535_0, ↓bqg_535_1, ↓bqg_535_2, ↓bqg_535_3, ↓bqg_535_4, ↓bqg_592_8, ↓bqg_592_9, ↓bqg_592_10, ↓bqg_592_14, ↓bqg_592_15, ↓bqg_592_16, ↓bqg_592_20, ↓bqg_592_21, ↓bqg_592_22, ↓bqg_592_24, ↓bqg_592_25, ↓bqg_592_29, ↓bqg_592_30, ↓bqg_592_31, ↓bqg_592_32, ↓bqv_0, ↓bqv_1, ↓bqv_259, ↓bqv_518, ↓bqv_524, ↓bqv_528, ↓bqv_531, ↓bqv_535, ↓bqv_592, ↓bqi_2, ↓bqi_3, ↓bqi_4, ↓bqi_10, ↓bqi_519, ↓bqi_520, ↓bqi_521, ↓bqi_522, ↓bqi_523, ↓bqi_525, ↓bqi_526, ↓bqi_527, ↓bqi_529, ↓bqi_530, ↓bqi_532, ↓bqi_533, ↓bqi_534, ↓bqi_593, ↓bqi_594, ↓bqi_595, ↓bqi_596, ↓bqi_597, ↓bqi_598, ↓bqi_599, ↓bqi_600, ↓bqi_601, ↓bqi_602, ↓bqi_603, ↓bqi_604, ↓bqi_605, ↓bqi_606, ↓bqi_608, ↓bqi_609, ↓bqi_610, ↓bqz_607, e1, e2, wr_n]
    by_cases hle : l.getD t 0 ≤ l.getD (t + 1) 0
    · have hle' : rw_ l t ≤ rw_ l (t + 1) := by unfold rw_; omega
      rw [if_pos hle', show Nat.ble (l.getD t 0) (l.getD (t + 1) 0) = true from Nat.ble_eq.mpr hle]
      unfold f_X4_dealAnew_31
      rw [if_neg (by omega), wr_n (by omega) (by omega), show ((n : Int) - 1) = ((n - 1 : Nat) : Int) by omega]
      exact c_40 h hn (by omega) (n - 1) FU_ (by omega) (by unfold FU_; omega)
    · have hle' : ¬ rw_ l t ≤ rw_ l (t + 1) := by unfold rw_; omega
      rw [if_neg hle', show Nat.ble (l.getD t 0) (l.getD (t + 1) 0) = false from Bool.eq_false_iff.mpr (fun q => hle (Nat.ble_eq.mp q))]
      obtain ⟨A', a1, a2, a3⟩ := c_4 h hn t fu (by omega) (by omega)
      exact ⟨A', by rw [← a1, show ((t : Int) + -1) = (t : Int) - 1 by omega], a2, a3⟩
theorem c_anew (h : RW_ n A l) (hn : n ≤ 10) : ∃ A', f_X4_dealAnew SH0_ A 531 (n : Int) = some A' ∧ (∀ a, a ≠ 534 → A' a = A a) ∧ RW_ n A' (np_ n l) := by
  unfold f_X4_dealAnew np_
  rw [wr_n (by omega) (by omega)]
  by_cases h0 : n = 0
  · subst h0
    rw [show FU_ = 999999 + 1 from rfl, f_X4_dealAnew_4, if_pos (by omega)]
    unfold f_X4_dealAnew_31
    rw [if_pos (by omega)]
    exact ⟨A, rfl, fun _ _ => rfl, h⟩
  · obtain ⟨A', a1, a2, a3⟩ := c_4 h hn (n - 1) FU_ (by omega) (by unfold FU_; omega)
    exact ⟨A', by rw [← a1, show ((n - 1 : Nat) : Int) - 1 = (n : Int) - 2 by omega], a2, a3⟩
end
