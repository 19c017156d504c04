/-! card -/
theorem dv_nat {n m : Nat} (hn : n < 2147483648) (h0 : 0 < m) (hm : m < 2147483648) : dv_i (n : Int) (m : Int) = ((n / m : Nat) : Int) := by
  unfold dv_i
  rw [Int32.toInt_div, to_I (by unfold ok_i; omega), to_I (by unfold ok_i; omega)]
  have e : (n : Int).tdiv (m : Int) = ((n / m : Nat) : Int) := by rw [Int.ofNat_tdiv]
  rw [e]
  have h : n / m ≤ n := Nat.div_le_self n m
  generalize n / m = q at *
  have h2 : Int.bmod (q : Int) (2 ^ 32) = (q : Int) := by
    apply Int.bmod_eq_of_le <;> omega
  exact h2
theorem rm_nat {n m : Nat} (hn : n < 2147483648) (h0 : 0 < m) (hm : m < 2147483648) : rm_i (n : Int) (m : Int) = ((n % m : Nat) : Int) := by
  have e : Int32.ofInt (n : Int) / Int32.ofInt (m : Int) = Int32.ofInt (dv_i n m) := by unfold dv_i; rw [of_I]
  unfold rm_i
  rw [e, dv_nat hn h0 hm, ml_I, sb_I]
  have h1 : n / m * m ≤ n := Nat.div_mul_le_self n m
  have h2 : ((n / m : Nat) : Int) * (m : Int) = ((n / m * m : Nat) : Int) := by rw [Int.natCast_mul]
  have h3 : n % m + n / m * m = n := by rw [Nat.mul_comm]; exact Nat.mod_add_div n m
  rw [h2, wr_n (x := ((n / m * m : Nat) : Int)) (by omega) (by omega), wr_n (by omega) (by omega), to_I (by unfold ok_i; omega)]
  omega
theorem R_card {M N : Mem_m} {v : Nat → Int} {c : Int} (hV : Vw M v) (hc : v 1062 = c) (hc40 : c < 40)
    (hN : ∀ a, a ≠ 1 ∧ a ≠ kC_ c ∧ a ≠ kD_ c ∧ a ≠ kE_ c ∧ a ≠ 593 → N a = M a)
    (h1 : ∀ j, j ≠ 4 → N 1 j = M 1 j) (h14 : N 1 4 = c + 1)
    (hw : ∀ k, ¬ (15 * c.toNat ≤ k ∧ k < 15 * c.toNat + 15) ∧ k ≠ 1062 → N 593 k = v k) (hw62 : N 593 1062 = c + 1)
    (hnew : Rcard 1 N (N 593) c) : R_ N := by
  have b4 := vb_4 hV
  obtain ⟨c1, c2, c3, c4, c5, c6, c7, c8⟩ := RelB_un (vw_rel hV)
  have kc : kC_ c = 11 + 3 * c.toNat := by rw [k3kC_]
  have kd : kD_ c = kC_ c + 1 := rfl
  have ke : kE_ c = kC_ c + 2 := rfl
  have m14 : M 1 4 = c := by rw [vw_4 hV, hc]
  refine R_book (fun a q1 q2 q3 q4 q5 => hN a (by omega)) (by rw [hN 0 (by omega)]) (by rw [hN 592 (by omega)]) ?_ (vw_R hV)
  refine RelB_mk ?_ ?_ ?_ ?_ ?_ ?_ ?_ ?_
  · unfold Bc_ at c1 ⊢
    rw [h14, hw62]
    refine ⟨⟨by omega, by omega, rfl⟩, fun x q1 q2 => ?_⟩
    by_cases hx : x = c
    · rw [hx]; exact hnew
    · refine Rcard_tr (hN _ ?_) (hN _ ?_) (hN _ ?_) (fun k p1 p2 => hw k (by omega)) (c1.2 x q1 (by omega))
      · show 1 + 10 + 3 * x.toNat ≠ 1 ∧ 1 + 10 + 3 * x.toNat ≠ kC_ c ∧ 1 + 10 + 3 * x.toNat ≠ kD_ c ∧ 1 + 10 + 3 * x.toNat ≠ kE_ c ∧ 1 + 10 + 3 * x.toNat ≠ 593; omega
      · show 1 + 10 + 3 * x.toNat + 1 ≠ 1 ∧ 1 + 10 + 3 * x.toNat + 1 ≠ kC_ c ∧ 1 + 10 + 3 * x.toNat + 1 ≠ kD_ c ∧ 1 + 10 + 3 * x.toNat + 1 ≠ kE_ c ∧ 1 + 10 + 3 * x.toNat + 1 ≠ 593; omega
      · show 1 + 10 + 3 * x.toNat + 2 ≠ 1 ∧ 1 + 10 + 3 * x.toNat + 2 ≠ kC_ c ∧ 1 + 10 + 3 * x.toNat + 2 ≠ kD_ c ∧ 1 + 10 + 3 * x.toNat + 2 ≠ kE_ c ∧ 1 + 10 + 3 * x.toNat + 2 ≠ 593; omega
  · exact Bn_tr (fun a q1 q2 => hN a (by omega)) (h1 6 (by omega)) (h1 7 (by omega)) (fun k _ hk => hw k (by omega)) (hw _ (by omega)) c2
  · exact Br_tr (fun a q1 q2 => hN a (by omega)) (h1 9 (by omega)) (fun k _ hk => hw k (by omega)) (hw _ (by omega)) c3
  · exact By_tr (fun a q1 q2 => hN a (by omega)) (h1 11 (by omega)) (fun k _ hk => hw k (by omega)) (hw _ (by omega)) c4
  · exact Bw_tr (fun a q1 q2 => hN a (by omega)) (hN _ (by omega)) (by rw [h14, m14]; omega) (h1 14 (by omega)) (fun k _ hk => hw k (by omega)) (hw _ (by omega)) c5
  · exact Bk_tr (hN _ (by omega)) (fun k _ hk => hw k (by omega)) c6
  · exact Bv_tr (hN _ (by omega)) (fun k _ hk => hw k (by omega)) c7
  · exact Be_tr (hN _ (by omega)) (fun k _ hk => hw k (by omega)) c8
/-- the reference's writing of a card -/
def CW_ (C : Mem_m) (v : Nat → Int) (c d m hr sz s1 s2 s3 : Int) (o : Option (Mem_m × Int)) : Prop := ∃ N : Mem_m, o = some (N, c) ∧ (∀ a, a ≠ 593 → N a = C a) ∧ (∀ k, ¬ (15 * c.toNat ≤ k ∧ k < 15 * c.toNat + 15) ∧ k ≠ 1062 → N 593 k = v k) ∧ N 593 1062 = c + 1 ∧ N 593 (15 * c.toNat) = sz ∧ (∀ i : Int, 0 ≤ i → i < sz → N 593 (15 * c.toNat + 1 + i.toNat) = C 598 (80 * d.toNat + i.toNat)) ∧ N 593 (15 * c.toNat + 9) = m ∧ N 593 (15 * c.toNat + 10) = s1 ∧ N 593 (15 * c.toNat + 11) = s2 ∧ N 593 (15 * c.toNat + 12) = hr ∧ N 593 (15 * c.toNat + 13) = s3 ∧ N 593 (15 * c.toNat + 14) = 0
theorem m_cardw {C : Mem_m} {v : Nat → Int} {c d m t hr sz s1 s2 s3 : Int} (hC : C 593 = v) (hc : v 1062 = c) (hc0 : 0 ≤ c) (hc40 : c < 40) (h1 : 0 ≤ d) (h2 : d < 8) (hs : C 597 d.toNat = sz) (z1 : 1 ≤ sz) (z8 : sz ≤ 8) (e1 : dv_i t 100 = s1) (e2 : rm_i (dv_i t 10) 10 = s2) (e3 : rm_i t 10 = s3) : CW_ C v c d m hr sz s1 s2 s3 (f_X12_card_116 SH0_ 592 d m t hr (15 * c) FU_ C 0) := by
  refine lp_run (A := Mem_m) (fun n x M => f_X12_card_116 SH0_ 592 d m t hr (15 * c) n M x) 15 (fun x A => 0 ≤ x ∧ x ≤ 15 ∧ (∀ a, a ≠ 593 → A a = C a) ∧ (∀ k, ¬ (15 * c.toNat ≤ k ∧ k < 15 * c.toNat + 15) → A 593 k = v k) ∧ (∀ k : Nat, 15 * c.toNat ≤ k → (k : Int) < 15 * c.toNat + x → A 593 k = 0)) (CW_ C v c d m hr sz s1 s2 s3) ?_ ?_ FU_ 0 C (by unfold FU_; omega) ⟨by omega, by omega, fun _ _ => rfl, fun _ _ => by rw [hC], fun k q1 q2 => absurd q2 (by omega)⟩
  · intro n x A hx ⟨q1, q2, q3, q4, q5⟩
    refine Or.inl ⟨st_m A 593 (15 * c.toNat + x.toNat) 0, ?_, by omega, by omega, fun a ha => by rw [st_o2 ha, q3 a ha], fun k hk => by rw [st_k (by omega), q4 k hk], fun k k1 k2 => ?_⟩
    · show f_X12_card_116 SH0_ 592 d m t hr (15 * c) (n + 1) A x = _
      rw [f_X12_card_116, if_pos hx, bqr_592_0, wr_n (x := 15 * c + x) (by omega) (by omega), bqs_593 (by omega) (by omega), wr_n (by omega) (by omega), show (15 * c + x).toNat = 15 * c.toNat + x.toNat by omega]
    · rw [st_at]
      by_cases hk : k = 15 * c.toNat + x.toNat
      · rw [if_pos ⟨rfl, hk⟩]
      · rw [if_neg (fun q => hk q.2)]; exact q5 k k1 (by omega)
  · intro n x A hx ⟨q1, q2, q3, q4, q5⟩
    have ex : x = 15 := by omega
    subst ex
    show CW_ C v c d m hr sz s1 s2 s3 (f_X12_card_116 SH0_ 592 d m t hr (15 * c) (n + 1) A 15)
    have eA : A 597 d.toNat = sz := by rw [q3 597 (by decide), hs]
    rw [f_X12_card_116, if_neg (by decide), bqr_592_0, bqr_592_4, bqi_597 h1 h2, eA, bqs_593 (by omega) (by omega), show (15 * c).toNat = 15 * c.toNat by omega]
    refine lp_run (A := Mem_m) (fun n x M => f_X12_card_156 SH0_ 592 d m t hr (15 * c) n M x) sz (fun x B => 0 ≤ x ∧ x ≤ sz ∧ (∀ a, a ≠ 593 → B a = C a) ∧ (∀ k, ¬ (15 * c.toNat ≤ k ∧ k < 15 * c.toNat + 15) → B 593 k = v k) ∧ B 593 (15 * c.toNat) = sz ∧ (∀ i : Int, 0 ≤ i → i < x → B 593 (15 * c.toNat + 1 + i.toNat) = C 598 (80 * d.toNat + i.toNat)) ∧ B 593 (15 * c.toNat + 14) = 0) (CW_ C v c d m hr sz s1 s2 s3) ?_ ?_ FU_ 0 _ (by unfold FU_; omega) ⟨by omega, by omega, fun a ha => by rw [st_o2 ha, q3 a ha], fun k hk => by rw [st_k (by omega), q4 k hk], st_e, fun i i1 i2 => absurd i2 (by omega), by rw [st_k (by omega)]; exact q5 _ (by omega) (by omega)⟩
    · intro n2 x B hx2 ⟨p1, p2, p3, p4, p5, p6, p7⟩
      refine Or.inl ⟨st_m B 593 (15 * c.toNat + 1 + x.toNat) (C 598 (80 * d.toNat + x.toNat)), ?_, by omega, by omega, fun a ha => by rw [st_o2 ha, p3 a ha], fun k hk => by rw [st_k (by omega), p4 k hk], by rw [st_k (by omega), p5], fun i i1 i2 => ?_, by rw [st_k (by omega), p7]⟩
      · show f_X12_card_156 SH0_ 592 d m t hr (15 * c) (n2 + 1) B x = _
        have eB : B 597 d.toNat = sz := by rw [p3 597 (by decide), hs]
        rw [f_X12_card_156, bqr_592_4, bqi_597 h1 h2, eB, if_pos hx2, bqr_592_0, bqr_592_5, wr_n (x := 80 * d) (by omega) (by omega), wr_n (x := 80 * d + x) (by omega) (by omega), bqi_598 (by omega) (by omega), wr_n (x := 15 * c + 1) (by omega) (by omega), wr_n (x := 15 * c + 1 + x) (by omega) (by omega), bqs_593 (by omega) (by omega), wr_n (x := x + 1) (by omega) (by omega), show (80 * d + x).toNat = 80 * d.toNat + x.toNat by omega, show (15 * c + 1 + x).toNat = 15 * c.toNat + 1 + x.toNat by omega, p3 598 (by decide)]
      · rw [st_at]
        by_cases hi : i = x
        · rw [if_pos ⟨rfl, by rw [hi]⟩, hi]
        · rw [if_neg (fun q => by omega)]; exact p6 i i1 (by omega)
    · intro n2 x B hx2 ⟨p1, p2, p3, p4, p5, p6, p7⟩
      have ex : x = sz := by omega
      subst ex
      show CW_ C v c d m hr x s1 s2 s3 (f_X12_card_156 SH0_ 592 d m t hr (15 * c) (n2 + 1) B x)
      have eB : B 597 d.toNat = x := by rw [p3 597 (by decide), hs]
      have eB62 : B 593 1062 = c := by rw [p4 1062 (by omega), hc]
      refine ⟨st_m (st_m (st_m (st_m (st_m (st_m B 593 (15 * c.toNat + 9) m) 593 (15 * c.toNat + 10) s1) 593 (15 * c.toNat + 11) s2) 593 (15 * c.toNat + 12) hr) 593 (15 * c.toNat + 13) s3) 593 1062 (c + 1), ?_, ?_, ?_, ?_, ?_, ?_, ?_, ?_, ?_, ?_, ?_, ?_⟩
      · rw [f_X12_card_156, bqr_592_4, bqi_597 h1 h2, eB, if_neg (by omega)]
        simp (disch := omega) only [↓bqr_C, ↓bqr_D, ↓bqr_N2, ↓bqr_N3, ↓bqr_O, ↓bqr_Q, ↓bqr_W, ↓bqr_S1, ↓bqr_S4, ↓bqr_T2, ↓bqr_T3, ↓bqr_F, ↓bqr_H, ↓bqa_C, ↓bqa_N, ↓bqa_U, ↓bqa_Y, ↓bqa_W, ↓bqa_S, ↓bqgkC_1, ↓bqgkC_2, ↓bqgkC_3, ↓bqgkC_4, ↓bqgkC_5, ↓bqgkC_6, ↓bqgkD_1, ↓bqgkN_0, ↓bqgkN_1, ↓bqgkO_1, ↓bqgkQ_1, ↓bqgkW_1, ↓bqgkS_0, ↓bqgkS_2, ↓bqgkS_3, ↓bqgkT_0, ↓bqgkT_1, ↓bqgkF_1, ↓bqgkH_1, ↓bqgkU_0, ↓bqgkU_1, ↓bqgkU_2, ↓bqgkU_3, ↓bqgkU_4, ↓bqgkY_0, ↓bqgkY_1, ↓bqgkY_2, ↓bqikE_, ↓bqikP_, ↓bqikR_, ↓bqikX_, ↓bqikG_, ↓bqikI_, ↓bqikJ_, ↓bqvkC_, ↓bqvkD_, ↓bqvkN_, ↓bqvkO_, ↓bqvkQ_, ↓bqvkU_, ↓bqvkY_, ↓bqvkW_, ↓bqvkS_, ↓bqvkT_, ↓bqvkF_, ↓bqvkH_, ↓bqr_0_0, ↓bqr_0_1, ↓bqr_0_3, ↓bqr_0_4, ↓bqr_0_5, ↓bqr_0_6, ↓bqr_0_7, ↓bqr_0_8, ↓bqr_1_0, ↓bqr_1_1, ↓bqr_1_2, ↓bqr_1_3, ↓bqr_1_5, ↓bqr_1_8, ↓bqr_1_10, ↓bqr_1_12, ↓bqr_1_13, ↓bqr_518_0, ↓bqr_518_1, ↓bqr_518_2, ↓bqr_518_6, ↓bqr_518_7, ↓bqr_524_0, ↓bqr_524_2, ↓bqr_524_4, ↓bqr_528_0, ↓bqr_528_1, ↓bqr_531_0, ↓bqr_531_1, ↓bqr_531_3, ↓bqr_592_0, ↓bqr_592_1, ↓bqr_592_2, ↓bqr_592_3, ↓bqr_592_4, ↓bqr_592_5, ↓bqr_592_6, ↓bqr_592_7, ↓bqr_592_11, ↓bqr_592_12, ↓bqr_592_13, ↓bqr_592_17, ↓bqr_592_18, ↓bqr_592_19, ↓bqr_592_23, ↓bqr_592_26, ↓bqr_592_27, ↓bqr_592_28, ↓bqg_0_2, ↓bqg_1_4, ↓bqg_1_6, ↓bqg_1_7, ↓bqg_1_9, ↓bqg_1_11, ↓bqg_1_14, ↓bqg_518_3, ↓bqg_518_4, ↓bqg_518_5, ↓bqg_518_8, ↓bqg_518_9, ↓bqg_524_1, ↓bqg_524_3, ↓bqg_528_2, ↓bqg_528_3, ↓bqg_531_2, ↓bqg_535_0, ↓bqg_535_1, ↓bqg_535_2, ↓bqg_535_3, ↓bqg_535_4, ↓bqg_592_8, ↓bqg_592_9, ↓bqg_592_10, ↓bqg_592_14, ↓bqg_592_15, ↓bqg_592_16, ↓bqg_592_20, ↓bqg_592_21, ↓bqg_592_22, ↓bqg_592_24, ↓bqg_592_25, ↓bqg_592_29, ↓bqg_592_30, ↓bqg_592_31, ↓bqg_592_32, ↓bqv_0, ↓bqv_1, ↓bqv_259, ↓bqv_518, ↓bqv_524, ↓bqv_528, ↓bqv_531, ↓bqv_535, ↓bqv_592, ↓bqi_2, ↓bqi_3, ↓bqi_4, ↓bqi_10, ↓bqi_519, ↓bqi_520, ↓bqi_521, ↓bqi_522, ↓bqi_523, ↓bqi_525, ↓bqi_526, ↓bqi_527, ↓bqi_529, ↓bqi_530, ↓bqi_532, ↓bqi_533, ↓bqi_534, ↓bqi_593, ↓bqi_594, ↓bqi_595, ↓bqi_596, ↓bqi_597, ↓bqi_598, ↓bqi_599, ↓bqi_600, ↓bqi_601, ↓bqi_602, ↓bqi_603, ↓bqi_604, ↓bqi_605, ↓bqi_606, ↓bqi_608, ↓bqi_609, ↓bqi_610, ↓bqz_607, ↓Option.bind_some, ↓bc_isIn, ↓bm_isIn, ↓bm_isShelf, i01, i10, j01, if_true, if_false, not_true_eq_false, not_false_eq_true, and_true, true_and, and_self, false_and, and_false, ↓reduceIte, Int.reduceEq, Int.reduceLT, Int.reduceLE, Int.reduceNeg, Int.reduceAdd, Int.reduceSub, Int.reduceMul, Int.reduceNe, Int.reduceToNat, Nat.reduceAdd, Nat.reduceMul, Nat.reduceEqDiff, ↓bqpkC_1, ↓bqpkC_2, ↓bqpkC_3, ↓bqpkC_4, ↓bqpkC_5, ↓bqpkC_6, ↓bqpkD_1, ↓bqpkN_0, ↓bqpkN_1, ↓bqpkO_1, ↓bqpkQ_1, ↓bqpkW_1, ↓bqpkS_0, ↓bqpkS_2, ↓bqpkS_3, ↓bqpkT_0, ↓bqpkT_1, ↓bqpkF_1, ↓bqpkH_1, ↓bqpkU_0, ↓bqpkU_1, ↓bqpkU_2, ↓bqpkU_3, ↓bqpkU_4, ↓bqpkY_0, ↓bqpkY_1, ↓bqpkY_2, ↓bqskE_, ↓bqskP_, ↓bqskR_, ↓bqskX_, ↓bqskG_, ↓bqskI_, ↓bqskJ_, ↓bqp_0_2, ↓bqp_1_4, ↓bqp_1_6, ↓bqp_1_7, ↓bqp_1_9, ↓bqp_1_11, ↓bqp_1_14, ↓bqp_518_3, ↓bqp_518_4, ↓bqp_518_5, ↓bqp_518_8, ↓bqp_518_9, ↓bqp_524_1, ↓bqp_524_3, ↓bqp_528_2, ↓bqp_528_3, ↓bqp_531_2, ↓bqp_535_0, ↓bqp_535_1, ↓bqp_535_2, ↓bqp_535_3, ↓bqp_535_4, ↓bqp_592_8, ↓bqp_592_9, ↓bqp_592_10, ↓bqp_592_14, ↓bqp_592_15, ↓bqp_592_16, ↓bqp_592_20, ↓bqp_592_21, ↓bqp_592_22, ↓bqp_592_24, ↓bqp_592_25, ↓bqp_592_29, ↓bqp_592_30, ↓bqp_592_31, ↓bqp_592_32, ↓bqs_2, ↓bqs_3, ↓bqs_4, ↓bqs_10, ↓bqs_519, ↓bqs_520, ↓bqs_521, ↓bqs_522, ↓bqs_523, ↓bqs_525, ↓bqs_526, ↓bqs_527, ↓bqs_529, ↓bqs_530, ↓bqs_532, ↓bqs_533, ↓bqs_534, ↓bqs_593, ↓bqs_594, ↓bqs_595, ↓bqs_596, ↓bqs_597, ↓bqs_598, ↓bqs_599, ↓bqs_600, ↓bqs_601, ↓bqs_602, ↓bqs_603, ↓bqs_604, ↓bqs_605, ↓bqs_606, ↓bqs_608, ↓bqs_609, ↓bqs_610, ↓bqt_607, wr_n, e1, e2, e3, show (15 * c + 9).toNat = 15 * c.toNat + 9 by omega, show (15 * c + 10).toNat = 15 * c.toNat + 10 by omega, show (15 * c + 11).toNat = 15 * c.toNat + 11 by omega, show (15 * c + 12).toNat = 15 * c.toNat + 12 by omega, show (15 * c + 13).toNat = 15 * c.toNat + 13 by omega, st_k, st_e, eB62, Int.add_sub_cancel]
      · intro a ha; rw [st_o2 ha, st_o2 ha, st_o2 ha, st_o2 ha, st_o2 ha, st_o2 ha, p3 a ha]
      · intro k hk; rw [st_k hk.2, st_k (by omega), st_k (by omega), st_k (by omega), st_k (by omega), st_k (by omega), p4 k hk.1]
      · exact st_e
      · rw [st_k (by omega), st_k (by omega), st_k (by omega), st_k (by omega), st_k (by omega), st_k (by omega), p5]
      · intro i i1 i2; rw [st_k (by omega), st_k (by omega), st_k (by omega), st_k (by omega), st_k (by omega), st_k (by omega)]; exact p6 i i1 i2
      · rw [st_k (by omega), st_k (by omega), st_k (by omega), st_k (by omega), st_k (by omega), st_e]
      · rw [st_k (by omega), st_k (by omega), st_k (by omega), st_k (by omega), st_e]
      · rw [st_k (by omega), st_k (by omega), st_k (by omega), st_e]
      · rw [st_k (by omega), st_k (by omega), st_e]
      · rw [st_k (by omega), st_e]
      · rw [st_k (by omega), st_k (by omega), st_k (by omega), st_k (by omega), st_k (by omega), st_k (by omega), p7]
