/-! deep: what the class keeps of all sounds, and what it asks of a row -/
theorem sm_54 {B C : Mem_m} (h : ∀ a, a ≠ 524 → a ≠ 525 → a ≠ 526 → a ≠ 527 → C a = B a) : sm_ B C := ⟨fun a a1 a2 a3 a4 => h a (by omega) (by omega) (by omega) (by omega), by rw [h 0 (by decide) (by decide) (by decide) (by decide)], by rw [h 592 (by decide) (by decide) (by decide) (by decide)]⟩
theorem ls_g {f : Nat → Int} {xs : List Int} (h : ls_ f xs.length = xs) {i : Nat} (hi : i < xs.length) : xs.drop i = f i :: xs.drop (i + 1) := by
  have e : xs[i] = f i := by
    have h2 : (ls_ f xs.length)[i]? = xs[i]? := by rw [h]
    unfold ls_ at h2
    rw [List.getElem?_map, List.getElem?_range hi, List.getElem?_eq_getElem hi] at h2
    exact (Option.some.inj h2).symm
  rw [List.drop_eq_getElem_cons hi, e]
theorem ls_a {f : Nat → Int} {n : Nat} : ∀ m : Nat, ls_ f (n + m) = ls_ f n ++ ls_ (fun j => f (n + j)) m
  | 0 => by show ls_ f n = _; rw [ls_0, List.append_nil]
  | m + 1 => by rw [show n + (m + 1) = (n + m) + 1 from rfl, ls_s, ls_s, ls_a m, List.append_assoc]
def tg_ (v : Nat → Int) (c : Int) : List Int := ls_ (fun j => vs_ v c (j : Int)) (vz_ v c).toNat
theorem tg_l {v : Nat → Int} {c : Int} : (tg_ v c).length = (vz_ v c).toNat := ls_l
theorem tg_d {v : Nat → Int} {c : Int} {q : Nat} (hq : q < (vz_ v c).toNat) : (tg_ v c).drop q = vs_ v c (q : Int) :: (tg_ v c).drop (q + 1) :=
  ls_g (f := fun j => vs_ v c (j : Int)) (by rw [tg_l]; rfl) (by rw [tg_l]; exact hq)
section
variable {A : Mem_m} {v : Nat → Int} {c : Int}
theorem c_chance29 {k : Mem_m → Int → Option Mem_m} (hV : Vw A v) (c0 : 0 ≤ c) (c1 : c < v 1062) {s u : Nat} (hs : s < 10) (hu : u < 131072) (hO : ∀ j : Nat, O_ v s (v 1064).toNat j → u.testBit j = true) {B : Mem_m} (hB : ∀ a, a ≠ 527 → B a = A a) (hB0 : B 527 s = ((u &&& 65536 : Nat) : Int)) : ∃ B', f_X3_findChances_29 SH0_ k 524 1 (kD_ c) (s : Int) (u : Int) FU_ B 0 = k B' ((s : Int) + 1) ∧ (∀ a, a ≠ 527 → B' a = A a) ∧ (∀ j, j ≠ s → B' 527 j = B 527 j) ∧ ∃ n : Nat, B' 527 s = (n : Int) ∧ CQ_ v c s n := by
  have b4 := vb_4 hV
  have bz := vb_size hV c0 c1
  have hkD : kD_ c = 12 + 3 * c.toNat := by rw [k3kD_]; omega
  have hkE : kE_ c = 13 + 3 * c.toNat := by rw [k3kE_]; omega
  refine lp_run (A := Mem_m) (fun n x C => f_X3_findChances_29 SH0_ k 524 1 (kD_ c) (s : Int) (u : Int) n C x) (vz_ v c) (fun x C => 0 ≤ x ∧ x ≤ vz_ v c ∧ (∀ a, a ≠ 527 → C a = A a) ∧ (∀ j, j ≠ s → C 527 j = B 527 j) ∧ ∃ n : Nat, C 527 s = (n : Int) ∧ n < 131072 ∧ (∀ j, n.testBit j = true → j < 8 ∨ j = 16) ∧ (u.testBit 16 = true → n.testBit 16 = true) ∧ ∀ p : Nat, (p : Int) < x → u.testBit (vs_ v c p).toNat = true → n.testBit p = true) (fun o => ∃ B', o = k B' ((s : Int) + 1) ∧ (∀ a, a ≠ 527 → B' a = A a) ∧ (∀ j, j ≠ s → B' 527 j = B 527 j) ∧ ∃ n : Nat, B' 527 s = (n : Int) ∧ CQ_ v c s n) ?_ ?_ FU_ 0 B (by unfold FU_; omega) ⟨by omega, by omega, hB, fun _ _ => rfl, u &&& 65536, hB0, Nat.lt_of_le_of_lt Nat.and_le_left hu, fun j hj => Or.inr ?_, fun h => and_bit.mpr ⟨h, by decide⟩, fun p hp => absurd hp (by omega)⟩
  · intro n x C hx ⟨q1, q2, q3, q4, w, w1, w2, w3, w4, w5⟩
    obtain ⟨p, rfl⟩ := int_nat q1
    have ez : C (kD_ c) 1 = vz_ v c := by rw [q3 _ (by omega)]; exact vw_size hV c0 c1
    have es : C (kE_ c) p = vs_ v c p := by rw [q3 _ (by omega)]; exact vw_snd (i := (p : Int)) hV c0 c1 (by omega) hx
    have bs := vb_snd hV c0 c1 q1 hx
    obtain ⟨t, ht⟩ : ∃ t : Nat, vs_ v c (p : Int) = t := int_nat bs.1
    rw [ht] at es
    have eb : an_i (sr_i (u : Int) (t : Int)) 1 = b_ u t := bit_nat (by omega) (by omega)
    refine Or.inl ?_
    show ∃ C', f_X3_findChances_29 SH0_ k 524 1 (kD_ c) (s : Int) (u : Int) (n + 1) C (p : Int) = f_X3_findChances_29 SH0_ k 524 1 (kD_ c) (s : Int) (u : Int) n C' ((p : Int) + 1) ∧ _
    rw [f_X3_findChances_29]
    rcases b_c u t with b0 | b0
    · rw [b0] at eb
      refine ⟨C, ?_, by omega, by omega, q3, q4, w, w1, w2, w3, w4, fun p' hp' hb => ?_⟩
      · simp (disch := omega) only [↓bqr_C, ↓bqr_D, ↓bqr_N2, ↓bqr_N3, ↓bqr_O, ↓bqr_Q, ↓bqr_W, ↓bqr_S1, ↓bqr_S4, ↓bqr_T2, ↓bqr_T3, ↓bqr_F, ↓bqr_H, ↓bqa_C, ↓bqa_N, ↓bqa_U, ↓bqa_Y, ↓bqa_W, ↓bqa_S, ↓bqgkC_1, ↓bqgkC_2, ↓bqgkC_3, ↓bqgkC_4, ↓bqgkC_5, ↓bqgkC_6, ↓bqgkD_1, ↓bqgkN_0, ↓bqgkN_1, ↓bqgkO_1, ↓bqgkQ_1, ↓bqgkW_1, ↓bqgkS_0, ↓bqgkS_2, ↓bqgkS_3, ↓bqgkT_0, ↓bqgkT_1, ↓bqgkF_1, ↓bqgkH_1, ↓bqgkU_0, ↓bqgkU_1, ↓bqgkU_2, ↓bqgkU_3, ↓bqgkU_4, ↓bqgkY_0, ↓bqgkY_1, ↓bqgkY_2, ↓bqikE_, ↓bqikP_, ↓bqikR_, ↓bqikX_, ↓bqikG_, ↓bqikI_, ↓bqikJ_, ↓bqvkC_, ↓bqvkD_, ↓bqvkN_, ↓bqvkO_, ↓bqvkQ_, ↓bqvkU_, ↓bqvkY_, ↓bqvkW_, ↓bqvkS_, ↓bqvkT_, ↓bqvkF_, ↓bqvkH_, ↓bqr_0_0, ↓bqr_0_1, ↓bqr_0_3, ↓bqr_0_4, ↓bqr_0_5, ↓bqr_0_6, ↓bqr_0_7, ↓bqr_0_8, ↓bqr_1_0, ↓bqr_1_1, ↓bqr_1_2, ↓bqr_1_3, ↓bqr_1_5, ↓bqr_1_8, ↓bqr_1_10, ↓bqr_1_12, ↓bqr_1_13, ↓bqr_518_0, ↓bqr_518_1, ↓bqr_518_2, ↓bqr_518_6, ↓bqr_518_7, ↓bqr_524_0, ↓bqr_524_2, ↓bqr_524_4, ↓bqr_528_0, ↓bqr_528_1, ↓bqr_531_0, ↓bqr_531_1, ↓bqr_531_3, ↓bqr_592_0, ↓bqr_592_1, ↓bqr_592_2, ↓bqr_592_3, ↓bqr_592_4, ↓bqr_592_5, ↓bqr_592_6, ↓bqr_592_7, ↓bqr_592_11, ↓bqr_592_12, ↓bqr_592_13, ↓bqr_592_17, ↓bqr_592_18, ↓bqr_592_19, ↓bqr_592_23, ↓bqr_592_26, ↓bqr_592_27, ↓bqr_592_28, ↓bqg_0_2, ↓bqg_1_4, ↓bqg_1_6, ↓bqg_1_7, ↓bqg_1_9, ↓bqg_1_11, ↓bqg_1_14, ↓bqg_518_3, ↓bqg_518_4, ↓bqg_518_5, ↓bqg_518_8, ↓bqg_518_9, ↓bqg_524_1, ↓bqg_524_3, ↓bqg_528_2, ↓bqg_528_3, ↓bqg_531_2, ↓bqg_535_0, ↓bqg_535_1, ↓bqg_535_2, ↓bqg_535_3, ↓bqg_535_4, ↓bqg_592_8, ↓bqg_592_9, ↓bqg_592_10, ↓bqg_592_14, ↓bqg_592_15, ↓bqg_592_16, ↓bqg_592_20, ↓bqg_592_21, ↓bqg_592_22, ↓bqg_592_24, ↓bqg_592_25, ↓bqg_592_29, ↓bqg_592_30, ↓bqg_592_31, ↓bqg_592_32, ↓bqv_0, ↓bqv_1, ↓bqv_259, ↓bqv_518, ↓bqv_524, ↓bqv_528, ↓bqv_531, ↓bqv_535, ↓bqv_592, ↓bqi_2, ↓bqi_3, ↓bqi_4, ↓bqi_10, ↓bqi_519, ↓bqi_520, ↓bqi_521, ↓bqi_522, ↓bqi_523, ↓bqi_525, ↓bqi_526, ↓bqi_527, ↓bqi_529, ↓bqi_530, ↓bqi_532, ↓bqi_533, ↓bqi_534, ↓bqi_593, ↓bqi_594, ↓bqi_595, ↓bqi_596, ↓bqi_597, ↓bqi_598, ↓bqi_599, ↓bqi_600, ↓bqi_601, ↓bqi_602, ↓bqi_603, ↓bqi_604, ↓bqi_605, ↓bqi_606, ↓bqi_608, ↓bqi_609, ↓bqi_610, ↓bqz_607, ↓Option.bind_some, ↓bc_isIn, ↓bm_isIn, ↓bm_isShelf, i01, i10, j01, if_true, if_false, not_true_eq_false, not_false_eq_true, and_true, true_and, and_self, false_and, and_false, ↓reduceIte, Int.reduceEq, Int.reduceLT, Int.reduceLE, Int.reduceNeg, Int.reduceAdd, Int.reduceSub, Int.reduceMul, Int.reduceNe, Int.reduceToNat, Nat.reduceAdd, Nat.reduceMul, Nat.reduceEqDiff, ez, hx, Int.toNat_natCast, es, eb, wr_n]
      · by_cases e : p' = p
        · rw [e, ht, show ((t : Int)).toNat = t from rfl, b_0.mp b0] at hb; cases hb
        · exact w5 p' (by omega) hb
    · rw [b0] at eb
      have hpw : 2 ^ p < 131072 := Nat.pow_lt_pow_right (n := 17) (by decide) (by omega)
      have eo : or_i (w : Int) (sl_i 1 (p : Int)) = ((w ||| 2 ^ p : Nat) : Int) := by rw [sl_nat (by omega), or_nat (by omega) (by omega)]
      refine ⟨st_m C 527 s ((w ||| 2 ^ p : Nat) : Int), ?_, by omega, by omega, fun a ha => by rw [st_o2 ha, q3 a ha], fun j hj => by rw [st_k hj, q4 j hj], w ||| 2 ^ p, st_e, Nat.or_lt_two_pow (n := 17) w2 hpw, fun j hj => ?_, fun h => or_bit.mpr (Or.inl (w4 h)), fun p' hp' hb => ?_⟩
      · simp (disch := omega) only [↓bqr_C, ↓bqr_D, ↓bqr_N2, ↓bqr_N3, ↓bqr_O, ↓bqr_Q, ↓bqr_W, ↓bqr_S1, ↓bqr_S4, ↓bqr_T2, ↓bqr_T3, ↓bqr_F, ↓bqr_H, ↓bqa_C, ↓bqa_N, ↓bqa_U, ↓bqa_Y, ↓bqa_W, ↓bqa_S, ↓bqgkC_1, ↓bqgkC_2, ↓bqgkC_3, ↓bqgkC_4, ↓bqgkC_5, ↓bqgkC_6, ↓bqgkD_1, ↓bqgkN_0, ↓bqgkN_1, ↓bqgkO_1, ↓bqgkQ_1, ↓bqgkW_1, ↓bqgkS_0, ↓bqgkS_2, ↓bqgkS_3, ↓bqgkT_0, ↓bqgkT_1, ↓bqgkF_1, ↓bqgkH_1, ↓bqgkU_0, ↓bqgkU_1, ↓bqgkU_2, ↓bqgkU_3, ↓bqgkU_4, ↓bqgkY_0, ↓bqgkY_1, ↓bqgkY_2, ↓bqikE_, ↓bqikP_, ↓bqikR_, ↓bqikX_, ↓bqikG_, ↓bqikI_, ↓bqikJ_, ↓bqvkC_, ↓bqvkD_, ↓bqvkN_, ↓bqvkO_, ↓bqvkQ_, ↓bqvkU_, ↓bqvkY_, ↓bqvkW_, ↓bqvkS_, ↓bqvkT_, ↓bqvkF_, ↓bqvkH_, ↓bqr_0_0, ↓bqr_0_1, ↓bqr_0_3, ↓bqr_0_4, ↓bqr_0_5, ↓bqr_0_6, ↓bqr_0_7, ↓bqr_0_8, ↓bqr_1_0, ↓bqr_1_1, ↓bqr_1_2, ↓bqr_1_3, ↓bqr_1_5, ↓bqr_1_8, ↓bqr_1_10, ↓bqr_1_12, ↓bqr_1_13, ↓bqr_518_0, ↓bqr_518_1, ↓bqr_518_2, ↓bqr_518_6, ↓bqr_518_7, ↓bqr_524_0, ↓bqr_524_2, ↓bqr_524_4, ↓bqr_528_0, ↓bqr_528_1, ↓bqr_531_0, ↓bqr_531_1, ↓bqr_531_3, ↓bqr_592_0, ↓bqr_592_1, ↓bqr_592_2, ↓bqr_592_3, ↓bqr_592_4, ↓bqr_592_5, ↓bqr_592_6, ↓bqr_592_7, ↓bqr_592_11, ↓bqr_592_12, ↓bqr_592_13, ↓bqr_592_17, ↓bqr_592_18, ↓bqr_592_19, ↓bqr_592_23, ↓bqr_592_26, ↓bqr_592_27, ↓bqr_592_28, ↓bqg_0_2, ↓bqg_1_4, ↓bqg_1_6, ↓bqg_1_7, ↓bqg_1_9, ↓bqg_1_11, ↓bqg_1_14, ↓bqg_518_3, ↓bqg_518_4, ↓bqg_518_5, ↓bqg_518_8, ↓bqg_518_9, ↓bqg_524_1, ↓bqg_524_3, ↓bqg_528_2, ↓bqg_528_3, ↓bqg_531_2, ↓bqg_535_0, ↓bqg_535_1, ↓bqg_535_2, ↓bqg_535_3, ↓bqg_535_4, ↓bqg_592_8, ↓bqg_592_9, ↓bqg_592_10, ↓bqg_592_14, ↓bqg_592_15, ↓bqg_592_16, ↓bqg_592_20, ↓bqg_592_21, ↓bqg_592_22, ↓bqg_592_24, ↓bqg_592_25, ↓bqg_592_29, ↓bqg_592_30, ↓bqg_592_31, ↓bqg_592_32, ↓bqv_0, ↓bqv_1, ↓bqv_259, ↓bqv_518, ↓bqv_524, ↓bqv_528, ↓bqv_531, ↓bqv_535, ↓bqv_592, ↓bqi_2, ↓bqi_3, ↓bqi_4, ↓bqi_10, ↓bqi_519, ↓bqi_520, ↓bqi_521, ↓bqi_522, ↓bqi_523, ↓bqi_525, ↓bqi_526, ↓bqi_527, ↓bqi_529, ↓bqi_530, ↓bqi_532, ↓bqi_533, ↓bqi_534, ↓bqi_593, ↓bqi_594, ↓bqi_595, ↓bqi_596, ↓bqi_597, ↓bqi_598, ↓bqi_599, ↓bqi_600, ↓bqi_601, ↓bqi_602, ↓bqi_603, ↓bqi_604, ↓bqi_605, ↓bqi_606, ↓bqi_608, ↓bqi_609, ↓bqi_610, ↓bqz_607, ↓Option.bind_some, ↓bc_isIn, ↓bm_isIn, ↓bm_isShelf, i01, i10, j01, if_true, if_false, not_true_eq_false, not_false_eq_true, and_true, true_and, and_self, false_and, and_false, ↓reduceIte, Int.reduceEq, Int.reduceLT, Int.reduceLE, Int.reduceNeg, Int.reduceAdd, Int.reduceSub, Int.reduceMul, Int.reduceNe, Int.reduceToNat, Nat.reduceAdd, Nat.reduceMul, Nat.reduceEqDiff, ↓bqpkC_1, ↓bqpkC_2, ↓bqpkC_3, ↓bqpkC_4, ↓bqpkC_5, ↓bqpkC_6, ↓bqpkD_1, ↓bqpkN_0, ↓bqpkN_1, ↓bqpkO_1, ↓bqpkQ_1, ↓bqpkW_1, ↓bqpkS_0, ↓bqpkS_2, ↓bqpkS_3, ↓bqpkT_0, ↓bqpkT_1, ↓bqpkF_1, ↓bqpkH_1, ↓bqpkU_0, ↓bqpkU_1, ↓bqpkU_2, ↓bqpkU_3, ↓bqpkU_4, ↓bqpkY_0, ↓bqpkY_1, ↓bqpkY_2, ↓bqskE_, ↓bqskP_, ↓bqskR_, ↓bqskX_, ↓bqskG_, ↓bqskI_, ↓bqskJ_, ↓bqp_0_2, ↓bqp_1_4, ↓bqp_1_6, ↓bqp_1_7, ↓bqp_1_9, ↓bqp_1_11, ↓bqp_1_14, ↓bqp_518_3, ↓bqp_518_4, ↓bqp_518_5, ↓bqp_518_8, ↓bqp_518_9, ↓bqp_524_1, ↓bqp_524_3, ↓bqp_528_2, ↓bqp_528_3, ↓bqp_531_2, ↓bqp_535_0, ↓bqp_535_1, ↓bqp_535_2, ↓bqp_535_3, ↓bqp_535_4, ↓bqp_592_8, ↓bqp_592_9, ↓bqp_592_10, ↓bqp_592_14, ↓bqp_592_15, ↓bqp_592_16, ↓bqp_592_20, ↓bqp_592_21, ↓bqp_592_22, ↓bqp_592_24, ↓bqp_592_25, ↓bqp_592_29, ↓bqp_592_30, ↓bqp_592_31, ↓bqp_592_32, ↓bqs_2, ↓bqs_3, ↓bqs_4, ↓bqs_10, ↓bqs_519, ↓bqs_520, ↓bqs_521, ↓bqs_522, ↓bqs_523, ↓bqs_525, ↓bqs_526, ↓bqs_527, ↓bqs_529, ↓bqs_530, ↓bqs_532, ↓bqs_533, ↓bqs_534, ↓bqs_593, ↓bqs_594, ↓bqs_595, ↓bqs_596, ↓bqs_597, ↓bqs_598, ↓bqs_599, ↓bqs_600, ↓bqs_601, ↓bqs_602, ↓bqs_603, ↓bqs_604, ↓bqs_605, ↓bqs_606, ↓bqs_608, ↓bqs_609, ↓bqs_610, ↓bqt_607, ez, hx, Int.toNat_natCast, es, eb, w1, eo, wr_n]
      · rcases or_bit.mp hj with h | h
        · exact w3 j h
        · have := pw_bit.mp h; omega
      · by_cases e : p' = p
        · rw [e]; exact or_bit.mpr (Or.inr (pw_bit.mpr rfl))
        · exact or_bit.mpr (Or.inl (w5 p' (by omega) hb))
  · intro n x C hx ⟨q1, q2, q3, q4, w, w1, w2, w3, w4, w5⟩
    have ex : x = vz_ v c := by omega
    subst ex
    have ez : C (kD_ c) 1 = vz_ v c := by rw [q3 _ (by omega)]; exact vw_size hV c0 c1
    refine ⟨C, ?_, q3, q4, w, w1, w2, w3, fun h => w4 (hO 16 h), fun p hp h => w5 p hp ?_⟩
    · show f_X3_findChances_29 SH0_ k 524 1 (kD_ c) (s : Int) (u : Int) (n + 1) C (vz_ v c) = _
      rw [f_X3_findChances_29]
      simp (disch := omega) only [↓bqr_C, ↓bqr_D, ↓bqr_N2, ↓bqr_N3, ↓bqr_O, ↓bqr_Q, ↓bqr_W, ↓bqr_S1, ↓bqr_S4, ↓bqr_T2, ↓bqr_T3, ↓bqr_F, ↓bqr_H, ↓bqa_C, ↓bqa_N, ↓bqa_U, ↓bqa_Y, ↓bqa_W, ↓bqa_S, ↓bqgkC_1, ↓bqgkC_2, ↓bqgkC_3, ↓bqgkC_4, ↓bqgkC_5, ↓bqgkC_6, ↓bqgkD_1, ↓bqgkN_0, ↓bqgkN_1, ↓bqgkO_1, ↓bqgkQ_1, ↓bqgkW_1, ↓bqgkS_0, ↓bqgkS_2, ↓bqgkS_3, ↓bqgkT_0, ↓bqgkT_1, ↓bqgkF_1, ↓bqgkH_1, ↓bqgkU_0, ↓bqgkU_1, ↓bqgkU_2, ↓bqgkU_3, ↓bqgkU_4, ↓bqgkY_0, ↓bqgkY_1, ↓bqgkY_2, ↓bqikE_, ↓bqikP_, ↓bqikR_, ↓bqikX_, ↓bqikG_, ↓bqikI_, ↓bqikJ_, ↓bqvkC_, ↓bqvkD_, ↓bqvkN_, ↓bqvkO_, ↓bqvkQ_, ↓bqvkU_, ↓bqvkY_, ↓bqvkW_, ↓bqvkS_, ↓bqvkT_, ↓bqvkF_, ↓bqvkH_, ↓bqr_0_0, ↓bqr_0_1, ↓bqr_0_3, ↓bqr_0_4, ↓bqr_0_5, ↓bqr_0_6, ↓bqr_0_7, ↓bqr_0_8, ↓bqr_1_0, ↓bqr_1_1, ↓bqr_1_2, ↓bqr_1_3, ↓bqr_1_5, ↓bqr_1_8, ↓bqr_1_10, ↓bqr_1_12, ↓bqr_1_13, ↓bqr_518_0, ↓bqr_518_1, ↓bqr_518_2, ↓bqr_518_6, ↓bqr_518_7, ↓bqr_524_0, ↓bqr_524_2, ↓bqr_524_4, ↓bqr_528_0, ↓bqr_528_1, ↓bqr_531_0, ↓bqr_531_1, ↓bqr_531_3, ↓bqr_592_0, ↓bqr_592_1, ↓bqr_592_2, ↓bqr_592_3, ↓bqr_592_4, ↓bqr_592_5, ↓bqr_592_6, ↓bqr_592_7, ↓bqr_592_11, ↓bqr_592_12, ↓bqr_592_13, ↓bqr_592_17, ↓bqr_592_18, ↓bqr_592_19, ↓bqr_592_23, ↓bqr_592_26, ↓bqr_592_27, ↓bqr_592_28, ↓bqg_0_2, ↓bqg_1_4, ↓bqg_1_6, ↓bqg_1_7, ↓bqg_1_9, ↓bqg_1_11, ↓bqg_1_14, ↓bqg_518_3, ↓bqg_518_4, ↓bqg_518_5, ↓bqg_518_8, ↓bqg_518_9, ↓bqg_524_1, ↓bqg_524_3, ↓bqg_528_2, ↓bqg_528_3, ↓bqg_531_2, ↓bqg_535_0, ↓bqg_535_1, ↓bqg_535_2, ↓bqg_535_3, ↓bqg_535_4, ↓bqg_592_8, ↓bqg_592_9, ↓bqg_592_10, ↓bqg_592_14, ↓bqg_592_15, ↓bqg_592_16, ↓bqg_592_20, ↓bqg_592_21, ↓bqg_592_22, ↓bqg_592_24, ↓bqg_592_25, ↓bqg_592_29, ↓bqg_592_30, ↓bqg_592_31, ↓bqg_592_32, ↓bqv_0, ↓bqv_1, ↓bqv_259, ↓bqv_518, ↓bqv_524, ↓bqv_528, ↓bqv_531, ↓bqv_535, ↓bqv_592, ↓bqi_2, ↓bqi_3, ↓bqi_4, ↓bqi_10, ↓bqi_519, ↓bqi_520, ↓bqi_521, ↓bqi_522, ↓bqi_523, ↓bqi_525, ↓bqi_526, ↓bqi_527, ↓bqi_529, ↓bqi_530, ↓bqi_532, ↓bqi_533, ↓bqi_534, ↓bqi_593, ↓bqi_594, ↓bqi_595, ↓bqi_596, ↓bqi_597, ↓bqi_598, ↓bqi_599, ↓bqi_600, ↓bqi_601, ↓bqi_602, ↓bqi_603, ↓bqi_604, ↓bqi_605, ↓bqi_606, ↓bqi_608, ↓bqi_609, ↓bqi_610, ↓bqz_607, ↓Option.bind_some, ↓bc_isIn, ↓bm_isIn, ↓bm_isShelf, i01, i10, j01, if_true, if_false, not_true_eq_false, not_false_eq_true, and_true, true_and, and_self, false_and, and_false, ↓reduceIte, Int.reduceEq, Int.reduceLT, Int.reduceLE, Int.reduceNeg, Int.reduceAdd, Int.reduceSub, Int.reduceMul, Int.reduceNe, Int.reduceToNat, Nat.reduceAdd, Nat.reduceMul, Nat.reduceEqDiff, ez, Int.lt_irrefl, wr_n]
    · have bs := vb_snd hV c0 c1 (i := (p : Int)) (by omega) hp
      refine hO _ ?_
      rw [show (((vs_ v c (p : Int)).toNat : Nat) : Int) = vs_ v c (p : Int) by omega]
      exact h
  · have h2 := (and_bit.mp hj).2
    rw [show (65536 : Nat) = 2 ^ 16 from rfl] at h2
    exact (pw_bit.mp h2).symm
theorem c_findChances (hV : Vw A v) (c0 : 0 ≤ c) (c1 : c < v 1062) : ∃ B', f_X3_findChances SH0_ A 524 1 (kD_ c) = some B' ∧ (∀ a, a ≠ 527 → B' a = A a) ∧ CH_ v c B' := by
  unfold f_X3_findChances
  refine lp_run (A := Mem_m) (fun n x C => f_X3_findChances_2 SH0_ 524 1 (kD_ c) n C x) 10 (fun x C => 0 ≤ x ∧ x ≤ 10 ∧ (∀ a, a ≠ 527 → C a = A a) ∧ ∀ s : Nat, (s : Int) < x → ∃ n : Nat, C 527 s = (n : Int) ∧ CQ_ v c s n) (fun o => ∃ B', o = some B' ∧ (∀ a, a ≠ 527 → B' a = A a) ∧ CH_ v c B') ?_ ?_ FU_ 0 A (by unfold FU_; omega) ⟨by omega, by omega, fun _ _ => rfl, fun s hs => absurd hs (by omega)⟩
  · intro n x C hx ⟨q1, q2, q3, q4⟩
    obtain ⟨s, rfl⟩ := int_nat q1
    have hVC : Vw C v := vw_sm hV (sm_54 fun a _ _ _ h => q3 a h)
    obtain ⟨u, u1, u2, u3⟩ := c_outcomes hVC (s := s) (by omega)
    have ea : an_i (u : Int) 65536 = ((u &&& 65536 : Nat) : Int) := an_nat (m := 65536) (by omega) (by decide)
    obtain ⟨D, d1, d2, d3, d4⟩ := c_chance29 (k := fun M x3 => f_X3_findChances_2 SH0_ 524 1 (kD_ c) n M x3) hVC c0 c1 (s := s) (by omega) u2 u3 (B := st_m C 527 s ((u &&& 65536 : Nat) : Int)) (fun a ha => st_o2 ha) st_e
    refine Or.inl ⟨D, ?_, by omega, by omega, fun a ha => by rw [d2 a ha, q3 a ha], fun s' hs' => ?_⟩
    · show f_X3_findChances_2 SH0_ 524 1 (kD_ c) (n + 1) C (s : Int) = _
      rw [f_X3_findChances_2, ← d1]
      simp (disch := omega) only [↓bqr_C, ↓bqr_D, ↓bqr_N2, ↓bqr_N3, ↓bqr_O, ↓bqr_Q, ↓bqr_W, ↓bqr_S1, ↓bqr_S4, ↓bqr_T2, ↓bqr_T3, ↓bqr_F, ↓bqr_H, ↓bqa_C, ↓bqa_N, ↓bqa_U, ↓bqa_Y, ↓bqa_W, ↓bqa_S, ↓bqgkC_1, ↓bqgkC_2, ↓bqgkC_3, ↓bqgkC_4, ↓bqgkC_5, ↓bqgkC_6, ↓bqgkD_1, ↓bqgkN_0, ↓bqgkN_1, ↓bqgkO_1, ↓bqgkQ_1, ↓bqgkW_1, ↓bqgkS_0, ↓bqgkS_2, ↓bqgkS_3, ↓bqgkT_0, ↓bqgkT_1, ↓bqgkF_1, ↓bqgkH_1, ↓bqgkU_0, ↓bqgkU_1, ↓bqgkU_2, ↓bqgkU_3, ↓bqgkU_4, ↓bqgkY_0, ↓bqgkY_1, ↓bqgkY_2, ↓bqikE_, ↓bqikP_, ↓bqikR_, ↓bqikX_, ↓bqikG_, ↓bqikI_, ↓bqikJ_, ↓bqvkC_, ↓bqvkD_, ↓bqvkN_, ↓bqvkO_, ↓bqvkQ_, ↓bqvkU_, ↓bqvkY_, ↓bqvkW_, ↓bqvkS_, ↓bqvkT_, ↓bqvkF_, ↓bqvkH_, ↓bqr_0_0, ↓bqr_0_1, ↓bqr_0_3, ↓bqr_0_4, ↓bqr_0_5, ↓bqr_0_6, ↓bqr_0_7, ↓bqr_0_8, ↓bqr_1_0, ↓bqr_1_1, ↓bqr_1_2, ↓bqr_1_3, ↓bqr_1_5, ↓bqr_1_8, ↓bqr_1_10, ↓bqr_1_12, ↓bqr_1_13, ↓bqr_518_0, ↓bqr_518_1, ↓bqr_518_2, ↓bqr_518_6, ↓bqr_518_7, ↓bqr_524_0, ↓bqr_524_2, ↓bqr_524_4, ↓bqr_528_0, ↓bqr_528_1, ↓bqr_531_0, ↓bqr_531_1, ↓bqr_531_3, ↓bqr_592_0, ↓bqr_592_1, ↓bqr_592_2, ↓bqr_592_3, ↓bqr_592_4, ↓bqr_592_5, ↓bqr_592_6, ↓bqr_592_7, ↓bqr_592_11, ↓bqr_592_12, ↓bqr_592_13, ↓bqr_592_17, ↓bqr_592_18, ↓bqr_592_19, ↓bqr_592_23, ↓bqr_592_26, ↓bqr_592_27, ↓bqr_592_28, ↓bqg_0_2, ↓bqg_1_4, ↓bqg_1_6, ↓bqg_1_7, ↓bqg_1_9, ↓bqg_1_11, ↓bqg_1_14, ↓bqg_518_3, ↓bqg_518_4, ↓bqg_518_5, ↓bqg_518_8, ↓bqg_518_9, ↓bqg_524_1, ↓bqg_524_3, ↓bqg_528_2, ↓bqg_528_3, ↓bqg_531_2, ↓bqg_535_0, ↓bqg_535_1, ↓bqg_535_2, ↓bqg_535_3, ↓bqg_535_4, ↓bqg_592_8, ↓bqg_592_9, ↓bqg_592_10, ↓bqg_592_14, ↓bqg_592_15, ↓bqg_592_16, ↓bqg_592_20, ↓bqg_592_21, ↓bqg_592_22, ↓bqg_592_24, ↓bqg_592_25, ↓bqg_592_29, ↓bqg_592_30, ↓bqg_592_31, ↓bqg_592_32, ↓bqv_0, ↓bqv_1, ↓bqv_259, ↓bqv_518, ↓bqv_524, ↓bqv_528, ↓bqv_531, ↓bqv_535, ↓bqv_592, ↓bqi_2, ↓bqi_3, ↓bqi_4, ↓bqi_10, ↓bqi_519, ↓bqi_520, ↓bqi_521, ↓bqi_522, ↓bqi_523, ↓bqi_525, ↓bqi_526, ↓bqi_527, ↓bqi_529, ↓bqi_530, ↓bqi_532, ↓bqi_533, ↓bqi_534, ↓bqi_593, ↓bqi_594, ↓bqi_595, ↓bqi_596, ↓bqi_597, ↓bqi_598, ↓bqi_599, ↓bqi_600, ↓bqi_601, ↓bqi_602, ↓bqi_603, ↓bqi_604, ↓bqi_605, ↓bqi_606, ↓bqi_608, ↓bqi_609, ↓bqi_610, ↓bqz_607, ↓Option.bind_some, ↓bc_isIn, ↓bm_isIn, ↓bm_isShelf, i01, i10, j01, if_true, if_false, not_true_eq_false, not_false_eq_true, and_true, true_and, and_self, false_and, and_false, ↓reduceIte, Int.reduceEq, Int.reduceLT, Int.reduceLE, Int.reduceNeg, Int.reduceAdd, Int.reduceSub, Int.reduceMul, Int.reduceNe, Int.reduceToNat, Nat.reduceAdd, Nat.reduceMul, Nat.reduceEqDiff, ↓bqpkC_1, ↓bqpkC_2, ↓bqpkC_3, ↓bqpkC_4, ↓bqpkC_5, ↓bqpkC_6, ↓bqpkD_1, ↓bqpkN_0, ↓bqpkN_1, ↓bqpkO_1, ↓bqpkQ_1, ↓bqpkW_1, ↓bqpkS_0, ↓bqpkS_2, ↓bqpkS_3, ↓bqpkT_0, ↓bqpkT_1, ↓bqpkF_1, ↓bqpkH_1, ↓bqpkU_0, ↓bqpkU_1, ↓bqpkU_2, ↓bqpkU_3, ↓bqpkU_4, ↓bqpkY_0, ↓bqpkY_1, ↓bqpkY_2, ↓bqskE_, ↓bqskP_, ↓bqskR_, ↓bqskX_, ↓bqskG_, ↓bqskI_, ↓bqskJ_, ↓bqp_0_2, ↓bqp_1_4, ↓bqp_1_6, ↓bqp_1_7, ↓bqp_1_9, ↓bqp_1_11, ↓bqp_1_14, ↓bqp_518_3, ↓bqp_518_4, ↓bqp_518_5, ↓bqp_518_8, ↓bqp_518_9, ↓bqp_524_1, ↓bqp_524_3, ↓bqp_528_2, ↓bqp_528_3, ↓bqp_531_2, ↓bqp_535_0, ↓bqp_535_1, ↓bqp_535_2, ↓bqp_535_3, ↓bqp_535_4, ↓bqp_592_8, ↓bqp_592_9, ↓bqp_592_10, ↓bqp_592_14, ↓bqp_592_15, ↓bqp_592_16, ↓bqp_592_20, ↓bqp_592_21, ↓bqp_592_22, ↓bqp_592_24, ↓bqp_592_25, ↓bqp_592_29, ↓bqp_592_30, ↓bqp_592_31, ↓bqp_592_32, ↓bqs_2, ↓bqs_3, ↓bqs_4, ↓bqs_10, ↓bqs_519, ↓bqs_520, ↓bqs_521, ↓bqs_522, ↓bqs_523, ↓bqs_525, ↓bqs_526, ↓bqs_527, ↓bqs_529, ↓bqs_530, ↓bqs_532, ↓bqs_533, ↓bqs_534, ↓bqs_593, ↓bqs_594, ↓bqs_595, ↓bqs_596, ↓bqs_597, ↓bqs_598, ↓bqs_599, ↓bqs_600, ↓bqs_601, ↓bqs_602, ↓bqs_603, ↓bqs_604, ↓bqs_605, ↓bqs_606, ↓bqs_608, ↓bqs_609, ↓bqs_610, ↓bqt_607, hx, ↓bnd u1, ea, Int.toNat_natCast]
    · by_cases e : s' = s
      · rw [e]; exact d4
      · rw [d3 s' e, st_k e]; exact q4 s' (by omega)
  · intro n x C hx ⟨q1, q2, q3, q4⟩
    have ex : x = 10 := by omega
    subst ex
    refine ⟨C, ?_, q3, fun s hs => q4 s (by omega)⟩
    show f_X3_findChances_2 SH0_ 524 1 (kD_ c) (n + 1) C 10 = _
    rw [f_X3_findChances_2, if_neg (by omega)]
theorem sl1_tab : ∀ m ∈ List.range 512, sl_i (m : Int) 1 = ((2 * m : Nat) : Int) := by decide +kernel
theorem c_hasChance (z0 : 0 ≤ vz_ v c) (z8 : vz_ v c ≤ 8) {xs : List Int} (hn : A 524 1 = (xs.length : Int)) (h80 : xs.length ≤ 80) (hxs : ls_ (A 525) xs.length = xs) (hso : so_ xs) (hC : CH_ v c A) : f_X3_hasChance SH0_ A 524 (vz_ v c) = some 1 ∨ (f_X3_hasChance SH0_ A 524 (vz_ v c) = some 0 ∧ ¬ Pv_ (fun s j => O_ v s (v 1064).toNat j) xs (tg_ v c)) := by
  unfold f_X3_hasChance
  obtain ⟨z, hz⟩ : ∃ z : Nat, vz_ v c = z := int_nat z0
  refine lp_run (A := Int) (fun n x a => f_X3_hasChance_4 SH0_ A 524 (vz_ v c) n a x) (xs.length : Int) (fun x a => 0 ≤ x ∧ x ≤ (xs.length : Int) ∧ ∃ n : Nat, a = (n : Int) ∧ n < 512 ∧ (Pv_ (fun s j => O_ v s (v 1064).toNat j) xs (tg_ v c) → ∃ q, q ≤ z ∧ n.testBit q = true ∧ Pv_ (fun s j => O_ v s (v 1064).toNat j) (xs.drop x.toNat) ((tg_ v c).drop q))) (fun o => o = some 1 ∨ (o = some 0 ∧ ¬ Pv_ (fun s j => O_ v s (v 1064).toNat j) xs (tg_ v c))) ?_ ?_ FU_ 0 1 (by unfold FU_; omega) ⟨by omega, by omega, 1, rfl, by decide, fun h => ⟨0, by omega, by decide, h⟩⟩
  · intro m x a hx hI
    obtain ⟨q1, q2, n, rfl, n5, hq⟩ := hI
    obtain ⟨i, rfl⟩ := int_nat q1
    have ei : ((i : Int)).toNat = i := rfl
    have ei1 : ((i : Int) + 1).toNat = i + 1 := by omega
    have hd := ls_g (f := A 525) hxs (i := i) (by omega)
    have hy := hso (A 525 i) (List.mem_of_mem_drop (i := i) (by rw [hd]; exact List.mem_cons_self ..))
    obtain ⟨y, ey⟩ : ∃ y : Nat, A 525 i = y := int_nat hy.1
    rw [ey] at hd hy
    obtain ⟨ch, c1, c2, c3, c4, c5⟩ := hC y (by omega)
    rw [ei, hd] at hq
    have en : an_i (n : Int) (ch : Int) = ((n &&& ch : Nat) : Int) := an_nat (by omega) (by omega)
    have hle : n &&& ch ≤ n := Nat.and_le_left
    have h256 : n &&& ch < 256 := Nat.lt_pow_two_of_testBit (n := 8) _ fun j hj => by
      rw [Bool.eq_false_iff]
      intro h
      have h2 := and_bit.mp h
      rcases c3 j h2.2 with h3 | h3
      · omega
      · have := Nat.testBit_lt_two_pow (x := n) (i := j) (by rw [h3]; omega)
        rw [this] at h2; exact Bool.noConfusion h2.1
    have es := sl1_tab (n &&& ch) (List.mem_range.mpr (by omega))
    have e6 : an_i (ch : Int) 65536 = ((ch &&& 65536 : Nat) : Int) := an_nat (m := 65536) (by omega) (by decide)
    have sh : ∀ q, (2 * (n &&& ch)).testBit (q + 1) = (n &&& ch).testBit q := fun q => by
      rw [Nat.testBit_succ, show 2 * (n &&& ch) / 2 = n &&& ch by omega]
    -- a sound of its own
    have own : ∀ (fl q : Nat) (t : Int) (ts : List Int), q ≤ z → n.testBit q = true → (tg_ v c).drop q = t :: ts → O_ v y (v 1064).toNat t → Pv_ (fun s j => O_ v s (v 1064).toNat j) (xs.drop (i + 1)) ts → ∃ q', q' ≤ z ∧ (fl ||| 2 * (n &&& ch)).testBit q' = true ∧ Pv_ (fun s j => O_ v s (v 1064).toNat j) (xs.drop (i + 1)) ((tg_ v c).drop q') := by
      intro fl q t ts hqz hb ht ho hp
      have hl : q < z := by
        have := congrArg List.length ht
        rw [List.length_drop, tg_l, hz, List.length_cons] at this
        omega
      rw [tg_d (by omega)] at ht
      have ht2 := List.cons.inj ht
      rw [← ht2.1] at ho
      rw [← ht2.2] at hp
      exact ⟨q + 1, hl, or_bit.mpr (Or.inr (by rw [sh]; exact and_bit.mpr ⟨hb, c5 q (by omega) ho⟩)), hp⟩
    refine Or.inl ?_
    show ∃ a', f_X3_hasChance_4 SH0_ A 524 (vz_ v c) (m + 1) (n : Int) (i : Int) = f_X3_hasChance_4 SH0_ A 524 (vz_ v c) m a' ((i : Int) + 1) ∧ _
    rw [f_X3_hasChance_4, ei1]
    by_cases hb : ch.testBit 16 = true
    · have h0 : ¬ ((ch &&& 65536 : Nat) : Int) = 0 := fun h => by
        have h1 : ch &&& 65536 = 0 := by omega
        have h2 : (ch &&& 65536).testBit 16 = true := and_bit.mpr ⟨hb, by decide⟩
        rw [h1, Nat.zero_testBit] at h2; exact Bool.noConfusion h2
      have eo : or_i (n : Int) (sl_i (an_i (n : Int) (ch : Int)) 1) = ((n ||| 2 * (n &&& ch) : Nat) : Int) := by rw [en, es, or_nat (by omega) (by omega)]
      refine ⟨((n ||| 2 * (n &&& ch) : Nat) : Int), ?_, by omega, by omega, n ||| 2 * (n &&& ch), rfl, Nat.or_lt_two_pow (n := 9) n5 (by omega), fun hp => ?_⟩
      · simp (disch := omega) only [↓bqr_C, ↓bqr_D, ↓bqr_N2, ↓bqr_N3, ↓bqr_O, ↓bqr_Q, ↓bqr_W, ↓bqr_S1, ↓bqr_S4, ↓bqr_T2, ↓bqr_T3, ↓bqr_F, ↓bqr_H, ↓bqa_C, ↓bqa_N, ↓bqa_U, ↓bqa_Y, ↓bqa_W, ↓bqa_S, ↓bqgkC_1, ↓bqgkC_2, ↓bqgkC_3, ↓bqgkC_4, ↓bqgkC_5, ↓bqgkC_6, ↓bqgkD_1, ↓bqgkN_0, ↓bqgkN_1, ↓bqgkO_1, ↓bqgkQ_1, ↓bqgkW_1, ↓bqgkS_0, ↓bqgkS_2, ↓bqgkS_3, ↓bqgkT_0, ↓bqgkT_1, ↓bqgkF_1, ↓bqgkH_1, ↓bqgkU_0, ↓bqgkU_1, ↓bqgkU_2, ↓bqgkU_3, ↓bqgkU_4, ↓bqgkY_0, ↓bqgkY_1, ↓bqgkY_2, ↓bqikE_, ↓bqikP_, ↓bqikR_, ↓bqikX_, ↓bqikG_, ↓bqikI_, ↓bqikJ_, ↓bqvkC_, ↓bqvkD_, ↓bqvkN_, ↓bqvkO_, ↓bqvkQ_, ↓bqvkU_, ↓bqvkY_, ↓bqvkW_, ↓bqvkS_, ↓bqvkT_, ↓bqvkF_, ↓bqvkH_, ↓bqr_0_0, ↓bqr_0_1, ↓bqr_0_3, ↓bqr_0_4, ↓bqr_0_5, ↓bqr_0_6, ↓bqr_0_7, ↓bqr_0_8, ↓bqr_1_0, ↓bqr_1_1, ↓bqr_1_2, ↓bqr_1_3, ↓bqr_1_5, ↓bqr_1_8, ↓bqr_1_10, ↓bqr_1_12, ↓bqr_1_13, ↓bqr_518_0, ↓bqr_518_1, ↓bqr_518_2, ↓bqr_518_6, ↓bqr_518_7, ↓bqr_524_0, ↓bqr_524_2, ↓bqr_524_4, ↓bqr_528_0, ↓bqr_528_1, ↓bqr_531_0, ↓bqr_531_1, ↓bqr_531_3, ↓bqr_592_0, ↓bqr_592_1, ↓bqr_592_2, ↓bqr_592_3, ↓bqr_592_4, ↓bqr_592_5, ↓bqr_592_6, ↓bqr_592_7, ↓bqr_592_11, ↓bqr_592_12, ↓bqr_592_13, ↓bqr_592_17, ↓bqr_592_18, ↓bqr_592_19, ↓bqr_592_23, ↓bqr_592_26, ↓bqr_592_27, ↓bqr_592_28, ↓bqg_0_2, ↓bqg_1_4, ↓bqg_1_6, ↓bqg_1_7, ↓bqg_1_9, ↓bqg_1_11, ↓bqg_1_14, ↓bqg_518_3, ↓bqg_518_4, ↓bqg_518_5, ↓bqg_518_8, ↓bqg_518_9, ↓bqg_524_1, ↓bqg_524_3, ↓bqg_528_2, ↓bqg_528_3, ↓bqg_531_2, ↓bqg_535_0, ↓bqg_535_1, ↓bqg_535_2, ↓bqg_535_3, ↓bqg_535_4, ↓bqg_592_8, ↓bqg_592_9, ↓bqg_592_10, ↓bqg_592_14, ↓bqg_592_15, ↓bqg_592_16, ↓bqg_592_20, ↓bqg_592_21, ↓bqg_592_22, ↓bqg_592_24, ↓bqg_592_25, ↓bqg_592_29, ↓bqg_592_30, ↓bqg_592_31, ↓bqg_592_32, ↓bqv_0, ↓bqv_1, ↓bqv_259, ↓bqv_518, ↓bqv_524, ↓bqv_528, ↓bqv_531, ↓bqv_535, ↓bqv_592, ↓bqi_2, ↓bqi_3, ↓bqi_4, ↓bqi_10, ↓bqi_519, ↓bqi_520, ↓bqi_521, ↓bqi_522, ↓bqi_523, ↓bqi_525, ↓bqi_526, ↓bqi_527, ↓bqi_529, ↓bqi_530, ↓bqi_532, ↓bqi_533, ↓bqi_534, ↓bqi_593, ↓bqi_594, ↓bqi_595, ↓bqi_596, ↓bqi_597, ↓bqi_598, ↓bqi_599, ↓bqi_600, ↓bqi_601, ↓bqi_602, ↓bqi_603, ↓bqi_604, ↓bqi_605, ↓bqi_606, ↓bqi_608, ↓bqi_609, ↓bqi_610, ↓bqz_607, ↓Option.bind_some, ↓bc_isIn, ↓bm_isIn, ↓bm_isShelf, i01, i10, j01, if_true, if_false, not_true_eq_false, not_false_eq_true, and_true, true_and, and_self, false_and, and_false, ↓reduceIte, Int.reduceEq, Int.reduceLT, Int.reduceLE, Int.reduceNeg, Int.reduceAdd, Int.reduceSub, Int.reduceMul, Int.reduceNe, Int.reduceToNat, Nat.reduceAdd, Nat.reduceMul, Nat.reduceEqDiff, hn, hx, Int.toNat_natCast, ey, c1, e6, h0, f_X3_hasChance_38, eo, wr_n]
      · obtain ⟨q, p1, p2, p3⟩ := hq hp
        rcases p3 with ⟨o1, o2⟩ | ⟨t, ts, o1, o2, o3⟩
        · exact ⟨q, p1, or_bit.mpr (Or.inl p2), o2⟩
        · exact own n q t ts p1 p2 o1 o2 o3
    · have h0 : ((ch &&& 65536 : Nat) : Int) = 0 := by
        have h1 : ch &&& 65536 = 0 := Nat.eq_of_testBit_eq fun j => by
          rw [Nat.zero_testBit, Bool.eq_false_iff]
          intro h
          have h2 := and_bit.mp h
          rw [show (65536 : Nat) = 2 ^ 16 from rfl] at h2
          rw [← pw_bit.mp h2.2] at h2
          exact hb h2.1
        rw [h1]; rfl
      have eo : or_i 0 (sl_i (an_i (n : Int) (ch : Int)) 1) = ((0 ||| 2 * (n &&& ch) : Nat) : Int) := by rw [en, es]; exact or_nat (n := 0) (by omega) (by omega)
      refine ⟨((0 ||| 2 * (n &&& ch) : Nat) : Int), ?_, by omega, by omega, 0 ||| 2 * (n &&& ch), rfl, Nat.or_lt_two_pow (n := 9) (by omega) (by omega), fun hp => ?_⟩
      · simp (disch := omega) only [↓bqr_C, ↓bqr_D, ↓bqr_N2, ↓bqr_N3, ↓bqr_O, ↓bqr_Q, ↓bqr_W, ↓bqr_S1, ↓bqr_S4, ↓bqr_T2, ↓bqr_T3, ↓bqr_F, ↓bqr_H, ↓bqa_C, ↓bqa_N, ↓bqa_U, ↓bqa_Y, ↓bqa_W, ↓bqa_S, ↓bqgkC_1, ↓bqgkC_2, ↓bqgkC_3, ↓bqgkC_4, ↓bqgkC_5, ↓bqgkC_6, ↓bqgkD_1, ↓bqgkN_0, ↓bqgkN_1, ↓bqgkO_1, ↓bqgkQ_1, ↓bqgkW_1, ↓bqgkS_0, ↓bqgkS_2, ↓bqgkS_3, ↓bqgkT_0, ↓bqgkT_1, ↓bqgkF_1, ↓bqgkH_1, ↓bqgkU_0, ↓bqgkU_1, ↓bqgkU_2, ↓bqgkU_3, ↓bqgkU_4, ↓bqgkY_0, ↓bqgkY_1, ↓bqgkY_2, ↓bqikE_, ↓bqikP_, ↓bqikR_, ↓bqikX_, ↓bqikG_, ↓bqikI_, ↓bqikJ_, ↓bqvkC_, ↓bqvkD_, ↓bqvkN_, ↓bqvkO_, ↓bqvkQ_, ↓bqvkU_, ↓bqvkY_, ↓bqvkW_, ↓bqvkS_, ↓bqvkT_, ↓bqvkF_, ↓bqvkH_, ↓bqr_0_0, ↓bqr_0_1, ↓bqr_0_3, ↓bqr_0_4, ↓bqr_0_5, ↓bqr_0_6, ↓bqr_0_7, ↓bqr_0_8, ↓bqr_1_0, ↓bqr_1_1, ↓bqr_1_2, ↓bqr_1_3, ↓bqr_1_5, ↓bqr_1_8, ↓bqr_1_10, ↓bqr_1_12, ↓bqr_1_13, ↓bqr_518_0, ↓bqr_518_1, ↓bqr_518_2, ↓bqr_518_6, ↓bqr_518_7, ↓bqr_524_0, ↓bqr_524_2, ↓bqr_524_4, ↓bqr_528_0, ↓bqr_528_1, ↓bqr_531_0, ↓bqr_531_1, ↓bqr_531_3, ↓bqr_592_0, ↓bqr_592_1, ↓bqr_592_2, ↓bqr_592_3, ↓bqr_592_4, ↓bqr_592_5, ↓bqr_592_6, ↓bqr_592_7, ↓bqr_592_11, ↓bqr_592_12, ↓bqr_592_13, ↓bqr_592_17, ↓bqr_592_18, ↓bqr_592_19, ↓bqr_592_23, ↓bqr_592_26, ↓bqr_592_27, ↓bqr_592_28, ↓bqg_0_2, ↓bqg_1_4, ↓bqg_1_6, ↓bqg_1_7, ↓bqg_1_9, ↓bqg_1_11, ↓bqg_1_14, ↓bqg_518_3, ↓bqg_518_4, ↓bqg_518_5, ↓bqg_518_8, ↓bqg_518_9, ↓bqg_524_1, ↓bqg_524_3, ↓bqg_528_2, ↓bqg_528_3, ↓bqg_531_2, ↓bqg_535_0, ↓bqg_535_1, ↓bqg_535_2, ↓bqg_535_3, ↓bqg_535_4, ↓bqg_592_8, ↓bqg_592_9, ↓bqg_592_10, ↓bqg_592_14, ↓bqg_592_15, ↓bqg_592_16, ↓bqg_592_20, ↓bqg_592_21, ↓bqg_592_22, ↓bqg_592_24, ↓bqg_592_25, ↓bqg_592_29, ↓bqg_592_30, ↓bqg_592_31, ↓bqg_592_32, ↓bqv_0, ↓bqv_1, ↓bqv_259, ↓bqv_518, ↓bqv_524, ↓bqv_528, ↓bqv_531, ↓bqv_535, ↓bqv_592, ↓bqi_2, ↓bqi_3, ↓bqi_4, ↓bqi_10, ↓bqi_519, ↓bqi_520, ↓bqi_521, ↓bqi_522, ↓bqi_523, ↓bqi_525, ↓bqi_526, ↓bqi_527, ↓bqi_529, ↓bqi_530, ↓bqi_532, ↓bqi_533, ↓bqi_534, ↓bqi_593, ↓bqi_594, ↓bqi_595, ↓bqi_596, ↓bqi_597, ↓bqi_598, ↓bqi_599, ↓bqi_600, ↓bqi_601, ↓bqi_602, ↓bqi_603, ↓bqi_604, ↓bqi_605, ↓bqi_606, ↓bqi_608, ↓bqi_609, ↓bqi_610, ↓bqz_607, ↓Option.bind_some, ↓bc_isIn, ↓bm_isIn, ↓bm_isShelf, i01, i10, j01, if_true, if_false, not_true_eq_false, not_false_eq_true, and_true, true_and, and_self, false_and, and_false, ↓reduceIte, Int.reduceEq, Int.reduceLT, Int.reduceLE, Int.reduceNeg, Int.reduceAdd, Int.reduceSub, Int.reduceMul, Int.reduceNe, Int.reduceToNat, Nat.reduceAdd, Nat.reduceMul, Nat.reduceEqDiff, hn, hx, Int.toNat_natCast, ey, c1, e6, h0, f_X3_hasChance_38, eo, wr_n]
      · obtain ⟨q, p1, p2, p3⟩ := hq hp
        rcases p3 with ⟨o1, o2⟩ | ⟨t, ts, o1, o2, o3⟩
        · exact absurd (c4 o1) hb
        · exact own 0 q t ts p1 p2 o1 o2 o3
  · intro m x a hx hI
    obtain ⟨q1, q2, n, rfl, n5, hq⟩ := hI
    have ex : x = (xs.length : Int) := by omega
    subst ex
    have eb : an_i (sr_i (n : Int) (vz_ v c)) 1 = b_ n z := by rw [hz]; exact bit_nat (by omega) (by omega)
    show f_X3_hasChance_4 SH0_ A 524 (vz_ v c) (m + 1) (n : Int) (xs.length : Int) = some 1 ∨ (f_X3_hasChance_4 SH0_ A 524 (vz_ v c) (m + 1) (n : Int) (xs.length : Int) = some 0 ∧ _)
    rw [f_X3_hasChance_4]
    rcases b_c n z with b0 | b0
    · rw [b0] at eb
      refine Or.inr ⟨?_, fun hp => ?_⟩
      · simp (disch := omega) only [↓bqr_C, ↓bqr_D, ↓bqr_N2, ↓bqr_N3, ↓bqr_O, ↓bqr_Q, ↓bqr_W, ↓bqr_S1, ↓bqr_S4, ↓bqr_T2, ↓bqr_T3, ↓bqr_F, ↓bqr_H, ↓bqa_C, ↓bqa_N, ↓bqa_U, ↓bqa_Y, ↓bqa_W, ↓bqa_S, ↓bqgkC_1, ↓bqgkC_2, ↓bqgkC_3, ↓bqgkC_4, ↓bqgkC_5, ↓bqgkC_6, ↓bqgkD_1, ↓bqgkN_0, ↓bqgkN_1, ↓bqgkO_1, ↓bqgkQ_1, ↓bqgkW_1, ↓bqgkS_0, ↓bqgkS_2, ↓bqgkS_3, ↓bqgkT_0, ↓bqgkT_1, ↓bqgkF_1, ↓bqgkH_1, ↓bqgkU_0, ↓bqgkU_1, ↓bqgkU_2, ↓bqgkU_3, ↓bqgkU_4, ↓bqgkY_0, ↓bqgkY_1, ↓bqgkY_2, ↓bqikE_, ↓bqikP_, ↓bqikR_, ↓bqikX_, ↓bqikG_, ↓bqikI_, ↓bqikJ_, ↓bqvkC_, ↓bqvkD_, ↓bqvkN_, ↓bqvkO_, ↓bqvkQ_, ↓bqvkU_, ↓bqvkY_, ↓bqvkW_, ↓bqvkS_, ↓bqvkT_, ↓bqvkF_, ↓bqvkH_, ↓bqr_0_0, ↓bqr_0_1, ↓bqr_0_3, ↓bqr_0_4, ↓bqr_0_5, ↓bqr_0_6, ↓bqr_0_7, ↓bqr_0_8, ↓bqr_1_0, ↓bqr_1_1, ↓bqr_1_2, ↓bqr_1_3, ↓bqr_1_5, ↓bqr_1_8, ↓bqr_1_10, ↓bqr_1_12, ↓bqr_1_13, ↓bqr_518_0, ↓bqr_518_1, ↓bqr_518_2, ↓bqr_518_6, ↓bqr_518_7, ↓bqr_524_0, ↓bqr_524_2, ↓bqr_524_4, ↓bqr_528_0, ↓bqr_528_1, ↓bqr_531_0, ↓bqr_531_1, ↓bqr_531_3, ↓bqr_592_0, ↓bqr_592_1, ↓bqr_592_2, ↓bqr_592_3, ↓bqr_592_4, ↓bqr_592_5, ↓bqr_592_6, ↓bqr_592_7, ↓bqr_592_11, ↓bqr_592_12, ↓bqr_592_13, ↓bqr_592_17, ↓bqr_592_18, ↓bqr_592_19, ↓bqr_592_23, ↓bqr_592_26, ↓bqr_592_27, ↓bqr_592_28, ↓bqg_0_2, ↓bqg_1_4, ↓bqg_1_6, ↓bqg_1_7, ↓bqg_1_9, ↓bqg_1_11, ↓bqg_1_14, ↓bqg_518_3, ↓bqg_518_4, ↓bqg_518_5, ↓bqg_518_8, ↓bqg_518_9, ↓bqg_524_1, ↓bqg_524_3, ↓bqg_528_2, ↓bqg_528_3, ↓bqg_531_2, ↓bqg_535_0, ↓bqg_535_1, ↓bqg_535_2, ↓bqg_535_3, ↓bqg_535_4, ↓bqg_592_8, ↓bqg_592_9, ↓bqg_592_10, ↓bqg_592_14, ↓bqg_592_15, ↓bqg_592_16, ↓bqg_592_20, ↓bqg_592_21, ↓bqg_592_22, ↓bqg_592_24, ↓bqg_592_25, ↓bqg_592_29, ↓bqg_592_30, ↓bqg_592_31, ↓bqg_592_32, ↓bqv_0, ↓bqv_1, ↓bqv_259, ↓bqv_518, ↓bqv_524, ↓bqv_528, ↓bqv_531, ↓bqv_535, ↓bqv_592, ↓bqi_2, ↓bqi_3, ↓bqi_4, ↓bqi_10, ↓bqi_519, ↓bqi_520, ↓bqi_521, ↓bqi_522, ↓bqi_523, ↓bqi_525, ↓bqi_526, ↓bqi_527, ↓bqi_529, ↓bqi_530, ↓bqi_532, ↓bqi_533, ↓bqi_534, ↓bqi_593, ↓bqi_594, ↓bqi_595, ↓bqi_596, ↓bqi_597, ↓bqi_598, ↓bqi_599, ↓bqi_600, ↓bqi_601, ↓bqi_602, ↓bqi_603, ↓bqi_604, ↓bqi_605, ↓bqi_606, ↓bqi_608, ↓bqi_609, ↓bqi_610, ↓bqz_607, ↓Option.bind_some, ↓bc_isIn, ↓bm_isIn, ↓bm_isShelf, i01, i10, j01, if_true, if_false, not_true_eq_false, not_false_eq_true, and_true, true_and, and_self, false_and, and_false, ↓reduceIte, Int.reduceEq, Int.reduceLT, Int.reduceLE, Int.reduceNeg, Int.reduceAdd, Int.reduceSub, Int.reduceMul, Int.reduceNe, Int.reduceToNat, Nat.reduceAdd, Nat.reduceMul, Nat.reduceEqDiff, hn, Int.lt_irrefl, eb]
      · obtain ⟨q, p1, p2, p3⟩ := hq hp
        rw [show ((xs.length : Int)).toNat = xs.length from rfl, List.drop_length] at p3
        have h3 : (tg_ v c).drop q = [] := p3
        have h4 := congrArg List.length h3
        rw [List.length_drop, tg_l, hz] at h4
        have h5 : q = z := by
          have : ((z : Int)).toNat - q = 0 := h4
          omega
        rw [h5, b_0.mp b0] at p2
        exact Bool.noConfusion p2
    · rw [b0] at eb
      refine Or.inl ?_
      simp (disch := omega) only [↓bqr_C, ↓bqr_D, ↓bqr_N2, ↓bqr_N3, ↓bqr_O, ↓bqr_Q, ↓bqr_W, ↓bqr_S1, ↓bqr_S4, ↓bqr_T2, ↓bqr_T3, ↓bqr_F, ↓bqr_H, ↓bqa_C, ↓bqa_N, ↓bqa_U, ↓bqa_Y, ↓bqa_W, ↓bqa_S, ↓bqgkC_1, ↓bqgkC_2, ↓bqgkC_3, ↓bqgkC_4, ↓bqgkC_5, ↓bqgkC_6, ↓bqgkD_1, ↓bqgkN_0, ↓bqgkN_1, ↓bqgkO_1, ↓bqgkQ_1, ↓bqgkW_1, ↓bqgkS_0, ↓bqgkS_2, ↓bqgkS_3, ↓bqgkT_0, ↓bqgkT_1, ↓bqgkF_1, ↓bqgkH_1, ↓bqgkU_0, ↓bqgkU_1, ↓bqgkU_2, ↓bqgkU_3, ↓bqgkU_4, ↓bqgkY_0, ↓bqgkY_1, ↓bqgkY_2, ↓bqikE_, ↓bqikP_, ↓bqikR_, ↓bqikX_, ↓bqikG_, ↓bqikI_, ↓bqikJ_, ↓bqvkC_, ↓bqvkD_, ↓bqvkN_, ↓bqvkO_, ↓bqvkQ_, ↓bqvkU_, ↓bqvkY_, ↓bqvkW_, ↓bqvkS_, ↓bqvkT_, ↓bqvkF_, ↓bqvkH_, ↓bqr_0_0, ↓bqr_0_1, ↓bqr_0_3, ↓bqr_0_4, ↓bqr_0_5, ↓bqr_0_6, ↓bqr_0_7, ↓bqr_0_8, ↓bqr_1_0, ↓bqr_1_1, ↓bqr_1_2, ↓bqr_1_3, ↓bqr_1_5, ↓bqr_1_8, ↓bqr_1_10, ↓bqr_1_12, ↓bqr_1_13, ↓bqr_518_0, ↓bqr_518_1, ↓bqr_518_2, ↓bqr_518_6, ↓bqr_518_7, ↓bqr_524_0, ↓bqr_524_2, ↓bqr_524_4, ↓bqr_528_0, ↓bqr_528_1, ↓bqr_531_0, ↓bqr_531_1, ↓bqr_531_3, ↓bqr_592_0, ↓bqr_592_1, ↓bqr_592_2, ↓bqr_592_3, ↓bqr_592_4, ↓bqr_592_5, ↓bqr_592_6, ↓bqr_592_7, ↓bqr_592_11, ↓bqr_592_12, ↓bqr_592_13, ↓bqr_592_17, ↓bqr_592_18, ↓bqr_592_19, ↓bqr_592_23, ↓bqr_592_26, ↓bqr_592_27, ↓bqr_592_28, ↓bqg_0_2, ↓bqg_1_4, ↓bqg_1_6, ↓bqg_1_7, ↓bqg_1_9, ↓bqg_1_11, ↓bqg_1_14, ↓bqg_518_3, ↓bqg_518_4, ↓bqg_518_5, ↓bqg_518_8, ↓bqg_518_9, ↓bqg_524_1, ↓bqg_524_3, ↓bqg_528_2, ↓bqg_528_3, ↓bqg_531_2, ↓bqg_535_0, ↓bqg_535_1, ↓bqg_535_2, ↓bqg_535_3, ↓bqg_535_4, ↓bqg_592_8, ↓bqg_592_9, ↓bqg_592_10, ↓bqg_592_14, ↓bqg_592_15, ↓bqg_592_16, ↓bqg_592_20, ↓bqg_592_21, ↓bqg_592_22, ↓bqg_592_24, ↓bqg_592_25, ↓bqg_592_29, ↓bqg_592_30, ↓bqg_592_31, ↓bqg_592_32, ↓bqv_0, ↓bqv_1, ↓bqv_259, ↓bqv_518, ↓bqv_524, ↓bqv_528, ↓bqv_531, ↓bqv_535, ↓bqv_592, ↓bqi_2, ↓bqi_3, ↓bqi_4, ↓bqi_10, ↓bqi_519, ↓bqi_520, ↓bqi_521, ↓bqi_522, ↓bqi_523, ↓bqi_525, ↓bqi_526, ↓bqi_527, ↓bqi_529, ↓bqi_530, ↓bqi_532, ↓bqi_533, ↓bqi_534, ↓bqi_593, ↓bqi_594, ↓bqi_595, ↓bqi_596, ↓bqi_597, ↓bqi_598, ↓bqi_599, ↓bqi_600, ↓bqi_601, ↓bqi_602, ↓bqi_603, ↓bqi_604, ↓bqi_605, ↓bqi_606, ↓bqi_608, ↓bqi_609, ↓bqi_610, ↓bqz_607, ↓Option.bind_some, ↓bc_isIn, ↓bm_isIn, ↓bm_isShelf, i01, i10, j01, if_true, if_false, not_true_eq_false, not_false_eq_true, and_true, true_and, and_self, false_and, and_false, ↓reduceIte, Int.reduceEq, Int.reduceLT, Int.reduceLE, Int.reduceNeg, Int.reduceAdd, Int.reduceSub, Int.reduceMul, Int.reduceNe, Int.reduceToNat, Nat.reduceAdd, Nat.reduceMul, Nat.reduceEqDiff, hn, Int.lt_irrefl, eb]
end
