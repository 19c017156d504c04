/-! deep: what a sound can come to, and what the class asks before it hears -/
def O_ (v : Nat → Int) (s : Int) : Nat → Int → Prop
  | 0, j => j = s
  | r + 1, j => O_ v s r j ∨ ∃ y, 0 ≤ y ∧ y ≤ 9 ∧ O_ v s r y ∧ ag_ v (pl_ v (712 + 8 * r)) y ∧ j = pb_ v (712 + 8 * r + 2)
/-- a row out of another, each sound fallen or one of its own -/
def Pv_ (O : Int → Int → Prop) : List Int → List Int → Prop
  | [], zs => zs = []
  | x :: xs, zs => (O x 16 ∧ Pv_ O xs zs) ∨ ∃ y t, zs = y :: t ∧ O x y ∧ Pv_ O xs t
theorem pv_0 {v : Nat → Int} : ∀ xs, Pv_ (fun s j => O_ v s 0 j) xs xs
  | [] => rfl
  | x :: xs => Or.inr ⟨x, xs, rfl, rfl, pv_0 xs⟩
theorem pv_s {v : Nat → Int} {r : Nat} : ∀ (xs zs : List Int) (p : Int), so_ zs → Pv_ (fun s j => O_ v s r j) xs zs → Pv_ (fun s j => O_ v s (r + 1) j) xs (ap_ v (r : Int) p zs)
  | [], zs, p, _, h => by
    have h' : zs = [] := h
    rw [h']; rfl
  | x :: xs, zs, p, hso, h => by
    rcases h with ⟨h1, h2⟩ | ⟨y, t, rfl, h1, h2⟩
    · exact Or.inl ⟨Or.inl h1, pv_s xs zs p hso h2⟩
    · have hy := hso y (List.mem_cons_self ..)
      have ih := pv_s xs t y (fun z hz => hso z (List.mem_cons_of_mem _ hz)) h2
      show Pv_ _ (x :: xs) (ch_ v (r : Int) p y (t.headD (-1)) ++ ap_ v (r : Int) y t)
      unfold ch_
      by_cases hf : fits_ v (r : Int) p y (t.headD (-1))
      · rw [if_pos hf]
        have o : O_ v x (r + 1) (pb_ v (712 + 8 * r + 2)) := Or.inr ⟨y, hy.1, hy.2, h1, hf.1, rfl⟩
        by_cases hb : pb_ v (712 + 8 * ((r : Int)).toNat + 2) = 16
        · rw [if_pos hb]
          have hb' : pb_ v (712 + 8 * r + 2) = 16 := hb
          rw [hb'] at o
          exact Or.inl ⟨o, ih⟩
        · rw [if_neg hb]; exact Or.inr ⟨_, _, rfl, o, ih⟩
      · rw [if_neg hf]
        exact Or.inr ⟨y, _, rfl, Or.inl h1, ih⟩
theorem pv_n {M : Mem_m} {v : Nat → Int} (hV : Vw M v) {xs : List Int} (hso : so_ xs) : ∀ n : Nat, (n : Int) ≤ v 1064 → Pv_ (fun s j => O_ v s n j) xs (hr_ v xs n)
  | 0, _ => pv_0 xs
  | n + 1, h => pv_s xs _ _ (hr_so hV hso n (by omega)).1 (pv_n hV hso n (by omega))
/-- what the class keeps of a sound -/
def CQ_ (v : Nat → Int) (c s : Int) (n : Nat) : Prop := n < 131072 ∧ (∀ j, n.testBit j = true → j < 8 ∨ j = 16) ∧ (O_ v s (v 1064).toNat 16 → n.testBit 16 = true) ∧ ∀ p : Nat, (p : Int) < vz_ v c → O_ v s (v 1064).toNat (vs_ v c p) → n.testBit p = true
def CH_ (v : Nat → Int) (c : Int) (A : Mem_m) : Prop := ∀ s : Nat, s < 10 → ∃ n : Nat, A 527 s = (n : Int) ∧ CQ_ v c s n
theorem or_bit {a b i : Nat} : (a ||| b).testBit i = true ↔ a.testBit i = true ∨ b.testBit i = true := by rw [Nat.testBit_or, Bool.or_eq_true]
theorem and_bit {a b i : Nat} : (a &&& b).testBit i = true ↔ a.testBit i = true ∧ b.testBit i = true := by rw [Nat.testBit_and, Bool.and_eq_true]
theorem pw_bit {k i : Nat} : (2 ^ k).testBit i = true ↔ k = i := by rw [Nat.testBit_two_pow]; exact decide_eq_true_iff
section
variable {A : Mem_m} {v : Nat → Int} {c : Int}
/-- one rule -/
theorem c_out17 {k : Int → Int → Option Int} (hV : Vw A v) {s r : Int} (r0 : 0 ≤ r) (r1 : r < v 1064) {u : Nat} (hu : u < 131072) (hO : ∀ j : Nat, O_ v s r.toNat j → u.testBit j = true) : ∃ u' : Nat, f_X3_outcomesOf_17 SH0_ k A 1 r FU_ (u : Int) 0 = k (u' : Int) (r + 1) ∧ u' < 131072 ∧ ∀ j : Nat, O_ v s (r.toNat + 1) j → u'.testBit j = true := by
  have b9 := vb_9 hV
  have u0 := vw_u0 hV r0 r1
  have u1 := vw_u1 hV r0 r1
  have ku : kU_ r = 211 + r.toNat := by rw [k3kU_]
  have hcl : ∀ k : Int, 0 ≤ k → k < 10 → A 2 k.toNat = v (1036 + k.toNat) ∧ 0 ≤ v (1036 + k.toNat) ∧ v (1036 + k.toNat) ≤ 3 := fun k k0 k1 => ⟨vw_cl hV k0 k1, vb_cl hV k0 k1⟩
  refine lp_run (A := Int) (fun n x a => f_X3_outcomesOf_17 SH0_ k A 1 r n a x) 10 (fun x a => 0 ≤ x ∧ x ≤ 10 ∧ ∃ w : Nat, a = (w : Int) ∧ w < 131072 ∧ (∀ j : Nat, O_ v s r.toNat j → w.testBit j = true) ∧ ∀ z : Nat, (z : Int) < x → O_ v s r.toNat z → ag_ v (pl_ v (712 + 8 * r.toNat)) z → w.testBit (pb_ v (712 + 8 * r.toNat + 2)).toNat = true) (fun o => ∃ u' : Nat, o = k (u' : Int) (r + 1) ∧ u' < 131072 ∧ ∀ j : Nat, O_ v s (r.toNat + 1) j → u'.testBit j = true) ?_ ?_ FU_ 0 (u : Int) (by unfold FU_; omega) ⟨by omega, by omega, u, rfl, hu, hO, fun z hz => absurd hz (by omega)⟩
  · intro n x a hx hI
    obtain ⟨q1, q2, w, rfl, hw, q3, q4⟩ := hI
    obtain ⟨y, rfl⟩ := int_nat q1
    have eb : an_i (sr_i (w : Int) (y : Int)) 1 = b_ w y := bit_nat (by omega) (by omega)
    refine Or.inl ?_
    show ∃ a', f_X3_outcomesOf_17 SH0_ k A 1 r (n + 1) (w : Int) (y : Int) = f_X3_outcomesOf_17 SH0_ k A 1 r n a' ((y : Int) + 1) ∧ _
    rw [f_X3_outcomesOf_17]
    rcases b_c w y with b0 | b0
    · rw [b0] at eb
      refine ⟨(w : Int), ?_, by omega, by omega, w, rfl, hw, q3, fun z hz o1 o2 => ?_⟩
      · simp (disch := omega) only [↓bqr_C, ↓bqr_D, ↓bqr_N2, ↓bqr_N3, ↓bqr_O, ↓bqr_Q, ↓bqr_W, ↓bqr_S1, ↓bqr_S4, ↓bqr_T2, ↓bqr_T3, ↓bqr_F, ↓bqr_H, ↓bqa_C, ↓bqa_N, ↓bqa_U, ↓bqa_Y, ↓bqa_W, ↓bqa_S, ↓bqgkC_1, ↓bqgkC_2, ↓bqgkC_3, ↓bqgkC_4, ↓bqgkC_5, ↓bqgkC_6, ↓bqgkD_1, ↓bqgkN_0, ↓bqgkN_1, ↓bqgkO_1, ↓bqgkQ_1, ↓bqgkW_1, ↓bqgkS_0, ↓bqgkS_2, ↓bqgkS_3, ↓bqgkT_0, ↓bqgkT_1, ↓bqgkF_1, ↓bqgkH_1, ↓bqgkU_0, ↓bqgkU_1, ↓bqgkU_2, ↓bqgkU_3, ↓bqgkU_4, ↓bqgkY_0, ↓bqgkY_1, ↓bqgkY_2, ↓bqikE_, ↓bqikP_, ↓bqikR_, ↓bqikX_, ↓bqikG_, ↓bqikI_, ↓bqikJ_, ↓bqvkC_, ↓bqvkD_, ↓bqvkN_, ↓bqvkO_, ↓bqvkQ_, ↓bqvkU_, ↓bqvkY_, ↓bqvkW_, ↓bqvkS_, ↓bqvkT_, ↓bqvkF_, ↓bqvkH_, ↓bqr_0_0, ↓bqr_0_1, ↓bqr_0_3, ↓bqr_0_4, ↓bqr_0_5, ↓bqr_0_6, ↓bqr_0_7, ↓bqr_0_8, ↓bqr_1_0, ↓bqr_1_1, ↓bqr_1_2, ↓bqr_1_3, ↓bqr_1_5, ↓bqr_1_8, ↓bqr_1_10, ↓bqr_1_12, ↓bqr_1_13, ↓bqr_518_0, ↓bqr_518_1, ↓bqr_518_2, ↓bqr_518_6, ↓bqr_518_7, ↓bqr_524_0, ↓bqr_524_2, ↓bqr_524_4, ↓bqr_528_0, ↓bqr_528_1, ↓bqr_531_0, ↓bqr_531_1, ↓bqr_531_3, ↓bqr_592_0, ↓bqr_592_1, ↓bqr_592_2, ↓bqr_592_3, ↓bqr_592_4, ↓bqr_592_5, ↓bqr_592_6, ↓bqr_592_7, ↓bqr_592_11, ↓bqr_592_12, ↓bqr_592_13, ↓bqr_592_17, ↓bqr_592_18, ↓bqr_592_19, ↓bqr_592_23, ↓bqr_592_26, ↓bqr_592_27, ↓bqr_592_28, ↓bqg_0_2, ↓bqg_1_4, ↓bqg_1_6, ↓bqg_1_7, ↓bqg_1_9, ↓bqg_1_11, ↓bqg_1_14, ↓bqg_518_3, ↓bqg_518_4, ↓bqg_518_5, ↓bqg_518_8, ↓bqg_518_9, ↓bqg_524_1, ↓bqg_524_3, ↓bqg_528_2, ↓bqg_528_3, ↓bqg_531_2, ↓bqg_535_0, ↓bqg_535_1, ↓bqg_535_2, ↓bqg_535_3, ↓bqg_535_4, ↓bqg_592_8, ↓bqg_592_9, ↓bqg_592_10, ↓bqg_592_14, ↓bqg_592_15, ↓bqg_592_16, ↓bqg_592_20, ↓bqg_592_21, ↓bqg_592_22, ↓bqg_592_24, ↓bqg_592_25, ↓bqg_592_29, ↓bqg_592_30, ↓bqg_592_31, ↓bqg_592_32, ↓bqv_0, ↓bqv_1, ↓bqv_259, ↓bqv_518, ↓bqv_524, ↓bqv_528, ↓bqv_531, ↓bqv_535, ↓bqv_592, ↓bqi_2, ↓bqi_3, ↓bqi_4, ↓bqi_10, ↓bqi_519, ↓bqi_520, ↓bqi_521, ↓bqi_522, ↓bqi_523, ↓bqi_525, ↓bqi_526, ↓bqi_527, ↓bqi_529, ↓bqi_530, ↓bqi_532, ↓bqi_533, ↓bqi_534, ↓bqi_593, ↓bqi_594, ↓bqi_595, ↓bqi_596, ↓bqi_597, ↓bqi_598, ↓bqi_599, ↓bqi_600, ↓bqi_601, ↓bqi_602, ↓bqi_603, ↓bqi_604, ↓bqi_605, ↓bqi_606, ↓bqi_608, ↓bqi_609, ↓bqi_610, ↓bqz_607, ↓Option.bind_some, ↓bc_isIn, ↓bm_isIn, ↓bm_isShelf, i01, i10, j01, if_true, if_false, not_true_eq_false, not_false_eq_true, and_true, true_and, and_self, false_and, and_false, ↓reduceIte, Int.reduceEq, Int.reduceLT, Int.reduceLE, Int.reduceNeg, Int.reduceAdd, Int.reduceSub, Int.reduceMul, Int.reduceNe, Int.reduceToNat, Nat.reduceAdd, Nat.reduceMul, Nat.reduceEqDiff, hx, eb, wr_n]
      · by_cases e : z = y
        · have := q3 z o1
          rw [e, b_0.mp b0] at this; cases this
        · exact q4 z (by omega) o1 o2
    · rw [b0] at eb
      have ey : eg_ (y : Int) = (y : Int) := by unfold eg_; rw [if_neg (by omega)]
      have a0 := c_agrees (A := A) (v := v) (code := pl_ v (712 + 8 * r.toNat)) hcl (x := (y : Int)) (by omega) (by rw [← u0.1]; exact u0.2)
      rw [ey] at a0
      rcases a0 with ⟨p0, e0⟩ | ⟨p0, e0⟩
      · have hpb : 0 ≤ pb_ v (712 + 8 * r.toNat + 2) ∧ pb_ v (712 + 8 * r.toNat + 2) ≤ 16 := by rcases u1.2 with h | h <;> omega
        obtain ⟨t, ht⟩ : ∃ t : Nat, pb_ v (712 + 8 * r.toNat + 2) = t := int_nat hpb.1
        have hpw : 2 ^ t < 131072 := Nat.pow_lt_pow_right (n := 17) (by decide) (by omega)
        have eo : or_i (w : Int) (sl_i 1 (pb_ v (712 + 8 * r.toNat + 2))) = ((w ||| 2 ^ t : Nat) : Int) := by rw [ht, sl_nat (by omega), or_nat (by omega) (by omega)]
        refine ⟨((w ||| 2 ^ t : Nat) : Int), ?_, by omega, by omega, w ||| 2 ^ t, rfl, Nat.or_lt_two_pow (n := 17) hw hpw, fun j hj => or_bit.mpr (Or.inl (q3 j hj)), fun z hz o1 o2 => ?_⟩
        · simp (disch := omega) only [↓bqr_C, ↓bqr_D, ↓bqr_N2, ↓bqr_N3, ↓bqr_O, ↓bqr_Q, ↓bqr_W, ↓bqr_S1, ↓bqr_S4, ↓bqr_T2, ↓bqr_T3, ↓bqr_F, ↓bqr_H, ↓bqa_C, ↓bqa_N, ↓bqa_U, ↓bqa_Y, ↓bqa_W, ↓bqa_S, ↓bqgkC_1, ↓bqgkC_2, ↓bqgkC_3, ↓bqgkC_4, ↓bqgkC_5, ↓bqgkC_6, ↓bqgkD_1, ↓bqgkN_0, ↓bqgkN_1, ↓bqgkO_1, ↓bqgkQ_1, ↓bqgkW_1, ↓bqgkS_0, ↓bqgkS_2, ↓bqgkS_3, ↓bqgkT_0, ↓bqgkT_1, ↓bqgkF_1, ↓bqgkH_1, ↓bqgkU_0, ↓bqgkU_1, ↓bqgkU_2, ↓bqgkU_3, ↓bqgkU_4, ↓bqgkY_0, ↓bqgkY_1, ↓bqgkY_2, ↓bqikE_, ↓bqikP_, ↓bqikR_, ↓bqikX_, ↓bqikG_, ↓bqikI_, ↓bqikJ_, ↓bqvkC_, ↓bqvkD_, ↓bqvkN_, ↓bqvkO_, ↓bqvkQ_, ↓bqvkU_, ↓bqvkY_, ↓bqvkW_, ↓bqvkS_, ↓bqvkT_, ↓bqvkF_, ↓bqvkH_, ↓bqr_0_0, ↓bqr_0_1, ↓bqr_0_3, ↓bqr_0_4, ↓bqr_0_5, ↓bqr_0_6, ↓bqr_0_7, ↓bqr_0_8, ↓bqr_1_0, ↓bqr_1_1, ↓bqr_1_2, ↓bqr_1_3, ↓bqr_1_5, ↓bqr_1_8, ↓bqr_1_10, ↓bqr_1_12, ↓bqr_1_13, ↓bqr_518_0, ↓bqr_518_1, ↓bqr_518_2, ↓bqr_518_6, ↓bqr_518_7, ↓bqr_524_0, ↓bqr_524_2, ↓bqr_524_4, ↓bqr_528_0, ↓bqr_528_1, ↓bqr_531_0, ↓bqr_531_1, ↓bqr_531_3, ↓bqr_592_0, ↓bqr_592_1, ↓bqr_592_2, ↓bqr_592_3, ↓bqr_592_4, ↓bqr_592_5, ↓bqr_592_6, ↓bqr_592_7, ↓bqr_592_11, ↓bqr_592_12, ↓bqr_592_13, ↓bqr_592_17, ↓bqr_592_18, ↓bqr_592_19, ↓bqr_592_23, ↓bqr_592_26, ↓bqr_592_27, ↓bqr_592_28, ↓bqg_0_2, ↓bqg_1_4, ↓bqg_1_6, ↓bqg_1_7, ↓bqg_1_9, ↓bqg_1_11, ↓bqg_1_14, ↓bqg_518_3, ↓bqg_518_4, ↓bqg_518_5, ↓bqg_518_8, ↓bqg_518_9, ↓bqg_524_1, ↓bqg_524_3, ↓bqg_528_2, ↓bqg_528_3, ↓bqg_531_2, ↓bqg_535_0, ↓bqg_535_1, ↓bqg_535_2, ↓bqg_535_3, ↓bqg_535_4, ↓bqg_592_8, ↓bqg_592_9, ↓bqg_592_10, ↓bqg_592_14, ↓bqg_592_15, ↓bqg_592_16, ↓bqg_592_20, ↓bqg_592_21, ↓bqg_592_22, ↓bqg_592_24, ↓bqg_592_25, ↓bqg_592_29, ↓bqg_592_30, ↓bqg_592_31, ↓bqg_592_32, ↓bqv_0, ↓bqv_1, ↓bqv_259, ↓bqv_518, ↓bqv_524, ↓bqv_528, ↓bqv_531, ↓bqv_535, ↓bqv_592, ↓bqi_2, ↓bqi_3, ↓bqi_4, ↓bqi_10, ↓bqi_519, ↓bqi_520, ↓bqi_521, ↓bqi_522, ↓bqi_523, ↓bqi_525, ↓bqi_526, ↓bqi_527, ↓bqi_529, ↓bqi_530, ↓bqi_532, ↓bqi_533, ↓bqi_534, ↓bqi_593, ↓bqi_594, ↓bqi_595, ↓bqi_596, ↓bqi_597, ↓bqi_598, ↓bqi_599, ↓bqi_600, ↓bqi_601, ↓bqi_602, ↓bqi_603, ↓bqi_604, ↓bqi_605, ↓bqi_606, ↓bqi_608, ↓bqi_609, ↓bqi_610, ↓bqz_607, ↓Option.bind_some, ↓bc_isIn, ↓bm_isIn, ↓bm_isShelf, i01, i10, j01, if_true, if_false, not_true_eq_false, not_false_eq_true, and_true, true_and, and_self, false_and, and_false, ↓reduceIte, Int.reduceEq, Int.reduceLT, Int.reduceLE, Int.reduceNeg, Int.reduceAdd, Int.reduceSub, Int.reduceMul, Int.reduceNe, Int.reduceToNat, Nat.reduceAdd, Nat.reduceMul, Nat.reduceEqDiff, hx, eb, u0.1, ↓bnd e0, u1.1, eo, wr_n]
        · rw [ht]
          exact or_bit.mpr (Or.inr (pw_bit.mpr rfl))
      · refine ⟨(w : Int), ?_, by omega, by omega, w, rfl, hw, q3, fun z hz o1 o2 => ?_⟩
        · simp (disch := omega) only [↓bqr_C, ↓bqr_D, ↓bqr_N2, ↓bqr_N3, ↓bqr_O, ↓bqr_Q, ↓bqr_W, ↓bqr_S1, ↓bqr_S4, ↓bqr_T2, ↓bqr_T3, ↓bqr_F, ↓bqr_H, ↓bqa_C, ↓bqa_N, ↓bqa_U, ↓bqa_Y, ↓bqa_W, ↓bqa_S, ↓bqgkC_1, ↓bqgkC_2, ↓bqgkC_3, ↓bqgkC_4, ↓bqgkC_5, ↓bqgkC_6, ↓bqgkD_1, ↓bqgkN_0, ↓bqgkN_1, ↓bqgkO_1, ↓bqgkQ_1, ↓bqgkW_1, ↓bqgkS_0, ↓bqgkS_2, ↓bqgkS_3, ↓bqgkT_0, ↓bqgkT_1, ↓bqgkF_1, ↓bqgkH_1, ↓bqgkU_0, ↓bqgkU_1, ↓bqgkU_2, ↓bqgkU_3, ↓bqgkU_4, ↓bqgkY_0, ↓bqgkY_1, ↓bqgkY_2, ↓bqikE_, ↓bqikP_, ↓bqikR_, ↓bqikX_, ↓bqikG_, ↓bqikI_, ↓bqikJ_, ↓bqvkC_, ↓bqvkD_, ↓bqvkN_, ↓bqvkO_, ↓bqvkQ_, ↓bqvkU_, ↓bqvkY_, ↓bqvkW_, ↓bqvkS_, ↓bqvkT_, ↓bqvkF_, ↓bqvkH_, ↓bqr_0_0, ↓bqr_0_1, ↓bqr_0_3, ↓bqr_0_4, ↓bqr_0_5, ↓bqr_0_6, ↓bqr_0_7, ↓bqr_0_8, ↓bqr_1_0, ↓bqr_1_1, ↓bqr_1_2, ↓bqr_1_3, ↓bqr_1_5, ↓bqr_1_8, ↓bqr_1_10, ↓bqr_1_12, ↓bqr_1_13, ↓bqr_518_0, ↓bqr_518_1, ↓bqr_518_2, ↓bqr_518_6, ↓bqr_518_7, ↓bqr_524_0, ↓bqr_524_2, ↓bqr_524_4, ↓bqr_528_0, ↓bqr_528_1, ↓bqr_531_0, ↓bqr_531_1, ↓bqr_531_3, ↓bqr_592_0, ↓bqr_592_1, ↓bqr_592_2, ↓bqr_592_3, ↓bqr_592_4, ↓bqr_592_5, ↓bqr_592_6, ↓bqr_592_7, ↓bqr_592_11, ↓bqr_592_12, ↓bqr_592_13, ↓bqr_592_17, ↓bqr_592_18, ↓bqr_592_19, ↓bqr_592_23, ↓bqr_592_26, ↓bqr_592_27, ↓bqr_592_28, ↓bqg_0_2, ↓bqg_1_4, ↓bqg_1_6, ↓bqg_1_7, ↓bqg_1_9, ↓bqg_1_11, ↓bqg_1_14, ↓bqg_518_3, ↓bqg_518_4, ↓bqg_518_5, ↓bqg_518_8, ↓bqg_518_9, ↓bqg_524_1, ↓bqg_524_3, ↓bqg_528_2, ↓bqg_528_3, ↓bqg_531_2, ↓bqg_535_0, ↓bqg_535_1, ↓bqg_535_2, ↓bqg_535_3, ↓bqg_535_4, ↓bqg_592_8, ↓bqg_592_9, ↓bqg_592_10, ↓bqg_592_14, ↓bqg_592_15, ↓bqg_592_16, ↓bqg_592_20, ↓bqg_592_21, ↓bqg_592_22, ↓bqg_592_24, ↓bqg_592_25, ↓bqg_592_29, ↓bqg_592_30, ↓bqg_592_31, ↓bqg_592_32, ↓bqv_0, ↓bqv_1, ↓bqv_259, ↓bqv_518, ↓bqv_524, ↓bqv_528, ↓bqv_531, ↓bqv_535, ↓bqv_592, ↓bqi_2, ↓bqi_3, ↓bqi_4, ↓bqi_10, ↓bqi_519, ↓bqi_520, ↓bqi_521, ↓bqi_522, ↓bqi_523, ↓bqi_525, ↓bqi_526, ↓bqi_527, ↓bqi_529, ↓bqi_530, ↓bqi_532, ↓bqi_533, ↓bqi_534, ↓bqi_593, ↓bqi_594, ↓bqi_595, ↓bqi_596, ↓bqi_597, ↓bqi_598, ↓bqi_599, ↓bqi_600, ↓bqi_601, ↓bqi_602, ↓bqi_603, ↓bqi_604, ↓bqi_605, ↓bqi_606, ↓bqi_608, ↓bqi_609, ↓bqi_610, ↓bqz_607, ↓Option.bind_some, ↓bc_isIn, ↓bm_isIn, ↓bm_isShelf, i01, i10, j01, if_true, if_false, not_true_eq_false, not_false_eq_true, and_true, true_and, and_self, false_and, and_false, ↓reduceIte, Int.reduceEq, Int.reduceLT, Int.reduceLE, Int.reduceNeg, Int.reduceAdd, Int.reduceSub, Int.reduceMul, Int.reduceNe, Int.reduceToNat, Nat.reduceAdd, Nat.reduceMul, Nat.reduceEqDiff, hx, eb, u0.1, ↓bnd e0, wr_n]
        · by_cases e : z = y
          · rw [e] at o2; exact absurd o2 p0
          · exact q4 z (by omega) o1 o2
  · intro n x a hx hI
    obtain ⟨q1, q2, w, rfl, hw, q3, q4⟩ := hI
    have ex : x = 10 := by omega
    subst ex
    refine ⟨w, ?_, hw, fun j hj => ?_⟩
    · show f_X3_outcomesOf_17 SH0_ k A 1 r (n + 1) (w : Int) 10 = _
      rw [f_X3_outcomesOf_17, if_neg (by omega), wr_n (by omega) (by omega)]
    · rcases hj with hj | ⟨y, y0, y9, o1, o2, e⟩
      · exact q3 j hj
      · obtain ⟨y, rfl⟩ := int_nat y0
        have := q4 y (by omega) o1 o2
        rw [← e] at this
        exact this
/-- all rules -/
theorem c_outcomes (hV : Vw A v) {s : Nat} (hs : s < 10) : ∃ u : Nat, f_X3_outcomesOf SH0_ A (s : Int) 1 = some (u : Int) ∧ u < 131072 ∧ ∀ j : Nat, O_ v s (v 1064).toNat j → u.testBit j = true := by
  have b9 := vb_9 hV
  have v9 := vw_9 hV
  unfold f_X3_outcomesOf
  rw [sl_nat (by omega)]
  refine lp_run (A := Int) (fun n x a => f_X3_outcomesOf_6 SH0_ A 1 n a x) (v 1064) (fun x a => 0 ≤ x ∧ x ≤ v 1064 ∧ ∃ w : Nat, a = (w : Int) ∧ w < 131072 ∧ ∀ j : Nat, O_ v s x.toNat j → w.testBit j = true) (fun o => ∃ u : Nat, o = some (u : Int) ∧ u < 131072 ∧ ∀ j : Nat, O_ v s (v 1064).toNat j → u.testBit j = true) ?_ ?_ FU_ 0 ((2 ^ s : Nat) : Int) (by unfold FU_; omega) ⟨by omega, by omega, 2 ^ s, rfl, Nat.pow_lt_pow_right (n := 17) (by decide) (by omega), fun j hj => ?_⟩
  · intro n x a hx hI
    obtain ⟨q1, q2, w, rfl, hw, q3⟩ := hI
    obtain ⟨u', e1, e2, e3⟩ := c_out17 (k := fun x2 x3 => f_X3_outcomesOf_6 SH0_ A 1 n x2 x3) hV q1 hx hw q3
    refine Or.inl ⟨(u' : Int), ?_, by omega, by omega, u', rfl, e2, by rw [show (x + 1).toNat = x.toNat + 1 by omega]; exact e3⟩
    show f_X3_outcomesOf_6 SH0_ A 1 (n + 1) (w : Int) x = _
    rw [f_X3_outcomesOf_6]
    simp (disch := omega) only [↓bqr_C, ↓bqr_D, ↓bqr_N2, ↓bqr_N3, ↓bqr_O, ↓bqr_Q, ↓bqr_W, ↓bqr_S1, ↓bqr_S4, ↓bqr_T2, ↓bqr_T3, ↓bqr_F, ↓bqr_H, ↓bqa_C, ↓bqa_N, ↓bqa_U, ↓bqa_Y, ↓bqa_W, ↓bqa_S, ↓bqgkC_1, ↓bqgkC_2, ↓bqgkC_3, ↓bqgkC_4, ↓bqgkC_5, ↓bqgkC_6, ↓bqgkD_1, ↓bqgkN_0, ↓bqgkN_1, ↓bqgkO_1, ↓bqgkQ_1, ↓bqgkW_1, ↓bqgkS_0, ↓bqgkS_2, ↓bqgkS_3, ↓bqgkT_0, ↓bqgkT_1, ↓bqgkF_1, ↓bqgkH_1, ↓bqgkU_0, ↓bqgkU_1, ↓bqgkU_2, ↓bqgkU_3, ↓bqgkU_4, ↓bqgkY_0, ↓bqgkY_1, ↓bqgkY_2, ↓bqikE_, ↓bqikP_, ↓bqikR_, ↓bqikX_, ↓bqikG_, ↓bqikI_, ↓bqikJ_, ↓bqvkC_, ↓bqvkD_, ↓bqvkN_, ↓bqvkO_, ↓bqvkQ_, ↓bqvkU_, ↓bqvkY_, ↓bqvkW_, ↓bqvkS_, ↓bqvkT_, ↓bqvkF_, ↓bqvkH_, ↓bqr_0_0, ↓bqr_0_1, ↓bqr_0_3, ↓bqr_0_4, ↓bqr_0_5, ↓bqr_0_6, ↓bqr_0_7, ↓bqr_0_8, ↓bqr_1_0, ↓bqr_1_1, ↓bqr_1_2, ↓bqr_1_3, ↓bqr_1_5, ↓bqr_1_8, ↓bqr_1_10, ↓bqr_1_12, ↓bqr_1_13, ↓bqr_518_0, ↓bqr_518_1, ↓bqr_518_2, ↓bqr_518_6, ↓bqr_518_7, ↓bqr_524_0, ↓bqr_524_2, ↓bqr_524_4, ↓bqr_528_0, ↓bqr_528_1, ↓bqr_531_0, ↓bqr_531_1, ↓bqr_531_3, ↓bqr_592_0, ↓bqr_592_1, ↓bqr_592_2, ↓bqr_592_3, ↓bqr_592_4, ↓bqr_592_5, ↓bqr_592_6, ↓bqr_592_7, ↓bqr_592_11, ↓bqr_592_12, ↓bqr_592_13, ↓bqr_592_17, ↓bqr_592_18, ↓bqr_592_19, ↓bqr_592_23, ↓bqr_592_26, ↓bqr_592_27, ↓bqr_592_28, ↓bqg_0_2, ↓bqg_1_4, ↓bqg_1_6, ↓bqg_1_7, ↓bqg_1_9, ↓bqg_1_11, ↓bqg_1_14, ↓bqg_518_3, ↓bqg_518_4, ↓bqg_518_5, ↓bqg_518_8, ↓bqg_518_9, ↓bqg_524_1, ↓bqg_524_3, ↓bqg_528_2, ↓bqg_528_3, ↓bqg_531_2, ↓bqg_535_0, ↓bqg_535_1, ↓bqg_535_2, ↓bqg_535_3, ↓bqg_535_4, ↓bqg_592_8, ↓bqg_592_9, ↓bqg_592_10, ↓bqg_592_14, ↓bqg_592_15, ↓bqg_592_16, ↓bqg_592_20, ↓bqg_592_21, ↓bqg_592_22, ↓bqg_592_24, ↓bqg_592_25, ↓bqg_592_29, ↓bqg_592_30, ↓bqg_592_31, ↓bqg_592_32, ↓bqv_0, ↓bqv_1, ↓bqv_259, ↓bqv_518, ↓bqv_524, ↓bqv_528, ↓bqv_531, ↓bqv_535, ↓bqv_592, ↓bqi_2, ↓bqi_3, ↓bqi_4, ↓bqi_10, ↓bqi_519, ↓bqi_520, ↓bqi_521, ↓bqi_522, ↓bqi_523, ↓bqi_525, ↓bqi_526, ↓bqi_527, ↓bqi_529, ↓bqi_530, ↓bqi_532, ↓bqi_533, ↓bqi_534, ↓bqi_593, ↓bqi_594, ↓bqi_595, ↓bqi_596, ↓bqi_597, ↓bqi_598, ↓bqi_599, ↓bqi_600, ↓bqi_601, ↓bqi_602, ↓bqi_603, ↓bqi_604, ↓bqi_605, ↓bqi_606, ↓bqi_608, ↓bqi_609, ↓bqi_610, ↓bqz_607, ↓Option.bind_some, ↓bc_isIn, ↓bm_isIn, ↓bm_isShelf, i01, i10, j01, if_true, if_false, not_true_eq_false, not_false_eq_true, and_true, true_and, and_self, false_and, and_false, ↓reduceIte, Int.reduceEq, Int.reduceLT, Int.reduceLE, Int.reduceNeg, Int.reduceAdd, Int.reduceSub, Int.reduceMul, Int.reduceNe, Int.reduceToNat, Nat.reduceAdd, Nat.reduceMul, Nat.reduceEqDiff, v9, hx]
    exact e1
  · intro n x a hx hI
    obtain ⟨q1, q2, w, rfl, hw, q3⟩ := hI
    have ex : x = v 1064 := by omega
    subst ex
    refine ⟨w, ?_, hw, q3⟩
    show f_X3_outcomesOf_6 SH0_ A 1 (n + 1) (w : Int) (v 1064) = _
    rw [f_X3_outcomesOf_6]
    simp (disch := omega) only [↓bqr_C, ↓bqr_D, ↓bqr_N2, ↓bqr_N3, ↓bqr_O, ↓bqr_Q, ↓bqr_W, ↓bqr_S1, ↓bqr_S4, ↓bqr_T2, ↓bqr_T3, ↓bqr_F, ↓bqr_H, ↓bqa_C, ↓bqa_N, ↓bqa_U, ↓bqa_Y, ↓bqa_W, ↓bqa_S, ↓bqgkC_1, ↓bqgkC_2, ↓bqgkC_3, ↓bqgkC_4, ↓bqgkC_5, ↓bqgkC_6, ↓bqgkD_1, ↓bqgkN_0, ↓bqgkN_1, ↓bqgkO_1, ↓bqgkQ_1, ↓bqgkW_1, ↓bqgkS_0, ↓bqgkS_2, ↓bqgkS_3, ↓bqgkT_0, ↓bqgkT_1, ↓bqgkF_1, ↓bqgkH_1, ↓bqgkU_0, ↓bqgkU_1, ↓bqgkU_2, ↓bqgkU_3, ↓bqgkU_4, ↓bqgkY_0, ↓bqgkY_1, ↓bqgkY_2, ↓bqikE_, ↓bqikP_, ↓bqikR_, ↓bqikX_, ↓bqikG_, ↓bqikI_, ↓bqikJ_, ↓bqvkC_, ↓bqvkD_, ↓bqvkN_, ↓bqvkO_, ↓bqvkQ_, ↓bqvkU_, ↓bqvkY_, ↓bqvkW_, ↓bqvkS_, ↓bqvkT_, ↓bqvkF_, ↓bqvkH_, ↓bqr_0_0, ↓bqr_0_1, ↓bqr_0_3, ↓bqr_0_4, ↓bqr_0_5, ↓bqr_0_6, ↓bqr_0_7, ↓bqr_0_8, ↓bqr_1_0, ↓bqr_1_1, ↓bqr_1_2, ↓bqr_1_3, ↓bqr_1_5, ↓bqr_1_8, ↓bqr_1_10, ↓bqr_1_12, ↓bqr_1_13, ↓bqr_518_0, ↓bqr_518_1, ↓bqr_518_2, ↓bqr_518_6, ↓bqr_518_7, ↓bqr_524_0, ↓bqr_524_2, ↓bqr_524_4, ↓bqr_528_0, ↓bqr_528_1, ↓bqr_531_0, ↓bqr_531_1, ↓bqr_531_3, ↓bqr_592_0, ↓bqr_592_1, ↓bqr_592_2, ↓bqr_592_3, ↓bqr_592_4, ↓bqr_592_5, ↓bqr_592_6, ↓bqr_592_7, ↓bqr_592_11, ↓bqr_592_12, ↓bqr_592_13, ↓bqr_592_17, ↓bqr_592_18, ↓bqr_592_19, ↓bqr_592_23, ↓bqr_592_26, ↓bqr_592_27, ↓bqr_592_28, ↓bqg_0_2, ↓bqg_1_4, ↓bqg_1_6, ↓bqg_1_7, ↓bqg_1_9, ↓bqg_1_11, ↓bqg_1_14, ↓bqg_518_3, ↓bqg_518_4, ↓bqg_518_5, ↓bqg_518_8, ↓bqg_518_9, ↓bqg_524_1, ↓bqg_524_3, ↓bqg_528_2, ↓bqg_528_3, ↓bqg_531_2, ↓bqg_535_0, ↓bqg_535_1, ↓bqg_535_2, ↓bqg_535_3, ↓bqg_535_4, ↓bqg_592_8, ↓bqg_592_9, ↓bqg_592_10, ↓bqg_592_14, ↓bqg_592_15, ↓bqg_592_16, ↓bqg_592_20, ↓bqg_592_21, ↓bqg_592_22, ↓bqg_592_24, ↓bqg_592_25, ↓bqg_592_29, ↓bqg_592_30, ↓bqg_592_31, ↓bqg_592_32, ↓bqv_0, ↓bqv_1, ↓bqv_259, ↓bqv_518, ↓bqv_524, ↓bqv_528, ↓bqv_531, ↓bqv_535, ↓bqv_592, ↓bqi_2, ↓bqi_3, ↓bqi_4, ↓bqi_10, ↓bqi_519, ↓bqi_520, ↓bqi_521, ↓bqi_522, ↓bqi_523, ↓bqi_525, ↓bqi_526, ↓bqi_527, ↓bqi_529, ↓bqi_530, ↓bqi_532, ↓bqi_533, ↓bqi_534, ↓bqi_593, ↓bqi_594, ↓bqi_595, ↓bqi_596, ↓bqi_597, ↓bqi_598, ↓bqi_599, ↓bqi_600, ↓bqi_601, ↓bqi_602, ↓bqi_603, ↓bqi_604, ↓bqi_605, ↓bqi_606, ↓bqi_608, ↓bqi_609, ↓bqi_610, ↓bqz_607, ↓Option.bind_some, ↓bc_isIn, ↓bm_isIn, ↓bm_isShelf, i01, i10, j01, if_true, if_false, not_true_eq_false, not_false_eq_true, and_true, true_and, and_self, false_and, and_false, ↓reduceIte, Int.reduceEq, Int.reduceLT, Int.reduceLE, Int.reduceNeg, Int.reduceAdd, Int.reduceSub, Int.reduceMul, Int.reduceNe, Int.reduceToNat, Nat.reduceAdd, Nat.reduceMul, Nat.reduceEqDiff, v9, Int.lt_irrefl]
  · have hj' : (j : Int) = (s : Int) := hj
    exact pw_bit.mpr (by omega)
end
