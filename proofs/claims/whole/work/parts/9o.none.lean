/-! none: the least set of one to three sayings that leave no order -/
theorem and_all {x : Nat} (h : x < 16777216) : x &&& 16777215 = x := Nat.and_two_pow_sub_one_of_lt_two_pow (n := 24) h
def w_ (c b a : Nat) : Nat := (2 ^ a ||| 2 ^ b) ||| 2 ^ c
theorem w_bit {c b a i : Nat} : (w_ c b a).testBit i = (decide (a = i) || decide (b = i) || decide (c = i)) := by
  unfold w_; rw [Nat.testBit_or, Nat.testBit_or, Nat.testBit_two_pow, Nat.testBit_two_pow, Nat.testBit_two_pow]
theorem pw_or {c : Nat} {r : Nat} (h : r < 2 ^ c) : r ||| 2 ^ c = 2 ^ c + r := by
  have h1 := Nat.two_pow_add_eq_or_of_lt h 1
  rw [Nat.mul_one] at h1
  rw [Nat.or_comm, h1]
theorem pw_lt {a b : Nat} (h : a < b) : 2 ^ a + 2 ^ a ≤ 2 ^ b := by
  have h1 : 2 ^ (a + 1) ≤ 2 ^ b := Nat.pow_le_pow_right (by decide) h
  rw [Nat.pow_succ] at h1; omega
theorem pw_pos (a : Nat) : 1 ≤ 2 ^ a := Nat.one_le_two_pow
theorem w1 {c : Nat} : w_ c c c = 2 ^ c := by unfold w_; rw [Nat.or_self, Nat.or_self]
theorem w2 {c a : Nat} (h : a < c) : w_ c c a = 2 ^ c + 2 ^ a := by
  have := pw_lt h; have := pw_pos a
  unfold w_; rw [Nat.or_assoc, Nat.or_self, pw_or (by omega)]
theorem w3 {c b a : Nat} (h : a < b) (h2 : b < c) : w_ c b a = 2 ^ c + (2 ^ b + 2 ^ a) := by
  have := pw_lt h; have := pw_pos a; have := pw_lt h2
  unfold w_; rw [pw_or (r := 2 ^ a) (by omega), pw_or (by omega)]
/-- the shape of a set of m -/
def sh_ (m : Nat) (c b a : Nat) : Prop := (m = 1 ∧ b = c ∧ a = c) ∨ (m = 2 ∧ b = c ∧ a < c) ∨ (m = 3 ∧ a < b ∧ b < c)
/-- the bits grow with (c, b, a) -/
theorem w_mono {m c b a c' b' a' : Nat} (h : sh_ m c b a) (h' : sh_ m c' b' a') (hl : c < c' ∨ (c = c' ∧ (b < b' ∨ (b = b' ∧ a ≤ a')))) : w_ c b a ≤ w_ c' b' a' := by
  rcases h with ⟨rfl, rfl, rfl⟩ | ⟨rfl, rfl, h1⟩ | ⟨rfl, h1, h2⟩
  · rcases h' with ⟨_, rfl, rfl⟩ | ⟨g, _⟩ | ⟨g, _⟩
    · rw [w1, w1]; exact Nat.pow_le_pow_right (by decide) (by omega)
    · exact absurd g (by decide)
    · exact absurd g (by decide)
  · rcases h' with ⟨g, _⟩ | ⟨_, rfl, h1'⟩ | ⟨g, _⟩
    · exact absurd g (by decide)
    · rw [w2 h1, w2 h1']
      rcases hl with hl | ⟨rfl, hl | ⟨_, hl⟩⟩
      · have := pw_lt hl; have := pw_lt h1; have := pw_pos a'; have := pw_pos a; omega
      · omega
      · have := Nat.pow_le_pow_right (n := 2) (by decide) hl; omega
    · exact absurd g (by decide)
  · rcases h' with ⟨g, _⟩ | ⟨g, _⟩ | ⟨_, h1', h2'⟩
    · exact absurd g (by decide)
    · exact absurd g (by decide)
    · rw [w3 h1 h2, w3 h1' h2']
      rcases hl with hl | ⟨rfl, hl | ⟨rfl, hl⟩⟩
      · have := pw_lt hl; have := pw_lt h1; have := pw_lt h2; have := pw_pos a'; have := pw_pos b'; have := pw_pos a; omega
      · have := pw_lt hl; have := pw_lt h1; have := pw_pos a'; have := pw_pos a; omega
      · have := Nat.pow_le_pow_right (n := 2) (by decide) hl; omega
/-- a set of m that leaves nothing, by the masks L -/
def gd_ (L : Nat → Nat) (n m c b a : Nat) : Prop := c < n ∧ sh_ m c b a ∧ L c &&& L b &&& L a = 0
/-- no set; or the least -/
def le_ (L : Nat → Nat) (n m : Nat) (o : Option Nat) : Prop :=
  (o = none ∧ ∀ c b a, ¬ gd_ L n m c b a) ∨ (∃ c b a, o = some (w_ c b a) ∧ gd_ L n m c b a ∧ ∀ c' b' a', gd_ L n m c' b' a' → w_ c b a ≤ w_ c' b' a')
theorem le_one {L : Nat → Nat} {n m : Nat} {o o' : Option Nat} (h : le_ L n m o) (h' : le_ L n m o') : o = o' := by
  rcases h with ⟨h1, h2⟩ | ⟨c, b, a, h1, h2, h3⟩
  · rcases h' with ⟨g1, g2⟩ | ⟨c', b', a', g1, g2, g3⟩
    · rw [h1, g1]
    · exact absurd g2 (h2 _ _ _)
  · rcases h' with ⟨g1, g2⟩ | ⟨c', b', a', g1, g2, g3⟩
    · exact absurd h2 (g2 _ _ _)
    · rw [h1, g1]
      have := h3 _ _ _ g2; have := g3 _ _ _ h2
      congr 1; omega
section
variable {M B : Mem_m} {v : Nat → Int} {vil x : Int}
noncomputable def lB_ (M : Mem_m) (v : Nat → Int) (vil : Int) (k : Nat) : Nat := lb_ M v vil (k : Int)
/-- THE CLASS -/
theorem c_low1 (hV : Vw M v) {c left : Nat} (hc : (c : Int) < v 1065) (hl : left < 16777216) :
    (f_X0_lowestBelow SH0_ M 1 (c : Int) (left : Int) vil 1 = some (-1) ∧ ∀ b, b < c → left &&& lB_ M v vil b ≠ 0) ∨ (∃ b, b < c ∧ left &&& lB_ M v vil b = 0 ∧ (∀ z, z < b → left &&& lB_ M v vil z ≠ 0) ∧ f_X0_lowestBelow SH0_ M 1 (c : Int) (left : Int) vil 1 = some ((2 ^ b : Nat) : Int)) := by
  have b11 := vb_11 hV
  unfold f_X0_lowestBelow
  have key := lp_find (S := Unit) (F := fun n x _ => f_X0_lowestBelow_3 SH0_ M 1 (c : Int) (left : Int) vil 1 n x) (N := (c : Int)) (Q := fun _ => True) (P := fun x => left &&& lB_ M v vil x.toNat = 0) (y := fun x _ => some ((2 ^ x.toNat : Nat) : Int)) (k := fun _ => some (-1)) (x0 := 0) (by omega) (fun n x s h0 hx _ => ?_) (fun n x s h0 hx _ => ?_) (s := ()) trivial
  · obtain ⟨_, _, ⟨x, h0, hx, p1, p2, p3⟩ | ⟨p1, p2⟩⟩ := key
    · exact Or.inr ⟨x.toNat, by omega, p1, fun z hz => by have := p2 (z : Int) (by omega) (by omega); rwa [Int.toNat_natCast] at this, p3⟩
    · exact Or.inl ⟨p2, fun b hb => by have := p1 (b : Int) (by omega) (by omega); rwa [Int.toNat_natCast] at this⟩
  · obtain ⟨b, rfl⟩ := int_nat h0
    have hlb := c_leftBy (vil := vil) hV h0 (show (b : Int) < v 1065 by omega)
    have hlt := lb_lt (vil := vil) hV h0 (show (b : Int) < v 1065 by omega)
    have ea : an_i (left : Int) (lb_ M v vil (b : Int) : Int) = ((left &&& lB_ M v vil b : Nat) : Int) := an_nat (by omega) (by omega)
    refine ⟨(), trivial, ?_⟩
    rw [Int.toNat_natCast]
    show (_ ∧ f_X0_lowestBelow_3 SH0_ M 1 (c : Int) (left : Int) vil 1 (n + 1) (b : Int) = _) ∨ (_ ∧ f_X0_lowestBelow_3 SH0_ M 1 (c : Int) (left : Int) vil 1 (n + 1) (b : Int) = f_X0_lowestBelow_3 SH0_ M 1 (c : Int) (left : Int) vil 1 n ((b : Int) + 1))
    rw [f_X0_lowestBelow_3]
    by_cases g : left &&& lB_ M v vil b = 0
    · refine Or.inl ⟨g, ?_⟩
      simp (disch := omega) only [↓bqr_C, ↓bqr_D, ↓bqr_N2, ↓bqr_N3, ↓bqr_O, ↓bqr_Q, ↓bqr_W, ↓bqr_S1, ↓bqr_S4, ↓bqr_T2, ↓bqr_T3, ↓bqr_F, ↓bqr_H, ↓bqa_C, ↓bqa_N, ↓bqa_U, ↓bqa_Y, ↓bqa_W, ↓bqa_S, ↓bqgkC_1, ↓bqgkC_2, ↓bqgkC_3, ↓bqgkC_4, ↓bqgkC_5, ↓bqgkC_6, ↓bqgkD_1, ↓bqgkN_0, ↓bqgkN_1, ↓bqgkO_1, ↓bqgkQ_1, ↓bqgkW_1, ↓bqgkS_0, ↓bqgkS_2, ↓bqgkS_3, ↓bqgkT_0, ↓bqgkT_1, ↓bqgkF_1, ↓bqgkH_1, ↓bqgkU_0, ↓bqgkU_1, ↓bqgkU_2, ↓bqgkU_3, ↓bqgkU_4, ↓bqgkY_0, ↓bqgkY_1, ↓bqgkY_2, ↓bqikE_, ↓bqikP_, ↓bqikR_, ↓bqikX_, ↓bqikG_, ↓bqikI_, ↓bqikJ_, ↓bqvkC_, ↓bqvkD_, ↓bqvkN_, ↓bqvkO_, ↓bqvkQ_, ↓bqvkU_, ↓bqvkY_, ↓bqvkW_, ↓bqvkS_, ↓bqvkT_, ↓bqvkF_, ↓bqvkH_, ↓bqr_0_0, ↓bqr_0_1, ↓bqr_0_3, ↓bqr_0_4, ↓bqr_0_5, ↓bqr_0_6, ↓bqr_0_7, ↓bqr_0_8, ↓bqr_1_0, ↓bqr_1_1, ↓bqr_1_2, ↓bqr_1_3, ↓bqr_1_5, ↓bqr_1_8, ↓bqr_1_10, ↓bqr_1_12, ↓bqr_1_13, ↓bqr_518_0, ↓bqr_518_1, ↓bqr_518_2, ↓bqr_518_6, ↓bqr_518_7, ↓bqr_524_0, ↓bqr_524_2, ↓bqr_524_4, ↓bqr_528_0, ↓bqr_528_1, ↓bqr_531_0, ↓bqr_531_1, ↓bqr_531_3, ↓bqr_592_0, ↓bqr_592_1, ↓bqr_592_2, ↓bqr_592_3, ↓bqr_592_4, ↓bqr_592_5, ↓bqr_592_6, ↓bqr_592_7, ↓bqr_592_11, ↓bqr_592_12, ↓bqr_592_13, ↓bqr_592_17, ↓bqr_592_18, ↓bqr_592_19, ↓bqr_592_23, ↓bqr_592_26, ↓bqr_592_27, ↓bqr_592_28, ↓bqg_0_2, ↓bqg_1_4, ↓bqg_1_6, ↓bqg_1_7, ↓bqg_1_9, ↓bqg_1_11, ↓bqg_1_14, ↓bqg_518_3, ↓bqg_518_4, ↓bqg_518_5, ↓bqg_518_8, ↓bqg_518_9, ↓bqg_524_1, ↓bqg_524_3, ↓bqg_528_2, ↓bqg_528_3, ↓bqg_531_2, ↓bqg_535_0, ↓bqg_535_1, ↓bqg_535_2, ↓bqg_535_3, ↓bqg_535_4, ↓bqg_592_8, ↓bqg_592_9, ↓bqg_592_10, ↓bqg_592_14, ↓bqg_592_15, ↓bqg_592_16, ↓bqg_592_20, ↓bqg_592_21, ↓bqg_592_22, ↓bqg_592_24, ↓bqg_592_25, ↓bqg_592_29, ↓bqg_592_30, ↓bqg_592_31, ↓bqg_592_32, ↓bqv_0, ↓bqv_1, ↓bqv_259, ↓bqv_518, ↓bqv_524, ↓bqv_528, ↓bqv_531, ↓bqv_535, ↓bqv_592, ↓bqi_2, ↓bqi_3, ↓bqi_4, ↓bqi_10, ↓bqi_519, ↓bqi_520, ↓bqi_521, ↓bqi_522, ↓bqi_523, ↓bqi_525, ↓bqi_526, ↓bqi_527, ↓bqi_529, ↓bqi_530, ↓bqi_532, ↓bqi_533, ↓bqi_534, ↓bqi_593, ↓bqi_594, ↓bqi_595, ↓bqi_596, ↓bqi_597, ↓bqi_598, ↓bqi_599, ↓bqi_600, ↓bqi_601, ↓bqi_602, ↓bqi_603, ↓bqi_604, ↓bqi_605, ↓bqi_606, ↓bqi_608, ↓bqi_609, ↓bqi_610, ↓bqz_607, ↓Option.bind_some, ↓bc_isIn, ↓bm_isIn, ↓bm_isShelf, i01, i10, j01, if_true, if_false, not_true_eq_false, not_false_eq_true, and_true, true_and, and_self, false_and, and_false, ↓reduceIte, Int.reduceEq, Int.reduceLT, Int.reduceLE, Int.reduceNeg, Int.reduceAdd, Int.reduceSub, Int.reduceMul, Int.reduceNe, Int.reduceToNat, Nat.reduceAdd, Nat.reduceMul, Nat.reduceEqDiff, hx, ↓bnd hlb, ea, g, sl_nat (show b < 31 by omega)]
      rfl
    · refine Or.inr ⟨g, ?_⟩
      have g' : ¬ ((left &&& lB_ M v vil b : Nat) : Int) = 0 := by omega
      have e39 : ∀ k, f_X0_lowestBelow_39 SH0_ k M 1 (c : Int) (left : Int) vil 1 (b : Int) ((left &&& lB_ M v vil b : Nat) : Int) FU_ 0 = k (wr_i ((b : Int) + 1)) := fun k => by
        show f_X0_lowestBelow_39 SH0_ k M 1 (c : Int) (left : Int) vil 1 (b : Int) _ (999999 + 1) 0 = _
        rw [f_X0_lowestBelow_39, if_neg (by decide)]
      simp (disch := omega) only [↓bqr_C, ↓bqr_D, ↓bqr_N2, ↓bqr_N3, ↓bqr_O, ↓bqr_Q, ↓bqr_W, ↓bqr_S1, ↓bqr_S4, ↓bqr_T2, ↓bqr_T3, ↓bqr_F, ↓bqr_H, ↓bqa_C, ↓bqa_N, ↓bqa_U, ↓bqa_Y, ↓bqa_W, ↓bqa_S, ↓bqgkC_1, ↓bqgkC_2, ↓bqgkC_3, ↓bqgkC_4, ↓bqgkC_5, ↓bqgkC_6, ↓bqgkD_1, ↓bqgkN_0, ↓bqgkN_1, ↓bqgkO_1, ↓bqgkQ_1, ↓bqgkW_1, ↓bqgkS_0, ↓bqgkS_2, ↓bqgkS_3, ↓bqgkT_0, ↓bqgkT_1, ↓bqgkF_1, ↓bqgkH_1, ↓bqgkU_0, ↓bqgkU_1, ↓bqgkU_2, ↓bqgkU_3, ↓bqgkU_4, ↓bqgkY_0, ↓bqgkY_1, ↓bqgkY_2, ↓bqikE_, ↓bqikP_, ↓bqikR_, ↓bqikX_, ↓bqikG_, ↓bqikI_, ↓bqikJ_, ↓bqvkC_, ↓bqvkD_, ↓bqvkN_, ↓bqvkO_, ↓bqvkQ_, ↓bqvkU_, ↓bqvkY_, ↓bqvkW_, ↓bqvkS_, ↓bqvkT_, ↓bqvkF_, ↓bqvkH_, ↓bqr_0_0, ↓bqr_0_1, ↓bqr_0_3, ↓bqr_0_4, ↓bqr_0_5, ↓bqr_0_6, ↓bqr_0_7, ↓bqr_0_8, ↓bqr_1_0, ↓bqr_1_1, ↓bqr_1_2, ↓bqr_1_3, ↓bqr_1_5, ↓bqr_1_8, ↓bqr_1_10, ↓bqr_1_12, ↓bqr_1_13, ↓bqr_518_0, ↓bqr_518_1, ↓bqr_518_2, ↓bqr_518_6, ↓bqr_518_7, ↓bqr_524_0, ↓bqr_524_2, ↓bqr_524_4, ↓bqr_528_0, ↓bqr_528_1, ↓bqr_531_0, ↓bqr_531_1, ↓bqr_531_3, ↓bqr_592_0, ↓bqr_592_1, ↓bqr_592_2, ↓bqr_592_3, ↓bqr_592_4, ↓bqr_592_5, ↓bqr_592_6, ↓bqr_592_7, ↓bqr_592_11, ↓bqr_592_12, ↓bqr_592_13, ↓bqr_592_17, ↓bqr_592_18, ↓bqr_592_19, ↓bqr_592_23, ↓bqr_592_26, ↓bqr_592_27, ↓bqr_592_28, ↓bqg_0_2, ↓bqg_1_4, ↓bqg_1_6, ↓bqg_1_7, ↓bqg_1_9, ↓bqg_1_11, ↓bqg_1_14, ↓bqg_518_3, ↓bqg_518_4, ↓bqg_518_5, ↓bqg_518_8, ↓bqg_518_9, ↓bqg_524_1, ↓bqg_524_3, ↓bqg_528_2, ↓bqg_528_3, ↓bqg_531_2, ↓bqg_535_0, ↓bqg_535_1, ↓bqg_535_2, ↓bqg_535_3, ↓bqg_535_4, ↓bqg_592_8, ↓bqg_592_9, ↓bqg_592_10, ↓bqg_592_14, ↓bqg_592_15, ↓bqg_592_16, ↓bqg_592_20, ↓bqg_592_21, ↓bqg_592_22, ↓bqg_592_24, ↓bqg_592_25, ↓bqg_592_29, ↓bqg_592_30, ↓bqg_592_31, ↓bqg_592_32, ↓bqv_0, ↓bqv_1, ↓bqv_259, ↓bqv_518, ↓bqv_524, ↓bqv_528, ↓bqv_531, ↓bqv_535, ↓bqv_592, ↓bqi_2, ↓bqi_3, ↓bqi_4, ↓bqi_10, ↓bqi_519, ↓bqi_520, ↓bqi_521, ↓bqi_522, ↓bqi_523, ↓bqi_525, ↓bqi_526, ↓bqi_527, ↓bqi_529, ↓bqi_530, ↓bqi_532, ↓bqi_533, ↓bqi_534, ↓bqi_593, ↓bqi_594, ↓bqi_595, ↓bqi_596, ↓bqi_597, ↓bqi_598, ↓bqi_599, ↓bqi_600, ↓bqi_601, ↓bqi_602, ↓bqi_603, ↓bqi_604, ↓bqi_605, ↓bqi_606, ↓bqi_608, ↓bqi_609, ↓bqi_610, ↓bqz_607, ↓Option.bind_some, ↓bc_isIn, ↓bm_isIn, ↓bm_isShelf, i01, i10, j01, if_true, if_false, not_true_eq_false, not_false_eq_true, and_true, true_and, and_self, false_and, and_false, ↓reduceIte, Int.reduceEq, Int.reduceLT, Int.reduceLE, Int.reduceNeg, Int.reduceAdd, Int.reduceSub, Int.reduceMul, Int.reduceNe, Int.reduceToNat, Nat.reduceAdd, Nat.reduceMul, Nat.reduceEqDiff, hx, ↓bnd hlb, ea, g', e39, wr_n]
  · show f_X0_lowestBelow_3 SH0_ M 1 (c : Int) (left : Int) vil 1 (n + 1) x = _
    rw [f_X0_lowestBelow_3, if_neg (by omega)]
theorem c_low2 (hV : Vw M v) {c left : Nat} (hc : (c : Int) < v 1065) (hl : left < 16777216) :
    (f_X0_lowestBelow SH0_ M 1 (c : Int) (left : Int) vil 2 = some (-1) ∧ ∀ b a, b < c → a < b → left &&& lB_ M v vil b &&& lB_ M v vil a ≠ 0) ∨ (∃ b a, b < c ∧ a < b ∧ left &&& lB_ M v vil b &&& lB_ M v vil a = 0 ∧ (∀ z a', z < b → a' < z → left &&& lB_ M v vil z &&& lB_ M v vil a' ≠ 0) ∧ (∀ z, z < a → left &&& lB_ M v vil b &&& lB_ M v vil z ≠ 0) ∧ f_X0_lowestBelow SH0_ M 1 (c : Int) (left : Int) vil 2 = some ((2 ^ b ||| 2 ^ a : Nat) : Int)) := by
  have b11 := vb_11 hV
  unfold f_X0_lowestBelow
  refine lp_run (A := Unit) (fun n x _ => f_X0_lowestBelow_3 SH0_ M 1 (c : Int) (left : Int) vil 2 n x) (c : Int) (fun x _ => 0 ≤ x ∧ x ≤ c ∧ ∀ z a' : Nat, (z : Int) < x → a' < z → left &&& lB_ M v vil z &&& lB_ M v vil a' ≠ 0) (fun o => (o = some (-1) ∧ ∀ b a, b < c → a < b → left &&& lB_ M v vil b &&& lB_ M v vil a ≠ 0) ∨ (∃ b a, b < c ∧ a < b ∧ left &&& lB_ M v vil b &&& lB_ M v vil a = 0 ∧ (∀ z a', z < b → a' < z → left &&& lB_ M v vil z &&& lB_ M v vil a' ≠ 0) ∧ (∀ z, z < a → left &&& lB_ M v vil b &&& lB_ M v vil z ≠ 0) ∧ o = some ((2 ^ b ||| 2 ^ a : Nat) : Int))) ?_ ?_ FU_ 0 () (by unfold FU_; omega) ⟨by omega, by omega, fun z a' h => absurd h (by omega)⟩
  · intro n x _ hx ⟨h0, h1, h2⟩
    obtain ⟨b, rfl⟩ := int_nat h0
    have hlb := c_leftBy (vil := vil) hV h0 (show (b : Int) < v 1065 by omega)
    have hlt := lb_lt (vil := vil) hV h0 (show (b : Int) < v 1065 by omega)
    have ea : an_i (left : Int) (lb_ M v vil (b : Int) : Int) = ((left &&& lB_ M v vil b : Nat) : Int) := an_nat (by omega) (by omega)
    have hl2 : left &&& lB_ M v vil b < 16777216 := Nat.lt_of_le_of_lt Nat.and_le_left hl
    show (∃ a' : Unit, f_X0_lowestBelow_3 SH0_ M 1 (c : Int) (left : Int) vil 2 (n + 1) (b : Int) = f_X0_lowestBelow_3 SH0_ M 1 (c : Int) (left : Int) vil 2 n ((b : Int) + 1) ∧ _) ∨ _
    have e0 : f_X0_lowestBelow_3 SH0_ M 1 (c : Int) (left : Int) vil 2 (n + 1) (b : Int) = f_X0_lowestBelow_39 SH0_ (fun x5 => f_X0_lowestBelow_3 SH0_ M 1 (c : Int) (left : Int) vil 2 n x5) M 1 (c : Int) (left : Int) vil 2 (b : Int) ((left &&& lB_ M v vil b : Nat) : Int) FU_ 0 := by
      rw [f_X0_lowestBelow_3]
      simp (disch := omega) only [↓bqr_C, ↓bqr_D, ↓bqr_N2, ↓bqr_N3, ↓bqr_O, ↓bqr_Q, ↓bqr_W, ↓bqr_S1, ↓bqr_S4, ↓bqr_T2, ↓bqr_T3, ↓bqr_F, ↓bqr_H, ↓bqa_C, ↓bqa_N, ↓bqa_U, ↓bqa_Y, ↓bqa_W, ↓bqa_S, ↓bqgkC_1, ↓bqgkC_2, ↓bqgkC_3, ↓bqgkC_4, ↓bqgkC_5, ↓bqgkC_6, ↓bqgkD_1, ↓bqgkN_0, ↓bqgkN_1, ↓bqgkO_1, ↓bqgkQ_1, ↓bqgkW_1, ↓bqgkS_0, ↓bqgkS_2, ↓bqgkS_3, ↓bqgkT_0, ↓bqgkT_1, ↓bqgkF_1, ↓bqgkH_1, ↓bqgkU_0, ↓bqgkU_1, ↓bqgkU_2, ↓bqgkU_3, ↓bqgkU_4, ↓bqgkY_0, ↓bqgkY_1, ↓bqgkY_2, ↓bqikE_, ↓bqikP_, ↓bqikR_, ↓bqikX_, ↓bqikG_, ↓bqikI_, ↓bqikJ_, ↓bqvkC_, ↓bqvkD_, ↓bqvkN_, ↓bqvkO_, ↓bqvkQ_, ↓bqvkU_, ↓bqvkY_, ↓bqvkW_, ↓bqvkS_, ↓bqvkT_, ↓bqvkF_, ↓bqvkH_, ↓bqr_0_0, ↓bqr_0_1, ↓bqr_0_3, ↓bqr_0_4, ↓bqr_0_5, ↓bqr_0_6, ↓bqr_0_7, ↓bqr_0_8, ↓bqr_1_0, ↓bqr_1_1, ↓bqr_1_2, ↓bqr_1_3, ↓bqr_1_5, ↓bqr_1_8, ↓bqr_1_10, ↓bqr_1_12, ↓bqr_1_13, ↓bqr_518_0, ↓bqr_518_1, ↓bqr_518_2, ↓bqr_518_6, ↓bqr_518_7, ↓bqr_524_0, ↓bqr_524_2, ↓bqr_524_4, ↓bqr_528_0, ↓bqr_528_1, ↓bqr_531_0, ↓bqr_531_1, ↓bqr_531_3, ↓bqr_592_0, ↓bqr_592_1, ↓bqr_592_2, ↓bqr_592_3, ↓bqr_592_4, ↓bqr_592_5, ↓bqr_592_6, ↓bqr_592_7, ↓bqr_592_11, ↓bqr_592_12, ↓bqr_592_13, ↓bqr_592_17, ↓bqr_592_18, ↓bqr_592_19, ↓bqr_592_23, ↓bqr_592_26, ↓bqr_592_27, ↓bqr_592_28, ↓bqg_0_2, ↓bqg_1_4, ↓bqg_1_6, ↓bqg_1_7, ↓bqg_1_9, ↓bqg_1_11, ↓bqg_1_14, ↓bqg_518_3, ↓bqg_518_4, ↓bqg_518_5, ↓bqg_518_8, ↓bqg_518_9, ↓bqg_524_1, ↓bqg_524_3, ↓bqg_528_2, ↓bqg_528_3, ↓bqg_531_2, ↓bqg_535_0, ↓bqg_535_1, ↓bqg_535_2, ↓bqg_535_3, ↓bqg_535_4, ↓bqg_592_8, ↓bqg_592_9, ↓bqg_592_10, ↓bqg_592_14, ↓bqg_592_15, ↓bqg_592_16, ↓bqg_592_20, ↓bqg_592_21, ↓bqg_592_22, ↓bqg_592_24, ↓bqg_592_25, ↓bqg_592_29, ↓bqg_592_30, ↓bqg_592_31, ↓bqg_592_32, ↓bqv_0, ↓bqv_1, ↓bqv_259, ↓bqv_518, ↓bqv_524, ↓bqv_528, ↓bqv_531, ↓bqv_535, ↓bqv_592, ↓bqi_2, ↓bqi_3, ↓bqi_4, ↓bqi_10, ↓bqi_519, ↓bqi_520, ↓bqi_521, ↓bqi_522, ↓bqi_523, ↓bqi_525, ↓bqi_526, ↓bqi_527, ↓bqi_529, ↓bqi_530, ↓bqi_532, ↓bqi_533, ↓bqi_534, ↓bqi_593, ↓bqi_594, ↓bqi_595, ↓bqi_596, ↓bqi_597, ↓bqi_598, ↓bqi_599, ↓bqi_600, ↓bqi_601, ↓bqi_602, ↓bqi_603, ↓bqi_604, ↓bqi_605, ↓bqi_606, ↓bqi_608, ↓bqi_609, ↓bqi_610, ↓bqz_607, ↓Option.bind_some, ↓bc_isIn, ↓bm_isIn, ↓bm_isShelf, i01, i10, j01, if_true, if_false, not_true_eq_false, not_false_eq_true, and_true, true_and, and_self, false_and, and_false, ↓reduceIte, Int.reduceEq, Int.reduceLT, Int.reduceLE, Int.reduceNeg, Int.reduceAdd, Int.reduceSub, Int.reduceMul, Int.reduceNe, Int.reduceToNat, Nat.reduceAdd, Nat.reduceMul, Nat.reduceEqDiff, hx, ↓bnd hlb, ea]
    rw [e0]
    have key := lp_find (S := Unit) (F := fun m y _ => f_X0_lowestBelow_39 SH0_ (fun x5 => f_X0_lowestBelow_3 SH0_ M 1 (c : Int) (left : Int) vil 2 n x5) M 1 (c : Int) (left : Int) vil 2 (b : Int) ((left &&& lB_ M v vil b : Nat) : Int) m y) (N := (b : Int)) (Q := fun _ => True) (P := fun x => left &&& lB_ M v vil b &&& lB_ M v vil x.toNat = 0) (y := fun x _ => some ((2 ^ b ||| 2 ^ x.toNat : Nat) : Int)) (k := fun _ => f_X0_lowestBelow_3 SH0_ M 1 (c : Int) (left : Int) vil 2 n ((b : Int) + 1)) (x0 := 0) (by omega) (fun n x s h0 hx _ => ?_) (fun n x s h0 hx _ => ?_) (s := ()) trivial
    · obtain ⟨_, _, ⟨x, g0, hx, p1, p2, p3⟩ | ⟨p1, p2⟩⟩ := key
      · exact Or.inr (Or.inr ⟨b, x.toNat, by omega, by omega, p1, fun z a' q1 q2 => h2 z a' (by omega) q2, fun z hz => by have := p2 (z : Int) (by omega) (by omega); rwa [Int.toNat_natCast] at this, p3⟩)
      · refine Or.inl ⟨(), p2, by omega, by omega, fun z a' q1 q2 => ?_⟩
        by_cases hz : z = b
        · subst hz; have := p1 (a' : Int) (by omega) (by omega); rwa [Int.toNat_natCast] at this
        · exact h2 z a' (by omega) q2
    · rename_i n'
      obtain ⟨a, rfl⟩ := int_nat h0
      have hlb := c_leftBy (vil := vil) hV h0 (show (a : Int) < v 1065 by omega)
      have hlt := lb_lt (vil := vil) hV h0 (show (a : Int) < v 1065 by omega)
      have ea : an_i ((left &&& lB_ M v vil b : Nat) : Int) (lb_ M v vil (a : Int) : Int) = ((left &&& lB_ M v vil b &&& lB_ M v vil a : Nat) : Int) := an_nat (by omega) (by omega)
      refine ⟨(), trivial, ?_⟩
      rw [Int.toNat_natCast]
      rw [f_X0_lowestBelow_39]
      by_cases g : left &&& lB_ M v vil b &&& lB_ M v vil a = 0
      · refine Or.inl ⟨g, ?_⟩
        simp (disch := omega) only [↓bqr_C, ↓bqr_D, ↓bqr_N2, ↓bqr_N3, ↓bqr_O, ↓bqr_Q, ↓bqr_W, ↓bqr_S1, ↓bqr_S4, ↓bqr_T2, ↓bqr_T3, ↓bqr_F, ↓bqr_H, ↓bqa_C, ↓bqa_N, ↓bqa_U, ↓bqa_Y, ↓bqa_W, ↓bqa_S, ↓bqgkC_1, ↓bqgkC_2, ↓bqgkC_3, ↓bqgkC_4, ↓bqgkC_5, ↓bqgkC_6, ↓bqgkD_1, ↓bqgkN_0, ↓bqgkN_1, ↓bqgkO_1, ↓bqgkQ_1, ↓bqgkW_1, ↓bqgkS_0, ↓bqgkS_2, ↓bqgkS_3, ↓bqgkT_0, ↓bqgkT_1, ↓bqgkF_1, ↓bqgkH_1, ↓bqgkU_0, ↓bqgkU_1, ↓bqgkU_2, ↓bqgkU_3, ↓bqgkU_4, ↓bqgkY_0, ↓bqgkY_1, ↓bqgkY_2, ↓bqikE_, ↓bqikP_, ↓bqikR_, ↓bqikX_, ↓bqikG_, ↓bqikI_, ↓bqikJ_, ↓bqvkC_, ↓bqvkD_, ↓bqvkN_, ↓bqvkO_, ↓bqvkQ_, ↓bqvkU_, ↓bqvkY_, ↓bqvkW_, ↓bqvkS_, ↓bqvkT_, ↓bqvkF_, ↓bqvkH_, ↓bqr_0_0, ↓bqr_0_1, ↓bqr_0_3, ↓bqr_0_4, ↓bqr_0_5, ↓bqr_0_6, ↓bqr_0_7, ↓bqr_0_8, ↓bqr_1_0, ↓bqr_1_1, ↓bqr_1_2, ↓bqr_1_3, ↓bqr_1_5, ↓bqr_1_8, ↓bqr_1_10, ↓bqr_1_12, ↓bqr_1_13, ↓bqr_518_0, ↓bqr_518_1, ↓bqr_518_2, ↓bqr_518_6, ↓bqr_518_7, ↓bqr_524_0, ↓bqr_524_2, ↓bqr_524_4, ↓bqr_528_0, ↓bqr_528_1, ↓bqr_531_0, ↓bqr_531_1, ↓bqr_531_3, ↓bqr_592_0, ↓bqr_592_1, ↓bqr_592_2, ↓bqr_592_3, ↓bqr_592_4, ↓bqr_592_5, ↓bqr_592_6, ↓bqr_592_7, ↓bqr_592_11, ↓bqr_592_12, ↓bqr_592_13, ↓bqr_592_17, ↓bqr_592_18, ↓bqr_592_19, ↓bqr_592_23, ↓bqr_592_26, ↓bqr_592_27, ↓bqr_592_28, ↓bqg_0_2, ↓bqg_1_4, ↓bqg_1_6, ↓bqg_1_7, ↓bqg_1_9, ↓bqg_1_11, ↓bqg_1_14, ↓bqg_518_3, ↓bqg_518_4, ↓bqg_518_5, ↓bqg_518_8, ↓bqg_518_9, ↓bqg_524_1, ↓bqg_524_3, ↓bqg_528_2, ↓bqg_528_3, ↓bqg_531_2, ↓bqg_535_0, ↓bqg_535_1, ↓bqg_535_2, ↓bqg_535_3, ↓bqg_535_4, ↓bqg_592_8, ↓bqg_592_9, ↓bqg_592_10, ↓bqg_592_14, ↓bqg_592_15, ↓bqg_592_16, ↓bqg_592_20, ↓bqg_592_21, ↓bqg_592_22, ↓bqg_592_24, ↓bqg_592_25, ↓bqg_592_29, ↓bqg_592_30, ↓bqg_592_31, ↓bqg_592_32, ↓bqv_0, ↓bqv_1, ↓bqv_259, ↓bqv_518, ↓bqv_524, ↓bqv_528, ↓bqv_531, ↓bqv_535, ↓bqv_592, ↓bqi_2, ↓bqi_3, ↓bqi_4, ↓bqi_10, ↓bqi_519, ↓bqi_520, ↓bqi_521, ↓bqi_522, ↓bqi_523, ↓bqi_525, ↓bqi_526, ↓bqi_527, ↓bqi_529, ↓bqi_530, ↓bqi_532, ↓bqi_533, ↓bqi_534, ↓bqi_593, ↓bqi_594, ↓bqi_595, ↓bqi_596, ↓bqi_597, ↓bqi_598, ↓bqi_599, ↓bqi_600, ↓bqi_601, ↓bqi_602, ↓bqi_603, ↓bqi_604, ↓bqi_605, ↓bqi_606, ↓bqi_608, ↓bqi_609, ↓bqi_610, ↓bqz_607, ↓Option.bind_some, ↓bc_isIn, ↓bm_isIn, ↓bm_isShelf, i01, i10, j01, if_true, if_false, not_true_eq_false, not_false_eq_true, and_true, true_and, and_self, false_and, and_false, ↓reduceIte, Int.reduceEq, Int.reduceLT, Int.reduceLE, Int.reduceNeg, Int.reduceAdd, Int.reduceSub, Int.reduceMul, Int.reduceNe, Int.reduceToNat, Nat.reduceAdd, Nat.reduceMul, Nat.reduceEqDiff, hx, ↓bnd hlb, ea, g, sl_nat (show b < 31 by omega), sl_nat (show a < 31 by omega)]
        rw [or_nat (Nat.lt_of_lt_of_le (Nat.pow_lt_pow_right (by decide) (show b < 31 by omega)) (by decide)) (Nat.lt_of_lt_of_le (Nat.pow_lt_pow_right (by decide) (show a < 31 by omega)) (by decide))]
        rfl
      · refine Or.inr ⟨g, ?_⟩
        have g' : ¬ ((left &&& lB_ M v vil b &&& lB_ M v vil a : Nat) : Int) = 0 := by omega
        simp (disch := omega) only [↓bqr_C, ↓bqr_D, ↓bqr_N2, ↓bqr_N3, ↓bqr_O, ↓bqr_Q, ↓bqr_W, ↓bqr_S1, ↓bqr_S4, ↓bqr_T2, ↓bqr_T3, ↓bqr_F, ↓bqr_H, ↓bqa_C, ↓bqa_N, ↓bqa_U, ↓bqa_Y, ↓bqa_W, ↓bqa_S, ↓bqgkC_1, ↓bqgkC_2, ↓bqgkC_3, ↓bqgkC_4, ↓bqgkC_5, ↓bqgkC_6, ↓bqgkD_1, ↓bqgkN_0, ↓bqgkN_1, ↓bqgkO_1, ↓bqgkQ_1, ↓bqgkW_1, ↓bqgkS_0, ↓bqgkS_2, ↓bqgkS_3, ↓bqgkT_0, ↓bqgkT_1, ↓bqgkF_1, ↓bqgkH_1, ↓bqgkU_0, ↓bqgkU_1, ↓bqgkU_2, ↓bqgkU_3, ↓bqgkU_4, ↓bqgkY_0, ↓bqgkY_1, ↓bqgkY_2, ↓bqikE_, ↓bqikP_, ↓bqikR_, ↓bqikX_, ↓bqikG_, ↓bqikI_, ↓bqikJ_, ↓bqvkC_, ↓bqvkD_, ↓bqvkN_, ↓bqvkO_, ↓bqvkQ_, ↓bqvkU_, ↓bqvkY_, ↓bqvkW_, ↓bqvkS_, ↓bqvkT_, ↓bqvkF_, ↓bqvkH_, ↓bqr_0_0, ↓bqr_0_1, ↓bqr_0_3, ↓bqr_0_4, ↓bqr_0_5, ↓bqr_0_6, ↓bqr_0_7, ↓bqr_0_8, ↓bqr_1_0, ↓bqr_1_1, ↓bqr_1_2, ↓bqr_1_3, ↓bqr_1_5, ↓bqr_1_8, ↓bqr_1_10, ↓bqr_1_12, ↓bqr_1_13, ↓bqr_518_0, ↓bqr_518_1, ↓bqr_518_2, ↓bqr_518_6, ↓bqr_518_7, ↓bqr_524_0, ↓bqr_524_2, ↓bqr_524_4, ↓bqr_528_0, ↓bqr_528_1, ↓bqr_531_0, ↓bqr_531_1, ↓bqr_531_3, ↓bqr_592_0, ↓bqr_592_1, ↓bqr_592_2, ↓bqr_592_3, ↓bqr_592_4, ↓bqr_592_5, ↓bqr_592_6, ↓bqr_592_7, ↓bqr_592_11, ↓bqr_592_12, ↓bqr_592_13, ↓bqr_592_17, ↓bqr_592_18, ↓bqr_592_19, ↓bqr_592_23, ↓bqr_592_26, ↓bqr_592_27, ↓bqr_592_28, ↓bqg_0_2, ↓bqg_1_4, ↓bqg_1_6, ↓bqg_1_7, ↓bqg_1_9, ↓bqg_1_11, ↓bqg_1_14, ↓bqg_518_3, ↓bqg_518_4, ↓bqg_518_5, ↓bqg_518_8, ↓bqg_518_9, ↓bqg_524_1, ↓bqg_524_3, ↓bqg_528_2, ↓bqg_528_3, ↓bqg_531_2, ↓bqg_535_0, ↓bqg_535_1, ↓bqg_535_2, ↓bqg_535_3, ↓bqg_535_4, ↓bqg_592_8, ↓bqg_592_9, ↓bqg_592_10, ↓bqg_592_14, ↓bqg_592_15, ↓bqg_592_16, ↓bqg_592_20, ↓bqg_592_21, ↓bqg_592_22, ↓bqg_592_24, ↓bqg_592_25, ↓bqg_592_29, ↓bqg_592_30, ↓bqg_592_31, ↓bqg_592_32, ↓bqv_0, ↓bqv_1, ↓bqv_259, ↓bqv_518, ↓bqv_524, ↓bqv_528, ↓bqv_531, ↓bqv_535, ↓bqv_592, ↓bqi_2, ↓bqi_3, ↓bqi_4, ↓bqi_10, ↓bqi_519, ↓bqi_520, ↓bqi_521, ↓bqi_522, ↓bqi_523, ↓bqi_525, ↓bqi_526, ↓bqi_527, ↓bqi_529, ↓bqi_530, ↓bqi_532, ↓bqi_533, ↓bqi_534, ↓bqi_593, ↓bqi_594, ↓bqi_595, ↓bqi_596, ↓bqi_597, ↓bqi_598, ↓bqi_599, ↓bqi_600, ↓bqi_601, ↓bqi_602, ↓bqi_603, ↓bqi_604, ↓bqi_605, ↓bqi_606, ↓bqi_608, ↓bqi_609, ↓bqi_610, ↓bqz_607, ↓Option.bind_some, ↓bc_isIn, ↓bm_isIn, ↓bm_isShelf, i01, i10, j01, if_true, if_false, not_true_eq_false, not_false_eq_true, and_true, true_and, and_self, false_and, and_false, ↓reduceIte, Int.reduceEq, Int.reduceLT, Int.reduceLE, Int.reduceNeg, Int.reduceAdd, Int.reduceSub, Int.reduceMul, Int.reduceNe, Int.reduceToNat, Nat.reduceAdd, Nat.reduceMul, Nat.reduceEqDiff, hx, ↓bnd hlb, ea, g', wr_n]
    · rw [f_X0_lowestBelow_39, if_pos rfl, if_neg (by omega), wr_n (by omega) (by omega)]
  · intro n x _ hx ⟨h0, h1, h2⟩
    refine Or.inl ⟨?_, fun b a q1 q2 => h2 b a (by omega) q2⟩
    show f_X0_lowestBelow_3 SH0_ M 1 (c : Int) (left : Int) vil 2 (n + 1) x = _
    rw [f_X0_lowestBelow_3, if_neg (by omega)]

theorem lB_lt (hV : Vw M v) {k : Nat} (h : (k : Int) < v 1065) : lB_ M v vil k < 16777216 := lb_lt hV (by omega) h
theorem pow31 {b : Nat} (h : b < 31) : 2 ^ b < 2147483648 := Nat.pow_lt_pow_right (by decide) h
theorem gd_2 {L : Nat → Nat} {n c a : Nat} : gd_ L n 2 c c a ↔ c < n ∧ a < c ∧ L c &&& L a = 0 := by
  unfold gd_ sh_
  rw [Nat.and_self]
  constructor
  · intro ⟨h1, h2, h3⟩; exact ⟨h1, by omega, h3⟩
  · intro ⟨h1, h2, h3⟩; exact ⟨h1, by omega, h3⟩
theorem c_least1 (hV : Vw M v) : ∃ o, le_ (lB_ M v vil) (v 1065).toNat 1 o ∧ f_X0_leastWithoutOrder SH0_ M 1 vil 1 = some ((o.getD 0 : Nat) : Int) := by
  have b11 := vb_11 hV
  unfold f_X0_leastWithoutOrder
  have key := lp_find (S := Unit) (F := fun n x _ => f_X0_leastWithoutOrder_2 SH0_ M 1 vil 1 n x) (N := v 1065) (Q := fun _ => True) (P := fun x => lB_ M v vil x.toNat = 0) (y := fun x _ => some ((2 ^ x.toNat : Nat) : Int)) (k := fun _ => some 0) (x0 := 0) (by omega) (fun n x s h0 hx _ => ?_) (fun n x s h0 hx _ => ?_) (s := ()) trivial
  · obtain ⟨_, _, ⟨x, h0, hx, p1, p2, p3⟩ | ⟨p1, p2⟩⟩ := key
    · refine ⟨some (w_ x.toNat x.toNat x.toNat), Or.inr ⟨x.toNat, x.toNat, x.toNat, rfl, ⟨by omega, Or.inl ⟨rfl, rfl, rfl⟩, by rw [p1]; rfl⟩, fun c' b' a' hg => ?_⟩, by rw [p3]; show _ = some ((w_ x.toNat x.toNat x.toNat : Nat) : Int); rw [w1]⟩
      refine w_mono (m := 1) (Or.inl ⟨rfl, rfl, rfl⟩) hg.2.1 ?_
      obtain ⟨g1, ⟨_, rfl, rfl⟩ | ⟨g, _⟩ | ⟨g, _⟩, g3⟩ := hg
      · by_cases hh : a' < x.toNat
        · have := p2 (a' : Int) (by omega) (by omega)
          rw [Int.toNat_natCast] at this
          rw [Nat.and_self, Nat.and_self] at g3
          exact absurd g3 this
        · omega
      · exact absurd g (by decide)
      · exact absurd g (by decide)
    · refine ⟨none, Or.inl ⟨rfl, fun c b a hg => ?_⟩, p2⟩
      obtain ⟨g1, ⟨_, rfl, rfl⟩ | ⟨g, _⟩ | ⟨g, _⟩, g3⟩ := hg
      · have := p1 (a : Int) (by omega) (by omega)
        rw [Int.toNat_natCast] at this
        rw [Nat.and_self, Nat.and_self] at g3
        exact this g3
      · exact absurd g (by decide)
      · exact absurd g (by decide)
  · obtain ⟨c, rfl⟩ := int_nat h0
    have hlb : f_X0_leftBy SH0_ M 1 (c : Int) vil = some (lB_ M v vil c : Int) := c_leftBy (vil := vil) hV h0 hx
    refine ⟨(), trivial, ?_⟩
    rw [Int.toNat_natCast]
    rw [f_X0_leastWithoutOrder_2]
    by_cases g : lB_ M v vil c = 0
    · refine Or.inl ⟨g, ?_⟩
      rw [g] at hlb
      have e0 : or_i 0 (((2 ^ c : Nat) : Int)) = ((2 ^ c : Nat) : Int) := by
        have := or_nat (n := 0) (m := 2 ^ c) (by decide) (pow31 (by omega))
        rw [Nat.zero_or] at this
        exact this
      unfold f_X0_leastWithoutOrder_47
      simp (disch := omega) only [↓bqr_C, ↓bqr_D, ↓bqr_N2, ↓bqr_N3, ↓bqr_O, ↓bqr_Q, ↓bqr_W, ↓bqr_S1, ↓bqr_S4, ↓bqr_T2, ↓bqr_T3, ↓bqr_F, ↓bqr_H, ↓bqa_C, ↓bqa_N, ↓bqa_U, ↓bqa_Y, ↓bqa_W, ↓bqa_S, ↓bqgkC_1, ↓bqgkC_2, ↓bqgkC_3, ↓bqgkC_4, ↓bqgkC_5, ↓bqgkC_6, ↓bqgkD_1, ↓bqgkN_0, ↓bqgkN_1, ↓bqgkO_1, ↓bqgkQ_1, ↓bqgkW_1, ↓bqgkS_0, ↓bqgkS_2, ↓bqgkS_3, ↓bqgkT_0, ↓bqgkT_1, ↓bqgkF_1, ↓bqgkH_1, ↓bqgkU_0, ↓bqgkU_1, ↓bqgkU_2, ↓bqgkU_3, ↓bqgkU_4, ↓bqgkY_0, ↓bqgkY_1, ↓bqgkY_2, ↓bqikE_, ↓bqikP_, ↓bqikR_, ↓bqikX_, ↓bqikG_, ↓bqikI_, ↓bqikJ_, ↓bqvkC_, ↓bqvkD_, ↓bqvkN_, ↓bqvkO_, ↓bqvkQ_, ↓bqvkU_, ↓bqvkY_, ↓bqvkW_, ↓bqvkS_, ↓bqvkT_, ↓bqvkF_, ↓bqvkH_, ↓bqr_0_0, ↓bqr_0_1, ↓bqr_0_3, ↓bqr_0_4, ↓bqr_0_5, ↓bqr_0_6, ↓bqr_0_7, ↓bqr_0_8, ↓bqr_1_0, ↓bqr_1_1, ↓bqr_1_2, ↓bqr_1_3, ↓bqr_1_5, ↓bqr_1_8, ↓bqr_1_10, ↓bqr_1_12, ↓bqr_1_13, ↓bqr_518_0, ↓bqr_518_1, ↓bqr_518_2, ↓bqr_518_6, ↓bqr_518_7, ↓bqr_524_0, ↓bqr_524_2, ↓bqr_524_4, ↓bqr_528_0, ↓bqr_528_1, ↓bqr_531_0, ↓bqr_531_1, ↓bqr_531_3, ↓bqr_592_0, ↓bqr_592_1, ↓bqr_592_2, ↓bqr_592_3, ↓bqr_592_4, ↓bqr_592_5, ↓bqr_592_6, ↓bqr_592_7, ↓bqr_592_11, ↓bqr_592_12, ↓bqr_592_13, ↓bqr_592_17, ↓bqr_592_18, ↓bqr_592_19, ↓bqr_592_23, ↓bqr_592_26, ↓bqr_592_27, ↓bqr_592_28, ↓bqg_0_2, ↓bqg_1_4, ↓bqg_1_6, ↓bqg_1_7, ↓bqg_1_9, ↓bqg_1_11, ↓bqg_1_14, ↓bqg_518_3, ↓bqg_518_4, ↓bqg_518_5, ↓bqg_518_8, ↓bqg_518_9, ↓bqg_524_1, ↓bqg_524_3, ↓bqg_528_2, ↓bqg_528_3, ↓bqg_531_2, ↓bqg_535_0, ↓bqg_535_1, ↓bqg_535_2, ↓bqg_535_3, ↓bqg_535_4, ↓bqg_592_8, ↓bqg_592_9, ↓bqg_592_10, ↓bqg_592_14, ↓bqg_592_15, ↓bqg_592_16, ↓bqg_592_20, ↓bqg_592_21, ↓bqg_592_22, ↓bqg_592_24, ↓bqg_592_25, ↓bqg_592_29, ↓bqg_592_30, ↓bqg_592_31, ↓bqg_592_32, ↓bqv_0, ↓bqv_1, ↓bqv_259, ↓bqv_518, ↓bqv_524, ↓bqv_528, ↓bqv_531, ↓bqv_535, ↓bqv_592, ↓bqi_2, ↓bqi_3, ↓bqi_4, ↓bqi_10, ↓bqi_519, ↓bqi_520, ↓bqi_521, ↓bqi_522, ↓bqi_523, ↓bqi_525, ↓bqi_526, ↓bqi_527, ↓bqi_529, ↓bqi_530, ↓bqi_532, ↓bqi_533, ↓bqi_534, ↓bqi_593, ↓bqi_594, ↓bqi_595, ↓bqi_596, ↓bqi_597, ↓bqi_598, ↓bqi_599, ↓bqi_600, ↓bqi_601, ↓bqi_602, ↓bqi_603, ↓bqi_604, ↓bqi_605, ↓bqi_606, ↓bqi_608, ↓bqi_609, ↓bqi_610, ↓bqz_607, ↓Option.bind_some, ↓bc_isIn, ↓bm_isIn, ↓bm_isShelf, i01, i10, j01, if_true, if_false, not_true_eq_false, not_false_eq_true, and_true, true_and, and_self, false_and, and_false, ↓reduceIte, Int.reduceEq, Int.reduceLT, Int.reduceLE, Int.reduceNeg, Int.reduceAdd, Int.reduceSub, Int.reduceMul, Int.reduceNe, Int.reduceToNat, Nat.reduceAdd, Nat.reduceMul, Nat.reduceEqDiff, vw_11 hV, hx, ↓bnd hlb, sl_nat (show c < 31 by omega), Int.lt_irrefl]
      exact congrArg some e0
    · refine Or.inr ⟨g, ?_⟩
      have g' : ¬ ((lB_ M v vil c : Nat) : Int) = 0 := by omega
      unfold f_X0_leastWithoutOrder_47
      simp (disch := omega) only [↓bqr_C, ↓bqr_D, ↓bqr_N2, ↓bqr_N3, ↓bqr_O, ↓bqr_Q, ↓bqr_W, ↓bqr_S1, ↓bqr_S4, ↓bqr_T2, ↓bqr_T3, ↓bqr_F, ↓bqr_H, ↓bqa_C, ↓bqa_N, ↓bqa_U, ↓bqa_Y, ↓bqa_W, ↓bqa_S, ↓bqgkC_1, ↓bqgkC_2, ↓bqgkC_3, ↓bqgkC_4, ↓bqgkC_5, ↓bqgkC_6, ↓bqgkD_1, ↓bqgkN_0, ↓bqgkN_1, ↓bqgkO_1, ↓bqgkQ_1, ↓bqgkW_1, ↓bqgkS_0, ↓bqgkS_2, ↓bqgkS_3, ↓bqgkT_0, ↓bqgkT_1, ↓bqgkF_1, ↓bqgkH_1, ↓bqgkU_0, ↓bqgkU_1, ↓bqgkU_2, ↓bqgkU_3, ↓bqgkU_4, ↓bqgkY_0, ↓bqgkY_1, ↓bqgkY_2, ↓bqikE_, ↓bqikP_, ↓bqikR_, ↓bqikX_, ↓bqikG_, ↓bqikI_, ↓bqikJ_, ↓bqvkC_, ↓bqvkD_, ↓bqvkN_, ↓bqvkO_, ↓bqvkQ_, ↓bqvkU_, ↓bqvkY_, ↓bqvkW_, ↓bqvkS_, ↓bqvkT_, ↓bqvkF_, ↓bqvkH_, ↓bqr_0_0, ↓bqr_0_1, ↓bqr_0_3, ↓bqr_0_4, ↓bqr_0_5, ↓bqr_0_6, ↓bqr_0_7, ↓bqr_0_8, ↓bqr_1_0, ↓bqr_1_1, ↓bqr_1_2, ↓bqr_1_3, ↓bqr_1_5, ↓bqr_1_8, ↓bqr_1_10, ↓bqr_1_12, ↓bqr_1_13, ↓bqr_518_0, ↓bqr_518_1, ↓bqr_518_2, ↓bqr_518_6, ↓bqr_518_7, ↓bqr_524_0, ↓bqr_524_2, ↓bqr_524_4, ↓bqr_528_0, ↓bqr_528_1, ↓bqr_531_0, ↓bqr_531_1, ↓bqr_531_3, ↓bqr_592_0, ↓bqr_592_1, ↓bqr_592_2, ↓bqr_592_3, ↓bqr_592_4, ↓bqr_592_5, ↓bqr_592_6, ↓bqr_592_7, ↓bqr_592_11, ↓bqr_592_12, ↓bqr_592_13, ↓bqr_592_17, ↓bqr_592_18, ↓bqr_592_19, ↓bqr_592_23, ↓bqr_592_26, ↓bqr_592_27, ↓bqr_592_28, ↓bqg_0_2, ↓bqg_1_4, ↓bqg_1_6, ↓bqg_1_7, ↓bqg_1_9, ↓bqg_1_11, ↓bqg_1_14, ↓bqg_518_3, ↓bqg_518_4, ↓bqg_518_5, ↓bqg_518_8, ↓bqg_518_9, ↓bqg_524_1, ↓bqg_524_3, ↓bqg_528_2, ↓bqg_528_3, ↓bqg_531_2, ↓bqg_535_0, ↓bqg_535_1, ↓bqg_535_2, ↓bqg_535_3, ↓bqg_535_4, ↓bqg_592_8, ↓bqg_592_9, ↓bqg_592_10, ↓bqg_592_14, ↓bqg_592_15, ↓bqg_592_16, ↓bqg_592_20, ↓bqg_592_21, ↓bqg_592_22, ↓bqg_592_24, ↓bqg_592_25, ↓bqg_592_29, ↓bqg_592_30, ↓bqg_592_31, ↓bqg_592_32, ↓bqv_0, ↓bqv_1, ↓bqv_259, ↓bqv_518, ↓bqv_524, ↓bqv_528, ↓bqv_531, ↓bqv_535, ↓bqv_592, ↓bqi_2, ↓bqi_3, ↓bqi_4, ↓bqi_10, ↓bqi_519, ↓bqi_520, ↓bqi_521, ↓bqi_522, ↓bqi_523, ↓bqi_525, ↓bqi_526, ↓bqi_527, ↓bqi_529, ↓bqi_530, ↓bqi_532, ↓bqi_533, ↓bqi_534, ↓bqi_593, ↓bqi_594, ↓bqi_595, ↓bqi_596, ↓bqi_597, ↓bqi_598, ↓bqi_599, ↓bqi_600, ↓bqi_601, ↓bqi_602, ↓bqi_603, ↓bqi_604, ↓bqi_605, ↓bqi_606, ↓bqi_608, ↓bqi_609, ↓bqi_610, ↓bqz_607, ↓Option.bind_some, ↓bc_isIn, ↓bm_isIn, ↓bm_isShelf, i01, i10, j01, if_true, if_false, not_true_eq_false, not_false_eq_true, and_true, true_and, and_self, false_and, and_false, ↓reduceIte, Int.reduceEq, Int.reduceLT, Int.reduceLE, Int.reduceNeg, Int.reduceAdd, Int.reduceSub, Int.reduceMul, Int.reduceNe, Int.reduceToNat, Nat.reduceAdd, Nat.reduceMul, Nat.reduceEqDiff, vw_11 hV, hx, ↓bnd hlb, g', wr_n]
  · rw [f_X0_leastWithoutOrder_2]
    simp (disch := omega) only [↓bqr_C, ↓bqr_D, ↓bqr_N2, ↓bqr_N3, ↓bqr_O, ↓bqr_Q, ↓bqr_W, ↓bqr_S1, ↓bqr_S4, ↓bqr_T2, ↓bqr_T3, ↓bqr_F, ↓bqr_H, ↓bqa_C, ↓bqa_N, ↓bqa_U, ↓bqa_Y, ↓bqa_W, ↓bqa_S, ↓bqgkC_1, ↓bqgkC_2, ↓bqgkC_3, ↓bqgkC_4, ↓bqgkC_5, ↓bqgkC_6, ↓bqgkD_1, ↓bqgkN_0, ↓bqgkN_1, ↓bqgkO_1, ↓bqgkQ_1, ↓bqgkW_1, ↓bqgkS_0, ↓bqgkS_2, ↓bqgkS_3, ↓bqgkT_0, ↓bqgkT_1, ↓bqgkF_1, ↓bqgkH_1, ↓bqgkU_0, ↓bqgkU_1, ↓bqgkU_2, ↓bqgkU_3, ↓bqgkU_4, ↓bqgkY_0, ↓bqgkY_1, ↓bqgkY_2, ↓bqikE_, ↓bqikP_, ↓bqikR_, ↓bqikX_, ↓bqikG_, ↓bqikI_, ↓bqikJ_, ↓bqvkC_, ↓bqvkD_, ↓bqvkN_, ↓bqvkO_, ↓bqvkQ_, ↓bqvkU_, ↓bqvkY_, ↓bqvkW_, ↓bqvkS_, ↓bqvkT_, ↓bqvkF_, ↓bqvkH_, ↓bqr_0_0, ↓bqr_0_1, ↓bqr_0_3, ↓bqr_0_4, ↓bqr_0_5, ↓bqr_0_6, ↓bqr_0_7, ↓bqr_0_8, ↓bqr_1_0, ↓bqr_1_1, ↓bqr_1_2, ↓bqr_1_3, ↓bqr_1_5, ↓bqr_1_8, ↓bqr_1_10, ↓bqr_1_12, ↓bqr_1_13, ↓bqr_518_0, ↓bqr_518_1, ↓bqr_518_2, ↓bqr_518_6, ↓bqr_518_7, ↓bqr_524_0, ↓bqr_524_2, ↓bqr_524_4, ↓bqr_528_0, ↓bqr_528_1, ↓bqr_531_0, ↓bqr_531_1, ↓bqr_531_3, ↓bqr_592_0, ↓bqr_592_1, ↓bqr_592_2, ↓bqr_592_3, ↓bqr_592_4, ↓bqr_592_5, ↓bqr_592_6, ↓bqr_592_7, ↓bqr_592_11, ↓bqr_592_12, ↓bqr_592_13, ↓bqr_592_17, ↓bqr_592_18, ↓bqr_592_19, ↓bqr_592_23, ↓bqr_592_26, ↓bqr_592_27, ↓bqr_592_28, ↓bqg_0_2, ↓bqg_1_4, ↓bqg_1_6, ↓bqg_1_7, ↓bqg_1_9, ↓bqg_1_11, ↓bqg_1_14, ↓bqg_518_3, ↓bqg_518_4, ↓bqg_518_5, ↓bqg_518_8, ↓bqg_518_9, ↓bqg_524_1, ↓bqg_524_3, ↓bqg_528_2, ↓bqg_528_3, ↓bqg_531_2, ↓bqg_535_0, ↓bqg_535_1, ↓bqg_535_2, ↓bqg_535_3, ↓bqg_535_4, ↓bqg_592_8, ↓bqg_592_9, ↓bqg_592_10, ↓bqg_592_14, ↓bqg_592_15, ↓bqg_592_16, ↓bqg_592_20, ↓bqg_592_21, ↓bqg_592_22, ↓bqg_592_24, ↓bqg_592_25, ↓bqg_592_29, ↓bqg_592_30, ↓bqg_592_31, ↓bqg_592_32, ↓bqv_0, ↓bqv_1, ↓bqv_259, ↓bqv_518, ↓bqv_524, ↓bqv_528, ↓bqv_531, ↓bqv_535, ↓bqv_592, ↓bqi_2, ↓bqi_3, ↓bqi_4, ↓bqi_10, ↓bqi_519, ↓bqi_520, ↓bqi_521, ↓bqi_522, ↓bqi_523, ↓bqi_525, ↓bqi_526, ↓bqi_527, ↓bqi_529, ↓bqi_530, ↓bqi_532, ↓bqi_533, ↓bqi_534, ↓bqi_593, ↓bqi_594, ↓bqi_595, ↓bqi_596, ↓bqi_597, ↓bqi_598, ↓bqi_599, ↓bqi_600, ↓bqi_601, ↓bqi_602, ↓bqi_603, ↓bqi_604, ↓bqi_605, ↓bqi_606, ↓bqi_608, ↓bqi_609, ↓bqi_610, ↓bqz_607, ↓Option.bind_some, ↓bc_isIn, ↓bm_isIn, ↓bm_isShelf, i01, i10, j01, if_true, if_false, not_true_eq_false, not_false_eq_true, and_true, true_and, and_self, false_and, and_false, ↓reduceIte, Int.reduceEq, Int.reduceLT, Int.reduceLE, Int.reduceNeg, Int.reduceAdd, Int.reduceSub, Int.reduceMul, Int.reduceNe, Int.reduceToNat, Nat.reduceAdd, Nat.reduceMul, Nat.reduceEqDiff, vw_11 hV, show ¬ x < v 1065 by omega]
theorem c_least2 (hV : Vw M v) : ∃ o, le_ (lB_ M v vil) (v 1065).toNat 2 o ∧ f_X0_leastWithoutOrder SH0_ M 1 vil 2 = some ((o.getD 0 : Nat) : Int) := by
  have b11 := vb_11 hV
  unfold f_X0_leastWithoutOrder
  refine lp_run (A := Unit) (fun n x _ => f_X0_leastWithoutOrder_2 SH0_ M 1 vil 2 n x) (v 1065) (fun x _ => 0 ≤ x ∧ x ≤ v 1065 ∧ ∀ z a : Nat, (z : Int) < x → a < z → lB_ M v vil z &&& lB_ M v vil a ≠ 0) (fun r => ∃ o, le_ (lB_ M v vil) (v 1065).toNat 2 o ∧ r = some ((o.getD 0 : Nat) : Int)) ?_ ?_ FU_ 0 () (by unfold FU_; omega) ⟨by omega, by omega, fun z a' h => absurd h (by omega)⟩
  · intro n x _ hx ⟨h0, h1, h2⟩
    obtain ⟨c, rfl⟩ := int_nat h0
    have hlb : f_X0_leftBy SH0_ M 1 (c : Int) vil = some (lB_ M v vil c : Int) := c_leftBy (vil := vil) hV h0 hx
    have hlt := lB_lt (vil := vil) hV hx
    rcases c_low1 (vil := vil) hV hx hlt with ⟨e1, e2⟩ | ⟨a, q1, q2, q3, q4⟩
    · refine Or.inl ⟨(), ?_, by omega, by omega, fun z a q1 q2 => ?_⟩
      · show f_X0_leastWithoutOrder_2 SH0_ M 1 vil 2 (n + 1) (c : Int) = _
        rw [f_X0_leastWithoutOrder_2]
        unfold f_X0_leastWithoutOrder_47
        simp (disch := omega) only [↓bqr_C, ↓bqr_D, ↓bqr_N2, ↓bqr_N3, ↓bqr_O, ↓bqr_Q, ↓bqr_W, ↓bqr_S1, ↓bqr_S4, ↓bqr_T2, ↓bqr_T3, ↓bqr_F, ↓bqr_H, ↓bqa_C, ↓bqa_N, ↓bqa_U, ↓bqa_Y, ↓bqa_W, ↓bqa_S, ↓bqgkC_1, ↓bqgkC_2, ↓bqgkC_3, ↓bqgkC_4, ↓bqgkC_5, ↓bqgkC_6, ↓bqgkD_1, ↓bqgkN_0, ↓bqgkN_1, ↓bqgkO_1, ↓bqgkQ_1, ↓bqgkW_1, ↓bqgkS_0, ↓bqgkS_2, ↓bqgkS_3, ↓bqgkT_0, ↓bqgkT_1, ↓bqgkF_1, ↓bqgkH_1, ↓bqgkU_0, ↓bqgkU_1, ↓bqgkU_2, ↓bqgkU_3, ↓bqgkU_4, ↓bqgkY_0, ↓bqgkY_1, ↓bqgkY_2, ↓bqikE_, ↓bqikP_, ↓bqikR_, ↓bqikX_, ↓bqikG_, ↓bqikI_, ↓bqikJ_, ↓bqvkC_, ↓bqvkD_, ↓bqvkN_, ↓bqvkO_, ↓bqvkQ_, ↓bqvkU_, ↓bqvkY_, ↓bqvkW_, ↓bqvkS_, ↓bqvkT_, ↓bqvkF_, ↓bqvkH_, ↓bqr_0_0, ↓bqr_0_1, ↓bqr_0_3, ↓bqr_0_4, ↓bqr_0_5, ↓bqr_0_6, ↓bqr_0_7, ↓bqr_0_8, ↓bqr_1_0, ↓bqr_1_1, ↓bqr_1_2, ↓bqr_1_3, ↓bqr_1_5, ↓bqr_1_8, ↓bqr_1_10, ↓bqr_1_12, ↓bqr_1_13, ↓bqr_518_0, ↓bqr_518_1, ↓bqr_518_2, ↓bqr_518_6, ↓bqr_518_7, ↓bqr_524_0, ↓bqr_524_2, ↓bqr_524_4, ↓bqr_528_0, ↓bqr_528_1, ↓bqr_531_0, ↓bqr_531_1, ↓bqr_531_3, ↓bqr_592_0, ↓bqr_592_1, ↓bqr_592_2, ↓bqr_592_3, ↓bqr_592_4, ↓bqr_592_5, ↓bqr_592_6, ↓bqr_592_7, ↓bqr_592_11, ↓bqr_592_12, ↓bqr_592_13, ↓bqr_592_17, ↓bqr_592_18, ↓bqr_592_19, ↓bqr_592_23, ↓bqr_592_26, ↓bqr_592_27, ↓bqr_592_28, ↓bqg_0_2, ↓bqg_1_4, ↓bqg_1_6, ↓bqg_1_7, ↓bqg_1_9, ↓bqg_1_11, ↓bqg_1_14, ↓bqg_518_3, ↓bqg_518_4, ↓bqg_518_5, ↓bqg_518_8, ↓bqg_518_9, ↓bqg_524_1, ↓bqg_524_3, ↓bqg_528_2, ↓bqg_528_3, ↓bqg_531_2, ↓bqg_535_0, ↓bqg_535_1, ↓bqg_535_2, ↓bqg_535_3, ↓bqg_535_4, ↓bqg_592_8, ↓bqg_592_9, ↓bqg_592_10, ↓bqg_592_14, ↓bqg_592_15, ↓bqg_592_16, ↓bqg_592_20, ↓bqg_592_21, ↓bqg_592_22, ↓bqg_592_24, ↓bqg_592_25, ↓bqg_592_29, ↓bqg_592_30, ↓bqg_592_31, ↓bqg_592_32, ↓bqv_0, ↓bqv_1, ↓bqv_259, ↓bqv_518, ↓bqv_524, ↓bqv_528, ↓bqv_531, ↓bqv_535, ↓bqv_592, ↓bqi_2, ↓bqi_3, ↓bqi_4, ↓bqi_10, ↓bqi_519, ↓bqi_520, ↓bqi_521, ↓bqi_522, ↓bqi_523, ↓bqi_525, ↓bqi_526, ↓bqi_527, ↓bqi_529, ↓bqi_530, ↓bqi_532, ↓bqi_533, ↓bqi_534, ↓bqi_593, ↓bqi_594, ↓bqi_595, ↓bqi_596, ↓bqi_597, ↓bqi_598, ↓bqi_599, ↓bqi_600, ↓bqi_601, ↓bqi_602, ↓bqi_603, ↓bqi_604, ↓bqi_605, ↓bqi_606, ↓bqi_608, ↓bqi_609, ↓bqi_610, ↓bqz_607, ↓Option.bind_some, ↓bc_isIn, ↓bm_isIn, ↓bm_isShelf, i01, i10, j01, if_true, if_false, not_true_eq_false, not_false_eq_true, and_true, true_and, and_self, false_and, and_false, ↓reduceIte, Int.reduceEq, Int.reduceLT, Int.reduceLE, Int.reduceNeg, Int.reduceAdd, Int.reduceSub, Int.reduceMul, Int.reduceNe, Int.reduceToNat, Nat.reduceAdd, Nat.reduceMul, Nat.reduceEqDiff, vw_11 hV, hx, ↓bnd hlb, wr_n, ↓bnd e1]
      · by_cases hz : z = c
        · subst hz; exact e2 a q2
        · exact h2 z a (by omega) q2
    · refine Or.inr ⟨some (w_ c c a), Or.inr ⟨c, c, a, rfl, gd_2.mpr ⟨by omega, q1, q2⟩, fun c' b' a' hg => ?_⟩, ?_⟩
      · refine w_mono (m := 2) (Or.inr (Or.inl ⟨rfl, rfl, q1⟩)) hg.2.1 ?_
        have hg' := hg
        obtain ⟨g1, ⟨g, _⟩ | ⟨_, rfl, g2⟩ | ⟨g, _⟩, g3⟩ := hg
        · exact absurd g (by decide)
        · have g4 := (gd_2.mp hg').2.2
          by_cases hh : b' < c
          · exact absurd g4 (h2 b' a' (by omega) g2)
          · by_cases he : b' = c
            · subst he
              by_cases ha : a' < a
              · exact absurd g4 (q3 a' ha)
              · omega
            · omega
        · exact absurd g (by decide)
      · show f_X0_leastWithoutOrder_2 SH0_ M 1 vil 2 (n + 1) (c : Int) = _
        rw [f_X0_leastWithoutOrder_2]
        have hp := pow31 (b := a) (by omega)
        have hq : ¬ ((2 ^ a : Nat) : Int) < 0 := Int.not_lt.mpr (Int.natCast_nonneg _)
        unfold f_X0_leastWithoutOrder_47
        simp (disch := omega) only [↓bqr_C, ↓bqr_D, ↓bqr_N2, ↓bqr_N3, ↓bqr_O, ↓bqr_Q, ↓bqr_W, ↓bqr_S1, ↓bqr_S4, ↓bqr_T2, ↓bqr_T3, ↓bqr_F, ↓bqr_H, ↓bqa_C, ↓bqa_N, ↓bqa_U, ↓bqa_Y, ↓bqa_W, ↓bqa_S, ↓bqgkC_1, ↓bqgkC_2, ↓bqgkC_3, ↓bqgkC_4, ↓bqgkC_5, ↓bqgkC_6, ↓bqgkD_1, ↓bqgkN_0, ↓bqgkN_1, ↓bqgkO_1, ↓bqgkQ_1, ↓bqgkW_1, ↓bqgkS_0, ↓bqgkS_2, ↓bqgkS_3, ↓bqgkT_0, ↓bqgkT_1, ↓bqgkF_1, ↓bqgkH_1, ↓bqgkU_0, ↓bqgkU_1, ↓bqgkU_2, ↓bqgkU_3, ↓bqgkU_4, ↓bqgkY_0, ↓bqgkY_1, ↓bqgkY_2, ↓bqikE_, ↓bqikP_, ↓bqikR_, ↓bqikX_, ↓bqikG_, ↓bqikI_, ↓bqikJ_, ↓bqvkC_, ↓bqvkD_, ↓bqvkN_, ↓bqvkO_, ↓bqvkQ_, ↓bqvkU_, ↓bqvkY_, ↓bqvkW_, ↓bqvkS_, ↓bqvkT_, ↓bqvkF_, ↓bqvkH_, ↓bqr_0_0, ↓bqr_0_1, ↓bqr_0_3, ↓bqr_0_4, ↓bqr_0_5, ↓bqr_0_6, ↓bqr_0_7, ↓bqr_0_8, ↓bqr_1_0, ↓bqr_1_1, ↓bqr_1_2, ↓bqr_1_3, ↓bqr_1_5, ↓bqr_1_8, ↓bqr_1_10, ↓bqr_1_12, ↓bqr_1_13, ↓bqr_518_0, ↓bqr_518_1, ↓bqr_518_2, ↓bqr_518_6, ↓bqr_518_7, ↓bqr_524_0, ↓bqr_524_2, ↓bqr_524_4, ↓bqr_528_0, ↓bqr_528_1, ↓bqr_531_0, ↓bqr_531_1, ↓bqr_531_3, ↓bqr_592_0, ↓bqr_592_1, ↓bqr_592_2, ↓bqr_592_3, ↓bqr_592_4, ↓bqr_592_5, ↓bqr_592_6, ↓bqr_592_7, ↓bqr_592_11, ↓bqr_592_12, ↓bqr_592_13, ↓bqr_592_17, ↓bqr_592_18, ↓bqr_592_19, ↓bqr_592_23, ↓bqr_592_26, ↓bqr_592_27, ↓bqr_592_28, ↓bqg_0_2, ↓bqg_1_4, ↓bqg_1_6, ↓bqg_1_7, ↓bqg_1_9, ↓bqg_1_11, ↓bqg_1_14, ↓bqg_518_3, ↓bqg_518_4, ↓bqg_518_5, ↓bqg_518_8, ↓bqg_518_9, ↓bqg_524_1, ↓bqg_524_3, ↓bqg_528_2, ↓bqg_528_3, ↓bqg_531_2, ↓bqg_535_0, ↓bqg_535_1, ↓bqg_535_2, ↓bqg_535_3, ↓bqg_535_4, ↓bqg_592_8, ↓bqg_592_9, ↓bqg_592_10, ↓bqg_592_14, ↓bqg_592_15, ↓bqg_592_16, ↓bqg_592_20, ↓bqg_592_21, ↓bqg_592_22, ↓bqg_592_24, ↓bqg_592_25, ↓bqg_592_29, ↓bqg_592_30, ↓bqg_592_31, ↓bqg_592_32, ↓bqv_0, ↓bqv_1, ↓bqv_259, ↓bqv_518, ↓bqv_524, ↓bqv_528, ↓bqv_531, ↓bqv_535, ↓bqv_592, ↓bqi_2, ↓bqi_3, ↓bqi_4, ↓bqi_10, ↓bqi_519, ↓bqi_520, ↓bqi_521, ↓bqi_522, ↓bqi_523, ↓bqi_525, ↓bqi_526, ↓bqi_527, ↓bqi_529, ↓bqi_530, ↓bqi_532, ↓bqi_533, ↓bqi_534, ↓bqi_593, ↓bqi_594, ↓bqi_595, ↓bqi_596, ↓bqi_597, ↓bqi_598, ↓bqi_599, ↓bqi_600, ↓bqi_601, ↓bqi_602, ↓bqi_603, ↓bqi_604, ↓bqi_605, ↓bqi_606, ↓bqi_608, ↓bqi_609, ↓bqi_610, ↓bqz_607, ↓Option.bind_some, ↓bc_isIn, ↓bm_isIn, ↓bm_isShelf, i01, i10, j01, if_true, if_false, not_true_eq_false, not_false_eq_true, and_true, true_and, and_self, false_and, and_false, ↓reduceIte, Int.reduceEq, Int.reduceLT, Int.reduceLE, Int.reduceNeg, Int.reduceAdd, Int.reduceSub, Int.reduceMul, Int.reduceNe, Int.reduceToNat, Nat.reduceAdd, Nat.reduceMul, Nat.reduceEqDiff, vw_11 hV, hx, ↓bnd hlb, wr_n, ↓bnd q4, sl_nat (show c < 31 by omega), hq]
        rw [or_nat hp (pow31 (by omega))]
        show _ = some ((w_ c c a : Nat) : Int)
        unfold w_
        rw [Nat.or_assoc, Nat.or_self]
  · intro n x _ hx ⟨h0, h1, h2⟩
    refine ⟨none, Or.inl ⟨rfl, fun c b a hg => ?_⟩, ?_⟩
    · have hg' := hg
      obtain ⟨g1, ⟨g, _⟩ | ⟨_, rfl, g2⟩ | ⟨g, _⟩, g3⟩ := hg
      · exact absurd g (by decide)
      · exact h2 b a (by omega) g2 (gd_2.mp hg').2.2
      · exact absurd g (by decide)
    · show f_X0_leastWithoutOrder_2 SH0_ M 1 vil 2 (n + 1) x = _
      rw [f_X0_leastWithoutOrder_2]
      simp (disch := omega) only [↓bqr_C, ↓bqr_D, ↓bqr_N2, ↓bqr_N3, ↓bqr_O, ↓bqr_Q, ↓bqr_W, ↓bqr_S1, ↓bqr_S4, ↓bqr_T2, ↓bqr_T3, ↓bqr_F, ↓bqr_H, ↓bqa_C, ↓bqa_N, ↓bqa_U, ↓bqa_Y, ↓bqa_W, ↓bqa_S, ↓bqgkC_1, ↓bqgkC_2, ↓bqgkC_3, ↓bqgkC_4, ↓bqgkC_5, ↓bqgkC_6, ↓bqgkD_1, ↓bqgkN_0, ↓bqgkN_1, ↓bqgkO_1, ↓bqgkQ_1, ↓bqgkW_1, ↓bqgkS_0, ↓bqgkS_2, ↓bqgkS_3, ↓bqgkT_0, ↓bqgkT_1, ↓bqgkF_1, ↓bqgkH_1, ↓bqgkU_0, ↓bqgkU_1, ↓bqgkU_2, ↓bqgkU_3, ↓bqgkU_4, ↓bqgkY_0, ↓bqgkY_1, ↓bqgkY_2, ↓bqikE_, ↓bqikP_, ↓bqikR_, ↓bqikX_, ↓bqikG_, ↓bqikI_, ↓bqikJ_, ↓bqvkC_, ↓bqvkD_, ↓bqvkN_, ↓bqvkO_, ↓bqvkQ_, ↓bqvkU_, ↓bqvkY_, ↓bqvkW_, ↓bqvkS_, ↓bqvkT_, ↓bqvkF_, ↓bqvkH_, ↓bqr_0_0, ↓bqr_0_1, ↓bqr_0_3, ↓bqr_0_4, ↓bqr_0_5, ↓bqr_0_6, ↓bqr_0_7, ↓bqr_0_8, ↓bqr_1_0, ↓bqr_1_1, ↓bqr_1_2, ↓bqr_1_3, ↓bqr_1_5, ↓bqr_1_8, ↓bqr_1_10, ↓bqr_1_12, ↓bqr_1_13, ↓bqr_518_0, ↓bqr_518_1, ↓bqr_518_2, ↓bqr_518_6, ↓bqr_518_7, ↓bqr_524_0, ↓bqr_524_2, ↓bqr_524_4, ↓bqr_528_0, ↓bqr_528_1, ↓bqr_531_0, ↓bqr_531_1, ↓bqr_531_3, ↓bqr_592_0, ↓bqr_592_1, ↓bqr_592_2, ↓bqr_592_3, ↓bqr_592_4, ↓bqr_592_5, ↓bqr_592_6, ↓bqr_592_7, ↓bqr_592_11, ↓bqr_592_12, ↓bqr_592_13, ↓bqr_592_17, ↓bqr_592_18, ↓bqr_592_19, ↓bqr_592_23, ↓bqr_592_26, ↓bqr_592_27, ↓bqr_592_28, ↓bqg_0_2, ↓bqg_1_4, ↓bqg_1_6, ↓bqg_1_7, ↓bqg_1_9, ↓bqg_1_11, ↓bqg_1_14, ↓bqg_518_3, ↓bqg_518_4, ↓bqg_518_5, ↓bqg_518_8, ↓bqg_518_9, ↓bqg_524_1, ↓bqg_524_3, ↓bqg_528_2, ↓bqg_528_3, ↓bqg_531_2, ↓bqg_535_0, ↓bqg_535_1, ↓bqg_535_2, ↓bqg_535_3, ↓bqg_535_4, ↓bqg_592_8, ↓bqg_592_9, ↓bqg_592_10, ↓bqg_592_14, ↓bqg_592_15, ↓bqg_592_16, ↓bqg_592_20, ↓bqg_592_21, ↓bqg_592_22, ↓bqg_592_24, ↓bqg_592_25, ↓bqg_592_29, ↓bqg_592_30, ↓bqg_592_31, ↓bqg_592_32, ↓bqv_0, ↓bqv_1, ↓bqv_259, ↓bqv_518, ↓bqv_524, ↓bqv_528, ↓bqv_531, ↓bqv_535, ↓bqv_592, ↓bqi_2, ↓bqi_3, ↓bqi_4, ↓bqi_10, ↓bqi_519, ↓bqi_520, ↓bqi_521, ↓bqi_522, ↓bqi_523, ↓bqi_525, ↓bqi_526, ↓bqi_527, ↓bqi_529, ↓bqi_530, ↓bqi_532, ↓bqi_533, ↓bqi_534, ↓bqi_593, ↓bqi_594, ↓bqi_595, ↓bqi_596, ↓bqi_597, ↓bqi_598, ↓bqi_599, ↓bqi_600, ↓bqi_601, ↓bqi_602, ↓bqi_603, ↓bqi_604, ↓bqi_605, ↓bqi_606, ↓bqi_608, ↓bqi_609, ↓bqi_610, ↓bqz_607, ↓Option.bind_some, ↓bc_isIn, ↓bm_isIn, ↓bm_isShelf, i01, i10, j01, if_true, if_false, not_true_eq_false, not_false_eq_true, and_true, true_and, and_self, false_and, and_false, ↓reduceIte, Int.reduceEq, Int.reduceLT, Int.reduceLE, Int.reduceNeg, Int.reduceAdd, Int.reduceSub, Int.reduceMul, Int.reduceNe, Int.reduceToNat, Nat.reduceAdd, Nat.reduceMul, Nat.reduceEqDiff, vw_11 hV, show ¬ x < v 1065 by omega]
      rfl
theorem c_least3 (hV : Vw M v) : ∃ o, le_ (lB_ M v vil) (v 1065).toNat 3 o ∧ f_X0_leastWithoutOrder SH0_ M 1 vil 3 = some ((o.getD 0 : Nat) : Int) := by
  have b11 := vb_11 hV
  unfold f_X0_leastWithoutOrder
  refine lp_run (A := Unit) (fun n x _ => f_X0_leastWithoutOrder_2 SH0_ M 1 vil 3 n x) (v 1065) (fun x _ => 0 ≤ x ∧ x ≤ v 1065 ∧ ∀ z b a : Nat, (z : Int) < x → b < z → a < b → lB_ M v vil z &&& lB_ M v vil b &&& lB_ M v vil a ≠ 0) (fun r => ∃ o, le_ (lB_ M v vil) (v 1065).toNat 3 o ∧ r = some ((o.getD 0 : Nat) : Int)) ?_ ?_ FU_ 0 () (by unfold FU_; omega) ⟨by omega, by omega, fun z b a h => absurd h (by omega)⟩
  · intro n x _ hx ⟨h0, h1, h2⟩
    obtain ⟨c, rfl⟩ := int_nat h0
    have hlb : f_X0_leftBy SH0_ M 1 (c : Int) vil = some (lB_ M v vil c : Int) := c_leftBy (vil := vil) hV h0 hx
    have hlt := lB_lt (vil := vil) hV hx
    rcases c_low2 (vil := vil) hV hx hlt with ⟨e1, e2⟩ | ⟨b, a, q0, q1, q2, q3, q5, q4⟩
    · refine Or.inl ⟨(), ?_, by omega, by omega, fun z b a q1 q2 q3 => ?_⟩
      · show f_X0_leastWithoutOrder_2 SH0_ M 1 vil 3 (n + 1) (c : Int) = _
        rw [f_X0_leastWithoutOrder_2]
        unfold f_X0_leastWithoutOrder_47
        simp (disch := omega) only [↓bqr_C, ↓bqr_D, ↓bqr_N2, ↓bqr_N3, ↓bqr_O, ↓bqr_Q, ↓bqr_W, ↓bqr_S1, ↓bqr_S4, ↓bqr_T2, ↓bqr_T3, ↓bqr_F, ↓bqr_H, ↓bqa_C, ↓bqa_N, ↓bqa_U, ↓bqa_Y, ↓bqa_W, ↓bqa_S, ↓bqgkC_1, ↓bqgkC_2, ↓bqgkC_3, ↓bqgkC_4, ↓bqgkC_5, ↓bqgkC_6, ↓bqgkD_1, ↓bqgkN_0, ↓bqgkN_1, ↓bqgkO_1, ↓bqgkQ_1, ↓bqgkW_1, ↓bqgkS_0, ↓bqgkS_2, ↓bqgkS_3, ↓bqgkT_0, ↓bqgkT_1, ↓bqgkF_1, ↓bqgkH_1, ↓bqgkU_0, ↓bqgkU_1, ↓bqgkU_2, ↓bqgkU_3, ↓bqgkU_4, ↓bqgkY_0, ↓bqgkY_1, ↓bqgkY_2, ↓bqikE_, ↓bqikP_, ↓bqikR_, ↓bqikX_, ↓bqikG_, ↓bqikI_, ↓bqikJ_, ↓bqvkC_, ↓bqvkD_, ↓bqvkN_, ↓bqvkO_, ↓bqvkQ_, ↓bqvkU_, ↓bqvkY_, ↓bqvkW_, ↓bqvkS_, ↓bqvkT_, ↓bqvkF_, ↓bqvkH_, ↓bqr_0_0, ↓bqr_0_1, ↓bqr_0_3, ↓bqr_0_4, ↓bqr_0_5, ↓bqr_0_6, ↓bqr_0_7, ↓bqr_0_8, ↓bqr_1_0, ↓bqr_1_1, ↓bqr_1_2, ↓bqr_1_3, ↓bqr_1_5, ↓bqr_1_8, ↓bqr_1_10, ↓bqr_1_12, ↓bqr_1_13, ↓bqr_518_0, ↓bqr_518_1, ↓bqr_518_2, ↓bqr_518_6, ↓bqr_518_7, ↓bqr_524_0, ↓bqr_524_2, ↓bqr_524_4, ↓bqr_528_0, ↓bqr_528_1, ↓bqr_531_0, ↓bqr_531_1, ↓bqr_531_3, ↓bqr_592_0, ↓bqr_592_1, ↓bqr_592_2, ↓bqr_592_3, ↓bqr_592_4, ↓bqr_592_5, ↓bqr_592_6, ↓bqr_592_7, ↓bqr_592_11, ↓bqr_592_12, ↓bqr_592_13, ↓bqr_592_17, ↓bqr_592_18, ↓bqr_592_19, ↓bqr_592_23, ↓bqr_592_26, ↓bqr_592_27, ↓bqr_592_28, ↓bqg_0_2, ↓bqg_1_4, ↓bqg_1_6, ↓bqg_1_7, ↓bqg_1_9, ↓bqg_1_11, ↓bqg_1_14, ↓bqg_518_3, ↓bqg_518_4, ↓bqg_518_5, ↓bqg_518_8, ↓bqg_518_9, ↓bqg_524_1, ↓bqg_524_3, ↓bqg_528_2, ↓bqg_528_3, ↓bqg_531_2, ↓bqg_535_0, ↓bqg_535_1, ↓bqg_535_2, ↓bqg_535_3, ↓bqg_535_4, ↓bqg_592_8, ↓bqg_592_9, ↓bqg_592_10, ↓bqg_592_14, ↓bqg_592_15, ↓bqg_592_16, ↓bqg_592_20, ↓bqg_592_21, ↓bqg_592_22, ↓bqg_592_24, ↓bqg_592_25, ↓bqg_592_29, ↓bqg_592_30, ↓bqg_592_31, ↓bqg_592_32, ↓bqv_0, ↓bqv_1, ↓bqv_259, ↓bqv_518, ↓bqv_524, ↓bqv_528, ↓bqv_531, ↓bqv_535, ↓bqv_592, ↓bqi_2, ↓bqi_3, ↓bqi_4, ↓bqi_10, ↓bqi_519, ↓bqi_520, ↓bqi_521, ↓bqi_522, ↓bqi_523, ↓bqi_525, ↓bqi_526, ↓bqi_527, ↓bqi_529, ↓bqi_530, ↓bqi_532, ↓bqi_533, ↓bqi_534, ↓bqi_593, ↓bqi_594, ↓bqi_595, ↓bqi_596, ↓bqi_597, ↓bqi_598, ↓bqi_599, ↓bqi_600, ↓bqi_601, ↓bqi_602, ↓bqi_603, ↓bqi_604, ↓bqi_605, ↓bqi_606, ↓bqi_608, ↓bqi_609, ↓bqi_610, ↓bqz_607, ↓Option.bind_some, ↓bc_isIn, ↓bm_isIn, ↓bm_isShelf, i01, i10, j01, if_true, if_false, not_true_eq_false, not_false_eq_true, and_true, true_and, and_self, false_and, and_false, ↓reduceIte, Int.reduceEq, Int.reduceLT, Int.reduceLE, Int.reduceNeg, Int.reduceAdd, Int.reduceSub, Int.reduceMul, Int.reduceNe, Int.reduceToNat, Nat.reduceAdd, Nat.reduceMul, Nat.reduceEqDiff, vw_11 hV, hx, ↓bnd hlb, wr_n, ↓bnd e1]
      · by_cases hz : z = c
        · subst hz; exact e2 b a q2 q3
        · exact h2 z b a (by omega) q2 q3
    · refine Or.inr ⟨some (w_ c b a), Or.inr ⟨c, b, a, rfl, ⟨by omega, Or.inr (Or.inr ⟨rfl, q1, q0⟩), q2⟩, fun c' b' a' hg => ?_⟩, ?_⟩
      · refine w_mono (m := 3) (Or.inr (Or.inr ⟨rfl, q1, q0⟩)) hg.2.1 ?_
        obtain ⟨g1, ⟨g, _⟩ | ⟨g, _⟩ | ⟨_, g2, g2'⟩, g3⟩ := hg
        · exact absurd g (by decide)
        · exact absurd g (by decide)
        · by_cases hh : c' < c
          · exact absurd g3 (h2 c' b' a' (by omega) g2' g2)
          · by_cases he : c' = c
            · subst he
              by_cases hb : b' < b
              · exact absurd g3 (q3 b' a' hb g2)
              · by_cases hb' : b' = b
                · subst hb'
                  by_cases ha : a' < a
                  · exact absurd g3 (q5 a' ha)
                  · omega
                · omega
            · omega
      · show f_X0_leastWithoutOrder_2 SH0_ M 1 vil 3 (n + 1) (c : Int) = _
        rw [f_X0_leastWithoutOrder_2]
        have hp : (2 ^ b ||| 2 ^ a) < 2147483648 := Nat.or_lt_two_pow (n := 31) (pow31 (by omega)) (pow31 (by omega))
        have hq : ¬ ((2 ^ b ||| 2 ^ a : Nat) : Int) < 0 := by omega
        unfold f_X0_leastWithoutOrder_47
        simp (disch := omega) only [↓bqr_C, ↓bqr_D, ↓bqr_N2, ↓bqr_N3, ↓bqr_O, ↓bqr_Q, ↓bqr_W, ↓bqr_S1, ↓bqr_S4, ↓bqr_T2, ↓bqr_T3, ↓bqr_F, ↓bqr_H, ↓bqa_C, ↓bqa_N, ↓bqa_U, ↓bqa_Y, ↓bqa_W, ↓bqa_S, ↓bqgkC_1, ↓bqgkC_2, ↓bqgkC_3, ↓bqgkC_4, ↓bqgkC_5, ↓bqgkC_6, ↓bqgkD_1, ↓bqgkN_0, ↓bqgkN_1, ↓bqgkO_1, ↓bqgkQ_1, ↓bqgkW_1, ↓bqgkS_0, ↓bqgkS_2, ↓bqgkS_3, ↓bqgkT_0, ↓bqgkT_1, ↓bqgkF_1, ↓bqgkH_1, ↓bqgkU_0, ↓bqgkU_1, ↓bqgkU_2, ↓bqgkU_3, ↓bqgkU_4, ↓bqgkY_0, ↓bqgkY_1, ↓bqgkY_2, ↓bqikE_, ↓bqikP_, ↓bqikR_, ↓bqikX_, ↓bqikG_, ↓bqikI_, ↓bqikJ_, ↓bqvkC_, ↓bqvkD_, ↓bqvkN_, ↓bqvkO_, ↓bqvkQ_, ↓bqvkU_, ↓bqvkY_, ↓bqvkW_, ↓bqvkS_, ↓bqvkT_, ↓bqvkF_, ↓bqvkH_, ↓bqr_0_0, ↓bqr_0_1, ↓bqr_0_3, ↓bqr_0_4, ↓bqr_0_5, ↓bqr_0_6, ↓bqr_0_7, ↓bqr_0_8, ↓bqr_1_0, ↓bqr_1_1, ↓bqr_1_2, ↓bqr_1_3, ↓bqr_1_5, ↓bqr_1_8, ↓bqr_1_10, ↓bqr_1_12, ↓bqr_1_13, ↓bqr_518_0, ↓bqr_518_1, ↓bqr_518_2, ↓bqr_518_6, ↓bqr_518_7, ↓bqr_524_0, ↓bqr_524_2, ↓bqr_524_4, ↓bqr_528_0, ↓bqr_528_1, ↓bqr_531_0, ↓bqr_531_1, ↓bqr_531_3, ↓bqr_592_0, ↓bqr_592_1, ↓bqr_592_2, ↓bqr_592_3, ↓bqr_592_4, ↓bqr_592_5, ↓bqr_592_6, ↓bqr_592_7, ↓bqr_592_11, ↓bqr_592_12, ↓bqr_592_13, ↓bqr_592_17, ↓bqr_592_18, ↓bqr_592_19, ↓bqr_592_23, ↓bqr_592_26, ↓bqr_592_27, ↓bqr_592_28, ↓bqg_0_2, ↓bqg_1_4, ↓bqg_1_6, ↓bqg_1_7, ↓bqg_1_9, ↓bqg_1_11, ↓bqg_1_14, ↓bqg_518_3, ↓bqg_518_4, ↓bqg_518_5, ↓bqg_518_8, ↓bqg_518_9, ↓bqg_524_1, ↓bqg_524_3, ↓bqg_528_2, ↓bqg_528_3, ↓bqg_531_2, ↓bqg_535_0, ↓bqg_535_1, ↓bqg_535_2, ↓bqg_535_3, ↓bqg_535_4, ↓bqg_592_8, ↓bqg_592_9, ↓bqg_592_10, ↓bqg_592_14, ↓bqg_592_15, ↓bqg_592_16, ↓bqg_592_20, ↓bqg_592_21, ↓bqg_592_22, ↓bqg_592_24, ↓bqg_592_25, ↓bqg_592_29, ↓bqg_592_30, ↓bqg_592_31, ↓bqg_592_32, ↓bqv_0, ↓bqv_1, ↓bqv_259, ↓bqv_518, ↓bqv_524, ↓bqv_528, ↓bqv_531, ↓bqv_535, ↓bqv_592, ↓bqi_2, ↓bqi_3, ↓bqi_4, ↓bqi_10, ↓bqi_519, ↓bqi_520, ↓bqi_521, ↓bqi_522, ↓bqi_523, ↓bqi_525, ↓bqi_526, ↓bqi_527, ↓bqi_529, ↓bqi_530, ↓bqi_532, ↓bqi_533, ↓bqi_534, ↓bqi_593, ↓bqi_594, ↓bqi_595, ↓bqi_596, ↓bqi_597, ↓bqi_598, ↓bqi_599, ↓bqi_600, ↓bqi_601, ↓bqi_602, ↓bqi_603, ↓bqi_604, ↓bqi_605, ↓bqi_606, ↓bqi_608, ↓bqi_609, ↓bqi_610, ↓bqz_607, ↓Option.bind_some, ↓bc_isIn, ↓bm_isIn, ↓bm_isShelf, i01, i10, j01, if_true, if_false, not_true_eq_false, not_false_eq_true, and_true, true_and, and_self, false_and, and_false, ↓reduceIte, Int.reduceEq, Int.reduceLT, Int.reduceLE, Int.reduceNeg, Int.reduceAdd, Int.reduceSub, Int.reduceMul, Int.reduceNe, Int.reduceToNat, Nat.reduceAdd, Nat.reduceMul, Nat.reduceEqDiff, vw_11 hV, hx, ↓bnd hlb, wr_n, ↓bnd q4, sl_nat (show c < 31 by omega), hq]
        rw [or_nat hp (pow31 (by omega))]
        show _ = some ((w_ c b a : Nat) : Int)
        unfold w_
        rw [Nat.or_comm (2 ^ b)]
  · intro n x _ hx ⟨h0, h1, h2⟩
    refine ⟨none, Or.inl ⟨rfl, fun c b a hg => ?_⟩, ?_⟩
    · obtain ⟨g1, ⟨g, _⟩ | ⟨g, _⟩ | ⟨_, g2, g2'⟩, g3⟩ := hg
      · exact absurd g (by decide)
      · exact absurd g (by decide)
      · exact h2 c b a (by omega) g2' g2 g3
    · show f_X0_leastWithoutOrder_2 SH0_ M 1 vil 3 (n + 1) x = _
      rw [f_X0_leastWithoutOrder_2]
      simp (disch := omega) only [↓bqr_C, ↓bqr_D, ↓bqr_N2, ↓bqr_N3, ↓bqr_O, ↓bqr_Q, ↓bqr_W, ↓bqr_S1, ↓bqr_S4, ↓bqr_T2, ↓bqr_T3, ↓bqr_F, ↓bqr_H, ↓bqa_C, ↓bqa_N, ↓bqa_U, ↓bqa_Y, ↓bqa_W, ↓bqa_S, ↓bqgkC_1, ↓bqgkC_2, ↓bqgkC_3, ↓bqgkC_4, ↓bqgkC_5, ↓bqgkC_6, ↓bqgkD_1, ↓bqgkN_0, ↓bqgkN_1, ↓bqgkO_1, ↓bqgkQ_1, ↓bqgkW_1, ↓bqgkS_0, ↓bqgkS_2, ↓bqgkS_3, ↓bqgkT_0, ↓bqgkT_1, ↓bqgkF_1, ↓bqgkH_1, ↓bqgkU_0, ↓bqgkU_1, ↓bqgkU_2, ↓bqgkU_3, ↓bqgkU_4, ↓bqgkY_0, ↓bqgkY_1, ↓bqgkY_2, ↓bqikE_, ↓bqikP_, ↓bqikR_, ↓bqikX_, ↓bqikG_, ↓bqikI_, ↓bqikJ_, ↓bqvkC_, ↓bqvkD_, ↓bqvkN_, ↓bqvkO_, ↓bqvkQ_, ↓bqvkU_, ↓bqvkY_, ↓bqvkW_, ↓bqvkS_, ↓bqvkT_, ↓bqvkF_, ↓bqvkH_, ↓bqr_0_0, ↓bqr_0_1, ↓bqr_0_3, ↓bqr_0_4, ↓bqr_0_5, ↓bqr_0_6, ↓bqr_0_7, ↓bqr_0_8, ↓bqr_1_0, ↓bqr_1_1, ↓bqr_1_2, ↓bqr_1_3, ↓bqr_1_5, ↓bqr_1_8, ↓bqr_1_10, ↓bqr_1_12, ↓bqr_1_13, ↓bqr_518_0, ↓bqr_518_1, ↓bqr_518_2, ↓bqr_518_6, ↓bqr_518_7, ↓bqr_524_0, ↓bqr_524_2, ↓bqr_524_4, ↓bqr_528_0, ↓bqr_528_1, ↓bqr_531_0, ↓bqr_531_1, ↓bqr_531_3, ↓bqr_592_0, ↓bqr_592_1, ↓bqr_592_2, ↓bqr_592_3, ↓bqr_592_4, ↓bqr_592_5, ↓bqr_592_6, ↓bqr_592_7, ↓bqr_592_11, ↓bqr_592_12, ↓bqr_592_13, ↓bqr_592_17, ↓bqr_592_18, ↓bqr_592_19, ↓bqr_592_23, ↓bqr_592_26, ↓bqr_592_27, ↓bqr_592_28, ↓bqg_0_2, ↓bqg_1_4, ↓bqg_1_6, ↓bqg_1_7, ↓bqg_1_9, ↓bqg_1_11, ↓bqg_1_14, ↓bqg_518_3, ↓bqg_518_4, ↓bqg_518_5, ↓bqg_518_8, ↓bqg_518_9, ↓bqg_524_1, ↓bqg_524_3, ↓bqg_528_2, ↓bqg_528_3, ↓bqg_531_2, ↓bqg_535_0, ↓bqg_535_1, ↓bqg_535_2, ↓bqg_535_3, ↓bqg_535_4, ↓bqg_592_8, ↓bqg_592_9, ↓bqg_592_10, ↓bqg_592_14, ↓bqg_592_15, ↓bqg_592_16, ↓bqg_592_20, ↓bqg_592_21, ↓bqg_592_22, ↓bqg_592_24, ↓bqg_592_25, ↓bqg_592_29, ↓bqg_592_30, ↓bqg_592_31, ↓bqg_592_32, ↓bqv_0, ↓bqv_1, ↓bqv_259, ↓bqv_518, ↓bqv_524, ↓bqv_528, ↓bqv_531, ↓bqv_535, ↓bqv_592, ↓bqi_2, ↓bqi_3, ↓bqi_4, ↓bqi_10, ↓bqi_519, ↓bqi_520, ↓bqi_521, ↓bqi_522, ↓bqi_523, ↓bqi_525, ↓bqi_526, ↓bqi_527, ↓bqi_529, ↓bqi_530, ↓bqi_532, ↓bqi_533, ↓bqi_534, ↓bqi_593, ↓bqi_594, ↓bqi_595, ↓bqi_596, ↓bqi_597, ↓bqi_598, ↓bqi_599, ↓bqi_600, ↓bqi_601, ↓bqi_602, ↓bqi_603, ↓bqi_604, ↓bqi_605, ↓bqi_606, ↓bqi_608, ↓bqi_609, ↓bqi_610, ↓bqz_607, ↓Option.bind_some, ↓bc_isIn, ↓bm_isIn, ↓bm_isShelf, i01, i10, j01, if_true, if_false, not_true_eq_false, not_false_eq_true, and_true, true_and, and_self, false_and, and_false, ↓reduceIte, Int.reduceEq, Int.reduceLT, Int.reduceLE, Int.reduceNeg, Int.reduceAdd, Int.reduceSub, Int.reduceMul, Int.reduceNe, Int.reduceToNat, Nat.reduceAdd, Nat.reduceMul, Nat.reduceEqDiff, vw_11 hV, show ¬ x < v 1065 by omega]
      rfl
end
