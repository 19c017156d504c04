/-! the reference's cuts -/
section
variable {M B : Mem_m} {v : Nat → Int} {c : Int} {us N : Nat} {F F' : Nat → Int}
theorem PT_skip {n p s : Nat} {q : Int} (hn : ¬ On_ v c us (n + 1) F p n) (h : PT_ v c us n F p q s) : PT_ v c us (n + 1) F p q s := by
  have down : ∀ m, On_ v c us (n + 1) F p m → On_ v c us n F p m := fun m hm => by
    by_cases e : m = n
    · exact absurd (e ▸ hm) hn
    · exact ⟨by have := hm.1; omega, hm.2⟩
  rcases h with ⟨e, f, g⟩ | ⟨k, e, f, g, h⟩
  · exact Or.inl ⟨e, f, fun m hm => g m (down m hm)⟩
  · exact Or.inr ⟨k, e, ⟨by have := f.1; omega, f.2⟩, g, fun m hm => h m (down m hm)⟩
theorem PT_keep {n p s : Nat} {q : Int} (hw : 1 ≤ nw_ v n) (hl : ¬ ((s : Int) < nw_ v n ∨ (nw_ v n = (s : Int) ∧ ¬ q < 100))) (hq : 0 ≤ vs_ v c p) (h : PT_ v c us n F p q s) : PT_ v c us (n + 1) F p q s := by
  rcases h with ⟨e, f, g⟩ | ⟨k, e, f, g, h⟩
  · omega
  · refine Or.inr ⟨k, e, ⟨by have := f.1; omega, f.2⟩, g, fun m hm => ?_⟩
    by_cases em : m = n
    · subst em
      have := f.1
      omega
    · exact h m ⟨by have := hm.1; omega, hm.2⟩
theorem PT_new {n p s : Nat} {q V : Int} (hn : us.testBit n = true ∧ Sn_ v c n p) (hwm : ∀ m : Nat, m ≤ n → 1 ≤ nw_ v m) (hn16 : n ≤ 16) (hV : V = F (p + (nw_ v n).toNat) + 2) (hF : ∀ j, j ≠ p → F' j = F j) (hFp : F' p = V)
    (hle : ∀ m, m < n → us.testBit m = true → Sn_ v c m p → F p ≤ F (p + (nw_ v m).toNat) + 2) (h : PT_ v c us n F p q s)
    (hc : V < F p ∨ (V = F p ∧ ((s : Int) < nw_ v n ∨ (nw_ v n = (s : Int) ∧ ¬ q < 100)))) : PT_ v c us (n + 1) F' p n (nw_ v n).toNat := by
  have hw := hwm n (Nat.le_refl _)
  refine Or.inr ⟨n, rfl, ⟨by omega, hn.1, hn.2, ?_⟩, rfl, fun m hm => ?_⟩
  · rw [hFp, hF _ (by omega), hV]
  by_cases em : m = n
  · subst em; exact Or.inr ⟨rfl, Nat.le_refl _⟩
  obtain ⟨m1, m2, m3, m4⟩ := hm
  have hwm' := hwm m (by omega)
  rw [hFp, hF _ (by omega)] at m4
  rcases hc with hlt | ⟨heq, hl⟩
  · have := hle m (by omega) m2 m3
    omega
  · have ho : On_ v c us n F p m := ⟨by omega, m2, m3, by rw [← heq]; exact m4⟩
    rcases h with ⟨e, f, g⟩ | ⟨k, e, f, g, h⟩
    · exact absurd ho (g m)
    · have h2 := h m ho
      have := f.1
      omega
theorem m_cut63 {k21 : Mem_m → Int → Option Mem_m} (hW : Mw B v) (hN : Nb_ v) (hC : Cb_ v c) (hU : Ub_ v us) {p : Nat} (hp : (p : Int) < vz_ v c) (hB : ∀ i : Nat, p < i → i ≤ (vz_ v c).toNat → Cd_ (vz_ v c).toNat (B 601) i) (h1 : B 601 p = B 601 (p + 1) + 5) (h2 : B 602 p = 100 + vs_ v c p) :
    ∃ E s, f_X12_cuts_63 SH0_ k21 592 c (p : Int) FU_ B 1 0 = k21 E ((p : Int) + -1) ∧ (∀ a, a ≠ 601 → a ≠ 602 → E a = B a) ∧ (∀ j, j ≠ p → E 601 j = B 601 j ∧ E 602 j = B 602 j) ∧ Lc_ (Gn_ v c us) (vz_ v c).toNat (E 601) p ∧ PT_ v c us (v 1063).toNat (E 601) p (E 602 p) s := by
  have b6 := hW.2.2
  have bz := hC.2.1
  have bs := hC.2.2 p (by omega) hp
  have hp8 : p < 8 := by omega
  have ep : ((p : Int)).toNat = p := by omega
  refine lp_run (A := Mem_m × Int) (fun m x a => f_X12_cuts_63 SH0_ k21 592 c (p : Int) m a.1 a.2 x) (v 1063) (fun x a => 0 ≤ x ∧ x ≤ v 1063 ∧ (∀ b, b ≠ 601 → b ≠ 602 → a.1 b = B b) ∧ (∀ j, j ≠ p → a.1 601 j = B 601 j ∧ a.1 602 j = B 602 j) ∧ a.1 601 p ≤ B 601 (p + 1) + 5 ∧ (∀ m : Nat, (m : Int) < x → us.testBit m = true → Sn_ v c m p → a.1 601 p ≤ a.1 601 (p + (nw_ v m).toNat) + 2) ∧ (a.1 601 p = B 601 (p + 1) + 5 ∨ ∃ m : Nat, On_ v c us x.toNat (a.1 601) p m) ∧ ∃ s : Nat, a.2 = (s : Int) ∧ PT_ v c us x.toNat (a.1 601) p (a.1 602 p) s) (fun o => ∃ E s, o = k21 E ((p : Int) + -1) ∧ (∀ a, a ≠ 601 → a ≠ 602 → E a = B a) ∧ (∀ j, j ≠ p → E 601 j = B 601 j ∧ E 602 j = B 602 j) ∧ Lc_ (Gn_ v c us) (vz_ v c).toNat (E 601) p ∧ PT_ v c us (v 1063).toNat (E 601) p (E 602 p) s) ?_ ?_ FU_ 0 (B, 1) (by unfold FU_; omega) ⟨by omega, by omega, fun b _ _ => rfl, fun j _ => ⟨rfl, rfl⟩, (show B 601 p ≤ B 601 (p + 1) + 5 by omega), fun m hm => absurd hm (by omega), Or.inl h1, 1, rfl, Or.inl ⟨h2, rfl, fun m hm => by have := hm.1; omega⟩⟩
  · intro fu x a hx ⟨q1, q2, q3, q4, q5, q6, q7, s, q8, q9⟩
    obtain ⟨E, far⟩ := a
    dsimp only at q3 q4 q5 q6 q7 q8 q9
    subst q8
    obtain ⟨n, rfl⟩ := int_nat q1
    have en : ((n : Int)).toNat = n := by omega
    rw [en] at q7 q9
    have hWE : Mw E v := ⟨by rw [q3 593 (by decide) (by decide)]; exact hW.1, hW.2⟩
    have bw := nb_w hN hx
    have hwm : ∀ m : Nat, m ≤ n → 1 ≤ nw_ v m := fun m hm => (nb_w hN (n := m) (by omega)).1
    have en1 : ((n : Int) + 1).toNat = n + 1 := by omega
    have up : ∀ E' m, On_ v c us n E' p m → On_ v c us (n + 1) E' p m := fun E' m hm => ⟨by have := hm.1; omega, hm.2⟩
    rcases m_stnd hWE hN hC hU hx hp8 with ⟨st1, st2⟩ | ⟨st1, st2⟩
    rotate_left
    · refine Or.inl ⟨(E, (s : Int)), ?_, by omega, by omega, q3, q4, q5, fun m m1 m2 m3 => ?_, ?_, s, rfl, ?_⟩
      · show f_X12_cuts_63 SH0_ k21 592 c (p : Int) (fu + 1) E (s : Int) (n : Int) = f_X12_cuts_63 SH0_ k21 592 c (p : Int) fu E (s : Int) ((n : Int) + 1)
        rw [f_X12_cuts_63]
        simp (disch := omega) only [↓bqr_C, ↓bqr_D, ↓bqr_N2, ↓bqr_N3, ↓bqr_O, ↓bqr_Q, ↓bqr_W, ↓bqr_S1, ↓bqr_S4, ↓bqr_T2, ↓bqr_T3, ↓bqr_F, ↓bqr_H, ↓bqa_C, ↓bqa_N, ↓bqa_U, ↓bqa_Y, ↓bqa_W, ↓bqa_S, ↓bqgkC_1, ↓bqgkC_2, ↓bqgkC_3, ↓bqgkC_4, ↓bqgkC_5, ↓bqgkC_6, ↓bqgkD_1, ↓bqgkN_0, ↓bqgkN_1, ↓bqgkO_1, ↓bqgkQ_1, ↓bqgkW_1, ↓bqgkS_0, ↓bqgkS_2, ↓bqgkS_3, ↓bqgkT_0, ↓bqgkT_1, ↓bqgkF_1, ↓bqgkH_1, ↓bqgkU_0, ↓bqgkU_1, ↓bqgkU_2, ↓bqgkU_3, ↓bqgkU_4, ↓bqgkY_0, ↓bqgkY_1, ↓bqgkY_2, ↓bqikE_, ↓bqikP_, ↓bqikR_, ↓bqikX_, ↓bqikG_, ↓bqikI_, ↓bqikJ_, ↓bqvkC_, ↓bqvkD_, ↓bqvkN_, ↓bqvkO_, ↓bqvkQ_, ↓bqvkU_, ↓bqvkY_, ↓bqvkW_, ↓bqvkS_, ↓bqvkT_, ↓bqvkF_, ↓bqvkH_, ↓bqr_0_0, ↓bqr_0_1, ↓bqr_0_3, ↓bqr_0_4, ↓bqr_0_5, ↓bqr_0_6, ↓bqr_0_7, ↓bqr_0_8, ↓bqr_1_0, ↓bqr_1_1, ↓bqr_1_2, ↓bqr_1_3, ↓bqr_1_5, ↓bqr_1_8, ↓bqr_1_10, ↓bqr_1_12, ↓bqr_1_13, ↓bqr_518_0, ↓bqr_518_1, ↓bqr_518_2, ↓bqr_518_6, ↓bqr_518_7, ↓bqr_524_0, ↓bqr_524_2, ↓bqr_524_4, ↓bqr_528_0, ↓bqr_528_1, ↓bqr_531_0, ↓bqr_531_1, ↓bqr_531_3, ↓bqr_592_0, ↓bqr_592_1, ↓bqr_592_2, ↓bqr_592_3, ↓bqr_592_4, ↓bqr_592_5, ↓bqr_592_6, ↓bqr_592_7, ↓bqr_592_11, ↓bqr_592_12, ↓bqr_592_13, ↓bqr_592_17, ↓bqr_592_18, ↓bqr_592_19, ↓bqr_592_23, ↓bqr_592_26, ↓bqr_592_27, ↓bqr_592_28, ↓bqg_0_2, ↓bqg_1_4, ↓bqg_1_6, ↓bqg_1_7, ↓bqg_1_9, ↓bqg_1_11, ↓bqg_1_14, ↓bqg_518_3, ↓bqg_518_4, ↓bqg_518_5, ↓bqg_518_8, ↓bqg_518_9, ↓bqg_524_1, ↓bqg_524_3, ↓bqg_528_2, ↓bqg_528_3, ↓bqg_531_2, ↓bqg_535_0, ↓bqg_535_1, ↓bqg_535_2, ↓bqg_535_3, ↓bqg_535_4, ↓bqg_592_8, ↓bqg_592_9, ↓bqg_592_10, ↓bqg_592_14, ↓bqg_592_15, ↓bqg_592_16, ↓bqg_592_20, ↓bqg_592_21, ↓bqg_592_22, ↓bqg_592_24, ↓bqg_592_25, ↓bqg_592_29, ↓bqg_592_30, ↓bqg_592_31, ↓bqg_592_32, ↓bqv_0, ↓bqv_1, ↓bqv_259, ↓bqv_518, ↓bqv_524, ↓bqv_528, ↓bqv_531, ↓bqv_535, ↓bqv_592, ↓bqi_2, ↓bqi_3, ↓bqi_4, ↓bqi_10, ↓bqi_519, ↓bqi_520, ↓bqi_521, ↓bqi_522, ↓bqi_523, ↓bqi_525, ↓bqi_526, ↓bqi_527, ↓bqi_529, ↓bqi_530, ↓bqi_532, ↓bqi_533, ↓bqi_534, ↓bqi_593, ↓bqi_594, ↓bqi_595, ↓bqi_596, ↓bqi_597, ↓bqi_598, ↓bqi_599, ↓bqi_600, ↓bqi_601, ↓bqi_602, ↓bqi_603, ↓bqi_604, ↓bqi_605, ↓bqi_606, ↓bqi_608, ↓bqi_609, ↓bqi_610, ↓bqz_607, ↓Option.bind_some, ↓bc_isIn, ↓bm_isIn, ↓bm_isShelf, i01, i10, j01, if_true, if_false, not_true_eq_false, not_false_eq_true, and_true, true_and, and_self, false_and, and_false, ↓reduceIte, Int.reduceEq, Int.reduceLT, Int.reduceLE, Int.reduceNeg, Int.reduceAdd, Int.reduceSub, Int.reduceMul, Int.reduceNe, Int.reduceToNat, Nat.reduceAdd, Nat.reduceMul, Nat.reduceEqDiff, mw_at hWE, hx, ↓bnd st2, wr_n]
      · by_cases e : m = n
        · subst e; exact absurd ⟨m2, m3⟩ st1
        · exact q6 m (by omega) m2 m3
      · rw [en1]
        rcases q7 with e | ⟨m, hm⟩
        · exact Or.inl e
        · exact Or.inr ⟨m, up _ m hm⟩
      · rw [en1]
        exact PT_skip (fun hm => st1 ⟨hm.2.1, hm.2.2.1⟩) q9
    · have hfit : p + (nw_ v n).toNat ≤ (vz_ v c).toNat := by have := st1.2.1; omega
      have ew : ((p : Int) + nw_ v n).toNat = p + (nw_ v n).toNat := by omega
      have bd := hB (p + (nw_ v n).toNat) (by omega) hfit
      unfold Cd_ at bd
      rw [← (q4 (p + (nw_ v n).toNat) (by omega)).1] at bd
      have bd' : 0 ≤ E 601 (p + (nw_ v n).toNat) ∧ E 601 (p + (nw_ v n).toNat) ≤ 100 := by
        have := bd.1; have := bd.2; omega
      have step : ∃ lo : Int, (lo = 0 ∨ lo = 1) ∧ (lo = 1 ↔ ((s : Int) < nw_ v n ∨ (nw_ v n = (s : Int) ∧ ¬ E 602 p < 100))) ∧ f_X12_cuts_63 SH0_ k21 592 c (p : Int) (fu + 1) E (s : Int) (n : Int) = f_X12_cuts_143 SH0_ k21 (fun M x3 x4 => f_X12_cuts_63 SH0_ k21 592 c (p : Int) fu M x3 x4) E 592 c (p : Int) (s : Int) (n : Int) (2 + E 601 (p + (nw_ v n).toNat)) lo := by
        by_cases g1 : nw_ v n ≤ (s : Int)
        · by_cases g2 : nw_ v n = (s : Int)
          · by_cases g3 : E 602 p < 100
            · refine ⟨0, Or.inl rfl, by omega, ?_⟩
              rw [f_X12_cuts_63]
              simp (disch := omega) only [↓bqr_C, ↓bqr_D, ↓bqr_N2, ↓bqr_N3, ↓bqr_O, ↓bqr_Q, ↓bqr_W, ↓bqr_S1, ↓bqr_S4, ↓bqr_T2, ↓bqr_T3, ↓bqr_F, ↓bqr_H, ↓bqa_C, ↓bqa_N, ↓bqa_U, ↓bqa_Y, ↓bqa_W, ↓bqa_S, ↓bqgkC_1, ↓bqgkC_2, ↓bqgkC_3, ↓bqgkC_4, ↓bqgkC_5, ↓bqgkC_6, ↓bqgkD_1, ↓bqgkN_0, ↓bqgkN_1, ↓bqgkO_1, ↓bqgkQ_1, ↓bqgkW_1, ↓bqgkS_0, ↓bqgkS_2, ↓bqgkS_3, ↓bqgkT_0, ↓bqgkT_1, ↓bqgkF_1, ↓bqgkH_1, ↓bqgkU_0, ↓bqgkU_1, ↓bqgkU_2, ↓bqgkU_3, ↓bqgkU_4, ↓bqgkY_0, ↓bqgkY_1, ↓bqgkY_2, ↓bqikE_, ↓bqikP_, ↓bqikR_, ↓bqikX_, ↓bqikG_, ↓bqikI_, ↓bqikJ_, ↓bqvkC_, ↓bqvkD_, ↓bqvkN_, ↓bqvkO_, ↓bqvkQ_, ↓bqvkU_, ↓bqvkY_, ↓bqvkW_, ↓bqvkS_, ↓bqvkT_, ↓bqvkF_, ↓bqvkH_, ↓bqr_0_0, ↓bqr_0_1, ↓bqr_0_3, ↓bqr_0_4, ↓bqr_0_5, ↓bqr_0_6, ↓bqr_0_7, ↓bqr_0_8, ↓bqr_1_0, ↓bqr_1_1, ↓bqr_1_2, ↓bqr_1_3, ↓bqr_1_5, ↓bqr_1_8, ↓bqr_1_10, ↓bqr_1_12, ↓bqr_1_13, ↓bqr_518_0, ↓bqr_518_1, ↓bqr_518_2, ↓bqr_518_6, ↓bqr_518_7, ↓bqr_524_0, ↓bqr_524_2, ↓bqr_524_4, ↓bqr_528_0, ↓bqr_528_1, ↓bqr_531_0, ↓bqr_531_1, ↓bqr_531_3, ↓bqr_592_0, ↓bqr_592_1, ↓bqr_592_2, ↓bqr_592_3, ↓bqr_592_4, ↓bqr_592_5, ↓bqr_592_6, ↓bqr_592_7, ↓bqr_592_11, ↓bqr_592_12, ↓bqr_592_13, ↓bqr_592_17, ↓bqr_592_18, ↓bqr_592_19, ↓bqr_592_23, ↓bqr_592_26, ↓bqr_592_27, ↓bqr_592_28, ↓bqg_0_2, ↓bqg_1_4, ↓bqg_1_6, ↓bqg_1_7, ↓bqg_1_9, ↓bqg_1_11, ↓bqg_1_14, ↓bqg_518_3, ↓bqg_518_4, ↓bqg_518_5, ↓bqg_518_8, ↓bqg_518_9, ↓bqg_524_1, ↓bqg_524_3, ↓bqg_528_2, ↓bqg_528_3, ↓bqg_531_2, ↓bqg_535_0, ↓bqg_535_1, ↓bqg_535_2, ↓bqg_535_3, ↓bqg_535_4, ↓bqg_592_8, ↓bqg_592_9, ↓bqg_592_10, ↓bqg_592_14, ↓bqg_592_15, ↓bqg_592_16, ↓bqg_592_20, ↓bqg_592_21, ↓bqg_592_22, ↓bqg_592_24, ↓bqg_592_25, ↓bqg_592_29, ↓bqg_592_30, ↓bqg_592_31, ↓bqg_592_32, ↓bqv_0, ↓bqv_1, ↓bqv_259, ↓bqv_518, ↓bqv_524, ↓bqv_528, ↓bqv_531, ↓bqv_535, ↓bqv_592, ↓bqi_2, ↓bqi_3, ↓bqi_4, ↓bqi_10, ↓bqi_519, ↓bqi_520, ↓bqi_521, ↓bqi_522, ↓bqi_523, ↓bqi_525, ↓bqi_526, ↓bqi_527, ↓bqi_529, ↓bqi_530, ↓bqi_532, ↓bqi_533, ↓bqi_534, ↓bqi_593, ↓bqi_594, ↓bqi_595, ↓bqi_596, ↓bqi_597, ↓bqi_598, ↓bqi_599, ↓bqi_600, ↓bqi_601, ↓bqi_602, ↓bqi_603, ↓bqi_604, ↓bqi_605, ↓bqi_606, ↓bqi_608, ↓bqi_609, ↓bqi_610, ↓bqz_607, ↓Option.bind_some, ↓bc_isIn, ↓bm_isIn, ↓bm_isShelf, i01, i10, j01, if_true, if_false, not_true_eq_false, not_false_eq_true, and_true, true_and, and_self, false_and, and_false, ↓reduceIte, Int.reduceEq, Int.reduceLT, Int.reduceLE, Int.reduceNeg, Int.reduceAdd, Int.reduceSub, Int.reduceMul, Int.reduceNe, Int.reduceToNat, Nat.reduceAdd, Nat.reduceMul, Nat.reduceEqDiff, mw_at hWE, hx, ↓bnd st2, wr_n, ↓bm_wide hWE hN, ew, ep, f_X12_cuts_142, f_X12_cuts_138]
              rw [if_pos g1, if_pos g2, if_pos g3]
            · refine ⟨1, Or.inr rfl, by omega, ?_⟩
              rw [f_X12_cuts_63]
              simp (disch := omega) only [↓bqr_C, ↓bqr_D, ↓bqr_N2, ↓bqr_N3, ↓bqr_O, ↓bqr_Q, ↓bqr_W, ↓bqr_S1, ↓bqr_S4, ↓bqr_T2, ↓bqr_T3, ↓bqr_F, ↓bqr_H, ↓bqa_C, ↓bqa_N, ↓bqa_U, ↓bqa_Y, ↓bqa_W, ↓bqa_S, ↓bqgkC_1, ↓bqgkC_2, ↓bqgkC_3, ↓bqgkC_4, ↓bqgkC_5, ↓bqgkC_6, ↓bqgkD_1, ↓bqgkN_0, ↓bqgkN_1, ↓bqgkO_1, ↓bqgkQ_1, ↓bqgkW_1, ↓bqgkS_0, ↓bqgkS_2, ↓bqgkS_3, ↓bqgkT_0, ↓bqgkT_1, ↓bqgkF_1, ↓bqgkH_1, ↓bqgkU_0, ↓bqgkU_1, ↓bqgkU_2, ↓bqgkU_3, ↓bqgkU_4, ↓bqgkY_0, ↓bqgkY_1, ↓bqgkY_2, ↓bqikE_, ↓bqikP_, ↓bqikR_, ↓bqikX_, ↓bqikG_, ↓bqikI_, ↓bqikJ_, ↓bqvkC_, ↓bqvkD_, ↓bqvkN_, ↓bqvkO_, ↓bqvkQ_, ↓bqvkU_, ↓bqvkY_, ↓bqvkW_, ↓bqvkS_, ↓bqvkT_, ↓bqvkF_, ↓bqvkH_, ↓bqr_0_0, ↓bqr_0_1, ↓bqr_0_3, ↓bqr_0_4, ↓bqr_0_5, ↓bqr_0_6, ↓bqr_0_7, ↓bqr_0_8, ↓bqr_1_0, ↓bqr_1_1, ↓bqr_1_2, ↓bqr_1_3, ↓bqr_1_5, ↓bqr_1_8, ↓bqr_1_10, ↓bqr_1_12, ↓bqr_1_13, ↓bqr_518_0, ↓bqr_518_1, ↓bqr_518_2, ↓bqr_518_6, ↓bqr_518_7, ↓bqr_524_0, ↓bqr_524_2, ↓bqr_524_4, ↓bqr_528_0, ↓bqr_528_1, ↓bqr_531_0, ↓bqr_531_1, ↓bqr_531_3, ↓bqr_592_0, ↓bqr_592_1, ↓bqr_592_2, ↓bqr_592_3, ↓bqr_592_4, ↓bqr_592_5, ↓bqr_592_6, ↓bqr_592_7, ↓bqr_592_11, ↓bqr_592_12, ↓bqr_592_13, ↓bqr_592_17, ↓bqr_592_18, ↓bqr_592_19, ↓bqr_592_23, ↓bqr_592_26, ↓bqr_592_27, ↓bqr_592_28, ↓bqg_0_2, ↓bqg_1_4, ↓bqg_1_6, ↓bqg_1_7, ↓bqg_1_9, ↓bqg_1_11, ↓bqg_1_14, ↓bqg_518_3, ↓bqg_518_4, ↓bqg_518_5, ↓bqg_518_8, ↓bqg_518_9, ↓bqg_524_1, ↓bqg_524_3, ↓bqg_528_2, ↓bqg_528_3, ↓bqg_531_2, ↓bqg_535_0, ↓bqg_535_1, ↓bqg_535_2, ↓bqg_535_3, ↓bqg_535_4, ↓bqg_592_8, ↓bqg_592_9, ↓bqg_592_10, ↓bqg_592_14, ↓bqg_592_15, ↓bqg_592_16, ↓bqg_592_20, ↓bqg_592_21, ↓bqg_592_22, ↓bqg_592_24, ↓bqg_592_25, ↓bqg_592_29, ↓bqg_592_30, ↓bqg_592_31, ↓bqg_592_32, ↓bqv_0, ↓bqv_1, ↓bqv_259, ↓bqv_518, ↓bqv_524, ↓bqv_528, ↓bqv_531, ↓bqv_535, ↓bqv_592, ↓bqi_2, ↓bqi_3, ↓bqi_4, ↓bqi_10, ↓bqi_519, ↓bqi_520, ↓bqi_521, ↓bqi_522, ↓bqi_523, ↓bqi_525, ↓bqi_526, ↓bqi_527, ↓bqi_529, ↓bqi_530, ↓bqi_532, ↓bqi_533, ↓bqi_534, ↓bqi_593, ↓bqi_594, ↓bqi_595, ↓bqi_596, ↓bqi_597, ↓bqi_598, ↓bqi_599, ↓bqi_600, ↓bqi_601, ↓bqi_602, ↓bqi_603, ↓bqi_604, ↓bqi_605, ↓bqi_606, ↓bqi_608, ↓bqi_609, ↓bqi_610, ↓bqz_607, ↓Option.bind_some, ↓bc_isIn, ↓bm_isIn, ↓bm_isShelf, i01, i10, j01, if_true, if_false, not_true_eq_false, not_false_eq_true, and_true, true_and, and_self, false_and, and_false, ↓reduceIte, Int.reduceEq, Int.reduceLT, Int.reduceLE, Int.reduceNeg, Int.reduceAdd, Int.reduceSub, Int.reduceMul, Int.reduceNe, Int.reduceToNat, Nat.reduceAdd, Nat.reduceMul, Nat.reduceEqDiff, mw_at hWE, hx, ↓bnd st2, wr_n, ↓bm_wide hWE hN, ew, ep, f_X12_cuts_142, f_X12_cuts_138]
              rw [if_pos g1, if_pos g2, if_neg g3]
          · refine ⟨0, Or.inl rfl, by omega, ?_⟩
            rw [f_X12_cuts_63]
            simp (disch := omega) only [↓bqr_C, ↓bqr_D, ↓bqr_N2, ↓bqr_N3, ↓bqr_O, ↓bqr_Q, ↓bqr_W, ↓bqr_S1, ↓bqr_S4, ↓bqr_T2, ↓bqr_T3, ↓bqr_F, ↓bqr_H, ↓bqa_C, ↓bqa_N, ↓bqa_U, ↓bqa_Y, ↓bqa_W, ↓bqa_S, ↓bqgkC_1, ↓bqgkC_2, ↓bqgkC_3, ↓bqgkC_4, ↓bqgkC_5, ↓bqgkC_6, ↓bqgkD_1, ↓bqgkN_0, ↓bqgkN_1, ↓bqgkO_1, ↓bqgkQ_1, ↓bqgkW_1, ↓bqgkS_0, ↓bqgkS_2, ↓bqgkS_3, ↓bqgkT_0, ↓bqgkT_1, ↓bqgkF_1, ↓bqgkH_1, ↓bqgkU_0, ↓bqgkU_1, ↓bqgkU_2, ↓bqgkU_3, ↓bqgkU_4, ↓bqgkY_0, ↓bqgkY_1, ↓bqgkY_2, ↓bqikE_, ↓bqikP_, ↓bqikR_, ↓bqikX_, ↓bqikG_, ↓bqikI_, ↓bqikJ_, ↓bqvkC_, ↓bqvkD_, ↓bqvkN_, ↓bqvkO_, ↓bqvkQ_, ↓bqvkU_, ↓bqvkY_, ↓bqvkW_, ↓bqvkS_, ↓bqvkT_, ↓bqvkF_, ↓bqvkH_, ↓bqr_0_0, ↓bqr_0_1, ↓bqr_0_3, ↓bqr_0_4, ↓bqr_0_5, ↓bqr_0_6, ↓bqr_0_7, ↓bqr_0_8, ↓bqr_1_0, ↓bqr_1_1, ↓bqr_1_2, ↓bqr_1_3, ↓bqr_1_5, ↓bqr_1_8, ↓bqr_1_10, ↓bqr_1_12, ↓bqr_1_13, ↓bqr_518_0, ↓bqr_518_1, ↓bqr_518_2, ↓bqr_518_6, ↓bqr_518_7, ↓bqr_524_0, ↓bqr_524_2, ↓bqr_524_4, ↓bqr_528_0, ↓bqr_528_1, ↓bqr_531_0, ↓bqr_531_1, ↓bqr_531_3, ↓bqr_592_0, ↓bqr_592_1, ↓bqr_592_2, ↓bqr_592_3, ↓bqr_592_4, ↓bqr_592_5, ↓bqr_592_6, ↓bqr_592_7, ↓bqr_592_11, ↓bqr_592_12, ↓bqr_592_13, ↓bqr_592_17, ↓bqr_592_18, ↓bqr_592_19, ↓bqr_592_23, ↓bqr_592_26, ↓bqr_592_27, ↓bqr_592_28, ↓bqg_0_2, ↓bqg_1_4, ↓bqg_1_6, ↓bqg_1_7, ↓bqg_1_9, ↓bqg_1_11, ↓bqg_1_14, ↓bqg_518_3, ↓bqg_518_4, ↓bqg_518_5, ↓bqg_518_8, ↓bqg_518_9, ↓bqg_524_1, ↓bqg_524_3, ↓bqg_528_2, ↓bqg_528_3, ↓bqg_531_2, ↓bqg_535_0, ↓bqg_535_1, ↓bqg_535_2, ↓bqg_535_3, ↓bqg_535_4, ↓bqg_592_8, ↓bqg_592_9, ↓bqg_592_10, ↓bqg_592_14, ↓bqg_592_15, ↓bqg_592_16, ↓bqg_592_20, ↓bqg_592_21, ↓bqg_592_22, ↓bqg_592_24, ↓bqg_592_25, ↓bqg_592_29, ↓bqg_592_30, ↓bqg_592_31, ↓bqg_592_32, ↓bqv_0, ↓bqv_1, ↓bqv_259, ↓bqv_518, ↓bqv_524, ↓bqv_528, ↓bqv_531, ↓bqv_535, ↓bqv_592, ↓bqi_2, ↓bqi_3, ↓bqi_4, ↓bqi_10, ↓bqi_519, ↓bqi_520, ↓bqi_521, ↓bqi_522, ↓bqi_523, ↓bqi_525, ↓bqi_526, ↓bqi_527, ↓bqi_529, ↓bqi_530, ↓bqi_532, ↓bqi_533, ↓bqi_534, ↓bqi_593, ↓bqi_594, ↓bqi_595, ↓bqi_596, ↓bqi_597, ↓bqi_598, ↓bqi_599, ↓bqi_600, ↓bqi_601, ↓bqi_602, ↓bqi_603, ↓bqi_604, ↓bqi_605, ↓bqi_606, ↓bqi_608, ↓bqi_609, ↓bqi_610, ↓bqz_607, ↓Option.bind_some, ↓bc_isIn, ↓bm_isIn, ↓bm_isShelf, i01, i10, j01, if_true, if_false, not_true_eq_false, not_false_eq_true, and_true, true_and, and_self, false_and, and_false, ↓reduceIte, Int.reduceEq, Int.reduceLT, Int.reduceLE, Int.reduceNeg, Int.reduceAdd, Int.reduceSub, Int.reduceMul, Int.reduceNe, Int.reduceToNat, Nat.reduceAdd, Nat.reduceMul, Nat.reduceEqDiff, mw_at hWE, hx, ↓bnd st2, wr_n, ↓bm_wide hWE hN, ew, ep, f_X12_cuts_142, f_X12_cuts_138]
            rw [if_pos g1, if_neg g2]
        · refine ⟨1, Or.inr rfl, by omega, ?_⟩
          rw [f_X12_cuts_63]
          simp (disch := omega) only [↓bqr_C, ↓bqr_D, ↓bqr_N2, ↓bqr_N3, ↓bqr_O, ↓bqr_Q, ↓bqr_W, ↓bqr_S1, ↓bqr_S4, ↓bqr_T2, ↓bqr_T3, ↓bqr_F, ↓bqr_H, ↓bqa_C, ↓bqa_N, ↓bqa_U, ↓bqa_Y, ↓bqa_W, ↓bqa_S, ↓bqgkC_1, ↓bqgkC_2, ↓bqgkC_3, ↓bqgkC_4, ↓bqgkC_5, ↓bqgkC_6, ↓bqgkD_1, ↓bqgkN_0, ↓bqgkN_1, ↓bqgkO_1, ↓bqgkQ_1, ↓bqgkW_1, ↓bqgkS_0, ↓bqgkS_2, ↓bqgkS_3, ↓bqgkT_0, ↓bqgkT_1, ↓bqgkF_1, ↓bqgkH_1, ↓bqgkU_0, ↓bqgkU_1, ↓bqgkU_2, ↓bqgkU_3, ↓bqgkU_4, ↓bqgkY_0, ↓bqgkY_1, ↓bqgkY_2, ↓bqikE_, ↓bqikP_, ↓bqikR_, ↓bqikX_, ↓bqikG_, ↓bqikI_, ↓bqikJ_, ↓bqvkC_, ↓bqvkD_, ↓bqvkN_, ↓bqvkO_, ↓bqvkQ_, ↓bqvkU_, ↓bqvkY_, ↓bqvkW_, ↓bqvkS_, ↓bqvkT_, ↓bqvkF_, ↓bqvkH_, ↓bqr_0_0, ↓bqr_0_1, ↓bqr_0_3, ↓bqr_0_4, ↓bqr_0_5, ↓bqr_0_6, ↓bqr_0_7, ↓bqr_0_8, ↓bqr_1_0, ↓bqr_1_1, ↓bqr_1_2, ↓bqr_1_3, ↓bqr_1_5, ↓bqr_1_8, ↓bqr_1_10, ↓bqr_1_12, ↓bqr_1_13, ↓bqr_518_0, ↓bqr_518_1, ↓bqr_518_2, ↓bqr_518_6, ↓bqr_518_7, ↓bqr_524_0, ↓bqr_524_2, ↓bqr_524_4, ↓bqr_528_0, ↓bqr_528_1, ↓bqr_531_0, ↓bqr_531_1, ↓bqr_531_3, ↓bqr_592_0, ↓bqr_592_1, ↓bqr_592_2, ↓bqr_592_3, ↓bqr_592_4, ↓bqr_592_5, ↓bqr_592_6, ↓bqr_592_7, ↓bqr_592_11, ↓bqr_592_12, ↓bqr_592_13, ↓bqr_592_17, ↓bqr_592_18, ↓bqr_592_19, ↓bqr_592_23, ↓bqr_592_26, ↓bqr_592_27, ↓bqr_592_28, ↓bqg_0_2, ↓bqg_1_4, ↓bqg_1_6, ↓bqg_1_7, ↓bqg_1_9, ↓bqg_1_11, ↓bqg_1_14, ↓bqg_518_3, ↓bqg_518_4, ↓bqg_518_5, ↓bqg_518_8, ↓bqg_518_9, ↓bqg_524_1, ↓bqg_524_3, ↓bqg_528_2, ↓bqg_528_3, ↓bqg_531_2, ↓bqg_535_0, ↓bqg_535_1, ↓bqg_535_2, ↓bqg_535_3, ↓bqg_535_4, ↓bqg_592_8, ↓bqg_592_9, ↓bqg_592_10, ↓bqg_592_14, ↓bqg_592_15, ↓bqg_592_16, ↓bqg_592_20, ↓bqg_592_21, ↓bqg_592_22, ↓bqg_592_24, ↓bqg_592_25, ↓bqg_592_29, ↓bqg_592_30, ↓bqg_592_31, ↓bqg_592_32, ↓bqv_0, ↓bqv_1, ↓bqv_259, ↓bqv_518, ↓bqv_524, ↓bqv_528, ↓bqv_531, ↓bqv_535, ↓bqv_592, ↓bqi_2, ↓bqi_3, ↓bqi_4, ↓bqi_10, ↓bqi_519, ↓bqi_520, ↓bqi_521, ↓bqi_522, ↓bqi_523, ↓bqi_525, ↓bqi_526, ↓bqi_527, ↓bqi_529, ↓bqi_530, ↓bqi_532, ↓bqi_533, ↓bqi_534, ↓bqi_593, ↓bqi_594, ↓bqi_595, ↓bqi_596, ↓bqi_597, ↓bqi_598, ↓bqi_599, ↓bqi_600, ↓bqi_601, ↓bqi_602, ↓bqi_603, ↓bqi_604, ↓bqi_605, ↓bqi_606, ↓bqi_608, ↓bqi_609, ↓bqi_610, ↓bqz_607, ↓Option.bind_some, ↓bc_isIn, ↓bm_isIn, ↓bm_isShelf, i01, i10, j01, if_true, if_false, not_true_eq_false, not_false_eq_true, and_true, true_and, and_self, false_and, and_false, ↓reduceIte, Int.reduceEq, Int.reduceLT, Int.reduceLE, Int.reduceNeg, Int.reduceAdd, Int.reduceSub, Int.reduceMul, Int.reduceNe, Int.reduceToNat, Nat.reduceAdd, Nat.reduceMul, Nat.reduceEqDiff, mw_at hWE, hx, ↓bnd st2, wr_n, ↓bm_wide hWE hN, ew, ep, f_X12_cuts_142, f_X12_cuts_138]
          rw [if_neg g1]
      obtain ⟨lo, l1, l2, l3⟩ := step
      rw [m_143 hWE hN hp8 hx] at l3
      by_cases hc : 2 + E 601 (p + (nw_ v n).toNat) < E 601 p ∨ (2 + E 601 (p + (nw_ v n).toNat) = E 601 p ∧ ¬ lo = 0)
      · rw [if_pos hc] at l3
        have hst : ∀ j, j ≠ p → st_m (st_m E 601 p (2 + E 601 (p + (nw_ v n).toNat))) 602 p n 601 j = E 601 j := fun j hj => by rw [st_o2 (by decide), st_k hj]
        have hstp : st_m (st_m E 601 p (2 + E 601 (p + (nw_ v n).toNat))) 602 p n 601 p = 2 + E 601 (p + (nw_ v n).toNat) := by rw [st_o2 (by decide), st_e]
        refine Or.inl ⟨(st_m (st_m E 601 p (2 + E 601 (p + (nw_ v n).toNat))) 602 p n, nw_ v n), l3, by omega, by omega, fun b b1 b2 => ((st_o2 b2).trans (st_o2 b1)).trans (q3 b b1 b2), fun j hj => ⟨(hst j hj).trans (q4 j hj).1, ((st_k hj).trans (congrFun (st_o2 (by decide)) j)).trans (q4 j hj).2⟩, ?_, fun m m1 m2 m3 => ?_, Or.inr ⟨n, ?_⟩, (nw_ v n).toNat, by show nw_ v n = _; omega, ?_⟩
        · show st_m (st_m E 601 p (2 + E 601 (p + (nw_ v n).toNat))) 602 p n 601 p ≤ _
          rw [hstp]; omega
        · show st_m (st_m E 601 p (2 + E 601 (p + (nw_ v n).toNat))) 602 p n 601 p ≤ st_m (st_m E 601 p (2 + E 601 (p + (nw_ v n).toNat))) 602 p n 601 (p + (nw_ v m).toNat) + 2
          have := hwm m (by omega)
          rw [hstp, hst _ (by omega)]
          by_cases e : m = n
          · subst e; omega
          · have := q6 m (by omega) m2 m3
            omega
        · refine ⟨by omega, st1.1, st1.2, ?_⟩
          show st_m (st_m E 601 p (2 + E 601 (p + (nw_ v n).toNat))) 602 p n 601 p = st_m (st_m E 601 p (2 + E 601 (p + (nw_ v n).toNat))) 602 p n 601 (p + (nw_ v n).toNat) + 2
          rw [hstp, hst _ (by omega)]; omega
        · rw [en1]
          show PT_ v c us (n + 1) (st_m (st_m E 601 p (2 + E 601 (p + (nw_ v n).toNat))) 602 p n 601) p (st_m (st_m E 601 p (2 + E 601 (p + (nw_ v n).toNat))) 602 p n 602 p) (nw_ v n).toNat
          rw [st_e (a := 602)]
          refine PT_new (F := E 601) st1 hwm (by omega) rfl hst (by rw [hstp]; omega) (fun m m1 m2 m3 => q6 m (by omega) m2 m3) q9 ?_
          have l2' := l2
          rcases hc with h | ⟨h, h'⟩
          · exact Or.inl (by omega)
          · exact Or.inr ⟨by omega, l2.mp (by omega)⟩
      · rw [if_neg hc] at l3
        refine Or.inl ⟨(E, (s : Int)), l3, by omega, by omega, q3, q4, q5, fun m m1 m2 m3 => ?_, ?_, s, rfl, ?_⟩
        · by_cases e : m = n
          · subst e
            show E 601 p ≤ E 601 (p + (nw_ v m).toNat) + 2
            omega
          · exact q6 m (by omega) m2 m3
        · rw [en1]
          rcases q7 with e | ⟨m, hm⟩
          · exact Or.inl e
          · exact Or.inr ⟨m, up _ m hm⟩
        · rw [en1]
          show PT_ v c us (n + 1) (E 601) p (E 602 p) s
          by_cases he : 2 + E 601 (p + (nw_ v n).toNat) = E 601 p
          · refine PT_keep (by omega) (fun hl => ?_) bs.1 q9
            have := l2.mpr hl
            omega
          · exact PT_skip (fun hm => he (by have := hm.2.2.2; omega)) q9
  · intro fu x a hx ⟨q1, q2, q3, q4, q5, q6, q7, s, q8, q9⟩
    obtain ⟨E, far⟩ := a
    dsimp only at q3 q4 q5 q6 q7 q8 q9
    have ex : x = v 1063 := by omega
    subst ex
    have hWE : Mw E v := ⟨by rw [q3 593 (by decide) (by decide)]; exact hW.1, hW.2⟩
    have hB1 : E 601 (p + 1) = B 601 (p + 1) := (q4 (p + 1) (by omega)).1
    refine ⟨E, s, ?_, q3, q4, ⟨by rw [hB1]; exact q5, fun t t1 t2 ⟨m, g1, g2, g3, g4⟩ => ?_, ?_⟩, q9⟩
    · show f_X12_cuts_63 SH0_ k21 592 c (p : Int) (fu + 1) E far (v 1063) = _
      rw [f_X12_cuts_63]
      simp (disch := omega) only [↓bqr_C, ↓bqr_D, ↓bqr_N2, ↓bqr_N3, ↓bqr_O, ↓bqr_Q, ↓bqr_W, ↓bqr_S1, ↓bqr_S4, ↓bqr_T2, ↓bqr_T3, ↓bqr_F, ↓bqr_H, ↓bqa_C, ↓bqa_N, ↓bqa_U, ↓bqa_Y, ↓bqa_W, ↓bqa_S, ↓bqgkC_1, ↓bqgkC_2, ↓bqgkC_3, ↓bqgkC_4, ↓bqgkC_5, ↓bqgkC_6, ↓bqgkD_1, ↓bqgkN_0, ↓bqgkN_1, ↓bqgkO_1, ↓bqgkQ_1, ↓bqgkW_1, ↓bqgkS_0, ↓bqgkS_2, ↓bqgkS_3, ↓bqgkT_0, ↓bqgkT_1, ↓bqgkF_1, ↓bqgkH_1, ↓bqgkU_0, ↓bqgkU_1, ↓bqgkU_2, ↓bqgkU_3, ↓bqgkU_4, ↓bqgkY_0, ↓bqgkY_1, ↓bqgkY_2, ↓bqikE_, ↓bqikP_, ↓bqikR_, ↓bqikX_, ↓bqikG_, ↓bqikI_, ↓bqikJ_, ↓bqvkC_, ↓bqvkD_, ↓bqvkN_, ↓bqvkO_, ↓bqvkQ_, ↓bqvkU_, ↓bqvkY_, ↓bqvkW_, ↓bqvkS_, ↓bqvkT_, ↓bqvkF_, ↓bqvkH_, ↓bqr_0_0, ↓bqr_0_1, ↓bqr_0_3, ↓bqr_0_4, ↓bqr_0_5, ↓bqr_0_6, ↓bqr_0_7, ↓bqr_0_8, ↓bqr_1_0, ↓bqr_1_1, ↓bqr_1_2, ↓bqr_1_3, ↓bqr_1_5, ↓bqr_1_8, ↓bqr_1_10, ↓bqr_1_12, ↓bqr_1_13, ↓bqr_518_0, ↓bqr_518_1, ↓bqr_518_2, ↓bqr_518_6, ↓bqr_518_7, ↓bqr_524_0, ↓bqr_524_2, ↓bqr_524_4, ↓bqr_528_0, ↓bqr_528_1, ↓bqr_531_0, ↓bqr_531_1, ↓bqr_531_3, ↓bqr_592_0, ↓bqr_592_1, ↓bqr_592_2, ↓bqr_592_3, ↓bqr_592_4, ↓bqr_592_5, ↓bqr_592_6, ↓bqr_592_7, ↓bqr_592_11, ↓bqr_592_12, ↓bqr_592_13, ↓bqr_592_17, ↓bqr_592_18, ↓bqr_592_19, ↓bqr_592_23, ↓bqr_592_26, ↓bqr_592_27, ↓bqr_592_28, ↓bqg_0_2, ↓bqg_1_4, ↓bqg_1_6, ↓bqg_1_7, ↓bqg_1_9, ↓bqg_1_11, ↓bqg_1_14, ↓bqg_518_3, ↓bqg_518_4, ↓bqg_518_5, ↓bqg_518_8, ↓bqg_518_9, ↓bqg_524_1, ↓bqg_524_3, ↓bqg_528_2, ↓bqg_528_3, ↓bqg_531_2, ↓bqg_535_0, ↓bqg_535_1, ↓bqg_535_2, ↓bqg_535_3, ↓bqg_535_4, ↓bqg_592_8, ↓bqg_592_9, ↓bqg_592_10, ↓bqg_592_14, ↓bqg_592_15, ↓bqg_592_16, ↓bqg_592_20, ↓bqg_592_21, ↓bqg_592_22, ↓bqg_592_24, ↓bqg_592_25, ↓bqg_592_29, ↓bqg_592_30, ↓bqg_592_31, ↓bqg_592_32, ↓bqv_0, ↓bqv_1, ↓bqv_259, ↓bqv_518, ↓bqv_524, ↓bqv_528, ↓bqv_531, ↓bqv_535, ↓bqv_592, ↓bqi_2, ↓bqi_3, ↓bqi_4, ↓bqi_10, ↓bqi_519, ↓bqi_520, ↓bqi_521, ↓bqi_522, ↓bqi_523, ↓bqi_525, ↓bqi_526, ↓bqi_527, ↓bqi_529, ↓bqi_530, ↓bqi_532, ↓bqi_533, ↓bqi_534, ↓bqi_593, ↓bqi_594, ↓bqi_595, ↓bqi_596, ↓bqi_597, ↓bqi_598, ↓bqi_599, ↓bqi_600, ↓bqi_601, ↓bqi_602, ↓bqi_603, ↓bqi_604, ↓bqi_605, ↓bqi_606, ↓bqi_608, ↓bqi_609, ↓bqi_610, ↓bqz_607, ↓Option.bind_some, ↓bc_isIn, ↓bm_isIn, ↓bm_isShelf, i01, i10, j01, if_true, if_false, not_true_eq_false, not_false_eq_true, and_true, true_and, and_self, false_and, and_false, ↓reduceIte, Int.reduceEq, Int.reduceLT, Int.reduceLE, Int.reduceNeg, Int.reduceAdd, Int.reduceSub, Int.reduceMul, Int.reduceNe, Int.reduceToNat, Nat.reduceAdd, Nat.reduceMul, Nat.reduceEqDiff, mw_at hWE, Int.lt_irrefl, wr_n]
    · have := q6 m g1 g2 g3
      rw [show (nw_ v m).toNat = t by omega] at this
      exact this
    · rcases q7 with e | ⟨m, m1, m2, m3, m4⟩
      · exact Or.inl (by rw [hB1]; exact e)
      · have hw := nb_w hN (n := m) (by omega)
        exact Or.inr ⟨(nw_ v m).toNat, by omega, by have := m3.1; omega, ⟨m, by omega, m2, m3, by omega⟩, m4⟩
theorem m_cuts (hW : Mw B v) (hN : Nb_ v) (hC : Cb_ v c) (hU : Ub_ v us) : ∃ B', f_X12_cuts SH0_ B 592 c = some B' ∧ (∀ a, a ≠ 601 → a ≠ 602 → B' a = B a) ∧ CO_ (Gn_ v c us) (vz_ v c).toNat (B' 601) ∧ ∀ i : Nat, (i : Int) < vz_ v c → ∃ s, PT_ v c us (v 1063).toNat (B' 601) i (B' 602 i) s := by
  have b6 := hW.2.2
  have bz := hC.2.1
  have hc := hC.1
  have hW1 : Mw (st_m B 601 (vz_ v c).toNat 0) v := ⟨by rw [st_o2 (by decide)]; exact hW.1, hW.2⟩
  unfold f_X12_cuts
  simp (disch := omega) only [↓bqr_C, ↓bqr_D, ↓bqr_N2, ↓bqr_N3, ↓bqr_O, ↓bqr_Q, ↓bqr_W, ↓bqr_S1, ↓bqr_S4, ↓bqr_T2, ↓bqr_T3, ↓bqr_F, ↓bqr_H, ↓bqa_C, ↓bqa_N, ↓bqa_U, ↓bqa_Y, ↓bqa_W, ↓bqa_S, ↓bqgkC_1, ↓bqgkC_2, ↓bqgkC_3, ↓bqgkC_4, ↓bqgkC_5, ↓bqgkC_6, ↓bqgkD_1, ↓bqgkN_0, ↓bqgkN_1, ↓bqgkO_1, ↓bqgkQ_1, ↓bqgkW_1, ↓bqgkS_0, ↓bqgkS_2, ↓bqgkS_3, ↓bqgkT_0, ↓bqgkT_1, ↓bqgkF_1, ↓bqgkH_1, ↓bqgkU_0, ↓bqgkU_1, ↓bqgkU_2, ↓bqgkU_3, ↓bqgkU_4, ↓bqgkY_0, ↓bqgkY_1, ↓bqgkY_2, ↓bqikE_, ↓bqikP_, ↓bqikR_, ↓bqikX_, ↓bqikG_, ↓bqikI_, ↓bqikJ_, ↓bqvkC_, ↓bqvkD_, ↓bqvkN_, ↓bqvkO_, ↓bqvkQ_, ↓bqvkU_, ↓bqvkY_, ↓bqvkW_, ↓bqvkS_, ↓bqvkT_, ↓bqvkF_, ↓bqvkH_, ↓bqr_0_0, ↓bqr_0_1, ↓bqr_0_3, ↓bqr_0_4, ↓bqr_0_5, ↓bqr_0_6, ↓bqr_0_7, ↓bqr_0_8, ↓bqr_1_0, ↓bqr_1_1, ↓bqr_1_2, ↓bqr_1_3, ↓bqr_1_5, ↓bqr_1_8, ↓bqr_1_10, ↓bqr_1_12, ↓bqr_1_13, ↓bqr_518_0, ↓bqr_518_1, ↓bqr_518_2, ↓bqr_518_6, ↓bqr_518_7, ↓bqr_524_0, ↓bqr_524_2, ↓bqr_524_4, ↓bqr_528_0, ↓bqr_528_1, ↓bqr_531_0, ↓bqr_531_1, ↓bqr_531_3, ↓bqr_592_0, ↓bqr_592_1, ↓bqr_592_2, ↓bqr_592_3, ↓bqr_592_4, ↓bqr_592_5, ↓bqr_592_6, ↓bqr_592_7, ↓bqr_592_11, ↓bqr_592_12, ↓bqr_592_13, ↓bqr_592_17, ↓bqr_592_18, ↓bqr_592_19, ↓bqr_592_23, ↓bqr_592_26, ↓bqr_592_27, ↓bqr_592_28, ↓bqg_0_2, ↓bqg_1_4, ↓bqg_1_6, ↓bqg_1_7, ↓bqg_1_9, ↓bqg_1_11, ↓bqg_1_14, ↓bqg_518_3, ↓bqg_518_4, ↓bqg_518_5, ↓bqg_518_8, ↓bqg_518_9, ↓bqg_524_1, ↓bqg_524_3, ↓bqg_528_2, ↓bqg_528_3, ↓bqg_531_2, ↓bqg_535_0, ↓bqg_535_1, ↓bqg_535_2, ↓bqg_535_3, ↓bqg_535_4, ↓bqg_592_8, ↓bqg_592_9, ↓bqg_592_10, ↓bqg_592_14, ↓bqg_592_15, ↓bqg_592_16, ↓bqg_592_20, ↓bqg_592_21, ↓bqg_592_22, ↓bqg_592_24, ↓bqg_592_25, ↓bqg_592_29, ↓bqg_592_30, ↓bqg_592_31, ↓bqg_592_32, ↓bqv_0, ↓bqv_1, ↓bqv_259, ↓bqv_518, ↓bqv_524, ↓bqv_528, ↓bqv_531, ↓bqv_535, ↓bqv_592, ↓bqi_2, ↓bqi_3, ↓bqi_4, ↓bqi_10, ↓bqi_519, ↓bqi_520, ↓bqi_521, ↓bqi_522, ↓bqi_523, ↓bqi_525, ↓bqi_526, ↓bqi_527, ↓bqi_529, ↓bqi_530, ↓bqi_532, ↓bqi_533, ↓bqi_534, ↓bqi_593, ↓bqi_594, ↓bqi_595, ↓bqi_596, ↓bqi_597, ↓bqi_598, ↓bqi_599, ↓bqi_600, ↓bqi_601, ↓bqi_602, ↓bqi_603, ↓bqi_604, ↓bqi_605, ↓bqi_606, ↓bqi_608, ↓bqi_609, ↓bqi_610, ↓bqz_607, ↓bqpkC_1, ↓bqpkC_2, ↓bqpkC_3, ↓bqpkC_4, ↓bqpkC_5, ↓bqpkC_6, ↓bqpkD_1, ↓bqpkN_0, ↓bqpkN_1, ↓bqpkO_1, ↓bqpkQ_1, ↓bqpkW_1, ↓bqpkS_0, ↓bqpkS_2, ↓bqpkS_3, ↓bqpkT_0, ↓bqpkT_1, ↓bqpkF_1, ↓bqpkH_1, ↓bqpkU_0, ↓bqpkU_1, ↓bqpkU_2, ↓bqpkU_3, ↓bqpkU_4, ↓bqpkY_0, ↓bqpkY_1, ↓bqpkY_2, ↓bqskE_, ↓bqskP_, ↓bqskR_, ↓bqskX_, ↓bqskG_, ↓bqskI_, ↓bqskJ_, ↓bqp_0_2, ↓bqp_1_4, ↓bqp_1_6, ↓bqp_1_7, ↓bqp_1_9, ↓bqp_1_11, ↓bqp_1_14, ↓bqp_518_3, ↓bqp_518_4, ↓bqp_518_5, ↓bqp_518_8, ↓bqp_518_9, ↓bqp_524_1, ↓bqp_524_3, ↓bqp_528_2, ↓bqp_528_3, ↓bqp_531_2, ↓bqp_535_0, ↓bqp_535_1, ↓bqp_535_2, ↓bqp_535_3, ↓bqp_535_4, ↓bqp_592_8, ↓bqp_592_9, ↓bqp_592_10, ↓bqp_592_14, ↓bqp_592_15, ↓bqp_592_16, ↓bqp_592_20, ↓bqp_592_21, ↓bqp_592_22, ↓bqp_592_24, ↓bqp_592_25, ↓bqp_592_29, ↓bqp_592_30, ↓bqp_592_31, ↓bqp_592_32, ↓bqs_2, ↓bqs_3, ↓bqs_4, ↓bqs_10, ↓bqs_519, ↓bqs_520, ↓bqs_521, ↓bqs_522, ↓bqs_523, ↓bqs_525, ↓bqs_526, ↓bqs_527, ↓bqs_529, ↓bqs_530, ↓bqs_532, ↓bqs_533, ↓bqs_534, ↓bqs_593, ↓bqs_594, ↓bqs_595, ↓bqs_596, ↓bqs_597, ↓bqs_598, ↓bqs_599, ↓bqs_600, ↓bqs_601, ↓bqs_602, ↓bqs_603, ↓bqs_604, ↓bqs_605, ↓bqs_606, ↓bqs_608, ↓bqs_609, ↓bqs_610, ↓bqt_607, ↓bm_of0 hW, ↓bm_of0 hW1, wr_n]
  refine lp_mu (A := Mem_m × Int) (fun n a => f_X12_cuts_21 SH0_ 592 c n a.1 a.2) (fun a => -1 ≤ a.2 ∧ a.2 < vz_ v c ∧ (∀ b, b ≠ 601 → b ≠ 602 → a.1 b = B b) ∧ a.1 601 (vz_ v c).toNat = 0 ∧ (∀ i : Nat, a.2 < i → i ≤ (vz_ v c).toNat → Cd_ (vz_ v c).toNat (a.1 601) i) ∧ ∀ i : Nat, a.2 < i → i < (vz_ v c).toNat → Lc_ (Gn_ v c us) (vz_ v c).toNat (a.1 601) i ∧ ∃ s, PT_ v c us (v 1063).toNat (a.1 601) i (a.1 602 i) s) (fun a => (a.2 + 1).toNat) (fun o => ∃ B', o = some B' ∧ (∀ a, a ≠ 601 → a ≠ 602 → B' a = B a) ∧ CO_ (Gn_ v c us) (vz_ v c).toNat (B' 601) ∧ ∀ i : Nat, (i : Int) < vz_ v c → ∃ s, PT_ v c us (v 1063).toNat (B' 601) i (B' 602 i) s) ?_ FU_ (st_m B 601 (vz_ v c).toNat 0, vz_ v c - 1) (by show (vz_ v c - 1 + 1).toNat < FU_; unfold FU_; omega) ⟨by show -1 ≤ vz_ v c - 1; omega, by show vz_ v c - 1 < vz_ v c; omega, fun b hb _ => st_o2 hb, (show st_m B 601 (vz_ v c).toNat 0 601 (vz_ v c).toNat = 0 from st_e), fun i h1 h2 => ?_, fun i h1 h2 => ?_⟩
  · intro n a ⟨q1, q2, q3, q4, q5, q6⟩
    obtain ⟨C, x⟩ := a
    dsimp only at q1 q2 q3 q4 q5 q6
    by_cases hx : x < 0
    · refine Or.inr ⟨C, ?_, q3, ⟨q4, fun i hi => (q6 i (by omega) hi).1⟩, fun i hi => (q6 i (by omega) (by omega)).2⟩
      show f_X12_cuts_21 SH0_ 592 c (n + 1) C x = _
      rw [f_X12_cuts_21, if_pos hx]
    · obtain ⟨p, rfl⟩ := int_nat (show 0 ≤ x by omega)
      have b1 := q5 (p + 1) (by omega) (by omega)
      have b1' : 0 ≤ C 601 (p + 1) ∧ C 601 (p + 1) ≤ 100 := by have := b1.1; have := b1.2; omega
      have e1 : ((p : Int) + 1).toNat = p + 1 := by omega
      have ep : ((p : Int)).toNat = p := by omega
      have bs := hC.2.2 p (by omega) q2
      have hWC : Mw (st_m C 601 p (5 + C 601 (p + 1))) v := ⟨by rw [st_o2 (by decide), q3 593 (by decide) (by decide)]; exact hW.1, hW.2⟩
      have eof : f_X12_of SH0_ (st_m C 601 p (5 + C 601 (p + 1))) 592 c (1 + (p : Int)) = some (vs_ v c p) := m_ofs hWC hc.1 hc.2 (by omega) (by omega)
      have hWD : Mw (st_m (st_m C 601 p (5 + C 601 (p + 1))) 602 p (100 + vs_ v c p)) v := ⟨by rw [st_o2 (by decide)]; exact hWC.1, hW.2⟩
      have hD : ∀ j, j ≠ p → st_m (st_m C 601 p (5 + C 601 (p + 1))) 602 p (100 + vs_ v c p) 601 j = C 601 j ∧ st_m (st_m C 601 p (5 + C 601 (p + 1))) 602 p (100 + vs_ v c p) 602 j = C 602 j := fun j hj => ⟨by rw [st_o2 (by decide), st_k hj], by rw [st_k hj, st_o2 (by decide)]⟩
      obtain ⟨E, s, w1, w2, w3, w4, w5⟩ := m_cut63 (k21 := fun M x2 => f_X12_cuts_21 SH0_ 592 c n M x2) hWD hN hC hU q2 (fun i i1 i2 => by unfold Cd_; rw [(hD i (by omega)).1]; exact q5 i (by omega) i2) (by rw [(hD (p + 1) (by omega)).1, st_o2 (by decide), st_e]; omega) (by rw [st_e])
      have hE : ∀ j, j ≠ p → E 601 j = C 601 j ∧ E 602 j = C 602 j := fun j hj => ⟨(w3 j hj).1.trans (hD j hj).1, (w3 j hj).2.trans (hD j hj).2⟩
      have hcd : ∀ i : Nat, (p : Int) < i → i ≤ (vz_ v c).toNat → Cd_ (vz_ v c).toNat (E 601) i := fun i i1 i2 => by unfold Cd_; rw [(hE i (by omega)).1]; exact q5 i i1 i2
      refine Or.inl ⟨(E, (p : Int) + -1), ?_, ⟨by show -1 ≤ (p : Int) + -1; omega, by show (p : Int) + -1 < vz_ v c; omega, fun b hb hb' => (((w2 b hb hb').trans (st_o2 hb')).trans (st_o2 hb)).trans (q3 b hb hb'), by show E 601 (vz_ v c).toNat = 0; rw [(hE _ (by omega)).1]; exact q4, fun i i1 i2 => ?_, fun i i1 i2 => ?_⟩, by show ((p : Int) + -1 + 1).toNat < ((p : Int) + 1).toNat; omega⟩
      · show f_X12_cuts_21 SH0_ 592 c (n + 1) C (p : Int) = f_X12_cuts_21 SH0_ 592 c n E ((p : Int) + -1)
        rw [← w1, f_X12_cuts_21]
        simp (disch := omega) only [↓bqr_C, ↓bqr_D, ↓bqr_N2, ↓bqr_N3, ↓bqr_O, ↓bqr_Q, ↓bqr_W, ↓bqr_S1, ↓bqr_S4, ↓bqr_T2, ↓bqr_T3, ↓bqr_F, ↓bqr_H, ↓bqa_C, ↓bqa_N, ↓bqa_U, ↓bqa_Y, ↓bqa_W, ↓bqa_S, ↓bqgkC_1, ↓bqgkC_2, ↓bqgkC_3, ↓bqgkC_4, ↓bqgkC_5, ↓bqgkC_6, ↓bqgkD_1, ↓bqgkN_0, ↓bqgkN_1, ↓bqgkO_1, ↓bqgkQ_1, ↓bqgkW_1, ↓bqgkS_0, ↓bqgkS_2, ↓bqgkS_3, ↓bqgkT_0, ↓bqgkT_1, ↓bqgkF_1, ↓bqgkH_1, ↓bqgkU_0, ↓bqgkU_1, ↓bqgkU_2, ↓bqgkU_3, ↓bqgkU_4, ↓bqgkY_0, ↓bqgkY_1, ↓bqgkY_2, ↓bqikE_, ↓bqikP_, ↓bqikR_, ↓bqikX_, ↓bqikG_, ↓bqikI_, ↓bqikJ_, ↓bqvkC_, ↓bqvkD_, ↓bqvkN_, ↓bqvkO_, ↓bqvkQ_, ↓bqvkU_, ↓bqvkY_, ↓bqvkW_, ↓bqvkS_, ↓bqvkT_, ↓bqvkF_, ↓bqvkH_, ↓bqr_0_0, ↓bqr_0_1, ↓bqr_0_3, ↓bqr_0_4, ↓bqr_0_5, ↓bqr_0_6, ↓bqr_0_7, ↓bqr_0_8, ↓bqr_1_0, ↓bqr_1_1, ↓bqr_1_2, ↓bqr_1_3, ↓bqr_1_5, ↓bqr_1_8, ↓bqr_1_10, ↓bqr_1_12, ↓bqr_1_13, ↓bqr_518_0, ↓bqr_518_1, ↓bqr_518_2, ↓bqr_518_6, ↓bqr_518_7, ↓bqr_524_0, ↓bqr_524_2, ↓bqr_524_4, ↓bqr_528_0, ↓bqr_528_1, ↓bqr_531_0, ↓bqr_531_1, ↓bqr_531_3, ↓bqr_592_0, ↓bqr_592_1, ↓bqr_592_2, ↓bqr_592_3, ↓bqr_592_4, ↓bqr_592_5, ↓bqr_592_6, ↓bqr_592_7, ↓bqr_592_11, ↓bqr_592_12, ↓bqr_592_13, ↓bqr_592_17, ↓bqr_592_18, ↓bqr_592_19, ↓bqr_592_23, ↓bqr_592_26, ↓bqr_592_27, ↓bqr_592_28, ↓bqg_0_2, ↓bqg_1_4, ↓bqg_1_6, ↓bqg_1_7, ↓bqg_1_9, ↓bqg_1_11, ↓bqg_1_14, ↓bqg_518_3, ↓bqg_518_4, ↓bqg_518_5, ↓bqg_518_8, ↓bqg_518_9, ↓bqg_524_1, ↓bqg_524_3, ↓bqg_528_2, ↓bqg_528_3, ↓bqg_531_2, ↓bqg_535_0, ↓bqg_535_1, ↓bqg_535_2, ↓bqg_535_3, ↓bqg_535_4, ↓bqg_592_8, ↓bqg_592_9, ↓bqg_592_10, ↓bqg_592_14, ↓bqg_592_15, ↓bqg_592_16, ↓bqg_592_20, ↓bqg_592_21, ↓bqg_592_22, ↓bqg_592_24, ↓bqg_592_25, ↓bqg_592_29, ↓bqg_592_30, ↓bqg_592_31, ↓bqg_592_32, ↓bqv_0, ↓bqv_1, ↓bqv_259, ↓bqv_518, ↓bqv_524, ↓bqv_528, ↓bqv_531, ↓bqv_535, ↓bqv_592, ↓bqi_2, ↓bqi_3, ↓bqi_4, ↓bqi_10, ↓bqi_519, ↓bqi_520, ↓bqi_521, ↓bqi_522, ↓bqi_523, ↓bqi_525, ↓bqi_526, ↓bqi_527, ↓bqi_529, ↓bqi_530, ↓bqi_532, ↓bqi_533, ↓bqi_534, ↓bqi_593, ↓bqi_594, ↓bqi_595, ↓bqi_596, ↓bqi_597, ↓bqi_598, ↓bqi_599, ↓bqi_600, ↓bqi_601, ↓bqi_602, ↓bqi_603, ↓bqi_604, ↓bqi_605, ↓bqi_606, ↓bqi_608, ↓bqi_609, ↓bqi_610, ↓bqz_607, ↓bqpkC_1, ↓bqpkC_2, ↓bqpkC_3, ↓bqpkC_4, ↓bqpkC_5, ↓bqpkC_6, ↓bqpkD_1, ↓bqpkN_0, ↓bqpkN_1, ↓bqpkO_1, ↓bqpkQ_1, ↓bqpkW_1, ↓bqpkS_0, ↓bqpkS_2, ↓bqpkS_3, ↓bqpkT_0, ↓bqpkT_1, ↓bqpkF_1, ↓bqpkH_1, ↓bqpkU_0, ↓bqpkU_1, ↓bqpkU_2, ↓bqpkU_3, ↓bqpkU_4, ↓bqpkY_0, ↓bqpkY_1, ↓bqpkY_2, ↓bqskE_, ↓bqskP_, ↓bqskR_, ↓bqskX_, ↓bqskG_, ↓bqskI_, ↓bqskJ_, ↓bqp_0_2, ↓bqp_1_4, ↓bqp_1_6, ↓bqp_1_7, ↓bqp_1_9, ↓bqp_1_11, ↓bqp_1_14, ↓bqp_518_3, ↓bqp_518_4, ↓bqp_518_5, ↓bqp_518_8, ↓bqp_518_9, ↓bqp_524_1, ↓bqp_524_3, ↓bqp_528_2, ↓bqp_528_3, ↓bqp_531_2, ↓bqp_535_0, ↓bqp_535_1, ↓bqp_535_2, ↓bqp_535_3, ↓bqp_535_4, ↓bqp_592_8, ↓bqp_592_9, ↓bqp_592_10, ↓bqp_592_14, ↓bqp_592_15, ↓bqp_592_16, ↓bqp_592_20, ↓bqp_592_21, ↓bqp_592_22, ↓bqp_592_24, ↓bqp_592_25, ↓bqp_592_29, ↓bqp_592_30, ↓bqp_592_31, ↓bqp_592_32, ↓bqs_2, ↓bqs_3, ↓bqs_4, ↓bqs_10, ↓bqs_519, ↓bqs_520, ↓bqs_521, ↓bqs_522, ↓bqs_523, ↓bqs_525, ↓bqs_526, ↓bqs_527, ↓bqs_529, ↓bqs_530, ↓bqs_532, ↓bqs_533, ↓bqs_534, ↓bqs_593, ↓bqs_594, ↓bqs_595, ↓bqs_596, ↓bqs_597, ↓bqs_598, ↓bqs_599, ↓bqs_600, ↓bqs_601, ↓bqs_602, ↓bqs_603, ↓bqs_604, ↓bqs_605, ↓bqs_606, ↓bqs_608, ↓bqs_609, ↓bqs_610, ↓bqt_607, ↓Option.bind_some, ↓bc_isIn, ↓bm_isIn, ↓bm_isShelf, i01, i10, j01, if_true, if_false, not_true_eq_false, not_false_eq_true, and_true, true_and, and_self, false_and, and_false, ↓reduceIte, Int.reduceEq, Int.reduceLT, Int.reduceLE, Int.reduceNeg, Int.reduceAdd, Int.reduceSub, Int.reduceMul, Int.reduceNe, Int.reduceToNat, Nat.reduceAdd, Nat.reduceMul, Nat.reduceEqDiff, hx, wr_n, e1, ep, ↓bnd eof]
      · have i1' : (p : Int) + -1 < i := i1
        show Cd_ (vz_ v c).toNat (E 601) i
        by_cases e : i = p
        · subst e
          exact Lc_bd (by omega) (fun j j1 j2 => hcd j (by omega) j2) w4
        · exact hcd i (by omega) i2
      · have i1' : (p : Int) + -1 < i := i1
        show Lc_ (Gn_ v c us) (vz_ v c).toNat (E 601) i ∧ ∃ s, PT_ v c us (v 1063).toNat (E 601) i (E 602 i) s
        by_cases e : i = p
        · subst e; exact ⟨w4, s, w5⟩
        · obtain ⟨r1, t, r2⟩ := q6 i (by omega) i2
          refine ⟨Lc_tr i2 (fun j j1 j2 => (hE j (by omega)).1) r1, t, ?_⟩
          rw [(hE i e).2]
          exact PT_tr (fun j j1 j2 => (hE j (by omega)).1) r2
  · have h1' : vz_ v c - 1 < i := h1
    have ei : i = (vz_ v c).toNat := by omega
    subst ei
    show Cd_ (vz_ v c).toNat (st_m B 601 (vz_ v c).toNat 0 601) (vz_ v c).toNat
    unfold Cd_
    rw [st_e]; omega
  · have h1' : vz_ v c - 1 < i := h1
    omega
end
